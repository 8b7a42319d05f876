/-! ===== the prover of the class ===== -/
def gg_nf (g8 g4 : Nat → Int32) (X : Nat) (v : Int32) (p : Nat) : Nat → Int32 := fun q => if q < p ∧ X.testBit q = true then v + g4 q else g8 q
theorem gg_nf_t {g8 g4 : Nat → Int32} {X : Nat} {v : Int32} {p : Nat} (hb : X.testBit p = true) : upd (gg_nf g8 g4 X v p) p (v + g4 p) = gg_nf g8 g4 X v (p + 1) := by
  funext q
  unfold upd gg_nf
  by_cases hq : q = p
  · subst hq
    simp [hb]
  · have : (q < p + 1) ↔ q < p := by omega
    simp [hq, this]
theorem gg_nf_f {g8 g4 : Nat → Int32} {X : Nat} {v : Int32} {p : Nat} (hb : ¬ X.testBit p = true) : gg_nf g8 g4 X v (p + 1) = gg_nf g8 g4 X v p := by
  funext q
  unfold gg_nf
  by_cases hq : q = p
  · subst hq
    simp [hb]
  · have : (q < p + 1) ↔ q < p := by omega
    simp [this]
set_option maxRecDepth 20000 in
theorem t_numberFrom_loop {l : Launch} {d : Nat} {E : mm_X} {h : mm_H} {n : Nat} {A mk : Nat → Nat} (hN : cc_N h n A mk) {X : Nat} (hX : X < 256) {v : Int32} : ∀ (k p : Nat), p + k = n → mm_At l d M3_numberFrom E (fun r h' => r = none ∧ h' = mm_setA h 8 (gg_nf (h 8) (h 4) X v n)) 2 [some (.ref 7), some (.int (nI X)), some (.int v), some (.int (nI p))] [] (mm_setA h 8 (gg_nf (h 8) (h 4) X v p)) := by
  obtain ⟨n1, n8, hn, hA, hm, hA8, hm4⟩ := hN
  intro k
  induction k with
  | zero =>
    intro p hp
    have e : p = n := by omega
    subst e
    refine mm_rn_ok [] _ (S3_numberFrom l d _ _) 1000 _ _ _ _ ?_
    simp only [G3_numberFrom_0, G3_numberFrom_1, G3_numberFrom_2, G3_numberFrom_3, G3_numberFrom_4, G3_numberFrom_7, G3_numberFrom_10, G3_numberFrom_13, G3_numberFrom_14, G3_numberFrom_15, G3_numberFrom_16, G3_numberFrom_17, G3_numberFrom_18, G3_numberFrom_19, G3_numberFrom_22, G3_numberFrom_23, G3_numberFrom_26, G3_numberFrom_27, G3_numberFrom_28, G3_numberFrom_29, G3_numberFrom_32, G3_numberFrom_35, G3_numberFrom_36, G3_numberFrom_37, G3_numberFrom_38, G3_numberFrom_39, G3_numberFrom_42, G3_numberFrom_45, N3_numberFrom, ↓mm_kc_ap, ↓mm_cut, mm_en, mm_nth, mm_put, mm_sto, mm_stoL, mm_ag, mm_dr, mm_sw, Nat.reduceSub, List.replicate, Option.toList, List.cons_append, List.nil_append, sq_int, sq_lng, sq_iload, sq_lload, sq_aload, sq_istore, sq_lstore, sq_astore, sq_iinc, sq_iadd, sq_isub, sq_imul, sq_iand, sq_ior, sq_ixor, sq_ishl, sq_ishr, sq_iushr, sq_ladd, sq_lsub, sq_lmul, sq_idiv, sq_irem, sq_ldiv, sq_lrem, sq_i2l, sq_lcmp, sq_dupI, sq_dupR, sq_pop, sq_dup2, sq_goto, sq_if_eq, sq_icmp_eq, sq_if_ne, sq_icmp_ne, sq_if_lt, sq_icmp_lt, sq_if_ge, sq_icmp_ge, sq_if_gt, sq_icmp_gt, sq_if_le, sq_icmp_le, sq_iaload, sq_iastore, sq_alen, sq_places, sq_getI, sq_getR, sq_put, sq_ret, sq_lret, sq_vret, sq_switch, sq_callS, sq_callV, sq_copy, sq_max, sq_min, mm_len_2, mm_len_3, mm_len_4, mm_len_6, mm_len_8, mm_len_10, mm_len_11, mm_len_12, mm_len_13, mm_len_14, mm_len_15, mm_len_17, mm_len_18, mm_len_19, mm_len_20, mm_len_21, mm_len_22, mm_len_23, mm_len_24, mm_len_25]
    try simp only [eq_self, true_and, and_true, Bool.false_eq_true, false_implies, true_implies, true_or, or_true, mm_numI, mm_numL, mm_numN, pp_i10, pp_i01, pp_im1, not_false_eq_true, not_true_eq_false, false_or, or_false]
    rw [mm_setA_ne (by decide), hn]
    exact ⟨fun _ => trivial, fun hc => absurd (nI_le (Nat.le_refl p) (by omega)) hc⟩
  | succ k ih =>
    intro p hp
    have ih := ih (p + 1) (by omega)
    refine mm_rn_ok [] _ (S3_numberFrom l d _ _) 1000 _ _ _ _ ?_
    simp only [G3_numberFrom_0, G3_numberFrom_1, G3_numberFrom_2, G3_numberFrom_3, G3_numberFrom_4, G3_numberFrom_7, G3_numberFrom_10, G3_numberFrom_13, G3_numberFrom_14, G3_numberFrom_15, G3_numberFrom_16, G3_numberFrom_17, G3_numberFrom_18, G3_numberFrom_19, G3_numberFrom_22, G3_numberFrom_23, G3_numberFrom_26, G3_numberFrom_27, G3_numberFrom_28, G3_numberFrom_29, G3_numberFrom_32, G3_numberFrom_35, G3_numberFrom_36, G3_numberFrom_37, G3_numberFrom_38, G3_numberFrom_39, G3_numberFrom_42, G3_numberFrom_45, N3_numberFrom, ↓mm_kc_ap, ↓mm_cut, mm_en, mm_nth, mm_put, mm_sto, mm_stoL, mm_ag, mm_dr, mm_sw, Nat.reduceSub, List.replicate, Option.toList, List.cons_append, List.nil_append, sq_int, sq_lng, sq_iload, sq_lload, sq_aload, sq_istore, sq_lstore, sq_astore, sq_iinc, sq_iadd, sq_isub, sq_imul, sq_iand, sq_ior, sq_ixor, sq_ishl, sq_ishr, sq_iushr, sq_ladd, sq_lsub, sq_lmul, sq_idiv, sq_irem, sq_ldiv, sq_lrem, sq_i2l, sq_lcmp, sq_dupI, sq_dupR, sq_pop, sq_dup2, sq_goto, sq_if_eq, sq_icmp_eq, sq_if_ne, sq_icmp_ne, sq_if_lt, sq_icmp_lt, sq_if_ge, sq_icmp_ge, sq_if_gt, sq_icmp_gt, sq_if_le, sq_icmp_le, sq_iaload, sq_iastore, sq_alen, sq_places, sq_getI, sq_getR, sq_put, sq_ret, sq_lret, sq_vret, sq_switch, sq_callS, sq_callV, sq_copy, sq_max, sq_min, mm_len_2, mm_len_3, mm_len_4, mm_len_6, mm_len_8, mm_len_10, mm_len_11, mm_len_12, mm_len_13, mm_len_14, mm_len_15, mm_len_17, mm_len_18, mm_len_19, mm_len_20, mm_len_21, mm_len_22, mm_len_23, mm_len_24, mm_len_25]
    try simp only [eq_self, true_and, and_true, Bool.false_eq_true, false_implies, true_implies, true_or, or_true, mm_numI, mm_numL, mm_numN, pp_i10, pp_i01, pp_im1, not_false_eq_true, not_true_eq_false, false_or, or_false]
    rw [mm_setA_ne (by decide), mm_setA_ne (show (4 : Nat) ≠ 8 by decide), hn, nI_clamp (show p < 2 ^ 31 by omega), pp_bit1 (Nat.lt_trans hX (by decide)) (by omega), nI_1, mm_set_setA]
    refine ⟨fun hc => absurd hc (nI_ge (by omega) (by omega)), fun _ => ⟨fun hb => ?_, fun hb => ⟨vp_in_nI (by omega) (by decide), by decide, vp_in_nI (by omega) (by decide), ?_⟩⟩⟩
    · rw [gg_nf_f hb] at ih
      exact ih
    · rw [gg_nf_t hb]
      exact ih
set_option maxRecDepth 20000 in
theorem t_numberFrom {l : Launch} {d : Nat} {h : mm_H} {n : Nat} {A mk : Nat → Nat} (hN : cc_N h n A mk) {X : Nat} (hX : X < 256) (v : Int32) : mm_Ev l d M3_numberFrom [.ref 7, .int (nI X), .int v] h (fun r h' => r = none ∧ h' = mm_setA h 8 (gg_nf (h 8) (h 4) X v n)) := by
  refine mm_Ev.of (by decide +kernel) (Nat.le_of_ble_eq_true rfl) (mm_rn_ok [2] _ (S3_numberFrom l d _ _) 1000 _ _ _ _ ?_)
  simp only [G3_numberFrom_0, G3_numberFrom_1, G3_numberFrom_2, G3_numberFrom_3, G3_numberFrom_4, G3_numberFrom_7, G3_numberFrom_10, G3_numberFrom_13, G3_numberFrom_14, G3_numberFrom_15, G3_numberFrom_16, G3_numberFrom_17, G3_numberFrom_18, G3_numberFrom_19, G3_numberFrom_22, G3_numberFrom_23, G3_numberFrom_26, G3_numberFrom_27, G3_numberFrom_28, G3_numberFrom_29, G3_numberFrom_32, G3_numberFrom_35, G3_numberFrom_36, G3_numberFrom_37, G3_numberFrom_38, G3_numberFrom_39, G3_numberFrom_42, G3_numberFrom_45, N3_numberFrom, ↓mm_kc_ap, ↓mm_cut, mm_en, mm_nth, mm_put, mm_sto, mm_stoL, mm_ag, mm_dr, mm_sw, Nat.reduceSub, List.replicate, Option.toList, List.cons_append, List.nil_append, sq_int, sq_lng, sq_iload, sq_lload, sq_aload, sq_istore, sq_lstore, sq_astore, sq_iinc, sq_iadd, sq_isub, sq_imul, sq_iand, sq_ior, sq_ixor, sq_ishl, sq_ishr, sq_iushr, sq_ladd, sq_lsub, sq_lmul, sq_idiv, sq_irem, sq_ldiv, sq_lrem, sq_i2l, sq_lcmp, sq_dupI, sq_dupR, sq_pop, sq_dup2, sq_goto, sq_if_eq, sq_icmp_eq, sq_if_ne, sq_icmp_ne, sq_if_lt, sq_icmp_lt, sq_if_ge, sq_icmp_ge, sq_if_gt, sq_icmp_gt, sq_if_le, sq_icmp_le, sq_iaload, sq_iastore, sq_alen, sq_places, sq_getI, sq_getR, sq_put, sq_ret, sq_lret, sq_vret, sq_switch, sq_callS, sq_callV, sq_copy, sq_max, sq_min, mm_len_2, mm_len_3, mm_len_4, mm_len_6, mm_len_8, mm_len_10, mm_len_11, mm_len_12, mm_len_13, mm_len_14, mm_len_15, mm_len_17, mm_len_18, mm_len_19, mm_len_20, mm_len_21, mm_len_22, mm_len_23, mm_len_24, mm_len_25]
  try simp only [eq_self, true_and, and_true, Bool.false_eq_true, false_implies, true_implies, true_or, or_true, mm_numI, mm_numL, mm_numN, pp_i10, pp_i01, pp_im1, not_false_eq_true, not_true_eq_false, false_or, or_false]
  have lp := t_numberFrom_loop (l := l) (d := d) (E := fun _ _ _ => True) hN hX (v := v) n 0 (by omega)
  have e : gg_nf (h 8) (h 4) X v 0 = h 8 := by
    funext q
    simp [gg_nf]
  rw [e, mm_setA_id] at lp
  exact lp
def gg_scat (n : Nat) (A mk : Nat → Nat) : Bool := pp_all (jj_good n A mk) n
set_option maxRecDepth 20000 in
theorem t_allScattered_loop {l : Launch} {d : Nat} (hd : 1 < d) {E : mm_X} {h : mm_H} {n : Nat} {A mk : Nat → Nat} (hN : cc_N h n A mk) (hok : jj_ok n A) : ∀ (k p : Nat), p + k = n → pp_all (jj_good n A mk) p = true → mm_At l d M3_allScattered E (fun r h' => r = some (.int (pp_b (gg_scat n A mk))) ∧ h' = h) 2 [some (.ref 7), some (.int (nI p))] [] h := by
  have n8 := hN.2.1
  have hn := hN.2.2.1
  intro k
  induction k with
  | zero =>
    intro p hp hall
    have e : p = n := by omega
    subst e
    refine mm_rn_ok [] _ (S3_allScattered l d _ _) 1000 _ _ _ _ ?_
    simp only [G3_allScattered_0, G3_allScattered_1, G3_allScattered_2, G3_allScattered_3, G3_allScattered_4, G3_allScattered_7, G3_allScattered_10, G3_allScattered_13, G3_allScattered_14, G3_allScattered_17, G3_allScattered_18, G3_allScattered_21, G3_allScattered_24, G3_allScattered_25, G3_allScattered_26, G3_allScattered_29, G3_allScattered_32, G3_allScattered_33, N3_allScattered, ↓mm_kc_ap, ↓mm_cut, mm_en, mm_nth, mm_put, mm_sto, mm_stoL, mm_ag, mm_dr, mm_sw, Nat.reduceSub, List.replicate, Option.toList, List.cons_append, List.nil_append, sq_int, sq_lng, sq_iload, sq_lload, sq_aload, sq_istore, sq_lstore, sq_astore, sq_iinc, sq_iadd, sq_isub, sq_imul, sq_iand, sq_ior, sq_ixor, sq_ishl, sq_ishr, sq_iushr, sq_ladd, sq_lsub, sq_lmul, sq_idiv, sq_irem, sq_ldiv, sq_lrem, sq_i2l, sq_lcmp, sq_dupI, sq_dupR, sq_pop, sq_dup2, sq_goto, sq_if_eq, sq_icmp_eq, sq_if_ne, sq_icmp_ne, sq_if_lt, sq_icmp_lt, sq_if_ge, sq_icmp_ge, sq_if_gt, sq_icmp_gt, sq_if_le, sq_icmp_le, sq_iaload, sq_iastore, sq_alen, sq_places, sq_getI, sq_getR, sq_put, sq_ret, sq_lret, sq_vret, sq_switch, sq_callS, sq_callV, sq_copy, sq_max, sq_min, mm_len_2, mm_len_3, mm_len_4, mm_len_6, mm_len_8, mm_len_10, mm_len_11, mm_len_12, mm_len_13, mm_len_14, mm_len_15, mm_len_17, mm_len_18, mm_len_19, mm_len_20, mm_len_21, mm_len_22, mm_len_23, mm_len_24, mm_len_25]
    try simp only [eq_self, true_and, and_true, Bool.false_eq_true, false_implies, true_implies, true_or, or_true, mm_numI, mm_numL, mm_numN, pp_i10, pp_i01, pp_im1, not_false_eq_true, not_true_eq_false, false_or, or_false]
    rw [hn]
    exact ⟨fun _ => pp_b1 hall, fun hc => absurd (nI_le (Nat.le_refl _) (by omega)) hc⟩
  | succ k ih =>
    intro p hp hall
    refine mm_rn_ok [] _ (S3_allScattered l d _ _) 1000 _ _ _ _ ?_
    simp only [G3_allScattered_0, G3_allScattered_1, G3_allScattered_2, G3_allScattered_3, G3_allScattered_4, G3_allScattered_7, G3_allScattered_10, G3_allScattered_13, G3_allScattered_14, G3_allScattered_17, G3_allScattered_18, G3_allScattered_21, G3_allScattered_24, G3_allScattered_25, G3_allScattered_26, G3_allScattered_29, G3_allScattered_32, G3_allScattered_33, N3_allScattered, ↓mm_kc_ap, ↓mm_cut, mm_en, mm_nth, mm_put, mm_sto, mm_stoL, mm_ag, mm_dr, mm_sw, Nat.reduceSub, List.replicate, Option.toList, List.cons_append, List.nil_append, sq_int, sq_lng, sq_iload, sq_lload, sq_aload, sq_istore, sq_lstore, sq_astore, sq_iinc, sq_iadd, sq_isub, sq_imul, sq_iand, sq_ior, sq_ixor, sq_ishl, sq_ishr, sq_iushr, sq_ladd, sq_lsub, sq_lmul, sq_idiv, sq_irem, sq_ldiv, sq_lrem, sq_i2l, sq_lcmp, sq_dupI, sq_dupR, sq_pop, sq_dup2, sq_goto, sq_if_eq, sq_icmp_eq, sq_if_ne, sq_icmp_ne, sq_if_lt, sq_icmp_lt, sq_if_ge, sq_icmp_ge, sq_if_gt, sq_icmp_gt, sq_if_le, sq_icmp_le, sq_iaload, sq_iastore, sq_alen, sq_places, sq_getI, sq_getR, sq_put, sq_ret, sq_lret, sq_vret, sq_switch, sq_callS, sq_callV, sq_copy, sq_max, sq_min, mm_len_2, mm_len_3, mm_len_4, mm_len_6, mm_len_8, mm_len_10, mm_len_11, mm_len_12, mm_len_13, mm_len_14, mm_len_15, mm_len_17, mm_len_18, mm_len_19, mm_len_20, mm_len_21, mm_len_22, mm_len_23, mm_len_24, mm_len_25]
    try simp only [eq_self, true_and, and_true, Bool.false_eq_true, false_implies, true_implies, true_or, or_true, mm_numI, mm_numL, mm_numN, pp_i10, pp_i01, pp_im1, not_false_eq_true, not_true_eq_false, false_or, or_false]
    rw [hn]
    refine ⟨fun hc => absurd hc (nI_ge (by omega) (by omega)), fun _ => ⟨1, _, hd, t_isScattered (by decide) hN (show p < 8 by omega) (hok p), rfl, rfl, ?_⟩⟩
    rintro _ _ ⟨rfl, rfl⟩
    simp only [G3_allScattered_0, G3_allScattered_1, G3_allScattered_2, G3_allScattered_3, G3_allScattered_4, G3_allScattered_7, G3_allScattered_10, G3_allScattered_13, G3_allScattered_14, G3_allScattered_17, G3_allScattered_18, G3_allScattered_21, G3_allScattered_24, G3_allScattered_25, G3_allScattered_26, G3_allScattered_29, G3_allScattered_32, G3_allScattered_33, N3_allScattered, ↓mm_kc_ap, ↓mm_cut, mm_en, mm_nth, mm_put, mm_sto, mm_stoL, mm_ag, mm_dr, mm_sw, Nat.reduceSub, List.replicate, Option.toList, List.cons_append, List.nil_append, sq_int, sq_lng, sq_iload, sq_lload, sq_aload, sq_istore, sq_lstore, sq_astore, sq_iinc, sq_iadd, sq_isub, sq_imul, sq_iand, sq_ior, sq_ixor, sq_ishl, sq_ishr, sq_iushr, sq_ladd, sq_lsub, sq_lmul, sq_idiv, sq_irem, sq_ldiv, sq_lrem, sq_i2l, sq_lcmp, sq_dupI, sq_dupR, sq_pop, sq_dup2, sq_goto, sq_if_eq, sq_icmp_eq, sq_if_ne, sq_icmp_ne, sq_if_lt, sq_icmp_lt, sq_if_ge, sq_icmp_ge, sq_if_gt, sq_icmp_gt, sq_if_le, sq_icmp_le, sq_iaload, sq_iastore, sq_alen, sq_places, sq_getI, sq_getR, sq_put, sq_ret, sq_lret, sq_vret, sq_switch, sq_callS, sq_callV, sq_copy, sq_max, sq_min, mm_len_2, mm_len_3, mm_len_4, mm_len_6, mm_len_8, mm_len_10, mm_len_11, mm_len_12, mm_len_13, mm_len_14, mm_len_15, mm_len_17, mm_len_18, mm_len_19, mm_len_20, mm_len_21, mm_len_22, mm_len_23, mm_len_24, mm_len_25]
    try simp only [eq_self, true_and, and_true, Bool.false_eq_true, false_implies, true_implies, true_or, or_true, mm_numI, mm_numL, mm_numN, pp_i10, pp_i01, pp_im1, not_false_eq_true, not_true_eq_false, false_or, or_false]
    rw [pp_bne, pp_beq, nI_1]
    refine ⟨fun hb => ih (p + 1) (by omega) ?_, fun hb => pp_b0 ?_⟩
    · show (pp_all (jj_good n A mk) p && jj_good n A mk p) = true
      rw [hall, hb]
      rfl
    · apply Bool.eq_false_iff.mpr
      intro hc
      rw [pp_all_iff.mp hc p (by omega)] at hb
      cases hb
set_option maxRecDepth 20000 in
theorem t_allScattered {l : Launch} {d : Nat} (hd : 1 < d) {h : mm_H} {n : Nat} {A mk : Nat → Nat} (hN : cc_N h n A mk) (hok : jj_ok n A) : mm_Ev l d M3_allScattered [.ref 7] h (fun r h' => r = some (.int (pp_b (gg_scat n A mk))) ∧ h' = h) := by
  refine mm_Ev.of (by decide +kernel) (Nat.le_of_ble_eq_true rfl) (mm_rn_ok [2] _ (S3_allScattered l d _ _) 1000 _ _ _ _ ?_)
  simp only [G3_allScattered_0, G3_allScattered_1, G3_allScattered_2, G3_allScattered_3, G3_allScattered_4, G3_allScattered_7, G3_allScattered_10, G3_allScattered_13, G3_allScattered_14, G3_allScattered_17, G3_allScattered_18, G3_allScattered_21, G3_allScattered_24, G3_allScattered_25, G3_allScattered_26, G3_allScattered_29, G3_allScattered_32, G3_allScattered_33, N3_allScattered, ↓mm_kc_ap, ↓mm_cut, mm_en, mm_nth, mm_put, mm_sto, mm_stoL, mm_ag, mm_dr, mm_sw, Nat.reduceSub, List.replicate, Option.toList, List.cons_append, List.nil_append, sq_int, sq_lng, sq_iload, sq_lload, sq_aload, sq_istore, sq_lstore, sq_astore, sq_iinc, sq_iadd, sq_isub, sq_imul, sq_iand, sq_ior, sq_ixor, sq_ishl, sq_ishr, sq_iushr, sq_ladd, sq_lsub, sq_lmul, sq_idiv, sq_irem, sq_ldiv, sq_lrem, sq_i2l, sq_lcmp, sq_dupI, sq_dupR, sq_pop, sq_dup2, sq_goto, sq_if_eq, sq_icmp_eq, sq_if_ne, sq_icmp_ne, sq_if_lt, sq_icmp_lt, sq_if_ge, sq_icmp_ge, sq_if_gt, sq_icmp_gt, sq_if_le, sq_icmp_le, sq_iaload, sq_iastore, sq_alen, sq_places, sq_getI, sq_getR, sq_put, sq_ret, sq_lret, sq_vret, sq_switch, sq_callS, sq_callV, sq_copy, sq_max, sq_min, mm_len_2, mm_len_3, mm_len_4, mm_len_6, mm_len_8, mm_len_10, mm_len_11, mm_len_12, mm_len_13, mm_len_14, mm_len_15, mm_len_17, mm_len_18, mm_len_19, mm_len_20, mm_len_21, mm_len_22, mm_len_23, mm_len_24, mm_len_25]
  try simp only [eq_self, true_and, and_true, Bool.false_eq_true, false_implies, true_implies, true_or, or_true, mm_numI, mm_numL, mm_numN, pp_i10, pp_i01, pp_im1, not_false_eq_true, not_true_eq_false, false_or, or_false]
  exact t_allScattered_loop hd hN hok n 0 (by omega) rfl
/-! leaders -/
def gg_one (n : Nat) (A mk : Nat → Nat) (p : Nat) : Bool := decide (pp_cnt (gg_ld n A mk p) n = 1)
/-- what is laid for q by the posts ahead of p -/
def gg_ln (n : Nat) (A mk : Nat → Nat) (p q : Nat) : Int32 := if pp_cnt (gg_ld n A mk q) p = 0 then 0 else nI (8 * pp_the (gg_ld n A mk q) p) + gg_o (gg_d n A (pp_the (gg_ld n A mk q) p) (n - 1) q)
def gg_flp (n : Nat) (A mk : Nat → Nat) (h : mm_H) : mm_Po := fun r h' => r = some (.int (pp_b (pp_all (gg_one n A mk) n))) ∧ ∃ g4 g8, h' = mm_setA (mm_setA h 4 g4) 8 g8 ∧ (pp_all (gg_one n A mk) n = true → ∀ q, q < n → g8 q = gg_ln n A mk n q)
theorem gg_pop_ld {n : Nat} {A mk : Nat → Nat} {p : Nat} (n8 : n ≤ 8) : pp_pop (pp_msk (gg_r n A p (n - 1)) n &&& pp_msk (fun q => decide (mk q = 1)) n) = pp_cnt (gg_ld n A mk p) n := by
  have hb : ∀ j, (pp_msk (gg_r n A p (n - 1)) n &&& pp_msk (fun q => decide (mk q = 1)) n).testBit j = (decide (j < n) && gg_ld n A mk p j) := by
    intro j
    rw [Nat.testBit_and, pp_msk_bit, pp_msk_bit]
    unfold gg_ld
    cases decide (j < n) <;> simp
  have := jj_pop (n := n) (A := fun _ => pp_msk (gg_r n A p (n - 1)) n &&& pp_msk (fun q => decide (mk q = 1)) n) (p := 0) n8 (fun _ q hq => by
    rw [hb q, Bool.and_eq_true, decide_eq_true_eq] at hq
    exact hq.1)
  rw [this]
  exact pp_cnt_eq (fun j hj => by rw [hb j, decide_eq_true hj, Bool.true_and])
theorem mm_setA_comm {h : mm_H} {a b : Nat} {f g : Nat → Int32} (hab : a ≠ b) : mm_setA (mm_setA h a f) b g = mm_setA (mm_setA h b g) a f := by
  funext x
  unfold mm_setA
  by_cases h1 : x = a
  · subst h1
    simp [hab]
  · by_cases h2 : x = b
    · subst h2
      simp [Ne.symm hab]
    · simp [h1, h2]
set_option maxHeartbeats 4000000 in
set_option maxRecDepth 20000 in
theorem t_findsLeaders_loop {l : Launch} {d : Nat} (hd : 1 < d) {E : mm_X} {h : mm_H} {n : Nat} {A mk : Nat → Nat} (hN : cc_N h n A mk) (hok : jj_ok n A) (hS : gg_sym A) : ∀ (k p : Nat), p + k = n → pp_all (gg_one n A mk) p = true → ∀ (g4 g8 : Nat → Int32) (x3 : Option Value), (∀ q, q < n → g8 q = gg_ln n A mk p q) → mm_At l d M3_findsLeaders E (gg_flp n A mk h) 10 [some (.ref 7), some (.int (nI (pp_msk (fun q => decide (mk q = 1)) n))), some (.int (nI p)), x3] [] (mm_setA (mm_setA h 4 g4) 8 g8) := by
  have hN' := hN
  obtain ⟨n1, n8, hn, hA, hm, hA8, hm4⟩ := hN
  intro k
  induction k with
  | zero =>
    intro p hp hall g4 g8 x3 hg
    have e : p = n := by omega
    subst e
    refine mm_rn_ok [] _ (S3_findsLeaders l d _ _) 1000 _ _ _ _ ?_
    simp only [G3_findsLeaders_0, G3_findsLeaders_1, G3_findsLeaders_4, G3_findsLeaders_7, G3_findsLeaders_8, G3_findsLeaders_9, G3_findsLeaders_10, G3_findsLeaders_11, G3_findsLeaders_12, G3_findsLeaders_15, G3_findsLeaders_18, G3_findsLeaders_21, G3_findsLeaders_22, G3_findsLeaders_25, G3_findsLeaders_26, G3_findsLeaders_29, G3_findsLeaders_30, G3_findsLeaders_31, G3_findsLeaders_32, G3_findsLeaders_33, G3_findsLeaders_36, G3_findsLeaders_37, G3_findsLeaders_40, G3_findsLeaders_41, G3_findsLeaders_42, G3_findsLeaders_43, G3_findsLeaders_46, G3_findsLeaders_49, G3_findsLeaders_50, G3_findsLeaders_51, G3_findsLeaders_52, G3_findsLeaders_55, G3_findsLeaders_56, G3_findsLeaders_57, G3_findsLeaders_59, G3_findsLeaders_60, G3_findsLeaders_61, G3_findsLeaders_64, G3_findsLeaders_67, G3_findsLeaders_70, G3_findsLeaders_71, N3_findsLeaders, ↓mm_kc_ap, ↓mm_cut, mm_en, mm_nth, mm_put, mm_sto, mm_stoL, mm_ag, mm_dr, mm_sw, Nat.reduceSub, List.replicate, Option.toList, List.cons_append, List.nil_append, sq_int, sq_lng, sq_iload, sq_lload, sq_aload, sq_istore, sq_lstore, sq_astore, sq_iinc, sq_iadd, sq_isub, sq_imul, sq_iand, sq_ior, sq_ixor, sq_ishl, sq_ishr, sq_iushr, sq_ladd, sq_lsub, sq_lmul, sq_idiv, sq_irem, sq_ldiv, sq_lrem, sq_i2l, sq_lcmp, sq_dupI, sq_dupR, sq_pop, sq_dup2, sq_goto, sq_if_eq, sq_icmp_eq, sq_if_ne, sq_icmp_ne, sq_if_lt, sq_icmp_lt, sq_if_ge, sq_icmp_ge, sq_if_gt, sq_icmp_gt, sq_if_le, sq_icmp_le, sq_iaload, sq_iastore, sq_alen, sq_places, sq_getI, sq_getR, sq_put, sq_ret, sq_lret, sq_vret, sq_switch, sq_callS, sq_callV, sq_copy, sq_max, sq_min, mm_len_2, mm_len_3, mm_len_4, mm_len_6, mm_len_8, mm_len_10, mm_len_11, mm_len_12, mm_len_13, mm_len_14, mm_len_15, mm_len_17, mm_len_18, mm_len_19, mm_len_20, mm_len_21, mm_len_22, mm_len_23, mm_len_24, mm_len_25]
    try simp only [eq_self, true_and, and_true, Bool.false_eq_true, false_implies, true_implies, true_or, or_true, mm_numI, mm_numL, mm_numN, pp_i10, pp_i01, pp_im1, not_false_eq_true, not_true_eq_false, false_or, or_false]
    rw [mm_setA_ne (by decide), mm_setA_ne (by decide), hn]
    exact ⟨fun _ => ⟨pp_b1 hall, g4, g8, rfl, fun _ => hg⟩, fun hc => absurd (nI_le (Nat.le_refl _) (by omega)) hc⟩
  | succ k ih =>
    intro p hp hall g4 g8 x3 hg
    refine mm_rn_ok [] _ (S3_findsLeaders l d _ _) 1000 _ _ _ _ ?_
    simp only [G3_findsLeaders_0, G3_findsLeaders_1, G3_findsLeaders_4, G3_findsLeaders_7, G3_findsLeaders_8, G3_findsLeaders_9, G3_findsLeaders_10, G3_findsLeaders_11, G3_findsLeaders_12, G3_findsLeaders_15, G3_findsLeaders_18, G3_findsLeaders_21, G3_findsLeaders_22, G3_findsLeaders_25, G3_findsLeaders_26, G3_findsLeaders_29, G3_findsLeaders_30, G3_findsLeaders_31, G3_findsLeaders_32, G3_findsLeaders_33, G3_findsLeaders_36, G3_findsLeaders_37, G3_findsLeaders_40, G3_findsLeaders_41, G3_findsLeaders_42, G3_findsLeaders_43, G3_findsLeaders_46, G3_findsLeaders_49, G3_findsLeaders_50, G3_findsLeaders_51, G3_findsLeaders_52, G3_findsLeaders_55, G3_findsLeaders_56, G3_findsLeaders_57, G3_findsLeaders_59, G3_findsLeaders_60, G3_findsLeaders_61, G3_findsLeaders_64, G3_findsLeaders_67, G3_findsLeaders_70, G3_findsLeaders_71, N3_findsLeaders, ↓mm_kc_ap, ↓mm_cut, mm_en, mm_nth, mm_put, mm_sto, mm_stoL, mm_ag, mm_dr, mm_sw, Nat.reduceSub, List.replicate, Option.toList, List.cons_append, List.nil_append, sq_int, sq_lng, sq_iload, sq_lload, sq_aload, sq_istore, sq_lstore, sq_astore, sq_iinc, sq_iadd, sq_isub, sq_imul, sq_iand, sq_ior, sq_ixor, sq_ishl, sq_ishr, sq_iushr, sq_ladd, sq_lsub, sq_lmul, sq_idiv, sq_irem, sq_ldiv, sq_lrem, sq_i2l, sq_lcmp, sq_dupI, sq_dupR, sq_pop, sq_dup2, sq_goto, sq_if_eq, sq_icmp_eq, sq_if_ne, sq_icmp_ne, sq_if_lt, sq_icmp_lt, sq_if_ge, sq_icmp_ge, sq_if_gt, sq_icmp_gt, sq_if_le, sq_icmp_le, sq_iaload, sq_iastore, sq_alen, sq_places, sq_getI, sq_getR, sq_put, sq_ret, sq_lret, sq_vret, sq_switch, sq_callS, sq_callV, sq_copy, sq_max, sq_min, mm_len_2, mm_len_3, mm_len_4, mm_len_6, mm_len_8, mm_len_10, mm_len_11, mm_len_12, mm_len_13, mm_len_14, mm_len_15, mm_len_17, mm_len_18, mm_len_19, mm_len_20, mm_len_21, mm_len_22, mm_len_23, mm_len_24, mm_len_25]
    try simp only [eq_self, true_and, and_true, Bool.false_eq_true, false_implies, true_implies, true_or, or_true, mm_numI, mm_numL, mm_numN, pp_i10, pp_i01, pp_im1, not_false_eq_true, not_true_eq_false, false_or, or_false]
    rw [mm_setA_ne (by decide), mm_setA_ne (by decide), hn]
    refine ⟨fun hc => absurd hc (nI_ge (by omega) (by omega)), fun _ => ⟨1, _, hd, t_measure (by decide) ((hN'.sA (by decide) g4).sA (by decide) g8) hok (show p < n by omega), rfl, ?_⟩⟩
    rintro _ _ ⟨rfl, g, rfl, hgd⟩
    rw [mm_setA_comm (show (8 : Nat) ≠ 4 by decide), mm_setA_setA]
    simp only [G3_findsLeaders_0, G3_findsLeaders_1, G3_findsLeaders_4, G3_findsLeaders_7, G3_findsLeaders_8, G3_findsLeaders_9, G3_findsLeaders_10, G3_findsLeaders_11, G3_findsLeaders_12, G3_findsLeaders_15, G3_findsLeaders_18, G3_findsLeaders_21, G3_findsLeaders_22, G3_findsLeaders_25, G3_findsLeaders_26, G3_findsLeaders_29, G3_findsLeaders_30, G3_findsLeaders_31, G3_findsLeaders_32, G3_findsLeaders_33, G3_findsLeaders_36, G3_findsLeaders_37, G3_findsLeaders_40, G3_findsLeaders_41, G3_findsLeaders_42, G3_findsLeaders_43, G3_findsLeaders_46, G3_findsLeaders_49, G3_findsLeaders_50, G3_findsLeaders_51, G3_findsLeaders_52, G3_findsLeaders_55, G3_findsLeaders_56, G3_findsLeaders_57, G3_findsLeaders_59, G3_findsLeaders_60, G3_findsLeaders_61, G3_findsLeaders_64, G3_findsLeaders_67, G3_findsLeaders_70, G3_findsLeaders_71, N3_findsLeaders, ↓mm_kc_ap, ↓mm_cut, mm_en, mm_nth, mm_put, mm_sto, mm_stoL, mm_ag, mm_dr, mm_sw, Nat.reduceSub, List.replicate, Option.toList, List.cons_append, List.nil_append, sq_int, sq_lng, sq_iload, sq_lload, sq_aload, sq_istore, sq_lstore, sq_astore, sq_iinc, sq_iadd, sq_isub, sq_imul, sq_iand, sq_ior, sq_ixor, sq_ishl, sq_ishr, sq_iushr, sq_ladd, sq_lsub, sq_lmul, sq_idiv, sq_irem, sq_ldiv, sq_lrem, sq_i2l, sq_lcmp, sq_dupI, sq_dupR, sq_pop, sq_dup2, sq_goto, sq_if_eq, sq_icmp_eq, sq_if_ne, sq_icmp_ne, sq_if_lt, sq_icmp_lt, sq_if_ge, sq_icmp_ge, sq_if_gt, sq_icmp_gt, sq_if_le, sq_icmp_le, sq_iaload, sq_iastore, sq_alen, sq_places, sq_getI, sq_getR, sq_put, sq_ret, sq_lret, sq_vret, sq_switch, sq_callS, sq_callV, sq_copy, sq_max, sq_min, mm_len_2, mm_len_3, mm_len_4, mm_len_6, mm_len_8, mm_len_10, mm_len_11, mm_len_12, mm_len_13, mm_len_14, mm_len_15, mm_len_17, mm_len_18, mm_len_19, mm_len_20, mm_len_21, mm_len_22, mm_len_23, mm_len_24, mm_len_25]
    try simp only [eq_self, true_and, and_true, Bool.false_eq_true, false_implies, true_implies, true_or, or_true, mm_numI, mm_numL, mm_numN, pp_i10, pp_i01, pp_im1, not_false_eq_true, not_true_eq_false, false_or, or_false]
    rw [pp_and _ _ (Nat.lt_trans (pp_msk_8 n8) (by decide)) (Nat.lt_trans (pp_msk_8 n8) (by decide))]
    refine ⟨0, _, by omega, t_bitCount l 0 _ _ (Nat.lt_of_le_of_lt Nat.and_le_left (pp_msk_8 n8)), rfl, rfl, ?_⟩
    rintro _ _ ⟨rfl, rfl⟩
    simp only [G3_findsLeaders_0, G3_findsLeaders_1, G3_findsLeaders_4, G3_findsLeaders_7, G3_findsLeaders_8, G3_findsLeaders_9, G3_findsLeaders_10, G3_findsLeaders_11, G3_findsLeaders_12, G3_findsLeaders_15, G3_findsLeaders_18, G3_findsLeaders_21, G3_findsLeaders_22, G3_findsLeaders_25, G3_findsLeaders_26, G3_findsLeaders_29, G3_findsLeaders_30, G3_findsLeaders_31, G3_findsLeaders_32, G3_findsLeaders_33, G3_findsLeaders_36, G3_findsLeaders_37, G3_findsLeaders_40, G3_findsLeaders_41, G3_findsLeaders_42, G3_findsLeaders_43, G3_findsLeaders_46, G3_findsLeaders_49, G3_findsLeaders_50, G3_findsLeaders_51, G3_findsLeaders_52, G3_findsLeaders_55, G3_findsLeaders_56, G3_findsLeaders_57, G3_findsLeaders_59, G3_findsLeaders_60, G3_findsLeaders_61, G3_findsLeaders_64, G3_findsLeaders_67, G3_findsLeaders_70, G3_findsLeaders_71, N3_findsLeaders, ↓mm_kc_ap, ↓mm_cut, mm_en, mm_nth, mm_put, mm_sto, mm_stoL, mm_ag, mm_dr, mm_sw, Nat.reduceSub, List.replicate, Option.toList, List.cons_append, List.nil_append, sq_int, sq_lng, sq_iload, sq_lload, sq_aload, sq_istore, sq_lstore, sq_astore, sq_iinc, sq_iadd, sq_isub, sq_imul, sq_iand, sq_ior, sq_ixor, sq_ishl, sq_ishr, sq_iushr, sq_ladd, sq_lsub, sq_lmul, sq_idiv, sq_irem, sq_ldiv, sq_lrem, sq_i2l, sq_lcmp, sq_dupI, sq_dupR, sq_pop, sq_dup2, sq_goto, sq_if_eq, sq_icmp_eq, sq_if_ne, sq_icmp_ne, sq_if_lt, sq_icmp_lt, sq_if_ge, sq_icmp_ge, sq_if_gt, sq_icmp_gt, sq_if_le, sq_icmp_le, sq_iaload, sq_iastore, sq_alen, sq_places, sq_getI, sq_getR, sq_put, sq_ret, sq_lret, sq_vret, sq_switch, sq_callS, sq_callV, sq_copy, sq_max, sq_min, mm_len_2, mm_len_3, mm_len_4, mm_len_6, mm_len_8, mm_len_10, mm_len_11, mm_len_12, mm_len_13, mm_len_14, mm_len_15, mm_len_17, mm_len_18, mm_len_19, mm_len_20, mm_len_21, mm_len_22, mm_len_23, mm_len_24, mm_len_25]
    try simp only [eq_self, true_and, and_true, Bool.false_eq_true, false_implies, true_implies, true_or, or_true, mm_numI, mm_numL, mm_numN, pp_i10, pp_i01, pp_im1, not_false_eq_true, not_true_eq_false, false_or, or_false]
    have lc := pp_cnt_le (gg_ld n A mk p) n
    rw [gg_pop_ld n8, pp_eq1 (by omega), mm_setA_ne (by decide), mm_setA_ne (by decide), nI_clamp (show p < 2 ^ 31 by omega), hm p (by omega), pp_eq1 (Nat.lt_trans (hm4 p) (by decide)), nI_1]
    refine ⟨fun h1 => ?_, fun h1 => ?_⟩
    · have hall' : pp_all (gg_one n A mk) (p + 1) = true := by
        show (pp_all (gg_one n A mk) p && gg_one n A mk p) = true
        rw [hall]
        unfold gg_one
        rw [decide_eq_true h1]
        rfl
      refine ⟨vp_in_nI (by omega) (by decide), fun h2 => ?_, fun h2 => ⟨0, _, by omega, t_numberFrom ((hN'.sA (by decide) g).sA (by decide) g8) (pp_msk_8 n8) _, rfl, ?_⟩⟩
      · refine ih (p + 1) (by omega) hall' g g8 _ (fun q hq => ?_)
        rw [hg q hq]
        have e : gg_ld n A mk q p = false := by
          unfold gg_ld
          rw [decide_eq_false h2, Bool.and_false]
        unfold gg_ln
        rw [pp_cnt_f e]
        have et : pp_the (gg_ld n A mk q) (p + 1) = pp_the (gg_ld n A mk q) p := by
          show (if gg_ld n A mk q p = true then p else pp_the (gg_ld n A mk q) p) = _
          rw [if_neg (by rw [e]; exact Bool.false_ne_true)]
        rw [et]
      · rintro _ _ ⟨rfl, rfl⟩
        rw [mm_setA_setA]
        simp only [G3_findsLeaders_0, G3_findsLeaders_1, G3_findsLeaders_4, G3_findsLeaders_7, G3_findsLeaders_8, G3_findsLeaders_9, G3_findsLeaders_10, G3_findsLeaders_11, G3_findsLeaders_12, G3_findsLeaders_15, G3_findsLeaders_18, G3_findsLeaders_21, G3_findsLeaders_22, G3_findsLeaders_25, G3_findsLeaders_26, G3_findsLeaders_29, G3_findsLeaders_30, G3_findsLeaders_31, G3_findsLeaders_32, G3_findsLeaders_33, G3_findsLeaders_36, G3_findsLeaders_37, G3_findsLeaders_40, G3_findsLeaders_41, G3_findsLeaders_42, G3_findsLeaders_43, G3_findsLeaders_46, G3_findsLeaders_49, G3_findsLeaders_50, G3_findsLeaders_51, G3_findsLeaders_52, G3_findsLeaders_55, G3_findsLeaders_56, G3_findsLeaders_57, G3_findsLeaders_59, G3_findsLeaders_60, G3_findsLeaders_61, G3_findsLeaders_64, G3_findsLeaders_67, G3_findsLeaders_70, G3_findsLeaders_71, N3_findsLeaders, ↓mm_kc_ap, ↓mm_cut, mm_en, mm_nth, mm_put, mm_sto, mm_stoL, mm_ag, mm_dr, mm_sw, Nat.reduceSub, List.replicate, Option.toList, List.cons_append, List.nil_append, sq_int, sq_lng, sq_iload, sq_lload, sq_aload, sq_istore, sq_lstore, sq_astore, sq_iinc, sq_iadd, sq_isub, sq_imul, sq_iand, sq_ior, sq_ixor, sq_ishl, sq_ishr, sq_iushr, sq_ladd, sq_lsub, sq_lmul, sq_idiv, sq_irem, sq_ldiv, sq_lrem, sq_i2l, sq_lcmp, sq_dupI, sq_dupR, sq_pop, sq_dup2, sq_goto, sq_if_eq, sq_icmp_eq, sq_if_ne, sq_icmp_ne, sq_if_lt, sq_icmp_lt, sq_if_ge, sq_icmp_ge, sq_if_gt, sq_icmp_gt, sq_if_le, sq_icmp_le, sq_iaload, sq_iastore, sq_alen, sq_places, sq_getI, sq_getR, sq_put, sq_ret, sq_lret, sq_vret, sq_switch, sq_callS, sq_callV, sq_copy, sq_max, sq_min, mm_len_2, mm_len_3, mm_len_4, mm_len_6, mm_len_8, mm_len_10, mm_len_11, mm_len_12, mm_len_13, mm_len_14, mm_len_15, mm_len_17, mm_len_18, mm_len_19, mm_len_20, mm_len_21, mm_len_22, mm_len_23, mm_len_24, mm_len_25]
        try simp only [eq_self, true_and, and_true, Bool.false_eq_true, false_implies, true_implies, true_or, or_true, mm_numI, mm_numL, mm_numN, pp_i10, pp_i01, pp_im1, not_false_eq_true, not_true_eq_false, false_or, or_false]
        rw [mm_setA_same, mm_setA_ne (show (4 : Nat) ≠ 8 by decide), mm_setA_same]
        refine ih (p + 1) (by omega) hall' g _ _ (fun q hq => ?_)
        unfold gg_nf
        rw [pp_msk_bit]
        have ep : (8 : Int32) * nI p = nI (8 * p) := pk_mul 8 p
        have sy : gg_r n A p (n - 1) q = gg_r n A q (n - 1) p := gg_r_sym hok hS (by omega) hq
        cases hr : gg_r n A p (n - 1) q with
        | true =>
          have e : gg_ld n A mk q p = true := by
            unfold gg_ld
            rw [← sy, hr, decide_eq_true h2]
            rfl
          have et : pp_the (gg_ld n A mk q) (p + 1) = p := by
            show (if gg_ld n A mk q p = true then p else pp_the (gg_ld n A mk q) p) = _
            rw [if_pos e]
          rw [if_pos ⟨hq, by rw [decide_eq_true hq]; rfl⟩, hgd q hq, ep]
          unfold gg_ln
          rw [pp_cnt_t e, if_neg (by omega), et]
        | false =>
          have e : gg_ld n A mk q p = false := by
            unfold gg_ld
            rw [← sy, hr, Bool.false_and]
          have et : pp_the (gg_ld n A mk q) (p + 1) = pp_the (gg_ld n A mk q) p := by
            show (if gg_ld n A mk q p = true then p else pp_the (gg_ld n A mk q) p) = _
            rw [if_neg (by rw [e]; exact Bool.false_ne_true)]
          rw [if_neg (fun z => by rw [Bool.and_false] at z; exact absurd z.2 Bool.false_ne_true), hg q hq]
          unfold gg_ln
          rw [pp_cnt_f e, et]
    · have hno : pp_all (gg_one n A mk) n = false := by
        apply Bool.eq_false_iff.mpr
        intro hc
        have := pp_all_iff.mp hc p (by omega)
        unfold gg_one at this
        rw [decide_eq_true_eq] at this
        exact h1 this
      exact ⟨pp_b0 hno, g, g8, rfl, fun hc => by rw [hno] at hc; cases hc⟩
set_option maxRecDepth 20000 in
theorem t_findsLeaders {l : Launch} {d : Nat} (hd : 1 < d) {h : mm_H} {n : Nat} {A mk : Nat → Nat} (hN : cc_N h n A mk) (hok : jj_ok n A) (hS : gg_sym A) (h8 : ∀ q, q < 8 → h 8 q = 0) : mm_Ev l d M3_findsLeaders [.ref 7] h (gg_flp n A mk h) := by
  have n8 := hN.2.1
  refine mm_Ev.of (by decide +kernel) (Nat.le_of_ble_eq_true rfl) (mm_rn_ok [10] _ (S3_findsLeaders l d _ _) 1000 _ _ _ _ ?_)
  simp only [G3_findsLeaders_0, G3_findsLeaders_1, G3_findsLeaders_4, G3_findsLeaders_7, G3_findsLeaders_8, G3_findsLeaders_9, G3_findsLeaders_10, G3_findsLeaders_11, G3_findsLeaders_12, G3_findsLeaders_15, G3_findsLeaders_18, G3_findsLeaders_21, G3_findsLeaders_22, G3_findsLeaders_25, G3_findsLeaders_26, G3_findsLeaders_29, G3_findsLeaders_30, G3_findsLeaders_31, G3_findsLeaders_32, G3_findsLeaders_33, G3_findsLeaders_36, G3_findsLeaders_37, G3_findsLeaders_40, G3_findsLeaders_41, G3_findsLeaders_42, G3_findsLeaders_43, G3_findsLeaders_46, G3_findsLeaders_49, G3_findsLeaders_50, G3_findsLeaders_51, G3_findsLeaders_52, G3_findsLeaders_55, G3_findsLeaders_56, G3_findsLeaders_57, G3_findsLeaders_59, G3_findsLeaders_60, G3_findsLeaders_61, G3_findsLeaders_64, G3_findsLeaders_67, G3_findsLeaders_70, G3_findsLeaders_71, N3_findsLeaders, ↓mm_kc_ap, ↓mm_cut, mm_en, mm_nth, mm_put, mm_sto, mm_stoL, mm_ag, mm_dr, mm_sw, Nat.reduceSub, List.replicate, Option.toList, List.cons_append, List.nil_append, sq_int, sq_lng, sq_iload, sq_lload, sq_aload, sq_istore, sq_lstore, sq_astore, sq_iinc, sq_iadd, sq_isub, sq_imul, sq_iand, sq_ior, sq_ixor, sq_ishl, sq_ishr, sq_iushr, sq_ladd, sq_lsub, sq_lmul, sq_idiv, sq_irem, sq_ldiv, sq_lrem, sq_i2l, sq_lcmp, sq_dupI, sq_dupR, sq_pop, sq_dup2, sq_goto, sq_if_eq, sq_icmp_eq, sq_if_ne, sq_icmp_ne, sq_if_lt, sq_icmp_lt, sq_if_ge, sq_icmp_ge, sq_if_gt, sq_icmp_gt, sq_if_le, sq_icmp_le, sq_iaload, sq_iastore, sq_alen, sq_places, sq_getI, sq_getR, sq_put, sq_ret, sq_lret, sq_vret, sq_switch, sq_callS, sq_callV, sq_copy, sq_max, sq_min, mm_len_2, mm_len_3, mm_len_4, mm_len_6, mm_len_8, mm_len_10, mm_len_11, mm_len_12, mm_len_13, mm_len_14, mm_len_15, mm_len_17, mm_len_18, mm_len_19, mm_len_20, mm_len_21, mm_len_22, mm_len_23, mm_len_24, mm_len_25]
  try simp only [eq_self, true_and, and_true, Bool.false_eq_true, false_implies, true_implies, true_or, or_true, mm_numI, mm_numL, mm_numN, pp_i10, pp_i01, pp_im1, not_false_eq_true, not_true_eq_false, false_or, or_false]
  refine ⟨0, _, by omega, t_leaders hN, rfl, ?_⟩
  rintro _ _ ⟨rfl, rfl⟩
  simp only [G3_findsLeaders_0, G3_findsLeaders_1, G3_findsLeaders_4, G3_findsLeaders_7, G3_findsLeaders_8, G3_findsLeaders_9, G3_findsLeaders_10, G3_findsLeaders_11, G3_findsLeaders_12, G3_findsLeaders_15, G3_findsLeaders_18, G3_findsLeaders_21, G3_findsLeaders_22, G3_findsLeaders_25, G3_findsLeaders_26, G3_findsLeaders_29, G3_findsLeaders_30, G3_findsLeaders_31, G3_findsLeaders_32, G3_findsLeaders_33, G3_findsLeaders_36, G3_findsLeaders_37, G3_findsLeaders_40, G3_findsLeaders_41, G3_findsLeaders_42, G3_findsLeaders_43, G3_findsLeaders_46, G3_findsLeaders_49, G3_findsLeaders_50, G3_findsLeaders_51, G3_findsLeaders_52, G3_findsLeaders_55, G3_findsLeaders_56, G3_findsLeaders_57, G3_findsLeaders_59, G3_findsLeaders_60, G3_findsLeaders_61, G3_findsLeaders_64, G3_findsLeaders_67, G3_findsLeaders_70, G3_findsLeaders_71, N3_findsLeaders, ↓mm_kc_ap, ↓mm_cut, mm_en, mm_nth, mm_put, mm_sto, mm_stoL, mm_ag, mm_dr, mm_sw, Nat.reduceSub, List.replicate, Option.toList, List.cons_append, List.nil_append, sq_int, sq_lng, sq_iload, sq_lload, sq_aload, sq_istore, sq_lstore, sq_astore, sq_iinc, sq_iadd, sq_isub, sq_imul, sq_iand, sq_ior, sq_ixor, sq_ishl, sq_ishr, sq_iushr, sq_ladd, sq_lsub, sq_lmul, sq_idiv, sq_irem, sq_ldiv, sq_lrem, sq_i2l, sq_lcmp, sq_dupI, sq_dupR, sq_pop, sq_dup2, sq_goto, sq_if_eq, sq_icmp_eq, sq_if_ne, sq_icmp_ne, sq_if_lt, sq_icmp_lt, sq_if_ge, sq_icmp_ge, sq_if_gt, sq_icmp_gt, sq_if_le, sq_icmp_le, sq_iaload, sq_iastore, sq_alen, sq_places, sq_getI, sq_getR, sq_put, sq_ret, sq_lret, sq_vret, sq_switch, sq_callS, sq_callV, sq_copy, sq_max, sq_min, mm_len_2, mm_len_3, mm_len_4, mm_len_6, mm_len_8, mm_len_10, mm_len_11, mm_len_12, mm_len_13, mm_len_14, mm_len_15, mm_len_17, mm_len_18, mm_len_19, mm_len_20, mm_len_21, mm_len_22, mm_len_23, mm_len_24, mm_len_25]
  try simp only [eq_self, true_and, and_true, Bool.false_eq_true, false_implies, true_implies, true_or, or_true, mm_numI, mm_numL, mm_numN, pp_i10, pp_i01, pp_im1, not_false_eq_true, not_true_eq_false, false_or, or_false]
  rename_i h'
  have lp := t_findsLeaders_loop (l := l) (E := fun _ _ _ => True) hd hN hok hS n 0 (by omega) rfl (h' 4) (h' 8) none (fun q hq => by rw [h8 q (by omega)]; rfl)
  rw [mm_setA_id, mm_setA_id] at lp
  exact lp
