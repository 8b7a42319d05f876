/-! ===== the trial: does it still stand ===== -/
/-- p is the last that q ever sees -/
def jj_last (A : Nat → Nat) (q p : Nat) : Bool := decide ((A q ||| 1 <<< q) / 2 ^ p = 1)
def jj_still (n : Nat) (A mk : Nat → Nat) (sc : Nat) (f : Nat → Nat) (p : Nat) : Bool := pp_all (fun q => !(jj_last A q p) || jj_acc n A mk sc f q) (p + 1)
set_option maxRecDepth 20000 in
theorem t_still_loop {l : Launch} {d : Nat} (hd : 2 < d) {E : mm_X} {h : mm_H} {n : Nat} {A mk f : Nat → Nat} (hN : cc_N h n A mk) (hok : jj_ok n A) {sc p : Nat} (hsc : sc < 5) (h54 : h 5 4 = nI sc) (hf : ∀ q, q < 8 → h 6 q = nI (f q)) (hf2 : ∀ q, f q < 2 ^ 30) (hp : p < n) : ∀ (k q : Nat), q + k = p + 1 → pp_all (fun q => !(jj_last A q p) || jj_acc n A mk sc f q) q = true → ∀ x3 : Option Value, mm_At l d M4_stillStands E (fun r h' => r = some (.int (pp_b (jj_still n A mk sc f p))) ∧ h' = h) 2 [some (.ref 5), some (.int (nI p)), some (.int (nI q)), x3] [] h := by
  have hN' := hN
  obtain ⟨n1, n8, hn, hA, hm, hA8, hm4⟩ := hN
  intro k
  induction k with
  | zero =>
    intro q hq hall x3
    have e : q = p + 1 := by omega
    subst e
    refine mm_rn_ok [] _ (S4_stillStands l d _ _) 1000 _ _ _ _ ?_
    simp only [G4_stillStands_0, G4_stillStands_1, G4_stillStands_2, G4_stillStands_3, G4_stillStands_4, G4_stillStands_7, G4_stillStands_8, G4_stillStands_11, G4_stillStands_14, G4_stillStands_15, G4_stillStands_16, G4_stillStands_17, G4_stillStands_18, G4_stillStands_19, G4_stillStands_20, G4_stillStands_21, G4_stillStands_22, G4_stillStands_23, G4_stillStands_26, G4_stillStands_27, G4_stillStands_30, G4_stillStands_31, G4_stillStands_32, G4_stillStands_33, G4_stillStands_36, G4_stillStands_37, G4_stillStands_40, G4_stillStands_41, G4_stillStands_44, G4_stillStands_45, G4_stillStands_48, G4_stillStands_49, G4_stillStands_52, G4_stillStands_55, G4_stillStands_56, G4_stillStands_57, G4_stillStands_60, G4_stillStands_63, G4_stillStands_64, N4_stillStands, ↓mm_kc_ap, ↓mm_cut, mm_en, mm_nth, mm_put, mm_sto, mm_stoL, mm_ag, mm_dr, mm_sw, Nat.reduceSub, List.replicate, Option.toList, List.cons_append, List.nil_append, sq_int, sq_lng, sq_iload, sq_lload, sq_aload, sq_istore, sq_lstore, sq_astore, sq_iinc, sq_iadd, sq_isub, sq_imul, sq_iand, sq_ior, sq_ixor, sq_ishl, sq_ishr, sq_iushr, sq_ladd, sq_lsub, sq_lmul, sq_idiv, sq_irem, sq_ldiv, sq_lrem, sq_i2l, sq_lcmp, sq_dupI, sq_dupR, sq_pop, sq_dup2, sq_goto, sq_if_eq, sq_icmp_eq, sq_if_ne, sq_icmp_ne, sq_if_lt, sq_icmp_lt, sq_if_ge, sq_icmp_ge, sq_if_gt, sq_icmp_gt, sq_if_le, sq_icmp_le, sq_iaload, sq_iastore, sq_alen, sq_places, sq_getI, sq_getR, sq_put, sq_ret, sq_lret, sq_vret, sq_switch, sq_callS, sq_callV, sq_copy, sq_max, sq_min, mm_len_2, mm_len_3, mm_len_4, mm_len_6, mm_len_8, mm_len_10, mm_len_11, mm_len_12, mm_len_13, mm_len_14, mm_len_15, mm_len_17, mm_len_18, mm_len_19, mm_len_20, mm_len_21, mm_len_22, mm_len_23, mm_len_24, mm_len_25]
    try simp only [eq_self, true_and, and_true, Bool.false_eq_true, false_implies, true_implies, true_or, or_true, mm_numI, mm_numL, mm_numN, pp_i10, pp_i01, pp_im1, not_false_eq_true, not_true_eq_false, false_or, or_false]
    exact ⟨fun _ => pp_b1 hall, fun hc => absurd (nI_lt (show p < p + 1 by omega) (by omega)) hc⟩
  | succ k ih =>
    intro q hq hall x3
    have ih := ih (q + 1) (by omega)
    refine mm_rn_ok [] _ (S4_stillStands l d _ _) 1000 _ _ _ _ ?_
    simp only [G4_stillStands_0, G4_stillStands_1, G4_stillStands_2, G4_stillStands_3, G4_stillStands_4, G4_stillStands_7, G4_stillStands_8, G4_stillStands_11, G4_stillStands_14, G4_stillStands_15, G4_stillStands_16, G4_stillStands_17, G4_stillStands_18, G4_stillStands_19, G4_stillStands_20, G4_stillStands_21, G4_stillStands_22, G4_stillStands_23, G4_stillStands_26, G4_stillStands_27, G4_stillStands_30, G4_stillStands_31, G4_stillStands_32, G4_stillStands_33, G4_stillStands_36, G4_stillStands_37, G4_stillStands_40, G4_stillStands_41, G4_stillStands_44, G4_stillStands_45, G4_stillStands_48, G4_stillStands_49, G4_stillStands_52, G4_stillStands_55, G4_stillStands_56, G4_stillStands_57, G4_stillStands_60, G4_stillStands_63, G4_stillStands_64, N4_stillStands, ↓mm_kc_ap, ↓mm_cut, mm_en, mm_nth, mm_put, mm_sto, mm_stoL, mm_ag, mm_dr, mm_sw, Nat.reduceSub, List.replicate, Option.toList, List.cons_append, List.nil_append, sq_int, sq_lng, sq_iload, sq_lload, sq_aload, sq_istore, sq_lstore, sq_astore, sq_iinc, sq_iadd, sq_isub, sq_imul, sq_iand, sq_ior, sq_ixor, sq_ishl, sq_ishr, sq_iushr, sq_ladd, sq_lsub, sq_lmul, sq_idiv, sq_irem, sq_ldiv, sq_lrem, sq_i2l, sq_lcmp, sq_dupI, sq_dupR, sq_pop, sq_dup2, sq_goto, sq_if_eq, sq_icmp_eq, sq_if_ne, sq_icmp_ne, sq_if_lt, sq_icmp_lt, sq_if_ge, sq_icmp_ge, sq_if_gt, sq_icmp_gt, sq_if_le, sq_icmp_le, sq_iaload, sq_iastore, sq_alen, sq_places, sq_getI, sq_getR, sq_put, sq_ret, sq_lret, sq_vret, sq_switch, sq_callS, sq_callV, sq_copy, sq_max, sq_min, mm_len_2, mm_len_3, mm_len_4, mm_len_6, mm_len_8, mm_len_10, mm_len_11, mm_len_12, mm_len_13, mm_len_14, mm_len_15, mm_len_17, mm_len_18, mm_len_19, mm_len_20, mm_len_21, mm_len_22, mm_len_23, mm_len_24, mm_len_25]
    try simp only [eq_self, true_and, and_true, Bool.false_eq_true, false_implies, true_implies, true_or, or_true, mm_numI, mm_numL, mm_numN, pp_i10, pp_i01, pp_im1, not_false_eq_true, not_true_eq_false, false_or, or_false]
    have h1 : 1 <<< q < 256 := by
      rw [Nat.one_shiftLeft]
      exact Nat.pow_lt_pow_right (a := 2) (n := 8) (by decide) (by omega)
    have h2 : A q ||| 1 <<< q < 256 := Nat.or_lt_two_pow (n := 8) (hA8 q) h1
    have hlt : (A q ||| 1 <<< q) / 2 ^ p < 2 ^ 31 := Nat.lt_of_le_of_lt (Nat.div_le_self _ _) (by omega)
    have el : (nI ((A q ||| 1 <<< q) / 2 ^ p) = 1) ↔ jj_last A q p = true := by
      unfold jj_last
      rw [decide_eq_true_eq]
      exact pp_eq1 hlt
    rw [nI_clamp (show q < 2 ^ 31 by omega), hA q (by omega), pp_one_shl (by omega), pp_or _ _ (Nat.lt_trans (hA8 q) (by decide)) (by omega), pp_shr (by omega) (by omega), el, nI_1, h54]
    refine ⟨fun hc => absurd hc (nI_nlt (a := p) (b := q) (by omega) (by omega)), fun _ => ⟨vp_in_nI (by omega) (by decide), fun hl => ih ?_ _, fun hl => ⟨2, _, hd, t_saysYes (by decide) hN' hok hsc rfl hf hf2 (show q < 8 by omega), rfl, rfl, ?_⟩⟩⟩
    · rw [pp_all_s, hall]
      have : jj_last A q p = false := by simpa using hl
      rw [this]
      rfl
    · rintro _ _ ⟨rfl, rfl⟩
      simp only [G4_stillStands_0, G4_stillStands_1, G4_stillStands_2, G4_stillStands_3, G4_stillStands_4, G4_stillStands_7, G4_stillStands_8, G4_stillStands_11, G4_stillStands_14, G4_stillStands_15, G4_stillStands_16, G4_stillStands_17, G4_stillStands_18, G4_stillStands_19, G4_stillStands_20, G4_stillStands_21, G4_stillStands_22, G4_stillStands_23, G4_stillStands_26, G4_stillStands_27, G4_stillStands_30, G4_stillStands_31, G4_stillStands_32, G4_stillStands_33, G4_stillStands_36, G4_stillStands_37, G4_stillStands_40, G4_stillStands_41, G4_stillStands_44, G4_stillStands_45, G4_stillStands_48, G4_stillStands_49, G4_stillStands_52, G4_stillStands_55, G4_stillStands_56, G4_stillStands_57, G4_stillStands_60, G4_stillStands_63, G4_stillStands_64, N4_stillStands, ↓mm_kc_ap, ↓mm_cut, mm_en, mm_nth, mm_put, mm_sto, mm_stoL, mm_ag, mm_dr, mm_sw, Nat.reduceSub, List.replicate, Option.toList, List.cons_append, List.nil_append, sq_int, sq_lng, sq_iload, sq_lload, sq_aload, sq_istore, sq_lstore, sq_astore, sq_iinc, sq_iadd, sq_isub, sq_imul, sq_iand, sq_ior, sq_ixor, sq_ishl, sq_ishr, sq_iushr, sq_ladd, sq_lsub, sq_lmul, sq_idiv, sq_irem, sq_ldiv, sq_lrem, sq_i2l, sq_lcmp, sq_dupI, sq_dupR, sq_pop, sq_dup2, sq_goto, sq_if_eq, sq_icmp_eq, sq_if_ne, sq_icmp_ne, sq_if_lt, sq_icmp_lt, sq_if_ge, sq_icmp_ge, sq_if_gt, sq_icmp_gt, sq_if_le, sq_icmp_le, sq_iaload, sq_iastore, sq_alen, sq_places, sq_getI, sq_getR, sq_put, sq_ret, sq_lret, sq_vret, sq_switch, sq_callS, sq_callV, sq_copy, sq_max, sq_min, mm_len_2, mm_len_3, mm_len_4, mm_len_6, mm_len_8, mm_len_10, mm_len_11, mm_len_12, mm_len_13, mm_len_14, mm_len_15, mm_len_17, mm_len_18, mm_len_19, mm_len_20, mm_len_21, mm_len_22, mm_len_23, mm_len_24, mm_len_25]
      try simp only [eq_self, true_and, and_true, Bool.false_eq_true, false_implies, true_implies, true_or, or_true, mm_numI, mm_numL, mm_numN, pp_i10, pp_i01, pp_im1, not_false_eq_true, not_true_eq_false, false_or, or_false]
      rw [pp_bne, pp_beq, nI_1]
      refine ⟨fun hb => ih ?_ _, fun hb => pp_b0 ?_⟩
      · rw [pp_all_s, hall, hb, Bool.or_true]
        rfl
      · apply Bool.eq_false_iff.mpr
        intro hc
        have := pp_all_iff.mp (show pp_all (fun q => !(jj_last A q p) || jj_acc n A mk sc f q) (p + 1) = true from hc) q (by omega)
        rw [hl, hb] at this
        cases this
set_option maxRecDepth 20000 in
theorem t_stillStands {l : Launch} {d : Nat} (hd : 2 < d) {h : mm_H} {n : Nat} {A mk f : Nat → Nat} (hN : cc_N h n A mk) (hok : jj_ok n A) {sc p : Nat} (hsc : sc < 5) (h54 : h 5 4 = nI sc) (hf : ∀ q, q < 8 → h 6 q = nI (f q)) (hf2 : ∀ q, f q < 2 ^ 30) (hp : p < n) : mm_Ev l d M4_stillStands [.ref 5, .int (nI p)] h (fun r h' => r = some (.int (pp_b (jj_still n A mk sc f p))) ∧ h' = h) := by
  refine mm_Ev.of (by decide +kernel) (Nat.le_of_ble_eq_true rfl) (mm_rn_ok [2] _ (S4_stillStands l d _ _) 1000 _ _ _ _ ?_)
  simp only [G4_stillStands_0, G4_stillStands_1, G4_stillStands_2, G4_stillStands_3, G4_stillStands_4, G4_stillStands_7, G4_stillStands_8, G4_stillStands_11, G4_stillStands_14, G4_stillStands_15, G4_stillStands_16, G4_stillStands_17, G4_stillStands_18, G4_stillStands_19, G4_stillStands_20, G4_stillStands_21, G4_stillStands_22, G4_stillStands_23, G4_stillStands_26, G4_stillStands_27, G4_stillStands_30, G4_stillStands_31, G4_stillStands_32, G4_stillStands_33, G4_stillStands_36, G4_stillStands_37, G4_stillStands_40, G4_stillStands_41, G4_stillStands_44, G4_stillStands_45, G4_stillStands_48, G4_stillStands_49, G4_stillStands_52, G4_stillStands_55, G4_stillStands_56, G4_stillStands_57, G4_stillStands_60, G4_stillStands_63, G4_stillStands_64, N4_stillStands, ↓mm_kc_ap, ↓mm_cut, mm_en, mm_nth, mm_put, mm_sto, mm_stoL, mm_ag, mm_dr, mm_sw, Nat.reduceSub, List.replicate, Option.toList, List.cons_append, List.nil_append, sq_int, sq_lng, sq_iload, sq_lload, sq_aload, sq_istore, sq_lstore, sq_astore, sq_iinc, sq_iadd, sq_isub, sq_imul, sq_iand, sq_ior, sq_ixor, sq_ishl, sq_ishr, sq_iushr, sq_ladd, sq_lsub, sq_lmul, sq_idiv, sq_irem, sq_ldiv, sq_lrem, sq_i2l, sq_lcmp, sq_dupI, sq_dupR, sq_pop, sq_dup2, sq_goto, sq_if_eq, sq_icmp_eq, sq_if_ne, sq_icmp_ne, sq_if_lt, sq_icmp_lt, sq_if_ge, sq_icmp_ge, sq_if_gt, sq_icmp_gt, sq_if_le, sq_icmp_le, sq_iaload, sq_iastore, sq_alen, sq_places, sq_getI, sq_getR, sq_put, sq_ret, sq_lret, sq_vret, sq_switch, sq_callS, sq_callV, sq_copy, sq_max, sq_min, mm_len_2, mm_len_3, mm_len_4, mm_len_6, mm_len_8, mm_len_10, mm_len_11, mm_len_12, mm_len_13, mm_len_14, mm_len_15, mm_len_17, mm_len_18, mm_len_19, mm_len_20, mm_len_21, mm_len_22, mm_len_23, mm_len_24, mm_len_25]
  try simp only [eq_self, true_and, and_true, Bool.false_eq_true, false_implies, true_implies, true_or, or_true, mm_numI, mm_numL, mm_numN, pp_i10, pp_i01, pp_im1, not_false_eq_true, not_true_eq_false, false_or, or_false]
  exact t_still_loop hd hN hok hsc h54 hf hf2 hp (p + 1) 0 (by omega) rfl none
