/-! ===== the reference's judge ===== -/
theorem pp_q02 : ((0 : Int32) = 2) = False := eq_false (by decide)
theorem pp_q03 : ((0 : Int32) = 3) = False := eq_false (by decide)
theorem pp_q04 : ((0 : Int32) = 4) = False := eq_false (by decide)
theorem pp_q12 : ((1 : Int32) = 2) = False := eq_false (by decide)
theorem pp_q13 : ((1 : Int32) = 3) = False := eq_false (by decide)
theorem pp_q14 : ((1 : Int32) = 4) = False := eq_false (by decide)
theorem pp_q20 : ((2 : Int32) = 0) = False := eq_false (by decide)
theorem pp_q21 : ((2 : Int32) = 1) = False := eq_false (by decide)
theorem pp_q23 : ((2 : Int32) = 3) = False := eq_false (by decide)
theorem pp_q24 : ((2 : Int32) = 4) = False := eq_false (by decide)
theorem pp_q30 : ((3 : Int32) = 0) = False := eq_false (by decide)
theorem pp_q31 : ((3 : Int32) = 1) = False := eq_false (by decide)
theorem pp_q32 : ((3 : Int32) = 2) = False := eq_false (by decide)
theorem pp_q34 : ((3 : Int32) = 4) = False := eq_false (by decide)
theorem pp_q40 : ((4 : Int32) = 0) = False := eq_false (by decide)
theorem pp_q41 : ((4 : Int32) = 1) = False := eq_false (by decide)
theorem pp_q42 : ((4 : Int32) = 2) = False := eq_false (by decide)
theorem pp_q43 : ((4 : Int32) = 3) = False := eq_false (by decide)
theorem pp_le20 : ((2 : Int32) ≤ 0) = False := eq_false (by decide)
theorem pp_le21 : ((2 : Int32) ≤ 1) = False := eq_false (by decide)
theorem pp_le22 : ((2 : Int32) ≤ 2) = True := eq_true (by decide)
theorem pp_le23 : ((2 : Int32) ≤ 3) = True := eq_true (by decide)
theorem pp_le24 : ((2 : Int32) ≤ 4) = True := eq_true (by decide)
/-- the net as the reference has it -/
def dd_N (h : mm_H) (n : Nat) (A mk : Nat → Nat) : Prop := 1 ≤ n ∧ n ≤ 8 ∧ h 16 0 = nI n ∧ (∀ p, p < 8 → h 17 p = nI (A p)) ∧ (∀ p, p < 8 → h 18 p = nI (mk p)) ∧ (∀ p, A p < 256) ∧ (∀ p, mk p < 4)
theorem pp_lcmp {x y : Int64} : lg_cmp x y < 0 ↔ x < y := by
  unfold lg_cmp
  by_cases h1 : x > y
  · rw [if_pos h1]
    exact ⟨fun h => absurd h (by decide), fun h => absurd h (Int64.not_lt.mpr (Int64.le_of_lt h1))⟩
  · rw [if_neg h1]
    by_cases h2 : x = y
    · rw [if_pos h2]
      exact ⟨fun h => absurd h (by decide), fun h => absurd h (by rw [h2]; exact Int64.lt_irrefl)⟩
    · rw [if_neg h2]
      exact ⟨fun _ => Int64.lt_of_le_of_ne (Int64.not_lt.mp h1) h2, fun _ => by decide⟩
theorem pp_lcmpg {x y : Int64} : 0 < lg_cmp x y ↔ y < x := by
  unfold lg_cmp
  by_cases h1 : x > y
  · rw [if_pos h1]
    exact ⟨fun _ => h1, fun _ => by decide⟩
  · rw [if_neg h1]
    by_cases h2 : x = y
    · rw [if_pos h2]
      exact ⟨fun h => absurd h (by decide), fun h => absurd h h1⟩
    · rw [if_neg h2]
      exact ⟨fun h => absurd h (by decide), fun h => absurd h h1⟩
set_option maxRecDepth 20000 in
theorem t_in (l : Launch) (d : Nat) (h : mm_H) (v lo hi : Int64) : mm_Ev l d M6_in [.long v, .long lo, .long hi] h (fun r h' => r = some (.int (pp_b (decide (lo ≤ v ∧ v ≤ hi)))) ∧ h' = h) := by
  refine mm_Ev.of (by decide +kernel) (Nat.le_of_ble_eq_true rfl) (mm_go_ok [] _ (S6_in l d _ _) _ _ _ _ ?_)
  dsimp only [P6_in, N6_in, mm_go, mm_in, mm_en, mm_nth, mm_put, mm_sto, mm_stoL, mm_ag, mm_dr, Nat.reduceSub, List.replicate, Option.toList, List.cons_append, List.nil_append, se_int, se_lng, se_iload, se_lload, se_aload, se_istore, se_lstore, se_astore, se_iinc, se_iadd, se_isub, se_imul, se_iand, se_ior, se_ixor, se_ishl, se_ishr, se_iushr, se_ladd, se_lsub, se_lmul, se_idiv, se_irem, se_ldiv, se_lrem, se_i2l, se_lcmp, se_dup, se_pop, se_dup2, se_goto, se_if_eq, se_icmp_eq, se_if_ne, se_icmp_ne, se_if_lt, se_icmp_lt, se_if_ge, se_icmp_ge, se_if_gt, se_icmp_gt, se_if_le, se_icmp_le, se_iaload, se_iastore, se_alen, se_places, se_getI, se_getR, se_put, se_ret, se_lret, se_vret, mm_sw, se_switch, se_callS, se_callV, se_copy, se_max, se_min, mm_len_2, mm_len_3, mm_len_4, mm_len_6, mm_len_8, mm_len_10, mm_len_11, mm_len_12, mm_len_13, mm_len_14, mm_len_15, mm_len_17, mm_len_18, mm_len_19, mm_len_20, mm_len_21, mm_len_22, mm_len_23, mm_len_24, mm_len_25]
  try simp only [eq_self, true_and, and_true, Bool.false_eq_true, false_implies, true_implies, true_or, or_true, mm_numI, mm_numL, mm_numN, pp_i10, pp_i01, pp_im1, not_false_eq_true, not_true_eq_false, false_or, or_false]
  rw [pp_lcmp, pp_lcmpg]
  refine ⟨fun h1 => pp_b0 ?_, fun h1 => ⟨fun h2 => pp_b0 ?_, fun h2 => pp_b1 ?_⟩⟩
  · exact decide_eq_false (fun hh => absurd hh.1 (Int64.not_le.mpr h1))
  · exact decide_eq_false (fun hh => absurd hh.2 (Int64.not_le.mpr h2))
  · exact decide_eq_true ⟨Int64.not_lt.mp h1, Int64.not_lt.mp h2⟩
theorem pp_i2l_le {x y : Int32} : x.toInt64 ≤ y.toInt64 ↔ x ≤ y := by
  rw [Int64.le_iff_toInt_le, Int32.le_iff_toInt_le, Int32.toInt_toInt64, Int32.toInt_toInt64]
set_option maxRecDepth 20000 in
theorem t_isPost {l : Launch} {d : Nat} (hd : 0 < d) {h : mm_H} {n : Nat} (h1 : 1 ≤ n) (h8 : n ≤ 8) (hn : h 16 0 = nI n) (x : Int32) : mm_Ev l d M6_isPost [.ref 16, .int x] h (fun r h' => r = some (.int (pp_b (decide (0 ≤ x ∧ x < nI n)))) ∧ h' = h) := by
  refine mm_Ev.of (by decide +kernel) (Nat.le_of_ble_eq_true rfl) (mm_go_ok [] _ (S6_isPost l d _ _) _ _ _ _ ?_)
  dsimp only [P6_isPost, N6_isPost, mm_go, mm_in, mm_en, mm_nth, mm_put, mm_sto, mm_stoL, mm_ag, mm_dr, Nat.reduceSub, List.replicate, Option.toList, List.cons_append, List.nil_append, se_int, se_lng, se_iload, se_lload, se_aload, se_istore, se_lstore, se_astore, se_iinc, se_iadd, se_isub, se_imul, se_iand, se_ior, se_ixor, se_ishl, se_ishr, se_iushr, se_ladd, se_lsub, se_lmul, se_idiv, se_irem, se_ldiv, se_lrem, se_i2l, se_lcmp, se_dup, se_pop, se_dup2, se_goto, se_if_eq, se_icmp_eq, se_if_ne, se_icmp_ne, se_if_lt, se_icmp_lt, se_if_ge, se_icmp_ge, se_if_gt, se_icmp_gt, se_if_le, se_icmp_le, se_iaload, se_iastore, se_alen, se_places, se_getI, se_getR, se_put, se_ret, se_lret, se_vret, mm_sw, se_switch, se_callS, se_callV, se_copy, se_max, se_min, mm_len_2, mm_len_3, mm_len_4, mm_len_6, mm_len_8, mm_len_10, mm_len_11, mm_len_12, mm_len_13, mm_len_14, mm_len_15, mm_len_17, mm_len_18, mm_len_19, mm_len_20, mm_len_21, mm_len_22, mm_len_23, mm_len_24, mm_len_25]
  try simp only [eq_self, true_and, and_true, Bool.false_eq_true, false_implies, true_implies, true_or, or_true, mm_numI, mm_numL, mm_numN, pp_i10, pp_i01, pp_im1, not_false_eq_true, not_true_eq_false, false_or, or_false]
  refine ⟨0, _, hd, t_in l 0 h _ _ _, rfl, rfl, ?_⟩
  rintro _ _ ⟨rfl, rfl⟩
  dsimp only [mm_go, mm_in, mm_en, mm_nth, mm_put, mm_sto, mm_stoL, mm_ag, mm_dr, Nat.reduceSub, List.replicate, Option.toList, List.cons_append, List.nil_append, se_int, se_lng, se_iload, se_lload, se_aload, se_istore, se_lstore, se_astore, se_iinc, se_iadd, se_isub, se_imul, se_iand, se_ior, se_ixor, se_ishl, se_ishr, se_iushr, se_ladd, se_lsub, se_lmul, se_idiv, se_irem, se_ldiv, se_lrem, se_i2l, se_lcmp, se_dup, se_pop, se_dup2, se_goto, se_if_eq, se_icmp_eq, se_if_ne, se_icmp_ne, se_if_lt, se_icmp_lt, se_if_ge, se_icmp_ge, se_if_gt, se_icmp_gt, se_if_le, se_icmp_le, se_iaload, se_iastore, se_alen, se_places, se_getI, se_getR, se_put, se_ret, se_lret, se_vret, mm_sw, se_switch, se_callS, se_callV, se_copy, se_max, se_min, mm_len_2, mm_len_3, mm_len_4, mm_len_6, mm_len_8, mm_len_10, mm_len_11, mm_len_12, mm_len_13, mm_len_14, mm_len_15, mm_len_17, mm_len_18, mm_len_19, mm_len_20, mm_len_21, mm_len_22, mm_len_23, mm_len_24, mm_len_25]
  try simp only [eq_self, true_and, and_true, Bool.false_eq_true, false_implies, true_implies, true_or, or_true, mm_numI, mm_numL, mm_numN, pp_i10, pp_i01, pp_im1, not_false_eq_true, not_true_eq_false, false_or, or_false]
  rw [hn]
  have e : decide ((0 : Int64) ≤ x.toInt64 ∧ x.toInt64 ≤ (nI n - 1).toInt64) = decide (0 ≤ x ∧ x < nI n) := by
    apply decide_eq_decide.mpr
    rw [show (0 : Int64) = (0 : Int32).toInt64 from rfl, pp_i2l_le, pp_i2l_le]
    obtain ⟨k, rfl⟩ : ∃ k, n = k + 1 := ⟨n - 1, by omega⟩
    rw [nI_pred, Int32.le_iff_toInt_le, Int32.le_iff_toInt_le, Int32.lt_iff_toInt_lt, nI_toInt (by omega), nI_toInt (by omega)]
    omega
  rw [e]
  exact ⟨rfl, pp_b01 _⟩
set_option maxRecDepth 20000 in
theorem t_areNear {l : Launch} {d : Nat} {h : mm_H} {n : Nat} {A mk : Nat → Nat} (hN : dd_N h n A mk) {p q : Nat} (hp : p < 8) (hq : q < 8) : mm_Ev l d M6_areNear [.ref 16, .int (nI p), .int (nI q)] h (fun r h' => r = some (.int (pp_b ((A p).testBit q))) ∧ h' = h) := by
  obtain ⟨n1, n8, hn, hA, hm, hA8, hm4⟩ := hN
  refine mm_Ev.of (by decide +kernel) (Nat.le_of_ble_eq_true rfl) (mm_go_ok [] _ (S6_areNear l d _ _) _ _ _ _ ?_)
  dsimp only [P6_areNear, N6_areNear, mm_go, mm_in, mm_en, mm_nth, mm_put, mm_sto, mm_stoL, mm_ag, mm_dr, Nat.reduceSub, List.replicate, Option.toList, List.cons_append, List.nil_append, se_int, se_lng, se_iload, se_lload, se_aload, se_istore, se_lstore, se_astore, se_iinc, se_iadd, se_isub, se_imul, se_iand, se_ior, se_ixor, se_ishl, se_ishr, se_iushr, se_ladd, se_lsub, se_lmul, se_idiv, se_irem, se_ldiv, se_lrem, se_i2l, se_lcmp, se_dup, se_pop, se_dup2, se_goto, se_if_eq, se_icmp_eq, se_if_ne, se_icmp_ne, se_if_lt, se_icmp_lt, se_if_ge, se_icmp_ge, se_if_gt, se_icmp_gt, se_if_le, se_icmp_le, se_iaload, se_iastore, se_alen, se_places, se_getI, se_getR, se_put, se_ret, se_lret, se_vret, mm_sw, se_switch, se_callS, se_callV, se_copy, se_max, se_min, mm_len_2, mm_len_3, mm_len_4, mm_len_6, mm_len_8, mm_len_10, mm_len_11, mm_len_12, mm_len_13, mm_len_14, mm_len_15, mm_len_17, mm_len_18, mm_len_19, mm_len_20, mm_len_21, mm_len_22, mm_len_23, mm_len_24, mm_len_25]
  try simp only [eq_self, true_and, and_true, Bool.false_eq_true, false_implies, true_implies, true_or, or_true, mm_numI, mm_numL, mm_numN, pp_i10, pp_i01, pp_im1, not_false_eq_true, not_true_eq_false, false_or, or_false]
  rw [nI_clamp (show p < 2 ^ 31 by omega), hA p hp, pp_bit1 (Nat.lt_trans (hA8 p) (by decide)) (by omega)]
  exact ⟨vp_in_nI hp (by decide), fun hc => pp_b0 (by simpa using hc), fun hc => pp_b1 hc⟩
set_option maxRecDepth 20000 in
theorem t_isGood_loop {l : Launch} {d : Nat} (hd : 0 < d) {E : mm_X} {h : mm_H} {n : Nat} {A mk : Nat → Nat} (hN : dd_N h n A mk) {p : Nat} (hp : p < 8) : ∀ (k q : Nat), q + k = n → mm_At l d M6_isGood E (fun r h' => r = some (.int (pp_b (jj_good n A mk p))) ∧ h' = h) 4 [some (.ref 16), some (.int (nI p)), some (.int (pp_b (pp_any (fun q => (A p).testBit q && decide (mk q = 1)) q))), some (.int (nI q))] [] h := by
  have hN' := hN
  obtain ⟨n1, n8, hn, hA, hm, hA8, hm4⟩ := hN
  intro k
  induction k with
  | zero =>
    intro q hq
    have hqn : q = n := by omega
    subst hqn
    refine mm_go_ok [] _ (S6_isGood l d _ _) _ _ _ _ ?_
    dsimp only [P6_isGood, N6_isGood, mm_go, mm_in, mm_en, mm_nth, mm_put, mm_sto, mm_stoL, mm_ag, mm_dr, Nat.reduceSub, List.replicate, Option.toList, List.cons_append, List.nil_append, se_int, se_lng, se_iload, se_lload, se_aload, se_istore, se_lstore, se_astore, se_iinc, se_iadd, se_isub, se_imul, se_iand, se_ior, se_ixor, se_ishl, se_ishr, se_iushr, se_ladd, se_lsub, se_lmul, se_idiv, se_irem, se_ldiv, se_lrem, se_i2l, se_lcmp, se_dup, se_pop, se_dup2, se_goto, se_if_eq, se_icmp_eq, se_if_ne, se_icmp_ne, se_if_lt, se_icmp_lt, se_if_ge, se_icmp_ge, se_if_gt, se_icmp_gt, se_if_le, se_icmp_le, se_iaload, se_iastore, se_alen, se_places, se_getI, se_getR, se_put, se_ret, se_lret, se_vret, mm_sw, se_switch, se_callS, se_callV, se_copy, se_max, se_min, mm_len_2, mm_len_3, mm_len_4, mm_len_6, mm_len_8, mm_len_10, mm_len_11, mm_len_12, mm_len_13, mm_len_14, mm_len_15, mm_len_17, mm_len_18, mm_len_19, mm_len_20, mm_len_21, mm_len_22, mm_len_23, mm_len_24, mm_len_25]
    try simp only [eq_self, true_and, and_true, Bool.false_eq_true, false_implies, true_implies, true_or, or_true, mm_numI, mm_numL, mm_numN, pp_i10, pp_i01, pp_im1, not_false_eq_true, not_true_eq_false, false_or, or_false]
    have em : (nI (mk p) = 1) ↔ decide (mk p = 1) = true := by
      rw [decide_eq_true_eq]
      exact pp_eq1 (Nat.lt_trans (hm4 p) (by decide))
    rw [hn, nI_clamp (show p < 2 ^ 31 by omega), hm p hp, em]
    refine ⟨fun _ => ⟨vp_in_nI hp (by decide), fun hc => ?_, fun hc => ?_⟩, fun hc => absurd (nI_le (by omega) (by omega)) hc⟩
    · unfold jj_good
      cases pp_any (fun q => (A p).testBit q && decide (mk q = 1)) q <;> simp [pp_b, hc] <;> decide
    · unfold jj_good
      cases pp_any (fun q => (A p).testBit q && decide (mk q = 1)) q <;> simp [pp_b, hc] <;> decide
  | succ k ih =>
    intro q hq
    have ih := ih (q + 1) (by omega)
    refine mm_go_ok [] _ (S6_isGood l d _ _) _ _ _ _ ?_
    dsimp only [P6_isGood, N6_isGood, mm_go, mm_in, mm_en, mm_nth, mm_put, mm_sto, mm_stoL, mm_ag, mm_dr, Nat.reduceSub, List.replicate, Option.toList, List.cons_append, List.nil_append, se_int, se_lng, se_iload, se_lload, se_aload, se_istore, se_lstore, se_astore, se_iinc, se_iadd, se_isub, se_imul, se_iand, se_ior, se_ixor, se_ishl, se_ishr, se_iushr, se_ladd, se_lsub, se_lmul, se_idiv, se_irem, se_ldiv, se_lrem, se_i2l, se_lcmp, se_dup, se_pop, se_dup2, se_goto, se_if_eq, se_icmp_eq, se_if_ne, se_icmp_ne, se_if_lt, se_icmp_lt, se_if_ge, se_icmp_ge, se_if_gt, se_icmp_gt, se_if_le, se_icmp_le, se_iaload, se_iastore, se_alen, se_places, se_getI, se_getR, se_put, se_ret, se_lret, se_vret, mm_sw, se_switch, se_callS, se_callV, se_copy, se_max, se_min, mm_len_2, mm_len_3, mm_len_4, mm_len_6, mm_len_8, mm_len_10, mm_len_11, mm_len_12, mm_len_13, mm_len_14, mm_len_15, mm_len_17, mm_len_18, mm_len_19, mm_len_20, mm_len_21, mm_len_22, mm_len_23, mm_len_24, mm_len_25]
    try simp only [eq_self, true_and, and_true, Bool.false_eq_true, false_implies, true_implies, true_or, or_true, mm_numI, mm_numL, mm_numN, pp_i10, pp_i01, pp_im1, not_false_eq_true, not_true_eq_false, false_or, or_false]
    rw [hn, nI_1, nI_clamp (show q < 2 ^ 31 by omega), pp_bne, pp_beq]
    refine ⟨fun hc => absurd hc (nI_ge (by omega) (by omega)), fun _ => ⟨fun hs => ?_, fun hs => ?_⟩⟩
    · have e : pp_any (fun q => (A p).testBit q && decide (mk q = 1)) (q + 1) = true := by
        show (pp_any _ q || _) = true
        rw [hs, Bool.true_or]
      rw [e] at ih
      exact ih
    · have hs : pp_any (fun q => (A p).testBit q && decide (mk q = 1)) q = false := by simpa using hs
      have e : pp_any (fun q => (A p).testBit q && decide (mk q = 1)) (q + 1) = ((A p).testBit q && decide (mk q = 1)) := by
        show (pp_any _ q || _) = _
        rw [hs, Bool.false_or]
      rw [e] at ih
      refine ⟨0, _, hd, t_areNear hN' hp (by omega), rfl, ?_⟩
      rintro _ _ ⟨rfl, rfl⟩
      dsimp only [mm_go, mm_in, mm_en, mm_nth, mm_put, mm_sto, mm_stoL, mm_ag, mm_dr, Nat.reduceSub, List.replicate, Option.toList, List.cons_append, List.nil_append, se_int, se_lng, se_iload, se_lload, se_aload, se_istore, se_lstore, se_astore, se_iinc, se_iadd, se_isub, se_imul, se_iand, se_ior, se_ixor, se_ishl, se_ishr, se_iushr, se_ladd, se_lsub, se_lmul, se_idiv, se_irem, se_ldiv, se_lrem, se_i2l, se_lcmp, se_dup, se_pop, se_dup2, se_goto, se_if_eq, se_icmp_eq, se_if_ne, se_icmp_ne, se_if_lt, se_icmp_lt, se_if_ge, se_icmp_ge, se_if_gt, se_icmp_gt, se_if_le, se_icmp_le, se_iaload, se_iastore, se_alen, se_places, se_getI, se_getR, se_put, se_ret, se_lret, se_vret, mm_sw, se_switch, se_callS, se_callV, se_copy, se_max, se_min, mm_len_2, mm_len_3, mm_len_4, mm_len_6, mm_len_8, mm_len_10, mm_len_11, mm_len_12, mm_len_13, mm_len_14, mm_len_15, mm_len_17, mm_len_18, mm_len_19, mm_len_20, mm_len_21, mm_len_22, mm_len_23, mm_len_24, mm_len_25]
      try simp only [eq_self, true_and, and_true, Bool.false_eq_true, false_implies, true_implies, true_or, or_true, mm_numI, mm_numL, mm_numN, pp_i10, pp_i01, pp_im1, not_false_eq_true, not_true_eq_false, false_or, or_false]
      rw [pp_bne, pp_beq, hm q (by omega), pp_eq1 (Nat.lt_trans (hm4 q) (by decide))]
      refine ⟨fun hb => ?_, fun hb => ⟨vp_in_nI (by omega) (by decide), fun hb2 => ?_, fun hb2 => ?_⟩⟩
      · rw [hb, Bool.false_and] at ih
        exact ih
      · rw [decide_eq_false hb2, Bool.and_false] at ih
        exact ih
      · rw [hb, decide_eq_true hb2] at ih
        exact ih
set_option maxRecDepth 20000 in
theorem t_isGood {l : Launch} {d : Nat} (hd : 0 < d) {h : mm_H} {n : Nat} {A mk : Nat → Nat} (hN : dd_N h n A mk) {p : Nat} (hp : p < 8) : mm_Ev l d M6_isGood [.ref 16, .int (nI p)] h (fun r h' => r = some (.int (pp_b (jj_good n A mk p))) ∧ h' = h) := by
  refine mm_Ev.of (by decide +kernel) (Nat.le_of_ble_eq_true rfl) (mm_go_ok [4] _ (S6_isGood l d _ _) _ _ _ _ ?_)
  dsimp only [P6_isGood, N6_isGood, mm_go, mm_in, mm_en, mm_nth, mm_put, mm_sto, mm_stoL, mm_ag, mm_dr, Nat.reduceSub, List.replicate, Option.toList, List.cons_append, List.nil_append, se_int, se_lng, se_iload, se_lload, se_aload, se_istore, se_lstore, se_astore, se_iinc, se_iadd, se_isub, se_imul, se_iand, se_ior, se_ixor, se_ishl, se_ishr, se_iushr, se_ladd, se_lsub, se_lmul, se_idiv, se_irem, se_ldiv, se_lrem, se_i2l, se_lcmp, se_dup, se_pop, se_dup2, se_goto, se_if_eq, se_icmp_eq, se_if_ne, se_icmp_ne, se_if_lt, se_icmp_lt, se_if_ge, se_icmp_ge, se_if_gt, se_icmp_gt, se_if_le, se_icmp_le, se_iaload, se_iastore, se_alen, se_places, se_getI, se_getR, se_put, se_ret, se_lret, se_vret, mm_sw, se_switch, se_callS, se_callV, se_copy, se_max, se_min, mm_len_2, mm_len_3, mm_len_4, mm_len_6, mm_len_8, mm_len_10, mm_len_11, mm_len_12, mm_len_13, mm_len_14, mm_len_15, mm_len_17, mm_len_18, mm_len_19, mm_len_20, mm_len_21, mm_len_22, mm_len_23, mm_len_24, mm_len_25]
  try simp only [eq_self, true_and, and_true, Bool.false_eq_true, false_implies, true_implies, true_or, or_true, mm_numI, mm_numL, mm_numN, pp_i10, pp_i01, pp_im1, not_false_eq_true, not_true_eq_false, false_or, or_false]
  exact t_isGood_loop hd hN hp n 0 (by omega)
