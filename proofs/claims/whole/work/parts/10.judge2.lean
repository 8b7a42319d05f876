/-- does post p accept, in scheme sc, with the numbers f -/
def jj_acc (n : Nat) (A mk : Nat → Nat) (sc : Nat) (f : Nat → Nat) (p : Nat) : Bool :=
  if sc = 0 then decide (f p < 2) && pp_all (fun q => !((A p).testBit q) || decide (f q ≠ f p)) n
  else if sc = 1 then decide (f p < 3) && pp_all (fun q => !((A p).testBit q) || decide (f q ≠ f p)) n
  else if sc = 2 then pp_all (fun q => !((A p).testBit q) || decide (f q / 8 = f p / 8)) n && (if f p % 8 = 0 then decide (p = f p / 8) && decide (mk p = 1) else decide (mk p ≠ 1) && pp_any (fun q => (A p).testBit q && decide (f q % 8 + 1 = f p % 8)) n)
  else if sc = 3 then decide (f p = 0) && jj_good n A mk p
  else decide (f p < 8) && (pp_all (fun q => !((A p).testBit q) || (decide (f q + 1 = f p) || decide (f q = f p + 1))) n && (decide (f p = 0) || decide (pp_cnt (fun q => (A p).testBit q && decide (f q + 1 = f p)) n = 1)))
/-- what a post can tell of its own number -/
def jj_suits (mk : Nat → Nat) (sc p v : Nat) : Bool :=
  if sc = 0 then decide (v < 2)
  else if sc = 1 then decide (v < 3)
  else if sc = 2 then (if v % 8 = 0 then decide (mk p = 1) && decide (v / 8 = p) else decide (mk p ≠ 1))
  else if sc = 3 then decide (v = 0)
  else decide (v < 8)
theorem pp_div8 {a : Nat} (h : a < 2 ^ 31) : nI a / 8 = nI (a / 8) := pk_div (d := 8) h (by decide) (by decide)
theorem pp_rem8 {a : Nat} (h : a < 2 ^ 31) : nI a - nI a / 8 * 8 = nI (a % 8) := pk_rem (d := 8) h (by decide) (by decide)
theorem pp_eqN {a b : Nat} (ha : a < 2 ^ 31) (hb : b < 2 ^ 31) : nI a = nI b ↔ a = b := nI_eq ha hb
theorem pp_eq0 {a : Nat} (ha : a < 2 ^ 31) : nI a = 0 ↔ a = 0 := nI_eq (b := 0) ha (by decide)
theorem pp_eq1 {a : Nat} (ha : a < 2 ^ 31) : nI a = 1 ↔ a = 1 := nI_eq (b := 1) ha (by decide)
theorem pp_sc {sc k : Nat} (h : sc < 5) (hk : k < 5) : nI sc = nI k ↔ sc = k := nI_eq (by omega) (by omega)
set_option maxRecDepth 20000 in
theorem t_suits {l : Launch} {d : Nat} {h : mm_H} {n : Nat} {A mk : Nat → Nat} (hN : cc_N h n A mk) {sc p v : Nat} (hsc : sc < 5) (hp : p < 8) (hv : v < 2 ^ 30) : mm_Ev l d M0_suits [.ref 1, .int (nI sc), .int (nI p), .int (nI v)] h (fun r h' => r = some (.int (pp_b (jj_suits mk sc p v))) ∧ h' = h) := by
  obtain ⟨n1, n8, hn, hA, hm, hA8, hm4⟩ := hN
  have hv' : v < 2 ^ 31 := by omega
  refine mm_Ev.of (by decide +kernel) (Nat.le_of_ble_eq_true rfl) (mm_go_ok [] _ (S0_suits l d _ _) _ _ _ _ ?_)
  dsimp only [P0_suits, N0_suits, mm_go, mm_in, mm_en, mm_nth, mm_put, mm_sto, mm_stoL, mm_ag, mm_dr, Nat.reduceSub, List.replicate, Option.toList, List.cons_append, List.nil_append, se_int, se_lng, se_iload, se_lload, se_aload, se_istore, se_lstore, se_astore, se_iinc, se_iadd, se_isub, se_imul, se_iand, se_ior, se_ixor, se_ishl, se_ishr, se_iushr, se_ladd, se_lsub, se_lmul, se_idiv, se_irem, se_ldiv, se_lrem, se_i2l, se_lcmp, se_dup, se_pop, se_dup2, se_goto, se_if_eq, se_icmp_eq, se_if_ne, se_icmp_ne, se_if_lt, se_icmp_lt, se_if_ge, se_icmp_ge, se_if_gt, se_icmp_gt, se_if_le, se_icmp_le, se_iaload, se_iastore, se_alen, se_places, se_getI, se_getR, se_put, se_ret, se_lret, se_vret, mm_sw, se_switch, se_callS, se_callV, se_copy, se_max, se_min, mm_len_2, mm_len_3, mm_len_4, mm_len_6, mm_len_8, mm_len_10, mm_len_11, mm_len_12, mm_len_13, mm_len_14, mm_len_15, mm_len_17, mm_len_18, mm_len_19, mm_len_20, mm_len_21, mm_len_22, mm_len_23, mm_len_24, mm_len_25]
  try simp only [eq_self, true_and, and_true, Bool.false_eq_true, false_implies, true_implies, true_or, or_true, mm_numI, mm_numL, mm_numN, pp_i10, pp_i01, pp_im1, not_false_eq_true, not_true_eq_false, false_or, or_false]
  have e0 : (nI sc = 0) ↔ sc = 0 := pp_eq0 (by omega)
  have e1 : (nI sc = 1) ↔ sc = 1 := pp_eq1 (by omega)
  have e2 : (nI sc = 2) ↔ sc = 2 := nI_eq (b := 2) (by omega) (by decide)
  have e3 : (nI sc = 3) ↔ sc = 3 := nI_eq (b := 3) (by omega) (by decide)
  have le2 : ((2 : Int32) ≤ nI v) ↔ 2 ≤ v := nI_leI (a := 2) (by decide) hv'
  have le3 : ((3 : Int32) ≤ nI v) ↔ 3 ≤ v := nI_leI (a := 3) (by decide) hv'
  have le8 : ((8 : Int32) ≤ nI v) ↔ 8 ≤ v := nI_leI (a := 8) (by decide) hv'
  have em : (nI (mk p) = 1) ↔ mk p = 1 := pp_eq1 (Nat.lt_trans (hm4 p) (by decide))
  have er : (nI (v % 8) = 0) ↔ v % 8 = 0 := pp_eq0 (by omega)
  have ed : (nI (v / 8) = nI p) ↔ v / 8 = p := pp_eqN (by omega) (by omega)
  rw [nI_clamp (show p < 2 ^ 31 by omega), hm p hp, e0, e1, e2, e3, le2, le3, le8, em, pp_rem8 hv', pp_div8 hv', er, ed, pp_eq0 hv']
  unfold jj_suits
  refine ⟨fun h0 => ?_, fun h0 => ⟨fun h1 => ?_, fun h1 => ⟨fun h2 => ?_, fun h2 => ⟨fun h3 => ?_, fun h3 => ?_⟩⟩⟩⟩
  · rw [if_pos h0]
    exact ⟨fun hc => pp_b0 (by simpa using hc), fun hc => pp_b1 (by simpa using hc)⟩
  · rw [if_neg h0, if_pos h1]
    exact ⟨fun hc => pp_b0 (by simpa using hc), fun hc => pp_b1 (by simpa using hc)⟩
  · rw [if_neg h0, if_neg h1, if_pos h2]
    refine ⟨vp_in_nI hp (by decide), fun hc => ⟨by decide, fun hr => ?_, fun hr => ?_⟩, fun hc => ⟨by decide, fun hr => ?_, fun hr => ?_⟩⟩
    · rw [if_neg hr]
      exact pp_b1 (by simpa using hc)
    · rw [if_pos hr]
      exact pp_b0 (by simp [hc])
    · rw [if_neg hr]
      exact pp_b0 (by simpa using hc)
    · rw [if_pos hr]
      exact ⟨by decide, fun hq => pp_b0 (by simp [hq]), fun hq => pp_b1 (by simp [hc, hq])⟩
  · rw [if_neg h0, if_neg h1, if_neg h2, if_pos h3]
    exact ⟨fun hc => pp_b0 (by simpa using hc), fun hc => pp_b1 (by simpa using hc)⟩
  · rw [if_neg h0, if_neg h1, if_neg h2, if_neg h3]
    exact ⟨fun hc => pp_b0 (by simpa using hc), fun hc => pp_b1 (by simpa using hc)⟩
def jj_fl (n : Nat) (A : Nat → Nat) (f : Nat → Nat) (p : Nat) : Bool := pp_all (fun q => !((A p).testBit q) || decide (f q / 8 = f p / 8)) n && (decide (f p % 8 = 0) || decide (0 < pp_cnt (fun q => (A p).testBit q && decide (nI (f q) = nI (f p) - 1)) n))
theorem pp_le0 {a : Nat} (h : a < 2 ^ 31) : nI a ≤ 0 ↔ a = 0 := by
  have := nI_leI (a := a) (b := 0) h (by decide)
  rw [show (0 : Int32) = nI 0 from rfl, this]
  omega
set_option maxRecDepth 20000 in
theorem t_followsLeader_loop {l : Launch} {d : Nat} (hd : 0 < d) {E : mm_X} {h : mm_H} {n : Nat} {A mk f : Nat → Nat} (hN : cc_N h n A mk) {a p : Nat} (ha : mm_len a = 8) (hf : ∀ q, q < 8 → h a q = nI (f q)) (hf2 : ∀ q, f q < 2 ^ 30) (hp : p < 8) : ∀ (k q : Nat), q + k = n → pp_all (fun q => !((A p).testBit q) || decide (f q / 8 = f p / 8)) q = true → mm_At l d M0_followsLeader E (fun r h' => r = some (.int (pp_b (jj_fl n A f p))) ∧ h' = h) 10 [some (.ref 1), some (.ref a), some (.int (nI p)), some (.int (nI (f p / 8))), some (.int (nI q))] [] h := by
  have hN' := hN
  obtain ⟨n1, n8, hn, hA, hm, hA8, hm4⟩ := hN
  have hfp := hf2 p
  intro k
  induction k with
  | zero =>
    intro q hq hall
    have hqn : q = n := by omega
    subst hqn
    refine mm_go_ok [] _ (S0_followsLeader l d _ _) _ _ _ _ ?_
    dsimp only [P0_followsLeader, N0_followsLeader, mm_go, mm_in, mm_en, mm_nth, mm_put, mm_sto, mm_stoL, mm_ag, mm_dr, Nat.reduceSub, List.replicate, Option.toList, List.cons_append, List.nil_append, se_int, se_lng, se_iload, se_lload, se_aload, se_istore, se_lstore, se_astore, se_iinc, se_iadd, se_isub, se_imul, se_iand, se_ior, se_ixor, se_ishl, se_ishr, se_iushr, se_ladd, se_lsub, se_lmul, se_idiv, se_irem, se_ldiv, se_lrem, se_i2l, se_lcmp, se_dup, se_pop, se_dup2, se_goto, se_if_eq, se_icmp_eq, se_if_ne, se_icmp_ne, se_if_lt, se_icmp_lt, se_if_ge, se_icmp_ge, se_if_gt, se_icmp_gt, se_if_le, se_icmp_le, se_iaload, se_iastore, se_alen, se_places, se_getI, se_getR, se_put, se_ret, se_lret, se_vret, mm_sw, se_switch, se_callS, se_callV, se_copy, se_max, se_min, mm_len_2, mm_len_3, mm_len_4, mm_len_6, mm_len_8, mm_len_10, mm_len_11, mm_len_12, mm_len_13, mm_len_14, mm_len_15, mm_len_17, mm_len_18, mm_len_19, mm_len_20, mm_len_21, mm_len_22, mm_len_23, mm_len_24, mm_len_25]
    try simp only [eq_self, true_and, and_true, Bool.false_eq_true, false_implies, true_implies, true_or, or_true, mm_numI, mm_numL, mm_numN, pp_i10, pp_i01, pp_im1, not_false_eq_true, not_true_eq_false, false_or, or_false]
    have er : (nI (f p % 8) = 0) ↔ f p % 8 = 0 := pp_eq0 (by omega)
    rw [hn, ha, nI_clamp (show p < 2 ^ 31 by omega), hf p hp, pp_rem8 (by omega), er]
    refine ⟨fun _ => ⟨vp_in_nI hp (by decide), by decide, fun hr => pp_b1 (by unfold jj_fl; rw [hall]; simp [hr]), fun hr => ?_⟩, fun hc => absurd (nI_le (by omega) (by omega)) hc⟩
    refine ⟨vp_in_nI hp (by decide), 0, _, hd, t_nearWith hN' ha hf hp _, rfl, rfl, ?_⟩
    rintro _ _ ⟨rfl, rfl⟩
    dsimp only [mm_go, mm_in, mm_en, mm_nth, mm_put, mm_sto, mm_stoL, mm_ag, mm_dr, Nat.reduceSub, List.replicate, Option.toList, List.cons_append, List.nil_append, se_int, se_lng, se_iload, se_lload, se_aload, se_istore, se_lstore, se_astore, se_iinc, se_iadd, se_isub, se_imul, se_iand, se_ior, se_ixor, se_ishl, se_ishr, se_iushr, se_ladd, se_lsub, se_lmul, se_idiv, se_irem, se_ldiv, se_lrem, se_i2l, se_lcmp, se_dup, se_pop, se_dup2, se_goto, se_if_eq, se_icmp_eq, se_if_ne, se_icmp_ne, se_if_lt, se_icmp_lt, se_if_ge, se_icmp_ge, se_if_gt, se_icmp_gt, se_if_le, se_icmp_le, se_iaload, se_iastore, se_alen, se_places, se_getI, se_getR, se_put, se_ret, se_lret, se_vret, mm_sw, se_switch, se_callS, se_callV, se_copy, se_max, se_min, mm_len_2, mm_len_3, mm_len_4, mm_len_6, mm_len_8, mm_len_10, mm_len_11, mm_len_12, mm_len_13, mm_len_14, mm_len_15, mm_len_17, mm_len_18, mm_len_19, mm_len_20, mm_len_21, mm_len_22, mm_len_23, mm_len_24, mm_len_25]
    try simp only [eq_self, true_and, and_true, Bool.false_eq_true, false_implies, true_implies, true_or, or_true, mm_numI, mm_numL, mm_numN, pp_i10, pp_i01, pp_im1, not_false_eq_true, not_true_eq_false, false_or, or_false]
    rw [pp_le0 (Nat.lt_of_le_of_lt (pp_cnt_le _ _) (by omega))]
    exact ⟨fun hc => pp_b0 (by unfold jj_fl; simp [hc, hr]), fun hc => pp_b1 (by unfold jj_fl; rw [hall]; simp; omega)⟩
  | succ k ih =>
    intro q hq hall
    refine mm_go_ok [] _ (S0_followsLeader l d _ _) _ _ _ _ ?_
    dsimp only [P0_followsLeader, N0_followsLeader, mm_go, mm_in, mm_en, mm_nth, mm_put, mm_sto, mm_stoL, mm_ag, mm_dr, Nat.reduceSub, List.replicate, Option.toList, List.cons_append, List.nil_append, se_int, se_lng, se_iload, se_lload, se_aload, se_istore, se_lstore, se_astore, se_iinc, se_iadd, se_isub, se_imul, se_iand, se_ior, se_ixor, se_ishl, se_ishr, se_iushr, se_ladd, se_lsub, se_lmul, se_idiv, se_irem, se_ldiv, se_lrem, se_i2l, se_lcmp, se_dup, se_pop, se_dup2, se_goto, se_if_eq, se_icmp_eq, se_if_ne, se_icmp_ne, se_if_lt, se_icmp_lt, se_if_ge, se_icmp_ge, se_if_gt, se_icmp_gt, se_if_le, se_icmp_le, se_iaload, se_iastore, se_alen, se_places, se_getI, se_getR, se_put, se_ret, se_lret, se_vret, mm_sw, se_switch, se_callS, se_callV, se_copy, se_max, se_min, mm_len_2, mm_len_3, mm_len_4, mm_len_6, mm_len_8, mm_len_10, mm_len_11, mm_len_12, mm_len_13, mm_len_14, mm_len_15, mm_len_17, mm_len_18, mm_len_19, mm_len_20, mm_len_21, mm_len_22, mm_len_23, mm_len_24, mm_len_25]
    try simp only [eq_self, true_and, and_true, Bool.false_eq_true, false_implies, true_implies, true_or, or_true, mm_numI, mm_numL, mm_numN, pp_i10, pp_i01, pp_im1, not_false_eq_true, not_true_eq_false, false_or, or_false]
    have hfq := hf2 q
    have ed : (nI (f q / 8) = nI (f p / 8)) ↔ f q / 8 = f p / 8 := pp_eqN (by omega) (by omega)
    rw [hn, ha, nI_clamp (show p < 2 ^ 31 by omega), nI_clamp (show q < 2 ^ 31 by omega), hA p hp, hf q (by omega), nI_1, pp_bit1 (Nat.lt_trans (hA8 p) (by decide)) (by omega), pp_div8 (by omega), ed]
    refine ⟨fun hc => absurd hc (nI_ge (by omega) (by omega)), fun _ => ⟨vp_in_nI hp (by decide), fun hb => ih (q + 1) (by omega) ?_, fun hb => ⟨vp_in_nI (by omega) (by decide), by decide, fun hv => ih (q + 1) (by omega) ?_, fun hv => pp_b0 ?_⟩⟩⟩
    · unfold pp_all
      rw [hall]
      simp [hb]
    · unfold pp_all
      rw [hall]
      simp [hv]
    · unfold jj_fl
      rw [Bool.and_eq_false_iff]
      refine Or.inl (Bool.eq_false_iff.mpr (fun hc => ?_))
      have := pp_all_iff.mp hc q (by omega)
      simp [hb, hv] at this
set_option maxRecDepth 20000 in
theorem t_followsLeader {l : Launch} {d : Nat} (hd : 0 < d) {h : mm_H} {n : Nat} {A mk f : Nat → Nat} (hN : cc_N h n A mk) {a p : Nat} (ha : mm_len a = 8) (hf : ∀ q, q < 8 → h a q = nI (f q)) (hf2 : ∀ q, f q < 2 ^ 30) (hp : p < 8) : mm_Ev l d M0_followsLeader [.ref 1, .ref a, .int (nI p)] h (fun r h' => r = some (.int (pp_b (jj_fl n A f p))) ∧ h' = h) := by
  refine mm_Ev.of (by decide +kernel) (Nat.le_of_ble_eq_true rfl) (mm_go_ok [10] _ (S0_followsLeader l d _ _) _ _ _ _ ?_)
  dsimp only [P0_followsLeader, N0_followsLeader, mm_go, mm_in, mm_en, mm_nth, mm_put, mm_sto, mm_stoL, mm_ag, mm_dr, Nat.reduceSub, List.replicate, Option.toList, List.cons_append, List.nil_append, se_int, se_lng, se_iload, se_lload, se_aload, se_istore, se_lstore, se_astore, se_iinc, se_iadd, se_isub, se_imul, se_iand, se_ior, se_ixor, se_ishl, se_ishr, se_iushr, se_ladd, se_lsub, se_lmul, se_idiv, se_irem, se_ldiv, se_lrem, se_i2l, se_lcmp, se_dup, se_pop, se_dup2, se_goto, se_if_eq, se_icmp_eq, se_if_ne, se_icmp_ne, se_if_lt, se_icmp_lt, se_if_ge, se_icmp_ge, se_if_gt, se_icmp_gt, se_if_le, se_icmp_le, se_iaload, se_iastore, se_alen, se_places, se_getI, se_getR, se_put, se_ret, se_lret, se_vret, mm_sw, se_switch, se_callS, se_callV, se_copy, se_max, se_min, mm_len_2, mm_len_3, mm_len_4, mm_len_6, mm_len_8, mm_len_10, mm_len_11, mm_len_12, mm_len_13, mm_len_14, mm_len_15, mm_len_17, mm_len_18, mm_len_19, mm_len_20, mm_len_21, mm_len_22, mm_len_23, mm_len_24, mm_len_25]
  try simp only [eq_self, true_and, and_true, Bool.false_eq_true, false_implies, true_implies, true_or, or_true, mm_numI, mm_numL, mm_numN, pp_i10, pp_i01, pp_im1, not_false_eq_true, not_true_eq_false, false_or, or_false]
  have hfp := hf2 p
  rw [ha, nI_clamp (show p < 2 ^ 31 by omega), hf p hp, pp_div8 (by omega)]
  exact ⟨vp_in_nI hp (by decide), by decide, t_followsLeader_loop hd hN ha hf hf2 hp n 0 (by omega) rfl⟩
def jj_ho (n : Nat) (A : Nat → Nat) (f : Nat → Nat) (p : Nat) : Bool := decide (pp_cnt (fun q => (A p).testBit q && decide (nI (f q) = nI (f p) - 1)) n = (if f p = 0 then 0 else 1)) && decide (pp_cnt (fun q => (A p).testBit q && decide (nI (f q) = nI (f p) - 1)) n + pp_cnt (fun q => (A p).testBit q && decide (nI (f q) = nI (f p) + 1)) n = pp_pop (A p))
set_option maxRecDepth 20000 in
theorem t_hangsOnOne {l : Launch} {d : Nat} (hd : 0 < d) {h : mm_H} {n : Nat} {A mk f : Nat → Nat} (hN : cc_N h n A mk) {a p : Nat} (ha : mm_len a = 8) (hf : ∀ q, q < 8 → h a q = nI (f q)) (hf2 : ∀ q, f q < 2 ^ 30) (hp : p < 8) : mm_Ev l d M0_hangsOnOne [.ref 1, .ref a, .int (nI p)] h (fun r h' => r = some (.int (pp_b (jj_ho n A f p))) ∧ h' = h) := by
  have hN' := hN
  obtain ⟨n1, n8, hn, hA, hm, hA8, hm4⟩ := hN
  have hfp := hf2 p
  refine mm_Ev.of (by decide +kernel) (Nat.le_of_ble_eq_true rfl) (mm_go_ok [] _ (S0_hangsOnOne l d _ _) _ _ _ _ ?_)
  dsimp only [P0_hangsOnOne, N0_hangsOnOne, mm_go, mm_in, mm_en, mm_nth, mm_put, mm_sto, mm_stoL, mm_ag, mm_dr, Nat.reduceSub, List.replicate, Option.toList, List.cons_append, List.nil_append, se_int, se_lng, se_iload, se_lload, se_aload, se_istore, se_lstore, se_astore, se_iinc, se_iadd, se_isub, se_imul, se_iand, se_ior, se_ixor, se_ishl, se_ishr, se_iushr, se_ladd, se_lsub, se_lmul, se_idiv, se_irem, se_ldiv, se_lrem, se_i2l, se_lcmp, se_dup, se_pop, se_dup2, se_goto, se_if_eq, se_icmp_eq, se_if_ne, se_icmp_ne, se_if_lt, se_icmp_lt, se_if_ge, se_icmp_ge, se_if_gt, se_icmp_gt, se_if_le, se_icmp_le, se_iaload, se_iastore, se_alen, se_places, se_getI, se_getR, se_put, se_ret, se_lret, se_vret, mm_sw, se_switch, se_callS, se_callV, se_copy, se_max, se_min, mm_len_2, mm_len_3, mm_len_4, mm_len_6, mm_len_8, mm_len_10, mm_len_11, mm_len_12, mm_len_13, mm_len_14, mm_len_15, mm_len_17, mm_len_18, mm_len_19, mm_len_20, mm_len_21, mm_len_22, mm_len_23, mm_len_24, mm_len_25]
  try simp only [eq_self, true_and, and_true, Bool.false_eq_true, false_implies, true_implies, true_or, or_true, mm_numI, mm_numL, mm_numN, pp_i10, pp_i01, pp_im1, not_false_eq_true, not_true_eq_false, false_or, or_false]
  rw [ha, nI_clamp (show p < 2 ^ 31 by omega), hf p hp]
  refine ⟨vp_in_nI hp (by decide), 0, _, hd, t_nearWith hN' ha hf hp _, rfl, rfl, ?_⟩
  rintro _ _ ⟨rfl, rfl⟩
  dsimp only [mm_go, mm_in, mm_en, mm_nth, mm_put, mm_sto, mm_stoL, mm_ag, mm_dr, Nat.reduceSub, List.replicate, Option.toList, List.cons_append, List.nil_append, se_int, se_lng, se_iload, se_lload, se_aload, se_istore, se_lstore, se_astore, se_iinc, se_iadd, se_isub, se_imul, se_iand, se_ior, se_ixor, se_ishl, se_ishr, se_iushr, se_ladd, se_lsub, se_lmul, se_idiv, se_irem, se_ldiv, se_lrem, se_i2l, se_lcmp, se_dup, se_pop, se_dup2, se_goto, se_if_eq, se_icmp_eq, se_if_ne, se_icmp_ne, se_if_lt, se_icmp_lt, se_if_ge, se_icmp_ge, se_if_gt, se_icmp_gt, se_if_le, se_icmp_le, se_iaload, se_iastore, se_alen, se_places, se_getI, se_getR, se_put, se_ret, se_lret, se_vret, mm_sw, se_switch, se_callS, se_callV, se_copy, se_max, se_min, mm_len_2, mm_len_3, mm_len_4, mm_len_6, mm_len_8, mm_len_10, mm_len_11, mm_len_12, mm_len_13, mm_len_14, mm_len_15, mm_len_17, mm_len_18, mm_len_19, mm_len_20, mm_len_21, mm_len_22, mm_len_23, mm_len_24, mm_len_25]
  try simp only [eq_self, true_and, and_true, Bool.false_eq_true, false_implies, true_implies, true_or, or_true, mm_numI, mm_numL, mm_numN, pp_i10, pp_i01, pp_im1, not_false_eq_true, not_true_eq_false, false_or, or_false]
  rw [hf p hp]
  refine ⟨vp_in_nI hp (by decide), 0, _, hd, t_nearWith hN' ha hf hp _, rfl, rfl, ?_⟩
  rintro _ _ ⟨rfl, rfl⟩
  dsimp only [mm_go, mm_in, mm_en, mm_nth, mm_put, mm_sto, mm_stoL, mm_ag, mm_dr, Nat.reduceSub, List.replicate, Option.toList, List.cons_append, List.nil_append, se_int, se_lng, se_iload, se_lload, se_aload, se_istore, se_lstore, se_astore, se_iinc, se_iadd, se_isub, se_imul, se_iand, se_ior, se_ixor, se_ishl, se_ishr, se_iushr, se_ladd, se_lsub, se_lmul, se_idiv, se_irem, se_ldiv, se_lrem, se_i2l, se_lcmp, se_dup, se_pop, se_dup2, se_goto, se_if_eq, se_icmp_eq, se_if_ne, se_icmp_ne, se_if_lt, se_icmp_lt, se_if_ge, se_icmp_ge, se_if_gt, se_icmp_gt, se_if_le, se_icmp_le, se_iaload, se_iastore, se_alen, se_places, se_getI, se_getR, se_put, se_ret, se_lret, se_vret, mm_sw, se_switch, se_callS, se_callV, se_copy, se_max, se_min, mm_len_2, mm_len_3, mm_len_4, mm_len_6, mm_len_8, mm_len_10, mm_len_11, mm_len_12, mm_len_13, mm_len_14, mm_len_15, mm_len_17, mm_len_18, mm_len_19, mm_len_20, mm_len_21, mm_len_22, mm_len_23, mm_len_24, mm_len_25]
  try simp only [eq_self, true_and, and_true, Bool.false_eq_true, false_implies, true_implies, true_or, or_true, mm_numI, mm_numL, mm_numN, pp_i10, pp_i01, pp_im1, not_false_eq_true, not_true_eq_false, false_or, or_false]
  have l1 := pp_cnt_le (fun q => (A p).testBit q && decide (nI (f q) = nI (f p) - 1)) n
  have l2 := pp_cnt_le (fun q => (A p).testBit q && decide (nI (f q) = nI (f p) + 1)) n
  have l3 : pp_pop (A p) ≤ 8 := pp_cnt_le _ _
  rw [hf p hp, hA p hp, pp_eq0 (show f p < 2 ^ 31 by omega), pp_eq0 (show pp_cnt (fun q => (A p).testBit q && decide (nI (f q) = nI (f p) - 1)) n < 2 ^ 31 by omega), pp_eq1 (show pp_cnt (fun q => (A p).testBit q && decide (nI (f q) = nI (f p) - 1)) n < 2 ^ 31 by omega)]
  refine ⟨vp_in_nI hp (by decide), fun h0 => ⟨fun h1 => ?_, fun h1 => ?_⟩, fun h0 => ⟨fun h1 => ?_, fun h1 => ?_⟩⟩
  · exact pp_b0 (by unfold jj_ho; rw [if_neg h0, decide_eq_false h1, Bool.false_and])
  · refine ⟨vp_in_nI hp (by decide), 0, _, hd, t_bitCount l 0 _ (A p) (hA8 p), rfl, rfl, ?_⟩
    rintro _ _ ⟨rfl, rfl⟩
    dsimp only [mm_go, mm_in, mm_en, mm_nth, mm_put, mm_sto, mm_stoL, mm_ag, mm_dr, Nat.reduceSub, List.replicate, Option.toList, List.cons_append, List.nil_append, se_int, se_lng, se_iload, se_lload, se_aload, se_istore, se_lstore, se_astore, se_iinc, se_iadd, se_isub, se_imul, se_iand, se_ior, se_ixor, se_ishl, se_ishr, se_iushr, se_ladd, se_lsub, se_lmul, se_idiv, se_irem, se_ldiv, se_lrem, se_i2l, se_lcmp, se_dup, se_pop, se_dup2, se_goto, se_if_eq, se_icmp_eq, se_if_ne, se_icmp_ne, se_if_lt, se_icmp_lt, se_if_ge, se_icmp_ge, se_if_gt, se_icmp_gt, se_if_le, se_icmp_le, se_iaload, se_iastore, se_alen, se_places, se_getI, se_getR, se_put, se_ret, se_lret, se_vret, mm_sw, se_switch, se_callS, se_callV, se_copy, se_max, se_min, mm_len_2, mm_len_3, mm_len_4, mm_len_6, mm_len_8, mm_len_10, mm_len_11, mm_len_12, mm_len_13, mm_len_14, mm_len_15, mm_len_17, mm_len_18, mm_len_19, mm_len_20, mm_len_21, mm_len_22, mm_len_23, mm_len_24, mm_len_25]
    try simp only [eq_self, true_and, and_true, Bool.false_eq_true, false_implies, true_implies, true_or, or_true, mm_numI, mm_numL, mm_numN, pp_i10, pp_i01, pp_im1, not_false_eq_true, not_true_eq_false, false_or, or_false]
    rw [nI_add, pp_eqN (by omega) (by omega)]
    exact ⟨fun h2 => pp_b0 (by unfold jj_ho; rw [decide_eq_false h2, Bool.and_false]), fun h2 => pp_b1 (by unfold jj_ho; rw [if_neg h0, decide_eq_true h1, decide_eq_true h2]; rfl)⟩
  · exact pp_b0 (by unfold jj_ho; rw [if_pos h0, decide_eq_false h1, Bool.false_and])
  · refine ⟨vp_in_nI hp (by decide), 0, _, hd, t_bitCount l 0 _ (A p) (hA8 p), rfl, rfl, ?_⟩
    rintro _ _ ⟨rfl, rfl⟩
    dsimp only [mm_go, mm_in, mm_en, mm_nth, mm_put, mm_sto, mm_stoL, mm_ag, mm_dr, Nat.reduceSub, List.replicate, Option.toList, List.cons_append, List.nil_append, se_int, se_lng, se_iload, se_lload, se_aload, se_istore, se_lstore, se_astore, se_iinc, se_iadd, se_isub, se_imul, se_iand, se_ior, se_ixor, se_ishl, se_ishr, se_iushr, se_ladd, se_lsub, se_lmul, se_idiv, se_irem, se_ldiv, se_lrem, se_i2l, se_lcmp, se_dup, se_pop, se_dup2, se_goto, se_if_eq, se_icmp_eq, se_if_ne, se_icmp_ne, se_if_lt, se_icmp_lt, se_if_ge, se_icmp_ge, se_if_gt, se_icmp_gt, se_if_le, se_icmp_le, se_iaload, se_iastore, se_alen, se_places, se_getI, se_getR, se_put, se_ret, se_lret, se_vret, mm_sw, se_switch, se_callS, se_callV, se_copy, se_max, se_min, mm_len_2, mm_len_3, mm_len_4, mm_len_6, mm_len_8, mm_len_10, mm_len_11, mm_len_12, mm_len_13, mm_len_14, mm_len_15, mm_len_17, mm_len_18, mm_len_19, mm_len_20, mm_len_21, mm_len_22, mm_len_23, mm_len_24, mm_len_25]
    try simp only [eq_self, true_and, and_true, Bool.false_eq_true, false_implies, true_implies, true_or, or_true, mm_numI, mm_numL, mm_numN, pp_i10, pp_i01, pp_im1, not_false_eq_true, not_true_eq_false, false_or, or_false]
    rw [nI_add, pp_eqN (by omega) (by omega)]
    exact ⟨fun h2 => pp_b0 (by unfold jj_ho; rw [decide_eq_false h2, Bool.and_false]), fun h2 => pp_b1 (by unfold jj_ho; rw [if_pos h0, decide_eq_true h1, decide_eq_true h2]; rfl)⟩
