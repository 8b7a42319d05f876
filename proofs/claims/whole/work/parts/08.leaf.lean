/-! ===== the smallest methods ===== -/
/-- the net as the class has it: n posts, neighbours as bits, marks -/
def cc_N (h : mm_H) (n : Nat) (A mk : Nat → Nat) : Prop := 1 ≤ n ∧ n ≤ 8 ∧ h 1 3 = nI n ∧ (∀ p, p < 8 → h 2 p = nI (A p)) ∧ (∀ p, p < 8 → h 3 p = nI (mk p)) ∧ (∀ p, A p < 256) ∧ (∀ p, mk p < 4)
set_option maxRecDepth 20000 in
theorem t_has (l : Launch) (d : Nat) (h : mm_H) (x : Int32) : mm_Ev l d M2_has [.ref 1, .int x] h (fun r h' => r = some (.int (if 0 ≤ x ∧ x < h 1 3 then 1 else 0)) ∧ h' = h) := by
  refine mm_Ev.of (by decide +kernel) (Nat.le_of_ble_eq_true rfl) (mm_go_ok [] _ (S2_has l d _ _) _ _ _ _ ?_)
  dsimp only [P2_has, N2_has, mm_go, mm_in, mm_en, mm_nth, mm_put, mm_sto, mm_stoL, mm_ag, mm_dr, Nat.reduceSub, List.replicate, Option.toList, List.cons_append, List.nil_append, se_int, se_lng, se_iload, se_lload, se_aload, se_istore, se_lstore, se_astore, se_iinc, se_iadd, se_isub, se_imul, se_iand, se_ior, se_ixor, se_ishl, se_ishr, se_iushr, se_ladd, se_lsub, se_lmul, se_idiv, se_irem, se_ldiv, se_lrem, se_i2l, se_lcmp, se_dup, se_pop, se_dup2, se_goto, se_if_eq, se_icmp_eq, se_if_ne, se_icmp_ne, se_if_lt, se_icmp_lt, se_if_ge, se_icmp_ge, se_if_gt, se_icmp_gt, se_if_le, se_icmp_le, se_iaload, se_iastore, se_alen, se_places, se_getI, se_getR, se_put, se_ret, se_lret, se_vret, mm_sw, se_switch, se_callS, se_callV, se_copy, se_max, se_min, mm_len_2, mm_len_3, mm_len_4, mm_len_6, mm_len_8, mm_len_10, mm_len_11, mm_len_12, mm_len_13, mm_len_14, mm_len_15, mm_len_17, mm_len_18, mm_len_19, mm_len_20, mm_len_21, mm_len_22, mm_len_23, mm_len_24, mm_len_25]
  try simp only [eq_self, true_and, and_true, Bool.false_eq_true, false_implies, true_implies, true_or, or_true, mm_numI, mm_numL, mm_numN, pp_i10, pp_i01, pp_im1, not_false_eq_true, not_true_eq_false, false_or, or_false]
  refine ⟨fun h1 => ?_, fun h1 => ⟨fun h2 => ?_, fun h2 => ?_⟩⟩
  · rw [if_neg (fun hh => ?_)]
    exact absurd hh.1 (Int32.not_le.mpr h1)
  · rw [if_neg (fun hh => ?_)]
    exact absurd hh.2 (Int32.not_lt.mpr h2)
  · rw [if_pos ⟨Int32.not_lt.mp h1, Int32.not_le.mp h2⟩]
set_option maxRecDepth 20000 in
theorem t_nearWith_loop {l : Launch} {d : Nat} {h : mm_H} {n : Nat} {A mk f : Nat → Nat} (hN : cc_N h n A mk) {a p : Nat} (ha : mm_len a = 8) (hf : ∀ q, q < 8 → h a q = nI (f q)) (hp : p < 8) (x : Int32) (E : mm_X) : ∀ (k q : Nat), q + k = n → mm_At l d M0_nearWith E (fun r h' => r = some (.int (nI (pp_cnt (fun q => (A p).testBit q && decide (nI (f q) = x)) n))) ∧ h' = h) 6 [some (.ref 1), some (.ref a), some (.int (nI p)), some (.int x), some (.int (nI (pp_cnt (fun q => (A p).testBit q && decide (nI (f q) = x)) q))), some (.int (nI q))] [] h := by
  obtain ⟨n1, n8, hn, hA, hm, hA8, hm4⟩ := hN
  have ep : (nI p).toNatClampNeg = p := nI_clamp (by omega)
  intro k
  induction k with
  | zero =>
    intro q hq
    refine mm_go_ok [] _ (S0_nearWith l d _ _) _ _ _ _ ?_
    dsimp only [P0_nearWith, N0_nearWith, mm_go, mm_in, mm_en, mm_nth, mm_put, mm_sto, mm_stoL, mm_ag, mm_dr, Nat.reduceSub, List.replicate, Option.toList, List.cons_append, List.nil_append, se_int, se_lng, se_iload, se_lload, se_aload, se_istore, se_lstore, se_astore, se_iinc, se_iadd, se_isub, se_imul, se_iand, se_ior, se_ixor, se_ishl, se_ishr, se_iushr, se_ladd, se_lsub, se_lmul, se_idiv, se_irem, se_ldiv, se_lrem, se_i2l, se_lcmp, se_dup, se_pop, se_dup2, se_goto, se_if_eq, se_icmp_eq, se_if_ne, se_icmp_ne, se_if_lt, se_icmp_lt, se_if_ge, se_icmp_ge, se_if_gt, se_icmp_gt, se_if_le, se_icmp_le, se_iaload, se_iastore, se_alen, se_places, se_getI, se_getR, se_put, se_ret, se_lret, se_vret, mm_sw, se_switch, se_callS, se_callV, se_copy, se_max, se_min, mm_len_2, mm_len_3, mm_len_4, mm_len_6, mm_len_8, mm_len_10, mm_len_11, mm_len_12, mm_len_13, mm_len_14, mm_len_15, mm_len_17, mm_len_18, mm_len_19, mm_len_20, mm_len_21, mm_len_22, mm_len_23, mm_len_24, mm_len_25]
    try simp only [eq_self, true_and, and_true, Bool.false_eq_true, false_implies, true_implies, true_or, or_true, mm_numI, mm_numL, mm_numN, pp_i10, pp_i01, pp_im1, not_false_eq_true, not_true_eq_false, false_or, or_false]
    rw [hn]
    refine ⟨fun _ => ?_, fun hc => absurd (nI_le (by omega) (by omega)) hc⟩
    rw [show q = n by omega]
  | succ k ih =>
    intro q hq
    refine mm_go_ok [] _ (S0_nearWith l d _ _) _ _ _ _ ?_
    dsimp only [P0_nearWith, N0_nearWith, mm_go, mm_in, mm_en, mm_nth, mm_put, mm_sto, mm_stoL, mm_ag, mm_dr, Nat.reduceSub, List.replicate, Option.toList, List.cons_append, List.nil_append, se_int, se_lng, se_iload, se_lload, se_aload, se_istore, se_lstore, se_astore, se_iinc, se_iadd, se_isub, se_imul, se_iand, se_ior, se_ixor, se_ishl, se_ishr, se_iushr, se_ladd, se_lsub, se_lmul, se_idiv, se_irem, se_ldiv, se_lrem, se_i2l, se_lcmp, se_dup, se_pop, se_dup2, se_goto, se_if_eq, se_icmp_eq, se_if_ne, se_icmp_ne, se_if_lt, se_icmp_lt, se_if_ge, se_icmp_ge, se_if_gt, se_icmp_gt, se_if_le, se_icmp_le, se_iaload, se_iastore, se_alen, se_places, se_getI, se_getR, se_put, se_ret, se_lret, se_vret, mm_sw, se_switch, se_callS, se_callV, se_copy, se_max, se_min, mm_len_2, mm_len_3, mm_len_4, mm_len_6, mm_len_8, mm_len_10, mm_len_11, mm_len_12, mm_len_13, mm_len_14, mm_len_15, mm_len_17, mm_len_18, mm_len_19, mm_len_20, mm_len_21, mm_len_22, mm_len_23, mm_len_24, mm_len_25]
    try simp only [eq_self, true_and, and_true, Bool.false_eq_true, false_implies, true_implies, true_or, or_true, mm_numI, mm_numL, mm_numN, pp_i10, pp_i01, pp_im1, not_false_eq_true, not_true_eq_false, false_or, or_false]
    have eq : (nI q).toNatClampNeg = q := nI_clamp (by omega)
    have es := nI_1 q
    have ih := ih (q + 1) (by omega)
    rw [hn, ep, eq, hA p hp, ha, es, pp_bit1 (Nat.lt_trans (hA8 p) (by decide)) (by omega), hf q (by omega)]
    refine ⟨fun hc => absurd (nI_ge (show q < n by omega) (by omega)) (fun z => z hc), fun _ => ⟨vp_in_nI hp (by decide), fun hb => ?_, fun hb => ⟨vp_in_nI (by omega) (by decide), fun hv => ?_, fun hv => ?_⟩⟩⟩
    · rw [pp_cnt_f (by simp [hb])] at ih
      exact ih
    · rw [pp_cnt_f (by simp [hv])] at ih
      exact ih
    · rw [pp_cnt_t (by simp [hb, hv])] at ih
      rw [nI_1]
      exact ih
