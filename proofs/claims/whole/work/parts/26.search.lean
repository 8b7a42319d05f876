/-! ===== the trial's search ===== -/
def rr_B (h : mm_H) (s b w : Int32) : mm_H := mm_set (mm_set (mm_set h 5 4 s) 5 5 b) 5 6 w
theorem rr_B_ne (h : mm_H) (s b w : Int32) {c : Nat} (h5 : c ≠ 5) : rr_B h s b w c = h c := by
  unfold rr_B
  rw [mm_set_ne h5, mm_set_ne h5, mm_set_ne h5]
theorem rr_B_4 (h : mm_H) (s b w : Int32) : rr_B h s b w 5 4 = s := by
  unfold rr_B mm_set
  simp
theorem rr_B_5 (h : mm_H) (s b w : Int32) : rr_B h s b w 5 5 = b := by
  unfold rr_B mm_set
  simp
theorem rr_B_6 (h : mm_H) (s b w : Int32) : rr_B h s b w 5 6 = w := by
  unfold rr_B mm_set
  simp
theorem rr_B_N {h : mm_H} {n : Nat} {A mk : Nat → Nat} (hN : cc_N h n A mk) (s b w : Int32) : cc_N (rr_B h s b w) n A mk := hN.cg (rr_B_ne _ _ _ _ (by decide)) (rr_B_ne _ _ _ _ (by decide)) (rr_B_ne _ _ _ _ (by decide))
set_option maxRecDepth 20000 in
theorem t_search {l : Launch} {d : Nat} {h : mm_H} {n : Nat} {A mk : Nat → Nat} (hd : 4 + n < d) (hN : cc_N h n A mk) (hok : jj_ok n A) {sc b : Nat} (hsc : sc < 5) (hb0 : 0 < b) (hb : b ≤ 64) (w : Int32) {f : Nat → Nat} (hF : rr_F (h 6) f) : mm_Ev l d M4_search [.ref 5, .int (nI sc), .int (nI b), .int w] h (rr_P (rr_B h (nI sc) (nI b) w) (rr_S n A mk sc b) b n 0 w f 0 (b ^ n)) := by
  refine mm_Ev.of (by decide +kernel) (Nat.le_of_ble_eq_true rfl) (mm_rn_ok [] _ (S4_search l d _ _) 1000 _ _ _ _ ?_)
  simp only [G4_search_0, G4_search_1, G4_search_2, G4_search_5, G4_search_6, G4_search_7, G4_search_10, G4_search_11, G4_search_12, G4_search_15, G4_search_16, G4_search_17, G4_search_20, G4_search_21, G4_search_22, G4_search_25, G4_search_26, G4_search_27, G4_search_30, N4_search, ↓mm_kc_ap, ↓mm_cut, mm_en, mm_nth, mm_put, mm_sto, mm_stoL, mm_ag, mm_dr, mm_sw, Nat.reduceSub, List.replicate, Option.toList, List.cons_append, List.nil_append, sq_int, sq_lng, sq_iload, sq_lload, sq_aload, sq_istore, sq_lstore, sq_astore, sq_iinc, sq_iadd, sq_isub, sq_imul, sq_iand, sq_ior, sq_ixor, sq_ishl, sq_ishr, sq_iushr, sq_ladd, sq_lsub, sq_lmul, sq_idiv, sq_irem, sq_ldiv, sq_lrem, sq_i2l, sq_lcmp, sq_dupI, sq_dupR, sq_pop, sq_dup2, sq_goto, sq_if_eq, sq_icmp_eq, sq_if_ne, sq_icmp_ne, sq_if_lt, sq_icmp_lt, sq_if_ge, sq_icmp_ge, sq_if_gt, sq_icmp_gt, sq_if_le, sq_icmp_le, sq_iaload, sq_iastore, sq_alen, sq_places, sq_getI, sq_getR, sq_put, sq_ret, sq_lret, sq_vret, sq_switch, sq_callS, sq_callV, sq_copy, sq_max, sq_min, mm_len_2, mm_len_3, mm_len_4, mm_len_6, mm_len_8, mm_len_10, mm_len_11, mm_len_12, mm_len_13, mm_len_14, mm_len_15, mm_len_17, mm_len_18, mm_len_19, mm_len_20, mm_len_21, mm_len_22, mm_len_23, mm_len_24, mm_len_25]
  try simp only [eq_self, true_and, and_true, Bool.false_eq_true, false_implies, true_implies, true_or, or_true, mm_numI, mm_numL, mm_numN, pp_i10, pp_i01, pp_im1, not_false_eq_true, not_true_eq_false, false_or, or_false]
  have key := t_place (l := l) (rr_B_N hN (nI sc) (nI b) w) hok hsc (rr_B_4 _ _ _ _) hb0 hb (rr_B_5 _ _ _ _) (rr_B_6 _ _ _ _) n 0 (by omega) 0 f (h 6) hF (fun q hq => absurd hq (Nat.not_lt_zero q)) (fun q hq => absurd hq (Nat.not_lt_zero q))
  rw [Nat.zero_mul, Nat.zero_add, Nat.one_mul] at key
  have e : rr_H (rr_B h (nI sc) (nI b) w) (nI (pp_cnt (rr_S n A mk sc b) 0)) 0 (h 6) = mm_set (mm_set (mm_set (mm_set (mm_set h 5 4 (nI sc)) 5 5 (nI b)) 5 6 w) 5 1 0) 5 2 0 := by
    unfold rr_H
    have e6 : h 6 = (mm_set (mm_set (rr_B h (nI sc) (nI b) w) 5 1 (nI (pp_cnt (rr_S n A mk sc b) 0))) 5 2 0) 6 := by
      rw [mm_set_ne (by decide), mm_set_ne (by decide), rr_B_ne _ _ _ _ (by decide)]
    rw [e6, mm_setA_id]
    rfl
  rw [e] at key
  refine ⟨4 + n, _, hd, key, rfl, rfl, ?_⟩
  rintro _ h' ⟨rfl, rest⟩
  simp only [G4_search_0, G4_search_1, G4_search_2, G4_search_5, G4_search_6, G4_search_7, G4_search_10, G4_search_11, G4_search_12, G4_search_15, G4_search_16, G4_search_17, G4_search_20, G4_search_21, G4_search_22, G4_search_25, G4_search_26, G4_search_27, G4_search_30, N4_search, ↓mm_kc_ap, ↓mm_cut, mm_en, mm_nth, mm_put, mm_sto, mm_stoL, mm_ag, mm_dr, mm_sw, Nat.reduceSub, List.replicate, Option.toList, List.cons_append, List.nil_append, sq_int, sq_lng, sq_iload, sq_lload, sq_aload, sq_istore, sq_lstore, sq_astore, sq_iinc, sq_iadd, sq_isub, sq_imul, sq_iand, sq_ior, sq_ixor, sq_ishl, sq_ishr, sq_iushr, sq_ladd, sq_lsub, sq_lmul, sq_idiv, sq_irem, sq_ldiv, sq_lrem, sq_i2l, sq_lcmp, sq_dupI, sq_dupR, sq_pop, sq_dup2, sq_goto, sq_if_eq, sq_icmp_eq, sq_if_ne, sq_icmp_ne, sq_if_lt, sq_icmp_lt, sq_if_ge, sq_icmp_ge, sq_if_gt, sq_icmp_gt, sq_if_le, sq_icmp_le, sq_iaload, sq_iastore, sq_alen, sq_places, sq_getI, sq_getR, sq_put, sq_ret, sq_lret, sq_vret, sq_switch, sq_callS, sq_callV, sq_copy, sq_max, sq_min, mm_len_2, mm_len_3, mm_len_4, mm_len_6, mm_len_8, mm_len_10, mm_len_11, mm_len_12, mm_len_13, mm_len_14, mm_len_15, mm_len_17, mm_len_18, mm_len_19, mm_len_20, mm_len_21, mm_len_22, mm_len_23, mm_len_24, mm_len_25]
  try simp only [eq_self, true_and, and_true, Bool.false_eq_true, false_implies, true_implies, true_or, or_true, mm_numI, mm_numL, mm_numN, pp_i10, pp_i01, pp_im1, not_false_eq_true, not_true_eq_false, false_or, or_false]
  exact ⟨rfl, rest⟩
