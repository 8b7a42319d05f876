/-! ===== the reference's tries ===== -/
set_option maxRecDepth 20000 in
theorem t_allOf_loop {l : Launch} {d : Nat} {E : mm_X} {h : mm_H} {n B : Nat} (n8 : n ≤ 8) (hn : h 16 0 = nI n) (hB : B ≤ 64) : ∀ (k p : Nat), p + k = n → mm_At l d M6_allOf E (dg_po (lN (B ^ n)) h) 5 [some (.ref 16), some (.int (nI B)), some (.long (lN (B ^ p))), none, some (.int (nI p))] [] h := by
  intro k
  induction k with
  | zero =>
    intro p hp
    have e : p = n := by omega
    subst e
    refine mm_rn_ok [] _ (S6_allOf l d _ _) 1000 _ _ _ _ ?_
    simp only [G6_allOf_0, G6_allOf_1, G6_allOf_2, G6_allOf_3, G6_allOf_5, G6_allOf_7, G6_allOf_8, G6_allOf_11, G6_allOf_14, G6_allOf_15, G6_allOf_16, G6_allOf_17, G6_allOf_18, G6_allOf_19, G6_allOf_22, G6_allOf_25, G6_allOf_26, N6_allOf, ↓mm_kc_ap, ↓mm_cut, mm_en, mm_nth, mm_put, mm_sto, mm_stoL, mm_ag, mm_dr, mm_sw, Nat.reduceSub, List.replicate, Option.toList, List.cons_append, List.nil_append, sq_int, sq_lng, sq_iload, sq_lload, sq_aload, sq_istore, sq_lstore, sq_astore, sq_iinc, sq_iadd, sq_isub, sq_imul, sq_iand, sq_ior, sq_ixor, sq_ishl, sq_ishr, sq_iushr, sq_ladd, sq_lsub, sq_lmul, sq_idiv, sq_irem, sq_ldiv, sq_lrem, sq_i2l, sq_lcmp, sq_dupI, sq_dupR, sq_pop, sq_dup2, sq_goto, sq_if_eq, sq_icmp_eq, sq_if_ne, sq_icmp_ne, sq_if_lt, sq_icmp_lt, sq_if_ge, sq_icmp_ge, sq_if_gt, sq_icmp_gt, sq_if_le, sq_icmp_le, sq_iaload, sq_iastore, sq_alen, sq_places, sq_getI, sq_getR, sq_put, sq_ret, sq_lret, sq_vret, sq_switch, sq_callS, sq_callV, sq_copy, sq_max, sq_min, mm_len_2, mm_len_3, mm_len_4, mm_len_6, mm_len_8, mm_len_10, mm_len_11, mm_len_12, mm_len_13, mm_len_14, mm_len_15, mm_len_17, mm_len_18, mm_len_19, mm_len_20, mm_len_21, mm_len_22, mm_len_23, mm_len_24, mm_len_25]
    try simp only [eq_self, true_and, and_true, Bool.false_eq_true, false_implies, true_implies, true_or, or_true, mm_numI, mm_numL, mm_numN, pp_i10, pp_i01, pp_im1, not_false_eq_true, not_true_eq_false, false_or, or_false]
    rw [hn]
    exact ⟨fun _ => ⟨rfl, rfl⟩, fun hc => absurd (nI_le (Nat.le_refl _) (by omega)) hc⟩
  | succ k ih =>
    intro p hp
    have ih := ih (p + 1) (by omega)
    rw [Nat.pow_succ] at ih
    refine mm_rn_ok [] _ (S6_allOf l d _ _) 1000 _ _ _ _ ?_
    simp only [G6_allOf_0, G6_allOf_1, G6_allOf_2, G6_allOf_3, G6_allOf_5, G6_allOf_7, G6_allOf_8, G6_allOf_11, G6_allOf_14, G6_allOf_15, G6_allOf_16, G6_allOf_17, G6_allOf_18, G6_allOf_19, G6_allOf_22, G6_allOf_25, G6_allOf_26, N6_allOf, ↓mm_kc_ap, ↓mm_cut, mm_en, mm_nth, mm_put, mm_sto, mm_stoL, mm_ag, mm_dr, mm_sw, Nat.reduceSub, List.replicate, Option.toList, List.cons_append, List.nil_append, sq_int, sq_lng, sq_iload, sq_lload, sq_aload, sq_istore, sq_lstore, sq_astore, sq_iinc, sq_iadd, sq_isub, sq_imul, sq_iand, sq_ior, sq_ixor, sq_ishl, sq_ishr, sq_iushr, sq_ladd, sq_lsub, sq_lmul, sq_idiv, sq_irem, sq_ldiv, sq_lrem, sq_i2l, sq_lcmp, sq_dupI, sq_dupR, sq_pop, sq_dup2, sq_goto, sq_if_eq, sq_icmp_eq, sq_if_ne, sq_icmp_ne, sq_if_lt, sq_icmp_lt, sq_if_ge, sq_icmp_ge, sq_if_gt, sq_icmp_gt, sq_if_le, sq_icmp_le, sq_iaload, sq_iastore, sq_alen, sq_places, sq_getI, sq_getR, sq_put, sq_ret, sq_lret, sq_vret, sq_switch, sq_callS, sq_callV, sq_copy, sq_max, sq_min, mm_len_2, mm_len_3, mm_len_4, mm_len_6, mm_len_8, mm_len_10, mm_len_11, mm_len_12, mm_len_13, mm_len_14, mm_len_15, mm_len_17, mm_len_18, mm_len_19, mm_len_20, mm_len_21, mm_len_22, mm_len_23, mm_len_24, mm_len_25]
    try simp only [eq_self, true_and, and_true, Bool.false_eq_true, false_implies, true_implies, true_or, or_true, mm_numI, mm_numL, mm_numN, pp_i10, pp_i01, pp_im1, not_false_eq_true, not_true_eq_false, false_or, or_false]
    rw [hn, nI_1, nI_l (by omega), lN_mul]
    exact ⟨fun hc => absurd hc (nI_ge (by omega) (by omega)), fun _ => ih⟩
set_option maxRecDepth 20000 in
theorem t_allOf {l : Launch} {d : Nat} {h : mm_H} {n B : Nat} (n8 : n ≤ 8) (hn : h 16 0 = nI n) (hB : B ≤ 64) : mm_Ev l d M6_allOf [.ref 16, .int (nI B)] h (dg_po (lN (B ^ n)) h) := by
  refine mm_Ev.of (by decide +kernel) (Nat.le_of_ble_eq_true rfl) (mm_rn_ok [5] _ (S6_allOf l d _ _) 1000 _ _ _ _ ?_)
  simp only [G6_allOf_0, G6_allOf_1, G6_allOf_2, G6_allOf_3, G6_allOf_5, G6_allOf_7, G6_allOf_8, G6_allOf_11, G6_allOf_14, G6_allOf_15, G6_allOf_16, G6_allOf_17, G6_allOf_18, G6_allOf_19, G6_allOf_22, G6_allOf_25, G6_allOf_26, N6_allOf, ↓mm_kc_ap, ↓mm_cut, mm_en, mm_nth, mm_put, mm_sto, mm_stoL, mm_ag, mm_dr, mm_sw, Nat.reduceSub, List.replicate, Option.toList, List.cons_append, List.nil_append, sq_int, sq_lng, sq_iload, sq_lload, sq_aload, sq_istore, sq_lstore, sq_astore, sq_iinc, sq_iadd, sq_isub, sq_imul, sq_iand, sq_ior, sq_ixor, sq_ishl, sq_ishr, sq_iushr, sq_ladd, sq_lsub, sq_lmul, sq_idiv, sq_irem, sq_ldiv, sq_lrem, sq_i2l, sq_lcmp, sq_dupI, sq_dupR, sq_pop, sq_dup2, sq_goto, sq_if_eq, sq_icmp_eq, sq_if_ne, sq_icmp_ne, sq_if_lt, sq_icmp_lt, sq_if_ge, sq_icmp_ge, sq_if_gt, sq_icmp_gt, sq_if_le, sq_icmp_le, sq_iaload, sq_iastore, sq_alen, sq_places, sq_getI, sq_getR, sq_put, sq_ret, sq_lret, sq_vret, sq_switch, sq_callS, sq_callV, sq_copy, sq_max, sq_min, mm_len_2, mm_len_3, mm_len_4, mm_len_6, mm_len_8, mm_len_10, mm_len_11, mm_len_12, mm_len_13, mm_len_14, mm_len_15, mm_len_17, mm_len_18, mm_len_19, mm_len_20, mm_len_21, mm_len_22, mm_len_23, mm_len_24, mm_len_25]
  try simp only [eq_self, true_and, and_true, Bool.false_eq_true, false_implies, true_implies, true_or, or_true, mm_numI, mm_numL, mm_numN, pp_i10, pp_i01, pp_im1, not_false_eq_true, not_true_eq_false, false_or, or_false]
  have key := t_allOf_loop (l := l) (d := d) (E := fun _ _ _ => True) n8 hn hB n 0 (by omega)
  rw [Nat.pow_zero] at key
  exact key
set_option maxRecDepth 20000 in
theorem gt_dig {l : Launch} {d : Nat} {E : mm_X} {post : mm_Po} {h : mm_H} {n b row : Nat} {pf : Nat → Nat} {ask many : Int32} {al : Int64} (n8 : n ≤ 8) (hb0 : 0 < b) (hb : b ≤ 64) (hr : row < 2 ^ 30) (hx : ∀ (g : Nat → Int32) (x7 x8 : Int32), (∀ q, q < 8 → g q = nI (cl_pf n (rr_d b n row) pf q)) → mm_At l d M6_goThrough E post 60 [some (.ref 16), some (.int (nI b)), some (.int ask), some (.long al), none, some (.int many), some (.int (nI row)), some (.int x7), some (.int x8)] [] (mm_setA h 19 g)) : ∀ (k : Nat), k ≤ n → ∀ (g : Nat → Int32), (∀ q, k ≤ q → q < 8 → g q = nI (cl_pf n (rr_d b n row) pf q)) → mm_At l d M6_goThrough E post 32 [some (.ref 16), some (.int (nI b)), some (.int ask), some (.long al), none, some (.int many), some (.int (nI row)), some (.int (nI (row / b ^ (n - k)))), some (.int (dn_i k))] [] (mm_setA h 19 g) := by
  intro k
  induction k with
  | zero =>
    intro hk g hg
    refine mm_rn_ok [60] _ (S6_goThrough l d _ _) 1000 _ _ _ _ ?_
    simp only [G6_goThrough_0, G6_goThrough_1, G6_goThrough_2, G6_goThrough_5, G6_goThrough_6, G6_goThrough_7, G6_goThrough_9, G6_goThrough_10, G6_goThrough_12, G6_goThrough_14, G6_goThrough_15, G6_goThrough_16, G6_goThrough_17, G6_goThrough_20, G6_goThrough_22, G6_goThrough_24, G6_goThrough_25, G6_goThrough_28, G6_goThrough_29, G6_goThrough_30, G6_goThrough_32, G6_goThrough_34, G6_goThrough_37, G6_goThrough_38, G6_goThrough_41, G6_goThrough_43, G6_goThrough_45, G6_goThrough_46, G6_goThrough_47, G6_goThrough_48, G6_goThrough_50, G6_goThrough_51, G6_goThrough_52, G6_goThrough_54, G6_goThrough_57, G6_goThrough_60, G6_goThrough_61, G6_goThrough_64, G6_goThrough_67, G6_goThrough_69, G6_goThrough_70, G6_goThrough_73, G6_goThrough_75, G6_goThrough_76, G6_goThrough_77, G6_goThrough_78, G6_goThrough_81, G6_goThrough_84, G6_goThrough_87, G6_goThrough_89, N6_goThrough, ↓mm_kc_ap, ↓mm_cut, mm_en, mm_nth, mm_put, mm_sto, mm_stoL, mm_ag, mm_dr, mm_sw, Nat.reduceSub, List.replicate, Option.toList, List.cons_append, List.nil_append, sq_int, sq_lng, sq_iload, sq_lload, sq_aload, sq_istore, sq_lstore, sq_astore, sq_iinc, sq_iadd, sq_isub, sq_imul, sq_iand, sq_ior, sq_ixor, sq_ishl, sq_ishr, sq_iushr, sq_ladd, sq_lsub, sq_lmul, sq_idiv, sq_irem, sq_ldiv, sq_lrem, sq_i2l, sq_lcmp, sq_dupI, sq_dupR, sq_pop, sq_dup2, sq_goto, sq_if_eq, sq_icmp_eq, sq_if_ne, sq_icmp_ne, sq_if_lt, sq_icmp_lt, sq_if_ge, sq_icmp_ge, sq_if_gt, sq_icmp_gt, sq_if_le, sq_icmp_le, sq_iaload, sq_iastore, sq_alen, sq_places, sq_getI, sq_getR, sq_put, sq_ret, sq_lret, sq_vret, sq_switch, sq_callS, sq_callV, sq_copy, sq_max, sq_min, mm_len_2, mm_len_3, mm_len_4, mm_len_6, mm_len_8, mm_len_10, mm_len_11, mm_len_12, mm_len_13, mm_len_14, mm_len_15, mm_len_17, mm_len_18, mm_len_19, mm_len_20, mm_len_21, mm_len_22, mm_len_23, mm_len_24, mm_len_25]
    try simp only [eq_self, true_and, and_true, Bool.false_eq_true, false_implies, true_implies, true_or, or_true, mm_numI, mm_numL, mm_numN, pp_i10, pp_i01, pp_im1, not_false_eq_true, not_true_eq_false, false_or, or_false]
    exact ⟨fun _ => hx g _ _ (fun q hq => hg q (Nat.zero_le _) hq), fun hc => absurd dn_i_0 hc⟩
  | succ k ih =>
    intro hk g hg
    have hlt : row / b ^ (n - (k + 1)) < 2 ^ 31 := Nat.lt_of_le_of_lt (Nat.div_le_self _ _) (by omega)
    have e : dn_i (k + 1) = nI k := rfl
    rw [e]
    refine mm_rn_ok [60] _ (S6_goThrough l d _ _) 1000 _ _ _ _ ?_
    simp only [G6_goThrough_0, G6_goThrough_1, G6_goThrough_2, G6_goThrough_5, G6_goThrough_6, G6_goThrough_7, G6_goThrough_9, G6_goThrough_10, G6_goThrough_12, G6_goThrough_14, G6_goThrough_15, G6_goThrough_16, G6_goThrough_17, G6_goThrough_20, G6_goThrough_22, G6_goThrough_24, G6_goThrough_25, G6_goThrough_28, G6_goThrough_29, G6_goThrough_30, G6_goThrough_32, G6_goThrough_34, G6_goThrough_37, G6_goThrough_38, G6_goThrough_41, G6_goThrough_43, G6_goThrough_45, G6_goThrough_46, G6_goThrough_47, G6_goThrough_48, G6_goThrough_50, G6_goThrough_51, G6_goThrough_52, G6_goThrough_54, G6_goThrough_57, G6_goThrough_60, G6_goThrough_61, G6_goThrough_64, G6_goThrough_67, G6_goThrough_69, G6_goThrough_70, G6_goThrough_73, G6_goThrough_75, G6_goThrough_76, G6_goThrough_77, G6_goThrough_78, G6_goThrough_81, G6_goThrough_84, G6_goThrough_87, G6_goThrough_89, N6_goThrough, ↓mm_kc_ap, ↓mm_cut, mm_en, mm_nth, mm_put, mm_sto, mm_stoL, mm_ag, mm_dr, mm_sw, Nat.reduceSub, List.replicate, Option.toList, List.cons_append, List.nil_append, sq_int, sq_lng, sq_iload, sq_lload, sq_aload, sq_istore, sq_lstore, sq_astore, sq_iinc, sq_iadd, sq_isub, sq_imul, sq_iand, sq_ior, sq_ixor, sq_ishl, sq_ishr, sq_iushr, sq_ladd, sq_lsub, sq_lmul, sq_idiv, sq_irem, sq_ldiv, sq_lrem, sq_i2l, sq_lcmp, sq_dupI, sq_dupR, sq_pop, sq_dup2, sq_goto, sq_if_eq, sq_icmp_eq, sq_if_ne, sq_icmp_ne, sq_if_lt, sq_icmp_lt, sq_if_ge, sq_icmp_ge, sq_if_gt, sq_icmp_gt, sq_if_le, sq_icmp_le, sq_iaload, sq_iastore, sq_alen, sq_places, sq_getI, sq_getR, sq_put, sq_ret, sq_lret, sq_vret, sq_switch, sq_callS, sq_callV, sq_copy, sq_max, sq_min, mm_len_2, mm_len_3, mm_len_4, mm_len_6, mm_len_8, mm_len_10, mm_len_11, mm_len_12, mm_len_13, mm_len_14, mm_len_15, mm_len_17, mm_len_18, mm_len_19, mm_len_20, mm_len_21, mm_len_22, mm_len_23, mm_len_24, mm_len_25]
    try simp only [eq_self, true_and, and_true, Bool.false_eq_true, false_implies, true_implies, true_or, or_true, mm_numI, mm_numL, mm_numN, pp_i10, pp_i01, pp_im1, not_false_eq_true, not_true_eq_false, false_or, or_false]
    rw [pk_rem hlt hb0 (by omega), pk_div hlt hb0 (by omega), rr_dig hk, rr_nxt hk, dn_i_s, nI_clamp (show k < 2 ^ 31 by omega), mm_set_setA]
    have hbn : ¬ nI b = 0 := fun z => absurd ((pp_eq0 (by omega)).mp z) (by omega)
    refine ⟨fun hc => absurd hc (nI_pos (by omega)), fun _ => ⟨hbn, by decide, vp_in_nI (by omega) (by decide), hbn, ih (by omega) _ (fun q h1 h2 => ?_)⟩⟩
    by_cases e1 : q = k
    · rw [e1, pk_us]
      unfold cl_pf
      rw [if_pos (by omega)]
    · rw [pk_un e1]
      exact hg q (by omega) h2
theorem aa_S {n : Nat} {A mk pf : Nat → Nat} (hok : jj_ok n A) {sc b r : Nat} : (pp_msk (aa_no n A mk sc (cl_pf n (rr_d b n r) pf)) n = 0) ↔ rr_S n A mk sc b r = true := by
  rw [pp_msk_0]
  have e : rr_S n A mk sc b r = cl_st n A mk sc (cl_pf n (rr_d b n r) pf) := cl_st_cg (f := rr_d b n r) hok (fun q hq => by unfold cl_pf; rw [if_pos hq])
  rw [e]
  unfold cl_st
  rw [pp_all_iff]
  constructor
  · intro h p hp
    cases hb : jj_acc n A mk sc (cl_pf n (rr_d b n r) pf) p with
    | true => rfl
    | false => exact absurd (pp_any_iff.mpr ⟨p, hp, by unfold aa_no; rw [hb]; rfl⟩) h
  · intro h hc
    obtain ⟨p, hp, hb⟩ := pp_any_iff.mp hc
    unfold aa_no at hb
    rw [h p hp] at hb
    cases hb
def gt_P (S : Nat → Bool) (b n : Nat) (ask : Int32) (pf : Nat → Nat) (h : mm_H) : mm_Po := fun r h' => (∀ c, c ≠ 19 → h' c = h c) ∧ (∀ q, n ≤ q → q < 8 → h' 19 q = nI (pf q)) ∧ ((∃ r0, at_is S (b ^ n) ask r0 ∧ r = some (.int (nI (pp_cnt S r0 + 1))) ∧ ∀ q, q < 8 → h' 19 q = nI (cl_pf n (rr_d b n r0) pf q)) ∨ ((¬ ∃ r0, at_is S (b ^ n) ask r0) ∧ r = some (.int (nI (pp_cnt S (b ^ n))))))
theorem cl_pf_64 {b n r : Nat} {pf : Nat → Nat} (hb0 : 0 < b) (hb : b ≤ 64) (hp : ∀ q, pf q < 64) : ∀ q, cl_pf n (rr_d b n r) pf q < 64 := by
  intro q
  unfold cl_pf
  split
  · exact Nat.lt_of_lt_of_le (rr_d_lt hb0) hb
  · exact hp q
set_option maxRecDepth 20000 in
theorem gt_rows {l : Launch} {d : Nat} (hd : 3 < d) {E : mm_X} {h : mm_H} {n b sc : Nat} {A mk pf : Nat → Nat} (hN : dd_N h n A mk) (hok : jj_ok n A) (hsc : sc < 5) (h5 : h 16 5 = nI sc) (hpf : ∀ q, pf q < 64) (hb0 : 0 < b) (hb : b ≤ 64) (hbn : b ^ n ≤ 100000) {ask : Int32} : ∀ (k row : Nat), row + k = b ^ n → (∀ r', r' < row → ¬ (rr_S n A mk sc b r' = true ∧ nI (pp_cnt (rr_S n A mk sc b) r') = ask)) → ∀ (g : Nat → Int32) (x7 x8 : Option Value), (∀ q, n ≤ q → q < 8 → g q = nI (pf q)) → mm_At l d M6_goThrough E (gt_P (rr_S n A mk sc b) b n ask pf h) 12 [some (.ref 16), some (.int (nI b)), some (.int ask), some (.long (lN (b ^ n))), none, some (.int (nI (pp_cnt (rr_S n A mk sc b) row))), some (.int (nI row)), x7, x8] [] (mm_setA h 19 g) := by
  have n1 := hN.1
  have n8 := hN.2.1
  have hn := hN.2.2.1
  have cmp : ∀ row, row ≤ b ^ n → (0 ≤ lg_cmp (nI row).toInt64 (lN (b ^ n)) ↔ ¬ row < b ^ n) := by
    intro row hr
    rw [← Int32.not_lt, pp_lcmp, nI_l (by omega), pk_lLT (by omega) (by omega)]
  intro k
  induction k with
  | zero =>
    intro row hr hlo g x7 x8 hg
    have e : row = b ^ n := by omega
    subst e
    refine mm_rn_ok [20] _ (S6_goThrough l d _ _) 1000 _ _ _ _ ?_
    simp only [G6_goThrough_0, G6_goThrough_1, G6_goThrough_2, G6_goThrough_5, G6_goThrough_6, G6_goThrough_7, G6_goThrough_9, G6_goThrough_10, G6_goThrough_12, G6_goThrough_14, G6_goThrough_15, G6_goThrough_16, G6_goThrough_17, G6_goThrough_20, G6_goThrough_22, G6_goThrough_24, G6_goThrough_25, G6_goThrough_28, G6_goThrough_29, G6_goThrough_30, G6_goThrough_32, G6_goThrough_34, G6_goThrough_37, G6_goThrough_38, G6_goThrough_41, G6_goThrough_43, G6_goThrough_45, G6_goThrough_46, G6_goThrough_47, G6_goThrough_48, G6_goThrough_50, G6_goThrough_51, G6_goThrough_52, G6_goThrough_54, G6_goThrough_57, G6_goThrough_60, G6_goThrough_61, G6_goThrough_64, G6_goThrough_67, G6_goThrough_69, G6_goThrough_70, G6_goThrough_73, G6_goThrough_75, G6_goThrough_76, G6_goThrough_77, G6_goThrough_78, G6_goThrough_81, G6_goThrough_84, G6_goThrough_87, G6_goThrough_89, N6_goThrough, ↓mm_kc_ap, ↓mm_cut, mm_en, mm_nth, mm_put, mm_sto, mm_stoL, mm_ag, mm_dr, mm_sw, Nat.reduceSub, List.replicate, Option.toList, List.cons_append, List.nil_append, sq_int, sq_lng, sq_iload, sq_lload, sq_aload, sq_istore, sq_lstore, sq_astore, sq_iinc, sq_iadd, sq_isub, sq_imul, sq_iand, sq_ior, sq_ixor, sq_ishl, sq_ishr, sq_iushr, sq_ladd, sq_lsub, sq_lmul, sq_idiv, sq_irem, sq_ldiv, sq_lrem, sq_i2l, sq_lcmp, sq_dupI, sq_dupR, sq_pop, sq_dup2, sq_goto, sq_if_eq, sq_icmp_eq, sq_if_ne, sq_icmp_ne, sq_if_lt, sq_icmp_lt, sq_if_ge, sq_icmp_ge, sq_if_gt, sq_icmp_gt, sq_if_le, sq_icmp_le, sq_iaload, sq_iastore, sq_alen, sq_places, sq_getI, sq_getR, sq_put, sq_ret, sq_lret, sq_vret, sq_switch, sq_callS, sq_callV, sq_copy, sq_max, sq_min, mm_len_2, mm_len_3, mm_len_4, mm_len_6, mm_len_8, mm_len_10, mm_len_11, mm_len_12, mm_len_13, mm_len_14, mm_len_15, mm_len_17, mm_len_18, mm_len_19, mm_len_20, mm_len_21, mm_len_22, mm_len_23, mm_len_24, mm_len_25]
    try simp only [eq_self, true_and, and_true, Bool.false_eq_true, false_implies, true_implies, true_or, or_true, mm_numI, mm_numL, mm_numN, pp_i10, pp_i01, pp_im1, not_false_eq_true, not_true_eq_false, false_or, or_false]
    rw [cmp _ (Nat.le_refl _)]
    refine ⟨fun _ => ⟨fun c hc => mm_setA_ne hc, ?_, Or.inr ⟨?_, rfl⟩⟩, fun hc => absurd (Nat.lt_irrefl _) hc⟩
    · rw [mm_setA_same]; exact hg
    · rintro ⟨r0, r1, r2, r3⟩
      exact hlo r0 r1 ⟨r2, r3⟩
  | succ k ih =>
    intro row hr hlo g x7 x8 hg
    refine mm_rn_ok [32] _ (S6_goThrough l d _ _) 1000 _ _ _ _ ?_
    simp only [G6_goThrough_0, G6_goThrough_1, G6_goThrough_2, G6_goThrough_5, G6_goThrough_6, G6_goThrough_7, G6_goThrough_9, G6_goThrough_10, G6_goThrough_12, G6_goThrough_14, G6_goThrough_15, G6_goThrough_16, G6_goThrough_17, G6_goThrough_20, G6_goThrough_22, G6_goThrough_24, G6_goThrough_25, G6_goThrough_28, G6_goThrough_29, G6_goThrough_30, G6_goThrough_32, G6_goThrough_34, G6_goThrough_37, G6_goThrough_38, G6_goThrough_41, G6_goThrough_43, G6_goThrough_45, G6_goThrough_46, G6_goThrough_47, G6_goThrough_48, G6_goThrough_50, G6_goThrough_51, G6_goThrough_52, G6_goThrough_54, G6_goThrough_57, G6_goThrough_60, G6_goThrough_61, G6_goThrough_64, G6_goThrough_67, G6_goThrough_69, G6_goThrough_70, G6_goThrough_73, G6_goThrough_75, G6_goThrough_76, G6_goThrough_77, G6_goThrough_78, G6_goThrough_81, G6_goThrough_84, G6_goThrough_87, G6_goThrough_89, N6_goThrough, ↓mm_kc_ap, ↓mm_cut, mm_en, mm_nth, mm_put, mm_sto, mm_stoL, mm_ag, mm_dr, mm_sw, Nat.reduceSub, List.replicate, Option.toList, List.cons_append, List.nil_append, sq_int, sq_lng, sq_iload, sq_lload, sq_aload, sq_istore, sq_lstore, sq_astore, sq_iinc, sq_iadd, sq_isub, sq_imul, sq_iand, sq_ior, sq_ixor, sq_ishl, sq_ishr, sq_iushr, sq_ladd, sq_lsub, sq_lmul, sq_idiv, sq_irem, sq_ldiv, sq_lrem, sq_i2l, sq_lcmp, sq_dupI, sq_dupR, sq_pop, sq_dup2, sq_goto, sq_if_eq, sq_icmp_eq, sq_if_ne, sq_icmp_ne, sq_if_lt, sq_icmp_lt, sq_if_ge, sq_icmp_ge, sq_if_gt, sq_icmp_gt, sq_if_le, sq_icmp_le, sq_iaload, sq_iastore, sq_alen, sq_places, sq_getI, sq_getR, sq_put, sq_ret, sq_lret, sq_vret, sq_switch, sq_callS, sq_callV, sq_copy, sq_max, sq_min, mm_len_2, mm_len_3, mm_len_4, mm_len_6, mm_len_8, mm_len_10, mm_len_11, mm_len_12, mm_len_13, mm_len_14, mm_len_15, mm_len_17, mm_len_18, mm_len_19, mm_len_20, mm_len_21, mm_len_22, mm_len_23, mm_len_24, mm_len_25]
    try simp only [eq_self, true_and, and_true, Bool.false_eq_true, false_implies, true_implies, true_or, or_true, mm_numI, mm_numL, mm_numN, pp_i10, pp_i01, pp_im1, not_false_eq_true, not_true_eq_false, false_or, or_false]
    rw [mm_setA_ne (by decide), hn, show nI n - 1 = dn_i n from dn_i_s' n n1, cmp _ (by omega)]
    refine ⟨fun hc => absurd (show row < b ^ n by omega) hc, fun _ => ?_⟩
    have key := gt_dig (l := l) (d := d) (E := E) (post := gt_P (rr_S n A mk sc b) b n ask pf h) (h := h) (n := n) (b := b) (row := row) (pf := pf) (ask := ask) (many := nI (pp_cnt (rr_S n A mk sc b) row)) (al := lN (b ^ n)) n8 hb0 hb (by omega) (fun g' y7 y8 hg' => ?_) n (Nat.le_refl _) g (fun q h1 h2 => ?_)
    · rw [Nat.sub_self, Nat.pow_zero, Nat.div_one] at key
      exact key
    · refine mm_rn_ok [] _ (S6_goThrough l d _ _) 1000 _ _ _ _ ?_
      simp only [G6_goThrough_0, G6_goThrough_1, G6_goThrough_2, G6_goThrough_5, G6_goThrough_6, G6_goThrough_7, G6_goThrough_9, G6_goThrough_10, G6_goThrough_12, G6_goThrough_14, G6_goThrough_15, G6_goThrough_16, G6_goThrough_17, G6_goThrough_20, G6_goThrough_22, G6_goThrough_24, G6_goThrough_25, G6_goThrough_28, G6_goThrough_29, G6_goThrough_30, G6_goThrough_32, G6_goThrough_34, G6_goThrough_37, G6_goThrough_38, G6_goThrough_41, G6_goThrough_43, G6_goThrough_45, G6_goThrough_46, G6_goThrough_47, G6_goThrough_48, G6_goThrough_50, G6_goThrough_51, G6_goThrough_52, G6_goThrough_54, G6_goThrough_57, G6_goThrough_60, G6_goThrough_61, G6_goThrough_64, G6_goThrough_67, G6_goThrough_69, G6_goThrough_70, G6_goThrough_73, G6_goThrough_75, G6_goThrough_76, G6_goThrough_77, G6_goThrough_78, G6_goThrough_81, G6_goThrough_84, G6_goThrough_87, G6_goThrough_89, N6_goThrough, ↓mm_kc_ap, ↓mm_cut, mm_en, mm_nth, mm_put, mm_sto, mm_stoL, mm_ag, mm_dr, mm_sw, Nat.reduceSub, List.replicate, Option.toList, List.cons_append, List.nil_append, sq_int, sq_lng, sq_iload, sq_lload, sq_aload, sq_istore, sq_lstore, sq_astore, sq_iinc, sq_iadd, sq_isub, sq_imul, sq_iand, sq_ior, sq_ixor, sq_ishl, sq_ishr, sq_iushr, sq_ladd, sq_lsub, sq_lmul, sq_idiv, sq_irem, sq_ldiv, sq_lrem, sq_i2l, sq_lcmp, sq_dupI, sq_dupR, sq_pop, sq_dup2, sq_goto, sq_if_eq, sq_icmp_eq, sq_if_ne, sq_icmp_ne, sq_if_lt, sq_icmp_lt, sq_if_ge, sq_icmp_ge, sq_if_gt, sq_icmp_gt, sq_if_le, sq_icmp_le, sq_iaload, sq_iastore, sq_alen, sq_places, sq_getI, sq_getR, sq_put, sq_ret, sq_lret, sq_vret, sq_switch, sq_callS, sq_callV, sq_copy, sq_max, sq_min, mm_len_2, mm_len_3, mm_len_4, mm_len_6, mm_len_8, mm_len_10, mm_len_11, mm_len_12, mm_len_13, mm_len_14, mm_len_15, mm_len_17, mm_len_18, mm_len_19, mm_len_20, mm_len_21, mm_len_22, mm_len_23, mm_len_24, mm_len_25]
      try simp only [eq_self, true_and, and_true, Bool.false_eq_true, false_implies, true_implies, true_or, or_true, mm_numI, mm_numL, mm_numN, pp_i10, pp_i01, pp_im1, not_false_eq_true, not_true_eq_false, false_or, or_false]
      refine ⟨3, _, hd, t_againstOf (f := cl_pf n (rr_d b n row) pf) (by decide) (hN.sA (c := 19) (by decide) g') hsc (by rw [mm_setA_ne (by decide)]; exact h5) (by rw [mm_setA_same]; exact hg') (pp_64 (cl_pf_64 hb0 hb hpf)), rfl, ?_⟩
      rintro _ _ ⟨rfl, rfl⟩
      simp only [G6_goThrough_0, G6_goThrough_1, G6_goThrough_2, G6_goThrough_5, G6_goThrough_6, G6_goThrough_7, G6_goThrough_9, G6_goThrough_10, G6_goThrough_12, G6_goThrough_14, G6_goThrough_15, G6_goThrough_16, G6_goThrough_17, G6_goThrough_20, G6_goThrough_22, G6_goThrough_24, G6_goThrough_25, G6_goThrough_28, G6_goThrough_29, G6_goThrough_30, G6_goThrough_32, G6_goThrough_34, G6_goThrough_37, G6_goThrough_38, G6_goThrough_41, G6_goThrough_43, G6_goThrough_45, G6_goThrough_46, G6_goThrough_47, G6_goThrough_48, G6_goThrough_50, G6_goThrough_51, G6_goThrough_52, G6_goThrough_54, G6_goThrough_57, G6_goThrough_60, G6_goThrough_61, G6_goThrough_64, G6_goThrough_67, G6_goThrough_69, G6_goThrough_70, G6_goThrough_73, G6_goThrough_75, G6_goThrough_76, G6_goThrough_77, G6_goThrough_78, G6_goThrough_81, G6_goThrough_84, G6_goThrough_87, G6_goThrough_89, N6_goThrough, ↓mm_kc_ap, ↓mm_cut, mm_en, mm_nth, mm_put, mm_sto, mm_stoL, mm_ag, mm_dr, mm_sw, Nat.reduceSub, List.replicate, Option.toList, List.cons_append, List.nil_append, sq_int, sq_lng, sq_iload, sq_lload, sq_aload, sq_istore, sq_lstore, sq_astore, sq_iinc, sq_iadd, sq_isub, sq_imul, sq_iand, sq_ior, sq_ixor, sq_ishl, sq_ishr, sq_iushr, sq_ladd, sq_lsub, sq_lmul, sq_idiv, sq_irem, sq_ldiv, sq_lrem, sq_i2l, sq_lcmp, sq_dupI, sq_dupR, sq_pop, sq_dup2, sq_goto, sq_if_eq, sq_icmp_eq, sq_if_ne, sq_icmp_ne, sq_if_lt, sq_icmp_lt, sq_if_ge, sq_icmp_ge, sq_if_gt, sq_icmp_gt, sq_if_le, sq_icmp_le, sq_iaload, sq_iastore, sq_alen, sq_places, sq_getI, sq_getR, sq_put, sq_ret, sq_lret, sq_vret, sq_switch, sq_callS, sq_callV, sq_copy, sq_max, sq_min, mm_len_2, mm_len_3, mm_len_4, mm_len_6, mm_len_8, mm_len_10, mm_len_11, mm_len_12, mm_len_13, mm_len_14, mm_len_15, mm_len_17, mm_len_18, mm_len_19, mm_len_20, mm_len_21, mm_len_22, mm_len_23, mm_len_24, mm_len_25]
      try simp only [eq_self, true_and, and_true, Bool.false_eq_true, false_implies, true_implies, true_or, or_true, mm_numI, mm_numL, mm_numN, pp_i10, pp_i01, pp_im1, not_false_eq_true, not_true_eq_false, false_or, or_false]
      have hm8 := pp_msk_8 (P := aa_no n A mk sc (cl_pf n (rr_d b n row) pf)) n8
      rw [pp_eq0 (by omega), aa_S hok]
      have tl : ∀ q, n ≤ q → q < 8 → g' q = nI (pf q) := by
        intro q h1 h2
        rw [hg' q h2]
        unfold cl_pf
        rw [if_neg (by omega)]
      refine ⟨fun hS => ?_, fun hS => ⟨fun hne => ?_, fun he => ?_⟩⟩
      · have ih := ih (row + 1) (by omega) (fun r' hr' => ?_) g' (some (.int y7)) (some (.int y8)) tl
        · rw [pp_cnt_f (Bool.eq_false_iff.mpr hS)] at ih
          rw [nI_1 row]
          exact ih
        · rcases Nat.lt_succ_iff_lt_or_eq.mp hr' with h1 | h1
          · exact hlo r' h1
          · rw [h1]; exact fun z => hS z.1
      · have ih := ih (row + 1) (by omega) (fun r' hr' => ?_) g' (some (.int y7)) (some (.int y8)) tl
        · rw [pp_cnt_t hS] at ih
          rw [nI_1 row, nI_1 (pp_cnt (rr_S n A mk sc b) row)]
          exact ih
        · rcases Nat.lt_succ_iff_lt_or_eq.mp hr' with h1 | h1
          · exact hlo r' h1
          · rw [h1]; exact fun z => hne z.2
      · rw [nI_1]
        refine ⟨fun c hc => mm_setA_ne hc, ?_, Or.inl ⟨row, ⟨by omega, hS, he⟩, rfl, ?_⟩⟩
        · rw [mm_setA_same]; exact tl
        · rw [mm_setA_same]; exact hg'
    · rw [hg q h1 h2]
      unfold cl_pf
      rw [if_neg (by omega)]
set_option maxRecDepth 20000 in
theorem t_goThrough {l : Launch} {d : Nat} (hd : 3 < d) {h : mm_H} {n b sc : Nat} {A mk pf : Nat → Nat} (hN : dd_N h n A mk) (hok : jj_ok n A) (hsc : sc < 5) (h5 : h 16 5 = nI sc) (hP : ∀ q, q < 8 → h 19 q = nI (pf q)) (hpf : ∀ q, pf q < 64) (hb0 : 0 < b) (hb : b ≤ 64) (hbn : b ^ n ≤ 100000) (ask : Int32) : mm_Ev l d M6_goThrough [.ref 16, .int (nI b), .int ask] h (gt_P (rr_S n A mk sc b) b n ask pf h) := by
  refine mm_Ev.of (by decide +kernel) (Nat.le_of_ble_eq_true rfl) (mm_rn_ok [12] _ (S6_goThrough l d _ _) 1000 _ _ _ _ ?_)
  simp only [G6_goThrough_0, G6_goThrough_1, G6_goThrough_2, G6_goThrough_5, G6_goThrough_6, G6_goThrough_7, G6_goThrough_9, G6_goThrough_10, G6_goThrough_12, G6_goThrough_14, G6_goThrough_15, G6_goThrough_16, G6_goThrough_17, G6_goThrough_20, G6_goThrough_22, G6_goThrough_24, G6_goThrough_25, G6_goThrough_28, G6_goThrough_29, G6_goThrough_30, G6_goThrough_32, G6_goThrough_34, G6_goThrough_37, G6_goThrough_38, G6_goThrough_41, G6_goThrough_43, G6_goThrough_45, G6_goThrough_46, G6_goThrough_47, G6_goThrough_48, G6_goThrough_50, G6_goThrough_51, G6_goThrough_52, G6_goThrough_54, G6_goThrough_57, G6_goThrough_60, G6_goThrough_61, G6_goThrough_64, G6_goThrough_67, G6_goThrough_69, G6_goThrough_70, G6_goThrough_73, G6_goThrough_75, G6_goThrough_76, G6_goThrough_77, G6_goThrough_78, G6_goThrough_81, G6_goThrough_84, G6_goThrough_87, G6_goThrough_89, N6_goThrough, ↓mm_kc_ap, ↓mm_cut, mm_en, mm_nth, mm_put, mm_sto, mm_stoL, mm_ag, mm_dr, mm_sw, Nat.reduceSub, List.replicate, Option.toList, List.cons_append, List.nil_append, sq_int, sq_lng, sq_iload, sq_lload, sq_aload, sq_istore, sq_lstore, sq_astore, sq_iinc, sq_iadd, sq_isub, sq_imul, sq_iand, sq_ior, sq_ixor, sq_ishl, sq_ishr, sq_iushr, sq_ladd, sq_lsub, sq_lmul, sq_idiv, sq_irem, sq_ldiv, sq_lrem, sq_i2l, sq_lcmp, sq_dupI, sq_dupR, sq_pop, sq_dup2, sq_goto, sq_if_eq, sq_icmp_eq, sq_if_ne, sq_icmp_ne, sq_if_lt, sq_icmp_lt, sq_if_ge, sq_icmp_ge, sq_if_gt, sq_icmp_gt, sq_if_le, sq_icmp_le, sq_iaload, sq_iastore, sq_alen, sq_places, sq_getI, sq_getR, sq_put, sq_ret, sq_lret, sq_vret, sq_switch, sq_callS, sq_callV, sq_copy, sq_max, sq_min, mm_len_2, mm_len_3, mm_len_4, mm_len_6, mm_len_8, mm_len_10, mm_len_11, mm_len_12, mm_len_13, mm_len_14, mm_len_15, mm_len_17, mm_len_18, mm_len_19, mm_len_20, mm_len_21, mm_len_22, mm_len_23, mm_len_24, mm_len_25]
  try simp only [eq_self, true_and, and_true, Bool.false_eq_true, false_implies, true_implies, true_or, or_true, mm_numI, mm_numL, mm_numN, pp_i10, pp_i01, pp_im1, not_false_eq_true, not_true_eq_false, false_or, or_false]
  refine ⟨0, _, by omega, t_allOf hN.2.1 hN.2.2.1 hb, rfl, ?_⟩
  rintro _ _ ⟨rfl, e⟩
  rw [e]
  simp only [G6_goThrough_0, G6_goThrough_1, G6_goThrough_2, G6_goThrough_5, G6_goThrough_6, G6_goThrough_7, G6_goThrough_9, G6_goThrough_10, G6_goThrough_12, G6_goThrough_14, G6_goThrough_15, G6_goThrough_16, G6_goThrough_17, G6_goThrough_20, G6_goThrough_22, G6_goThrough_24, G6_goThrough_25, G6_goThrough_28, G6_goThrough_29, G6_goThrough_30, G6_goThrough_32, G6_goThrough_34, G6_goThrough_37, G6_goThrough_38, G6_goThrough_41, G6_goThrough_43, G6_goThrough_45, G6_goThrough_46, G6_goThrough_47, G6_goThrough_48, G6_goThrough_50, G6_goThrough_51, G6_goThrough_52, G6_goThrough_54, G6_goThrough_57, G6_goThrough_60, G6_goThrough_61, G6_goThrough_64, G6_goThrough_67, G6_goThrough_69, G6_goThrough_70, G6_goThrough_73, G6_goThrough_75, G6_goThrough_76, G6_goThrough_77, G6_goThrough_78, G6_goThrough_81, G6_goThrough_84, G6_goThrough_87, G6_goThrough_89, N6_goThrough, ↓mm_kc_ap, ↓mm_cut, mm_en, mm_nth, mm_put, mm_sto, mm_stoL, mm_ag, mm_dr, mm_sw, Nat.reduceSub, List.replicate, Option.toList, List.cons_append, List.nil_append, sq_int, sq_lng, sq_iload, sq_lload, sq_aload, sq_istore, sq_lstore, sq_astore, sq_iinc, sq_iadd, sq_isub, sq_imul, sq_iand, sq_ior, sq_ixor, sq_ishl, sq_ishr, sq_iushr, sq_ladd, sq_lsub, sq_lmul, sq_idiv, sq_irem, sq_ldiv, sq_lrem, sq_i2l, sq_lcmp, sq_dupI, sq_dupR, sq_pop, sq_dup2, sq_goto, sq_if_eq, sq_icmp_eq, sq_if_ne, sq_icmp_ne, sq_if_lt, sq_icmp_lt, sq_if_ge, sq_icmp_ge, sq_if_gt, sq_icmp_gt, sq_if_le, sq_icmp_le, sq_iaload, sq_iastore, sq_alen, sq_places, sq_getI, sq_getR, sq_put, sq_ret, sq_lret, sq_vret, sq_switch, sq_callS, sq_callV, sq_copy, sq_max, sq_min, mm_len_2, mm_len_3, mm_len_4, mm_len_6, mm_len_8, mm_len_10, mm_len_11, mm_len_12, mm_len_13, mm_len_14, mm_len_15, mm_len_17, mm_len_18, mm_len_19, mm_len_20, mm_len_21, mm_len_22, mm_len_23, mm_len_24, mm_len_25]
  try simp only [eq_self, true_and, and_true, Bool.false_eq_true, false_implies, true_implies, true_or, or_true, mm_numI, mm_numL, mm_numN, pp_i10, pp_i01, pp_im1, not_false_eq_true, not_true_eq_false, false_or, or_false]
  have key := gt_rows (l := l) (d := d) (E := fun _ _ _ => True) hd hN hok hsc h5 hpf hb0 hb hbn (ask := ask) (b ^ n) 0 (by omega) (fun r' hr' => absurd hr' (Nat.not_lt_zero _)) (h 19) none none (fun q _ h2 => hP q h2)
  rw [mm_setA_id] at key
  exact key
def la_P (n c : Nat) (f g : Nat → Nat) (h : mm_H) : mm_Po := fun r h' => r = none ∧ (∀ x, x ≠ c → h' x = h x) ∧ (∀ q, q < n → h' c q = nI (f q)) ∧ ∀ q, n ≤ q → h' c q = h c q
set_option maxRecDepth 20000 in
theorem t_lay_loop {l : Launch} {d : Nat} {E : mm_X} {h0 : mm_H} {n : Nat} {f : Nat → Nat} (n8 : n ≤ 8) (hn : h0 16 0 = nI n) (hf : ∀ q, q < n → h0 19 q = nI (f q)) : ∀ (k p : Nat), p + k = n → ∀ h : mm_H, (∀ x, x ≠ 23 → h x = h0 x) → (∀ q, q < p → h 23 q = nI (f q)) → (∀ q, n ≤ q → h 23 q = h0 23 q) → mm_At l d M6_layAside E (la_P n 23 f f h0) 2 [some (.ref 16), some (.int (nI p))] [] h := by
  intro k
  induction k with
  | zero =>
    intro p hp h hX h1 h2
    have e : p = n := by omega
    subst e
    refine mm_rn_ok [] _ (S6_layAside l d _ _) 1000 _ _ _ _ ?_
    simp only [G6_layAside_0, G6_layAside_1, G6_layAside_2, G6_layAside_3, G6_layAside_4, G6_layAside_7, G6_layAside_10, G6_layAside_11, G6_layAside_14, G6_layAside_15, G6_layAside_16, G6_layAside_19, G6_layAside_20, G6_layAside_21, G6_layAside_22, G6_layAside_25, G6_layAside_28, N6_layAside, ↓mm_kc_ap, ↓mm_cut, mm_en, mm_nth, mm_put, mm_sto, mm_stoL, mm_ag, mm_dr, mm_sw, Nat.reduceSub, List.replicate, Option.toList, List.cons_append, List.nil_append, sq_int, sq_lng, sq_iload, sq_lload, sq_aload, sq_istore, sq_lstore, sq_astore, sq_iinc, sq_iadd, sq_isub, sq_imul, sq_iand, sq_ior, sq_ixor, sq_ishl, sq_ishr, sq_iushr, sq_ladd, sq_lsub, sq_lmul, sq_idiv, sq_irem, sq_ldiv, sq_lrem, sq_i2l, sq_lcmp, sq_dupI, sq_dupR, sq_pop, sq_dup2, sq_goto, sq_if_eq, sq_icmp_eq, sq_if_ne, sq_icmp_ne, sq_if_lt, sq_icmp_lt, sq_if_ge, sq_icmp_ge, sq_if_gt, sq_icmp_gt, sq_if_le, sq_icmp_le, sq_iaload, sq_iastore, sq_alen, sq_places, sq_getI, sq_getR, sq_put, sq_ret, sq_lret, sq_vret, sq_switch, sq_callS, sq_callV, sq_copy, sq_max, sq_min, mm_len_2, mm_len_3, mm_len_4, mm_len_6, mm_len_8, mm_len_10, mm_len_11, mm_len_12, mm_len_13, mm_len_14, mm_len_15, mm_len_17, mm_len_18, mm_len_19, mm_len_20, mm_len_21, mm_len_22, mm_len_23, mm_len_24, mm_len_25]
    try simp only [eq_self, true_and, and_true, Bool.false_eq_true, false_implies, true_implies, true_or, or_true, mm_numI, mm_numL, mm_numN, pp_i10, pp_i01, pp_im1, not_false_eq_true, not_true_eq_false, false_or, or_false]
    rw [hX 16 (by decide), hn]
    exact ⟨fun _ => ⟨rfl, hX, h1, h2⟩, fun hc => absurd (nI_le (Nat.le_refl _) (by omega)) hc⟩
  | succ k ih =>
    intro p hp h hX h1 h2
    have ip : vp_in (nI p) 8 := vp_in_nI (by omega) (by decide)
    refine mm_rn_ok [] _ (S6_layAside l d _ _) 1000 _ _ _ _ ?_
    simp only [G6_layAside_0, G6_layAside_1, G6_layAside_2, G6_layAside_3, G6_layAside_4, G6_layAside_7, G6_layAside_10, G6_layAside_11, G6_layAside_14, G6_layAside_15, G6_layAside_16, G6_layAside_19, G6_layAside_20, G6_layAside_21, G6_layAside_22, G6_layAside_25, G6_layAside_28, N6_layAside, ↓mm_kc_ap, ↓mm_cut, mm_en, mm_nth, mm_put, mm_sto, mm_stoL, mm_ag, mm_dr, mm_sw, Nat.reduceSub, List.replicate, Option.toList, List.cons_append, List.nil_append, sq_int, sq_lng, sq_iload, sq_lload, sq_aload, sq_istore, sq_lstore, sq_astore, sq_iinc, sq_iadd, sq_isub, sq_imul, sq_iand, sq_ior, sq_ixor, sq_ishl, sq_ishr, sq_iushr, sq_ladd, sq_lsub, sq_lmul, sq_idiv, sq_irem, sq_ldiv, sq_lrem, sq_i2l, sq_lcmp, sq_dupI, sq_dupR, sq_pop, sq_dup2, sq_goto, sq_if_eq, sq_icmp_eq, sq_if_ne, sq_icmp_ne, sq_if_lt, sq_icmp_lt, sq_if_ge, sq_icmp_ge, sq_if_gt, sq_icmp_gt, sq_if_le, sq_icmp_le, sq_iaload, sq_iastore, sq_alen, sq_places, sq_getI, sq_getR, sq_put, sq_ret, sq_lret, sq_vret, sq_switch, sq_callS, sq_callV, sq_copy, sq_max, sq_min, mm_len_2, mm_len_3, mm_len_4, mm_len_6, mm_len_8, mm_len_10, mm_len_11, mm_len_12, mm_len_13, mm_len_14, mm_len_15, mm_len_17, mm_len_18, mm_len_19, mm_len_20, mm_len_21, mm_len_22, mm_len_23, mm_len_24, mm_len_25]
    try simp only [eq_self, true_and, and_true, Bool.false_eq_true, false_implies, true_implies, true_or, or_true, mm_numI, mm_numL, mm_numN, pp_i10, pp_i01, pp_im1, not_false_eq_true, not_true_eq_false, false_or, or_false]
    rw [hX 16 (by decide), hn, nI_1, nI_clamp (show p < 2 ^ 31 by omega), hX 19 (by decide), hf p (by omega)]
    refine ⟨fun hc => absurd hc (nI_ge (by omega) (by omega)), fun _ => ⟨ip, by decide, ip, ih (p + 1) (by omega) _ (fun x hx => ?_) (fun q hq => ?_) (fun q hq => ?_)⟩⟩
    · rw [mm_set_ne hx]; exact hX x hx
    · by_cases e : q = p
      · rw [e, mm_set_same]
      · rw [mm_set_other e]; exact h1 q (by omega)
    · rw [mm_set_other (by omega)]; exact h2 q hq
set_option maxRecDepth 20000 in
theorem t_layAside {l : Launch} {d : Nat} {h : mm_H} {n : Nat} {f : Nat → Nat} (n8 : n ≤ 8) (hn : h 16 0 = nI n) (hf : ∀ q, q < n → h 19 q = nI (f q)) : mm_Ev l d M6_layAside [.ref 16] h (la_P n 23 f f h) := by
  refine mm_Ev.of (by decide +kernel) (Nat.le_of_ble_eq_true rfl) (mm_rn_ok [2] _ (S6_layAside l d _ _) 1000 _ _ _ _ ?_)
  simp only [G6_layAside_0, G6_layAside_1, G6_layAside_2, G6_layAside_3, G6_layAside_4, G6_layAside_7, G6_layAside_10, G6_layAside_11, G6_layAside_14, G6_layAside_15, G6_layAside_16, G6_layAside_19, G6_layAside_20, G6_layAside_21, G6_layAside_22, G6_layAside_25, G6_layAside_28, N6_layAside, ↓mm_kc_ap, ↓mm_cut, mm_en, mm_nth, mm_put, mm_sto, mm_stoL, mm_ag, mm_dr, mm_sw, Nat.reduceSub, List.replicate, Option.toList, List.cons_append, List.nil_append, sq_int, sq_lng, sq_iload, sq_lload, sq_aload, sq_istore, sq_lstore, sq_astore, sq_iinc, sq_iadd, sq_isub, sq_imul, sq_iand, sq_ior, sq_ixor, sq_ishl, sq_ishr, sq_iushr, sq_ladd, sq_lsub, sq_lmul, sq_idiv, sq_irem, sq_ldiv, sq_lrem, sq_i2l, sq_lcmp, sq_dupI, sq_dupR, sq_pop, sq_dup2, sq_goto, sq_if_eq, sq_icmp_eq, sq_if_ne, sq_icmp_ne, sq_if_lt, sq_icmp_lt, sq_if_ge, sq_icmp_ge, sq_if_gt, sq_icmp_gt, sq_if_le, sq_icmp_le, sq_iaload, sq_iastore, sq_alen, sq_places, sq_getI, sq_getR, sq_put, sq_ret, sq_lret, sq_vret, sq_switch, sq_callS, sq_callV, sq_copy, sq_max, sq_min, mm_len_2, mm_len_3, mm_len_4, mm_len_6, mm_len_8, mm_len_10, mm_len_11, mm_len_12, mm_len_13, mm_len_14, mm_len_15, mm_len_17, mm_len_18, mm_len_19, mm_len_20, mm_len_21, mm_len_22, mm_len_23, mm_len_24, mm_len_25]
  try simp only [eq_self, true_and, and_true, Bool.false_eq_true, false_implies, true_implies, true_or, or_true, mm_numI, mm_numL, mm_numN, pp_i10, pp_i01, pp_im1, not_false_eq_true, not_true_eq_false, false_or, or_false]
  exact t_lay_loop n8 hn hf n 0 (by omega) h (fun _ _ => rfl) (fun q hq => absurd hq (Nat.not_lt_zero _)) (fun _ _ => rfl)
set_option maxRecDepth 20000 in
theorem t_put_loop {l : Launch} {d : Nat} {E : mm_X} {h0 : mm_H} {n : Nat} {f : Nat → Nat} (n8 : n ≤ 8) (hn : h0 16 0 = nI n) (hf : ∀ q, q < n → h0 23 q = nI (f q)) : ∀ (k p : Nat), p + k = n → ∀ h : mm_H, (∀ x, x ≠ 19 → h x = h0 x) → (∀ q, q < p → h 19 q = nI (f q)) → (∀ q, n ≤ q → h 19 q = h0 19 q) → mm_At l d M6_putBack E (la_P n 19 f f h0) 2 [some (.ref 16), some (.int (nI p))] [] h := by
  intro k
  induction k with
  | zero =>
    intro p hp h hX h1 h2
    have e : p = n := by omega
    subst e
    refine mm_rn_ok [] _ (S6_putBack l d _ _) 1000 _ _ _ _ ?_
    simp only [G6_putBack_0, G6_putBack_1, G6_putBack_2, G6_putBack_3, G6_putBack_4, G6_putBack_7, G6_putBack_10, G6_putBack_11, G6_putBack_14, G6_putBack_15, G6_putBack_16, G6_putBack_19, G6_putBack_20, G6_putBack_21, G6_putBack_22, G6_putBack_25, G6_putBack_28, N6_putBack, ↓mm_kc_ap, ↓mm_cut, mm_en, mm_nth, mm_put, mm_sto, mm_stoL, mm_ag, mm_dr, mm_sw, Nat.reduceSub, List.replicate, Option.toList, List.cons_append, List.nil_append, sq_int, sq_lng, sq_iload, sq_lload, sq_aload, sq_istore, sq_lstore, sq_astore, sq_iinc, sq_iadd, sq_isub, sq_imul, sq_iand, sq_ior, sq_ixor, sq_ishl, sq_ishr, sq_iushr, sq_ladd, sq_lsub, sq_lmul, sq_idiv, sq_irem, sq_ldiv, sq_lrem, sq_i2l, sq_lcmp, sq_dupI, sq_dupR, sq_pop, sq_dup2, sq_goto, sq_if_eq, sq_icmp_eq, sq_if_ne, sq_icmp_ne, sq_if_lt, sq_icmp_lt, sq_if_ge, sq_icmp_ge, sq_if_gt, sq_icmp_gt, sq_if_le, sq_icmp_le, sq_iaload, sq_iastore, sq_alen, sq_places, sq_getI, sq_getR, sq_put, sq_ret, sq_lret, sq_vret, sq_switch, sq_callS, sq_callV, sq_copy, sq_max, sq_min, mm_len_2, mm_len_3, mm_len_4, mm_len_6, mm_len_8, mm_len_10, mm_len_11, mm_len_12, mm_len_13, mm_len_14, mm_len_15, mm_len_17, mm_len_18, mm_len_19, mm_len_20, mm_len_21, mm_len_22, mm_len_23, mm_len_24, mm_len_25]
    try simp only [eq_self, true_and, and_true, Bool.false_eq_true, false_implies, true_implies, true_or, or_true, mm_numI, mm_numL, mm_numN, pp_i10, pp_i01, pp_im1, not_false_eq_true, not_true_eq_false, false_or, or_false]
    rw [hX 16 (by decide), hn]
    exact ⟨fun _ => ⟨rfl, hX, h1, h2⟩, fun hc => absurd (nI_le (Nat.le_refl _) (by omega)) hc⟩
  | succ k ih =>
    intro p hp h hX h1 h2
    have ip : vp_in (nI p) 8 := vp_in_nI (by omega) (by decide)
    refine mm_rn_ok [] _ (S6_putBack l d _ _) 1000 _ _ _ _ ?_
    simp only [G6_putBack_0, G6_putBack_1, G6_putBack_2, G6_putBack_3, G6_putBack_4, G6_putBack_7, G6_putBack_10, G6_putBack_11, G6_putBack_14, G6_putBack_15, G6_putBack_16, G6_putBack_19, G6_putBack_20, G6_putBack_21, G6_putBack_22, G6_putBack_25, G6_putBack_28, N6_putBack, ↓mm_kc_ap, ↓mm_cut, mm_en, mm_nth, mm_put, mm_sto, mm_stoL, mm_ag, mm_dr, mm_sw, Nat.reduceSub, List.replicate, Option.toList, List.cons_append, List.nil_append, sq_int, sq_lng, sq_iload, sq_lload, sq_aload, sq_istore, sq_lstore, sq_astore, sq_iinc, sq_iadd, sq_isub, sq_imul, sq_iand, sq_ior, sq_ixor, sq_ishl, sq_ishr, sq_iushr, sq_ladd, sq_lsub, sq_lmul, sq_idiv, sq_irem, sq_ldiv, sq_lrem, sq_i2l, sq_lcmp, sq_dupI, sq_dupR, sq_pop, sq_dup2, sq_goto, sq_if_eq, sq_icmp_eq, sq_if_ne, sq_icmp_ne, sq_if_lt, sq_icmp_lt, sq_if_ge, sq_icmp_ge, sq_if_gt, sq_icmp_gt, sq_if_le, sq_icmp_le, sq_iaload, sq_iastore, sq_alen, sq_places, sq_getI, sq_getR, sq_put, sq_ret, sq_lret, sq_vret, sq_switch, sq_callS, sq_callV, sq_copy, sq_max, sq_min, mm_len_2, mm_len_3, mm_len_4, mm_len_6, mm_len_8, mm_len_10, mm_len_11, mm_len_12, mm_len_13, mm_len_14, mm_len_15, mm_len_17, mm_len_18, mm_len_19, mm_len_20, mm_len_21, mm_len_22, mm_len_23, mm_len_24, mm_len_25]
    try simp only [eq_self, true_and, and_true, Bool.false_eq_true, false_implies, true_implies, true_or, or_true, mm_numI, mm_numL, mm_numN, pp_i10, pp_i01, pp_im1, not_false_eq_true, not_true_eq_false, false_or, or_false]
    rw [hX 16 (by decide), hn, nI_1, nI_clamp (show p < 2 ^ 31 by omega), hX 23 (by decide), hf p (by omega)]
    refine ⟨fun hc => absurd hc (nI_ge (by omega) (by omega)), fun _ => ⟨ip, by decide, ip, ih (p + 1) (by omega) _ (fun x hx => ?_) (fun q hq => ?_) (fun q hq => ?_)⟩⟩
    · rw [mm_set_ne hx]; exact hX x hx
    · by_cases e : q = p
      · rw [e, mm_set_same]
      · rw [mm_set_other e]; exact h1 q (by omega)
    · rw [mm_set_other (by omega)]; exact h2 q hq
set_option maxRecDepth 20000 in
theorem t_putBack {l : Launch} {d : Nat} {h : mm_H} {n : Nat} {f : Nat → Nat} (n8 : n ≤ 8) (hn : h 16 0 = nI n) (hf : ∀ q, q < n → h 23 q = nI (f q)) : mm_Ev l d M6_putBack [.ref 16] h (la_P n 19 f f h) := by
  refine mm_Ev.of (by decide +kernel) (Nat.le_of_ble_eq_true rfl) (mm_rn_ok [2] _ (S6_putBack l d _ _) 1000 _ _ _ _ ?_)
  simp only [G6_putBack_0, G6_putBack_1, G6_putBack_2, G6_putBack_3, G6_putBack_4, G6_putBack_7, G6_putBack_10, G6_putBack_11, G6_putBack_14, G6_putBack_15, G6_putBack_16, G6_putBack_19, G6_putBack_20, G6_putBack_21, G6_putBack_22, G6_putBack_25, G6_putBack_28, N6_putBack, ↓mm_kc_ap, ↓mm_cut, mm_en, mm_nth, mm_put, mm_sto, mm_stoL, mm_ag, mm_dr, mm_sw, Nat.reduceSub, List.replicate, Option.toList, List.cons_append, List.nil_append, sq_int, sq_lng, sq_iload, sq_lload, sq_aload, sq_istore, sq_lstore, sq_astore, sq_iinc, sq_iadd, sq_isub, sq_imul, sq_iand, sq_ior, sq_ixor, sq_ishl, sq_ishr, sq_iushr, sq_ladd, sq_lsub, sq_lmul, sq_idiv, sq_irem, sq_ldiv, sq_lrem, sq_i2l, sq_lcmp, sq_dupI, sq_dupR, sq_pop, sq_dup2, sq_goto, sq_if_eq, sq_icmp_eq, sq_if_ne, sq_icmp_ne, sq_if_lt, sq_icmp_lt, sq_if_ge, sq_icmp_ge, sq_if_gt, sq_icmp_gt, sq_if_le, sq_icmp_le, sq_iaload, sq_iastore, sq_alen, sq_places, sq_getI, sq_getR, sq_put, sq_ret, sq_lret, sq_vret, sq_switch, sq_callS, sq_callV, sq_copy, sq_max, sq_min, mm_len_2, mm_len_3, mm_len_4, mm_len_6, mm_len_8, mm_len_10, mm_len_11, mm_len_12, mm_len_13, mm_len_14, mm_len_15, mm_len_17, mm_len_18, mm_len_19, mm_len_20, mm_len_21, mm_len_22, mm_len_23, mm_len_24, mm_len_25]
  try simp only [eq_self, true_and, and_true, Bool.false_eq_true, false_implies, true_implies, true_or, or_true, mm_numI, mm_numL, mm_numN, pp_i10, pp_i01, pp_im1, not_false_eq_true, not_true_eq_false, false_or, or_false]
  exact t_put_loop n8 hn hf n 0 (by omega) h (fun _ _ => rfl) (fun q hq => absurd hq (Nat.not_lt_zero _)) (fun _ _ => rfl)
