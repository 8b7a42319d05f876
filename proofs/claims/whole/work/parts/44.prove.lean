/-! ===== holds, prove, numbers ===== -/
theorem cl_num_at {n : Nat} {A mk : Nat → Nat} {sc : Nat} {g : Nat → Int32} (h : ∃ f, cl_is n A mk sc f ∧ ∀ q, q < n → g q = nI (f q)) : (∀ q, q < n → g q = nI (cl_num n A mk sc q)) ∧ ∀ q, q < n → cl_num n A mk sc q < 64 := by
  obtain ⟨f, f1, f2⟩ := h
  obtain ⟨e1, e2⟩ := cl_num_eq f1
  exact ⟨fun q hq => by rw [f2 q hq, e2 q hq], cl_is_64 e1⟩
theorem ss_C.fi {h h' : mm_H} {s : ss_T} (hC : ss_C h s) (hX : ∀ c, c ≠ 4 → c ≠ 5 → c ≠ 6 → c ≠ 8 → h' c = h c) (hF : ∃ f, rr_F (h' 6) f) : ss_C h' s := by
  obtain ⟨n, A, mq, pf, ds, sc, tr, lk⟩ := s
  obtain ⟨c1, c2, c3, c4, c5, c6, c7⟩ := hC
  have x0 := hX 0 (by decide) (by decide) (by decide) (by decide)
  refine ⟨c1.cg (hX 1 (by decide) (by decide) (by decide) (by decide)) (hX 2 (by decide) (by decide) (by decide) (by decide)) (hX 3 (by decide) (by decide) (by decide) (by decide)), ?_, ⟨?_, c3.2⟩, ?_, ?_, ?_, hF⟩
  · rw [hX 15 (by decide) (by decide) (by decide) (by decide)]; exact c2
  · rw [hX 10 (by decide) (by decide) (by decide) (by decide)]; exact c3.1
  · rw [x0]; exact c4
  · rw [x0]; exact c5
  · rw [x0]; exact c6
theorem ss_M.cm {h h' : mm_H} {s : ss_T} (hM : ss_M h s) (hX : ∀ c, c ≠ 21 → c ≠ 22 → h' c = h c) : ss_M h' s := hM.cg (hX _ (by decide) (by decide)) (hX _ (by decide) (by decide)) (hX _ (by decide) (by decide)) (hX _ (by decide) (by decide)) (hX _ (by decide) (by decide))
noncomputable def sp_holds (s : ss_T) : Int32 := match s with
  | (n, A, mq, _, _, sc, _, _) => pp_b (cl_b n A mq sc)
set_option maxRecDepth 20000 in
theorem u_holds {l : Launch} {d : Nat} (hd : 14 < d) {h : mm_H} {s : ss_T} (hW : ss_W s) (hC : ss_C h s) : mm_Ev l d M5_holds [.ref 0] h (ss_pC (.int (sp_holds s)) s h) := by
  have hC' := hC
  obtain ⟨n, A, mq, pf, ds, sc, tr, lk⟩ := s
  obtain ⟨c1, c2, c3, c4, c5, c6, c7⟩ := hC
  obtain ⟨w1, w2, w3, w4, w5, w6, w7, w8, w9, w10, w11, w12⟩ := hW
  refine mm_Ev.of (by decide +kernel) (Nat.le_of_ble_eq_true rfl) (mm_rn_ok [] _ (S5_holds l d _ _) 1000 _ _ _ _ ?_)
  simp only [G5_holds_0, G5_holds_1, G5_holds_4, G5_holds_5, G5_holds_8, G5_holds_11, G5_holds_14, G5_holds_15, G5_holds_18, G5_holds_19, N5_holds, ↓mm_kc_ap, ↓mm_cut, mm_en, mm_nth, mm_put, mm_sto, mm_stoL, mm_ag, mm_dr, mm_sw, Nat.reduceSub, List.replicate, Option.toList, List.cons_append, List.nil_append, sq_int, sq_lng, sq_iload, sq_lload, sq_aload, sq_istore, sq_lstore, sq_astore, sq_iinc, sq_iadd, sq_isub, sq_imul, sq_iand, sq_ior, sq_ixor, sq_ishl, sq_ishr, sq_iushr, sq_ladd, sq_lsub, sq_lmul, sq_idiv, sq_irem, sq_ldiv, sq_lrem, sq_i2l, sq_lcmp, sq_dupI, sq_dupR, sq_pop, sq_dup2, sq_goto, sq_if_eq, sq_icmp_eq, sq_if_ne, sq_icmp_ne, sq_if_lt, sq_icmp_lt, sq_if_ge, sq_icmp_ge, sq_if_gt, sq_icmp_gt, sq_if_le, sq_icmp_le, sq_iaload, sq_iastore, sq_alen, sq_places, sq_getI, sq_getR, sq_put, sq_ret, sq_lret, sq_vret, sq_switch, sq_callS, sq_callV, sq_copy, sq_max, sq_min, mm_len_2, mm_len_3, mm_len_4, mm_len_6, mm_len_8, mm_len_10, mm_len_11, mm_len_12, mm_len_13, mm_len_14, mm_len_15, mm_len_17, mm_len_18, mm_len_19, mm_len_20, mm_len_21, mm_len_22, mm_len_23, mm_len_24, mm_len_25]
  try simp only [eq_self, true_and, and_true, Bool.false_eq_true, false_implies, true_implies, true_or, or_true, mm_numI, mm_numL, mm_numN, pp_i10, pp_i01, pp_im1, not_false_eq_true, not_true_eq_false, false_or, or_false]
  rw [c4]
  refine ⟨14, _, hd, t_finds (by decide) c1 w3 w4 w5 w10 c7, rfl, ?_⟩
  rintro _ h' ⟨rfl, hX, hF, hnum⟩
  simp only [G5_holds_0, G5_holds_1, G5_holds_4, G5_holds_5, G5_holds_8, G5_holds_11, G5_holds_14, G5_holds_15, G5_holds_18, G5_holds_19, N5_holds, ↓mm_kc_ap, ↓mm_cut, mm_en, mm_nth, mm_put, mm_sto, mm_stoL, mm_ag, mm_dr, mm_sw, Nat.reduceSub, List.replicate, Option.toList, List.cons_append, List.nil_append, sq_int, sq_lng, sq_iload, sq_lload, sq_aload, sq_istore, sq_lstore, sq_astore, sq_iinc, sq_iadd, sq_isub, sq_imul, sq_iand, sq_ior, sq_ixor, sq_ishl, sq_ishr, sq_iushr, sq_ladd, sq_lsub, sq_lmul, sq_idiv, sq_irem, sq_ldiv, sq_lrem, sq_i2l, sq_lcmp, sq_dupI, sq_dupR, sq_pop, sq_dup2, sq_goto, sq_if_eq, sq_icmp_eq, sq_if_ne, sq_icmp_ne, sq_if_lt, sq_icmp_lt, sq_if_ge, sq_icmp_ge, sq_if_gt, sq_icmp_gt, sq_if_le, sq_icmp_le, sq_iaload, sq_iastore, sq_alen, sq_places, sq_getI, sq_getR, sq_put, sq_ret, sq_lret, sq_vret, sq_switch, sq_callS, sq_callV, sq_copy, sq_max, sq_min, mm_len_2, mm_len_3, mm_len_4, mm_len_6, mm_len_8, mm_len_10, mm_len_11, mm_len_12, mm_len_13, mm_len_14, mm_len_15, mm_len_17, mm_len_18, mm_len_19, mm_len_20, mm_len_21, mm_len_22, mm_len_23, mm_len_24, mm_len_25]
  try simp only [eq_self, true_and, and_true, Bool.false_eq_true, false_implies, true_implies, true_or, or_true, mm_numI, mm_numL, mm_numN, pp_i10, pp_i01, pp_im1, not_false_eq_true, not_true_eq_false, false_or, or_false]
  rw [pp_bne, pp_beq]
  unfold sp_holds
  dsimp only
  refine ⟨fun hb => ⟨?_, hC'.fi hX hF, fun c hc => hX c (by omega) (by omega) (by omega) (by omega)⟩, fun hb => ⟨?_, hC'.fi hX hF, fun c hc => hX c (by omega) (by omega) (by omega) (by omega)⟩⟩
  · rw [hb]; rfl
  · rw [hb]; rfl
set_option maxRecDepth 20000 in
theorem v_holds {l : Launch} {d : Nat} (hd : 4 < d) {h : mm_H} {s : ss_T} (hW : ss_W s) (hM : ss_M h s) : mm_Ev l d M6_holds [.ref 16] h (ss_pM (.int (sp_holds s)) s h) := by
  have hM' := hM
  obtain ⟨n, A, mq, pf, ds, sc, tr, lk⟩ := s
  obtain ⟨c1, c2, c3, c4, c5, c6⟩ := hM
  obtain ⟨w1, w2, w3, w4, w5, w6, w7, w8, w9, w10, w11, w12⟩ := hW
  refine mm_Ev.of (by decide +kernel) (Nat.le_of_ble_eq_true rfl) (mm_rn_ok [] _ (S6_holds l d _ _) 1000 _ _ _ _ ?_)
  simp only [G6_holds_0, G6_holds_1, G6_holds_4, G6_holds_7, G6_holds_8, G6_holds_11, G6_holds_12, N6_holds, ↓mm_kc_ap, ↓mm_cut, mm_en, mm_nth, mm_put, mm_sto, mm_stoL, mm_ag, mm_dr, mm_sw, Nat.reduceSub, List.replicate, Option.toList, List.cons_append, List.nil_append, sq_int, sq_lng, sq_iload, sq_lload, sq_aload, sq_istore, sq_lstore, sq_astore, sq_iinc, sq_iadd, sq_isub, sq_imul, sq_iand, sq_ior, sq_ixor, sq_ishl, sq_ishr, sq_iushr, sq_ladd, sq_lsub, sq_lmul, sq_idiv, sq_irem, sq_ldiv, sq_lrem, sq_i2l, sq_lcmp, sq_dupI, sq_dupR, sq_pop, sq_dup2, sq_goto, sq_if_eq, sq_icmp_eq, sq_if_ne, sq_icmp_ne, sq_if_lt, sq_icmp_lt, sq_if_ge, sq_icmp_ge, sq_if_gt, sq_icmp_gt, sq_if_le, sq_icmp_le, sq_iaload, sq_iastore, sq_alen, sq_places, sq_getI, sq_getR, sq_put, sq_ret, sq_lret, sq_vret, sq_switch, sq_callS, sq_callV, sq_copy, sq_max, sq_min, mm_len_2, mm_len_3, mm_len_4, mm_len_6, mm_len_8, mm_len_10, mm_len_11, mm_len_12, mm_len_13, mm_len_14, mm_len_15, mm_len_17, mm_len_18, mm_len_19, mm_len_20, mm_len_21, mm_len_22, mm_len_23, mm_len_24, mm_len_25]
  try simp only [eq_self, true_and, and_true, Bool.false_eq_true, false_implies, true_implies, true_or, or_true, mm_numI, mm_numL, mm_numN, pp_i10, pp_i01, pp_im1, not_false_eq_true, not_true_eq_false, false_or, or_false]
  refine ⟨4, _, hd, t_claims (by decide) c1 w3 w4 w5 w10 c4, rfl, ?_⟩
  rintro _ h' ⟨rfl, hX, hnum⟩
  simp only [G6_holds_0, G6_holds_1, G6_holds_4, G6_holds_7, G6_holds_8, G6_holds_11, G6_holds_12, N6_holds, ↓mm_kc_ap, ↓mm_cut, mm_en, mm_nth, mm_put, mm_sto, mm_stoL, mm_ag, mm_dr, mm_sw, Nat.reduceSub, List.replicate, Option.toList, List.cons_append, List.nil_append, sq_int, sq_lng, sq_iload, sq_lload, sq_aload, sq_istore, sq_lstore, sq_astore, sq_iinc, sq_iadd, sq_isub, sq_imul, sq_iand, sq_ior, sq_ixor, sq_ishl, sq_ishr, sq_iushr, sq_ladd, sq_lsub, sq_lmul, sq_idiv, sq_irem, sq_ldiv, sq_lrem, sq_i2l, sq_lcmp, sq_dupI, sq_dupR, sq_pop, sq_dup2, sq_goto, sq_if_eq, sq_icmp_eq, sq_if_ne, sq_icmp_ne, sq_if_lt, sq_icmp_lt, sq_if_ge, sq_icmp_ge, sq_if_gt, sq_icmp_gt, sq_if_le, sq_icmp_le, sq_iaload, sq_iastore, sq_alen, sq_places, sq_getI, sq_getR, sq_put, sq_ret, sq_lret, sq_vret, sq_switch, sq_callS, sq_callV, sq_copy, sq_max, sq_min, mm_len_2, mm_len_3, mm_len_4, mm_len_6, mm_len_8, mm_len_10, mm_len_11, mm_len_12, mm_len_13, mm_len_14, mm_len_15, mm_len_17, mm_len_18, mm_len_19, mm_len_20, mm_len_21, mm_len_22, mm_len_23, mm_len_24, mm_len_25]
  try simp only [eq_self, true_and, and_true, Bool.false_eq_true, false_implies, true_implies, true_or, or_true, mm_numI, mm_numL, mm_numN, pp_i10, pp_i01, pp_im1, not_false_eq_true, not_true_eq_false, false_or, or_false]
  rw [pp_bne, pp_beq]
  unfold sp_holds
  dsimp only
  refine ⟨fun hb => ⟨?_, hM'.cm hX, fun c hc => hX c (by omega) (by omega)⟩, fun hb => ⟨?_, hM'.cm hX, fun c hc => hX c (by omega) (by omega)⟩⟩
  · rw [hb]; rfl
  · rw [hb]; rfl
def cl_pf (n : Nat) (f pf : Nat → Nat) : Nat → Nat := fun q => if q < n then f q else pf q
noncomputable def sp_prove (s : ss_T) : Int32 × ss_T := match s with
  | (n, A, mq, pf, ds, sc, tr, lk) => if cl_b n A mq sc = true then (1, (n, A, mq, cl_pf n (cl_num n A mq sc) pf, ds, sc, tr, lk)) else (0, s)
theorem ss_C.p15 {h : mm_H} {n : Nat} {A mq pf pf' ds : Nat → Nat} {sc tr lk : Nat} (hC : ss_C h (n, A, mq, pf, ds, sc, tr, lk)) {h' : mm_H} (hx : ∀ x, x ≠ 15 → h' x = h x) (hP : ∀ q, q < 8 → h' 15 q = nI (pf' q)) : ss_C h' (n, A, mq, pf', ds, sc, tr, lk) := by
  obtain ⟨c1, c2, c3, c4, c5, c6, c7⟩ := hC
  refine ⟨c1.cg (hx _ (by decide)) (hx _ (by decide)) (hx _ (by decide)), hP, ⟨?_, c3.2⟩, ?_, ?_, ?_, ?_⟩
  · rw [hx _ (by decide)]; exact c3.1
  · rw [hx _ (by decide)]; exact c4
  · rw [hx _ (by decide)]; exact c5
  · rw [hx _ (by decide)]; exact c6
  · rw [hx _ (by decide)]; exact c7
theorem ss_M.p19 {h : mm_H} {n : Nat} {A mq pf pf' ds : Nat → Nat} {sc tr lk : Nat} (hM : ss_M h (n, A, mq, pf, ds, sc, tr, lk)) {h' : mm_H} (hx : ∀ x, x ≠ 19 → h' x = h x) (hP : ∀ q, q < 8 → h' 19 q = nI (pf' q)) : ss_M h' (n, A, mq, pf', ds, sc, tr, lk) := by
  obtain ⟨c1, c2, c3, c4, c5, c6⟩ := hM
  refine ⟨c1.cg (hx _ (by decide)) (hx _ (by decide)) (hx _ (by decide)), hP, ⟨?_, c3.2⟩, ?_, ?_, ?_⟩
  · rw [hx _ (by decide)]; exact c3.1
  · rw [hx _ (by decide)]; exact c4
  · rw [hx _ (by decide)]; exact c5
  · rw [hx _ (by decide)]; exact c6
theorem cl_cpy {g g0 : Nat → Int32} {n : Nat} {f pf : Nat → Nat} (hg : ∀ q, q < n → g q = nI (f q)) (h0 : ∀ q, q < 8 → g0 q = nI (pf q)) : ∀ q, q < 8 → va_cpy g g0 (0 : Int32).toNatClampNeg (0 : Int32).toNatClampNeg n q = nI (cl_pf n f pf q) := by
  intro q hq
  unfold cl_pf
  by_cases h1 : q < n
  · have e : va_cpy g g0 (0 : Int32).toNatClampNeg (0 : Int32).toNatClampNeg n q = g (0 + (q - 0)) := pk_cpy_in (sp := 0) (dp := 0) (by omega) (by omega)
    rw [e, if_pos h1, Nat.sub_zero, Nat.zero_add, hg q h1]
  · have e : va_cpy g g0 (0 : Int32).toNatClampNeg (0 : Int32).toNatClampNeg n q = g0 q := pk_cpy_out (sp := 0) (dp := 0) (by omega)
    rw [e, if_neg h1, h0 q hq]
set_option maxRecDepth 20000 in
theorem u_prove {l : Launch} {d : Nat} (hd : 14 < d) {h : mm_H} {s : ss_T} (hW : ss_W s) (hC : ss_C h s) : mm_Ev l d M5_prove [.ref 0] h (ss_pC (.int (sp_prove s).1) (sp_prove s).2 h) := by
  have hC' := hC
  obtain ⟨n, A, mq, pf, ds, sc, tr, lk⟩ := s
  obtain ⟨c1, c2, c3, c4, c5, c6, c7⟩ := hC
  obtain ⟨w1, w2, w3, w4, w5, w6, w7, w8, w9, w10, w11, w12⟩ := hW
  refine mm_Ev.of (by decide +kernel) (Nat.le_of_ble_eq_true rfl) (mm_rn_ok [] _ (S5_prove l d _ _) 1000 _ _ _ _ ?_)
  simp only [G5_prove_0, G5_prove_1, G5_prove_4, G5_prove_5, G5_prove_8, G5_prove_11, G5_prove_14, G5_prove_15, G5_prove_16, G5_prove_17, G5_prove_20, G5_prove_23, G5_prove_24, G5_prove_25, G5_prove_28, G5_prove_29, G5_prove_30, G5_prove_33, G5_prove_36, G5_prove_39, G5_prove_40, N5_prove, ↓mm_kc_ap, ↓mm_cut, mm_en, mm_nth, mm_put, mm_sto, mm_stoL, mm_ag, mm_dr, mm_sw, Nat.reduceSub, List.replicate, Option.toList, List.cons_append, List.nil_append, sq_int, sq_lng, sq_iload, sq_lload, sq_aload, sq_istore, sq_lstore, sq_astore, sq_iinc, sq_iadd, sq_isub, sq_imul, sq_iand, sq_ior, sq_ixor, sq_ishl, sq_ishr, sq_iushr, sq_ladd, sq_lsub, sq_lmul, sq_idiv, sq_irem, sq_ldiv, sq_lrem, sq_i2l, sq_lcmp, sq_dupI, sq_dupR, sq_pop, sq_dup2, sq_goto, sq_if_eq, sq_icmp_eq, sq_if_ne, sq_icmp_ne, sq_if_lt, sq_icmp_lt, sq_if_ge, sq_icmp_ge, sq_if_gt, sq_icmp_gt, sq_if_le, sq_icmp_le, sq_iaload, sq_iastore, sq_alen, sq_places, sq_getI, sq_getR, sq_put, sq_ret, sq_lret, sq_vret, sq_switch, sq_callS, sq_callV, sq_copy, sq_max, sq_min, mm_len_2, mm_len_3, mm_len_4, mm_len_6, mm_len_8, mm_len_10, mm_len_11, mm_len_12, mm_len_13, mm_len_14, mm_len_15, mm_len_17, mm_len_18, mm_len_19, mm_len_20, mm_len_21, mm_len_22, mm_len_23, mm_len_24, mm_len_25]
  try simp only [eq_self, true_and, and_true, Bool.false_eq_true, false_implies, true_implies, true_or, or_true, mm_numI, mm_numL, mm_numN, pp_i10, pp_i01, pp_im1, not_false_eq_true, not_true_eq_false, false_or, or_false]
  rw [c4]
  refine ⟨14, _, hd, t_finds (by decide) c1 w3 w4 w5 w10 c7, rfl, ?_⟩
  rintro _ h' ⟨rfl, hX, hF, hnum⟩
  have C1 := hC'.fi hX hF
  have hn := C1.1.2.2.1
  simp only [G5_prove_0, G5_prove_1, G5_prove_4, G5_prove_5, G5_prove_8, G5_prove_11, G5_prove_14, G5_prove_15, G5_prove_16, G5_prove_17, G5_prove_20, G5_prove_23, G5_prove_24, G5_prove_25, G5_prove_28, G5_prove_29, G5_prove_30, G5_prove_33, G5_prove_36, G5_prove_39, G5_prove_40, N5_prove, ↓mm_kc_ap, ↓mm_cut, mm_en, mm_nth, mm_put, mm_sto, mm_stoL, mm_ag, mm_dr, mm_sw, Nat.reduceSub, List.replicate, Option.toList, List.cons_append, List.nil_append, sq_int, sq_lng, sq_iload, sq_lload, sq_aload, sq_istore, sq_lstore, sq_astore, sq_iinc, sq_iadd, sq_isub, sq_imul, sq_iand, sq_ior, sq_ixor, sq_ishl, sq_ishr, sq_iushr, sq_ladd, sq_lsub, sq_lmul, sq_idiv, sq_irem, sq_ldiv, sq_lrem, sq_i2l, sq_lcmp, sq_dupI, sq_dupR, sq_pop, sq_dup2, sq_goto, sq_if_eq, sq_icmp_eq, sq_if_ne, sq_icmp_ne, sq_if_lt, sq_icmp_lt, sq_if_ge, sq_icmp_ge, sq_if_gt, sq_icmp_gt, sq_if_le, sq_icmp_le, sq_iaload, sq_iastore, sq_alen, sq_places, sq_getI, sq_getR, sq_put, sq_ret, sq_lret, sq_vret, sq_switch, sq_callS, sq_callV, sq_copy, sq_max, sq_min, mm_len_2, mm_len_3, mm_len_4, mm_len_6, mm_len_8, mm_len_10, mm_len_11, mm_len_12, mm_len_13, mm_len_14, mm_len_15, mm_len_17, mm_len_18, mm_len_19, mm_len_20, mm_len_21, mm_len_22, mm_len_23, mm_len_24, mm_len_25]
  try simp only [eq_self, true_and, and_true, Bool.false_eq_true, false_implies, true_implies, true_or, or_true, mm_numI, mm_numL, mm_numN, pp_i10, pp_i01, pp_im1, not_false_eq_true, not_true_eq_false, false_or, or_false]
  rw [pp_bne, pp_beq]
  unfold sp_prove
  dsimp only
  refine ⟨fun hb => ?_, fun hb => ?_⟩
  · obtain ⟨g1, g2⟩ := cl_num_at (hnum hb)
    rw [if_pos hb, hn, nI_clamp (show n < 2 ^ 31 by omega)]
    refine ⟨by omega, by decide, by decide, nI_pos (by omega), by decide, by decide, by decide, by decide, by show 0 + n ≤ 8; omega, by show 0 + n ≤ 8; omega, rfl, rfl, C1.p15 (fun x hx => mm_setA_ne hx) ?_, fun c hc => ?_⟩
    · rw [mm_setA_same]
      exact cl_cpy g1 C1.2.1
    · rw [mm_setA_ne (by omega)]
      exact hX c (by omega) (by omega) (by omega) (by omega)
  · rw [if_neg (by rw [hb]; exact Bool.false_ne_true)]
    exact ⟨rfl, C1, fun c hc => hX c (by omega) (by omega) (by omega) (by omega)⟩
set_option maxRecDepth 20000 in
theorem v_prove_loop {l : Launch} {d : Nat} {E : mm_X} {post : mm_Po} {n : Nat} {f pf : Nat → Nat} {h0 : mm_H} (n8 : n ≤ 8) (hn : h0 16 0 = nI n) (hg : ∀ q, q < n → h0 22 q = nI (f q)) (hx : ∀ h : mm_H, (∀ c, c ≠ 19 → h c = h0 c) → (∀ q, q < 8 → h 19 q = nI (cl_pf n f pf q)) → post (some (.int 1)) h) : ∀ (k p : Nat), p + k = n → ∀ h : mm_H, (∀ c, c ≠ 19 → h c = h0 c) → (∀ q, q < 8 → h 19 q = nI (cl_pf p f pf q)) → mm_At l d M6_prove E post 11 [some (.ref 16), some (.int (nI p))] [] h := by
  intro k
  induction k with
  | zero =>
    intro p hp h hX hP
    have e : p = n := by omega
    subst e
    refine mm_rn_ok [] _ (S6_prove l d _ _) 1000 _ _ _ _ ?_
    simp only [G6_prove_0, G6_prove_1, G6_prove_4, G6_prove_7, G6_prove_8, G6_prove_9, G6_prove_10, G6_prove_11, G6_prove_12, G6_prove_13, G6_prove_16, G6_prove_19, G6_prove_20, G6_prove_23, G6_prove_24, G6_prove_25, G6_prove_28, G6_prove_29, G6_prove_30, G6_prove_31, G6_prove_34, G6_prove_37, G6_prove_38, N6_prove, ↓mm_kc_ap, ↓mm_cut, mm_en, mm_nth, mm_put, mm_sto, mm_stoL, mm_ag, mm_dr, mm_sw, Nat.reduceSub, List.replicate, Option.toList, List.cons_append, List.nil_append, sq_int, sq_lng, sq_iload, sq_lload, sq_aload, sq_istore, sq_lstore, sq_astore, sq_iinc, sq_iadd, sq_isub, sq_imul, sq_iand, sq_ior, sq_ixor, sq_ishl, sq_ishr, sq_iushr, sq_ladd, sq_lsub, sq_lmul, sq_idiv, sq_irem, sq_ldiv, sq_lrem, sq_i2l, sq_lcmp, sq_dupI, sq_dupR, sq_pop, sq_dup2, sq_goto, sq_if_eq, sq_icmp_eq, sq_if_ne, sq_icmp_ne, sq_if_lt, sq_icmp_lt, sq_if_ge, sq_icmp_ge, sq_if_gt, sq_icmp_gt, sq_if_le, sq_icmp_le, sq_iaload, sq_iastore, sq_alen, sq_places, sq_getI, sq_getR, sq_put, sq_ret, sq_lret, sq_vret, sq_switch, sq_callS, sq_callV, sq_copy, sq_max, sq_min, mm_len_2, mm_len_3, mm_len_4, mm_len_6, mm_len_8, mm_len_10, mm_len_11, mm_len_12, mm_len_13, mm_len_14, mm_len_15, mm_len_17, mm_len_18, mm_len_19, mm_len_20, mm_len_21, mm_len_22, mm_len_23, mm_len_24, mm_len_25]
    try simp only [eq_self, true_and, and_true, Bool.false_eq_true, false_implies, true_implies, true_or, or_true, mm_numI, mm_numL, mm_numN, pp_i10, pp_i01, pp_im1, not_false_eq_true, not_true_eq_false, false_or, or_false]
    rw [hX 16 (by decide), hn]
    exact ⟨fun _ => hx h hX hP, fun hc => absurd (nI_le (Nat.le_refl _) (by omega)) hc⟩
  | succ k ih =>
    intro p hp h hX hP
    have ip : vp_in (nI p) 8 := vp_in_nI (by omega) (by decide)
    refine mm_rn_ok [] _ (S6_prove l d _ _) 1000 _ _ _ _ ?_
    simp only [G6_prove_0, G6_prove_1, G6_prove_4, G6_prove_7, G6_prove_8, G6_prove_9, G6_prove_10, G6_prove_11, G6_prove_12, G6_prove_13, G6_prove_16, G6_prove_19, G6_prove_20, G6_prove_23, G6_prove_24, G6_prove_25, G6_prove_28, G6_prove_29, G6_prove_30, G6_prove_31, G6_prove_34, G6_prove_37, G6_prove_38, N6_prove, ↓mm_kc_ap, ↓mm_cut, mm_en, mm_nth, mm_put, mm_sto, mm_stoL, mm_ag, mm_dr, mm_sw, Nat.reduceSub, List.replicate, Option.toList, List.cons_append, List.nil_append, sq_int, sq_lng, sq_iload, sq_lload, sq_aload, sq_istore, sq_lstore, sq_astore, sq_iinc, sq_iadd, sq_isub, sq_imul, sq_iand, sq_ior, sq_ixor, sq_ishl, sq_ishr, sq_iushr, sq_ladd, sq_lsub, sq_lmul, sq_idiv, sq_irem, sq_ldiv, sq_lrem, sq_i2l, sq_lcmp, sq_dupI, sq_dupR, sq_pop, sq_dup2, sq_goto, sq_if_eq, sq_icmp_eq, sq_if_ne, sq_icmp_ne, sq_if_lt, sq_icmp_lt, sq_if_ge, sq_icmp_ge, sq_if_gt, sq_icmp_gt, sq_if_le, sq_icmp_le, sq_iaload, sq_iastore, sq_alen, sq_places, sq_getI, sq_getR, sq_put, sq_ret, sq_lret, sq_vret, sq_switch, sq_callS, sq_callV, sq_copy, sq_max, sq_min, mm_len_2, mm_len_3, mm_len_4, mm_len_6, mm_len_8, mm_len_10, mm_len_11, mm_len_12, mm_len_13, mm_len_14, mm_len_15, mm_len_17, mm_len_18, mm_len_19, mm_len_20, mm_len_21, mm_len_22, mm_len_23, mm_len_24, mm_len_25]
    try simp only [eq_self, true_and, and_true, Bool.false_eq_true, false_implies, true_implies, true_or, or_true, mm_numI, mm_numL, mm_numN, pp_i10, pp_i01, pp_im1, not_false_eq_true, not_true_eq_false, false_or, or_false]
    rw [hX 16 (by decide), hn, nI_1, nI_clamp (show p < 2 ^ 31 by omega), hX 22 (by decide), hg p (by omega)]
    refine ⟨fun hc => absurd hc (nI_ge (by omega) (by omega)), fun _ => ⟨ip, by decide, ip, ih (p + 1) (by omega) _ (fun c hc => ?_) (fun q hq => ?_)⟩⟩
    · rw [mm_set_ne hc]; exact hX c hc
    · by_cases e : q = p
      · rw [e, mm_set_same]
        unfold cl_pf
        rw [if_pos (by omega)]
      · rw [mm_set_other e, hP q hq]
        unfold cl_pf
        by_cases h1 : q < p
        · rw [if_pos h1, if_pos (by omega)]
        · rw [if_neg h1, if_neg (by omega)]
set_option maxRecDepth 20000 in
theorem v_prove {l : Launch} {d : Nat} (hd : 4 < d) {h : mm_H} {s : ss_T} (hW : ss_W s) (hM : ss_M h s) : mm_Ev l d M6_prove [.ref 16] h (ss_pM (.int (sp_prove s).1) (sp_prove s).2 h) := by
  have hM' := hM
  obtain ⟨n, A, mq, pf, ds, sc, tr, lk⟩ := s
  obtain ⟨c1, c2, c3, c4, c5, c6⟩ := hM
  obtain ⟨w1, w2, w3, w4, w5, w6, w7, w8, w9, w10, w11, w12⟩ := hW
  refine mm_Ev.of (by decide +kernel) (Nat.le_of_ble_eq_true rfl) (mm_rn_ok [11] _ (S6_prove l d _ _) 1000 _ _ _ _ ?_)
  simp only [G6_prove_0, G6_prove_1, G6_prove_4, G6_prove_7, G6_prove_8, G6_prove_9, G6_prove_10, G6_prove_11, G6_prove_12, G6_prove_13, G6_prove_16, G6_prove_19, G6_prove_20, G6_prove_23, G6_prove_24, G6_prove_25, G6_prove_28, G6_prove_29, G6_prove_30, G6_prove_31, G6_prove_34, G6_prove_37, G6_prove_38, N6_prove, ↓mm_kc_ap, ↓mm_cut, mm_en, mm_nth, mm_put, mm_sto, mm_stoL, mm_ag, mm_dr, mm_sw, Nat.reduceSub, List.replicate, Option.toList, List.cons_append, List.nil_append, sq_int, sq_lng, sq_iload, sq_lload, sq_aload, sq_istore, sq_lstore, sq_astore, sq_iinc, sq_iadd, sq_isub, sq_imul, sq_iand, sq_ior, sq_ixor, sq_ishl, sq_ishr, sq_iushr, sq_ladd, sq_lsub, sq_lmul, sq_idiv, sq_irem, sq_ldiv, sq_lrem, sq_i2l, sq_lcmp, sq_dupI, sq_dupR, sq_pop, sq_dup2, sq_goto, sq_if_eq, sq_icmp_eq, sq_if_ne, sq_icmp_ne, sq_if_lt, sq_icmp_lt, sq_if_ge, sq_icmp_ge, sq_if_gt, sq_icmp_gt, sq_if_le, sq_icmp_le, sq_iaload, sq_iastore, sq_alen, sq_places, sq_getI, sq_getR, sq_put, sq_ret, sq_lret, sq_vret, sq_switch, sq_callS, sq_callV, sq_copy, sq_max, sq_min, mm_len_2, mm_len_3, mm_len_4, mm_len_6, mm_len_8, mm_len_10, mm_len_11, mm_len_12, mm_len_13, mm_len_14, mm_len_15, mm_len_17, mm_len_18, mm_len_19, mm_len_20, mm_len_21, mm_len_22, mm_len_23, mm_len_24, mm_len_25]
  try simp only [eq_self, true_and, and_true, Bool.false_eq_true, false_implies, true_implies, true_or, or_true, mm_numI, mm_numL, mm_numN, pp_i10, pp_i01, pp_im1, not_false_eq_true, not_true_eq_false, false_or, or_false]
  refine ⟨4, _, hd, t_claims (by decide) c1 w3 w4 w5 w10 c4, rfl, ?_⟩
  rintro _ h' ⟨rfl, hX, hnum⟩
  have C1 := hM'.cm hX
  have hn := C1.1.2.2.1
  simp only [G6_prove_0, G6_prove_1, G6_prove_4, G6_prove_7, G6_prove_8, G6_prove_9, G6_prove_10, G6_prove_11, G6_prove_12, G6_prove_13, G6_prove_16, G6_prove_19, G6_prove_20, G6_prove_23, G6_prove_24, G6_prove_25, G6_prove_28, G6_prove_29, G6_prove_30, G6_prove_31, G6_prove_34, G6_prove_37, G6_prove_38, N6_prove, ↓mm_kc_ap, ↓mm_cut, mm_en, mm_nth, mm_put, mm_sto, mm_stoL, mm_ag, mm_dr, mm_sw, Nat.reduceSub, List.replicate, Option.toList, List.cons_append, List.nil_append, sq_int, sq_lng, sq_iload, sq_lload, sq_aload, sq_istore, sq_lstore, sq_astore, sq_iinc, sq_iadd, sq_isub, sq_imul, sq_iand, sq_ior, sq_ixor, sq_ishl, sq_ishr, sq_iushr, sq_ladd, sq_lsub, sq_lmul, sq_idiv, sq_irem, sq_ldiv, sq_lrem, sq_i2l, sq_lcmp, sq_dupI, sq_dupR, sq_pop, sq_dup2, sq_goto, sq_if_eq, sq_icmp_eq, sq_if_ne, sq_icmp_ne, sq_if_lt, sq_icmp_lt, sq_if_ge, sq_icmp_ge, sq_if_gt, sq_icmp_gt, sq_if_le, sq_icmp_le, sq_iaload, sq_iastore, sq_alen, sq_places, sq_getI, sq_getR, sq_put, sq_ret, sq_lret, sq_vret, sq_switch, sq_callS, sq_callV, sq_copy, sq_max, sq_min, mm_len_2, mm_len_3, mm_len_4, mm_len_6, mm_len_8, mm_len_10, mm_len_11, mm_len_12, mm_len_13, mm_len_14, mm_len_15, mm_len_17, mm_len_18, mm_len_19, mm_len_20, mm_len_21, mm_len_22, mm_len_23, mm_len_24, mm_len_25]
  try simp only [eq_self, true_and, and_true, Bool.false_eq_true, false_implies, true_implies, true_or, or_true, mm_numI, mm_numL, mm_numN, pp_i10, pp_i01, pp_im1, not_false_eq_true, not_true_eq_false, false_or, or_false]
  rw [pp_bne, pp_beq]
  unfold sp_prove
  dsimp only
  refine ⟨fun hb => ?_, fun hb => ?_⟩
  · obtain ⟨g1, g2⟩ := cl_num_at (hnum hb)
    rw [if_pos hb]
    refine v_prove_loop (pf := pf) w2 hn g1 (fun h1 x1 x2 => ⟨rfl, C1.p19 x1 x2, fun c hc => ?_⟩) n 0 (by omega) h' (fun _ _ => rfl) (fun q hq => C1.2.1 q hq)
    rw [x1 c (by omega)]
    exact hX c (by omega) (by omega)
  · rw [if_neg (by rw [hb]; exact Bool.false_ne_true)]
    exact ⟨rfl, C1, fun c hc => hX c (by omega) (by omega)⟩
def cl_max (f : Nat → Nat) : Nat → Nat
  | 0 => 0
  | k + 1 => if cl_max f k < f k then f k else cl_max f k
theorem cl_max_s (f : Nat → Nat) (k : Nat) : cl_max f (k + 1) = if cl_max f k < f k then f k else cl_max f k := rfl
theorem cl_max_lt {f : Nat → Nat} {n : Nat} (h : ∀ q, q < n → f q < 64) : ∀ k, k ≤ n → cl_max f k < 64
  | 0, _ => by simp [cl_max]
  | k + 1, hk => by
    rw [cl_max_s]
    split
    · exact h k (by omega)
    · exact cl_max_lt h k (by omega)
noncomputable def sp_numbers (s : ss_T) : Int32 := match s with
  | (n, A, mq, _, _, sc, _, _) => if cl_b n A mq sc = true then nI (cl_max (cl_num n A mq sc) n + 1) else -1
set_option maxRecDepth 20000 in
theorem u_num_loop {l : Launch} {d : Nat} (hd : 0 < d) {E : mm_X} {post : mm_Po} {n : Nat} {f : Nat → Nat} {h : mm_H} (n8 : n ≤ 8) (hn : h 1 3 = nI n) (hg : ∀ q, q < n → h 8 q = nI (f q)) (hf : ∀ q, q < n → f q < 64) (hx : post (some (.int (nI (cl_max f n + 1)))) h) : ∀ (k p : Nat), p + k = n → mm_At l d M5_numbers E post 20 [some (.ref 0), some (.int (nI (cl_max f p))), some (.int (nI p))] [] h := by
  intro k
  induction k with
  | zero =>
    intro p hp
    have e : p = n := by omega
    subst e
    refine mm_rn_ok [] _ (S5_numbers l d _ _) 1000 _ _ _ _ ?_
    simp only [G5_numbers_0, G5_numbers_1, G5_numbers_4, G5_numbers_5, G5_numbers_8, G5_numbers_11, G5_numbers_14, G5_numbers_15, G5_numbers_16, G5_numbers_17, G5_numbers_18, G5_numbers_19, G5_numbers_20, G5_numbers_21, G5_numbers_22, G5_numbers_25, G5_numbers_28, G5_numbers_31, G5_numbers_32, G5_numbers_33, G5_numbers_36, G5_numbers_39, G5_numbers_40, G5_numbers_41, G5_numbers_44, G5_numbers_45, G5_numbers_48, G5_numbers_51, G5_numbers_52, G5_numbers_53, G5_numbers_54, N5_numbers, ↓mm_kc_ap, ↓mm_cut, mm_en, mm_nth, mm_put, mm_sto, mm_stoL, mm_ag, mm_dr, mm_sw, Nat.reduceSub, List.replicate, Option.toList, List.cons_append, List.nil_append, sq_int, sq_lng, sq_iload, sq_lload, sq_aload, sq_istore, sq_lstore, sq_astore, sq_iinc, sq_iadd, sq_isub, sq_imul, sq_iand, sq_ior, sq_ixor, sq_ishl, sq_ishr, sq_iushr, sq_ladd, sq_lsub, sq_lmul, sq_idiv, sq_irem, sq_ldiv, sq_lrem, sq_i2l, sq_lcmp, sq_dupI, sq_dupR, sq_pop, sq_dup2, sq_goto, sq_if_eq, sq_icmp_eq, sq_if_ne, sq_icmp_ne, sq_if_lt, sq_icmp_lt, sq_if_ge, sq_icmp_ge, sq_if_gt, sq_icmp_gt, sq_if_le, sq_icmp_le, sq_iaload, sq_iastore, sq_alen, sq_places, sq_getI, sq_getR, sq_put, sq_ret, sq_lret, sq_vret, sq_switch, sq_callS, sq_callV, sq_copy, sq_max, sq_min, mm_len_2, mm_len_3, mm_len_4, mm_len_6, mm_len_8, mm_len_10, mm_len_11, mm_len_12, mm_len_13, mm_len_14, mm_len_15, mm_len_17, mm_len_18, mm_len_19, mm_len_20, mm_len_21, mm_len_22, mm_len_23, mm_len_24, mm_len_25]
    try simp only [eq_self, true_and, and_true, Bool.false_eq_true, false_implies, true_implies, true_or, or_true, mm_numI, mm_numL, mm_numN, pp_i10, pp_i01, pp_im1, not_false_eq_true, not_true_eq_false, false_or, or_false]
    rw [hn, nI_1]
    exact ⟨fun _ => hx, fun hc => absurd (nI_le (Nat.le_refl _) (by omega)) hc⟩
  | succ k ih =>
    intro p hp
    have ih := ih (p + 1) (by omega)
    rw [cl_max_s] at ih
    have h1 := hf p (by omega)
    have h2 := cl_max_lt hf p (by omega)
    refine mm_rn_ok [] _ (S5_numbers l d _ _) 1000 _ _ _ _ ?_
    simp only [G5_numbers_0, G5_numbers_1, G5_numbers_4, G5_numbers_5, G5_numbers_8, G5_numbers_11, G5_numbers_14, G5_numbers_15, G5_numbers_16, G5_numbers_17, G5_numbers_18, G5_numbers_19, G5_numbers_20, G5_numbers_21, G5_numbers_22, G5_numbers_25, G5_numbers_28, G5_numbers_31, G5_numbers_32, G5_numbers_33, G5_numbers_36, G5_numbers_39, G5_numbers_40, G5_numbers_41, G5_numbers_44, G5_numbers_45, G5_numbers_48, G5_numbers_51, G5_numbers_52, G5_numbers_53, G5_numbers_54, N5_numbers, ↓mm_kc_ap, ↓mm_cut, mm_en, mm_nth, mm_put, mm_sto, mm_stoL, mm_ag, mm_dr, mm_sw, Nat.reduceSub, List.replicate, Option.toList, List.cons_append, List.nil_append, sq_int, sq_lng, sq_iload, sq_lload, sq_aload, sq_istore, sq_lstore, sq_astore, sq_iinc, sq_iadd, sq_isub, sq_imul, sq_iand, sq_ior, sq_ixor, sq_ishl, sq_ishr, sq_iushr, sq_ladd, sq_lsub, sq_lmul, sq_idiv, sq_irem, sq_ldiv, sq_lrem, sq_i2l, sq_lcmp, sq_dupI, sq_dupR, sq_pop, sq_dup2, sq_goto, sq_if_eq, sq_icmp_eq, sq_if_ne, sq_icmp_ne, sq_if_lt, sq_icmp_lt, sq_if_ge, sq_icmp_ge, sq_if_gt, sq_icmp_gt, sq_if_le, sq_icmp_le, sq_iaload, sq_iastore, sq_alen, sq_places, sq_getI, sq_getR, sq_put, sq_ret, sq_lret, sq_vret, sq_switch, sq_callS, sq_callV, sq_copy, sq_max, sq_min, mm_len_2, mm_len_3, mm_len_4, mm_len_6, mm_len_8, mm_len_10, mm_len_11, mm_len_12, mm_len_13, mm_len_14, mm_len_15, mm_len_17, mm_len_18, mm_len_19, mm_len_20, mm_len_21, mm_len_22, mm_len_23, mm_len_24, mm_len_25]
    try simp only [eq_self, true_and, and_true, Bool.false_eq_true, false_implies, true_implies, true_or, or_true, mm_numI, mm_numL, mm_numN, pp_i10, pp_i01, pp_im1, not_false_eq_true, not_true_eq_false, false_or, or_false]
    rw [hn, nI_1 p, nI_clamp (show p < 2 ^ 31 by omega), hg p (by omega)]
    refine ⟨fun hc => absurd hc (nI_ge (by omega) (by omega)), fun _ => ⟨vp_in_nI (by omega) (by decide), hd, rfl, ?_⟩⟩
    by_cases hc : cl_max f p < f p
    · rw [if_pos hc] at ih
      rw [if_pos ((nI_ltI (by omega) (by omega)).mpr hc)]
      exact ih
    · rw [if_neg hc] at ih
      rw [if_neg (fun z => hc ((nI_ltI (by omega) (by omega)).mp z))]
      exact ih
set_option maxRecDepth 20000 in
theorem u_numbers {l : Launch} {d : Nat} (hd : 14 < d) {h : mm_H} {s : ss_T} (hW : ss_W s) (hC : ss_C h s) : mm_Ev l d M5_numbers [.ref 0] h (ss_pC (.int (sp_numbers s)) s h) := by
  have hC' := hC
  obtain ⟨n, A, mq, pf, ds, sc, tr, lk⟩ := s
  obtain ⟨c1, c2, c3, c4, c5, c6, c7⟩ := hC
  obtain ⟨w1, w2, w3, w4, w5, w6, w7, w8, w9, w10, w11, w12⟩ := hW
  refine mm_Ev.of (by decide +kernel) (Nat.le_of_ble_eq_true rfl) (mm_rn_ok [20] _ (S5_numbers l d _ _) 1000 _ _ _ _ ?_)
  simp only [G5_numbers_0, G5_numbers_1, G5_numbers_4, G5_numbers_5, G5_numbers_8, G5_numbers_11, G5_numbers_14, G5_numbers_15, G5_numbers_16, G5_numbers_17, G5_numbers_18, G5_numbers_19, G5_numbers_20, G5_numbers_21, G5_numbers_22, G5_numbers_25, G5_numbers_28, G5_numbers_31, G5_numbers_32, G5_numbers_33, G5_numbers_36, G5_numbers_39, G5_numbers_40, G5_numbers_41, G5_numbers_44, G5_numbers_45, G5_numbers_48, G5_numbers_51, G5_numbers_52, G5_numbers_53, G5_numbers_54, N5_numbers, ↓mm_kc_ap, ↓mm_cut, mm_en, mm_nth, mm_put, mm_sto, mm_stoL, mm_ag, mm_dr, mm_sw, Nat.reduceSub, List.replicate, Option.toList, List.cons_append, List.nil_append, sq_int, sq_lng, sq_iload, sq_lload, sq_aload, sq_istore, sq_lstore, sq_astore, sq_iinc, sq_iadd, sq_isub, sq_imul, sq_iand, sq_ior, sq_ixor, sq_ishl, sq_ishr, sq_iushr, sq_ladd, sq_lsub, sq_lmul, sq_idiv, sq_irem, sq_ldiv, sq_lrem, sq_i2l, sq_lcmp, sq_dupI, sq_dupR, sq_pop, sq_dup2, sq_goto, sq_if_eq, sq_icmp_eq, sq_if_ne, sq_icmp_ne, sq_if_lt, sq_icmp_lt, sq_if_ge, sq_icmp_ge, sq_if_gt, sq_icmp_gt, sq_if_le, sq_icmp_le, sq_iaload, sq_iastore, sq_alen, sq_places, sq_getI, sq_getR, sq_put, sq_ret, sq_lret, sq_vret, sq_switch, sq_callS, sq_callV, sq_copy, sq_max, sq_min, mm_len_2, mm_len_3, mm_len_4, mm_len_6, mm_len_8, mm_len_10, mm_len_11, mm_len_12, mm_len_13, mm_len_14, mm_len_15, mm_len_17, mm_len_18, mm_len_19, mm_len_20, mm_len_21, mm_len_22, mm_len_23, mm_len_24, mm_len_25]
  try simp only [eq_self, true_and, and_true, Bool.false_eq_true, false_implies, true_implies, true_or, or_true, mm_numI, mm_numL, mm_numN, pp_i10, pp_i01, pp_im1, not_false_eq_true, not_true_eq_false, false_or, or_false]
  rw [c4]
  refine ⟨14, _, hd, t_finds (by decide) c1 w3 w4 w5 w10 c7, rfl, ?_⟩
  rintro _ h' ⟨rfl, hX, hF, hnum⟩
  have C1 := hC'.fi hX hF
  have hn := C1.1.2.2.1
  have fr : ∀ c, 16 ≤ c → h' c = _ := fun c hc => hX c (by omega) (by omega) (by omega) (by omega)
  simp only [G5_numbers_0, G5_numbers_1, G5_numbers_4, G5_numbers_5, G5_numbers_8, G5_numbers_11, G5_numbers_14, G5_numbers_15, G5_numbers_16, G5_numbers_17, G5_numbers_18, G5_numbers_19, G5_numbers_20, G5_numbers_21, G5_numbers_22, G5_numbers_25, G5_numbers_28, G5_numbers_31, G5_numbers_32, G5_numbers_33, G5_numbers_36, G5_numbers_39, G5_numbers_40, G5_numbers_41, G5_numbers_44, G5_numbers_45, G5_numbers_48, G5_numbers_51, G5_numbers_52, G5_numbers_53, G5_numbers_54, N5_numbers, ↓mm_kc_ap, ↓mm_cut, mm_en, mm_nth, mm_put, mm_sto, mm_stoL, mm_ag, mm_dr, mm_sw, Nat.reduceSub, List.replicate, Option.toList, List.cons_append, List.nil_append, sq_int, sq_lng, sq_iload, sq_lload, sq_aload, sq_istore, sq_lstore, sq_astore, sq_iinc, sq_iadd, sq_isub, sq_imul, sq_iand, sq_ior, sq_ixor, sq_ishl, sq_ishr, sq_iushr, sq_ladd, sq_lsub, sq_lmul, sq_idiv, sq_irem, sq_ldiv, sq_lrem, sq_i2l, sq_lcmp, sq_dupI, sq_dupR, sq_pop, sq_dup2, sq_goto, sq_if_eq, sq_icmp_eq, sq_if_ne, sq_icmp_ne, sq_if_lt, sq_icmp_lt, sq_if_ge, sq_icmp_ge, sq_if_gt, sq_icmp_gt, sq_if_le, sq_icmp_le, sq_iaload, sq_iastore, sq_alen, sq_places, sq_getI, sq_getR, sq_put, sq_ret, sq_lret, sq_vret, sq_switch, sq_callS, sq_callV, sq_copy, sq_max, sq_min, mm_len_2, mm_len_3, mm_len_4, mm_len_6, mm_len_8, mm_len_10, mm_len_11, mm_len_12, mm_len_13, mm_len_14, mm_len_15, mm_len_17, mm_len_18, mm_len_19, mm_len_20, mm_len_21, mm_len_22, mm_len_23, mm_len_24, mm_len_25]
  try simp only [eq_self, true_and, and_true, Bool.false_eq_true, false_implies, true_implies, true_or, or_true, mm_numI, mm_numL, mm_numN, pp_i10, pp_i01, pp_im1, not_false_eq_true, not_true_eq_false, false_or, or_false]
  rw [pp_bne, pp_beq]
  unfold sp_numbers
  dsimp only
  refine ⟨fun hb => ?_, fun hb => ?_⟩
  · obtain ⟨g1, g2⟩ := cl_num_at (hnum hb)
    rw [if_pos hb]
    exact u_num_loop (f := cl_num n A mq sc) (by omega) w2 hn g1 g2 ⟨rfl, C1, fr⟩ n 0 (by omega)
  · rw [if_neg (by rw [hb]; exact Bool.false_ne_true)]
    exact ⟨rfl, C1, fr⟩
set_option maxRecDepth 20000 in
theorem v_num_loop {l : Launch} {d : Nat} {E : mm_X} {post : mm_Po} {n : Nat} {f : Nat → Nat} {h : mm_H} (n8 : n ≤ 8) (hn : h 16 0 = nI n) (hg : ∀ q, q < n → h 22 q = nI (f q)) (hf : ∀ q, q < n → f q < 64) (hx : post (some (.int (nI (cl_max f n + 1)))) h) : ∀ (k p : Nat), p + k = n → mm_At l d M6_numbers E post 13 [some (.ref 16), some (.int (nI (cl_max f p))), some (.int (nI p))] [] h := by
  intro k
  induction k with
  | zero =>
    intro p hp
    have e : p = n := by omega
    subst e
    refine mm_rn_ok [] _ (S6_numbers l d _ _) 1000 _ _ _ _ ?_
    simp only [G6_numbers_0, G6_numbers_1, G6_numbers_4, G6_numbers_7, G6_numbers_8, G6_numbers_9, G6_numbers_10, G6_numbers_11, G6_numbers_12, G6_numbers_13, G6_numbers_14, G6_numbers_15, G6_numbers_18, G6_numbers_21, G6_numbers_22, G6_numbers_25, G6_numbers_26, G6_numbers_27, G6_numbers_28, G6_numbers_31, G6_numbers_32, G6_numbers_35, G6_numbers_36, G6_numbers_37, G6_numbers_40, G6_numbers_41, G6_numbers_42, G6_numbers_45, G6_numbers_48, G6_numbers_49, G6_numbers_50, G6_numbers_51, N6_numbers, ↓mm_kc_ap, ↓mm_cut, mm_en, mm_nth, mm_put, mm_sto, mm_stoL, mm_ag, mm_dr, mm_sw, Nat.reduceSub, List.replicate, Option.toList, List.cons_append, List.nil_append, sq_int, sq_lng, sq_iload, sq_lload, sq_aload, sq_istore, sq_lstore, sq_astore, sq_iinc, sq_iadd, sq_isub, sq_imul, sq_iand, sq_ior, sq_ixor, sq_ishl, sq_ishr, sq_iushr, sq_ladd, sq_lsub, sq_lmul, sq_idiv, sq_irem, sq_ldiv, sq_lrem, sq_i2l, sq_lcmp, sq_dupI, sq_dupR, sq_pop, sq_dup2, sq_goto, sq_if_eq, sq_icmp_eq, sq_if_ne, sq_icmp_ne, sq_if_lt, sq_icmp_lt, sq_if_ge, sq_icmp_ge, sq_if_gt, sq_icmp_gt, sq_if_le, sq_icmp_le, sq_iaload, sq_iastore, sq_alen, sq_places, sq_getI, sq_getR, sq_put, sq_ret, sq_lret, sq_vret, sq_switch, sq_callS, sq_callV, sq_copy, sq_max, sq_min, mm_len_2, mm_len_3, mm_len_4, mm_len_6, mm_len_8, mm_len_10, mm_len_11, mm_len_12, mm_len_13, mm_len_14, mm_len_15, mm_len_17, mm_len_18, mm_len_19, mm_len_20, mm_len_21, mm_len_22, mm_len_23, mm_len_24, mm_len_25]
    try simp only [eq_self, true_and, and_true, Bool.false_eq_true, false_implies, true_implies, true_or, or_true, mm_numI, mm_numL, mm_numN, pp_i10, pp_i01, pp_im1, not_false_eq_true, not_true_eq_false, false_or, or_false]
    rw [hn, nI_1]
    exact ⟨fun _ => hx, fun hc => absurd (nI_le (Nat.le_refl _) (by omega)) hc⟩
  | succ k ih =>
    intro p hp
    have ih := ih (p + 1) (by omega)
    rw [cl_max_s] at ih
    have h1 := hf p (by omega)
    have h2 := cl_max_lt hf p (by omega)
    have ip : vp_in (nI p) 8 := vp_in_nI (by omega) (by decide)
    refine mm_rn_ok [] _ (S6_numbers l d _ _) 1000 _ _ _ _ ?_
    simp only [G6_numbers_0, G6_numbers_1, G6_numbers_4, G6_numbers_7, G6_numbers_8, G6_numbers_9, G6_numbers_10, G6_numbers_11, G6_numbers_12, G6_numbers_13, G6_numbers_14, G6_numbers_15, G6_numbers_18, G6_numbers_21, G6_numbers_22, G6_numbers_25, G6_numbers_26, G6_numbers_27, G6_numbers_28, G6_numbers_31, G6_numbers_32, G6_numbers_35, G6_numbers_36, G6_numbers_37, G6_numbers_40, G6_numbers_41, G6_numbers_42, G6_numbers_45, G6_numbers_48, G6_numbers_49, G6_numbers_50, G6_numbers_51, N6_numbers, ↓mm_kc_ap, ↓mm_cut, mm_en, mm_nth, mm_put, mm_sto, mm_stoL, mm_ag, mm_dr, mm_sw, Nat.reduceSub, List.replicate, Option.toList, List.cons_append, List.nil_append, sq_int, sq_lng, sq_iload, sq_lload, sq_aload, sq_istore, sq_lstore, sq_astore, sq_iinc, sq_iadd, sq_isub, sq_imul, sq_iand, sq_ior, sq_ixor, sq_ishl, sq_ishr, sq_iushr, sq_ladd, sq_lsub, sq_lmul, sq_idiv, sq_irem, sq_ldiv, sq_lrem, sq_i2l, sq_lcmp, sq_dupI, sq_dupR, sq_pop, sq_dup2, sq_goto, sq_if_eq, sq_icmp_eq, sq_if_ne, sq_icmp_ne, sq_if_lt, sq_icmp_lt, sq_if_ge, sq_icmp_ge, sq_if_gt, sq_icmp_gt, sq_if_le, sq_icmp_le, sq_iaload, sq_iastore, sq_alen, sq_places, sq_getI, sq_getR, sq_put, sq_ret, sq_lret, sq_vret, sq_switch, sq_callS, sq_callV, sq_copy, sq_max, sq_min, mm_len_2, mm_len_3, mm_len_4, mm_len_6, mm_len_8, mm_len_10, mm_len_11, mm_len_12, mm_len_13, mm_len_14, mm_len_15, mm_len_17, mm_len_18, mm_len_19, mm_len_20, mm_len_21, mm_len_22, mm_len_23, mm_len_24, mm_len_25]
    try simp only [eq_self, true_and, and_true, Bool.false_eq_true, false_implies, true_implies, true_or, or_true, mm_numI, mm_numL, mm_numN, pp_i10, pp_i01, pp_im1, not_false_eq_true, not_true_eq_false, false_or, or_false]
    rw [hn, nI_1 p, nI_clamp (show p < 2 ^ 31 by omega), hg p (by omega), nI_leI (a := f p) (b := cl_max f p) (by omega) (by omega)]
    refine ⟨fun hc => absurd hc (nI_ge (by omega) (by omega)), fun _ => ⟨ip, fun hc => ?_, fun hc => ⟨ip, ?_⟩⟩⟩
    · rw [if_neg (by omega)] at ih
      exact ih
    · rw [if_pos (by omega)] at ih
      exact ih
set_option maxRecDepth 20000 in
theorem v_numbers {l : Launch} {d : Nat} (hd : 4 < d) {h : mm_H} {s : ss_T} (hW : ss_W s) (hM : ss_M h s) : mm_Ev l d M6_numbers [.ref 16] h (ss_pM (.int (sp_numbers s)) s h) := by
  have hM' := hM
  obtain ⟨n, A, mq, pf, ds, sc, tr, lk⟩ := s
  obtain ⟨c1, c2, c3, c4, c5, c6⟩ := hM
  obtain ⟨w1, w2, w3, w4, w5, w6, w7, w8, w9, w10, w11, w12⟩ := hW
  refine mm_Ev.of (by decide +kernel) (Nat.le_of_ble_eq_true rfl) (mm_rn_ok [13] _ (S6_numbers l d _ _) 1000 _ _ _ _ ?_)
  simp only [G6_numbers_0, G6_numbers_1, G6_numbers_4, G6_numbers_7, G6_numbers_8, G6_numbers_9, G6_numbers_10, G6_numbers_11, G6_numbers_12, G6_numbers_13, G6_numbers_14, G6_numbers_15, G6_numbers_18, G6_numbers_21, G6_numbers_22, G6_numbers_25, G6_numbers_26, G6_numbers_27, G6_numbers_28, G6_numbers_31, G6_numbers_32, G6_numbers_35, G6_numbers_36, G6_numbers_37, G6_numbers_40, G6_numbers_41, G6_numbers_42, G6_numbers_45, G6_numbers_48, G6_numbers_49, G6_numbers_50, G6_numbers_51, N6_numbers, ↓mm_kc_ap, ↓mm_cut, mm_en, mm_nth, mm_put, mm_sto, mm_stoL, mm_ag, mm_dr, mm_sw, Nat.reduceSub, List.replicate, Option.toList, List.cons_append, List.nil_append, sq_int, sq_lng, sq_iload, sq_lload, sq_aload, sq_istore, sq_lstore, sq_astore, sq_iinc, sq_iadd, sq_isub, sq_imul, sq_iand, sq_ior, sq_ixor, sq_ishl, sq_ishr, sq_iushr, sq_ladd, sq_lsub, sq_lmul, sq_idiv, sq_irem, sq_ldiv, sq_lrem, sq_i2l, sq_lcmp, sq_dupI, sq_dupR, sq_pop, sq_dup2, sq_goto, sq_if_eq, sq_icmp_eq, sq_if_ne, sq_icmp_ne, sq_if_lt, sq_icmp_lt, sq_if_ge, sq_icmp_ge, sq_if_gt, sq_icmp_gt, sq_if_le, sq_icmp_le, sq_iaload, sq_iastore, sq_alen, sq_places, sq_getI, sq_getR, sq_put, sq_ret, sq_lret, sq_vret, sq_switch, sq_callS, sq_callV, sq_copy, sq_max, sq_min, mm_len_2, mm_len_3, mm_len_4, mm_len_6, mm_len_8, mm_len_10, mm_len_11, mm_len_12, mm_len_13, mm_len_14, mm_len_15, mm_len_17, mm_len_18, mm_len_19, mm_len_20, mm_len_21, mm_len_22, mm_len_23, mm_len_24, mm_len_25]
  try simp only [eq_self, true_and, and_true, Bool.false_eq_true, false_implies, true_implies, true_or, or_true, mm_numI, mm_numL, mm_numN, pp_i10, pp_i01, pp_im1, not_false_eq_true, not_true_eq_false, false_or, or_false]
  refine ⟨4, _, hd, t_claims (by decide) c1 w3 w4 w5 w10 c4, rfl, ?_⟩
  rintro _ h' ⟨rfl, hX, hnum⟩
  have C1 := hM'.cm hX
  have hn := C1.1.2.2.1
  have fr : ∀ c, c < 16 → h' c = _ := fun c hc => hX c (by omega) (by omega)
  simp only [G6_numbers_0, G6_numbers_1, G6_numbers_4, G6_numbers_7, G6_numbers_8, G6_numbers_9, G6_numbers_10, G6_numbers_11, G6_numbers_12, G6_numbers_13, G6_numbers_14, G6_numbers_15, G6_numbers_18, G6_numbers_21, G6_numbers_22, G6_numbers_25, G6_numbers_26, G6_numbers_27, G6_numbers_28, G6_numbers_31, G6_numbers_32, G6_numbers_35, G6_numbers_36, G6_numbers_37, G6_numbers_40, G6_numbers_41, G6_numbers_42, G6_numbers_45, G6_numbers_48, G6_numbers_49, G6_numbers_50, G6_numbers_51, N6_numbers, ↓mm_kc_ap, ↓mm_cut, mm_en, mm_nth, mm_put, mm_sto, mm_stoL, mm_ag, mm_dr, mm_sw, Nat.reduceSub, List.replicate, Option.toList, List.cons_append, List.nil_append, sq_int, sq_lng, sq_iload, sq_lload, sq_aload, sq_istore, sq_lstore, sq_astore, sq_iinc, sq_iadd, sq_isub, sq_imul, sq_iand, sq_ior, sq_ixor, sq_ishl, sq_ishr, sq_iushr, sq_ladd, sq_lsub, sq_lmul, sq_idiv, sq_irem, sq_ldiv, sq_lrem, sq_i2l, sq_lcmp, sq_dupI, sq_dupR, sq_pop, sq_dup2, sq_goto, sq_if_eq, sq_icmp_eq, sq_if_ne, sq_icmp_ne, sq_if_lt, sq_icmp_lt, sq_if_ge, sq_icmp_ge, sq_if_gt, sq_icmp_gt, sq_if_le, sq_icmp_le, sq_iaload, sq_iastore, sq_alen, sq_places, sq_getI, sq_getR, sq_put, sq_ret, sq_lret, sq_vret, sq_switch, sq_callS, sq_callV, sq_copy, sq_max, sq_min, mm_len_2, mm_len_3, mm_len_4, mm_len_6, mm_len_8, mm_len_10, mm_len_11, mm_len_12, mm_len_13, mm_len_14, mm_len_15, mm_len_17, mm_len_18, mm_len_19, mm_len_20, mm_len_21, mm_len_22, mm_len_23, mm_len_24, mm_len_25]
  try simp only [eq_self, true_and, and_true, Bool.false_eq_true, false_implies, true_implies, true_or, or_true, mm_numI, mm_numL, mm_numN, pp_i10, pp_i01, pp_im1, not_false_eq_true, not_true_eq_false, false_or, or_false]
  rw [pp_bne, pp_beq]
  unfold sp_numbers
  dsimp only
  refine ⟨fun hb => ?_, fun hb => ?_⟩
  · obtain ⟨g1, g2⟩ := cl_num_at (hnum hb)
    rw [if_pos hb]
    exact v_num_loop (f := cl_num n A mq sc) w2 hn g1 g2 ⟨rfl, C1, fr⟩ n 0 (by omega)
  · rw [if_neg (by rw [hb]; exact Bool.false_ne_true)]
    exact ⟨rfl, C1, fr⟩
