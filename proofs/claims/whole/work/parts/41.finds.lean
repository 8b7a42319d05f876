/-! ===== the prover (class) ===== -/
def fi_P (n : Nat) (A mk : Nat → Nat) (sc : Nat) (h : mm_H) : mm_Po := fun r h' => r = some (.int (pp_b (cl_b n A mk sc))) ∧ (∀ c, c ≠ 4 → c ≠ 5 → c ≠ 6 → c ≠ 8 → h' c = h c) ∧ (∃ f, rr_F (h' 6) f) ∧ (cl_b n A mk sc = true → ∃ f, cl_is n A mk sc f ∧ ∀ q, q < n → h' 8 q = nI (f q))
theorem cl_b_2 {n : Nat} {A mk : Nat → Nat} {sc : Nat} (hsc : sc < 2) : cl_b n A mk sc = true ↔ ∃ g, cl_st n A mk sc g = true := by
  unfold cl_b
  rw [if_pos hsc]
  exact @decide_eq_true_iff _ (Classical.propDecidable _)
theorem rr_none {S : Nat → Bool} {hi : Nat} (h : rr_no S 0 0 hi) : ∀ r, r < hi → S r = false := by
  have key : ∀ k, k ≤ hi → pp_cnt S k = 0 := by
    intro k
    induction k with
    | zero => intro _; rfl
    | succ k ih =>
      intro hk
      have i0 := ih (by omega)
      cases hS : S k with
      | false => rw [pp_cnt_f hS]; exact i0
      | true => exact absurd (by rw [i0]; rfl) (h k (Nat.zero_le _) (by omega) hS)
  exact jj_cnt0.mp (key hi (Nat.le_refl _))
theorem cl_b_row {n : Nat} {A mk : Nat → Nat} {sc : Nat} (hok : jj_ok n A) (hsc : sc < 2) {b r : Nat} (hb0 : 2 + sc ≤ b) (hr : r < b ^ n) (hS : rr_S n A mk sc b r = true) (hlo : ∀ r', r' < r → rr_S n A mk sc b r' = false) : cl_b n A mk sc = true ∧ cl_is n A mk sc (rr_d b n r) := by
  have hl := cl_of_row hok (b := b) (by omega) (fun g hg q hq => Nat.lt_of_lt_of_le (cl_small hsc hg q hq) hb0) hr hS hlo
  refine ⟨(cl_b_2 hsc).mpr ⟨_, hl.1⟩, ?_⟩
  unfold cl_is
  rw [if_pos hsc]
  exact hl
theorem cl_b_no {n : Nat} {A mk : Nat → Nat} {sc : Nat} (hok : jj_ok n A) (hsc : sc < 2) {b : Nat} (hb0 : 2 + sc ≤ b) (hno : ∀ r, r < b ^ n → rr_S n A mk sc b r = false) : cl_b n A mk sc = false := by
  apply Bool.eq_false_iff.mpr
  intro hc
  exact cl_of_none hok (b := b) (fun g hg q hq => Nat.lt_of_lt_of_le (cl_small hsc hg q hq) hb0) hno ((cl_b_2 hsc).mp hc)
set_option maxRecDepth 20000 in
theorem t_finds_40 {l : Launch} {d : Nat} (hd : 13 < d) {E : mm_X} {h h0 : mm_H} {n : Nat} {A mk : Nat → Nat} (hN : cc_N h n A mk) (hok : jj_ok n A) {sc : Nat} (hsc : sc < 2) (hF : ∃ f, rr_F (h 6) f) (hx : ∀ c, c ≠ 4 → c ≠ 5 → c ≠ 6 → c ≠ 8 → h c = h0 c) : mm_At l d M3_finds E (fi_P n A mk sc h0) 40 [some (.ref 7), some (.int (nI sc))] [] h := by
  obtain ⟨f0, hF0⟩ := hF
  have n8 := hN.2.1
  have hn := hN.2.2.1
  have hb : 3 ^ n ≤ 3 ^ 8 := Nat.pow_le_pow_right (by decide) n8
  have hb' : 3 ^ n ≤ 6561 := hb
  refine mm_rn_ok [] _ (S3_finds l d _ _) 1000 _ _ _ _ ?_
  simp only [G3_finds_0, G3_finds_1, G3_finds_4, G3_finds_5, G3_finds_8, G3_finds_9, G3_finds_40, G3_finds_41, G3_finds_44, G3_finds_45, G3_finds_46, G3_finds_47, G3_finds_50, G3_finds_51, G3_finds_54, G3_finds_57, G3_finds_58, G3_finds_59, G3_finds_62, G3_finds_63, G3_finds_64, G3_finds_67, G3_finds_70, G3_finds_73, G3_finds_74, G3_finds_77, G3_finds_80, G3_finds_81, G3_finds_82, G3_finds_85, G3_finds_86, G3_finds_87, G3_finds_90, G3_finds_91, G3_finds_92, G3_finds_95, N3_finds, ↓mm_kc_ap, ↓mm_cut, mm_en, mm_nth, mm_put, mm_sto, mm_stoL, mm_ag, mm_dr, mm_sw, Nat.reduceSub, List.replicate, Option.toList, List.cons_append, List.nil_append, sq_int, sq_lng, sq_iload, sq_lload, sq_aload, sq_istore, sq_lstore, sq_astore, sq_iinc, sq_iadd, sq_isub, sq_imul, sq_iand, sq_ior, sq_ixor, sq_ishl, sq_ishr, sq_iushr, sq_ladd, sq_lsub, sq_lmul, sq_idiv, sq_irem, sq_ldiv, sq_lrem, sq_i2l, sq_lcmp, sq_dupI, sq_dupR, sq_pop, sq_dup2, sq_goto, sq_if_eq, sq_icmp_eq, sq_if_ne, sq_icmp_ne, sq_if_lt, sq_icmp_lt, sq_if_ge, sq_icmp_ge, sq_if_gt, sq_icmp_gt, sq_if_le, sq_icmp_le, sq_iaload, sq_iastore, sq_alen, sq_places, sq_getI, sq_getR, sq_put, sq_ret, sq_lret, sq_vret, sq_switch, sq_callS, sq_callV, sq_copy, sq_max, sq_min, mm_len_2, mm_len_3, mm_len_4, mm_len_6, mm_len_8, mm_len_10, mm_len_11, mm_len_12, mm_len_13, mm_len_14, mm_len_15, mm_len_17, mm_len_18, mm_len_19, mm_len_20, mm_len_21, mm_len_22, mm_len_23, mm_len_24, mm_len_25]
  try simp only [eq_self, true_and, and_true, Bool.false_eq_true, false_implies, true_implies, true_or, or_true, mm_numI, mm_numL, mm_numN, pp_i10, pp_i01, pp_im1, not_false_eq_true, not_true_eq_false, false_or, or_false]
  have key := t_search (l := l) (d := 13) (b := 3) (by omega) hN hok (show sc < 5 by omega) (by decide) (by decide) 0 hF0
  refine ⟨13, _, hd, key, rfl, ?_⟩
  rintro _ h' ⟨rfl, g, f', hg, hr⟩
  simp only [G3_finds_0, G3_finds_1, G3_finds_4, G3_finds_5, G3_finds_8, G3_finds_9, G3_finds_40, G3_finds_41, G3_finds_44, G3_finds_45, G3_finds_46, G3_finds_47, G3_finds_50, G3_finds_51, G3_finds_54, G3_finds_57, G3_finds_58, G3_finds_59, G3_finds_62, G3_finds_63, G3_finds_64, G3_finds_67, G3_finds_70, G3_finds_73, G3_finds_74, G3_finds_77, G3_finds_80, G3_finds_81, G3_finds_82, G3_finds_85, G3_finds_86, G3_finds_87, G3_finds_90, G3_finds_91, G3_finds_92, G3_finds_95, N3_finds, ↓mm_kc_ap, ↓mm_cut, mm_en, mm_nth, mm_put, mm_sto, mm_stoL, mm_ag, mm_dr, mm_sw, Nat.reduceSub, List.replicate, Option.toList, List.cons_append, List.nil_append, sq_int, sq_lng, sq_iload, sq_lload, sq_aload, sq_istore, sq_lstore, sq_astore, sq_iinc, sq_iadd, sq_isub, sq_imul, sq_iand, sq_ior, sq_ixor, sq_ishl, sq_ishr, sq_iushr, sq_ladd, sq_lsub, sq_lmul, sq_idiv, sq_irem, sq_ldiv, sq_lrem, sq_i2l, sq_lcmp, sq_dupI, sq_dupR, sq_pop, sq_dup2, sq_goto, sq_if_eq, sq_icmp_eq, sq_if_ne, sq_icmp_ne, sq_if_lt, sq_icmp_lt, sq_if_ge, sq_icmp_ge, sq_if_gt, sq_icmp_gt, sq_if_le, sq_icmp_le, sq_iaload, sq_iastore, sq_alen, sq_places, sq_getI, sq_getR, sq_put, sq_ret, sq_lret, sq_vret, sq_switch, sq_callS, sq_callV, sq_copy, sq_max, sq_min, mm_len_2, mm_len_3, mm_len_4, mm_len_6, mm_len_8, mm_len_10, mm_len_11, mm_len_12, mm_len_13, mm_len_14, mm_len_15, mm_len_17, mm_len_18, mm_len_19, mm_len_20, mm_len_21, mm_len_22, mm_len_23, mm_len_24, mm_len_25]
  try simp only [eq_self, true_and, and_true, Bool.false_eq_true, false_implies, true_implies, true_or, or_true, mm_numI, mm_numL, mm_numN, pp_i10, pp_i01, pp_im1, not_false_eq_true, not_true_eq_false, false_or, or_false]
  have hne : ∀ c, c ≠ 5 → c ≠ 6 → h' c = h c := by
    intro c h5 h6
    rcases hr with ⟨_, e, _⟩ | ⟨r, _, _, _, _, e, _⟩
    · rw [e, rr_H_ne _ _ _ _ h5 h6, rr_B_ne _ _ _ _ h5]
    · rw [e, rr_H_ne _ _ _ _ h5 h6, rr_B_ne _ _ _ _ h5]
  rw [hne 1 (by decide) (by decide), hn, nI_clamp (show n < 2 ^ 31 by omega), mm_setA_ne (show (5 : Nat) ≠ 8 by decide)]
  refine ⟨by omega, by decide, by decide, nI_pos (by omega), by decide, by decide, by decide, by decide, by show 0 + n ≤ 8; omega, by show 0 + n ≤ 8; omega, rfl, ?_⟩
  have h6 : h' 6 = g := by
    rcases hr with ⟨_, e, _⟩ | ⟨r, _, _, _, _, e, _⟩ <;> rw [e, rr_H_6]
  have fr : ∀ (w : Nat → Int32), ∀ c, c ≠ 4 → c ≠ 5 → c ≠ 6 → c ≠ 8 → mm_setA h' 8 w c = h0 c := by
    intro w c h4 h5 h66 h8
    rw [mm_setA_ne h8, hne c h5 h66]
    exact hx c h4 h5 h66 h8
  rcases hr with ⟨hno, e, _⟩ | ⟨r, _, hr2, hS, hw, e, hdig⟩
  · have e52 : h' 5 2 = 0 := by rw [e, rr_H_52]
    have hcb := cl_b_no hok hsc (b := 3) (by omega) (rr_none hno)
    rw [e52]
    refine ⟨⟨by rw [hcb]; rfl, fr _, ⟨f', ?_⟩, fun hc => ?_⟩, Or.inl rfl⟩
    · rw [mm_setA_ne (by decide), h6]; exact hg
    · rw [hcb] at hc; cases hc
  · have e52 : h' 5 2 = 1 := by rw [e, rr_H_52]
    have hle := pp_cnt_le (rr_S n A mk sc 3) r
    have hc0 : pp_cnt (rr_S n A mk sc 3) r = 0 := (pp_eq0 (by omega)).mp hw
    obtain ⟨hcb, his⟩ := cl_b_row hok hsc (b := 3) (by omega) hr2 hS (jj_cnt0.mp hc0)
    rw [e52]
    refine ⟨⟨by rw [hcb]; rfl, fr _, ⟨f', ?_⟩, fun _ => ⟨_, his, fun q hq => ?_⟩⟩, Or.inr rfl⟩
    · rw [mm_setA_ne (by decide), h6]; exact hg
    · rw [mm_setA_same, h6]
      have : va_cpy g (h' 8) (0 : Int32).toNatClampNeg (0 : Int32).toNatClampNeg n q = g (0 + (q - 0)) := pk_cpy_in (sp := 0) (dp := 0) (by omega) (by omega)
      rw [this, Nat.sub_zero, Nat.zero_add, hg.1 q (by omega), hdig q hq]
theorem gg_d_some {n : Nat} {A : Nat → Nat} {a k q : Nat} (h : gg_r n A a k q = true) : ∃ j, j ≤ k ∧ gg_d n A a k q = some j := by
  cases hd : gg_d n A a k q with
  | none =>
    rw [(gg_d_iff (n := n) (A := A) (a := a) (q := q) (k := k)).1.mp hd] at h
    cases h
  | some j => exact ⟨j, (gg_d_iff.2 j hd).1, rfl⟩
theorem cl_lead {n : Nat} {A mk : Nat → Nat} (n8 : n ≤ 8) (hok : jj_ok n A) (hS : gg_sym A) {q : Nat} (hq : q < n) (h1 : gg_one n A mk q = true) : ∃ v, v < 64 ∧ nI v = gg_ln n A mk n q := by
  unfold gg_one at h1
  rw [decide_eq_true_eq] at h1
  obtain ⟨t1, t2⟩ := pp_the_ok (P := gg_ld n A mk q) (k := n) (by omega)
  unfold gg_ln
  rw [if_neg (by omega)]
  generalize pp_the (gg_ld n A mk q) n = t at t1 t2 ⊢
  unfold gg_ld at t1
  rw [Bool.and_eq_true] at t1
  rw [gg_r_sym hok hS hq t2] at t1
  obtain ⟨j, hj, e⟩ := gg_d_some t1.1
  refine ⟨8 * t + j, by omega, ?_⟩
  rw [e]
  exact (nI_add _ _).symm
theorem cl_dist {n : Nat} {A : Nat → Nat} (n8 : n ≤ 8) (q : Nat) : ∃ v, v < 64 ∧ nI v = gg_o (gg_d n A q (n - 1) (gg_first n A q)) := by
  obtain ⟨j, hj, e⟩ := gg_d_some (gg_first_ok n A q).2.1
  exact ⟨j, by omega, by rw [e]; rfl⟩
theorem pp_choose {n : Nat} {P : Nat → Nat → Prop} (h : ∀ q, q < n → ∃ v, P q v) : ∃ f : Nat → Nat, ∀ q, q < n → P q (f q) := by
  refine ⟨fun q => Classical.epsilon (fun v => P q v), fun q hq => ?_⟩
  exact Classical.epsilon_spec (p := fun v => P q v) (h q hq)
theorem cl_is2 {n : Nat} {A mk : Nat → Nat} (n8 : n ≤ 8) (hok : jj_ok n A) (hS : gg_sym A) (h1 : pp_all (gg_one n A mk) n = true) : ∃ f, cl_is n A mk 2 f ∧ ∀ q, q < n → nI (f q) = gg_ln n A mk n q := by
  obtain ⟨f, hf⟩ := pp_choose (fun q hq => cl_lead n8 hok hS hq (pp_all_iff.mp h1 q hq))
  exact ⟨f, hf, fun q hq => (hf q hq).2⟩
theorem cl_is4 {n : Nat} {A mk : Nat → Nat} (n8 : n ≤ 8) : ∃ f, cl_is n A mk 4 f ∧ ∀ q, q < n → nI (f q) = gg_o (gg_d n A q (n - 1) (gg_first n A q)) := by
  obtain ⟨f, hf⟩ := pp_choose (n := n) (fun q _ => cl_dist (A := A) n8 q)
  exact ⟨f, hf, fun q hq => (hf q hq).2⟩
set_option maxRecDepth 20000 in
theorem t_finds {l : Launch} {d : Nat} (hd : 13 < d) {h : mm_H} {n : Nat} {A mk : Nat → Nat} (hN : cc_N h n A mk) (hok : jj_ok n A) (hS : gg_sym A) (hI : ∀ p, (A p).testBit p = false) {sc : Nat} (hsc : sc < 5) (hF : ∃ f, rr_F (h 6) f) : mm_Ev l d M3_finds [.ref 7, .int (nI sc)] h (fi_P n A mk sc h) := by
  have n8 := hN.2.1
  refine mm_Ev.of (by decide +kernel) (Nat.le_of_ble_eq_true rfl) (mm_rn_ok [40] _ (S3_finds l d _ _) 1000 _ _ _ _ ?_)
  simp only [G3_finds_0, G3_finds_1, G3_finds_4, G3_finds_5, G3_finds_8, G3_finds_9, G3_finds_40, G3_finds_41, G3_finds_44, G3_finds_45, G3_finds_46, G3_finds_47, G3_finds_50, G3_finds_51, G3_finds_54, G3_finds_57, G3_finds_58, G3_finds_59, G3_finds_62, G3_finds_63, G3_finds_64, G3_finds_67, G3_finds_70, G3_finds_73, G3_finds_74, G3_finds_77, G3_finds_80, G3_finds_81, G3_finds_82, G3_finds_85, G3_finds_86, G3_finds_87, G3_finds_90, G3_finds_91, G3_finds_92, G3_finds_95, N3_finds, ↓mm_kc_ap, ↓mm_cut, mm_en, mm_nth, mm_put, mm_sto, mm_stoL, mm_ag, mm_dr, mm_sw, Nat.reduceSub, List.replicate, Option.toList, List.cons_append, List.nil_append, sq_int, sq_lng, sq_iload, sq_lload, sq_aload, sq_istore, sq_lstore, sq_astore, sq_iinc, sq_iadd, sq_isub, sq_imul, sq_iand, sq_ior, sq_ixor, sq_ishl, sq_ishr, sq_iushr, sq_ladd, sq_lsub, sq_lmul, sq_idiv, sq_irem, sq_ldiv, sq_lrem, sq_i2l, sq_lcmp, sq_dupI, sq_dupR, sq_pop, sq_dup2, sq_goto, sq_if_eq, sq_icmp_eq, sq_if_ne, sq_icmp_ne, sq_if_lt, sq_icmp_lt, sq_if_ge, sq_icmp_ge, sq_if_gt, sq_icmp_gt, sq_if_le, sq_icmp_le, sq_iaload, sq_iastore, sq_alen, sq_places, sq_getI, sq_getR, sq_put, sq_ret, sq_lret, sq_vret, sq_switch, sq_callS, sq_callV, sq_copy, sq_max, sq_min, mm_len_2, mm_len_3, mm_len_4, mm_len_6, mm_len_8, mm_len_10, mm_len_11, mm_len_12, mm_len_13, mm_len_14, mm_len_15, mm_len_17, mm_len_18, mm_len_19, mm_len_20, mm_len_21, mm_len_22, mm_len_23, mm_len_24, mm_len_25]
  try simp only [eq_self, true_and, and_true, Bool.false_eq_true, false_implies, true_implies, true_or, or_true, mm_numI, mm_numL, mm_numN, pp_i10, pp_i01, pp_im1, not_false_eq_true, not_true_eq_false, false_or, or_false]
  refine ⟨0, _, by omega, t_fill l 0 _ 8 (by decide) (by decide) (by decide) 0, rfl, rfl, ?_⟩
  rintro _ _ ⟨rfl, rfl⟩
  simp only [G3_finds_0, G3_finds_1, G3_finds_4, G3_finds_5, G3_finds_8, G3_finds_9, G3_finds_40, G3_finds_41, G3_finds_44, G3_finds_45, G3_finds_46, G3_finds_47, G3_finds_50, G3_finds_51, G3_finds_54, G3_finds_57, G3_finds_58, G3_finds_59, G3_finds_62, G3_finds_63, G3_finds_64, G3_finds_67, G3_finds_70, G3_finds_73, G3_finds_74, G3_finds_77, G3_finds_80, G3_finds_81, G3_finds_82, G3_finds_85, G3_finds_86, G3_finds_87, G3_finds_90, G3_finds_91, G3_finds_92, G3_finds_95, N3_finds, ↓mm_kc_ap, ↓mm_cut, mm_en, mm_nth, mm_put, mm_sto, mm_stoL, mm_ag, mm_dr, mm_sw, Nat.reduceSub, List.replicate, Option.toList, List.cons_append, List.nil_append, sq_int, sq_lng, sq_iload, sq_lload, sq_aload, sq_istore, sq_lstore, sq_astore, sq_iinc, sq_iadd, sq_isub, sq_imul, sq_iand, sq_ior, sq_ixor, sq_ishl, sq_ishr, sq_iushr, sq_ladd, sq_lsub, sq_lmul, sq_idiv, sq_irem, sq_ldiv, sq_lrem, sq_i2l, sq_lcmp, sq_dupI, sq_dupR, sq_pop, sq_dup2, sq_goto, sq_if_eq, sq_icmp_eq, sq_if_ne, sq_icmp_ne, sq_if_lt, sq_icmp_lt, sq_if_ge, sq_icmp_ge, sq_if_gt, sq_icmp_gt, sq_if_le, sq_icmp_le, sq_iaload, sq_iastore, sq_alen, sq_places, sq_getI, sq_getR, sq_put, sq_ret, sq_lret, sq_vret, sq_switch, sq_callS, sq_callV, sq_copy, sq_max, sq_min, mm_len_2, mm_len_3, mm_len_4, mm_len_6, mm_len_8, mm_len_10, mm_len_11, mm_len_12, mm_len_13, mm_len_14, mm_len_15, mm_len_17, mm_len_18, mm_len_19, mm_len_20, mm_len_21, mm_len_22, mm_len_23, mm_len_24, mm_len_25]
  try simp only [eq_self, true_and, and_true, Bool.false_eq_true, false_implies, true_implies, true_or, or_true, mm_numI, mm_numL, mm_numN, pp_i10, pp_i01, pp_im1, not_false_eq_true, not_true_eq_false, false_or, or_false]
  have N8 := hN.sA (show 3 < 8 by decide) (pp_fill (h 8) 0 8)
  have F8 : ∃ f, rr_F ((mm_setA h 8 (pp_fill (h 8) 0 8)) 6) f := by rw [mm_setA_ne (by decide)]; exact hF
  have X8 : ∀ c, c ≠ 4 → c ≠ 5 → c ≠ 6 → c ≠ 8 → (mm_setA h 8 (pp_fill (h 8) 0 8)) c = h c := fun c _ _ _ h8 => mm_setA_ne h8
  have Z8 : ∀ q, q < 8 → (mm_setA h 8 (pp_fill (h 8) 0 8)) 8 q = 0 := by
    intro q hq
    rw [mm_setA_same]
    exact if_pos hq
  have c0 : (nI sc = 0) ↔ sc = 0 := pp_eq0 (by omega)
  have c1 : (nI sc = 1) ↔ sc = 1 := pp_eq1 (by omega)
  have c2 : (nI sc = 2) ↔ sc = 2 := nI_eq (b := 2) (by omega) (by decide)
  have c3 : (nI sc = 3) ↔ sc = 3 := nI_eq (b := 3) (by omega) (by decide)
  rw [c0, c1, c2, c3]
  refine ⟨fun e => t_finds_40 hd N8 hok (by omega) F8 X8, fun e0 => ⟨fun e => t_finds_40 hd N8 hok (by omega) F8 X8, fun e1 => ⟨fun e => ?_, fun e2 => ⟨fun e => ?_, fun e3 => ?_⟩⟩⟩⟩
  · subst e
    refine ⟨2, _, by omega, t_findsLeaders (by decide) N8 hok hS Z8, rfl, ?_⟩
    rintro _ _ ⟨rfl, g4, g8, rfl, hg⟩
    simp only [G3_finds_0, G3_finds_1, G3_finds_4, G3_finds_5, G3_finds_8, G3_finds_9, G3_finds_40, G3_finds_41, G3_finds_44, G3_finds_45, G3_finds_46, G3_finds_47, G3_finds_50, G3_finds_51, G3_finds_54, G3_finds_57, G3_finds_58, G3_finds_59, G3_finds_62, G3_finds_63, G3_finds_64, G3_finds_67, G3_finds_70, G3_finds_73, G3_finds_74, G3_finds_77, G3_finds_80, G3_finds_81, G3_finds_82, G3_finds_85, G3_finds_86, G3_finds_87, G3_finds_90, G3_finds_91, G3_finds_92, G3_finds_95, N3_finds, ↓mm_kc_ap, ↓mm_cut, mm_en, mm_nth, mm_put, mm_sto, mm_stoL, mm_ag, mm_dr, mm_sw, Nat.reduceSub, List.replicate, Option.toList, List.cons_append, List.nil_append, sq_int, sq_lng, sq_iload, sq_lload, sq_aload, sq_istore, sq_lstore, sq_astore, sq_iinc, sq_iadd, sq_isub, sq_imul, sq_iand, sq_ior, sq_ixor, sq_ishl, sq_ishr, sq_iushr, sq_ladd, sq_lsub, sq_lmul, sq_idiv, sq_irem, sq_ldiv, sq_lrem, sq_i2l, sq_lcmp, sq_dupI, sq_dupR, sq_pop, sq_dup2, sq_goto, sq_if_eq, sq_icmp_eq, sq_if_ne, sq_icmp_ne, sq_if_lt, sq_icmp_lt, sq_if_ge, sq_icmp_ge, sq_if_gt, sq_icmp_gt, sq_if_le, sq_icmp_le, sq_iaload, sq_iastore, sq_alen, sq_places, sq_getI, sq_getR, sq_put, sq_ret, sq_lret, sq_vret, sq_switch, sq_callS, sq_callV, sq_copy, sq_max, sq_min, mm_len_2, mm_len_3, mm_len_4, mm_len_6, mm_len_8, mm_len_10, mm_len_11, mm_len_12, mm_len_13, mm_len_14, mm_len_15, mm_len_17, mm_len_18, mm_len_19, mm_len_20, mm_len_21, mm_len_22, mm_len_23, mm_len_24, mm_len_25]
    try simp only [eq_self, true_and, and_true, Bool.false_eq_true, false_implies, true_implies, true_or, or_true, mm_numI, mm_numL, mm_numN, pp_i10, pp_i01, pp_im1, not_false_eq_true, not_true_eq_false, false_or, or_false]
    refine ⟨⟨rfl, fun c x1 x2 x3 x4 => ?_, ?_, fun hb => ?_⟩, pp_b01 _⟩
    · rw [mm_setA_ne x4, mm_setA_ne x1, mm_setA_ne x4]
    · rw [mm_setA_ne (by decide), mm_setA_ne (by decide)]; exact F8
    · obtain ⟨f, f1, f2⟩ := cl_is2 (mk := mk) n8 hok hS hb
      exact ⟨f, f1, fun q hq => by rw [mm_setA_same, hg hb q hq, f2 q hq]⟩
  · subst e
    refine ⟨2, _, by omega, t_allScattered (by decide) N8 hok, rfl, ?_⟩
    rintro _ _ ⟨rfl, rfl⟩
    simp only [G3_finds_0, G3_finds_1, G3_finds_4, G3_finds_5, G3_finds_8, G3_finds_9, G3_finds_40, G3_finds_41, G3_finds_44, G3_finds_45, G3_finds_46, G3_finds_47, G3_finds_50, G3_finds_51, G3_finds_54, G3_finds_57, G3_finds_58, G3_finds_59, G3_finds_62, G3_finds_63, G3_finds_64, G3_finds_67, G3_finds_70, G3_finds_73, G3_finds_74, G3_finds_77, G3_finds_80, G3_finds_81, G3_finds_82, G3_finds_85, G3_finds_86, G3_finds_87, G3_finds_90, G3_finds_91, G3_finds_92, G3_finds_95, N3_finds, ↓mm_kc_ap, ↓mm_cut, mm_en, mm_nth, mm_put, mm_sto, mm_stoL, mm_ag, mm_dr, mm_sw, Nat.reduceSub, List.replicate, Option.toList, List.cons_append, List.nil_append, sq_int, sq_lng, sq_iload, sq_lload, sq_aload, sq_istore, sq_lstore, sq_astore, sq_iinc, sq_iadd, sq_isub, sq_imul, sq_iand, sq_ior, sq_ixor, sq_ishl, sq_ishr, sq_iushr, sq_ladd, sq_lsub, sq_lmul, sq_idiv, sq_irem, sq_ldiv, sq_lrem, sq_i2l, sq_lcmp, sq_dupI, sq_dupR, sq_pop, sq_dup2, sq_goto, sq_if_eq, sq_icmp_eq, sq_if_ne, sq_icmp_ne, sq_if_lt, sq_icmp_lt, sq_if_ge, sq_icmp_ge, sq_if_gt, sq_icmp_gt, sq_if_le, sq_icmp_le, sq_iaload, sq_iastore, sq_alen, sq_places, sq_getI, sq_getR, sq_put, sq_ret, sq_lret, sq_vret, sq_switch, sq_callS, sq_callV, sq_copy, sq_max, sq_min, mm_len_2, mm_len_3, mm_len_4, mm_len_6, mm_len_8, mm_len_10, mm_len_11, mm_len_12, mm_len_13, mm_len_14, mm_len_15, mm_len_17, mm_len_18, mm_len_19, mm_len_20, mm_len_21, mm_len_22, mm_len_23, mm_len_24, mm_len_25]
    try simp only [eq_self, true_and, and_true, Bool.false_eq_true, false_implies, true_implies, true_or, or_true, mm_numI, mm_numL, mm_numN, pp_i10, pp_i01, pp_im1, not_false_eq_true, not_true_eq_false, false_or, or_false]
    refine ⟨⟨rfl, X8, F8, fun hb => ⟨fun _ => 0, fun q hq => rfl, fun q hq => (Z8 q (by omega)).trans nI_0.symm⟩⟩, pp_b01 _⟩
  · have e4 : sc = 4 := by omega
    subst e4
    refine ⟨2, _, by omega, t_findsNoRings (by decide) N8 hok hS hI Z8, rfl, ?_⟩
    rintro _ _ ⟨rfl, g4, g8, rfl, hg⟩
    simp only [G3_finds_0, G3_finds_1, G3_finds_4, G3_finds_5, G3_finds_8, G3_finds_9, G3_finds_40, G3_finds_41, G3_finds_44, G3_finds_45, G3_finds_46, G3_finds_47, G3_finds_50, G3_finds_51, G3_finds_54, G3_finds_57, G3_finds_58, G3_finds_59, G3_finds_62, G3_finds_63, G3_finds_64, G3_finds_67, G3_finds_70, G3_finds_73, G3_finds_74, G3_finds_77, G3_finds_80, G3_finds_81, G3_finds_82, G3_finds_85, G3_finds_86, G3_finds_87, G3_finds_90, G3_finds_91, G3_finds_92, G3_finds_95, N3_finds, ↓mm_kc_ap, ↓mm_cut, mm_en, mm_nth, mm_put, mm_sto, mm_stoL, mm_ag, mm_dr, mm_sw, Nat.reduceSub, List.replicate, Option.toList, List.cons_append, List.nil_append, sq_int, sq_lng, sq_iload, sq_lload, sq_aload, sq_istore, sq_lstore, sq_astore, sq_iinc, sq_iadd, sq_isub, sq_imul, sq_iand, sq_ior, sq_ixor, sq_ishl, sq_ishr, sq_iushr, sq_ladd, sq_lsub, sq_lmul, sq_idiv, sq_irem, sq_ldiv, sq_lrem, sq_i2l, sq_lcmp, sq_dupI, sq_dupR, sq_pop, sq_dup2, sq_goto, sq_if_eq, sq_icmp_eq, sq_if_ne, sq_icmp_ne, sq_if_lt, sq_icmp_lt, sq_if_ge, sq_icmp_ge, sq_if_gt, sq_icmp_gt, sq_if_le, sq_icmp_le, sq_iaload, sq_iastore, sq_alen, sq_places, sq_getI, sq_getR, sq_put, sq_ret, sq_lret, sq_vret, sq_switch, sq_callS, sq_callV, sq_copy, sq_max, sq_min, mm_len_2, mm_len_3, mm_len_4, mm_len_6, mm_len_8, mm_len_10, mm_len_11, mm_len_12, mm_len_13, mm_len_14, mm_len_15, mm_len_17, mm_len_18, mm_len_19, mm_len_20, mm_len_21, mm_len_22, mm_len_23, mm_len_24, mm_len_25]
    try simp only [eq_self, true_and, and_true, Bool.false_eq_true, false_implies, true_implies, true_or, or_true, mm_numI, mm_numL, mm_numN, pp_i10, pp_i01, pp_im1, not_false_eq_true, not_true_eq_false, false_or, or_false]
    refine ⟨⟨rfl, fun c x1 x2 x3 x4 => ?_, ?_, fun hb => ?_⟩, pp_b01 _⟩
    · rw [mm_setA_ne x4, mm_setA_ne x1, mm_setA_ne x4]
    · rw [mm_setA_ne (by decide), mm_setA_ne (by decide)]; exact F8
    · obtain ⟨f, f1, f2⟩ := cl_is4 (A := A) (mk := mk) n8
      exact ⟨f, f1, fun q hq => by rw [mm_setA_same, hg q hq, f2 q hq]⟩
