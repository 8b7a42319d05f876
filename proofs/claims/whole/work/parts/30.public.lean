/-! ===== the whole state: n posts, lines, marks, numbers, distances, scheme, tries, ways ===== -/
abbrev ss_T : Type := Nat × (Nat → Nat) × (Nat → Nat) × (Nat → Nat) × (Nat → Nat) × Nat × Nat × Nat
/-- it is as it should be -/
def ss_W (s : ss_T) : Prop := match s with
  | (n, A, mq, pf, ds, sc, tr, lk) => 1 ≤ n ∧ n ≤ 8 ∧ jj_ok n A ∧ gg_sym A ∧ (∀ p, (A p).testBit p = false) ∧ (∀ p, A p < 256) ∧ (∀ p, mq p < 4) ∧ (∀ p, pf p < 64) ∧ (∀ p, ds p < 5) ∧ sc < 5 ∧ tr ≤ 30 ∧ lk ≤ 20
/-- the class holds it -/
def ss_C (h : mm_H) (s : ss_T) : Prop := match s with
  | (n, A, mq, pf, ds, sc, tr, lk) => cc_N h n A mq ∧ (∀ q, q < 8 → h 15 q = nI (pf q)) ∧ mr_D h 10 ds ∧ h 0 5 = nI sc ∧ h 0 6 = nI tr ∧ h 0 7 = nI lk ∧ ∃ f, rr_F (h 6) f
/-- the reference holds it -/
def ss_M (h : mm_H) (s : ss_T) : Prop := match s with
  | (n, A, mq, pf, ds, sc, tr, lk) => dd_N h n A mq ∧ (∀ q, q < 8 → h 19 q = nI (pf q)) ∧ mr_D h 20 ds ∧ h 16 5 = nI sc ∧ h 16 8 = nI tr ∧ h 16 11 = nI lk
/-- what a public call of the class leaves: the answer R, the state s, the reference's cells as they were -/
def ss_pC (R : Value) (s : ss_T) (h : mm_H) : mm_Po := fun r h' => r = some R ∧ ss_C h' s ∧ ∀ c, 16 ≤ c → h' c = h c
def ss_pM (R : Value) (s : ss_T) (h : mm_H) : mm_Po := fun r h' => r = some R ∧ ss_M h' s ∧ ∀ c, c < 16 → h' c = h c
/-- scheme -/
def sp_scheme (k : Int32) (s : ss_T) : Int32 × ss_T := match s with
  | (n, A, mq, pf, ds, sc, tr, lk) => if 0 ≤ k ∧ k ≤ 4 then (nI sc, (n, A, mq, pf, ds, k.toNatClampNeg, tr, lk)) else (-102, s)
theorem pp_nat {k : Int32} {m : Nat} (h0 : 0 ≤ k) (h1 : k.toInt ≤ m) : k = nI k.toNatClampNeg ∧ k.toNatClampNeg ≤ m := by
  obtain ⟨j, hj, e⟩ := nI_of (Int32.not_lt.mpr h0)
  subst e
  rw [nI_clamp hj]
  rw [nI_toInt hj] at h1
  exact ⟨rfl, by omega⟩
set_option maxRecDepth 20000 in
theorem u_scheme {l : Launch} {d : Nat} {h : mm_H} {s : ss_T} (hC : ss_C h s) (k : Int32) : mm_Ev l d M5_scheme [.ref 0, .int k] h (ss_pC (.int (sp_scheme k s).1) (sp_scheme k s).2 h) := by
  obtain ⟨n, A, mq, pf, ds, sc, tr, lk⟩ := s
  have hC' := hC
  obtain ⟨c1, c2, c3, c4, c5, c6, c7⟩ := hC
  refine mm_Ev.of (by decide +kernel) (Nat.le_of_ble_eq_true rfl) (mm_rn_ok [] _ (S5_scheme l d _ _) 1000 _ _ _ _ ?_)
  simp only [G5_scheme_0, G5_scheme_1, G5_scheme_4, G5_scheme_5, G5_scheme_6, G5_scheme_9, G5_scheme_11, G5_scheme_12, G5_scheme_13, G5_scheme_16, G5_scheme_17, G5_scheme_18, G5_scheme_19, G5_scheme_22, G5_scheme_23, N5_scheme, ↓mm_kc_ap, ↓mm_cut, mm_en, mm_nth, mm_put, mm_sto, mm_stoL, mm_ag, mm_dr, mm_sw, Nat.reduceSub, List.replicate, Option.toList, List.cons_append, List.nil_append, sq_int, sq_lng, sq_iload, sq_lload, sq_aload, sq_istore, sq_lstore, sq_astore, sq_iinc, sq_iadd, sq_isub, sq_imul, sq_iand, sq_ior, sq_ixor, sq_ishl, sq_ishr, sq_iushr, sq_ladd, sq_lsub, sq_lmul, sq_idiv, sq_irem, sq_ldiv, sq_lrem, sq_i2l, sq_lcmp, sq_dupI, sq_dupR, sq_pop, sq_dup2, sq_goto, sq_if_eq, sq_icmp_eq, sq_if_ne, sq_icmp_ne, sq_if_lt, sq_icmp_lt, sq_if_ge, sq_icmp_ge, sq_if_gt, sq_icmp_gt, sq_if_le, sq_icmp_le, sq_iaload, sq_iastore, sq_alen, sq_places, sq_getI, sq_getR, sq_put, sq_ret, sq_lret, sq_vret, sq_switch, sq_callS, sq_callV, sq_copy, sq_max, sq_min, mm_len_2, mm_len_3, mm_len_4, mm_len_6, mm_len_8, mm_len_10, mm_len_11, mm_len_12, mm_len_13, mm_len_14, mm_len_15, mm_len_17, mm_len_18, mm_len_19, mm_len_20, mm_len_21, mm_len_22, mm_len_23, mm_len_24, mm_len_25]
  try simp only [eq_self, true_and, and_true, Bool.false_eq_true, false_implies, true_implies, true_or, or_true, mm_numI, mm_numL, mm_numN, pp_i10, pp_i01, pp_im1, not_false_eq_true, not_true_eq_false, false_or, or_false]
  unfold sp_scheme
  dsimp only
  refine ⟨fun h1 => ?_, fun h1 => ⟨fun h2 => ?_, fun h2 => ?_⟩⟩
  · rw [if_neg (fun z => absurd z.1 (Int32.not_le.mpr h1))]
    exact ⟨rfl, hC', fun _ _ => rfl⟩
  · rw [if_pos ⟨Int32.not_lt.mp h1, h2⟩]
    have hk := pp_nat (m := 4) (Int32.not_lt.mp h1) (Int32.le_iff_toInt_le.mp h2)
    refine ⟨by rw [c4], ⟨c1.cg (mm_set_ne (by decide)) (mm_set_ne (by decide)) (mm_set_ne (by decide)), ?_, ?_, ?_, ?_, ?_, ?_⟩, fun c hc => mm_set_ne (by omega)⟩
    · rw [mm_set_ne (by decide)]; exact c2
    · exact ⟨by rw [mm_set_ne (by decide)]; exact c3.1, c3.2⟩
    · rw [mm_set_same]; exact hk.1
    · rw [mm_set_other (by decide)]; exact c5
    · rw [mm_set_other (by decide)]; exact c6
    · rw [mm_set_ne (by decide)]; exact c7
  · rw [if_neg (fun z => absurd z.2 h2)]
    exact ⟨rfl, hC', fun _ _ => rfl⟩
set_option maxRecDepth 20000 in
theorem v_scheme {l : Launch} {d : Nat} (hd : 0 < d) {h : mm_H} {s : ss_T} (hM : ss_M h s) (k : Int32) : mm_Ev l d M6_scheme [.ref 16, .int k] h (ss_pM (.int (sp_scheme k s).1) (sp_scheme k s).2 h) := by
  obtain ⟨n, A, mq, pf, ds, sc, tr, lk⟩ := s
  have hM' := hM
  obtain ⟨c1, c2, c3, c4, c5, c6⟩ := hM
  refine mm_Ev.of (by decide +kernel) (Nat.le_of_ble_eq_true rfl) (mm_rn_ok [] _ (S6_scheme l d _ _) 1000 _ _ _ _ ?_)
  simp only [G6_scheme_0, G6_scheme_1, G6_scheme_2, G6_scheme_3, G6_scheme_6, G6_scheme_9, G6_scheme_12, G6_scheme_14, G6_scheme_15, G6_scheme_16, G6_scheme_19, G6_scheme_20, G6_scheme_21, G6_scheme_22, G6_scheme_25, G6_scheme_26, N6_scheme, ↓mm_kc_ap, ↓mm_cut, mm_en, mm_nth, mm_put, mm_sto, mm_stoL, mm_ag, mm_dr, mm_sw, Nat.reduceSub, List.replicate, Option.toList, List.cons_append, List.nil_append, sq_int, sq_lng, sq_iload, sq_lload, sq_aload, sq_istore, sq_lstore, sq_astore, sq_iinc, sq_iadd, sq_isub, sq_imul, sq_iand, sq_ior, sq_ixor, sq_ishl, sq_ishr, sq_iushr, sq_ladd, sq_lsub, sq_lmul, sq_idiv, sq_irem, sq_ldiv, sq_lrem, sq_i2l, sq_lcmp, sq_dupI, sq_dupR, sq_pop, sq_dup2, sq_goto, sq_if_eq, sq_icmp_eq, sq_if_ne, sq_icmp_ne, sq_if_lt, sq_icmp_lt, sq_if_ge, sq_icmp_ge, sq_if_gt, sq_icmp_gt, sq_if_le, sq_icmp_le, sq_iaload, sq_iastore, sq_alen, sq_places, sq_getI, sq_getR, sq_put, sq_ret, sq_lret, sq_vret, sq_switch, sq_callS, sq_callV, sq_copy, sq_max, sq_min, mm_len_2, mm_len_3, mm_len_4, mm_len_6, mm_len_8, mm_len_10, mm_len_11, mm_len_12, mm_len_13, mm_len_14, mm_len_15, mm_len_17, mm_len_18, mm_len_19, mm_len_20, mm_len_21, mm_len_22, mm_len_23, mm_len_24, mm_len_25]
  try simp only [eq_self, true_and, and_true, Bool.false_eq_true, false_implies, true_implies, true_or, or_true, mm_numI, mm_numL, mm_numN, pp_i10, pp_i01, pp_im1, not_false_eq_true, not_true_eq_false, false_or, or_false]
  refine ⟨0, _, hd, t_in l 0 h _ _ _, rfl, rfl, ?_⟩
  rintro _ _ ⟨rfl, rfl⟩
  simp only [G6_scheme_0, G6_scheme_1, G6_scheme_2, G6_scheme_3, G6_scheme_6, G6_scheme_9, G6_scheme_12, G6_scheme_14, G6_scheme_15, G6_scheme_16, G6_scheme_19, G6_scheme_20, G6_scheme_21, G6_scheme_22, G6_scheme_25, G6_scheme_26, N6_scheme, ↓mm_kc_ap, ↓mm_cut, mm_en, mm_nth, mm_put, mm_sto, mm_stoL, mm_ag, mm_dr, mm_sw, Nat.reduceSub, List.replicate, Option.toList, List.cons_append, List.nil_append, sq_int, sq_lng, sq_iload, sq_lload, sq_aload, sq_istore, sq_lstore, sq_astore, sq_iinc, sq_iadd, sq_isub, sq_imul, sq_iand, sq_ior, sq_ixor, sq_ishl, sq_ishr, sq_iushr, sq_ladd, sq_lsub, sq_lmul, sq_idiv, sq_irem, sq_ldiv, sq_lrem, sq_i2l, sq_lcmp, sq_dupI, sq_dupR, sq_pop, sq_dup2, sq_goto, sq_if_eq, sq_icmp_eq, sq_if_ne, sq_icmp_ne, sq_if_lt, sq_icmp_lt, sq_if_ge, sq_icmp_ge, sq_if_gt, sq_icmp_gt, sq_if_le, sq_icmp_le, sq_iaload, sq_iastore, sq_alen, sq_places, sq_getI, sq_getR, sq_put, sq_ret, sq_lret, sq_vret, sq_switch, sq_callS, sq_callV, sq_copy, sq_max, sq_min, mm_len_2, mm_len_3, mm_len_4, mm_len_6, mm_len_8, mm_len_10, mm_len_11, mm_len_12, mm_len_13, mm_len_14, mm_len_15, mm_len_17, mm_len_18, mm_len_19, mm_len_20, mm_len_21, mm_len_22, mm_len_23, mm_len_24, mm_len_25]
  try simp only [eq_self, true_and, and_true, Bool.false_eq_true, false_implies, true_implies, true_or, or_true, mm_numI, mm_numL, mm_numN, pp_i10, pp_i01, pp_im1, not_false_eq_true, not_true_eq_false, false_or, or_false]
  have e : decide ((0 : Int64) ≤ k.toInt64 ∧ k.toInt64 ≤ (4 : Int64)) = decide (0 ≤ k ∧ k ≤ 4) := by
    apply decide_eq_decide.mpr
    rw [show (0 : Int64) = (0 : Int32).toInt64 from rfl, show (4 : Int64) = (4 : Int32).toInt64 from rfl, pp_i2l_le, pp_i2l_le]
  rw [e, pp_bne, pp_beq, decide_eq_true_eq, decide_eq_false_iff_not]
  unfold sp_scheme
  dsimp only
  refine ⟨fun h1 => ?_, fun h1 => ?_⟩
  · rw [if_pos h1]
    have hk := pp_nat (m := 4) h1.1 (Int32.le_iff_toInt_le.mp h1.2)
    refine ⟨by rw [c4], ⟨?_, ?_, ?_, ?_, ?_, ?_⟩, fun c hc => mm_set_ne (by omega)⟩
    · obtain ⟨a1, a2, a3, a4, a5, a6, a7⟩ := c1
      exact ⟨a1, a2, by rw [mm_set_other (by decide)]; exact a3, by rw [mm_set_ne (by decide)]; exact a4, by rw [mm_set_ne (by decide)]; exact a5, a6, a7⟩
    · rw [mm_set_ne (by decide)]; exact c2
    · exact ⟨by rw [mm_set_ne (by decide)]; exact c3.1, c3.2⟩
    · rw [mm_set_same]; exact hk.1
    · rw [mm_set_other (by decide)]; exact c5
    · rw [mm_set_other (by decide)]; exact c6
  · rw [if_neg h1]
    exact ⟨rfl, hM', fun _ _ => rfl⟩
