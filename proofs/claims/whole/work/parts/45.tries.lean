/-! ===== trying: what is asked for ===== -/
def at_is (S : Nat → Bool) (hi : Nat) (i : Int32) (r : Nat) : Prop := r < hi ∧ S r = true ∧ nI (pp_cnt S r) = i
theorem nI_inj {a b : Nat} (ha : a < 2 ^ 32) (hb : b < 2 ^ 32) (h : nI a = nI b) : a = b := by
  have := congrArg (fun x : Int32 => x.toBitVec.toNat) h
  rwa [pk_tn ha, pk_tn hb] at this
theorem pp_cnt_up {S : Nat → Bool} {r : Nat} (h : S r = true) : ∀ k, pp_cnt S r + 1 ≤ pp_cnt S (r + 1 + k)
  | 0 => by rw [Nat.add_zero, pp_cnt_t h]; exact Nat.le_refl _
  | k + 1 => by
    have ih := pp_cnt_up h k
    rw [← Nat.add_assoc]
    cases hS : S (r + 1 + k) with
    | false => rw [pp_cnt_f hS]; exact ih
    | true => rw [pp_cnt_t hS]; omega
theorem at_uq {S : Nat → Bool} {hi : Nat} (h32 : hi < 2 ^ 31) {i : Int32} {r r' : Nat} (h : at_is S hi i r) (h' : at_is S hi i r') : r = r' := by
  have key : ∀ {a b : Nat}, at_is S hi i a → at_is S hi i b → ¬ a < b := by
    intro a b ha hb hlt
    have h1 := pp_cnt_up ha.2.1 (b - (a + 1))
    rw [show a + 1 + (b - (a + 1)) = b by omega] at h1
    have l1 := pp_cnt_le S a
    have l2 := pp_cnt_le S b
    have g1 := ha.1
    have g2 := hb.1
    have := nI_inj (by omega) (by omega) (ha.2.2.trans hb.2.2.symm)
    omega
  rcases Nat.lt_trichotomy r r' with h1 | h1 | h1
  · exact absurd h1 (key h h')
  · exact h1
  · exact absurd h1 (key h' h)
theorem at_mid {S : Nat → Bool} {j : Nat} : ∀ {hi : Nat}, j < pp_cnt S hi → ∃ r, r < hi ∧ S r = true ∧ pp_cnt S r = j
  | 0, h => absurd h (Nat.not_lt_zero j)
  | hi + 1, h => by
    by_cases h1 : j < pp_cnt S hi
    · obtain ⟨r, a, b, c⟩ := at_mid h1
      exact ⟨r, by omega, b, c⟩
    · cases hS : S hi with
      | false => rw [pp_cnt_f hS] at h; exact absurd h h1
      | true =>
        rw [pp_cnt_t hS] at h
        exact ⟨hi, by omega, hS, by omega⟩
noncomputable def at_r (S : Nat → Bool) (hi : Nat) (i : Int32) : Nat := Classical.epsilon (fun r => at_is S hi i r)
noncomputable def at_b (S : Nat → Bool) (hi : Nat) (i : Int32) : Bool := @decide (∃ r, at_is S hi i r) (Classical.propDecidable _)
theorem at_b_iff {S : Nat → Bool} {hi : Nat} {i : Int32} : at_b S hi i = true ↔ ∃ r, at_is S hi i r := @decide_eq_true_iff _ (Classical.propDecidable _)
theorem at_r_eq {S : Nat → Bool} {hi : Nat} (h32 : hi < 2 ^ 31) {i : Int32} {r : Nat} (h : at_is S hi i r) : at_b S hi i = true ∧ at_r S hi i = r := ⟨at_b_iff.mpr ⟨r, h⟩, at_uq h32 (Classical.epsilon_spec (p := fun r => at_is S hi i r) ⟨r, h⟩) h⟩
def sp_ref (b : Int32) (s : ss_T) : Int32 := match s with
  | (n, _, _, _, _, _, tr, _) => if 1 ≤ b ∧ b ≤ 64 then (if 30 ≤ tr ∨ 100000 < b.toNatClampNeg ^ n then -103 else 0) else -102
def sp_tryAll (b : Int32) (s : ss_T) : Int32 × ss_T := match s with
  | (n, A, mq, pf, ds, sc, tr, lk) => if sp_ref b s = 0 then (nI (pp_cnt (rr_S n A mq sc b.toNatClampNeg) (b.toNatClampNeg ^ n)), (n, A, mq, pf, ds, sc, tr + 1, lk)) else (sp_ref b s, s)
noncomputable def sp_attempt (b i : Int32) (s : ss_T) : Int32 × ss_T := match s with
  | (n, A, mq, pf, ds, sc, tr, lk) => if sp_ref b s = 0 then (if at_b (rr_S n A mq sc b.toNatClampNeg) (b.toNatClampNeg ^ n) i = true then (1, (n, A, mq, cl_pf n (rr_d b.toNatClampNeg n (at_r (rr_S n A mq sc b.toNatClampNeg) (b.toNatClampNeg ^ n) i)) pf, ds, sc, tr + 1, lk)) else (-1, (n, A, mq, pf, ds, sc, tr + 1, lk))) else (sp_ref b s, s)
theorem sp_ref_0 {b : Int32} {n : Nat} {A mq pf ds : Nat → Nat} {sc tr lk : Nat} (h : sp_ref b (n, A, mq, pf, ds, sc, tr, lk) = 0) : b = nI b.toNatClampNeg ∧ 1 ≤ b.toNatClampNeg ∧ b.toNatClampNeg ≤ 64 ∧ tr < 30 ∧ b.toNatClampNeg ^ n ≤ 100000 := by
  unfold sp_ref at h
  dsimp only at h
  by_cases h1 : 1 ≤ b ∧ b ≤ 64
  · rw [if_pos h1] at h
    obtain ⟨e1, e2, e3⟩ := pp_1to (m := 64) h1.1 (Int32.le_iff_toInt_le.mp h1.2)
    by_cases h2 : 30 ≤ tr ∨ 100000 < b.toNatClampNeg ^ n
    · rw [if_pos h2] at h
      exact absurd h (by decide)
    · exact ⟨e1, e2, e3, by omega, by omega⟩
  · rw [if_neg h1] at h
    exact absurd h (by decide)
theorem pw_64 {B n : Nat} (hB : B ≤ 64) (n8 : n ≤ 8) : B ^ n ≤ 2 ^ 48 := Nat.le_trans (Nat.pow_le_pow_left hB n) (Nat.le_trans (Nat.pow_le_pow_right (n := 64) (i := n) (j := 8) (by decide) n8) (by decide))
set_option maxRecDepth 20000 in
theorem t_tryRefusal {l : Launch} {d : Nat} (hd : 0 < d) {h : mm_H} {s : ss_T} (hW : ss_W s) (hC : ss_C h s) (b : Int32) : mm_Ev l d M5_tryRefusal [.ref 0, .int b] h (fun r h' => r = some (.int (sp_ref b s)) ∧ h' = h) := by
  obtain ⟨n, A, mq, pf, ds, sc, tr, lk⟩ := s
  obtain ⟨c1, c2, c3, c4, c5, c6, c7⟩ := hC
  obtain ⟨w1, w2, w3, w4, w5, w6, w7, w8, w9, w10, w11, w12⟩ := hW
  have hn := c1.2.2.1
  refine mm_Ev.of (by decide +kernel) (Nat.le_of_ble_eq_true rfl) (mm_rn_ok [] _ (S5_tryRefusal l d _ _) 1000 _ _ _ _ ?_)
  simp only [G5_tryRefusal_0, G5_tryRefusal_1, G5_tryRefusal_2, G5_tryRefusal_5, G5_tryRefusal_6, G5_tryRefusal_8, G5_tryRefusal_11, G5_tryRefusal_13, G5_tryRefusal_14, G5_tryRefusal_15, G5_tryRefusal_18, G5_tryRefusal_20, G5_tryRefusal_23, G5_tryRefusal_24, G5_tryRefusal_25, G5_tryRefusal_26, G5_tryRefusal_29, G5_tryRefusal_32, G5_tryRefusal_35, G5_tryRefusal_38, G5_tryRefusal_39, G5_tryRefusal_42, G5_tryRefusal_44, G5_tryRefusal_45, G5_tryRefusal_46, N5_tryRefusal, ↓mm_kc_ap, ↓mm_cut, mm_en, mm_nth, mm_put, mm_sto, mm_stoL, mm_ag, mm_dr, mm_sw, Nat.reduceSub, List.replicate, Option.toList, List.cons_append, List.nil_append, sq_int, sq_lng, sq_iload, sq_lload, sq_aload, sq_istore, sq_lstore, sq_astore, sq_iinc, sq_iadd, sq_isub, sq_imul, sq_iand, sq_ior, sq_ixor, sq_ishl, sq_ishr, sq_iushr, sq_ladd, sq_lsub, sq_lmul, sq_idiv, sq_irem, sq_ldiv, sq_lrem, sq_i2l, sq_lcmp, sq_dupI, sq_dupR, sq_pop, sq_dup2, sq_goto, sq_if_eq, sq_icmp_eq, sq_if_ne, sq_icmp_ne, sq_if_lt, sq_icmp_lt, sq_if_ge, sq_icmp_ge, sq_if_gt, sq_icmp_gt, sq_if_le, sq_icmp_le, sq_iaload, sq_iastore, sq_alen, sq_places, sq_getI, sq_getR, sq_put, sq_ret, sq_lret, sq_vret, sq_switch, sq_callS, sq_callV, sq_copy, sq_max, sq_min, mm_len_2, mm_len_3, mm_len_4, mm_len_6, mm_len_8, mm_len_10, mm_len_11, mm_len_12, mm_len_13, mm_len_14, mm_len_15, mm_len_17, mm_len_18, mm_len_19, mm_len_20, mm_len_21, mm_len_22, mm_len_23, mm_len_24, mm_len_25]
  try simp only [eq_self, true_and, and_true, Bool.false_eq_true, false_implies, true_implies, true_or, or_true, mm_numI, mm_numL, mm_numN, pp_i10, pp_i01, pp_im1, not_false_eq_true, not_true_eq_false, false_or, or_false]
  rw [c5, hn]
  unfold sp_ref
  dsimp only
  refine ⟨fun h1 => ?_, fun h1 => ⟨fun h2 => ?_, fun h2 => ?_⟩⟩
  · rw [if_neg (fun z => absurd z.1 (Int32.not_le.mpr h1))]
  · obtain ⟨e1, e2, e3⟩ := pp_1to (m := 64) (Int32.not_lt.mp h1) (Int32.le_iff_toInt_le.mp h2)
    rw [if_pos ⟨Int32.not_lt.mp h1, h2⟩]
    generalize hj : b.toNatClampNeg = j at e1 e2 e3 ⊢
    subst e1
    have e30 : ((30 : Int32) ≤ nI tr) ↔ 30 ≤ tr := nI_leI (a := 30) (by decide) (by omega)
    rw [e30]
    refine ⟨fun h3 => ?_, fun h3 => ?_⟩
    · rw [if_pos (Or.inl h3)]
    · have hp := pw_64 e3 w2
      rw [nI_l (by omega)]
      refine ⟨0, _, hd, t_power (by omega), rfl, rfl, ?_⟩
      rintro _ _ ⟨rfl, rfl⟩
      simp only [G5_tryRefusal_0, G5_tryRefusal_1, G5_tryRefusal_2, G5_tryRefusal_5, G5_tryRefusal_6, G5_tryRefusal_8, G5_tryRefusal_11, G5_tryRefusal_13, G5_tryRefusal_14, G5_tryRefusal_15, G5_tryRefusal_18, G5_tryRefusal_20, G5_tryRefusal_23, G5_tryRefusal_24, G5_tryRefusal_25, G5_tryRefusal_26, G5_tryRefusal_29, G5_tryRefusal_32, G5_tryRefusal_35, G5_tryRefusal_38, G5_tryRefusal_39, G5_tryRefusal_42, G5_tryRefusal_44, G5_tryRefusal_45, G5_tryRefusal_46, N5_tryRefusal, ↓mm_kc_ap, ↓mm_cut, mm_en, mm_nth, mm_put, mm_sto, mm_stoL, mm_ag, mm_dr, mm_sw, Nat.reduceSub, List.replicate, Option.toList, List.cons_append, List.nil_append, sq_int, sq_lng, sq_iload, sq_lload, sq_aload, sq_istore, sq_lstore, sq_astore, sq_iinc, sq_iadd, sq_isub, sq_imul, sq_iand, sq_ior, sq_ixor, sq_ishl, sq_ishr, sq_iushr, sq_ladd, sq_lsub, sq_lmul, sq_idiv, sq_irem, sq_ldiv, sq_lrem, sq_i2l, sq_lcmp, sq_dupI, sq_dupR, sq_pop, sq_dup2, sq_goto, sq_if_eq, sq_icmp_eq, sq_if_ne, sq_icmp_ne, sq_if_lt, sq_icmp_lt, sq_if_ge, sq_icmp_ge, sq_if_gt, sq_icmp_gt, sq_if_le, sq_icmp_le, sq_iaload, sq_iastore, sq_alen, sq_places, sq_getI, sq_getR, sq_put, sq_ret, sq_lret, sq_vret, sq_switch, sq_callS, sq_callV, sq_copy, sq_max, sq_min, mm_len_2, mm_len_3, mm_len_4, mm_len_6, mm_len_8, mm_len_10, mm_len_11, mm_len_12, mm_len_13, mm_len_14, mm_len_15, mm_len_17, mm_len_18, mm_len_19, mm_len_20, mm_len_21, mm_len_22, mm_len_23, mm_len_24, mm_len_25]
      try simp only [eq_self, true_and, and_true, Bool.false_eq_true, false_implies, true_implies, true_or, or_true, mm_numI, mm_numL, mm_numN, pp_i10, pp_i01, pp_im1, not_false_eq_true, not_true_eq_false, false_or, or_false]
      have e1 : lg_cmp (lN (j ^ n)) 100000 ≤ 0 ↔ ¬ 100000 < j ^ n := by
        rw [← Int32.not_lt, pp_lcmpg, show (100000 : Int64) = lN 100000 from rfl, pk_lLT (by decide) (by omega)]
      rw [e1]
      refine ⟨fun h4 => ?_, fun h4 => ?_⟩
      · rw [if_neg (by omega)]
      · rw [if_pos (Or.inr (Classical.not_not.mp h4))]
  · rw [if_neg (fun z => absurd z.2 h2)]
theorem ss_C.tr {h : mm_H} {n : Nat} {A mq pf ds : Nat → Nat} {sc tr lk : Nat} (hC : ss_C h (n, A, mq, pf, ds, sc, tr, lk)) : ss_C (mm_set h 0 6 (nI (tr + 1))) (n, A, mq, pf, ds, sc, tr + 1, lk) := by
  obtain ⟨c1, c2, c3, c4, c5, c6, c7⟩ := hC
  refine ⟨c1.cg (mm_set_ne (by decide)) (mm_set_ne (by decide)) (mm_set_ne (by decide)), ?_, ⟨?_, c3.2⟩, ?_, ?_, ?_, ?_⟩
  · rw [mm_set_ne (by decide)]; exact c2
  · rw [mm_set_ne (by decide)]; exact c3.1
  · rw [mm_set_other (by decide)]; exact c4
  · rw [mm_set_same]
  · rw [mm_set_other (by decide)]; exact c6
  · rw [mm_set_ne (by decide)]; exact c7
theorem ss_M.tr {h : mm_H} {n : Nat} {A mq pf ds : Nat → Nat} {sc tr lk : Nat} (hM : ss_M h (n, A, mq, pf, ds, sc, tr, lk)) : ss_M (mm_set h 16 8 (nI (tr + 1))) (n, A, mq, pf, ds, sc, tr + 1, lk) := by
  obtain ⟨c1, c2, c3, c4, c5, c6⟩ := hM
  obtain ⟨a1, a2, a3, a4, a5, a6, a7⟩ := c1
  refine ⟨⟨a1, a2, ?_, ?_, ?_, a6, a7⟩, ?_, ⟨?_, c3.2⟩, ?_, ?_, ?_⟩
  · rw [mm_set_other (by decide)]; exact a3
  · rw [mm_set_ne (by decide)]; exact a4
  · rw [mm_set_ne (by decide)]; exact a5
  · rw [mm_set_ne (by decide)]; exact c2
  · rw [mm_set_ne (by decide)]; exact c3.1
  · rw [mm_set_other (by decide)]; exact c4
  · rw [mm_set_same]
  · rw [mm_set_other (by decide)]; exact c6
theorem rr_P_ne {h h' : mm_H} {S : Nat → Bool} {b n p : Nat} {w s0 b0 : Int32} {f : Nat → Nat} {lo hi : Nat} {r : Option Value} (hP : rr_P (rr_B h s0 b0 w) S b n p w f lo hi r h') : (∀ c, c ≠ 5 → c ≠ 6 → h' c = h c) ∧ ∃ f, rr_F (h' 6) f := by
  obtain ⟨_, g, f', hg, hr⟩ := hP
  rcases hr with ⟨_, e, _⟩ | ⟨r, _, _, _, _, e, _⟩
  · refine ⟨fun c h5 h6 => by rw [e, rr_H_ne _ _ _ _ h5 h6, rr_B_ne _ _ _ _ h5], f', ?_⟩
    rw [e, rr_H_6]; exact hg
  · refine ⟨fun c h5 h6 => by rw [e, rr_H_ne _ _ _ _ h5 h6, rr_B_ne _ _ _ _ h5], f', ?_⟩
    rw [e, rr_H_6]; exact hg
set_option maxRecDepth 20000 in
theorem u_tryAll {l : Launch} {d : Nat} (hd : 13 < d) {h : mm_H} {s : ss_T} (hW : ss_W s) (hC : ss_C h s) (b : Int32) : mm_Ev l d M5_tryAll [.ref 0, .int b] h (ss_pC (.int (sp_tryAll b s).1) (sp_tryAll b s).2 h) := by
  have hC' := hC
  have hW' := hW
  obtain ⟨n, A, mq, pf, ds, sc, tr, lk⟩ := s
  obtain ⟨c1, c2, c3, c4, c5, c6, c7⟩ := hC
  obtain ⟨w1, w2, w3, w4, w5, w6, w7, w8, w9, w10, w11, w12⟩ := hW
  refine mm_Ev.of (by decide +kernel) (Nat.le_of_ble_eq_true rfl) (mm_rn_ok [] _ (S5_tryAll l d _ _) 1000 _ _ _ _ ?_)
  simp only [G5_tryAll_0, G5_tryAll_1, G5_tryAll_2, G5_tryAll_5, G5_tryAll_6, G5_tryAll_7, G5_tryAll_10, G5_tryAll_11, G5_tryAll_12, G5_tryAll_13, G5_tryAll_14, G5_tryAll_17, G5_tryAll_18, G5_tryAll_19, G5_tryAll_22, G5_tryAll_23, G5_tryAll_26, G5_tryAll_27, G5_tryAll_30, G5_tryAll_31, G5_tryAll_32, G5_tryAll_35, G5_tryAll_36, G5_tryAll_39, G5_tryAll_42, N5_tryAll, ↓mm_kc_ap, ↓mm_cut, mm_en, mm_nth, mm_put, mm_sto, mm_stoL, mm_ag, mm_dr, mm_sw, Nat.reduceSub, List.replicate, Option.toList, List.cons_append, List.nil_append, sq_int, sq_lng, sq_iload, sq_lload, sq_aload, sq_istore, sq_lstore, sq_astore, sq_iinc, sq_iadd, sq_isub, sq_imul, sq_iand, sq_ior, sq_ixor, sq_ishl, sq_ishr, sq_iushr, sq_ladd, sq_lsub, sq_lmul, sq_idiv, sq_irem, sq_ldiv, sq_lrem, sq_i2l, sq_lcmp, sq_dupI, sq_dupR, sq_pop, sq_dup2, sq_goto, sq_if_eq, sq_icmp_eq, sq_if_ne, sq_icmp_ne, sq_if_lt, sq_icmp_lt, sq_if_ge, sq_icmp_ge, sq_if_gt, sq_icmp_gt, sq_if_le, sq_icmp_le, sq_iaload, sq_iastore, sq_alen, sq_places, sq_getI, sq_getR, sq_put, sq_ret, sq_lret, sq_vret, sq_switch, sq_callS, sq_callV, sq_copy, sq_max, sq_min, mm_len_2, mm_len_3, mm_len_4, mm_len_6, mm_len_8, mm_len_10, mm_len_11, mm_len_12, mm_len_13, mm_len_14, mm_len_15, mm_len_17, mm_len_18, mm_len_19, mm_len_20, mm_len_21, mm_len_22, mm_len_23, mm_len_24, mm_len_25]
  try simp only [eq_self, true_and, and_true, Bool.false_eq_true, false_implies, true_implies, true_or, or_true, mm_numI, mm_numL, mm_numN, pp_i10, pp_i01, pp_im1, not_false_eq_true, not_true_eq_false, false_or, or_false]
  refine ⟨1, _, by omega, t_tryRefusal (by decide) hW' hC' b, rfl, ?_⟩
  rintro _ _ ⟨rfl, rfl⟩
  simp only [G5_tryAll_0, G5_tryAll_1, G5_tryAll_2, G5_tryAll_5, G5_tryAll_6, G5_tryAll_7, G5_tryAll_10, G5_tryAll_11, G5_tryAll_12, G5_tryAll_13, G5_tryAll_14, G5_tryAll_17, G5_tryAll_18, G5_tryAll_19, G5_tryAll_22, G5_tryAll_23, G5_tryAll_26, G5_tryAll_27, G5_tryAll_30, G5_tryAll_31, G5_tryAll_32, G5_tryAll_35, G5_tryAll_36, G5_tryAll_39, G5_tryAll_42, N5_tryAll, ↓mm_kc_ap, ↓mm_cut, mm_en, mm_nth, mm_put, mm_sto, mm_stoL, mm_ag, mm_dr, mm_sw, Nat.reduceSub, List.replicate, Option.toList, List.cons_append, List.nil_append, sq_int, sq_lng, sq_iload, sq_lload, sq_aload, sq_istore, sq_lstore, sq_astore, sq_iinc, sq_iadd, sq_isub, sq_imul, sq_iand, sq_ior, sq_ixor, sq_ishl, sq_ishr, sq_iushr, sq_ladd, sq_lsub, sq_lmul, sq_idiv, sq_irem, sq_ldiv, sq_lrem, sq_i2l, sq_lcmp, sq_dupI, sq_dupR, sq_pop, sq_dup2, sq_goto, sq_if_eq, sq_icmp_eq, sq_if_ne, sq_icmp_ne, sq_if_lt, sq_icmp_lt, sq_if_ge, sq_icmp_ge, sq_if_gt, sq_icmp_gt, sq_if_le, sq_icmp_le, sq_iaload, sq_iastore, sq_alen, sq_places, sq_getI, sq_getR, sq_put, sq_ret, sq_lret, sq_vret, sq_switch, sq_callS, sq_callV, sq_copy, sq_max, sq_min, mm_len_2, mm_len_3, mm_len_4, mm_len_6, mm_len_8, mm_len_10, mm_len_11, mm_len_12, mm_len_13, mm_len_14, mm_len_15, mm_len_17, mm_len_18, mm_len_19, mm_len_20, mm_len_21, mm_len_22, mm_len_23, mm_len_24, mm_len_25]
  try simp only [eq_self, true_and, and_true, Bool.false_eq_true, false_implies, true_implies, true_or, or_true, mm_numI, mm_numL, mm_numN, pp_i10, pp_i01, pp_im1, not_false_eq_true, not_true_eq_false, false_or, or_false]
  unfold sp_tryAll
  dsimp only
  refine ⟨fun h0 => ?_, fun h0 => ?_⟩
  · rw [if_pos h0]
    obtain ⟨e1, e2, e3, e4, e5⟩ := sp_ref_0 h0
    generalize hj : b.toNatClampNeg = j at e1 e2 e3 e5 ⊢
    subst e1
    have C1 := hC'.tr
    obtain ⟨f0, hF0⟩ := C1.2.2.2.2.2.2
    rw [c5, nI_1, mm_set_other (by decide), c4]
    refine ⟨13, _, hd, t_search (by omega) C1.1 w3 w10 (by omega) e3 (-1) hF0, rfl, ?_⟩
    rintro _ h' hP
    obtain ⟨hX, hF⟩ := rr_P_ne hP
    obtain ⟨rfl, g, f', hg, hr⟩ := hP
    simp only [G5_tryAll_0, G5_tryAll_1, G5_tryAll_2, G5_tryAll_5, G5_tryAll_6, G5_tryAll_7, G5_tryAll_10, G5_tryAll_11, G5_tryAll_12, G5_tryAll_13, G5_tryAll_14, G5_tryAll_17, G5_tryAll_18, G5_tryAll_19, G5_tryAll_22, G5_tryAll_23, G5_tryAll_26, G5_tryAll_27, G5_tryAll_30, G5_tryAll_31, G5_tryAll_32, G5_tryAll_35, G5_tryAll_36, G5_tryAll_39, G5_tryAll_42, N5_tryAll, ↓mm_kc_ap, ↓mm_cut, mm_en, mm_nth, mm_put, mm_sto, mm_stoL, mm_ag, mm_dr, mm_sw, Nat.reduceSub, List.replicate, Option.toList, List.cons_append, List.nil_append, sq_int, sq_lng, sq_iload, sq_lload, sq_aload, sq_istore, sq_lstore, sq_astore, sq_iinc, sq_iadd, sq_isub, sq_imul, sq_iand, sq_ior, sq_ixor, sq_ishl, sq_ishr, sq_iushr, sq_ladd, sq_lsub, sq_lmul, sq_idiv, sq_irem, sq_ldiv, sq_lrem, sq_i2l, sq_lcmp, sq_dupI, sq_dupR, sq_pop, sq_dup2, sq_goto, sq_if_eq, sq_icmp_eq, sq_if_ne, sq_icmp_ne, sq_if_lt, sq_icmp_lt, sq_if_ge, sq_icmp_ge, sq_if_gt, sq_icmp_gt, sq_if_le, sq_icmp_le, sq_iaload, sq_iastore, sq_alen, sq_places, sq_getI, sq_getR, sq_put, sq_ret, sq_lret, sq_vret, sq_switch, sq_callS, sq_callV, sq_copy, sq_max, sq_min, mm_len_2, mm_len_3, mm_len_4, mm_len_6, mm_len_8, mm_len_10, mm_len_11, mm_len_12, mm_len_13, mm_len_14, mm_len_15, mm_len_17, mm_len_18, mm_len_19, mm_len_20, mm_len_21, mm_len_22, mm_len_23, mm_len_24, mm_len_25]
    try simp only [eq_self, true_and, and_true, Bool.false_eq_true, false_implies, true_implies, true_or, or_true, mm_numI, mm_numL, mm_numN, pp_i10, pp_i01, pp_im1, not_false_eq_true, not_true_eq_false, false_or, or_false]
    rcases hr with ⟨_, e, _⟩ | ⟨r, _, hr2, _, hw, _, _⟩
    · refine ⟨?_, C1.fi (fun c _ h5 h6 _ => hX c h5 h6) hF, fun c hc => ?_⟩
      · rw [e, rr_H_51]
      · rw [hX c (by omega) (by omega), mm_set_ne (by omega)]
    · have := pp_cnt_le (rr_S n A mq sc j) r
      exact absurd hw.symm (pp_m1 (by omega))
  · rw [if_neg h0]
    exact ⟨rfl, hC', fun _ _ => rfl⟩
set_option maxRecDepth 20000 in
theorem u_attempt {l : Launch} {d : Nat} (hd : 13 < d) {h : mm_H} {s : ss_T} (hW : ss_W s) (hC : ss_C h s) (b i : Int32) : mm_Ev l d M5_attempt [.ref 0, .int b, .int i] h (ss_pC (.int (sp_attempt b i s).1) (sp_attempt b i s).2 h) := by
  have hC' := hC
  have hW' := hW
  obtain ⟨n, A, mq, pf, ds, sc, tr, lk⟩ := s
  obtain ⟨c1, c2, c3, c4, c5, c6, c7⟩ := hC
  obtain ⟨w1, w2, w3, w4, w5, w6, w7, w8, w9, w10, w11, w12⟩ := hW
  refine mm_Ev.of (by decide +kernel) (Nat.le_of_ble_eq_true rfl) (mm_rn_ok [] _ (S5_attempt l d _ _) 1000 _ _ _ _ ?_)
  simp only [G5_attempt_0, G5_attempt_1, G5_attempt_2, G5_attempt_5, G5_attempt_6, G5_attempt_7, G5_attempt_10, G5_attempt_11, G5_attempt_12, G5_attempt_13, G5_attempt_14, G5_attempt_17, G5_attempt_18, G5_attempt_19, G5_attempt_22, G5_attempt_23, G5_attempt_26, G5_attempt_27, G5_attempt_30, G5_attempt_31, G5_attempt_32, G5_attempt_35, G5_attempt_36, G5_attempt_39, G5_attempt_42, G5_attempt_45, G5_attempt_46, G5_attempt_47, G5_attempt_48, G5_attempt_51, G5_attempt_54, G5_attempt_55, G5_attempt_56, G5_attempt_59, G5_attempt_60, G5_attempt_61, G5_attempt_64, G5_attempt_67, G5_attempt_70, G5_attempt_71, N5_attempt, ↓mm_kc_ap, ↓mm_cut, mm_en, mm_nth, mm_put, mm_sto, mm_stoL, mm_ag, mm_dr, mm_sw, Nat.reduceSub, List.replicate, Option.toList, List.cons_append, List.nil_append, sq_int, sq_lng, sq_iload, sq_lload, sq_aload, sq_istore, sq_lstore, sq_astore, sq_iinc, sq_iadd, sq_isub, sq_imul, sq_iand, sq_ior, sq_ixor, sq_ishl, sq_ishr, sq_iushr, sq_ladd, sq_lsub, sq_lmul, sq_idiv, sq_irem, sq_ldiv, sq_lrem, sq_i2l, sq_lcmp, sq_dupI, sq_dupR, sq_pop, sq_dup2, sq_goto, sq_if_eq, sq_icmp_eq, sq_if_ne, sq_icmp_ne, sq_if_lt, sq_icmp_lt, sq_if_ge, sq_icmp_ge, sq_if_gt, sq_icmp_gt, sq_if_le, sq_icmp_le, sq_iaload, sq_iastore, sq_alen, sq_places, sq_getI, sq_getR, sq_put, sq_ret, sq_lret, sq_vret, sq_switch, sq_callS, sq_callV, sq_copy, sq_max, sq_min, mm_len_2, mm_len_3, mm_len_4, mm_len_6, mm_len_8, mm_len_10, mm_len_11, mm_len_12, mm_len_13, mm_len_14, mm_len_15, mm_len_17, mm_len_18, mm_len_19, mm_len_20, mm_len_21, mm_len_22, mm_len_23, mm_len_24, mm_len_25]
  try simp only [eq_self, true_and, and_true, Bool.false_eq_true, false_implies, true_implies, true_or, or_true, mm_numI, mm_numL, mm_numN, pp_i10, pp_i01, pp_im1, not_false_eq_true, not_true_eq_false, false_or, or_false]
  refine ⟨1, _, by omega, t_tryRefusal (by decide) hW' hC' b, rfl, ?_⟩
  rintro _ _ ⟨rfl, rfl⟩
  simp only [G5_attempt_0, G5_attempt_1, G5_attempt_2, G5_attempt_5, G5_attempt_6, G5_attempt_7, G5_attempt_10, G5_attempt_11, G5_attempt_12, G5_attempt_13, G5_attempt_14, G5_attempt_17, G5_attempt_18, G5_attempt_19, G5_attempt_22, G5_attempt_23, G5_attempt_26, G5_attempt_27, G5_attempt_30, G5_attempt_31, G5_attempt_32, G5_attempt_35, G5_attempt_36, G5_attempt_39, G5_attempt_42, G5_attempt_45, G5_attempt_46, G5_attempt_47, G5_attempt_48, G5_attempt_51, G5_attempt_54, G5_attempt_55, G5_attempt_56, G5_attempt_59, G5_attempt_60, G5_attempt_61, G5_attempt_64, G5_attempt_67, G5_attempt_70, G5_attempt_71, N5_attempt, ↓mm_kc_ap, ↓mm_cut, mm_en, mm_nth, mm_put, mm_sto, mm_stoL, mm_ag, mm_dr, mm_sw, Nat.reduceSub, List.replicate, Option.toList, List.cons_append, List.nil_append, sq_int, sq_lng, sq_iload, sq_lload, sq_aload, sq_istore, sq_lstore, sq_astore, sq_iinc, sq_iadd, sq_isub, sq_imul, sq_iand, sq_ior, sq_ixor, sq_ishl, sq_ishr, sq_iushr, sq_ladd, sq_lsub, sq_lmul, sq_idiv, sq_irem, sq_ldiv, sq_lrem, sq_i2l, sq_lcmp, sq_dupI, sq_dupR, sq_pop, sq_dup2, sq_goto, sq_if_eq, sq_icmp_eq, sq_if_ne, sq_icmp_ne, sq_if_lt, sq_icmp_lt, sq_if_ge, sq_icmp_ge, sq_if_gt, sq_icmp_gt, sq_if_le, sq_icmp_le, sq_iaload, sq_iastore, sq_alen, sq_places, sq_getI, sq_getR, sq_put, sq_ret, sq_lret, sq_vret, sq_switch, sq_callS, sq_callV, sq_copy, sq_max, sq_min, mm_len_2, mm_len_3, mm_len_4, mm_len_6, mm_len_8, mm_len_10, mm_len_11, mm_len_12, mm_len_13, mm_len_14, mm_len_15, mm_len_17, mm_len_18, mm_len_19, mm_len_20, mm_len_21, mm_len_22, mm_len_23, mm_len_24, mm_len_25]
  try simp only [eq_self, true_and, and_true, Bool.false_eq_true, false_implies, true_implies, true_or, or_true, mm_numI, mm_numL, mm_numN, pp_i10, pp_i01, pp_im1, not_false_eq_true, not_true_eq_false, false_or, or_false]
  unfold sp_attempt
  dsimp only
  refine ⟨fun h0 => ?_, fun h0 => ?_⟩
  · rw [if_pos h0]
    obtain ⟨e1, e2, e3, e4, e5⟩ := sp_ref_0 h0
    generalize hj : b.toNatClampNeg = j at e1 e2 e3 e5 ⊢
    subst e1
    have C1 := hC'.tr
    obtain ⟨f0, hF0⟩ := C1.2.2.2.2.2.2
    rw [c5, nI_1, mm_set_other (by decide), c4]
    refine ⟨13, _, hd, t_search (by omega) C1.1 w3 w10 (by omega) e3 i hF0, rfl, ?_⟩
    rintro _ h' hP
    obtain ⟨hX, hF⟩ := rr_P_ne hP
    have C2 := C1.fi (fun c _ h5 h6 _ => hX c h5 h6) hF
    have hn := C2.1.2.2.1
    obtain ⟨rfl, g, f', hg, hr⟩ := hP
    simp only [G5_attempt_0, G5_attempt_1, G5_attempt_2, G5_attempt_5, G5_attempt_6, G5_attempt_7, G5_attempt_10, G5_attempt_11, G5_attempt_12, G5_attempt_13, G5_attempt_14, G5_attempt_17, G5_attempt_18, G5_attempt_19, G5_attempt_22, G5_attempt_23, G5_attempt_26, G5_attempt_27, G5_attempt_30, G5_attempt_31, G5_attempt_32, G5_attempt_35, G5_attempt_36, G5_attempt_39, G5_attempt_42, G5_attempt_45, G5_attempt_46, G5_attempt_47, G5_attempt_48, G5_attempt_51, G5_attempt_54, G5_attempt_55, G5_attempt_56, G5_attempt_59, G5_attempt_60, G5_attempt_61, G5_attempt_64, G5_attempt_67, G5_attempt_70, G5_attempt_71, N5_attempt, ↓mm_kc_ap, ↓mm_cut, mm_en, mm_nth, mm_put, mm_sto, mm_stoL, mm_ag, mm_dr, mm_sw, Nat.reduceSub, List.replicate, Option.toList, List.cons_append, List.nil_append, sq_int, sq_lng, sq_iload, sq_lload, sq_aload, sq_istore, sq_lstore, sq_astore, sq_iinc, sq_iadd, sq_isub, sq_imul, sq_iand, sq_ior, sq_ixor, sq_ishl, sq_ishr, sq_iushr, sq_ladd, sq_lsub, sq_lmul, sq_idiv, sq_irem, sq_ldiv, sq_lrem, sq_i2l, sq_lcmp, sq_dupI, sq_dupR, sq_pop, sq_dup2, sq_goto, sq_if_eq, sq_icmp_eq, sq_if_ne, sq_icmp_ne, sq_if_lt, sq_icmp_lt, sq_if_ge, sq_icmp_ge, sq_if_gt, sq_icmp_gt, sq_if_le, sq_icmp_le, sq_iaload, sq_iastore, sq_alen, sq_places, sq_getI, sq_getR, sq_put, sq_ret, sq_lret, sq_vret, sq_switch, sq_callS, sq_callV, sq_copy, sq_max, sq_min, mm_len_2, mm_len_3, mm_len_4, mm_len_6, mm_len_8, mm_len_10, mm_len_11, mm_len_12, mm_len_13, mm_len_14, mm_len_15, mm_len_17, mm_len_18, mm_len_19, mm_len_20, mm_len_21, mm_len_22, mm_len_23, mm_len_24, mm_len_25]
    try simp only [eq_self, true_and, and_true, Bool.false_eq_true, false_implies, true_implies, true_or, or_true, mm_numI, mm_numL, mm_numN, pp_i10, pp_i01, pp_im1, not_false_eq_true, not_true_eq_false, false_or, or_false]
    rcases hr with ⟨hno, e, _⟩ | ⟨r, _, hr2, hS, hw, e, hdig⟩
    · have e52 : h' 5 2 = 0 := by rw [e, rr_H_52]
      rw [e52]
      have hb : ¬ at_b (rr_S n A mq sc j) (j ^ n) i = true := by
        rw [at_b_iff]
        rintro ⟨r, r1, r2, r3⟩
        exact hno r (Nat.zero_le _) r1 r2 r3
      rw [if_neg hb]
      refine ⟨fun z => absurd rfl z, fun _ => ⟨rfl, C2, fun c hc => ?_⟩⟩
      rw [hX c (by omega) (by omega), mm_set_ne (by omega)]
    · have e52 : h' 5 2 = 1 := by rw [e, rr_H_52]
      have h6 : h' 6 = g := by rw [e, rr_H_6]
      obtain ⟨hb, hr0⟩ := at_r_eq (show j ^ n < 2 ^ 31 by omega) ⟨hr2, hS, hw⟩
      rw [e52, if_pos hb, hr0, hn, nI_clamp (show n < 2 ^ 31 by omega)]
      refine ⟨fun _ => ⟨by omega, by decide, by decide, nI_pos (by omega), by decide, by decide, by decide, by decide, by show 0 + n ≤ 8; omega, by show 0 + n ≤ 8; omega, rfl, rfl, C2.p15 (fun x hx => mm_setA_ne hx) ?_, fun c hc => ?_⟩, fun z => absurd z (by decide)⟩
      · rw [mm_setA_same, h6]
        exact cl_cpy (fun q hq => by rw [hg.1 q (by omega), hdig q hq]) C2.2.1
      · rw [mm_setA_ne (by omega), hX c (by omega) (by omega), mm_set_ne (by omega)]
  · rw [if_neg h0]
    exact ⟨rfl, hC', fun _ _ => rfl⟩
