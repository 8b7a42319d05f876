/-! ===== the shortest way (class): the machine ===== -/
def sw_P (n : Nat) (A : Nat → Nat) (st : Nat) (h0 : mm_H) : mm_Po := fun r h' => r = some (.int (nI (bf_v n A st))) ∧ ∀ c, c ≠ 11 → c ≠ 12 → c ≠ 13 → c ≠ 14 → h' c = h0 c
def bf_h (n : Nat) (mo tr : Nat → Nat) (met : Nat) (h0 h : mm_H) : Prop :=
  (∀ x, x < 5 ^ n → h 12 x = dn_i (mo x)) ∧ (∀ i, i < met → h 14 i = nI (tr i)) ∧ ∀ c, c ≠ 11 → c ≠ 12 → c ≠ 13 → c ≠ 14 → h c = h0 c
def bf_q (n : Nat) (A : Nat → Nat) (x p : Nat) : Bool := !(mr_rs n A (lc_d x) p)
theorem bf_D_cg {n : Nat} {A : Nat → Nat} {mo tr mo' tr' : Nat → Nat} {a : Nat} (D : bf_D n A mo tr a) (ht : ∀ i, i < a → tr' i = tr i) (hm : ∀ x, mo x ≠ 0 → mo' x = mo x) (hm2 : ∀ i, i < a → mo (tr i) ≠ 0) : bf_D n A mo' tr' a := by
  intro i hi
  obtain ⟨d1, d2⟩ := D i hi
  rw [ht i hi]
  refine ⟨d1, fun p hp => ?_⟩
  obtain ⟨e1, e2⟩ := d2 p hp
  rw [hm _ e1, hm _ (hm2 i hi)]
  exact ⟨e1, e2⟩
set_option maxRecDepth 20000 in
theorem sw_in {l : Launch} {d : Nat} (hd : 2 < d) {E : mm_X} {post : mm_Po} {h0 : mm_H} {n : Nat} {A mk : Nat → Nat} (hN : cc_N h0 n A mk) (n5 : n ≤ 5) {st a s : Nat}
    (hx : ∀ (mo tr : Nat → Nat) (met : Nat) (h : mm_H) (x6 : Option Value), bf_J n A st mo tr met → bf_D n A mo tr a → a < met → tr a = s → (∀ j, j < met → mo (tr j) ≤ mo s + 1) → (∀ p, p < n → mo (lc_b n A s p) ≠ 0 ∧ mo (lc_b n A s p) ≤ mo s + 1) → bf_h n mo tr met h0 h → mm_At l d M1_shortestWay E post 148 [some (.ref 9), some (.int (nI met)), some (.int (nI a)), some (.int (nI s)), some (.int (pp_b (pp_all (bf_q n A s) n))), some (.int (nI n)), x6] [] h) :
    ∀ (k p : Nat), p + k = n → ∀ (mo tr : Nat → Nat) (met : Nat) (h : mm_H) (x6 : Option Value), bf_J n A st mo tr met → bf_D n A mo tr a → a < met → tr a = s → (∀ j, j < met → mo (tr j) ≤ mo s + 1) → (∀ p', p' < p → mo (lc_b n A s p') ≠ 0 ∧ mo (lc_b n A s p') ≤ mo s + 1) → bf_h n mo tr met h0 h → mm_At l d M1_shortestWay E post 59 [some (.ref 9), some (.int (nI met)), some (.int (nI a)), some (.int (nI s)), some (.int (pp_b (pp_all (bf_q n A s) p))), some (.int (nI p)), x6] [] h := by
  have N5 := pp_5 n5
  intro k
  induction k with
  | zero =>
    intro p hp mo tr met h x6 J D ha hs hB hQ hh
    have e : p = n := by omega
    subst e
    have hn : h 1 3 = nI p := by rw [hh.2.2 1 (by decide) (by decide) (by decide) (by decide)]; exact hN.2.2.1
    refine mm_rn_ok [148] _ (S1_shortestWay l d _ _) 1000 _ _ _ _ ?_
    simp only [G1_shortestWay_0, G1_shortestWay_1, G1_shortestWay_4, G1_shortestWay_5, G1_shortestWay_8, G1_shortestWay_9, G1_shortestWay_10, G1_shortestWay_11, G1_shortestWay_14, G1_shortestWay_15, G1_shortestWay_16, G1_shortestWay_19, G1_shortestWay_20, G1_shortestWay_21, G1_shortestWay_24, G1_shortestWay_25, G1_shortestWay_28, G1_shortestWay_29, G1_shortestWay_30, G1_shortestWay_31, G1_shortestWay_32, G1_shortestWay_33, G1_shortestWay_34, G1_shortestWay_35, G1_shortestWay_36, G1_shortestWay_39, G1_shortestWay_40, G1_shortestWay_43, G1_shortestWay_46, G1_shortestWay_47, G1_shortestWay_50, G1_shortestWay_51, G1_shortestWay_52, G1_shortestWay_53, G1_shortestWay_54, G1_shortestWay_56, G1_shortestWay_57, G1_shortestWay_59, G1_shortestWay_61, G1_shortestWay_62, G1_shortestWay_65, G1_shortestWay_68, G1_shortestWay_71, G1_shortestWay_72, G1_shortestWay_73, G1_shortestWay_75, G1_shortestWay_78, G1_shortestWay_80, G1_shortestWay_82, G1_shortestWay_85, G1_shortestWay_87, G1_shortestWay_88, G1_shortestWay_91, G1_shortestWay_92, G1_shortestWay_95, G1_shortestWay_96, G1_shortestWay_98, G1_shortestWay_99, G1_shortestWay_102, G1_shortestWay_104, G1_shortestWay_105, G1_shortestWay_106, G1_shortestWay_109, G1_shortestWay_110, G1_shortestWay_113, G1_shortestWay_116, G1_shortestWay_117, G1_shortestWay_120, G1_shortestWay_122, G1_shortestWay_123, G1_shortestWay_126, G1_shortestWay_127, G1_shortestWay_128, G1_shortestWay_129, G1_shortestWay_130, G1_shortestWay_131, G1_shortestWay_132, G1_shortestWay_135, G1_shortestWay_136, G1_shortestWay_138, G1_shortestWay_139, G1_shortestWay_142, G1_shortestWay_145, G1_shortestWay_148, G1_shortestWay_150, G1_shortestWay_153, G1_shortestWay_154, G1_shortestWay_157, G1_shortestWay_158, G1_shortestWay_159, G1_shortestWay_160, G1_shortestWay_163, G1_shortestWay_166, G1_shortestWay_167, N1_shortestWay, ↓mm_kc_ap, ↓mm_cut, mm_en, mm_nth, mm_put, mm_sto, mm_stoL, mm_ag, mm_dr, mm_sw, Nat.reduceSub, List.replicate, Option.toList, List.cons_append, List.nil_append, sq_int, sq_lng, sq_iload, sq_lload, sq_aload, sq_istore, sq_lstore, sq_astore, sq_iinc, sq_iadd, sq_isub, sq_imul, sq_iand, sq_ior, sq_ixor, sq_ishl, sq_ishr, sq_iushr, sq_ladd, sq_lsub, sq_lmul, sq_idiv, sq_irem, sq_ldiv, sq_lrem, sq_i2l, sq_lcmp, sq_dupI, sq_dupR, sq_pop, sq_dup2, sq_goto, sq_if_eq, sq_icmp_eq, sq_if_ne, sq_icmp_ne, sq_if_lt, sq_icmp_lt, sq_if_ge, sq_icmp_ge, sq_if_gt, sq_icmp_gt, sq_if_le, sq_icmp_le, sq_iaload, sq_iastore, sq_alen, sq_places, sq_getI, sq_getR, sq_put, sq_ret, sq_lret, sq_vret, sq_switch, sq_callS, sq_callV, sq_copy, sq_max, sq_min, mm_len_2, mm_len_3, mm_len_4, mm_len_6, mm_len_8, mm_len_10, mm_len_11, mm_len_12, mm_len_13, mm_len_14, mm_len_15, mm_len_17, mm_len_18, mm_len_19, mm_len_20, mm_len_21, mm_len_22, mm_len_23, mm_len_24, mm_len_25]
    try simp only [eq_self, true_and, and_true, Bool.false_eq_true, false_implies, true_implies, true_or, or_true, mm_numI, mm_numL, mm_numN, pp_i10, pp_i01, pp_im1, not_false_eq_true, not_true_eq_false, false_or, or_false]
    rw [hn]
    exact ⟨fun _ => hx mo tr met h _ J D ha hs hB hQ hh, fun hc => absurd (nI_le (Nat.le_refl _) (by omega)) hc⟩
  | succ k ih =>
    intro p hp mo tr met h x6 J D ha hs hB hQ hh
    have hpn : p < n := by omega
    have J' := J
    obtain ⟨j1, j2, j3, ⟨j4, j5, j6⟩, j7⟩ := J
    obtain ⟨g1, g2, g4⟩ := hh
    obtain ⟨a1, a2, a3, a4⟩ := j1 a ha
    rw [hs] at a1 a2 a3
    have hmN : met ≤ 5 ^ n := Nat.le_trans j7 (pp_cnt_le _ _)
    have hn : h 1 3 = nI n := by rw [g4 1 (by decide) (by decide) (by decide) (by decide)]; exact hN.2.2.1
    have N1 : cc_N h n A mk := hN.cg (g4 1 (by decide) (by decide) (by decide) (by decide)) (g4 2 (by decide) (by decide) (by decide) (by decide)) (g4 3 (by decide) (by decide) (by decide) (by decide))
    have is : vp_in (nI s) 3125 := vp_in_nI (by omega) (by decide)
    have hb5 := lc_b_lt n A s p
    have ib : vp_in (nI (lc_b n A s p)) 3125 := vp_in_nI (by omega) (by decide)
    have im : met < 3125 → vp_in (nI met) 3125 := fun z => vp_in_nI z (by decide)
    have eq2 : bf_q n A s p = decide (lc_b n A s p = s) := by
      unfold bf_q
      have := lc_b_self (A := A) a1 hpn
      cases hr : mr_rs n A (lc_d s) p with
      | true => rw [decide_eq_false (fun z => (this.mp z) hr)]; rfl
      | false => rw [decide_eq_true (this.mpr (by rw [hr]; exact Bool.false_ne_true))]; rfl
    refine mm_rn_ok [148, 98] _ (S1_shortestWay l d _ _) 1000 _ _ _ _ ?_
    simp only [G1_shortestWay_0, G1_shortestWay_1, G1_shortestWay_4, G1_shortestWay_5, G1_shortestWay_8, G1_shortestWay_9, G1_shortestWay_10, G1_shortestWay_11, G1_shortestWay_14, G1_shortestWay_15, G1_shortestWay_16, G1_shortestWay_19, G1_shortestWay_20, G1_shortestWay_21, G1_shortestWay_24, G1_shortestWay_25, G1_shortestWay_28, G1_shortestWay_29, G1_shortestWay_30, G1_shortestWay_31, G1_shortestWay_32, G1_shortestWay_33, G1_shortestWay_34, G1_shortestWay_35, G1_shortestWay_36, G1_shortestWay_39, G1_shortestWay_40, G1_shortestWay_43, G1_shortestWay_46, G1_shortestWay_47, G1_shortestWay_50, G1_shortestWay_51, G1_shortestWay_52, G1_shortestWay_53, G1_shortestWay_54, G1_shortestWay_56, G1_shortestWay_57, G1_shortestWay_59, G1_shortestWay_61, G1_shortestWay_62, G1_shortestWay_65, G1_shortestWay_68, G1_shortestWay_71, G1_shortestWay_72, G1_shortestWay_73, G1_shortestWay_75, G1_shortestWay_78, G1_shortestWay_80, G1_shortestWay_82, G1_shortestWay_85, G1_shortestWay_87, G1_shortestWay_88, G1_shortestWay_91, G1_shortestWay_92, G1_shortestWay_95, G1_shortestWay_96, G1_shortestWay_98, G1_shortestWay_99, G1_shortestWay_102, G1_shortestWay_104, G1_shortestWay_105, G1_shortestWay_106, G1_shortestWay_109, G1_shortestWay_110, G1_shortestWay_113, G1_shortestWay_116, G1_shortestWay_117, G1_shortestWay_120, G1_shortestWay_122, G1_shortestWay_123, G1_shortestWay_126, G1_shortestWay_127, G1_shortestWay_128, G1_shortestWay_129, G1_shortestWay_130, G1_shortestWay_131, G1_shortestWay_132, G1_shortestWay_135, G1_shortestWay_136, G1_shortestWay_138, G1_shortestWay_139, G1_shortestWay_142, G1_shortestWay_145, G1_shortestWay_148, G1_shortestWay_150, G1_shortestWay_153, G1_shortestWay_154, G1_shortestWay_157, G1_shortestWay_158, G1_shortestWay_159, G1_shortestWay_160, G1_shortestWay_163, G1_shortestWay_166, G1_shortestWay_167, N1_shortestWay, ↓mm_kc_ap, ↓mm_cut, mm_en, mm_nth, mm_put, mm_sto, mm_stoL, mm_ag, mm_dr, mm_sw, Nat.reduceSub, List.replicate, Option.toList, List.cons_append, List.nil_append, sq_int, sq_lng, sq_iload, sq_lload, sq_aload, sq_istore, sq_lstore, sq_astore, sq_iinc, sq_iadd, sq_isub, sq_imul, sq_iand, sq_ior, sq_ixor, sq_ishl, sq_ishr, sq_iushr, sq_ladd, sq_lsub, sq_lmul, sq_idiv, sq_irem, sq_ldiv, sq_lrem, sq_i2l, sq_lcmp, sq_dupI, sq_dupR, sq_pop, sq_dup2, sq_goto, sq_if_eq, sq_icmp_eq, sq_if_ne, sq_icmp_ne, sq_if_lt, sq_icmp_lt, sq_if_ge, sq_icmp_ge, sq_if_gt, sq_icmp_gt, sq_if_le, sq_icmp_le, sq_iaload, sq_iastore, sq_alen, sq_places, sq_getI, sq_getR, sq_put, sq_ret, sq_lret, sq_vret, sq_switch, sq_callS, sq_callV, sq_copy, sq_max, sq_min, mm_len_2, mm_len_3, mm_len_4, mm_len_6, mm_len_8, mm_len_10, mm_len_11, mm_len_12, mm_len_13, mm_len_14, mm_len_15, mm_len_17, mm_len_18, mm_len_19, mm_len_20, mm_len_21, mm_len_22, mm_len_23, mm_len_24, mm_len_25]
    try simp only [eq_self, true_and, and_true, Bool.false_eq_true, false_implies, true_implies, true_or, or_true, mm_numI, mm_numL, mm_numN, pp_i10, pp_i01, pp_im1, not_false_eq_true, not_true_eq_false, false_or, or_false]
    rw [hn]
    refine ⟨fun hc => absurd hc (nI_ge (by omega) (by omega)), fun _ => ⟨2, _, hd, t_stateBehind (by decide) N1 n5 a1 hpn, rfl, ?_⟩⟩
    rintro _ h' ⟨rfl, hX⟩
    have hh' : bf_h n mo tr met h0 h' := ⟨fun x hx1 => by rw [hX 12 (by decide)]; exact g1 x hx1, fun i hi => by rw [hX 14 (by decide)]; exact g2 i hi, fun c c1 c2 c3 c4 => by rw [hX c c1]; exact g4 c c1 c2 c3 c4⟩
    have at98 : mm_At l d M1_shortestWay E post 98 [some (.ref 9), some (.int (nI met)), some (.int (nI a)), some (.int (nI s)), some (.int (pp_b (pp_all (bf_q n A s) (p + 1)))), some (.int (nI p)), some (.int (nI (lc_b n A s p)))] [] h' := by
      have e12 : h' 12 (lc_b n A s p) = dn_i (mo (lc_b n A s p)) := hh'.1 _ hb5
      have e12s : h' 12 s = dn_i (mo s) := hh'.1 _ a1
      obtain ⟨m0, hm0⟩ : ∃ m0, mo s = m0 + 1 := ⟨mo s - 1, by omega⟩
      have hle : mo (lc_b n A s p) < 2 ^ 31 := by
        by_cases hc : mo (lc_b n A s p) = 0
        · rw [hc]; decide
        · obtain ⟨i, i1, i2⟩ := j2 _ hb5 hc
          have := (j1 i i1).2.2.1
          rw [i2] at this
          omega
      refine mm_rn_ok [] _ (S1_shortestWay l d _ _) 1000 _ _ _ _ ?_
      simp only [G1_shortestWay_0, G1_shortestWay_1, G1_shortestWay_4, G1_shortestWay_5, G1_shortestWay_8, G1_shortestWay_9, G1_shortestWay_10, G1_shortestWay_11, G1_shortestWay_14, G1_shortestWay_15, G1_shortestWay_16, G1_shortestWay_19, G1_shortestWay_20, G1_shortestWay_21, G1_shortestWay_24, G1_shortestWay_25, G1_shortestWay_28, G1_shortestWay_29, G1_shortestWay_30, G1_shortestWay_31, G1_shortestWay_32, G1_shortestWay_33, G1_shortestWay_34, G1_shortestWay_35, G1_shortestWay_36, G1_shortestWay_39, G1_shortestWay_40, G1_shortestWay_43, G1_shortestWay_46, G1_shortestWay_47, G1_shortestWay_50, G1_shortestWay_51, G1_shortestWay_52, G1_shortestWay_53, G1_shortestWay_54, G1_shortestWay_56, G1_shortestWay_57, G1_shortestWay_59, G1_shortestWay_61, G1_shortestWay_62, G1_shortestWay_65, G1_shortestWay_68, G1_shortestWay_71, G1_shortestWay_72, G1_shortestWay_73, G1_shortestWay_75, G1_shortestWay_78, G1_shortestWay_80, G1_shortestWay_82, G1_shortestWay_85, G1_shortestWay_87, G1_shortestWay_88, G1_shortestWay_91, G1_shortestWay_92, G1_shortestWay_95, G1_shortestWay_96, G1_shortestWay_98, G1_shortestWay_99, G1_shortestWay_102, G1_shortestWay_104, G1_shortestWay_105, G1_shortestWay_106, G1_shortestWay_109, G1_shortestWay_110, G1_shortestWay_113, G1_shortestWay_116, G1_shortestWay_117, G1_shortestWay_120, G1_shortestWay_122, G1_shortestWay_123, G1_shortestWay_126, G1_shortestWay_127, G1_shortestWay_128, G1_shortestWay_129, G1_shortestWay_130, G1_shortestWay_131, G1_shortestWay_132, G1_shortestWay_135, G1_shortestWay_136, G1_shortestWay_138, G1_shortestWay_139, G1_shortestWay_142, G1_shortestWay_145, G1_shortestWay_148, G1_shortestWay_150, G1_shortestWay_153, G1_shortestWay_154, G1_shortestWay_157, G1_shortestWay_158, G1_shortestWay_159, G1_shortestWay_160, G1_shortestWay_163, G1_shortestWay_166, G1_shortestWay_167, N1_shortestWay, ↓mm_kc_ap, ↓mm_cut, mm_en, mm_nth, mm_put, mm_sto, mm_stoL, mm_ag, mm_dr, mm_sw, Nat.reduceSub, List.replicate, Option.toList, List.cons_append, List.nil_append, sq_int, sq_lng, sq_iload, sq_lload, sq_aload, sq_istore, sq_lstore, sq_astore, sq_iinc, sq_iadd, sq_isub, sq_imul, sq_iand, sq_ior, sq_ixor, sq_ishl, sq_ishr, sq_iushr, sq_ladd, sq_lsub, sq_lmul, sq_idiv, sq_irem, sq_ldiv, sq_lrem, sq_i2l, sq_lcmp, sq_dupI, sq_dupR, sq_pop, sq_dup2, sq_goto, sq_if_eq, sq_icmp_eq, sq_if_ne, sq_icmp_ne, sq_if_lt, sq_icmp_lt, sq_if_ge, sq_icmp_ge, sq_if_gt, sq_icmp_gt, sq_if_le, sq_icmp_le, sq_iaload, sq_iastore, sq_alen, sq_places, sq_getI, sq_getR, sq_put, sq_ret, sq_lret, sq_vret, sq_switch, sq_callS, sq_callV, sq_copy, sq_max, sq_min, mm_len_2, mm_len_3, mm_len_4, mm_len_6, mm_len_8, mm_len_10, mm_len_11, mm_len_12, mm_len_13, mm_len_14, mm_len_15, mm_len_17, mm_len_18, mm_len_19, mm_len_20, mm_len_21, mm_len_22, mm_len_23, mm_len_24, mm_len_25]
      try simp only [eq_self, true_and, and_true, Bool.false_eq_true, false_implies, true_implies, true_or, or_true, mm_numI, mm_numL, mm_numN, pp_i10, pp_i01, pp_im1, not_false_eq_true, not_true_eq_false, false_or, or_false]
      rw [nI_clamp (show lc_b n A s p < 2 ^ 31 by omega), nI_clamp (show s < 2 ^ 31 by omega), nI_clamp (show met < 2 ^ 31 by omega), e12, e12s, dn_i_m1 hle, dn_i_nI hm0, nI_1 m0, nI_1 p, nI_1 met]
      refine ⟨ib, fun hne => ?_, fun h0y => ?_⟩
      · refine ih (p + 1) (by omega) mo tr met h' _ J' D ha hs hB (fun p' hp' => ?_) hh'
        by_cases e : p' = p
        · subst e
          obtain ⟨i, i1, i2⟩ := j2 _ hb5 hne
          have := hB i i1
          rw [i2] at this
          exact ⟨hne, this⟩
        · exact hQ p' (by omega)
      · have hcl := df_c_lt h0y hb5
        refine ⟨fun z => absurd z (nI_ge (b := 3125) (by omega) (by decide)), fun _ => ⟨is, by decide, ib, by decide, im (by omega), ?_⟩⟩
        have hJ := bf_J_new n5 J' ha (by rw [hs]; exact hB) hpn (by rw [hs]; exact h0y)
        rw [hs] at hJ
        generalize hy : lc_b n A s p = y at hb5 h0y hJ e12 hle ⊢
        have hsy : s ≠ y := fun z => a2 (by rw [z]; exact h0y)
        have ney : ∀ i, i < met → tr i ≠ y := fun i hi e => (j1 i hi).2.1 (by rw [e]; exact h0y)
        have moo : ∀ x, mo x ≠ 0 → ss_up mo y (mo s + 1) x = mo x := fun x hx1 => ss_up_n (fun z => hx1 (by rw [z]; exact h0y))
        refine ih (p + 1) (by omega) (ss_up mo y (mo s + 1)) (ss_up tr met y) (met + 1) _ _ hJ (bf_D_cg D (fun i hi => ss_up_n (by omega)) moo (fun i hi => (j1 i (by omega)).2.1)) (by omega) (by rw [ss_up_n (by omega)]; exact hs) (fun j hj => ?_) (fun p' hp' => ?_) ⟨fun x hx1 => ?_, fun i hi => ?_, fun c c1 c2 c3 c4 => ?_⟩
        · rw [moo s a2]
          by_cases e : j = met
          · rw [e, ss_up_s, ss_up_s]; exact Nat.le_refl _
          · rw [ss_up_n e, moo _ (j1 j (by omega)).2.1]
            exact hB j (by omega)
        · rw [moo s a2]
          by_cases e : p' = p
          · rw [e, hy, ss_up_s]
            exact ⟨by omega, Nat.le_refl _⟩
          · obtain ⟨q1, q2⟩ := hQ p' (by omega)
            rw [moo _ q1]
            exact ⟨q1, q2⟩
        · rw [mm_set_ne (by decide)]
          by_cases e : x = y
          · rw [e, mm_set_same, ss_up_s, hm0]; rfl
          · rw [mm_set_other e, ss_up_n e]
            exact hh'.1 x hx1
        · by_cases e : i = met
          · rw [e, mm_set_same, ss_up_s]
          · rw [mm_set_other e, ss_up_n e, mm_set_ne (by decide)]
            exact hh'.2.1 i (by omega)
        · rw [mm_set_ne c4, mm_set_ne c2]
          exact hh'.2.2 c c1 c2 c3 c4
    rw [pp_all_s, eq2] at at98
    simp only [G1_shortestWay_0, G1_shortestWay_1, G1_shortestWay_4, G1_shortestWay_5, G1_shortestWay_8, G1_shortestWay_9, G1_shortestWay_10, G1_shortestWay_11, G1_shortestWay_14, G1_shortestWay_15, G1_shortestWay_16, G1_shortestWay_19, G1_shortestWay_20, G1_shortestWay_21, G1_shortestWay_24, G1_shortestWay_25, G1_shortestWay_28, G1_shortestWay_29, G1_shortestWay_30, G1_shortestWay_31, G1_shortestWay_32, G1_shortestWay_33, G1_shortestWay_34, G1_shortestWay_35, G1_shortestWay_36, G1_shortestWay_39, G1_shortestWay_40, G1_shortestWay_43, G1_shortestWay_46, G1_shortestWay_47, G1_shortestWay_50, G1_shortestWay_51, G1_shortestWay_52, G1_shortestWay_53, G1_shortestWay_54, G1_shortestWay_56, G1_shortestWay_57, G1_shortestWay_59, G1_shortestWay_61, G1_shortestWay_62, G1_shortestWay_65, G1_shortestWay_68, G1_shortestWay_71, G1_shortestWay_72, G1_shortestWay_73, G1_shortestWay_75, G1_shortestWay_78, G1_shortestWay_80, G1_shortestWay_82, G1_shortestWay_85, G1_shortestWay_87, G1_shortestWay_88, G1_shortestWay_91, G1_shortestWay_92, G1_shortestWay_95, G1_shortestWay_96, G1_shortestWay_98, G1_shortestWay_99, G1_shortestWay_102, G1_shortestWay_104, G1_shortestWay_105, G1_shortestWay_106, G1_shortestWay_109, G1_shortestWay_110, G1_shortestWay_113, G1_shortestWay_116, G1_shortestWay_117, G1_shortestWay_120, G1_shortestWay_122, G1_shortestWay_123, G1_shortestWay_126, G1_shortestWay_127, G1_shortestWay_128, G1_shortestWay_129, G1_shortestWay_130, G1_shortestWay_131, G1_shortestWay_132, G1_shortestWay_135, G1_shortestWay_136, G1_shortestWay_138, G1_shortestWay_139, G1_shortestWay_142, G1_shortestWay_145, G1_shortestWay_148, G1_shortestWay_150, G1_shortestWay_153, G1_shortestWay_154, G1_shortestWay_157, G1_shortestWay_158, G1_shortestWay_159, G1_shortestWay_160, G1_shortestWay_163, G1_shortestWay_166, G1_shortestWay_167, N1_shortestWay, ↓mm_kc_ap, ↓mm_cut, mm_en, mm_nth, mm_put, mm_sto, mm_stoL, mm_ag, mm_dr, mm_sw, Nat.reduceSub, List.replicate, Option.toList, List.cons_append, List.nil_append, sq_int, sq_lng, sq_iload, sq_lload, sq_aload, sq_istore, sq_lstore, sq_astore, sq_iinc, sq_iadd, sq_isub, sq_imul, sq_iand, sq_ior, sq_ixor, sq_ishl, sq_ishr, sq_iushr, sq_ladd, sq_lsub, sq_lmul, sq_idiv, sq_irem, sq_ldiv, sq_lrem, sq_i2l, sq_lcmp, sq_dupI, sq_dupR, sq_pop, sq_dup2, sq_goto, sq_if_eq, sq_icmp_eq, sq_if_ne, sq_icmp_ne, sq_if_lt, sq_icmp_lt, sq_if_ge, sq_icmp_ge, sq_if_gt, sq_icmp_gt, sq_if_le, sq_icmp_le, sq_iaload, sq_iastore, sq_alen, sq_places, sq_getI, sq_getR, sq_put, sq_ret, sq_lret, sq_vret, sq_switch, sq_callS, sq_callV, sq_copy, sq_max, sq_min, mm_len_2, mm_len_3, mm_len_4, mm_len_6, mm_len_8, mm_len_10, mm_len_11, mm_len_12, mm_len_13, mm_len_14, mm_len_15, mm_len_17, mm_len_18, mm_len_19, mm_len_20, mm_len_21, mm_len_22, mm_len_23, mm_len_24, mm_len_25]
    try simp only [eq_self, true_and, and_true, Bool.false_eq_true, false_implies, true_implies, true_or, or_true, mm_numI, mm_numL, mm_numN, pp_i10, pp_i01, pp_im1, not_false_eq_true, not_true_eq_false, false_or, or_false]
    rw [pp_bne, pp_beq, pp_eqN (show lc_b n A s p < 2 ^ 31 by omega) (show s < 2 ^ 31 by omega)]
    refine ⟨fun hb => ?_, fun hb => ⟨fun hne => ?_, fun he => ?_⟩⟩
    · rw [hb, Bool.false_and] at at98
      exact at98
    · rw [decide_eq_false hne, Bool.and_false] at at98
      exact at98
    · rw [hb, decide_eq_true he] at at98
      exact at98
set_option maxRecDepth 20000 in
theorem sw_out {l : Launch} {d : Nat} (hd : 2 < d) {E : mm_X} {h0 : mm_H} {n : Nat} {A mk : Nat → Nat} (hN : cc_N h0 n A mk) (n5 : n ≤ 5) {st : Nat} : ∀ (k a : Nat), a + k = 5 ^ n + 1 → ∀ (mo tr : Nat → Nat) (met : Nat) (h : mm_H) (x3 x4 x5 x6 : Option Value), bf_J n A st mo tr met → bf_D n A mo tr a → (a < met → ∀ j, j < met → mo (tr j) ≤ mo (tr a) + 1) → bf_h n mo tr met h0 h → mm_At l d M1_shortestWay E (sw_P n A st h0) 34 [some (.ref 9), some (.int (nI met)), some (.int (nI a)), x3, x4, x5, x6] [] h := by
  have N5 := pp_5 n5
  intro k
  induction k with
  | zero =>
    intro a ha mo tr met h x3 x4 x5 x6 J D hB hh
    obtain ⟨i, i1, i2, _⟩ := bf_front0 n5 J D
    have := pp_cnt_le (fun x => decide (mo x ≠ 0)) (5 ^ n)
    have := J.2.2.2.2
    unfold df_c at this
    omega
  | succ k ih =>
    intro a ha mo tr met h x3 x4 x5 x6 J D hB hh
    obtain ⟨i, i1, i2, _⟩ := bf_front0 n5 J D
    have hc1 := pp_cnt_le (fun x => decide (mo x ≠ 0)) (5 ^ n)
    have hc2 := J.2.2.2.2
    unfold df_c at hc2
    have ham : a < met := by omega
    have ts := (J.1 a ham).1
    refine mm_rn_ok [59] _ (S1_shortestWay l d _ _) 1000 _ _ _ _ ?_
    simp only [G1_shortestWay_0, G1_shortestWay_1, G1_shortestWay_4, G1_shortestWay_5, G1_shortestWay_8, G1_shortestWay_9, G1_shortestWay_10, G1_shortestWay_11, G1_shortestWay_14, G1_shortestWay_15, G1_shortestWay_16, G1_shortestWay_19, G1_shortestWay_20, G1_shortestWay_21, G1_shortestWay_24, G1_shortestWay_25, G1_shortestWay_28, G1_shortestWay_29, G1_shortestWay_30, G1_shortestWay_31, G1_shortestWay_32, G1_shortestWay_33, G1_shortestWay_34, G1_shortestWay_35, G1_shortestWay_36, G1_shortestWay_39, G1_shortestWay_40, G1_shortestWay_43, G1_shortestWay_46, G1_shortestWay_47, G1_shortestWay_50, G1_shortestWay_51, G1_shortestWay_52, G1_shortestWay_53, G1_shortestWay_54, G1_shortestWay_56, G1_shortestWay_57, G1_shortestWay_59, G1_shortestWay_61, G1_shortestWay_62, G1_shortestWay_65, G1_shortestWay_68, G1_shortestWay_71, G1_shortestWay_72, G1_shortestWay_73, G1_shortestWay_75, G1_shortestWay_78, G1_shortestWay_80, G1_shortestWay_82, G1_shortestWay_85, G1_shortestWay_87, G1_shortestWay_88, G1_shortestWay_91, G1_shortestWay_92, G1_shortestWay_95, G1_shortestWay_96, G1_shortestWay_98, G1_shortestWay_99, G1_shortestWay_102, G1_shortestWay_104, G1_shortestWay_105, G1_shortestWay_106, G1_shortestWay_109, G1_shortestWay_110, G1_shortestWay_113, G1_shortestWay_116, G1_shortestWay_117, G1_shortestWay_120, G1_shortestWay_122, G1_shortestWay_123, G1_shortestWay_126, G1_shortestWay_127, G1_shortestWay_128, G1_shortestWay_129, G1_shortestWay_130, G1_shortestWay_131, G1_shortestWay_132, G1_shortestWay_135, G1_shortestWay_136, G1_shortestWay_138, G1_shortestWay_139, G1_shortestWay_142, G1_shortestWay_145, G1_shortestWay_148, G1_shortestWay_150, G1_shortestWay_153, G1_shortestWay_154, G1_shortestWay_157, G1_shortestWay_158, G1_shortestWay_159, G1_shortestWay_160, G1_shortestWay_163, G1_shortestWay_166, G1_shortestWay_167, N1_shortestWay, ↓mm_kc_ap, ↓mm_cut, mm_en, mm_nth, mm_put, mm_sto, mm_stoL, mm_ag, mm_dr, mm_sw, Nat.reduceSub, List.replicate, Option.toList, List.cons_append, List.nil_append, sq_int, sq_lng, sq_iload, sq_lload, sq_aload, sq_istore, sq_lstore, sq_astore, sq_iinc, sq_iadd, sq_isub, sq_imul, sq_iand, sq_ior, sq_ixor, sq_ishl, sq_ishr, sq_iushr, sq_ladd, sq_lsub, sq_lmul, sq_idiv, sq_irem, sq_ldiv, sq_lrem, sq_i2l, sq_lcmp, sq_dupI, sq_dupR, sq_pop, sq_dup2, sq_goto, sq_if_eq, sq_icmp_eq, sq_if_ne, sq_icmp_ne, sq_if_lt, sq_icmp_lt, sq_if_ge, sq_icmp_ge, sq_if_gt, sq_icmp_gt, sq_if_le, sq_icmp_le, sq_iaload, sq_iastore, sq_alen, sq_places, sq_getI, sq_getR, sq_put, sq_ret, sq_lret, sq_vret, sq_switch, sq_callS, sq_callV, sq_copy, sq_max, sq_min, mm_len_2, mm_len_3, mm_len_4, mm_len_6, mm_len_8, mm_len_10, mm_len_11, mm_len_12, mm_len_13, mm_len_14, mm_len_15, mm_len_17, mm_len_18, mm_len_19, mm_len_20, mm_len_21, mm_len_22, mm_len_23, mm_len_24, mm_len_25]
    try simp only [eq_self, true_and, and_true, Bool.false_eq_true, false_implies, true_implies, true_or, or_true, mm_numI, mm_numL, mm_numN, pp_i10, pp_i01, pp_im1, not_false_eq_true, not_true_eq_false, false_or, or_false]
    rw [nI_clamp (show a < 2 ^ 31 by omega), hh.2.1 a ham]
    refine ⟨fun z => absurd z (nI_ge ham (by omega)), fun _ => ⟨fun z => absurd z (nI_ge (b := 3125) (by omega) (by decide)), fun _ => ⟨vp_in_nI (by omega) (by decide), ?_⟩⟩⟩
    refine sw_in hd hN n5 (s := tr a) (fun mo' tr' met' h' y6 J' D' ha' hs' hB' hQ' hh' => ?_) n 0 (by omega) mo tr met h _ J D ham rfl (hB ham) (fun p' hp' => absurd hp' (Nat.not_lt_zero _)) hh
    have hm' := (J'.1 a ha').2
    rw [hs'] at hm'
    obtain ⟨m0, hm0⟩ : ∃ m0, mo' (tr a) = m0 + 1 := ⟨mo' (tr a) - 1, by omega⟩
    refine mm_rn_ok [] _ (S1_shortestWay l d _ _) 1000 _ _ _ _ ?_
    simp only [G1_shortestWay_0, G1_shortestWay_1, G1_shortestWay_4, G1_shortestWay_5, G1_shortestWay_8, G1_shortestWay_9, G1_shortestWay_10, G1_shortestWay_11, G1_shortestWay_14, G1_shortestWay_15, G1_shortestWay_16, G1_shortestWay_19, G1_shortestWay_20, G1_shortestWay_21, G1_shortestWay_24, G1_shortestWay_25, G1_shortestWay_28, G1_shortestWay_29, G1_shortestWay_30, G1_shortestWay_31, G1_shortestWay_32, G1_shortestWay_33, G1_shortestWay_34, G1_shortestWay_35, G1_shortestWay_36, G1_shortestWay_39, G1_shortestWay_40, G1_shortestWay_43, G1_shortestWay_46, G1_shortestWay_47, G1_shortestWay_50, G1_shortestWay_51, G1_shortestWay_52, G1_shortestWay_53, G1_shortestWay_54, G1_shortestWay_56, G1_shortestWay_57, G1_shortestWay_59, G1_shortestWay_61, G1_shortestWay_62, G1_shortestWay_65, G1_shortestWay_68, G1_shortestWay_71, G1_shortestWay_72, G1_shortestWay_73, G1_shortestWay_75, G1_shortestWay_78, G1_shortestWay_80, G1_shortestWay_82, G1_shortestWay_85, G1_shortestWay_87, G1_shortestWay_88, G1_shortestWay_91, G1_shortestWay_92, G1_shortestWay_95, G1_shortestWay_96, G1_shortestWay_98, G1_shortestWay_99, G1_shortestWay_102, G1_shortestWay_104, G1_shortestWay_105, G1_shortestWay_106, G1_shortestWay_109, G1_shortestWay_110, G1_shortestWay_113, G1_shortestWay_116, G1_shortestWay_117, G1_shortestWay_120, G1_shortestWay_122, G1_shortestWay_123, G1_shortestWay_126, G1_shortestWay_127, G1_shortestWay_128, G1_shortestWay_129, G1_shortestWay_130, G1_shortestWay_131, G1_shortestWay_132, G1_shortestWay_135, G1_shortestWay_136, G1_shortestWay_138, G1_shortestWay_139, G1_shortestWay_142, G1_shortestWay_145, G1_shortestWay_148, G1_shortestWay_150, G1_shortestWay_153, G1_shortestWay_154, G1_shortestWay_157, G1_shortestWay_158, G1_shortestWay_159, G1_shortestWay_160, G1_shortestWay_163, G1_shortestWay_166, G1_shortestWay_167, N1_shortestWay, ↓mm_kc_ap, ↓mm_cut, mm_en, mm_nth, mm_put, mm_sto, mm_stoL, mm_ag, mm_dr, mm_sw, Nat.reduceSub, List.replicate, Option.toList, List.cons_append, List.nil_append, sq_int, sq_lng, sq_iload, sq_lload, sq_aload, sq_istore, sq_lstore, sq_astore, sq_iinc, sq_iadd, sq_isub, sq_imul, sq_iand, sq_ior, sq_ixor, sq_ishl, sq_ishr, sq_iushr, sq_ladd, sq_lsub, sq_lmul, sq_idiv, sq_irem, sq_ldiv, sq_lrem, sq_i2l, sq_lcmp, sq_dupI, sq_dupR, sq_pop, sq_dup2, sq_goto, sq_if_eq, sq_icmp_eq, sq_if_ne, sq_icmp_ne, sq_if_lt, sq_icmp_lt, sq_if_ge, sq_icmp_ge, sq_if_gt, sq_icmp_gt, sq_if_le, sq_icmp_le, sq_iaload, sq_iastore, sq_alen, sq_places, sq_getI, sq_getR, sq_put, sq_ret, sq_lret, sq_vret, sq_switch, sq_callS, sq_callV, sq_copy, sq_max, sq_min, mm_len_2, mm_len_3, mm_len_4, mm_len_6, mm_len_8, mm_len_10, mm_len_11, mm_len_12, mm_len_13, mm_len_14, mm_len_15, mm_len_17, mm_len_18, mm_len_19, mm_len_20, mm_len_21, mm_len_22, mm_len_23, mm_len_24, mm_len_25]
    try simp only [eq_self, true_and, and_true, Bool.false_eq_true, false_implies, true_implies, true_or, or_true, mm_numI, mm_numL, mm_numN, pp_i10, pp_i01, pp_im1, not_false_eq_true, not_true_eq_false, false_or, or_false]
    rw [pp_bne, pp_beq, nI_clamp (show tr a < 2 ^ 31 by omega), hh'.1 (tr a) ts, dn_i_nI hm0, nI_1 a]
    refine ⟨fun hb => ?_, fun hb => ?_⟩
    · have hex : ∃ p, p < n ∧ mr_rs n A (lc_d (tr a)) p = true := by
        apply Classical.byContradiction
        intro hno
        have : pp_all (bf_q n A (tr a)) n = true := by
          rw [pp_all_iff]
          intro p hp
          unfold bf_q
          cases hr : mr_rs n A (lc_d (tr a)) p with
          | false => rfl
          | true => exact absurd ⟨p, hp, hr⟩ hno
        rw [hb] at this
        cases this
      refine ih (a + 1) (by omega) mo' tr' met' h' _ _ _ _ J' (fun i hi => ?_) (fun ha2 j hj => ?_) hh'
      · by_cases e : i = a
        · subst e
          rw [hs']
          exact ⟨hex, hQ'⟩
        · exact D' i (by omega)
      · have q1 := hB' j hj
        have q2 := J'.2.2.1 a (a + 1) (by omega) ha2
        rw [hs'] at q2
        omega
    · have hr : ∀ p, p < n → ¬ mr_rs n A (lc_d (tr' a)) p = true := by
        intro p hp hc
        have := pp_all_iff.mp hb p hp
        unfold bf_q at this
        rw [← hs', hc] at this
        cases this
      have he := bf_end n5 J' D' ha' hr
      rw [hs', hm0] at he
      have he : m0 = bf_v n A st := by omega
      rw [he]
      exact ⟨vp_in_nI (by omega) (by decide), rfl, hh'.2.2⟩
set_option maxRecDepth 20000 in
theorem t_shortestWay {l : Launch} {d : Nat} (hd : 2 < d) {h : mm_H} {n : Nat} {A mk ds : Nat → Nat} (hN : cc_N h n A mk) (n5 : n ≤ 5) (hD : mr_D h 10 ds) : mm_Ev l d M1_shortestWay [.ref 9] h (sw_P n A (lc_c ds n) h) := by
  have N5 := pp_5 n5
  have hn := hN.2.2.1
  have hc5 := lc_c_lt hD.2 n
  refine mm_Ev.of (by decide +kernel) (Nat.le_of_ble_eq_true rfl) (mm_rn_ok [34] _ (S1_shortestWay l d _ _) 1000 _ _ _ _ ?_)
  simp only [G1_shortestWay_0, G1_shortestWay_1, G1_shortestWay_4, G1_shortestWay_5, G1_shortestWay_8, G1_shortestWay_9, G1_shortestWay_10, G1_shortestWay_11, G1_shortestWay_14, G1_shortestWay_15, G1_shortestWay_16, G1_shortestWay_19, G1_shortestWay_20, G1_shortestWay_21, G1_shortestWay_24, G1_shortestWay_25, G1_shortestWay_28, G1_shortestWay_29, G1_shortestWay_30, G1_shortestWay_31, G1_shortestWay_32, G1_shortestWay_33, G1_shortestWay_34, G1_shortestWay_35, G1_shortestWay_36, G1_shortestWay_39, G1_shortestWay_40, G1_shortestWay_43, G1_shortestWay_46, G1_shortestWay_47, G1_shortestWay_50, G1_shortestWay_51, G1_shortestWay_52, G1_shortestWay_53, G1_shortestWay_54, G1_shortestWay_56, G1_shortestWay_57, G1_shortestWay_59, G1_shortestWay_61, G1_shortestWay_62, G1_shortestWay_65, G1_shortestWay_68, G1_shortestWay_71, G1_shortestWay_72, G1_shortestWay_73, G1_shortestWay_75, G1_shortestWay_78, G1_shortestWay_80, G1_shortestWay_82, G1_shortestWay_85, G1_shortestWay_87, G1_shortestWay_88, G1_shortestWay_91, G1_shortestWay_92, G1_shortestWay_95, G1_shortestWay_96, G1_shortestWay_98, G1_shortestWay_99, G1_shortestWay_102, G1_shortestWay_104, G1_shortestWay_105, G1_shortestWay_106, G1_shortestWay_109, G1_shortestWay_110, G1_shortestWay_113, G1_shortestWay_116, G1_shortestWay_117, G1_shortestWay_120, G1_shortestWay_122, G1_shortestWay_123, G1_shortestWay_126, G1_shortestWay_127, G1_shortestWay_128, G1_shortestWay_129, G1_shortestWay_130, G1_shortestWay_131, G1_shortestWay_132, G1_shortestWay_135, G1_shortestWay_136, G1_shortestWay_138, G1_shortestWay_139, G1_shortestWay_142, G1_shortestWay_145, G1_shortestWay_148, G1_shortestWay_150, G1_shortestWay_153, G1_shortestWay_154, G1_shortestWay_157, G1_shortestWay_158, G1_shortestWay_159, G1_shortestWay_160, G1_shortestWay_163, G1_shortestWay_166, G1_shortestWay_167, N1_shortestWay, ↓mm_kc_ap, ↓mm_cut, mm_en, mm_nth, mm_put, mm_sto, mm_stoL, mm_ag, mm_dr, mm_sw, Nat.reduceSub, List.replicate, Option.toList, List.cons_append, List.nil_append, sq_int, sq_lng, sq_iload, sq_lload, sq_aload, sq_istore, sq_lstore, sq_astore, sq_iinc, sq_iadd, sq_isub, sq_imul, sq_iand, sq_ior, sq_ixor, sq_ishl, sq_ishr, sq_iushr, sq_ladd, sq_lsub, sq_lmul, sq_idiv, sq_irem, sq_ldiv, sq_lrem, sq_i2l, sq_lcmp, sq_dupI, sq_dupR, sq_pop, sq_dup2, sq_goto, sq_if_eq, sq_icmp_eq, sq_if_ne, sq_icmp_ne, sq_if_lt, sq_icmp_lt, sq_if_ge, sq_icmp_ge, sq_if_gt, sq_icmp_gt, sq_if_le, sq_icmp_le, sq_iaload, sq_iastore, sq_alen, sq_places, sq_getI, sq_getR, sq_put, sq_ret, sq_lret, sq_vret, sq_switch, sq_callS, sq_callV, sq_copy, sq_max, sq_min, mm_len_2, mm_len_3, mm_len_4, mm_len_6, mm_len_8, mm_len_10, mm_len_11, mm_len_12, mm_len_13, mm_len_14, mm_len_15, mm_len_17, mm_len_18, mm_len_19, mm_len_20, mm_len_21, mm_len_22, mm_len_23, mm_len_24, mm_len_25]
  try simp only [eq_self, true_and, and_true, Bool.false_eq_true, false_implies, true_implies, true_or, or_true, mm_numI, mm_numL, mm_numN, pp_i10, pp_i01, pp_im1, not_false_eq_true, not_true_eq_false, false_or, or_false]
  refine ⟨0, _, by omega, t_fill l 0 _ 12 (by decide) (by decide) (by decide) (-1), rfl, rfl, ?_⟩
  rintro _ _ ⟨rfl, rfl⟩
  simp only [G1_shortestWay_0, G1_shortestWay_1, G1_shortestWay_4, G1_shortestWay_5, G1_shortestWay_8, G1_shortestWay_9, G1_shortestWay_10, G1_shortestWay_11, G1_shortestWay_14, G1_shortestWay_15, G1_shortestWay_16, G1_shortestWay_19, G1_shortestWay_20, G1_shortestWay_21, G1_shortestWay_24, G1_shortestWay_25, G1_shortestWay_28, G1_shortestWay_29, G1_shortestWay_30, G1_shortestWay_31, G1_shortestWay_32, G1_shortestWay_33, G1_shortestWay_34, G1_shortestWay_35, G1_shortestWay_36, G1_shortestWay_39, G1_shortestWay_40, G1_shortestWay_43, G1_shortestWay_46, G1_shortestWay_47, G1_shortestWay_50, G1_shortestWay_51, G1_shortestWay_52, G1_shortestWay_53, G1_shortestWay_54, G1_shortestWay_56, G1_shortestWay_57, G1_shortestWay_59, G1_shortestWay_61, G1_shortestWay_62, G1_shortestWay_65, G1_shortestWay_68, G1_shortestWay_71, G1_shortestWay_72, G1_shortestWay_73, G1_shortestWay_75, G1_shortestWay_78, G1_shortestWay_80, G1_shortestWay_82, G1_shortestWay_85, G1_shortestWay_87, G1_shortestWay_88, G1_shortestWay_91, G1_shortestWay_92, G1_shortestWay_95, G1_shortestWay_96, G1_shortestWay_98, G1_shortestWay_99, G1_shortestWay_102, G1_shortestWay_104, G1_shortestWay_105, G1_shortestWay_106, G1_shortestWay_109, G1_shortestWay_110, G1_shortestWay_113, G1_shortestWay_116, G1_shortestWay_117, G1_shortestWay_120, G1_shortestWay_122, G1_shortestWay_123, G1_shortestWay_126, G1_shortestWay_127, G1_shortestWay_128, G1_shortestWay_129, G1_shortestWay_130, G1_shortestWay_131, G1_shortestWay_132, G1_shortestWay_135, G1_shortestWay_136, G1_shortestWay_138, G1_shortestWay_139, G1_shortestWay_142, G1_shortestWay_145, G1_shortestWay_148, G1_shortestWay_150, G1_shortestWay_153, G1_shortestWay_154, G1_shortestWay_157, G1_shortestWay_158, G1_shortestWay_159, G1_shortestWay_160, G1_shortestWay_163, G1_shortestWay_166, G1_shortestWay_167, N1_shortestWay, ↓mm_kc_ap, ↓mm_cut, mm_en, mm_nth, mm_put, mm_sto, mm_stoL, mm_ag, mm_dr, mm_sw, Nat.reduceSub, List.replicate, Option.toList, List.cons_append, List.nil_append, sq_int, sq_lng, sq_iload, sq_lload, sq_aload, sq_istore, sq_lstore, sq_astore, sq_iinc, sq_iadd, sq_isub, sq_imul, sq_iand, sq_ior, sq_ixor, sq_ishl, sq_ishr, sq_iushr, sq_ladd, sq_lsub, sq_lmul, sq_idiv, sq_irem, sq_ldiv, sq_lrem, sq_i2l, sq_lcmp, sq_dupI, sq_dupR, sq_pop, sq_dup2, sq_goto, sq_if_eq, sq_icmp_eq, sq_if_ne, sq_icmp_ne, sq_if_lt, sq_icmp_lt, sq_if_ge, sq_icmp_ge, sq_if_gt, sq_icmp_gt, sq_if_le, sq_icmp_le, sq_iaload, sq_iastore, sq_alen, sq_places, sq_getI, sq_getR, sq_put, sq_ret, sq_lret, sq_vret, sq_switch, sq_callS, sq_callV, sq_copy, sq_max, sq_min, mm_len_2, mm_len_3, mm_len_4, mm_len_6, mm_len_8, mm_len_10, mm_len_11, mm_len_12, mm_len_13, mm_len_14, mm_len_15, mm_len_17, mm_len_18, mm_len_19, mm_len_20, mm_len_21, mm_len_22, mm_len_23, mm_len_24, mm_len_25]
  try simp only [eq_self, true_and, and_true, Bool.false_eq_true, false_implies, true_implies, true_or, or_true, mm_numI, mm_numL, mm_numN, pp_i10, pp_i01, pp_im1, not_false_eq_true, not_true_eq_false, false_or, or_false]
  refine ⟨0, _, by omega, t_stateNow (ds := ds) n5 (by rw [mm_setA_ne (by decide)]; exact hn) ⟨by rw [mm_setA_ne (by decide)]; exact hD.1, hD.2⟩, rfl, ?_⟩
  rintro _ _ ⟨rfl, e⟩
  rw [e]
  simp only [G1_shortestWay_0, G1_shortestWay_1, G1_shortestWay_4, G1_shortestWay_5, G1_shortestWay_8, G1_shortestWay_9, G1_shortestWay_10, G1_shortestWay_11, G1_shortestWay_14, G1_shortestWay_15, G1_shortestWay_16, G1_shortestWay_19, G1_shortestWay_20, G1_shortestWay_21, G1_shortestWay_24, G1_shortestWay_25, G1_shortestWay_28, G1_shortestWay_29, G1_shortestWay_30, G1_shortestWay_31, G1_shortestWay_32, G1_shortestWay_33, G1_shortestWay_34, G1_shortestWay_35, G1_shortestWay_36, G1_shortestWay_39, G1_shortestWay_40, G1_shortestWay_43, G1_shortestWay_46, G1_shortestWay_47, G1_shortestWay_50, G1_shortestWay_51, G1_shortestWay_52, G1_shortestWay_53, G1_shortestWay_54, G1_shortestWay_56, G1_shortestWay_57, G1_shortestWay_59, G1_shortestWay_61, G1_shortestWay_62, G1_shortestWay_65, G1_shortestWay_68, G1_shortestWay_71, G1_shortestWay_72, G1_shortestWay_73, G1_shortestWay_75, G1_shortestWay_78, G1_shortestWay_80, G1_shortestWay_82, G1_shortestWay_85, G1_shortestWay_87, G1_shortestWay_88, G1_shortestWay_91, G1_shortestWay_92, G1_shortestWay_95, G1_shortestWay_96, G1_shortestWay_98, G1_shortestWay_99, G1_shortestWay_102, G1_shortestWay_104, G1_shortestWay_105, G1_shortestWay_106, G1_shortestWay_109, G1_shortestWay_110, G1_shortestWay_113, G1_shortestWay_116, G1_shortestWay_117, G1_shortestWay_120, G1_shortestWay_122, G1_shortestWay_123, G1_shortestWay_126, G1_shortestWay_127, G1_shortestWay_128, G1_shortestWay_129, G1_shortestWay_130, G1_shortestWay_131, G1_shortestWay_132, G1_shortestWay_135, G1_shortestWay_136, G1_shortestWay_138, G1_shortestWay_139, G1_shortestWay_142, G1_shortestWay_145, G1_shortestWay_148, G1_shortestWay_150, G1_shortestWay_153, G1_shortestWay_154, G1_shortestWay_157, G1_shortestWay_158, G1_shortestWay_159, G1_shortestWay_160, G1_shortestWay_163, G1_shortestWay_166, G1_shortestWay_167, N1_shortestWay, ↓mm_kc_ap, ↓mm_cut, mm_en, mm_nth, mm_put, mm_sto, mm_stoL, mm_ag, mm_dr, mm_sw, Nat.reduceSub, List.replicate, Option.toList, List.cons_append, List.nil_append, sq_int, sq_lng, sq_iload, sq_lload, sq_aload, sq_istore, sq_lstore, sq_astore, sq_iinc, sq_iadd, sq_isub, sq_imul, sq_iand, sq_ior, sq_ixor, sq_ishl, sq_ishr, sq_iushr, sq_ladd, sq_lsub, sq_lmul, sq_idiv, sq_irem, sq_ldiv, sq_lrem, sq_i2l, sq_lcmp, sq_dupI, sq_dupR, sq_pop, sq_dup2, sq_goto, sq_if_eq, sq_icmp_eq, sq_if_ne, sq_icmp_ne, sq_if_lt, sq_icmp_lt, sq_if_ge, sq_icmp_ge, sq_if_gt, sq_icmp_gt, sq_if_le, sq_icmp_le, sq_iaload, sq_iastore, sq_alen, sq_places, sq_getI, sq_getR, sq_put, sq_ret, sq_lret, sq_vret, sq_switch, sq_callS, sq_callV, sq_copy, sq_max, sq_min, mm_len_2, mm_len_3, mm_len_4, mm_len_6, mm_len_8, mm_len_10, mm_len_11, mm_len_12, mm_len_13, mm_len_14, mm_len_15, mm_len_17, mm_len_18, mm_len_19, mm_len_20, mm_len_21, mm_len_22, mm_len_23, mm_len_24, mm_len_25]
  try simp only [eq_self, true_and, and_true, Bool.false_eq_true, false_implies, true_implies, true_or, or_true, mm_numI, mm_numL, mm_numN, pp_i10, pp_i01, pp_im1, not_false_eq_true, not_true_eq_false, false_or, or_false]
  generalize hst : lc_c ds n = st at hc5 ⊢
  rw [show (0 : Int32).toNatClampNeg = 0 from rfl, mm_set_same, nI_clamp (show st < 2 ^ 31 by omega)]
  have ist : vp_in (nI st) 3125 := vp_in_nI (by omega) (by decide)
  have i0 : vp_in (0 : Int32) 3125 := vp_in_nI (n := 0) (by decide) (by decide)
  refine ⟨by decide, i0, i0, by decide, ist, ?_⟩
  refine sw_out hd hN n5 (5 ^ n + 1) 0 (by omega) (ss_up (fun _ => 0) st 1) (fun _ => st) 1 _ none none none none ⟨fun i hi => ?_, fun x hx h1 => ?_, fun i j hij hj => Nat.le_refl _, ⟨rfl, ss_up_s _ _ _, by decide⟩, ?_⟩ (fun i hi => absurd hi (Nat.not_lt_zero _)) (fun _ j hj => Nat.le_succ _) ⟨fun x hx => ?_, fun i hi => ?_, fun c c1 c2 c3 c4 => ?_⟩
  · dsimp only
    rw [ss_up_s]
    exact ⟨hc5, by decide, by omega, by omega⟩
  · by_cases e : x = st
    · exact ⟨0, by decide, e.symm⟩
    · rw [ss_up_n e] at h1
      exact absurd rfl h1
  · rw [df_c_new rfl (by decide) hc5]
    omega
  · by_cases e : x = st
    · rw [e, mm_set_same, ss_up_s]; rfl
    · rw [mm_set_other e, ss_up_n e, mm_set_ne (by decide), mm_setA_same]
      exact if_pos (by omega)
  · rw [mm_set_ne (by decide), show i = 0 by omega, mm_set_same]
  · rw [mm_set_ne c2, mm_set_ne c4, mm_setA_ne c2]
