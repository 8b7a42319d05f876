/-! ===== the reference: how far posts are ===== -/
def gg_sp (n : Nat) (A : Nat → Nat) (a : Nat) (h : mm_H) : mm_Po := fun r h' => r = none ∧ ∃ g, h' = mm_setA h 21 g ∧ ∀ q, q < n → g q = gg_o (gg_d n A a (n - 1) q)
/-- in the pass for k: posts ahead of p are through, and of p those ahead of q -/
def gg_s (n : Nat) (A : Nat → Nat) (a k p q x : Nat) : Int32 := if gg_r n A a k x = true then gg_o (gg_d n A a k x) else if (pp_any (fun p' => gg_e n A a k p' && (A p').testBit x) p || (decide (x < q) && (gg_e n A a k p && (A p).testBit x))) = true then nI (k + 1) else -1
theorem gg_o_lt {j k : Nat} (hj : j < 2 ^ 31) (hk : k < 2 ^ 31) : gg_o (some j) = nI k ↔ j = k := nI_eq hj hk
theorem pp_m1 {k : Nat} (hk : k < 2 ^ 31) : ¬ (-1 : Int32) = nI k := by
  intro h
  have := congrArg Int32.toInt h
  rw [nI_toInt hk] at this
  have e : (-1 : Int32).toInt = -1 := by decide
  rw [e] at this
  omega
theorem gg_s_is {n : Nat} {A : Nat → Nat} {a k p q x : Nat} (hk : k < 2 ^ 20) : gg_s n A a k p q x = nI k ↔ gg_e n A a k x = true := by
  unfold gg_s
  by_cases hr : gg_r n A a k x = true
  · rw [if_pos hr]
    cases hd : gg_d n A a k x with
    | none => rw [gg_d_iff.1.mp hd] at hr; cases hr
    | some j =>
      have hj := (gg_d_iff.2 j hd).1
      rw [gg_o_lt (by omega) (by omega)]
      unfold gg_e
      rw [decide_eq_true_eq, hd]
      exact ⟨fun e => by rw [e], fun e => Option.some.inj e⟩
  · rw [if_neg hr]
    have he : ¬ gg_e n A a k x = true := by
      intro h
      unfold gg_e at h
      rw [decide_eq_true_eq, gg_d_eq] at h
      exact hr h.2.1
    constructor
    · intro h
      split at h
      · have := (nI_eq (a := k + 1) (b := k) (by omega) (by omega)).mp h
        omega
      · exact absurd h (pp_m1 (by omega))
    · exact fun h => absurd h he
theorem gg_s_m1 {n : Nat} {A : Nat → Nat} {a k p q : Nat} (hk : k < 2 ^ 20) : gg_s n A a k p q q = -1 ↔ gg_r n A a k q = false ∧ pp_any (fun p' => gg_e n A a k p' && (A p').testBit q) p = false := by
  unfold gg_s
  have hqq : decide (q < q) = false := decide_eq_false (Nat.lt_irrefl q)
  rw [hqq, Bool.false_and, Bool.or_false]
  by_cases hr : gg_r n A a k q = true
  · rw [if_pos hr]
    cases hd : gg_d n A a k q with
    | none => rw [gg_d_iff.1.mp hd] at hr; cases hr
    | some j =>
      have hj := (gg_d_iff.2 j hd).1
      constructor
      · intro h
        exact absurd h.symm (pp_m1 (by omega))
      · intro h
        rw [h.1] at hr
        cases hr
  · rw [if_neg hr]
    have hr' : gg_r n A a k q = false := by simpa using hr
    by_cases ha : pp_any (fun p' => gg_e n A a k p' && (A p').testBit q) p = true
    · rw [if_pos ha]
      constructor
      · intro h
        exact absurd h.symm (pp_m1 (by omega))
      · intro h
        rw [h.2] at ha
        cases ha
    · rw [if_neg ha]
      exact ⟨fun _ => ⟨hr', by simpa using ha⟩, fun _ => rfl⟩
/-- nothing is laid at q -/
theorem gg_s_keep {n : Nat} {A : Nat → Nat} {a k p q : Nat} (hk : k < 2 ^ 20) (hn : ¬ (gg_e n A a k p = true ∧ (A p).testBit q = true ∧ gg_s n A a k p q q = -1)) (x : Nat) : gg_s n A a k p (q + 1) x = gg_s n A a k p q x := by
  by_cases hx : x = q
  · subst hx
    rw [gg_s_m1 hk] at hn
    unfold gg_s
    by_cases hr : gg_r n A a k x = true
    · rw [if_pos hr, if_pos hr]
    · rw [if_neg hr, if_neg hr]
      have hr' : gg_r n A a k x = false := by simpa using hr
      have e1 : decide (x < x + 1) = true := decide_eq_true (by omega)
      have e2 : decide (x < x) = false := decide_eq_false (by omega)
      rw [e1, e2, Bool.true_and, Bool.false_and, Bool.or_false]
      cases h1 : pp_any (fun p' => gg_e n A a k p' && (A p').testBit x) p with
      | true => rw [Bool.true_or]
      | false =>
        rw [Bool.false_or]
        cases h2 : gg_e n A a k p with
        | false => rw [Bool.false_and]
        | true =>
          cases h3 : (A p).testBit x with
          | false => rw [Bool.and_false]
          | true => exact absurd ⟨h2, h3, hr', h1⟩ hn
  · unfold gg_s
    have : decide (x < q + 1) = decide (x < q) := decide_eq_decide.mpr (by omega)
    rw [this]
theorem gg_s_put {n : Nat} {A : Nat → Nat} {a k p q : Nat} (hk : k < 2 ^ 20) (h1 : gg_e n A a k p = true) (h2 : (A p).testBit q = true) (h3 : gg_s n A a k p q q = -1) (x : Nat) : gg_s n A a k p (q + 1) x = if x = q then nI (k + 1) else gg_s n A a k p q x := by
  by_cases hx : x = q
  · subst hx
    rw [if_pos rfl]
    rw [gg_s_m1 hk] at h3
    unfold gg_s
    have e1 : decide (x < x + 1) = true := decide_eq_true (by omega)
    rw [if_neg (by rw [h3.1]; exact Bool.false_ne_true), h1, h2, e1, Bool.true_and, Bool.true_and, Bool.or_true, if_pos rfl]
  · rw [if_neg hx]
    unfold gg_s
    have : decide (x < q + 1) = decide (x < q) := decide_eq_decide.mpr (by omega)
    rw [this]
theorem gg_s_row {n : Nat} {A : Nat → Nat} {a k p x : Nat} (hx : x < n) : gg_s n A a k p n x = gg_s n A a k (p + 1) 0 x := by
  unfold gg_s
  have e1 : decide (x < n) = true := decide_eq_true hx
  have e2 : decide (x < 0) = false := decide_eq_false (by omega)
  rw [e1, e2, Bool.true_and, Bool.false_and, Bool.or_false]
  rfl
theorem gg_s_end {n : Nat} {A : Nat → Nat} {a k x : Nat} : gg_s n A a k n 0 x = gg_o (gg_d n A a (k + 1) x) := by
  rw [gg_d_s]
  unfold gg_s
  have e2 : decide (x < 0) = false := decide_eq_false (by omega)
  rw [e2, Bool.false_and, Bool.or_false]
  by_cases hr : gg_r n A a k x = true
  · rw [if_pos hr, if_neg]
    intro h
    rw [(gg_e_s.mp h).1] at hr
    cases hr
  · have hr' : gg_r n A a k x = false := by simpa using hr
    rw [if_neg hr]
    have key : pp_any (fun p' => gg_e n A a k p' && (A p').testBit x) n = true ↔ gg_e n A a (k + 1) x = true := by
      rw [gg_e_s, pp_any_iff]
      constructor
      · rintro ⟨p, hp, h⟩
        rw [Bool.and_eq_true] at h
        exact ⟨hr', p, hp, h⟩
      · rintro ⟨-, p, hp, h⟩
        exact ⟨p, hp, by rw [Bool.and_eq_true]; exact h⟩
    by_cases hc : gg_e n A a (k + 1) x = true
    · rw [if_pos hc, if_pos (key.mpr hc)]
    · rw [if_neg hc, if_neg (fun h => hc (key.mp h)), gg_d_iff.1.mpr hr']
      rfl
theorem gg_s_0 {n : Nat} {A : Nat → Nat} {a k x : Nat} : gg_s n A a k 0 0 x = gg_o (gg_d n A a k x) := by
  unfold gg_s
  have e2 : decide (x < 0) = false := decide_eq_false (by omega)
  rw [e2, Bool.false_and, Bool.or_false]
  by_cases hr : gg_r n A a k x = true
  · rw [if_pos hr]
  · have hr' : gg_r n A a k x = false := by simpa using hr
    rw [if_neg hr, if_neg (by simp [pp_any]), gg_d_iff.1.mpr hr']
    rfl
set_option maxHeartbeats 4000000 in
set_option maxRecDepth 20000 in
theorem t_spread_q {l : Launch} {d : Nat} (hd : 0 < d) {E : mm_X} {post : mm_Po} {h : mm_H} {n : Nat} {A mk : Nat → Nat} (hN : dd_N h n A mk) {a K p : Nat} (hK : K < 2 ^ 20) (hp : p < n) (hx : ∀ g : Nat → Int32, (∀ x, x < n → g x = gg_s n A a K p n x) → mm_At l d M6_spread E post 111 [some (.ref 16), some (.int (nI a)), some (.int (nI K)), some (.int (nI p)), some (.int (nI n))] [] (mm_setA h 21 g)) : ∀ (k q : Nat), q + k = n → ∀ g : Nat → Int32, (∀ x, x < n → g x = gg_s n A a K p q x) → mm_At l d M6_spread E post 55 [some (.ref 16), some (.int (nI a)), some (.int (nI K)), some (.int (nI p)), some (.int (nI q))] [] (mm_setA h 21 g) := by
  have n8 := hN.2.1
  have hn := hN.2.2.1
  intro k
  induction k with
  | zero =>
    intro q hq g hg
    have e : q = n := by omega
    subst e
    refine mm_rn_ok [111] _ (S6_spread l d _ _) 1000 _ _ _ _ ?_
    simp only [G6_spread_0, G6_spread_1, G6_spread_2, G6_spread_3, G6_spread_4, G6_spread_7, G6_spread_10, G6_spread_11, G6_spread_14, G6_spread_15, G6_spread_16, G6_spread_17, G6_spread_20, G6_spread_21, G6_spread_24, G6_spread_25, G6_spread_26, G6_spread_29, G6_spread_32, G6_spread_33, G6_spread_34, G6_spread_35, G6_spread_36, G6_spread_39, G6_spread_42, G6_spread_43, G6_spread_44, G6_spread_45, G6_spread_46, G6_spread_49, G6_spread_52, G6_spread_53, G6_spread_55, G6_spread_57, G6_spread_58, G6_spread_61, G6_spread_64, G6_spread_65, G6_spread_68, G6_spread_69, G6_spread_70, G6_spread_71, G6_spread_74, G6_spread_75, G6_spread_76, G6_spread_78, G6_spread_81, G6_spread_84, G6_spread_85, G6_spread_88, G6_spread_90, G6_spread_91, G6_spread_92, G6_spread_95, G6_spread_96, G6_spread_99, G6_spread_101, G6_spread_102, G6_spread_103, G6_spread_104, G6_spread_105, G6_spread_108, G6_spread_111, G6_spread_114, G6_spread_117, G6_spread_120, G6_spread_123, N6_spread, ↓mm_kc_ap, ↓mm_cut, mm_en, mm_nth, mm_put, mm_sto, mm_stoL, mm_ag, mm_dr, mm_sw, Nat.reduceSub, List.replicate, Option.toList, List.cons_append, List.nil_append, sq_int, sq_lng, sq_iload, sq_lload, sq_aload, sq_istore, sq_lstore, sq_astore, sq_iinc, sq_iadd, sq_isub, sq_imul, sq_iand, sq_ior, sq_ixor, sq_ishl, sq_ishr, sq_iushr, sq_ladd, sq_lsub, sq_lmul, sq_idiv, sq_irem, sq_ldiv, sq_lrem, sq_i2l, sq_lcmp, sq_dupI, sq_dupR, sq_pop, sq_dup2, sq_goto, sq_if_eq, sq_icmp_eq, sq_if_ne, sq_icmp_ne, sq_if_lt, sq_icmp_lt, sq_if_ge, sq_icmp_ge, sq_if_gt, sq_icmp_gt, sq_if_le, sq_icmp_le, sq_iaload, sq_iastore, sq_alen, sq_places, sq_getI, sq_getR, sq_put, sq_ret, sq_lret, sq_vret, sq_switch, sq_callS, sq_callV, sq_copy, sq_max, sq_min, mm_len_2, mm_len_3, mm_len_4, mm_len_6, mm_len_8, mm_len_10, mm_len_11, mm_len_12, mm_len_13, mm_len_14, mm_len_15, mm_len_17, mm_len_18, mm_len_19, mm_len_20, mm_len_21, mm_len_22, mm_len_23, mm_len_24, mm_len_25]
    try simp only [eq_self, true_and, and_true, Bool.false_eq_true, false_implies, true_implies, true_or, or_true, mm_numI, mm_numL, mm_numN, pp_i10, pp_i01, pp_im1, not_false_eq_true, not_true_eq_false, false_or, or_false]
    rw [mm_setA_ne (by decide), hn]
    exact ⟨fun _ => hx g hg, fun hc => absurd (nI_le (Nat.le_refl _) (by omega)) hc⟩
  | succ k ih =>
    intro q hq g hg
    have ih := ih (q + 1) (by omega)
    have keep : ¬ (gg_e n A a K p = true ∧ (A p).testBit q = true ∧ gg_s n A a K p q q = -1) → mm_At l d M6_spread E post 55 [some (.ref 16), some (.int (nI a)), some (.int (nI K)), some (.int (nI p)), some (.int (nI (q + 1)))] [] (mm_setA h 21 g) := fun hc => ih g (fun x hx => by rw [gg_s_keep hK hc]; exact hg x hx)
    refine mm_rn_ok [111] _ (S6_spread l d _ _) 1000 _ _ _ _ ?_
    simp only [G6_spread_0, G6_spread_1, G6_spread_2, G6_spread_3, G6_spread_4, G6_spread_7, G6_spread_10, G6_spread_11, G6_spread_14, G6_spread_15, G6_spread_16, G6_spread_17, G6_spread_20, G6_spread_21, G6_spread_24, G6_spread_25, G6_spread_26, G6_spread_29, G6_spread_32, G6_spread_33, G6_spread_34, G6_spread_35, G6_spread_36, G6_spread_39, G6_spread_42, G6_spread_43, G6_spread_44, G6_spread_45, G6_spread_46, G6_spread_49, G6_spread_52, G6_spread_53, G6_spread_55, G6_spread_57, G6_spread_58, G6_spread_61, G6_spread_64, G6_spread_65, G6_spread_68, G6_spread_69, G6_spread_70, G6_spread_71, G6_spread_74, G6_spread_75, G6_spread_76, G6_spread_78, G6_spread_81, G6_spread_84, G6_spread_85, G6_spread_88, G6_spread_90, G6_spread_91, G6_spread_92, G6_spread_95, G6_spread_96, G6_spread_99, G6_spread_101, G6_spread_102, G6_spread_103, G6_spread_104, G6_spread_105, G6_spread_108, G6_spread_111, G6_spread_114, G6_spread_117, G6_spread_120, G6_spread_123, N6_spread, ↓mm_kc_ap, ↓mm_cut, mm_en, mm_nth, mm_put, mm_sto, mm_stoL, mm_ag, mm_dr, mm_sw, Nat.reduceSub, List.replicate, Option.toList, List.cons_append, List.nil_append, sq_int, sq_lng, sq_iload, sq_lload, sq_aload, sq_istore, sq_lstore, sq_astore, sq_iinc, sq_iadd, sq_isub, sq_imul, sq_iand, sq_ior, sq_ixor, sq_ishl, sq_ishr, sq_iushr, sq_ladd, sq_lsub, sq_lmul, sq_idiv, sq_irem, sq_ldiv, sq_lrem, sq_i2l, sq_lcmp, sq_dupI, sq_dupR, sq_pop, sq_dup2, sq_goto, sq_if_eq, sq_icmp_eq, sq_if_ne, sq_icmp_ne, sq_if_lt, sq_icmp_lt, sq_if_ge, sq_icmp_ge, sq_if_gt, sq_icmp_gt, sq_if_le, sq_icmp_le, sq_iaload, sq_iastore, sq_alen, sq_places, sq_getI, sq_getR, sq_put, sq_ret, sq_lret, sq_vret, sq_switch, sq_callS, sq_callV, sq_copy, sq_max, sq_min, mm_len_2, mm_len_3, mm_len_4, mm_len_6, mm_len_8, mm_len_10, mm_len_11, mm_len_12, mm_len_13, mm_len_14, mm_len_15, mm_len_17, mm_len_18, mm_len_19, mm_len_20, mm_len_21, mm_len_22, mm_len_23, mm_len_24, mm_len_25]
    try simp only [eq_self, true_and, and_true, Bool.false_eq_true, false_implies, true_implies, true_or, or_true, mm_numI, mm_numL, mm_numN, pp_i10, pp_i01, pp_im1, not_false_eq_true, not_true_eq_false, false_or, or_false]
    rw [mm_setA_ne (by decide), mm_setA_same, hn, nI_clamp (show p < 2 ^ 31 by omega), hg p hp, gg_s_is hK, nI_1]
    refine ⟨fun hc => absurd hc (nI_ge (by omega) (by omega)), fun _ => ⟨vp_in_nI (by omega) (by decide), fun he => keep (fun z => he z.1), fun he => ⟨0, _, hd, t_areNear (hN.sA (by decide) g) (show p < 8 by omega) (show q < 8 by omega), rfl, ?_⟩⟩⟩
    rintro _ _ ⟨rfl, rfl⟩
    simp only [G6_spread_0, G6_spread_1, G6_spread_2, G6_spread_3, G6_spread_4, G6_spread_7, G6_spread_10, G6_spread_11, G6_spread_14, G6_spread_15, G6_spread_16, G6_spread_17, G6_spread_20, G6_spread_21, G6_spread_24, G6_spread_25, G6_spread_26, G6_spread_29, G6_spread_32, G6_spread_33, G6_spread_34, G6_spread_35, G6_spread_36, G6_spread_39, G6_spread_42, G6_spread_43, G6_spread_44, G6_spread_45, G6_spread_46, G6_spread_49, G6_spread_52, G6_spread_53, G6_spread_55, G6_spread_57, G6_spread_58, G6_spread_61, G6_spread_64, G6_spread_65, G6_spread_68, G6_spread_69, G6_spread_70, G6_spread_71, G6_spread_74, G6_spread_75, G6_spread_76, G6_spread_78, G6_spread_81, G6_spread_84, G6_spread_85, G6_spread_88, G6_spread_90, G6_spread_91, G6_spread_92, G6_spread_95, G6_spread_96, G6_spread_99, G6_spread_101, G6_spread_102, G6_spread_103, G6_spread_104, G6_spread_105, G6_spread_108, G6_spread_111, G6_spread_114, G6_spread_117, G6_spread_120, G6_spread_123, N6_spread, ↓mm_kc_ap, ↓mm_cut, mm_en, mm_nth, mm_put, mm_sto, mm_stoL, mm_ag, mm_dr, mm_sw, Nat.reduceSub, List.replicate, Option.toList, List.cons_append, List.nil_append, sq_int, sq_lng, sq_iload, sq_lload, sq_aload, sq_istore, sq_lstore, sq_astore, sq_iinc, sq_iadd, sq_isub, sq_imul, sq_iand, sq_ior, sq_ixor, sq_ishl, sq_ishr, sq_iushr, sq_ladd, sq_lsub, sq_lmul, sq_idiv, sq_irem, sq_ldiv, sq_lrem, sq_i2l, sq_lcmp, sq_dupI, sq_dupR, sq_pop, sq_dup2, sq_goto, sq_if_eq, sq_icmp_eq, sq_if_ne, sq_icmp_ne, sq_if_lt, sq_icmp_lt, sq_if_ge, sq_icmp_ge, sq_if_gt, sq_icmp_gt, sq_if_le, sq_icmp_le, sq_iaload, sq_iastore, sq_alen, sq_places, sq_getI, sq_getR, sq_put, sq_ret, sq_lret, sq_vret, sq_switch, sq_callS, sq_callV, sq_copy, sq_max, sq_min, mm_len_2, mm_len_3, mm_len_4, mm_len_6, mm_len_8, mm_len_10, mm_len_11, mm_len_12, mm_len_13, mm_len_14, mm_len_15, mm_len_17, mm_len_18, mm_len_19, mm_len_20, mm_len_21, mm_len_22, mm_len_23, mm_len_24, mm_len_25]
    try simp only [eq_self, true_and, and_true, Bool.false_eq_true, false_implies, true_implies, true_or, or_true, mm_numI, mm_numL, mm_numN, pp_i10, pp_i01, pp_im1, not_false_eq_true, not_true_eq_false, false_or, or_false]
    rw [pp_bne, pp_beq, mm_setA_same, nI_clamp (show q < 2 ^ 31 by omega), hg q (by omega), nI_1, mm_set_setA, nI_1]
    refine ⟨fun hb => keep (fun z => ?_), fun hb => ⟨vp_in_nI (by omega) (by decide), fun hm => keep (fun z => hm z.2.2), fun hm => ⟨by decide, vp_in_nI (by omega) (by decide), ih _ (fun x hx => ?_)⟩⟩⟩
    · rw [hb] at z
      exact absurd z.2.1 Bool.false_ne_true
    · rw [gg_s_put hK he hb hm]
      unfold upd
      by_cases e : x = q
      · rw [if_pos e, if_pos e]
      · rw [if_neg e, if_neg e]
        exact hg x hx
set_option maxRecDepth 20000 in
theorem t_spread_p {l : Launch} {d : Nat} (hd : 0 < d) {E : mm_X} {post : mm_Po} {h : mm_H} {n : Nat} {A mk : Nat → Nat} (hN : dd_N h n A mk) {a K : Nat} (hK : K < 2 ^ 20) (hx : ∀ (g : Nat → Int32) (x4 : Option Value), (∀ x, x < n → g x = gg_s n A a K n 0 x) → mm_At l d M6_spread E post 117 [some (.ref 16), some (.int (nI a)), some (.int (nI K)), some (.int (nI n)), x4] [] (mm_setA h 21 g)) : ∀ (k p : Nat), p + k = n → ∀ (g : Nat → Int32) (x4 : Option Value), (∀ x, x < n → g x = gg_s n A a K p 0 x) → mm_At l d M6_spread E post 44 [some (.ref 16), some (.int (nI a)), some (.int (nI K)), some (.int (nI p)), x4] [] (mm_setA h 21 g) := by
  have n8 := hN.2.1
  have hn := hN.2.2.1
  intro k
  induction k with
  | zero =>
    intro p hp g x4 hg
    have e : p = n := by omega
    subst e
    refine mm_rn_ok [117] _ (S6_spread l d _ _) 1000 _ _ _ _ ?_
    simp only [G6_spread_0, G6_spread_1, G6_spread_2, G6_spread_3, G6_spread_4, G6_spread_7, G6_spread_10, G6_spread_11, G6_spread_14, G6_spread_15, G6_spread_16, G6_spread_17, G6_spread_20, G6_spread_21, G6_spread_24, G6_spread_25, G6_spread_26, G6_spread_29, G6_spread_32, G6_spread_33, G6_spread_34, G6_spread_35, G6_spread_36, G6_spread_39, G6_spread_42, G6_spread_43, G6_spread_44, G6_spread_45, G6_spread_46, G6_spread_49, G6_spread_52, G6_spread_53, G6_spread_55, G6_spread_57, G6_spread_58, G6_spread_61, G6_spread_64, G6_spread_65, G6_spread_68, G6_spread_69, G6_spread_70, G6_spread_71, G6_spread_74, G6_spread_75, G6_spread_76, G6_spread_78, G6_spread_81, G6_spread_84, G6_spread_85, G6_spread_88, G6_spread_90, G6_spread_91, G6_spread_92, G6_spread_95, G6_spread_96, G6_spread_99, G6_spread_101, G6_spread_102, G6_spread_103, G6_spread_104, G6_spread_105, G6_spread_108, G6_spread_111, G6_spread_114, G6_spread_117, G6_spread_120, G6_spread_123, N6_spread, ↓mm_kc_ap, ↓mm_cut, mm_en, mm_nth, mm_put, mm_sto, mm_stoL, mm_ag, mm_dr, mm_sw, Nat.reduceSub, List.replicate, Option.toList, List.cons_append, List.nil_append, sq_int, sq_lng, sq_iload, sq_lload, sq_aload, sq_istore, sq_lstore, sq_astore, sq_iinc, sq_iadd, sq_isub, sq_imul, sq_iand, sq_ior, sq_ixor, sq_ishl, sq_ishr, sq_iushr, sq_ladd, sq_lsub, sq_lmul, sq_idiv, sq_irem, sq_ldiv, sq_lrem, sq_i2l, sq_lcmp, sq_dupI, sq_dupR, sq_pop, sq_dup2, sq_goto, sq_if_eq, sq_icmp_eq, sq_if_ne, sq_icmp_ne, sq_if_lt, sq_icmp_lt, sq_if_ge, sq_icmp_ge, sq_if_gt, sq_icmp_gt, sq_if_le, sq_icmp_le, sq_iaload, sq_iastore, sq_alen, sq_places, sq_getI, sq_getR, sq_put, sq_ret, sq_lret, sq_vret, sq_switch, sq_callS, sq_callV, sq_copy, sq_max, sq_min, mm_len_2, mm_len_3, mm_len_4, mm_len_6, mm_len_8, mm_len_10, mm_len_11, mm_len_12, mm_len_13, mm_len_14, mm_len_15, mm_len_17, mm_len_18, mm_len_19, mm_len_20, mm_len_21, mm_len_22, mm_len_23, mm_len_24, mm_len_25]
    try simp only [eq_self, true_and, and_true, Bool.false_eq_true, false_implies, true_implies, true_or, or_true, mm_numI, mm_numL, mm_numN, pp_i10, pp_i01, pp_im1, not_false_eq_true, not_true_eq_false, false_or, or_false]
    rw [mm_setA_ne (by decide), hn]
    exact ⟨fun _ => hx g x4 hg, fun hc => absurd (nI_le (Nat.le_refl _) (by omega)) hc⟩
  | succ k ih =>
    intro p hp g x4 hg
    refine mm_rn_ok [55] _ (S6_spread l d _ _) 1000 _ _ _ _ ?_
    simp only [G6_spread_0, G6_spread_1, G6_spread_2, G6_spread_3, G6_spread_4, G6_spread_7, G6_spread_10, G6_spread_11, G6_spread_14, G6_spread_15, G6_spread_16, G6_spread_17, G6_spread_20, G6_spread_21, G6_spread_24, G6_spread_25, G6_spread_26, G6_spread_29, G6_spread_32, G6_spread_33, G6_spread_34, G6_spread_35, G6_spread_36, G6_spread_39, G6_spread_42, G6_spread_43, G6_spread_44, G6_spread_45, G6_spread_46, G6_spread_49, G6_spread_52, G6_spread_53, G6_spread_55, G6_spread_57, G6_spread_58, G6_spread_61, G6_spread_64, G6_spread_65, G6_spread_68, G6_spread_69, G6_spread_70, G6_spread_71, G6_spread_74, G6_spread_75, G6_spread_76, G6_spread_78, G6_spread_81, G6_spread_84, G6_spread_85, G6_spread_88, G6_spread_90, G6_spread_91, G6_spread_92, G6_spread_95, G6_spread_96, G6_spread_99, G6_spread_101, G6_spread_102, G6_spread_103, G6_spread_104, G6_spread_105, G6_spread_108, G6_spread_111, G6_spread_114, G6_spread_117, G6_spread_120, G6_spread_123, N6_spread, ↓mm_kc_ap, ↓mm_cut, mm_en, mm_nth, mm_put, mm_sto, mm_stoL, mm_ag, mm_dr, mm_sw, Nat.reduceSub, List.replicate, Option.toList, List.cons_append, List.nil_append, sq_int, sq_lng, sq_iload, sq_lload, sq_aload, sq_istore, sq_lstore, sq_astore, sq_iinc, sq_iadd, sq_isub, sq_imul, sq_iand, sq_ior, sq_ixor, sq_ishl, sq_ishr, sq_iushr, sq_ladd, sq_lsub, sq_lmul, sq_idiv, sq_irem, sq_ldiv, sq_lrem, sq_i2l, sq_lcmp, sq_dupI, sq_dupR, sq_pop, sq_dup2, sq_goto, sq_if_eq, sq_icmp_eq, sq_if_ne, sq_icmp_ne, sq_if_lt, sq_icmp_lt, sq_if_ge, sq_icmp_ge, sq_if_gt, sq_icmp_gt, sq_if_le, sq_icmp_le, sq_iaload, sq_iastore, sq_alen, sq_places, sq_getI, sq_getR, sq_put, sq_ret, sq_lret, sq_vret, sq_switch, sq_callS, sq_callV, sq_copy, sq_max, sq_min, mm_len_2, mm_len_3, mm_len_4, mm_len_6, mm_len_8, mm_len_10, mm_len_11, mm_len_12, mm_len_13, mm_len_14, mm_len_15, mm_len_17, mm_len_18, mm_len_19, mm_len_20, mm_len_21, mm_len_22, mm_len_23, mm_len_24, mm_len_25]
    try simp only [eq_self, true_and, and_true, Bool.false_eq_true, false_implies, true_implies, true_or, or_true, mm_numI, mm_numL, mm_numN, pp_i10, pp_i01, pp_im1, not_false_eq_true, not_true_eq_false, false_or, or_false]
    rw [mm_setA_ne (by decide), hn]
    refine ⟨fun hc => absurd hc (nI_ge (by omega) (by omega)), fun _ => t_spread_q hd hN hK (show p < n by omega) (fun g' hg' => ?_) n 0 (by omega) g hg⟩
    refine mm_rn_ok [] _ (S6_spread l d _ _) 1000 _ _ _ _ ?_
    simp only [G6_spread_0, G6_spread_1, G6_spread_2, G6_spread_3, G6_spread_4, G6_spread_7, G6_spread_10, G6_spread_11, G6_spread_14, G6_spread_15, G6_spread_16, G6_spread_17, G6_spread_20, G6_spread_21, G6_spread_24, G6_spread_25, G6_spread_26, G6_spread_29, G6_spread_32, G6_spread_33, G6_spread_34, G6_spread_35, G6_spread_36, G6_spread_39, G6_spread_42, G6_spread_43, G6_spread_44, G6_spread_45, G6_spread_46, G6_spread_49, G6_spread_52, G6_spread_53, G6_spread_55, G6_spread_57, G6_spread_58, G6_spread_61, G6_spread_64, G6_spread_65, G6_spread_68, G6_spread_69, G6_spread_70, G6_spread_71, G6_spread_74, G6_spread_75, G6_spread_76, G6_spread_78, G6_spread_81, G6_spread_84, G6_spread_85, G6_spread_88, G6_spread_90, G6_spread_91, G6_spread_92, G6_spread_95, G6_spread_96, G6_spread_99, G6_spread_101, G6_spread_102, G6_spread_103, G6_spread_104, G6_spread_105, G6_spread_108, G6_spread_111, G6_spread_114, G6_spread_117, G6_spread_120, G6_spread_123, N6_spread, ↓mm_kc_ap, ↓mm_cut, mm_en, mm_nth, mm_put, mm_sto, mm_stoL, mm_ag, mm_dr, mm_sw, Nat.reduceSub, List.replicate, Option.toList, List.cons_append, List.nil_append, sq_int, sq_lng, sq_iload, sq_lload, sq_aload, sq_istore, sq_lstore, sq_astore, sq_iinc, sq_iadd, sq_isub, sq_imul, sq_iand, sq_ior, sq_ixor, sq_ishl, sq_ishr, sq_iushr, sq_ladd, sq_lsub, sq_lmul, sq_idiv, sq_irem, sq_ldiv, sq_lrem, sq_i2l, sq_lcmp, sq_dupI, sq_dupR, sq_pop, sq_dup2, sq_goto, sq_if_eq, sq_icmp_eq, sq_if_ne, sq_icmp_ne, sq_if_lt, sq_icmp_lt, sq_if_ge, sq_icmp_ge, sq_if_gt, sq_icmp_gt, sq_if_le, sq_icmp_le, sq_iaload, sq_iastore, sq_alen, sq_places, sq_getI, sq_getR, sq_put, sq_ret, sq_lret, sq_vret, sq_switch, sq_callS, sq_callV, sq_copy, sq_max, sq_min, mm_len_2, mm_len_3, mm_len_4, mm_len_6, mm_len_8, mm_len_10, mm_len_11, mm_len_12, mm_len_13, mm_len_14, mm_len_15, mm_len_17, mm_len_18, mm_len_19, mm_len_20, mm_len_21, mm_len_22, mm_len_23, mm_len_24, mm_len_25]
    try simp only [eq_self, true_and, and_true, Bool.false_eq_true, false_implies, true_implies, true_or, or_true, mm_numI, mm_numL, mm_numN, pp_i10, pp_i01, pp_im1, not_false_eq_true, not_true_eq_false, false_or, or_false]
    rw [nI_1]
    exact ih (p + 1) (by omega) g' _ (fun x hx => by rw [hg' x hx, gg_s_row hx])
set_option maxRecDepth 20000 in
theorem t_spread_d {l : Launch} {d : Nat} (hd : 0 < d) {E : mm_X} {h : mm_H} {n : Nat} {A mk : Nat → Nat} (hN : dd_N h n A mk) (hok : jj_ok n A) {a : Nat} (ha : a < n) : ∀ (k K : Nat), K + k = n → ∀ (g : Nat → Int32) (x3 x4 : Option Value), (∀ x, x < n → g x = gg_o (gg_d n A a K x)) → mm_At l d M6_spread E (gg_sp n A a h) 34 [some (.ref 16), some (.int (nI a)), some (.int (nI K)), x3, x4] [] (mm_setA h 21 g) := by
  have n8 := hN.2.1
  have hn := hN.2.2.1
  intro k
  induction k with
  | zero =>
    intro K hK g x3 x4 hg
    have e : K = n := by omega
    subst e
    refine mm_rn_ok [] _ (S6_spread l d _ _) 1000 _ _ _ _ ?_
    simp only [G6_spread_0, G6_spread_1, G6_spread_2, G6_spread_3, G6_spread_4, G6_spread_7, G6_spread_10, G6_spread_11, G6_spread_14, G6_spread_15, G6_spread_16, G6_spread_17, G6_spread_20, G6_spread_21, G6_spread_24, G6_spread_25, G6_spread_26, G6_spread_29, G6_spread_32, G6_spread_33, G6_spread_34, G6_spread_35, G6_spread_36, G6_spread_39, G6_spread_42, G6_spread_43, G6_spread_44, G6_spread_45, G6_spread_46, G6_spread_49, G6_spread_52, G6_spread_53, G6_spread_55, G6_spread_57, G6_spread_58, G6_spread_61, G6_spread_64, G6_spread_65, G6_spread_68, G6_spread_69, G6_spread_70, G6_spread_71, G6_spread_74, G6_spread_75, G6_spread_76, G6_spread_78, G6_spread_81, G6_spread_84, G6_spread_85, G6_spread_88, G6_spread_90, G6_spread_91, G6_spread_92, G6_spread_95, G6_spread_96, G6_spread_99, G6_spread_101, G6_spread_102, G6_spread_103, G6_spread_104, G6_spread_105, G6_spread_108, G6_spread_111, G6_spread_114, G6_spread_117, G6_spread_120, G6_spread_123, N6_spread, ↓mm_kc_ap, ↓mm_cut, mm_en, mm_nth, mm_put, mm_sto, mm_stoL, mm_ag, mm_dr, mm_sw, Nat.reduceSub, List.replicate, Option.toList, List.cons_append, List.nil_append, sq_int, sq_lng, sq_iload, sq_lload, sq_aload, sq_istore, sq_lstore, sq_astore, sq_iinc, sq_iadd, sq_isub, sq_imul, sq_iand, sq_ior, sq_ixor, sq_ishl, sq_ishr, sq_iushr, sq_ladd, sq_lsub, sq_lmul, sq_idiv, sq_irem, sq_ldiv, sq_lrem, sq_i2l, sq_lcmp, sq_dupI, sq_dupR, sq_pop, sq_dup2, sq_goto, sq_if_eq, sq_icmp_eq, sq_if_ne, sq_icmp_ne, sq_if_lt, sq_icmp_lt, sq_if_ge, sq_icmp_ge, sq_if_gt, sq_icmp_gt, sq_if_le, sq_icmp_le, sq_iaload, sq_iastore, sq_alen, sq_places, sq_getI, sq_getR, sq_put, sq_ret, sq_lret, sq_vret, sq_switch, sq_callS, sq_callV, sq_copy, sq_max, sq_min, mm_len_2, mm_len_3, mm_len_4, mm_len_6, mm_len_8, mm_len_10, mm_len_11, mm_len_12, mm_len_13, mm_len_14, mm_len_15, mm_len_17, mm_len_18, mm_len_19, mm_len_20, mm_len_21, mm_len_22, mm_len_23, mm_len_24, mm_len_25]
    try simp only [eq_self, true_and, and_true, Bool.false_eq_true, false_implies, true_implies, true_or, or_true, mm_numI, mm_numL, mm_numN, pp_i10, pp_i01, pp_im1, not_false_eq_true, not_true_eq_false, false_or, or_false]
    rw [mm_setA_ne (by decide), hn]
    exact ⟨fun _ => ⟨rfl, g, rfl, fun q hq => by rw [hg q hq, gg_d_end hok ha]⟩, fun hc => absurd (nI_le (Nat.le_refl _) (by omega)) hc⟩
  | succ k ih =>
    intro K hK g x3 x4 hg
    refine mm_rn_ok [44] _ (S6_spread l d _ _) 1000 _ _ _ _ ?_
    simp only [G6_spread_0, G6_spread_1, G6_spread_2, G6_spread_3, G6_spread_4, G6_spread_7, G6_spread_10, G6_spread_11, G6_spread_14, G6_spread_15, G6_spread_16, G6_spread_17, G6_spread_20, G6_spread_21, G6_spread_24, G6_spread_25, G6_spread_26, G6_spread_29, G6_spread_32, G6_spread_33, G6_spread_34, G6_spread_35, G6_spread_36, G6_spread_39, G6_spread_42, G6_spread_43, G6_spread_44, G6_spread_45, G6_spread_46, G6_spread_49, G6_spread_52, G6_spread_53, G6_spread_55, G6_spread_57, G6_spread_58, G6_spread_61, G6_spread_64, G6_spread_65, G6_spread_68, G6_spread_69, G6_spread_70, G6_spread_71, G6_spread_74, G6_spread_75, G6_spread_76, G6_spread_78, G6_spread_81, G6_spread_84, G6_spread_85, G6_spread_88, G6_spread_90, G6_spread_91, G6_spread_92, G6_spread_95, G6_spread_96, G6_spread_99, G6_spread_101, G6_spread_102, G6_spread_103, G6_spread_104, G6_spread_105, G6_spread_108, G6_spread_111, G6_spread_114, G6_spread_117, G6_spread_120, G6_spread_123, N6_spread, ↓mm_kc_ap, ↓mm_cut, mm_en, mm_nth, mm_put, mm_sto, mm_stoL, mm_ag, mm_dr, mm_sw, Nat.reduceSub, List.replicate, Option.toList, List.cons_append, List.nil_append, sq_int, sq_lng, sq_iload, sq_lload, sq_aload, sq_istore, sq_lstore, sq_astore, sq_iinc, sq_iadd, sq_isub, sq_imul, sq_iand, sq_ior, sq_ixor, sq_ishl, sq_ishr, sq_iushr, sq_ladd, sq_lsub, sq_lmul, sq_idiv, sq_irem, sq_ldiv, sq_lrem, sq_i2l, sq_lcmp, sq_dupI, sq_dupR, sq_pop, sq_dup2, sq_goto, sq_if_eq, sq_icmp_eq, sq_if_ne, sq_icmp_ne, sq_if_lt, sq_icmp_lt, sq_if_ge, sq_icmp_ge, sq_if_gt, sq_icmp_gt, sq_if_le, sq_icmp_le, sq_iaload, sq_iastore, sq_alen, sq_places, sq_getI, sq_getR, sq_put, sq_ret, sq_lret, sq_vret, sq_switch, sq_callS, sq_callV, sq_copy, sq_max, sq_min, mm_len_2, mm_len_3, mm_len_4, mm_len_6, mm_len_8, mm_len_10, mm_len_11, mm_len_12, mm_len_13, mm_len_14, mm_len_15, mm_len_17, mm_len_18, mm_len_19, mm_len_20, mm_len_21, mm_len_22, mm_len_23, mm_len_24, mm_len_25]
    try simp only [eq_self, true_and, and_true, Bool.false_eq_true, false_implies, true_implies, true_or, or_true, mm_numI, mm_numL, mm_numN, pp_i10, pp_i01, pp_im1, not_false_eq_true, not_true_eq_false, false_or, or_false]
    rw [mm_setA_ne (by decide), hn]
    refine ⟨fun hc => absurd hc (nI_ge (by omega) (by omega)), fun _ => t_spread_p hd hN (show K < 2 ^ 20 by omega) (fun g' y4 hg' => ?_) n 0 (by omega) g x4 (fun x hx => by rw [gg_s_0]; exact hg x hx)⟩
    refine mm_rn_ok [] _ (S6_spread l d _ _) 1000 _ _ _ _ ?_
    simp only [G6_spread_0, G6_spread_1, G6_spread_2, G6_spread_3, G6_spread_4, G6_spread_7, G6_spread_10, G6_spread_11, G6_spread_14, G6_spread_15, G6_spread_16, G6_spread_17, G6_spread_20, G6_spread_21, G6_spread_24, G6_spread_25, G6_spread_26, G6_spread_29, G6_spread_32, G6_spread_33, G6_spread_34, G6_spread_35, G6_spread_36, G6_spread_39, G6_spread_42, G6_spread_43, G6_spread_44, G6_spread_45, G6_spread_46, G6_spread_49, G6_spread_52, G6_spread_53, G6_spread_55, G6_spread_57, G6_spread_58, G6_spread_61, G6_spread_64, G6_spread_65, G6_spread_68, G6_spread_69, G6_spread_70, G6_spread_71, G6_spread_74, G6_spread_75, G6_spread_76, G6_spread_78, G6_spread_81, G6_spread_84, G6_spread_85, G6_spread_88, G6_spread_90, G6_spread_91, G6_spread_92, G6_spread_95, G6_spread_96, G6_spread_99, G6_spread_101, G6_spread_102, G6_spread_103, G6_spread_104, G6_spread_105, G6_spread_108, G6_spread_111, G6_spread_114, G6_spread_117, G6_spread_120, G6_spread_123, N6_spread, ↓mm_kc_ap, ↓mm_cut, mm_en, mm_nth, mm_put, mm_sto, mm_stoL, mm_ag, mm_dr, mm_sw, Nat.reduceSub, List.replicate, Option.toList, List.cons_append, List.nil_append, sq_int, sq_lng, sq_iload, sq_lload, sq_aload, sq_istore, sq_lstore, sq_astore, sq_iinc, sq_iadd, sq_isub, sq_imul, sq_iand, sq_ior, sq_ixor, sq_ishl, sq_ishr, sq_iushr, sq_ladd, sq_lsub, sq_lmul, sq_idiv, sq_irem, sq_ldiv, sq_lrem, sq_i2l, sq_lcmp, sq_dupI, sq_dupR, sq_pop, sq_dup2, sq_goto, sq_if_eq, sq_icmp_eq, sq_if_ne, sq_icmp_ne, sq_if_lt, sq_icmp_lt, sq_if_ge, sq_icmp_ge, sq_if_gt, sq_icmp_gt, sq_if_le, sq_icmp_le, sq_iaload, sq_iastore, sq_alen, sq_places, sq_getI, sq_getR, sq_put, sq_ret, sq_lret, sq_vret, sq_switch, sq_callS, sq_callV, sq_copy, sq_max, sq_min, mm_len_2, mm_len_3, mm_len_4, mm_len_6, mm_len_8, mm_len_10, mm_len_11, mm_len_12, mm_len_13, mm_len_14, mm_len_15, mm_len_17, mm_len_18, mm_len_19, mm_len_20, mm_len_21, mm_len_22, mm_len_23, mm_len_24, mm_len_25]
    try simp only [eq_self, true_and, and_true, Bool.false_eq_true, false_implies, true_implies, true_or, or_true, mm_numI, mm_numL, mm_numN, pp_i10, pp_i01, pp_im1, not_false_eq_true, not_true_eq_false, false_or, or_false]
    rw [nI_1]
    exact ih (K + 1) (by omega) g' _ _ (fun x hx => by rw [hg' x hx, gg_s_end])
def gg_ini (f : Nat → Int32) (a p : Nat) : Nat → Int32 := fun q => if q < p then (if q = a then 0 else -1) else f q
theorem gg_ini_s (f : Nat → Int32) (a p : Nat) : upd (gg_ini f a p) p (if p = a then 0 else -1) = gg_ini f a (p + 1) := by
  funext q
  unfold upd gg_ini
  by_cases hq : q = p
  · subst hq
    simp
  · have : (q < p + 1) ↔ q < p := by omega
    simp [hq, this]
set_option maxRecDepth 20000 in
theorem t_spread_i {l : Launch} {d : Nat} {E : mm_X} {post : mm_Po} {h : mm_H} {n : Nat} {A mk : Nat → Nat} (hN : dd_N h n A mk) {a : Nat} (ha : a < n) (hx : mm_At l d M6_spread E post 32 [some (.ref 16), some (.int (nI a)), some (.int (nI n)), none, none] [] (mm_setA h 21 (gg_ini (h 21) a n))) : ∀ (k p : Nat), p + k = n → mm_At l d M6_spread E post 2 [some (.ref 16), some (.int (nI a)), some (.int (nI p)), none, none] [] (mm_setA h 21 (gg_ini (h 21) a p)) := by
  have n8 := hN.2.1
  have hn := hN.2.2.1
  intro k
  induction k with
  | zero =>
    intro p hp
    have e : p = n := by omega
    subst e
    refine mm_rn_ok [32] _ (S6_spread l d _ _) 1000 _ _ _ _ ?_
    simp only [G6_spread_0, G6_spread_1, G6_spread_2, G6_spread_3, G6_spread_4, G6_spread_7, G6_spread_10, G6_spread_11, G6_spread_14, G6_spread_15, G6_spread_16, G6_spread_17, G6_spread_20, G6_spread_21, G6_spread_24, G6_spread_25, G6_spread_26, G6_spread_29, G6_spread_32, G6_spread_33, G6_spread_34, G6_spread_35, G6_spread_36, G6_spread_39, G6_spread_42, G6_spread_43, G6_spread_44, G6_spread_45, G6_spread_46, G6_spread_49, G6_spread_52, G6_spread_53, G6_spread_55, G6_spread_57, G6_spread_58, G6_spread_61, G6_spread_64, G6_spread_65, G6_spread_68, G6_spread_69, G6_spread_70, G6_spread_71, G6_spread_74, G6_spread_75, G6_spread_76, G6_spread_78, G6_spread_81, G6_spread_84, G6_spread_85, G6_spread_88, G6_spread_90, G6_spread_91, G6_spread_92, G6_spread_95, G6_spread_96, G6_spread_99, G6_spread_101, G6_spread_102, G6_spread_103, G6_spread_104, G6_spread_105, G6_spread_108, G6_spread_111, G6_spread_114, G6_spread_117, G6_spread_120, G6_spread_123, N6_spread, ↓mm_kc_ap, ↓mm_cut, mm_en, mm_nth, mm_put, mm_sto, mm_stoL, mm_ag, mm_dr, mm_sw, Nat.reduceSub, List.replicate, Option.toList, List.cons_append, List.nil_append, sq_int, sq_lng, sq_iload, sq_lload, sq_aload, sq_istore, sq_lstore, sq_astore, sq_iinc, sq_iadd, sq_isub, sq_imul, sq_iand, sq_ior, sq_ixor, sq_ishl, sq_ishr, sq_iushr, sq_ladd, sq_lsub, sq_lmul, sq_idiv, sq_irem, sq_ldiv, sq_lrem, sq_i2l, sq_lcmp, sq_dupI, sq_dupR, sq_pop, sq_dup2, sq_goto, sq_if_eq, sq_icmp_eq, sq_if_ne, sq_icmp_ne, sq_if_lt, sq_icmp_lt, sq_if_ge, sq_icmp_ge, sq_if_gt, sq_icmp_gt, sq_if_le, sq_icmp_le, sq_iaload, sq_iastore, sq_alen, sq_places, sq_getI, sq_getR, sq_put, sq_ret, sq_lret, sq_vret, sq_switch, sq_callS, sq_callV, sq_copy, sq_max, sq_min, mm_len_2, mm_len_3, mm_len_4, mm_len_6, mm_len_8, mm_len_10, mm_len_11, mm_len_12, mm_len_13, mm_len_14, mm_len_15, mm_len_17, mm_len_18, mm_len_19, mm_len_20, mm_len_21, mm_len_22, mm_len_23, mm_len_24, mm_len_25]
    try simp only [eq_self, true_and, and_true, Bool.false_eq_true, false_implies, true_implies, true_or, or_true, mm_numI, mm_numL, mm_numN, pp_i10, pp_i01, pp_im1, not_false_eq_true, not_true_eq_false, false_or, or_false]
    rw [mm_setA_ne (by decide), hn]
    exact ⟨fun _ => hx, fun hc => absurd (nI_le (Nat.le_refl _) (by omega)) hc⟩
  | succ k ih =>
    intro p hp
    have ih := ih (p + 1) (by omega)
    refine mm_rn_ok [32] _ (S6_spread l d _ _) 1000 _ _ _ _ ?_
    simp only [G6_spread_0, G6_spread_1, G6_spread_2, G6_spread_3, G6_spread_4, G6_spread_7, G6_spread_10, G6_spread_11, G6_spread_14, G6_spread_15, G6_spread_16, G6_spread_17, G6_spread_20, G6_spread_21, G6_spread_24, G6_spread_25, G6_spread_26, G6_spread_29, G6_spread_32, G6_spread_33, G6_spread_34, G6_spread_35, G6_spread_36, G6_spread_39, G6_spread_42, G6_spread_43, G6_spread_44, G6_spread_45, G6_spread_46, G6_spread_49, G6_spread_52, G6_spread_53, G6_spread_55, G6_spread_57, G6_spread_58, G6_spread_61, G6_spread_64, G6_spread_65, G6_spread_68, G6_spread_69, G6_spread_70, G6_spread_71, G6_spread_74, G6_spread_75, G6_spread_76, G6_spread_78, G6_spread_81, G6_spread_84, G6_spread_85, G6_spread_88, G6_spread_90, G6_spread_91, G6_spread_92, G6_spread_95, G6_spread_96, G6_spread_99, G6_spread_101, G6_spread_102, G6_spread_103, G6_spread_104, G6_spread_105, G6_spread_108, G6_spread_111, G6_spread_114, G6_spread_117, G6_spread_120, G6_spread_123, N6_spread, ↓mm_kc_ap, ↓mm_cut, mm_en, mm_nth, mm_put, mm_sto, mm_stoL, mm_ag, mm_dr, mm_sw, Nat.reduceSub, List.replicate, Option.toList, List.cons_append, List.nil_append, sq_int, sq_lng, sq_iload, sq_lload, sq_aload, sq_istore, sq_lstore, sq_astore, sq_iinc, sq_iadd, sq_isub, sq_imul, sq_iand, sq_ior, sq_ixor, sq_ishl, sq_ishr, sq_iushr, sq_ladd, sq_lsub, sq_lmul, sq_idiv, sq_irem, sq_ldiv, sq_lrem, sq_i2l, sq_lcmp, sq_dupI, sq_dupR, sq_pop, sq_dup2, sq_goto, sq_if_eq, sq_icmp_eq, sq_if_ne, sq_icmp_ne, sq_if_lt, sq_icmp_lt, sq_if_ge, sq_icmp_ge, sq_if_gt, sq_icmp_gt, sq_if_le, sq_icmp_le, sq_iaload, sq_iastore, sq_alen, sq_places, sq_getI, sq_getR, sq_put, sq_ret, sq_lret, sq_vret, sq_switch, sq_callS, sq_callV, sq_copy, sq_max, sq_min, mm_len_2, mm_len_3, mm_len_4, mm_len_6, mm_len_8, mm_len_10, mm_len_11, mm_len_12, mm_len_13, mm_len_14, mm_len_15, mm_len_17, mm_len_18, mm_len_19, mm_len_20, mm_len_21, mm_len_22, mm_len_23, mm_len_24, mm_len_25]
    try simp only [eq_self, true_and, and_true, Bool.false_eq_true, false_implies, true_implies, true_or, or_true, mm_numI, mm_numL, mm_numN, pp_i10, pp_i01, pp_im1, not_false_eq_true, not_true_eq_false, false_or, or_false]
    rw [mm_setA_ne (by decide), hn, nI_clamp (show p < 2 ^ 31 by omega), nI_1, mm_set_setA, mm_set_setA, pp_eqN (show p < 2 ^ 31 by omega) (show a < 2 ^ 31 by omega)]
    rw [← gg_ini_s] at ih
    refine ⟨fun hc => absurd hc (nI_ge (by omega) (by omega)), fun _ => ⟨fun he => ⟨by decide, vp_in_nI (by omega) (by decide), ?_⟩, fun he => ⟨by decide, vp_in_nI (by omega) (by decide), ?_⟩⟩⟩
    · rw [if_neg he] at ih
      exact ih
    · rw [if_pos he] at ih
      exact ih
set_option maxRecDepth 20000 in
theorem t_spread {l : Launch} {d : Nat} (hd : 0 < d) {h : mm_H} {n : Nat} {A mk : Nat → Nat} (hN : dd_N h n A mk) (hok : jj_ok n A) {a : Nat} (ha : a < n) : mm_Ev l d M6_spread [.ref 16, .int (nI a)] h (gg_sp n A a h) := by
  refine mm_Ev.of (by decide +kernel) (Nat.le_of_ble_eq_true rfl) (mm_rn_ok [2] _ (S6_spread l d _ _) 1000 _ _ _ _ ?_)
  simp only [G6_spread_0, G6_spread_1, G6_spread_2, G6_spread_3, G6_spread_4, G6_spread_7, G6_spread_10, G6_spread_11, G6_spread_14, G6_spread_15, G6_spread_16, G6_spread_17, G6_spread_20, G6_spread_21, G6_spread_24, G6_spread_25, G6_spread_26, G6_spread_29, G6_spread_32, G6_spread_33, G6_spread_34, G6_spread_35, G6_spread_36, G6_spread_39, G6_spread_42, G6_spread_43, G6_spread_44, G6_spread_45, G6_spread_46, G6_spread_49, G6_spread_52, G6_spread_53, G6_spread_55, G6_spread_57, G6_spread_58, G6_spread_61, G6_spread_64, G6_spread_65, G6_spread_68, G6_spread_69, G6_spread_70, G6_spread_71, G6_spread_74, G6_spread_75, G6_spread_76, G6_spread_78, G6_spread_81, G6_spread_84, G6_spread_85, G6_spread_88, G6_spread_90, G6_spread_91, G6_spread_92, G6_spread_95, G6_spread_96, G6_spread_99, G6_spread_101, G6_spread_102, G6_spread_103, G6_spread_104, G6_spread_105, G6_spread_108, G6_spread_111, G6_spread_114, G6_spread_117, G6_spread_120, G6_spread_123, N6_spread, ↓mm_kc_ap, ↓mm_cut, mm_en, mm_nth, mm_put, mm_sto, mm_stoL, mm_ag, mm_dr, mm_sw, Nat.reduceSub, List.replicate, Option.toList, List.cons_append, List.nil_append, sq_int, sq_lng, sq_iload, sq_lload, sq_aload, sq_istore, sq_lstore, sq_astore, sq_iinc, sq_iadd, sq_isub, sq_imul, sq_iand, sq_ior, sq_ixor, sq_ishl, sq_ishr, sq_iushr, sq_ladd, sq_lsub, sq_lmul, sq_idiv, sq_irem, sq_ldiv, sq_lrem, sq_i2l, sq_lcmp, sq_dupI, sq_dupR, sq_pop, sq_dup2, sq_goto, sq_if_eq, sq_icmp_eq, sq_if_ne, sq_icmp_ne, sq_if_lt, sq_icmp_lt, sq_if_ge, sq_icmp_ge, sq_if_gt, sq_icmp_gt, sq_if_le, sq_icmp_le, sq_iaload, sq_iastore, sq_alen, sq_places, sq_getI, sq_getR, sq_put, sq_ret, sq_lret, sq_vret, sq_switch, sq_callS, sq_callV, sq_copy, sq_max, sq_min, mm_len_2, mm_len_3, mm_len_4, mm_len_6, mm_len_8, mm_len_10, mm_len_11, mm_len_12, mm_len_13, mm_len_14, mm_len_15, mm_len_17, mm_len_18, mm_len_19, mm_len_20, mm_len_21, mm_len_22, mm_len_23, mm_len_24, mm_len_25]
  try simp only [eq_self, true_and, and_true, Bool.false_eq_true, false_implies, true_implies, true_or, or_true, mm_numI, mm_numL, mm_numN, pp_i10, pp_i01, pp_im1, not_false_eq_true, not_true_eq_false, false_or, or_false]
  have lp := t_spread_i (l := l) (d := d) (E := fun _ _ _ => True) (post := gg_sp n A a h) hN ha ?_ n 0 (by omega)
  · have e : gg_ini (h 21) a 0 = h 21 := by
      funext q
      simp [gg_ini]
    rw [e, mm_setA_id] at lp
    exact lp
  · refine mm_rn_ok [34] _ (S6_spread l d _ _) 1000 _ _ _ _ ?_
    simp only [G6_spread_0, G6_spread_1, G6_spread_2, G6_spread_3, G6_spread_4, G6_spread_7, G6_spread_10, G6_spread_11, G6_spread_14, G6_spread_15, G6_spread_16, G6_spread_17, G6_spread_20, G6_spread_21, G6_spread_24, G6_spread_25, G6_spread_26, G6_spread_29, G6_spread_32, G6_spread_33, G6_spread_34, G6_spread_35, G6_spread_36, G6_spread_39, G6_spread_42, G6_spread_43, G6_spread_44, G6_spread_45, G6_spread_46, G6_spread_49, G6_spread_52, G6_spread_53, G6_spread_55, G6_spread_57, G6_spread_58, G6_spread_61, G6_spread_64, G6_spread_65, G6_spread_68, G6_spread_69, G6_spread_70, G6_spread_71, G6_spread_74, G6_spread_75, G6_spread_76, G6_spread_78, G6_spread_81, G6_spread_84, G6_spread_85, G6_spread_88, G6_spread_90, G6_spread_91, G6_spread_92, G6_spread_95, G6_spread_96, G6_spread_99, G6_spread_101, G6_spread_102, G6_spread_103, G6_spread_104, G6_spread_105, G6_spread_108, G6_spread_111, G6_spread_114, G6_spread_117, G6_spread_120, G6_spread_123, N6_spread, ↓mm_kc_ap, ↓mm_cut, mm_en, mm_nth, mm_put, mm_sto, mm_stoL, mm_ag, mm_dr, mm_sw, Nat.reduceSub, List.replicate, Option.toList, List.cons_append, List.nil_append, sq_int, sq_lng, sq_iload, sq_lload, sq_aload, sq_istore, sq_lstore, sq_astore, sq_iinc, sq_iadd, sq_isub, sq_imul, sq_iand, sq_ior, sq_ixor, sq_ishl, sq_ishr, sq_iushr, sq_ladd, sq_lsub, sq_lmul, sq_idiv, sq_irem, sq_ldiv, sq_lrem, sq_i2l, sq_lcmp, sq_dupI, sq_dupR, sq_pop, sq_dup2, sq_goto, sq_if_eq, sq_icmp_eq, sq_if_ne, sq_icmp_ne, sq_if_lt, sq_icmp_lt, sq_if_ge, sq_icmp_ge, sq_if_gt, sq_icmp_gt, sq_if_le, sq_icmp_le, sq_iaload, sq_iastore, sq_alen, sq_places, sq_getI, sq_getR, sq_put, sq_ret, sq_lret, sq_vret, sq_switch, sq_callS, sq_callV, sq_copy, sq_max, sq_min, mm_len_2, mm_len_3, mm_len_4, mm_len_6, mm_len_8, mm_len_10, mm_len_11, mm_len_12, mm_len_13, mm_len_14, mm_len_15, mm_len_17, mm_len_18, mm_len_19, mm_len_20, mm_len_21, mm_len_22, mm_len_23, mm_len_24, mm_len_25]
    try simp only [eq_self, true_and, and_true, Bool.false_eq_true, false_implies, true_implies, true_or, or_true, mm_numI, mm_numL, mm_numN, pp_i10, pp_i01, pp_im1, not_false_eq_true, not_true_eq_false, false_or, or_false]
    refine t_spread_d hd hN hok ha n 0 (by omega) _ none none (fun x hx => ?_)
    unfold gg_ini gg_d
    rw [if_pos hx]
    by_cases e : x = a
    · rw [if_pos e, if_pos e]
      rfl
    · rw [if_neg e, if_neg e]
      rfl
