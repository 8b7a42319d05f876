/-! ===== the class: how far posts are ===== -/
theorem cc_N.cg {h h' : mm_H} {n : Nat} {A mk : Nat → Nat} (hN : cc_N h n A mk) (h1 : h' 1 = h 1) (h2 : h' 2 = h 2) (h3 : h' 3 = h 3) : cc_N h' n A mk := by
  obtain ⟨n1, n8, hn, hA, hm, hA8, hm4⟩ := hN
  exact ⟨n1, n8, by rw [h1]; exact hn, by rw [h2]; exact hA, by rw [h3]; exact hm, hA8, hm4⟩
theorem cc_N.sA {h : mm_H} {n : Nat} {A mk : Nat → Nat} (hN : cc_N h n A mk) {c : Nat} (hc : 3 < c) (g : Nat → Int32) : cc_N (mm_setA h c g) n A mk := hN.cg (mm_setA_ne (by omega)) (mm_setA_ne (by omega)) (mm_setA_ne (by omega))
def gg_nb (A : Nat → Nat) (X : Nat) : Nat → Nat
  | 0 => 0
  | k + 1 => gg_nb A X k ||| (if X.testBit k = true then A k else 0)
theorem gg_nb_s (A : Nat → Nat) (X k : Nat) : gg_nb A X (k + 1) = gg_nb A X k ||| (if X.testBit k = true then A k else 0) := rfl
theorem gg_nb_bit (A : Nat → Nat) (X q : Nat) : ∀ k, (gg_nb A X k).testBit q = pp_any (fun p => X.testBit p && (A p).testBit q) k
  | 0 => by simp [gg_nb, pp_any]
  | k + 1 => by
    unfold gg_nb pp_any
    rw [Nat.testBit_or, gg_nb_bit A X q k]
    cases X.testBit k <;> simp
theorem gg_nb_lt {A : Nat → Nat} (hA : ∀ p, A p < 256) (X : Nat) : ∀ k, gg_nb A X k < 256
  | 0 => by simp [gg_nb]
  | k + 1 => by
    unfold gg_nb
    exact Nat.or_lt_two_pow (n := 8) (gg_nb_lt hA X k) (by
      split
      · exact hA k
      · decide)
set_option maxRecDepth 20000 in
theorem t_nearAny_loop {l : Launch} {d : Nat} {E : mm_X} {h : mm_H} {n : Nat} {A mk : Nat → Nat} (hN : cc_N h n A mk) {X : Nat} (hX : X < 256) : ∀ (k p : Nat), p + k = n → mm_At l d M2_nearAny E (fun r h' => r = some (.int (nI (gg_nb A X n))) ∧ h' = h) 4 [some (.ref 1), some (.int (nI X)), some (.int (nI (gg_nb A X p))), some (.int (nI p))] [] h := by
  obtain ⟨n1, n8, hn, hA, hm, hA8, hm4⟩ := hN
  intro k
  induction k with
  | zero =>
    intro p hp
    refine mm_rn_ok [] _ (S2_nearAny l d _ _) 1000 _ _ _ _ ?_
    simp only [G2_nearAny_0, G2_nearAny_1, G2_nearAny_2, G2_nearAny_3, G2_nearAny_4, G2_nearAny_5, G2_nearAny_6, G2_nearAny_9, G2_nearAny_12, G2_nearAny_13, G2_nearAny_14, G2_nearAny_15, G2_nearAny_16, G2_nearAny_17, G2_nearAny_18, G2_nearAny_21, G2_nearAny_22, G2_nearAny_23, G2_nearAny_26, G2_nearAny_27, G2_nearAny_28, G2_nearAny_29, G2_nearAny_30, G2_nearAny_33, G2_nearAny_36, G2_nearAny_37, N2_nearAny, ↓mm_kc_ap, ↓mm_cut, mm_en, mm_nth, mm_put, mm_sto, mm_stoL, mm_ag, mm_dr, mm_sw, Nat.reduceSub, List.replicate, Option.toList, List.cons_append, List.nil_append, sq_int, sq_lng, sq_iload, sq_lload, sq_aload, sq_istore, sq_lstore, sq_astore, sq_iinc, sq_iadd, sq_isub, sq_imul, sq_iand, sq_ior, sq_ixor, sq_ishl, sq_ishr, sq_iushr, sq_ladd, sq_lsub, sq_lmul, sq_idiv, sq_irem, sq_ldiv, sq_lrem, sq_i2l, sq_lcmp, sq_dupI, sq_dupR, sq_pop, sq_dup2, sq_goto, sq_if_eq, sq_icmp_eq, sq_if_ne, sq_icmp_ne, sq_if_lt, sq_icmp_lt, sq_if_ge, sq_icmp_ge, sq_if_gt, sq_icmp_gt, sq_if_le, sq_icmp_le, sq_iaload, sq_iastore, sq_alen, sq_places, sq_getI, sq_getR, sq_put, sq_ret, sq_lret, sq_vret, sq_switch, sq_callS, sq_callV, sq_copy, sq_max, sq_min, mm_len_2, mm_len_3, mm_len_4, mm_len_6, mm_len_8, mm_len_10, mm_len_11, mm_len_12, mm_len_13, mm_len_14, mm_len_15, mm_len_17, mm_len_18, mm_len_19, mm_len_20, mm_len_21, mm_len_22, mm_len_23, mm_len_24, mm_len_25]
    try simp only [eq_self, true_and, and_true, Bool.false_eq_true, false_implies, true_implies, true_or, or_true, mm_numI, mm_numL, mm_numN, pp_i10, pp_i01, pp_im1, not_false_eq_true, not_true_eq_false, false_or, or_false]
    rw [hn]
    refine ⟨fun _ => ?_, fun hc => absurd (nI_le (by omega) (by omega)) hc⟩
    rw [show p = n by omega]
  | succ k ih =>
    intro p hp
    have ih := ih (p + 1) (by omega)
    refine mm_rn_ok [] _ (S2_nearAny l d _ _) 1000 _ _ _ _ ?_
    simp only [G2_nearAny_0, G2_nearAny_1, G2_nearAny_2, G2_nearAny_3, G2_nearAny_4, G2_nearAny_5, G2_nearAny_6, G2_nearAny_9, G2_nearAny_12, G2_nearAny_13, G2_nearAny_14, G2_nearAny_15, G2_nearAny_16, G2_nearAny_17, G2_nearAny_18, G2_nearAny_21, G2_nearAny_22, G2_nearAny_23, G2_nearAny_26, G2_nearAny_27, G2_nearAny_28, G2_nearAny_29, G2_nearAny_30, G2_nearAny_33, G2_nearAny_36, G2_nearAny_37, N2_nearAny, ↓mm_kc_ap, ↓mm_cut, mm_en, mm_nth, mm_put, mm_sto, mm_stoL, mm_ag, mm_dr, mm_sw, Nat.reduceSub, List.replicate, Option.toList, List.cons_append, List.nil_append, sq_int, sq_lng, sq_iload, sq_lload, sq_aload, sq_istore, sq_lstore, sq_astore, sq_iinc, sq_iadd, sq_isub, sq_imul, sq_iand, sq_ior, sq_ixor, sq_ishl, sq_ishr, sq_iushr, sq_ladd, sq_lsub, sq_lmul, sq_idiv, sq_irem, sq_ldiv, sq_lrem, sq_i2l, sq_lcmp, sq_dupI, sq_dupR, sq_pop, sq_dup2, sq_goto, sq_if_eq, sq_icmp_eq, sq_if_ne, sq_icmp_ne, sq_if_lt, sq_icmp_lt, sq_if_ge, sq_icmp_ge, sq_if_gt, sq_icmp_gt, sq_if_le, sq_icmp_le, sq_iaload, sq_iastore, sq_alen, sq_places, sq_getI, sq_getR, sq_put, sq_ret, sq_lret, sq_vret, sq_switch, sq_callS, sq_callV, sq_copy, sq_max, sq_min, mm_len_2, mm_len_3, mm_len_4, mm_len_6, mm_len_8, mm_len_10, mm_len_11, mm_len_12, mm_len_13, mm_len_14, mm_len_15, mm_len_17, mm_len_18, mm_len_19, mm_len_20, mm_len_21, mm_len_22, mm_len_23, mm_len_24, mm_len_25]
    try simp only [eq_self, true_and, and_true, Bool.false_eq_true, false_implies, true_implies, true_or, or_true, mm_numI, mm_numL, mm_numN, pp_i10, pp_i01, pp_im1, not_false_eq_true, not_true_eq_false, false_or, or_false]
    rw [hn, nI_1, nI_clamp (show p < 2 ^ 31 by omega), hA p (by omega), pp_bit1 (Nat.lt_trans hX (by decide)) (by omega), pp_or _ _ (Nat.lt_trans (gg_nb_lt hA8 X p) (by decide)) (Nat.lt_trans (hA8 p) (by decide))]
    refine ⟨fun hc => absurd hc (nI_ge (by omega) (by omega)), fun _ => ⟨fun hb => ?_, fun hb => ⟨vp_in_nI (by omega) (by decide), ?_⟩⟩⟩
    · rw [gg_nb_s, if_neg hb, Nat.or_zero] at ih
      exact ih
    · rw [gg_nb_s, if_pos hb] at ih
      exact ih
set_option maxRecDepth 20000 in
theorem t_nearAny {l : Launch} {d : Nat} {h : mm_H} {n : Nat} {A mk : Nat → Nat} (hN : cc_N h n A mk) {X : Nat} (hX : X < 256) : mm_Ev l d M2_nearAny [.ref 1, .int (nI X)] h (fun r h' => r = some (.int (nI (gg_nb A X n))) ∧ h' = h) := by
  refine mm_Ev.of (by decide +kernel) (Nat.le_of_ble_eq_true rfl) (mm_rn_ok [4] _ (S2_nearAny l d _ _) 1000 _ _ _ _ ?_)
  simp only [G2_nearAny_0, G2_nearAny_1, G2_nearAny_2, G2_nearAny_3, G2_nearAny_4, G2_nearAny_5, G2_nearAny_6, G2_nearAny_9, G2_nearAny_12, G2_nearAny_13, G2_nearAny_14, G2_nearAny_15, G2_nearAny_16, G2_nearAny_17, G2_nearAny_18, G2_nearAny_21, G2_nearAny_22, G2_nearAny_23, G2_nearAny_26, G2_nearAny_27, G2_nearAny_28, G2_nearAny_29, G2_nearAny_30, G2_nearAny_33, G2_nearAny_36, G2_nearAny_37, N2_nearAny, ↓mm_kc_ap, ↓mm_cut, mm_en, mm_nth, mm_put, mm_sto, mm_stoL, mm_ag, mm_dr, mm_sw, Nat.reduceSub, List.replicate, Option.toList, List.cons_append, List.nil_append, sq_int, sq_lng, sq_iload, sq_lload, sq_aload, sq_istore, sq_lstore, sq_astore, sq_iinc, sq_iadd, sq_isub, sq_imul, sq_iand, sq_ior, sq_ixor, sq_ishl, sq_ishr, sq_iushr, sq_ladd, sq_lsub, sq_lmul, sq_idiv, sq_irem, sq_ldiv, sq_lrem, sq_i2l, sq_lcmp, sq_dupI, sq_dupR, sq_pop, sq_dup2, sq_goto, sq_if_eq, sq_icmp_eq, sq_if_ne, sq_icmp_ne, sq_if_lt, sq_icmp_lt, sq_if_ge, sq_icmp_ge, sq_if_gt, sq_icmp_gt, sq_if_le, sq_icmp_le, sq_iaload, sq_iastore, sq_alen, sq_places, sq_getI, sq_getR, sq_put, sq_ret, sq_lret, sq_vret, sq_switch, sq_callS, sq_callV, sq_copy, sq_max, sq_min, mm_len_2, mm_len_3, mm_len_4, mm_len_6, mm_len_8, mm_len_10, mm_len_11, mm_len_12, mm_len_13, mm_len_14, mm_len_15, mm_len_17, mm_len_18, mm_len_19, mm_len_20, mm_len_21, mm_len_22, mm_len_23, mm_len_24, mm_len_25]
  try simp only [eq_self, true_and, and_true, Bool.false_eq_true, false_implies, true_implies, true_or, or_true, mm_numI, mm_numL, mm_numN, pp_i10, pp_i01, pp_im1, not_false_eq_true, not_true_eq_false, false_or, or_false]
  exact t_nearAny_loop hN hX n 0 (by omega)
theorem pp_tn {a : Nat} (h : a < 2 ^ 32) : (nI a).toBitVec.toNat = a := pk_tn h
/-- without those of r -/
theorem pp_andn {e r : Nat} (he : e < 256) (hr : r < 256) : nI e &&& (nI r ^^^ (-1)) = nI (pp_msk (fun j => e.testBit j && !(r.testBit j)) 8) := by
  apply Int32.toBitVec_inj.mp
  have hm : pp_msk (fun j => e.testBit j && !(r.testBit j)) 8 < 2 ^ 32 := Nat.lt_trans (pp_msk_lt _ 8) (by decide)
  apply BitVec.eq_of_getLsbD_eq
  intro i hi
  rw [Int32.toBitVec_and, Int32.toBitVec_xor, BitVec.getLsbD_and, BitVec.getLsbD_xor]
  have b : ∀ a : Nat, a < 2 ^ 32 → (nI a).toBitVec.getLsbD i = a.testBit i := by
    intro a ha
    unfold BitVec.getLsbD
    rw [pp_tn ha]
  rw [b e (by omega), b r (by omega), b _ hm, pp_msk_bit]
  have m1 : (-1 : Int32).toBitVec.getLsbD i = true := by
    have : (-1 : Int32).toBitVec = BitVec.allOnes 32 := by decide
    rw [this, BitVec.getLsbD_allOnes]
    simpa using hi
  rw [m1, Bool.xor_true]
  by_cases h8 : i < 8
  · simp [h8]
  · have : e.testBit i = false := Nat.testBit_lt_two_pow (Nat.lt_of_lt_of_le he (Nat.pow_le_pow_right (n := 2) (i := 8) (by decide) (by omega)))
    simp [this]
theorem pp_msk_8 {P : Nat → Bool} {n : Nat} (hn : n ≤ 8) : pp_msk P n < 256 := Nat.lt_of_lt_of_le (pp_msk_lt P n) (Nat.pow_le_pow_right (n := 2) (j := 8) (by decide) hn)
theorem gg_edge {n : Nat} {A : Nat → Nat} {a K : Nat} (n8 : n ≤ 8) (hA : jj_ok n A) : pp_msk (fun j => (gg_nb A (pp_msk (gg_e n A a K) n) n).testBit j && !((pp_msk (gg_r n A a K) n).testBit j)) 8 = pp_msk (gg_e n A a (K + 1)) n := by
  apply Nat.eq_of_testBit_eq
  intro q
  rw [pp_msk_bit, pp_msk_bit, pp_msk_bit, gg_nb_bit]
  apply Bool.eq_iff_iff.mpr
  simp only [Bool.and_eq_true, decide_eq_true_eq, Bool.not_eq_true', Bool.and_eq_false_iff, decide_eq_false_iff_not]
  rw [gg_e_s, pp_any_iff]
  constructor
  · rintro ⟨h8, ⟨p, hp, h1⟩, h2⟩
    rw [pp_msk_bit, Bool.and_eq_true, Bool.and_eq_true] at h1
    have hq : q < n := hA p q h1.2
    rcases h2 with h2 | h2
    · exact absurd hq h2
    · exact ⟨hq, h2, p, hp, h1.1.2, h1.2⟩
  · rintro ⟨hq, h2, p, hp, h3, h4⟩
    refine ⟨by omega, ⟨p, hp, ?_⟩, Or.inr h2⟩
    rw [pp_msk_bit, Bool.and_eq_true, Bool.and_eq_true]
    exact ⟨⟨decide_eq_true hp, h3⟩, h4⟩
theorem gg_join {n : Nat} {A : Nat → Nat} {a K : Nat} : pp_msk (gg_r n A a K) n ||| pp_msk (gg_e n A a (K + 1)) n = pp_msk (gg_r n A a (K + 1)) n := by
  apply Nat.eq_of_testBit_eq
  intro q
  rw [Nat.testBit_or, pp_msk_bit, pp_msk_bit, pp_msk_bit, gg_r_e]
  cases decide (q < n) <;> simp
def gg_lay (g : Nat → Int32) (X : Nat) (v : Int32) (p : Nat) : Nat → Int32 := fun q => if q < p ∧ X.testBit q = true then v else g q
theorem gg_lay_t {g : Nat → Int32} {X : Nat} {v : Int32} {p : Nat} (hb : X.testBit p = true) : upd (gg_lay g X v p) p v = gg_lay g X v (p + 1) := by
  funext q
  unfold upd gg_lay
  by_cases hq : q = p
  · subst hq
    simp [hb]
  · have : (q < p + 1) ↔ q < p := by omega
    simp [hq, this]
theorem gg_lay_f {g : Nat → Int32} {X : Nat} {v : Int32} {p : Nat} (hb : ¬ X.testBit p = true) : gg_lay g X v (p + 1) = gg_lay g X v p := by
  funext q
  unfold gg_lay
  by_cases hq : q = p
  · subst hq
    simp [hb]
  · have : (q < p + 1) ↔ q < p := by omega
    simp [this]
theorem gg_lay_0 (g : Nat → Int32) (X : Nat) (v : Int32) : gg_lay g X v 0 = g := by
  funext q
  simp [gg_lay]
