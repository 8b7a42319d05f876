/-! the judge's answer is what is accepted -/
theorem pp_and_split {a b : Bool} : (a && b) = true ↔ a = true ∧ b = true := by simp
theorem jj_cnt0 {P : Nat → Bool} : ∀ {n : Nat}, pp_cnt P n = 0 ↔ ∀ q, q < n → P q = false
  | 0 => ⟨fun _ q hq => absurd hq (Nat.not_lt_zero q), fun _ => rfl⟩
  | n + 1 => by
    constructor
    · intro h q hq
      cases hP : P n with
      | true => rw [pp_cnt_t hP] at h; omega
      | false =>
        rw [pp_cnt_f hP] at h
        rcases Nat.lt_succ_iff_lt_or_eq.mp hq with h1 | h1
        · exact jj_cnt0.mp h q h1
        · rw [h1]; exact hP
    · intro h
      rw [pp_cnt_f (h n (by omega))]
      exact jj_cnt0.mpr (fun q hq => h q (by omega))
theorem jj_cntpos {P : Nat → Bool} {n : Nat} : 0 < pp_cnt P n ↔ pp_any P n = true := by
  constructor
  · intro h
    apply Classical.byContradiction
    intro hn
    have : pp_cnt P n = 0 := jj_cnt0.mpr (fun q hq => by
      cases hP : P q with
      | false => rfl
      | true => exact absurd (pp_any_iff.mpr ⟨q, hq, hP⟩) hn)
    omega
  · intro h
    obtain ⟨q, hq, hP⟩ := pp_any_iff.mp h
    apply Nat.pos_of_ne_zero
    intro h0
    rw [jj_cnt0.mp h0 q hq] at hP
    cases hP
/-- two kinds that exclude each other fill a third just when each of it is of one of them -/
theorem jj_cnt2 {P Q R : Nat → Bool} (hP : ∀ q, P q = true → R q = true) (hQ : ∀ q, Q q = true → R q = true) (hx : ∀ q, ¬ (P q = true ∧ Q q = true)) : ∀ {n : Nat}, pp_cnt P n + pp_cnt Q n ≤ pp_cnt R n ∧ (pp_cnt P n + pp_cnt Q n = pp_cnt R n ↔ ∀ q, q < n → R q = true → P q = true ∨ Q q = true)
  | 0 => ⟨Nat.le_refl _, fun _ q hq => absurd hq (Nat.not_lt_zero q), fun _ => rfl⟩
  | n + 1 => by
    obtain ⟨ih1, ih2⟩ := jj_cnt2 hP hQ hx (n := n)
    have e1 : pp_cnt P (n + 1) = pp_cnt P n + (if P n = true then 1 else 0) := rfl
    have e2 : pp_cnt Q (n + 1) = pp_cnt Q n + (if Q n = true then 1 else 0) := rfl
    have e3 : pp_cnt R (n + 1) = pp_cnt R n + (if R n = true then 1 else 0) := rfl
    have hxn := hx n
    have hPn := hP n
    have hQn := hQ n
    rw [e1, e2, e3]
    have split : (∀ q, q < n + 1 → R q = true → P q = true ∨ Q q = true) ↔ (∀ q, q < n → R q = true → P q = true ∨ Q q = true) ∧ (R n = true → P n = true ∨ Q n = true) := by
      constructor
      · intro h
        exact ⟨fun q hq => h q (by omega), h n (by omega)⟩
      · intro ⟨h1, h2⟩ q hq
        rcases Nat.lt_succ_iff_lt_or_eq.mp hq with h3 | h3
        · exact h1 q h3
        · rw [h3]; exact h2
    rw [split, ← ih2]
    cases h1 : P n <;> cases h2 : Q n <;> cases h3 : R n <;> simp [h1, h2, h3] at hxn hPn hQn ⊢ <;> omega
/-- neighbours are posts -/
def jj_ok (n : Nat) (A : Nat → Nat) : Prop := ∀ p q, (A p).testBit q = true → q < n
theorem jj_pop {n : Nat} {A : Nat → Nat} {p : Nat} (n8 : n ≤ 8) (hA : jj_ok n A) : pp_pop (A p) = pp_cnt (A p).testBit n := by
  unfold pp_pop
  have key : ∀ k, n + k ≤ 8 → pp_cnt (A p).testBit (n + k) = pp_cnt (A p).testBit n := by
    intro k
    induction k with
    | zero => intro _; rfl
    | succ k ih =>
      intro hk
      have : (A p).testBit (n + k) = false := Bool.eq_false_iff.mpr (fun h => by have := hA p _ h; omega)
      rw [← Nat.add_assoc, pp_cnt_f this]
      exact ih (by omega)
  have := key (8 - n) (by omega)
  rwa [show n + (8 - n) = 8 by omega] at this
theorem pp_pred {a b : Nat} (ha : a < 2 ^ 30) (hb : b < 2 ^ 30) : (nI a = nI b - 1) ↔ a + 1 = b := by
  constructor
  · intro h
    have h1 := congrArg Int32.toInt h
    rw [nI_toInt (by omega), show (1 : Int32) = nI 1 from rfl, pk_sub_toInt hb (by decide)] at h1
    omega
  · intro h
    rw [← h, nI_pred]
theorem pp_succ {a b : Nat} (ha : a < 2 ^ 30) (hb : b < 2 ^ 30) : (nI a = nI b + 1) ↔ a = b + 1 := by
  rw [nI_1]
  exact nI_eq (by omega) (by omega)
theorem jj_colour {n : Nat} {A f : Nat → Nat} {p : Nat} (hf : ∀ q, f q < 2 ^ 30) : decide (pp_cnt (fun q => (A p).testBit q && decide (nI (f q) = nI (f p))) n = 0) = pp_all (fun q => !((A p).testBit q) || decide (f q ≠ f p)) n := by
  apply Bool.eq_iff_iff.mpr
  rw [decide_eq_true_eq, jj_cnt0, pp_all_iff]
  constructor
  · intro h q hq
    have := h q hq
    simp only [Bool.and_eq_false_iff, decide_eq_false_iff_not] at this
    simp only [Bool.or_eq_true, Bool.not_eq_true', decide_eq_true_eq]
    rcases this with h1 | h1
    · exact Or.inl h1
    · exact Or.inr (fun e => h1 (by rw [e]))
  · intro h q hq
    have := h q hq
    simp only [Bool.or_eq_true, Bool.not_eq_true', decide_eq_true_eq] at this
    simp only [Bool.and_eq_false_iff, decide_eq_false_iff_not]
    rcases this with h1 | h1
    · exact Or.inl h1
    · exact Or.inr (fun e => h1 ((nI_eq (Nat.lt_trans (hf q) (by decide)) (Nat.lt_trans (hf p) (by decide))).mp e))
theorem jj_lead {n : Nat} {A mk f : Nat → Nat} {p : Nat} (hf : ∀ q, f q < 2 ^ 30) : (jj_suits mk 2 p (f p) && jj_fl n A f p) = jj_acc n A mk 2 f p := by
  unfold jj_suits jj_fl jj_acc
  simp only [show ¬ (2 = 0) by decide, show ¬ (2 = 1) by decide, if_false, if_true]
  apply Bool.eq_iff_iff.mpr
  by_cases h0 : f p % 8 = 0
  · simp only [h0, if_true, decide_true, Bool.true_or, Bool.and_true, Bool.and_eq_true, decide_eq_true_eq]
    constructor
    · rintro ⟨⟨h1, h2⟩, h3⟩
      exact ⟨h3, h2.symm, h1⟩
    · rintro ⟨h3, h2, h1⟩
      exact ⟨⟨h1, h2.symm⟩, h3⟩
  · simp only [h0, if_false, decide_false, Bool.false_or, Bool.and_eq_true, decide_eq_true_eq]
    rw [jj_cntpos]
    have eany : pp_all (fun q => !((A p).testBit q) || decide (f q / 8 = f p / 8)) n = true → (pp_any (fun q => (A p).testBit q && decide (nI (f q) = nI (f p) - 1)) n = true ↔ pp_any (fun q => (A p).testBit q && decide (f q % 8 + 1 = f p % 8)) n = true) := by
      intro hall
      rw [pp_any_iff, pp_any_iff]
      have conv : ∀ q, q < n → (A p).testBit q = true → (nI (f q) = nI (f p) - 1 ↔ f q % 8 + 1 = f p % 8) := by
        intro q hq hb
        have h8 := pp_all_iff.mp hall q hq
        simp only [hb, Bool.not_true, Bool.false_or, decide_eq_true_eq] at h8
        rw [pp_pred (hf q) (hf p)]
        omega
      constructor
      · rintro ⟨q, hq, hb⟩
        simp only [Bool.and_eq_true, decide_eq_true_eq] at hb
        exact ⟨q, hq, by simp only [Bool.and_eq_true, decide_eq_true_eq]; exact ⟨hb.1, (conv q hq hb.1).mp hb.2⟩⟩
      · rintro ⟨q, hq, hb⟩
        simp only [Bool.and_eq_true, decide_eq_true_eq] at hb
        exact ⟨q, hq, by simp only [Bool.and_eq_true, decide_eq_true_eq]; exact ⟨hb.1, (conv q hq hb.1).mpr hb.2⟩⟩
    constructor
    · rintro ⟨h1, h2, h3⟩
      exact ⟨h2, h1, (eany h2).mp h3⟩
    · rintro ⟨h2, h1, h3⟩
      exact ⟨h1, h2, (eany h2).mpr h3⟩
theorem jj_tree {n : Nat} {A mk f : Nat → Nat} {p : Nat} (n8 : n ≤ 8) (hA : jj_ok n A) (hf : ∀ q, f q < 2 ^ 30) {sc : Nat} (h0 : ¬ sc = 0) (h1 : ¬ sc = 1) (h2 : ¬ sc = 2) (h3 : ¬ sc = 3) : (jj_suits mk sc p (f p) && jj_ho n A f p) = jj_acc n A mk sc f p := by
  unfold jj_suits jj_ho jj_acc
  simp only [h0, h1, h2, h3, if_false]
  have ep : pp_cnt (fun q => (A p).testBit q && decide (nI (f q) = nI (f p) - 1)) n = pp_cnt (fun q => (A p).testBit q && decide (f q + 1 = f p)) n := pp_cnt_eq (fun q _ => by
    congr 1
    exact decide_eq_decide.mpr (pp_pred (hf q) (hf p)))
  have es : pp_cnt (fun q => (A p).testBit q && decide (nI (f q) = nI (f p) + 1)) n = pp_cnt (fun q => (A p).testBit q && decide (f q = f p + 1)) n := pp_cnt_eq (fun q _ => by
    congr 1
    exact decide_eq_decide.mpr (pp_succ (hf q) (hf p)))
  rw [ep, es, jj_pop n8 hA]
  congr 1
  apply Bool.eq_iff_iff.mpr
  rw [Bool.and_eq_true, Bool.and_eq_true, decide_eq_true_eq, decide_eq_true_eq, (jj_cnt2 (P := fun q => (A p).testBit q && decide (f q + 1 = f p)) (Q := fun q => (A p).testBit q && decide (f q = f p + 1)) (R := (A p).testBit) (fun q h => by simp only [Bool.and_eq_true] at h; exact h.1) (fun q h => by simp only [Bool.and_eq_true] at h; exact h.1) (fun q h => by simp only [Bool.and_eq_true, decide_eq_true_eq] at h; omega)).2]
  have eall : (∀ q, q < n → (A p).testBit q = true → ((A p).testBit q && decide (f q + 1 = f p)) = true ∨ ((A p).testBit q && decide (f q = f p + 1)) = true) ↔ pp_all (fun q => !((A p).testBit q) || (decide (f q + 1 = f p) || decide (f q = f p + 1))) n = true := by
    rw [pp_all_iff]
    constructor
    · intro h q hq
      cases hb : (A p).testBit q with
      | false => rfl
      | true =>
        have := h q hq hb
        simpa [hb] using this
    · intro h q hq hb
      have := h q hq
      simpa [hb] using this
  rw [eall, and_comm]
  apply and_congr_right
  intro _
  by_cases hz : f p = 0
  · simp only [hz, if_true, decide_true, Bool.true_or, iff_true]
    exact jj_cnt0.mpr (fun q _ => by simp)
  · simp only [hz, if_false, decide_false, Bool.false_or, decide_eq_true_eq]
set_option maxHeartbeats 4000000 in
set_option maxRecDepth 20000 in
theorem t_saysYes {l : Launch} {d : Nat} (hd : 1 < d) {h : mm_H} {n : Nat} {A mk f : Nat → Nat} (hN : cc_N h n A mk) (hok : jj_ok n A) {sc a p : Nat} (hsc : sc < 5) (ha : mm_len a = 8) (hf : ∀ q, q < 8 → h a q = nI (f q)) (hf2 : ∀ q, f q < 2 ^ 30) (hp : p < 8) : mm_Ev l d M0_saysYes [.ref 1, .int (nI sc), .ref a, .int (nI p)] h (fun r h' => r = some (.int (pp_b (jj_acc n A mk sc f p))) ∧ h' = h) := by
  have hfp := hf2 p
  refine mm_Ev.of (by decide +kernel) (Nat.le_of_ble_eq_true rfl) (mm_go_ok [14] _ (S0_saysYes l d _ _) _ _ _ _ ?_)
  dsimp only [P0_saysYes, N0_saysYes, mm_go, mm_in, mm_en, mm_nth, mm_put, mm_sto, mm_stoL, mm_ag, mm_dr, Nat.reduceSub, List.replicate, Option.toList, List.cons_append, List.nil_append, se_int, se_lng, se_iload, se_lload, se_aload, se_istore, se_lstore, se_astore, se_iinc, se_iadd, se_isub, se_imul, se_iand, se_ior, se_ixor, se_ishl, se_ishr, se_iushr, se_ladd, se_lsub, se_lmul, se_idiv, se_irem, se_ldiv, se_lrem, se_i2l, se_lcmp, se_dup, se_pop, se_dup2, se_goto, se_if_eq, se_icmp_eq, se_if_ne, se_icmp_ne, se_if_lt, se_icmp_lt, se_if_ge, se_icmp_ge, se_if_gt, se_icmp_gt, se_if_le, se_icmp_le, se_iaload, se_iastore, se_alen, se_places, se_getI, se_getR, se_put, se_ret, se_lret, se_vret, mm_sw, se_switch, se_callS, se_callV, se_copy, se_max, se_min, mm_len_2, mm_len_3, mm_len_4, mm_len_6, mm_len_8, mm_len_10, mm_len_11, mm_len_12, mm_len_13, mm_len_14, mm_len_15, mm_len_17, mm_len_18, mm_len_19, mm_len_20, mm_len_21, mm_len_22, mm_len_23, mm_len_24, mm_len_25]
  try simp only [eq_self, true_and, and_true, Bool.false_eq_true, false_implies, true_implies, true_or, or_true, mm_numI, mm_numL, mm_numN, pp_i10, pp_i01, pp_im1, not_false_eq_true, not_true_eq_false, false_or, or_false]
  rw [ha, nI_clamp (show p < 2 ^ 31 by omega), hf p hp]
  refine ⟨vp_in_nI hp (by decide), 0, _, by omega, t_suits hN hsc hp hfp, rfl, rfl, ?_⟩
  rintro _ _ ⟨rfl, rfl⟩
  dsimp only [mm_go, mm_in, mm_en, mm_nth, mm_put, mm_sto, mm_stoL, mm_ag, mm_dr, Nat.reduceSub, List.replicate, Option.toList, List.cons_append, List.nil_append, se_int, se_lng, se_iload, se_lload, se_aload, se_istore, se_lstore, se_astore, se_iinc, se_iadd, se_isub, se_imul, se_iand, se_ior, se_ixor, se_ishl, se_ishr, se_iushr, se_ladd, se_lsub, se_lmul, se_idiv, se_irem, se_ldiv, se_lrem, se_i2l, se_lcmp, se_dup, se_pop, se_dup2, se_goto, se_if_eq, se_icmp_eq, se_if_ne, se_icmp_ne, se_if_lt, se_icmp_lt, se_if_ge, se_icmp_ge, se_if_gt, se_icmp_gt, se_if_le, se_icmp_le, se_iaload, se_iastore, se_alen, se_places, se_getI, se_getR, se_put, se_ret, se_lret, se_vret, mm_sw, se_switch, se_callS, se_callV, se_copy, se_max, se_min, mm_len_2, mm_len_3, mm_len_4, mm_len_6, mm_len_8, mm_len_10, mm_len_11, mm_len_12, mm_len_13, mm_len_14, mm_len_15, mm_len_17, mm_len_18, mm_len_19, mm_len_20, mm_len_21, mm_len_22, mm_len_23, mm_len_24, mm_len_25]
  try simp only [eq_self, true_and, and_true, Bool.false_eq_true, false_implies, true_implies, true_or, or_true, mm_numI, mm_numL, mm_numN, pp_i10, pp_i01, pp_im1, not_false_eq_true, not_true_eq_false, false_or, or_false]
  rw [pp_bne, pp_beq]
  refine ⟨fun hs => ?_, fun hs => ?_⟩
  · refine mm_go_ok [] _ (S0_saysYes l d _ _) _ _ _ _ ?_
    dsimp only [P0_saysYes, N0_saysYes, mm_go, mm_in, mm_en, mm_nth, mm_put, mm_sto, mm_stoL, mm_ag, mm_dr, Nat.reduceSub, List.replicate, Option.toList, List.cons_append, List.nil_append, se_int, se_lng, se_iload, se_lload, se_aload, se_istore, se_lstore, se_astore, se_iinc, se_iadd, se_isub, se_imul, se_iand, se_ior, se_ixor, se_ishl, se_ishr, se_iushr, se_ladd, se_lsub, se_lmul, se_idiv, se_irem, se_ldiv, se_lrem, se_i2l, se_lcmp, se_dup, se_pop, se_dup2, se_goto, se_if_eq, se_icmp_eq, se_if_ne, se_icmp_ne, se_if_lt, se_icmp_lt, se_if_ge, se_icmp_ge, se_if_gt, se_icmp_gt, se_if_le, se_icmp_le, se_iaload, se_iastore, se_alen, se_places, se_getI, se_getR, se_put, se_ret, se_lret, se_vret, mm_sw, se_switch, se_callS, se_callV, se_copy, se_max, se_min, mm_len_2, mm_len_3, mm_len_4, mm_len_6, mm_len_8, mm_len_10, mm_len_11, mm_len_12, mm_len_13, mm_len_14, mm_len_15, mm_len_17, mm_len_18, mm_len_19, mm_len_20, mm_len_21, mm_len_22, mm_len_23, mm_len_24, mm_len_25]
    try simp only [eq_self, true_and, and_true, Bool.false_eq_true, false_implies, true_implies, true_or, or_true, mm_numI, mm_numL, mm_numN, pp_i10, pp_i01, pp_im1, not_false_eq_true, not_true_eq_false, false_or, or_false]
    have e0 : (nI sc = 0) ↔ sc = 0 := pp_eq0 (by omega)
    have e1 : (nI sc = 1) ↔ sc = 1 := pp_eq1 (by omega)
    have e2 : (nI sc = 2) ↔ sc = 2 := nI_eq (b := 2) (by omega) (by decide)
    have e3 : (nI sc = 3) ↔ sc = 3 := nI_eq (b := 3) (by omega) (by decide)
    rw [e0, e1, e2, e3, ha, nI_clamp (show p < 2 ^ 31 by omega), hf p hp]
    have col : (sc = 0 ∨ sc = 1) → jj_acc n A mk sc f p = decide (pp_cnt (fun q => (A p).testBit q && decide (nI (f q) = nI (f p))) n = 0) := by
      intro hc
      rw [jj_colour hf2]
      rcases hc with hc | hc
      · subst hc
        have : decide (f p < 2) = true := by simpa [jj_suits] using hs
        simp only [jj_acc, if_true, this, Bool.true_and]
      · subst hc
        have : decide (f p < 3) = true := by simpa [jj_suits] using hs
        simp only [jj_acc, show ¬ (1 = 0) by decide, if_false, if_true, this, Bool.true_and]
    have lc := pp_cnt_le (fun q => (A p).testBit q && decide (nI (f q) = nI (f p))) n
    have n8 := hN.2.1
    refine ⟨fun h0 => ?_, fun h0 => ⟨fun h1 => ?_, fun h1 => ⟨fun h2 => ?_, fun h2 => ⟨fun h3 => ?_, fun h3 => ?_⟩⟩⟩⟩
    · refine ⟨vp_in_nI hp (by decide), 0, _, by omega, t_nearWith hN ha hf hp _, rfl, rfl, ?_⟩
      rintro _ _ ⟨rfl, rfl⟩
      dsimp only [mm_go, mm_in, mm_en, mm_nth, mm_put, mm_sto, mm_stoL, mm_ag, mm_dr, Nat.reduceSub, List.replicate, Option.toList, List.cons_append, List.nil_append, se_int, se_lng, se_iload, se_lload, se_aload, se_istore, se_lstore, se_astore, se_iinc, se_iadd, se_isub, se_imul, se_iand, se_ior, se_ixor, se_ishl, se_ishr, se_iushr, se_ladd, se_lsub, se_lmul, se_idiv, se_irem, se_ldiv, se_lrem, se_i2l, se_lcmp, se_dup, se_pop, se_dup2, se_goto, se_if_eq, se_icmp_eq, se_if_ne, se_icmp_ne, se_if_lt, se_icmp_lt, se_if_ge, se_icmp_ge, se_if_gt, se_icmp_gt, se_if_le, se_icmp_le, se_iaload, se_iastore, se_alen, se_places, se_getI, se_getR, se_put, se_ret, se_lret, se_vret, mm_sw, se_switch, se_callS, se_callV, se_copy, se_max, se_min, mm_len_2, mm_len_3, mm_len_4, mm_len_6, mm_len_8, mm_len_10, mm_len_11, mm_len_12, mm_len_13, mm_len_14, mm_len_15, mm_len_17, mm_len_18, mm_len_19, mm_len_20, mm_len_21, mm_len_22, mm_len_23, mm_len_24, mm_len_25]
      try simp only [eq_self, true_and, and_true, Bool.false_eq_true, false_implies, true_implies, true_or, or_true, mm_numI, mm_numL, mm_numN, pp_i10, pp_i01, pp_im1, not_false_eq_true, not_true_eq_false, false_or, or_false]
      rw [pp_eq0 (by omega), col (Or.inl h0)]
      exact ⟨fun hc => pp_b0 (by simpa using hc), fun hc => pp_b1 (by simpa using hc)⟩
    · refine ⟨vp_in_nI hp (by decide), 0, _, by omega, t_nearWith hN ha hf hp _, rfl, rfl, ?_⟩
      rintro _ _ ⟨rfl, rfl⟩
      dsimp only [mm_go, mm_in, mm_en, mm_nth, mm_put, mm_sto, mm_stoL, mm_ag, mm_dr, Nat.reduceSub, List.replicate, Option.toList, List.cons_append, List.nil_append, se_int, se_lng, se_iload, se_lload, se_aload, se_istore, se_lstore, se_astore, se_iinc, se_iadd, se_isub, se_imul, se_iand, se_ior, se_ixor, se_ishl, se_ishr, se_iushr, se_ladd, se_lsub, se_lmul, se_idiv, se_irem, se_ldiv, se_lrem, se_i2l, se_lcmp, se_dup, se_pop, se_dup2, se_goto, se_if_eq, se_icmp_eq, se_if_ne, se_icmp_ne, se_if_lt, se_icmp_lt, se_if_ge, se_icmp_ge, se_if_gt, se_icmp_gt, se_if_le, se_icmp_le, se_iaload, se_iastore, se_alen, se_places, se_getI, se_getR, se_put, se_ret, se_lret, se_vret, mm_sw, se_switch, se_callS, se_callV, se_copy, se_max, se_min, mm_len_2, mm_len_3, mm_len_4, mm_len_6, mm_len_8, mm_len_10, mm_len_11, mm_len_12, mm_len_13, mm_len_14, mm_len_15, mm_len_17, mm_len_18, mm_len_19, mm_len_20, mm_len_21, mm_len_22, mm_len_23, mm_len_24, mm_len_25]
      try simp only [eq_self, true_and, and_true, Bool.false_eq_true, false_implies, true_implies, true_or, or_true, mm_numI, mm_numL, mm_numN, pp_i10, pp_i01, pp_im1, not_false_eq_true, not_true_eq_false, false_or, or_false]
      rw [pp_eq0 (by omega), col (Or.inr h1)]
      exact ⟨fun hc => pp_b0 (by simpa using hc), fun hc => pp_b1 (by simpa using hc)⟩
    · refine ⟨1, _, hd, t_followsLeader (by decide) hN ha hf hf2 hp, rfl, rfl, ?_⟩
      rintro _ _ ⟨rfl, rfl⟩
      dsimp only [mm_go, mm_in, mm_en, mm_nth, mm_put, mm_sto, mm_stoL, mm_ag, mm_dr, Nat.reduceSub, List.replicate, Option.toList, List.cons_append, List.nil_append, se_int, se_lng, se_iload, se_lload, se_aload, se_istore, se_lstore, se_astore, se_iinc, se_iadd, se_isub, se_imul, se_iand, se_ior, se_ixor, se_ishl, se_ishr, se_iushr, se_ladd, se_lsub, se_lmul, se_idiv, se_irem, se_ldiv, se_lrem, se_i2l, se_lcmp, se_dup, se_pop, se_dup2, se_goto, se_if_eq, se_icmp_eq, se_if_ne, se_icmp_ne, se_if_lt, se_icmp_lt, se_if_ge, se_icmp_ge, se_if_gt, se_icmp_gt, se_if_le, se_icmp_le, se_iaload, se_iastore, se_alen, se_places, se_getI, se_getR, se_put, se_ret, se_lret, se_vret, mm_sw, se_switch, se_callS, se_callV, se_copy, se_max, se_min, mm_len_2, mm_len_3, mm_len_4, mm_len_6, mm_len_8, mm_len_10, mm_len_11, mm_len_12, mm_len_13, mm_len_14, mm_len_15, mm_len_17, mm_len_18, mm_len_19, mm_len_20, mm_len_21, mm_len_22, mm_len_23, mm_len_24, mm_len_25]
      try simp only [eq_self, true_and, and_true, Bool.false_eq_true, false_implies, true_implies, true_or, or_true, mm_numI, mm_numL, mm_numN, pp_i10, pp_i01, pp_im1, not_false_eq_true, not_true_eq_false, false_or, or_false]
      subst h2
      rw [← jj_lead hf2, hs]
      exact ⟨rfl, pp_b01 _⟩
    · refine ⟨1, _, hd, t_isScattered (by decide) hN hp (hok p), rfl, rfl, ?_⟩
      rintro _ _ ⟨rfl, rfl⟩
      dsimp only [mm_go, mm_in, mm_en, mm_nth, mm_put, mm_sto, mm_stoL, mm_ag, mm_dr, Nat.reduceSub, List.replicate, Option.toList, List.cons_append, List.nil_append, se_int, se_lng, se_iload, se_lload, se_aload, se_istore, se_lstore, se_astore, se_iinc, se_iadd, se_isub, se_imul, se_iand, se_ior, se_ixor, se_ishl, se_ishr, se_iushr, se_ladd, se_lsub, se_lmul, se_idiv, se_irem, se_ldiv, se_lrem, se_i2l, se_lcmp, se_dup, se_pop, se_dup2, se_goto, se_if_eq, se_icmp_eq, se_if_ne, se_icmp_ne, se_if_lt, se_icmp_lt, se_if_ge, se_icmp_ge, se_if_gt, se_icmp_gt, se_if_le, se_icmp_le, se_iaload, se_iastore, se_alen, se_places, se_getI, se_getR, se_put, se_ret, se_lret, se_vret, mm_sw, se_switch, se_callS, se_callV, se_copy, se_max, se_min, mm_len_2, mm_len_3, mm_len_4, mm_len_6, mm_len_8, mm_len_10, mm_len_11, mm_len_12, mm_len_13, mm_len_14, mm_len_15, mm_len_17, mm_len_18, mm_len_19, mm_len_20, mm_len_21, mm_len_22, mm_len_23, mm_len_24, mm_len_25]
      try simp only [eq_self, true_and, and_true, Bool.false_eq_true, false_implies, true_implies, true_or, or_true, mm_numI, mm_numL, mm_numN, pp_i10, pp_i01, pp_im1, not_false_eq_true, not_true_eq_false, false_or, or_false]
      subst h3
      have : jj_acc n A mk 3 f p = jj_good n A mk p := by
        have : decide (f p = 0) = true := by simpa [jj_suits] using hs
        simp only [jj_acc, show ¬ (3 = 0) by decide, show ¬ (3 = 1) by decide, show ¬ (3 = 2) by decide, if_false, if_true, this, Bool.true_and]
      rw [this]
      exact ⟨rfl, pp_b01 _⟩
    · refine ⟨1, _, hd, t_hangsOnOne (by decide) hN ha hf hf2 hp, rfl, rfl, ?_⟩
      rintro _ _ ⟨rfl, rfl⟩
      dsimp only [mm_go, mm_in, mm_en, mm_nth, mm_put, mm_sto, mm_stoL, mm_ag, mm_dr, Nat.reduceSub, List.replicate, Option.toList, List.cons_append, List.nil_append, se_int, se_lng, se_iload, se_lload, se_aload, se_istore, se_lstore, se_astore, se_iinc, se_iadd, se_isub, se_imul, se_iand, se_ior, se_ixor, se_ishl, se_ishr, se_iushr, se_ladd, se_lsub, se_lmul, se_idiv, se_irem, se_ldiv, se_lrem, se_i2l, se_lcmp, se_dup, se_pop, se_dup2, se_goto, se_if_eq, se_icmp_eq, se_if_ne, se_icmp_ne, se_if_lt, se_icmp_lt, se_if_ge, se_icmp_ge, se_if_gt, se_icmp_gt, se_if_le, se_icmp_le, se_iaload, se_iastore, se_alen, se_places, se_getI, se_getR, se_put, se_ret, se_lret, se_vret, mm_sw, se_switch, se_callS, se_callV, se_copy, se_max, se_min, mm_len_2, mm_len_3, mm_len_4, mm_len_6, mm_len_8, mm_len_10, mm_len_11, mm_len_12, mm_len_13, mm_len_14, mm_len_15, mm_len_17, mm_len_18, mm_len_19, mm_len_20, mm_len_21, mm_len_22, mm_len_23, mm_len_24, mm_len_25]
      try simp only [eq_self, true_and, and_true, Bool.false_eq_true, false_implies, true_implies, true_or, or_true, mm_numI, mm_numL, mm_numN, pp_i10, pp_i01, pp_im1, not_false_eq_true, not_true_eq_false, false_or, or_false]
      rw [← jj_tree n8 hok hf2 h0 h1 h2 h3, hs]
      exact ⟨rfl, pp_b01 _⟩
  · refine pp_b0 ?_
    have : sc = 0 ∨ sc = 1 ∨ sc = 2 ∨ sc = 3 ∨ sc = 4 := by omega
    rcases this with e | e | e | e | e <;> subst e
    · simp only [jj_suits, if_true] at hs
      simp only [jj_acc, if_true, hs, Bool.false_and]
    · simp only [jj_suits, show ¬ (1 = 0) by decide, if_false, if_true] at hs
      simp only [jj_acc, show ¬ (1 = 0) by decide, if_false, if_true, hs, Bool.false_and]
    · rw [← jj_lead hf2, hs, Bool.false_and]
    · simp only [jj_suits, show ¬ (3 = 0) by decide, show ¬ (3 = 1) by decide, show ¬ (3 = 2) by decide, if_false, if_true] at hs
      simp only [jj_acc, show ¬ (3 = 0) by decide, show ¬ (3 = 1) by decide, show ¬ (3 = 2) by decide, if_false, if_true, hs, Bool.false_and]
    · rw [← jj_tree hN.2.1 hok hf2 (by decide) (by decide) (by decide) (by decide), hs, Bool.false_and]
