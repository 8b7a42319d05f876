/-! ===== the library's own; the net's small methods; the judge ===== -/
def pp_b (b : Bool) : Int32 := match b with
  | true => 1
  | false => 0
theorem pp_b1 {b : Bool} (h : b = true) : some (Value.int 1) = some (.int (pp_b b)) := by rw [h]; rfl
theorem pp_b0 {b : Bool} (h : b = false) : some (Value.int 0) = some (.int (pp_b b)) := by rw [h]; rfl
theorem pp_b01 (b : Bool) : pp_b b = 0 ∨ pp_b b = 1 := by cases b <;> simp [pp_b]
theorem pp_bne {b : Bool} : (¬ pp_b b = 0) ↔ b = true := by cases b <;> simp [pp_b]
theorem pp_beq {b : Bool} : pp_b b = 0 ↔ b = false := by cases b <;> simp [pp_b]
def pp_pop (a : Nat) : Nat := pp_cnt a.testBit 8
set_option maxRecDepth 20000 in
theorem t_bitCount (l : Launch) (d : Nat) (h : mm_H) (a : Nat) (ha : a < 256) : mm_Ev l d MJ_bitCount [.int (nI a)] h (fun r h' => r = some (.int (nI (pp_pop a))) ∧ h' = h) := by
  refine mm_Ev.of (by decide +kernel) (Nat.le_of_ble_eq_true rfl) (mm_go_ok [] _ (SJ_bitCount l d _ _) _ _ _ _ ?_)
  dsimp only [PJ_bitCount, NJ_bitCount, mm_go, mm_in, mm_en, mm_nth, mm_put, mm_sto, mm_stoL, mm_ag, mm_dr, Nat.reduceSub, List.replicate, Option.toList, List.cons_append, List.nil_append, se_int, se_lng, se_iload, se_lload, se_aload, se_istore, se_lstore, se_astore, se_iinc, se_iadd, se_isub, se_imul, se_iand, se_ior, se_ixor, se_ishl, se_ishr, se_iushr, se_ladd, se_lsub, se_lmul, se_idiv, se_irem, se_ldiv, se_lrem, se_i2l, se_lcmp, se_dup, se_pop, se_dup2, se_goto, se_if_eq, se_icmp_eq, se_if_ne, se_icmp_ne, se_if_lt, se_icmp_lt, se_if_ge, se_icmp_ge, se_if_gt, se_icmp_gt, se_if_le, se_icmp_le, se_iaload, se_iastore, se_alen, se_places, se_getI, se_getR, se_put, se_ret, se_lret, se_vret, mm_sw, se_switch, se_callS, se_callV, se_copy, se_max, se_min, mm_len_2, mm_len_3, mm_len_4, mm_len_6, mm_len_8, mm_len_10, mm_len_11, mm_len_12, mm_len_13, mm_len_14, mm_len_15, mm_len_17, mm_len_18, mm_len_19, mm_len_20, mm_len_21, mm_len_22, mm_len_23, mm_len_24, mm_len_25]
  try simp only [eq_self, true_and, and_true, Bool.false_eq_true, false_implies, true_implies, true_or, or_true, mm_numI, mm_numL, mm_numN, pp_i10, pp_i01, pp_im1, not_false_eq_true, not_true_eq_false, false_or, or_false]
  have key : ∀ a : Fin 256, (fun x : Int32 => (fun x : Int32 => (fun x : Int32 => (fun x : Int32 => (fun x : Int32 => x &&& 63) (x + (x.toUInt32 >>> (Int32.toUInt32 16 &&& Int32.toUInt32 31)).toInt32)) (x + (x.toUInt32 >>> (Int32.toUInt32 8 &&& Int32.toUInt32 31)).toInt32)) ((x + (x.toUInt32 >>> (Int32.toUInt32 4 &&& Int32.toUInt32 31)).toInt32) &&& 252645135)) ((x &&& 858993459) + ((x.toUInt32 >>> (Int32.toUInt32 2 &&& Int32.toUInt32 31)).toInt32 &&& 858993459))) ((nI a.val) - (((nI a.val).toUInt32 >>> (Int32.toUInt32 1 &&& Int32.toUInt32 31)).toInt32 &&& 1431655765)) = nI (pp_pop a.val) := by decide +kernel
  have := key ⟨a, ha⟩
  dsimp only at this
  rw [this]
theorem mm_setA_same (h : mm_H) (c : Nat) (f : Nat → Int32) : mm_setA h c f c = f := by
  unfold mm_setA
  rw [if_pos rfl]
theorem mm_setA_ne {h : mm_H} {c a : Nat} {f : Nat → Int32} (ha : a ≠ c) : mm_setA h c f a = h a := by
  unfold mm_setA
  rw [if_neg ha]
theorem mm_set_ne {h : mm_H} {c a k : Nat} {v : Int32} (ha : a ≠ c) : mm_set h c k v a = h a := by
  funext b
  unfold mm_set
  rw [if_neg ha]
theorem mm_set_same (h : mm_H) (c k : Nat) (v : Int32) : mm_set h c k v c k = v := by
  unfold mm_set
  rw [if_pos rfl, if_pos rfl]
theorem mm_set_other {h : mm_H} {c k j : Nat} {v : Int32} (hj : j ≠ k) : mm_set h c k v c j = h c j := by
  unfold mm_set
  rw [if_pos rfl, if_neg hj]
theorem mm_set_setA (h : mm_H) (c k : Nat) (f : Nat → Int32) (v : Int32) : mm_set (mm_setA h c f) c k v = mm_setA h c (upd f k v) := by
  funext a b
  unfold mm_set mm_setA upd
  by_cases ha : a = c
  · simp [ha]
  · simp [ha]
theorem mm_setA_setA (h : mm_H) (c : Nat) (f g : Nat → Int32) : mm_setA (mm_setA h c f) c g = mm_setA h c g := by
  funext a
  unfold mm_setA
  by_cases ha : a = c
  · simp [ha]
  · simp [ha]
theorem mm_setA_id (h : mm_H) (c : Nat) : mm_setA h c (h c) = h := by
  funext a
  unfold mm_setA
  by_cases ha : a = c
  · simp [ha]
  · simp [ha]
def pp_fill (f : Nat → Int32) (v : Int32) (k : Nat) : Nat → Int32 := fun j => if j < k then v else f j
theorem pp_fill_s (f : Nat → Int32) (v : Int32) (k : Nat) : upd (pp_fill f v k) k v = pp_fill f v (k + 1) := by
  funext j
  unfold upd pp_fill
  by_cases hj : j = k
  · simp [hj]
  · by_cases h1 : j < k
    · simp [hj, h1, Nat.lt_succ_of_lt h1]
    · have h2 : ¬ j < k + 1 := by omega
      simp [hj, h1, h2]
theorem pp_fill_0 (f : Nat → Int32) (v : Int32) : pp_fill f v 0 = f := by
  funext j
  simp [pp_fill]
set_option maxRecDepth 20000 in
theorem t_fill_loop {l : Launch} {d : Nat} {E : mm_X} {h : mm_H} {a : Nat} (ha : ¬ a = 25) {v : Int32} {post : mm_Po} (hl : mm_len a < 2 ^ 31) (hp : post none (mm_setA h a (pp_fill (h a) v (mm_len a)))) : ∀ (k i : Nat), i + k = mm_len a → mm_At l d MJ_fill E post 5 [some (.ref a), some (.int v), some (.int (nI i)), some (.int (nI (mm_len a)))] [] (mm_setA h a (pp_fill (h a) v i)) := by
  intro k
  induction k with
  | zero =>
    intro i hi
    refine mm_go_ok [] _ (SJ_fill l d _ _) _ _ _ _ ?_
    dsimp only [PJ_fill, NJ_fill, mm_go, mm_in, mm_en, mm_nth, mm_put, mm_sto, mm_stoL, mm_ag, mm_dr, Nat.reduceSub, List.replicate, Option.toList, List.cons_append, List.nil_append, se_int, se_lng, se_iload, se_lload, se_aload, se_istore, se_lstore, se_astore, se_iinc, se_iadd, se_isub, se_imul, se_iand, se_ior, se_ixor, se_ishl, se_ishr, se_iushr, se_ladd, se_lsub, se_lmul, se_idiv, se_irem, se_ldiv, se_lrem, se_i2l, se_lcmp, se_dup, se_pop, se_dup2, se_goto, se_if_eq, se_icmp_eq, se_if_ne, se_icmp_ne, se_if_lt, se_icmp_lt, se_if_ge, se_icmp_ge, se_if_gt, se_icmp_gt, se_if_le, se_icmp_le, se_iaload, se_iastore, se_alen, se_places, se_getI, se_getR, se_put, se_ret, se_lret, se_vret, mm_sw, se_switch, se_callS, se_callV, se_copy, se_max, se_min, mm_len_2, mm_len_3, mm_len_4, mm_len_6, mm_len_8, mm_len_10, mm_len_11, mm_len_12, mm_len_13, mm_len_14, mm_len_15, mm_len_17, mm_len_18, mm_len_19, mm_len_20, mm_len_21, mm_len_22, mm_len_23, mm_len_24, mm_len_25]
    try simp only [eq_self, true_and, and_true, Bool.false_eq_true, false_implies, true_implies, true_or, or_true, mm_numI, mm_numL, mm_numN, pp_i10, pp_i01, pp_im1, not_false_eq_true, not_true_eq_false, false_or, or_false]
    refine ⟨fun _ => by rw [show i = mm_len a by omega]; exact hp, fun hc => absurd (nI_le (by omega) (by omega)) hc⟩
  | succ k ih =>
    intro i hi
    refine mm_go_ok [] _ (SJ_fill l d _ _) _ _ _ _ ?_
    dsimp only [PJ_fill, NJ_fill, mm_go, mm_in, mm_en, mm_nth, mm_put, mm_sto, mm_stoL, mm_ag, mm_dr, Nat.reduceSub, List.replicate, Option.toList, List.cons_append, List.nil_append, se_int, se_lng, se_iload, se_lload, se_aload, se_istore, se_lstore, se_astore, se_iinc, se_iadd, se_isub, se_imul, se_iand, se_ior, se_ixor, se_ishl, se_ishr, se_iushr, se_ladd, se_lsub, se_lmul, se_idiv, se_irem, se_ldiv, se_lrem, se_i2l, se_lcmp, se_dup, se_pop, se_dup2, se_goto, se_if_eq, se_icmp_eq, se_if_ne, se_icmp_ne, se_if_lt, se_icmp_lt, se_if_ge, se_icmp_ge, se_if_gt, se_icmp_gt, se_if_le, se_icmp_le, se_iaload, se_iastore, se_alen, se_places, se_getI, se_getR, se_put, se_ret, se_lret, se_vret, mm_sw, se_switch, se_callS, se_callV, se_copy, se_max, se_min, mm_len_2, mm_len_3, mm_len_4, mm_len_6, mm_len_8, mm_len_10, mm_len_11, mm_len_12, mm_len_13, mm_len_14, mm_len_15, mm_len_17, mm_len_18, mm_len_19, mm_len_20, mm_len_21, mm_len_22, mm_len_23, mm_len_24, mm_len_25]
    try simp only [eq_self, true_and, and_true, Bool.false_eq_true, false_implies, true_implies, true_or, or_true, mm_numI, mm_numL, mm_numN, pp_i10, pp_i01, pp_im1, not_false_eq_true, not_true_eq_false, false_or, or_false]
    have ih := ih (i + 1) (by omega)
    refine ⟨fun hc => absurd hc (nI_ge (by omega) (by omega)), fun _ => ⟨ha, vp_in_nI (by omega) (by omega), ?_⟩⟩
    rw [nI_clamp (by omega), mm_set_setA, pp_fill_s, nI_1]
    exact ih
set_option maxRecDepth 20000 in
theorem t_fill (l : Launch) (d : Nat) (h : mm_H) (a : Nat) (ha : ¬ a = 25) (h0 : 0 < mm_len a) (hl : mm_len a < 2 ^ 31) (v : Int32) : mm_Ev l d MJ_fill [.ref a, .int v] h (fun r h' => r = none ∧ h' = mm_setA h a (pp_fill (h a) v (mm_len a))) := by
  refine mm_Ev.of (by decide +kernel) (Nat.le_of_ble_eq_true rfl) (mm_go_ok [5] _ (SJ_fill l d _ _) _ _ _ _ ?_)
  dsimp only [PJ_fill, NJ_fill, mm_go, mm_in, mm_en, mm_nth, mm_put, mm_sto, mm_stoL, mm_ag, mm_dr, Nat.reduceSub, List.replicate, Option.toList, List.cons_append, List.nil_append, se_int, se_lng, se_iload, se_lload, se_aload, se_istore, se_lstore, se_astore, se_iinc, se_iadd, se_isub, se_imul, se_iand, se_ior, se_ixor, se_ishl, se_ishr, se_iushr, se_ladd, se_lsub, se_lmul, se_idiv, se_irem, se_ldiv, se_lrem, se_i2l, se_lcmp, se_dup, se_pop, se_dup2, se_goto, se_if_eq, se_icmp_eq, se_if_ne, se_icmp_ne, se_if_lt, se_icmp_lt, se_if_ge, se_icmp_ge, se_if_gt, se_icmp_gt, se_if_le, se_icmp_le, se_iaload, se_iastore, se_alen, se_places, se_getI, se_getR, se_put, se_ret, se_lret, se_vret, mm_sw, se_switch, se_callS, se_callV, se_copy, se_max, se_min, mm_len_2, mm_len_3, mm_len_4, mm_len_6, mm_len_8, mm_len_10, mm_len_11, mm_len_12, mm_len_13, mm_len_14, mm_len_15, mm_len_17, mm_len_18, mm_len_19, mm_len_20, mm_len_21, mm_len_22, mm_len_23, mm_len_24, mm_len_25]
  try simp only [eq_self, true_and, and_true, Bool.false_eq_true, false_implies, true_implies, true_or, or_true, mm_numI, mm_numL, mm_numN, pp_i10, pp_i01, pp_im1, not_false_eq_true, not_true_eq_false, false_or, or_false]
  refine ⟨h0, ?_⟩
  have := t_fill_loop (l := l) (d := d) (E := fun _ _ _ => True) (h := h) (v := v) (post := fun r h' => r = none ∧ h' = mm_setA h a (pp_fill (h a) v (mm_len a))) ha hl ⟨rfl, rfl⟩ (mm_len a) 0 (by omega)
  rw [pp_fill_0, mm_setA_id] at this
  exact this
/-! the net -/
set_option maxRecDepth 20000 in
theorem t_joined {l : Launch} {d : Nat} {h : mm_H} {n : Nat} {A mk : Nat → Nat} (hN : cc_N h n A mk) {p q : Nat} (hp : p < 8) (hq : q < 8) : mm_Ev l d M2_joined [.ref 1, .int (nI p), .int (nI q)] h (fun r h' => r = some (.int (pp_b ((A p).testBit q))) ∧ h' = h) := by
  obtain ⟨n1, n8, hn, hA, hm, hA8, hm4⟩ := hN
  refine mm_Ev.of (by decide +kernel) (Nat.le_of_ble_eq_true rfl) (mm_go_ok [] _ (S2_joined l d _ _) _ _ _ _ ?_)
  dsimp only [P2_joined, N2_joined, mm_go, mm_in, mm_en, mm_nth, mm_put, mm_sto, mm_stoL, mm_ag, mm_dr, Nat.reduceSub, List.replicate, Option.toList, List.cons_append, List.nil_append, se_int, se_lng, se_iload, se_lload, se_aload, se_istore, se_lstore, se_astore, se_iinc, se_iadd, se_isub, se_imul, se_iand, se_ior, se_ixor, se_ishl, se_ishr, se_iushr, se_ladd, se_lsub, se_lmul, se_idiv, se_irem, se_ldiv, se_lrem, se_i2l, se_lcmp, se_dup, se_pop, se_dup2, se_goto, se_if_eq, se_icmp_eq, se_if_ne, se_icmp_ne, se_if_lt, se_icmp_lt, se_if_ge, se_icmp_ge, se_if_gt, se_icmp_gt, se_if_le, se_icmp_le, se_iaload, se_iastore, se_alen, se_places, se_getI, se_getR, se_put, se_ret, se_lret, se_vret, mm_sw, se_switch, se_callS, se_callV, se_copy, se_max, se_min, mm_len_2, mm_len_3, mm_len_4, mm_len_6, mm_len_8, mm_len_10, mm_len_11, mm_len_12, mm_len_13, mm_len_14, mm_len_15, mm_len_17, mm_len_18, mm_len_19, mm_len_20, mm_len_21, mm_len_22, mm_len_23, mm_len_24, mm_len_25]
  try simp only [eq_self, true_and, and_true, Bool.false_eq_true, false_implies, true_implies, true_or, or_true, mm_numI, mm_numL, mm_numN, pp_i10, pp_i01, pp_im1, not_false_eq_true, not_true_eq_false, false_or, or_false]
  rw [nI_clamp (show p < 2 ^ 31 by omega), hA p hp, pp_bit (Nat.lt_trans (hA8 p) (by decide)) (by omega)]
  refine ⟨vp_in_nI hp (by decide), ?_⟩
  cases (A p).testBit q <;> rfl
set_option maxRecDepth 20000 in
theorem t_leaders_loop {l : Launch} {d : Nat} {E : mm_X} {h : mm_H} {n : Nat} {A mk : Nat → Nat} (hN : cc_N h n A mk) : ∀ (k p : Nat), p + k = n → mm_At l d M2_leaders E (fun r h' => r = some (.int (nI (pp_msk (fun q => decide (mk q = 1)) n))) ∧ h' = h) 4 [some (.ref 1), some (.int (nI (pp_msk (fun q => decide (mk q = 1)) p))), some (.int (nI p))] [] h := by
  obtain ⟨n1, n8, hn, hA, hm, hA8, hm4⟩ := hN
  intro k
  induction k with
  | zero =>
    intro p hp
    refine mm_go_ok [] _ (S2_leaders l d _ _) _ _ _ _ ?_
    dsimp only [P2_leaders, N2_leaders, mm_go, mm_in, mm_en, mm_nth, mm_put, mm_sto, mm_stoL, mm_ag, mm_dr, Nat.reduceSub, List.replicate, Option.toList, List.cons_append, List.nil_append, se_int, se_lng, se_iload, se_lload, se_aload, se_istore, se_lstore, se_astore, se_iinc, se_iadd, se_isub, se_imul, se_iand, se_ior, se_ixor, se_ishl, se_ishr, se_iushr, se_ladd, se_lsub, se_lmul, se_idiv, se_irem, se_ldiv, se_lrem, se_i2l, se_lcmp, se_dup, se_pop, se_dup2, se_goto, se_if_eq, se_icmp_eq, se_if_ne, se_icmp_ne, se_if_lt, se_icmp_lt, se_if_ge, se_icmp_ge, se_if_gt, se_icmp_gt, se_if_le, se_icmp_le, se_iaload, se_iastore, se_alen, se_places, se_getI, se_getR, se_put, se_ret, se_lret, se_vret, mm_sw, se_switch, se_callS, se_callV, se_copy, se_max, se_min, mm_len_2, mm_len_3, mm_len_4, mm_len_6, mm_len_8, mm_len_10, mm_len_11, mm_len_12, mm_len_13, mm_len_14, mm_len_15, mm_len_17, mm_len_18, mm_len_19, mm_len_20, mm_len_21, mm_len_22, mm_len_23, mm_len_24, mm_len_25]
    try simp only [eq_self, true_and, and_true, Bool.false_eq_true, false_implies, true_implies, true_or, or_true, mm_numI, mm_numL, mm_numN, pp_i10, pp_i01, pp_im1, not_false_eq_true, not_true_eq_false, false_or, or_false]
    rw [hn]
    refine ⟨fun _ => ?_, fun hc => absurd (nI_le (by omega) (by omega)) hc⟩
    rw [show p = n by omega]
  | succ k ih =>
    intro p hp
    refine mm_go_ok [] _ (S2_leaders l d _ _) _ _ _ _ ?_
    dsimp only [P2_leaders, N2_leaders, mm_go, mm_in, mm_en, mm_nth, mm_put, mm_sto, mm_stoL, mm_ag, mm_dr, Nat.reduceSub, List.replicate, Option.toList, List.cons_append, List.nil_append, se_int, se_lng, se_iload, se_lload, se_aload, se_istore, se_lstore, se_astore, se_iinc, se_iadd, se_isub, se_imul, se_iand, se_ior, se_ixor, se_ishl, se_ishr, se_iushr, se_ladd, se_lsub, se_lmul, se_idiv, se_irem, se_ldiv, se_lrem, se_i2l, se_lcmp, se_dup, se_pop, se_dup2, se_goto, se_if_eq, se_icmp_eq, se_if_ne, se_icmp_ne, se_if_lt, se_icmp_lt, se_if_ge, se_icmp_ge, se_if_gt, se_icmp_gt, se_if_le, se_icmp_le, se_iaload, se_iastore, se_alen, se_places, se_getI, se_getR, se_put, se_ret, se_lret, se_vret, mm_sw, se_switch, se_callS, se_callV, se_copy, se_max, se_min, mm_len_2, mm_len_3, mm_len_4, mm_len_6, mm_len_8, mm_len_10, mm_len_11, mm_len_12, mm_len_13, mm_len_14, mm_len_15, mm_len_17, mm_len_18, mm_len_19, mm_len_20, mm_len_21, mm_len_22, mm_len_23, mm_len_24, mm_len_25]
    try simp only [eq_self, true_and, and_true, Bool.false_eq_true, false_implies, true_implies, true_or, or_true, mm_numI, mm_numL, mm_numN, pp_i10, pp_i01, pp_im1, not_false_eq_true, not_true_eq_false, false_or, or_false]
    have ih := ih (p + 1) (by omega)
    rw [hn, nI_clamp (show p < 2 ^ 31 by omega), hm p (by omega), nI_1]
    refine ⟨fun hc => absurd hc (nI_ge (by omega) (by omega)), fun _ => ⟨vp_in_nI (by omega) (by decide), fun hc => ?_, fun hc => ?_⟩⟩
    · rw [pp_msk_skip (by simpa using fun e => hc (by rw [e]; rfl))] at ih
      exact ih
    · have e : mk p = 1 := (nI_eq (b := 1) (Nat.lt_trans (hm4 p) (by decide)) (by decide)).mp hc
      rw [pp_msk_step (by omega) (by simpa using e)]
      exact ih
set_option maxRecDepth 20000 in
theorem t_leaders {l : Launch} {d : Nat} {h : mm_H} {n : Nat} {A mk : Nat → Nat} (hN : cc_N h n A mk) : mm_Ev l d M2_leaders [.ref 1] h (fun r h' => r = some (.int (nI (pp_msk (fun q => decide (mk q = 1)) n))) ∧ h' = h) := by
  refine mm_Ev.of (by decide +kernel) (Nat.le_of_ble_eq_true rfl) (mm_go_ok [4] _ (S2_leaders l d _ _) _ _ _ _ ?_)
  dsimp only [P2_leaders, N2_leaders, mm_go, mm_in, mm_en, mm_nth, mm_put, mm_sto, mm_stoL, mm_ag, mm_dr, Nat.reduceSub, List.replicate, Option.toList, List.cons_append, List.nil_append, se_int, se_lng, se_iload, se_lload, se_aload, se_istore, se_lstore, se_astore, se_iinc, se_iadd, se_isub, se_imul, se_iand, se_ior, se_ixor, se_ishl, se_ishr, se_iushr, se_ladd, se_lsub, se_lmul, se_idiv, se_irem, se_ldiv, se_lrem, se_i2l, se_lcmp, se_dup, se_pop, se_dup2, se_goto, se_if_eq, se_icmp_eq, se_if_ne, se_icmp_ne, se_if_lt, se_icmp_lt, se_if_ge, se_icmp_ge, se_if_gt, se_icmp_gt, se_if_le, se_icmp_le, se_iaload, se_iastore, se_alen, se_places, se_getI, se_getR, se_put, se_ret, se_lret, se_vret, mm_sw, se_switch, se_callS, se_callV, se_copy, se_max, se_min, mm_len_2, mm_len_3, mm_len_4, mm_len_6, mm_len_8, mm_len_10, mm_len_11, mm_len_12, mm_len_13, mm_len_14, mm_len_15, mm_len_17, mm_len_18, mm_len_19, mm_len_20, mm_len_21, mm_len_22, mm_len_23, mm_len_24, mm_len_25]
  try simp only [eq_self, true_and, and_true, Bool.false_eq_true, false_implies, true_implies, true_or, or_true, mm_numI, mm_numL, mm_numN, pp_i10, pp_i01, pp_im1, not_false_eq_true, not_true_eq_false, false_or, or_false]
  exact t_leaders_loop hN n 0 (by omega)
set_option maxRecDepth 20000 in
theorem t_nearWith {l : Launch} {d : Nat} {h : mm_H} {n : Nat} {A mk f : Nat → Nat} (hN : cc_N h n A mk) {a p : Nat} (ha : mm_len a = 8) (hf : ∀ q, q < 8 → h a q = nI (f q)) (hp : p < 8) (x : Int32) : mm_Ev l d M0_nearWith [.ref 1, .ref a, .int (nI p), .int x] h (fun r h' => r = some (.int (nI (pp_cnt (fun q => (A p).testBit q && decide (nI (f q) = x)) n))) ∧ h' = h) := by
  refine mm_Ev.of (by decide +kernel) (Nat.le_of_ble_eq_true rfl) (mm_go_ok [6] _ (S0_nearWith l d _ _) _ _ _ _ ?_)
  dsimp only [P0_nearWith, N0_nearWith, mm_go, mm_in, mm_en, mm_nth, mm_put, mm_sto, mm_stoL, mm_ag, mm_dr, Nat.reduceSub, List.replicate, Option.toList, List.cons_append, List.nil_append, se_int, se_lng, se_iload, se_lload, se_aload, se_istore, se_lstore, se_astore, se_iinc, se_iadd, se_isub, se_imul, se_iand, se_ior, se_ixor, se_ishl, se_ishr, se_iushr, se_ladd, se_lsub, se_lmul, se_idiv, se_irem, se_ldiv, se_lrem, se_i2l, se_lcmp, se_dup, se_pop, se_dup2, se_goto, se_if_eq, se_icmp_eq, se_if_ne, se_icmp_ne, se_if_lt, se_icmp_lt, se_if_ge, se_icmp_ge, se_if_gt, se_icmp_gt, se_if_le, se_icmp_le, se_iaload, se_iastore, se_alen, se_places, se_getI, se_getR, se_put, se_ret, se_lret, se_vret, mm_sw, se_switch, se_callS, se_callV, se_copy, se_max, se_min, mm_len_2, mm_len_3, mm_len_4, mm_len_6, mm_len_8, mm_len_10, mm_len_11, mm_len_12, mm_len_13, mm_len_14, mm_len_15, mm_len_17, mm_len_18, mm_len_19, mm_len_20, mm_len_21, mm_len_22, mm_len_23, mm_len_24, mm_len_25]
  try simp only [eq_self, true_and, and_true, Bool.false_eq_true, false_implies, true_implies, true_or, or_true, mm_numI, mm_numL, mm_numN, pp_i10, pp_i01, pp_im1, not_false_eq_true, not_true_eq_false, false_or, or_false]
  exact t_nearWith_loop hN ha hf hp x _ n 0 (by omega)
/-! the judge: what is accepted -/
def jj_good (n : Nat) (A mk : Nat → Nat) (p : Nat) : Bool := (pp_any (fun q => (A p).testBit q && decide (mk q = 1)) n) != decide (mk p = 1)
theorem pp_b_ne {a b : Bool} : pp_b a = pp_b b ↔ a = b := by cases a <;> cases b <;> simp [pp_b]
set_option maxRecDepth 20000 in
theorem t_isScattered {l : Launch} {d : Nat} (hd : 0 < d) {h : mm_H} {n : Nat} {A mk : Nat → Nat} (hN : cc_N h n A mk) {p : Nat} (hp : p < 8) (hAn : ∀ q, (A p).testBit q = true → q < n) : mm_Ev l d M0_isScattered [.ref 1, .int (nI p)] h (fun r h' => r = some (.int (pp_b (jj_good n A mk p))) ∧ h' = h) := by
  have hN' := hN
  obtain ⟨n1, n8, hn, hA, hm, hA8, hm4⟩ := hN
  refine mm_Ev.of (by decide +kernel) (Nat.le_of_ble_eq_true rfl) (mm_go_ok [] _ (S0_isScattered l d _ _) _ _ _ _ ?_)
  dsimp only [P0_isScattered, N0_isScattered, mm_go, mm_in, mm_en, mm_nth, mm_put, mm_sto, mm_stoL, mm_ag, mm_dr, Nat.reduceSub, List.replicate, Option.toList, List.cons_append, List.nil_append, se_int, se_lng, se_iload, se_lload, se_aload, se_istore, se_lstore, se_astore, se_iinc, se_iadd, se_isub, se_imul, se_iand, se_ior, se_ixor, se_ishl, se_ishr, se_iushr, se_ladd, se_lsub, se_lmul, se_idiv, se_irem, se_ldiv, se_lrem, se_i2l, se_lcmp, se_dup, se_pop, se_dup2, se_goto, se_if_eq, se_icmp_eq, se_if_ne, se_icmp_ne, se_if_lt, se_icmp_lt, se_if_ge, se_icmp_ge, se_if_gt, se_icmp_gt, se_if_le, se_icmp_le, se_iaload, se_iastore, se_alen, se_places, se_getI, se_getR, se_put, se_ret, se_lret, se_vret, mm_sw, se_switch, se_callS, se_callV, se_copy, se_max, se_min, mm_len_2, mm_len_3, mm_len_4, mm_len_6, mm_len_8, mm_len_10, mm_len_11, mm_len_12, mm_len_13, mm_len_14, mm_len_15, mm_len_17, mm_len_18, mm_len_19, mm_len_20, mm_len_21, mm_len_22, mm_len_23, mm_len_24, mm_len_25]
  try simp only [eq_self, true_and, and_true, Bool.false_eq_true, false_implies, true_implies, true_or, or_true, mm_numI, mm_numL, mm_numN, pp_i10, pp_i01, pp_im1, not_false_eq_true, not_true_eq_false, false_or, or_false]
  have hlt : pp_msk (fun q => decide (mk q = 1)) n < 2 ^ 8 := Nat.lt_of_lt_of_le (pp_msk_lt _ _) (Nat.pow_le_pow_right (by decide) n8)
  refine ⟨vp_in_nI hp (by decide), 0, _, hd, t_leaders hN', rfl, ?_⟩
  rintro _ _ ⟨rfl, rfl⟩
  dsimp only [mm_go, mm_in, mm_en, mm_nth, mm_put, mm_sto, mm_stoL, mm_ag, mm_dr, Nat.reduceSub, List.replicate, Option.toList, List.cons_append, List.nil_append, se_int, se_lng, se_iload, se_lload, se_aload, se_istore, se_lstore, se_astore, se_iinc, se_iadd, se_isub, se_imul, se_iand, se_ior, se_ixor, se_ishl, se_ishr, se_iushr, se_ladd, se_lsub, se_lmul, se_idiv, se_irem, se_ldiv, se_lrem, se_i2l, se_lcmp, se_dup, se_pop, se_dup2, se_goto, se_if_eq, se_icmp_eq, se_if_ne, se_icmp_ne, se_if_lt, se_icmp_lt, se_if_ge, se_icmp_ge, se_if_gt, se_icmp_gt, se_if_le, se_icmp_le, se_iaload, se_iastore, se_alen, se_places, se_getI, se_getR, se_put, se_ret, se_lret, se_vret, mm_sw, se_switch, se_callS, se_callV, se_copy, se_max, se_min, mm_len_2, mm_len_3, mm_len_4, mm_len_6, mm_len_8, mm_len_10, mm_len_11, mm_len_12, mm_len_13, mm_len_14, mm_len_15, mm_len_17, mm_len_18, mm_len_19, mm_len_20, mm_len_21, mm_len_22, mm_len_23, mm_len_24, mm_len_25]
  try simp only [eq_self, true_and, and_true, Bool.false_eq_true, false_implies, true_implies, true_or, or_true, mm_numI, mm_numL, mm_numN, pp_i10, pp_i01, pp_im1, not_false_eq_true, not_true_eq_false, false_or, or_false]
  rw [nI_clamp (show p < 2 ^ 31 by omega), hA p hp, hm p hp, pp_and _ _ (Nat.lt_trans (hA8 p) (by decide)) (Nat.lt_trans hlt (by decide))]
  have hany : (A p &&& pp_msk (fun q => decide (mk q = 1)) n = 0) ↔ pp_any (fun q => (A p).testBit q && decide (mk q = 1)) n = false := by
    constructor
    · intro h0
      apply Bool.eq_false_iff.mpr
      intro h1
      obtain ⟨j, hj, hb⟩ := pp_any_iff.mp h1
      have := congrArg (fun z => z.testBit j) h0
      simp only [Nat.testBit_and, pp_msk_bit, Nat.zero_testBit] at this
      simp only [Bool.and_eq_true] at hb
      simp [hj, hb.1, hb.2] at this
    · intro h0
      apply Nat.eq_of_testBit_eq
      intro j
      rw [Nat.testBit_and, pp_msk_bit, Nat.zero_testBit]
      apply Bool.eq_false_iff.mpr
      intro h1
      simp only [Bool.and_eq_true] at h1
      exact absurd ((pp_any_iff (P := fun q => (A p).testBit q && decide (mk q = 1))).mpr ⟨j, hAn j h1.1, by show ((A p).testBit j && decide (mk j = 1)) = true; rw [Bool.and_eq_true]; exact ⟨h1.1, h1.2.2⟩⟩) (by rw [h0]; exact Bool.false_ne_true)
  have h256 : A p &&& pp_msk (fun q => decide (mk q = 1)) n < 256 := Nat.lt_of_le_of_lt Nat.and_le_left (hA8 p)
  have e0 : (nI (A p &&& pp_msk (fun q => decide (mk q = 1)) n) = 0) ↔ pp_any (fun q => (A p).testBit q && decide (mk q = 1)) n = false := by
    rw [← hany]
    exact nI_eq (b := 0) (Nat.lt_trans h256 (by decide)) (by decide)
  have e1 : (nI (mk p) = 1) ↔ decide (mk p = 1) = true := by
    rw [decide_eq_true_eq]
    exact nI_eq (b := 1) (Nat.lt_trans (hm4 p) (by decide)) (by decide)
  rw [e0, e1]
  unfold jj_good
  cases pp_any (fun q => (A p).testBit q && decide (mk q = 1)) n <;> cases decide (mk p = 1) <;> simp [vp_in_nI hp, pp_b] <;> decide
