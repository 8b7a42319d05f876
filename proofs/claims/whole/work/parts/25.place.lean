/-! ===== the trial goes through all rows ===== -/
def rr_H (h : mm_H) (s fd : Int32) (g : Nat → Int32) : mm_H := mm_setA (mm_set (mm_set h 5 1 s) 5 2 fd) 6 g
theorem rr_H_s (h : mm_H) (s fd s' : Int32) (g : Nat → Int32) : mm_set (rr_H h s fd g) 5 1 s' = rr_H h s' fd g := by
  funext a b
  unfold rr_H mm_set mm_setA
  by_cases h5 : a = 5
  · subst h5
    by_cases h1 : b = 1
    · subst h1; simp
    · by_cases h2 : b = 2
      · subst h2; simp
      · simp [h1, h2]
  · simp [h5]
theorem rr_H_f (h : mm_H) (s fd f' : Int32) (g : Nat → Int32) : mm_set (rr_H h s fd g) 5 2 f' = rr_H h s f' g := by
  funext a b
  unfold rr_H mm_set mm_setA
  by_cases h5 : a = 5
  · subst h5
    by_cases h2 : b = 2
    · subst h2; simp
    · simp [h2]
  · simp [h5]
theorem rr_H_g (h : mm_H) (s fd : Int32) (g : Nat → Int32) (k : Nat) (v : Int32) : mm_set (rr_H h s fd g) 6 k v = rr_H h s fd (upd g k v) := mm_set_setA _ _ _ _ _
theorem rr_H_51 (h : mm_H) (s fd : Int32) (g : Nat → Int32) : rr_H h s fd g 5 1 = s := by
  unfold rr_H mm_set mm_setA
  simp
theorem rr_H_52 (h : mm_H) (s fd : Int32) (g : Nat → Int32) : rr_H h s fd g 5 2 = fd := by
  unfold rr_H mm_set mm_setA
  simp
theorem rr_H_5 (h : mm_H) (s fd : Int32) (g : Nat → Int32) {k : Nat} (h1 : k ≠ 1) (h2 : k ≠ 2) : rr_H h s fd g 5 k = h 5 k := by
  unfold rr_H mm_set mm_setA
  simp [h1, h2]
theorem rr_H_6 (h : mm_H) (s fd : Int32) (g : Nat → Int32) : rr_H h s fd g 6 = g := mm_setA_same _ _ _
theorem rr_H_ne (h : mm_H) (s fd : Int32) (g : Nat → Int32) {c : Nat} (h5 : c ≠ 5) (h6 : c ≠ 6) : rr_H h s fd g c = h c := by
  unfold rr_H
  rw [mm_setA_ne h6, mm_set_ne h5, mm_set_ne h5]
theorem rr_H_N {h : mm_H} {n : Nat} {A mk : Nat → Nat} (hN : cc_N h n A mk) (s fd : Int32) (g : Nat → Int32) : cc_N (rr_H h s fd g) n A mk := hN.cg (rr_H_ne _ _ _ _ (by decide) (by decide)) (rr_H_ne _ _ _ _ (by decide) (by decide)) (rr_H_ne _ _ _ _ (by decide) (by decide))
/-- cell 6 holds small numbers f -/
def rr_F (g : Nat → Int32) (f : Nat → Nat) : Prop := (∀ q, q < 8 → g q = nI (f q)) ∧ ∀ q, f q < 2 ^ 30
theorem rr_F_put {g : Nat → Int32} {f : Nat → Nat} (hF : rr_F g f) {p v : Nat} (hv : v < 2 ^ 30) : rr_F (upd g p (nI v)) (fun q => if q = p then v else f q) := by
  refine ⟨fun q hq => ?_, fun q => ?_⟩
  · unfold upd
    by_cases e : q = p
    · simp [e]
    · simp [e, hF.1 q hq]
  · dsimp only
    split
    · exact hv
    · exact hF.2 q
def rr_no (S : Nat → Bool) (w : Int32) (lo hi : Nat) : Prop := ∀ r, lo ≤ r → r < hi → S r = true → ¬ nI (pp_cnt S r) = w
/-- what is left behind the rows from lo to hi -/
def rr_P (h : mm_H) (S : Nat → Bool) (b n p : Nat) (w : Int32) (f : Nat → Nat) (lo hi : Nat) : mm_Po := fun r h' => r = none ∧ ∃ (g : Nat → Int32) (f' : Nat → Nat), rr_F g f' ∧ ((rr_no S w lo hi ∧ h' = rr_H h (nI (pp_cnt S hi)) 0 g ∧ ∀ q, q < p → f' q = f q) ∨ (∃ r, lo ≤ r ∧ r < hi ∧ S r = true ∧ nI (pp_cnt S r) = w ∧ h' = rr_H h (nI (pp_cnt S r + 1)) 1 g ∧ ∀ q, q < n → f' q = rr_d b n r q))
theorem rr_K_skip {S : Nat → Bool} {lo : Nat} : ∀ {k : Nat}, (∀ r, lo ≤ r → r < lo + k → S r = false) → pp_cnt S (lo + k) = pp_cnt S lo
  | 0, _ => rfl
  | k + 1, h => by
    rw [← Nat.add_assoc, pp_cnt_f (h (lo + k) (by omega) (by omega))]
    exact rr_K_skip (fun r h1 h2 => h r h1 (by omega))
theorem rr_pre {b p x v : Nat} {f : Nat → Nat} (hb0 : 0 < b) (hv : v < b) (hx : ∀ q, q < p → f q = x / b ^ (p - 1 - q) % b) : ∀ q, q < p + 1 → (if q = p then v else f q) = (x * b + v) / b ^ (p + 1 - 1 - q) % b := by
  intro q hq
  by_cases e : q = p
  · rw [if_pos e, e, show p + 1 - 1 - p = 0 by omega, Nat.pow_zero, Nat.div_one, Nat.mul_comm, Nat.mul_add_mod, Nat.mod_eq_of_lt hv]
  · rw [if_neg e, hx q (by omega), show p + 1 - 1 - q = 1 + (p - 1 - q) by omega, Nat.pow_add, Nat.pow_one, ← Nat.div_div_eq_div_mul]
    congr 2
    rw [Nat.mul_comm, Nat.mul_add_div hb0, Nat.div_eq_of_lt hv, Nat.add_zero]
theorem jj_still_cg {n : Nat} {A mk : Nat → Nat} {sc p : Nat} {f g : Nat → Nat} (h : ∀ q, q ≤ p → f q = g q) : jj_still n A mk sc f p = jj_still n A mk sc g p := pp_all_eq (fun q hq => by
  cases hl : jj_last A q p with
  | false => rfl
  | true => rw [jj_acc_cg (h q (by omega)) (fun j hj => h j (jj_last_near hl hj))])
set_option maxHeartbeats 8000000 in
set_option maxRecDepth 20000 in
theorem t_place_loop {l : Launch} {h : mm_H} {n : Nat} {A mk : Nat → Nat} (hN : cc_N h n A mk) (hok : jj_ok n A) {sc b : Nat} (hsc : sc < 5) (h54 : h 5 4 = nI sc) (hb0 : 0 < b) (hb : b ≤ 64) (h55 : h 5 5 = nI b) {w : Int32} {m p : Nat} (hp : p + (m + 1) = n)
    (ihp : ∀ (x : Nat) (f : Nat → Nat) (g : Nat → Int32), rr_F g f → (∀ q, q < p + 1 → f q = x / b ^ (p + 1 - 1 - q) % b) → (∀ p', p' < p + 1 → jj_still n A mk sc f p' = true) → mm_Ev l (4 + m) M4_place [.ref 5, .int (nI (p + 1))] (rr_H h (nI (pp_cnt (rr_S n A mk sc b) (x * b ^ m))) 0 g) (rr_P h (rr_S n A mk sc b) b n (p + 1) w f (x * b ^ m) ((x + 1) * b ^ m)))
    (x : Nat) (f0 : Nat → Nat) (E : mm_X) (d : Nat) (hd : d = 4 + (m + 1)) : ∀ (k v : Nat), v + k = b → ∀ (f : Nat → Nat) (g : Nat → Int32), rr_F g f → (∀ q, q < p → f q = f0 q) → (∀ q, q < p → f q = x / b ^ (p - 1 - q) % b) → (∀ p', p' < p → jj_still n A mk sc f p' = true) → rr_no (rr_S n A mk sc b) w (x * b ^ (m + 1)) ((x * b + v) * b ^ m) → mm_At l d M4_place E (rr_P h (rr_S n A mk sc b) b n p w f0 (x * b ^ (m + 1)) ((x + 1) * b ^ (m + 1))) 44 [some (.ref 5), some (.int (nI p)), some (.int (nI v))] [] (rr_H h (nI (pp_cnt (rr_S n A mk sc b) ((x * b + v) * b ^ m))) 0 g) := by
  have n8 := hN.2.1
  intro k
  induction k with
  | zero =>
    intro v hv f g hF hf0 hx hst hno
    have e : v = b := by omega
    subst e
    have ehi : (x * v + v) * v ^ m = (x + 1) * v ^ (m + 1) := by
      rw [Nat.pow_succ, Nat.mul_comm (v ^ m) v, ← Nat.mul_assoc, Nat.add_mul x 1 v, Nat.one_mul]
    rw [ehi] at hno ⊢
    refine mm_rn_ok [] _ (S4_place l d _ _) 1000 _ _ _ _ ?_
    simp only [G4_place_0, G4_place_1, G4_place_4, G4_place_5, G4_place_8, G4_place_11, G4_place_12, G4_place_13, G4_place_16, G4_place_17, G4_place_20, G4_place_23, G4_place_24, G4_place_27, G4_place_28, G4_place_31, G4_place_32, G4_place_33, G4_place_36, G4_place_37, G4_place_38, G4_place_41, G4_place_42, G4_place_43, G4_place_44, G4_place_45, G4_place_46, G4_place_49, G4_place_52, G4_place_53, G4_place_56, G4_place_59, G4_place_60, G4_place_63, G4_place_64, G4_place_67, G4_place_68, G4_place_69, G4_place_72, G4_place_75, G4_place_76, G4_place_79, G4_place_80, G4_place_81, G4_place_82, G4_place_83, G4_place_84, G4_place_87, G4_place_90, G4_place_91, G4_place_92, G4_place_93, G4_place_94, G4_place_97, G4_place_100, G4_place_103, N4_place, ↓mm_kc_ap, ↓mm_cut, mm_en, mm_nth, mm_put, mm_sto, mm_stoL, mm_ag, mm_dr, mm_sw, Nat.reduceSub, List.replicate, Option.toList, List.cons_append, List.nil_append, sq_int, sq_lng, sq_iload, sq_lload, sq_aload, sq_istore, sq_lstore, sq_astore, sq_iinc, sq_iadd, sq_isub, sq_imul, sq_iand, sq_ior, sq_ixor, sq_ishl, sq_ishr, sq_iushr, sq_ladd, sq_lsub, sq_lmul, sq_idiv, sq_irem, sq_ldiv, sq_lrem, sq_i2l, sq_lcmp, sq_dupI, sq_dupR, sq_pop, sq_dup2, sq_goto, sq_if_eq, sq_icmp_eq, sq_if_ne, sq_icmp_ne, sq_if_lt, sq_icmp_lt, sq_if_ge, sq_icmp_ge, sq_if_gt, sq_icmp_gt, sq_if_le, sq_icmp_le, sq_iaload, sq_iastore, sq_alen, sq_places, sq_getI, sq_getR, sq_put, sq_ret, sq_lret, sq_vret, sq_switch, sq_callS, sq_callV, sq_copy, sq_max, sq_min, mm_len_2, mm_len_3, mm_len_4, mm_len_6, mm_len_8, mm_len_10, mm_len_11, mm_len_12, mm_len_13, mm_len_14, mm_len_15, mm_len_17, mm_len_18, mm_len_19, mm_len_20, mm_len_21, mm_len_22, mm_len_23, mm_len_24, mm_len_25]
    try simp only [eq_self, true_and, and_true, Bool.false_eq_true, false_implies, true_implies, true_or, or_true, mm_numI, mm_numL, mm_numN, pp_i10, pp_i01, pp_im1, not_false_eq_true, not_true_eq_false, false_or, or_false]
    rw [rr_H_5 _ _ _ _ (by decide) (by decide), h55]
    exact ⟨fun _ => ⟨rfl, g, f, hF, Or.inl ⟨hno, rfl, hf0⟩⟩, fun hc => absurd (nI_le (Nat.le_refl _) (by omega)) hc⟩
  | succ k ih =>
    intro v hv f g hF hf0 hx hst hno
    have hvb : v < b := by omega
    have elo : x * b ^ (m + 1) = (x * b) * b ^ m := by
      rw [Nat.pow_succ, Nat.mul_comm (b ^ m) b, ← Nat.mul_assoc]
    have hsub : (x * b + v + 1) * b ^ m = (x * b + v) * b ^ m + b ^ m := by rw [Nat.add_mul, Nat.one_mul]
    have hF' : rr_F (upd g p (nI v)) (fun q => if q = p then v else f q) := rr_F_put hF (by omega)
    have hpre := rr_pre (f := f) hb0 hvb hx
    have dig : ∀ r, (x * b + v) * b ^ m ≤ r → r < (x * b + v) * b ^ m + b ^ m → ∀ q, q < p + 1 → rr_d b n r q = (if q = p then v else f q) := by
      intro r h1 h2 q hq
      rw [hpre q hq]
      have em : n - (p + 1) = m := by omega
      exact rr_blk (p := p + 1) (by omega) hq hb0 (by rw [em]; exact h1) (by rw [em, hsub]; exact h2)
    have skip : (∀ r, (x * b + v) * b ^ m ≤ r → r < (x * b + v) * b ^ m + b ^ m → rr_S n A mk sc b r = false) → rr_no (rr_S n A mk sc b) w (x * b ^ (m + 1)) ((x * b + (v + 1)) * b ^ m) ∧ pp_cnt (rr_S n A mk sc b) ((x * b + (v + 1)) * b ^ m) = pp_cnt (rr_S n A mk sc b) ((x * b + v) * b ^ m) := by
      intro hz
      rw [← Nat.add_assoc, hsub]
      refine ⟨fun r h1 h2 h3 => ?_, rr_K_skip hz⟩
      by_cases hr : r < (x * b + v) * b ^ m
      · exact hno r h1 hr h3
      · rw [hz r (by omega) h2] at h3
        cases h3
    refine mm_rn_ok [] _ (S4_place l d _ _) 1000 _ _ _ _ ?_
    simp only [G4_place_0, G4_place_1, G4_place_4, G4_place_5, G4_place_8, G4_place_11, G4_place_12, G4_place_13, G4_place_16, G4_place_17, G4_place_20, G4_place_23, G4_place_24, G4_place_27, G4_place_28, G4_place_31, G4_place_32, G4_place_33, G4_place_36, G4_place_37, G4_place_38, G4_place_41, G4_place_42, G4_place_43, G4_place_44, G4_place_45, G4_place_46, G4_place_49, G4_place_52, G4_place_53, G4_place_56, G4_place_59, G4_place_60, G4_place_63, G4_place_64, G4_place_67, G4_place_68, G4_place_69, G4_place_72, G4_place_75, G4_place_76, G4_place_79, G4_place_80, G4_place_81, G4_place_82, G4_place_83, G4_place_84, G4_place_87, G4_place_90, G4_place_91, G4_place_92, G4_place_93, G4_place_94, G4_place_97, G4_place_100, G4_place_103, N4_place, ↓mm_kc_ap, ↓mm_cut, mm_en, mm_nth, mm_put, mm_sto, mm_stoL, mm_ag, mm_dr, mm_sw, Nat.reduceSub, List.replicate, Option.toList, List.cons_append, List.nil_append, sq_int, sq_lng, sq_iload, sq_lload, sq_aload, sq_istore, sq_lstore, sq_astore, sq_iinc, sq_iadd, sq_isub, sq_imul, sq_iand, sq_ior, sq_ixor, sq_ishl, sq_ishr, sq_iushr, sq_ladd, sq_lsub, sq_lmul, sq_idiv, sq_irem, sq_ldiv, sq_lrem, sq_i2l, sq_lcmp, sq_dupI, sq_dupR, sq_pop, sq_dup2, sq_goto, sq_if_eq, sq_icmp_eq, sq_if_ne, sq_icmp_ne, sq_if_lt, sq_icmp_lt, sq_if_ge, sq_icmp_ge, sq_if_gt, sq_icmp_gt, sq_if_le, sq_icmp_le, sq_iaload, sq_iastore, sq_alen, sq_places, sq_getI, sq_getR, sq_put, sq_ret, sq_lret, sq_vret, sq_switch, sq_callS, sq_callV, sq_copy, sq_max, sq_min, mm_len_2, mm_len_3, mm_len_4, mm_len_6, mm_len_8, mm_len_10, mm_len_11, mm_len_12, mm_len_13, mm_len_14, mm_len_15, mm_len_17, mm_len_18, mm_len_19, mm_len_20, mm_len_21, mm_len_22, mm_len_23, mm_len_24, mm_len_25]
    try simp only [eq_self, true_and, and_true, Bool.false_eq_true, false_implies, true_implies, true_or, or_true, mm_numI, mm_numL, mm_numN, pp_i10, pp_i01, pp_im1, not_false_eq_true, not_true_eq_false, false_or, or_false]
    rw [rr_H_52, rr_H_5 _ _ _ _ (by decide) (by decide), h55, rr_H_5 _ _ _ _ (by decide) (by decide), h54]
    refine ⟨fun hc => absurd hc (nI_ge (by omega) (by omega)), fun _ => ⟨fun hc => absurd rfl hc, fun _ => ⟨0, _, by omega, t_suits (rr_H_N hN _ _ _) hsc (show p < 8 by omega) (show v < 2 ^ 30 by omega), rfl, rfl, ?_⟩⟩⟩
    rintro _ _ ⟨rfl, rfl⟩
    simp only [G4_place_0, G4_place_1, G4_place_4, G4_place_5, G4_place_8, G4_place_11, G4_place_12, G4_place_13, G4_place_16, G4_place_17, G4_place_20, G4_place_23, G4_place_24, G4_place_27, G4_place_28, G4_place_31, G4_place_32, G4_place_33, G4_place_36, G4_place_37, G4_place_38, G4_place_41, G4_place_42, G4_place_43, G4_place_44, G4_place_45, G4_place_46, G4_place_49, G4_place_52, G4_place_53, G4_place_56, G4_place_59, G4_place_60, G4_place_63, G4_place_64, G4_place_67, G4_place_68, G4_place_69, G4_place_72, G4_place_75, G4_place_76, G4_place_79, G4_place_80, G4_place_81, G4_place_82, G4_place_83, G4_place_84, G4_place_87, G4_place_90, G4_place_91, G4_place_92, G4_place_93, G4_place_94, G4_place_97, G4_place_100, G4_place_103, N4_place, ↓mm_kc_ap, ↓mm_cut, mm_en, mm_nth, mm_put, mm_sto, mm_stoL, mm_ag, mm_dr, mm_sw, Nat.reduceSub, List.replicate, Option.toList, List.cons_append, List.nil_append, sq_int, sq_lng, sq_iload, sq_lload, sq_aload, sq_istore, sq_lstore, sq_astore, sq_iinc, sq_iadd, sq_isub, sq_imul, sq_iand, sq_ior, sq_ixor, sq_ishl, sq_ishr, sq_iushr, sq_ladd, sq_lsub, sq_lmul, sq_idiv, sq_irem, sq_ldiv, sq_lrem, sq_i2l, sq_lcmp, sq_dupI, sq_dupR, sq_pop, sq_dup2, sq_goto, sq_if_eq, sq_icmp_eq, sq_if_ne, sq_icmp_ne, sq_if_lt, sq_icmp_lt, sq_if_ge, sq_icmp_ge, sq_if_gt, sq_icmp_gt, sq_if_le, sq_icmp_le, sq_iaload, sq_iastore, sq_alen, sq_places, sq_getI, sq_getR, sq_put, sq_ret, sq_lret, sq_vret, sq_switch, sq_callS, sq_callV, sq_copy, sq_max, sq_min, mm_len_2, mm_len_3, mm_len_4, mm_len_6, mm_len_8, mm_len_10, mm_len_11, mm_len_12, mm_len_13, mm_len_14, mm_len_15, mm_len_17, mm_len_18, mm_len_19, mm_len_20, mm_len_21, mm_len_22, mm_len_23, mm_len_24, mm_len_25]
    try simp only [eq_self, true_and, and_true, Bool.false_eq_true, false_implies, true_implies, true_or, or_true, mm_numI, mm_numL, mm_numN, pp_i10, pp_i01, pp_im1, not_false_eq_true, not_true_eq_false, false_or, or_false]
    rw [pp_bne, pp_beq, nI_1]
    refine ⟨fun hs => ?_, fun hs => ⟨by decide, vp_in_nI (by omega) (by decide), ?_⟩⟩
    · obtain ⟨s1, s2⟩ := skip (fun r h1 h2 => by
        apply Bool.eq_false_iff.mpr
        intro hS
        have := jj_acc_suits (pp_all_iff.mp hS p (by omega))
        rw [dig r h1 h2 p (by omega), if_pos rfl, hs] at this
        cases this)
      have ih := ih (v + 1) (by omega) f g hF hf0 hx hst s1
      rw [s2] at ih
      exact ih
    · rw [nI_clamp (show p < 2 ^ 31 by omega), rr_H_g]
      refine ⟨3, _, by omega, t_stillStands (by decide) (rr_H_N hN _ _ _) hok hsc (by rw [rr_H_5 _ _ _ _ (by decide) (by decide)]; exact h54) (by rw [rr_H_6]; exact hF'.1) hF'.2 (show p < n by omega), rfl, ?_⟩
      rintro _ _ ⟨rfl, rfl⟩
      simp only [G4_place_0, G4_place_1, G4_place_4, G4_place_5, G4_place_8, G4_place_11, G4_place_12, G4_place_13, G4_place_16, G4_place_17, G4_place_20, G4_place_23, G4_place_24, G4_place_27, G4_place_28, G4_place_31, G4_place_32, G4_place_33, G4_place_36, G4_place_37, G4_place_38, G4_place_41, G4_place_42, G4_place_43, G4_place_44, G4_place_45, G4_place_46, G4_place_49, G4_place_52, G4_place_53, G4_place_56, G4_place_59, G4_place_60, G4_place_63, G4_place_64, G4_place_67, G4_place_68, G4_place_69, G4_place_72, G4_place_75, G4_place_76, G4_place_79, G4_place_80, G4_place_81, G4_place_82, G4_place_83, G4_place_84, G4_place_87, G4_place_90, G4_place_91, G4_place_92, G4_place_93, G4_place_94, G4_place_97, G4_place_100, G4_place_103, N4_place, ↓mm_kc_ap, ↓mm_cut, mm_en, mm_nth, mm_put, mm_sto, mm_stoL, mm_ag, mm_dr, mm_sw, Nat.reduceSub, List.replicate, Option.toList, List.cons_append, List.nil_append, sq_int, sq_lng, sq_iload, sq_lload, sq_aload, sq_istore, sq_lstore, sq_astore, sq_iinc, sq_iadd, sq_isub, sq_imul, sq_iand, sq_ior, sq_ixor, sq_ishl, sq_ishr, sq_iushr, sq_ladd, sq_lsub, sq_lmul, sq_idiv, sq_irem, sq_ldiv, sq_lrem, sq_i2l, sq_lcmp, sq_dupI, sq_dupR, sq_pop, sq_dup2, sq_goto, sq_if_eq, sq_icmp_eq, sq_if_ne, sq_icmp_ne, sq_if_lt, sq_icmp_lt, sq_if_ge, sq_icmp_ge, sq_if_gt, sq_icmp_gt, sq_if_le, sq_icmp_le, sq_iaload, sq_iastore, sq_alen, sq_places, sq_getI, sq_getR, sq_put, sq_ret, sq_lret, sq_vret, sq_switch, sq_callS, sq_callV, sq_copy, sq_max, sq_min, mm_len_2, mm_len_3, mm_len_4, mm_len_6, mm_len_8, mm_len_10, mm_len_11, mm_len_12, mm_len_13, mm_len_14, mm_len_15, mm_len_17, mm_len_18, mm_len_19, mm_len_20, mm_len_21, mm_len_22, mm_len_23, mm_len_24, mm_len_25]
      try simp only [eq_self, true_and, and_true, Bool.false_eq_true, false_implies, true_implies, true_or, or_true, mm_numI, mm_numL, mm_numN, pp_i10, pp_i01, pp_im1, not_false_eq_true, not_true_eq_false, false_or, or_false]
      rw [pp_bne, pp_beq, nI_1, nI_1]
      have hx' : ∀ q, q < p → (if q = p then v else f q) = f q := fun q hq => if_neg (by omega)
      have hst' : ∀ p', p' < p → jj_still n A mk sc (fun q => if q = p then v else f q) p' = true := fun p' hp' => by
        rw [← hst p' hp']
        exact jj_still_cg (fun q hq => hx' q (by omega))
      refine ⟨fun hs2 => ?_, fun hs2 => ⟨4 + m, _, by omega, ihp (x * b + v) _ _ hF' hpre (fun p' hp' => ?_), rfl, rfl, ?_⟩⟩
      · obtain ⟨s1, s2⟩ := skip (fun r h1 h2 => by
          apply Bool.eq_false_iff.mpr
          intro hS
          have hc : jj_still n A mk sc (fun q => if q = p then v else f q) p = true := by
            rw [← jj_still_cg (fun q hq => dig r h1 h2 q (by omega))]
            show pp_all _ (p + 1) = true
            rw [pp_all_iff]
            intro q hq
            rw [pp_all_iff.mp hS q (by omega), Bool.or_true]
          rw [hs2] at hc
          cases hc)
        have ih := ih (v + 1) (by omega) _ _ hF' (fun q hq => by rw [hx' q hq]; exact hf0 q hq) (fun q hq => by rw [hx' q hq]; exact hx q hq) hst' s1
        rw [s2] at ih
        exact ih
      · rcases Nat.lt_succ_iff_lt_or_eq.mp hp' with h1 | h1
        · exact hst' p' h1
        · rw [h1]; exact hs2
      · rintro _ h' ⟨rfl, g', f', hF2, hcase⟩
        simp only [G4_place_0, G4_place_1, G4_place_4, G4_place_5, G4_place_8, G4_place_11, G4_place_12, G4_place_13, G4_place_16, G4_place_17, G4_place_20, G4_place_23, G4_place_24, G4_place_27, G4_place_28, G4_place_31, G4_place_32, G4_place_33, G4_place_36, G4_place_37, G4_place_38, G4_place_41, G4_place_42, G4_place_43, G4_place_44, G4_place_45, G4_place_46, G4_place_49, G4_place_52, G4_place_53, G4_place_56, G4_place_59, G4_place_60, G4_place_63, G4_place_64, G4_place_67, G4_place_68, G4_place_69, G4_place_72, G4_place_75, G4_place_76, G4_place_79, G4_place_80, G4_place_81, G4_place_82, G4_place_83, G4_place_84, G4_place_87, G4_place_90, G4_place_91, G4_place_92, G4_place_93, G4_place_94, G4_place_97, G4_place_100, G4_place_103, N4_place, ↓mm_kc_ap, ↓mm_cut, mm_en, mm_nth, mm_put, mm_sto, mm_stoL, mm_ag, mm_dr, mm_sw, Nat.reduceSub, List.replicate, Option.toList, List.cons_append, List.nil_append, sq_int, sq_lng, sq_iload, sq_lload, sq_aload, sq_istore, sq_lstore, sq_astore, sq_iinc, sq_iadd, sq_isub, sq_imul, sq_iand, sq_ior, sq_ixor, sq_ishl, sq_ishr, sq_iushr, sq_ladd, sq_lsub, sq_lmul, sq_idiv, sq_irem, sq_ldiv, sq_lrem, sq_i2l, sq_lcmp, sq_dupI, sq_dupR, sq_pop, sq_dup2, sq_goto, sq_if_eq, sq_icmp_eq, sq_if_ne, sq_icmp_ne, sq_if_lt, sq_icmp_lt, sq_if_ge, sq_icmp_ge, sq_if_gt, sq_icmp_gt, sq_if_le, sq_icmp_le, sq_iaload, sq_iastore, sq_alen, sq_places, sq_getI, sq_getR, sq_put, sq_ret, sq_lret, sq_vret, sq_switch, sq_callS, sq_callV, sq_copy, sq_max, sq_min, mm_len_2, mm_len_3, mm_len_4, mm_len_6, mm_len_8, mm_len_10, mm_len_11, mm_len_12, mm_len_13, mm_len_14, mm_len_15, mm_len_17, mm_len_18, mm_len_19, mm_len_20, mm_len_21, mm_len_22, mm_len_23, mm_len_24, mm_len_25]
        try simp only [eq_self, true_and, and_true, Bool.false_eq_true, false_implies, true_implies, true_or, or_true, mm_numI, mm_numL, mm_numN, pp_i10, pp_i01, pp_im1, not_false_eq_true, not_true_eq_false, false_or, or_false]
        rcases hcase with ⟨c1, rfl, c3⟩ | ⟨r, c1, c2, c3, c4, rfl, c6⟩
        · have eno : rr_no (rr_S n A mk sc b) w (x * b ^ (m + 1)) ((x * b + (v + 1)) * b ^ m) := fun r h1 h2 h3 => by
            by_cases hr : r < (x * b + v) * b ^ m
            · exact hno r h1 hr h3
            · exact c1 r (by omega) (by rw [← Nat.add_assoc] at h2; exact h2) h3
          have hf3 : ∀ q, q < p → f' q = f q := fun q hq => by rw [c3 q (by omega)]; exact hx' q hq
          have ih := ih (v + 1) (by omega) f' g' hF2 (fun q hq => by rw [hf3 q hq]; exact hf0 q hq) (fun q hq => by rw [hf3 q hq]; exact hx q hq) (fun p' hp' => by
            rw [← hst p' hp']
            exact jj_still_cg (fun q hq => hf3 q (by omega))) eno
          rw [← Nat.add_assoc] at ih
          exact ih
        · have hlo : x * b ^ (m + 1) ≤ r := by
            rw [elo]
            exact Nat.le_trans (Nat.mul_le_mul_right _ (Nat.le_add_right _ _)) c1
          have hhi : r < (x + 1) * b ^ (m + 1) := by
            have : (x * b + v + 1) * b ^ m ≤ (x + 1) * b ^ (m + 1) := by
              rw [Nat.pow_succ, Nat.mul_comm (b ^ m) b, ← Nat.mul_assoc]
              apply Nat.mul_le_mul_right
              rw [Nat.add_mul, Nat.one_mul]
              omega
            omega
          have fin : rr_P h (rr_S n A mk sc b) b n p w f0 (x * b ^ (m + 1)) ((x + 1) * b ^ (m + 1)) none (rr_H h (nI (pp_cnt (rr_S n A mk sc b) r + 1)) 1 g') := ⟨rfl, g', f', hF2, Or.inr ⟨r, hlo, hhi, c3, c4, rfl, c6⟩⟩
          refine mm_rn_ok [] _ (S4_place l d _ _) 1000 _ _ _ _ ?_
          simp only [G4_place_0, G4_place_1, G4_place_4, G4_place_5, G4_place_8, G4_place_11, G4_place_12, G4_place_13, G4_place_16, G4_place_17, G4_place_20, G4_place_23, G4_place_24, G4_place_27, G4_place_28, G4_place_31, G4_place_32, G4_place_33, G4_place_36, G4_place_37, G4_place_38, G4_place_41, G4_place_42, G4_place_43, G4_place_44, G4_place_45, G4_place_46, G4_place_49, G4_place_52, G4_place_53, G4_place_56, G4_place_59, G4_place_60, G4_place_63, G4_place_64, G4_place_67, G4_place_68, G4_place_69, G4_place_72, G4_place_75, G4_place_76, G4_place_79, G4_place_80, G4_place_81, G4_place_82, G4_place_83, G4_place_84, G4_place_87, G4_place_90, G4_place_91, G4_place_92, G4_place_93, G4_place_94, G4_place_97, G4_place_100, G4_place_103, N4_place, ↓mm_kc_ap, ↓mm_cut, mm_en, mm_nth, mm_put, mm_sto, mm_stoL, mm_ag, mm_dr, mm_sw, Nat.reduceSub, List.replicate, Option.toList, List.cons_append, List.nil_append, sq_int, sq_lng, sq_iload, sq_lload, sq_aload, sq_istore, sq_lstore, sq_astore, sq_iinc, sq_iadd, sq_isub, sq_imul, sq_iand, sq_ior, sq_ixor, sq_ishl, sq_ishr, sq_iushr, sq_ladd, sq_lsub, sq_lmul, sq_idiv, sq_irem, sq_ldiv, sq_lrem, sq_i2l, sq_lcmp, sq_dupI, sq_dupR, sq_pop, sq_dup2, sq_goto, sq_if_eq, sq_icmp_eq, sq_if_ne, sq_icmp_ne, sq_if_lt, sq_icmp_lt, sq_if_ge, sq_icmp_ge, sq_if_gt, sq_icmp_gt, sq_if_le, sq_icmp_le, sq_iaload, sq_iastore, sq_alen, sq_places, sq_getI, sq_getR, sq_put, sq_ret, sq_lret, sq_vret, sq_switch, sq_callS, sq_callV, sq_copy, sq_max, sq_min, mm_len_2, mm_len_3, mm_len_4, mm_len_6, mm_len_8, mm_len_10, mm_len_11, mm_len_12, mm_len_13, mm_len_14, mm_len_15, mm_len_17, mm_len_18, mm_len_19, mm_len_20, mm_len_21, mm_len_22, mm_len_23, mm_len_24, mm_len_25]
          try simp only [eq_self, true_and, and_true, Bool.false_eq_true, false_implies, true_implies, true_or, or_true, mm_numI, mm_numL, mm_numN, pp_i10, pp_i01, pp_im1, not_false_eq_true, not_true_eq_false, false_or, or_false]
          rw [rr_H_52]
          exact ⟨fun _ => fin, fun _ => ⟨fun _ => fin, fun hc => absurd hc (by decide)⟩⟩
set_option maxHeartbeats 8000000 in
set_option maxRecDepth 20000 in
theorem t_place {l : Launch} {h : mm_H} {n : Nat} {A mk : Nat → Nat} (hN : cc_N h n A mk) (hok : jj_ok n A) {sc b : Nat} (hsc : sc < 5) (h54 : h 5 4 = nI sc) (hb0 : 0 < b) (hb : b ≤ 64) (h55 : h 5 5 = nI b) {w : Int32} (h56 : h 5 6 = w) : ∀ (m p : Nat), p + m = n → ∀ (x : Nat) (f : Nat → Nat) (g : Nat → Int32), rr_F g f → (∀ q, q < p → f q = x / b ^ (p - 1 - q) % b) → (∀ p', p' < p → jj_still n A mk sc f p' = true) → mm_Ev l (4 + m) M4_place [.ref 5, .int (nI p)] (rr_H h (nI (pp_cnt (rr_S n A mk sc b) (x * b ^ m))) 0 g) (rr_P h (rr_S n A mk sc b) b n p w f (x * b ^ m) ((x + 1) * b ^ m)) := by
  have n8 := hN.2.1
  have hn := hN.2.2.1
  intro m
  induction m with
  | zero =>
    intro p hp x f g hF hx hst
    have e : p = n := by omega
    subst e
    rw [Nat.pow_zero, Nat.mul_one, Nat.mul_one]
    have hS : rr_S p A mk sc b x = true := by
      unfold rr_S
      rw [pp_all_iff]
      intro q hq
      obtain ⟨p', hp', hl⟩ := jj_last_ex hok hq
      have h1 := pp_all_iff.mp (show pp_all (fun q => !(jj_last A q p') || jj_acc p A mk sc f q) (p' + 1) = true from hst p' hp') q (by have := jj_last_self hl; omega)
      rw [hl] at h1
      have h2 : jj_acc p A mk sc f q = true := h1
      rw [← h2]
      have hd : ∀ j, j < p → rr_d b p x j = f j := fun j hj => by
        rw [hx j hj]
        rfl
      exact jj_acc_cg (hd q hq) (fun j hj => hd j (hok q j hj))
    refine mm_Ev.of (by decide +kernel) (Nat.le_of_ble_eq_true rfl) (mm_rn_ok [] _ (S4_place l _ _ _) 1000 _ _ _ _ ?_)
    simp only [G4_place_0, G4_place_1, G4_place_4, G4_place_5, G4_place_8, G4_place_11, G4_place_12, G4_place_13, G4_place_16, G4_place_17, G4_place_20, G4_place_23, G4_place_24, G4_place_27, G4_place_28, G4_place_31, G4_place_32, G4_place_33, G4_place_36, G4_place_37, G4_place_38, G4_place_41, G4_place_42, G4_place_43, G4_place_44, G4_place_45, G4_place_46, G4_place_49, G4_place_52, G4_place_53, G4_place_56, G4_place_59, G4_place_60, G4_place_63, G4_place_64, G4_place_67, G4_place_68, G4_place_69, G4_place_72, G4_place_75, G4_place_76, G4_place_79, G4_place_80, G4_place_81, G4_place_82, G4_place_83, G4_place_84, G4_place_87, G4_place_90, G4_place_91, G4_place_92, G4_place_93, G4_place_94, G4_place_97, G4_place_100, G4_place_103, N4_place, ↓mm_kc_ap, ↓mm_cut, mm_en, mm_nth, mm_put, mm_sto, mm_stoL, mm_ag, mm_dr, mm_sw, Nat.reduceSub, List.replicate, Option.toList, List.cons_append, List.nil_append, sq_int, sq_lng, sq_iload, sq_lload, sq_aload, sq_istore, sq_lstore, sq_astore, sq_iinc, sq_iadd, sq_isub, sq_imul, sq_iand, sq_ior, sq_ixor, sq_ishl, sq_ishr, sq_iushr, sq_ladd, sq_lsub, sq_lmul, sq_idiv, sq_irem, sq_ldiv, sq_lrem, sq_i2l, sq_lcmp, sq_dupI, sq_dupR, sq_pop, sq_dup2, sq_goto, sq_if_eq, sq_icmp_eq, sq_if_ne, sq_icmp_ne, sq_if_lt, sq_icmp_lt, sq_if_ge, sq_icmp_ge, sq_if_gt, sq_icmp_gt, sq_if_le, sq_icmp_le, sq_iaload, sq_iastore, sq_alen, sq_places, sq_getI, sq_getR, sq_put, sq_ret, sq_lret, sq_vret, sq_switch, sq_callS, sq_callV, sq_copy, sq_max, sq_min, mm_len_2, mm_len_3, mm_len_4, mm_len_6, mm_len_8, mm_len_10, mm_len_11, mm_len_12, mm_len_13, mm_len_14, mm_len_15, mm_len_17, mm_len_18, mm_len_19, mm_len_20, mm_len_21, mm_len_22, mm_len_23, mm_len_24, mm_len_25]
    try simp only [eq_self, true_and, and_true, Bool.false_eq_true, false_implies, true_implies, true_or, or_true, mm_numI, mm_numL, mm_numN, pp_i10, pp_i01, pp_im1, not_false_eq_true, not_true_eq_false, false_or, or_false]
    refine ⟨0, _, by decide, t_has l 0 _ _, rfl, ?_⟩
    rintro _ _ ⟨rfl, rfl⟩
    simp only [G4_place_0, G4_place_1, G4_place_4, G4_place_5, G4_place_8, G4_place_11, G4_place_12, G4_place_13, G4_place_16, G4_place_17, G4_place_20, G4_place_23, G4_place_24, G4_place_27, G4_place_28, G4_place_31, G4_place_32, G4_place_33, G4_place_36, G4_place_37, G4_place_38, G4_place_41, G4_place_42, G4_place_43, G4_place_44, G4_place_45, G4_place_46, G4_place_49, G4_place_52, G4_place_53, G4_place_56, G4_place_59, G4_place_60, G4_place_63, G4_place_64, G4_place_67, G4_place_68, G4_place_69, G4_place_72, G4_place_75, G4_place_76, G4_place_79, G4_place_80, G4_place_81, G4_place_82, G4_place_83, G4_place_84, G4_place_87, G4_place_90, G4_place_91, G4_place_92, G4_place_93, G4_place_94, G4_place_97, G4_place_100, G4_place_103, N4_place, ↓mm_kc_ap, ↓mm_cut, mm_en, mm_nth, mm_put, mm_sto, mm_stoL, mm_ag, mm_dr, mm_sw, Nat.reduceSub, List.replicate, Option.toList, List.cons_append, List.nil_append, sq_int, sq_lng, sq_iload, sq_lload, sq_aload, sq_istore, sq_lstore, sq_astore, sq_iinc, sq_iadd, sq_isub, sq_imul, sq_iand, sq_ior, sq_ixor, sq_ishl, sq_ishr, sq_iushr, sq_ladd, sq_lsub, sq_lmul, sq_idiv, sq_irem, sq_ldiv, sq_lrem, sq_i2l, sq_lcmp, sq_dupI, sq_dupR, sq_pop, sq_dup2, sq_goto, sq_if_eq, sq_icmp_eq, sq_if_ne, sq_icmp_ne, sq_if_lt, sq_icmp_lt, sq_if_ge, sq_icmp_ge, sq_if_gt, sq_icmp_gt, sq_if_le, sq_icmp_le, sq_iaload, sq_iastore, sq_alen, sq_places, sq_getI, sq_getR, sq_put, sq_ret, sq_lret, sq_vret, sq_switch, sq_callS, sq_callV, sq_copy, sq_max, sq_min, mm_len_2, mm_len_3, mm_len_4, mm_len_6, mm_len_8, mm_len_10, mm_len_11, mm_len_12, mm_len_13, mm_len_14, mm_len_15, mm_len_17, mm_len_18, mm_len_19, mm_len_20, mm_len_21, mm_len_22, mm_len_23, mm_len_24, mm_len_25]
    try simp only [eq_self, true_and, and_true, Bool.false_eq_true, false_implies, true_implies, true_or, or_true, mm_numI, mm_numL, mm_numN, pp_i10, pp_i01, pp_im1, not_false_eq_true, not_true_eq_false, false_or, or_false]
    rw [rr_H_ne _ _ _ _ (by decide) (by decide), hn, if_neg (fun z => absurd z.2 (nI_nlt (Nat.le_refl _) (by omega)))]
    try simp only [eq_self, true_and, and_true, Bool.false_eq_true, false_implies, true_implies, true_or, or_true, mm_numI, mm_numL, mm_numN, pp_i10, pp_i01, pp_im1, not_false_eq_true, not_true_eq_false, false_or, or_false]
    rw [rr_H_51, rr_H_5 _ _ _ _ (by decide) (by decide), h56]
    rw [rr_H_f, rr_H_f, rr_H_51, rr_H_51, rr_H_s, rr_H_s, nI_1]
    refine ⟨fun hc => ⟨rfl, g, f, hF, Or.inl ⟨fun r h1 h2 _ => ?_, ?_, fun _ _ => rfl⟩⟩, fun hc => ⟨rfl, g, f, hF, Or.inr ⟨x, Nat.le_refl _, by omega, hS, hc, rfl, fun q hq => ?_⟩⟩⟩
    · rw [show r = x by omega]
      exact hc
    · rw [pp_cnt_t hS]
    · rw [hx q hq]
      rfl
  | succ m ih =>
    intro p hp x f g hF hx hst
    refine mm_Ev.of (by decide +kernel) (Nat.le_of_ble_eq_true rfl) (mm_rn_ok [44] _ (S4_place l _ _ _) 1000 _ _ _ _ ?_)
    simp only [G4_place_0, G4_place_1, G4_place_4, G4_place_5, G4_place_8, G4_place_11, G4_place_12, G4_place_13, G4_place_16, G4_place_17, G4_place_20, G4_place_23, G4_place_24, G4_place_27, G4_place_28, G4_place_31, G4_place_32, G4_place_33, G4_place_36, G4_place_37, G4_place_38, G4_place_41, G4_place_42, G4_place_43, G4_place_44, G4_place_45, G4_place_46, G4_place_49, G4_place_52, G4_place_53, G4_place_56, G4_place_59, G4_place_60, G4_place_63, G4_place_64, G4_place_67, G4_place_68, G4_place_69, G4_place_72, G4_place_75, G4_place_76, G4_place_79, G4_place_80, G4_place_81, G4_place_82, G4_place_83, G4_place_84, G4_place_87, G4_place_90, G4_place_91, G4_place_92, G4_place_93, G4_place_94, G4_place_97, G4_place_100, G4_place_103, N4_place, ↓mm_kc_ap, ↓mm_cut, mm_en, mm_nth, mm_put, mm_sto, mm_stoL, mm_ag, mm_dr, mm_sw, Nat.reduceSub, List.replicate, Option.toList, List.cons_append, List.nil_append, sq_int, sq_lng, sq_iload, sq_lload, sq_aload, sq_istore, sq_lstore, sq_astore, sq_iinc, sq_iadd, sq_isub, sq_imul, sq_iand, sq_ior, sq_ixor, sq_ishl, sq_ishr, sq_iushr, sq_ladd, sq_lsub, sq_lmul, sq_idiv, sq_irem, sq_ldiv, sq_lrem, sq_i2l, sq_lcmp, sq_dupI, sq_dupR, sq_pop, sq_dup2, sq_goto, sq_if_eq, sq_icmp_eq, sq_if_ne, sq_icmp_ne, sq_if_lt, sq_icmp_lt, sq_if_ge, sq_icmp_ge, sq_if_gt, sq_icmp_gt, sq_if_le, sq_icmp_le, sq_iaload, sq_iastore, sq_alen, sq_places, sq_getI, sq_getR, sq_put, sq_ret, sq_lret, sq_vret, sq_switch, sq_callS, sq_callV, sq_copy, sq_max, sq_min, mm_len_2, mm_len_3, mm_len_4, mm_len_6, mm_len_8, mm_len_10, mm_len_11, mm_len_12, mm_len_13, mm_len_14, mm_len_15, mm_len_17, mm_len_18, mm_len_19, mm_len_20, mm_len_21, mm_len_22, mm_len_23, mm_len_24, mm_len_25]
    try simp only [eq_self, true_and, and_true, Bool.false_eq_true, false_implies, true_implies, true_or, or_true, mm_numI, mm_numL, mm_numN, pp_i10, pp_i01, pp_im1, not_false_eq_true, not_true_eq_false, false_or, or_false]
    refine ⟨0, _, by omega, t_has l 0 _ _, rfl, ?_⟩
    rintro _ _ ⟨rfl, rfl⟩
    simp only [G4_place_0, G4_place_1, G4_place_4, G4_place_5, G4_place_8, G4_place_11, G4_place_12, G4_place_13, G4_place_16, G4_place_17, G4_place_20, G4_place_23, G4_place_24, G4_place_27, G4_place_28, G4_place_31, G4_place_32, G4_place_33, G4_place_36, G4_place_37, G4_place_38, G4_place_41, G4_place_42, G4_place_43, G4_place_44, G4_place_45, G4_place_46, G4_place_49, G4_place_52, G4_place_53, G4_place_56, G4_place_59, G4_place_60, G4_place_63, G4_place_64, G4_place_67, G4_place_68, G4_place_69, G4_place_72, G4_place_75, G4_place_76, G4_place_79, G4_place_80, G4_place_81, G4_place_82, G4_place_83, G4_place_84, G4_place_87, G4_place_90, G4_place_91, G4_place_92, G4_place_93, G4_place_94, G4_place_97, G4_place_100, G4_place_103, N4_place, ↓mm_kc_ap, ↓mm_cut, mm_en, mm_nth, mm_put, mm_sto, mm_stoL, mm_ag, mm_dr, mm_sw, Nat.reduceSub, List.replicate, Option.toList, List.cons_append, List.nil_append, sq_int, sq_lng, sq_iload, sq_lload, sq_aload, sq_istore, sq_lstore, sq_astore, sq_iinc, sq_iadd, sq_isub, sq_imul, sq_iand, sq_ior, sq_ixor, sq_ishl, sq_ishr, sq_iushr, sq_ladd, sq_lsub, sq_lmul, sq_idiv, sq_irem, sq_ldiv, sq_lrem, sq_i2l, sq_lcmp, sq_dupI, sq_dupR, sq_pop, sq_dup2, sq_goto, sq_if_eq, sq_icmp_eq, sq_if_ne, sq_icmp_ne, sq_if_lt, sq_icmp_lt, sq_if_ge, sq_icmp_ge, sq_if_gt, sq_icmp_gt, sq_if_le, sq_icmp_le, sq_iaload, sq_iastore, sq_alen, sq_places, sq_getI, sq_getR, sq_put, sq_ret, sq_lret, sq_vret, sq_switch, sq_callS, sq_callV, sq_copy, sq_max, sq_min, mm_len_2, mm_len_3, mm_len_4, mm_len_6, mm_len_8, mm_len_10, mm_len_11, mm_len_12, mm_len_13, mm_len_14, mm_len_15, mm_len_17, mm_len_18, mm_len_19, mm_len_20, mm_len_21, mm_len_22, mm_len_23, mm_len_24, mm_len_25]
    try simp only [eq_self, true_and, and_true, Bool.false_eq_true, false_implies, true_implies, true_or, or_true, mm_numI, mm_numL, mm_numN, pp_i10, pp_i01, pp_im1, not_false_eq_true, not_true_eq_false, false_or, or_false]
    rw [rr_H_ne _ _ _ _ (by decide) (by decide), hn, if_pos ⟨nI_pos' (by omega), nI_lt (by omega) (by omega)⟩]
    try simp only [eq_self, true_and, and_true, Bool.false_eq_true, false_implies, true_implies, true_or, or_true, mm_numI, mm_numL, mm_numN, pp_i10, pp_i01, pp_im1, not_false_eq_true, not_true_eq_false, false_or, or_false]
    have e0 : (x * b + 0) * b ^ m = x * b ^ (m + 1) := by
      rw [Nat.add_zero, Nat.pow_succ, Nat.mul_comm (b ^ m) b, ← Nat.mul_assoc]
    have lp := t_place_loop hN hok hsc h54 hb0 hb h55 (w := w) hp (fun x f g => ih (p + 1) (by omega) x f g) x f (fun _ _ _ => True) (4 + (m + 1)) rfl b 0 (by omega) f g hF (fun _ _ => rfl) hx hst (fun r h1 h2 => by rw [e0] at h2; omega)
    rw [e0] at lp
    exact lp
