/-! ===== the shortest way (class): out in rings ===== -/
def bf_v (n : Nat) (A : Nat → Nat) (x : Nat) : Nat := wy_n n A false (lc_d x)
def bf_z (n : Nat) (A : Nat → Nat) (ds : Nat → Nat) (p : Nat) : Nat := wy_n n A false (mr_st n A ds p)
theorem wy_min {n : Nat} {A : Nat → Nat} (n5 : n ≤ 5) {ds : Nat → Nat} (hds : ∀ q, ds q < 5) : ∀ k, (wy_best n A false (wy_z n A false) ds k = none ∧ ∀ p, p < k → ¬ mr_rs n A ds p = true) ∨ ∃ b, wy_best n A false (wy_z n A false) ds k = some b ∧ (∀ p, p < k → mr_rs n A ds p = true → b ≤ bf_z n A ds p + 1) ∧ ∃ p, p < k ∧ mr_rs n A ds p = true ∧ b = bf_z n A ds p + 1
  | 0 => Or.inl ⟨rfl, fun p hp => absurd hp (Nat.not_lt_zero _)⟩
  | k + 1 => by
    have ih := wy_min (A := A) n5 hds k
    by_cases hr : mr_rs n A ds k = true
    · right
      have e : wy_best n A false (wy_z n A false) ds (k + 1) = wy_or false (bf_z n A ds k) (wy_best n A false (wy_z n A false) ds k) := by
        show (if mr_rs n A ds k = true then (match wy_z n A false (mr_st n A ds k) with
          | none => wy_best n A false (wy_z n A false) ds k
          | some v => wy_or false v (wy_best n A false (wy_z n A false) ds k)) else wy_best n A false (wy_z n A false) ds k) = _
        rw [if_pos hr, (wy_n_eq n5 (mr_st_5 hds k)).1]
        rfl
      rw [e]
      rcases ih with ⟨i1, i2⟩ | ⟨b, b1, b2, p, p1, p2, p3⟩
      · rw [i1]
        refine ⟨bf_z n A ds k + 1, rfl, fun p hp hp2 => ?_, k, by omega, hr, rfl⟩
        by_cases e2 : p = k
        · subst e2; exact Nat.le_refl _
        · exact absurd hp2 (i2 p (by omega))
      · rw [b1]
        by_cases hc : bf_z n A ds k + 1 < b
        · refine ⟨bf_z n A ds k + 1, by simp [wy_or, hc], fun q hq hq2 => ?_, k, by omega, hr, rfl⟩
          by_cases e2 : q = k
          · subst e2; exact Nat.le_refl _
          · have := b2 q (by omega) hq2
            omega
        · refine ⟨b, by simp [wy_or, hc], fun q hq hq2 => ?_, p, by omega, p2, p3⟩
          by_cases e2 : q = k
          · subst e2; omega
          · exact b2 q (by omega) hq2
    · have e : wy_best n A false (wy_z n A false) ds (k + 1) = wy_best n A false (wy_z n A false) ds k := by
        show (if mr_rs n A ds k = true then _ else wy_best n A false (wy_z n A false) ds k) = _
        rw [if_neg hr]
      rw [e]
      rcases ih with ⟨i1, i2⟩ | ⟨b, b1, b2, p, p1, p2, p3⟩
      · refine Or.inl ⟨i1, fun p hp => ?_⟩
        by_cases e2 : p = k
        · subst e2; exact hr
        · exact i2 p (by omega)
      · refine Or.inr ⟨b, b1, fun q hq hq2 => ?_, p, by omega, p2, p3⟩
        by_cases e2 : q = k
        · subst e2; exact absurd hq2 hr
        · exact b2 q (by omega) hq2
theorem bf_rest {n : Nat} {A : Nat → Nat} (n5 : n ≤ 5) {ds : Nat → Nat} (hds : ∀ q, ds q < 5) (h : ∀ p, p < n → ¬ mr_rs n A ds p = true) {lg : Bool} : wy_n n A lg ds = 0 := by
  unfold wy_n
  rw [wy_z_eq n5 hds, if_neg]
  · rfl
  · intro hc
    obtain ⟨p, hp, hr⟩ := pp_any_iff.mp hc
    exact h p hp hr
theorem bf_min {n : Nat} {A : Nat → Nat} (n5 : n ≤ 5) {ds : Nat → Nat} (hds : ∀ q, ds q < 5) {p0 : Nat} (hp0 : p0 < n) (hr0 : mr_rs n A ds p0 = true) : (∀ p, p < n → mr_rs n A ds p = true → wy_n n A false ds ≤ bf_z n A ds p + 1) ∧ ∃ p, p < n ∧ mr_rs n A ds p = true ∧ wy_n n A false ds = bf_z n A ds p + 1 := by
  have ha : pp_any (mr_rs n A ds) n = true := pp_any_iff.mpr ⟨p0, hp0, hr0⟩
  rcases wy_min n5 hds (A := A) n with ⟨_, i2⟩ | ⟨b, b1, b2, b3⟩
  · exact absurd hr0 (i2 p0 hp0)
  · have e : wy_n n A false ds = b := by
      unfold wy_n
      rw [wy_z_eq n5 hds, if_pos ha]
      unfold wy_T
      rw [Bool.false_and, if_neg Bool.false_ne_true, b1]
      rfl
    rw [e]
    exact ⟨b2, b3⟩
theorem bf_z_b {n : Nat} {A : Nat → Nat} {x p : Nat} : bf_z n A (lc_d x) p = bf_v n A (lc_b n A x p) := (wy_n_cg (fun q hq => lc_b_d (A := A) (x := x) (p := p) q hq)).symm
/-- what is met -/
def bf_J (n : Nat) (A : Nat → Nat) (st : Nat) (mo tr : Nat → Nat) (met : Nat) : Prop :=
  (∀ i, i < met → tr i < 5 ^ n ∧ mo (tr i) ≠ 0 ∧ mo (tr i) ≤ i + 1 ∧ bf_v n A st + 1 ≤ mo (tr i) + bf_v n A (tr i)) ∧
  (∀ x, x < 5 ^ n → mo x ≠ 0 → ∃ i, i < met ∧ tr i = x) ∧
  (∀ i j, i ≤ j → j < met → mo (tr i) ≤ mo (tr j)) ∧
  (tr 0 = st ∧ mo st = 1 ∧ 0 < met) ∧
  met ≤ df_c mo (5 ^ n)
/-- states below 'at' are done -/
def bf_D (n : Nat) (A : Nat → Nat) (mo tr : Nat → Nat) (a : Nat) : Prop := ∀ i, i < a → (∃ p, p < n ∧ mr_rs n A (lc_d (tr i)) p = true) ∧ ∀ p, p < n → mo (lc_b n A (tr i) p) ≠ 0 ∧ mo (lc_b n A (tr i) p) ≤ mo (tr i) + 1
theorem bf_front {n : Nat} {A : Nat → Nat} (n5 : n ≤ 5) {st : Nat} {mo tr : Nat → Nat} {met a : Nat} (J : bf_J n A st mo tr met) (D : bf_D n A mo tr a) : ∀ (k i : Nat), i < met → bf_v n A (tr i) ≤ k → mo (tr i) + bf_v n A (tr i) ≤ bf_v n A st + 1 → ∃ i', a ≤ i' ∧ i' < met ∧ mo (tr i') + bf_v n A (tr i') ≤ bf_v n A st + 1 := by
  obtain ⟨j1, j2, j3, j4, j5⟩ := J
  intro k
  induction k with
  | zero =>
    intro i hi hk hm
    by_cases ha : a ≤ i
    · exact ⟨i, ha, hi, hm⟩
    · obtain ⟨⟨p0, p1, p2⟩, d2⟩ := D i (by omega)
      obtain ⟨_, p, q1, q2, q3⟩ := bf_min n5 (lc_d_5 (tr i)) p1 p2
      unfold bf_v at hk
      omega
  | succ k ih =>
    intro i hi hk hm
    by_cases ha : a ≤ i
    · exact ⟨i, ha, hi, hm⟩
    · obtain ⟨⟨p0, p1, p2⟩, d2⟩ := D i (by omega)
      obtain ⟨_, p, q1, q2, q3⟩ := bf_min n5 (lc_d_5 (tr i)) p1 p2
      rw [bf_z_b] at q3
      obtain ⟨e1, e2⟩ := d2 p q1
      obtain ⟨i2, k1, k2⟩ := j2 _ (lc_b_lt n A (tr i) p) e1
      have q3 : bf_v n A (tr i) = bf_v n A (lc_b n A (tr i) p) + 1 := q3
      refine ih i2 k1 ?_ ?_
      · rw [k2]; omega
      · rw [k2]; omega
theorem bf_front0 {n : Nat} {A : Nat → Nat} (n5 : n ≤ 5) {st : Nat} {mo tr : Nat → Nat} {met a : Nat} (J : bf_J n A st mo tr met) (D : bf_D n A mo tr a) : ∃ i', a ≤ i' ∧ i' < met ∧ mo (tr i') + bf_v n A (tr i') ≤ bf_v n A st + 1 := by
  have J' := J
  obtain ⟨j1, j2, j3, ⟨j4, j5, j6⟩, j7⟩ := J
  refine bf_front n5 J' D (bf_v n A st) 0 j6 (by rw [j4]; exact Nat.le_refl _) ?_
  rw [j4, j5]
  omega
theorem bf_end {n : Nat} {A : Nat → Nat} (n5 : n ≤ 5) {st : Nat} {mo tr : Nat → Nat} {met a : Nat} (J : bf_J n A st mo tr met) (D : bf_D n A mo tr a) (ha : a < met) (hr : ∀ p, p < n → ¬ mr_rs n A (lc_d (tr a)) p = true) : mo (tr a) = bf_v n A st + 1 := by
  obtain ⟨i, h1, h2, h3⟩ := bf_front0 n5 J D
  obtain ⟨j1, j2, j3, j4, j5⟩ := J
  have g1 := j3 a i h1 h2
  obtain ⟨_, _, _, g2⟩ := j1 a ha
  have g3 : bf_v n A (tr a) = 0 := bf_rest n5 (lc_d_5 (tr a)) hr
  omega
/-- a new state is met -/
theorem bf_J_new {n : Nat} {A : Nat → Nat} (n5 : n ≤ 5) {st : Nat} {mo tr : Nat → Nat} {met a p : Nat} (J : bf_J n A st mo tr met) (ha : a < met) (hB : ∀ j, j < met → mo (tr j) ≤ mo (tr a) + 1) (hp : p < n) (h0 : mo (lc_b n A (tr a) p) = 0) : bf_J n A st (ss_up mo (lc_b n A (tr a) p) (mo (tr a) + 1)) (ss_up tr met (lc_b n A (tr a) p)) (met + 1) := by
  obtain ⟨j1, j2, j3, ⟨j4, j5, j6⟩, j7⟩ := J
  have hb5 := lc_b_lt n A (tr a) p
  obtain ⟨a1, a2, a3, a4⟩ := j1 a ha
  have hr : mr_rs n A (lc_d (tr a)) p = true := Classical.byContradiction (fun z => by
    rw [(lc_b_self a1 hp).mpr z] at h0
    exact a2 h0)
  have hmin := (bf_min n5 (lc_d_5 (tr a)) hp hr).1 p hp hr
  rw [bf_z_b] at hmin
  have hmin : bf_v n A (tr a) ≤ bf_v n A (lc_b n A (tr a) p) + 1 := hmin
  generalize lc_b n A (tr a) p = y at hb5 h0 hmin ⊢
  have ney : ∀ i, i < met → tr i ≠ y := fun i hi e => (j1 i hi).2.1 (by rw [e]; exact h0)
  have tro : ∀ i, i < met → ss_up tr met y i = tr i := fun i hi => ss_up_n (by omega)
  have moo : ∀ i, i < met → ss_up mo y (mo (tr a) + 1) (tr i) = mo (tr i) := fun i hi => ss_up_n (ney i hi)
  have le1 : mo (tr a) ≤ a + 1 := a3
  refine ⟨fun i hi => ?_, fun x hx h1 => ?_, fun i j hij hj => ?_, ⟨?_, ?_, Nat.succ_pos _⟩, ?_⟩
  · by_cases e : i = met
    · subst e
      rw [ss_up_s, ss_up_s]
      exact ⟨hb5, by omega, by omega, by omega⟩
    · rw [tro i (by omega), moo i (by omega)]
      exact j1 i (by omega)
  · by_cases e : x = y
    · exact ⟨met, by omega, by rw [ss_up_s]; exact e.symm⟩
    · rw [ss_up_n e] at h1
      obtain ⟨i, i1, i2⟩ := j2 x hx h1
      exact ⟨i, by omega, by rw [tro i i1]; exact i2⟩
  · by_cases e : j = met
    · subst e
      rw [ss_up_s, ss_up_s]
      by_cases e2 : i = j
      · rw [e2, ss_up_s, ss_up_s]; exact Nat.le_refl _
      · rw [tro i (by omega), moo i (by omega)]
        exact hB i (by omega)
    · rw [tro i (by omega), tro j (by omega), moo i (by omega), moo j (by omega)]
      exact j3 i j hij (by omega)
  · rw [tro 0 j6]; exact j4
  · rw [← j4, moo 0 j6, j4]; exact j5
  · rw [df_c_new h0 (by omega) hb5]
    omega
