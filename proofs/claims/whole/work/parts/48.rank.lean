/-! ===== moves come to an end: the rank ===== -/
theorem mr_min_iff {A ds : Nat → Nat} {p t : Nat} : ∀ {k : Nat}, mr_min A ds p k ≤ t ↔ 3 ≤ t ∨ ∃ q, q < k ∧ (A p).testBit q = true ∧ ds q ≤ t
  | 0 => ⟨fun h => Or.inl h, fun h => by
    rcases h with h | ⟨q, hq, _⟩
    · exact h
    · exact absurd hq (Nat.not_lt_zero q)⟩
  | k + 1 => by
    rw [mr_min_s]
    have ih := mr_min_iff (A := A) (ds := ds) (p := p) (t := t) (k := k)
    by_cases hc : ((A p).testBit k && decide (ds k < mr_min A ds p k)) = true
    · rw [if_pos hc]
      rw [Bool.and_eq_true, decide_eq_true_eq] at hc
      constructor
      · intro h
        exact Or.inr ⟨k, by omega, hc.1, h⟩
      · intro h
        by_cases hk : ds k ≤ t
        · exact hk
        · have : mr_min A ds p k ≤ t := ih.mpr (by
            rcases h with h | ⟨q, hq, h1, h2⟩
            · exact Or.inl h
            · by_cases e : q = k
              · subst e; exact absurd h2 hk
              · exact Or.inr ⟨q, by omega, h1, h2⟩)
          omega
    · rw [if_neg hc]
      rw [ih]
      constructor
      · rintro (h | ⟨q, hq, h1, h2⟩)
        · exact Or.inl h
        · exact Or.inr ⟨q, by omega, h1, h2⟩
      · rintro (h | ⟨q, hq, h1, h2⟩)
        · exact Or.inl h
        · by_cases e : q = k
          · subst e
            rw [Bool.and_eq_true, decide_eq_true_eq] at hc
            have h3 : mr_min A ds p q ≤ t := by
              have : ¬ ds q < mr_min A ds p q := fun z => hc ⟨h1, z⟩
              omega
            exact ih.mp h3
          · exact Or.inr ⟨q, by omega, h1, h2⟩
theorem mr_min_lo {n : Nat} {A ds es : Nat → Nat} {p m t q : Nat} (hd : ∀ x, x ≠ p → ds x = es x) (h1 : m ≤ ds p) (h2 : m ≤ es p) (ht : t < m) (hm : m ≤ 3) : mr_min A ds q n ≤ t ↔ mr_min A es q n ≤ t := by
  rw [mr_min_iff, mr_min_iff]
  constructor
  · rintro (h | ⟨x, hx, a, b⟩)
    · exact Or.inl h
    · refine Or.inr ⟨x, hx, a, ?_⟩
      by_cases e : x = p
      · subst e; omega
      · rw [← hd x e]; exact b
  · rintro (h | ⟨x, hx, a, b⟩)
    · exact Or.inl h
    · refine Or.inr ⟨x, hx, a, ?_⟩
      by_cases e : x = p
      · subst e; omega
      · rw [hd x e]; exact b
theorem mr_rule_lo {n : Nat} {A ds es : Nat → Nat} {p m j q : Nat} (hd : ∀ x, x ≠ p → ds x = es x) (h1 : m ≤ ds p) (h2 : m ≤ es p) (hj : j ≤ m) (hm : m ≤ 3) : mr_rule n A ds q = j ↔ mr_rule n A es q = j := by
  unfold mr_rule
  by_cases h0 : q = 0
  · rw [if_pos h0, if_pos h0]
  · rw [if_neg h0, if_neg h0]
    match j, hj with
    | 0, _ => omega
    | 1, hj =>
      have e := mr_min_lo (n := n) (A := A) (q := q) (t := 0) hd h1 h2 (by omega) hm
      omega
    | j + 2, hj =>
      have e := mr_min_lo (n := n) (A := A) (q := q) (t := j) hd h1 h2 (by omega) hm
      have e' := mr_min_lo (n := n) (A := A) (q := q) (t := j + 1) hd h1 h2 (by omega) hm
      omega
/-- posts of which level j tells otherwise of their distance than of their rule -/
def rk_m (n : Nat) (A ds : Nat → Nat) (j q : Nat) : Bool := decide (ds q = j) != decide (mr_rule n A ds q = j)
def rk_w (n : Nat) (A ds : Nat → Nat) (j : Nat) : Nat := pp_cnt (rk_m n A ds j) n
def rk_k (n : Nat) (A ds : Nat → Nat) : Nat := 1296 * rk_w n A ds 0 + 216 * rk_w n A ds 1 + 36 * rk_w n A ds 2 + 6 * rk_w n A ds 3 + rk_w n A ds 4
theorem rk_k_le {n : Nat} {A ds : Nat → Nat} (n5 : n ≤ 5) : rk_k n A ds ≤ 7775 := by
  have h := fun j => pp_cnt_le (rk_m n A ds j) n
  have h0 := h 0; have h1 := h 1; have h2 := h 2; have h3 := h 3; have h4 := h 4
  unfold rk_k rk_w
  omega
theorem rk_lt {n : Nat} {A ds : Nat → Nat} (n5 : n ≤ 5) (hds : ∀ q, ds q < 5) {p : Nat} (hp : p < n) (hr : mr_rs n A ds p = true) : rk_k n A (mr_st n A ds p) < rk_k n A ds := by
  have hr : mr_rule n A ds p ≠ ds p := of_decide_eq_true hr
  have hle := mr_rule_le n A ds p
  have hdp := hds p
  have hst : mr_st n A ds p p = mr_rule n A ds p := if_pos rfl
  have hne : ∀ x, x ≠ p → ds x = mr_st n A ds p x := fun x hx => (if_neg hx).symm
  generalize hes : mr_st n A ds p = es at hst hne ⊢
  have rl : ∀ j, j ≤ min (ds p) (es p) → ∀ q, (mr_rule n A ds q = j ↔ mr_rule n A es q = j) := fun j hj q => mr_rule_lo hne (Nat.min_le_left _ _) (Nat.min_le_right _ _) hj (by omega)
  have eqw : ∀ j, j < min (ds p) (es p) → rk_w n A es j = rk_w n A ds j := by
    intro j hj
    apply pp_cnt_eq
    intro q _
    unfold rk_m
    rw [decide_eq_decide.mpr (rl j (by omega) q).symm]
    congr 1
    by_cases e : q = p
    · subst e
      rw [decide_eq_false (by omega), decide_eq_false (by omega)]
    · rw [hne q e]
  have ltw : rk_w n A es (min (ds p) (es p)) < rk_w n A ds (min (ds p) (es p)) := by
    generalize hm : min (ds p) (es p) = m at rl
    have rp := rl m (Nat.le_refl _) p
    refine pp_cnt_lt (j := p) (fun q hq => ?_) hp ?_ ?_
    · by_cases e : q = p
      · subst e
        unfold rk_m at hq ⊢
        by_cases c1 : ds q = m <;> by_cases c2 : es q = m <;> by_cases c3 : mr_rule n A ds q = m <;> simp_all
        all_goals omega
      · unfold rk_m at hq ⊢
        rw [hne q e, decide_eq_decide.mpr (rl m (Nat.le_refl _) q)]
        exact hq
    · unfold rk_m
      by_cases c1 : ds p = m <;> by_cases c3 : mr_rule n A ds p = m <;> simp [c1, c3] <;> omega
    · unfold rk_m
      have e9 : decide (mr_rule n A es p = m) = decide (mr_rule n A ds p = m) := decide_eq_decide.mpr rp.symm
      rw [e9, hst]
      simp
  have h := fun j => pp_cnt_le (rk_m n A es j) n
  have h0 := h 0; have h1 := h 1; have h2 := h 2; have h3 := h 3; have h4 := h 4
  have hm3 : min (ds p) (es p) ≤ 3 := by omega
  generalize hm : min (ds p) (es p) = m at eqw ltw hm3
  unfold rk_k
  match m, hm3 with
  | 0, _ => unfold rk_w at ltw ⊢; omega
  | 1, _ =>
    have a0 := eqw 0 (by omega)
    unfold rk_w at ltw a0 ⊢; omega
  | 2, _ =>
    have a0 := eqw 0 (by omega)
    have a1 := eqw 1 (by omega)
    unfold rk_w at ltw a0 a1 ⊢; omega
  | 3, _ =>
    have a0 := eqw 0 (by omega)
    have a1 := eqw 1 (by omega)
    have a2 := eqw 2 (by omega)
    unfold rk_w at ltw a0 a1 a2 ⊢; omega
  | m + 4, hm3 => omega
