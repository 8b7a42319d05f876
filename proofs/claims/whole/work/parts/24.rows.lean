/-! ===== rows of numbers in their order; what a post's answer depends on ===== -/
/-- post p's number in row r: post 0's is the highest place -/
def rr_d (b n r p : Nat) : Nat := r / b ^ (n - 1 - p) % b
theorem rr_d_lt {b n r p : Nat} (hb : 0 < b) : rr_d b n r p < b := Nat.mod_lt _ hb
theorem rr_blk {b n r p q x : Nat} (hp : p ≤ n) (hq : q < p) (hb : 0 < b) (h1 : x * b ^ (n - p) ≤ r) (h2 : r < (x + 1) * b ^ (n - p)) : rr_d b n r q = x / b ^ (p - 1 - q) % b := by
  have hpos : 0 < b ^ (n - p) := Nat.pow_pos hb
  have hx : r / b ^ (n - p) = x := by
    apply Nat.le_antisymm
    · exact Nat.le_of_lt_succ ((Nat.div_lt_iff_lt_mul hpos).mpr h2)
    · exact (Nat.le_div_iff_mul_le hpos).mpr h1
  unfold rr_d
  rw [show n - 1 - q = (n - p) + (p - 1 - q) by omega, Nat.pow_add, ← Nat.div_div_eq_div_mul, hx]
theorem jj_acc_cg {n : Nat} {A mk : Nat → Nat} {sc p : Nat} {f g : Nat → Nat} (h0 : f p = g p) (h : ∀ q, (A p).testBit q = true → f q = g q) : jj_acc n A mk sc f p = jj_acc n A mk sc g p := by
  have e1 : pp_all (fun q => !((A p).testBit q) || decide (f q ≠ f p)) n = pp_all (fun q => !((A p).testBit q) || decide (g q ≠ g p)) n := pp_all_eq (fun q _ => by
    cases hb : (A p).testBit q with
    | false => rfl
    | true => rw [h q hb, h0])
  have e2 : pp_all (fun q => !((A p).testBit q) || decide (f q / 8 = f p / 8)) n = pp_all (fun q => !((A p).testBit q) || decide (g q / 8 = g p / 8)) n := pp_all_eq (fun q _ => by
    cases hb : (A p).testBit q with
    | false => rfl
    | true => rw [h q hb, h0])
  have e3 : pp_any (fun q => (A p).testBit q && decide (f q % 8 + 1 = f p % 8)) n = pp_any (fun q => (A p).testBit q && decide (g q % 8 + 1 = g p % 8)) n := pp_any_eq (fun q _ => by
    cases hb : (A p).testBit q with
    | false => rfl
    | true => rw [h q hb, h0])
  have e4 : pp_all (fun q => !((A p).testBit q) || (decide (f q + 1 = f p) || decide (f q = f p + 1))) n = pp_all (fun q => !((A p).testBit q) || (decide (g q + 1 = g p) || decide (g q = g p + 1))) n := pp_all_eq (fun q _ => by
    cases hb : (A p).testBit q with
    | false => rfl
    | true => rw [h q hb, h0])
  have e5 : pp_cnt (fun q => (A p).testBit q && decide (f q + 1 = f p)) n = pp_cnt (fun q => (A p).testBit q && decide (g q + 1 = g p)) n := pp_cnt_eq (fun q _ => by
    cases hb : (A p).testBit q with
    | false => rfl
    | true => rw [h q hb, h0])
  unfold jj_acc
  rw [e1, e2, e3, e4, e5, h0]
theorem jj_acc_suits {n : Nat} {A mk : Nat → Nat} {sc p : Nat} {f : Nat → Nat} (h : jj_acc n A mk sc f p = true) : jj_suits mk sc p (f p) = true := by
  unfold jj_acc at h
  unfold jj_suits
  by_cases h0 : sc = 0
  · rw [if_pos h0] at h ⊢
    rw [Bool.and_eq_true] at h
    exact h.1
  · rw [if_neg h0] at h ⊢
    by_cases h1 : sc = 1
    · rw [if_pos h1] at h ⊢
      rw [Bool.and_eq_true] at h
      exact h.1
    · rw [if_neg h1] at h ⊢
      by_cases h2 : sc = 2
      · rw [if_pos h2] at h ⊢
        rw [Bool.and_eq_true] at h
        have h3 := h.2
        by_cases h4 : f p % 8 = 0
        · rw [if_pos h4] at h3 ⊢
          rw [Bool.and_eq_true, decide_eq_true_eq, decide_eq_true_eq] at h3 ⊢
          exact ⟨h3.2, h3.1.symm⟩
        · rw [if_neg h4] at h3 ⊢
          rw [Bool.and_eq_true] at h3
          exact h3.1
      · rw [if_neg h2] at h ⊢
        by_cases h3 : sc = 3
        · rw [if_pos h3] at h ⊢
          rw [Bool.and_eq_true] at h
          exact h.1
        · rw [if_neg h3] at h ⊢
          rw [Bool.and_eq_true] at h
          exact h.1
theorem jj_last_le {A : Nat → Nat} {q p j : Nat} (h : jj_last A q p = true) (hj : (A q ||| 1 <<< q).testBit j = true) : j ≤ p := by
  unfold jj_last at h
  rw [decide_eq_true_eq] at h
  apply Classical.byContradiction
  intro hn
  have hlt : A q ||| 1 <<< q < 2 ^ (p + 1) := by
    have h2 : (A q ||| 1 <<< q) / 2 ^ p < 2 := by omega
    have := (Nat.div_lt_iff_lt_mul (Nat.two_pow_pos p)).mp h2
    rw [Nat.pow_succ]
    omega
  have : (A q ||| 1 <<< q).testBit j = false := Nat.testBit_lt_two_pow (Nat.lt_of_lt_of_le hlt (Nat.pow_le_pow_right (by decide) (by omega)))
  rw [this] at hj
  cases hj
theorem jj_last_self {A : Nat → Nat} {q p : Nat} (h : jj_last A q p = true) : q ≤ p := jj_last_le h (by
  rw [Nat.testBit_or, Nat.one_shiftLeft, Nat.testBit_two_pow_self, Bool.or_true])
theorem jj_last_near {A : Nat → Nat} {q p j : Nat} (h : jj_last A q p = true) (hj : (A q).testBit j = true) : j ≤ p := jj_last_le h (by
  rw [Nat.testBit_or, hj, Bool.true_or])
theorem jj_last_ex {n : Nat} {A : Nat → Nat} (hA : jj_ok n A) {q : Nat} (hq : q < n) : ∃ p, p < n ∧ jj_last A q p = true := by
  have hne : A q ||| 1 <<< q ≠ 0 := by
    intro h
    have := congrArg (fun z => z.testBit q) h
    simp only [Nat.testBit_or, Nat.one_shiftLeft, Nat.testBit_two_pow_self, Bool.or_true, Nat.zero_testBit] at this
    cases this
  have hlt : A q ||| 1 <<< q < 2 ^ n := by
    apply Nat.lt_pow_two_of_testBit
    intro j hj
    rw [Nat.testBit_or, Nat.one_shiftLeft]
    have h1 : (A q).testBit j = false := Bool.eq_false_iff.mpr (fun h => by have := hA q j h; omega)
    rw [h1, Nat.testBit_two_pow_of_ne (by omega)]
    rfl
  refine ⟨(A q ||| 1 <<< q).log2, (Nat.log2_lt hne).mpr hlt, ?_⟩
  unfold jj_last
  rw [decide_eq_true_eq]
  have h1 := Nat.log2_self_le hne
  have h2 := Nat.lt_log2_self (n := A q ||| 1 <<< q)
  apply Nat.le_antisymm
  · apply Nat.le_of_lt_succ
    apply (Nat.div_lt_iff_lt_mul (Nat.two_pow_pos _)).mpr
    rw [Nat.pow_succ] at h2
    omega
  · apply (Nat.le_div_iff_mul_le (Nat.two_pow_pos _)).mpr
    omega
/-- does row r stand -/
def rr_S (n : Nat) (A mk : Nat → Nat) (sc b r : Nat) : Bool := pp_all (jj_acc n A mk sc (rr_d b n r)) n
