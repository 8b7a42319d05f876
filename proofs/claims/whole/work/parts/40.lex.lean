/-! ===== rows by their values; the first proof of all ===== -/
def rr_v (b : Nat) (f : Nat → Nat) : Nat → Nat
  | 0 => 0
  | k + 1 => rr_v b f k * b + f k
theorem rr_v_s (b : Nat) (f : Nat → Nat) (k : Nat) : rr_v b f (k + 1) = rr_v b f k * b + f k := rfl
theorem rr_v_lt {b : Nat} {f : Nat → Nat} : ∀ {k : Nat}, (∀ q, q < k → f q < b) → rr_v b f k < b ^ k
  | 0, _ => by simp [rr_v]
  | k + 1, h => by
    have ih := rr_v_lt (b := b) (f := f) (k := k) (fun q hq => h q (by omega))
    have hk := h k (by omega)
    rw [rr_v_s, Nat.pow_succ]
    have h2 : (rr_v b f k + 1) * b ≤ b ^ k * b := Nat.mul_le_mul_right b ih
    rw [Nat.add_mul, Nat.one_mul] at h2
    omega
theorem rr_v_d {b : Nat} {f : Nat → Nat} : ∀ {k : Nat}, (∀ q, q < k → f q < b) → ∀ q, q < k → rr_d b k (rr_v b f k) q = f q
  | 0, _, q, hq => absurd hq (Nat.not_lt_zero q)
  | k + 1, h, q, hq => by
    have hk := h k (by omega)
    have hb : 0 < b := by omega
    unfold rr_d
    rw [rr_v_s]
    by_cases e : q = k
    · subst e
      rw [show q + 1 - 1 - q = 0 by omega, Nat.pow_zero, Nat.div_one, Nat.add_comm, Nat.add_mul_mod_self_right, Nat.mod_eq_of_lt hk]
    · have ih := rr_v_d (b := b) (f := f) (k := k) (fun q hq => h q (by omega)) q (by omega)
      unfold rr_d at ih
      have e1 : (rr_v b f k * b + f k) / b = rr_v b f k := by
        rw [Nat.add_comm, Nat.add_mul_div_right _ _ hb, Nat.div_eq_of_lt hk, Nat.zero_add]
      rw [show k + 1 - 1 - q = 1 + (k - 1 - q) by omega, Nat.pow_add, Nat.pow_one, ← Nat.div_div_eq_div_mul, e1]
      exact ih
theorem rr_v_pre {b n r : Nat} (hb : 0 < b) (hr : r < b ^ n) : ∀ k, k ≤ n → rr_v b (rr_d b n r) k = r / b ^ (n - k)
  | 0, _ => by
    rw [Nat.sub_zero, Nat.div_eq_of_lt hr]
    rfl
  | k + 1, hk => by
    have ih := rr_v_pre hb hr k (by omega)
    rw [rr_v_s, ih]
    unfold rr_d
    rw [show n - k = (n - (k + 1)) + 1 by omega, show n - 1 - k = n - (k + 1) by omega, Nat.pow_succ, ← Nat.div_div_eq_div_mul]
    exact Nat.div_add_mod' _ _
theorem rr_v_row {b n r : Nat} (hb : 0 < b) (hr : r < b ^ n) : rr_v b (rr_d b n r) n = r := by
  rw [rr_v_pre hb hr n (Nat.le_refl _), Nat.sub_self, Nat.pow_zero, Nat.div_one]
theorem rr_v_cg {b : Nat} {f g : Nat → Nat} : ∀ {k : Nat}, (∀ q, q < k → f q = g q) → rr_v b f k = rr_v b g k
  | 0, _ => rfl
  | k + 1, h => by
    rw [rr_v_s, rr_v_s, rr_v_cg (fun q hq => h q (by omega)), h k (by omega)]
theorem rr_v_lex {b p : Nat} {f g : Nat → Nat} (h1 : ∀ q, q < p → f q = g q) (h2 : f p < g p) : ∀ k, (∀ q, q < p + 1 + k → f q < b) → rr_v b f (p + 1 + k) < rr_v b g (p + 1 + k)
  | 0, _ => by
    rw [Nat.add_zero, rr_v_s, rr_v_s, rr_v_cg h1]
    omega
  | k + 1, h => by
    have ih := rr_v_lex h1 h2 k (fun q hq => h q (by omega))
    have hk := h (p + 1 + k) (by omega)
    rw [← Nat.add_assoc, rr_v_s, rr_v_s]
    have h3 : (rr_v b f (p + 1 + k) + 1) * b ≤ rr_v b g (p + 1 + k) * b := Nat.mul_le_mul_right b ih
    rw [Nat.add_mul, Nat.one_mul] at h3
    omega
def cl_st (n : Nat) (A mk : Nat → Nat) (sc : Nat) (f : Nat → Nat) : Bool := pp_all (jj_acc n A mk sc f) n
def cl_lx (n : Nat) (g f : Nat → Nat) : Prop := ∃ p, p < n ∧ (∀ q, q < p → g q = f q) ∧ g p < f p
def cl_least (n : Nat) (A mk : Nat → Nat) (sc : Nat) (f : Nat → Nat) : Prop := cl_st n A mk sc f = true ∧ ∀ g, cl_st n A mk sc g = true → ¬ cl_lx n g f
theorem cl_st_cg {n : Nat} {A mk : Nat → Nat} (hok : jj_ok n A) {sc : Nat} {f g : Nat → Nat} (h : ∀ q, q < n → f q = g q) : cl_st n A mk sc f = cl_st n A mk sc g := pp_all_eq (fun p hp => jj_acc_cg (h p hp) (fun q hq => h q (hok p q hq)))
theorem cl_least_uq {n : Nat} {A mk : Nat → Nat} {sc : Nat} {f g : Nat → Nat} (hf : cl_least n A mk sc f) (hg : cl_least n A mk sc g) : ∀ k q, q < k → q < n → f q = g q := by
  intro k
  induction k with
  | zero => intro q hq; exact absurd hq (Nat.not_lt_zero q)
  | succ k ih =>
    intro q hq hn
    rcases Nat.lt_trichotomy (f q) (g q) with h | h | h
    · exact absurd ⟨q, hn, fun q' h' => ih q' (by omega) (by omega), h⟩ (hg.2 f hf.1)
    · exact h
    · exact absurd ⟨q, hn, fun q' h' => (ih q' (by omega) (by omega)).symm, h⟩ (hf.2 g hg.1)
theorem cl_row {n : Nat} {A mk : Nat → Nat} (hok : jj_ok n A) {sc b : Nat} (hB : ∀ g, cl_st n A mk sc g = true → ∀ q, q < n → g q < b) {g : Nat → Nat} (hg : cl_st n A mk sc g = true) : rr_v b g n < b ^ n ∧ rr_S n A mk sc b (rr_v b g n) = true := by
  have h1 := hB g hg
  refine ⟨rr_v_lt h1, ?_⟩
  have : cl_st n A mk sc (rr_d b n (rr_v b g n)) = true := by
    rw [cl_st_cg hok (fun q hq => rr_v_d h1 q hq)]
    exact hg
  exact this
theorem cl_of_row {n : Nat} {A mk : Nat → Nat} (hok : jj_ok n A) {sc b r : Nat} (hb : 0 < b) (hB : ∀ g, cl_st n A mk sc g = true → ∀ q, q < n → g q < b) (hr : r < b ^ n) (hS : rr_S n A mk sc b r = true) (hlo : ∀ r', r' < r → rr_S n A mk sc b r' = false) : cl_least n A mk sc (rr_d b n r) := by
  refine ⟨hS, fun g hg hlx => ?_⟩
  obtain ⟨p, hp, h1, h2⟩ := hlx
  obtain ⟨g1, g2⟩ := cl_row hok hB hg
  have hlt := rr_v_lex (b := b) h1 h2 (n - (p + 1)) (fun q hq => hB g hg q (by omega))
  rw [show p + 1 + (n - (p + 1)) = n by omega, rr_v_row hb hr] at hlt
  rw [hlo _ hlt] at g2
  cases g2
theorem cl_of_none {n : Nat} {A mk : Nat → Nat} (hok : jj_ok n A) {sc b : Nat} (hB : ∀ g, cl_st n A mk sc g = true → ∀ q, q < n → g q < b) (hno : ∀ r, r < b ^ n → rr_S n A mk sc b r = false) : ¬ ∃ g, cl_st n A mk sc g = true := by
  rintro ⟨g, hg⟩
  obtain ⟨g1, g2⟩ := cl_row hok hB hg
  rw [hno _ g1] at g2
  cases g2
theorem cl_small {n : Nat} {A mk : Nat → Nat} {sc : Nat} (hsc : sc < 2) {g : Nat → Nat} (hg : cl_st n A mk sc g = true) : ∀ q, q < n → g q < 2 + sc := by
  intro q hq
  have h1 := pp_all_iff.mp hg q hq
  have h2 := jj_acc_suits h1
  unfold jj_suits at h2
  by_cases h0 : sc = 0
  · rw [if_pos h0, decide_eq_true_eq] at h2
    omega
  · have e1 : sc = 1 := by omega
    rw [if_neg h0, if_pos e1, decide_eq_true_eq] at h2
    omega
/-- does the claim hold -/
noncomputable def cl_b (n : Nat) (A mk : Nat → Nat) (sc : Nat) : Bool :=
  if sc < 2 then @decide (∃ g, cl_st n A mk sc g = true) (Classical.propDecidable _)
  else if sc = 2 then pp_all (gg_one n A mk) n
  else if sc = 3 then gg_scat n A mk
  else gg_tree n A
/-- the prover's numbers -/
def cl_is (n : Nat) (A mk : Nat → Nat) (sc : Nat) (f : Nat → Nat) : Prop :=
  if sc < 2 then cl_least n A mk sc f
  else if sc = 2 then ∀ q, q < n → f q < 64 ∧ nI (f q) = gg_ln n A mk n q
  else if sc = 3 then ∀ q, q < n → f q = 0
  else ∀ q, q < n → f q < 64 ∧ nI (f q) = gg_o (gg_d n A q (n - 1) (gg_first n A q))
theorem cl_is_uq {n : Nat} {A mk : Nat → Nat} {sc : Nat} {f g : Nat → Nat} (hf : cl_is n A mk sc f) (hg : cl_is n A mk sc g) : ∀ q, q < n → f q = g q := by
  unfold cl_is at hf hg
  intro q hq
  by_cases h0 : sc < 2
  · rw [if_pos h0] at hf hg
    exact cl_least_uq hf hg (q + 1) q (by omega) hq
  · rw [if_neg h0] at hf hg
    by_cases h2 : sc = 2
    · rw [if_pos h2] at hf hg
      obtain ⟨a1, a2⟩ := hf q hq
      obtain ⟨b1, b2⟩ := hg q hq
      exact (nI_eq (by omega) (by omega)).mp (a2.trans b2.symm)
    · rw [if_neg h2] at hf hg
      by_cases h3 : sc = 3
      · rw [if_pos h3] at hf hg
        rw [hf q hq, hg q hq]
      · rw [if_neg h3] at hf hg
        obtain ⟨a1, a2⟩ := hf q hq
        obtain ⟨b1, b2⟩ := hg q hq
        exact (nI_eq (by omega) (by omega)).mp (a2.trans b2.symm)
theorem cl_is_64 {n : Nat} {A mk : Nat → Nat} {sc : Nat} {f : Nat → Nat} (hf : cl_is n A mk sc f) : ∀ q, q < n → f q < 64 := by
  unfold cl_is at hf
  intro q hq
  by_cases h0 : sc < 2
  · rw [if_pos h0] at hf
    have := cl_small h0 hf.1 q hq
    omega
  · rw [if_neg h0] at hf
    by_cases h2 : sc = 2
    · rw [if_pos h2] at hf
      exact (hf q hq).1
    · rw [if_neg h2] at hf
      by_cases h3 : sc = 3
      · rw [if_pos h3] at hf
        rw [hf q hq]
        decide
      · rw [if_neg h3] at hf
        exact (hf q hq).1
noncomputable def cl_num (n : Nat) (A mk : Nat → Nat) (sc : Nat) : Nat → Nat := Classical.epsilon (fun f => cl_is n A mk sc f)
theorem cl_num_eq {n : Nat} {A mk : Nat → Nat} {sc : Nat} {f : Nat → Nat} (hf : cl_is n A mk sc f) : cl_is n A mk sc (cl_num n A mk sc) ∧ ∀ q, q < n → f q = cl_num n A mk sc q := by
  have h : cl_is n A mk sc (cl_num n A mk sc) := Classical.epsilon_spec (p := fun f => cl_is n A mk sc f) ⟨f, hf⟩
  exact ⟨h, cl_is_uq hf h⟩
