/-! ===== how far posts are from one another ===== -/
/-- reached from a by at most k lines -/
def gg_r (n : Nat) (A : Nat → Nat) (a : Nat) : Nat → Nat → Bool
  | 0, q => decide (q = a)
  | k + 1, q => gg_r n A a k q || pp_any (fun p => gg_r n A a k p && (A p).testBit q) n
/-- how far, if it is at most k -/
def gg_d (n : Nat) (A : Nat → Nat) (a : Nat) : Nat → Nat → Option Nat
  | 0, q => if q = a then some 0 else none
  | k + 1, q => match gg_d n A a k q with
    | some j => some j
    | none => if gg_r n A a (k + 1) q = true then some (k + 1) else none
def gg_o (o : Option Nat) : Int32 := match o with
  | none => -1
  | some j => nI j
/-- new at k -/
def gg_e (n : Nat) (A : Nat → Nat) (a k q : Nat) : Bool := decide (gg_d n A a k q = some k)
theorem gg_r_s {n : Nat} {A : Nat → Nat} {a k q : Nat} : gg_r n A a (k + 1) q = true ↔ gg_r n A a k q = true ∨ ∃ p, p < n ∧ gg_r n A a k p = true ∧ (A p).testBit q = true := by
  show (gg_r n A a k q || pp_any _ n) = true ↔ _
  rw [Bool.or_eq_true, pp_any_iff]
  apply or_congr_right
  constructor
  · rintro ⟨p, h1, h2⟩
    rw [Bool.and_eq_true] at h2
    exact ⟨p, h1, h2⟩
  · rintro ⟨p, h1, h2⟩
    exact ⟨p, h1, by rw [Bool.and_eq_true]; exact h2⟩
theorem gg_r_mono {n : Nat} {A : Nat → Nat} {a q : Nat} : ∀ {k j : Nat}, k ≤ j → gg_r n A a k q = true → gg_r n A a j q = true := by
  intro k j hkj h
  induction j with
  | zero => rw [show k = 0 by omega] at h; exact h
  | succ j ih =>
    by_cases e : k = j + 1
    · rw [← e]; exact h
    · exact gg_r_s.mpr (Or.inl (ih (by omega)))
theorem gg_d_iff {n : Nat} {A : Nat → Nat} {a q : Nat} : ∀ {k : Nat}, (gg_d n A a k q = none ↔ gg_r n A a k q = false) ∧ ∀ j, gg_d n A a k q = some j → j ≤ k ∧ gg_r n A a j q = true ∧ ∀ i, i < j → gg_r n A a i q = false
  | 0 => by
    unfold gg_d gg_r
    by_cases h : q = a
    · simp only [h, if_true, decide_true]
      refine ⟨⟨fun z => (by cases z), fun z => (by cases z)⟩, fun j hj => ?_⟩
      cases hj
      exact ⟨Nat.le_refl _, by simp [gg_r], fun i hi => absurd hi (Nat.not_lt_zero i)⟩
    · simp [h]
  | k + 1 => by
    obtain ⟨ih1, ih2⟩ := gg_d_iff (n := n) (A := A) (a := a) (q := q) (k := k)
    cases hd : gg_d n A a k q with
    | some j =>
      obtain ⟨i1, i2, i3⟩ := ih2 j hd
      have e : gg_d n A a (k + 1) q = some j := by
        show (match gg_d n A a k q with | some j => some j | none => _) = _
        rw [hd]
      rw [e]
      refine ⟨⟨fun z => (by cases z), fun z => ?_⟩, fun j' hj => ?_⟩
      · rw [gg_r_mono (show j ≤ k + 1 by omega) i2] at z
        cases z
      · cases hj
        exact ⟨by omega, i2, i3⟩
    | none =>
      have hr := ih1.mp hd
      have e : gg_d n A a (k + 1) q = if gg_r n A a (k + 1) q = true then some (k + 1) else none := by
        show (match gg_d n A a k q with | some j => some j | none => _) = _
        rw [hd]
      rw [e]
      by_cases hc : gg_r n A a (k + 1) q = true
      · rw [if_pos hc]
        refine ⟨⟨fun z => (by cases z), fun z => (by rw [hc] at z; cases z)⟩, fun j hj => ?_⟩
        cases hj
        refine ⟨Nat.le_refl _, hc, fun i hi => ?_⟩
        apply Bool.eq_false_iff.mpr
        intro hi2
        rw [gg_r_mono (show i ≤ k by omega) hi2] at hr
        cases hr
      · rw [if_neg hc]
        exact ⟨⟨fun _ => Bool.eq_false_iff.mpr hc, fun _ => rfl⟩, fun j hj => (by cases hj)⟩
theorem gg_d_eq {n : Nat} {A : Nat → Nat} {a q j k : Nat} : gg_d n A a k q = some j ↔ j ≤ k ∧ gg_r n A a j q = true ∧ ∀ i, i < j → gg_r n A a i q = false := by
  constructor
  · exact gg_d_iff.2 j
  · rintro ⟨h1, h2, h3⟩
    cases hd : gg_d n A a k q with
    | none =>
      have := gg_d_iff.1.mp hd
      rw [gg_r_mono h1 h2] at this
      cases this
    | some i =>
      obtain ⟨i1, i2, i3⟩ := gg_d_iff.2 i hd
      rcases Nat.lt_trichotomy i j with h | h | h
      · rw [h3 i h] at i2; cases i2
      · rw [h]
      · rw [i3 j h] at h2; cases h2
/-- what is new at k + 1 is next to what was new at k -/
theorem gg_e_s {n : Nat} {A : Nat → Nat} {a k q : Nat} : gg_e n A a (k + 1) q = true ↔ gg_r n A a k q = false ∧ ∃ p, p < n ∧ gg_e n A a k p = true ∧ (A p).testBit q = true := by
  unfold gg_e
  rw [decide_eq_true_eq, gg_d_eq]
  constructor
  · rintro ⟨-, h2, h3⟩
    have hk := h3 k (by omega)
    refine ⟨hk, ?_⟩
    rcases gg_r_s.mp h2 with h | ⟨p, hp, h4, h5⟩
    · rw [hk] at h; cases h
    · refine ⟨p, hp, ?_, h5⟩
      rw [decide_eq_true_eq, gg_d_eq]
      refine ⟨Nat.le_refl _, h4, fun i hi => ?_⟩
      apply Bool.eq_false_iff.mpr
      intro hi2
      have : gg_r n A a (i + 1) q = true := gg_r_s.mpr (Or.inr ⟨p, hp, hi2, h5⟩)
      rw [gg_r_mono (show i + 1 ≤ k by omega) this] at hk
      cases hk
  · rintro ⟨hk, p, hp, h4, h5⟩
    rw [decide_eq_true_eq, gg_d_eq] at h4
    refine ⟨Nat.le_refl _, gg_r_s.mpr (Or.inr ⟨p, hp, h4.2.1, h5⟩), fun i hi => ?_⟩
    apply Bool.eq_false_iff.mpr
    intro hi2
    rw [gg_r_mono (show i ≤ k by omega) hi2] at hk
    cases hk
theorem gg_r_e {n : Nat} {A : Nat → Nat} {a k q : Nat} : gg_r n A a (k + 1) q = (gg_r n A a k q || gg_e n A a (k + 1) q) := by
  apply Bool.eq_iff_iff.mpr
  rw [Bool.or_eq_true]
  constructor
  · intro h
    cases hr : gg_r n A a k q with
    | true => exact Or.inl rfl
    | false =>
      refine Or.inr ?_
      unfold gg_e
      rw [decide_eq_true_eq, gg_d_eq]
      refine ⟨Nat.le_refl _, h, fun i hi => ?_⟩
      apply Bool.eq_false_iff.mpr
      intro hi2
      rw [gg_r_mono (show i ≤ k by omega) hi2] at hr
      cases hr
  · rintro (h | h)
    · exact gg_r_mono (by omega) h
    · unfold gg_e at h
      rw [decide_eq_true_eq, gg_d_eq] at h
      exact h.2.1
theorem gg_d_s {n : Nat} {A : Nat → Nat} {a k q : Nat} : gg_o (gg_d n A a (k + 1) q) = if gg_e n A a (k + 1) q = true then nI (k + 1) else gg_o (gg_d n A a k q) := by
  by_cases h : gg_e n A a (k + 1) q = true
  · rw [if_pos h]
    unfold gg_e at h
    rw [decide_eq_true_eq] at h
    rw [h]
    rfl
  · rw [if_neg h]
    cases hd : gg_d n A a k q with
    | some j =>
      have e : gg_d n A a (k + 1) q = some j := by
        show (match gg_d n A a k q with | some j => some j | none => _) = _
        rw [hd]
      rw [e]
    | none =>
      have e : gg_d n A a (k + 1) q = if gg_r n A a (k + 1) q = true then some (k + 1) else none := by
        show (match gg_d n A a k q with | some j => some j | none => _) = _
        rw [hd]
      rw [e]
      by_cases hc : gg_r n A a (k + 1) q = true
      · rw [gg_r_e, gg_d_iff.1.mp hd, Bool.false_or] at hc
        exact absurd hc h
      · rw [if_neg hc]
/-- both ways -/
theorem gg_r_first {n : Nat} {A : Nat → Nat} (hA : jj_ok n A) : ∀ {k a b : Nat}, a < n → (gg_r n A a (k + 1) b = true ↔ gg_r n A a k b = true ∨ ∃ p, p < n ∧ (A a).testBit p = true ∧ gg_r n A p k b = true)
  | 0, a, b, ha => by
    rw [gg_r_s]
    apply or_congr_right
    constructor
    · rintro ⟨p, hp, h1, h2⟩
      have e : p = a := by simpa [gg_r] using h1
      subst e
      exact ⟨b, hA _ _ h2, h2, by simp [gg_r]⟩
    · rintro ⟨p, hp, h1, h2⟩
      have e : b = p := by simpa [gg_r] using h2
      subst e
      exact ⟨a, ha, by simp [gg_r], h1⟩
  | k + 1, a, b, ha => by
    rw [gg_r_s]
    constructor
    · rintro (h | ⟨p, hp, h1, h2⟩)
      · exact Or.inl h
      · rcases (gg_r_first hA ha).mp h1 with h3 | ⟨p', hp', h4, h5⟩
        · exact Or.inl (gg_r_s.mpr (Or.inr ⟨p, hp, h3, h2⟩))
        · exact Or.inr ⟨p', hp', h4, gg_r_s.mpr (Or.inr ⟨p, hp, h5, h2⟩)⟩
    · rintro (h | ⟨p, hp, h1, h2⟩)
      · exact Or.inl h
      · rcases gg_r_s.mp h2 with h3 | ⟨p2, hp2, h4, h5⟩
        · exact Or.inl ((gg_r_first hA ha).mpr (Or.inr ⟨p, hp, h1, h3⟩))
        · exact Or.inr ⟨p2, hp2, (gg_r_first hA ha).mpr (Or.inr ⟨p, hp, h1, h4⟩), h5⟩
/-- lines go both ways -/
def gg_sym (A : Nat → Nat) : Prop := ∀ p q, (A p).testBit q = (A q).testBit p
theorem gg_r_sym {n : Nat} {A : Nat → Nat} (hA : jj_ok n A) (hS : gg_sym A) : ∀ {k a b : Nat}, a < n → b < n → gg_r n A a k b = gg_r n A b k a
  | 0, a, b, _, _ => by
    unfold gg_r
    exact decide_eq_decide.mpr ⟨fun h => h.symm, fun h => h.symm⟩
  | k + 1, a, b, ha, hb => by
    apply Bool.eq_iff_iff.mpr
    rw [gg_r_s, gg_r_first hA hb, gg_r_sym hA hS ha hb]
    apply or_congr_right
    constructor
    · rintro ⟨p, hp, h1, h2⟩
      exact ⟨p, hp, by rw [hS]; exact h2, by rw [gg_r_sym hA hS hp ha]; exact h1⟩
    · rintro ⟨p, hp, h1, h2⟩
      exact ⟨p, hp, by rw [gg_r_sym hA hS ha hp]; exact h2, by rw [hS]; exact h1⟩
theorem gg_d_sym {n : Nat} {A : Nat → Nat} (hA : jj_ok n A) (hS : gg_sym A) {k a b : Nat} (ha : a < n) (hb : b < n) : gg_d n A a k b = gg_d n A b k a := by
  have key : ∀ j, gg_d n A a k b = some j ↔ gg_d n A b k a = some j := by
    intro j
    rw [gg_d_eq, gg_d_eq, gg_r_sym hA hS ha hb]
    constructor
    · rintro ⟨h1, h2, h3⟩
      exact ⟨h1, h2, fun i hi => by rw [gg_r_sym hA hS hb ha]; exact h3 i hi⟩
    · rintro ⟨h1, h2, h3⟩
      exact ⟨h1, h2, fun i hi => by rw [gg_r_sym hA hS ha hb]; exact h3 i hi⟩
  cases h1 : gg_d n A a k b with
  | some j => exact ((key j).mp h1).symm
  | none =>
    cases h2 : gg_d n A b k a with
    | none => rfl
    | some j =>
      have := (key j).mpr h2
      rw [h1] at this
      cases this
theorem pp_cnt_mono {P Q : Nat → Bool} (h : ∀ j, P j = true → Q j = true) : ∀ {n : Nat}, pp_cnt P n ≤ pp_cnt Q n
  | 0 => Nat.le_refl _
  | n + 1 => by
    have ih := pp_cnt_mono h (n := n)
    unfold pp_cnt
    have := h n
    cases hP : P n <;> cases hQ : Q n <;> simp [hP, hQ] at this ⊢ <;> omega
theorem pp_cnt_lt {P Q : Nat → Bool} (h : ∀ j, P j = true → Q j = true) : ∀ {n j : Nat}, j < n → Q j = true → P j = false → pp_cnt P n < pp_cnt Q n
  | 0, j, hj, _, _ => absurd hj (Nat.not_lt_zero j)
  | n + 1, j, hj, h1, h2 => by
    by_cases e : j = n
    · subst e
      have := pp_cnt_mono h (n := j)
      rw [pp_cnt_t h1, pp_cnt_f h2]
      omega
    · have ih := pp_cnt_lt h (n := n) (j := j) (by omega) h1 h2
      unfold pp_cnt
      have := h n
      cases hP : P n <;> cases hQ : Q n <;> simp [hP, hQ] at this ⊢ <;> omega
theorem gg_many {n : Nat} {A : Nat → Nat} {a : Nat} (hA : jj_ok n A) (ha : a < n) : ∀ {k q : Nat}, gg_e n A a k q = true → k + 1 ≤ pp_cnt (gg_r n A a k) n
  | 0, q, _ => by
    have : 0 < pp_cnt (gg_r n A a 0) n := jj_cntpos.mpr (pp_any_iff.mpr ⟨a, ha, by simp [gg_r]⟩)
    omega
  | k + 1, q, h => by
    obtain ⟨hk, p, hp, h1, h2⟩ := gg_e_s.mp h
    have ih := gg_many hA ha h1
    have := pp_cnt_lt (P := gg_r n A a k) (Q := gg_r n A a (k + 1)) (fun j hj => gg_r_mono (by omega) hj) (hA p q h2) (by rw [gg_r_e, h, Bool.or_true]) hk
    omega
theorem gg_r_end {n : Nat} {A : Nat → Nat} {a q : Nat} (hA : jj_ok n A) (ha : a < n) : gg_r n A a n q = gg_r n A a (n - 1) q := by
  obtain ⟨m, rfl⟩ : ∃ m, n = m + 1 := ⟨n - 1, by omega⟩
  show gg_r (m + 1) A a (m + 1) q = gg_r (m + 1) A a m q
  rw [gg_r_e]
  have : gg_e (m + 1) A a (m + 1) q = false := by
    apply Bool.eq_false_iff.mpr
    intro h
    have h1 := gg_many hA ha h
    have h2 := pp_cnt_le (gg_r (m + 1) A a (m + 1)) (m + 1)
    omega
  rw [this, Bool.or_false]
theorem gg_d_end {n : Nat} {A : Nat → Nat} {a q : Nat} (hA : jj_ok n A) (ha : a < n) : gg_d n A a n q = gg_d n A a (n - 1) q := by
  obtain ⟨m, rfl⟩ : ∃ m, n = m + 1 := ⟨n - 1, by omega⟩
  show gg_d (m + 1) A a (m + 1) q = gg_d (m + 1) A a m q
  have hr := gg_r_end (q := q) hA ha
  cases hd : gg_d (m + 1) A a m q with
  | some j =>
    show (match gg_d (m + 1) A a m q with | some j => some j | none => _) = _
    rw [hd]
  | none =>
    have e : gg_d (m + 1) A a (m + 1) q = if gg_r (m + 1) A a (m + 1) q = true then some (m + 1) else none := by
      show (match gg_d (m + 1) A a m q with | some j => some j | none => _) = _
      rw [hd]
    rw [e, hr, Nat.add_sub_cancel, gg_d_iff.1.mp hd, if_neg Bool.false_ne_true]
