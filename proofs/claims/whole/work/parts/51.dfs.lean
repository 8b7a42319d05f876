/-! ===== the longest way (class): down a trail ===== -/
def df_v (n : Nat) (A : Nat → Nat) (x : Nat) : Nat := wy_n n A true (lc_d x)
def df_b (n : Nat) (A : Nat → Nat) (x k : Nat) : Nat := (wy_best n A true (wy_z n A true) (lc_d x) k).getD 0
def df_r (n : Nat) (A : Nat → Nat) (x : Nat) : Nat := rk_k n A (lc_d x)
theorem df_r_lt {n : Nat} {A : Nat → Nat} (n5 : n ≤ 5) {x p : Nat} (hx : x < 5 ^ n) (hp : p < n) (hne : ¬ lc_b n A x p = x) : df_r n A (lc_b n A x p) < df_r n A x := by
  have hr : mr_rs n A (lc_d x) p = true := Classical.byContradiction (fun z => hne ((lc_b_self hx hp).mpr z))
  unfold df_r
  rw [rk_cg (fun q hq => lc_b_d (A := A) (x := x) (p := p) q hq)]
  exact rk_lt n5 (lc_d_5 x) hp hr
theorem df_v_le {n : Nat} {A : Nat → Nat} (n5 : n ≤ 5) (x : Nat) : df_v n A x ≤ 7775 := Nat.le_trans (wy_n_eq (A := A) n5 (lc_d_5 x)).2 (rk_k_le n5)
theorem df_z {n : Nat} {A : Nat → Nat} (n5 : n ≤ 5) {x p : Nat} : wy_z n A true (mr_st n A (lc_d x) p) = some (df_v n A (lc_b n A x p)) := by
  rw [(wy_n_eq n5 (mr_st_5 (lc_d_5 x) p)).1]
  unfold df_v
  rw [wy_n_cg (fun q hq => lc_b_d (A := A) (x := x) (p := p) q hq)]
theorem df_b_le {n : Nat} {A : Nat → Nat} (n5 : n ≤ 5) (x : Nat) {k : Nat} : df_b n A x k ≤ 7776 := by
  have h := (wy_best_ok (n := n) (A := A) (lg := true) (W := wy_z n A true) (ds := lc_d x) (m := 7776) (k := k) (fun p v _ _ hw => by
    rw [df_z n5] at hw
    have := df_v_le (A := A) n5 (lc_b n A x p)
    cases hw
    omega)).1
  unfold df_b
  cases hb : wy_best n A true (wy_z n A true) (lc_d x) k with
  | none => exact Nat.zero_le _
  | some y => exact h y hb
theorem df_b_f {n : Nat} {A : Nat → Nat} {x k : Nat} (hr : ¬ mr_rs n A (lc_d x) k = true) : df_b n A x (k + 1) = df_b n A x k := by
  unfold df_b
  show (if mr_rs n A (lc_d x) k = true then _ else wy_best n A true (wy_z n A true) (lc_d x) k).getD 0 = _
  rw [if_neg hr]
theorem df_b_t {n : Nat} {A : Nat → Nat} (n5 : n ≤ 5) {x k : Nat} (hr : mr_rs n A (lc_d x) k = true) : df_b n A x (k + 1) = if df_b n A x k < df_v n A (lc_b n A x k) + 1 then df_v n A (lc_b n A x k) + 1 else df_b n A x k := by
  have e : wy_best n A true (wy_z n A true) (lc_d x) (k + 1) = wy_or true (df_v n A (lc_b n A x k)) (wy_best n A true (wy_z n A true) (lc_d x) k) := by
    show (if mr_rs n A (lc_d x) k = true then (match wy_z n A true (mr_st n A (lc_d x) k) with
      | none => wy_best n A true (wy_z n A true) (lc_d x) k
      | some v => wy_or true v (wy_best n A true (wy_z n A true) (lc_d x) k)) else wy_best n A true (wy_z n A true) (lc_d x) k) = _
    rw [if_pos hr, df_z n5]
  unfold df_b
  rw [e]
  cases wy_best n A true (wy_z n A true) (lc_d x) k with
  | none =>
    show df_v n A (lc_b n A x k) + 1 = if 0 < df_v n A (lc_b n A x k) + 1 then df_v n A (lc_b n A x k) + 1 else 0
    rw [if_pos (Nat.succ_pos _)]
  | some b =>
    generalize df_v n A (lc_b n A x k) = v
    unfold wy_or
    by_cases h : b < v + 1
    · simp [h]
    · simp [h]
theorem wy_best_none {n : Nat} {A : Nat → Nat} {lg : Bool} {W : (Nat → Nat) → Option Nat} {ds : Nat → Nat} : ∀ {k : Nat}, (∀ p, p < k → ¬ mr_rs n A ds p = true) → wy_best n A lg W ds k = none
  | 0, _ => rfl
  | k + 1, h => by
    unfold wy_best
    rw [if_neg (h k (by omega))]
    exact wy_best_none (fun p hp => h p (by omega))
theorem wy_nbad {n : Nat} {A : Nat → Nat} {lg : Bool} (n5 : n ≤ 5) {ds : Nat → Nat} (hds : ∀ q, ds q < 5) {k : Nat} : wy_bad n A (wy_z n A lg) ds k = false := by
  apply Bool.eq_false_iff.mpr
  intro hc
  obtain ⟨p, hp, hb⟩ := pp_any_iff.mp hc
  rw [Bool.and_eq_true, (wy_n_eq n5 (mr_st_5 hds p)).1] at hb
  cases hb.2
theorem df_b_n {n : Nat} {A : Nat → Nat} (n5 : n ≤ 5) (x : Nat) : df_b n A x n = df_v n A x := by
  unfold df_b df_v wy_n
  rw [wy_z_eq n5 (lc_d_5 x)]
  by_cases ha : pp_any (mr_rs n A (lc_d x)) n = true
  · rw [if_pos ha]
    unfold wy_T
    rw [wy_nbad n5 (lc_d_5 x), Bool.and_false, if_neg Bool.false_ne_true]
  · rw [if_neg ha, wy_best_none (fun p hp hr => ha (pp_any_iff.mpr ⟨p, hp, hr⟩))]
    rfl
/-! how much is left to do -/
def df_f (n lo : Nat) : Nat := if lo = 0 then n + 3 else n + 2 - lo
def df_ph (n : Nat) (lo : Nat → Nat) : Nat → Nat
  | 0 => 0
  | k + 1 => df_ph n lo k + df_f n (lo k)
theorem df_ph_cg {n : Nat} {lo lo' : Nat → Nat} : ∀ {k : Nat}, (∀ x, x < k → lo x = lo' x) → df_ph n lo k = df_ph n lo' k
  | 0, _ => rfl
  | k + 1, h => by
    unfold df_ph
    rw [df_ph_cg (fun x hx => h x (by omega)), h k (by omega)]
theorem df_ph_up {n : Nat} {lo : Nat → Nat} {s v : Nat} : ∀ {k : Nat}, s < k → df_ph n (ss_up lo s v) k + df_f n (lo s) = df_ph n lo k + df_f n v
  | 0, h => absurd h (Nat.not_lt_zero _)
  | k + 1, h => by
    unfold df_ph
    by_cases e : s = k
    · subst e
      rw [df_ph_cg (n := n) (lo := ss_up lo s v) (lo' := lo) (k := s) (fun x hx => if_neg (by omega)), show ss_up lo s v s = v from if_pos rfl]
      omega
    · have ih := df_ph_up (n := n) (lo := lo) (s := s) (v := v) (k := k) (by omega)
      rw [show ss_up lo s v k = lo k from if_neg (fun z => e z.symm)]
      omega
theorem df_ph_le {n : Nat} {lo : Nat → Nat} : ∀ k, df_ph n lo k ≤ (n + 3) * k
  | 0 => Nat.zero_le _
  | k + 1 => by
    have ih := df_ph_le (n := n) (lo := lo) k
    have h2 : df_f n (lo k) ≤ n + 3 := by
      unfold df_f
      split <;> omega
    unfold df_ph
    rw [Nat.mul_succ]
    omega
def df_c (lo : Nat → Nat) (k : Nat) : Nat := pp_cnt (fun x => decide (lo x ≠ 0)) k
theorem df_c_same {lo : Nat → Nat} {s v : Nat} {k : Nat} (h1 : lo s ≠ 0) (h2 : v ≠ 0) : df_c (ss_up lo s v) k = df_c lo k := pp_cnt_eq (fun x _ => by
  unfold ss_up
  by_cases e : x = s
  · rw [if_pos e, e, decide_eq_true h1, decide_eq_true h2]
  · rw [if_neg e])
theorem df_c_new {lo : Nat → Nat} {s v : Nat} (h1 : lo s = 0) (h2 : v ≠ 0) : ∀ {k : Nat}, s < k → df_c (ss_up lo s v) k = df_c lo k + 1
  | 0, h => absurd h (Nat.not_lt_zero _)
  | k + 1, h => by
    unfold df_c
    by_cases e : s = k
    · subst e
      rw [pp_cnt_t (by rw [show ss_up lo s v s = v from if_pos rfl]; exact decide_eq_true h2), pp_cnt_f (by rw [h1]; rfl)]
      congr 1
      apply pp_cnt_eq
      intro x hx
      rw [show ss_up lo s v x = lo x from if_neg (by omega)]
    · have ih := df_c_new (lo := lo) (v := v) h1 h2 (k := k) (s := s) (by omega)
      unfold df_c at ih
      have e2 : ss_up lo s v k = lo k := if_neg (fun z => e z.symm)
      by_cases h3 : lo k ≠ 0
      · rw [pp_cnt_t (by rw [e2]; exact decide_eq_true h3), pp_cnt_t (decide_eq_true h3), ih]
      · rw [pp_cnt_f (by rw [e2]; exact decide_eq_false h3), pp_cnt_f (decide_eq_false h3), ih]
theorem df_c_lt {lo : Nat → Nat} {s : Nat} (h1 : lo s = 0) : ∀ {k : Nat}, s < k → df_c lo k < k
  | 0, h => absurd h (Nat.not_lt_zero _)
  | k + 1, h => by
    unfold df_c
    by_cases e : s = k
    · subst e
      have := pp_cnt_le (fun x => decide (lo x ≠ 0)) s
      rw [pp_cnt_f (by rw [h1]; rfl)]
      omega
    · have ih := df_c_lt h1 (k := k) (by omega)
      unfold df_c at ih
      have hs : pp_cnt (fun x => decide (lo x ≠ 0)) (k + 1) ≤ pp_cnt (fun x => decide (lo x ≠ 0)) k + 1 := by
        show pp_cnt (fun x => decide (lo x ≠ 0)) k + (if _ then 1 else 0) ≤ _
        split <;> omega
      omega
/-- the trail's state -/
def df_I (n : Nat) (A : Nat → Nat) (st : Nat) (lo mv tr : Nat → Nat) (H : Nat) : Prop :=
  (∀ i, i ≤ H → tr i < 5 ^ n ∧ 1 ≤ lo (tr i) ∧ lo (tr i) ≤ n + 1 ∧ mv (tr i) = df_b n A (tr i) (lo (tr i) - 1)) ∧
  (∀ i, i < H → lo (tr i) - 1 < n ∧ tr (i + 1) = lc_b n A (tr i) (lo (tr i) - 1) ∧ ¬ lc_b n A (tr i) (lo (tr i) - 1) = tr i) ∧
  (∀ x, x < 5 ^ n → 1 ≤ lo x → lo x ≤ n + 1 → ∃ i, i ≤ H ∧ x = tr i) ∧
  (∀ x, x < 5 ^ n → lo x = n + 2 → mv x = df_v n A x) ∧
  (∀ x, x < 5 ^ n → lo x ≤ n + 2) ∧
  tr 0 = st ∧
  H + 1 ≤ df_c lo (5 ^ n)
def df_h (n : Nat) (lo mv tr : Nat → Nat) (H : Nat) (h0 h : mm_H) : Prop :=
  (∀ x, x < 5 ^ n → h 13 x = dn_i (lo x)) ∧ (∀ x, x < 5 ^ n → lo x ≠ 0 → h 12 x = nI (mv x)) ∧ (∀ i, i ≤ H → h 14 i = nI (tr i)) ∧ ∀ c, c ≠ 11 → c ≠ 12 → c ≠ 13 → c ≠ 14 → h c = h0 c
theorem df_dec {n : Nat} {A : Nat → Nat} (n5 : n ≤ 5) {st : Nat} {lo mv tr : Nat → Nat} {H : Nat} (I : df_I n A st lo mv tr H) : ∀ (k i : Nat), i + k = H → df_r n A (tr H) + k ≤ df_r n A (tr i) := by
  obtain ⟨i1, i2, _⟩ := I
  intro k
  induction k with
  | zero => intro i hi; rw [show i = H by omega]; exact Nat.le_refl _
  | succ k ih =>
    intro i hi
    have h1 := ih (i + 1) (by omega)
    obtain ⟨a, b, c⟩ := i2 i (by omega)
    have h2 := df_r_lt n5 (i1 i (by omega)).1 a c
    rw [← b] at h2
    omega
theorem df_ne {n : Nat} {A : Nat → Nat} (n5 : n ≤ 5) {st : Nat} {lo mv tr : Nat → Nat} {H : Nat} (I : df_I n A st lo mv tr H) {i : Nat} (hi : i < H) : tr i ≠ tr H := by
  intro e
  have := df_dec n5 I (H - i) i (by omega)
  rw [e] at this
  omega
theorem ss_up_s (f : Nat → Nat) (k v : Nat) : ss_up f k v k = v := if_pos rfl
theorem ss_up_n {f : Nat → Nat} {k v x : Nat} (h : x ≠ k) : ss_up f k v x = f x := if_neg h
/-- one more post of the state is done -/
theorem df_I_on {n : Nat} {A : Nat → Nat} (n5 : n ≤ 5) {st : Nat} {lo mv tr : Nat → Nat} {H : Nat} (I : df_I n A st lo mv tr H) {j m : Nat} (hj : lo (tr H) = j + 1) (hjn : j < n) (hm : m = df_b n A (tr H) (j + 1)) : df_I n A st (ss_up lo (tr H) (j + 2)) (ss_up mv (tr H) m) tr H := by
  have ne := fun {i : Nat} (hi : i < H) => df_ne n5 I hi
  obtain ⟨i1, i2, i3, i4, i5, i6, i7⟩ := I
  refine ⟨fun i hi => ?_, fun i hi => ?_, fun x hx h1 h2 => ?_, fun x hx h1 => ?_, fun x hx => ?_, i6, ?_⟩
  · by_cases e : i = H
    · subst e
      rw [ss_up_s, ss_up_s]
      exact ⟨(i1 i hi).1, by omega, by omega, hm⟩
    · rw [ss_up_n (ne (by omega)), ss_up_n (ne (by omega))]
      exact i1 i hi
  · rw [ss_up_n (ne hi)]
    exact i2 i hi
  · by_cases e : x = tr H
    · exact ⟨H, Nat.le_refl _, e⟩
    · rw [ss_up_n e] at h1 h2
      exact i3 x hx h1 h2
  · by_cases e : x = tr H
    · rw [e, ss_up_s] at h1
      omega
    · rw [ss_up_n e] at h1 ⊢
      exact i4 x hx h1
  · by_cases e : x = tr H
    · rw [e, ss_up_s]; omega
    · rw [ss_up_n e]; exact i5 x hx
  · rw [df_c_same (by omega) (by omega)]
    exact i7
/-- a state is closed, and left -/
theorem df_I_up {n : Nat} {A : Nat → Nat} (n5 : n ≤ 5) {st : Nat} {lo mv tr : Nat → Nat} {H : Nat} (I : df_I n A st lo mv tr (H + 1)) (hj : lo (tr (H + 1)) = n + 1) : df_I n A st (ss_up lo (tr (H + 1)) (n + 2)) mv tr H := by
  have ne := fun {i : Nat} (hi : i < H + 1) => df_ne n5 I hi
  obtain ⟨i1, i2, i3, i4, i5, i6, i7⟩ := I
  refine ⟨fun i hi => ?_, fun i hi => ?_, fun x hx h1 h2 => ?_, fun x hx h1 => ?_, fun x hx => ?_, i6, ?_⟩
  · rw [ss_up_n (ne (by omega))]
    exact i1 i (by omega)
  · rw [ss_up_n (ne (by omega))]
    exact i2 i (by omega)
  · by_cases e : x = tr (H + 1)
    · rw [e, ss_up_s] at h2
      omega
    · rw [ss_up_n e] at h1 h2
      obtain ⟨i, hi, ei⟩ := i3 x hx h1 h2
      refine ⟨i, ?_, ei⟩
      by_cases e2 : i = H + 1
      · subst e2; exact absurd ei e
      · omega
  · by_cases e : x = tr (H + 1)
    · have := (i1 (H + 1) (Nat.le_refl _)).2.2.2
      rw [hj, show n + 1 - 1 = n by omega, df_b_n n5] at this
      rw [e]
      exact this
    · rw [ss_up_n e] at h1
      exact i4 x hx h1
  · by_cases e : x = tr (H + 1)
    · rw [e, ss_up_s]; exact Nat.le_refl _
    · rw [ss_up_n e]; exact i5 x hx
  · rw [df_c_same (by omega) (by omega)]
    omega
/-- a new state is entered -/
theorem df_I_dn {n : Nat} {A : Nat → Nat} {st : Nat} {lo mv tr : Nat → Nat} {H : Nat} (I : df_I n A st lo mv tr H) {j y : Nat} (hj : lo (tr H) = j + 1) (hjn : j < n) (hy : y = lc_b n A (tr H) j) (hne : ¬ y = tr H) (h0 : lo y = 0) : df_I n A st (ss_up lo y 1) (ss_up mv y 0) (ss_up tr (H + 1) y) (H + 1) := by
  obtain ⟨i1, i2, i3, i4, i5, i6, i7⟩ := I
  have hy5 : y < 5 ^ n := by rw [hy]; exact lc_b_lt _ _ _ _
  have ney : ∀ i, i ≤ H → tr i ≠ y := fun i hi e => by
    have := (i1 i hi).2.1
    rw [e, h0] at this
    omega
  have tro : ∀ i, i ≤ H → ss_up tr (H + 1) y i = tr i := fun i hi => ss_up_n (by omega)
  refine ⟨fun i hi => ?_, fun i hi => ?_, fun x hx h1 h2 => ?_, fun x hx h1 => ?_, fun x hx => ?_, ?_, ?_⟩
  · by_cases e : i = H + 1
    · subst e
      rw [ss_up_s, ss_up_s, ss_up_s]
      exact ⟨hy5, Nat.le_refl _, by omega, rfl⟩
    · rw [tro i (by omega), ss_up_n (ney i (by omega)), ss_up_n (ney i (by omega))]
      exact i1 i (by omega)
  · rw [tro i (by omega), ss_up_n (ney i (by omega))]
    by_cases e : i = H
    · subst e
      rw [ss_up_s, hj, Nat.add_sub_cancel]
      exact ⟨hjn, hy, fun z => hne (by rw [hy]; exact z)⟩
    · rw [tro (i + 1) (by omega)]
      exact i2 i (by omega)
  · by_cases e : x = y
    · exact ⟨H + 1, Nat.le_refl _, by rw [ss_up_s]; exact e⟩
    · rw [ss_up_n e] at h1 h2
      obtain ⟨i, hi, ei⟩ := i3 x hx h1 h2
      exact ⟨i, by omega, by rw [tro i hi]; exact ei⟩
  · by_cases e : x = y
    · rw [e, ss_up_s] at h1
      omega
    · rw [ss_up_n e] at h1 ⊢
      exact i4 x hx h1
  · by_cases e : x = y
    · rw [e, ss_up_s]; omega
    · rw [ss_up_n e]; exact i5 x hx
  · rw [tro 0 (by omega)]; exact i6
  · rw [df_c_new h0 (by decide) hy5]
    omega
