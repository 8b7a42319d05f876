/-! ===== the ways: longest and shortest, of any row of distances ===== -/
def wy_or (lg : Bool) (v : Nat) (b : Option Nat) : Option Nat := match b with
  | none => some (v + 1)
  | some b => if (if lg = true then b < v + 1 else v + 1 < b) then some (v + 1) else some b
/-- the best of posts below k -/
def wy_best (n : Nat) (A : Nat → Nat) (lg : Bool) (W : (Nat → Nat) → Option Nat) (ds : Nat → Nat) : Nat → Option Nat
  | 0 => none
  | k + 1 => if mr_rs n A ds k = true then (match W (mr_st n A ds k) with
    | none => wy_best n A lg W ds k
    | some v => wy_or lg v (wy_best n A lg W ds k)) else wy_best n A lg W ds k
/-- some one's way isn't known -/
def wy_bad (n : Nat) (A : Nat → Nat) (W : (Nat → Nat) → Option Nat) (ds : Nat → Nat) (k : Nat) : Bool := pp_any (fun p => mr_rs n A ds p && (W (mr_st n A ds p)).isNone) k
def wy_T (n : Nat) (A : Nat → Nat) (lg : Bool) (W : (Nat → Nat) → Option Nat) (ds : Nat → Nat) : Option Nat := if (lg && wy_bad n A W ds n) = true then none else wy_best n A lg W ds n
def wy_v (n : Nat) (A : Nat → Nat) (lg : Bool) : Nat → (Nat → Nat) → Option Nat
  | 0, _ => none
  | f + 1, ds => if pp_any (mr_rs n A ds) n = true then wy_T n A lg (wy_v n A lg f) ds else some 0
def wy_z (n : Nat) (A : Nat → Nat) (lg : Bool) (ds : Nat → Nat) : Option Nat := wy_v n A lg (rk_k n A ds + 1) ds
theorem wy_best_cg {n : Nat} {A : Nat → Nat} {lg : Bool} {W W' : (Nat → Nat) → Option Nat} {ds : Nat → Nat} : ∀ {k : Nat}, (∀ p, p < k → mr_rs n A ds p = true → W (mr_st n A ds p) = W' (mr_st n A ds p)) → wy_best n A lg W ds k = wy_best n A lg W' ds k
  | 0, _ => rfl
  | k + 1, h => by
    have ih := wy_best_cg (lg := lg) (k := k) (fun p hp hr => h p (by omega) hr)
    unfold wy_best
    by_cases hr : mr_rs n A ds k = true
    · rw [if_pos hr, if_pos hr, h k (by omega) hr, ih]
    · rw [if_neg hr, if_neg hr, ih]
theorem wy_bad_cg {n : Nat} {A : Nat → Nat} {W W' : (Nat → Nat) → Option Nat} {ds : Nat → Nat} {k : Nat} (h : ∀ p, p < k → mr_rs n A ds p = true → W (mr_st n A ds p) = W' (mr_st n A ds p)) : wy_bad n A W ds k = wy_bad n A W' ds k := pp_any_eq (fun p hp => by
  cases hr : mr_rs n A ds p with
  | false => rfl
  | true => rw [h p hp hr])
theorem wy_T_cg {n : Nat} {A : Nat → Nat} {lg : Bool} {W W' : (Nat → Nat) → Option Nat} {ds : Nat → Nat} (h : ∀ p, p < n → mr_rs n A ds p = true → W (mr_st n A ds p) = W' (mr_st n A ds p)) : wy_T n A lg W ds = wy_T n A lg W' ds := by
  unfold wy_T
  rw [wy_best_cg h, wy_bad_cg h]
theorem wy_v_z {n : Nat} {A : Nat → Nat} {lg : Bool} (n5 : n ≤ 5) : ∀ (f : Nat) (ds : Nat → Nat), (∀ q, ds q < 5) → rk_k n A ds < f → wy_v n A lg f ds = wy_z n A lg ds := by
  intro f
  induction f using Nat.strongRecOn with
  | ind f ih =>
    intro ds hds hf
    match f, hf, ih with
    | f + 1, hf, ih =>
      unfold wy_z
      show (if pp_any (mr_rs n A ds) n = true then wy_T n A lg (wy_v n A lg f) ds else some 0) = (if pp_any (mr_rs n A ds) n = true then wy_T n A lg (wy_v n A lg (rk_k n A ds)) ds else some 0)
      by_cases ha : pp_any (mr_rs n A ds) n = true
      · rw [if_pos ha, if_pos ha]
        apply wy_T_cg
        intro p hp hr
        have hlt := rk_lt n5 hds hp hr
        rw [ih f (by omega) _ (mr_st_5 hds p) (by omega)]
        by_cases e : rk_k n A ds < f + 1
        · rw [ih (rk_k n A ds) (by omega) _ (mr_st_5 hds p) hlt]
        · exact absurd hf e
      · rw [if_neg ha, if_neg ha]
/-- the way's own law -/
theorem wy_z_eq {n : Nat} {A : Nat → Nat} {lg : Bool} (n5 : n ≤ 5) {ds : Nat → Nat} (hds : ∀ q, ds q < 5) : wy_z n A lg ds = if pp_any (mr_rs n A ds) n = true then wy_T n A lg (wy_z n A lg) ds else some 0 := by
  unfold wy_z
  show (if pp_any (mr_rs n A ds) n = true then wy_T n A lg (wy_v n A lg (rk_k n A ds)) ds else some 0) = _
  by_cases ha : pp_any (mr_rs n A ds) n = true
  · rw [if_pos ha, if_pos ha]
    apply wy_T_cg
    intro p hp hr
    exact wy_v_z n5 _ _ (mr_st_5 hds p) (rk_lt n5 hds hp hr)
  · rw [if_neg ha, if_neg ha]
theorem wy_or_le {lg : Bool} {v m : Nat} {b : Option Nat} (hv : v + 1 ≤ m) (hb : ∀ x, b = some x → x ≤ m) : ∃ y, wy_or lg v b = some y ∧ y ≤ m := by
  unfold wy_or
  cases b with
  | none => exact ⟨_, rfl, hv⟩
  | some b =>
    dsimp only
    have := hb b rfl
    by_cases h : (if lg = true then b < v + 1 else v + 1 < b)
    · rw [if_pos h]
      exact ⟨_, rfl, hv⟩
    · rw [if_neg h]
      exact ⟨_, rfl, this⟩
/-- if some known one is there, the best is known; it is small -/
theorem wy_best_ok {n : Nat} {A : Nat → Nat} {lg : Bool} {W : (Nat → Nat) → Option Nat} {ds : Nat → Nat} {m : Nat} : ∀ {k : Nat}, (∀ p v, p < k → mr_rs n A ds p = true → W (mr_st n A ds p) = some v → v + 1 ≤ m) → (∀ x, wy_best n A lg W ds k = some x → x ≤ m) ∧ ((∃ p v, p < k ∧ mr_rs n A ds p = true ∧ W (mr_st n A ds p) = some v) → ∃ x, wy_best n A lg W ds k = some x)
  | 0, _ => ⟨fun x hx => (by cases hx), fun ⟨p, v, hp, _⟩ => absurd hp (Nat.not_lt_zero p)⟩
  | k + 1, h => by
    obtain ⟨i1, i2⟩ := wy_best_ok (lg := lg) (k := k) (fun p v hp hr hw => h p v (by omega) hr hw)
    unfold wy_best
    by_cases hr : mr_rs n A ds k = true
    · rw [if_pos hr]
      cases hw : W (mr_st n A ds k) with
      | none =>
        dsimp only
        refine ⟨i1, fun ⟨p, v, hp, h1, h2⟩ => i2 ⟨p, v, ?_, h1, h2⟩⟩
        by_cases e : p = k
        · subst e; rw [hw] at h2; cases h2
        · omega
      | some v =>
        dsimp only
        obtain ⟨y, y1, y2⟩ := wy_or_le (lg := lg) (h k v (by omega) hr hw) i1
        rw [y1]
        exact ⟨fun x hx => by cases hx; exact y2, fun _ => ⟨y, rfl⟩⟩
    · rw [if_neg hr]
      refine ⟨i1, fun ⟨p, v, hp, h1, h2⟩ => i2 ⟨p, v, ?_, h1, h2⟩⟩
      by_cases e : p = k
      · subst e; exact absurd h1 hr
      · omega
theorem wy_z_some {n : Nat} {A : Nat → Nat} {lg : Bool} (n5 : n ≤ 5) : ∀ (f : Nat) (ds : Nat → Nat), (∀ q, ds q < 5) → rk_k n A ds < f → ∃ v, wy_z n A lg ds = some v ∧ v ≤ rk_k n A ds := by
  intro f
  induction f with
  | zero => intro ds _ h; exact absurd h (Nat.not_lt_zero _)
  | succ f ih =>
    intro ds hds hf
    rw [wy_z_eq n5 hds]
    by_cases ha : pp_any (mr_rs n A ds) n = true
    · rw [if_pos ha]
      have sm : ∀ p, p < n → mr_rs n A ds p = true → ∃ v, wy_z n A lg (mr_st n A ds p) = some v ∧ v + 1 ≤ rk_k n A ds := by
        intro p hp hr
        have hlt := rk_lt n5 hds hp hr
        obtain ⟨v, v1, v2⟩ := ih (mr_st n A ds p) (mr_st_5 hds p) (by omega)
        exact ⟨v, v1, by omega⟩
      have hnb : wy_bad n A (wy_z n A lg) ds n = false := by
        apply Bool.eq_false_iff.mpr
        intro hc
        obtain ⟨p, hp, hb⟩ := pp_any_iff.mp hc
        rw [Bool.and_eq_true] at hb
        obtain ⟨v, v1, _⟩ := sm p hp hb.1
        rw [v1] at hb
        cases hb.2
      unfold wy_T
      rw [hnb, Bool.and_false, if_neg Bool.false_ne_true]
      obtain ⟨p, hp, hr⟩ := pp_any_iff.mp ha
      obtain ⟨v, v1, _⟩ := sm p hp hr
      obtain ⟨j1, j2⟩ := wy_best_ok (n := n) (A := A) (lg := lg) (W := wy_z n A lg) (ds := ds) (m := rk_k n A ds) (k := n) (fun p v hp hr hw => by
        obtain ⟨v', v1, v2⟩ := sm p hp hr
        rw [v1] at hw
        cases hw
        exact v2)
      obtain ⟨x, hx⟩ := j2 ⟨p, v, hp, hr, v1⟩
      exact ⟨x, hx, j1 x hx⟩
    · rw [if_neg ha]
      exact ⟨0, rfl, Nat.zero_le _⟩
def wy_n (n : Nat) (A : Nat → Nat) (lg : Bool) (ds : Nat → Nat) : Nat := (wy_z n A lg ds).getD 0
theorem wy_n_eq {n : Nat} {A : Nat → Nat} {lg : Bool} (n5 : n ≤ 5) {ds : Nat → Nat} (hds : ∀ q, ds q < 5) : wy_z n A lg ds = some (wy_n n A lg ds) ∧ wy_n n A lg ds ≤ rk_k n A ds := by
  obtain ⟨v, v1, v2⟩ := wy_z_some (A := A) (lg := lg) n5 (rk_k n A ds + 1) ds hds (by omega)
  unfold wy_n
  rw [v1]
  exact ⟨rfl, v2⟩
/-! only the posts' own distances count -/
theorem mr_min_cg {A ds es : Nat → Nat} {p : Nat} : ∀ {k : Nat}, (∀ q, q < k → ds q = es q) → mr_min A ds p k = mr_min A es p k
  | 0, _ => rfl
  | k + 1, h => by
    rw [mr_min_s, mr_min_s, mr_min_cg (fun q hq => h q (by omega)), h k (by omega)]
theorem mr_rule_cg {n : Nat} {A ds es : Nat → Nat} {p : Nat} (h : ∀ q, q < n → ds q = es q) : mr_rule n A ds p = mr_rule n A es p := by
  unfold mr_rule
  rw [mr_min_cg h]
theorem mr_rs_cg {n : Nat} {A ds es : Nat → Nat} {p : Nat} (h : ∀ q, q < n → ds q = es q) (hp : p < n) : mr_rs n A ds p = mr_rs n A es p := by
  unfold mr_rs
  rw [mr_rule_cg h, h p hp]
theorem mr_st_cg {n : Nat} {A ds es : Nat → Nat} {p : Nat} (h : ∀ q, q < n → ds q = es q) : ∀ q, q < n → mr_st n A ds p q = mr_st n A es p q := by
  intro q hq
  unfold mr_st
  rw [mr_rule_cg h, h q hq]
theorem rk_cg {n : Nat} {A ds es : Nat → Nat} (h : ∀ q, q < n → ds q = es q) : rk_k n A ds = rk_k n A es := by
  have e : ∀ j, rk_w n A ds j = rk_w n A es j := fun j => pp_cnt_eq (fun q hq => by unfold rk_m; rw [h q hq, mr_rule_cg h])
  unfold rk_k
  rw [e, e, e, e, e]
theorem wy_v_cg {n : Nat} {A : Nat → Nat} {lg : Bool} : ∀ (f : Nat) (ds es : Nat → Nat), (∀ q, q < n → ds q = es q) → wy_v n A lg f ds = wy_v n A lg f es
  | 0, _, _, _ => rfl
  | f + 1, ds, es, h => by
    have ea : pp_any (mr_rs n A ds) n = pp_any (mr_rs n A es) n := pp_any_eq (fun p hp => mr_rs_cg h hp)
    have eb : ∀ k, k ≤ n → wy_best n A lg (wy_v n A lg f) ds k = wy_best n A lg (wy_v n A lg f) es k := by
      intro k
      induction k with
      | zero => intro _; rfl
      | succ k ih =>
        intro hk
        unfold wy_best
        rw [ih (by omega), mr_rs_cg h (by omega), wy_v_cg f _ _ (mr_st_cg (p := k) h)]
    have ec : wy_bad n A (wy_v n A lg f) ds n = wy_bad n A (wy_v n A lg f) es n := pp_any_eq (fun p hp => by
      rw [mr_rs_cg h hp, wy_v_cg f _ _ (mr_st_cg (p := p) h)])
    show (if pp_any (mr_rs n A ds) n = true then wy_T n A lg (wy_v n A lg f) ds else some 0) = (if pp_any (mr_rs n A es) n = true then wy_T n A lg (wy_v n A lg f) es else some 0)
    unfold wy_T
    rw [ea, eb n (Nat.le_refl _), ec]
theorem wy_n_cg {n : Nat} {A : Nat → Nat} {lg : Bool} {ds es : Nat → Nat} (h : ∀ q, q < n → ds q = es q) : wy_n n A lg ds = wy_n n A lg es := by
  unfold wy_n wy_z
  rw [rk_cg h, wy_v_cg _ _ _ h]
