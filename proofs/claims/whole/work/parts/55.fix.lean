/-! ===== the reference's ways: passes until nothing changes ===== -/
def fw_W (n : Nat) (w : Nat → Option Nat) (ds : Nat → Nat) : Option Nat := w (rr_v 5 ds n)
def fw_s (n : Nat) (ds0 : Nat → Nat) (x : Nat) : Nat → Nat := cl_pf n (rr_d 5 n x) ds0
def fw_r (n : Nat) (A ds0 : Nat → Nat) (x : Nat) : Bool := pp_any (mr_rs n A (fw_s n ds0 x)) n
def fw_T (n : Nat) (A : Nat → Nat) (lg : Bool) (ds0 : Nat → Nat) (w : Nat → Option Nat) (x : Nat) : Option Nat := wy_T n A lg (fw_W n w) (fw_s n ds0 x)
def fw_le (lg : Bool) (w' w : Nat → Option Nat) : Prop := ∀ z a, w z = some a → ∃ b, w' z = some b ∧ b ≤ a ∧ (lg = true → b = a)
theorem fw_s_5 {n : Nat} {ds0 : Nat → Nat} (h : ∀ q, ds0 q < 5) (x q : Nat) : fw_s n ds0 x q < 5 := by
  unfold fw_s cl_pf
  split
  · exact rr_d_lt (by decide)
  · exact h q
theorem fw_c_lt {n : Nat} {ds : Nat → Nat} (h : ∀ q, ds q < 5) : rr_v 5 ds n < 5 ^ n := rr_v_lt (fun q _ => h q)
theorem fw_s_c {n : Nat} {ds0 ds : Nat → Nat} (h : ∀ q, ds q < 5) : ∀ q, q < n → fw_s n ds0 (rr_v 5 ds n) q = ds q := by
  intro q hq
  unfold fw_s cl_pf
  rw [if_pos hq]
  exact rr_v_d (fun q _ => h q) q hq
theorem wy_best_mono {n : Nat} {A : Nat → Nat} {W W' : (Nat → Nat) → Option Nat} {ds : Nat → Nat} (h : ∀ es a, W es = some a → ∃ b, W' es = some b ∧ b ≤ a) : ∀ {k u : Nat}, wy_best n A false W ds k = some u → ∃ u', wy_best n A false W' ds k = some u' ∧ u' ≤ u
  | 0, u, hu => by cases hu
  | k + 1, u, hu => by
    unfold wy_best at hu ⊢
    by_cases hr : mr_rs n A ds k = true
    · rw [if_pos hr] at hu ⊢
      have or2 : ∀ (b : Nat) (o : Option Nat), ∃ y, wy_or false b o = some y ∧ y ≤ b + 1 ∧ ∀ c, o = some c → y ≤ c := by
        intro b o
        cases o with
        | none => exact ⟨b + 1, rfl, Nat.le_refl _, fun c hc => by cases hc⟩
        | some c =>
          by_cases hc : b + 1 < c
          · exact ⟨b + 1, by simp [wy_or, hc], Nat.le_refl _, fun c' e => by cases e; omega⟩
          · exact ⟨c, by simp [wy_or, hc], by omega, fun c' e => by cases e; exact Nat.le_refl _⟩
      cases hw : W (mr_st n A ds k) with
      | none =>
        rw [hw] at hu
        obtain ⟨c, c1, c2⟩ := wy_best_mono h hu
        cases hw' : W' (mr_st n A ds k) with
        | none => exact ⟨c, c1, c2⟩
        | some b =>
          obtain ⟨y, y1, y2, y3⟩ := or2 b (wy_best n A false W' ds k)
          exact ⟨y, y1, Nat.le_trans (y3 c c1) c2⟩
      | some a =>
        rw [hw] at hu
        obtain ⟨b, b1, b2⟩ := h _ _ hw
        rw [b1]
        obtain ⟨y, y1, y2, y3⟩ := or2 b (wy_best n A false W' ds k)
        refine ⟨y, y1, ?_⟩
        have hu : wy_or false a (wy_best n A false W ds k) = some u := hu
        cases hb : wy_best n A false W ds k with
        | none =>
          rw [hb] at hu
          have e : some (a + 1) = some u := hu
          cases e
          omega
        | some c0 =>
          rw [hb] at hu
          obtain ⟨c, c1, c2⟩ := wy_best_mono h hb
          have y4 := y3 c c1
          by_cases hc : a + 1 < c0
          · have e : some (a + 1) = some u := by rw [← hu]; simp [wy_or, hc]
            cases e
            omega
          · have e : some c0 = some u := by rw [← hu]; simp [wy_or, hc]
            cases e
            omega
    · rw [if_neg hr] at hu ⊢
      exact wy_best_mono h hu
theorem fw_mono {n : Nat} {A : Nat → Nat} {lg : Bool} {ds0 : Nat → Nat} {w w' : Nat → Option Nat} (h : fw_le lg w' w) {y u : Nat} (hu : fw_T n A lg ds0 w y = some u) : ∃ u', fw_T n A lg ds0 w' y = some u' ∧ u' ≤ u ∧ (lg = true → u' = u) := by
  unfold fw_T at hu ⊢
  cases lg with
  | false =>
    unfold wy_T at hu ⊢
    rw [Bool.false_and, if_neg Bool.false_ne_true] at hu ⊢
    obtain ⟨u', u1, u2⟩ := wy_best_mono (W := fw_W n w) (W' := fw_W n w') (fun es a ha => by
      obtain ⟨b, b1, b2, _⟩ := h _ a ha
      exact ⟨b, b1, b2⟩) hu
    exact ⟨u', u1, u2, fun z => by cases z⟩
  | true =>
    have hnb : ¬ (true && wy_bad n A (fw_W n w) (fw_s n ds0 y) n) = true := by
      intro hc
      unfold wy_T at hu
      rw [if_pos hc] at hu
      cases hu
    have e : wy_T n A true (fw_W n w') (fw_s n ds0 y) = wy_T n A true (fw_W n w) (fw_s n ds0 y) := wy_T_cg (fun p hp hr => by
      cases hw : fw_W n w (mr_st n A (fw_s n ds0 y) p) with
      | none =>
        have hb : wy_bad n A (fw_W n w) (fw_s n ds0 y) n = true := pp_any_iff.mpr ⟨p, hp, by
          show (mr_rs n A (fw_s n ds0 y) p && (fw_W n w (mr_st n A (fw_s n ds0 y) p)).isNone) = true
          rw [hr, hw]
          rfl⟩
        rw [hb] at hnb
        exact absurd rfl hnb
      | some a =>
        obtain ⟨b, b1, _, b3⟩ := h _ a hw
        rw [b3 rfl] at b1
        exact b1)
    exact ⟨u, e.trans hu, Nat.le_refl _, fun _ => rfl⟩
def fw_J (n : Nat) (A : Nat → Nat) (lg : Bool) (ds0 : Nat → Nat) (w : Nat → Option Nat) : Prop := ∀ x, x < 5 ^ n → (fw_r n A ds0 x = false → w x = some 0) ∧ (fw_r n A ds0 x = true → ∀ v, w x = some v → 0 < v ∧ v ≤ rk_k n A (fw_s n ds0 x) ∧ ∃ u, fw_T n A lg ds0 w x = some u ∧ u ≤ v ∧ (lg = true → u = v))
theorem wy_best_pos {n : Nat} {A : Nat → Nat} {lg : Bool} {W : (Nat → Nat) → Option Nat} {ds : Nat → Nat} : ∀ {k u : Nat}, wy_best n A lg W ds k = some u → 0 < u
  | 0, u, hu => by cases hu
  | k + 1, u, hu => by
    unfold wy_best at hu
    by_cases hr : mr_rs n A ds k = true
    · rw [if_pos hr] at hu
      cases hw : W (mr_st n A ds k) with
      | none => rw [hw] at hu; exact wy_best_pos hu
      | some a =>
        rw [hw] at hu
        have hu : wy_or lg a (wy_best n A lg W ds k) = some u := hu
        cases hb : wy_best n A lg W ds k with
        | none =>
          rw [hb] at hu
          have e : some (a + 1) = some u := hu
          cases e
          omega
        | some c =>
          rw [hb] at hu
          have hc := wy_best_pos hb
          by_cases hh : (if lg = true then c < a + 1 else a + 1 < c)
          · have e : some (a + 1) = some u := by rw [← hu]; unfold wy_or; dsimp only; rw [if_pos hh]
            cases e
            omega
          · have e : some c = some u := by rw [← hu]; unfold wy_or; dsimp only; rw [if_neg hh]
            cases e
            exact hc
    · rw [if_neg hr] at hu
      exact wy_best_pos hu
theorem fw_T_ok {n : Nat} {A : Nat → Nat} {lg : Bool} {ds0 : Nat → Nat} {w : Nat → Option Nat} (n5 : n ≤ 5) (h5 : ∀ q, ds0 q < 5) (J : fw_J n A lg ds0 w) {x u : Nat} (hu : fw_T n A lg ds0 w x = some u) : 0 < u ∧ u ≤ rk_k n A (fw_s n ds0 x) := by
  unfold fw_T wy_T at hu
  by_cases hc : (lg && wy_bad n A (fw_W n w) (fw_s n ds0 x) n) = true
  · rw [if_pos hc] at hu; cases hu
  · rw [if_neg hc] at hu
    refine ⟨wy_best_pos hu, (wy_best_ok (fun p v hp hr hw => ?_)).1 u hu⟩
    have s5 := mr_st_5 (n := n) (A := A) (fw_s_5 (n := n) h5 x) p
    have hlt := rk_lt n5 (fw_s_5 h5 x) hp hr
    have hz := fw_c_lt (n := n) s5
    have e := rk_cg (A := A) (fw_s_c (n := n) (ds0 := ds0) s5)
    obtain ⟨j1, j2⟩ := J _ hz
    have hw : w (rr_v 5 (mr_st n A (fw_s n ds0 x) p) n) = some v := hw
    cases hb : fw_r n A ds0 (rr_v 5 (mr_st n A (fw_s n ds0 x) p) n) with
    | false =>
      rw [j1 hb] at hw
      cases hw
      omega
    | true =>
      have := (j2 hb v hw).2.1
      rw [e] at this
      omega
def fw_up (w : Nat → Option Nat) (x : Nat) (u : Option Nat) : Nat → Option Nat := fun z => if z = x then u else w z
def fw_val (o : Option Nat) : Nat := match o with
  | none => 8000
  | some v => v
def fw_M (w : Nat → Option Nat) : Nat → Nat
  | 0 => 0
  | k + 1 => fw_M w k + fw_val (w k)
theorem fw_M_cg {w w' : Nat → Option Nat} : ∀ {k : Nat}, (∀ x, x < k → w x = w' x) → fw_M w k = fw_M w' k
  | 0, _ => rfl
  | k + 1, h => by
    unfold fw_M
    rw [fw_M_cg (fun x hx => h x (by omega)), h k (by omega)]
theorem fw_M_up {w : Nat → Option Nat} {x : Nat} {u : Option Nat} : ∀ {k : Nat}, x < k → fw_M (fw_up w x u) k + fw_val (w x) = fw_M w k + fw_val u
  | 0, h => absurd h (Nat.not_lt_zero _)
  | k + 1, h => by
    unfold fw_M
    by_cases e : x = k
    · subst e
      rw [fw_M_cg (w := fw_up w x u) (w' := w) (k := x) (fun z hz => if_neg (by omega)), show fw_up w x u x = u from if_pos rfl]
      omega
    · have ih := fw_M_up (w := w) (u := u) (k := k) (x := x) (by omega)
      rw [show fw_up w x u k = w k from if_neg (fun z => e z.symm)]
      omega
theorem fw_J_up {n : Nat} {A : Nat → Nat} {lg : Bool} {ds0 : Nat → Nat} {w : Nat → Option Nat} (n5 : n ≤ 5) (h5 : ∀ q, ds0 q < 5) (J : fw_J n A lg ds0 w) {x : Nat} (hx : x < 5 ^ n) (hr : fw_r n A ds0 x = true) : fw_J n A lg ds0 (fw_up w x (fw_T n A lg ds0 w x)) ∧ (fw_T n A lg ds0 w x ≠ w x → fw_M (fw_up w x (fw_T n A lg ds0 w x)) (5 ^ n) < fw_M w (5 ^ n)) := by
  have hle : fw_le lg (fw_up w x (fw_T n A lg ds0 w x)) w := by
    intro z a ha
    unfold fw_up
    by_cases e : z = x
    · subst e
      rw [if_pos rfl]
      obtain ⟨_, _, u, u1, u2, u3⟩ := (J z hx).2 hr a ha
      exact ⟨u, u1, u2, u3⟩
    · rw [if_neg e]
      exact ⟨a, ha, Nat.le_refl _, fun _ => rfl⟩
  constructor
  · intro y hy
    refine ⟨fun hf => ?_, fun ht v hv => ?_⟩
    · unfold fw_up
      rw [if_neg (fun z => by rw [z, hr] at hf; cases hf)]
      exact (J y hy).1 hf
    · by_cases e : y = x
      · subst e
        have hv' : fw_T n A lg ds0 w y = some v := by
          unfold fw_up at hv
          rw [if_pos rfl] at hv
          exact hv
        obtain ⟨t1, t2⟩ := fw_T_ok n5 h5 J hv'
        exact ⟨t1, t2, fw_mono hle hv'⟩
      · have hv' : w y = some v := by
          unfold fw_up at hv
          rw [if_neg e] at hv
          exact hv
        obtain ⟨t1, t2, u, u1, u2, u3⟩ := (J y hy).2 ht v hv'
        obtain ⟨u', v1, v2, v3⟩ := fw_mono hle u1
        exact ⟨t1, t2, u', v1, by omega, fun z => by rw [v3 z, u3 z]⟩
  · intro hne
    have hM := fw_M_up (w := w) (u := fw_T n A lg ds0 w x) hx
    have hlt : fw_val (fw_T n A lg ds0 w x) < fw_val (w x) := by
      cases hw : w x with
      | none =>
        cases hT : fw_T n A lg ds0 w x with
        | none => rw [hw, hT] at hne; exact absurd rfl hne
        | some u =>
          have := (fw_T_ok n5 h5 J hT).2
          have := rk_k_le (n := n) (A := A) (ds := fw_s n ds0 x) n5
          show u < 8000
          omega
      | some v =>
        obtain ⟨_, _, u, u1, u2, _⟩ := (J x hx).2 hr v hw
        rw [u1] at hne ⊢
        have : u ≠ v := fun z => hne (by rw [z, hw])
        show u < v
        omega
    omega
/-- where nothing changes, the ways are the ways -/
theorem fw_fix {n : Nat} {A : Nat → Nat} {lg : Bool} {ds0 : Nat → Nat} {w : Nat → Option Nat} (n5 : n ≤ 5) (h5 : ∀ q, ds0 q < 5) (J : fw_J n A lg ds0 w) (hF : ∀ x, x < 5 ^ n → fw_r n A ds0 x = true → fw_T n A lg ds0 w x = w x) : ∀ (r x : Nat), x < 5 ^ n → rk_k n A (fw_s n ds0 x) < r → w x = wy_z n A lg (fw_s n ds0 x) := by
  intro r
  induction r with
  | zero => intro x _ h; exact absurd h (Nat.not_lt_zero _)
  | succ r ih =>
    intro x hx hk
    have s5 := fw_s_5 (n := n) h5 x
    rw [wy_z_eq n5 s5]
    cases hr : fw_r n A ds0 x with
    | false =>
      have hr' : ¬ pp_any (mr_rs n A (fw_s n ds0 x)) n = true := by
        unfold fw_r at hr
        rw [hr]
        exact Bool.false_ne_true
      rw [if_neg hr']
      exact (J x hx).1 hr
    | true =>
      have hr' : pp_any (mr_rs n A (fw_s n ds0 x)) n = true := hr
      rw [if_pos hr', ← hF x hx hr]
      unfold fw_T
      apply wy_T_cg
      intro p hp hrp
      have t5 := mr_st_5 (n := n) (A := A) s5 p
      have hlt := rk_lt n5 s5 hp hrp
      have e := rk_cg (A := A) (fw_s_c (n := n) (ds0 := ds0) t5)
      show w (rr_v 5 (mr_st n A (fw_s n ds0 x) p) n) = _
      rw [ih _ (fw_c_lt t5) (by omega)]
      unfold wy_z
      rw [e, wy_v_cg _ _ _ (fw_s_c (n := n) (ds0 := ds0) t5)]
