/-! ===== numbers: counts, masks, bits ===== -/
theorem mm_len_2 : mm_len 2 = 8 := rfl
theorem mm_len_3 : mm_len 3 = 8 := rfl
theorem mm_len_4 : mm_len 4 = 8 := rfl
theorem mm_len_6 : mm_len 6 = 8 := rfl
theorem mm_len_8 : mm_len 8 = 8 := rfl
theorem mm_len_10 : mm_len 10 = 8 := rfl
theorem mm_len_11 : mm_len 11 = 8 := rfl
theorem mm_len_12 : mm_len 12 = 3125 := rfl
theorem mm_len_13 : mm_len 13 = 3125 := rfl
theorem mm_len_14 : mm_len 14 = 3125 := rfl
theorem mm_len_15 : mm_len 15 = 8 := rfl
theorem mm_len_17 : mm_len 17 = 8 := rfl
theorem mm_len_18 : mm_len 18 = 8 := rfl
theorem mm_len_19 : mm_len 19 = 8 := rfl
theorem mm_len_20 : mm_len 20 = 8 := rfl
theorem mm_len_21 : mm_len 21 = 8 := rfl
theorem mm_len_22 : mm_len 22 = 8 := rfl
theorem mm_len_23 : mm_len 23 = 8 := rfl
theorem mm_len_24 : mm_len 24 = 3125 := rfl
theorem mm_len_25 : mm_len 25 = 5 := rfl
theorem pp_i10 : ((1 : Int32) = 0) = False := eq_false (by decide)
theorem pp_i01 : ((0 : Int32) = 1) = False := eq_false (by decide)
theorem pp_im1 : ((-1 : Int32) = 0) = False := eq_false (by decide)
/-- how many below k -/
def pp_cnt (P : Nat → Bool) : Nat → Nat
  | 0 => 0
  | k + 1 => pp_cnt P k + (if P k = true then 1 else 0)
def pp_all (P : Nat → Bool) : Nat → Bool
  | 0 => true
  | k + 1 => pp_all P k && P k
def pp_any (P : Nat → Bool) : Nat → Bool
  | 0 => false
  | k + 1 => pp_any P k || P k
def pp_msk (P : Nat → Bool) : Nat → Nat
  | 0 => 0
  | k + 1 => pp_msk P k ||| (if P k = true then 1 <<< k else 0)
theorem pp_cnt_le (P : Nat → Bool) : ∀ k, pp_cnt P k ≤ k
  | 0 => Nat.le_refl 0
  | k + 1 => by
    have := pp_cnt_le P k
    unfold pp_cnt
    split <;> omega
theorem pp_cnt_t {P : Nat → Bool} {k : Nat} (h : P k = true) : pp_cnt P (k + 1) = pp_cnt P k + 1 := by
  show pp_cnt P k + (if P k = true then 1 else 0) = _
  rw [if_pos h]
theorem pp_cnt_f {P : Nat → Bool} {k : Nat} (h : P k = false) : pp_cnt P (k + 1) = pp_cnt P k := by
  show pp_cnt P k + (if P k = true then 1 else 0) = _
  rw [if_neg (by rw [h]; exact Bool.false_ne_true), Nat.add_zero]
theorem pp_all_iff {P : Nat → Bool} : ∀ {k : Nat}, pp_all P k = true ↔ ∀ j, j < k → P j = true
  | 0 => ⟨fun _ j h => absurd h (Nat.not_lt_zero j), fun _ => rfl⟩
  | k + 1 => by
    unfold pp_all
    rw [Bool.and_eq_true, pp_all_iff]
    constructor
    · intro ⟨h1, h2⟩ j hj
      rcases Nat.lt_succ_iff_lt_or_eq.mp hj with h | h
      · exact h1 j h
      · rw [h]; exact h2
    · intro h
      exact ⟨fun j hj => h j (by omega), h k (by omega)⟩
theorem pp_any_iff {P : Nat → Bool} : ∀ {k : Nat}, pp_any P k = true ↔ ∃ j, j < k ∧ P j = true
  | 0 => ⟨fun h => absurd h Bool.false_ne_true, fun ⟨j, h, _⟩ => absurd h (Nat.not_lt_zero j)⟩
  | k + 1 => by
    unfold pp_any
    rw [Bool.or_eq_true, pp_any_iff]
    constructor
    · rintro (⟨j, h1, h2⟩ | h)
      · exact ⟨j, by omega, h2⟩
      · exact ⟨k, by omega, h⟩
    · rintro ⟨j, h1, h2⟩
      rcases Nat.lt_succ_iff_lt_or_eq.mp h1 with h | h
      · exact Or.inl ⟨j, h, h2⟩
      · rw [h] at h2; exact Or.inr h2
theorem pp_msk_bit (P : Nat → Bool) (j : Nat) : ∀ k, (pp_msk P k).testBit j = (decide (j < k) && P j)
  | 0 => by simp [pp_msk]
  | k + 1 => by
    unfold pp_msk
    rw [Nat.testBit_or, pp_msk_bit P j k]
    by_cases hP : P k = true
    · rw [if_pos hP]
      by_cases hj : j = k
      · subst hj
        simp [Nat.testBit_shiftLeft, hP]
      · have e : (1 <<< k).testBit j = false := by
          rw [Nat.one_shiftLeft]
          exact Nat.testBit_two_pow_of_ne (Ne.symm hj)
        rw [e, Bool.or_false]
        by_cases h1 : j < k
        · simp [h1, Nat.lt_succ_of_lt h1]
        · have h2 : ¬ j < k + 1 := by omega
          simp [h1, h2]
    · rw [if_neg hP, Nat.zero_testBit, Bool.or_false]
      by_cases hj : j = k
      · subst hj
        simp [hP]
      · by_cases h1 : j < k
        · simp [h1, Nat.lt_succ_of_lt h1]
        · have h2 : ¬ j < k + 1 := by omega
          simp [h1, h2]
theorem pp_msk_lt (P : Nat → Bool) (k : Nat) : pp_msk P k < 2 ^ k := by
  apply Nat.lt_pow_two_of_testBit
  intro j hj
  rw [pp_msk_bit]
  have : ¬ j < k := by omega
  simp [this]
theorem pp_msk_eq {P Q : Nat → Bool} {k : Nat} (h : ∀ j, j < k → P j = Q j) : pp_msk P k = pp_msk Q k := by
  apply Nat.eq_of_testBit_eq
  intro j
  rw [pp_msk_bit, pp_msk_bit]
  by_cases hj : j < k
  · rw [h j hj]
  · simp [hj]
theorem pp_cnt_eq {P Q : Nat → Bool} : ∀ {k : Nat}, (∀ j, j < k → P j = Q j) → pp_cnt P k = pp_cnt Q k
  | 0, _ => rfl
  | k + 1, h => by
    unfold pp_cnt
    rw [pp_cnt_eq (fun j hj => h j (by omega)), h k (by omega)]
theorem pp_all_eq {P Q : Nat → Bool} {k : Nat} (h : ∀ j, j < k → P j = Q j) : pp_all P k = pp_all Q k := by
  apply Bool.eq_iff_iff.mpr
  rw [pp_all_iff, pp_all_iff]
  exact ⟨fun g j hj => by rw [← h j hj]; exact g j hj, fun g j hj => by rw [h j hj]; exact g j hj⟩
theorem pp_any_eq {P Q : Nat → Bool} {k : Nat} (h : ∀ j, j < k → P j = Q j) : pp_any P k = pp_any Q k := by
  apply Bool.eq_iff_iff.mpr
  rw [pp_any_iff, pp_any_iff]
  exact ⟨fun ⟨j, hj, g⟩ => ⟨j, hj, by rw [← h j hj]; exact g⟩, fun ⟨j, hj, g⟩ => ⟨j, hj, by rw [h j hj]; exact g⟩⟩
/-! ints of small numbers -/
theorem pp_s31 : ∀ k : Fin 32, (((nI k.val) &&& 31).toBitVec.smod 32).toNat = k.val := by decide +kernel
theorem pp_shr {a k : Nat} (ha : a < 2 ^ 31) (hk : k < 32) : nI a >>> (nI k &&& 31) = nI (a / 2 ^ k) := pk_shrN ha _ k (pp_s31 ⟨k, hk⟩)
theorem pp_shl {a k : Nat} (hk : k < 32) (h : a * 2 ^ k < 2 ^ 32) : nI a <<< (nI k &&& 31) = nI (a * 2 ^ k) := pk_shlN _ k (pp_s31 ⟨k, hk⟩) h
theorem pp_and1 {a : Nat} (ha : a < 2 ^ 32) : nI a &&& 1 = nI (a % 2) := pk_andN ha 1 (by decide)
theorem pp_bit {a k : Nat} (ha : a < 2 ^ 31) (hk : k < 32) : (nI a >>> (nI k &&& 31)) &&& 1 = nI (a.testBit k).toNat := by
  rw [pp_shr ha hk, pp_and1 (Nat.lt_of_le_of_lt (Nat.div_le_self _ _) (by omega)), Nat.testBit_eq_decide_div_mod_eq]
  congr 1
  rcases Nat.mod_two_eq_zero_or_one (a / 2 ^ k) with h | h <;> simp [h]
theorem pp_bit1 {a k : Nat} (ha : a < 2 ^ 31) (hk : k < 32) : (nI a >>> (nI k &&& 31)) &&& 1 = 1 ↔ a.testBit k = true := by
  rw [pp_bit ha hk]
  cases a.testBit k <;> simp [Bool.toNat] <;> decide
theorem pp_and (a b : Nat) (ha : a < 2 ^ 32) (hb : b < 2 ^ 32) : nI a &&& nI b = nI (a &&& b) := by
  apply Int32.toBitVec_inj.mp
  apply BitVec.eq_of_toNat_eq
  have h3 : (a &&& b) < 2 ^ 32 := Nat.lt_of_le_of_lt Nat.and_le_left ha
  rw [pk_tn h3, Int32.toBitVec_and, BitVec.toNat_and, pk_tn ha, pk_tn hb]
theorem pp_or (a b : Nat) (ha : a < 2 ^ 32) (hb : b < 2 ^ 32) : nI a ||| nI b = nI (a ||| b) := by
  apply Int32.toBitVec_inj.mp
  apply BitVec.eq_of_toNat_eq
  have h3 : (a ||| b) < 2 ^ 32 := Nat.or_lt_two_pow ha hb
  rw [pk_tn h3, Int32.toBitVec_or, BitVec.toNat_or, pk_tn ha, pk_tn hb]
theorem pp_one_shl {k : Nat} (hk : k < 31) : (1 : Int32) <<< (nI k &&& 31) = nI (1 <<< k) := by
  have h := pp_shl (a := 1) (k := k) (by omega) (by
    rw [Nat.one_mul]
    exact Nat.pow_lt_pow_right (by omega) (by omega))
  rw [Nat.one_mul] at h
  rw [Nat.one_shiftLeft]
  exact h
theorem pp_cl {k : Nat} (h : k < 2 ^ 31) : (nI k).toNatClampNeg = k := nI_clamp h
theorem pp_msk_step {P : Nat → Bool} {k : Nat} (hk : k < 31) (hP : P k = true) : nI (pp_msk P k) ||| ((1 : Int32) <<< (nI k &&& 31)) = nI (pp_msk P (k + 1)) := by
  rw [pp_one_shl hk, pp_or _ _ (Nat.lt_of_lt_of_le (pp_msk_lt P k) (Nat.pow_le_pow_right (by omega) (by omega))) (by
    rw [Nat.one_shiftLeft]
    exact Nat.pow_lt_pow_right (by omega) (by omega))]
  show _ = nI (pp_msk P k ||| (if P k = true then 1 <<< k else 0))
  rw [if_pos hP]
theorem pp_msk_skip {P : Nat → Bool} {k : Nat} (hP : ¬ P k = true) : pp_msk P (k + 1) = pp_msk P k := by
  show pp_msk P k ||| (if P k = true then 1 <<< k else 0) = _
  rw [if_neg hP, Nat.or_zero]
