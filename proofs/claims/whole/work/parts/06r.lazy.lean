/-! ===== the lazy run: a step at a time, by rows of rfl ===== -/
def mm_lk : List (Nat × mm_S) → Nat → Option mm_S
  | [], _ => none
  | (q, f) :: r, pc => match Nat.beq pc q with
    | true => some f
    | false => mm_lk r pc
theorem mm_lk_mem : ∀ {P : List (Nat × mm_S)} {pc : Nat} {f : mm_S}, mm_lk P pc = some f → (pc, f) ∈ P
  | [], _, _, h => by cases h
  | (q, g) :: r, pc, f, h => by
    unfold mm_lk at h
    split at h
    · rename_i hb
      have e : pc = q := Nat.eq_of_beq_eq_true hb
      cases h
      rw [e]
      exact List.mem_cons_self
    · exact List.mem_cons_of_mem _ (mm_lk_mem h)
def mm_cut : List Nat → Nat → Prop → Prop → Prop
  | [], _, _, y => y
  | c :: cs, p, x, y => match Nat.beq p c with
    | true => x
    | false => mm_cut cs p x y
theorem mm_cut_or : ∀ {cs : List Nat} {p : Nat} {x y : Prop}, mm_cut cs p x y → x ∨ y
  | [], _, _, _, h => Or.inr h
  | c :: cs, p, x, y, h => by
    unfold mm_cut at h
    split at h
    · exact Or.inl h
    · exact mm_cut_or h
def mm_rn (k : mm_K) (cuts : List Nat) (R : Nat → Option mm_S) : Nat → mm_K
  | 0, pc, L, st, h => k pc L st h
  | t + 1, pc, L, st, h => match R pc with
    | none => k pc L st h
    | some f => f (fun pc' L' st' h' => match Nat.ble pc' pc with
      | true => k pc' L' st' h'
      | false => mm_cut cuts pc' (k pc' L' st' h') (mm_rn k cuts R t pc' L' st' h')) L st h
def mm_kc (k : mm_K) (cuts : List Nat) (R : Nat → Option mm_S) (t pc : Nat) : mm_K := fun pc' L' st' h' => match Nat.ble pc' pc with
  | true => k pc' L' st' h'
  | false => mm_cut cuts pc' (k pc' L' st' h') (mm_rn k cuts R t pc' L' st' h')
theorem mm_kc_ap (k : mm_K) (cuts : List Nat) (R : Nat → Option mm_S) (t pc pc' : Nat) (L' : mm_L) (st' : List Value) (h' : mm_H) : mm_kc k cuts R t pc pc' L' st' h' = (match Nat.ble pc' pc with
  | true => k pc' L' st' h'
  | false => mm_cut cuts pc' (k pc' L' st' h') (mm_rn k cuts R t pc' L' st' h')) := rfl
theorem mm_rn_ok {l : Launch} {d : Nat} {M : mm_M} {E : mm_X} {post : mm_Po} (cuts : List Nat) (P : List (Nat × mm_S)) (hs : ∀ q ∈ P, mm_Sn l d M E post q) : ∀ (t pc : Nat) (L : mm_L) (st : List Value) (h : mm_H), mm_rn (mm_At l d M E post) cuts (mm_lk P) t pc L st h → mm_At l d M E post pc L st h
  | 0, pc, L, st, h, hg => hg
  | t + 1, pc, L, st, h, hg => by
    unfold mm_rn at hg
    split at hg
    · exact hg
    · rename_i f hf
      refine hs (pc, f) (mm_lk_mem hf) _ (fun pc' L' st' h' hk => ?_) L st h hg
      split at hk
      · exact hk
      · rcases mm_cut_or hk with hk | hk
        · exact hk
        · exact mm_rn_ok cuts P hs t _ _ _ _ hk
section SQ
variable (k : mm_K) (L : mm_L) (st r : List Value) (h : mm_H) (n t i : Nat)
theorem sq_int (v : Int32) : se_int v n k L st h = (k n L (.int v :: st) h) := rfl
theorem sq_lng (v : Int64) : se_lng v n k L st h = (k n L (.long v :: st) h) := rfl
theorem sq_iload : se_iload i n k L st h = (match mm_nth L i with
  | some (some (.int x)) => k n L (.int x :: st) h
  | _ => False) := rfl
theorem sq_lload : se_lload i n k L st h = (match mm_nth L i with
  | some (some (.long x)) => k n L (.long x :: st) h
  | _ => False) := rfl
theorem sq_aload : se_aload i n k L st h = (match mm_nth L i with
  | some (some (.ref x)) => k n L (.ref x :: st) h
  | _ => False) := rfl
theorem sq_istore (x : Int32) : se_istore i n k L (.int x :: r) h = (k n (mm_sto L i (.int x)) r h) := rfl
theorem sq_lstore (x : Int64) : se_lstore i n k L (.long x :: r) h = (k n (mm_stoL L i (.long x)) r h) := rfl
theorem sq_astore (x : Nat) : se_astore i n k L (.ref x :: r) h = (k n (mm_sto L i (.ref x)) r h) := rfl
theorem sq_iinc (w : Int32) : se_iinc i w n k L st h = (match mm_nth L i with
  | some (some (.int x)) => k n (mm_sto L i (.int (x + w))) st h
  | _ => False) := rfl
theorem sq_iadd (x y : Int32) : se_iadd n k L (.int y :: .int x :: r) h = (k n L (.int (x + y) :: r) h) := rfl
theorem sq_isub (x y : Int32) : se_isub n k L (.int y :: .int x :: r) h = (k n L (.int (x - y) :: r) h) := rfl
theorem sq_imul (x y : Int32) : se_imul n k L (.int y :: .int x :: r) h = (k n L (.int (x * y) :: r) h) := rfl
theorem sq_iand (x y : Int32) : se_iand n k L (.int y :: .int x :: r) h = (k n L (.int (x &&& y) :: r) h) := rfl
theorem sq_ior (x y : Int32) : se_ior n k L (.int y :: .int x :: r) h = (k n L (.int (x ||| y) :: r) h) := rfl
theorem sq_ixor (x y : Int32) : se_ixor n k L (.int y :: .int x :: r) h = (k n L (.int (x ^^^ y) :: r) h) := rfl
theorem sq_ishl (x y : Int32) : se_ishl n k L (.int y :: .int x :: r) h = (k n L (.int (x <<< (y &&& 31)) :: r) h) := rfl
theorem sq_ishr (x y : Int32) : se_ishr n k L (.int y :: .int x :: r) h = (k n L (.int (x >>> (y &&& 31)) :: r) h) := rfl
theorem sq_iushr (x y : Int32) : se_iushr n k L (.int y :: .int x :: r) h = (k n L (.int (x.toUInt32 >>> (y.toUInt32 &&& Int32.toUInt32 31)).toInt32 :: r) h) := rfl
theorem sq_ladd (x y : Int64) : se_ladd n k L (.long y :: .long x :: r) h = (k n L (.long (x + y) :: r) h) := rfl
theorem sq_lsub (x y : Int64) : se_lsub n k L (.long y :: .long x :: r) h = (k n L (.long (x - y) :: r) h) := rfl
theorem sq_lmul (x y : Int64) : se_lmul n k L (.long y :: .long x :: r) h = (k n L (.long (x * y) :: r) h) := rfl
theorem sq_idiv (x y : Int32) : se_idiv n k L (.int y :: .int x :: r) h = ((¬ y = 0) ∧ k n L (.int (x / y) :: r) h) := rfl
theorem sq_irem (x y : Int32) : se_irem n k L (.int y :: .int x :: r) h = ((¬ y = 0) ∧ k n L (.int (x - x / y * y) :: r) h) := rfl
theorem sq_ldiv (x y : Int64) : se_ldiv n k L (.long y :: .long x :: r) h = ((¬ y = 0) ∧ k n L (.long (x / y) :: r) h) := rfl
theorem sq_lrem (x y : Int64) : se_lrem n k L (.long y :: .long x :: r) h = ((¬ y = 0) ∧ k n L (.long (x - x / y * y) :: r) h) := rfl
theorem sq_i2l (x : Int32) : se_i2l n k L (.int x :: r) h = (k n L (.long x.toInt64 :: r) h) := rfl
theorem sq_lcmp (x y : Int64) : se_lcmp n k L (.long y :: .long x :: r) h = (k n L (.int (lg_cmp x y) :: r) h) := rfl
theorem sq_dupI (x : Int32) : se_dup n k L (.int x :: r) h = (k n L (.int x :: .int x :: r) h) := rfl
theorem sq_dupR (x : Nat) : se_dup n k L (.ref x :: r) h = (k n L (.ref x :: .ref x :: r) h) := rfl
theorem sq_pop (x : Int32) : se_pop n k L (.int x :: r) h = (k n L r h) := rfl
theorem sq_dup2 (x : Int32) (y : Nat) : se_dup2 n k L (.int x :: .ref y :: r) h = (k n L (.int x :: .ref y :: .int x :: .ref y :: r) h) := rfl
theorem sq_goto : se_goto t k L st h = (k t L st h) := rfl
theorem sq_if_eq (x : Int32) : se_if_eq t n k L (.int x :: r) h = ((x = 0 → k t L r h) ∧ (¬ x = 0 → k n L r h)) := rfl
theorem sq_icmp_eq (x y : Int32) : se_icmp_eq t n k L (.int y :: .int x :: r) h = ((x = y → k t L r h) ∧ (¬ x = y → k n L r h)) := rfl
theorem sq_if_ne (x : Int32) : se_if_ne t n k L (.int x :: r) h = ((¬ x = 0 → k t L r h) ∧ (x = 0 → k n L r h)) := rfl
theorem sq_icmp_ne (x y : Int32) : se_icmp_ne t n k L (.int y :: .int x :: r) h = ((¬ x = y → k t L r h) ∧ (x = y → k n L r h)) := rfl
theorem sq_if_lt (x : Int32) : se_if_lt t n k L (.int x :: r) h = ((x < 0 → k t L r h) ∧ (¬ x < 0 → k n L r h)) := rfl
theorem sq_icmp_lt (x y : Int32) : se_icmp_lt t n k L (.int y :: .int x :: r) h = ((x < y → k t L r h) ∧ (¬ x < y → k n L r h)) := rfl
theorem sq_if_ge (x : Int32) : se_if_ge t n k L (.int x :: r) h = ((0 ≤ x → k t L r h) ∧ (¬ 0 ≤ x → k n L r h)) := rfl
theorem sq_icmp_ge (x y : Int32) : se_icmp_ge t n k L (.int y :: .int x :: r) h = ((y ≤ x → k t L r h) ∧ (¬ y ≤ x → k n L r h)) := rfl
theorem sq_if_gt (x : Int32) : se_if_gt t n k L (.int x :: r) h = ((0 < x → k t L r h) ∧ (¬ 0 < x → k n L r h)) := rfl
theorem sq_icmp_gt (x y : Int32) : se_icmp_gt t n k L (.int y :: .int x :: r) h = ((y < x → k t L r h) ∧ (¬ y < x → k n L r h)) := rfl
theorem sq_if_le (x : Int32) : se_if_le t n k L (.int x :: r) h = ((x ≤ 0 → k t L r h) ∧ (¬ x ≤ 0 → k n L r h)) := rfl
theorem sq_icmp_le (x y : Int32) : se_icmp_le t n k L (.int y :: .int x :: r) h = ((x ≤ y → k t L r h) ∧ (¬ x ≤ y → k n L r h)) := rfl
theorem sq_iaload (x : Int32) (a : Nat) : se_iaload n k L (.int x :: .ref a :: r) h = (vp_in x (mm_len a) ∧ k n L (.int (h a x.toNatClampNeg) :: r) h) := rfl
theorem sq_iastore (x y : Int32) (a : Nat) : se_iastore n k L (.int x :: .int y :: .ref a :: r) h = ((¬ a = 25) ∧ vp_in y (mm_len a) ∧ k n L r (mm_set h a y.toNatClampNeg x)) := rfl
theorem sq_alen (a : Nat) : se_alen n k L (.ref a :: r) h = (0 < mm_len a ∧ k n L (.int (Int32.ofNat (mm_len a)) :: r) h) := rfl
theorem sq_places : se_places n k L st h = (k n L (.ref 25 :: st) h) := rfl
theorem sq_getI (c0 k0 a : Nat) : se_getI c0 k0 n k L (.ref a :: r) h = (a = c0 ∧ k n L (.int (h c0 k0) :: r) h) := rfl
theorem sq_getR (c0 r0 a : Nat) : se_getR c0 r0 n k L (.ref a :: r) h = (a = c0 ∧ k n L (.ref r0 :: r) h) := rfl
theorem sq_put (z : Bool) (c0 k0 a : Nat) (x : Int32) : se_put z c0 k0 n k L (.int x :: .ref a :: r) h = (a = c0 ∧ (z = true → x = 0 ∨ x = 1) ∧ k n L r (mm_set h c0 k0 x)) := rfl
theorem sq_ret (P : mm_Po) (z : Bool) (x : Int32) : se_ret P z k L [.int x] h = (P (some (.int x)) h ∧ (z = true → x = 0 ∨ x = 1)) := rfl
theorem sq_lret (P : mm_Po) (x : Int64) : se_lret P k L [.long x] h = (P (some (.long x)) h) := rfl
theorem sq_vret (P : mm_Po) : se_vret P k L [] h = (P none h) := rfl
theorem sq_switch (cs : List (Int32 × Nat)) (x : Int32) : se_switch cs t k L (.int x :: r) h = (mm_sw k L r h x t cs) := rfl
theorem sq_callS (l : Launch) (d : Nat) (M : mm_M) : se_callS l d M n t k L st h = (∃ (d' : Nat) (P : mm_Po), d' < d ∧ mm_Ev l d' M (mm_ag n st []) h P ∧ Nat.ble n st.length = true ∧ mm_c8 (mm_dr n st) = true ∧ ∀ (r : Option Value) (h' : mm_H), P r h' → mm_num r ∧ k t L (r.toList ++ mm_dr n st) h') := rfl
theorem sq_callV (l : Launch) (d : Nat) (M : mm_M) : se_callV l d M n i t k L st h = (∃ (d' : Nat) (P : mm_Po), d' < d ∧ mm_Ev l d' M (mm_ag (n + 1) st []) h P ∧ mm_nth st n = some (.ref i) ∧ mm_c8 (mm_dr (n + 1) st) = true ∧ ∀ (r : Option Value) (h' : mm_H), P r h' → mm_num r ∧ k t L (r.toList ++ mm_dr (n + 1) st) h') := rfl
theorem sq_copy (d : Nat) (w dp sp : Int32) (a b : Nat) : se_copy d t k L (.int w :: .int dp :: .ref b :: .int sp :: .ref a :: r) h = (1 ≤ d ∧ (¬ sp < 0) ∧ (¬ dp < 0) ∧ (¬ w < 0) ∧ (¬ a = 25) ∧ (¬ b = 25) ∧ 0 < mm_len a ∧ 0 < mm_len b ∧ sp.toNatClampNeg + w.toNatClampNeg ≤ mm_len a ∧ dp.toNatClampNeg + w.toNatClampNeg ≤ mm_len b ∧ mm_c8 r = true ∧ k t L r (mm_setA h b (va_cpy (h a) (h b) sp.toNatClampNeg dp.toNatClampNeg w.toNatClampNeg))) := rfl
theorem sq_max (d : Nat) (x y : Int32) : se_max d t k L (.int y :: .int x :: r) h = (0 < d ∧ mm_c8 r = true ∧ k t L (.int (if x < y then y else x) :: r) h) := rfl
theorem sq_min (d : Nat) (x y : Int32) : se_min d t k L (.int y :: .int x :: r) h = (0 < d ∧ mm_c8 r = true ∧ k t L (.int (if y < x then y else x) :: r) h) := rfl
end SQ
