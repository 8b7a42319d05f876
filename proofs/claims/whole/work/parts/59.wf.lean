/-! ===== the state stays as it should be ===== -/
theorem ss_up_lt {f : Nat → Nat} {k v m : Nat} (hf : ∀ q, f q < m) (hv : v < m) : ∀ q, ss_up f k v q < m := by
  intro q
  unfold ss_up
  split
  · exact hv
  · exact hf q
theorem w_mark {s : ss_T} (hW : ss_W s) (p v : Int32) : ss_W (sp_mark p v s).2 := by
  have hW' := hW
  obtain ⟨n, A, mq, pf, ds, sc, tr, lk⟩ := s
  obtain ⟨w1, w2, w3, w4, w5, w6, w7, w8, w9, w10, w11, w12⟩ := hW
  unfold sp_mark
  dsimp only
  split
  · split
    · rename_i h1
      have := (pp_nat (m := 3) h1.1 (Int32.le_iff_toInt_le.mp h1.2)).2
      exact ⟨w1, w2, w3, w4, w5, w6, ss_up_lt w7 (by omega), w8, w9, w10, w11, w12⟩
    · exact hW'
  · exact hW'
theorem w_scheme {s : ss_T} (hW : ss_W s) (k : Int32) : ss_W (sp_scheme k s).2 := by
  have hW' := hW
  obtain ⟨n, A, mq, pf, ds, sc, tr, lk⟩ := s
  obtain ⟨w1, w2, w3, w4, w5, w6, w7, w8, w9, w10, w11, w12⟩ := hW
  unfold sp_scheme
  dsimp only
  split
  · rename_i h1
    have := (pp_nat (m := 4) h1.1 (Int32.le_iff_toInt_le.mp h1.2)).2
    exact ⟨w1, w2, w3, w4, w5, w6, w7, w8, w9, by omega, w11, w12⟩
  · exact hW'
theorem w_proof {s : ss_T} (hW : ss_W s) (p v : Int32) : ss_W (sp_proof p v s).2 := by
  have hW' := hW
  obtain ⟨n, A, mq, pf, ds, sc, tr, lk⟩ := s
  obtain ⟨w1, w2, w3, w4, w5, w6, w7, w8, w9, w10, w11, w12⟩ := hW
  unfold sp_proof
  dsimp only
  split
  · split
    · rename_i h1
      have := (pp_nat (m := 63) h1.1 (Int32.le_iff_toInt_le.mp h1.2)).2
      exact ⟨w1, w2, w3, w4, w5, w6, w7, ss_up_lt w8 (by omega), w9, w10, w11, w12⟩
    · exact hW'
  · exact hW'
theorem w_distance {s : ss_T} (hW : ss_W s) (p v : Int32) : ss_W (sp_distance p v s).2 := by
  have hW' := hW
  obtain ⟨n, A, mq, pf, ds, sc, tr, lk⟩ := s
  obtain ⟨w1, w2, w3, w4, w5, w6, w7, w8, w9, w10, w11, w12⟩ := hW
  unfold sp_distance
  dsimp only
  split
  · split
    · rename_i h1
      have := (pp_nat (m := 4) h1.1 (Int32.le_iff_toInt_le.mp h1.2)).2
      exact ⟨w1, w2, w3, w4, w5, w6, w7, w8, ss_up_lt w9 (by omega), w10, w11, w12⟩
    · exact hW'
  · exact hW'
theorem w_move {s : ss_T} (hW : ss_W s) (p : Int32) : ss_W (sp_move p s).2 := by
  have hW' := hW
  obtain ⟨n, A, mq, pf, ds, sc, tr, lk⟩ := s
  obtain ⟨w1, w2, w3, w4, w5, w6, w7, w8, w9, w10, w11, w12⟩ := hW
  unfold sp_move
  dsimp only
  split
  · split
    · exact ⟨w1, w2, w3, w4, w5, w6, w7, w8, fun q => mr_st_5 w9 _ q, w10, w11, w12⟩
    · exact hW'
  · exact hW'
theorem mr_go_5 {n : Nat} {A : Nat → Nat} : ∀ (k done : Nat) (ds : Nat → Nat), (∀ q, ds q < 5) → ∀ q, (mr_go n A k done ds).2 q < 5
  | 0, done, ds, h => h
  | k + 1, done, ds, h => by
    show ∀ q, (if pp_any (mr_rs n A ds) n = true then mr_go n A k (done + 1) (mr_st n A ds (pp_fst (mr_rs n A ds) (n - 1))) else (nI done, ds)).2 q < 5
    split
    · exact mr_go_5 k _ _ (mr_st_5 h _)
    · exact h
theorem w_mend {s : ss_T} (hW : ss_W s) : ss_W (sp_mend s).2 := by
  obtain ⟨n, A, mq, pf, ds, sc, tr, lk⟩ := s
  obtain ⟨w1, w2, w3, w4, w5, w6, w7, w8, w9, w10, w11, w12⟩ := hW
  exact ⟨w1, w2, w3, w4, w5, w6, w7, w8, mr_go_5 _ _ _ w9, w10, w11, w12⟩
theorem cl_ex {n : Nat} {A mk : Nat → Nat} {sc : Nat} (n8 : n ≤ 8) (hok : jj_ok n A) (hS : gg_sym A) (hb : cl_b n A mk sc = true) (hsc : sc < 5) : ∃ f, cl_is n A mk sc f := by
  by_cases h2 : sc < 2
  · obtain ⟨g, hg⟩ := (cl_b_2 h2).mp hb
    have hB : ∀ g, cl_st n A mk sc g = true → ∀ q, q < n → g q < 2 + sc := fun g hg => cl_small h2 hg
    obtain ⟨r1, r2⟩ := cl_row hok hB hg
    obtain ⟨r, ⟨r3, r4⟩, r5⟩ := pk_least (fun r => r < (2 + sc) ^ n ∧ rr_S n A mk sc (2 + sc) r = true) ⟨_, r1, r2⟩
    exact ⟨_, (cl_b_row hok h2 (Nat.le_refl _) r3 r4 (fun r' hr' => Bool.eq_false_iff.mpr (fun z => r5 r' hr' ⟨by omega, z⟩))).2⟩
  · by_cases e2 : sc = 2
    · subst e2
      obtain ⟨f, f1, _⟩ := cl_is2 (mk := mk) n8 hok hS hb
      exact ⟨f, f1⟩
    · by_cases e3 : sc = 3
      · subst e3
        exact ⟨fun _ => 0, fun q _ => rfl⟩
      · have e4 : sc = 4 := by omega
        subst e4
        obtain ⟨f, f1, _⟩ := cl_is4 (A := A) (mk := mk) n8
        exact ⟨f, f1⟩
theorem cl_pf_lt {n m : Nat} {f pf : Nat → Nat} (hf : ∀ q, q < n → f q < m) (hp : ∀ q, pf q < m) : ∀ q, cl_pf n f pf q < m := by
  intro q
  unfold cl_pf
  split
  · rename_i h
    exact hf q h
  · exact hp q
theorem w_prove {s : ss_T} (hW : ss_W s) : ss_W (sp_prove s).2 := by
  have hW' := hW
  obtain ⟨n, A, mq, pf, ds, sc, tr, lk⟩ := s
  obtain ⟨w1, w2, w3, w4, w5, w6, w7, w8, w9, w10, w11, w12⟩ := hW
  unfold sp_prove
  dsimp only
  split
  · rename_i hb
    obtain ⟨f, hf⟩ := cl_ex w2 w3 w4 hb w10
    exact ⟨w1, w2, w3, w4, w5, w6, w7, cl_pf_lt (cl_is_64 (cl_num_eq hf).1) w8, w9, w10, w11, w12⟩
  · exact hW'
theorem w_tryAll {s : ss_T} (hW : ss_W s) (b : Int32) : ss_W (sp_tryAll b s).2 := by
  have hW' := hW
  obtain ⟨n, A, mq, pf, ds, sc, tr, lk⟩ := s
  obtain ⟨w1, w2, w3, w4, w5, w6, w7, w8, w9, w10, w11, w12⟩ := hW
  unfold sp_tryAll
  dsimp only
  split
  · rename_i h0
    obtain ⟨e1, e2, e3, e4, e5⟩ := sp_ref_0 h0
    exact ⟨w1, w2, w3, w4, w5, w6, w7, w8, w9, w10, by omega, w12⟩
  · exact hW'
theorem w_attempt {s : ss_T} (hW : ss_W s) (b i : Int32) : ss_W (sp_attempt b i s).2 := by
  have hW' := hW
  obtain ⟨n, A, mq, pf, ds, sc, tr, lk⟩ := s
  obtain ⟨w1, w2, w3, w4, w5, w6, w7, w8, w9, w10, w11, w12⟩ := hW
  unfold sp_attempt
  dsimp only
  split
  · rename_i h0
    obtain ⟨e1, e2, e3, e4, e5⟩ := sp_ref_0 h0
    split
    · exact ⟨w1, w2, w3, w4, w5, w6, w7, cl_pf_lt (fun q _ => Nat.lt_of_lt_of_le (rr_d_lt (by omega)) e3) w8, w9, w10, by omega, w12⟩
    · exact ⟨w1, w2, w3, w4, w5, w6, w7, w8, w9, w10, by omega, w12⟩
  · exact hW'
theorem w_way {s : ss_T} (hW : ss_W s) (lg : Bool) : ss_W (sp_way lg s).2 := by
  have hW' := hW
  obtain ⟨n, A, mq, pf, ds, sc, tr, lk⟩ := s
  obtain ⟨w1, w2, w3, w4, w5, w6, w7, w8, w9, w10, w11, w12⟩ := hW
  unfold sp_way
  dsimp only
  split
  · exact hW'
  · exact ⟨w1, w2, w3, w4, w5, w6, w7, w8, w9, w10, w11, by omega⟩
