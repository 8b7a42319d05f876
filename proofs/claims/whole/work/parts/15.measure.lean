/-! ===== the class: how far posts are ===== -/
theorem cc_N.cg {h h' : mm_H} {n : Nat} {A mk : Nat → Nat} (hN : cc_N h n A mk) (h1 : h' 1 = h 1) (h2 : h' 2 = h 2) (h3 : h' 3 = h 3) : cc_N h' n A mk := by
  obtain ⟨n1, n8, hn, hA, hm, hA8, hm4⟩ := hN
  exact ⟨n1, n8, by rw [h1]; exact hn, by rw [h2]; exact hA, by rw [h3]; exact hm, hA8, hm4⟩
theorem cc_N.sA {h : mm_H} {n : Nat} {A mk : Nat → Nat} (hN : cc_N h n A mk) {c : Nat} (hc : 3 < c) (g : Nat → Int32) : cc_N (mm_setA h c g) n A mk := hN.cg (mm_setA_ne (by omega)) (mm_setA_ne (by omega)) (mm_setA_ne (by omega))
def gg_nb (A : Nat → Nat) (X : Nat) : Nat → Nat
  | 0 => 0
  | k + 1 => gg_nb A X k ||| (if X.testBit k = true then A k else 0)
theorem gg_nb_bit (A : Nat → Nat) (X q : Nat) : ∀ k, (gg_nb A X k).testBit q = pp_any (fun p => X.testBit p && (A p).testBit q) k
  | 0 => by simp [gg_nb, pp_any]
  | k + 1 => by
    unfold gg_nb pp_any
    rw [Nat.testBit_or, gg_nb_bit A X q k]
    cases X.testBit k <;> simp
theorem gg_nb_lt {A : Nat → Nat} (hA : ∀ p, A p < 256) (X : Nat) : ∀ k, gg_nb A X k < 256
  | 0 => by simp [gg_nb]
  | k + 1 => by
    unfold gg_nb
    exact Nat.or_lt_two_pow (n := 8) (gg_nb_lt hA X k) (by
      split
      · exact hA k
      · decide)
theorem t_x1 {l : Launch} {d : Nat} {E : mm_X} {h : mm_H} {post : mm_Po} {x y p : Int32} : mm_At l d M2_nearAny E post 4 [some (.ref 1), some (.int x), some (.int y), some (.int p)] [] h := by
  refine mm_rn_ok [] _ (S2_nearAny l d _ _) 1000 _ _ _ _ ?_
  dsimp only [G2_nearAny_0, G2_nearAny_1, G2_nearAny_2, G2_nearAny_3, G2_nearAny_4, G2_nearAny_5, G2_nearAny_6, G2_nearAny_9, G2_nearAny_12, G2_nearAny_13, G2_nearAny_14, G2_nearAny_15, G2_nearAny_16, G2_nearAny_17, G2_nearAny_18, G2_nearAny_21, G2_nearAny_22, G2_nearAny_23, G2_nearAny_26, G2_nearAny_27, G2_nearAny_28, G2_nearAny_29, G2_nearAny_30, G2_nearAny_33, G2_nearAny_36, G2_nearAny_37, N2_nearAny, mm_kc_ap, mm_ct, mm_in, mm_en, mm_nth, mm_put, mm_sto, mm_stoL, mm_ag, mm_dr, mm_sw, Nat.reduceSub, List.replicate, Option.toList, List.cons_append, List.nil_append, sq_int, sq_lng, sq_iload, sq_lload, sq_aload, sq_istore, sq_lstore, sq_astore, sq_iinc, sq_iadd, sq_isub, sq_imul, sq_iand, sq_ior, sq_ixor, sq_ishl, sq_ishr, sq_iushr, sq_ladd, sq_lsub, sq_lmul, sq_idiv, sq_irem, sq_ldiv, sq_lrem, sq_i2l, sq_lcmp, sq_dupI, sq_dupR, sq_pop, sq_dup2, sq_if_eq, sq_icmp_eq, sq_if_ne, sq_icmp_ne, sq_if_lt, sq_icmp_lt, sq_if_ge, sq_icmp_ge, sq_if_gt, sq_icmp_gt, sq_if_le, sq_icmp_le, sq_iaload, sq_iastore, sq_alen, sq_places, sq_getI, sq_getR, sq_put, sq_ret, sq_lret, sq_vret, sq_switch, sq_callS, sq_callV, sq_copy, sq_max, sq_min, mm_len_2, mm_len_3, mm_len_4, mm_len_6, mm_len_8, mm_len_10, mm_len_11, mm_len_12, mm_len_13, mm_len_14, mm_len_15, mm_len_17, mm_len_18, mm_len_19, mm_len_20, mm_len_21, mm_len_22, mm_len_23, mm_len_24, mm_len_25]
  done
