/-! ===== the rows of the small machine ===== -/
section SE
variable {l : Launch} {d : Nat} {M : mm_M} {E : mm_X} {post : mm_Po} {q : Nat}

def se_int (v : Int32) (n : Nat) : mm_S := fun k L st h => k n L (.int v :: st) h
def se_lng (v : Int64) (n : Nat) : mm_S := fun k L st h => k n L (.long v :: st) h
theorem sn_iconst {n0 : Int} {v : Int32} (hd : decode M.2.1 q = .ok (.iconst n0, 1)) (hv : Int32.ofInt n0 = v) : mm_Sn l d M E post (q, se_int v (q + 1)) := by
  intro k hk L st h hs
  intro p e R s m args below meth c cells slots Q D ad cA A H locs ls hC hR hW hL
  exact lv_iconst hC.1 hC.2.1 hd hv (hk _ _ _ _ hs p e R s m args below meth c cells slots Q D ad cA A H locs ls hC hR hW hL)
theorem sn_bipush {n0 : Int} {v : Int32} (hd : decode M.2.1 q = .ok (.bipush n0, 2)) (hv : (Int8.ofInt n0).toInt32 = v) : mm_Sn l d M E post (q, se_int v (q + 2)) := by
  intro k hk L st h hs
  intro p e R s m args below meth c cells slots Q D ad cA A H locs ls hC hR hW hL
  exact lv_bipush hC.1 hC.2.1 hd hv (hk _ _ _ _ hs p e R s m args below meth c cells slots Q D ad cA A H locs ls hC hR hW hL)
theorem sn_sipush {n0 : Int} {v : Int32} (hd : decode M.2.1 q = .ok (.sipush n0, 3)) (hv : (Int16.ofInt n0).toInt32 = v) : mm_Sn l d M E post (q, se_int v (q + 3)) := by
  intro k hk L st h hs
  intro p e R s m args below meth c cells slots Q D ad cA A H locs ls hC hR hW hL
  exact lv_sipush hC.1 hC.2.1 hd hv (hk _ _ _ _ hs p e R s m args below meth c cells slots Q D ad cA A H locs ls hC hR hW hL)
theorem sn_lconst {n0 : Fin 2} {v : Int64} (hd : decode M.2.1 q = .ok (.lconst n0, 1)) (hv : Int64.ofNat (n0 : Nat) = v) : mm_Sn l d M E post (q, se_lng v (q + 1)) := by
  intro k hk L st h hs
  intro p e R s m args below meth c cells slots Q D ad cA A H locs ls hC hR hW hL
  exact lv_lconst hC.1 hC.2.1 hd hv (hk _ _ _ _ hs p e R s m args below meth c cells slots Q D ad cA A H locs ls hC hR hW hL)
theorem sn_ldc {idx : Nat} {v : Int32} (hd : decode M.2.1 q = .ok (.ldc idx, 2)) (hv : Cond.constant M.1.cls idx v ∈ mm_tb) : mm_Sn l d M E post (q, se_int v (q + 2)) := by
  intro k hk L st h hs
  intro p e R s m args below meth c cells slots Q D ad cA A H locs ls hC hR hW hL
  exact lv_ldc hC.1 hC.2.1 hC.2.2.2.1 (hC.2.2.2.2.1 _ hv) hd (hk _ _ _ _ hs p e R s m args below meth c cells slots Q D ad cA A H locs ls hC hR hW hL)
theorem sn_ldcw {idx : Nat} {v : Int32} (hd : decode M.2.1 q = .ok (.ldc_w idx, 3)) (hv : Cond.constant M.1.cls idx v ∈ mm_tb) : mm_Sn l d M E post (q, se_int v (q + 3)) := by
  intro k hk L st h hs
  intro p e R s m args below meth c cells slots Q D ad cA A H locs ls hC hR hW hL
  exact lv_ldcw hC.1 hC.2.1 hC.2.2.2.1 (hC.2.2.2.2.1 _ hv) hd (hk _ _ _ _ hs p e R s m args below meth c cells slots Q D ad cA A H locs ls hC hR hW hL)
theorem sn_ldc2 {idx : Nat} {v : Int64} (hd : decode M.2.1 q = .ok (.ldc2_w idx, 3)) (hv : Cond.constantLong M.1.cls idx v ∈ mm_tb) : mm_Sn l d M E post (q, se_lng v (q + 3)) := by
  intro k hk L st h hs
  intro p e R s m args below meth c cells slots Q D ad cA A H locs ls hC hR hW hL
  exact lv_ldc2 hC.1 hC.2.1 hC.2.2.2.1 (hC.2.2.2.2.1 _ hv) hd (hk _ _ _ _ hs p e R s m args below meth c cells slots Q D ad cA A H locs ls hC hR hW hL)
def se_iload (i n : Nat) : mm_S := fun k L st h => match mm_nth L i with
  | some (some (.int x)) => k n L (.int x :: st) h
  | _ => False
theorem sn_iload_n {j : Fin 4} {i : Nat} (hd : decode M.2.1 q = .ok (.iload_n j, 1)) (hi : (j : Nat) = i) : mm_Sn l d M E post (q, se_iload i (q + 1)) := by
  intro k hk L st h hs
  unfold se_iload at hs
  dsimp only at hs
  split at hs
  · rename_i x hx
    intro p e R s m args below meth c cells slots Q D ad cA A H locs ls hC hR hW hL
    exact lv_iload_n hC.1 hC.2.1 hd hi (hL.at hx) (hk _ _ _ _ hs p e R s m args below meth c cells slots Q D ad cA A H locs ls hC hR hW hL)
  · exact hs.elim
theorem sn_iload {i : Nat} (hd : decode M.2.1 q = .ok (.iload i, 2)) : mm_Sn l d M E post (q, se_iload i (q + 2)) := by
  intro k hk L st h hs
  unfold se_iload at hs
  dsimp only at hs
  split at hs
  · rename_i x hx
    intro p e R s m args below meth c cells slots Q D ad cA A H locs ls hC hR hW hL
    exact lv_iload hC.1 hC.2.1 hd (hL.at hx) (hk _ _ _ _ hs p e R s m args below meth c cells slots Q D ad cA A H locs ls hC hR hW hL)
  · exact hs.elim
def se_lload (i n : Nat) : mm_S := fun k L st h => match mm_nth L i with
  | some (some (.long x)) => k n L (.long x :: st) h
  | _ => False
theorem sn_lload_n {j : Fin 4} {i : Nat} (hd : decode M.2.1 q = .ok (.lload_n j, 1)) (hi : (j : Nat) = i) : mm_Sn l d M E post (q, se_lload i (q + 1)) := by
  intro k hk L st h hs
  unfold se_lload at hs
  dsimp only at hs
  split at hs
  · rename_i x hx
    intro p e R s m args below meth c cells slots Q D ad cA A H locs ls hC hR hW hL
    exact lv_lload_n hC.1 hC.2.1 hd hi (hL.at hx) (hk _ _ _ _ hs p e R s m args below meth c cells slots Q D ad cA A H locs ls hC hR hW hL)
  · exact hs.elim
theorem sn_lload {i : Nat} (hd : decode M.2.1 q = .ok (.lload i, 2)) : mm_Sn l d M E post (q, se_lload i (q + 2)) := by
  intro k hk L st h hs
  unfold se_lload at hs
  dsimp only at hs
  split at hs
  · rename_i x hx
    intro p e R s m args below meth c cells slots Q D ad cA A H locs ls hC hR hW hL
    exact lv_lload hC.1 hC.2.1 hd (hL.at hx) (hk _ _ _ _ hs p e R s m args below meth c cells slots Q D ad cA A H locs ls hC hR hW hL)
  · exact hs.elim
def se_aload (i n : Nat) : mm_S := fun k L st h => match mm_nth L i with
  | some (some (.ref x)) => k n L (.ref x :: st) h
  | _ => False
theorem sn_aload_n {j : Fin 4} {i : Nat} (hd : decode M.2.1 q = .ok (.aload_n j, 1)) (hi : (j : Nat) = i) : mm_Sn l d M E post (q, se_aload i (q + 1)) := by
  intro k hk L st h hs
  unfold se_aload at hs
  dsimp only at hs
  split at hs
  · rename_i x hx
    intro p e R s m args below meth c cells slots Q D ad cA A H locs ls hC hR hW hL
    exact lv_aload_n hC.1 hC.2.1 hd hi (hL.at hx) (hk _ _ _ _ hs p e R s m args below meth c cells slots Q D ad cA A H locs ls hC hR hW hL)
  · exact hs.elim
theorem sn_aload {i : Nat} (hd : decode M.2.1 q = .ok (.aload i, 2)) : mm_Sn l d M E post (q, se_aload i (q + 2)) := by
  intro k hk L st h hs
  unfold se_aload at hs
  dsimp only at hs
  split at hs
  · rename_i x hx
    intro p e R s m args below meth c cells slots Q D ad cA A H locs ls hC hR hW hL
    exact lv_aload hC.1 hC.2.1 hd (hL.at hx) (hk _ _ _ _ hs p e R s m args below meth c cells slots Q D ad cA A H locs ls hC hR hW hL)
  · exact hs.elim
def se_istore (i n : Nat) : mm_S := fun k L st h => match st with
  | .int x :: r => k n (mm_sto L i (.int x)) r h
  | _ => False
theorem sn_istore_n {j : Fin 4} {i : Nat} (hd : decode M.2.1 q = .ok (.istore_n j, 1)) (hi : (j : Nat) = i) (hn : i < M.2.2.1) : mm_Sn l d M E post (q, se_istore i (q + 1)) := by
  intro k hk L st h hs
  unfold se_istore at hs
  dsimp only at hs
  split at hs
  · rename_i x r
    intro p e R s m args below meth c cells slots Q D ad cA A H locs ls hC hR hW hL
    exact lv_istore_n hC.1 hC.2.1 hd hi hL.has hn rfl (fun ls' hl' => hk _ _ _ _ hs p e R s m args below meth c cells slots Q D ad cA A H locs ls' hC hR hW (mm_lv.sto (v := .int x) hl'))
  · exact hs.elim
theorem sn_istore {i : Nat} (hd : decode M.2.1 q = .ok (.istore i, 2)) (hn : i < M.2.2.1) : mm_Sn l d M E post (q, se_istore i (q + 2)) := by
  intro k hk L st h hs
  unfold se_istore at hs
  dsimp only at hs
  split at hs
  · rename_i x r
    intro p e R s m args below meth c cells slots Q D ad cA A H locs ls hC hR hW hL
    exact lv_istore hC.1 hC.2.1 hd hL.has hn rfl (fun ls' hl' => hk _ _ _ _ hs p e R s m args below meth c cells slots Q D ad cA A H locs ls' hC hR hW (mm_lv.sto (v := .int x) hl'))
  · exact hs.elim
def se_lstore (i n : Nat) : mm_S := fun k L st h => match st with
  | .long x :: r => k n (mm_stoL L i (.long x)) r h
  | _ => False
theorem sn_lstore_n {j : Fin 4} {i : Nat} (hd : decode M.2.1 q = .ok (.lstore_n j, 1)) (hi : (j : Nat) = i) (hn : i + 1 < M.2.2.1) : mm_Sn l d M E post (q, se_lstore i (q + 1)) := by
  intro k hk L st h hs
  unfold se_lstore at hs
  dsimp only at hs
  split at hs
  · rename_i x r
    intro p e R s m args below meth c cells slots Q D ad cA A H locs ls hC hR hW hL
    exact lv_lstore_n hC.1 hC.2.1 hd hi hL.has hn rfl (fun ls' hl' => hk _ _ _ _ hs p e R s m args below meth c cells slots Q D ad cA A H locs ls' hC hR hW (mm_lv.stoL (v := .long x) hl'))
  · exact hs.elim
theorem sn_lstore {i : Nat} (hd : decode M.2.1 q = .ok (.lstore i, 2)) (hn : i + 1 < M.2.2.1) : mm_Sn l d M E post (q, se_lstore i (q + 2)) := by
  intro k hk L st h hs
  unfold se_lstore at hs
  dsimp only at hs
  split at hs
  · rename_i x r
    intro p e R s m args below meth c cells slots Q D ad cA A H locs ls hC hR hW hL
    exact lv_lstore hC.1 hC.2.1 hd hL.has hn rfl (fun ls' hl' => hk _ _ _ _ hs p e R s m args below meth c cells slots Q D ad cA A H locs ls' hC hR hW (mm_lv.stoL (v := .long x) hl'))
  · exact hs.elim
def se_astore (i n : Nat) : mm_S := fun k L st h => match st with
  | .ref x :: r => k n (mm_sto L i (.ref x)) r h
  | _ => False
theorem sn_astore_n {j : Fin 4} {i : Nat} (hd : decode M.2.1 q = .ok (.astore_n j, 1)) (hi : (j : Nat) = i) (hn : i < M.2.2.1) : mm_Sn l d M E post (q, se_astore i (q + 1)) := by
  intro k hk L st h hs
  unfold se_astore at hs
  dsimp only at hs
  split at hs
  · rename_i x r
    intro p e R s m args below meth c cells slots Q D ad cA A H locs ls hC hR hW hL
    exact lv_astore_n hC.1 hC.2.1 hd hi hL.has hn rfl (fun ls' hl' => hk _ _ _ _ hs p e R s m args below meth c cells slots Q D ad cA A H locs ls' hC hR hW (mm_lv.sto (v := .ref x) hl'))
  · exact hs.elim
theorem sn_astore {i : Nat} (hd : decode M.2.1 q = .ok (.astore i, 2)) (hn : i < M.2.2.1) : mm_Sn l d M E post (q, se_astore i (q + 2)) := by
  intro k hk L st h hs
  unfold se_astore at hs
  dsimp only at hs
  split at hs
  · rename_i x r
    intro p e R s m args below meth c cells slots Q D ad cA A H locs ls hC hR hW hL
    exact lv_astore hC.1 hC.2.1 hd hL.has hn rfl (fun ls' hl' => hk _ _ _ _ hs p e R s m args below meth c cells slots Q D ad cA A H locs ls' hC hR hW (mm_lv.sto (v := .ref x) hl'))
  · exact hs.elim
def se_iinc (i : Nat) (w : Int32) (n : Nat) : mm_S := fun k L st h => match mm_nth L i with
  | some (some (.int x)) => k n (mm_sto L i (.int (x + w))) st h
  | _ => False
theorem sn_iinc {i : Nat} {n0 : Int} {w : Int32} (hd : decode M.2.1 q = .ok (.iinc i n0, 3)) (hw : Int32.ofInt n0 = w) (hn : i < M.2.2.1) : mm_Sn l d M E post (q, se_iinc i w (q + 3)) := by
  intro k hk L st h hs
  unfold se_iinc at hs
  dsimp only at hs
  split at hs
  · rename_i x hx
    intro p e R s m args below meth c cells slots Q D ad cA A H locs ls hC hR hW hL
    subst hw
    have hm := mm_mem_as (ad := ad) (i := 0) (k := i) (v := .int x) (by rw [← mm_nth_eq]; exact hx)
    rw [Nat.zero_add] at hm
    obtain ⟨kk, hkk⟩ := List.getElem?_of_mem hm
    exact lv_iinc hC.1 hC.2.1 hd hL.has hkk rfl hn rfl (fun ls' hl' => hk _ _ _ _ hs p e R s m args below meth c cells slots Q D ad cA A H locs ls' hC hR hW (mm_lv.sto (v := .int (x + Int32.ofInt n0)) hl'))
  · exact hs.elim
def se_iadd (n : Nat) : mm_S := fun k L st h => match st with
  | .int y :: .int x :: r => k n L (.int (x + y) :: r) h
  | _ => False
theorem sn_iadd (hd : decode M.2.1 q = .ok (.iadd, 1)) : mm_Sn l d M E post (q, se_iadd (q + 1)) := by
  intro k hk L st h hs
  unfold se_iadd at hs
  dsimp only at hs
  split at hs
  · intro p e R s m args below meth c cells slots Q D ad cA A H locs ls hC hR hW hL
    exact lv_iadd hC.1 hC.2.1 hd (hk _ _ _ _ hs p e R s m args below meth c cells slots Q D ad cA A H locs ls hC hR hW hL)
  · exact hs.elim
def se_isub (n : Nat) : mm_S := fun k L st h => match st with
  | .int y :: .int x :: r => k n L (.int (x - y) :: r) h
  | _ => False
theorem sn_isub (hd : decode M.2.1 q = .ok (.isub, 1)) : mm_Sn l d M E post (q, se_isub (q + 1)) := by
  intro k hk L st h hs
  unfold se_isub at hs
  dsimp only at hs
  split at hs
  · intro p e R s m args below meth c cells slots Q D ad cA A H locs ls hC hR hW hL
    exact lv_isub hC.1 hC.2.1 hd (hk _ _ _ _ hs p e R s m args below meth c cells slots Q D ad cA A H locs ls hC hR hW hL)
  · exact hs.elim
def se_imul (n : Nat) : mm_S := fun k L st h => match st with
  | .int y :: .int x :: r => k n L (.int (x * y) :: r) h
  | _ => False
theorem sn_imul (hd : decode M.2.1 q = .ok (.imul, 1)) : mm_Sn l d M E post (q, se_imul (q + 1)) := by
  intro k hk L st h hs
  unfold se_imul at hs
  dsimp only at hs
  split at hs
  · intro p e R s m args below meth c cells slots Q D ad cA A H locs ls hC hR hW hL
    exact lv_imul hC.1 hC.2.1 hd (hk _ _ _ _ hs p e R s m args below meth c cells slots Q D ad cA A H locs ls hC hR hW hL)
  · exact hs.elim
def se_iand (n : Nat) : mm_S := fun k L st h => match st with
  | .int y :: .int x :: r => k n L (.int (x &&& y) :: r) h
  | _ => False
theorem sn_iand (hd : decode M.2.1 q = .ok (.iand, 1)) : mm_Sn l d M E post (q, se_iand (q + 1)) := by
  intro k hk L st h hs
  unfold se_iand at hs
  dsimp only at hs
  split at hs
  · intro p e R s m args below meth c cells slots Q D ad cA A H locs ls hC hR hW hL
    exact lv_iand hC.1 hC.2.1 hd (hk _ _ _ _ hs p e R s m args below meth c cells slots Q D ad cA A H locs ls hC hR hW hL)
  · exact hs.elim
def se_ior (n : Nat) : mm_S := fun k L st h => match st with
  | .int y :: .int x :: r => k n L (.int (x ||| y) :: r) h
  | _ => False
theorem sn_ior (hd : decode M.2.1 q = .ok (.ior, 1)) : mm_Sn l d M E post (q, se_ior (q + 1)) := by
  intro k hk L st h hs
  unfold se_ior at hs
  dsimp only at hs
  split at hs
  · intro p e R s m args below meth c cells slots Q D ad cA A H locs ls hC hR hW hL
    exact lv_ior hC.1 hC.2.1 hd (hk _ _ _ _ hs p e R s m args below meth c cells slots Q D ad cA A H locs ls hC hR hW hL)
  · exact hs.elim
def se_ixor (n : Nat) : mm_S := fun k L st h => match st with
  | .int y :: .int x :: r => k n L (.int (x ^^^ y) :: r) h
  | _ => False
theorem sn_ixor (hd : decode M.2.1 q = .ok (.ixor, 1)) : mm_Sn l d M E post (q, se_ixor (q + 1)) := by
  intro k hk L st h hs
  unfold se_ixor at hs
  dsimp only at hs
  split at hs
  · intro p e R s m args below meth c cells slots Q D ad cA A H locs ls hC hR hW hL
    exact lv_ixor hC.1 hC.2.1 hd (hk _ _ _ _ hs p e R s m args below meth c cells slots Q D ad cA A H locs ls hC hR hW hL)
  · exact hs.elim
def se_ishl (n : Nat) : mm_S := fun k L st h => match st with
  | .int y :: .int x :: r => k n L (.int (x <<< (y &&& 31)) :: r) h
  | _ => False
theorem sn_ishl (hd : decode M.2.1 q = .ok (.ishl, 1)) : mm_Sn l d M E post (q, se_ishl (q + 1)) := by
  intro k hk L st h hs
  unfold se_ishl at hs
  dsimp only at hs
  split at hs
  · intro p e R s m args below meth c cells slots Q D ad cA A H locs ls hC hR hW hL
    exact lv_ishl hC.1 hC.2.1 hd (hk _ _ _ _ hs p e R s m args below meth c cells slots Q D ad cA A H locs ls hC hR hW hL)
  · exact hs.elim
def se_ishr (n : Nat) : mm_S := fun k L st h => match st with
  | .int y :: .int x :: r => k n L (.int (x >>> (y &&& 31)) :: r) h
  | _ => False
theorem sn_ishr (hd : decode M.2.1 q = .ok (.ishr, 1)) : mm_Sn l d M E post (q, se_ishr (q + 1)) := by
  intro k hk L st h hs
  unfold se_ishr at hs
  dsimp only at hs
  split at hs
  · intro p e R s m args below meth c cells slots Q D ad cA A H locs ls hC hR hW hL
    exact lv_ishr hC.1 hC.2.1 hd (hk _ _ _ _ hs p e R s m args below meth c cells slots Q D ad cA A H locs ls hC hR hW hL)
  · exact hs.elim
def se_iushr (n : Nat) : mm_S := fun k L st h => match st with
  | .int y :: .int x :: r => k n L (.int (x.toUInt32 >>> (y.toUInt32 &&& Int32.toUInt32 31)).toInt32 :: r) h
  | _ => False
theorem sn_iushr (hd : decode M.2.1 q = .ok (.iushr, 1)) : mm_Sn l d M E post (q, se_iushr (q + 1)) := by
  intro k hk L st h hs
  unfold se_iushr at hs
  dsimp only at hs
  split at hs
  · intro p e R s m args below meth c cells slots Q D ad cA A H locs ls hC hR hW hL
    exact lv_iushr hC.1 hC.2.1 hd rfl (hk _ _ _ _ hs p e R s m args below meth c cells slots Q D ad cA A H locs ls hC hR hW hL)
  · exact hs.elim
def se_ladd (n : Nat) : mm_S := fun k L st h => match st with
  | .long y :: .long x :: r => k n L (.long (x + y) :: r) h
  | _ => False
theorem sn_ladd (hd : decode M.2.1 q = .ok (.ladd, 1)) : mm_Sn l d M E post (q, se_ladd (q + 1)) := by
  intro k hk L st h hs
  unfold se_ladd at hs
  dsimp only at hs
  split at hs
  · intro p e R s m args below meth c cells slots Q D ad cA A H locs ls hC hR hW hL
    exact lv_ladd hC.1 hC.2.1 hd (hk _ _ _ _ hs p e R s m args below meth c cells slots Q D ad cA A H locs ls hC hR hW hL)
  · exact hs.elim
def se_lsub (n : Nat) : mm_S := fun k L st h => match st with
  | .long y :: .long x :: r => k n L (.long (x - y) :: r) h
  | _ => False
theorem sn_lsub (hd : decode M.2.1 q = .ok (.lsub, 1)) : mm_Sn l d M E post (q, se_lsub (q + 1)) := by
  intro k hk L st h hs
  unfold se_lsub at hs
  dsimp only at hs
  split at hs
  · intro p e R s m args below meth c cells slots Q D ad cA A H locs ls hC hR hW hL
    exact lv_lsub hC.1 hC.2.1 hd (hk _ _ _ _ hs p e R s m args below meth c cells slots Q D ad cA A H locs ls hC hR hW hL)
  · exact hs.elim
def se_lmul (n : Nat) : mm_S := fun k L st h => match st with
  | .long y :: .long x :: r => k n L (.long (x * y) :: r) h
  | _ => False
theorem sn_lmul (hd : decode M.2.1 q = .ok (.lmul, 1)) : mm_Sn l d M E post (q, se_lmul (q + 1)) := by
  intro k hk L st h hs
  unfold se_lmul at hs
  dsimp only at hs
  split at hs
  · intro p e R s m args below meth c cells slots Q D ad cA A H locs ls hC hR hW hL
    exact lv_lmul hC.1 hC.2.1 hd (hk _ _ _ _ hs p e R s m args below meth c cells slots Q D ad cA A H locs ls hC hR hW hL)
  · exact hs.elim
def se_idiv (n : Nat) : mm_S := fun k L st h => match st with
  | .int y :: .int x :: r => (¬ y = 0) ∧ k n L (.int (x / y) :: r) h
  | _ => False
theorem sn_idiv (hd : decode M.2.1 q = .ok (.idiv, 1)) : mm_Sn l d M E post (q, se_idiv (q + 1)) := by
  intro k hk L st h hs
  unfold se_idiv at hs
  dsimp only at hs
  split at hs
  · intro p e R s m args below meth c cells slots Q D ad cA A H locs ls hC hR hW hL
    exact lv_idiv hC.1 hC.2.1 hd hs.1 (hk _ _ _ _ hs.2 p e R s m args below meth c cells slots Q D ad cA A H locs ls hC hR hW hL)
  · exact hs.elim
def se_irem (n : Nat) : mm_S := fun k L st h => match st with
  | .int y :: .int x :: r => (¬ y = 0) ∧ k n L (.int (x - x / y * y) :: r) h
  | _ => False
theorem sn_irem (hd : decode M.2.1 q = .ok (.irem, 1)) : mm_Sn l d M E post (q, se_irem (q + 1)) := by
  intro k hk L st h hs
  unfold se_irem at hs
  dsimp only at hs
  split at hs
  · intro p e R s m args below meth c cells slots Q D ad cA A H locs ls hC hR hW hL
    exact lv_irem hC.1 hC.2.1 hd hs.1 (hk _ _ _ _ hs.2 p e R s m args below meth c cells slots Q D ad cA A H locs ls hC hR hW hL)
  · exact hs.elim
def se_ldiv (n : Nat) : mm_S := fun k L st h => match st with
  | .long y :: .long x :: r => (¬ y = 0) ∧ k n L (.long (x / y) :: r) h
  | _ => False
theorem sn_ldiv (hd : decode M.2.1 q = .ok (.ldiv, 1)) : mm_Sn l d M E post (q, se_ldiv (q + 1)) := by
  intro k hk L st h hs
  unfold se_ldiv at hs
  dsimp only at hs
  split at hs
  · intro p e R s m args below meth c cells slots Q D ad cA A H locs ls hC hR hW hL
    exact lv_ldiv hC.1 hC.2.1 hd hs.1 (hk _ _ _ _ hs.2 p e R s m args below meth c cells slots Q D ad cA A H locs ls hC hR hW hL)
  · exact hs.elim
def se_lrem (n : Nat) : mm_S := fun k L st h => match st with
  | .long y :: .long x :: r => (¬ y = 0) ∧ k n L (.long (x - x / y * y) :: r) h
  | _ => False
theorem sn_lrem (hd : decode M.2.1 q = .ok (.lrem, 1)) : mm_Sn l d M E post (q, se_lrem (q + 1)) := by
  intro k hk L st h hs
  unfold se_lrem at hs
  dsimp only at hs
  split at hs
  · intro p e R s m args below meth c cells slots Q D ad cA A H locs ls hC hR hW hL
    exact lv_lrem hC.1 hC.2.1 hd hs.1 (hk _ _ _ _ hs.2 p e R s m args below meth c cells slots Q D ad cA A H locs ls hC hR hW hL)
  · exact hs.elim
def se_i2l (n : Nat) : mm_S := fun k L st h => match st with
  | .int x :: r => k n L (.long x.toInt64 :: r) h
  | _ => False
theorem sn_i2l (hd : decode M.2.1 q = .ok (.i2l, 1)) : mm_Sn l d M E post (q, se_i2l (q + 1)) := by
  intro k hk L st h hs
  unfold se_i2l at hs
  dsimp only at hs
  split at hs
  · intro p e R s m args below meth c cells slots Q D ad cA A H locs ls hC hR hW hL
    exact lv_i2l hC.1 hC.2.1 hd rfl (hk _ _ _ _ hs p e R s m args below meth c cells slots Q D ad cA A H locs ls hC hR hW hL)
  · exact hs.elim
def se_lcmp (n : Nat) : mm_S := fun k L st h => match st with
  | .long y :: .long x :: r => k n L (.int (lg_cmp x y) :: r) h
  | _ => False
theorem sn_lcmp (hd : decode M.2.1 q = .ok (.lcmp, 1)) : mm_Sn l d M E post (q, se_lcmp (q + 1)) := by
  intro k hk L st h hs
  unfold se_lcmp at hs
  dsimp only at hs
  split at hs
  · intro p e R s m args below meth c cells slots Q D ad cA A H locs ls hC hR hW hL
    exact W.lcmp hC.1 hC.2.1 hd (hk _ _ _ _ hs p e R s m args below meth c cells slots Q D ad cA A H locs ls hC hR hW hL)
  · exact hs.elim
def se_dup (n : Nat) : mm_S := fun k L st h => match st with
  | .int x :: r => k n L (.int x :: .int x :: r) h
  | .ref x :: r => k n L (.ref x :: .ref x :: r) h
  | _ => False
theorem sn_dup (hd : decode M.2.1 q = .ok (.dup, 1)) : mm_Sn l d M E post (q, se_dup (q + 1)) := by
  intro k hk L st h hs
  unfold se_dup at hs
  dsimp only at hs
  split at hs
  · intro p e R s m args below meth c cells slots Q D ad cA A H locs ls hC hR hW hL
    exact lv_dup hC.1 hC.2.1 hd rfl (hk _ _ _ _ hs p e R s m args below meth c cells slots Q D ad cA A H locs ls hC hR hW hL)
  · intro p e R s m args below meth c cells slots Q D ad cA A H locs ls hC hR hW hL
    exact lv_dup hC.1 hC.2.1 hd rfl (hk _ _ _ _ hs p e R s m args below meth c cells slots Q D ad cA A H locs ls hC hR hW hL)
  · exact hs.elim
def se_pop (n : Nat) : mm_S := fun k L st h => match st with
  | .int _ :: r => k n L r h
  | _ => False
theorem sn_pop (hd : decode M.2.1 q = .ok (.pop, 1)) : mm_Sn l d M E post (q, se_pop (q + 1)) := by
  intro k hk L st h hs
  unfold se_pop at hs
  dsimp only at hs
  split at hs
  · intro p e R s m args below meth c cells slots Q D ad cA A H locs ls hC hR hW hL
    exact lv_pop hC.1 hC.2.1 hd rfl (hk _ _ _ _ hs p e R s m args below meth c cells slots Q D ad cA A H locs ls hC hR hW hL)
  · exact hs.elim
def se_dup2 (n : Nat) : mm_S := fun k L st h => match st with
  | .int x :: .ref y :: r => k n L (.int x :: .ref y :: .int x :: .ref y :: r) h
  | _ => False
theorem sn_dup2 (hd : decode M.2.1 q = .ok (.dup2, 1)) : mm_Sn l d M E post (q, se_dup2 (q + 1)) := by
  intro k hk L st h hs
  unfold se_dup2 at hs
  dsimp only at hs
  split at hs
  · intro p e R s m args below meth c cells slots Q D ad cA A H locs ls hC hR hW hL
    exact lv_dup2_11 hC.1 hC.2.1 hd rfl rfl (hk _ _ _ _ hs p e R s m args below meth c cells slots Q D ad cA A H locs ls hC hR hW hL)
  · exact hs.elim
def se_goto (t : Nat) : mm_S := fun k L st h => k t L st h
theorem sn_goto {off : Int} {t : Nat} (hd : decode M.2.1 q = .ok (.goto off, 3)) (ht : (q : Int) + off = (t : Int)) : mm_Sn l d M E post (q, se_goto t) := by
  intro k hk L st h hs
  intro p e R s m args below meth c cells slots Q D ad cA A H locs ls hC hR hW hL
  exact lv_goto hC.1 hC.2.1 hd ht (hk _ _ _ _ hs p e R s m args below meth c cells slots Q D ad cA A H locs ls hC hR hW hL)
def se_if_eq (t n : Nat) : mm_S := fun k L st h => match st with
  | .int x :: r => (x = 0 → k t L r h) ∧ (¬ x = 0 → k n L r h)
  | _ => False
theorem sn_if_eq {off : Int} {t : Nat} (hd : decode M.2.1 q = .ok (.ifCond .eq off, 3)) (ht : (q : Int) + off = (t : Int)) : mm_Sn l d M E post (q, se_if_eq t (q + 3)) := by
  intro k hk L st h hs
  unfold se_if_eq at hs
  dsimp only at hs
  split at hs
  · intro p e R s m args below meth c cells slots Q D ad cA A H locs ls hC hR hW hL
    exact lv_if_eq hC.1 hC.2.1 hd ht (fun hc => hk _ _ _ _ (hs.1 hc) p e R s m args below meth c cells slots Q D ad cA A H locs ls hC hR hW hL) (fun hc => hk _ _ _ _ (hs.2 hc) p e R s m args below meth c cells slots Q D ad cA A H locs ls hC hR hW hL)
  · exact hs.elim
def se_icmp_eq (t n : Nat) : mm_S := fun k L st h => match st with
  | .int y :: .int x :: r => (x = y → k t L r h) ∧ (¬ x = y → k n L r h)
  | _ => False
theorem sn_icmp_eq {off : Int} {t : Nat} (hd : decode M.2.1 q = .ok (.if_icmp .eq off, 3)) (ht : (q : Int) + off = (t : Int)) : mm_Sn l d M E post (q, se_icmp_eq t (q + 3)) := by
  intro k hk L st h hs
  unfold se_icmp_eq at hs
  dsimp only at hs
  split at hs
  · intro p e R s m args below meth c cells slots Q D ad cA A H locs ls hC hR hW hL
    exact lv_icmp_eq hC.1 hC.2.1 hd ht (fun hc => hk _ _ _ _ (hs.1 hc) p e R s m args below meth c cells slots Q D ad cA A H locs ls hC hR hW hL) (fun hc => hk _ _ _ _ (hs.2 hc) p e R s m args below meth c cells slots Q D ad cA A H locs ls hC hR hW hL)
  · exact hs.elim
def se_if_ne (t n : Nat) : mm_S := fun k L st h => match st with
  | .int x :: r => (¬ x = 0 → k t L r h) ∧ (x = 0 → k n L r h)
  | _ => False
theorem sn_if_ne {off : Int} {t : Nat} (hd : decode M.2.1 q = .ok (.ifCond .ne off, 3)) (ht : (q : Int) + off = (t : Int)) : mm_Sn l d M E post (q, se_if_ne t (q + 3)) := by
  intro k hk L st h hs
  unfold se_if_ne at hs
  dsimp only at hs
  split at hs
  · intro p e R s m args below meth c cells slots Q D ad cA A H locs ls hC hR hW hL
    exact lv_if_ne hC.1 hC.2.1 hd ht (fun hc => hk _ _ _ _ (hs.1 hc) p e R s m args below meth c cells slots Q D ad cA A H locs ls hC hR hW hL) (fun hc => hk _ _ _ _ (hs.2 hc) p e R s m args below meth c cells slots Q D ad cA A H locs ls hC hR hW hL)
  · exact hs.elim
def se_icmp_ne (t n : Nat) : mm_S := fun k L st h => match st with
  | .int y :: .int x :: r => (¬ x = y → k t L r h) ∧ (x = y → k n L r h)
  | _ => False
theorem sn_icmp_ne {off : Int} {t : Nat} (hd : decode M.2.1 q = .ok (.if_icmp .ne off, 3)) (ht : (q : Int) + off = (t : Int)) : mm_Sn l d M E post (q, se_icmp_ne t (q + 3)) := by
  intro k hk L st h hs
  unfold se_icmp_ne at hs
  dsimp only at hs
  split at hs
  · intro p e R s m args below meth c cells slots Q D ad cA A H locs ls hC hR hW hL
    exact lv_icmp_ne hC.1 hC.2.1 hd ht (fun hc => hk _ _ _ _ (hs.1 hc) p e R s m args below meth c cells slots Q D ad cA A H locs ls hC hR hW hL) (fun hc => hk _ _ _ _ (hs.2 hc) p e R s m args below meth c cells slots Q D ad cA A H locs ls hC hR hW hL)
  · exact hs.elim
def se_if_lt (t n : Nat) : mm_S := fun k L st h => match st with
  | .int x :: r => (x < 0 → k t L r h) ∧ (¬ x < 0 → k n L r h)
  | _ => False
theorem sn_if_lt {off : Int} {t : Nat} (hd : decode M.2.1 q = .ok (.ifCond .lt off, 3)) (ht : (q : Int) + off = (t : Int)) : mm_Sn l d M E post (q, se_if_lt t (q + 3)) := by
  intro k hk L st h hs
  unfold se_if_lt at hs
  dsimp only at hs
  split at hs
  · intro p e R s m args below meth c cells slots Q D ad cA A H locs ls hC hR hW hL
    exact lv_if_lt hC.1 hC.2.1 hd ht (fun hc => hk _ _ _ _ (hs.1 hc) p e R s m args below meth c cells slots Q D ad cA A H locs ls hC hR hW hL) (fun hc => hk _ _ _ _ (hs.2 hc) p e R s m args below meth c cells slots Q D ad cA A H locs ls hC hR hW hL)
  · exact hs.elim
def se_icmp_lt (t n : Nat) : mm_S := fun k L st h => match st with
  | .int y :: .int x :: r => (x < y → k t L r h) ∧ (¬ x < y → k n L r h)
  | _ => False
theorem sn_icmp_lt {off : Int} {t : Nat} (hd : decode M.2.1 q = .ok (.if_icmp .lt off, 3)) (ht : (q : Int) + off = (t : Int)) : mm_Sn l d M E post (q, se_icmp_lt t (q + 3)) := by
  intro k hk L st h hs
  unfold se_icmp_lt at hs
  dsimp only at hs
  split at hs
  · intro p e R s m args below meth c cells slots Q D ad cA A H locs ls hC hR hW hL
    exact lv_icmp_lt hC.1 hC.2.1 hd ht (fun hc => hk _ _ _ _ (hs.1 hc) p e R s m args below meth c cells slots Q D ad cA A H locs ls hC hR hW hL) (fun hc => hk _ _ _ _ (hs.2 hc) p e R s m args below meth c cells slots Q D ad cA A H locs ls hC hR hW hL)
  · exact hs.elim
def se_if_ge (t n : Nat) : mm_S := fun k L st h => match st with
  | .int x :: r => (0 ≤ x → k t L r h) ∧ (¬ 0 ≤ x → k n L r h)
  | _ => False
theorem sn_if_ge {off : Int} {t : Nat} (hd : decode M.2.1 q = .ok (.ifCond .ge off, 3)) (ht : (q : Int) + off = (t : Int)) : mm_Sn l d M E post (q, se_if_ge t (q + 3)) := by
  intro k hk L st h hs
  unfold se_if_ge at hs
  dsimp only at hs
  split at hs
  · intro p e R s m args below meth c cells slots Q D ad cA A H locs ls hC hR hW hL
    exact lv_if_ge hC.1 hC.2.1 hd ht (fun hc => hk _ _ _ _ (hs.1 hc) p e R s m args below meth c cells slots Q D ad cA A H locs ls hC hR hW hL) (fun hc => hk _ _ _ _ (hs.2 hc) p e R s m args below meth c cells slots Q D ad cA A H locs ls hC hR hW hL)
  · exact hs.elim
def se_icmp_ge (t n : Nat) : mm_S := fun k L st h => match st with
  | .int y :: .int x :: r => (y ≤ x → k t L r h) ∧ (¬ y ≤ x → k n L r h)
  | _ => False
theorem sn_icmp_ge {off : Int} {t : Nat} (hd : decode M.2.1 q = .ok (.if_icmp .ge off, 3)) (ht : (q : Int) + off = (t : Int)) : mm_Sn l d M E post (q, se_icmp_ge t (q + 3)) := by
  intro k hk L st h hs
  unfold se_icmp_ge at hs
  dsimp only at hs
  split at hs
  · intro p e R s m args below meth c cells slots Q D ad cA A H locs ls hC hR hW hL
    exact lv_icmp_ge hC.1 hC.2.1 hd ht (fun hc => hk _ _ _ _ (hs.1 hc) p e R s m args below meth c cells slots Q D ad cA A H locs ls hC hR hW hL) (fun hc => hk _ _ _ _ (hs.2 hc) p e R s m args below meth c cells slots Q D ad cA A H locs ls hC hR hW hL)
  · exact hs.elim
def se_if_gt (t n : Nat) : mm_S := fun k L st h => match st with
  | .int x :: r => (0 < x → k t L r h) ∧ (¬ 0 < x → k n L r h)
  | _ => False
theorem sn_if_gt {off : Int} {t : Nat} (hd : decode M.2.1 q = .ok (.ifCond .gt off, 3)) (ht : (q : Int) + off = (t : Int)) : mm_Sn l d M E post (q, se_if_gt t (q + 3)) := by
  intro k hk L st h hs
  unfold se_if_gt at hs
  dsimp only at hs
  split at hs
  · intro p e R s m args below meth c cells slots Q D ad cA A H locs ls hC hR hW hL
    exact lv_if_gt hC.1 hC.2.1 hd ht (fun hc => hk _ _ _ _ (hs.1 hc) p e R s m args below meth c cells slots Q D ad cA A H locs ls hC hR hW hL) (fun hc => hk _ _ _ _ (hs.2 hc) p e R s m args below meth c cells slots Q D ad cA A H locs ls hC hR hW hL)
  · exact hs.elim
def se_icmp_gt (t n : Nat) : mm_S := fun k L st h => match st with
  | .int y :: .int x :: r => (y < x → k t L r h) ∧ (¬ y < x → k n L r h)
  | _ => False
theorem sn_icmp_gt {off : Int} {t : Nat} (hd : decode M.2.1 q = .ok (.if_icmp .gt off, 3)) (ht : (q : Int) + off = (t : Int)) : mm_Sn l d M E post (q, se_icmp_gt t (q + 3)) := by
  intro k hk L st h hs
  unfold se_icmp_gt at hs
  dsimp only at hs
  split at hs
  · intro p e R s m args below meth c cells slots Q D ad cA A H locs ls hC hR hW hL
    exact lv_icmp_gt hC.1 hC.2.1 hd ht (fun hc => hk _ _ _ _ (hs.1 hc) p e R s m args below meth c cells slots Q D ad cA A H locs ls hC hR hW hL) (fun hc => hk _ _ _ _ (hs.2 hc) p e R s m args below meth c cells slots Q D ad cA A H locs ls hC hR hW hL)
  · exact hs.elim
def se_if_le (t n : Nat) : mm_S := fun k L st h => match st with
  | .int x :: r => (x ≤ 0 → k t L r h) ∧ (¬ x ≤ 0 → k n L r h)
  | _ => False
theorem sn_if_le {off : Int} {t : Nat} (hd : decode M.2.1 q = .ok (.ifCond .le off, 3)) (ht : (q : Int) + off = (t : Int)) : mm_Sn l d M E post (q, se_if_le t (q + 3)) := by
  intro k hk L st h hs
  unfold se_if_le at hs
  dsimp only at hs
  split at hs
  · intro p e R s m args below meth c cells slots Q D ad cA A H locs ls hC hR hW hL
    exact lv_if_le hC.1 hC.2.1 hd ht (fun hc => hk _ _ _ _ (hs.1 hc) p e R s m args below meth c cells slots Q D ad cA A H locs ls hC hR hW hL) (fun hc => hk _ _ _ _ (hs.2 hc) p e R s m args below meth c cells slots Q D ad cA A H locs ls hC hR hW hL)
  · exact hs.elim
def se_icmp_le (t n : Nat) : mm_S := fun k L st h => match st with
  | .int y :: .int x :: r => (x ≤ y → k t L r h) ∧ (¬ x ≤ y → k n L r h)
  | _ => False
theorem sn_icmp_le {off : Int} {t : Nat} (hd : decode M.2.1 q = .ok (.if_icmp .le off, 3)) (ht : (q : Int) + off = (t : Int)) : mm_Sn l d M E post (q, se_icmp_le t (q + 3)) := by
  intro k hk L st h hs
  unfold se_icmp_le at hs
  dsimp only at hs
  split at hs
  · intro p e R s m args below meth c cells slots Q D ad cA A H locs ls hC hR hW hL
    exact lv_icmp_le hC.1 hC.2.1 hd ht (fun hc => hk _ _ _ _ (hs.1 hc) p e R s m args below meth c cells slots Q D ad cA A H locs ls hC hR hW hL) (fun hc => hk _ _ _ _ (hs.2 hc) p e R s m args below meth c cells slots Q D ad cA A H locs ls hC hR hW hL)
  · exact hs.elim
def se_iaload (n : Nat) : mm_S := fun k L st h => match st with
  | .int i :: .ref a :: r => vp_in i (mm_len a) ∧ k n L (.int (h a i.toNatClampNeg) :: r) h
  | _ => False
theorem mm_in_pos {i : Int32} {n : Nat} (h : vp_in i n) : 0 < n := by
  rcases Nat.eq_zero_or_pos n with e | e
  · subst e
    exact absurd (Or.inr (Nat.zero_le _)) h
  · exact e
theorem sn_iaload (hd : decode M.2.1 q = .ok (.iaload, 1)) : mm_Sn l d M E post (q, se_iaload (q + 1)) := by
  intro k hk L st h hs
  unfold se_iaload at hs
  dsimp only at hs
  split at hs
  · rename_i i a r
    intro p e R s m args below meth c cells slots Q D ad cA A H locs ls hC hR hW hL
    have kk := hk _ _ _ _ hs.2 p e R s m args below meth c cells slots Q D ad cA A H locs ls hC hR hW hL
    by_cases ha : a = 25
    · subst ha
      rw [hW.2.2.2] at kk
      exact va_ti hC.1 hC.2.1 hC.2.2.2.2.2.2.2.1.2 hW.2.2.1 hs.1 rfl hd kk
    · exact va_iald hC.1 hC.2.1 hC.2.2.2.2.2.1 hW.1 a 0 (mm_wld_at (mm_len_at (mm_in_pos hs.1) ha)) rfl hs.1 hd kk
  · exact hs.elim
def se_iastore (n : Nat) : mm_S := fun k L st h => match st with
  | .int x :: .int i :: .ref a :: r => (¬ a = 25) ∧ vp_in i (mm_len a) ∧ k n L r (mm_set h a i.toNatClampNeg x)
  | _ => False
theorem mm_set_25 {h : mm_H} {a k : Nat} {v : Int32} (ha : ¬ a = 25) (h25 : h 25 = mm_plc) : mm_set h a k v 25 = mm_plc := by
  rw [← h25]
  funext b
  unfold mm_set
  rw [if_neg (fun e => ha e.symm)]
theorem mm_setA_25 {h : mm_H} {a : Nat} {f : Nat → Int32} (ha : ¬ a = 25) (h25 : h 25 = mm_plc) : mm_setA h a f 25 = mm_plc := by
  rw [← h25]
  unfold mm_setA
  rw [if_neg (fun e => ha e.symm)]
theorem sn_iastore (hd : decode M.2.1 q = .ok (.iastore, 1)) : mm_Sn l d M E post (q, se_iastore (q + 1)) := by
  intro k hk L st h hs
  unfold se_iastore at hs
  dsimp only at hs
  split at hs
  · rename_i x i a r
    intro p e R s m args below meth c cells slots Q D ad cA A H locs ls hC hR hW hL
    obtain ⟨ha, hi, hs⟩ := hs
    have hx := mm_len_at (mm_in_pos hi) ha
    refine va_iast hC.1 hC.2.1 hC.2.2.2.2.2.1 hW.1 hW.2.1 hW.2.2.1 a 0 (mm_wld_at hx) rfl hi hd (fun H1 locs1 hP hD hS => ?_)
    have he : (mm_wld ad cA h).set a (ad a, .inl (cA, mm_len a, .inl (upd (h a) i.toNatClampNeg x))) = mm_wld ad cA (mm_set h a i.toNatClampNeg x) := by
      rw [mm_wld_setA hx, mm_setA_upd]
    have hP := he ▸ hP
    have hD := he ▸ hD
    exact hk _ _ _ _ hs p e R s m args below meth c cells slots Q D ad cA A H1 locs1 ls hC hR ⟨hP, hD, hS, mm_set_25 ha hW.2.2.2⟩ hL
  · exact hs.elim
def se_alen (n : Nat) : mm_S := fun k L st h => match st with
  | .ref a :: r => 0 < mm_len a ∧ k n L (.int (Int32.ofNat (mm_len a)) :: r) h
  | _ => False
theorem sn_alen (hd : decode M.2.1 q = .ok (.arraylength, 1)) : mm_Sn l d M E post (q, se_alen (q + 1)) := by
  intro k hk L st h hs
  unfold se_alen at hs
  dsimp only at hs
  split at hs
  · rename_i a r
    intro p e R s m args below meth c cells slots Q D ad cA A H locs ls hC hR hW hL
    have kk := hk _ _ _ _ hs.2 p e R s m args below meth c cells slots Q D ad cA A H locs ls hC hR hW hL
    by_cases ha : a = 25
    · subst ha
      exact va_tlen hC.1 hC.2.1 hC.2.2.2.2.2.2.2.1.2 hW.2.2.1 rfl hd kk
    · exact va_alen hC.1 hC.2.1 hC.2.2.2.2.2.1 hW.1 a 0 (mm_wld_at (mm_len_at hs.1 ha)) rfl rfl hd kk
  · exact hs.elim
/-- the one static row of numbers -/
def se_places (n : Nat) : mm_S := fun k L st h => k n L (.ref 25 :: st) h
theorem sn_places {idx : Nat} (hd : decode M.2.1 q = .ok (.getstatic idx, 3)) (hl : Cond.fieldLink M.1.cls idx RX1 "PLACES" "[I" ∈ mm_tb) : mm_Sn l d M E post (q, se_places (q + 3)) := by
  intro k hk L st h hs
  intro p e R s m args below meth c cells slots Q D ad cA A H locs ls hC hR hW hL
  exact va_gets hC.1 hC.2.1 hC.2.2.2.2.2.2.2.1.1 hW.2.2.1 hC.2.2.2.1 (hC.2.2.2.2.1 _ hl) (fun _ h9 => h9) hd (hk _ _ _ _ hs p e R s m args below meth c cells slots Q D ad cA A H locs ls hC hR hW hL)
/-- a field's link: which cell, which place of it -/
def mm_fok (own : String) (idx c k : Nat) (f : Option Nat) : Prop := ∃ (ci : Nat) (fs : List (Option Nat)) (C : String) (T : u_T) (N : Nat), mm_shp[c]? = some (.inr (ci, fs)) ∧ fs[k]? = some f ∧ vwCl[ci]? = some (C, T, N) ∧ k < N ∧ (∀ w ∈ u_ws C T N, w ∈ mm_tb) ∧ Cond.fieldLink own idx (T k).1 (T k).2.1 (T k).2.2.1 ∈ mm_tb
/-- as it is written: no final one, an int or a boolean -/
def mm_fw (own : String) (idx c k : Nat) (z : Bool) : Prop := ∃ (ci : Nat) (fs : List (Option Nat)) (C : String) (T : u_T) (N : Nat) (ty : Nat → FieldType), mm_shp[c]? = some (.inr (ci, fs)) ∧ fs[k]? = some none ∧ vwCl[ci]? = some (C, T, N) ∧ k < N ∧ (∀ w ∈ u_ws C T N, w ∈ mm_tb) ∧ Cond.fieldLink own idx (T k).1 (T k).2.1 (T k).2.2.1 ∈ mm_tb ∧ (∀ k, k < N → parseFieldDescriptor (T k).2.2.1 = some (ty k)) ∧ (∀ a, a < N → ∀ b, b < N → a ≠ b → (T a).2.1 ≠ (T b).2.1) ∧ (T k).2.2.2 = false ∧ ty k = (if z = true then .boolean else .int)
def se_getI (c0 k0 n : Nat) : mm_S := fun k L st h => match st with
  | .ref a :: r => a = c0 ∧ k n L (.int (h c0 k0) :: r) h
  | _ => False
theorem sn_getI {idx c0 k0 : Nat} (hd : decode M.2.1 q = .ok (.getfield idx, 3)) (hf : mm_fok M.1.cls idx c0 k0 none) : mm_Sn l d M E post (q, se_getI c0 k0 (q + 3)) := by
  intro k hk L st h hs
  unfold se_getI at hs
  dsimp only at hs
  split at hs
  · intro p e R s m args below meth c cells slots Q D ad cA A H locs ls hC hR hW hL
    obtain ⟨rfl, hs⟩ := hs
    obtain ⟨ci, fs, C, T, N, f1, f2, f3, f4, f5, f6⟩ := hf
    refine va_get (v := .int (h _ k0)) hC.1 hC.2.1 hC.2.2.2.2.1 f5 hC.2.2.2.1 hC.2.2.2.2.2.1 hW.1 _ (mm_wld_at f1) f3 k0 f4 (hC.2.2.2.2.1 _ f6) (fun _ h9 => h9) ?_ hd (hk _ _ _ _ hs p e R s m args below meth c cells slots Q D ad cA A H locs ls hC hR hW hL)
    rw [List.getElem?_mapIdx, f2]
    rfl
  · exact hs.elim
def se_getR (c0 r0 n : Nat) : mm_S := fun k L st h => match st with
  | .ref a :: r => a = c0 ∧ k n L (.ref r0 :: r) h
  | _ => False
theorem sn_getR {idx c0 k0 r0 : Nat} (hd : decode M.2.1 q = .ok (.getfield idx, 3)) (hf : mm_fok M.1.cls idx c0 k0 (some r0)) : mm_Sn l d M E post (q, se_getR c0 r0 (q + 3)) := by
  intro k hk L st h hs
  unfold se_getR at hs
  dsimp only at hs
  split at hs
  · intro p e R s m args below meth c cells slots Q D ad cA A H locs ls hC hR hW hL
    obtain ⟨rfl, hs⟩ := hs
    obtain ⟨ci, fs, C, T, N, f1, f2, f3, f4, f5, f6⟩ := hf
    refine va_get (v := .ref (ad r0)) hC.1 hC.2.1 hC.2.2.2.2.1 f5 hC.2.2.2.1 hC.2.2.2.2.2.1 hW.1 _ (mm_wld_at f1) f3 k0 f4 (hC.2.2.2.2.1 _ f6) (fun _ h9 => h9) ?_ hd (hk _ _ _ _ hs p e R s m args below meth c cells slots Q D ad cA A H locs ls hC hR hW hL)
    rw [List.getElem?_mapIdx, f2]
    rfl
  · exact hs.elim
def se_put (z : Bool) (c0 k0 n : Nat) : mm_S := fun k L st h => match st with
  | .int v :: .ref a :: r => a = c0 ∧ (z = true → v = 0 ∨ v = 1) ∧ k n L r (mm_set h c0 k0 v)
  | _ => False
theorem sn_put {z : Bool} {idx c0 k0 : Nat} (hd : decode M.2.1 q = .ok (.putfield idx, 3)) (hf : mm_fw M.1.cls idx c0 k0 z) : mm_Sn l d M E post (q, se_put z c0 k0 (q + 3)) := by
  intro k hk L st h hs
  unfold se_put at hs
  dsimp only at hs
  split at hs
  · rename_i v a r
    intro p e R s m args below meth c cells slots Q D ad cA A H locs ls hC hR hW hL
    obtain ⟨rfl, hz, hs⟩ := hs
    obtain ⟨ci, fs, C, T, N, ty, f1, f2, f3, f4, f5, f6, f7, f8, f9, f10⟩ := hf
    have hl : a < 25 := (List.getElem?_eq_some_iff.mp f1).1
    have hnar : narrow (ty k0) (.int v) = .int v ∧ fits (ty k0) (.int v) = true := by
      rw [f10]
      cases z with
      | false => exact ⟨rfl, rfl⟩
      | true =>
        rcases hz rfl with e | e <;> subst e <;> exact ⟨by decide, by decide⟩
    refine va_put (v := .int v) (ty := ty k0) hC.1 hC.2.1 hC.2.2.2.2.1 f5 ty f7 f8 hC.2.2.2.1 hC.2.2.2.2.2.1 hW.1 hW.2.1 hW.2.2.1 _ (mm_wld_at f1) f3 k0 f4 (hC.2.2.2.2.1 _ f6) (fun _ h9 => h9) f9 (f7 k0 f4) hnar.1 hnar.2 ?_ hd (fun H1 locs1 hP hD hS => ?_)
    · rw [List.length_mapIdx]
      exact (List.getElem?_eq_some_iff.mp f2).1
    · have e := mm_wld_set (ad := ad) (cA := cA) (h := h) (v := v) f1 f2
      have hP := e ▸ hP
      have hD := e ▸ hD
      exact hk _ _ _ _ hs p _ R s m args below meth c cells slots Q D ad cA A H1 locs1 ls hC hR ⟨hP, hD, hS, mm_set_25 (Nat.ne_of_lt hl) hW.2.2.2⟩ hL
  · exact hs.elim
/-- the ends -/
def se_ret (P : mm_Po) (z : Bool) : mm_S := fun _ _ st h => match st with
  | [.int v] => P (some (.int v)) h ∧ (z = true → v = 0 ∨ v = 1)
  | _ => False
theorem sn_ireturn (hd : decode M.2.1 q = .ok (.ireturn, 1)) (hr : M.2.2.2 = some .int) : mm_Sn l d M E post (q, se_ret post false) := by
  intro k hk L st h hs
  unfold se_ret at hs
  dsimp only at hs
  split at hs
  · rename_i v
    intro p e R s m args below meth c cells slots Q D ad cA A H locs ls hC hR hW hL
    exact hR q ls h H locs (some (.int v)) .ireturn hW hs.1 (Or.inl ⟨hr, rfl, v, rfl⟩) hd
  · exact hs.elim
theorem sn_zreturn (hd : decode M.2.1 q = .ok (.ireturn, 1)) (hr : M.2.2.2 = some .boolean) : mm_Sn l d M E post (q, se_ret post true) := by
  intro k hk L st h hs
  unfold se_ret at hs
  dsimp only at hs
  split at hs
  · rename_i v
    intro p e R s m args below meth c cells slots Q D ad cA A H locs ls hC hR hW hL
    exact hR q ls h H locs (some (.int v)) .ireturn hW hs.1 (Or.inr (Or.inl ⟨hr, rfl, v, rfl, hs.2 rfl⟩)) hd
  · exact hs.elim
def se_lret (P : mm_Po) : mm_S := fun _ _ st h => match st with
  | [.long v] => P (some (.long v)) h
  | _ => False
theorem sn_lreturn (hd : decode M.2.1 q = .ok (.lreturn, 1)) (hr : M.2.2.2 = some .long) : mm_Sn l d M E post (q, se_lret post) := by
  intro k hk L st h hs
  unfold se_lret at hs
  dsimp only at hs
  split at hs
  · rename_i v
    intro p e R s m args below meth c cells slots Q D ad cA A H locs ls hC hR hW hL
    exact hR q ls h H locs (some (.long v)) .lreturn hW hs (Or.inr (Or.inr (Or.inl ⟨hr, rfl, v, rfl⟩))) hd
  · exact hs.elim
def se_vret (P : mm_Po) : mm_S := fun _ _ st h => match st with
  | [] => P none h
  | _ => False
theorem sn_return (hd : decode M.2.1 q = .ok (.return_, 1)) (hr : M.2.2.2 = none) : mm_Sn l d M E post (q, se_vret post) := by
  intro k hk L st h hs
  unfold se_vret at hs
  dsimp only at hs
  split at hs
  · intro p e R s m args below meth c cells slots Q D ad cA A H locs ls hC hR hW hL
    exact hR q ls h H locs none .return_ hW hs (Or.inr (Or.inr (Or.inr ⟨hr, rfl, rfl⟩))) hd
  · exact hs.elim
/-- a switch: the cases in their order -/
def mm_sw (k : mm_K) (L : mm_L) (r : List Value) (h : mm_H) (x : Int32) (t0 : Nat) : List (Int32 × Nat) → Prop
  | [] => k t0 L r h
  | (v, t) :: cs => (x = v → k t L r h) ∧ (¬ x = v → mm_sw k L r h x t0 cs)
theorem mm_sw_hit {k : mm_K} {L : mm_L} {r : List Value} {h : mm_H} {x : Int32} {t0 t : Nat} : ∀ {cs : List (Int32 × Nat)} {j : Nat}, mm_sw k L r h x t0 cs → (cs.map Prod.fst).Nodup → cs[j]? = some (x, t) → k t L r h
  | [], j, _, _, hj => by simp at hj
  | (v, t1) :: cs, 0, hs, _, hj => by
    have e : (v, t1) = (x, t) := by simpa using hj
    cases e
    exact hs.1 rfl
  | (v, t1) :: cs, j + 1, hs, hn, hj => by
    have hj' : cs[j]? = some (x, t) := by simpa using hj
    have hn' := List.nodup_cons.mp hn
    have hv : ¬ x = v := fun e => hn'.1 (by rw [← e]; exact List.mem_map.mpr ⟨(x, t), List.mem_of_getElem? hj', rfl⟩)
    exact mm_sw_hit (hs.2 hv) hn'.2 hj'
theorem mm_sw_miss {k : mm_K} {L : mm_L} {r : List Value} {h : mm_H} {x : Int32} {t0 : Nat} : ∀ {cs : List (Int32 × Nat)}, mm_sw k L r h x t0 cs → (∀ c ∈ cs, ¬ x = c.1) → k t0 L r h
  | [], hs, _ => hs
  | (v, t1) :: cs, hs, hx => mm_sw_miss (hs.2 (hx _ List.mem_cons_self)) (fun c hc => hx c (List.mem_cons_of_mem _ hc))
def se_switch (cs : List (Int32 × Nat)) (t0 : Nat) : mm_S := fun k L st h => match st with
  | .int x :: r => mm_sw k L r h x t0 cs
  | _ => False
/-- the cases are the table's -/
def mm_swok (q : Nat) (dflt lo hi : Int) (offs : Array Int) (cs : List (Int32 × Nat)) (t0 : Nat) : Bool :=
  decide ((q : Int) + dflt = (t0 : Int)) && decide (hi = lo + (cs.length : Int) - 1) && decide (0 ≤ lo) && decide (hi < 1000) && decide (offs.size = cs.length) && (List.range cs.length).all (fun j => decide ((cs[j]?.map (fun c => (c.1.toInt, (c.2 : Int)))) = (offs[j]?.map (fun o => (lo + (j : Int), (q : Int) + o))))) && decide ((cs.map Prod.fst).Nodup)
theorem sn_switch {dflt lo hi : Int} {offs : Array Int} {len : Nat} {cs : List (Int32 × Nat)} {t0 : Nat} (hd : decode M.2.1 q = .ok (.tableswitch dflt lo hi offs, len)) (ho : mm_swok q dflt lo hi offs cs t0 = true) : mm_Sn l d M E post (q, se_switch cs t0) := by
  intro k hk L st h hs
  unfold se_switch at hs
  dsimp only at hs
  simp only [mm_swok, Bool.and_eq_true, decide_eq_true_eq] at ho
  obtain ⟨⟨⟨⟨⟨⟨o1, o2⟩, o3⟩, o4⟩, o5⟩, o6⟩, o7⟩ := ho
  split at hs
  · rename_i x r
    intro p e R s m args below meth c cells slots Q D ad cA A H locs ls hC hR hW hL
    by_cases hin : x.toInt < lo ∨ hi < x.toInt
    · refine lv_tableOut hC.1 hC.2.1 hd hin o1 (hk _ _ _ _ (mm_sw_miss hs (fun c hc e => ?_)) p e R s m args below meth c cells slots Q D ad cA A H locs ls hC hR hW hL)
      obtain ⟨j, hj⟩ := List.getElem?_of_mem hc
      have hjl : j < cs.length := (List.getElem?_eq_some_iff.mp hj).1
      have h6 := List.all_eq_true.mp o6 j (List.mem_range.mpr hjl)
      rw [decide_eq_true_eq, hj] at h6
      cases ho : offs[j]? with
      | none => rw [ho] at h6; cases h6
      | some z =>
        rw [ho] at h6
        have h7 : c.1.toInt = lo + (j : Int) := by
          have := congrArg (Option.map Prod.fst) h6
          simpa using this
        rw [← e] at h7
        omega
    · have g1 : ¬ x.toInt < lo := fun z => hin (Or.inl z)
      have g2 : ¬ hi < x.toInt := fun z => hin (Or.inr z)
      have hjl : (x.toInt - lo).toNat < cs.length := by omega
      have h6 := List.all_eq_true.mp o6 _ (List.mem_range.mpr hjl)
      rw [decide_eq_true_eq] at h6
      obtain ⟨c0, hc0⟩ : ∃ c0, cs[(x.toInt - lo).toNat]? = some c0 := ⟨_, List.getElem?_eq_getElem hjl⟩
      cases ho : offs[(x.toInt - lo).toNat]? with
      | none => rw [ho, hc0] at h6; cases h6
      | some z =>
        rw [ho, hc0] at h6
        have h7 : c0.1.toInt = lo + ((x.toInt - lo).toNat : Int) := by
          have := congrArg (Option.map Prod.fst) h6
          simpa using this
        have h8 : (c0.2 : Int) = (q : Int) + z := by
          have := congrArg (Option.map Prod.snd) h6
          simpa using this
        have hx : c0.1 = x := Int32.toInt_inj.mp (by omega)
        obtain ⟨c1, t1⟩ := c0
        dsimp only at hx h8
        subst hx
        exact lv_tableIn hC.1 hC.2.1 hd g1 g2 ho h8.symm (hk _ _ _ _ (mm_sw_hit hs o7 hc0) p e R s m args below meth c cells slots Q D ad cA A H locs ls hC hR hW hL)
  · exact hs.elim
end SE
