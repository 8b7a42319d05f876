/-! ===== methods of the small machine: what a call does ===== -/
def mm_rm (d : Nat) : Room := { frames := d, cells := 0, slots := 0, locals := 40 * d }
def mm_ws (M : mm_M) : List Cond := Cond.code M.1 M.2.1 M.2.2.1 M.2.2.2 :: mm_tb
def mm_A (ad : Nat → Nat) (sz : Nat) : Nat → Prop := fun q => (∃ k : Nat, k < 25 ∧ q = ad k) ∨ sz ≤ q
def mm_Pc (D : va_G) (ad : Nat → Nat) (cA : ClassId) (sz : Nat) (h : mm_H) (args : List Value) : Array Value → State → Prop := va_Pc (args.map (mm_rv ad)) (fun U => U.heap.size = sz ∧ va_P D vwCl (mm_wld ad cA h) U.heap ∧ va_K D vwCl [(cA, .int)] U ∧ va_D (fun _ => True) (mm_wld ad cA h) ∧ h 25 = mm_plc ∧ mm_St ad (mm_A ad sz) U)
def mm_Qc (D : va_G) (ad : Nat → Nat) (cA : ClassId) (sz : Nat) (post : mm_Po) : Array Value → State → Outcome → State → Prop := fun _ st oc t => (∃ (r : Option Value) (h' : mm_H), oc = .returned r ∧ post r h' ∧ va_P D vwCl (mm_wld ad cA h') t.heap ∧ h' 25 = mm_plc) ∧ va_F (mm_A ad sz) st t
/-- method M at depth d, called with args at h: it comes back, with an answer and an h' of which post holds -/
def mm_Ev (l : Launch) (d : Nat) (M : mm_M) (args : List Value) (h : mm_H) (post : mm_Po) : Prop := ∀ (D : va_G) (ad : Nat → Nat) (cA : ClassId) (sz : Nat), Met l M.1 (mm_ws M) (mm_rm d) (mm_Pc D ad cA sz h args) (mm_Qc D ad cA sz post) 0 0 (mm_A ad sz)
theorem mm_D_any {A : Nat → Prop} {ad : Nat → Nat} {cA : ClassId} {h h' : mm_H} (hD : va_D A (mm_wld ad cA h)) : va_D A (mm_wld ad cA h') := by
  refine ⟨fun i j x y hi hj hxy => ?_, fun k q hk => ?_⟩
  · obtain ⟨i1, i2⟩ := mm_wld_addr hi
    obtain ⟨j1, j2⟩ := mm_wld_addr hj
    obtain ⟨e1, g1⟩ := mm_wld_in (ad := ad) (cA := cA) (h := h) i1
    obtain ⟨e2, g2⟩ := mm_wld_in (ad := ad) (cA := cA) (h := h) j1
    exact hD.1 i j _ _ g1 g2 (by rw [← i2, ← j2]; exact hxy)
  · obtain ⟨i1, i2⟩ := mm_wld_addr hk
    obtain ⟨e1, g1⟩ := mm_wld_in (ad := ad) (cA := cA) (h := h) i1
    rw [i2]
    exact hD.2 k _ g1
theorem mm_D_A {A : Nat → Prop} {ad : Nat → Nat} {cA : ClassId} {h : mm_H} (sz : Nat) (hD : va_D A (mm_wld ad cA h)) : va_D (mm_A ad sz) (mm_wld ad cA h) := by
  refine ⟨hD.1, fun k q hk => ?_⟩
  obtain ⟨i1, i2⟩ := mm_wld_addr hk
  exact Or.inl ⟨k, i1, i2⟩
theorem mm_A_in {A : Nat → Prop} {ad : Nat → Nat} {cA : ClassId} {h : mm_H} {H0 : Heap} {sz : Nat} (hD : va_D A (mm_wld ad cA h)) (hA : ∀ q, H0.size ≤ q → A q) (hs : H0.size ≤ sz) : ∀ q, mm_A ad sz q → A q := by
  intro q hq
  rcases hq with ⟨k, hk, e⟩ | hq
  · obtain ⟨e1, g1⟩ := mm_wld_in (ad := ad) (cA := cA) (h := h) hk
    rw [e]
    exact hD.2 k _ g1
  · exact hA q (Nat.le_trans hs hq)
theorem mm_St.at {ad : Nat → Nat} {A B : Nat → Prop} {s U : State} {H : Heap} {locs : List Loc} (hS : va_S A s.heap H locs) (hU : U.heap = H) (hvm : s.vm.Alike U.vm) (hB : ∀ q, B q → A q) (h : mm_St ad A s) : mm_St ad B U := by
  obtain ⟨hz, ht⟩ := h
  unfold mm_St
  rw [hU]
  refine ⟨?_, (va_T.kept (va_T.moved hvm ht) hS.2.1).narrow hB⟩
  obtain ⟨cf, kf, fi, f, a, cell, q1, q2, q3, q4, q5, q6, q7, q8⟩ := va_Z.kept (va_Z.moved hvm hz) hS.2.1
  exact ⟨cf, kf, fi, f, a, cell, q1, q2, q3, q4, q5, q6, q7, fun z => q8 (hB a z)⟩
/-- the locals at a method's entry -/
def mm_en : Nat → List Value → mm_L
  | n, [] => List.replicate n none
  | n, v :: vs => match v with
    | .long _ => some v :: none :: mm_en (n - 2) vs
    | .double _ => some v :: none :: mm_en (n - 2) vs
    | _ => some v :: mm_en (n - 1) vs
theorem mm_en_at (ad : Nat → Nat) : ∀ (vs : List Value) (n k i : Nat) (v : Value), (mm_en n vs)[i]? = some (some v) → (k + i, mm_rv ad v) ∈ lv_args k (vs.map (mm_rv ad))
  | [], n, k, i, v, h => by
    unfold mm_en at h
    have := List.eq_of_mem_replicate (List.mem_of_getElem? h)
    cases this
  | w :: vs, n, k, i, v, h => by
    have two : ∀ (X : mm_L), w.category = 2 → X = mm_en (n - 2) vs → (some w :: none :: X)[i]? = some (some v) → (k + i, mm_rv ad v) ∈ lv_args k ((w :: vs).map (mm_rv ad)) := by
      intro X hc hX hi
      unfold lv_args
      rw [List.map_cons]
      dsimp only
      rw [mm_rv_cat, if_pos hc]
      match i, hi with
      | 0, hi =>
        have e : w = v := by simpa using hi
        subst e
        exact List.mem_cons_self
      | 1, hi => simp at hi
      | i + 2, hi =>
        have := mm_en_at ad vs (n - 2) (k + 2) i v (by rw [← hX]; simpa using hi)
        rw [show k + (i + 2) = k + 2 + i by omega]
        exact List.mem_cons_of_mem _ this
    have one : ∀ (X : mm_L), ¬ w.category = 2 → X = mm_en (n - 1) vs → (some w :: X)[i]? = some (some v) → (k + i, mm_rv ad v) ∈ lv_args k ((w :: vs).map (mm_rv ad)) := by
      intro X hc hX hi
      unfold lv_args
      rw [List.map_cons]
      dsimp only
      rw [mm_rv_cat, if_neg hc]
      match i, hi with
      | 0, hi =>
        have e : w = v := by simpa using hi
        subst e
        exact List.mem_cons_self
      | i + 1, hi =>
        have := mm_en_at ad vs (n - 1) (k + 1) i v (by rw [← hX]; simpa using hi)
        rw [show k + (i + 1) = k + 1 + i by omega]
        exact List.mem_cons_of_mem _ this
    unfold mm_en at h
    cases w with
    | long x => exact two _ rfl rfl h
    | double x => exact two _ rfl rfl h
    | int x => exact one _ (by simp [Value.category]) rfl h
    | float x => exact one _ (by simp [Value.category]) rfl h
    | null => exact one _ (by simp [Value.category]) rfl h
    | ref x => exact one _ (by simp [Value.category]) rfl h
    | retAddr x => exact one _ (by simp [Value.category]) rfl h
def mm_wds (vs : List Value) : Nat := (vs.map Value.category).sum
theorem mm_wds_eq (ad : Nat → Nat) : ∀ (vs : List Value), (lg_sl (vs.map (mm_rv ad))).length = mm_wds vs
  | [] => rfl
  | v :: vs => by
    have ih := mm_wds_eq ad vs
    have e : lg_sl ((v :: vs).map (mm_rv ad)) = (if v.category = 2 then [.val (mm_rv ad v), .second] else [.val (mm_rv ad v)]) ++ lg_sl (vs.map (mm_rv ad)) := by
      unfold lg_sl
      rw [List.map_cons, List.flatMap_cons, mm_rv_cat]
    rw [e, List.length_append, ih]
    unfold mm_wds
    rw [List.map_cons, List.sum_cons]
    rcases lv_cat v with hc | hc <;> simp [hc]
set_option maxHeartbeats 4000000 in
theorem mm_Ev.of {l : Launch} {d : Nat} {M : mm_M} {args : List Value} {h : mm_H} {post : mm_Po} (hy : plainName M.1.cls = true) (hn : mm_wds args ≤ M.2.2.1) (hat : mm_At l d M (fun _ _ _ => True) post 0 (mm_en M.2.2.1 args) [] h) : mm_Ev l d M args h post := by
  intro D ad cA sz
  refine Met.ofW (cc := M.2.1) (maxL := M.2.2.1) (ret := M.2.2.2) hy rfl ?_
  intro p e s m args' below meth c s₁ B hml hv
  obtain ⟨rfl, hsz, hP, hK, hD, h25, hSt⟩ := hv
  have hx := B.exec
  have hb := B.bytes
  have hr := B.returns
  have hts := atoms_spec (ws := mm_ws M) B.pre
  have hown : s.vm.findClass M.1.cls = some m.cls := findClass_of_methodNamed B.named
  have hlocks := B.notSynchronized
  subst hsz
  have hl := lv_entry (args.map (mm_rv ad)) (n := M.2.2.1) (by rw [mm_wds_eq]; exact hn)
  rw [lg_entry_eq]
  generalize (lg_sl (args.map (mm_rv ad)) ++ List.replicate (M.2.2.1 - (lg_sl (args.map (mm_rv ad))).length) Slot.unset).toArray = ls at hl ⊢
  refine hat p e (mm_rm d) s m _ below meth c 0 0 _ D ad cA (mm_A ad s.heap.size) s.heap [] ls ⟨hx, hb, hml, hown, fun w hw => hts w (List.mem_cons_of_mem _ hw), hK, fun q hq => Or.inr hq, hSt, Nat.le_refl _, Nat.le_refl _, Nat.zero_le _, Nat.zero_le _, trivial⟩ ?_ ⟨hP, mm_D_A _ hD, va_S.rf, h25⟩ ⟨hl.1, hl.2.1, fun i v hi => ?_⟩
  · intro pc ls h' H locs r i hW hpo hrt hd
    have hq : ∀ t : State, t.heap = H → s.WarmedH t.vm → mm_Qc D ad cA s.heap.size post (args.map (mm_rv ad)).toArray s (.returned r) t := fun t ht _ => ⟨⟨r, h', rfl, hpo, by rw [ht]; exact hW.1, hW.2.2.2⟩, hW.2.2.1.F ht⟩
    rcases hrt with ⟨h1, h2, v, h3⟩ | ⟨h1, h2, v, h3, h4⟩ | ⟨h1, h2, v, h3⟩ | ⟨h1, h2, h3⟩
    · subst h2; subst h3
      exact W.iret hx hb (hr.trans h1) hq hW.2.2.1.2.2 hd
    · subst h2; subst h3
      exact W.zret hx hb (hr.trans h1) (by rcases h4 with e4 | e4 <;> subst e4 <;> decide) hq hW.2.2.1.2.2 hd
    · subst h2; subst h3
      exact W.lret hx hb (hr.trans h1) hq hW.2.2.1.2.2 hd
    · subst h2; subst h3
      exact W.vret hx hb (hr.trans h1) hq hW.2.2.1.2.2 hd
  · have := mm_en_at ad args M.2.2.1 0 i v hi
    rw [Nat.zero_add] at this
    exact hl.2.2 _ this
theorem mm_Ev.mono {l : Launch} {d : Nat} {M : mm_M} {args : List Value} {h : mm_H} {post post' : mm_Po} (hE : mm_Ev l d M args h post) (hp : ∀ r h', post r h' → post' r h') : mm_Ev l d M args h post' := by
  intro D ad cA sz
  have hM := hE D ad cA sz
  unfold Met at hM ⊢
  refine hM.mono (fun _ _ hp => hp) (fun _ _ _ _ _ h => h) (fun a st o t _ hq => ?_)
  obtain ⟨⟨⟨r, h', e1, e2, e3⟩, e4⟩, e5⟩ := hq
  exact ⟨⟨⟨r, h', e1, hp r h' e2, e3⟩, e4⟩, e5⟩

/-- behind a call: the answer, and the world as the callee leaves it -/
theorem mm_callk {p : Program} {l : Launch} {e : Env} {R : Room} {s : State} {m : MethodId} {args : Array Value} {below : List Frame} {meth : Method} {c : Code} {H : Heap} {locs : List Loc} {cells slots : Nat} {Q : State → Prop} {pc : Nat} {ls : Array Slot} {rest st0 : List Value} {a : Array Value} {D : va_G} {ad : Nat → Nat} {cA : ClassId} {A : Nat → Prop} {h : mm_H} {post' : mm_Po}
    (hr : va_Run p l e R s m args below meth c H locs cells slots 0 0 (F0 m pc ls st0) rest (mm_Qc D ad cA H.size post' a) (mm_A ad H.size)) (hW : mm_Wd D ad cA A s.heap h H locs) (hA : ∀ q, s.heap.size ≤ q → A q)
    (kk : ∀ (r : Option Value) (h' : mm_H) (H1 : Heap) (locs1 : List Loc), post' r h' → mm_Wd D ad cA A s.heap h' H1 locs1 → W p l e R s m args below meth c H1 locs1 cells slots Q (F0 m (pc + 3) ls (r.toList ++ rest))) : W p l e R s m args below meth c H locs cells slots Q (F0 m pc ls st0) := by
  intro T hT X
  obtain ⟨v, st₀, t, T', L, h0, X', hL, e1, e2, ⟨⟨r, h', hv, hp, hP', h25'⟩, hz, hk⟩, st⟩ := hr T hT X
  cases hv
  rw [h0] at hz hk
  have hA1 := mm_A_in hW.2.1 hA hW.2.2.1.1
  obtain ⟨t2, a1, b1⟩ := kk v h' T'.heap (locs ++ L) hp ⟨by rw [e1]; exact hP', mm_D_any hW.2.1, ⟨Nat.le_trans hW.2.2.1.1 (by rw [e1]; exact hz), fun q h1 h2 => by rw [e1, hk q (Nat.lt_of_lt_of_le h1 hW.2.2.1.1) (fun z => h2 (hA1 q z))]; exact hW.2.2.1.2.1 q h1 h2, fun q hq => by
      rcases List.mem_append.mp hq with h | h
      · exact hW.2.2.1.2.2 q h
      · exact hA1 _ (hL q h)⟩, h25'⟩ T' rfl X'
  exact ⟨t2, st t2 a1, b1⟩
def mm_ag : Nat → List Value → List Value → List Value
  | 0, _, acc => acc
  | _ + 1, [], acc => acc
  | n + 1, v :: st, acc => mm_ag n st (v :: acc)
def mm_dr : Nat → List Value → List Value
  | 0, st => st
  | _ + 1, [] => []
  | n + 1, _ :: st => mm_dr n st
def mm_c8 (st : List Value) : Bool := Nat.ble (st.map Value.category).sum 8
theorem mm_ag_eq : ∀ (n : Nat) (st acc : List Value), mm_ag n st acc = (st.take n).reverse ++ acc
  | 0, st, acc => by simp [mm_ag]
  | n + 1, [], acc => by simp [mm_ag]
  | n + 1, v :: st, acc => by simp [mm_ag, mm_ag_eq n st]
theorem mm_dr_eq : ∀ (n : Nat) (st : List Value), mm_dr n st = st.drop n
  | 0, st => by simp [mm_dr]
  | n + 1, [] => by simp [mm_dr]
  | n + 1, v :: st => by simp [mm_dr, mm_dr_eq n st]
theorem mm_good {w : Cond} (h : w ∈ mm_tb) : goodWord w = true := (List.mem_filter.mp h).2
theorem mm_goodIn {ws : List Cond} (h : ∀ w ∈ ws, w ∈ mm_tb) : GoodIn mm_tb ws := fun w hw => ⟨h w hw, good_of_word (mm_good (h w hw))⟩
/-- a call's link: static -/
def mm_cs (own : String) (idx : Nat) (M : mm_M) (n : Nat) : Prop := Cond.methodLink own idx M.1 ∈ mm_tb ∧ Cond.static M.1 ∈ mm_tb ∧ Cond.initialized M.1.cls ∈ mm_tb ∧ Cond.code M.1 M.2.1 M.2.2.1 M.2.2.2 ∈ mm_tb ∧ (M.1.cls ≠ "java/lang/invoke/MethodHandle" ∧ M.1.cls ≠ "java/lang/invoke/VarHandle" ∧ (parseMethodDescriptor M.1.desc).map (fun d => d.parameters.length) = some n) ∧ M.2.2.1 ≤ 21
/-- a call's link: of a cell -/
def mm_cv (own : String) (idx : Nat) (M : mm_M) (n c0 : Nat) : Prop := Cond.methodLink own idx M.1 ∈ mm_tb ∧ Cond.instanceMethod M.1 ∈ mm_tb ∧ Cond.selects M.1.cls M.1 M.1 ∈ mm_tb ∧ Cond.initialized M.1.cls ∈ mm_tb ∧ Cond.code M.1 M.2.1 M.2.2.1 M.2.2.2 ∈ mm_tb ∧ (M.1.cls ≠ "java/lang/invoke/MethodHandle" ∧ M.1.cls ≠ "java/lang/invoke/VarHandle" ∧ (parseMethodDescriptor M.1.desc).map (fun d => d.parameters.length) = some n) ∧ M.2.2.1 ≤ 21 ∧ ∃ (ci : Nat) (fs : List (Option Nat)) (T : u_T) (N : Nat), mm_shp[c0]? = some (.inr (ci, fs)) ∧ vwCl[ci]? = some (M.1.cls, T, N)
theorem mm_ws_in {M : mm_M} (h : Cond.code M.1 M.2.1 M.2.2.1 M.2.2.2 ∈ mm_tb) : GoodIn mm_tb (mm_ws M) := mm_goodIn (fun w hw => by
  rcases List.mem_cons.mp hw with e | e
  · rw [e]; exact h
  · exact e)
theorem mm_blind (D : va_G) (ad : Nat → Nat) (cA : ClassId) (sz : Nat) (h : mm_H) (As : List Value) : FrameBlind (mm_Pc D ad cA sz h As) := by
  intro a U g mk hq
  obtain ⟨q0, q1, qP, qK, qD, q25, qS⟩ := hq
  exact ⟨q0, q1, qP, va_K.moved (u := U) (U := U.calling g mk a) (Vm.Alike.refl U.vm) qK, qD, q25, va_Z.moved (u := U) (U := U.calling g mk a) (Vm.Alike.refl U.vm) qS.1, va_T.moved (u := U) (U := U.calling g mk a) (Vm.Alike.refl U.vm) qS.2⟩
section SC
variable {l : Launch} {d : Nat} {M : mm_M} {E : mm_X} {post : mm_Po} {q : Nat}
def mm_rvk (ad : Nat → Nat) (r : Option Value) : Prop := r.toList.map (mm_rv ad) = r.toList
theorem mm_stk {n : Nat} {st : List Value} {ad : Nat → Nat} : st.map (mm_rv ad) = ((mm_ag n st []).map (mm_rv ad)).reverse ++ (mm_dr n st).map (mm_rv ad) := by
  rw [mm_ag_eq, mm_dr_eq, List.append_nil, ← List.map_reverse, List.reverse_reverse, ← List.map_append, List.take_append_drop]
theorem mm_c8_ok {ad : Nat → Nat} {st : List Value} (h : mm_c8 st = true) : ((st.map (mm_rv ad)).map fun v => v.category).sum ≤ 8 := by
  have e : (st.map (mm_rv ad)).map (fun v => v.category) = st.map Value.category := by
    rw [List.map_map]
    exact List.map_congr_left (fun v _ => mm_rv_cat ad v)
  rw [e]
  exact Nat.le_of_ble_eq_true h
theorem mm_pre {p : Program} {R : Room} {s : State} {m : MethodId} {args : Array Value} {c : Code} {H : Heap} {locs : List Loc} {cells slots : Nat} {D : va_G} {ad : Nat → Nat} {cA : ClassId} {A : Nat → Prop} {h : mm_H} {As : List Value} (hC : mm_Cx d M E p R s m args c cells slots D ad cA A) (hW : mm_Wd D ad cA A s.heap h H locs) (U : State) (hU : U.heap = H) (hw : s.WarmedH U.vm) : mm_Pc D ad cA H.size h As (As.map (mm_rv ad)).toArray U :=
  ⟨rfl, by rw [hU], by rw [hU]; exact hW.1, va_K.moved hw.alike hC.2.2.2.2.2.1, hW.2.1.weaken (fun _ _ _ _ => trivial), hW.2.2.2, mm_St.at hW.2.2.1 hU hw.alike (mm_A_in hW.2.1 hC.2.2.2.2.2.2.1 hW.2.2.1.1) hC.2.2.2.2.2.2.2.1⟩
theorem mm_kk {p : Program} {e : Env} {R : Room} {s : State} {m : MethodId} {args : Array Value} {below : List Frame} {meth : Method} {c : Code} {H : Heap} {locs : List Loc} {cells slots : Nat} {Q : State → Prop} {ls : Array Slot} {D : va_G} {ad : Nat → Nat} {cA : ClassId} {A : Nat → Prop} {pc : Nat} {L : mm_L} {r : Option Value} {st : List Value} {h : mm_H} (hat : mm_At l d M E post pc L (r.toList ++ st) h) (hr : mm_rvk ad r) (hC : mm_Cx d M E p R s m args c cells slots D ad cA A) (hR : mm_Rt M post p l e R s m args below meth c cells slots Q D ad cA A) (hW : mm_Wd D ad cA A s.heap h H locs) (hL : mm_lv ad ls M.2.2.1 L) : W p l e R s m args below meth c H locs cells slots Q (F0 m pc ls (r.toList ++ st.map (mm_rv ad))) := by
  have := hat p e R s m args below meth c cells slots Q D ad cA A H locs ls hC hR hW hL
  rw [List.map_append, hr] at this
  exact this
/-- an answer is a number, or none -/
def mm_num (r : Option Value) : Prop := r = none ∨ (∃ v : Int32, r = some (.int v)) ∨ ∃ v : Int64, r = some (.long v)
theorem mm_num.rvk {r : Option Value} (h : mm_num r) (ad : Nat → Nat) : mm_rvk ad r := by
  rcases h with rfl | ⟨v, rfl⟩ | ⟨v, rfl⟩ <;> rfl
def se_callS (l : Launch) (d : Nat) (M' : mm_M) (n nx : Nat) : mm_S := fun k L st h => ∃ (d' : Nat) (P : mm_Po), d' < d ∧ mm_Ev l d' M' (mm_ag n st []) h P ∧ Nat.ble n st.length = true ∧ mm_c8 (mm_dr n st) = true ∧ ∀ (r : Option Value) (h' : mm_H), P r h' → mm_num r ∧ k nx L (r.toList ++ mm_dr n st) h'
set_option maxHeartbeats 4000000 in
theorem sn_callS {idx n : Nat} {M' : mm_M} (hd : decode M.2.1 q = .ok (.invokestatic idx, 3)) (hc : mm_cs M.1.cls idx M' n) : mm_Sn l d M E post (q, se_callS l d M' n (q + 3)) := by
  intro k hk L st h hs
  obtain ⟨d', P, hlt, hE, hlen, h8, hpo⟩ := hs
  obtain ⟨c1, c2, c3, c4, c5, c6⟩ := hc
  intro p e R s m args below meth c cells slots Q D ad cA A H locs ls hC hR hW hL
  have hfr := hC.2.2.2.2.2.2.2.2.1
  have hlo := hC.2.2.2.2.2.2.2.2.2.1
  have hts := hC.2.2.2.2.1
  have cb : CallB R s args M.1.cls idx M'.1 M'.2.1 M'.2.2.1 M'.2.2.2 (mm_ws M') (mm_rm d') 0 0 n := callB_of n hts (mm_ws_in c4) rfl rfl rfl (hts _ c3) (hts _ c1) c5 ⟨by show d' + 1 ≤ _; omega, by show _ + 40 * d' ≤ _; omega⟩
  have hlen2 : ((mm_ag n st []).map (mm_rv ad)).length = n := by
    rw [List.length_map, mm_ag_eq, List.append_nil, List.length_reverse, List.length_take]
    have := Nat.le_of_ble_eq_true hlen
    omega
  have hrun := va_runS (g := F0 m q ls (st.map (mm_rv ad))) (As := (mm_ag n st []).map (mm_rv ad)) (rest := (mm_dr n st).map (mm_rv ad)) (locs := locs) (cells := cells) (slots := slots) (below := below) (meth := meth) (e := e) ⟨hC.1, hC.2.1, hC.2.2.1, hC.2.2.2.1, hts⟩ (hE D ad cA H.size) ⟨cb, hts _ c2⟩ ⟨mm_blind _ _ _ _ _ _, fun U hU hw => mm_pre hC hW U hU hw⟩ rfl hlen2 hL.1 mm_stk (lv_room (mm_c8_ok h8)) hd ⟨hC.2.2.2.2.2.2.2.2.2.2.1, hC.2.2.2.2.2.2.2.2.2.2.2.1⟩
  refine mm_callk hrun hW hC.2.2.2.2.2.2.1 (fun r h' H1 locs1 hp hW1 => ?_)
  obtain ⟨hn, hkk⟩ := hpo r h' hp
  exact mm_kk (hk _ _ _ _ hkk) (hn.rvk ad) hC hR hW1 hL
def se_callV (l : Launch) (d : Nat) (M' : mm_M) (n c0 nx : Nat) : mm_S := fun k L st h => ∃ (d' : Nat) (P : mm_Po), d' < d ∧ mm_Ev l d' M' (mm_ag (n + 1) st []) h P ∧ mm_nth st n = some (.ref c0) ∧ mm_c8 (mm_dr (n + 1) st) = true ∧ ∀ (r : Option Value) (h' : mm_H), P r h' → mm_num r ∧ k nx L (r.toList ++ mm_dr (n + 1) st) h'
set_option maxHeartbeats 4000000 in
theorem sn_callV {idx n c0 : Nat} {M' : mm_M} (hd : decode M.2.1 q = .ok (.invokevirtual idx, 3)) (hc : mm_cv M.1.cls idx M' n c0) : mm_Sn l d M E post (q, se_callV l d M' n c0 (q + 3)) := by
  intro k hk L st h hs
  obtain ⟨d', P, hlt, hE, hrec, h8, hpo⟩ := hs
  obtain ⟨c1, c2, c3, c4, c5, c6, c7, ci, fs, T, N, c8, c9⟩ := hc
  intro p e R s m args below meth c cells slots Q D ad cA A H locs ls hC hR hW hL
  have hfr := hC.2.2.2.2.2.2.2.2.1
  have hlo := hC.2.2.2.2.2.2.2.2.2.1
  have hts := hC.2.2.2.2.1
  have cb : CallB R s args M.1.cls idx M'.1 M'.2.1 M'.2.2.1 M'.2.2.2 (mm_ws M') (mm_rm d') 0 0 n := callB_of n hts (mm_ws_in c5) rfl rfl rfl (hts _ c4) (hts _ c1) c6 ⟨by show d' + 1 ≤ _; omega, by show _ + 40 * d' ≤ _; omega⟩
  have hst : mm_ag (n + 1) st [] = .ref c0 :: (st.take n).reverse := by
    rw [mm_ag_eq, List.append_nil, mm_nth_eq] at *
    rw [List.take_succ, hrec]
    simp
  have hl2 : n < st.length := by
    rw [mm_nth_eq] at hrec
    exact (List.getElem?_eq_some_iff.mp hrec).1
  have hlen2 : ((st.take n).reverse.map (mm_rv ad)).length = n := by
    rw [List.length_map, List.length_reverse, List.length_take]
    omega
  have hstk : st.map (mm_rv ad) = ((st.take n).reverse.map (mm_rv ad)).reverse ++ .ref (ad c0) :: (mm_dr (n + 1) st).map (mm_rv ad) := by
    have := mm_stk (n := n + 1) (st := st) (ad := ad)
    rw [hst] at this
    rw [this]
    simp [mm_rv]
  rw [hst] at hE
  have hrun := va_runV (g := F0 m q ls (st.map (mm_rv ad))) (b := ad c0) (As := (st.take n).reverse.map (mm_rv ad)) (rest := (mm_dr (n + 1) st).map (mm_rv ad)) (locs := locs) (cells := cells) (slots := slots) (below := below) (meth := meth) (e := e) ⟨hC.1, hC.2.1, hC.2.2.1, hC.2.2.2.1, hts⟩ (hE D ad cA H.size) ⟨cb, hts _ c2, hts _ c3⟩ ⟨mm_blind _ _ _ _ _ _, va_recv hC.2.2.2.2.2.1 hW.1 c9 (mm_wld_at c8), fun U hU hw => mm_pre hC hW U hU hw⟩ rfl hlen2 hL.1 hstk (lv_room (mm_c8_ok h8)) hd ⟨hC.2.2.2.2.2.2.2.2.2.2.1, hC.2.2.2.2.2.2.2.2.2.2.2.1⟩
  refine mm_callk hrun hW hC.2.2.2.2.2.2.1 (fun r h' H1 locs1 hp hW1 => ?_)
  obtain ⟨hn, hkk⟩ := hpo r h' hp
  exact mm_kk (hk _ _ _ _ hkk) (hn.rvk ad) hC hR hW1 hL
/-- System.arraycopy between two rows of ints -/
def se_copy (d nx : Nat) : mm_S := fun k L st h => match st with
  | .int n :: .int dp :: .ref b :: .int sp :: .ref a :: r => 1 ≤ d ∧ (¬ sp < 0) ∧ (¬ dp < 0) ∧ (¬ n < 0) ∧ (¬ a = 25) ∧ (¬ b = 25) ∧ 0 < mm_len a ∧ 0 < mm_len b ∧ sp.toNatClampNeg + n.toNatClampNeg ≤ mm_len a ∧ dp.toNatClampNeg + n.toNatClampNeg ≤ mm_len b ∧ mm_c8 r = true ∧ k nx L r (mm_setA h b (va_cpy (h a) (h b) sp.toNatClampNeg dp.toNatClampNeg n.toNatClampNeg))
  | _ => False
set_option maxHeartbeats 4000000 in
theorem sn_copy {idx : Nat} (hd : decode M.2.1 q = .ok (.invokestatic idx, 3)) (h1 : Cond.methodLink M.1.cls idx arraycopyName ∈ mm_tb) (h2 : Cond.native arraycopyName ∈ mm_tb) (h3 : Cond.static arraycopyName ∈ mm_tb) (h4 : Cond.initialized "java/lang/System" ∈ mm_tb) : mm_Sn l d M E post (q, se_copy d (q + 3)) := by
  intro k hk L st h hs
  unfold se_copy at hs
  dsimp only at hs
  split at hs
  · rename_i n dp b sp a r
    obtain ⟨d1, g1, g2, g3, ha, hb, la, lb, g4, g5, h8, hs⟩ := hs
    intro p e R s m args below meth c cells slots Q D ad cA A H locs ls hC hR hW hL
    have hts := hC.2.2.2.2.1
    have hfr := hC.2.2.2.2.2.2.2.2.1
    have hlo := hC.2.2.2.2.2.2.2.2.2.1
    have hxa := mm_len_at la ha
    have hxb := mm_len_at lb hb
    refine va_copyi hC.1 hC.2.1 (hC.2.2.1.trans hL.1.symm) hC.2.2.2.1 (hts _ h1) (hts _ h2) (hts _ h3) (hts _ h4) hC.2.2.2.2.2.1 hW.1 hW.2.1 hW.2.2.1 a b 0 0 (mm_wld_at hxa) (mm_wld_at hxb) rfl rfl rfl g1 g2 g3 g4 g5 (fun i _ => rfl) (Nat.le_trans d1 hfr) ?_ hd (fun H1 locs1 hP hD hS => ?_)
    · have e8 := mm_c8_ok (ad := ad) h8
      have e7 : nativeFrameWords "java/lang/System" "arraycopy" 5 = 7 := by decide
      rw [e7]
      omega
    · have he := mm_wld_setA (ad := ad) (cA := cA) (h := h) (f := va_cpy (h a) (h b) sp.toNatClampNeg dp.toNatClampNeg n.toNatClampNeg) hxb
      have hP := he ▸ hP
      have hD := he ▸ hD
      exact hk _ _ _ _ hs p e R s m args below meth c cells slots Q D ad cA A H1 locs1 ls hC hR ⟨hP, hD, hS, mm_setA_25 hb hW.2.2.2⟩ hL
  · exact hs.elim
/-- Math.max -/
def se_max (d nx : Nat) : mm_S := fun k L st h => match st with
  | .int y :: .int x :: r => 0 < d ∧ mm_c8 r = true ∧ k nx L (.int (if x < y then y else x) :: r) h
  | _ => False
theorem sn_max {idx : Nat} (hd : decode M.2.1 q = .ok (.invokestatic idx, 3)) (h1 : Cond.methodLink M.1.cls idx Lib.Math.max.name ∈ mm_tb) (h2 : Cond.static Lib.Math.max.name ∈ mm_tb) (h3 : Cond.initialized "java/lang/Math" ∈ mm_tb) (h4 : Cond.code Lib.Math.max.name Lib.Math.max.code 2 (some .int) ∈ mm_tb) : mm_Sn l d M E post (q, se_max d (q + 3)) := by
  intro k hk L st h hs
  unfold se_max at hs
  dsimp only at hs
  split at hs
  · rename_i y x r
    obtain ⟨d1, h8, hs⟩ := hs
    intro p e R s m args below meth c cells slots Q D ad cA A H locs ls hC hR hW hL
    have hts := hC.2.2.2.2.1
    have hfr := hC.2.2.2.2.2.2.2.2.1
    have hlo := hC.2.2.2.2.2.2.2.2.2.1
    refine va_mmax hC.1 hC.2.1 (hC.2.2.1.trans hL.1.symm) hC.2.2.2.1 (hts _ h1) (hts _ h2) (hts _ h3) (hts _ h4) (Nat.le_trans d1 hfr) ?_ hC.2.2.2.2.2.2.2.2.2.2.1 hC.2.2.2.2.2.2.2.2.2.2.2.1 hd (hk _ _ _ _ hs p e R s m args below meth c cells slots Q D ad cA A H locs ls hC hR hW hL)
    have e8 := mm_c8_ok (ad := ad) h8
    omega
  · exact hs.elim
/-- Math.min -/
def se_min (d nx : Nat) : mm_S := fun k L st h => match st with
  | .int y :: .int x :: r => 0 < d ∧ mm_c8 r = true ∧ k nx L (.int (if y < x then y else x) :: r) h
  | _ => False
theorem sn_min {idx : Nat} (hd : decode M.2.1 q = .ok (.invokestatic idx, 3)) (h1 : Cond.methodLink M.1.cls idx Lib.Math.min.name ∈ mm_tb) (h2 : Cond.static Lib.Math.min.name ∈ mm_tb) (h3 : Cond.initialized "java/lang/Math" ∈ mm_tb) (h4 : Cond.code Lib.Math.min.name Lib.Math.min.code 2 (some .int) ∈ mm_tb) : mm_Sn l d M E post (q, se_min d (q + 3)) := by
  intro k hk L st h hs
  unfold se_min at hs
  dsimp only at hs
  split at hs
  · rename_i y x r
    obtain ⟨d1, h8, hs⟩ := hs
    intro p e R s m args below meth c cells slots Q D ad cA A H locs ls hC hR hW hL
    have hts := hC.2.2.2.2.1
    have hfr := hC.2.2.2.2.2.2.2.2.1
    have hlo := hC.2.2.2.2.2.2.2.2.2.1
    refine va_mmin hC.1 hC.2.1 (hC.2.2.1.trans hL.1.symm) hC.2.2.2.1 (hts _ h1) (hts _ h2) (hts _ h3) (hts _ h4) (Nat.le_trans d1 hfr) ?_ hC.2.2.2.2.2.2.2.2.2.2.1 hC.2.2.2.2.2.2.2.2.2.2.2.1 hd (hk _ _ _ _ hs p e R s m args below meth c cells slots Q D ad cA A H locs ls hC hR hW hL)
    have e8 := mm_c8_ok (ad := ad) h8
    omega
  · exact hs.elim
theorem mm_numI (v : Int32) : mm_num (some (.int v)) := Or.inr (Or.inl ⟨v, rfl⟩)
theorem mm_numL (v : Int64) : mm_num (some (.long v)) := Or.inr (Or.inr ⟨v, rfl⟩)
theorem mm_numN : mm_num none := Or.inl rfl
end SC
