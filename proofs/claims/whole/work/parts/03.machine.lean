/-! ===== the small machine: a fixed shape of cells, values with cells' numbers, the judgement 'at' ===== -/
/-- the tables' words that hold in every state of the run -/
def mm_tb : List Cond := lw_tbl.filter goodWord
abbrev mm_H : Type := Nat → Nat → Int32
abbrev mm_L : Type := List (Option Value)
abbrev mm_K : Type := Nat → mm_L → List Value → mm_H → Prop
abbrev mm_S : Type := mm_K → mm_L → List Value → mm_H → Prop
abbrev mm_M : Type := MethodName × ByteArray × Nat × Option FieldType
abbrev mm_X : Type := State → (Nat → Nat) → (Nat → Prop) → Prop
abbrev mm_Po : Type := Option Value → mm_H → Prop
def mm_rv (ad : Nat → Nat) (v : Value) : Value := match v with
  | .ref a => .ref (ad a)
  | w => w
theorem mm_rv_cat (ad : Nat → Nat) (v : Value) : (mm_rv ad v).category = v.category := by cases v <;> rfl
/-- what the cells are: an array of ints of a length, or an object: its class's number, its fields: an int, or a cell for good -/
def mm_shp : List (Nat ⊕ (Nat × List (Option Nat))) := [
  .inr (4, [some 1, some 5, some 7, some 9, some 15, none, none, none]),
  .inr (1, [some 2, some 3, some 4, none]),
  .inl 8, .inl 8, .inl 8,
  .inr (3, [some 6, none, none, some 1, none, none, none]),
  .inl 8,
  .inr (2, [some 8, some 1, some 5]),
  .inl 8,
  .inr (0, [some 10, some 1, some 11, some 12, some 13, some 14]),
  .inl 8, .inl 8, .inl 3125, .inl 3125, .inl 3125,
  .inl 8,
  .inr (5, [none, some 17, some 18, some 19, some 20, none, some 21, some 22, none, some 23, some 24, none]),
  .inl 8, .inl 8, .inl 8, .inl 8, .inl 8, .inl 8, .inl 8, .inl 3125]
def mm_plc : Nat → Int32 := fun k => match k with
  | 0 => 1
  | 1 => 5
  | 2 => 25
  | 3 => 125
  | _ => 625
/-- the length of an array cell; 0: it is none -/
def mm_len (a : Nat) : Nat := match a with
  | 0 | 1 | 5 | 7 | 9 | 16 => 0
  | 2 | 3 | 4 | 6 | 8 | 10 | 11 | 15 | 17 | 18 | 19 | 20 | 21 | 22 | 23 => 8
  | 12 | 13 | 14 | 24 => 3125
  | 25 => 5
  | _ => 0
def mm_fv (ad : Nat → Nat) (h : mm_H) (i k : Nat) (f : Option Nat) : Value := match f with
  | none => .int (h i k)
  | some r => .ref (ad r)
def mm_cell (ad : Nat → Nat) (cA : ClassId) (h : mm_H) (i : Nat) (x : Nat ⊕ (Nat × List (Option Nat))) : Nat × va_E := (ad i, match x with
  | .inl n => .inl (cA, n, .inl (h i))
  | .inr q => .inr (q.1, q.2.mapIdx (mm_fv ad h i)))
def mm_wld (ad : Nat → Nat) (cA : ClassId) (h : mm_H) : va_W := mm_shp.mapIdx (mm_cell ad cA h)
def mm_set (h : mm_H) (i k : Nat) (v : Int32) : mm_H := fun a b => if a = i then (if b = k then v else h a b) else h a b
def mm_setA (h : mm_H) (i : Nat) (f : Nat → Int32) : mm_H := fun a => if a = i then f else h a
theorem mm_wld_at {ad : Nat → Nat} {cA : ClassId} {h : mm_H} {i : Nat} {x : Nat ⊕ (Nat × List (Option Nat))} (hx : mm_shp[i]? = some x) : (mm_wld ad cA h)[i]? = some (mm_cell ad cA h i x) := by
  unfold mm_wld
  rw [List.getElem?_mapIdx, hx]
  rfl
theorem mm_wld_addr {ad : Nat → Nat} {cA : ClassId} {h : mm_H} {i : Nat} {q : Nat × va_E} (hq : (mm_wld ad cA h)[i]? = some q) : i < 25 ∧ q.1 = ad i := by
  unfold mm_wld at hq
  rw [List.getElem?_mapIdx] at hq
  cases hx : mm_shp[i]? with
  | none => rw [hx] at hq; cases hq
  | some x =>
    rw [hx] at hq
    cases hq
    exact ⟨(List.getElem?_eq_some_iff.mp hx).1, rfl⟩
theorem mm_wld_in {ad : Nat → Nat} {cA : ClassId} {h : mm_H} {i : Nat} (hi : i < 25) : ∃ e : va_E, (mm_wld ad cA h)[i]? = some (ad i, e) := by
  have hl : i < mm_shp.length := hi
  exact ⟨_, mm_wld_at (List.getElem?_eq_getElem hl)⟩
theorem mm_wld_len (ad : Nat → Nat) (cA : ClassId) (h : mm_H) : (mm_wld ad cA h).length = 25 := by
  unfold mm_wld
  rw [List.length_mapIdx]
  rfl
/-- a field is written -/
theorem mm_wld_set {ad : Nat → Nat} {cA : ClassId} {h : mm_H} {i ci k : Nat} {fs : List (Option Nat)} {v : Int32} (hx : mm_shp[i]? = some (.inr (ci, fs))) (hk : fs[k]? = some none) : (mm_wld ad cA h).set i (ad i, .inr (ci, (fs.mapIdx (mm_fv ad h i)).set k (.int v))) = mm_wld ad cA (mm_set h i k v) := by
  apply List.ext_getElem?
  intro j
  unfold mm_wld
  by_cases hj : i = j
  · subst hj
    have hl : i < (mm_shp.mapIdx (mm_cell ad cA h)).length := by rw [List.length_mapIdx]; exact (List.getElem?_eq_some_iff.mp hx).1
    rw [List.getElem?_set_self hl, List.getElem?_mapIdx, hx]
    show _ = some (mm_cell ad cA (mm_set h i k v) i (.inr (ci, fs)))
    unfold mm_cell
    dsimp only
    congr 4
    apply List.ext_getElem?
    intro b
    by_cases hb : k = b
    · subst hb
      rw [List.getElem?_set_self (by rw [List.length_mapIdx]; exact (List.getElem?_eq_some_iff.mp hk).1), List.getElem?_mapIdx, hk]
      simp [mm_fv, mm_set]
    · rw [List.getElem?_set_ne hb, List.getElem?_mapIdx, List.getElem?_mapIdx]
      cases fs[b]? with
      | none => rfl
      | some f => cases f with
        | none => simp [mm_fv, mm_set, Ne.symm hb]
        | some r => rfl
  · rw [List.getElem?_set_ne hj, List.getElem?_mapIdx, List.getElem?_mapIdx]
    cases mm_shp[j]? with
    | none => rfl
    | some x =>
      cases x with
      | inl n =>
        have e : mm_set h i k v j = h j := by funext b; simp [mm_set, Ne.symm hj]
        simp [mm_cell, e]
      | inr q => 
        have e : mm_fv ad (mm_set h i k v) j = mm_fv ad h j := by
          funext b f
          cases f with
          | none => simp [mm_fv, mm_set, Ne.symm hj]
          | some r => rfl
        simp [mm_cell, e]
/-- a whole array is written -/
theorem mm_wld_setA {ad : Nat → Nat} {cA : ClassId} {h : mm_H} {i n : Nat} {f : Nat → Int32} (hx : mm_shp[i]? = some (.inl n)) : (mm_wld ad cA h).set i (ad i, .inl (cA, n, .inl f)) = mm_wld ad cA (mm_setA h i f) := by
  apply List.ext_getElem?
  intro j
  unfold mm_wld
  by_cases hj : i = j
  · subst hj
    have hl : i < (mm_shp.mapIdx (mm_cell ad cA h)).length := by rw [List.length_mapIdx]; exact (List.getElem?_eq_some_iff.mp hx).1
    rw [List.getElem?_set_self hl, List.getElem?_mapIdx, hx]
    simp [mm_cell, mm_setA]
  · rw [List.getElem?_set_ne hj, List.getElem?_mapIdx, List.getElem?_mapIdx]
    cases mm_shp[j]? with
    | none => rfl
    | some x =>
      cases x with
      | inl n => simp [mm_cell, mm_setA, Ne.symm hj]
      | inr q => 
        have e : mm_fv ad (mm_setA h i f) j = mm_fv ad h j := by
          funext b g
          cases g with
          | none => simp [mm_fv, mm_setA, Ne.symm hj]
          | some r => rfl
        simp [mm_cell, e]
theorem mm_setA_upd (h : mm_H) (i k : Nat) (v : Int32) : mm_setA h i (upd (h i) k v) = mm_set h i k v := by
  funext a b
  unfold mm_setA mm_set upd
  by_cases ha : a = i
  · subst ha; simp
  · simp [ha]
theorem mm_len_at {a : Nat} (h : 0 < mm_len a) (h25 : a ≠ 25) : mm_shp[a]? = some (.inl (mm_len a)) := by
  have hl : a < 25 := by
    apply Nat.lt_of_not_le
    intro hle
    have : mm_len a = 0 := by
      unfold mm_len
      split <;> first | omega | rfl
    omega
  have key : ∀ a : Fin 25, 0 < mm_len a.val → mm_shp[a.val]? = some (.inl (mm_len a.val)) := by decide
  exact key ⟨a, hl⟩ h
/-! locals by their places -/
def mm_lv (ad : Nat → Nat) (ls : Array Slot) (nL : Nat) (L : mm_L) : Prop := ls.size = nL ∧ lv_wf ls ∧ ∀ (i : Nat) (v : Value), L[i]? = some (some v) → ls[i]? = some (.val (mm_rv ad v))
def mm_as (ad : Nat → Nat) : Nat → mm_L → List (Nat × Value)
  | _, [] => []
  | i, none :: L => mm_as ad (i + 1) L
  | i, some v :: L => (i, mm_rv ad v) :: mm_as ad (i + 1) L
theorem mm_as_mem {ad : Nat → Nat} : ∀ {L : mm_L} {i : Nat} {q : Nat × Value}, q ∈ mm_as ad i L → ∃ (k : Nat) (v : Value), q.1 = i + k ∧ L[k]? = some (some v) ∧ q.2 = mm_rv ad v
  | [], i, q, h => by cases h
  | none :: L, i, q, h => by
    obtain ⟨k, v, h1, h2, h3⟩ := mm_as_mem (L := L) h
    exact ⟨k + 1, v, by omega, h2, h3⟩
  | some w :: L, i, q, h => by
    rcases List.mem_cons.mp h with h | h
    · subst h
      exact ⟨0, w, rfl, rfl, rfl⟩
    · obtain ⟨k, v, h1, h2, h3⟩ := mm_as_mem (L := L) h
      exact ⟨k + 1, v, by omega, h2, h3⟩
theorem mm_mem_as {ad : Nat → Nat} : ∀ {L : mm_L} {i k : Nat} {v : Value}, L[k]? = some (some v) → (i + k, mm_rv ad v) ∈ mm_as ad i L
  | [], i, k, v, h => by simp at h
  | none :: L, i, k, v, h => by
    cases k with
    | zero => simp at h
    | succ k =>
      have := mm_mem_as (ad := ad) (L := L) (i := i + 1) (k := k) (v := v) (by simpa using h)
      have e : i + 1 + k = i + (k + 1) := by omega
      rw [e] at this
      exact this
  | some w :: L, i, k, v, h => by
    cases k with
    | zero =>
      have : w = v := by simpa using h
      subst this
      exact List.mem_cons_self
    | succ k =>
      have := mm_mem_as (ad := ad) (L := L) (i := i + 1) (k := k) (v := v) (by simpa using h)
      have e : i + 1 + k = i + (k + 1) := by omega
      rw [e] at this
      exact List.mem_cons_of_mem _ this
theorem mm_lv.has {ad : Nat → Nat} {ls : Array Slot} {nL : Nat} {L : mm_L} (h : mm_lv ad ls nL L) : lv_has ls nL (mm_as ad 0 L) := by
  refine ⟨h.1, h.2.1, fun q hq => ?_⟩
  obtain ⟨k, v, h1, h2, h3⟩ := mm_as_mem hq
  rw [h1, h3, Nat.zero_add]
  exact h.2.2 k v h2
def mm_nth {α : Type} : List α → Nat → Option α
  | [], _ => none
  | a :: _, 0 => some a
  | _ :: l, n + 1 => mm_nth l n
theorem mm_nth_eq {α : Type} : ∀ (l : List α) (n : Nat), mm_nth l n = l[n]?
  | [], n => by simp [mm_nth]
  | a :: l, 0 => by simp [mm_nth]
  | a :: l, n + 1 => by simp [mm_nth, mm_nth_eq l n]
def mm_put {α : Type} : List α → Nat → α → List α
  | [], _, _ => []
  | _ :: l, 0, x => x :: l
  | a :: l, n + 1, x => a :: mm_put l n x
theorem mm_put_eq {α : Type} : ∀ (l : List α) (n : Nat) (x : α), mm_put l n x = l.set n x
  | [], n, x => by simp [mm_put]
  | a :: l, 0, x => by simp [mm_put]
  | a :: l, n + 1, x => by simp [mm_put, mm_put_eq l n x]
/-- a value of one word comes into a place: a long that began one place ahead is gone -/
def mm_sto (L : mm_L) (i : Nat) (v : Value) : mm_L := match i with
  | 0 => mm_put L 0 (some v)
  | j + 1 => match mm_nth L j with
    | some (some (.long _)) => mm_put (mm_put L j none) (j + 1) (some v)
    | some (some (.double _)) => mm_put (mm_put L j none) (j + 1) (some v)
    | _ => mm_put L (j + 1) (some v)
def mm_stoL (L : mm_L) (i : Nat) (v : Value) : mm_L := mm_put (mm_sto L i v) (i + 1) none
theorem mm_sto_at {L : mm_L} {i j : Nat} {v w : Value} (h : (mm_sto L i v)[j]? = some (some w)) : (j = i ∧ w = v) ∨ (j ≠ i ∧ L[j]? = some (some w) ∧ ¬ (j + 1 = i ∧ w.category = 2)) := by
  have base : ∀ (X : mm_L) (i : Nat), (X.set i (some v))[j]? = some (some w) → (j = i ∧ w = v) ∨ (j ≠ i ∧ X[j]? = some (some w)) := by
    intro X i hX
    by_cases hj : i = j
    · subst hj
      by_cases hl : i < X.length
      · rw [List.getElem?_set_self hl] at hX
        cases hX
        exact Or.inl ⟨rfl, rfl⟩
      · rw [List.getElem?_eq_none (by rw [List.length_set]; omega)] at hX
        cases hX
    · rw [List.getElem?_set_ne hj] at hX
      exact Or.inr ⟨Ne.symm hj, hX⟩
  have kill : ∀ (i : Nat), (mm_put (mm_put L i none) (i + 1) (some v))[j]? = some (some w) → (j = i + 1 ∧ w = v) ∨ (j ≠ i + 1 ∧ L[j]? = some (some w) ∧ ¬ (j + 1 = i + 1 ∧ w.category = 2)) := by
    intro i hX
    rw [mm_put_eq, mm_put_eq] at hX
    rcases base _ _ hX with h1 | ⟨h1, h2⟩
    · exact Or.inl h1
    · by_cases hj : i = j
      · subst hj
        by_cases hl : i < L.length
        · rw [List.getElem?_set_self hl] at h2
          cases h2
        · rw [List.getElem?_eq_none (by rw [List.length_set]; omega)] at h2
          cases h2
      · rw [List.getElem?_set_ne hj] at h2
        exact Or.inr ⟨h1, h2, fun hh => hj (by omega)⟩
  unfold mm_sto at h
  split at h
  · rw [mm_put_eq] at h
    rcases base _ _ h with h1 | ⟨h1, h2⟩
    · exact Or.inl h1
    · exact Or.inr ⟨h1, h2, fun hh => by omega⟩
  · rename_i i' 
    split at h
    · exact kill _ h
    · exact kill _ h
    · rename_i hn1 hn2
      rw [mm_put_eq] at h
      rcases base _ _ h with h1 | ⟨h1, h2⟩
      · exact Or.inl h1
      · refine Or.inr ⟨h1, h2, fun hh => ?_⟩
        have hj : j = i' := by omega
        subst hj
        rw [mm_nth_eq] at hn1 hn2
        cases w with
        | long x => exact hn1 x h2
        | double x => exact hn2 x h2
        | _ => simp [Value.category] at hh
theorem mm_lv.sto {ad : Nat → Nat} {ls' : Array Slot} {nL i : Nat} {L : mm_L} {v : Value} (h : lv_has ls' nL ((i, mm_rv ad v) :: (mm_as ad 0 L).filter (fun q => !(q.1 == i) && !(q.1 + 1 == i && q.2.category == 2)))) : mm_lv ad ls' nL (mm_sto L i v) := by
  refine ⟨h.1, h.2.1, fun j w hj => ?_⟩
  rcases mm_sto_at hj with ⟨h1, h2⟩ | ⟨h1, h2, h3⟩
  · subst h1; subst h2
    exact h.2.2 (j, mm_rv ad w) List.mem_cons_self
  · refine h.2.2 (j, mm_rv ad w) (List.mem_cons_of_mem _ (List.mem_filter.mpr ⟨?_, ?_⟩))
    · have := mm_mem_as (ad := ad) (i := 0) h2
      rwa [Nat.zero_add] at this
    · simp only [Bool.and_eq_true, Bool.not_eq_true', beq_eq_false_iff_ne, ne_eq]
      refine ⟨h1, ?_⟩
      simp only [Bool.and_eq_false_iff, beq_eq_false_iff_ne, ne_eq]
      by_cases hh : j + 1 = i
      · exact Or.inr (fun hc => h3 ⟨hh, by rw [mm_rv_cat] at hc; exact hc⟩)
      · exact Or.inl hh
theorem mm_lv.stoL {ad : Nat → Nat} {ls' : Array Slot} {nL i : Nat} {L : mm_L} {v : Value} (h : lv_has ls' nL ((i, mm_rv ad v) :: (mm_as ad 0 L).filter (fun q => !(q.1 == i) && (!(q.1 == i + 1) && !(q.1 + 1 == i && q.2.category == 2))))) : mm_lv ad ls' nL (mm_stoL L i v) := by
  refine ⟨h.1, h.2.1, fun j w hj => ?_⟩
  unfold mm_stoL at hj
  rw [mm_put_eq] at hj
  by_cases hji : i + 1 = j
  · subst hji
    by_cases hl : i + 1 < (mm_sto L i v).length
    · rw [List.getElem?_set_self hl] at hj
      cases hj
    · rw [List.getElem?_eq_none (by rw [List.length_set]; omega)] at hj
      cases hj
  · rw [List.getElem?_set_ne hji] at hj
    rcases mm_sto_at hj with ⟨h1, h2⟩ | ⟨h1, h2, h3⟩
    · subst h1; subst h2
      exact h.2.2 (j, mm_rv ad w) List.mem_cons_self
    · refine h.2.2 (j, mm_rv ad w) (List.mem_cons_of_mem _ (List.mem_filter.mpr ⟨?_, ?_⟩))
      · have := mm_mem_as (ad := ad) (i := 0) h2
        rwa [Nat.zero_add] at this
      · simp only [Bool.and_eq_true, Bool.not_eq_true', beq_eq_false_iff_ne, ne_eq]
        refine ⟨h1, Ne.symm hji, ?_⟩
        simp only [Bool.and_eq_false_iff, beq_eq_false_iff_ne, ne_eq]
        by_cases hh : j + 1 = i
        · exact Or.inr (fun hc => h3 ⟨hh, by rw [mm_rv_cat] at hc; exact hc⟩)
        · exact Or.inl hh
theorem mm_lv.at {ad : Nat → Nat} {ls : Array Slot} {nL i : Nat} {L : mm_L} {v : Value} (h : mm_lv ad ls nL L) (hi : mm_nth L i = some (some v)) : ls[i]? = some (.val (mm_rv ad v)) := h.2.2 i v (by rw [← mm_nth_eq]; exact hi)
/-! ===== the judgement ===== -/
def mm_St (ad : Nat → Nat) (A : Nat → Prop) (U : State) : Prop := va_Z RX1 "PLACES" "[I" (.ref (ad 25)) A U U.heap ∧ va_T .int (ad 25) 5 (fun j => .int (mm_plc j)) A U U.heap
def mm_Wd (D : va_G) (ad : Nat → Nat) (cA : ClassId) (A : Nat → Prop) (H0 : Heap) (h : mm_H) (H : Heap) (locs : List Loc) : Prop := va_P D vwCl (mm_wld ad cA h) H ∧ va_D A (mm_wld ad cA h) ∧ va_S A H0 H locs ∧ h 25 = mm_plc
def mm_Cx (d : Nat) (M : mm_M) (E : mm_X) (p : Program) (R : Room) (s : State) (m : MethodId) (args : Array Value) (c : Code) (cells slots : Nat) (D : va_G) (ad : Nat → Nat) (cA : ClassId) (A : Nat → Prop) : Prop :=
  p.tables.exec = Jvm.exec ∧ c.code = M.2.1 ∧ c.maxLocals = M.2.2.1 ∧ s.vm.findClass M.1.cls = some m.cls ∧ (∀ w ∈ mm_tb, w.before args s = true) ∧ va_K D vwCl [(cA, .int)] s ∧ (∀ q, s.heap.size ≤ q → A q) ∧ mm_St ad A s ∧ d ≤ R.frames ∧ 40 * d ≤ R.locals ∧ cells ≤ R.cells ∧ slots ≤ R.slots ∧ E s ad A
def mm_rt (ret : Option FieldType) (r : Option Value) (i : Instr) : Prop := (ret = some .int ∧ i = .ireturn ∧ ∃ v : Int32, r = some (.int v)) ∨ (ret = some .boolean ∧ i = .ireturn ∧ ∃ v : Int32, r = some (.int v) ∧ (v = 0 ∨ v = 1)) ∨ (ret = some .long ∧ i = .lreturn ∧ ∃ v : Int64, r = some (.long v)) ∨ (ret = none ∧ i = .return_ ∧ r = none)
def mm_Rt (M : mm_M) (post : mm_Po) (p : Program) (l : Launch) (e : Env) (R : Room) (s : State) (m : MethodId) (args : Array Value) (below : List Frame) (meth : Method) (c : Code) (cells slots : Nat) (Q : State → Prop) (D : va_G) (ad : Nat → Nat) (cA : ClassId) (A : Nat → Prop) : Prop :=
  ∀ (pc : Nat) (ls : Array Slot) (h : mm_H) (H : Heap) (locs : List Loc) (r : Option Value) (i : Instr), mm_Wd D ad cA A s.heap h H locs → post r h → mm_rt M.2.2.2 r i → decode M.2.1 pc = .ok (i, 1) → W p l e R s m args below meth c H locs cells slots Q (F0 m pc ls r.toList)
def mm_At (l : Launch) (d : Nat) (M : mm_M) (E : mm_X) (post : mm_Po) (pc : Nat) (L : mm_L) (st : List Value) (h : mm_H) : Prop :=
  ∀ (p : Program) (e : Env) (R : Room) (s : State) (m : MethodId) (args : Array Value) (below : List Frame) (meth : Method) (c : Code) (cells slots : Nat) (Q : State → Prop) (D : va_G) (ad : Nat → Nat) (cA : ClassId) (A : Nat → Prop) (H : Heap) (locs : List Loc) (ls : Array Slot),
    mm_Cx d M E p R s m args c cells slots D ad cA A → mm_Rt M post p l e R s m args below meth c cells slots Q D ad cA A → mm_Wd D ad cA A s.heap h H locs → mm_lv ad ls M.2.2.1 L → W p l e R s m args below meth c H locs cells slots Q (F0 m pc ls (st.map (mm_rv ad)))
def mm_Sn (l : Launch) (d : Nat) (M : mm_M) (E : mm_X) (post : mm_Po) (q : Nat × mm_S) : Prop := ∀ k : mm_K, (∀ pc L st h, k pc L st h → mm_At l d M E post pc L st h) → ∀ L st h, q.2 k L st h → mm_At l d M E post q.1 L st h
def mm_in (l : List Nat) (a : Nat) : Bool := match l with
  | [] => false
  | b :: l => match Nat.beq a b with
    | true => true
    | false => mm_in l a
/-- from a place on, forward through the rows; what is jumped to behind, or is a cut, is the judgement itself -/
def mm_go (k : mm_K) (cuts : List Nat) : List (Nat × mm_S) → mm_K
  | [], pc, L, st, h => k pc L st h
  | (q, f) :: r, pc, L, st, h => match Nat.beq pc q with
    | true => f (fun pc' L' st' h' => match mm_in cuts pc' with
      | true => k pc' L' st' h'
      | false => mm_go k cuts r pc' L' st' h') L st h
    | false => mm_go k cuts r pc L st h
theorem mm_go_ok {l : Launch} {d : Nat} {M : mm_M} {E : mm_X} {post : mm_Po} (cuts : List Nat) : ∀ (rows : List (Nat × mm_S)), (∀ q ∈ rows, mm_Sn l d M E post q) → ∀ pc L st h, mm_go (mm_At l d M E post) cuts rows pc L st h → mm_At l d M E post pc L st h
  | [], _, pc, L, st, h, hg => hg
  | (q, f) :: r, hs, pc, L, st, h, hg => by
    have ih := mm_go_ok cuts r (fun q hq => hs q (List.mem_cons_of_mem _ hq))
    unfold mm_go at hg
    split at hg
    · rename_i hb
      have hpc : pc = q := Nat.eq_of_beq_eq_true hb
      subst hpc
      refine hs (pc, f) List.mem_cons_self _ (fun pc' L' st' h' hk => ?_) L st h hg
      split at hk
      · exact hk
      · exact ih _ _ _ _ hk
    · exact ih _ _ _ _ hg
