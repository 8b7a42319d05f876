/-! ===== the constructors; printed by a program (gen/ctor.py) ===== -/
theorem nw_arr {p : Program} {l : Launch} {e : Env} {R : Room} {s : State} {m : MethodId} {args : Array Value} {below : List Frame} {meth : Method} {c : Code} {H H0 : Heap} {locs : List Loc} {cells slots : Nat} {Q : State → Prop} {cc : ByteArray} {pc : Nat} {ls : Array Slot} {rest : List Value} {D : va_G} {cl : List vw_C} {ws : va_W} {A : Nat → Prop} {cA : ClassId} (hexec : p.tables.exec = Jvm.exec) (hb : c.code = cc) (harr : (Cond.arrayClass .int).before args s = true) (hK : va_K D cl [(cA, .int)] s) (hP : va_P D cl ws H) (hD : va_D A ws) (hS : va_S A H0 H locs) (hA : ∀ q, H0.size ≤ q → A q) {n : Int32} (N : Nat) (hn : ¬ n < 0) (hN : n.toNatClampNeg = N) (hbytes : N * componentBytes .int ≤ 536870912) (hcells : cells + 1 ≤ R.cells) (hslots : slots + N ≤ R.slots) (hdg : decode cc pc = .ok (.newarray .int, 2))
    (kk : ∀ (q : Nat) (H1 : Heap), va_P D cl (ws ++ [(q, .inl (cA, N, .inl (fun _ => 0)))]) H1 → va_D A (ws ++ [(q, .inl (cA, N, .inl (fun _ => 0)))]) → va_S A H0 H1 locs → W p l e R s m args below meth c H1 locs (cells + 1) (slots + N) Q (F0 m (pc + 2) ls (.ref q :: rest))) : W p l e R s m args below meth c H locs cells slots Q (F0 m pc ls (.int n :: rest)) := by
  refine va_newa (atype := .int) (ty := .int) (a0 := (N, .inl (fun _ => 0))) hexec hb harr rfl hK hP hD hS hA (fun _ => rfl) hn hN hbytes hcells hslots hdg (fun q cA2 H1 hK2 hP hD hS => ?_)
  have e1 := (hK2.2 0 (cA, .int) rfl).2
  have e2 := (hK2.2 1 (cA2, .int) rfl).2
  have e : cA2 = cA := Option.some.inj (e2.symm.trans e1)
  subst e
  exact kk q H1 hP hD hS
theorem nw_arrw : Cond.arrayClass .int ∈ mm_tb := by decide +kernel

def I1 : mm_M := (yX1_init, cX1_init, 2, none)
theorem iw_1 : Cond.code I1.1 I1.2.1 I1.2.2.1 I1.2.2.2 ∈ mm_tb := by decide +kernel
theorem g_ci_1 : GoodIn mm_tb (mm_ws I1) := mm_ws_in iw_1
theorem nw_d1 : ∀ j, j < 6 → defaultValue (tyX1 j) = vp_V [.null, .null, .null, .null, .null, .null] j := by decide +kernel
def I2 : mm_M := (yX2_init, cX2_init, 1, none)
theorem iw_2 : Cond.code I2.1 I2.2.1 I2.2.2.1 I2.2.2.2 ∈ mm_tb := by decide +kernel
theorem g_ci_2 : GoodIn mm_tb (mm_ws I2) := mm_ws_in iw_2
theorem nw_d2 : ∀ j, j < 4 → defaultValue (tyX2 j) = vp_V [.null, .null, .null, .int 0] j := by decide +kernel
def I3 : mm_M := (yX3_init, cX3_init, 3, none)
theorem iw_3 : Cond.code I3.1 I3.2.1 I3.2.2.1 I3.2.2.2 ∈ mm_tb := by decide +kernel
theorem g_ci_3 : GoodIn mm_tb (mm_ws I3) := mm_ws_in iw_3
theorem nw_d3 : ∀ j, j < 3 → defaultValue (tyX3 j) = vp_V [.null, .null, .null] j := by decide +kernel
def I4 : mm_M := (yX4_init, cX4_init, 2, none)
theorem iw_4 : Cond.code I4.1 I4.2.1 I4.2.2.1 I4.2.2.2 ∈ mm_tb := by decide +kernel
theorem g_ci_4 : GoodIn mm_tb (mm_ws I4) := mm_ws_in iw_4
theorem nw_d4 : ∀ j, j < 7 → defaultValue (tyX4 j) = vp_V [.null, .int 0, .int 0, .null, .int 0, .int 0, .int 0] j := by decide +kernel
def I5 : mm_M := (yX5_init, cX5_init, 1, none)
theorem iw_5 : Cond.code I5.1 I5.2.1 I5.2.2.1 I5.2.2.2 ∈ mm_tb := by decide +kernel
theorem g_ci_5 : GoodIn mm_tb (mm_ws I5) := mm_ws_in iw_5
theorem nw_d5 : ∀ j, j < 8 → defaultValue (tyX5 j) = vp_V [.null, .null, .null, .null, .null, .int 0, .int 0, .int 0] j := by decide +kernel
def I6 : mm_M := (yX6_init, cX6_init, 1, none)
theorem iw_6 : Cond.code I6.1 I6.2.1 I6.2.2.1 I6.2.2.2 ∈ mm_tb := by decide +kernel
theorem g_ci_6 : GoodIn mm_tb (mm_ws I6) := mm_ws_in iw_6
theorem nw_d6 : ∀ j, j < 12 → defaultValue (tyX6 j) = vp_V [.int 0, .null, .null, .null, .null, .int 0, .null, .null, .int 0, .null, .null, .int 0] j := by decide +kernel
def wi_2 (cA : ClassId) (o : Nat) (u : Nat → Nat) : va_W := [(o, .inr (1, [.ref (u 0), .ref (u 1), .ref (u 2), .int 1])), ((u 0), .inl (cA, 8, .inl (fun _ => 0))), ((u 1), .inl (cA, 8, .inl (fun _ => 0))), ((u 2), .inl (cA, 8, .inl (fun _ => 0)))]
set_option maxHeartbeats 4000000 in
set_option maxRecDepth 100000 in
theorem ci_2 (l : Launch) (D : va_G) (cA : ClassId) (o sz : Nat) : Met l yX2_init (mm_ws I2) ({ frames := 1, cells := 3, slots := 24, locals := 12 }) (va_Pc [.ref o] (fun U => U.heap.size = sz ∧ va_P D vwCl [(o, .inr (1, [.null, .null, .null, .int 0]))] U.heap ∧ va_K D vwCl [(cA, .int)] U ∧ va_D (fun _ => True) [(o, .inr (1, [.null, .null, .null, .int 0]))])) (va_Qv (fun _ : Nat → Nat => True) (fun u t => va_P D vwCl (wi_2 cA o u) t.heap ∧ va_D (va_A [(o, .inr (1, [.null, .null, .null, .int 0]))] sz) (wi_2 cA o u)) (va_A [(o, .inr (1, [.null, .null, .null, .int 0]))] sz)) 3 24 (va_A [(o, .inr (1, [.null, .null, .null, .int 0]))] sz) := by
  refine Met.ofW (cc := cX2_init) (maxL := 1) (ret := none) (by decide +kernel) rfl ?_
  intro p e s m args below meth c s₁ B hml hv
  obtain ⟨rfl, hsz, hP, hK, hD0⟩ := hv
  have hx := B.exec
  have hb := B.bytes
  have hr := B.returns
  have ht0 := atoms_spec (ws := mm_ws I2) B.pre
  have ht : ∀ w ∈ mm_tb, w.before _ s = true := fun w hw => ht0 w (List.mem_cons_of_mem _ hw)
  have hown : s.vm.findClass RX2 = some m.cls := findClass_of_methodNamed B.named
  have hin : meth.name = "<init>" := (name_of_methodNamed B.named B.method).1
  subst hsz
  have hD := hD0.self (sz := s.heap.size)
  generalize hAe : va_A [(o, .inr (1, [.null, .null, .null, .int 0]))] s.heap.size = A at hD ⊢
  have hA : ∀ q : Nat, s.heap.size ≤ q → A q := fun q h => by rw [← hAe]; exact Or.inr h
  have hS : va_S A s.heap s.heap [] := va_S.rf
  have harr : (Cond.arrayClass .int).before _ s = true := ht _ nw_arrw
  have hl := lv_entry ([.ref o]) (n := 1) (Nat.le_of_ble_eq_true rfl)
  rw [lg_entry_eq]
  generalize (lg_sl ([.ref o]) ++ List.replicate (1 - (lg_sl ([.ref o])).length) Slot.unset).toArray = ls at hl ⊢
  have hl : lv_has ls 1 [(0, .ref o)] := hl
  refine lv_aload_n hx hb dX2_init_0 rfl (lv_at hl 0 rfl) ?_
  refine W.objInit hx hb hown (ht (.methodLink RX2 3 objectInit) (by decide +kernel)) (ht (.instanceMethod objectInit) (by decide +kernel)) (ht (.code objectInit ⟨#[0xb1]⟩ 1 none) (by decide +kernel)) rfl (by rw [hml]; exact hl.1) rfl dX2_init_1 (Nat.le_of_ble_eq_true rfl) (Nat.le_of_ble_eq_true rfl) ?_
  refine W.eq (g2 := F0 m 4 ls []) rfl ?_
  refine lv_aload_n hx hb dX2_init_4 rfl (lv_at hl 0 rfl) ?_
  refine lv_bipush (v := 8) hx hb dX2_init_5 (by decide) ?_
  refine nw_arr hx hb harr hK hP hD hS hA 8 (by decide) (by decide) (by decide) (Nat.le_of_ble_eq_true rfl) (Nat.le_of_ble_eq_true rfl) dX2_init_7 (fun q1 H hP hD hS => ?_)
  have hP : va_P D vwCl [(o, .inr (1, [.null, .null, .null, .int 0])), (q1, .inl (cA, 8, .inl (fun _ => 0)))] H := hP
  have hD : va_D A [(o, .inr (1, [.null, .null, .null, .int 0])), (q1, .inl (cA, 8, .inl (fun _ => 0)))] := hD
  refine va_putF (D := D) (ci := 1) (v := .ref q1) (ty := .array .int) (C := RX2) (T := TX2) (N := 4) hx hb ht mm_inTX2 tyX2 tyX2_ok nmX2 hown hK hP hD hS 0 rfl rfl 0 (by decide) (ht (.fieldLink RX2 9 "PostProofs$Net" "near" "[I") (by decide +kernel)) (fun _ h9 => h9) rfl hin rfl (by decide +kernel) rfl rfl (Nat.le_of_ble_eq_true rfl) dX2_init_9 (fun H locs hP hD hS => ?_)
  have hP : va_P D vwCl [(o, .inr (1, [.ref q1, .null, .null, .int 0])), (q1, .inl (cA, 8, .inl (fun _ => 0)))] H := hP
  have hD : va_D A [(o, .inr (1, [.ref q1, .null, .null, .int 0])), (q1, .inl (cA, 8, .inl (fun _ => 0)))] := hD
  refine lv_aload_n hx hb dX2_init_12 rfl (lv_at hl 0 rfl) ?_
  refine lv_bipush (v := 8) hx hb dX2_init_13 (by decide) ?_
  refine nw_arr hx hb harr hK hP hD hS hA 8 (by decide) (by decide) (by decide) (Nat.le_of_ble_eq_true rfl) (Nat.le_of_ble_eq_true rfl) dX2_init_15 (fun q2 H hP hD hS => ?_)
  have hP : va_P D vwCl [(o, .inr (1, [.ref q1, .null, .null, .int 0])), (q1, .inl (cA, 8, .inl (fun _ => 0))), (q2, .inl (cA, 8, .inl (fun _ => 0)))] H := hP
  have hD : va_D A [(o, .inr (1, [.ref q1, .null, .null, .int 0])), (q1, .inl (cA, 8, .inl (fun _ => 0))), (q2, .inl (cA, 8, .inl (fun _ => 0)))] := hD
  refine va_putF (D := D) (ci := 1) (v := .ref q2) (ty := .array .int) (C := RX2) (T := TX2) (N := 4) hx hb ht mm_inTX2 tyX2 tyX2_ok nmX2 hown hK hP hD hS 0 rfl rfl 1 (by decide) (ht (.fieldLink RX2 15 "PostProofs$Net" "marks" "[I") (by decide +kernel)) (fun _ h9 => h9) rfl hin rfl (by decide +kernel) rfl rfl (Nat.le_of_ble_eq_true rfl) dX2_init_17 (fun H locs hP hD hS => ?_)
  have hP : va_P D vwCl [(o, .inr (1, [.ref q1, .ref q2, .null, .int 0])), (q1, .inl (cA, 8, .inl (fun _ => 0))), (q2, .inl (cA, 8, .inl (fun _ => 0)))] H := hP
  have hD : va_D A [(o, .inr (1, [.ref q1, .ref q2, .null, .int 0])), (q1, .inl (cA, 8, .inl (fun _ => 0))), (q2, .inl (cA, 8, .inl (fun _ => 0)))] := hD
  refine lv_aload_n hx hb dX2_init_20 rfl (lv_at hl 0 rfl) ?_
  refine lv_bipush (v := 8) hx hb dX2_init_21 (by decide) ?_
  refine nw_arr hx hb harr hK hP hD hS hA 8 (by decide) (by decide) (by decide) (Nat.le_of_ble_eq_true rfl) (Nat.le_of_ble_eq_true rfl) dX2_init_23 (fun q3 H hP hD hS => ?_)
  have hP : va_P D vwCl [(o, .inr (1, [.ref q1, .ref q2, .null, .int 0])), (q1, .inl (cA, 8, .inl (fun _ => 0))), (q2, .inl (cA, 8, .inl (fun _ => 0))), (q3, .inl (cA, 8, .inl (fun _ => 0)))] H := hP
  have hD : va_D A [(o, .inr (1, [.ref q1, .ref q2, .null, .int 0])), (q1, .inl (cA, 8, .inl (fun _ => 0))), (q2, .inl (cA, 8, .inl (fun _ => 0))), (q3, .inl (cA, 8, .inl (fun _ => 0)))] := hD
  refine va_putF (D := D) (ci := 1) (v := .ref q3) (ty := .array .int) (C := RX2) (T := TX2) (N := 4) hx hb ht mm_inTX2 tyX2 tyX2_ok nmX2 hown hK hP hD hS 0 rfl rfl 2 (by decide) (ht (.fieldLink RX2 18 "PostProofs$Net" "away" "[I") (by decide +kernel)) (fun _ h9 => h9) rfl hin rfl (by decide +kernel) rfl rfl (Nat.le_of_ble_eq_true rfl) dX2_init_25 (fun H locs hP hD hS => ?_)
  have hP : va_P D vwCl [(o, .inr (1, [.ref q1, .ref q2, .ref q3, .int 0])), (q1, .inl (cA, 8, .inl (fun _ => 0))), (q2, .inl (cA, 8, .inl (fun _ => 0))), (q3, .inl (cA, 8, .inl (fun _ => 0)))] H := hP
  have hD : va_D A [(o, .inr (1, [.ref q1, .ref q2, .ref q3, .int 0])), (q1, .inl (cA, 8, .inl (fun _ => 0))), (q2, .inl (cA, 8, .inl (fun _ => 0))), (q3, .inl (cA, 8, .inl (fun _ => 0)))] := hD
  refine lv_aload_n hx hb dX2_init_28 rfl (lv_at hl 0 rfl) ?_
  refine lv_iconst (v := 1) hx hb dX2_init_29 (by decide) ?_
  refine va_put (D := D) (ci := 1) (v := .int 1) (ty := .int) (C := RX2) (T := TX2) (N := 4) hx hb ht mm_inTX2 tyX2 tyX2_ok nmX2 hown hK hP hD hS 0 rfl rfl 3 (by decide) (ht (.fieldLink RX2 21 "PostProofs$Net" "size" "I") (by decide +kernel)) (fun _ h9 => h9) rfl (by decide +kernel) rfl rfl (Nat.le_of_ble_eq_true rfl) dX2_init_30 (fun H locs hP hD hS => ?_)
  have hP : va_P D vwCl [(o, .inr (1, [.ref q1, .ref q2, .ref q3, .int 1])), (q1, .inl (cA, 8, .inl (fun _ => 0))), (q2, .inl (cA, 8, .inl (fun _ => 0))), (q3, .inl (cA, 8, .inl (fun _ => 0)))] H := hP
  have hD : va_D A [(o, .inr (1, [.ref q1, .ref q2, .ref q3, .int 1])), (q1, .inl (cA, 8, .inl (fun _ => 0))), (q2, .inl (cA, 8, .inl (fun _ => 0))), (q3, .inl (cA, 8, .inl (fun _ => 0)))] := hD
  refine W.widen (k := 3) (n := 24) (by decide) (by decide) ?_
  exact W.vret hx hb hr (fun t ht1 hW => ⟨⟨fun i => match i with | 0 => q1 | 1 => q2 | _ => q3, rfl, trivial, by rw [ht1]; exact hP, hD⟩, hS.F ht1⟩) hS.2.2 dX2_init_33
def wi_4 (cA : ClassId) (o a1 : Nat) (u : Nat → Nat) : va_W := [(o, .inr (3, [.ref (u 0), .int 0, .int 0, .ref a1, .int 0, .int 0, .int 0])), ((u 0), .inl (cA, 8, .inl (fun _ => 0)))]
set_option maxHeartbeats 4000000 in
set_option maxRecDepth 100000 in
theorem ci_4 (l : Launch) (D : va_G) (cA : ClassId) (o sz a1 : Nat) : Met l yX4_init (mm_ws I4) ({ frames := 1, cells := 1, slots := 8, locals := 12 }) (va_Pc [.ref o, .ref a1] (fun U => U.heap.size = sz ∧ va_P D vwCl [(o, .inr (3, [.null, .int 0, .int 0, .null, .int 0, .int 0, .int 0]))] U.heap ∧ va_K D vwCl [(cA, .int)] U ∧ va_D (fun _ => True) [(o, .inr (3, [.null, .int 0, .int 0, .null, .int 0, .int 0, .int 0]))])) (va_Qv (fun _ : Nat → Nat => True) (fun u t => va_P D vwCl (wi_4 cA o a1 u) t.heap ∧ va_D (va_A [(o, .inr (3, [.null, .int 0, .int 0, .null, .int 0, .int 0, .int 0]))] sz) (wi_4 cA o a1 u)) (va_A [(o, .inr (3, [.null, .int 0, .int 0, .null, .int 0, .int 0, .int 0]))] sz)) 1 8 (va_A [(o, .inr (3, [.null, .int 0, .int 0, .null, .int 0, .int 0, .int 0]))] sz) := by
  refine Met.ofW (cc := cX4_init) (maxL := 2) (ret := none) (by decide +kernel) rfl ?_
  intro p e s m args below meth c s₁ B hml hv
  obtain ⟨rfl, hsz, hP, hK, hD0⟩ := hv
  have hx := B.exec
  have hb := B.bytes
  have hr := B.returns
  have ht0 := atoms_spec (ws := mm_ws I4) B.pre
  have ht : ∀ w ∈ mm_tb, w.before _ s = true := fun w hw => ht0 w (List.mem_cons_of_mem _ hw)
  have hown : s.vm.findClass RX4 = some m.cls := findClass_of_methodNamed B.named
  have hin : meth.name = "<init>" := (name_of_methodNamed B.named B.method).1
  subst hsz
  have hD := hD0.self (sz := s.heap.size)
  generalize hAe : va_A [(o, .inr (3, [.null, .int 0, .int 0, .null, .int 0, .int 0, .int 0]))] s.heap.size = A at hD ⊢
  have hA : ∀ q : Nat, s.heap.size ≤ q → A q := fun q h => by rw [← hAe]; exact Or.inr h
  have hS : va_S A s.heap s.heap [] := va_S.rf
  have harr : (Cond.arrayClass .int).before _ s = true := ht _ nw_arrw
  have hl := lv_entry ([.ref o, .ref a1]) (n := 2) (Nat.le_of_ble_eq_true rfl)
  rw [lg_entry_eq]
  generalize (lg_sl ([.ref o, .ref a1]) ++ List.replicate (2 - (lg_sl ([.ref o, .ref a1])).length) Slot.unset).toArray = ls at hl ⊢
  have hl : lv_has ls 2 [(0, .ref o), (1, .ref a1)] := hl
  refine lv_aload_n hx hb dX4_init_0 rfl (lv_at hl 0 rfl) ?_
  refine W.objInit hx hb hown (ht (.methodLink RX4 3 objectInit) (by decide +kernel)) (ht (.instanceMethod objectInit) (by decide +kernel)) (ht (.code objectInit ⟨#[0xb1]⟩ 1 none) (by decide +kernel)) rfl (by rw [hml]; exact hl.1) rfl dX4_init_1 (Nat.le_of_ble_eq_true rfl) (Nat.le_of_ble_eq_true rfl) ?_
  refine W.eq (g2 := F0 m 4 ls []) rfl ?_
  refine lv_aload_n hx hb dX4_init_4 rfl (lv_at hl 0 rfl) ?_
  refine lv_bipush (v := 8) hx hb dX4_init_5 (by decide) ?_
  refine nw_arr hx hb harr hK hP hD hS hA 8 (by decide) (by decide) (by decide) (Nat.le_of_ble_eq_true rfl) (Nat.le_of_ble_eq_true rfl) dX4_init_7 (fun q1 H hP hD hS => ?_)
  have hP : va_P D vwCl [(o, .inr (3, [.null, .int 0, .int 0, .null, .int 0, .int 0, .int 0])), (q1, .inl (cA, 8, .inl (fun _ => 0)))] H := hP
  have hD : va_D A [(o, .inr (3, [.null, .int 0, .int 0, .null, .int 0, .int 0, .int 0])), (q1, .inl (cA, 8, .inl (fun _ => 0)))] := hD
  refine va_putF (D := D) (ci := 3) (v := .ref q1) (ty := .array .int) (C := RX4) (T := TX4) (N := 7) hx hb ht mm_inTX4 tyX4 tyX4_ok nmX4 hown hK hP hD hS 0 rfl rfl 0 (by decide) (ht (.fieldLink RX4 9 "PostProofs$Trial" "numbers" "[I") (by decide +kernel)) (fun _ h9 => h9) rfl hin rfl (by decide +kernel) rfl rfl (Nat.le_of_ble_eq_true rfl) dX4_init_9 (fun H locs hP hD hS => ?_)
  have hP : va_P D vwCl [(o, .inr (3, [.ref q1, .int 0, .int 0, .null, .int 0, .int 0, .int 0])), (q1, .inl (cA, 8, .inl (fun _ => 0)))] H := hP
  have hD : va_D A [(o, .inr (3, [.ref q1, .int 0, .int 0, .null, .int 0, .int 0, .int 0])), (q1, .inl (cA, 8, .inl (fun _ => 0)))] := hD
  refine lv_aload_n hx hb dX4_init_12 rfl (lv_at hl 0 rfl) ?_
  refine lv_aload_n hx hb dX4_init_13 rfl (lv_at hl 1 rfl) ?_
  refine va_putF (D := D) (ci := 3) (v := .ref a1) (ty := .object "PostProofs$Net") (C := RX4) (T := TX4) (N := 7) hx hb ht mm_inTX4 tyX4 tyX4_ok nmX4 hown hK hP hD hS 0 rfl rfl 3 (by decide) (ht (.fieldLink RX4 15 "PostProofs$Trial" "net" "LPostProofs$Net;") (by decide +kernel)) (fun _ h9 => h9) rfl hin rfl (by decide +kernel) rfl rfl (Nat.le_of_ble_eq_true rfl) dX4_init_14 (fun H locs hP hD hS => ?_)
  have hP : va_P D vwCl [(o, .inr (3, [.ref q1, .int 0, .int 0, .ref a1, .int 0, .int 0, .int 0])), (q1, .inl (cA, 8, .inl (fun _ => 0)))] H := hP
  have hD : va_D A [(o, .inr (3, [.ref q1, .int 0, .int 0, .ref a1, .int 0, .int 0, .int 0])), (q1, .inl (cA, 8, .inl (fun _ => 0)))] := hD
  refine W.widen (k := 1) (n := 8) (by decide) (by decide) ?_
  exact W.vret hx hb hr (fun t ht1 hW => ⟨⟨fun i => match i with  | _ => q1, rfl, trivial, by rw [ht1]; exact hP, hD⟩, hS.F ht1⟩) hS.2.2 dX4_init_17
def wi_3 (cA : ClassId) (o a1 a2 : Nat) (u : Nat → Nat) : va_W := [(o, .inr (2, [.ref (u 0), .ref a1, .ref a2])), ((u 0), .inl (cA, 8, .inl (fun _ => 0)))]
set_option maxHeartbeats 4000000 in
set_option maxRecDepth 100000 in
theorem ci_3 (l : Launch) (D : va_G) (cA : ClassId) (o sz a1 a2 : Nat) : Met l yX3_init (mm_ws I3) ({ frames := 1, cells := 1, slots := 8, locals := 12 }) (va_Pc [.ref o, .ref a1, .ref a2] (fun U => U.heap.size = sz ∧ va_P D vwCl [(o, .inr (2, [.null, .null, .null]))] U.heap ∧ va_K D vwCl [(cA, .int)] U ∧ va_D (fun _ => True) [(o, .inr (2, [.null, .null, .null]))])) (va_Qv (fun _ : Nat → Nat => True) (fun u t => va_P D vwCl (wi_3 cA o a1 a2 u) t.heap ∧ va_D (va_A [(o, .inr (2, [.null, .null, .null]))] sz) (wi_3 cA o a1 a2 u)) (va_A [(o, .inr (2, [.null, .null, .null]))] sz)) 1 8 (va_A [(o, .inr (2, [.null, .null, .null]))] sz) := by
  refine Met.ofW (cc := cX3_init) (maxL := 3) (ret := none) (by decide +kernel) rfl ?_
  intro p e s m args below meth c s₁ B hml hv
  obtain ⟨rfl, hsz, hP, hK, hD0⟩ := hv
  have hx := B.exec
  have hb := B.bytes
  have hr := B.returns
  have ht0 := atoms_spec (ws := mm_ws I3) B.pre
  have ht : ∀ w ∈ mm_tb, w.before _ s = true := fun w hw => ht0 w (List.mem_cons_of_mem _ hw)
  have hown : s.vm.findClass RX3 = some m.cls := findClass_of_methodNamed B.named
  have hin : meth.name = "<init>" := (name_of_methodNamed B.named B.method).1
  subst hsz
  have hD := hD0.self (sz := s.heap.size)
  generalize hAe : va_A [(o, .inr (2, [.null, .null, .null]))] s.heap.size = A at hD ⊢
  have hA : ∀ q : Nat, s.heap.size ≤ q → A q := fun q h => by rw [← hAe]; exact Or.inr h
  have hS : va_S A s.heap s.heap [] := va_S.rf
  have harr : (Cond.arrayClass .int).before _ s = true := ht _ nw_arrw
  have hl := lv_entry ([.ref o, .ref a1, .ref a2]) (n := 3) (Nat.le_of_ble_eq_true rfl)
  rw [lg_entry_eq]
  generalize (lg_sl ([.ref o, .ref a1, .ref a2]) ++ List.replicate (3 - (lg_sl ([.ref o, .ref a1, .ref a2])).length) Slot.unset).toArray = ls at hl ⊢
  have hl : lv_has ls 3 [(0, .ref o), (1, .ref a1), (2, .ref a2)] := hl
  refine lv_aload_n hx hb dX3_init_0 rfl (lv_at hl 0 rfl) ?_
  refine W.objInit hx hb hown (ht (.methodLink RX3 3 objectInit) (by decide +kernel)) (ht (.instanceMethod objectInit) (by decide +kernel)) (ht (.code objectInit ⟨#[0xb1]⟩ 1 none) (by decide +kernel)) rfl (by rw [hml]; exact hl.1) rfl dX3_init_1 (Nat.le_of_ble_eq_true rfl) (Nat.le_of_ble_eq_true rfl) ?_
  refine W.eq (g2 := F0 m 4 ls []) rfl ?_
  refine lv_aload_n hx hb dX3_init_4 rfl (lv_at hl 0 rfl) ?_
  refine lv_bipush (v := 8) hx hb dX3_init_5 (by decide) ?_
  refine nw_arr hx hb harr hK hP hD hS hA 8 (by decide) (by decide) (by decide) (Nat.le_of_ble_eq_true rfl) (Nat.le_of_ble_eq_true rfl) dX3_init_7 (fun q1 H hP hD hS => ?_)
  have hP : va_P D vwCl [(o, .inr (2, [.null, .null, .null])), (q1, .inl (cA, 8, .inl (fun _ => 0)))] H := hP
  have hD : va_D A [(o, .inr (2, [.null, .null, .null])), (q1, .inl (cA, 8, .inl (fun _ => 0)))] := hD
  refine va_putF (D := D) (ci := 2) (v := .ref q1) (ty := .array .int) (C := RX3) (T := TX3) (N := 3) hx hb ht mm_inTX3 tyX3 tyX3_ok nmX3 hown hK hP hD hS 0 rfl rfl 0 (by decide) (ht (.fieldLink RX3 9 "PostProofs$Prover" "numbers" "[I") (by decide +kernel)) (fun _ h9 => h9) rfl hin rfl (by decide +kernel) rfl rfl (Nat.le_of_ble_eq_true rfl) dX3_init_9 (fun H locs hP hD hS => ?_)
  have hP : va_P D vwCl [(o, .inr (2, [.ref q1, .null, .null])), (q1, .inl (cA, 8, .inl (fun _ => 0)))] H := hP
  have hD : va_D A [(o, .inr (2, [.ref q1, .null, .null])), (q1, .inl (cA, 8, .inl (fun _ => 0)))] := hD
  refine lv_aload_n hx hb dX3_init_12 rfl (lv_at hl 0 rfl) ?_
  refine lv_aload_n hx hb dX3_init_13 rfl (lv_at hl 1 rfl) ?_
  refine va_putF (D := D) (ci := 2) (v := .ref a1) (ty := .object "PostProofs$Net") (C := RX3) (T := TX3) (N := 3) hx hb ht mm_inTX3 tyX3 tyX3_ok nmX3 hown hK hP hD hS 0 rfl rfl 1 (by decide) (ht (.fieldLink RX3 15 "PostProofs$Prover" "net" "LPostProofs$Net;") (by decide +kernel)) (fun _ h9 => h9) rfl hin rfl (by decide +kernel) rfl rfl (Nat.le_of_ble_eq_true rfl) dX3_init_14 (fun H locs hP hD hS => ?_)
  have hP : va_P D vwCl [(o, .inr (2, [.ref q1, .ref a1, .null])), (q1, .inl (cA, 8, .inl (fun _ => 0)))] H := hP
  have hD : va_D A [(o, .inr (2, [.ref q1, .ref a1, .null])), (q1, .inl (cA, 8, .inl (fun _ => 0)))] := hD
  refine lv_aload_n hx hb dX3_init_17 rfl (lv_at hl 0 rfl) ?_
  refine lv_aload_n hx hb dX3_init_18 rfl (lv_at hl 2 rfl) ?_
  refine va_putF (D := D) (ci := 2) (v := .ref a2) (ty := .object "PostProofs$Trial") (C := RX3) (T := TX3) (N := 3) hx hb ht mm_inTX3 tyX3 tyX3_ok nmX3 hown hK hP hD hS 0 rfl rfl 2 (by decide) (ht (.fieldLink RX3 19 "PostProofs$Prover" "trial" "LPostProofs$Trial;") (by decide +kernel)) (fun _ h9 => h9) rfl hin rfl (by decide +kernel) rfl rfl (Nat.le_of_ble_eq_true rfl) dX3_init_19 (fun H locs hP hD hS => ?_)
  have hP : va_P D vwCl [(o, .inr (2, [.ref q1, .ref a1, .ref a2])), (q1, .inl (cA, 8, .inl (fun _ => 0)))] H := hP
  have hD : va_D A [(o, .inr (2, [.ref q1, .ref a1, .ref a2])), (q1, .inl (cA, 8, .inl (fun _ => 0)))] := hD
  refine W.widen (k := 1) (n := 8) (by decide) (by decide) ?_
  exact W.vret hx hb hr (fun t ht1 hW => ⟨⟨fun i => match i with  | _ => q1, rfl, trivial, by rw [ht1]; exact hP, hD⟩, hS.F ht1⟩) hS.2.2 dX3_init_22
def wi_1 (cA : ClassId) (o a1 : Nat) (u : Nat → Nat) : va_W := [(o, .inr (0, [.ref (u 0), .ref a1, .ref (u 1), .ref (u 2), .ref (u 3), .ref (u 4)])), ((u 0), .inl (cA, 8, .inl (fun _ => 0))), ((u 1), .inl (cA, 8, .inl (fun _ => 0))), ((u 2), .inl (cA, 3125, .inl (fun _ => 0))), ((u 3), .inl (cA, 3125, .inl (fun _ => 0))), ((u 4), .inl (cA, 3125, .inl (fun _ => 0)))]
set_option maxHeartbeats 4000000 in
set_option maxRecDepth 100000 in
theorem ci_1 (l : Launch) (D : va_G) (cA : ClassId) (o sz a1 : Nat) : Met l yX1_init (mm_ws I1) ({ frames := 1, cells := 5, slots := 9391, locals := 12 }) (va_Pc [.ref o, .ref a1] (fun U => U.heap.size = sz ∧ va_P D vwCl [(o, .inr (0, [.null, .null, .null, .null, .null, .null]))] U.heap ∧ va_K D vwCl [(cA, .int)] U ∧ va_D (fun _ => True) [(o, .inr (0, [.null, .null, .null, .null, .null, .null]))])) (va_Qv (fun _ : Nat → Nat => True) (fun u t => va_P D vwCl (wi_1 cA o a1 u) t.heap ∧ va_D (va_A [(o, .inr (0, [.null, .null, .null, .null, .null, .null]))] sz) (wi_1 cA o a1 u)) (va_A [(o, .inr (0, [.null, .null, .null, .null, .null, .null]))] sz)) 5 9391 (va_A [(o, .inr (0, [.null, .null, .null, .null, .null, .null]))] sz) := by
  refine Met.ofW (cc := cX1_init) (maxL := 2) (ret := none) (by decide +kernel) rfl ?_
  intro p e s m args below meth c s₁ B hml hv
  obtain ⟨rfl, hsz, hP, hK, hD0⟩ := hv
  have hx := B.exec
  have hb := B.bytes
  have hr := B.returns
  have ht0 := atoms_spec (ws := mm_ws I1) B.pre
  have ht : ∀ w ∈ mm_tb, w.before _ s = true := fun w hw => ht0 w (List.mem_cons_of_mem _ hw)
  have hown : s.vm.findClass RX1 = some m.cls := findClass_of_methodNamed B.named
  have hin : meth.name = "<init>" := (name_of_methodNamed B.named B.method).1
  subst hsz
  have hD := hD0.self (sz := s.heap.size)
  generalize hAe : va_A [(o, .inr (0, [.null, .null, .null, .null, .null, .null]))] s.heap.size = A at hD ⊢
  have hA : ∀ q : Nat, s.heap.size ≤ q → A q := fun q h => by rw [← hAe]; exact Or.inr h
  have hS : va_S A s.heap s.heap [] := va_S.rf
  have harr : (Cond.arrayClass .int).before _ s = true := ht _ nw_arrw
  have hl := lv_entry ([.ref o, .ref a1]) (n := 2) (Nat.le_of_ble_eq_true rfl)
  rw [lg_entry_eq]
  generalize (lg_sl ([.ref o, .ref a1]) ++ List.replicate (2 - (lg_sl ([.ref o, .ref a1])).length) Slot.unset).toArray = ls at hl ⊢
  have hl : lv_has ls 2 [(0, .ref o), (1, .ref a1)] := hl
  refine lv_aload_n hx hb dX1_init_0 rfl (lv_at hl 0 rfl) ?_
  refine W.objInit hx hb hown (ht (.methodLink RX1 3 objectInit) (by decide +kernel)) (ht (.instanceMethod objectInit) (by decide +kernel)) (ht (.code objectInit ⟨#[0xb1]⟩ 1 none) (by decide +kernel)) rfl (by rw [hml]; exact hl.1) rfl dX1_init_1 (Nat.le_of_ble_eq_true rfl) (Nat.le_of_ble_eq_true rfl) ?_
  refine W.eq (g2 := F0 m 4 ls []) rfl ?_
  refine lv_aload_n hx hb dX1_init_4 rfl (lv_at hl 0 rfl) ?_
  refine lv_bipush (v := 8) hx hb dX1_init_5 (by decide) ?_
  refine nw_arr hx hb harr hK hP hD hS hA 8 (by decide) (by decide) (by decide) (Nat.le_of_ble_eq_true rfl) (Nat.le_of_ble_eq_true rfl) dX1_init_7 (fun q1 H hP hD hS => ?_)
  have hP : va_P D vwCl [(o, .inr (0, [.null, .null, .null, .null, .null, .null])), (q1, .inl (cA, 8, .inl (fun _ => 0)))] H := hP
  have hD : va_D A [(o, .inr (0, [.null, .null, .null, .null, .null, .null])), (q1, .inl (cA, 8, .inl (fun _ => 0)))] := hD
  refine va_putF (D := D) (ci := 0) (v := .ref q1) (ty := .array .int) (C := RX1) (T := TX1) (N := 6) hx hb ht mm_inTX1 tyX1 tyX1_ok nmX1 hown hK hP hD hS 0 rfl rfl 0 (by decide) (ht (.fieldLink RX1 9 "PostProofs$Mending" "distances" "[I") (by decide +kernel)) (fun _ h9 => h9) rfl hin rfl (by decide +kernel) rfl rfl (Nat.le_of_ble_eq_true rfl) dX1_init_9 (fun H locs hP hD hS => ?_)
  have hP : va_P D vwCl [(o, .inr (0, [.ref q1, .null, .null, .null, .null, .null])), (q1, .inl (cA, 8, .inl (fun _ => 0)))] H := hP
  have hD : va_D A [(o, .inr (0, [.ref q1, .null, .null, .null, .null, .null])), (q1, .inl (cA, 8, .inl (fun _ => 0)))] := hD
  refine lv_aload_n hx hb dX1_init_12 rfl (lv_at hl 0 rfl) ?_
  refine lv_bipush (v := 8) hx hb dX1_init_13 (by decide) ?_
  refine nw_arr hx hb harr hK hP hD hS hA 8 (by decide) (by decide) (by decide) (Nat.le_of_ble_eq_true rfl) (Nat.le_of_ble_eq_true rfl) dX1_init_15 (fun q2 H hP hD hS => ?_)
  have hP : va_P D vwCl [(o, .inr (0, [.ref q1, .null, .null, .null, .null, .null])), (q1, .inl (cA, 8, .inl (fun _ => 0))), (q2, .inl (cA, 8, .inl (fun _ => 0)))] H := hP
  have hD : va_D A [(o, .inr (0, [.ref q1, .null, .null, .null, .null, .null])), (q1, .inl (cA, 8, .inl (fun _ => 0))), (q2, .inl (cA, 8, .inl (fun _ => 0)))] := hD
  refine va_putF (D := D) (ci := 0) (v := .ref q2) (ty := .array .int) (C := RX1) (T := TX1) (N := 6) hx hb ht mm_inTX1 tyX1 tyX1_ok nmX1 hown hK hP hD hS 0 rfl rfl 2 (by decide) (ht (.fieldLink RX1 15 "PostProofs$Mending" "tried" "[I") (by decide +kernel)) (fun _ h9 => h9) rfl hin rfl (by decide +kernel) rfl rfl (Nat.le_of_ble_eq_true rfl) dX1_init_17 (fun H locs hP hD hS => ?_)
  have hP : va_P D vwCl [(o, .inr (0, [.ref q1, .null, .ref q2, .null, .null, .null])), (q1, .inl (cA, 8, .inl (fun _ => 0))), (q2, .inl (cA, 8, .inl (fun _ => 0)))] H := hP
  have hD : va_D A [(o, .inr (0, [.ref q1, .null, .ref q2, .null, .null, .null])), (q1, .inl (cA, 8, .inl (fun _ => 0))), (q2, .inl (cA, 8, .inl (fun _ => 0)))] := hD
  refine lv_aload_n hx hb dX1_init_20 rfl (lv_at hl 0 rfl) ?_
  refine lv_sipush (v := 3125) hx hb dX1_init_21 (by decide) ?_
  refine nw_arr hx hb harr hK hP hD hS hA 3125 (by decide) (by decide) (by decide) (Nat.le_of_ble_eq_true rfl) (Nat.le_of_ble_eq_true rfl) dX1_init_24 (fun q3 H hP hD hS => ?_)
  have hP : va_P D vwCl [(o, .inr (0, [.ref q1, .null, .ref q2, .null, .null, .null])), (q1, .inl (cA, 8, .inl (fun _ => 0))), (q2, .inl (cA, 8, .inl (fun _ => 0))), (q3, .inl (cA, 3125, .inl (fun _ => 0)))] H := hP
  have hD : va_D A [(o, .inr (0, [.ref q1, .null, .ref q2, .null, .null, .null])), (q1, .inl (cA, 8, .inl (fun _ => 0))), (q2, .inl (cA, 8, .inl (fun _ => 0))), (q3, .inl (cA, 3125, .inl (fun _ => 0)))] := hD
  refine va_putF (D := D) (ci := 0) (v := .ref q3) (ty := .array .int) (C := RX1) (T := TX1) (N := 6) hx hb ht mm_inTX1 tyX1 tyX1_ok nmX1 hown hK hP hD hS 0 rfl rfl 3 (by decide) (ht (.fieldLink RX1 18 "PostProofs$Mending" "moves" "[I") (by decide +kernel)) (fun _ h9 => h9) rfl hin rfl (by decide +kernel) rfl rfl (Nat.le_of_ble_eq_true rfl) dX1_init_26 (fun H locs hP hD hS => ?_)
  have hP : va_P D vwCl [(o, .inr (0, [.ref q1, .null, .ref q2, .ref q3, .null, .null])), (q1, .inl (cA, 8, .inl (fun _ => 0))), (q2, .inl (cA, 8, .inl (fun _ => 0))), (q3, .inl (cA, 3125, .inl (fun _ => 0)))] H := hP
  have hD : va_D A [(o, .inr (0, [.ref q1, .null, .ref q2, .ref q3, .null, .null])), (q1, .inl (cA, 8, .inl (fun _ => 0))), (q2, .inl (cA, 8, .inl (fun _ => 0))), (q3, .inl (cA, 3125, .inl (fun _ => 0)))] := hD
  refine lv_aload_n hx hb dX1_init_29 rfl (lv_at hl 0 rfl) ?_
  refine lv_sipush (v := 3125) hx hb dX1_init_30 (by decide) ?_
  refine nw_arr hx hb harr hK hP hD hS hA 3125 (by decide) (by decide) (by decide) (Nat.le_of_ble_eq_true rfl) (Nat.le_of_ble_eq_true rfl) dX1_init_33 (fun q4 H hP hD hS => ?_)
  have hP : va_P D vwCl [(o, .inr (0, [.ref q1, .null, .ref q2, .ref q3, .null, .null])), (q1, .inl (cA, 8, .inl (fun _ => 0))), (q2, .inl (cA, 8, .inl (fun _ => 0))), (q3, .inl (cA, 3125, .inl (fun _ => 0))), (q4, .inl (cA, 3125, .inl (fun _ => 0)))] H := hP
  have hD : va_D A [(o, .inr (0, [.ref q1, .null, .ref q2, .ref q3, .null, .null])), (q1, .inl (cA, 8, .inl (fun _ => 0))), (q2, .inl (cA, 8, .inl (fun _ => 0))), (q3, .inl (cA, 3125, .inl (fun _ => 0))), (q4, .inl (cA, 3125, .inl (fun _ => 0)))] := hD
  refine va_putF (D := D) (ci := 0) (v := .ref q4) (ty := .array .int) (C := RX1) (T := TX1) (N := 6) hx hb ht mm_inTX1 tyX1 tyX1_ok nmX1 hown hK hP hD hS 0 rfl rfl 4 (by decide) (ht (.fieldLink RX1 21 "PostProofs$Mending" "looked" "[I") (by decide +kernel)) (fun _ h9 => h9) rfl hin rfl (by decide +kernel) rfl rfl (Nat.le_of_ble_eq_true rfl) dX1_init_35 (fun H locs hP hD hS => ?_)
  have hP : va_P D vwCl [(o, .inr (0, [.ref q1, .null, .ref q2, .ref q3, .ref q4, .null])), (q1, .inl (cA, 8, .inl (fun _ => 0))), (q2, .inl (cA, 8, .inl (fun _ => 0))), (q3, .inl (cA, 3125, .inl (fun _ => 0))), (q4, .inl (cA, 3125, .inl (fun _ => 0)))] H := hP
  have hD : va_D A [(o, .inr (0, [.ref q1, .null, .ref q2, .ref q3, .ref q4, .null])), (q1, .inl (cA, 8, .inl (fun _ => 0))), (q2, .inl (cA, 8, .inl (fun _ => 0))), (q3, .inl (cA, 3125, .inl (fun _ => 0))), (q4, .inl (cA, 3125, .inl (fun _ => 0)))] := hD
  refine lv_aload_n hx hb dX1_init_38 rfl (lv_at hl 0 rfl) ?_
  refine lv_sipush (v := 3125) hx hb dX1_init_39 (by decide) ?_
  refine nw_arr hx hb harr hK hP hD hS hA 3125 (by decide) (by decide) (by decide) (Nat.le_of_ble_eq_true rfl) (Nat.le_of_ble_eq_true rfl) dX1_init_42 (fun q5 H hP hD hS => ?_)
  have hP : va_P D vwCl [(o, .inr (0, [.ref q1, .null, .ref q2, .ref q3, .ref q4, .null])), (q1, .inl (cA, 8, .inl (fun _ => 0))), (q2, .inl (cA, 8, .inl (fun _ => 0))), (q3, .inl (cA, 3125, .inl (fun _ => 0))), (q4, .inl (cA, 3125, .inl (fun _ => 0))), (q5, .inl (cA, 3125, .inl (fun _ => 0)))] H := hP
  have hD : va_D A [(o, .inr (0, [.ref q1, .null, .ref q2, .ref q3, .ref q4, .null])), (q1, .inl (cA, 8, .inl (fun _ => 0))), (q2, .inl (cA, 8, .inl (fun _ => 0))), (q3, .inl (cA, 3125, .inl (fun _ => 0))), (q4, .inl (cA, 3125, .inl (fun _ => 0))), (q5, .inl (cA, 3125, .inl (fun _ => 0)))] := hD
  refine va_putF (D := D) (ci := 0) (v := .ref q5) (ty := .array .int) (C := RX1) (T := TX1) (N := 6) hx hb ht mm_inTX1 tyX1 tyX1_ok nmX1 hown hK hP hD hS 0 rfl rfl 5 (by decide) (ht (.fieldLink RX1 24 "PostProofs$Mending" "trail" "[I") (by decide +kernel)) (fun _ h9 => h9) rfl hin rfl (by decide +kernel) rfl rfl (Nat.le_of_ble_eq_true rfl) dX1_init_44 (fun H locs hP hD hS => ?_)
  have hP : va_P D vwCl [(o, .inr (0, [.ref q1, .null, .ref q2, .ref q3, .ref q4, .ref q5])), (q1, .inl (cA, 8, .inl (fun _ => 0))), (q2, .inl (cA, 8, .inl (fun _ => 0))), (q3, .inl (cA, 3125, .inl (fun _ => 0))), (q4, .inl (cA, 3125, .inl (fun _ => 0))), (q5, .inl (cA, 3125, .inl (fun _ => 0)))] H := hP
  have hD : va_D A [(o, .inr (0, [.ref q1, .null, .ref q2, .ref q3, .ref q4, .ref q5])), (q1, .inl (cA, 8, .inl (fun _ => 0))), (q2, .inl (cA, 8, .inl (fun _ => 0))), (q3, .inl (cA, 3125, .inl (fun _ => 0))), (q4, .inl (cA, 3125, .inl (fun _ => 0))), (q5, .inl (cA, 3125, .inl (fun _ => 0)))] := hD
  refine lv_aload_n hx hb dX1_init_47 rfl (lv_at hl 0 rfl) ?_
  refine lv_aload_n hx hb dX1_init_48 rfl (lv_at hl 1 rfl) ?_
  refine va_putF (D := D) (ci := 0) (v := .ref a1) (ty := .object "PostProofs$Net") (C := RX1) (T := TX1) (N := 6) hx hb ht mm_inTX1 tyX1 tyX1_ok nmX1 hown hK hP hD hS 0 rfl rfl 1 (by decide) (ht (.fieldLink RX1 27 "PostProofs$Mending" "net" "LPostProofs$Net;") (by decide +kernel)) (fun _ h9 => h9) rfl hin rfl (by decide +kernel) rfl rfl (Nat.le_of_ble_eq_true rfl) dX1_init_49 (fun H locs hP hD hS => ?_)
  have hP : va_P D vwCl [(o, .inr (0, [.ref q1, .ref a1, .ref q2, .ref q3, .ref q4, .ref q5])), (q1, .inl (cA, 8, .inl (fun _ => 0))), (q2, .inl (cA, 8, .inl (fun _ => 0))), (q3, .inl (cA, 3125, .inl (fun _ => 0))), (q4, .inl (cA, 3125, .inl (fun _ => 0))), (q5, .inl (cA, 3125, .inl (fun _ => 0)))] H := hP
  have hD : va_D A [(o, .inr (0, [.ref q1, .ref a1, .ref q2, .ref q3, .ref q4, .ref q5])), (q1, .inl (cA, 8, .inl (fun _ => 0))), (q2, .inl (cA, 8, .inl (fun _ => 0))), (q3, .inl (cA, 3125, .inl (fun _ => 0))), (q4, .inl (cA, 3125, .inl (fun _ => 0))), (q5, .inl (cA, 3125, .inl (fun _ => 0)))] := hD
  refine W.widen (k := 5) (n := 9391) (by decide) (by decide) ?_
  exact W.vret hx hb hr (fun t ht1 hW => ⟨⟨fun i => match i with | 0 => q1 | 1 => q2 | 2 => q3 | 3 => q4 | _ => q5, rfl, trivial, by rw [ht1]; exact hP, hD⟩, hS.F ht1⟩) hS.2.2 dX1_init_52
def wi_6 (cA : ClassId) (o : Nat) (u : Nat → Nat) : va_W := [(o, .inr (5, [.int 1, .ref (u 0), .ref (u 1), .ref (u 2), .ref (u 3), .int 0, .ref (u 4), .ref (u 5), .int 0, .ref (u 6), .ref (u 7), .int 0])), ((u 0), .inl (cA, 8, .inl (fun _ => 0))), ((u 1), .inl (cA, 8, .inl (fun _ => 0))), ((u 2), .inl (cA, 8, .inl (fun _ => 0))), ((u 3), .inl (cA, 8, .inl (fun _ => 0))), ((u 4), .inl (cA, 8, .inl (fun _ => 0))), ((u 5), .inl (cA, 8, .inl (fun _ => 0))), ((u 6), .inl (cA, 8, .inl (fun _ => 0))), ((u 7), .inl (cA, 3125, .inl (fun _ => 0)))]
set_option maxHeartbeats 4000000 in
set_option maxRecDepth 100000 in
theorem ci_6 (l : Launch) (D : va_G) (cA : ClassId) (o sz : Nat) : Met l yX6_init (mm_ws I6) ({ frames := 1, cells := 8, slots := 3181, locals := 12 }) (va_Pc [.ref o] (fun U => U.heap.size = sz ∧ va_P D vwCl [(o, .inr (5, [.int 0, .null, .null, .null, .null, .int 0, .null, .null, .int 0, .null, .null, .int 0]))] U.heap ∧ va_K D vwCl [(cA, .int)] U ∧ va_D (fun _ => True) [(o, .inr (5, [.int 0, .null, .null, .null, .null, .int 0, .null, .null, .int 0, .null, .null, .int 0]))])) (va_Qv (fun _ : Nat → Nat => True) (fun u t => va_P D vwCl (wi_6 cA o u) t.heap ∧ va_D (va_A [(o, .inr (5, [.int 0, .null, .null, .null, .null, .int 0, .null, .null, .int 0, .null, .null, .int 0]))] sz) (wi_6 cA o u)) (va_A [(o, .inr (5, [.int 0, .null, .null, .null, .null, .int 0, .null, .null, .int 0, .null, .null, .int 0]))] sz)) 8 3181 (va_A [(o, .inr (5, [.int 0, .null, .null, .null, .null, .int 0, .null, .null, .int 0, .null, .null, .int 0]))] sz) := by
  refine Met.ofW (cc := cX6_init) (maxL := 1) (ret := none) (by decide +kernel) rfl ?_
  intro p e s m args below meth c s₁ B hml hv
  obtain ⟨rfl, hsz, hP, hK, hD0⟩ := hv
  have hx := B.exec
  have hb := B.bytes
  have hr := B.returns
  have ht0 := atoms_spec (ws := mm_ws I6) B.pre
  have ht : ∀ w ∈ mm_tb, w.before _ s = true := fun w hw => ht0 w (List.mem_cons_of_mem _ hw)
  have hown : s.vm.findClass RX6 = some m.cls := findClass_of_methodNamed B.named
  have hin : meth.name = "<init>" := (name_of_methodNamed B.named B.method).1
  subst hsz
  have hD := hD0.self (sz := s.heap.size)
  generalize hAe : va_A [(o, .inr (5, [.int 0, .null, .null, .null, .null, .int 0, .null, .null, .int 0, .null, .null, .int 0]))] s.heap.size = A at hD ⊢
  have hA : ∀ q : Nat, s.heap.size ≤ q → A q := fun q h => by rw [← hAe]; exact Or.inr h
  have hS : va_S A s.heap s.heap [] := va_S.rf
  have harr : (Cond.arrayClass .int).before _ s = true := ht _ nw_arrw
  have hl := lv_entry ([.ref o]) (n := 1) (Nat.le_of_ble_eq_true rfl)
  rw [lg_entry_eq]
  generalize (lg_sl ([.ref o]) ++ List.replicate (1 - (lg_sl ([.ref o])).length) Slot.unset).toArray = ls at hl ⊢
  have hl : lv_has ls 1 [(0, .ref o)] := hl
  refine lv_aload_n hx hb dX6_init_0 rfl (lv_at hl 0 rfl) ?_
  refine W.objInit hx hb hown (ht (.methodLink RX6 1 objectInit) (by decide +kernel)) (ht (.instanceMethod objectInit) (by decide +kernel)) (ht (.code objectInit ⟨#[0xb1]⟩ 1 none) (by decide +kernel)) rfl (by rw [hml]; exact hl.1) rfl dX6_init_1 (Nat.le_of_ble_eq_true rfl) (Nat.le_of_ble_eq_true rfl) ?_
  refine W.eq (g2 := F0 m 4 ls []) rfl ?_
  refine lv_aload_n hx hb dX6_init_4 rfl (lv_at hl 0 rfl) ?_
  refine lv_bipush (v := 8) hx hb dX6_init_5 (by decide) ?_
  refine nw_arr hx hb harr hK hP hD hS hA 8 (by decide) (by decide) (by decide) (Nat.le_of_ble_eq_true rfl) (Nat.le_of_ble_eq_true rfl) dX6_init_7 (fun q1 H hP hD hS => ?_)
  have hP : va_P D vwCl [(o, .inr (5, [.int 0, .null, .null, .null, .null, .int 0, .null, .null, .int 0, .null, .null, .int 0])), (q1, .inl (cA, 8, .inl (fun _ => 0)))] H := hP
  have hD : va_D A [(o, .inr (5, [.int 0, .null, .null, .null, .null, .int 0, .null, .null, .int 0, .null, .null, .int 0])), (q1, .inl (cA, 8, .inl (fun _ => 0)))] := hD
  refine va_putF (D := D) (ci := 5) (v := .ref q1) (ty := .array .int) (C := RX6) (T := TX6) (N := 12) hx hb ht mm_inTX6 tyX6 tyX6_ok nmX6 hown hK hP hD hS 0 rfl rfl 1 (by decide) (ht (.fieldLink RX6 7 "PostProofsModel" "lines" "[I") (by decide +kernel)) (fun _ h9 => h9) rfl hin rfl (by decide +kernel) rfl rfl (Nat.le_of_ble_eq_true rfl) dX6_init_9 (fun H locs hP hD hS => ?_)
  have hP : va_P D vwCl [(o, .inr (5, [.int 0, .ref q1, .null, .null, .null, .int 0, .null, .null, .int 0, .null, .null, .int 0])), (q1, .inl (cA, 8, .inl (fun _ => 0)))] H := hP
  have hD : va_D A [(o, .inr (5, [.int 0, .ref q1, .null, .null, .null, .int 0, .null, .null, .int 0, .null, .null, .int 0])), (q1, .inl (cA, 8, .inl (fun _ => 0)))] := hD
  refine lv_aload_n hx hb dX6_init_12 rfl (lv_at hl 0 rfl) ?_
  refine lv_bipush (v := 8) hx hb dX6_init_13 (by decide) ?_
  refine nw_arr hx hb harr hK hP hD hS hA 8 (by decide) (by decide) (by decide) (Nat.le_of_ble_eq_true rfl) (Nat.le_of_ble_eq_true rfl) dX6_init_15 (fun q2 H hP hD hS => ?_)
  have hP : va_P D vwCl [(o, .inr (5, [.int 0, .ref q1, .null, .null, .null, .int 0, .null, .null, .int 0, .null, .null, .int 0])), (q1, .inl (cA, 8, .inl (fun _ => 0))), (q2, .inl (cA, 8, .inl (fun _ => 0)))] H := hP
  have hD : va_D A [(o, .inr (5, [.int 0, .ref q1, .null, .null, .null, .int 0, .null, .null, .int 0, .null, .null, .int 0])), (q1, .inl (cA, 8, .inl (fun _ => 0))), (q2, .inl (cA, 8, .inl (fun _ => 0)))] := hD
  refine va_putF (D := D) (ci := 5) (v := .ref q2) (ty := .array .int) (C := RX6) (T := TX6) (N := 12) hx hb ht mm_inTX6 tyX6 tyX6_ok nmX6 hown hK hP hD hS 0 rfl rfl 2 (by decide) (ht (.fieldLink RX6 13 "PostProofsModel" "marks" "[I") (by decide +kernel)) (fun _ h9 => h9) rfl hin rfl (by decide +kernel) rfl rfl (Nat.le_of_ble_eq_true rfl) dX6_init_17 (fun H locs hP hD hS => ?_)
  have hP : va_P D vwCl [(o, .inr (5, [.int 0, .ref q1, .ref q2, .null, .null, .int 0, .null, .null, .int 0, .null, .null, .int 0])), (q1, .inl (cA, 8, .inl (fun _ => 0))), (q2, .inl (cA, 8, .inl (fun _ => 0)))] H := hP
  have hD : va_D A [(o, .inr (5, [.int 0, .ref q1, .ref q2, .null, .null, .int 0, .null, .null, .int 0, .null, .null, .int 0])), (q1, .inl (cA, 8, .inl (fun _ => 0))), (q2, .inl (cA, 8, .inl (fun _ => 0)))] := hD
  refine lv_aload_n hx hb dX6_init_20 rfl (lv_at hl 0 rfl) ?_
  refine lv_bipush (v := 8) hx hb dX6_init_21 (by decide) ?_
  refine nw_arr hx hb harr hK hP hD hS hA 8 (by decide) (by decide) (by decide) (Nat.le_of_ble_eq_true rfl) (Nat.le_of_ble_eq_true rfl) dX6_init_23 (fun q3 H hP hD hS => ?_)
  have hP : va_P D vwCl [(o, .inr (5, [.int 0, .ref q1, .ref q2, .null, .null, .int 0, .null, .null, .int 0, .null, .null, .int 0])), (q1, .inl (cA, 8, .inl (fun _ => 0))), (q2, .inl (cA, 8, .inl (fun _ => 0))), (q3, .inl (cA, 8, .inl (fun _ => 0)))] H := hP
  have hD : va_D A [(o, .inr (5, [.int 0, .ref q1, .ref q2, .null, .null, .int 0, .null, .null, .int 0, .null, .null, .int 0])), (q1, .inl (cA, 8, .inl (fun _ => 0))), (q2, .inl (cA, 8, .inl (fun _ => 0))), (q3, .inl (cA, 8, .inl (fun _ => 0)))] := hD
  refine va_putF (D := D) (ci := 5) (v := .ref q3) (ty := .array .int) (C := RX6) (T := TX6) (N := 12) hx hb ht mm_inTX6 tyX6 tyX6_ok nmX6 hown hK hP hD hS 0 rfl rfl 3 (by decide) (ht (.fieldLink RX6 16 "PostProofsModel" "proof" "[I") (by decide +kernel)) (fun _ h9 => h9) rfl hin rfl (by decide +kernel) rfl rfl (Nat.le_of_ble_eq_true rfl) dX6_init_25 (fun H locs hP hD hS => ?_)
  have hP : va_P D vwCl [(o, .inr (5, [.int 0, .ref q1, .ref q2, .ref q3, .null, .int 0, .null, .null, .int 0, .null, .null, .int 0])), (q1, .inl (cA, 8, .inl (fun _ => 0))), (q2, .inl (cA, 8, .inl (fun _ => 0))), (q3, .inl (cA, 8, .inl (fun _ => 0)))] H := hP
  have hD : va_D A [(o, .inr (5, [.int 0, .ref q1, .ref q2, .ref q3, .null, .int 0, .null, .null, .int 0, .null, .null, .int 0])), (q1, .inl (cA, 8, .inl (fun _ => 0))), (q2, .inl (cA, 8, .inl (fun _ => 0))), (q3, .inl (cA, 8, .inl (fun _ => 0)))] := hD
  refine lv_aload_n hx hb dX6_init_28 rfl (lv_at hl 0 rfl) ?_
  refine lv_bipush (v := 8) hx hb dX6_init_29 (by decide) ?_
  refine nw_arr hx hb harr hK hP hD hS hA 8 (by decide) (by decide) (by decide) (Nat.le_of_ble_eq_true rfl) (Nat.le_of_ble_eq_true rfl) dX6_init_31 (fun q4 H hP hD hS => ?_)
  have hP : va_P D vwCl [(o, .inr (5, [.int 0, .ref q1, .ref q2, .ref q3, .null, .int 0, .null, .null, .int 0, .null, .null, .int 0])), (q1, .inl (cA, 8, .inl (fun _ => 0))), (q2, .inl (cA, 8, .inl (fun _ => 0))), (q3, .inl (cA, 8, .inl (fun _ => 0))), (q4, .inl (cA, 8, .inl (fun _ => 0)))] H := hP
  have hD : va_D A [(o, .inr (5, [.int 0, .ref q1, .ref q2, .ref q3, .null, .int 0, .null, .null, .int 0, .null, .null, .int 0])), (q1, .inl (cA, 8, .inl (fun _ => 0))), (q2, .inl (cA, 8, .inl (fun _ => 0))), (q3, .inl (cA, 8, .inl (fun _ => 0))), (q4, .inl (cA, 8, .inl (fun _ => 0)))] := hD
  refine va_putF (D := D) (ci := 5) (v := .ref q4) (ty := .array .int) (C := RX6) (T := TX6) (N := 12) hx hb ht mm_inTX6 tyX6 tyX6_ok nmX6 hown hK hP hD hS 0 rfl rfl 4 (by decide) (ht (.fieldLink RX6 19 "PostProofsModel" "distance" "[I") (by decide +kernel)) (fun _ h9 => h9) rfl hin rfl (by decide +kernel) rfl rfl (Nat.le_of_ble_eq_true rfl) dX6_init_33 (fun H locs hP hD hS => ?_)
  have hP : va_P D vwCl [(o, .inr (5, [.int 0, .ref q1, .ref q2, .ref q3, .ref q4, .int 0, .null, .null, .int 0, .null, .null, .int 0])), (q1, .inl (cA, 8, .inl (fun _ => 0))), (q2, .inl (cA, 8, .inl (fun _ => 0))), (q3, .inl (cA, 8, .inl (fun _ => 0))), (q4, .inl (cA, 8, .inl (fun _ => 0)))] H := hP
  have hD : va_D A [(o, .inr (5, [.int 0, .ref q1, .ref q2, .ref q3, .ref q4, .int 0, .null, .null, .int 0, .null, .null, .int 0])), (q1, .inl (cA, 8, .inl (fun _ => 0))), (q2, .inl (cA, 8, .inl (fun _ => 0))), (q3, .inl (cA, 8, .inl (fun _ => 0))), (q4, .inl (cA, 8, .inl (fun _ => 0)))] := hD
  refine lv_aload_n hx hb dX6_init_36 rfl (lv_at hl 0 rfl) ?_
  refine lv_bipush (v := 8) hx hb dX6_init_37 (by decide) ?_
  refine nw_arr hx hb harr hK hP hD hS hA 8 (by decide) (by decide) (by decide) (Nat.le_of_ble_eq_true rfl) (Nat.le_of_ble_eq_true rfl) dX6_init_39 (fun q5 H hP hD hS => ?_)
  have hP : va_P D vwCl [(o, .inr (5, [.int 0, .ref q1, .ref q2, .ref q3, .ref q4, .int 0, .null, .null, .int 0, .null, .null, .int 0])), (q1, .inl (cA, 8, .inl (fun _ => 0))), (q2, .inl (cA, 8, .inl (fun _ => 0))), (q3, .inl (cA, 8, .inl (fun _ => 0))), (q4, .inl (cA, 8, .inl (fun _ => 0))), (q5, .inl (cA, 8, .inl (fun _ => 0)))] H := hP
  have hD : va_D A [(o, .inr (5, [.int 0, .ref q1, .ref q2, .ref q3, .ref q4, .int 0, .null, .null, .int 0, .null, .null, .int 0])), (q1, .inl (cA, 8, .inl (fun _ => 0))), (q2, .inl (cA, 8, .inl (fun _ => 0))), (q3, .inl (cA, 8, .inl (fun _ => 0))), (q4, .inl (cA, 8, .inl (fun _ => 0))), (q5, .inl (cA, 8, .inl (fun _ => 0)))] := hD
  refine va_putF (D := D) (ci := 5) (v := .ref q5) (ty := .array .int) (C := RX6) (T := TX6) (N := 12) hx hb ht mm_inTX6 tyX6 tyX6_ok nmX6 hown hK hP hD hS 0 rfl rfl 6 (by decide) (ht (.fieldLink RX6 22 "PostProofsModel" "away" "[I") (by decide +kernel)) (fun _ h9 => h9) rfl hin rfl (by decide +kernel) rfl rfl (Nat.le_of_ble_eq_true rfl) dX6_init_41 (fun H locs hP hD hS => ?_)
  have hP : va_P D vwCl [(o, .inr (5, [.int 0, .ref q1, .ref q2, .ref q3, .ref q4, .int 0, .ref q5, .null, .int 0, .null, .null, .int 0])), (q1, .inl (cA, 8, .inl (fun _ => 0))), (q2, .inl (cA, 8, .inl (fun _ => 0))), (q3, .inl (cA, 8, .inl (fun _ => 0))), (q4, .inl (cA, 8, .inl (fun _ => 0))), (q5, .inl (cA, 8, .inl (fun _ => 0)))] H := hP
  have hD : va_D A [(o, .inr (5, [.int 0, .ref q1, .ref q2, .ref q3, .ref q4, .int 0, .ref q5, .null, .int 0, .null, .null, .int 0])), (q1, .inl (cA, 8, .inl (fun _ => 0))), (q2, .inl (cA, 8, .inl (fun _ => 0))), (q3, .inl (cA, 8, .inl (fun _ => 0))), (q4, .inl (cA, 8, .inl (fun _ => 0))), (q5, .inl (cA, 8, .inl (fun _ => 0)))] := hD
  refine lv_aload_n hx hb dX6_init_44 rfl (lv_at hl 0 rfl) ?_
  refine lv_bipush (v := 8) hx hb dX6_init_45 (by decide) ?_
  refine nw_arr hx hb harr hK hP hD hS hA 8 (by decide) (by decide) (by decide) (Nat.le_of_ble_eq_true rfl) (Nat.le_of_ble_eq_true rfl) dX6_init_47 (fun q6 H hP hD hS => ?_)
  have hP : va_P D vwCl [(o, .inr (5, [.int 0, .ref q1, .ref q2, .ref q3, .ref q4, .int 0, .ref q5, .null, .int 0, .null, .null, .int 0])), (q1, .inl (cA, 8, .inl (fun _ => 0))), (q2, .inl (cA, 8, .inl (fun _ => 0))), (q3, .inl (cA, 8, .inl (fun _ => 0))), (q4, .inl (cA, 8, .inl (fun _ => 0))), (q5, .inl (cA, 8, .inl (fun _ => 0))), (q6, .inl (cA, 8, .inl (fun _ => 0)))] H := hP
  have hD : va_D A [(o, .inr (5, [.int 0, .ref q1, .ref q2, .ref q3, .ref q4, .int 0, .ref q5, .null, .int 0, .null, .null, .int 0])), (q1, .inl (cA, 8, .inl (fun _ => 0))), (q2, .inl (cA, 8, .inl (fun _ => 0))), (q3, .inl (cA, 8, .inl (fun _ => 0))), (q4, .inl (cA, 8, .inl (fun _ => 0))), (q5, .inl (cA, 8, .inl (fun _ => 0))), (q6, .inl (cA, 8, .inl (fun _ => 0)))] := hD
  refine va_putF (D := D) (ci := 5) (v := .ref q6) (ty := .array .int) (C := RX6) (T := TX6) (N := 12) hx hb ht mm_inTX6 tyX6 tyX6_ok nmX6 hown hK hP hD hS 0 rfl rfl 7 (by decide) (ht (.fieldLink RX6 25 "PostProofsModel" "made" "[I") (by decide +kernel)) (fun _ h9 => h9) rfl hin rfl (by decide +kernel) rfl rfl (Nat.le_of_ble_eq_true rfl) dX6_init_49 (fun H locs hP hD hS => ?_)
  have hP : va_P D vwCl [(o, .inr (5, [.int 0, .ref q1, .ref q2, .ref q3, .ref q4, .int 0, .ref q5, .ref q6, .int 0, .null, .null, .int 0])), (q1, .inl (cA, 8, .inl (fun _ => 0))), (q2, .inl (cA, 8, .inl (fun _ => 0))), (q3, .inl (cA, 8, .inl (fun _ => 0))), (q4, .inl (cA, 8, .inl (fun _ => 0))), (q5, .inl (cA, 8, .inl (fun _ => 0))), (q6, .inl (cA, 8, .inl (fun _ => 0)))] H := hP
  have hD : va_D A [(o, .inr (5, [.int 0, .ref q1, .ref q2, .ref q3, .ref q4, .int 0, .ref q5, .ref q6, .int 0, .null, .null, .int 0])), (q1, .inl (cA, 8, .inl (fun _ => 0))), (q2, .inl (cA, 8, .inl (fun _ => 0))), (q3, .inl (cA, 8, .inl (fun _ => 0))), (q4, .inl (cA, 8, .inl (fun _ => 0))), (q5, .inl (cA, 8, .inl (fun _ => 0))), (q6, .inl (cA, 8, .inl (fun _ => 0)))] := hD
  refine lv_aload_n hx hb dX6_init_52 rfl (lv_at hl 0 rfl) ?_
  refine lv_bipush (v := 8) hx hb dX6_init_53 (by decide) ?_
  refine nw_arr hx hb harr hK hP hD hS hA 8 (by decide) (by decide) (by decide) (Nat.le_of_ble_eq_true rfl) (Nat.le_of_ble_eq_true rfl) dX6_init_55 (fun q7 H hP hD hS => ?_)
  have hP : va_P D vwCl [(o, .inr (5, [.int 0, .ref q1, .ref q2, .ref q3, .ref q4, .int 0, .ref q5, .ref q6, .int 0, .null, .null, .int 0])), (q1, .inl (cA, 8, .inl (fun _ => 0))), (q2, .inl (cA, 8, .inl (fun _ => 0))), (q3, .inl (cA, 8, .inl (fun _ => 0))), (q4, .inl (cA, 8, .inl (fun _ => 0))), (q5, .inl (cA, 8, .inl (fun _ => 0))), (q6, .inl (cA, 8, .inl (fun _ => 0))), (q7, .inl (cA, 8, .inl (fun _ => 0)))] H := hP
  have hD : va_D A [(o, .inr (5, [.int 0, .ref q1, .ref q2, .ref q3, .ref q4, .int 0, .ref q5, .ref q6, .int 0, .null, .null, .int 0])), (q1, .inl (cA, 8, .inl (fun _ => 0))), (q2, .inl (cA, 8, .inl (fun _ => 0))), (q3, .inl (cA, 8, .inl (fun _ => 0))), (q4, .inl (cA, 8, .inl (fun _ => 0))), (q5, .inl (cA, 8, .inl (fun _ => 0))), (q6, .inl (cA, 8, .inl (fun _ => 0))), (q7, .inl (cA, 8, .inl (fun _ => 0)))] := hD
  refine va_putF (D := D) (ci := 5) (v := .ref q7) (ty := .array .int) (C := RX6) (T := TX6) (N := 12) hx hb ht mm_inTX6 tyX6 tyX6_ok nmX6 hown hK hP hD hS 0 rfl rfl 9 (by decide) (ht (.fieldLink RX6 28 "PostProofsModel" "aside" "[I") (by decide +kernel)) (fun _ h9 => h9) rfl hin rfl (by decide +kernel) rfl rfl (Nat.le_of_ble_eq_true rfl) dX6_init_57 (fun H locs hP hD hS => ?_)
  have hP : va_P D vwCl [(o, .inr (5, [.int 0, .ref q1, .ref q2, .ref q3, .ref q4, .int 0, .ref q5, .ref q6, .int 0, .ref q7, .null, .int 0])), (q1, .inl (cA, 8, .inl (fun _ => 0))), (q2, .inl (cA, 8, .inl (fun _ => 0))), (q3, .inl (cA, 8, .inl (fun _ => 0))), (q4, .inl (cA, 8, .inl (fun _ => 0))), (q5, .inl (cA, 8, .inl (fun _ => 0))), (q6, .inl (cA, 8, .inl (fun _ => 0))), (q7, .inl (cA, 8, .inl (fun _ => 0)))] H := hP
  have hD : va_D A [(o, .inr (5, [.int 0, .ref q1, .ref q2, .ref q3, .ref q4, .int 0, .ref q5, .ref q6, .int 0, .ref q7, .null, .int 0])), (q1, .inl (cA, 8, .inl (fun _ => 0))), (q2, .inl (cA, 8, .inl (fun _ => 0))), (q3, .inl (cA, 8, .inl (fun _ => 0))), (q4, .inl (cA, 8, .inl (fun _ => 0))), (q5, .inl (cA, 8, .inl (fun _ => 0))), (q6, .inl (cA, 8, .inl (fun _ => 0))), (q7, .inl (cA, 8, .inl (fun _ => 0)))] := hD
  refine lv_aload_n hx hb dX6_init_60 rfl (lv_at hl 0 rfl) ?_
  refine lv_sipush (v := 3125) hx hb dX6_init_61 (by decide) ?_
  refine nw_arr hx hb harr hK hP hD hS hA 3125 (by decide) (by decide) (by decide) (Nat.le_of_ble_eq_true rfl) (Nat.le_of_ble_eq_true rfl) dX6_init_64 (fun q8 H hP hD hS => ?_)
  have hP : va_P D vwCl [(o, .inr (5, [.int 0, .ref q1, .ref q2, .ref q3, .ref q4, .int 0, .ref q5, .ref q6, .int 0, .ref q7, .null, .int 0])), (q1, .inl (cA, 8, .inl (fun _ => 0))), (q2, .inl (cA, 8, .inl (fun _ => 0))), (q3, .inl (cA, 8, .inl (fun _ => 0))), (q4, .inl (cA, 8, .inl (fun _ => 0))), (q5, .inl (cA, 8, .inl (fun _ => 0))), (q6, .inl (cA, 8, .inl (fun _ => 0))), (q7, .inl (cA, 8, .inl (fun _ => 0))), (q8, .inl (cA, 3125, .inl (fun _ => 0)))] H := hP
  have hD : va_D A [(o, .inr (5, [.int 0, .ref q1, .ref q2, .ref q3, .ref q4, .int 0, .ref q5, .ref q6, .int 0, .ref q7, .null, .int 0])), (q1, .inl (cA, 8, .inl (fun _ => 0))), (q2, .inl (cA, 8, .inl (fun _ => 0))), (q3, .inl (cA, 8, .inl (fun _ => 0))), (q4, .inl (cA, 8, .inl (fun _ => 0))), (q5, .inl (cA, 8, .inl (fun _ => 0))), (q6, .inl (cA, 8, .inl (fun _ => 0))), (q7, .inl (cA, 8, .inl (fun _ => 0))), (q8, .inl (cA, 3125, .inl (fun _ => 0)))] := hD
  refine va_putF (D := D) (ci := 5) (v := .ref q8) (ty := .array .int) (C := RX6) (T := TX6) (N := 12) hx hb ht mm_inTX6 tyX6 tyX6_ok nmX6 hown hK hP hD hS 0 rfl rfl 10 (by decide) (ht (.fieldLink RX6 31 "PostProofsModel" "ways" "[I") (by decide +kernel)) (fun _ h9 => h9) rfl hin rfl (by decide +kernel) rfl rfl (Nat.le_of_ble_eq_true rfl) dX6_init_66 (fun H locs hP hD hS => ?_)
  have hP : va_P D vwCl [(o, .inr (5, [.int 0, .ref q1, .ref q2, .ref q3, .ref q4, .int 0, .ref q5, .ref q6, .int 0, .ref q7, .ref q8, .int 0])), (q1, .inl (cA, 8, .inl (fun _ => 0))), (q2, .inl (cA, 8, .inl (fun _ => 0))), (q3, .inl (cA, 8, .inl (fun _ => 0))), (q4, .inl (cA, 8, .inl (fun _ => 0))), (q5, .inl (cA, 8, .inl (fun _ => 0))), (q6, .inl (cA, 8, .inl (fun _ => 0))), (q7, .inl (cA, 8, .inl (fun _ => 0))), (q8, .inl (cA, 3125, .inl (fun _ => 0)))] H := hP
  have hD : va_D A [(o, .inr (5, [.int 0, .ref q1, .ref q2, .ref q3, .ref q4, .int 0, .ref q5, .ref q6, .int 0, .ref q7, .ref q8, .int 0])), (q1, .inl (cA, 8, .inl (fun _ => 0))), (q2, .inl (cA, 8, .inl (fun _ => 0))), (q3, .inl (cA, 8, .inl (fun _ => 0))), (q4, .inl (cA, 8, .inl (fun _ => 0))), (q5, .inl (cA, 8, .inl (fun _ => 0))), (q6, .inl (cA, 8, .inl (fun _ => 0))), (q7, .inl (cA, 8, .inl (fun _ => 0))), (q8, .inl (cA, 3125, .inl (fun _ => 0)))] := hD
  refine lv_aload_n hx hb dX6_init_69 rfl (lv_at hl 0 rfl) ?_
  refine lv_iconst (v := 1) hx hb dX6_init_70 (by decide) ?_
  refine va_put (D := D) (ci := 5) (v := .int 1) (ty := .int) (C := RX6) (T := TX6) (N := 12) hx hb ht mm_inTX6 tyX6 tyX6_ok nmX6 hown hK hP hD hS 0 rfl rfl 0 (by decide) (ht (.fieldLink RX6 34 "PostProofsModel" "n" "I") (by decide +kernel)) (fun _ h9 => h9) rfl (by decide +kernel) rfl rfl (Nat.le_of_ble_eq_true rfl) dX6_init_71 (fun H locs hP hD hS => ?_)
  have hP : va_P D vwCl [(o, .inr (5, [.int 1, .ref q1, .ref q2, .ref q3, .ref q4, .int 0, .ref q5, .ref q6, .int 0, .ref q7, .ref q8, .int 0])), (q1, .inl (cA, 8, .inl (fun _ => 0))), (q2, .inl (cA, 8, .inl (fun _ => 0))), (q3, .inl (cA, 8, .inl (fun _ => 0))), (q4, .inl (cA, 8, .inl (fun _ => 0))), (q5, .inl (cA, 8, .inl (fun _ => 0))), (q6, .inl (cA, 8, .inl (fun _ => 0))), (q7, .inl (cA, 8, .inl (fun _ => 0))), (q8, .inl (cA, 3125, .inl (fun _ => 0)))] H := hP
  have hD : va_D A [(o, .inr (5, [.int 1, .ref q1, .ref q2, .ref q3, .ref q4, .int 0, .ref q5, .ref q6, .int 0, .ref q7, .ref q8, .int 0])), (q1, .inl (cA, 8, .inl (fun _ => 0))), (q2, .inl (cA, 8, .inl (fun _ => 0))), (q3, .inl (cA, 8, .inl (fun _ => 0))), (q4, .inl (cA, 8, .inl (fun _ => 0))), (q5, .inl (cA, 8, .inl (fun _ => 0))), (q6, .inl (cA, 8, .inl (fun _ => 0))), (q7, .inl (cA, 8, .inl (fun _ => 0))), (q8, .inl (cA, 3125, .inl (fun _ => 0)))] := hD
  refine W.widen (k := 8) (n := 3181) (by decide) (by decide) ?_
  exact W.vret hx hb hr (fun t ht1 hW => ⟨⟨fun i => match i with | 0 => q1 | 1 => q2 | 2 => q3 | 3 => q4 | 4 => q5 | 5 => q6 | 6 => q7 | _ => q8, rfl, trivial, by rw [ht1]; exact hP, hD⟩, hS.F ht1⟩) hS.2.2 dX6_init_74
