/-! ===== the start: which cell is where ===== -/
def lw_h0 : mm_H := fun c => match c with
  | 1 => fun k => match k with
    | 3 => 1
    | _ => 0
  | 16 => fun k => match k with
    | 0 => 1
    | _ => 0
  | 25 => mm_plc
  | _ => fun _ => 0
def lw_ad (o1 o2 t b : Nat) (u v : Nat → Nat) : Nat → Nat := fun i => match i with
  | 0 => o1
  | 16 => o2
  | 17 => v 0
  | 18 => v 1
  | 19 => v 2
  | 20 => v 3
  | 21 => v 4
  | 22 => v 5
  | 23 => v 6
  | 24 => v 7
  | 25 => t
  | 26 => b
  | i => u i
set_option maxRecDepth 100000 in
theorem lw_wld (cA : ClassId) (o1 o2 t b : Nat) (u v : Nat → Nat) : mm_wld (lw_ad o1 o2 t b u v) cA lw_h0 = wi_5 cA o1 u ++ wi_6 cA o2 v := by
  simp only [mm_wld, mm_shp, List.mapIdx_cons, List.mapIdx_nil, mm_cell, mm_fv, Nat.reduceAdd, Nat.zero_add]
  rfl
