section
/-- a private method of a class that the tables say can be made, by its rows of tables_1 -/
def lw_okq (q : MethodName × Nat) : Prop := (q.1.cls ≠ "java/lang/invoke/MethodHandle" ∧ q.1.cls ≠ "java/lang/invoke/VarHandle") ∧ Cond.instantiable q.1.cls q.2 ∈ tables_1 ∧ Cond.privateMethod q.1 ∈ tables_1 ∧ Cond.instanceMethod q.1 ∈ tables_1
theorem lw_p0 : lw_okq (⟨"PostProofs$Trial", "place", "(I)V"⟩, 7) := ⟨⟨by decide +kernel, by decide +kernel⟩, List.mem_of_getElem? (i := 52) (by decide +kernel), List.mem_of_getElem? (i := 207) (by decide +kernel), List.mem_of_getElem? (i := 208) (by decide +kernel)⟩
theorem lw_p1 : lw_okq (⟨"PostProofs$Trial", "stillStands", "(I)Z"⟩, 7) := ⟨⟨by decide +kernel, by decide +kernel⟩, List.mem_of_getElem? (i := 52) (by decide +kernel), List.mem_of_getElem? (i := 215) (by decide +kernel), List.mem_of_getElem? (i := 216) (by decide +kernel)⟩
theorem lw_p2 : lw_okq (⟨"PostProofs$Prover", "findsLeaders", "()Z"⟩, 3) := ⟨⟨by decide +kernel, by decide +kernel⟩, List.mem_of_getElem? (i := 85) (by decide +kernel), List.mem_of_getElem? (i := 248) (by decide +kernel), List.mem_of_getElem? (i := 249) (by decide +kernel)⟩
theorem lw_p3 : lw_okq (⟨"PostProofs$Net", "nearAny", "(I)I"⟩, 4) := ⟨⟨by decide +kernel, by decide +kernel⟩, List.mem_of_getElem? (i := 21) (by decide +kernel), List.mem_of_getElem? (i := 257) (by decide +kernel), List.mem_of_getElem? (i := 258) (by decide +kernel)⟩
theorem lw_p4 : lw_okq (⟨"PostProofs$Prover", "numberFrom", "(II)V"⟩, 3) := ⟨⟨by decide +kernel, by decide +kernel⟩, List.mem_of_getElem? (i := 85) (by decide +kernel), List.mem_of_getElem? (i := 262) (by decide +kernel), List.mem_of_getElem? (i := 263) (by decide +kernel)⟩
theorem lw_p5 : lw_okq (⟨"PostProofs$Prover", "allScattered", "()Z"⟩, 3) := ⟨⟨by decide +kernel, by decide +kernel⟩, List.mem_of_getElem? (i := 85) (by decide +kernel), List.mem_of_getElem? (i := 266) (by decide +kernel), List.mem_of_getElem? (i := 267) (by decide +kernel)⟩
theorem lw_p6 : lw_okq (⟨"PostProofs$Prover", "findsNoRings", "()Z"⟩, 3) := ⟨⟨by decide +kernel, by decide +kernel⟩, List.mem_of_getElem? (i := 85) (by decide +kernel), List.mem_of_getElem? (i := 271) (by decide +kernel), List.mem_of_getElem? (i := 272) (by decide +kernel)⟩
theorem lw_p7 : lw_okq (⟨"PostProofs", "tryRefusal", "(I)I"⟩, 8) := ⟨⟨by decide +kernel, by decide +kernel⟩, List.mem_of_getElem? (i := 13) (by decide +kernel), List.mem_of_getElem? (i := 320) (by decide +kernel), List.mem_of_getElem? (i := 321) (by decide +kernel)⟩
theorem lw_p8 : lw_okq (⟨"PostProofs$Mending", "rule", "([II)I"⟩, 6) := ⟨⟨by decide +kernel, by decide +kernel⟩, List.mem_of_getElem? (i := 102) (by decide +kernel), List.mem_of_getElem? (i := 362) (by decide +kernel), List.mem_of_getElem? (i := 363) (by decide +kernel)⟩
theorem lw_p9 : lw_okq (⟨"PostProofs$Mending", "leastRestless", "()I"⟩, 6) := ⟨⟨by decide +kernel, by decide +kernel⟩, List.mem_of_getElem? (i := 102) (by decide +kernel), List.mem_of_getElem? (i := 386) (by decide +kernel), List.mem_of_getElem? (i := 387) (by decide +kernel)⟩
theorem lw_p10 : lw_okq (⟨"PostProofs", "waysRefused", "()Z"⟩, 8) := ⟨⟨by decide +kernel, by decide +kernel⟩, List.mem_of_getElem? (i := 13) (by decide +kernel), List.mem_of_getElem? (i := 396) (by decide +kernel), List.mem_of_getElem? (i := 397) (by decide +kernel)⟩
theorem lw_p11 : lw_okq (⟨"PostProofs$Mending", "stateNow", "()I"⟩, 6) := ⟨⟨by decide +kernel, by decide +kernel⟩, List.mem_of_getElem? (i := 102) (by decide +kernel), List.mem_of_getElem? (i := 404) (by decide +kernel), List.mem_of_getElem? (i := 405) (by decide +kernel)⟩
theorem lw_p12 : lw_okq (⟨"PostProofs$Mending", "enter", "(II)V"⟩, 6) := ⟨⟨by decide +kernel, by decide +kernel⟩, List.mem_of_getElem? (i := 102) (by decide +kernel), List.mem_of_getElem? (i := 410) (by decide +kernel), List.mem_of_getElem? (i := 411) (by decide +kernel)⟩
theorem lw_p13 : lw_okq (⟨"PostProofs$Mending", "stateBehind", "(II)I"⟩, 6) := ⟨⟨by decide +kernel, by decide +kernel⟩, List.mem_of_getElem? (i := 102) (by decide +kernel), List.mem_of_getElem? (i := 416) (by decide +kernel), List.mem_of_getElem? (i := 417) (by decide +kernel)⟩
theorem lw_p14 : lw_okq (⟨"PostProofsModel", "isPost", "(I)Z"⟩, 12) := ⟨⟨by decide +kernel, by decide +kernel⟩, List.mem_of_getElem? (i := 443) (by decide +kernel), List.mem_of_getElem? (i := 498) (by decide +kernel), List.mem_of_getElem? (i := 499) (by decide +kernel)⟩
theorem lw_p15 : lw_okq (⟨"PostProofsModel", "claims", "()Z"⟩, 12) := ⟨⟨by decide +kernel, by decide +kernel⟩, List.mem_of_getElem? (i := 443) (by decide +kernel), List.mem_of_getElem? (i := 516) (by decide +kernel), List.mem_of_getElem? (i := 517) (by decide +kernel)⟩
def lw_privs_1 : List (MethodName × Nat) := [(⟨"PostProofs$Trial", "place", "(I)V"⟩, 7), (⟨"PostProofs$Trial", "stillStands", "(I)Z"⟩, 7), (⟨"PostProofs$Prover", "findsLeaders", "()Z"⟩, 3), (⟨"PostProofs$Net", "nearAny", "(I)I"⟩, 4), (⟨"PostProofs$Prover", "numberFrom", "(II)V"⟩, 3), (⟨"PostProofs$Prover", "allScattered", "()Z"⟩, 3), (⟨"PostProofs$Prover", "findsNoRings", "()Z"⟩, 3), (⟨"PostProofs", "tryRefusal", "(I)I"⟩, 8), (⟨"PostProofs$Mending", "rule", "([II)I"⟩, 6), (⟨"PostProofs$Mending", "leastRestless", "()I"⟩, 6), (⟨"PostProofs", "waysRefused", "()Z"⟩, 8), (⟨"PostProofs$Mending", "stateNow", "()I"⟩, 6), (⟨"PostProofs$Mending", "enter", "(II)V"⟩, 6), (⟨"PostProofs$Mending", "stateBehind", "(II)I"⟩, 6), (⟨"PostProofsModel", "isPost", "(I)Z"⟩, 12), (⟨"PostProofsModel", "claims", "()Z"⟩, 12)]
theorem lw_r1 : ∀ q ∈ lw_privs_1, lw_okq q := List.forall_mem_cons.mpr ⟨lw_p0, List.forall_mem_cons.mpr ⟨lw_p1, List.forall_mem_cons.mpr ⟨lw_p2, List.forall_mem_cons.mpr ⟨lw_p3, List.forall_mem_cons.mpr ⟨lw_p4, List.forall_mem_cons.mpr ⟨lw_p5, List.forall_mem_cons.mpr ⟨lw_p6, List.forall_mem_cons.mpr ⟨lw_p7, List.forall_mem_cons.mpr ⟨lw_p8, List.forall_mem_cons.mpr ⟨lw_p9, List.forall_mem_cons.mpr ⟨lw_p10, List.forall_mem_cons.mpr ⟨lw_p11, List.forall_mem_cons.mpr ⟨lw_p12, List.forall_mem_cons.mpr ⟨lw_p13, List.forall_mem_cons.mpr ⟨lw_p14, List.forall_mem_cons.mpr ⟨lw_p15, fun _ h => absurd h List.not_mem_nil⟩⟩⟩⟩⟩⟩⟩⟩⟩⟩⟩⟩⟩⟩⟩⟩
theorem lw_p16 : lw_okq (⟨"PostProofsModel", "colours", "(I)Z"⟩, 12) := ⟨⟨by decide +kernel, by decide +kernel⟩, List.mem_of_getElem? (i := 443) (by decide +kernel), List.mem_of_getElem? (i := 520) (by decide +kernel), List.mem_of_getElem? (i := 521) (by decide +kernel)⟩
theorem lw_p17 : lw_okq (⟨"PostProofsModel", "areNear", "(II)Z"⟩, 12) := ⟨⟨by decide +kernel, by decide +kernel⟩, List.mem_of_getElem? (i := 443) (by decide +kernel), List.mem_of_getElem? (i := 524) (by decide +kernel), List.mem_of_getElem? (i := 525) (by decide +kernel)⟩
theorem lw_p18 : lw_okq (⟨"PostProofsModel", "linesOf", "()I"⟩, 12) := ⟨⟨by decide +kernel, by decide +kernel⟩, List.mem_of_getElem? (i := 443) (by decide +kernel), List.mem_of_getElem? (i := 528) (by decide +kernel), List.mem_of_getElem? (i := 529) (by decide +kernel)⟩
theorem lw_p19 : lw_okq (⟨"PostProofsModel", "setsOf", "()I"⟩, 12) := ⟨⟨by decide +kernel, by decide +kernel⟩, List.mem_of_getElem? (i := 443) (by decide +kernel), List.mem_of_getElem? (i := 532) (by decide +kernel), List.mem_of_getElem? (i := 533) (by decide +kernel)⟩
theorem lw_p20 : lw_okq (⟨"PostProofsModel", "firstOf", "(I)I"⟩, 12) := ⟨⟨by decide +kernel, by decide +kernel⟩, List.mem_of_getElem? (i := 443) (by decide +kernel), List.mem_of_getElem? (i := 536) (by decide +kernel), List.mem_of_getElem? (i := 537) (by decide +kernel)⟩
theorem lw_p21 : lw_okq (⟨"PostProofsModel", "spread", "(I)V"⟩, 12) := ⟨⟨by decide +kernel, by decide +kernel⟩, List.mem_of_getElem? (i := 443) (by decide +kernel), List.mem_of_getElem? (i := 540) (by decide +kernel), List.mem_of_getElem? (i := 541) (by decide +kernel)⟩
theorem lw_p22 : lw_okq (⟨"PostProofsModel", "leaderOf", "(I)I"⟩, 12) := ⟨⟨by decide +kernel, by decide +kernel⟩, List.mem_of_getElem? (i := 443) (by decide +kernel), List.mem_of_getElem? (i := 544) (by decide +kernel), List.mem_of_getElem? (i := 545) (by decide +kernel)⟩
theorem lw_p23 : lw_okq (⟨"PostProofsModel", "isGood", "(I)Z"⟩, 12) := ⟨⟨by decide +kernel, by decide +kernel⟩, List.mem_of_getElem? (i := 443) (by decide +kernel), List.mem_of_getElem? (i := 548) (by decide +kernel), List.mem_of_getElem? (i := 549) (by decide +kernel)⟩
theorem lw_p24 : lw_okq (⟨"PostProofsModel", "hasAccepted", "(I)Z"⟩, 12) := ⟨⟨by decide +kernel, by decide +kernel⟩, List.mem_of_getElem? (i := 443) (by decide +kernel), List.mem_of_getElem? (i := 569) (by decide +kernel), List.mem_of_getElem? (i := 570) (by decide +kernel)⟩
theorem lw_p25 : lw_okq (⟨"PostProofsModel", "againstOf", "()I"⟩, 12) := ⟨⟨by decide +kernel, by decide +kernel⟩, List.mem_of_getElem? (i := 443) (by decide +kernel), List.mem_of_getElem? (i := 577) (by decide +kernel), List.mem_of_getElem? (i := 578) (by decide +kernel)⟩
theorem lw_p26 : lw_okq (⟨"PostProofsModel", "allOf", "(I)J"⟩, 12) := ⟨⟨by decide +kernel, by decide +kernel⟩, List.mem_of_getElem? (i := 443) (by decide +kernel), List.mem_of_getElem? (i := 590) (by decide +kernel), List.mem_of_getElem? (i := 591) (by decide +kernel)⟩
theorem lw_p27 : lw_okq (⟨"PostProofsModel", "layAside", "()V"⟩, 12) := ⟨⟨by decide +kernel, by decide +kernel⟩, List.mem_of_getElem? (i := 443) (by decide +kernel), List.mem_of_getElem? (i := 595) (by decide +kernel), List.mem_of_getElem? (i := 596) (by decide +kernel)⟩
theorem lw_p28 : lw_okq (⟨"PostProofsModel", "goThrough", "(II)I"⟩, 12) := ⟨⟨by decide +kernel, by decide +kernel⟩, List.mem_of_getElem? (i := 443) (by decide +kernel), List.mem_of_getElem? (i := 599) (by decide +kernel), List.mem_of_getElem? (i := 600) (by decide +kernel)⟩
theorem lw_p29 : lw_okq (⟨"PostProofsModel", "putBack", "()V"⟩, 12) := ⟨⟨by decide +kernel, by decide +kernel⟩, List.mem_of_getElem? (i := 443) (by decide +kernel), List.mem_of_getElem? (i := 603) (by decide +kernel), List.mem_of_getElem? (i := 604) (by decide +kernel)⟩
theorem lw_p30 : lw_okq (⟨"PostProofsModel", "restlessOf", "()I"⟩, 12) := ⟨⟨by decide +kernel, by decide +kernel⟩, List.mem_of_getElem? (i := 443) (by decide +kernel), List.mem_of_getElem? (i := 629) (by decide +kernel), List.mem_of_getElem? (i := 630) (by decide +kernel)⟩
theorem lw_p31 : lw_okq (⟨"PostProofsModel", "ruleOf", "(I)I"⟩, 12) := ⟨⟨by decide +kernel, by decide +kernel⟩, List.mem_of_getElem? (i := 443) (by decide +kernel), List.mem_of_getElem? (i := 633) (by decide +kernel), List.mem_of_getElem? (i := 634) (by decide +kernel)⟩
def lw_privs_2 : List (MethodName × Nat) := [(⟨"PostProofsModel", "colours", "(I)Z"⟩, 12), (⟨"PostProofsModel", "areNear", "(II)Z"⟩, 12), (⟨"PostProofsModel", "linesOf", "()I"⟩, 12), (⟨"PostProofsModel", "setsOf", "()I"⟩, 12), (⟨"PostProofsModel", "firstOf", "(I)I"⟩, 12), (⟨"PostProofsModel", "spread", "(I)V"⟩, 12), (⟨"PostProofsModel", "leaderOf", "(I)I"⟩, 12), (⟨"PostProofsModel", "isGood", "(I)Z"⟩, 12), (⟨"PostProofsModel", "hasAccepted", "(I)Z"⟩, 12), (⟨"PostProofsModel", "againstOf", "()I"⟩, 12), (⟨"PostProofsModel", "allOf", "(I)J"⟩, 12), (⟨"PostProofsModel", "layAside", "()V"⟩, 12), (⟨"PostProofsModel", "goThrough", "(II)I"⟩, 12), (⟨"PostProofsModel", "putBack", "()V"⟩, 12), (⟨"PostProofsModel", "restlessOf", "()I"⟩, 12), (⟨"PostProofsModel", "ruleOf", "(I)I"⟩, 12)]
theorem lw_r2 : ∀ q ∈ lw_privs_2, lw_okq q := List.forall_mem_cons.mpr ⟨lw_p16, List.forall_mem_cons.mpr ⟨lw_p17, List.forall_mem_cons.mpr ⟨lw_p18, List.forall_mem_cons.mpr ⟨lw_p19, List.forall_mem_cons.mpr ⟨lw_p20, List.forall_mem_cons.mpr ⟨lw_p21, List.forall_mem_cons.mpr ⟨lw_p22, List.forall_mem_cons.mpr ⟨lw_p23, List.forall_mem_cons.mpr ⟨lw_p24, List.forall_mem_cons.mpr ⟨lw_p25, List.forall_mem_cons.mpr ⟨lw_p26, List.forall_mem_cons.mpr ⟨lw_p27, List.forall_mem_cons.mpr ⟨lw_p28, List.forall_mem_cons.mpr ⟨lw_p29, List.forall_mem_cons.mpr ⟨lw_p30, List.forall_mem_cons.mpr ⟨lw_p31, fun _ h => absurd h List.not_mem_nil⟩⟩⟩⟩⟩⟩⟩⟩⟩⟩⟩⟩⟩⟩⟩⟩
theorem lw_p32 : lw_okq (⟨"PostProofsModel", "findWay", "(Z)I"⟩, 12) := ⟨⟨by decide +kernel, by decide +kernel⟩, List.mem_of_getElem? (i := 443) (by decide +kernel), List.mem_of_getElem? (i := 649) (by decide +kernel), List.mem_of_getElem? (i := 650) (by decide +kernel)⟩
theorem lw_p33 : lw_okq (⟨"PostProofsModel", "stateOf", "()I"⟩, 12) := ⟨⟨by decide +kernel, by decide +kernel⟩, List.mem_of_getElem? (i := 443) (by decide +kernel), List.mem_of_getElem? (i := 653) (by decide +kernel), List.mem_of_getElem? (i := 654) (by decide +kernel)⟩
theorem lw_p34 : lw_okq (⟨"PostProofsModel", "setState", "(I)V"⟩, 12) := ⟨⟨by decide +kernel, by decide +kernel⟩, List.mem_of_getElem? (i := 443) (by decide +kernel), List.mem_of_getElem? (i := 657) (by decide +kernel), List.mem_of_getElem? (i := 658) (by decide +kernel)⟩
theorem lw_p35 : lw_okq (⟨"PostProofsModel", "step", "(IZ)I"⟩, 12) := ⟨⟨by decide +kernel, by decide +kernel⟩, List.mem_of_getElem? (i := 443) (by decide +kernel), List.mem_of_getElem? (i := 661) (by decide +kernel), List.mem_of_getElem? (i := 662) (by decide +kernel)⟩
def lw_privs_3 : List (MethodName × Nat) := [(⟨"PostProofsModel", "findWay", "(Z)I"⟩, 12), (⟨"PostProofsModel", "stateOf", "()I"⟩, 12), (⟨"PostProofsModel", "setState", "(I)V"⟩, 12), (⟨"PostProofsModel", "step", "(IZ)I"⟩, 12)]
theorem lw_r3 : ∀ q ∈ lw_privs_3, lw_okq q := List.forall_mem_cons.mpr ⟨lw_p32, List.forall_mem_cons.mpr ⟨lw_p33, List.forall_mem_cons.mpr ⟨lw_p34, List.forall_mem_cons.mpr ⟨lw_p35, fun _ h => absurd h List.not_mem_nil⟩⟩⟩⟩
def lw_privs : List (MethodName × Nat) := lw_privs_1 ++ (lw_privs_2 ++ (lw_privs_3))
def lw_tbl : List Cond := k2_sels lw_privs ++ tables_1
theorem lw_privs_ok : ∀ q ∈ lw_privs, lw_okq q := by
  show ∀ q ∈ lw_privs_1 ++ (lw_privs_2 ++ (lw_privs_3)), lw_okq q
  exact List.forall_mem_append.mpr ⟨lw_r1, List.forall_mem_append.mpr ⟨lw_r2, lw_r3⟩⟩
def RX0 : String := "PostProofs$Judge"
def TX0 : u_T := fun k => match k with
  | _ => ("", "", "", false)
def tyX0 : Nat → FieldType := fun k => match k with
  | _ => .int
abbrev wsX00 : List Cond := u_ws RX0 TX0 0
theorem nmX0 : ∀ a, a < 0 → ∀ b, b < 0 → a ≠ b → (TX0 a).2.1 ≠ (TX0 b).2.1 := by decide +kernel
theorem tyX0_ok : ∀ k, k < 0 → parseFieldDescriptor (TX0 k).2.2.1 = some (tyX0 k) := by decide +kernel
abbrev cX0_saysYes : ByteArray := prog_2_method_2_code
def yX0_saysYes : MethodName := ⟨RX0, "saysYes", "(LPostProofs$Net;I[II)Z"⟩
abbrev cX0_suits : ByteArray := prog_2_method_3_code
def yX0_suits : MethodName := ⟨RX0, "suits", "(LPostProofs$Net;III)Z"⟩
abbrev cX0_nearWith : ByteArray := prog_2_method_4_code
def yX0_nearWith : MethodName := ⟨RX0, "nearWith", "(LPostProofs$Net;[III)I"⟩
abbrev cX0_followsLeader : ByteArray := prog_2_method_5_code
def yX0_followsLeader : MethodName := ⟨RX0, "followsLeader", "(LPostProofs$Net;[II)Z"⟩
abbrev cX0_isScattered : ByteArray := prog_2_method_6_code
def yX0_isScattered : MethodName := ⟨RX0, "isScattered", "(LPostProofs$Net;I)Z"⟩
abbrev cX0_hangsOnOne : ByteArray := prog_2_method_7_code
def yX0_hangsOnOne : MethodName := ⟨RX0, "hangsOnOne", "(LPostProofs$Net;[II)Z"⟩
def RX1 : String := "PostProofs$Mending"
def TX1 : u_T := fun k => match k with
  | 0 => ("PostProofs$Mending", "distances", "[I", true)
  | 1 => ("PostProofs$Mending", "net", "LPostProofs$Net;", true)
  | 2 => ("PostProofs$Mending", "tried", "[I", true)
  | 3 => ("PostProofs$Mending", "moves", "[I", true)
  | 4 => ("PostProofs$Mending", "looked", "[I", true)
  | _ => ("PostProofs$Mending", "trail", "[I", true)
def tyX1 : Nat → FieldType := fun k => match k with
  | 0 => .array .int
  | 1 => .object "PostProofs$Net"
  | 2 => .array .int
  | 3 => .array .int
  | 4 => .array .int
  | _ => .array .int
abbrev wsX10 : List Cond := u_ws RX1 TX1 6
theorem nmX1 : ∀ a, a < 6 → ∀ b, b < 6 → a ≠ b → (TX1 a).2.1 ≠ (TX1 b).2.1 := by decide +kernel
theorem tyX1_ok : ∀ k, k < 6 → parseFieldDescriptor (TX1 k).2.2.1 = some (tyX1 k) := by decide +kernel
abbrev cX1_init : ByteArray := prog_3_method_1_code
def yX1_init : MethodName := ⟨RX1, "<init>", "(LPostProofs$Net;)V"⟩
abbrev cX1_clear : ByteArray := prog_3_method_2_code
def yX1_clear : MethodName := ⟨RX1, "clear", "()V"⟩
abbrev cX1_isRestless : ByteArray := prog_3_method_3_code
def yX1_isRestless : MethodName := ⟨RX1, "isRestless", "(I)Z"⟩
abbrev cX1_obey : ByteArray := prog_3_method_4_code
def yX1_obey : MethodName := ⟨RX1, "obey", "(I)V"⟩
abbrev cX1_rule : ByteArray := prog_3_method_5_code
def yX1_rule : MethodName := ⟨RX1, "rule", "([II)I"⟩
abbrev cX1_settle : ByteArray := prog_3_method_6_code
def yX1_settle : MethodName := ⟨RX1, "settle", "()I"⟩
abbrev cX1_leastRestless : ByteArray := prog_3_method_7_code
def yX1_leastRestless : MethodName := ⟨RX1, "leastRestless", "()I"⟩
abbrev cX1_stateNow : ByteArray := prog_3_method_8_code
def yX1_stateNow : MethodName := ⟨RX1, "stateNow", "()I"⟩
abbrev cX1_stateBehind : ByteArray := prog_3_method_9_code
def yX1_stateBehind : MethodName := ⟨RX1, "stateBehind", "(II)I"⟩
abbrev cX1_longestWay : ByteArray := prog_3_method_10_code
def yX1_longestWay : MethodName := ⟨RX1, "longestWay", "()I"⟩
abbrev cX1_enter : ByteArray := prog_3_method_11_code
def yX1_enter : MethodName := ⟨RX1, "enter", "(II)V"⟩
abbrev cX1_shortestWay : ByteArray := prog_3_method_12_code
def yX1_shortestWay : MethodName := ⟨RX1, "shortestWay", "()I"⟩
def RX2 : String := "PostProofs$Net"
def TX2 : u_T := fun k => match k with
  | 0 => ("PostProofs$Net", "near", "[I", true)
  | 1 => ("PostProofs$Net", "marks", "[I", true)
  | 2 => ("PostProofs$Net", "away", "[I", true)
  | _ => ("PostProofs$Net", "size", "I", false)
def tyX2 : Nat → FieldType := fun k => match k with
  | 0 => .array .int
  | 1 => .array .int
  | 2 => .array .int
  | _ => .int
abbrev wsX20 : List Cond := u_ws RX2 TX2 4
theorem nmX2 : ∀ a, a < 4 → ∀ b, b < 4 → a ≠ b → (TX2 a).2.1 ≠ (TX2 b).2.1 := by decide +kernel
theorem tyX2_ok : ∀ k, k < 4 → parseFieldDescriptor (TX2 k).2.2.1 = some (tyX2 k) := by decide +kernel
abbrev cX2_init : ByteArray := prog_4_method_1_code
def yX2_init : MethodName := ⟨RX2, "<init>", "()V"⟩
abbrev cX2_clear : ByteArray := prog_4_method_2_code
def yX2_clear : MethodName := ⟨RX2, "clear", "(I)V"⟩
abbrev cX2_has : ByteArray := prog_4_method_3_code
def yX2_has : MethodName := ⟨RX2, "has", "(I)Z"⟩
abbrev cX2_joined : ByteArray := prog_4_method_4_code
def yX2_joined : MethodName := ⟨RX2, "joined", "(II)I"⟩
abbrev cX2_join : ByteArray := prog_4_method_5_code
def yX2_join : MethodName := ⟨RX2, "join", "(IIZ)V"⟩
abbrev cX2_lineCount : ByteArray := prog_4_method_6_code
def yX2_lineCount : MethodName := ⟨RX2, "lineCount", "()I"⟩
abbrev cX2_leaders : ByteArray := prog_4_method_7_code
def yX2_leaders : MethodName := ⟨RX2, "leaders", "()I"⟩
abbrev cX2_measure : ByteArray := prog_4_method_8_code
def yX2_measure : MethodName := ⟨RX2, "measure", "(I)I"⟩
abbrev cX2_nearAny : ByteArray := prog_4_method_9_code
def yX2_nearAny : MethodName := ⟨RX2, "nearAny", "(I)I"⟩
abbrev cX2_setCount : ByteArray := prog_4_method_10_code
def yX2_setCount : MethodName := ⟨RX2, "setCount", "()I"⟩
abbrev cX2_isLeast : ByteArray := prog_4_method_11_code
def yX2_isLeast : MethodName := ⟨RX2, "isLeast", "(II)Z"⟩
def RX3 : String := "PostProofs$Prover"
def TX3 : u_T := fun k => match k with
  | 0 => ("PostProofs$Prover", "numbers", "[I", true)
  | 1 => ("PostProofs$Prover", "net", "LPostProofs$Net;", true)
  | _ => ("PostProofs$Prover", "trial", "LPostProofs$Trial;", true)
def tyX3 : Nat → FieldType := fun k => match k with
  | 0 => .array .int
  | 1 => .object "PostProofs$Net"
  | _ => .object "PostProofs$Trial"
abbrev wsX30 : List Cond := u_ws RX3 TX3 3
theorem nmX3 : ∀ a, a < 3 → ∀ b, b < 3 → a ≠ b → (TX3 a).2.1 ≠ (TX3 b).2.1 := by decide +kernel
theorem tyX3_ok : ∀ k, k < 3 → parseFieldDescriptor (TX3 k).2.2.1 = some (tyX3 k) := by decide +kernel
abbrev cX3_init : ByteArray := prog_5_method_1_code
def yX3_init : MethodName := ⟨RX3, "<init>", "(LPostProofs$Net;LPostProofs$Trial;)V"⟩
abbrev cX3_finds : ByteArray := prog_5_method_2_code
def yX3_finds : MethodName := ⟨RX3, "finds", "(I)Z"⟩
abbrev cX3_findsLeaders : ByteArray := prog_5_method_3_code
def yX3_findsLeaders : MethodName := ⟨RX3, "findsLeaders", "()Z"⟩
abbrev cX3_allScattered : ByteArray := prog_5_method_4_code
def yX3_allScattered : MethodName := ⟨RX3, "allScattered", "()Z"⟩
abbrev cX3_findsNoRings : ByteArray := prog_5_method_5_code
def yX3_findsNoRings : MethodName := ⟨RX3, "findsNoRings", "()Z"⟩
abbrev cX3_numberFrom : ByteArray := prog_5_method_6_code
def yX3_numberFrom : MethodName := ⟨RX3, "numberFrom", "(II)V"⟩
def RX4 : String := "PostProofs$Trial"
def TX4 : u_T := fun k => match k with
  | 0 => ("PostProofs$Trial", "numbers", "[I", true)
  | 1 => ("PostProofs$Trial", "standing", "I", false)
  | 2 => ("PostProofs$Trial", "found", "Z", false)
  | 3 => ("PostProofs$Trial", "net", "LPostProofs$Net;", true)
  | 4 => ("PostProofs$Trial", "schemeTried", "I", false)
  | 5 => ("PostProofs$Trial", "below", "I", false)
  | _ => ("PostProofs$Trial", "wanted", "I", false)
def tyX4 : Nat → FieldType := fun k => match k with
  | 0 => .array .int
  | 1 => .int
  | 2 => .boolean
  | 3 => .object "PostProofs$Net"
  | 4 => .int
  | 5 => .int
  | _ => .int
abbrev wsX40 : List Cond := u_ws RX4 TX4 7
theorem nmX4 : ∀ a, a < 7 → ∀ b, b < 7 → a ≠ b → (TX4 a).2.1 ≠ (TX4 b).2.1 := by decide +kernel
theorem tyX4_ok : ∀ k, k < 7 → parseFieldDescriptor (TX4 k).2.2.1 = some (tyX4 k) := by decide +kernel
abbrev cX4_init : ByteArray := prog_6_method_1_code
def yX4_init : MethodName := ⟨RX4, "<init>", "(LPostProofs$Net;)V"⟩
abbrev cX4_search : ByteArray := prog_6_method_2_code
def yX4_search : MethodName := ⟨RX4, "search", "(III)V"⟩
abbrev cX4_place : ByteArray := prog_6_method_3_code
def yX4_place : MethodName := ⟨RX4, "place", "(I)V"⟩
abbrev cX4_stillStands : ByteArray := prog_6_method_4_code
def yX4_stillStands : MethodName := ⟨RX4, "stillStands", "(I)Z"⟩
def RX5 : String := "PostProofs"
def TX5 : u_T := fun k => match k with
  | 0 => ("PostProofs", "net", "LPostProofs$Net;", true)
  | 1 => ("PostProofs", "trial", "LPostProofs$Trial;", true)
  | 2 => ("PostProofs", "prover", "LPostProofs$Prover;", true)
  | 3 => ("PostProofs", "mending", "LPostProofs$Mending;", true)
  | 4 => ("PostProofs", "proofNow", "[I", true)
  | 5 => ("PostProofs", "schemeNow", "I", false)
  | 6 => ("PostProofs", "triesDone", "I", false)
  | _ => ("PostProofs", "waysDone", "I", false)
def tyX5 : Nat → FieldType := fun k => match k with
  | 0 => .object "PostProofs$Net"
  | 1 => .object "PostProofs$Trial"
  | 2 => .object "PostProofs$Prover"
  | 3 => .object "PostProofs$Mending"
  | 4 => .array .int
  | 5 => .int
  | 6 => .int
  | _ => .int
abbrev wsX50 : List Cond := u_ws RX5 TX5 8
theorem nmX5 : ∀ a, a < 8 → ∀ b, b < 8 → a ≠ b → (TX5 a).2.1 ≠ (TX5 b).2.1 := by decide +kernel
theorem tyX5_ok : ∀ k, k < 8 → parseFieldDescriptor (TX5 k).2.2.1 = some (tyX5 k) := by decide +kernel
abbrev cX5_init : ByteArray := prog_1_method_1_code
def yX5_init : MethodName := ⟨RX5, "<init>", "()V"⟩
abbrev cX5_posts : ByteArray := prog_1_method_2_code
def yX5_posts : MethodName := ⟨RX5, "posts", "(I)I"⟩
abbrev cX5_line : ByteArray := prog_1_method_3_code
def yX5_line : MethodName := ⟨RX5, "line", "(IIZ)I"⟩
abbrev cX5_mark : ByteArray := prog_1_method_4_code
def yX5_mark : MethodName := ⟨RX5, "mark", "(II)I"⟩
abbrev cX5_scheme : ByteArray := prog_1_method_5_code
def yX5_scheme : MethodName := ⟨RX5, "scheme", "(I)I"⟩
abbrev cX5_holds : ByteArray := prog_1_method_6_code
def yX5_holds : MethodName := ⟨RX5, "holds", "()I"⟩
abbrev cX5_sets : ByteArray := prog_1_method_7_code
def yX5_sets : MethodName := ⟨RX5, "sets", "()I"⟩
abbrev cX5_far : ByteArray := prog_1_method_8_code
def yX5_far : MethodName := ⟨RX5, "far", "(II)I"⟩
abbrev cX5_proof : ByteArray := prog_1_method_9_code
def yX5_proof : MethodName := ⟨RX5, "proof", "(II)I"⟩
abbrev cX5_accepts : ByteArray := prog_1_method_10_code
def yX5_accepts : MethodName := ⟨RX5, "accepts", "(I)I"⟩
abbrev cX5_against : ByteArray := prog_1_method_11_code
def yX5_against : MethodName := ⟨RX5, "against", "()I"⟩
abbrev cX5_prove : ByteArray := prog_1_method_12_code
def yX5_prove : MethodName := ⟨RX5, "prove", "()I"⟩
abbrev cX5_tryAll : ByteArray := prog_1_method_13_code
def yX5_tryAll : MethodName := ⟨RX5, "tryAll", "(I)I"⟩
abbrev cX5_attempt : ByteArray := prog_1_method_14_code
def yX5_attempt : MethodName := ⟨RX5, "attempt", "(II)I"⟩
abbrev cX5_numbers : ByteArray := prog_1_method_15_code
def yX5_numbers : MethodName := ⟨RX5, "numbers", "()I"⟩
abbrev cX5_slip : ByteArray := prog_1_method_16_code
def yX5_slip : MethodName := ⟨RX5, "slip", "(II)J"⟩
abbrev cX5_distance : ByteArray := prog_1_method_17_code
def yX5_distance : MethodName := ⟨RX5, "distance", "(II)I"⟩
abbrev cX5_restless : ByteArray := prog_1_method_18_code
def yX5_restless : MethodName := ⟨RX5, "restless", "()I"⟩
abbrev cX5_move : ByteArray := prog_1_method_19_code
def yX5_move : MethodName := ⟨RX5, "move", "(I)I"⟩
abbrev cX5_mend : ByteArray := prog_1_method_20_code
def yX5_mend : MethodName := ⟨RX5, "mend", "()I"⟩
abbrev cX5_longest : ByteArray := prog_1_method_21_code
def yX5_longest : MethodName := ⟨RX5, "longest", "()I"⟩
abbrev cX5_shortest : ByteArray := prog_1_method_22_code
def yX5_shortest : MethodName := ⟨RX5, "shortest", "()I"⟩
abbrev cX5_count : ByteArray := prog_1_method_23_code
def yX5_count : MethodName := ⟨RX5, "count", "(I)I"⟩
abbrev cX5_digest : ByteArray := prog_1_method_24_code
def yX5_digest : MethodName := ⟨RX5, "digest", "()J"⟩
abbrev cX5_mix : ByteArray := prog_1_method_25_code
def yX5_mix : MethodName := ⟨RX5, "mix", "(JJ)J"⟩
abbrev cX5_tryRefusal : ByteArray := prog_1_method_26_code
def yX5_tryRefusal : MethodName := ⟨RX5, "tryRefusal", "(I)I"⟩
abbrev cX5_waysRefused : ByteArray := prog_1_method_27_code
def yX5_waysRefused : MethodName := ⟨RX5, "waysRefused", "()Z"⟩
abbrev cX5_power : ByteArray := prog_1_method_28_code
def yX5_power : MethodName := ⟨RX5, "power", "(JI)J"⟩
abbrev cX5_commonDivisor : ByteArray := prog_1_method_29_code
def yX5_commonDivisor : MethodName := ⟨RX5, "commonDivisor", "(II)I"⟩
def RX6 : String := "PostProofsModel"
def TX6 : u_T := fun k => match k with
  | 0 => ("PostProofsModel", "n", "I", false)
  | 1 => ("PostProofsModel", "lines", "[I", true)
  | 2 => ("PostProofsModel", "marks", "[I", true)
  | 3 => ("PostProofsModel", "proof", "[I", true)
  | 4 => ("PostProofsModel", "distance", "[I", true)
  | 5 => ("PostProofsModel", "scheme", "I", false)
  | 6 => ("PostProofsModel", "away", "[I", true)
  | 7 => ("PostProofsModel", "made", "[I", true)
  | 8 => ("PostProofsModel", "tried", "I", false)
  | 9 => ("PostProofsModel", "aside", "[I", true)
  | 10 => ("PostProofsModel", "ways", "[I", true)
  | _ => ("PostProofsModel", "looked", "I", false)
def tyX6 : Nat → FieldType := fun k => match k with
  | 0 => .int
  | 1 => .array .int
  | 2 => .array .int
  | 3 => .array .int
  | 4 => .array .int
  | 5 => .int
  | 6 => .array .int
  | 7 => .array .int
  | 8 => .int
  | 9 => .array .int
  | 10 => .array .int
  | _ => .int
abbrev wsX60 : List Cond := u_ws RX6 TX6 12
theorem nmX6 : ∀ a, a < 12 → ∀ b, b < 12 → a ≠ b → (TX6 a).2.1 ≠ (TX6 b).2.1 := by decide +kernel
theorem tyX6_ok : ∀ k, k < 12 → parseFieldDescriptor (TX6 k).2.2.1 = some (tyX6 k) := by decide +kernel
abbrev cX6_init : ByteArray := prog_8_method_1_code
def yX6_init : MethodName := ⟨RX6, "<init>", "()V"⟩
abbrev cX6_in : ByteArray := prog_8_method_2_code
def yX6_in : MethodName := ⟨RX6, "in", "(JJJ)Z"⟩
abbrev cX6_isPost : ByteArray := prog_8_method_3_code
def yX6_isPost : MethodName := ⟨RX6, "isPost", "(I)Z"⟩
abbrev cX6_posts : ByteArray := prog_8_method_4_code
def yX6_posts : MethodName := ⟨RX6, "posts", "(I)I"⟩
abbrev cX6_areNear : ByteArray := prog_8_method_5_code
def yX6_areNear : MethodName := ⟨RX6, "areNear", "(II)Z"⟩
abbrev cX6_line : ByteArray := prog_8_method_6_code
def yX6_line : MethodName := ⟨RX6, "line", "(IIZ)I"⟩
abbrev cX6_mark : ByteArray := prog_8_method_7_code
def yX6_mark : MethodName := ⟨RX6, "mark", "(II)I"⟩
abbrev cX6_scheme : ByteArray := prog_8_method_8_code
def yX6_scheme : MethodName := ⟨RX6, "scheme", "(I)I"⟩
abbrev cX6_spread : ByteArray := prog_8_method_9_code
def yX6_spread : MethodName := ⟨RX6, "spread", "(I)V"⟩
abbrev cX6_firstOf : ByteArray := prog_8_method_10_code
def yX6_firstOf : MethodName := ⟨RX6, "firstOf", "(I)I"⟩
abbrev cX6_setsOf : ByteArray := prog_8_method_11_code
def yX6_setsOf : MethodName := ⟨RX6, "setsOf", "()I"⟩
abbrev cX6_linesOf : ByteArray := prog_8_method_12_code
def yX6_linesOf : MethodName := ⟨RX6, "linesOf", "()I"⟩
abbrev cX6_leaderOf : ByteArray := prog_8_method_13_code
def yX6_leaderOf : MethodName := ⟨RX6, "leaderOf", "(I)I"⟩
abbrev cX6_colours : ByteArray := prog_8_method_14_code
def yX6_colours : MethodName := ⟨RX6, "colours", "(I)Z"⟩
abbrev cX6_isGood : ByteArray := prog_8_method_15_code
def yX6_isGood : MethodName := ⟨RX6, "isGood", "(I)Z"⟩
abbrev cX6_claims : ByteArray := prog_8_method_16_code
def yX6_claims : MethodName := ⟨RX6, "claims", "()Z"⟩
abbrev cX6_holds : ByteArray := prog_8_method_17_code
def yX6_holds : MethodName := ⟨RX6, "holds", "()I"⟩
abbrev cX6_sets : ByteArray := prog_8_method_18_code
def yX6_sets : MethodName := ⟨RX6, "sets", "()I"⟩
abbrev cX6_far : ByteArray := prog_8_method_19_code
def yX6_far : MethodName := ⟨RX6, "far", "(II)I"⟩
abbrev cX6_proof : ByteArray := prog_8_method_20_code
def yX6_proof : MethodName := ⟨RX6, "proof", "(II)I"⟩
abbrev cX6_hasAccepted : ByteArray := prog_8_method_21_code
def yX6_hasAccepted : MethodName := ⟨RX6, "hasAccepted", "(I)Z"⟩
abbrev cX6_accepts : ByteArray := prog_8_method_22_code
def yX6_accepts : MethodName := ⟨RX6, "accepts", "(I)I"⟩
abbrev cX6_againstOf : ByteArray := prog_8_method_23_code
def yX6_againstOf : MethodName := ⟨RX6, "againstOf", "()I"⟩
abbrev cX6_against : ByteArray := prog_8_method_24_code
def yX6_against : MethodName := ⟨RX6, "against", "()I"⟩
abbrev cX6_prove : ByteArray := prog_8_method_25_code
def yX6_prove : MethodName := ⟨RX6, "prove", "()I"⟩
abbrev cX6_allOf : ByteArray := prog_8_method_26_code
def yX6_allOf : MethodName := ⟨RX6, "allOf", "(I)J"⟩
abbrev cX6_goThrough : ByteArray := prog_8_method_27_code
def yX6_goThrough : MethodName := ⟨RX6, "goThrough", "(II)I"⟩
abbrev cX6_layAside : ByteArray := prog_8_method_28_code
def yX6_layAside : MethodName := ⟨RX6, "layAside", "()V"⟩
abbrev cX6_putBack : ByteArray := prog_8_method_29_code
def yX6_putBack : MethodName := ⟨RX6, "putBack", "()V"⟩
abbrev cX6_tryAll : ByteArray := prog_8_method_30_code
def yX6_tryAll : MethodName := ⟨RX6, "tryAll", "(I)I"⟩
abbrev cX6_attempt : ByteArray := prog_8_method_31_code
def yX6_attempt : MethodName := ⟨RX6, "attempt", "(II)I"⟩
abbrev cX6_numbers : ByteArray := prog_8_method_32_code
def yX6_numbers : MethodName := ⟨RX6, "numbers", "()I"⟩
abbrev cX6_slip : ByteArray := prog_8_method_33_code
def yX6_slip : MethodName := ⟨RX6, "slip", "(II)J"⟩
abbrev cX6_distance : ByteArray := prog_8_method_34_code
def yX6_distance : MethodName := ⟨RX6, "distance", "(II)I"⟩
abbrev cX6_ruleOf : ByteArray := prog_8_method_35_code
def yX6_ruleOf : MethodName := ⟨RX6, "ruleOf", "(I)I"⟩
abbrev cX6_restlessOf : ByteArray := prog_8_method_36_code
def yX6_restlessOf : MethodName := ⟨RX6, "restlessOf", "()I"⟩
abbrev cX6_restless : ByteArray := prog_8_method_37_code
def yX6_restless : MethodName := ⟨RX6, "restless", "()I"⟩
abbrev cX6_move : ByteArray := prog_8_method_38_code
def yX6_move : MethodName := ⟨RX6, "move", "(I)I"⟩
abbrev cX6_mend : ByteArray := prog_8_method_39_code
def yX6_mend : MethodName := ⟨RX6, "mend", "()I"⟩
abbrev cX6_stateOf : ByteArray := prog_8_method_40_code
def yX6_stateOf : MethodName := ⟨RX6, "stateOf", "()I"⟩
abbrev cX6_setState : ByteArray := prog_8_method_41_code
def yX6_setState : MethodName := ⟨RX6, "setState", "(I)V"⟩
abbrev cX6_findWay : ByteArray := prog_8_method_42_code
def yX6_findWay : MethodName := ⟨RX6, "findWay", "(Z)I"⟩
abbrev cX6_step : ByteArray := prog_8_method_43_code
def yX6_step : MethodName := ⟨RX6, "step", "(IZ)I"⟩
abbrev cX6_longest : ByteArray := prog_8_method_44_code
def yX6_longest : MethodName := ⟨RX6, "longest", "()I"⟩
abbrev cX6_shortest : ByteArray := prog_8_method_45_code
def yX6_shortest : MethodName := ⟨RX6, "shortest", "()I"⟩
abbrev cX6_count : ByteArray := prog_8_method_46_code
def yX6_count : MethodName := ⟨RX6, "count", "(I)I"⟩
abbrev cX6_digest : ByteArray := prog_8_method_47_code
def yX6_digest : MethodName := ⟨RX6, "digest", "()J"⟩
def RJ6 : String := "java/lang/Integer"
def TJ6 : u_T := fun k => match k with
  | _ => ("", "", "", false)
def tyJ6 : Nat → FieldType := fun k => match k with
  | _ => .int
abbrev wsJ60 : List Cond := u_ws RJ6 TJ6 0
theorem nmJ6 : ∀ a, a < 0 → ∀ b, b < 0 → a ≠ b → (TJ6 a).2.1 ≠ (TJ6 b).2.1 := by decide +kernel
theorem tyJ6_ok : ∀ k, k < 0 → parseFieldDescriptor (TJ6 k).2.2.1 = some (tyJ6 k) := by decide +kernel
abbrev cJ6_bitCount_0f7a4 : ByteArray := prog_9_method_49_code
def yJ6_bitCount_0f7a4 : MethodName := ⟨RJ6, "bitCount", "(I)I"⟩
def RJ9 : String := "java/lang/Math"
def TJ9 : u_T := fun k => match k with
  | _ => ("", "", "", false)
def tyJ9 : Nat → FieldType := fun k => match k with
  | _ => .int
abbrev wsJ90 : List Cond := u_ws RJ9 TJ9 0
theorem nmJ9 : ∀ a, a < 0 → ∀ b, b < 0 → a ≠ b → (TJ9 a).2.1 ≠ (TJ9 b).2.1 := by decide +kernel
theorem tyJ9_ok : ∀ k, k < 0 → parseFieldDescriptor (TJ9 k).2.2.1 = some (tyJ9 k) := by decide +kernel
abbrev cJ9_max_7cf53 : ByteArray := prog_10_method_65_code
def yJ9_max_7cf53 : MethodName := ⟨RJ9, "max", "(II)I"⟩
abbrev cJ9_min_7cf53 : ByteArray := prog_10_method_69_code
def yJ9_min_7cf53 : MethodName := ⟨RJ9, "min", "(II)I"⟩
def RJ10 : String := "java/lang/System"
def TJ10 : u_T := fun k => match k with
  | _ => ("", "", "", false)
def tyJ10 : Nat → FieldType := fun k => match k with
  | _ => .int
abbrev wsJ100 : List Cond := u_ws RJ10 TJ10 0
theorem nmJ10 : ∀ a, a < 0 → ∀ b, b < 0 → a ≠ b → (TJ10 a).2.1 ≠ (TJ10 b).2.1 := by decide +kernel
theorem tyJ10_ok : ∀ k, k < 0 → parseFieldDescriptor (TJ10 k).2.2.1 = some (tyJ10 k) := by decide +kernel
def RJ7 : String := "java/util/Arrays"
def TJ7 : u_T := fun k => match k with
  | _ => ("", "", "", false)
def tyJ7 : Nat → FieldType := fun k => match k with
  | _ => .int
abbrev wsJ70 : List Cond := u_ws RJ7 TJ7 0
theorem nmJ7 : ∀ a, a < 0 → ∀ b, b < 0 → a ≠ b → (TJ7 a).2.1 ≠ (TJ7 b).2.1 := by decide +kernel
theorem tyJ7_ok : ∀ k, k < 0 → parseFieldDescriptor (TJ7 k).2.2.1 = some (tyJ7 k) := by decide +kernel
abbrev cJ7_fill_53178 : ByteArray := prog_12_method_103_code
def yJ7_fill_53178 : MethodName := ⟨RJ7, "fill", "([II)V"⟩
def RL : String := "PostProofsLaw"
abbrev cL_law : ByteArray := code
def yL_law : MethodName := ⟨RL, "law", "([I)Z"⟩
abbrev vwCl : List vw_C := [(RX1, TX1, 6), (RX2, TX2, 4), (RX3, TX3, 3), (RX4, TX4, 7), (RX5, TX5, 8), (RX6, TX6, 12)]
end
section
theorem dX0_saysYes_0 : decode cX0_saysYes 0 = .ok (.aload_n 0, 1) := by decide +kernel
theorem dX0_saysYes_1 : decode cX0_saysYes 1 = .ok (.iload_n 1, 1) := by decide +kernel
theorem dX0_saysYes_2 : decode cX0_saysYes 2 = .ok (.iload_n 3, 1) := by decide +kernel
theorem dX0_saysYes_3 : decode cX0_saysYes 3 = .ok (.aload_n 2, 1) := by decide +kernel
theorem dX0_saysYes_4 : decode cX0_saysYes 4 = .ok (.iload_n 3, 1) := by decide +kernel
theorem dX0_saysYes_5 : decode cX0_saysYes 5 = .ok (.iaload, 1) := by decide +kernel
theorem dX0_saysYes_6 : decode cX0_saysYes 6 = .ok (.invokestatic 9, 3) := by decide +kernel
theorem dX0_saysYes_9 : decode cX0_saysYes 9 = .ok (.ifCond .ne 5, 3) := by decide +kernel
theorem dX0_saysYes_12 : decode cX0_saysYes 12 = .ok (.iconst 0, 1) := by decide +kernel
theorem dX0_saysYes_13 : decode cX0_saysYes 13 = .ok (.ireturn, 1) := by decide +kernel
theorem dX0_saysYes_14 : decode cX0_saysYes 14 = .ok (.iload_n 1, 1) := by decide +kernel
theorem dX0_saysYes_15 : decode cX0_saysYes 15 = .ok (.tableswitch 60 0 3 #[29, 29, 47, 54], 29) := by decide +kernel
theorem dX0_saysYes_44 : decode cX0_saysYes 44 = .ok (.aload_n 0, 1) := by decide +kernel
theorem dX0_saysYes_45 : decode cX0_saysYes 45 = .ok (.aload_n 2, 1) := by decide +kernel
theorem dX0_saysYes_46 : decode cX0_saysYes 46 = .ok (.iload_n 3, 1) := by decide +kernel
theorem dX0_saysYes_47 : decode cX0_saysYes 47 = .ok (.aload_n 2, 1) := by decide +kernel
theorem dX0_saysYes_48 : decode cX0_saysYes 48 = .ok (.iload_n 3, 1) := by decide +kernel
theorem dX0_saysYes_49 : decode cX0_saysYes 49 = .ok (.iaload, 1) := by decide +kernel
theorem dX0_saysYes_50 : decode cX0_saysYes 50 = .ok (.invokestatic 15, 3) := by decide +kernel
theorem dX0_saysYes_53 : decode cX0_saysYes 53 = .ok (.ifCond .ne 7, 3) := by decide +kernel
theorem dX0_saysYes_56 : decode cX0_saysYes 56 = .ok (.iconst 1, 1) := by decide +kernel
theorem dX0_saysYes_57 : decode cX0_saysYes 57 = .ok (.goto 4, 3) := by decide +kernel
theorem dX0_saysYes_60 : decode cX0_saysYes 60 = .ok (.iconst 0, 1) := by decide +kernel
theorem dX0_saysYes_61 : decode cX0_saysYes 61 = .ok (.ireturn, 1) := by decide +kernel
theorem dX0_saysYes_62 : decode cX0_saysYes 62 = .ok (.aload_n 0, 1) := by decide +kernel
theorem dX0_saysYes_63 : decode cX0_saysYes 63 = .ok (.aload_n 2, 1) := by decide +kernel
theorem dX0_saysYes_64 : decode cX0_saysYes 64 = .ok (.iload_n 3, 1) := by decide +kernel
theorem dX0_saysYes_65 : decode cX0_saysYes 65 = .ok (.invokestatic 19, 3) := by decide +kernel
theorem dX0_saysYes_68 : decode cX0_saysYes 68 = .ok (.ireturn, 1) := by decide +kernel
theorem dX0_saysYes_69 : decode cX0_saysYes 69 = .ok (.aload_n 0, 1) := by decide +kernel
theorem dX0_saysYes_70 : decode cX0_saysYes 70 = .ok (.iload_n 3, 1) := by decide +kernel
theorem dX0_saysYes_71 : decode cX0_saysYes 71 = .ok (.invokestatic 23, 3) := by decide +kernel
theorem dX0_saysYes_74 : decode cX0_saysYes 74 = .ok (.ireturn, 1) := by decide +kernel
theorem dX0_saysYes_75 : decode cX0_saysYes 75 = .ok (.aload_n 0, 1) := by decide +kernel
theorem dX0_saysYes_76 : decode cX0_saysYes 76 = .ok (.aload_n 2, 1) := by decide +kernel
theorem dX0_saysYes_77 : decode cX0_saysYes 77 = .ok (.iload_n 3, 1) := by decide +kernel
theorem dX0_saysYes_78 : decode cX0_saysYes 78 = .ok (.invokestatic 27, 3) := by decide +kernel
theorem dX0_saysYes_81 : decode cX0_saysYes 81 = .ok (.ireturn, 1) := by decide +kernel
theorem dX0_suits_0 : decode cX0_suits 0 = .ok (.iload_n 1, 1) := by decide +kernel
theorem dX0_suits_1 : decode cX0_suits 1 = .ok (.tableswitch 119 0 3 #[31, 42, 53, 109], 31) := by decide +kernel
theorem dX0_suits_32 : decode cX0_suits 32 = .ok (.iload_n 3, 1) := by decide +kernel
theorem dX0_suits_33 : decode cX0_suits 33 = .ok (.iconst 2, 1) := by decide +kernel
theorem dX0_suits_34 : decode cX0_suits 34 = .ok (.if_icmp .ge 7, 3) := by decide +kernel
theorem dX0_suits_37 : decode cX0_suits 37 = .ok (.iconst 1, 1) := by decide +kernel
theorem dX0_suits_38 : decode cX0_suits 38 = .ok (.goto 4, 3) := by decide +kernel
theorem dX0_suits_41 : decode cX0_suits 41 = .ok (.iconst 0, 1) := by decide +kernel
theorem dX0_suits_42 : decode cX0_suits 42 = .ok (.ireturn, 1) := by decide +kernel
theorem dX0_suits_43 : decode cX0_suits 43 = .ok (.iload_n 3, 1) := by decide +kernel
theorem dX0_suits_44 : decode cX0_suits 44 = .ok (.iconst 3, 1) := by decide +kernel
theorem dX0_suits_45 : decode cX0_suits 45 = .ok (.if_icmp .ge 7, 3) := by decide +kernel
theorem dX0_suits_48 : decode cX0_suits 48 = .ok (.iconst 1, 1) := by decide +kernel
theorem dX0_suits_49 : decode cX0_suits 49 = .ok (.goto 4, 3) := by decide +kernel
theorem dX0_suits_52 : decode cX0_suits 52 = .ok (.iconst 0, 1) := by decide +kernel
theorem dX0_suits_53 : decode cX0_suits 53 = .ok (.ireturn, 1) := by decide +kernel
theorem dX0_suits_54 : decode cX0_suits 54 = .ok (.aload_n 0, 1) := by decide +kernel
theorem dX0_suits_55 : decode cX0_suits 55 = .ok (.getfield 30, 3) := by decide +kernel
theorem dX0_suits_58 : decode cX0_suits 58 = .ok (.iload_n 2, 1) := by decide +kernel
theorem dX0_suits_59 : decode cX0_suits 59 = .ok (.iaload, 1) := by decide +kernel
theorem dX0_suits_60 : decode cX0_suits 60 = .ok (.iconst 1, 1) := by decide +kernel
theorem dX0_suits_61 : decode cX0_suits 61 = .ok (.if_icmp .ne 7, 3) := by decide +kernel
theorem dX0_suits_64 : decode cX0_suits 64 = .ok (.iconst 1, 1) := by decide +kernel
theorem dX0_suits_65 : decode cX0_suits 65 = .ok (.goto 4, 3) := by decide +kernel
theorem dX0_suits_68 : decode cX0_suits 68 = .ok (.iconst 0, 1) := by decide +kernel
theorem dX0_suits_69 : decode cX0_suits 69 = .ok (.istore 4, 2) := by decide +kernel
theorem dX0_suits_71 : decode cX0_suits 71 = .ok (.iload_n 3, 1) := by decide +kernel
theorem dX0_suits_72 : decode cX0_suits 72 = .ok (.bipush 8, 2) := by decide +kernel
theorem dX0_suits_74 : decode cX0_suits 74 = .ok (.irem, 1) := by decide +kernel
theorem dX0_suits_75 : decode cX0_suits 75 = .ok (.ifCond .ne 24, 3) := by decide +kernel
theorem dX0_suits_78 : decode cX0_suits 78 = .ok (.iload 4, 2) := by decide +kernel
theorem dX0_suits_80 : decode cX0_suits 80 = .ok (.ifCond .eq 15, 3) := by decide +kernel
theorem dX0_suits_83 : decode cX0_suits 83 = .ok (.iload_n 3, 1) := by decide +kernel
theorem dX0_suits_84 : decode cX0_suits 84 = .ok (.bipush 8, 2) := by decide +kernel
theorem dX0_suits_86 : decode cX0_suits 86 = .ok (.idiv, 1) := by decide +kernel
theorem dX0_suits_87 : decode cX0_suits 87 = .ok (.iload_n 2, 1) := by decide +kernel
theorem dX0_suits_88 : decode cX0_suits 88 = .ok (.if_icmp .ne 7, 3) := by decide +kernel
theorem dX0_suits_91 : decode cX0_suits 91 = .ok (.iconst 1, 1) := by decide +kernel
theorem dX0_suits_92 : decode cX0_suits 92 = .ok (.goto 17, 3) := by decide +kernel
theorem dX0_suits_95 : decode cX0_suits 95 = .ok (.iconst 0, 1) := by decide +kernel
theorem dX0_suits_96 : decode cX0_suits 96 = .ok (.goto 13, 3) := by decide +kernel
theorem dX0_suits_99 : decode cX0_suits 99 = .ok (.iload 4, 2) := by decide +kernel
theorem dX0_suits_101 : decode cX0_suits 101 = .ok (.ifCond .ne 7, 3) := by decide +kernel
theorem dX0_suits_104 : decode cX0_suits 104 = .ok (.iconst 1, 1) := by decide +kernel
theorem dX0_suits_105 : decode cX0_suits 105 = .ok (.goto 4, 3) := by decide +kernel
theorem dX0_suits_108 : decode cX0_suits 108 = .ok (.iconst 0, 1) := by decide +kernel
theorem dX0_suits_109 : decode cX0_suits 109 = .ok (.ireturn, 1) := by decide +kernel
theorem dX0_suits_110 : decode cX0_suits 110 = .ok (.iload_n 3, 1) := by decide +kernel
theorem dX0_suits_111 : decode cX0_suits 111 = .ok (.ifCond .ne 7, 3) := by decide +kernel
theorem dX0_suits_114 : decode cX0_suits 114 = .ok (.iconst 1, 1) := by decide +kernel
theorem dX0_suits_115 : decode cX0_suits 115 = .ok (.goto 4, 3) := by decide +kernel
theorem dX0_suits_118 : decode cX0_suits 118 = .ok (.iconst 0, 1) := by decide +kernel
theorem dX0_suits_119 : decode cX0_suits 119 = .ok (.ireturn, 1) := by decide +kernel
theorem dX0_suits_120 : decode cX0_suits 120 = .ok (.iload_n 3, 1) := by decide +kernel
theorem dX0_suits_121 : decode cX0_suits 121 = .ok (.bipush 8, 2) := by decide +kernel
theorem dX0_suits_123 : decode cX0_suits 123 = .ok (.if_icmp .ge 7, 3) := by decide +kernel
theorem dX0_suits_126 : decode cX0_suits 126 = .ok (.iconst 1, 1) := by decide +kernel
theorem dX0_suits_127 : decode cX0_suits 127 = .ok (.goto 4, 3) := by decide +kernel
theorem dX0_suits_130 : decode cX0_suits 130 = .ok (.iconst 0, 1) := by decide +kernel
theorem dX0_suits_131 : decode cX0_suits 131 = .ok (.ireturn, 1) := by decide +kernel
theorem dX0_nearWith_0 : decode cX0_nearWith 0 = .ok (.iconst 0, 1) := by decide +kernel
theorem dX0_nearWith_1 : decode cX0_nearWith 1 = .ok (.istore 4, 2) := by decide +kernel
theorem dX0_nearWith_3 : decode cX0_nearWith 3 = .ok (.iconst 0, 1) := by decide +kernel
theorem dX0_nearWith_4 : decode cX0_nearWith 4 = .ok (.istore 5, 2) := by decide +kernel
theorem dX0_nearWith_6 : decode cX0_nearWith 6 = .ok (.iload 5, 2) := by decide +kernel
theorem dX0_nearWith_8 : decode cX0_nearWith 8 = .ok (.aload_n 0, 1) := by decide +kernel
theorem dX0_nearWith_9 : decode cX0_nearWith 9 = .ok (.getfield 36, 3) := by decide +kernel
theorem dX0_nearWith_12 : decode cX0_nearWith 12 = .ok (.if_icmp .ge 35, 3) := by decide +kernel
theorem dX0_nearWith_15 : decode cX0_nearWith 15 = .ok (.aload_n 0, 1) := by decide +kernel
theorem dX0_nearWith_16 : decode cX0_nearWith 16 = .ok (.getfield 40, 3) := by decide +kernel
theorem dX0_nearWith_19 : decode cX0_nearWith 19 = .ok (.iload_n 2, 1) := by decide +kernel
theorem dX0_nearWith_20 : decode cX0_nearWith 20 = .ok (.iaload, 1) := by decide +kernel
theorem dX0_nearWith_21 : decode cX0_nearWith 21 = .ok (.iload 5, 2) := by decide +kernel
theorem dX0_nearWith_23 : decode cX0_nearWith 23 = .ok (.ishr, 1) := by decide +kernel
theorem dX0_nearWith_24 : decode cX0_nearWith 24 = .ok (.iconst 1, 1) := by decide +kernel
theorem dX0_nearWith_25 : decode cX0_nearWith 25 = .ok (.iand, 1) := by decide +kernel
theorem dX0_nearWith_26 : decode cX0_nearWith 26 = .ok (.iconst 1, 1) := by decide +kernel
theorem dX0_nearWith_27 : decode cX0_nearWith 27 = .ok (.if_icmp .ne 14, 3) := by decide +kernel
theorem dX0_nearWith_30 : decode cX0_nearWith 30 = .ok (.aload_n 1, 1) := by decide +kernel
theorem dX0_nearWith_31 : decode cX0_nearWith 31 = .ok (.iload 5, 2) := by decide +kernel
theorem dX0_nearWith_33 : decode cX0_nearWith 33 = .ok (.iaload, 1) := by decide +kernel
theorem dX0_nearWith_34 : decode cX0_nearWith 34 = .ok (.iload_n 3, 1) := by decide +kernel
theorem dX0_nearWith_35 : decode cX0_nearWith 35 = .ok (.if_icmp .ne 6, 3) := by decide +kernel
theorem dX0_nearWith_38 : decode cX0_nearWith 38 = .ok (.iinc 4 1, 3) := by decide +kernel
theorem dX0_nearWith_41 : decode cX0_nearWith 41 = .ok (.iinc 5 1, 3) := by decide +kernel
theorem dX0_nearWith_44 : decode cX0_nearWith 44 = .ok (.goto (-38), 3) := by decide +kernel
theorem dX0_nearWith_47 : decode cX0_nearWith 47 = .ok (.iload 4, 2) := by decide +kernel
theorem dX0_nearWith_49 : decode cX0_nearWith 49 = .ok (.ireturn, 1) := by decide +kernel
theorem dX0_followsLeader_0 : decode cX0_followsLeader 0 = .ok (.aload_n 1, 1) := by decide +kernel
theorem dX0_followsLeader_1 : decode cX0_followsLeader 1 = .ok (.iload_n 2, 1) := by decide +kernel
theorem dX0_followsLeader_2 : decode cX0_followsLeader 2 = .ok (.iaload, 1) := by decide +kernel
theorem dX0_followsLeader_3 : decode cX0_followsLeader 3 = .ok (.bipush 8, 2) := by decide +kernel
theorem dX0_followsLeader_5 : decode cX0_followsLeader 5 = .ok (.idiv, 1) := by decide +kernel
theorem dX0_followsLeader_6 : decode cX0_followsLeader 6 = .ok (.istore_n 3, 1) := by decide +kernel
theorem dX0_followsLeader_7 : decode cX0_followsLeader 7 = .ok (.iconst 0, 1) := by decide +kernel
theorem dX0_followsLeader_8 : decode cX0_followsLeader 8 = .ok (.istore 4, 2) := by decide +kernel
theorem dX0_followsLeader_10 : decode cX0_followsLeader 10 = .ok (.iload 4, 2) := by decide +kernel
theorem dX0_followsLeader_12 : decode cX0_followsLeader 12 = .ok (.aload_n 0, 1) := by decide +kernel
theorem dX0_followsLeader_13 : decode cX0_followsLeader 13 = .ok (.getfield 36, 3) := by decide +kernel
theorem dX0_followsLeader_16 : decode cX0_followsLeader 16 = .ok (.if_icmp .ge 37, 3) := by decide +kernel
theorem dX0_followsLeader_19 : decode cX0_followsLeader 19 = .ok (.aload_n 0, 1) := by decide +kernel
theorem dX0_followsLeader_20 : decode cX0_followsLeader 20 = .ok (.getfield 40, 3) := by decide +kernel
theorem dX0_followsLeader_23 : decode cX0_followsLeader 23 = .ok (.iload_n 2, 1) := by decide +kernel
theorem dX0_followsLeader_24 : decode cX0_followsLeader 24 = .ok (.iaload, 1) := by decide +kernel
theorem dX0_followsLeader_25 : decode cX0_followsLeader 25 = .ok (.iload 4, 2) := by decide +kernel
theorem dX0_followsLeader_27 : decode cX0_followsLeader 27 = .ok (.ishr, 1) := by decide +kernel
theorem dX0_followsLeader_28 : decode cX0_followsLeader 28 = .ok (.iconst 1, 1) := by decide +kernel
theorem dX0_followsLeader_29 : decode cX0_followsLeader 29 = .ok (.iand, 1) := by decide +kernel
theorem dX0_followsLeader_30 : decode cX0_followsLeader 30 = .ok (.iconst 1, 1) := by decide +kernel
theorem dX0_followsLeader_31 : decode cX0_followsLeader 31 = .ok (.if_icmp .ne 16, 3) := by decide +kernel
theorem dX0_followsLeader_34 : decode cX0_followsLeader 34 = .ok (.aload_n 1, 1) := by decide +kernel
theorem dX0_followsLeader_35 : decode cX0_followsLeader 35 = .ok (.iload 4, 2) := by decide +kernel
theorem dX0_followsLeader_37 : decode cX0_followsLeader 37 = .ok (.iaload, 1) := by decide +kernel
theorem dX0_followsLeader_38 : decode cX0_followsLeader 38 = .ok (.bipush 8, 2) := by decide +kernel
theorem dX0_followsLeader_40 : decode cX0_followsLeader 40 = .ok (.idiv, 1) := by decide +kernel
theorem dX0_followsLeader_41 : decode cX0_followsLeader 41 = .ok (.iload_n 3, 1) := by decide +kernel
theorem dX0_followsLeader_42 : decode cX0_followsLeader 42 = .ok (.if_icmp .eq 5, 3) := by decide +kernel
theorem dX0_followsLeader_45 : decode cX0_followsLeader 45 = .ok (.iconst 0, 1) := by decide +kernel
theorem dX0_followsLeader_46 : decode cX0_followsLeader 46 = .ok (.ireturn, 1) := by decide +kernel
theorem dX0_followsLeader_47 : decode cX0_followsLeader 47 = .ok (.iinc 4 1, 3) := by decide +kernel
theorem dX0_followsLeader_50 : decode cX0_followsLeader 50 = .ok (.goto (-40), 3) := by decide +kernel
theorem dX0_followsLeader_53 : decode cX0_followsLeader 53 = .ok (.aload_n 1, 1) := by decide +kernel
theorem dX0_followsLeader_54 : decode cX0_followsLeader 54 = .ok (.iload_n 2, 1) := by decide +kernel
theorem dX0_followsLeader_55 : decode cX0_followsLeader 55 = .ok (.iaload, 1) := by decide +kernel
theorem dX0_followsLeader_56 : decode cX0_followsLeader 56 = .ok (.bipush 8, 2) := by decide +kernel
theorem dX0_followsLeader_58 : decode cX0_followsLeader 58 = .ok (.irem, 1) := by decide +kernel
theorem dX0_followsLeader_59 : decode cX0_followsLeader 59 = .ok (.ifCond .eq 17, 3) := by decide +kernel
theorem dX0_followsLeader_62 : decode cX0_followsLeader 62 = .ok (.aload_n 0, 1) := by decide +kernel
theorem dX0_followsLeader_63 : decode cX0_followsLeader 63 = .ok (.aload_n 1, 1) := by decide +kernel
theorem dX0_followsLeader_64 : decode cX0_followsLeader 64 = .ok (.iload_n 2, 1) := by decide +kernel
theorem dX0_followsLeader_65 : decode cX0_followsLeader 65 = .ok (.aload_n 1, 1) := by decide +kernel
theorem dX0_followsLeader_66 : decode cX0_followsLeader 66 = .ok (.iload_n 2, 1) := by decide +kernel
theorem dX0_followsLeader_67 : decode cX0_followsLeader 67 = .ok (.iaload, 1) := by decide +kernel
theorem dX0_followsLeader_68 : decode cX0_followsLeader 68 = .ok (.iconst 1, 1) := by decide +kernel
theorem dX0_followsLeader_69 : decode cX0_followsLeader 69 = .ok (.isub, 1) := by decide +kernel
theorem dX0_followsLeader_70 : decode cX0_followsLeader 70 = .ok (.invokestatic 15, 3) := by decide +kernel
theorem dX0_followsLeader_73 : decode cX0_followsLeader 73 = .ok (.ifCond .le 7, 3) := by decide +kernel
theorem dX0_followsLeader_76 : decode cX0_followsLeader 76 = .ok (.iconst 1, 1) := by decide +kernel
theorem dX0_followsLeader_77 : decode cX0_followsLeader 77 = .ok (.goto 4, 3) := by decide +kernel
theorem dX0_followsLeader_80 : decode cX0_followsLeader 80 = .ok (.iconst 0, 1) := by decide +kernel
theorem dX0_followsLeader_81 : decode cX0_followsLeader 81 = .ok (.ireturn, 1) := by decide +kernel
theorem dX0_isScattered_0 : decode cX0_isScattered 0 = .ok (.aload_n 0, 1) := by decide +kernel
theorem dX0_isScattered_1 : decode cX0_isScattered 1 = .ok (.getfield 40, 3) := by decide +kernel
theorem dX0_isScattered_4 : decode cX0_isScattered 4 = .ok (.iload_n 1, 1) := by decide +kernel
theorem dX0_isScattered_5 : decode cX0_isScattered 5 = .ok (.iaload, 1) := by decide +kernel
theorem dX0_isScattered_6 : decode cX0_isScattered 6 = .ok (.aload_n 0, 1) := by decide +kernel
theorem dX0_isScattered_7 : decode cX0_isScattered 7 = .ok (.invokevirtual 43, 3) := by decide +kernel
theorem dX0_isScattered_10 : decode cX0_isScattered 10 = .ok (.iand, 1) := by decide +kernel
theorem dX0_isScattered_11 : decode cX0_isScattered 11 = .ok (.ifCond .eq 7, 3) := by decide +kernel
theorem dX0_isScattered_14 : decode cX0_isScattered 14 = .ok (.iconst 1, 1) := by decide +kernel
theorem dX0_isScattered_15 : decode cX0_isScattered 15 = .ok (.goto 4, 3) := by decide +kernel
theorem dX0_isScattered_18 : decode cX0_isScattered 18 = .ok (.iconst 0, 1) := by decide +kernel
theorem dX0_isScattered_19 : decode cX0_isScattered 19 = .ok (.istore_n 2, 1) := by decide +kernel
theorem dX0_isScattered_20 : decode cX0_isScattered 20 = .ok (.iload_n 2, 1) := by decide +kernel
theorem dX0_isScattered_21 : decode cX0_isScattered 21 = .ok (.aload_n 0, 1) := by decide +kernel
theorem dX0_isScattered_22 : decode cX0_isScattered 22 = .ok (.getfield 30, 3) := by decide +kernel
theorem dX0_isScattered_25 : decode cX0_isScattered 25 = .ok (.iload_n 1, 1) := by decide +kernel
theorem dX0_isScattered_26 : decode cX0_isScattered 26 = .ok (.iaload, 1) := by decide +kernel
theorem dX0_isScattered_27 : decode cX0_isScattered 27 = .ok (.iconst 1, 1) := by decide +kernel
theorem dX0_isScattered_28 : decode cX0_isScattered 28 = .ok (.if_icmp .ne 7, 3) := by decide +kernel
theorem dX0_isScattered_31 : decode cX0_isScattered 31 = .ok (.iconst 1, 1) := by decide +kernel
theorem dX0_isScattered_32 : decode cX0_isScattered 32 = .ok (.goto 4, 3) := by decide +kernel
theorem dX0_isScattered_35 : decode cX0_isScattered 35 = .ok (.iconst 0, 1) := by decide +kernel
theorem dX0_isScattered_36 : decode cX0_isScattered 36 = .ok (.if_icmp .eq 7, 3) := by decide +kernel
theorem dX0_isScattered_39 : decode cX0_isScattered 39 = .ok (.iconst 1, 1) := by decide +kernel
theorem dX0_isScattered_40 : decode cX0_isScattered 40 = .ok (.goto 4, 3) := by decide +kernel
theorem dX0_isScattered_43 : decode cX0_isScattered 43 = .ok (.iconst 0, 1) := by decide +kernel
theorem dX0_isScattered_44 : decode cX0_isScattered 44 = .ok (.ireturn, 1) := by decide +kernel
theorem dX0_hangsOnOne_0 : decode cX0_hangsOnOne 0 = .ok (.aload_n 0, 1) := by decide +kernel
theorem dX0_hangsOnOne_1 : decode cX0_hangsOnOne 1 = .ok (.aload_n 1, 1) := by decide +kernel
theorem dX0_hangsOnOne_2 : decode cX0_hangsOnOne 2 = .ok (.iload_n 2, 1) := by decide +kernel
theorem dX0_hangsOnOne_3 : decode cX0_hangsOnOne 3 = .ok (.aload_n 1, 1) := by decide +kernel
theorem dX0_hangsOnOne_4 : decode cX0_hangsOnOne 4 = .ok (.iload_n 2, 1) := by decide +kernel
theorem dX0_hangsOnOne_5 : decode cX0_hangsOnOne 5 = .ok (.iaload, 1) := by decide +kernel
theorem dX0_hangsOnOne_6 : decode cX0_hangsOnOne 6 = .ok (.iconst 1, 1) := by decide +kernel
theorem dX0_hangsOnOne_7 : decode cX0_hangsOnOne 7 = .ok (.isub, 1) := by decide +kernel
theorem dX0_hangsOnOne_8 : decode cX0_hangsOnOne 8 = .ok (.invokestatic 15, 3) := by decide +kernel
theorem dX0_hangsOnOne_11 : decode cX0_hangsOnOne 11 = .ok (.istore_n 3, 1) := by decide +kernel
theorem dX0_hangsOnOne_12 : decode cX0_hangsOnOne 12 = .ok (.aload_n 0, 1) := by decide +kernel
theorem dX0_hangsOnOne_13 : decode cX0_hangsOnOne 13 = .ok (.aload_n 1, 1) := by decide +kernel
theorem dX0_hangsOnOne_14 : decode cX0_hangsOnOne 14 = .ok (.iload_n 2, 1) := by decide +kernel
theorem dX0_hangsOnOne_15 : decode cX0_hangsOnOne 15 = .ok (.aload_n 1, 1) := by decide +kernel
theorem dX0_hangsOnOne_16 : decode cX0_hangsOnOne 16 = .ok (.iload_n 2, 1) := by decide +kernel
theorem dX0_hangsOnOne_17 : decode cX0_hangsOnOne 17 = .ok (.iaload, 1) := by decide +kernel
theorem dX0_hangsOnOne_18 : decode cX0_hangsOnOne 18 = .ok (.iconst 1, 1) := by decide +kernel
theorem dX0_hangsOnOne_19 : decode cX0_hangsOnOne 19 = .ok (.iadd, 1) := by decide +kernel
theorem dX0_hangsOnOne_20 : decode cX0_hangsOnOne 20 = .ok (.invokestatic 15, 3) := by decide +kernel
theorem dX0_hangsOnOne_23 : decode cX0_hangsOnOne 23 = .ok (.istore 4, 2) := by decide +kernel
theorem dX0_hangsOnOne_25 : decode cX0_hangsOnOne 25 = .ok (.aload_n 1, 1) := by decide +kernel
theorem dX0_hangsOnOne_26 : decode cX0_hangsOnOne 26 = .ok (.iload_n 2, 1) := by decide +kernel
theorem dX0_hangsOnOne_27 : decode cX0_hangsOnOne 27 = .ok (.iaload, 1) := by decide +kernel
theorem dX0_hangsOnOne_28 : decode cX0_hangsOnOne 28 = .ok (.ifCond .ne 7, 3) := by decide +kernel
theorem dX0_hangsOnOne_31 : decode cX0_hangsOnOne 31 = .ok (.iconst 0, 1) := by decide +kernel
theorem dX0_hangsOnOne_32 : decode cX0_hangsOnOne 32 = .ok (.goto 4, 3) := by decide +kernel
theorem dX0_hangsOnOne_35 : decode cX0_hangsOnOne 35 = .ok (.iconst 1, 1) := by decide +kernel
theorem dX0_hangsOnOne_36 : decode cX0_hangsOnOne 36 = .ok (.istore 5, 2) := by decide +kernel
theorem dX0_hangsOnOne_38 : decode cX0_hangsOnOne 38 = .ok (.iload_n 3, 1) := by decide +kernel
theorem dX0_hangsOnOne_39 : decode cX0_hangsOnOne 39 = .ok (.iload 5, 2) := by decide +kernel
theorem dX0_hangsOnOne_41 : decode cX0_hangsOnOne 41 = .ok (.if_icmp .ne 23, 3) := by decide +kernel
theorem dX0_hangsOnOne_44 : decode cX0_hangsOnOne 44 = .ok (.iload_n 3, 1) := by decide +kernel
theorem dX0_hangsOnOne_45 : decode cX0_hangsOnOne 45 = .ok (.iload 4, 2) := by decide +kernel
theorem dX0_hangsOnOne_47 : decode cX0_hangsOnOne 47 = .ok (.iadd, 1) := by decide +kernel
theorem dX0_hangsOnOne_48 : decode cX0_hangsOnOne 48 = .ok (.aload_n 0, 1) := by decide +kernel
theorem dX0_hangsOnOne_49 : decode cX0_hangsOnOne 49 = .ok (.getfield 40, 3) := by decide +kernel
theorem dX0_hangsOnOne_52 : decode cX0_hangsOnOne 52 = .ok (.iload_n 2, 1) := by decide +kernel
theorem dX0_hangsOnOne_53 : decode cX0_hangsOnOne 53 = .ok (.iaload, 1) := by decide +kernel
theorem dX0_hangsOnOne_54 : decode cX0_hangsOnOne 54 = .ok (.invokestatic 47, 3) := by decide +kernel
theorem dX0_hangsOnOne_57 : decode cX0_hangsOnOne 57 = .ok (.if_icmp .ne 7, 3) := by decide +kernel
theorem dX0_hangsOnOne_60 : decode cX0_hangsOnOne 60 = .ok (.iconst 1, 1) := by decide +kernel
theorem dX0_hangsOnOne_61 : decode cX0_hangsOnOne 61 = .ok (.goto 4, 3) := by decide +kernel
theorem dX0_hangsOnOne_64 : decode cX0_hangsOnOne 64 = .ok (.iconst 0, 1) := by decide +kernel
theorem dX0_hangsOnOne_65 : decode cX0_hangsOnOne 65 = .ok (.ireturn, 1) := by decide +kernel
theorem dX1_init_0 : decode cX1_init 0 = .ok (.aload_n 0, 1) := by decide +kernel
theorem dX1_init_1 : decode cX1_init 1 = .ok (.invokespecial 3, 3) := by decide +kernel
theorem dX1_init_4 : decode cX1_init 4 = .ok (.aload_n 0, 1) := by decide +kernel
theorem dX1_init_5 : decode cX1_init 5 = .ok (.bipush 8, 2) := by decide +kernel
theorem dX1_init_7 : decode cX1_init 7 = .ok (.newarray .int, 2) := by decide +kernel
theorem dX1_init_9 : decode cX1_init 9 = .ok (.putfield 9, 3) := by decide +kernel
theorem dX1_init_12 : decode cX1_init 12 = .ok (.aload_n 0, 1) := by decide +kernel
theorem dX1_init_13 : decode cX1_init 13 = .ok (.bipush 8, 2) := by decide +kernel
theorem dX1_init_15 : decode cX1_init 15 = .ok (.newarray .int, 2) := by decide +kernel
theorem dX1_init_17 : decode cX1_init 17 = .ok (.putfield 15, 3) := by decide +kernel
theorem dX1_init_20 : decode cX1_init 20 = .ok (.aload_n 0, 1) := by decide +kernel
theorem dX1_init_21 : decode cX1_init 21 = .ok (.sipush 3125, 3) := by decide +kernel
theorem dX1_init_24 : decode cX1_init 24 = .ok (.newarray .int, 2) := by decide +kernel
theorem dX1_init_26 : decode cX1_init 26 = .ok (.putfield 18, 3) := by decide +kernel
theorem dX1_init_29 : decode cX1_init 29 = .ok (.aload_n 0, 1) := by decide +kernel
theorem dX1_init_30 : decode cX1_init 30 = .ok (.sipush 3125, 3) := by decide +kernel
theorem dX1_init_33 : decode cX1_init 33 = .ok (.newarray .int, 2) := by decide +kernel
theorem dX1_init_35 : decode cX1_init 35 = .ok (.putfield 21, 3) := by decide +kernel
theorem dX1_init_38 : decode cX1_init 38 = .ok (.aload_n 0, 1) := by decide +kernel
theorem dX1_init_39 : decode cX1_init 39 = .ok (.sipush 3125, 3) := by decide +kernel
theorem dX1_init_42 : decode cX1_init 42 = .ok (.newarray .int, 2) := by decide +kernel
theorem dX1_init_44 : decode cX1_init 44 = .ok (.putfield 24, 3) := by decide +kernel
theorem dX1_init_47 : decode cX1_init 47 = .ok (.aload_n 0, 1) := by decide +kernel
theorem dX1_init_48 : decode cX1_init 48 = .ok (.aload_n 1, 1) := by decide +kernel
theorem dX1_init_49 : decode cX1_init 49 = .ok (.putfield 27, 3) := by decide +kernel
theorem dX1_init_52 : decode cX1_init 52 = .ok (.return_, 1) := by decide +kernel
theorem dX1_clear_0 : decode cX1_clear 0 = .ok (.aload_n 0, 1) := by decide +kernel
theorem dX1_clear_1 : decode cX1_clear 1 = .ok (.getfield 9, 3) := by decide +kernel
theorem dX1_clear_4 : decode cX1_clear 4 = .ok (.iconst 0, 1) := by decide +kernel
theorem dX1_clear_5 : decode cX1_clear 5 = .ok (.invokestatic 31, 3) := by decide +kernel
theorem dX1_clear_8 : decode cX1_clear 8 = .ok (.return_, 1) := by decide +kernel
theorem dX1_isRestless_0 : decode cX1_isRestless 0 = .ok (.aload_n 0, 1) := by decide +kernel
theorem dX1_isRestless_1 : decode cX1_isRestless 1 = .ok (.aload_n 0, 1) := by decide +kernel
theorem dX1_isRestless_2 : decode cX1_isRestless 2 = .ok (.getfield 9, 3) := by decide +kernel
theorem dX1_isRestless_5 : decode cX1_isRestless 5 = .ok (.iload_n 1, 1) := by decide +kernel
theorem dX1_isRestless_6 : decode cX1_isRestless 6 = .ok (.invokevirtual 37, 3) := by decide +kernel
theorem dX1_isRestless_9 : decode cX1_isRestless 9 = .ok (.aload_n 0, 1) := by decide +kernel
theorem dX1_isRestless_10 : decode cX1_isRestless 10 = .ok (.getfield 9, 3) := by decide +kernel
theorem dX1_isRestless_13 : decode cX1_isRestless 13 = .ok (.iload_n 1, 1) := by decide +kernel
theorem dX1_isRestless_14 : decode cX1_isRestless 14 = .ok (.iaload, 1) := by decide +kernel
theorem dX1_isRestless_15 : decode cX1_isRestless 15 = .ok (.if_icmp .eq 7, 3) := by decide +kernel
theorem dX1_isRestless_18 : decode cX1_isRestless 18 = .ok (.iconst 1, 1) := by decide +kernel
theorem dX1_isRestless_19 : decode cX1_isRestless 19 = .ok (.goto 4, 3) := by decide +kernel
theorem dX1_isRestless_22 : decode cX1_isRestless 22 = .ok (.iconst 0, 1) := by decide +kernel
theorem dX1_isRestless_23 : decode cX1_isRestless 23 = .ok (.ireturn, 1) := by decide +kernel
theorem dX1_obey_0 : decode cX1_obey 0 = .ok (.aload_n 0, 1) := by decide +kernel
theorem dX1_obey_1 : decode cX1_obey 1 = .ok (.getfield 9, 3) := by decide +kernel
theorem dX1_obey_4 : decode cX1_obey 4 = .ok (.iload_n 1, 1) := by decide +kernel
theorem dX1_obey_5 : decode cX1_obey 5 = .ok (.aload_n 0, 1) := by decide +kernel
theorem dX1_obey_6 : decode cX1_obey 6 = .ok (.aload_n 0, 1) := by decide +kernel
theorem dX1_obey_7 : decode cX1_obey 7 = .ok (.getfield 9, 3) := by decide +kernel
theorem dX1_obey_10 : decode cX1_obey 10 = .ok (.iload_n 1, 1) := by decide +kernel
theorem dX1_obey_11 : decode cX1_obey 11 = .ok (.invokevirtual 37, 3) := by decide +kernel
theorem dX1_obey_14 : decode cX1_obey 14 = .ok (.iastore, 1) := by decide +kernel
theorem dX1_obey_15 : decode cX1_obey 15 = .ok (.return_, 1) := by decide +kernel
theorem dX1_rule_0 : decode cX1_rule 0 = .ok (.iload_n 2, 1) := by decide +kernel
theorem dX1_rule_1 : decode cX1_rule 1 = .ok (.ifCond .ne 5, 3) := by decide +kernel
theorem dX1_rule_4 : decode cX1_rule 4 = .ok (.iconst 0, 1) := by decide +kernel
theorem dX1_rule_5 : decode cX1_rule 5 = .ok (.ireturn, 1) := by decide +kernel
theorem dX1_rule_6 : decode cX1_rule 6 = .ok (.iconst 3, 1) := by decide +kernel
theorem dX1_rule_7 : decode cX1_rule 7 = .ok (.istore_n 3, 1) := by decide +kernel
theorem dX1_rule_8 : decode cX1_rule 8 = .ok (.iconst 0, 1) := by decide +kernel
theorem dX1_rule_9 : decode cX1_rule 9 = .ok (.istore 4, 2) := by decide +kernel
theorem dX1_rule_11 : decode cX1_rule 11 = .ok (.iload 4, 2) := by decide +kernel
theorem dX1_rule_13 : decode cX1_rule 13 = .ok (.aload_n 0, 1) := by decide +kernel
theorem dX1_rule_14 : decode cX1_rule 14 = .ok (.getfield 27, 3) := by decide +kernel
theorem dX1_rule_17 : decode cX1_rule 17 = .ok (.getfield 41, 3) := by decide +kernel
theorem dX1_rule_20 : decode cX1_rule 20 = .ok (.if_icmp .ge 32, 3) := by decide +kernel
theorem dX1_rule_23 : decode cX1_rule 23 = .ok (.aload_n 0, 1) := by decide +kernel
theorem dX1_rule_24 : decode cX1_rule 24 = .ok (.getfield 27, 3) := by decide +kernel
theorem dX1_rule_27 : decode cX1_rule 27 = .ok (.iload_n 2, 1) := by decide +kernel
theorem dX1_rule_28 : decode cX1_rule 28 = .ok (.iload 4, 2) := by decide +kernel
theorem dX1_rule_30 : decode cX1_rule 30 = .ok (.invokevirtual 47, 3) := by decide +kernel
theorem dX1_rule_33 : decode cX1_rule 33 = .ok (.iconst 1, 1) := by decide +kernel
theorem dX1_rule_34 : decode cX1_rule 34 = .ok (.if_icmp .ne 12, 3) := by decide +kernel
theorem dX1_rule_37 : decode cX1_rule 37 = .ok (.iload_n 3, 1) := by decide +kernel
theorem dX1_rule_38 : decode cX1_rule 38 = .ok (.aload_n 1, 1) := by decide +kernel
theorem dX1_rule_39 : decode cX1_rule 39 = .ok (.iload 4, 2) := by decide +kernel
theorem dX1_rule_41 : decode cX1_rule 41 = .ok (.iaload, 1) := by decide +kernel
theorem dX1_rule_42 : decode cX1_rule 42 = .ok (.invokestatic 51, 3) := by decide +kernel
theorem dX1_rule_45 : decode cX1_rule 45 = .ok (.istore_n 3, 1) := by decide +kernel
theorem dX1_rule_46 : decode cX1_rule 46 = .ok (.iinc 4 1, 3) := by decide +kernel
theorem dX1_rule_49 : decode cX1_rule 49 = .ok (.goto (-38), 3) := by decide +kernel
theorem dX1_rule_52 : decode cX1_rule 52 = .ok (.iload_n 3, 1) := by decide +kernel
theorem dX1_rule_53 : decode cX1_rule 53 = .ok (.iconst 1, 1) := by decide +kernel
theorem dX1_rule_54 : decode cX1_rule 54 = .ok (.iadd, 1) := by decide +kernel
theorem dX1_rule_55 : decode cX1_rule 55 = .ok (.ireturn, 1) := by decide +kernel
theorem dX1_settle_0 : decode cX1_settle 0 = .ok (.iconst 0, 1) := by decide +kernel
theorem dX1_settle_1 : decode cX1_settle 1 = .ok (.istore_n 1, 1) := by decide +kernel
theorem dX1_settle_2 : decode cX1_settle 2 = .ok (.iload_n 1, 1) := by decide +kernel
theorem dX1_settle_3 : decode cX1_settle 3 = .ok (.sipush 1000, 3) := by decide +kernel
theorem dX1_settle_6 : decode cX1_settle 6 = .ok (.if_icmp .ge 26, 3) := by decide +kernel
theorem dX1_settle_9 : decode cX1_settle 9 = .ok (.aload_n 0, 1) := by decide +kernel
theorem dX1_settle_10 : decode cX1_settle 10 = .ok (.invokevirtual 56, 3) := by decide +kernel
theorem dX1_settle_13 : decode cX1_settle 13 = .ok (.istore_n 2, 1) := by decide +kernel
theorem dX1_settle_14 : decode cX1_settle 14 = .ok (.iload_n 2, 1) := by decide +kernel
theorem dX1_settle_15 : decode cX1_settle 15 = .ok (.iconst (-1), 1) := by decide +kernel
theorem dX1_settle_16 : decode cX1_settle 16 = .ok (.if_icmp .ne 5, 3) := by decide +kernel
theorem dX1_settle_19 : decode cX1_settle 19 = .ok (.iload_n 1, 1) := by decide +kernel
theorem dX1_settle_20 : decode cX1_settle 20 = .ok (.ireturn, 1) := by decide +kernel
theorem dX1_settle_21 : decode cX1_settle 21 = .ok (.aload_n 0, 1) := by decide +kernel
theorem dX1_settle_22 : decode cX1_settle 22 = .ok (.iload_n 2, 1) := by decide +kernel
theorem dX1_settle_23 : decode cX1_settle 23 = .ok (.invokevirtual 60, 3) := by decide +kernel
theorem dX1_settle_26 : decode cX1_settle 26 = .ok (.iinc 1 1, 3) := by decide +kernel
theorem dX1_settle_29 : decode cX1_settle 29 = .ok (.goto (-27), 3) := by decide +kernel
theorem dX1_settle_32 : decode cX1_settle 32 = .ok (.aload_n 0, 1) := by decide +kernel
theorem dX1_settle_33 : decode cX1_settle 33 = .ok (.invokevirtual 56, 3) := by decide +kernel
theorem dX1_settle_36 : decode cX1_settle 36 = .ok (.iconst (-1), 1) := by decide +kernel
theorem dX1_settle_37 : decode cX1_settle 37 = .ok (.if_icmp .ne 9, 3) := by decide +kernel
theorem dX1_settle_40 : decode cX1_settle 40 = .ok (.sipush 1000, 3) := by decide +kernel
theorem dX1_settle_43 : decode cX1_settle 43 = .ok (.goto 4, 3) := by decide +kernel
theorem dX1_settle_46 : decode cX1_settle 46 = .ok (.iconst (-1), 1) := by decide +kernel
theorem dX1_settle_47 : decode cX1_settle 47 = .ok (.ireturn, 1) := by decide +kernel
theorem dX1_leastRestless_0 : decode cX1_leastRestless 0 = .ok (.iconst 0, 1) := by decide +kernel
theorem dX1_leastRestless_1 : decode cX1_leastRestless 1 = .ok (.istore_n 1, 1) := by decide +kernel
theorem dX1_leastRestless_2 : decode cX1_leastRestless 2 = .ok (.iload_n 1, 1) := by decide +kernel
theorem dX1_leastRestless_3 : decode cX1_leastRestless 3 = .ok (.aload_n 0, 1) := by decide +kernel
theorem dX1_leastRestless_4 : decode cX1_leastRestless 4 = .ok (.getfield 27, 3) := by decide +kernel
theorem dX1_leastRestless_7 : decode cX1_leastRestless 7 = .ok (.getfield 41, 3) := by decide +kernel
theorem dX1_leastRestless_10 : decode cX1_leastRestless 10 = .ok (.if_icmp .ge 19, 3) := by decide +kernel
theorem dX1_leastRestless_13 : decode cX1_leastRestless 13 = .ok (.aload_n 0, 1) := by decide +kernel
theorem dX1_leastRestless_14 : decode cX1_leastRestless 14 = .ok (.iload_n 1, 1) := by decide +kernel
theorem dX1_leastRestless_15 : decode cX1_leastRestless 15 = .ok (.invokevirtual 64, 3) := by decide +kernel
theorem dX1_leastRestless_18 : decode cX1_leastRestless 18 = .ok (.ifCond .eq 5, 3) := by decide +kernel
theorem dX1_leastRestless_21 : decode cX1_leastRestless 21 = .ok (.iload_n 1, 1) := by decide +kernel
theorem dX1_leastRestless_22 : decode cX1_leastRestless 22 = .ok (.ireturn, 1) := by decide +kernel
theorem dX1_leastRestless_23 : decode cX1_leastRestless 23 = .ok (.iinc 1 1, 3) := by decide +kernel
theorem dX1_leastRestless_26 : decode cX1_leastRestless 26 = .ok (.goto (-24), 3) := by decide +kernel
theorem dX1_leastRestless_29 : decode cX1_leastRestless 29 = .ok (.iconst (-1), 1) := by decide +kernel
theorem dX1_leastRestless_30 : decode cX1_leastRestless 30 = .ok (.ireturn, 1) := by decide +kernel
theorem dX1_stateNow_0 : decode cX1_stateNow 0 = .ok (.iconst 0, 1) := by decide +kernel
theorem dX1_stateNow_1 : decode cX1_stateNow 1 = .ok (.istore_n 1, 1) := by decide +kernel
theorem dX1_stateNow_2 : decode cX1_stateNow 2 = .ok (.iconst 0, 1) := by decide +kernel
theorem dX1_stateNow_3 : decode cX1_stateNow 3 = .ok (.istore_n 2, 1) := by decide +kernel
theorem dX1_stateNow_4 : decode cX1_stateNow 4 = .ok (.iload_n 2, 1) := by decide +kernel
theorem dX1_stateNow_5 : decode cX1_stateNow 5 = .ok (.aload_n 0, 1) := by decide +kernel
theorem dX1_stateNow_6 : decode cX1_stateNow 6 = .ok (.getfield 27, 3) := by decide +kernel
theorem dX1_stateNow_9 : decode cX1_stateNow 9 = .ok (.getfield 41, 3) := by decide +kernel
theorem dX1_stateNow_12 : decode cX1_stateNow 12 = .ok (.if_icmp .ge 32, 3) := by decide +kernel
theorem dX1_stateNow_15 : decode cX1_stateNow 15 = .ok (.iload_n 2, 1) := by decide +kernel
theorem dX1_stateNow_16 : decode cX1_stateNow 16 = .ok (.getstatic 68, 3) := by decide +kernel
theorem dX1_stateNow_19 : decode cX1_stateNow 19 = .ok (.arraylength, 1) := by decide +kernel
theorem dX1_stateNow_20 : decode cX1_stateNow 20 = .ok (.if_icmp .ge 24, 3) := by decide +kernel
theorem dX1_stateNow_23 : decode cX1_stateNow 23 = .ok (.iload_n 1, 1) := by decide +kernel
theorem dX1_stateNow_24 : decode cX1_stateNow 24 = .ok (.aload_n 0, 1) := by decide +kernel
theorem dX1_stateNow_25 : decode cX1_stateNow 25 = .ok (.getfield 9, 3) := by decide +kernel
theorem dX1_stateNow_28 : decode cX1_stateNow 28 = .ok (.iload_n 2, 1) := by decide +kernel
theorem dX1_stateNow_29 : decode cX1_stateNow 29 = .ok (.iaload, 1) := by decide +kernel
theorem dX1_stateNow_30 : decode cX1_stateNow 30 = .ok (.getstatic 68, 3) := by decide +kernel
theorem dX1_stateNow_33 : decode cX1_stateNow 33 = .ok (.iload_n 2, 1) := by decide +kernel
theorem dX1_stateNow_34 : decode cX1_stateNow 34 = .ok (.iaload, 1) := by decide +kernel
theorem dX1_stateNow_35 : decode cX1_stateNow 35 = .ok (.imul, 1) := by decide +kernel
theorem dX1_stateNow_36 : decode cX1_stateNow 36 = .ok (.iadd, 1) := by decide +kernel
theorem dX1_stateNow_37 : decode cX1_stateNow 37 = .ok (.istore_n 1, 1) := by decide +kernel
theorem dX1_stateNow_38 : decode cX1_stateNow 38 = .ok (.iinc 2 1, 3) := by decide +kernel
theorem dX1_stateNow_41 : decode cX1_stateNow 41 = .ok (.goto (-37), 3) := by decide +kernel
theorem dX1_stateNow_44 : decode cX1_stateNow 44 = .ok (.iload_n 1, 1) := by decide +kernel
theorem dX1_stateNow_45 : decode cX1_stateNow 45 = .ok (.ireturn, 1) := by decide +kernel
theorem dX1_stateBehind_0 : decode cX1_stateBehind 0 = .ok (.iload_n 1, 1) := by decide +kernel
theorem dX1_stateBehind_1 : decode cX1_stateBehind 1 = .ok (.istore_n 3, 1) := by decide +kernel
theorem dX1_stateBehind_2 : decode cX1_stateBehind 2 = .ok (.iconst 0, 1) := by decide +kernel
theorem dX1_stateBehind_3 : decode cX1_stateBehind 3 = .ok (.istore 4, 2) := by decide +kernel
theorem dX1_stateBehind_5 : decode cX1_stateBehind 5 = .ok (.iload 4, 2) := by decide +kernel
theorem dX1_stateBehind_7 : decode cX1_stateBehind 7 = .ok (.aload_n 0, 1) := by decide +kernel
theorem dX1_stateBehind_8 : decode cX1_stateBehind 8 = .ok (.getfield 27, 3) := by decide +kernel
theorem dX1_stateBehind_11 : decode cX1_stateBehind 11 = .ok (.getfield 41, 3) := by decide +kernel
theorem dX1_stateBehind_14 : decode cX1_stateBehind 14 = .ok (.if_icmp .ge 23, 3) := by decide +kernel
theorem dX1_stateBehind_17 : decode cX1_stateBehind 17 = .ok (.aload_n 0, 1) := by decide +kernel
theorem dX1_stateBehind_18 : decode cX1_stateBehind 18 = .ok (.getfield 15, 3) := by decide +kernel
theorem dX1_stateBehind_21 : decode cX1_stateBehind 21 = .ok (.iload 4, 2) := by decide +kernel
theorem dX1_stateBehind_23 : decode cX1_stateBehind 23 = .ok (.iload_n 3, 1) := by decide +kernel
theorem dX1_stateBehind_24 : decode cX1_stateBehind 24 = .ok (.iconst 5, 1) := by decide +kernel
theorem dX1_stateBehind_25 : decode cX1_stateBehind 25 = .ok (.irem, 1) := by decide +kernel
theorem dX1_stateBehind_26 : decode cX1_stateBehind 26 = .ok (.iastore, 1) := by decide +kernel
theorem dX1_stateBehind_27 : decode cX1_stateBehind 27 = .ok (.iload_n 3, 1) := by decide +kernel
theorem dX1_stateBehind_28 : decode cX1_stateBehind 28 = .ok (.iconst 5, 1) := by decide +kernel
theorem dX1_stateBehind_29 : decode cX1_stateBehind 29 = .ok (.idiv, 1) := by decide +kernel
theorem dX1_stateBehind_30 : decode cX1_stateBehind 30 = .ok (.istore_n 3, 1) := by decide +kernel
theorem dX1_stateBehind_31 : decode cX1_stateBehind 31 = .ok (.iinc 4 1, 3) := by decide +kernel
theorem dX1_stateBehind_34 : decode cX1_stateBehind 34 = .ok (.goto (-29), 3) := by decide +kernel
theorem dX1_stateBehind_37 : decode cX1_stateBehind 37 = .ok (.iload_n 1, 1) := by decide +kernel
theorem dX1_stateBehind_38 : decode cX1_stateBehind 38 = .ok (.aload_n 0, 1) := by decide +kernel
theorem dX1_stateBehind_39 : decode cX1_stateBehind 39 = .ok (.aload_n 0, 1) := by decide +kernel
theorem dX1_stateBehind_40 : decode cX1_stateBehind 40 = .ok (.getfield 15, 3) := by decide +kernel
theorem dX1_stateBehind_43 : decode cX1_stateBehind 43 = .ok (.iload_n 2, 1) := by decide +kernel
theorem dX1_stateBehind_44 : decode cX1_stateBehind 44 = .ok (.invokevirtual 37, 3) := by decide +kernel
theorem dX1_stateBehind_47 : decode cX1_stateBehind 47 = .ok (.aload_n 0, 1) := by decide +kernel
theorem dX1_stateBehind_48 : decode cX1_stateBehind 48 = .ok (.getfield 15, 3) := by decide +kernel
theorem dX1_stateBehind_51 : decode cX1_stateBehind 51 = .ok (.iload_n 2, 1) := by decide +kernel
theorem dX1_stateBehind_52 : decode cX1_stateBehind 52 = .ok (.iaload, 1) := by decide +kernel
theorem dX1_stateBehind_53 : decode cX1_stateBehind 53 = .ok (.isub, 1) := by decide +kernel
theorem dX1_stateBehind_54 : decode cX1_stateBehind 54 = .ok (.getstatic 68, 3) := by decide +kernel
theorem dX1_stateBehind_57 : decode cX1_stateBehind 57 = .ok (.iload_n 2, 1) := by decide +kernel
theorem dX1_stateBehind_58 : decode cX1_stateBehind 58 = .ok (.iaload, 1) := by decide +kernel
theorem dX1_stateBehind_59 : decode cX1_stateBehind 59 = .ok (.imul, 1) := by decide +kernel
theorem dX1_stateBehind_60 : decode cX1_stateBehind 60 = .ok (.iadd, 1) := by decide +kernel
theorem dX1_stateBehind_61 : decode cX1_stateBehind 61 = .ok (.ireturn, 1) := by decide +kernel
theorem dX1_longestWay_0 : decode cX1_longestWay 0 = .ok (.aload_n 0, 1) := by decide +kernel
theorem dX1_longestWay_1 : decode cX1_longestWay 1 = .ok (.getfield 27, 3) := by decide +kernel
theorem dX1_longestWay_4 : decode cX1_longestWay 4 = .ok (.getfield 41, 3) := by decide +kernel
theorem dX1_longestWay_7 : decode cX1_longestWay 7 = .ok (.iconst 1, 1) := by decide +kernel
theorem dX1_longestWay_8 : decode cX1_longestWay 8 = .ok (.iadd, 1) := by decide +kernel
theorem dX1_longestWay_9 : decode cX1_longestWay 9 = .ok (.istore_n 1, 1) := by decide +kernel
theorem dX1_longestWay_10 : decode cX1_longestWay 10 = .ok (.aload_n 0, 1) := by decide +kernel
theorem dX1_longestWay_11 : decode cX1_longestWay 11 = .ok (.invokevirtual 71, 3) := by decide +kernel
theorem dX1_longestWay_14 : decode cX1_longestWay 14 = .ok (.istore_n 2, 1) := by decide +kernel
theorem dX1_longestWay_15 : decode cX1_longestWay 15 = .ok (.aload_n 0, 1) := by decide +kernel
theorem dX1_longestWay_16 : decode cX1_longestWay 16 = .ok (.getfield 21, 3) := by decide +kernel
theorem dX1_longestWay_19 : decode cX1_longestWay 19 = .ok (.iconst (-1), 1) := by decide +kernel
theorem dX1_longestWay_20 : decode cX1_longestWay 20 = .ok (.invokestatic 31, 3) := by decide +kernel
theorem dX1_longestWay_23 : decode cX1_longestWay 23 = .ok (.iconst 0, 1) := by decide +kernel
theorem dX1_longestWay_24 : decode cX1_longestWay 24 = .ok (.istore_n 3, 1) := by decide +kernel
theorem dX1_longestWay_25 : decode cX1_longestWay 25 = .ok (.aload_n 0, 1) := by decide +kernel
theorem dX1_longestWay_26 : decode cX1_longestWay 26 = .ok (.iload_n 2, 1) := by decide +kernel
theorem dX1_longestWay_27 : decode cX1_longestWay 27 = .ok (.iload_n 3, 1) := by decide +kernel
theorem dX1_longestWay_28 : decode cX1_longestWay 28 = .ok (.invokevirtual 74, 3) := by decide +kernel
theorem dX1_longestWay_31 : decode cX1_longestWay 31 = .ok (.iconst 0, 1) := by decide +kernel
theorem dX1_longestWay_32 : decode cX1_longestWay 32 = .ok (.istore 4, 2) := by decide +kernel
theorem dX1_longestWay_34 : decode cX1_longestWay 34 = .ok (.iload 4, 2) := by decide +kernel
theorem dX1_longestWay_36 : decode cX1_longestWay 36 = .ok (.ldc 78, 2) := by decide +kernel
theorem dX1_longestWay_38 : decode cX1_longestWay 38 = .ok (.if_icmp .ge 174, 3) := by decide +kernel
theorem dX1_longestWay_41 : decode cX1_longestWay 41 = .ok (.aload_n 0, 1) := by decide +kernel
theorem dX1_longestWay_42 : decode cX1_longestWay 42 = .ok (.getfield 21, 3) := by decide +kernel
theorem dX1_longestWay_45 : decode cX1_longestWay 45 = .ok (.iload_n 2, 1) := by decide +kernel
theorem dX1_longestWay_46 : decode cX1_longestWay 46 = .ok (.iaload, 1) := by decide +kernel
theorem dX1_longestWay_47 : decode cX1_longestWay 47 = .ok (.iload_n 1, 1) := by decide +kernel
theorem dX1_longestWay_48 : decode cX1_longestWay 48 = .ok (.if_icmp .eq 164, 3) := by decide +kernel
theorem dX1_longestWay_51 : decode cX1_longestWay 51 = .ok (.aload_n 0, 1) := by decide +kernel
theorem dX1_longestWay_52 : decode cX1_longestWay 52 = .ok (.getfield 24, 3) := by decide +kernel
theorem dX1_longestWay_55 : decode cX1_longestWay 55 = .ok (.iload_n 3, 1) := by decide +kernel
theorem dX1_longestWay_56 : decode cX1_longestWay 56 = .ok (.iaload, 1) := by decide +kernel
theorem dX1_longestWay_57 : decode cX1_longestWay 57 = .ok (.istore 5, 2) := by decide +kernel
theorem dX1_longestWay_59 : decode cX1_longestWay 59 = .ok (.aload_n 0, 1) := by decide +kernel
theorem dX1_longestWay_60 : decode cX1_longestWay 60 = .ok (.getfield 21, 3) := by decide +kernel
theorem dX1_longestWay_63 : decode cX1_longestWay 63 = .ok (.iload 5, 2) := by decide +kernel
theorem dX1_longestWay_65 : decode cX1_longestWay 65 = .ok (.iaload, 1) := by decide +kernel
theorem dX1_longestWay_66 : decode cX1_longestWay 66 = .ok (.istore 6, 2) := by decide +kernel
theorem dX1_longestWay_68 : decode cX1_longestWay 68 = .ok (.aload_n 0, 1) := by decide +kernel
theorem dX1_longestWay_69 : decode cX1_longestWay 69 = .ok (.getfield 21, 3) := by decide +kernel
theorem dX1_longestWay_72 : decode cX1_longestWay 72 = .ok (.iload 5, 2) := by decide +kernel
theorem dX1_longestWay_74 : decode cX1_longestWay 74 = .ok (.dup2, 1) := by decide +kernel
theorem dX1_longestWay_75 : decode cX1_longestWay 75 = .ok (.iaload, 1) := by decide +kernel
theorem dX1_longestWay_76 : decode cX1_longestWay 76 = .ok (.iconst 1, 1) := by decide +kernel
theorem dX1_longestWay_77 : decode cX1_longestWay 77 = .ok (.iadd, 1) := by decide +kernel
theorem dX1_longestWay_78 : decode cX1_longestWay 78 = .ok (.iastore, 1) := by decide +kernel
theorem dX1_longestWay_79 : decode cX1_longestWay 79 = .ok (.iload 6, 2) := by decide +kernel
theorem dX1_longestWay_81 : decode cX1_longestWay 81 = .ok (.aload_n 0, 1) := by decide +kernel
theorem dX1_longestWay_82 : decode cX1_longestWay 82 = .ok (.getfield 27, 3) := by decide +kernel
theorem dX1_longestWay_85 : decode cX1_longestWay 85 = .ok (.getfield 41, 3) := by decide +kernel
theorem dX1_longestWay_88 : decode cX1_longestWay 88 = .ok (.if_icmp .ne 14, 3) := by decide +kernel
theorem dX1_longestWay_91 : decode cX1_longestWay 91 = .ok (.iload_n 3, 1) := by decide +kernel
theorem dX1_longestWay_92 : decode cX1_longestWay 92 = .ok (.iconst 1, 1) := by decide +kernel
theorem dX1_longestWay_93 : decode cX1_longestWay 93 = .ok (.isub, 1) := by decide +kernel
theorem dX1_longestWay_94 : decode cX1_longestWay 94 = .ok (.iconst 0, 1) := by decide +kernel
theorem dX1_longestWay_95 : decode cX1_longestWay 95 = .ok (.invokestatic 79, 3) := by decide +kernel
theorem dX1_longestWay_98 : decode cX1_longestWay 98 = .ok (.istore_n 3, 1) := by decide +kernel
theorem dX1_longestWay_99 : decode cX1_longestWay 99 = .ok (.goto 107, 3) := by decide +kernel
theorem dX1_longestWay_102 : decode cX1_longestWay 102 = .ok (.aload_n 0, 1) := by decide +kernel
theorem dX1_longestWay_103 : decode cX1_longestWay 103 = .ok (.iload 5, 2) := by decide +kernel
theorem dX1_longestWay_105 : decode cX1_longestWay 105 = .ok (.iload 6, 2) := by decide +kernel
theorem dX1_longestWay_107 : decode cX1_longestWay 107 = .ok (.invokevirtual 82, 3) := by decide +kernel
theorem dX1_longestWay_110 : decode cX1_longestWay 110 = .ok (.istore 7, 2) := by decide +kernel
theorem dX1_longestWay_112 : decode cX1_longestWay 112 = .ok (.iload 7, 2) := by decide +kernel
theorem dX1_longestWay_114 : decode cX1_longestWay 114 = .ok (.iload 5, 2) := by decide +kernel
theorem dX1_longestWay_116 : decode cX1_longestWay 116 = .ok (.if_icmp .ne 6, 3) := by decide +kernel
theorem dX1_longestWay_119 : decode cX1_longestWay 119 = .ok (.goto 87, 3) := by decide +kernel
theorem dX1_longestWay_122 : decode cX1_longestWay 122 = .ok (.aload_n 0, 1) := by decide +kernel
theorem dX1_longestWay_123 : decode cX1_longestWay 123 = .ok (.getfield 21, 3) := by decide +kernel
theorem dX1_longestWay_126 : decode cX1_longestWay 126 = .ok (.iload 7, 2) := by decide +kernel
theorem dX1_longestWay_128 : decode cX1_longestWay 128 = .ok (.iaload, 1) := by decide +kernel
theorem dX1_longestWay_129 : decode cX1_longestWay 129 = .ok (.iconst (-1), 1) := by decide +kernel
theorem dX1_longestWay_130 : decode cX1_longestWay 130 = .ok (.if_icmp .ne 34, 3) := by decide +kernel
theorem dX1_longestWay_133 : decode cX1_longestWay 133 = .ok (.iload_n 3, 1) := by decide +kernel
theorem dX1_longestWay_134 : decode cX1_longestWay 134 = .ok (.iconst 1, 1) := by decide +kernel
theorem dX1_longestWay_135 : decode cX1_longestWay 135 = .ok (.iadd, 1) := by decide +kernel
theorem dX1_longestWay_136 : decode cX1_longestWay 136 = .ok (.sipush 3125, 3) := by decide +kernel
theorem dX1_longestWay_139 : decode cX1_longestWay 139 = .ok (.if_icmp .ge 25, 3) := by decide +kernel
theorem dX1_longestWay_142 : decode cX1_longestWay 142 = .ok (.aload_n 0, 1) := by decide +kernel
theorem dX1_longestWay_143 : decode cX1_longestWay 143 = .ok (.getfield 21, 3) := by decide +kernel
theorem dX1_longestWay_146 : decode cX1_longestWay 146 = .ok (.iload 5, 2) := by decide +kernel
theorem dX1_longestWay_148 : decode cX1_longestWay 148 = .ok (.iload 6, 2) := by decide +kernel
theorem dX1_longestWay_150 : decode cX1_longestWay 150 = .ok (.iastore, 1) := by decide +kernel
theorem dX1_longestWay_151 : decode cX1_longestWay 151 = .ok (.iinc 3 1, 3) := by decide +kernel
theorem dX1_longestWay_154 : decode cX1_longestWay 154 = .ok (.aload_n 0, 1) := by decide +kernel
theorem dX1_longestWay_155 : decode cX1_longestWay 155 = .ok (.iload 7, 2) := by decide +kernel
theorem dX1_longestWay_157 : decode cX1_longestWay 157 = .ok (.iload_n 3, 1) := by decide +kernel
theorem dX1_longestWay_158 : decode cX1_longestWay 158 = .ok (.invokevirtual 74, 3) := by decide +kernel
theorem dX1_longestWay_161 : decode cX1_longestWay 161 = .ok (.goto 45, 3) := by decide +kernel
theorem dX1_longestWay_164 : decode cX1_longestWay 164 = .ok (.aload_n 0, 1) := by decide +kernel
theorem dX1_longestWay_165 : decode cX1_longestWay 165 = .ok (.getfield 21, 3) := by decide +kernel
theorem dX1_longestWay_168 : decode cX1_longestWay 168 = .ok (.iload 7, 2) := by decide +kernel
theorem dX1_longestWay_170 : decode cX1_longestWay 170 = .ok (.iaload, 1) := by decide +kernel
theorem dX1_longestWay_171 : decode cX1_longestWay 171 = .ok (.iload_n 1, 1) := by decide +kernel
theorem dX1_longestWay_172 : decode cX1_longestWay 172 = .ok (.if_icmp .ne 32, 3) := by decide +kernel
theorem dX1_longestWay_175 : decode cX1_longestWay 175 = .ok (.aload_n 0, 1) := by decide +kernel
theorem dX1_longestWay_176 : decode cX1_longestWay 176 = .ok (.getfield 18, 3) := by decide +kernel
theorem dX1_longestWay_179 : decode cX1_longestWay 179 = .ok (.iload 5, 2) := by decide +kernel
theorem dX1_longestWay_181 : decode cX1_longestWay 181 = .ok (.aload_n 0, 1) := by decide +kernel
theorem dX1_longestWay_182 : decode cX1_longestWay 182 = .ok (.getfield 18, 3) := by decide +kernel
theorem dX1_longestWay_185 : decode cX1_longestWay 185 = .ok (.iload 5, 2) := by decide +kernel
theorem dX1_longestWay_187 : decode cX1_longestWay 187 = .ok (.iaload, 1) := by decide +kernel
theorem dX1_longestWay_188 : decode cX1_longestWay 188 = .ok (.aload_n 0, 1) := by decide +kernel
theorem dX1_longestWay_189 : decode cX1_longestWay 189 = .ok (.getfield 18, 3) := by decide +kernel
theorem dX1_longestWay_192 : decode cX1_longestWay 192 = .ok (.iload 7, 2) := by decide +kernel
theorem dX1_longestWay_194 : decode cX1_longestWay 194 = .ok (.iaload, 1) := by decide +kernel
theorem dX1_longestWay_195 : decode cX1_longestWay 195 = .ok (.iconst 1, 1) := by decide +kernel
theorem dX1_longestWay_196 : decode cX1_longestWay 196 = .ok (.iadd, 1) := by decide +kernel
theorem dX1_longestWay_197 : decode cX1_longestWay 197 = .ok (.invokestatic 79, 3) := by decide +kernel
theorem dX1_longestWay_200 : decode cX1_longestWay 200 = .ok (.iastore, 1) := by decide +kernel
theorem dX1_longestWay_201 : decode cX1_longestWay 201 = .ok (.goto 5, 3) := by decide +kernel
theorem dX1_longestWay_204 : decode cX1_longestWay 204 = .ok (.iconst (-1), 1) := by decide +kernel
theorem dX1_longestWay_205 : decode cX1_longestWay 205 = .ok (.ireturn, 1) := by decide +kernel
theorem dX1_longestWay_206 : decode cX1_longestWay 206 = .ok (.iinc 4 1, 3) := by decide +kernel
theorem dX1_longestWay_209 : decode cX1_longestWay 209 = .ok (.goto (-175), 3) := by decide +kernel
theorem dX1_longestWay_212 : decode cX1_longestWay 212 = .ok (.aload_n 0, 1) := by decide +kernel
theorem dX1_longestWay_213 : decode cX1_longestWay 213 = .ok (.getfield 18, 3) := by decide +kernel
theorem dX1_longestWay_216 : decode cX1_longestWay 216 = .ok (.iload_n 2, 1) := by decide +kernel
theorem dX1_longestWay_217 : decode cX1_longestWay 217 = .ok (.iaload, 1) := by decide +kernel
theorem dX1_longestWay_218 : decode cX1_longestWay 218 = .ok (.ireturn, 1) := by decide +kernel
theorem dX1_enter_0 : decode cX1_enter 0 = .ok (.aload_n 0, 1) := by decide +kernel
theorem dX1_enter_1 : decode cX1_enter 1 = .ok (.getfield 24, 3) := by decide +kernel
theorem dX1_enter_4 : decode cX1_enter 4 = .ok (.iload_n 2, 1) := by decide +kernel
theorem dX1_enter_5 : decode cX1_enter 5 = .ok (.iload_n 1, 1) := by decide +kernel
theorem dX1_enter_6 : decode cX1_enter 6 = .ok (.iastore, 1) := by decide +kernel
theorem dX1_enter_7 : decode cX1_enter 7 = .ok (.aload_n 0, 1) := by decide +kernel
theorem dX1_enter_8 : decode cX1_enter 8 = .ok (.getfield 21, 3) := by decide +kernel
theorem dX1_enter_11 : decode cX1_enter 11 = .ok (.iload_n 1, 1) := by decide +kernel
theorem dX1_enter_12 : decode cX1_enter 12 = .ok (.iconst 0, 1) := by decide +kernel
theorem dX1_enter_13 : decode cX1_enter 13 = .ok (.iastore, 1) := by decide +kernel
theorem dX1_enter_14 : decode cX1_enter 14 = .ok (.aload_n 0, 1) := by decide +kernel
theorem dX1_enter_15 : decode cX1_enter 15 = .ok (.getfield 18, 3) := by decide +kernel
theorem dX1_enter_18 : decode cX1_enter 18 = .ok (.iload_n 1, 1) := by decide +kernel
theorem dX1_enter_19 : decode cX1_enter 19 = .ok (.iconst 0, 1) := by decide +kernel
theorem dX1_enter_20 : decode cX1_enter 20 = .ok (.iastore, 1) := by decide +kernel
theorem dX1_enter_21 : decode cX1_enter 21 = .ok (.return_, 1) := by decide +kernel
theorem dX1_shortestWay_0 : decode cX1_shortestWay 0 = .ok (.aload_n 0, 1) := by decide +kernel
theorem dX1_shortestWay_1 : decode cX1_shortestWay 1 = .ok (.getfield 18, 3) := by decide +kernel
theorem dX1_shortestWay_4 : decode cX1_shortestWay 4 = .ok (.iconst (-1), 1) := by decide +kernel
theorem dX1_shortestWay_5 : decode cX1_shortestWay 5 = .ok (.invokestatic 31, 3) := by decide +kernel
theorem dX1_shortestWay_8 : decode cX1_shortestWay 8 = .ok (.iconst 1, 1) := by decide +kernel
theorem dX1_shortestWay_9 : decode cX1_shortestWay 9 = .ok (.istore_n 1, 1) := by decide +kernel
theorem dX1_shortestWay_10 : decode cX1_shortestWay 10 = .ok (.aload_n 0, 1) := by decide +kernel
theorem dX1_shortestWay_11 : decode cX1_shortestWay 11 = .ok (.getfield 24, 3) := by decide +kernel
theorem dX1_shortestWay_14 : decode cX1_shortestWay 14 = .ok (.iconst 0, 1) := by decide +kernel
theorem dX1_shortestWay_15 : decode cX1_shortestWay 15 = .ok (.aload_n 0, 1) := by decide +kernel
theorem dX1_shortestWay_16 : decode cX1_shortestWay 16 = .ok (.invokevirtual 71, 3) := by decide +kernel
theorem dX1_shortestWay_19 : decode cX1_shortestWay 19 = .ok (.iastore, 1) := by decide +kernel
theorem dX1_shortestWay_20 : decode cX1_shortestWay 20 = .ok (.aload_n 0, 1) := by decide +kernel
theorem dX1_shortestWay_21 : decode cX1_shortestWay 21 = .ok (.getfield 18, 3) := by decide +kernel
theorem dX1_shortestWay_24 : decode cX1_shortestWay 24 = .ok (.aload_n 0, 1) := by decide +kernel
theorem dX1_shortestWay_25 : decode cX1_shortestWay 25 = .ok (.getfield 24, 3) := by decide +kernel
theorem dX1_shortestWay_28 : decode cX1_shortestWay 28 = .ok (.iconst 0, 1) := by decide +kernel
theorem dX1_shortestWay_29 : decode cX1_shortestWay 29 = .ok (.iaload, 1) := by decide +kernel
theorem dX1_shortestWay_30 : decode cX1_shortestWay 30 = .ok (.iconst 0, 1) := by decide +kernel
theorem dX1_shortestWay_31 : decode cX1_shortestWay 31 = .ok (.iastore, 1) := by decide +kernel
theorem dX1_shortestWay_32 : decode cX1_shortestWay 32 = .ok (.iconst 0, 1) := by decide +kernel
theorem dX1_shortestWay_33 : decode cX1_shortestWay 33 = .ok (.istore_n 2, 1) := by decide +kernel
theorem dX1_shortestWay_34 : decode cX1_shortestWay 34 = .ok (.iload_n 2, 1) := by decide +kernel
theorem dX1_shortestWay_35 : decode cX1_shortestWay 35 = .ok (.iload_n 1, 1) := by decide +kernel
theorem dX1_shortestWay_36 : decode cX1_shortestWay 36 = .ok (.if_icmp .ge 130, 3) := by decide +kernel
theorem dX1_shortestWay_39 : decode cX1_shortestWay 39 = .ok (.iload_n 2, 1) := by decide +kernel
theorem dX1_shortestWay_40 : decode cX1_shortestWay 40 = .ok (.sipush 3125, 3) := by decide +kernel
theorem dX1_shortestWay_43 : decode cX1_shortestWay 43 = .ok (.if_icmp .ge 123, 3) := by decide +kernel
theorem dX1_shortestWay_46 : decode cX1_shortestWay 46 = .ok (.aload_n 0, 1) := by decide +kernel
theorem dX1_shortestWay_47 : decode cX1_shortestWay 47 = .ok (.getfield 24, 3) := by decide +kernel
theorem dX1_shortestWay_50 : decode cX1_shortestWay 50 = .ok (.iload_n 2, 1) := by decide +kernel
theorem dX1_shortestWay_51 : decode cX1_shortestWay 51 = .ok (.iaload, 1) := by decide +kernel
theorem dX1_shortestWay_52 : decode cX1_shortestWay 52 = .ok (.istore_n 3, 1) := by decide +kernel
theorem dX1_shortestWay_53 : decode cX1_shortestWay 53 = .ok (.iconst 1, 1) := by decide +kernel
theorem dX1_shortestWay_54 : decode cX1_shortestWay 54 = .ok (.istore 4, 2) := by decide +kernel
theorem dX1_shortestWay_56 : decode cX1_shortestWay 56 = .ok (.iconst 0, 1) := by decide +kernel
theorem dX1_shortestWay_57 : decode cX1_shortestWay 57 = .ok (.istore 5, 2) := by decide +kernel
theorem dX1_shortestWay_59 : decode cX1_shortestWay 59 = .ok (.iload 5, 2) := by decide +kernel
theorem dX1_shortestWay_61 : decode cX1_shortestWay 61 = .ok (.aload_n 0, 1) := by decide +kernel
theorem dX1_shortestWay_62 : decode cX1_shortestWay 62 = .ok (.getfield 27, 3) := by decide +kernel
theorem dX1_shortestWay_65 : decode cX1_shortestWay 65 = .ok (.getfield 41, 3) := by decide +kernel
theorem dX1_shortestWay_68 : decode cX1_shortestWay 68 = .ok (.if_icmp .ge 80, 3) := by decide +kernel
theorem dX1_shortestWay_71 : decode cX1_shortestWay 71 = .ok (.aload_n 0, 1) := by decide +kernel
theorem dX1_shortestWay_72 : decode cX1_shortestWay 72 = .ok (.iload_n 3, 1) := by decide +kernel
theorem dX1_shortestWay_73 : decode cX1_shortestWay 73 = .ok (.iload 5, 2) := by decide +kernel
theorem dX1_shortestWay_75 : decode cX1_shortestWay 75 = .ok (.invokevirtual 82, 3) := by decide +kernel
theorem dX1_shortestWay_78 : decode cX1_shortestWay 78 = .ok (.istore 6, 2) := by decide +kernel
theorem dX1_shortestWay_80 : decode cX1_shortestWay 80 = .ok (.iload 4, 2) := by decide +kernel
theorem dX1_shortestWay_82 : decode cX1_shortestWay 82 = .ok (.ifCond .eq 13, 3) := by decide +kernel
theorem dX1_shortestWay_85 : decode cX1_shortestWay 85 = .ok (.iload 6, 2) := by decide +kernel
theorem dX1_shortestWay_87 : decode cX1_shortestWay 87 = .ok (.iload_n 3, 1) := by decide +kernel
theorem dX1_shortestWay_88 : decode cX1_shortestWay 88 = .ok (.if_icmp .ne 7, 3) := by decide +kernel
theorem dX1_shortestWay_91 : decode cX1_shortestWay 91 = .ok (.iconst 1, 1) := by decide +kernel
theorem dX1_shortestWay_92 : decode cX1_shortestWay 92 = .ok (.goto 4, 3) := by decide +kernel
theorem dX1_shortestWay_95 : decode cX1_shortestWay 95 = .ok (.iconst 0, 1) := by decide +kernel
theorem dX1_shortestWay_96 : decode cX1_shortestWay 96 = .ok (.istore 4, 2) := by decide +kernel
theorem dX1_shortestWay_98 : decode cX1_shortestWay 98 = .ok (.aload_n 0, 1) := by decide +kernel
theorem dX1_shortestWay_99 : decode cX1_shortestWay 99 = .ok (.getfield 18, 3) := by decide +kernel
theorem dX1_shortestWay_102 : decode cX1_shortestWay 102 = .ok (.iload 6, 2) := by decide +kernel
theorem dX1_shortestWay_104 : decode cX1_shortestWay 104 = .ok (.iaload, 1) := by decide +kernel
theorem dX1_shortestWay_105 : decode cX1_shortestWay 105 = .ok (.iconst (-1), 1) := by decide +kernel
theorem dX1_shortestWay_106 : decode cX1_shortestWay 106 = .ok (.if_icmp .ne 36, 3) := by decide +kernel
theorem dX1_shortestWay_109 : decode cX1_shortestWay 109 = .ok (.iload_n 1, 1) := by decide +kernel
theorem dX1_shortestWay_110 : decode cX1_shortestWay 110 = .ok (.sipush 3125, 3) := by decide +kernel
theorem dX1_shortestWay_113 : decode cX1_shortestWay 113 = .ok (.if_icmp .ge 29, 3) := by decide +kernel
theorem dX1_shortestWay_116 : decode cX1_shortestWay 116 = .ok (.aload_n 0, 1) := by decide +kernel
theorem dX1_shortestWay_117 : decode cX1_shortestWay 117 = .ok (.getfield 18, 3) := by decide +kernel
theorem dX1_shortestWay_120 : decode cX1_shortestWay 120 = .ok (.iload 6, 2) := by decide +kernel
theorem dX1_shortestWay_122 : decode cX1_shortestWay 122 = .ok (.aload_n 0, 1) := by decide +kernel
theorem dX1_shortestWay_123 : decode cX1_shortestWay 123 = .ok (.getfield 18, 3) := by decide +kernel
theorem dX1_shortestWay_126 : decode cX1_shortestWay 126 = .ok (.iload_n 3, 1) := by decide +kernel
theorem dX1_shortestWay_127 : decode cX1_shortestWay 127 = .ok (.iaload, 1) := by decide +kernel
theorem dX1_shortestWay_128 : decode cX1_shortestWay 128 = .ok (.iconst 1, 1) := by decide +kernel
theorem dX1_shortestWay_129 : decode cX1_shortestWay 129 = .ok (.iadd, 1) := by decide +kernel
theorem dX1_shortestWay_130 : decode cX1_shortestWay 130 = .ok (.iastore, 1) := by decide +kernel
theorem dX1_shortestWay_131 : decode cX1_shortestWay 131 = .ok (.aload_n 0, 1) := by decide +kernel
theorem dX1_shortestWay_132 : decode cX1_shortestWay 132 = .ok (.getfield 24, 3) := by decide +kernel
theorem dX1_shortestWay_135 : decode cX1_shortestWay 135 = .ok (.iload_n 1, 1) := by decide +kernel
theorem dX1_shortestWay_136 : decode cX1_shortestWay 136 = .ok (.iload 6, 2) := by decide +kernel
theorem dX1_shortestWay_138 : decode cX1_shortestWay 138 = .ok (.iastore, 1) := by decide +kernel
theorem dX1_shortestWay_139 : decode cX1_shortestWay 139 = .ok (.iinc 1 1, 3) := by decide +kernel
theorem dX1_shortestWay_142 : decode cX1_shortestWay 142 = .ok (.iinc 5 1, 3) := by decide +kernel
theorem dX1_shortestWay_145 : decode cX1_shortestWay 145 = .ok (.goto (-86), 3) := by decide +kernel
theorem dX1_shortestWay_148 : decode cX1_shortestWay 148 = .ok (.iload 4, 2) := by decide +kernel
theorem dX1_shortestWay_150 : decode cX1_shortestWay 150 = .ok (.ifCond .eq 10, 3) := by decide +kernel
theorem dX1_shortestWay_153 : decode cX1_shortestWay 153 = .ok (.aload_n 0, 1) := by decide +kernel
theorem dX1_shortestWay_154 : decode cX1_shortestWay 154 = .ok (.getfield 18, 3) := by decide +kernel
theorem dX1_shortestWay_157 : decode cX1_shortestWay 157 = .ok (.iload_n 3, 1) := by decide +kernel
theorem dX1_shortestWay_158 : decode cX1_shortestWay 158 = .ok (.iaload, 1) := by decide +kernel
theorem dX1_shortestWay_159 : decode cX1_shortestWay 159 = .ok (.ireturn, 1) := by decide +kernel
theorem dX1_shortestWay_160 : decode cX1_shortestWay 160 = .ok (.iinc 2 1, 3) := by decide +kernel
theorem dX1_shortestWay_163 : decode cX1_shortestWay 163 = .ok (.goto (-129), 3) := by decide +kernel
theorem dX1_shortestWay_166 : decode cX1_shortestWay 166 = .ok (.iconst (-1), 1) := by decide +kernel
theorem dX1_shortestWay_167 : decode cX1_shortestWay 167 = .ok (.ireturn, 1) := by decide +kernel
theorem dX2_init_0 : decode cX2_init 0 = .ok (.aload_n 0, 1) := by decide +kernel
theorem dX2_init_1 : decode cX2_init 1 = .ok (.invokespecial 3, 3) := by decide +kernel
theorem dX2_init_4 : decode cX2_init 4 = .ok (.aload_n 0, 1) := by decide +kernel
theorem dX2_init_5 : decode cX2_init 5 = .ok (.bipush 8, 2) := by decide +kernel
theorem dX2_init_7 : decode cX2_init 7 = .ok (.newarray .int, 2) := by decide +kernel
theorem dX2_init_9 : decode cX2_init 9 = .ok (.putfield 9, 3) := by decide +kernel
theorem dX2_init_12 : decode cX2_init 12 = .ok (.aload_n 0, 1) := by decide +kernel
theorem dX2_init_13 : decode cX2_init 13 = .ok (.bipush 8, 2) := by decide +kernel
theorem dX2_init_15 : decode cX2_init 15 = .ok (.newarray .int, 2) := by decide +kernel
theorem dX2_init_17 : decode cX2_init 17 = .ok (.putfield 15, 3) := by decide +kernel
theorem dX2_init_20 : decode cX2_init 20 = .ok (.aload_n 0, 1) := by decide +kernel
theorem dX2_init_21 : decode cX2_init 21 = .ok (.bipush 8, 2) := by decide +kernel
theorem dX2_init_23 : decode cX2_init 23 = .ok (.newarray .int, 2) := by decide +kernel
theorem dX2_init_25 : decode cX2_init 25 = .ok (.putfield 18, 3) := by decide +kernel
theorem dX2_init_28 : decode cX2_init 28 = .ok (.aload_n 0, 1) := by decide +kernel
theorem dX2_init_29 : decode cX2_init 29 = .ok (.iconst 1, 1) := by decide +kernel
theorem dX2_init_30 : decode cX2_init 30 = .ok (.putfield 21, 3) := by decide +kernel
theorem dX2_init_33 : decode cX2_init 33 = .ok (.return_, 1) := by decide +kernel
theorem dX2_clear_0 : decode cX2_clear 0 = .ok (.aload_n 0, 1) := by decide +kernel
theorem dX2_clear_1 : decode cX2_clear 1 = .ok (.iload_n 1, 1) := by decide +kernel
theorem dX2_clear_2 : decode cX2_clear 2 = .ok (.putfield 21, 3) := by decide +kernel
theorem dX2_clear_5 : decode cX2_clear 5 = .ok (.aload_n 0, 1) := by decide +kernel
theorem dX2_clear_6 : decode cX2_clear 6 = .ok (.getfield 9, 3) := by decide +kernel
theorem dX2_clear_9 : decode cX2_clear 9 = .ok (.iconst 0, 1) := by decide +kernel
theorem dX2_clear_10 : decode cX2_clear 10 = .ok (.invokestatic 25, 3) := by decide +kernel
theorem dX2_clear_13 : decode cX2_clear 13 = .ok (.aload_n 0, 1) := by decide +kernel
theorem dX2_clear_14 : decode cX2_clear 14 = .ok (.getfield 15, 3) := by decide +kernel
theorem dX2_clear_17 : decode cX2_clear 17 = .ok (.iconst 0, 1) := by decide +kernel
theorem dX2_clear_18 : decode cX2_clear 18 = .ok (.invokestatic 25, 3) := by decide +kernel
theorem dX2_clear_21 : decode cX2_clear 21 = .ok (.return_, 1) := by decide +kernel
theorem dX2_has_0 : decode cX2_has 0 = .ok (.iload_n 1, 1) := by decide +kernel
theorem dX2_has_1 : decode cX2_has 1 = .ok (.ifCond .lt 15, 3) := by decide +kernel
theorem dX2_has_4 : decode cX2_has 4 = .ok (.iload_n 1, 1) := by decide +kernel
theorem dX2_has_5 : decode cX2_has 5 = .ok (.aload_n 0, 1) := by decide +kernel
theorem dX2_has_6 : decode cX2_has 6 = .ok (.getfield 21, 3) := by decide +kernel
theorem dX2_has_9 : decode cX2_has 9 = .ok (.if_icmp .ge 7, 3) := by decide +kernel
theorem dX2_has_12 : decode cX2_has 12 = .ok (.iconst 1, 1) := by decide +kernel
theorem dX2_has_13 : decode cX2_has 13 = .ok (.goto 4, 3) := by decide +kernel
theorem dX2_has_16 : decode cX2_has 16 = .ok (.iconst 0, 1) := by decide +kernel
theorem dX2_has_17 : decode cX2_has 17 = .ok (.ireturn, 1) := by decide +kernel
theorem dX2_joined_0 : decode cX2_joined 0 = .ok (.aload_n 0, 1) := by decide +kernel
theorem dX2_joined_1 : decode cX2_joined 1 = .ok (.getfield 9, 3) := by decide +kernel
theorem dX2_joined_4 : decode cX2_joined 4 = .ok (.iload_n 1, 1) := by decide +kernel
theorem dX2_joined_5 : decode cX2_joined 5 = .ok (.iaload, 1) := by decide +kernel
theorem dX2_joined_6 : decode cX2_joined 6 = .ok (.iload_n 2, 1) := by decide +kernel
theorem dX2_joined_7 : decode cX2_joined 7 = .ok (.ishr, 1) := by decide +kernel
theorem dX2_joined_8 : decode cX2_joined 8 = .ok (.iconst 1, 1) := by decide +kernel
theorem dX2_joined_9 : decode cX2_joined 9 = .ok (.iand, 1) := by decide +kernel
theorem dX2_joined_10 : decode cX2_joined 10 = .ok (.ireturn, 1) := by decide +kernel
theorem dX2_join_0 : decode cX2_join 0 = .ok (.iload_n 3, 1) := by decide +kernel
theorem dX2_join_1 : decode cX2_join 1 = .ok (.ifCond .eq 30, 3) := by decide +kernel
theorem dX2_join_4 : decode cX2_join 4 = .ok (.aload_n 0, 1) := by decide +kernel
theorem dX2_join_5 : decode cX2_join 5 = .ok (.getfield 9, 3) := by decide +kernel
theorem dX2_join_8 : decode cX2_join 8 = .ok (.iload_n 1, 1) := by decide +kernel
theorem dX2_join_9 : decode cX2_join 9 = .ok (.dup2, 1) := by decide +kernel
theorem dX2_join_10 : decode cX2_join 10 = .ok (.iaload, 1) := by decide +kernel
theorem dX2_join_11 : decode cX2_join 11 = .ok (.iconst 1, 1) := by decide +kernel
theorem dX2_join_12 : decode cX2_join 12 = .ok (.iload_n 2, 1) := by decide +kernel
theorem dX2_join_13 : decode cX2_join 13 = .ok (.ishl, 1) := by decide +kernel
theorem dX2_join_14 : decode cX2_join 14 = .ok (.ior, 1) := by decide +kernel
theorem dX2_join_15 : decode cX2_join 15 = .ok (.iastore, 1) := by decide +kernel
theorem dX2_join_16 : decode cX2_join 16 = .ok (.aload_n 0, 1) := by decide +kernel
theorem dX2_join_17 : decode cX2_join 17 = .ok (.getfield 9, 3) := by decide +kernel
theorem dX2_join_20 : decode cX2_join 20 = .ok (.iload_n 2, 1) := by decide +kernel
theorem dX2_join_21 : decode cX2_join 21 = .ok (.dup2, 1) := by decide +kernel
theorem dX2_join_22 : decode cX2_join 22 = .ok (.iaload, 1) := by decide +kernel
theorem dX2_join_23 : decode cX2_join 23 = .ok (.iconst 1, 1) := by decide +kernel
theorem dX2_join_24 : decode cX2_join 24 = .ok (.iload_n 1, 1) := by decide +kernel
theorem dX2_join_25 : decode cX2_join 25 = .ok (.ishl, 1) := by decide +kernel
theorem dX2_join_26 : decode cX2_join 26 = .ok (.ior, 1) := by decide +kernel
theorem dX2_join_27 : decode cX2_join 27 = .ok (.iastore, 1) := by decide +kernel
theorem dX2_join_28 : decode cX2_join 28 = .ok (.goto 31, 3) := by decide +kernel
theorem dX2_join_31 : decode cX2_join 31 = .ok (.aload_n 0, 1) := by decide +kernel
theorem dX2_join_32 : decode cX2_join 32 = .ok (.getfield 9, 3) := by decide +kernel
theorem dX2_join_35 : decode cX2_join 35 = .ok (.iload_n 1, 1) := by decide +kernel
theorem dX2_join_36 : decode cX2_join 36 = .ok (.dup2, 1) := by decide +kernel
theorem dX2_join_37 : decode cX2_join 37 = .ok (.iaload, 1) := by decide +kernel
theorem dX2_join_38 : decode cX2_join 38 = .ok (.iconst 1, 1) := by decide +kernel
theorem dX2_join_39 : decode cX2_join 39 = .ok (.iload_n 2, 1) := by decide +kernel
theorem dX2_join_40 : decode cX2_join 40 = .ok (.ishl, 1) := by decide +kernel
theorem dX2_join_41 : decode cX2_join 41 = .ok (.iconst (-1), 1) := by decide +kernel
theorem dX2_join_42 : decode cX2_join 42 = .ok (.ixor, 1) := by decide +kernel
theorem dX2_join_43 : decode cX2_join 43 = .ok (.iand, 1) := by decide +kernel
theorem dX2_join_44 : decode cX2_join 44 = .ok (.iastore, 1) := by decide +kernel
theorem dX2_join_45 : decode cX2_join 45 = .ok (.aload_n 0, 1) := by decide +kernel
theorem dX2_join_46 : decode cX2_join 46 = .ok (.getfield 9, 3) := by decide +kernel
theorem dX2_join_49 : decode cX2_join 49 = .ok (.iload_n 2, 1) := by decide +kernel
theorem dX2_join_50 : decode cX2_join 50 = .ok (.dup2, 1) := by decide +kernel
theorem dX2_join_51 : decode cX2_join 51 = .ok (.iaload, 1) := by decide +kernel
theorem dX2_join_52 : decode cX2_join 52 = .ok (.iconst 1, 1) := by decide +kernel
theorem dX2_join_53 : decode cX2_join 53 = .ok (.iload_n 1, 1) := by decide +kernel
theorem dX2_join_54 : decode cX2_join 54 = .ok (.ishl, 1) := by decide +kernel
theorem dX2_join_55 : decode cX2_join 55 = .ok (.iconst (-1), 1) := by decide +kernel
theorem dX2_join_56 : decode cX2_join 56 = .ok (.ixor, 1) := by decide +kernel
theorem dX2_join_57 : decode cX2_join 57 = .ok (.iand, 1) := by decide +kernel
theorem dX2_join_58 : decode cX2_join 58 = .ok (.iastore, 1) := by decide +kernel
theorem dX2_join_59 : decode cX2_join 59 = .ok (.return_, 1) := by decide +kernel
theorem dX2_lineCount_0 : decode cX2_lineCount 0 = .ok (.iconst 0, 1) := by decide +kernel
theorem dX2_lineCount_1 : decode cX2_lineCount 1 = .ok (.istore_n 1, 1) := by decide +kernel
theorem dX2_lineCount_2 : decode cX2_lineCount 2 = .ok (.iconst 0, 1) := by decide +kernel
theorem dX2_lineCount_3 : decode cX2_lineCount 3 = .ok (.istore_n 2, 1) := by decide +kernel
theorem dX2_lineCount_4 : decode cX2_lineCount 4 = .ok (.iload_n 2, 1) := by decide +kernel
theorem dX2_lineCount_5 : decode cX2_lineCount 5 = .ok (.aload_n 0, 1) := by decide +kernel
theorem dX2_lineCount_6 : decode cX2_lineCount 6 = .ok (.getfield 21, 3) := by decide +kernel
theorem dX2_lineCount_9 : decode cX2_lineCount 9 = .ok (.if_icmp .ge 21, 3) := by decide +kernel
theorem dX2_lineCount_12 : decode cX2_lineCount 12 = .ok (.iload_n 1, 1) := by decide +kernel
theorem dX2_lineCount_13 : decode cX2_lineCount 13 = .ok (.aload_n 0, 1) := by decide +kernel
theorem dX2_lineCount_14 : decode cX2_lineCount 14 = .ok (.getfield 9, 3) := by decide +kernel
theorem dX2_lineCount_17 : decode cX2_lineCount 17 = .ok (.iload_n 2, 1) := by decide +kernel
theorem dX2_lineCount_18 : decode cX2_lineCount 18 = .ok (.iaload, 1) := by decide +kernel
theorem dX2_lineCount_19 : decode cX2_lineCount 19 = .ok (.invokestatic 31, 3) := by decide +kernel
theorem dX2_lineCount_22 : decode cX2_lineCount 22 = .ok (.iadd, 1) := by decide +kernel
theorem dX2_lineCount_23 : decode cX2_lineCount 23 = .ok (.istore_n 1, 1) := by decide +kernel
theorem dX2_lineCount_24 : decode cX2_lineCount 24 = .ok (.iinc 2 1, 3) := by decide +kernel
theorem dX2_lineCount_27 : decode cX2_lineCount 27 = .ok (.goto (-23), 3) := by decide +kernel
theorem dX2_lineCount_30 : decode cX2_lineCount 30 = .ok (.iload_n 1, 1) := by decide +kernel
theorem dX2_lineCount_31 : decode cX2_lineCount 31 = .ok (.iconst 2, 1) := by decide +kernel
theorem dX2_lineCount_32 : decode cX2_lineCount 32 = .ok (.idiv, 1) := by decide +kernel
theorem dX2_lineCount_33 : decode cX2_lineCount 33 = .ok (.ireturn, 1) := by decide +kernel
theorem dX2_leaders_0 : decode cX2_leaders 0 = .ok (.iconst 0, 1) := by decide +kernel
theorem dX2_leaders_1 : decode cX2_leaders 1 = .ok (.istore_n 1, 1) := by decide +kernel
theorem dX2_leaders_2 : decode cX2_leaders 2 = .ok (.iconst 0, 1) := by decide +kernel
theorem dX2_leaders_3 : decode cX2_leaders 3 = .ok (.istore_n 2, 1) := by decide +kernel
theorem dX2_leaders_4 : decode cX2_leaders 4 = .ok (.iload_n 2, 1) := by decide +kernel
theorem dX2_leaders_5 : decode cX2_leaders 5 = .ok (.aload_n 0, 1) := by decide +kernel
theorem dX2_leaders_6 : decode cX2_leaders 6 = .ok (.getfield 21, 3) := by decide +kernel
theorem dX2_leaders_9 : decode cX2_leaders 9 = .ok (.if_icmp .ge 25, 3) := by decide +kernel
theorem dX2_leaders_12 : decode cX2_leaders 12 = .ok (.aload_n 0, 1) := by decide +kernel
theorem dX2_leaders_13 : decode cX2_leaders 13 = .ok (.getfield 15, 3) := by decide +kernel
theorem dX2_leaders_16 : decode cX2_leaders 16 = .ok (.iload_n 2, 1) := by decide +kernel
theorem dX2_leaders_17 : decode cX2_leaders 17 = .ok (.iaload, 1) := by decide +kernel
theorem dX2_leaders_18 : decode cX2_leaders 18 = .ok (.iconst 1, 1) := by decide +kernel
theorem dX2_leaders_19 : decode cX2_leaders 19 = .ok (.if_icmp .ne 9, 3) := by decide +kernel
theorem dX2_leaders_22 : decode cX2_leaders 22 = .ok (.iload_n 1, 1) := by decide +kernel
theorem dX2_leaders_23 : decode cX2_leaders 23 = .ok (.iconst 1, 1) := by decide +kernel
theorem dX2_leaders_24 : decode cX2_leaders 24 = .ok (.iload_n 2, 1) := by decide +kernel
theorem dX2_leaders_25 : decode cX2_leaders 25 = .ok (.ishl, 1) := by decide +kernel
theorem dX2_leaders_26 : decode cX2_leaders 26 = .ok (.ior, 1) := by decide +kernel
theorem dX2_leaders_27 : decode cX2_leaders 27 = .ok (.istore_n 1, 1) := by decide +kernel
theorem dX2_leaders_28 : decode cX2_leaders 28 = .ok (.iinc 2 1, 3) := by decide +kernel
theorem dX2_leaders_31 : decode cX2_leaders 31 = .ok (.goto (-27), 3) := by decide +kernel
theorem dX2_leaders_34 : decode cX2_leaders 34 = .ok (.iload_n 1, 1) := by decide +kernel
theorem dX2_leaders_35 : decode cX2_leaders 35 = .ok (.ireturn, 1) := by decide +kernel
theorem dX2_measure_0 : decode cX2_measure 0 = .ok (.aload_n 0, 1) := by decide +kernel
theorem dX2_measure_1 : decode cX2_measure 1 = .ok (.getfield 18, 3) := by decide +kernel
theorem dX2_measure_4 : decode cX2_measure 4 = .ok (.iconst (-1), 1) := by decide +kernel
theorem dX2_measure_5 : decode cX2_measure 5 = .ok (.invokestatic 25, 3) := by decide +kernel
theorem dX2_measure_8 : decode cX2_measure 8 = .ok (.aload_n 0, 1) := by decide +kernel
theorem dX2_measure_9 : decode cX2_measure 9 = .ok (.getfield 18, 3) := by decide +kernel
theorem dX2_measure_12 : decode cX2_measure 12 = .ok (.iload_n 1, 1) := by decide +kernel
theorem dX2_measure_13 : decode cX2_measure 13 = .ok (.iconst 0, 1) := by decide +kernel
theorem dX2_measure_14 : decode cX2_measure 14 = .ok (.iastore, 1) := by decide +kernel
theorem dX2_measure_15 : decode cX2_measure 15 = .ok (.iconst 1, 1) := by decide +kernel
theorem dX2_measure_16 : decode cX2_measure 16 = .ok (.iload_n 1, 1) := by decide +kernel
theorem dX2_measure_17 : decode cX2_measure 17 = .ok (.ishl, 1) := by decide +kernel
theorem dX2_measure_18 : decode cX2_measure 18 = .ok (.istore_n 2, 1) := by decide +kernel
theorem dX2_measure_19 : decode cX2_measure 19 = .ok (.iload_n 2, 1) := by decide +kernel
theorem dX2_measure_20 : decode cX2_measure 20 = .ok (.istore_n 3, 1) := by decide +kernel
theorem dX2_measure_21 : decode cX2_measure 21 = .ok (.iconst 1, 1) := by decide +kernel
theorem dX2_measure_22 : decode cX2_measure 22 = .ok (.istore 4, 2) := by decide +kernel
theorem dX2_measure_24 : decode cX2_measure 24 = .ok (.iload 4, 2) := by decide +kernel
theorem dX2_measure_26 : decode cX2_measure 26 = .ok (.aload_n 0, 1) := by decide +kernel
theorem dX2_measure_27 : decode cX2_measure 27 = .ok (.getfield 21, 3) := by decide +kernel
theorem dX2_measure_30 : decode cX2_measure 30 = .ok (.if_icmp .ge 60, 3) := by decide +kernel
theorem dX2_measure_33 : decode cX2_measure 33 = .ok (.aload_n 0, 1) := by decide +kernel
theorem dX2_measure_34 : decode cX2_measure 34 = .ok (.iload_n 3, 1) := by decide +kernel
theorem dX2_measure_35 : decode cX2_measure 35 = .ok (.invokevirtual 37, 3) := by decide +kernel
theorem dX2_measure_38 : decode cX2_measure 38 = .ok (.iload_n 2, 1) := by decide +kernel
theorem dX2_measure_39 : decode cX2_measure 39 = .ok (.iconst (-1), 1) := by decide +kernel
theorem dX2_measure_40 : decode cX2_measure 40 = .ok (.ixor, 1) := by decide +kernel
theorem dX2_measure_41 : decode cX2_measure 41 = .ok (.iand, 1) := by decide +kernel
theorem dX2_measure_42 : decode cX2_measure 42 = .ok (.istore_n 3, 1) := by decide +kernel
theorem dX2_measure_43 : decode cX2_measure 43 = .ok (.iload_n 2, 1) := by decide +kernel
theorem dX2_measure_44 : decode cX2_measure 44 = .ok (.iload_n 3, 1) := by decide +kernel
theorem dX2_measure_45 : decode cX2_measure 45 = .ok (.ior, 1) := by decide +kernel
theorem dX2_measure_46 : decode cX2_measure 46 = .ok (.istore_n 2, 1) := by decide +kernel
theorem dX2_measure_47 : decode cX2_measure 47 = .ok (.iconst 0, 1) := by decide +kernel
theorem dX2_measure_48 : decode cX2_measure 48 = .ok (.istore 5, 2) := by decide +kernel
theorem dX2_measure_50 : decode cX2_measure 50 = .ok (.iload 5, 2) := by decide +kernel
theorem dX2_measure_52 : decode cX2_measure 52 = .ok (.aload_n 0, 1) := by decide +kernel
theorem dX2_measure_53 : decode cX2_measure 53 = .ok (.getfield 21, 3) := by decide +kernel
theorem dX2_measure_56 : decode cX2_measure 56 = .ok (.if_icmp .ge 28, 3) := by decide +kernel
theorem dX2_measure_59 : decode cX2_measure 59 = .ok (.iload_n 3, 1) := by decide +kernel
theorem dX2_measure_60 : decode cX2_measure 60 = .ok (.iload 5, 2) := by decide +kernel
theorem dX2_measure_62 : decode cX2_measure 62 = .ok (.ishr, 1) := by decide +kernel
theorem dX2_measure_63 : decode cX2_measure 63 = .ok (.iconst 1, 1) := by decide +kernel
theorem dX2_measure_64 : decode cX2_measure 64 = .ok (.iand, 1) := by decide +kernel
theorem dX2_measure_65 : decode cX2_measure 65 = .ok (.iconst 1, 1) := by decide +kernel
theorem dX2_measure_66 : decode cX2_measure 66 = .ok (.if_icmp .ne 12, 3) := by decide +kernel
theorem dX2_measure_69 : decode cX2_measure 69 = .ok (.aload_n 0, 1) := by decide +kernel
theorem dX2_measure_70 : decode cX2_measure 70 = .ok (.getfield 18, 3) := by decide +kernel
theorem dX2_measure_73 : decode cX2_measure 73 = .ok (.iload 5, 2) := by decide +kernel
theorem dX2_measure_75 : decode cX2_measure 75 = .ok (.iload 4, 2) := by decide +kernel
theorem dX2_measure_77 : decode cX2_measure 77 = .ok (.iastore, 1) := by decide +kernel
theorem dX2_measure_78 : decode cX2_measure 78 = .ok (.iinc 5 1, 3) := by decide +kernel
theorem dX2_measure_81 : decode cX2_measure 81 = .ok (.goto (-31), 3) := by decide +kernel
theorem dX2_measure_84 : decode cX2_measure 84 = .ok (.iinc 4 1, 3) := by decide +kernel
theorem dX2_measure_87 : decode cX2_measure 87 = .ok (.goto (-63), 3) := by decide +kernel
theorem dX2_measure_90 : decode cX2_measure 90 = .ok (.iload_n 2, 1) := by decide +kernel
theorem dX2_measure_91 : decode cX2_measure 91 = .ok (.ireturn, 1) := by decide +kernel
theorem dX2_nearAny_0 : decode cX2_nearAny 0 = .ok (.iconst 0, 1) := by decide +kernel
theorem dX2_nearAny_1 : decode cX2_nearAny 1 = .ok (.istore_n 2, 1) := by decide +kernel
theorem dX2_nearAny_2 : decode cX2_nearAny 2 = .ok (.iconst 0, 1) := by decide +kernel
theorem dX2_nearAny_3 : decode cX2_nearAny 3 = .ok (.istore_n 3, 1) := by decide +kernel
theorem dX2_nearAny_4 : decode cX2_nearAny 4 = .ok (.iload_n 3, 1) := by decide +kernel
theorem dX2_nearAny_5 : decode cX2_nearAny 5 = .ok (.aload_n 0, 1) := by decide +kernel
theorem dX2_nearAny_6 : decode cX2_nearAny 6 = .ok (.getfield 21, 3) := by decide +kernel
theorem dX2_nearAny_9 : decode cX2_nearAny 9 = .ok (.if_icmp .ge 27, 3) := by decide +kernel
theorem dX2_nearAny_12 : decode cX2_nearAny 12 = .ok (.iload_n 1, 1) := by decide +kernel
theorem dX2_nearAny_13 : decode cX2_nearAny 13 = .ok (.iload_n 3, 1) := by decide +kernel
theorem dX2_nearAny_14 : decode cX2_nearAny 14 = .ok (.ishr, 1) := by decide +kernel
theorem dX2_nearAny_15 : decode cX2_nearAny 15 = .ok (.iconst 1, 1) := by decide +kernel
theorem dX2_nearAny_16 : decode cX2_nearAny 16 = .ok (.iand, 1) := by decide +kernel
theorem dX2_nearAny_17 : decode cX2_nearAny 17 = .ok (.iconst 1, 1) := by decide +kernel
theorem dX2_nearAny_18 : decode cX2_nearAny 18 = .ok (.if_icmp .ne 12, 3) := by decide +kernel
theorem dX2_nearAny_21 : decode cX2_nearAny 21 = .ok (.iload_n 2, 1) := by decide +kernel
theorem dX2_nearAny_22 : decode cX2_nearAny 22 = .ok (.aload_n 0, 1) := by decide +kernel
theorem dX2_nearAny_23 : decode cX2_nearAny 23 = .ok (.getfield 9, 3) := by decide +kernel
theorem dX2_nearAny_26 : decode cX2_nearAny 26 = .ok (.iload_n 3, 1) := by decide +kernel
theorem dX2_nearAny_27 : decode cX2_nearAny 27 = .ok (.iaload, 1) := by decide +kernel
theorem dX2_nearAny_28 : decode cX2_nearAny 28 = .ok (.ior, 1) := by decide +kernel
theorem dX2_nearAny_29 : decode cX2_nearAny 29 = .ok (.istore_n 2, 1) := by decide +kernel
theorem dX2_nearAny_30 : decode cX2_nearAny 30 = .ok (.iinc 3 1, 3) := by decide +kernel
theorem dX2_nearAny_33 : decode cX2_nearAny 33 = .ok (.goto (-29), 3) := by decide +kernel
theorem dX2_nearAny_36 : decode cX2_nearAny 36 = .ok (.iload_n 2, 1) := by decide +kernel
theorem dX2_nearAny_37 : decode cX2_nearAny 37 = .ok (.ireturn, 1) := by decide +kernel
theorem dX2_setCount_0 : decode cX2_setCount 0 = .ok (.iconst 0, 1) := by decide +kernel
theorem dX2_setCount_1 : decode cX2_setCount 1 = .ok (.istore_n 1, 1) := by decide +kernel
theorem dX2_setCount_2 : decode cX2_setCount 2 = .ok (.iconst 0, 1) := by decide +kernel
theorem dX2_setCount_3 : decode cX2_setCount 3 = .ok (.istore_n 2, 1) := by decide +kernel
theorem dX2_setCount_4 : decode cX2_setCount 4 = .ok (.iload_n 2, 1) := by decide +kernel
theorem dX2_setCount_5 : decode cX2_setCount 5 = .ok (.aload_n 0, 1) := by decide +kernel
theorem dX2_setCount_6 : decode cX2_setCount 6 = .ok (.getfield 21, 3) := by decide +kernel
theorem dX2_setCount_9 : decode cX2_setCount 9 = .ok (.if_icmp .ge 24, 3) := by decide +kernel
theorem dX2_setCount_12 : decode cX2_setCount 12 = .ok (.iload_n 2, 1) := by decide +kernel
theorem dX2_setCount_13 : decode cX2_setCount 13 = .ok (.aload_n 0, 1) := by decide +kernel
theorem dX2_setCount_14 : decode cX2_setCount 14 = .ok (.iload_n 2, 1) := by decide +kernel
theorem dX2_setCount_15 : decode cX2_setCount 15 = .ok (.invokevirtual 40, 3) := by decide +kernel
theorem dX2_setCount_18 : decode cX2_setCount 18 = .ok (.invokestatic 43, 3) := by decide +kernel
theorem dX2_setCount_21 : decode cX2_setCount 21 = .ok (.ifCond .eq 6, 3) := by decide +kernel
theorem dX2_setCount_24 : decode cX2_setCount 24 = .ok (.iinc 1 1, 3) := by decide +kernel
theorem dX2_setCount_27 : decode cX2_setCount 27 = .ok (.iinc 2 1, 3) := by decide +kernel
theorem dX2_setCount_30 : decode cX2_setCount 30 = .ok (.goto (-26), 3) := by decide +kernel
theorem dX2_setCount_33 : decode cX2_setCount 33 = .ok (.iload_n 1, 1) := by decide +kernel
theorem dX2_setCount_34 : decode cX2_setCount 34 = .ok (.ireturn, 1) := by decide +kernel
theorem dX2_isLeast_0 : decode cX2_isLeast 0 = .ok (.iload_n 1, 1) := by decide +kernel
theorem dX2_isLeast_1 : decode cX2_isLeast 1 = .ok (.iconst 1, 1) := by decide +kernel
theorem dX2_isLeast_2 : decode cX2_isLeast 2 = .ok (.iload_n 0, 1) := by decide +kernel
theorem dX2_isLeast_3 : decode cX2_isLeast 3 = .ok (.ishl, 1) := by decide +kernel
theorem dX2_isLeast_4 : decode cX2_isLeast 4 = .ok (.iconst 1, 1) := by decide +kernel
theorem dX2_isLeast_5 : decode cX2_isLeast 5 = .ok (.isub, 1) := by decide +kernel
theorem dX2_isLeast_6 : decode cX2_isLeast 6 = .ok (.iand, 1) := by decide +kernel
theorem dX2_isLeast_7 : decode cX2_isLeast 7 = .ok (.ifCond .ne 7, 3) := by decide +kernel
theorem dX2_isLeast_10 : decode cX2_isLeast 10 = .ok (.iconst 1, 1) := by decide +kernel
theorem dX2_isLeast_11 : decode cX2_isLeast 11 = .ok (.goto 4, 3) := by decide +kernel
theorem dX2_isLeast_14 : decode cX2_isLeast 14 = .ok (.iconst 0, 1) := by decide +kernel
theorem dX2_isLeast_15 : decode cX2_isLeast 15 = .ok (.ireturn, 1) := by decide +kernel
theorem dX3_init_0 : decode cX3_init 0 = .ok (.aload_n 0, 1) := by decide +kernel
theorem dX3_init_1 : decode cX3_init 1 = .ok (.invokespecial 3, 3) := by decide +kernel
theorem dX3_init_4 : decode cX3_init 4 = .ok (.aload_n 0, 1) := by decide +kernel
theorem dX3_init_5 : decode cX3_init 5 = .ok (.bipush 8, 2) := by decide +kernel
theorem dX3_init_7 : decode cX3_init 7 = .ok (.newarray .int, 2) := by decide +kernel
theorem dX3_init_9 : decode cX3_init 9 = .ok (.putfield 9, 3) := by decide +kernel
theorem dX3_init_12 : decode cX3_init 12 = .ok (.aload_n 0, 1) := by decide +kernel
theorem dX3_init_13 : decode cX3_init 13 = .ok (.aload_n 1, 1) := by decide +kernel
theorem dX3_init_14 : decode cX3_init 14 = .ok (.putfield 15, 3) := by decide +kernel
theorem dX3_init_17 : decode cX3_init 17 = .ok (.aload_n 0, 1) := by decide +kernel
theorem dX3_init_18 : decode cX3_init 18 = .ok (.aload_n 2, 1) := by decide +kernel
theorem dX3_init_19 : decode cX3_init 19 = .ok (.putfield 19, 3) := by decide +kernel
theorem dX3_init_22 : decode cX3_init 22 = .ok (.return_, 1) := by decide +kernel
theorem dX3_finds_0 : decode cX3_finds 0 = .ok (.aload_n 0, 1) := by decide +kernel
theorem dX3_finds_1 : decode cX3_finds 1 = .ok (.getfield 9, 3) := by decide +kernel
theorem dX3_finds_4 : decode cX3_finds 4 = .ok (.iconst 0, 1) := by decide +kernel
theorem dX3_finds_5 : decode cX3_finds 5 = .ok (.invokestatic 23, 3) := by decide +kernel
theorem dX3_finds_8 : decode cX3_finds 8 = .ok (.iload_n 1, 1) := by decide +kernel
theorem dX3_finds_9 : decode cX3_finds 9 = .ok (.tableswitch 82 0 3 #[31, 31, 72, 77], 31) := by decide +kernel
theorem dX3_finds_40 : decode cX3_finds 40 = .ok (.aload_n 0, 1) := by decide +kernel
theorem dX3_finds_41 : decode cX3_finds 41 = .ok (.getfield 19, 3) := by decide +kernel
theorem dX3_finds_44 : decode cX3_finds 44 = .ok (.iload_n 1, 1) := by decide +kernel
theorem dX3_finds_45 : decode cX3_finds 45 = .ok (.iconst 3, 1) := by decide +kernel
theorem dX3_finds_46 : decode cX3_finds 46 = .ok (.iconst 0, 1) := by decide +kernel
theorem dX3_finds_47 : decode cX3_finds 47 = .ok (.invokevirtual 29, 3) := by decide +kernel
theorem dX3_finds_50 : decode cX3_finds 50 = .ok (.aload_n 0, 1) := by decide +kernel
theorem dX3_finds_51 : decode cX3_finds 51 = .ok (.getfield 19, 3) := by decide +kernel
theorem dX3_finds_54 : decode cX3_finds 54 = .ok (.getfield 35, 3) := by decide +kernel
theorem dX3_finds_57 : decode cX3_finds 57 = .ok (.iconst 0, 1) := by decide +kernel
theorem dX3_finds_58 : decode cX3_finds 58 = .ok (.aload_n 0, 1) := by decide +kernel
theorem dX3_finds_59 : decode cX3_finds 59 = .ok (.getfield 9, 3) := by decide +kernel
theorem dX3_finds_62 : decode cX3_finds 62 = .ok (.iconst 0, 1) := by decide +kernel
theorem dX3_finds_63 : decode cX3_finds 63 = .ok (.aload_n 0, 1) := by decide +kernel
theorem dX3_finds_64 : decode cX3_finds 64 = .ok (.getfield 15, 3) := by decide +kernel
theorem dX3_finds_67 : decode cX3_finds 67 = .ok (.getfield 36, 3) := by decide +kernel
theorem dX3_finds_70 : decode cX3_finds 70 = .ok (.invokestatic 42, 3) := by decide +kernel
theorem dX3_finds_73 : decode cX3_finds 73 = .ok (.aload_n 0, 1) := by decide +kernel
theorem dX3_finds_74 : decode cX3_finds 74 = .ok (.getfield 19, 3) := by decide +kernel
theorem dX3_finds_77 : decode cX3_finds 77 = .ok (.getfield 48, 3) := by decide +kernel
theorem dX3_finds_80 : decode cX3_finds 80 = .ok (.ireturn, 1) := by decide +kernel
theorem dX3_finds_81 : decode cX3_finds 81 = .ok (.aload_n 0, 1) := by decide +kernel
theorem dX3_finds_82 : decode cX3_finds 82 = .ok (.invokevirtual 52, 3) := by decide +kernel
theorem dX3_finds_85 : decode cX3_finds 85 = .ok (.ireturn, 1) := by decide +kernel
theorem dX3_finds_86 : decode cX3_finds 86 = .ok (.aload_n 0, 1) := by decide +kernel
theorem dX3_finds_87 : decode cX3_finds 87 = .ok (.invokevirtual 56, 3) := by decide +kernel
theorem dX3_finds_90 : decode cX3_finds 90 = .ok (.ireturn, 1) := by decide +kernel
theorem dX3_finds_91 : decode cX3_finds 91 = .ok (.aload_n 0, 1) := by decide +kernel
theorem dX3_finds_92 : decode cX3_finds 92 = .ok (.invokevirtual 59, 3) := by decide +kernel
theorem dX3_finds_95 : decode cX3_finds 95 = .ok (.ireturn, 1) := by decide +kernel
theorem dX3_findsLeaders_0 : decode cX3_findsLeaders 0 = .ok (.aload_n 0, 1) := by decide +kernel
theorem dX3_findsLeaders_1 : decode cX3_findsLeaders 1 = .ok (.getfield 15, 3) := by decide +kernel
theorem dX3_findsLeaders_4 : decode cX3_findsLeaders 4 = .ok (.invokevirtual 62, 3) := by decide +kernel
theorem dX3_findsLeaders_7 : decode cX3_findsLeaders 7 = .ok (.istore_n 1, 1) := by decide +kernel
theorem dX3_findsLeaders_8 : decode cX3_findsLeaders 8 = .ok (.iconst 0, 1) := by decide +kernel
theorem dX3_findsLeaders_9 : decode cX3_findsLeaders 9 = .ok (.istore_n 2, 1) := by decide +kernel
theorem dX3_findsLeaders_10 : decode cX3_findsLeaders 10 = .ok (.iload_n 2, 1) := by decide +kernel
theorem dX3_findsLeaders_11 : decode cX3_findsLeaders 11 = .ok (.aload_n 0, 1) := by decide +kernel
theorem dX3_findsLeaders_12 : decode cX3_findsLeaders 12 = .ok (.getfield 15, 3) := by decide +kernel
theorem dX3_findsLeaders_15 : decode cX3_findsLeaders 15 = .ok (.getfield 36, 3) := by decide +kernel
theorem dX3_findsLeaders_18 : decode cX3_findsLeaders 18 = .ok (.if_icmp .ge 52, 3) := by decide +kernel
theorem dX3_findsLeaders_21 : decode cX3_findsLeaders 21 = .ok (.aload_n 0, 1) := by decide +kernel
theorem dX3_findsLeaders_22 : decode cX3_findsLeaders 22 = .ok (.getfield 15, 3) := by decide +kernel
theorem dX3_findsLeaders_25 : decode cX3_findsLeaders 25 = .ok (.iload_n 2, 1) := by decide +kernel
theorem dX3_findsLeaders_26 : decode cX3_findsLeaders 26 = .ok (.invokevirtual 66, 3) := by decide +kernel
theorem dX3_findsLeaders_29 : decode cX3_findsLeaders 29 = .ok (.istore_n 3, 1) := by decide +kernel
theorem dX3_findsLeaders_30 : decode cX3_findsLeaders 30 = .ok (.iload_n 3, 1) := by decide +kernel
theorem dX3_findsLeaders_31 : decode cX3_findsLeaders 31 = .ok (.iload_n 1, 1) := by decide +kernel
theorem dX3_findsLeaders_32 : decode cX3_findsLeaders 32 = .ok (.iand, 1) := by decide +kernel
theorem dX3_findsLeaders_33 : decode cX3_findsLeaders 33 = .ok (.invokestatic 70, 3) := by decide +kernel
theorem dX3_findsLeaders_36 : decode cX3_findsLeaders 36 = .ok (.iconst 1, 1) := by decide +kernel
theorem dX3_findsLeaders_37 : decode cX3_findsLeaders 37 = .ok (.if_icmp .eq 5, 3) := by decide +kernel
theorem dX3_findsLeaders_40 : decode cX3_findsLeaders 40 = .ok (.iconst 0, 1) := by decide +kernel
theorem dX3_findsLeaders_41 : decode cX3_findsLeaders 41 = .ok (.ireturn, 1) := by decide +kernel
theorem dX3_findsLeaders_42 : decode cX3_findsLeaders 42 = .ok (.aload_n 0, 1) := by decide +kernel
theorem dX3_findsLeaders_43 : decode cX3_findsLeaders 43 = .ok (.getfield 15, 3) := by decide +kernel
theorem dX3_findsLeaders_46 : decode cX3_findsLeaders 46 = .ok (.getfield 75, 3) := by decide +kernel
theorem dX3_findsLeaders_49 : decode cX3_findsLeaders 49 = .ok (.iload_n 2, 1) := by decide +kernel
theorem dX3_findsLeaders_50 : decode cX3_findsLeaders 50 = .ok (.iaload, 1) := by decide +kernel
theorem dX3_findsLeaders_51 : decode cX3_findsLeaders 51 = .ok (.iconst 1, 1) := by decide +kernel
theorem dX3_findsLeaders_52 : decode cX3_findsLeaders 52 = .ok (.if_icmp .ne 12, 3) := by decide +kernel
theorem dX3_findsLeaders_55 : decode cX3_findsLeaders 55 = .ok (.aload_n 0, 1) := by decide +kernel
theorem dX3_findsLeaders_56 : decode cX3_findsLeaders 56 = .ok (.iload_n 3, 1) := by decide +kernel
theorem dX3_findsLeaders_57 : decode cX3_findsLeaders 57 = .ok (.bipush 8, 2) := by decide +kernel
theorem dX3_findsLeaders_59 : decode cX3_findsLeaders 59 = .ok (.iload_n 2, 1) := by decide +kernel
theorem dX3_findsLeaders_60 : decode cX3_findsLeaders 60 = .ok (.imul, 1) := by decide +kernel
theorem dX3_findsLeaders_61 : decode cX3_findsLeaders 61 = .ok (.invokevirtual 78, 3) := by decide +kernel
theorem dX3_findsLeaders_64 : decode cX3_findsLeaders 64 = .ok (.iinc 2 1, 3) := by decide +kernel
theorem dX3_findsLeaders_67 : decode cX3_findsLeaders 67 = .ok (.goto (-57), 3) := by decide +kernel
theorem dX3_findsLeaders_70 : decode cX3_findsLeaders 70 = .ok (.iconst 1, 1) := by decide +kernel
theorem dX3_findsLeaders_71 : decode cX3_findsLeaders 71 = .ok (.ireturn, 1) := by decide +kernel
theorem dX3_allScattered_0 : decode cX3_allScattered 0 = .ok (.iconst 0, 1) := by decide +kernel
theorem dX3_allScattered_1 : decode cX3_allScattered 1 = .ok (.istore_n 1, 1) := by decide +kernel
theorem dX3_allScattered_2 : decode cX3_allScattered 2 = .ok (.iload_n 1, 1) := by decide +kernel
theorem dX3_allScattered_3 : decode cX3_allScattered 3 = .ok (.aload_n 0, 1) := by decide +kernel
theorem dX3_allScattered_4 : decode cX3_allScattered 4 = .ok (.getfield 15, 3) := by decide +kernel
theorem dX3_allScattered_7 : decode cX3_allScattered 7 = .ok (.getfield 36, 3) := by decide +kernel
theorem dX3_allScattered_10 : decode cX3_allScattered 10 = .ok (.if_icmp .ge 22, 3) := by decide +kernel
theorem dX3_allScattered_13 : decode cX3_allScattered 13 = .ok (.aload_n 0, 1) := by decide +kernel
theorem dX3_allScattered_14 : decode cX3_allScattered 14 = .ok (.getfield 15, 3) := by decide +kernel
theorem dX3_allScattered_17 : decode cX3_allScattered 17 = .ok (.iload_n 1, 1) := by decide +kernel
theorem dX3_allScattered_18 : decode cX3_allScattered 18 = .ok (.invokestatic 82, 3) := by decide +kernel
theorem dX3_allScattered_21 : decode cX3_allScattered 21 = .ok (.ifCond .ne 5, 3) := by decide +kernel
theorem dX3_allScattered_24 : decode cX3_allScattered 24 = .ok (.iconst 0, 1) := by decide +kernel
theorem dX3_allScattered_25 : decode cX3_allScattered 25 = .ok (.ireturn, 1) := by decide +kernel
theorem dX3_allScattered_26 : decode cX3_allScattered 26 = .ok (.iinc 1 1, 3) := by decide +kernel
theorem dX3_allScattered_29 : decode cX3_allScattered 29 = .ok (.goto (-27), 3) := by decide +kernel
theorem dX3_allScattered_32 : decode cX3_allScattered 32 = .ok (.iconst 1, 1) := by decide +kernel
theorem dX3_allScattered_33 : decode cX3_allScattered 33 = .ok (.ireturn, 1) := by decide +kernel
theorem dX3_findsNoRings_0 : decode cX3_findsNoRings 0 = .ok (.iconst 0, 1) := by decide +kernel
theorem dX3_findsNoRings_1 : decode cX3_findsNoRings 1 = .ok (.istore_n 1, 1) := by decide +kernel
theorem dX3_findsNoRings_2 : decode cX3_findsNoRings 2 = .ok (.iconst 0, 1) := by decide +kernel
theorem dX3_findsNoRings_3 : decode cX3_findsNoRings 3 = .ok (.istore_n 2, 1) := by decide +kernel
theorem dX3_findsNoRings_4 : decode cX3_findsNoRings 4 = .ok (.iload_n 2, 1) := by decide +kernel
theorem dX3_findsNoRings_5 : decode cX3_findsNoRings 5 = .ok (.aload_n 0, 1) := by decide +kernel
theorem dX3_findsNoRings_6 : decode cX3_findsNoRings 6 = .ok (.getfield 15, 3) := by decide +kernel
theorem dX3_findsNoRings_9 : decode cX3_findsNoRings 9 = .ok (.getfield 36, 3) := by decide +kernel
theorem dX3_findsNoRings_12 : decode cX3_findsNoRings 12 = .ok (.if_icmp .ge 35, 3) := by decide +kernel
theorem dX3_findsNoRings_15 : decode cX3_findsNoRings 15 = .ok (.aload_n 0, 1) := by decide +kernel
theorem dX3_findsNoRings_16 : decode cX3_findsNoRings 16 = .ok (.getfield 15, 3) := by decide +kernel
theorem dX3_findsNoRings_19 : decode cX3_findsNoRings 19 = .ok (.iload_n 2, 1) := by decide +kernel
theorem dX3_findsNoRings_20 : decode cX3_findsNoRings 20 = .ok (.invokevirtual 66, 3) := by decide +kernel
theorem dX3_findsNoRings_23 : decode cX3_findsNoRings 23 = .ok (.istore_n 3, 1) := by decide +kernel
theorem dX3_findsNoRings_24 : decode cX3_findsNoRings 24 = .ok (.iload_n 2, 1) := by decide +kernel
theorem dX3_findsNoRings_25 : decode cX3_findsNoRings 25 = .ok (.iload_n 3, 1) := by decide +kernel
theorem dX3_findsNoRings_26 : decode cX3_findsNoRings 26 = .ok (.invokestatic 88, 3) := by decide +kernel
theorem dX3_findsNoRings_29 : decode cX3_findsNoRings 29 = .ok (.ifCond .eq 12, 3) := by decide +kernel
theorem dX3_findsNoRings_32 : decode cX3_findsNoRings 32 = .ok (.iinc 1 1, 3) := by decide +kernel
theorem dX3_findsNoRings_35 : decode cX3_findsNoRings 35 = .ok (.aload_n 0, 1) := by decide +kernel
theorem dX3_findsNoRings_36 : decode cX3_findsNoRings 36 = .ok (.iload_n 3, 1) := by decide +kernel
theorem dX3_findsNoRings_37 : decode cX3_findsNoRings 37 = .ok (.iconst 0, 1) := by decide +kernel
theorem dX3_findsNoRings_38 : decode cX3_findsNoRings 38 = .ok (.invokevirtual 78, 3) := by decide +kernel
theorem dX3_findsNoRings_41 : decode cX3_findsNoRings 41 = .ok (.iinc 2 1, 3) := by decide +kernel
theorem dX3_findsNoRings_44 : decode cX3_findsNoRings 44 = .ok (.goto (-40), 3) := by decide +kernel
theorem dX3_findsNoRings_47 : decode cX3_findsNoRings 47 = .ok (.aload_n 0, 1) := by decide +kernel
theorem dX3_findsNoRings_48 : decode cX3_findsNoRings 48 = .ok (.getfield 15, 3) := by decide +kernel
theorem dX3_findsNoRings_51 : decode cX3_findsNoRings 51 = .ok (.invokevirtual 92, 3) := by decide +kernel
theorem dX3_findsNoRings_54 : decode cX3_findsNoRings 54 = .ok (.aload_n 0, 1) := by decide +kernel
theorem dX3_findsNoRings_55 : decode cX3_findsNoRings 55 = .ok (.getfield 15, 3) := by decide +kernel
theorem dX3_findsNoRings_58 : decode cX3_findsNoRings 58 = .ok (.getfield 36, 3) := by decide +kernel
theorem dX3_findsNoRings_61 : decode cX3_findsNoRings 61 = .ok (.iload_n 1, 1) := by decide +kernel
theorem dX3_findsNoRings_62 : decode cX3_findsNoRings 62 = .ok (.isub, 1) := by decide +kernel
theorem dX3_findsNoRings_63 : decode cX3_findsNoRings 63 = .ok (.if_icmp .ne 7, 3) := by decide +kernel
theorem dX3_findsNoRings_66 : decode cX3_findsNoRings 66 = .ok (.iconst 1, 1) := by decide +kernel
theorem dX3_findsNoRings_67 : decode cX3_findsNoRings 67 = .ok (.goto 4, 3) := by decide +kernel
theorem dX3_findsNoRings_70 : decode cX3_findsNoRings 70 = .ok (.iconst 0, 1) := by decide +kernel
theorem dX3_findsNoRings_71 : decode cX3_findsNoRings 71 = .ok (.ireturn, 1) := by decide +kernel
theorem dX3_numberFrom_0 : decode cX3_numberFrom 0 = .ok (.iconst 0, 1) := by decide +kernel
theorem dX3_numberFrom_1 : decode cX3_numberFrom 1 = .ok (.istore_n 3, 1) := by decide +kernel
theorem dX3_numberFrom_2 : decode cX3_numberFrom 2 = .ok (.iload_n 3, 1) := by decide +kernel
theorem dX3_numberFrom_3 : decode cX3_numberFrom 3 = .ok (.aload_n 0, 1) := by decide +kernel
theorem dX3_numberFrom_4 : decode cX3_numberFrom 4 = .ok (.getfield 15, 3) := by decide +kernel
theorem dX3_numberFrom_7 : decode cX3_numberFrom 7 = .ok (.getfield 36, 3) := by decide +kernel
theorem dX3_numberFrom_10 : decode cX3_numberFrom 10 = .ok (.if_icmp .ge 35, 3) := by decide +kernel
theorem dX3_numberFrom_13 : decode cX3_numberFrom 13 = .ok (.iload_n 1, 1) := by decide +kernel
theorem dX3_numberFrom_14 : decode cX3_numberFrom 14 = .ok (.iload_n 3, 1) := by decide +kernel
theorem dX3_numberFrom_15 : decode cX3_numberFrom 15 = .ok (.ishr, 1) := by decide +kernel
theorem dX3_numberFrom_16 : decode cX3_numberFrom 16 = .ok (.iconst 1, 1) := by decide +kernel
theorem dX3_numberFrom_17 : decode cX3_numberFrom 17 = .ok (.iand, 1) := by decide +kernel
theorem dX3_numberFrom_18 : decode cX3_numberFrom 18 = .ok (.iconst 1, 1) := by decide +kernel
theorem dX3_numberFrom_19 : decode cX3_numberFrom 19 = .ok (.if_icmp .ne 20, 3) := by decide +kernel
theorem dX3_numberFrom_22 : decode cX3_numberFrom 22 = .ok (.aload_n 0, 1) := by decide +kernel
theorem dX3_numberFrom_23 : decode cX3_numberFrom 23 = .ok (.getfield 9, 3) := by decide +kernel
theorem dX3_numberFrom_26 : decode cX3_numberFrom 26 = .ok (.iload_n 3, 1) := by decide +kernel
theorem dX3_numberFrom_27 : decode cX3_numberFrom 27 = .ok (.iload_n 2, 1) := by decide +kernel
end
section
theorem dX3_numberFrom_28 : decode cX3_numberFrom 28 = .ok (.aload_n 0, 1) := by decide +kernel
theorem dX3_numberFrom_29 : decode cX3_numberFrom 29 = .ok (.getfield 15, 3) := by decide +kernel
theorem dX3_numberFrom_32 : decode cX3_numberFrom 32 = .ok (.getfield 95, 3) := by decide +kernel
theorem dX3_numberFrom_35 : decode cX3_numberFrom 35 = .ok (.iload_n 3, 1) := by decide +kernel
theorem dX3_numberFrom_36 : decode cX3_numberFrom 36 = .ok (.iaload, 1) := by decide +kernel
theorem dX3_numberFrom_37 : decode cX3_numberFrom 37 = .ok (.iadd, 1) := by decide +kernel
theorem dX3_numberFrom_38 : decode cX3_numberFrom 38 = .ok (.iastore, 1) := by decide +kernel
theorem dX3_numberFrom_39 : decode cX3_numberFrom 39 = .ok (.iinc 3 1, 3) := by decide +kernel
theorem dX3_numberFrom_42 : decode cX3_numberFrom 42 = .ok (.goto (-40), 3) := by decide +kernel
theorem dX3_numberFrom_45 : decode cX3_numberFrom 45 = .ok (.return_, 1) := by decide +kernel
theorem dX4_init_0 : decode cX4_init 0 = .ok (.aload_n 0, 1) := by decide +kernel
theorem dX4_init_1 : decode cX4_init 1 = .ok (.invokespecial 3, 3) := by decide +kernel
theorem dX4_init_4 : decode cX4_init 4 = .ok (.aload_n 0, 1) := by decide +kernel
theorem dX4_init_5 : decode cX4_init 5 = .ok (.bipush 8, 2) := by decide +kernel
theorem dX4_init_7 : decode cX4_init 7 = .ok (.newarray .int, 2) := by decide +kernel
theorem dX4_init_9 : decode cX4_init 9 = .ok (.putfield 9, 3) := by decide +kernel
theorem dX4_init_12 : decode cX4_init 12 = .ok (.aload_n 0, 1) := by decide +kernel
theorem dX4_init_13 : decode cX4_init 13 = .ok (.aload_n 1, 1) := by decide +kernel
theorem dX4_init_14 : decode cX4_init 14 = .ok (.putfield 15, 3) := by decide +kernel
theorem dX4_init_17 : decode cX4_init 17 = .ok (.return_, 1) := by decide +kernel
theorem dX4_search_0 : decode cX4_search 0 = .ok (.aload_n 0, 1) := by decide +kernel
theorem dX4_search_1 : decode cX4_search 1 = .ok (.iload_n 1, 1) := by decide +kernel
theorem dX4_search_2 : decode cX4_search 2 = .ok (.putfield 19, 3) := by decide +kernel
theorem dX4_search_5 : decode cX4_search 5 = .ok (.aload_n 0, 1) := by decide +kernel
theorem dX4_search_6 : decode cX4_search 6 = .ok (.iload_n 2, 1) := by decide +kernel
theorem dX4_search_7 : decode cX4_search 7 = .ok (.putfield 23, 3) := by decide +kernel
theorem dX4_search_10 : decode cX4_search 10 = .ok (.aload_n 0, 1) := by decide +kernel
theorem dX4_search_11 : decode cX4_search 11 = .ok (.iload_n 3, 1) := by decide +kernel
theorem dX4_search_12 : decode cX4_search 12 = .ok (.putfield 26, 3) := by decide +kernel
theorem dX4_search_15 : decode cX4_search 15 = .ok (.aload_n 0, 1) := by decide +kernel
theorem dX4_search_16 : decode cX4_search 16 = .ok (.iconst 0, 1) := by decide +kernel
theorem dX4_search_17 : decode cX4_search 17 = .ok (.putfield 29, 3) := by decide +kernel
theorem dX4_search_20 : decode cX4_search 20 = .ok (.aload_n 0, 1) := by decide +kernel
theorem dX4_search_21 : decode cX4_search 21 = .ok (.iconst 0, 1) := by decide +kernel
theorem dX4_search_22 : decode cX4_search 22 = .ok (.putfield 32, 3) := by decide +kernel
theorem dX4_search_25 : decode cX4_search 25 = .ok (.aload_n 0, 1) := by decide +kernel
theorem dX4_search_26 : decode cX4_search 26 = .ok (.iconst 0, 1) := by decide +kernel
theorem dX4_search_27 : decode cX4_search 27 = .ok (.invokevirtual 36, 3) := by decide +kernel
theorem dX4_search_30 : decode cX4_search 30 = .ok (.return_, 1) := by decide +kernel
theorem dX4_place_0 : decode cX4_place 0 = .ok (.aload_n 0, 1) := by decide +kernel
theorem dX4_place_1 : decode cX4_place 1 = .ok (.getfield 15, 3) := by decide +kernel
theorem dX4_place_4 : decode cX4_place 4 = .ok (.iload_n 1, 1) := by decide +kernel
theorem dX4_place_5 : decode cX4_place 5 = .ok (.invokevirtual 40, 3) := by decide +kernel
theorem dX4_place_8 : decode cX4_place 8 = .ok (.ifCond .ne 34, 3) := by decide +kernel
theorem dX4_place_11 : decode cX4_place 11 = .ok (.aload_n 0, 1) := by decide +kernel
theorem dX4_place_12 : decode cX4_place 12 = .ok (.aload_n 0, 1) := by decide +kernel
theorem dX4_place_13 : decode cX4_place 13 = .ok (.getfield 29, 3) := by decide +kernel
theorem dX4_place_16 : decode cX4_place 16 = .ok (.aload_n 0, 1) := by decide +kernel
theorem dX4_place_17 : decode cX4_place 17 = .ok (.getfield 26, 3) := by decide +kernel
theorem dX4_place_20 : decode cX4_place 20 = .ok (.if_icmp .ne 7, 3) := by decide +kernel
theorem dX4_place_23 : decode cX4_place 23 = .ok (.iconst 1, 1) := by decide +kernel
theorem dX4_place_24 : decode cX4_place 24 = .ok (.goto 4, 3) := by decide +kernel
theorem dX4_place_27 : decode cX4_place 27 = .ok (.iconst 0, 1) := by decide +kernel
theorem dX4_place_28 : decode cX4_place 28 = .ok (.putfield 32, 3) := by decide +kernel
theorem dX4_place_31 : decode cX4_place 31 = .ok (.aload_n 0, 1) := by decide +kernel
theorem dX4_place_32 : decode cX4_place 32 = .ok (.dup, 1) := by decide +kernel
theorem dX4_place_33 : decode cX4_place 33 = .ok (.getfield 29, 3) := by decide +kernel
theorem dX4_place_36 : decode cX4_place 36 = .ok (.iconst 1, 1) := by decide +kernel
theorem dX4_place_37 : decode cX4_place 37 = .ok (.iadd, 1) := by decide +kernel
theorem dX4_place_38 : decode cX4_place 38 = .ok (.putfield 29, 3) := by decide +kernel
theorem dX4_place_41 : decode cX4_place 41 = .ok (.return_, 1) := by decide +kernel
theorem dX4_place_42 : decode cX4_place 42 = .ok (.iconst 0, 1) := by decide +kernel
theorem dX4_place_43 : decode cX4_place 43 = .ok (.istore_n 2, 1) := by decide +kernel
theorem dX4_place_44 : decode cX4_place 44 = .ok (.iload_n 2, 1) := by decide +kernel
theorem dX4_place_45 : decode cX4_place 45 = .ok (.aload_n 0, 1) := by decide +kernel
theorem dX4_place_46 : decode cX4_place 46 = .ok (.getfield 23, 3) := by decide +kernel
theorem dX4_place_49 : decode cX4_place 49 = .ok (.if_icmp .ge 54, 3) := by decide +kernel
theorem dX4_place_52 : decode cX4_place 52 = .ok (.aload_n 0, 1) := by decide +kernel
theorem dX4_place_53 : decode cX4_place 53 = .ok (.getfield 32, 3) := by decide +kernel
theorem dX4_place_56 : decode cX4_place 56 = .ok (.ifCond .ne 47, 3) := by decide +kernel
theorem dX4_place_59 : decode cX4_place 59 = .ok (.aload_n 0, 1) := by decide +kernel
theorem dX4_place_60 : decode cX4_place 60 = .ok (.getfield 15, 3) := by decide +kernel
theorem dX4_place_63 : decode cX4_place 63 = .ok (.aload_n 0, 1) := by decide +kernel
theorem dX4_place_64 : decode cX4_place 64 = .ok (.getfield 19, 3) := by decide +kernel
theorem dX4_place_67 : decode cX4_place 67 = .ok (.iload_n 1, 1) := by decide +kernel
theorem dX4_place_68 : decode cX4_place 68 = .ok (.iload_n 2, 1) := by decide +kernel
theorem dX4_place_69 : decode cX4_place 69 = .ok (.invokestatic 46, 3) := by decide +kernel
theorem dX4_place_72 : decode cX4_place 72 = .ok (.ifCond .eq 25, 3) := by decide +kernel
theorem dX4_place_75 : decode cX4_place 75 = .ok (.aload_n 0, 1) := by decide +kernel
theorem dX4_place_76 : decode cX4_place 76 = .ok (.getfield 9, 3) := by decide +kernel
theorem dX4_place_79 : decode cX4_place 79 = .ok (.iload_n 1, 1) := by decide +kernel
theorem dX4_place_80 : decode cX4_place 80 = .ok (.iload_n 2, 1) := by decide +kernel
theorem dX4_place_81 : decode cX4_place 81 = .ok (.iastore, 1) := by decide +kernel
theorem dX4_place_82 : decode cX4_place 82 = .ok (.aload_n 0, 1) := by decide +kernel
theorem dX4_place_83 : decode cX4_place 83 = .ok (.iload_n 1, 1) := by decide +kernel
theorem dX4_place_84 : decode cX4_place 84 = .ok (.invokevirtual 52, 3) := by decide +kernel
theorem dX4_place_87 : decode cX4_place 87 = .ok (.ifCond .eq 10, 3) := by decide +kernel
theorem dX4_place_90 : decode cX4_place 90 = .ok (.aload_n 0, 1) := by decide +kernel
theorem dX4_place_91 : decode cX4_place 91 = .ok (.iload_n 1, 1) := by decide +kernel
theorem dX4_place_92 : decode cX4_place 92 = .ok (.iconst 1, 1) := by decide +kernel
theorem dX4_place_93 : decode cX4_place 93 = .ok (.iadd, 1) := by decide +kernel
theorem dX4_place_94 : decode cX4_place 94 = .ok (.invokevirtual 36, 3) := by decide +kernel
theorem dX4_place_97 : decode cX4_place 97 = .ok (.iinc 2 1, 3) := by decide +kernel
theorem dX4_place_100 : decode cX4_place 100 = .ok (.goto (-56), 3) := by decide +kernel
theorem dX4_place_103 : decode cX4_place 103 = .ok (.return_, 1) := by decide +kernel
theorem dX4_stillStands_0 : decode cX4_stillStands 0 = .ok (.iconst 0, 1) := by decide +kernel
theorem dX4_stillStands_1 : decode cX4_stillStands 1 = .ok (.istore_n 2, 1) := by decide +kernel
theorem dX4_stillStands_2 : decode cX4_stillStands 2 = .ok (.iload_n 2, 1) := by decide +kernel
theorem dX4_stillStands_3 : decode cX4_stillStands 3 = .ok (.iload_n 1, 1) := by decide +kernel
theorem dX4_stillStands_4 : decode cX4_stillStands 4 = .ok (.if_icmp .gt 59, 3) := by decide +kernel
theorem dX4_stillStands_7 : decode cX4_stillStands 7 = .ok (.aload_n 0, 1) := by decide +kernel
theorem dX4_stillStands_8 : decode cX4_stillStands 8 = .ok (.getfield 15, 3) := by decide +kernel
theorem dX4_stillStands_11 : decode cX4_stillStands 11 = .ok (.getfield 55, 3) := by decide +kernel
theorem dX4_stillStands_14 : decode cX4_stillStands 14 = .ok (.iload_n 2, 1) := by decide +kernel
theorem dX4_stillStands_15 : decode cX4_stillStands 15 = .ok (.iaload, 1) := by decide +kernel
theorem dX4_stillStands_16 : decode cX4_stillStands 16 = .ok (.iconst 1, 1) := by decide +kernel
theorem dX4_stillStands_17 : decode cX4_stillStands 17 = .ok (.iload_n 2, 1) := by decide +kernel
theorem dX4_stillStands_18 : decode cX4_stillStands 18 = .ok (.ishl, 1) := by decide +kernel
theorem dX4_stillStands_19 : decode cX4_stillStands 19 = .ok (.ior, 1) := by decide +kernel
theorem dX4_stillStands_20 : decode cX4_stillStands 20 = .ok (.iload_n 1, 1) := by decide +kernel
theorem dX4_stillStands_21 : decode cX4_stillStands 21 = .ok (.ishr, 1) := by decide +kernel
theorem dX4_stillStands_22 : decode cX4_stillStands 22 = .ok (.iconst 1, 1) := by decide +kernel
theorem dX4_stillStands_23 : decode cX4_stillStands 23 = .ok (.if_icmp .ne 7, 3) := by decide +kernel
theorem dX4_stillStands_26 : decode cX4_stillStands 26 = .ok (.iconst 1, 1) := by decide +kernel
theorem dX4_stillStands_27 : decode cX4_stillStands 27 = .ok (.goto 4, 3) := by decide +kernel
theorem dX4_stillStands_30 : decode cX4_stillStands 30 = .ok (.iconst 0, 1) := by decide +kernel
theorem dX4_stillStands_31 : decode cX4_stillStands 31 = .ok (.istore_n 3, 1) := by decide +kernel
theorem dX4_stillStands_32 : decode cX4_stillStands 32 = .ok (.iload_n 3, 1) := by decide +kernel
theorem dX4_stillStands_33 : decode cX4_stillStands 33 = .ok (.ifCond .eq 24, 3) := by decide +kernel
theorem dX4_stillStands_36 : decode cX4_stillStands 36 = .ok (.aload_n 0, 1) := by decide +kernel
theorem dX4_stillStands_37 : decode cX4_stillStands 37 = .ok (.getfield 15, 3) := by decide +kernel
theorem dX4_stillStands_40 : decode cX4_stillStands 40 = .ok (.aload_n 0, 1) := by decide +kernel
theorem dX4_stillStands_41 : decode cX4_stillStands 41 = .ok (.getfield 19, 3) := by decide +kernel
theorem dX4_stillStands_44 : decode cX4_stillStands 44 = .ok (.aload_n 0, 1) := by decide +kernel
theorem dX4_stillStands_45 : decode cX4_stillStands 45 = .ok (.getfield 9, 3) := by decide +kernel
theorem dX4_stillStands_48 : decode cX4_stillStands 48 = .ok (.iload_n 2, 1) := by decide +kernel
theorem dX4_stillStands_49 : decode cX4_stillStands 49 = .ok (.invokestatic 58, 3) := by decide +kernel
theorem dX4_stillStands_52 : decode cX4_stillStands 52 = .ok (.ifCond .ne 5, 3) := by decide +kernel
theorem dX4_stillStands_55 : decode cX4_stillStands 55 = .ok (.iconst 0, 1) := by decide +kernel
theorem dX4_stillStands_56 : decode cX4_stillStands 56 = .ok (.ireturn, 1) := by decide +kernel
theorem dX4_stillStands_57 : decode cX4_stillStands 57 = .ok (.iinc 2 1, 3) := by decide +kernel
theorem dX4_stillStands_60 : decode cX4_stillStands 60 = .ok (.goto (-58), 3) := by decide +kernel
theorem dX4_stillStands_63 : decode cX4_stillStands 63 = .ok (.iconst 1, 1) := by decide +kernel
theorem dX4_stillStands_64 : decode cX4_stillStands 64 = .ok (.ireturn, 1) := by decide +kernel
theorem dX5_init_0 : decode cX5_init 0 = .ok (.aload_n 0, 1) := by decide +kernel
theorem dX5_init_1 : decode cX5_init 1 = .ok (.invokespecial 1, 3) := by decide +kernel
theorem dX5_init_4 : decode cX5_init 4 = .ok (.aload_n 0, 1) := by decide +kernel
theorem dX5_init_5 : decode cX5_init 5 = .ok (.new 7, 3) := by decide +kernel
theorem dX5_init_8 : decode cX5_init 8 = .ok (.dup, 1) := by decide +kernel
theorem dX5_init_9 : decode cX5_init 9 = .ok (.invokespecial 9, 3) := by decide +kernel
theorem dX5_init_12 : decode cX5_init 12 = .ok (.putfield 10, 3) := by decide +kernel
theorem dX5_init_15 : decode cX5_init 15 = .ok (.aload_n 0, 1) := by decide +kernel
theorem dX5_init_16 : decode cX5_init 16 = .ok (.new 16, 3) := by decide +kernel
theorem dX5_init_19 : decode cX5_init 19 = .ok (.dup, 1) := by decide +kernel
theorem dX5_init_20 : decode cX5_init 20 = .ok (.aload_n 0, 1) := by decide +kernel
theorem dX5_init_21 : decode cX5_init 21 = .ok (.getfield 10, 3) := by decide +kernel
theorem dX5_init_24 : decode cX5_init 24 = .ok (.invokespecial 18, 3) := by decide +kernel
theorem dX5_init_27 : decode cX5_init 27 = .ok (.putfield 21, 3) := by decide +kernel
theorem dX5_init_30 : decode cX5_init 30 = .ok (.aload_n 0, 1) := by decide +kernel
theorem dX5_init_31 : decode cX5_init 31 = .ok (.new 25, 3) := by decide +kernel
theorem dX5_init_34 : decode cX5_init 34 = .ok (.dup, 1) := by decide +kernel
theorem dX5_init_35 : decode cX5_init 35 = .ok (.aload_n 0, 1) := by decide +kernel
theorem dX5_init_36 : decode cX5_init 36 = .ok (.getfield 10, 3) := by decide +kernel
theorem dX5_init_39 : decode cX5_init 39 = .ok (.aload_n 0, 1) := by decide +kernel
theorem dX5_init_40 : decode cX5_init 40 = .ok (.getfield 21, 3) := by decide +kernel
theorem dX5_init_43 : decode cX5_init 43 = .ok (.invokespecial 27, 3) := by decide +kernel
theorem dX5_init_46 : decode cX5_init 46 = .ok (.putfield 30, 3) := by decide +kernel
theorem dX5_init_49 : decode cX5_init 49 = .ok (.aload_n 0, 1) := by decide +kernel
theorem dX5_init_50 : decode cX5_init 50 = .ok (.new 34, 3) := by decide +kernel
theorem dX5_init_53 : decode cX5_init 53 = .ok (.dup, 1) := by decide +kernel
theorem dX5_init_54 : decode cX5_init 54 = .ok (.aload_n 0, 1) := by decide +kernel
theorem dX5_init_55 : decode cX5_init 55 = .ok (.getfield 10, 3) := by decide +kernel
theorem dX5_init_58 : decode cX5_init 58 = .ok (.invokespecial 36, 3) := by decide +kernel
theorem dX5_init_61 : decode cX5_init 61 = .ok (.putfield 37, 3) := by decide +kernel
theorem dX5_init_64 : decode cX5_init 64 = .ok (.aload_n 0, 1) := by decide +kernel
theorem dX5_init_65 : decode cX5_init 65 = .ok (.bipush 8, 2) := by decide +kernel
theorem dX5_init_67 : decode cX5_init 67 = .ok (.newarray .int, 2) := by decide +kernel
theorem dX5_init_69 : decode cX5_init 69 = .ok (.putfield 41, 3) := by decide +kernel
theorem dX5_init_72 : decode cX5_init 72 = .ok (.aload_n 0, 1) := by decide +kernel
theorem dX5_init_73 : decode cX5_init 73 = .ok (.iconst 0, 1) := by decide +kernel
theorem dX5_init_74 : decode cX5_init 74 = .ok (.putfield 45, 3) := by decide +kernel
theorem dX5_init_77 : decode cX5_init 77 = .ok (.return_, 1) := by decide +kernel
theorem dX5_posts_0 : decode cX5_posts 0 = .ok (.iload_n 1, 1) := by decide +kernel
theorem dX5_posts_1 : decode cX5_posts 1 = .ok (.iconst 1, 1) := by decide +kernel
theorem dX5_posts_2 : decode cX5_posts 2 = .ok (.if_icmp .lt 9, 3) := by decide +kernel
theorem dX5_posts_5 : decode cX5_posts 5 = .ok (.iload_n 1, 1) := by decide +kernel
theorem dX5_posts_6 : decode cX5_posts 6 = .ok (.bipush 8, 2) := by decide +kernel
theorem dX5_posts_8 : decode cX5_posts 8 = .ok (.if_icmp .le 6, 3) := by decide +kernel
theorem dX5_posts_11 : decode cX5_posts 11 = .ok (.bipush (-102), 2) := by decide +kernel
theorem dX5_posts_13 : decode cX5_posts 13 = .ok (.ireturn, 1) := by decide +kernel
theorem dX5_posts_14 : decode cX5_posts 14 = .ok (.aload_n 0, 1) := by decide +kernel
theorem dX5_posts_15 : decode cX5_posts 15 = .ok (.getfield 10, 3) := by decide +kernel
theorem dX5_posts_18 : decode cX5_posts 18 = .ok (.iload_n 1, 1) := by decide +kernel
theorem dX5_posts_19 : decode cX5_posts 19 = .ok (.invokevirtual 49, 3) := by decide +kernel
theorem dX5_posts_22 : decode cX5_posts 22 = .ok (.aload_n 0, 1) := by decide +kernel
theorem dX5_posts_23 : decode cX5_posts 23 = .ok (.getfield 37, 3) := by decide +kernel
theorem dX5_posts_26 : decode cX5_posts 26 = .ok (.invokevirtual 53, 3) := by decide +kernel
theorem dX5_posts_29 : decode cX5_posts 29 = .ok (.aload_n 0, 1) := by decide +kernel
theorem dX5_posts_30 : decode cX5_posts 30 = .ok (.getfield 41, 3) := by decide +kernel
theorem dX5_posts_33 : decode cX5_posts 33 = .ok (.iconst 0, 1) := by decide +kernel
theorem dX5_posts_34 : decode cX5_posts 34 = .ok (.invokestatic 55, 3) := by decide +kernel
theorem dX5_posts_37 : decode cX5_posts 37 = .ok (.iload_n 1, 1) := by decide +kernel
theorem dX5_posts_38 : decode cX5_posts 38 = .ok (.ireturn, 1) := by decide +kernel
theorem dX5_line_0 : decode cX5_line 0 = .ok (.aload_n 0, 1) := by decide +kernel
theorem dX5_line_1 : decode cX5_line 1 = .ok (.getfield 10, 3) := by decide +kernel
theorem dX5_line_4 : decode cX5_line 4 = .ok (.iload_n 1, 1) := by decide +kernel
theorem dX5_line_5 : decode cX5_line 5 = .ok (.invokevirtual 61, 3) := by decide +kernel
theorem dX5_line_8 : decode cX5_line 8 = .ok (.ifCond .eq 14, 3) := by decide +kernel
theorem dX5_line_11 : decode cX5_line 11 = .ok (.aload_n 0, 1) := by decide +kernel
theorem dX5_line_12 : decode cX5_line 12 = .ok (.getfield 10, 3) := by decide +kernel
theorem dX5_line_15 : decode cX5_line 15 = .ok (.iload_n 2, 1) := by decide +kernel
theorem dX5_line_16 : decode cX5_line 16 = .ok (.invokevirtual 61, 3) := by decide +kernel
theorem dX5_line_19 : decode cX5_line 19 = .ok (.ifCond .ne 6, 3) := by decide +kernel
theorem dX5_line_22 : decode cX5_line 22 = .ok (.bipush (-101), 2) := by decide +kernel
theorem dX5_line_24 : decode cX5_line 24 = .ok (.ireturn, 1) := by decide +kernel
theorem dX5_line_25 : decode cX5_line 25 = .ok (.iload_n 1, 1) := by decide +kernel
theorem dX5_line_26 : decode cX5_line 26 = .ok (.iload_n 2, 1) := by decide +kernel
theorem dX5_line_27 : decode cX5_line 27 = .ok (.if_icmp .ne 6, 3) := by decide +kernel
theorem dX5_line_30 : decode cX5_line 30 = .ok (.bipush (-102), 2) := by decide +kernel
theorem dX5_line_32 : decode cX5_line 32 = .ok (.ireturn, 1) := by decide +kernel
theorem dX5_line_33 : decode cX5_line 33 = .ok (.aload_n 0, 1) := by decide +kernel
theorem dX5_line_34 : decode cX5_line 34 = .ok (.getfield 10, 3) := by decide +kernel
theorem dX5_line_37 : decode cX5_line 37 = .ok (.iload_n 1, 1) := by decide +kernel
theorem dX5_line_38 : decode cX5_line 38 = .ok (.iload_n 2, 1) := by decide +kernel
theorem dX5_line_39 : decode cX5_line 39 = .ok (.invokevirtual 65, 3) := by decide +kernel
theorem dX5_line_42 : decode cX5_line 42 = .ok (.istore 4, 2) := by decide +kernel
theorem dX5_line_44 : decode cX5_line 44 = .ok (.aload_n 0, 1) := by decide +kernel
theorem dX5_line_45 : decode cX5_line 45 = .ok (.getfield 10, 3) := by decide +kernel
theorem dX5_line_48 : decode cX5_line 48 = .ok (.iload_n 1, 1) := by decide +kernel
theorem dX5_line_49 : decode cX5_line 49 = .ok (.iload_n 2, 1) := by decide +kernel
theorem dX5_line_50 : decode cX5_line 50 = .ok (.iload_n 3, 1) := by decide +kernel
theorem dX5_line_51 : decode cX5_line 51 = .ok (.invokevirtual 69, 3) := by decide +kernel
theorem dX5_line_54 : decode cX5_line 54 = .ok (.iload 4, 2) := by decide +kernel
theorem dX5_line_56 : decode cX5_line 56 = .ok (.ireturn, 1) := by decide +kernel
theorem dX5_mark_0 : decode cX5_mark 0 = .ok (.aload_n 0, 1) := by decide +kernel
theorem dX5_mark_1 : decode cX5_mark 1 = .ok (.getfield 10, 3) := by decide +kernel
theorem dX5_mark_4 : decode cX5_mark 4 = .ok (.iload_n 1, 1) := by decide +kernel
theorem dX5_mark_5 : decode cX5_mark 5 = .ok (.invokevirtual 61, 3) := by decide +kernel
theorem dX5_mark_8 : decode cX5_mark 8 = .ok (.ifCond .ne 6, 3) := by decide +kernel
theorem dX5_mark_11 : decode cX5_mark 11 = .ok (.bipush (-101), 2) := by decide +kernel
theorem dX5_mark_13 : decode cX5_mark 13 = .ok (.ireturn, 1) := by decide +kernel
theorem dX5_mark_14 : decode cX5_mark 14 = .ok (.iload_n 2, 1) := by decide +kernel
theorem dX5_mark_15 : decode cX5_mark 15 = .ok (.ifCond .lt 8, 3) := by decide +kernel
theorem dX5_mark_18 : decode cX5_mark 18 = .ok (.iload_n 2, 1) := by decide +kernel
theorem dX5_mark_19 : decode cX5_mark 19 = .ok (.iconst 3, 1) := by decide +kernel
theorem dX5_mark_20 : decode cX5_mark 20 = .ok (.if_icmp .le 6, 3) := by decide +kernel
theorem dX5_mark_23 : decode cX5_mark 23 = .ok (.bipush (-102), 2) := by decide +kernel
theorem dX5_mark_25 : decode cX5_mark 25 = .ok (.ireturn, 1) := by decide +kernel
theorem dX5_mark_26 : decode cX5_mark 26 = .ok (.aload_n 0, 1) := by decide +kernel
theorem dX5_mark_27 : decode cX5_mark 27 = .ok (.getfield 10, 3) := by decide +kernel
theorem dX5_mark_30 : decode cX5_mark 30 = .ok (.getfield 73, 3) := by decide +kernel
theorem dX5_mark_33 : decode cX5_mark 33 = .ok (.iload_n 1, 1) := by decide +kernel
theorem dX5_mark_34 : decode cX5_mark 34 = .ok (.iaload, 1) := by decide +kernel
theorem dX5_mark_35 : decode cX5_mark 35 = .ok (.istore_n 3, 1) := by decide +kernel
theorem dX5_mark_36 : decode cX5_mark 36 = .ok (.aload_n 0, 1) := by decide +kernel
theorem dX5_mark_37 : decode cX5_mark 37 = .ok (.getfield 10, 3) := by decide +kernel
theorem dX5_mark_40 : decode cX5_mark 40 = .ok (.getfield 73, 3) := by decide +kernel
theorem dX5_mark_43 : decode cX5_mark 43 = .ok (.iload_n 1, 1) := by decide +kernel
theorem dX5_mark_44 : decode cX5_mark 44 = .ok (.iload_n 2, 1) := by decide +kernel
theorem dX5_mark_45 : decode cX5_mark 45 = .ok (.iastore, 1) := by decide +kernel
theorem dX5_mark_46 : decode cX5_mark 46 = .ok (.iload_n 3, 1) := by decide +kernel
theorem dX5_mark_47 : decode cX5_mark 47 = .ok (.ireturn, 1) := by decide +kernel
theorem dX5_scheme_0 : decode cX5_scheme 0 = .ok (.iload_n 1, 1) := by decide +kernel
theorem dX5_scheme_1 : decode cX5_scheme 1 = .ok (.ifCond .lt 8, 3) := by decide +kernel
theorem dX5_scheme_4 : decode cX5_scheme 4 = .ok (.iload_n 1, 1) := by decide +kernel
theorem dX5_scheme_5 : decode cX5_scheme 5 = .ok (.iconst 4, 1) := by decide +kernel
theorem dX5_scheme_6 : decode cX5_scheme 6 = .ok (.if_icmp .le 6, 3) := by decide +kernel
theorem dX5_scheme_9 : decode cX5_scheme 9 = .ok (.bipush (-102), 2) := by decide +kernel
theorem dX5_scheme_11 : decode cX5_scheme 11 = .ok (.ireturn, 1) := by decide +kernel
theorem dX5_scheme_12 : decode cX5_scheme 12 = .ok (.aload_n 0, 1) := by decide +kernel
theorem dX5_scheme_13 : decode cX5_scheme 13 = .ok (.getfield 45, 3) := by decide +kernel
theorem dX5_scheme_16 : decode cX5_scheme 16 = .ok (.istore_n 2, 1) := by decide +kernel
theorem dX5_scheme_17 : decode cX5_scheme 17 = .ok (.aload_n 0, 1) := by decide +kernel
theorem dX5_scheme_18 : decode cX5_scheme 18 = .ok (.iload_n 1, 1) := by decide +kernel
theorem dX5_scheme_19 : decode cX5_scheme 19 = .ok (.putfield 45, 3) := by decide +kernel
theorem dX5_scheme_22 : decode cX5_scheme 22 = .ok (.iload_n 2, 1) := by decide +kernel
theorem dX5_scheme_23 : decode cX5_scheme 23 = .ok (.ireturn, 1) := by decide +kernel
theorem dX5_holds_0 : decode cX5_holds 0 = .ok (.aload_n 0, 1) := by decide +kernel
theorem dX5_holds_1 : decode cX5_holds 1 = .ok (.getfield 30, 3) := by decide +kernel
theorem dX5_holds_4 : decode cX5_holds 4 = .ok (.aload_n 0, 1) := by decide +kernel
theorem dX5_holds_5 : decode cX5_holds 5 = .ok (.getfield 45, 3) := by decide +kernel
theorem dX5_holds_8 : decode cX5_holds 8 = .ok (.invokevirtual 76, 3) := by decide +kernel
theorem dX5_holds_11 : decode cX5_holds 11 = .ok (.ifCond .eq 7, 3) := by decide +kernel
theorem dX5_holds_14 : decode cX5_holds 14 = .ok (.iconst 1, 1) := by decide +kernel
theorem dX5_holds_15 : decode cX5_holds 15 = .ok (.goto 4, 3) := by decide +kernel
theorem dX5_holds_18 : decode cX5_holds 18 = .ok (.iconst 0, 1) := by decide +kernel
theorem dX5_holds_19 : decode cX5_holds 19 = .ok (.ireturn, 1) := by decide +kernel
theorem dX5_sets_0 : decode cX5_sets 0 = .ok (.aload_n 0, 1) := by decide +kernel
theorem dX5_sets_1 : decode cX5_sets 1 = .ok (.getfield 10, 3) := by decide +kernel
theorem dX5_sets_4 : decode cX5_sets 4 = .ok (.invokevirtual 79, 3) := by decide +kernel
theorem dX5_sets_7 : decode cX5_sets 7 = .ok (.ireturn, 1) := by decide +kernel
theorem dX5_far_0 : decode cX5_far 0 = .ok (.aload_n 0, 1) := by decide +kernel
theorem dX5_far_1 : decode cX5_far 1 = .ok (.getfield 10, 3) := by decide +kernel
theorem dX5_far_4 : decode cX5_far 4 = .ok (.iload_n 1, 1) := by decide +kernel
theorem dX5_far_5 : decode cX5_far 5 = .ok (.invokevirtual 61, 3) := by decide +kernel
theorem dX5_far_8 : decode cX5_far 8 = .ok (.ifCond .eq 14, 3) := by decide +kernel
theorem dX5_far_11 : decode cX5_far 11 = .ok (.aload_n 0, 1) := by decide +kernel
theorem dX5_far_12 : decode cX5_far 12 = .ok (.getfield 10, 3) := by decide +kernel
theorem dX5_far_15 : decode cX5_far 15 = .ok (.iload_n 2, 1) := by decide +kernel
theorem dX5_far_16 : decode cX5_far 16 = .ok (.invokevirtual 61, 3) := by decide +kernel
theorem dX5_far_19 : decode cX5_far 19 = .ok (.ifCond .ne 6, 3) := by decide +kernel
theorem dX5_far_22 : decode cX5_far 22 = .ok (.bipush (-101), 2) := by decide +kernel
theorem dX5_far_24 : decode cX5_far 24 = .ok (.ireturn, 1) := by decide +kernel
theorem dX5_far_25 : decode cX5_far 25 = .ok (.aload_n 0, 1) := by decide +kernel
theorem dX5_far_26 : decode cX5_far 26 = .ok (.getfield 10, 3) := by decide +kernel
theorem dX5_far_29 : decode cX5_far 29 = .ok (.iload_n 1, 1) := by decide +kernel
theorem dX5_far_30 : decode cX5_far 30 = .ok (.invokevirtual 83, 3) := by decide +kernel
theorem dX5_far_33 : decode cX5_far 33 = .ok (.pop, 1) := by decide +kernel
theorem dX5_far_34 : decode cX5_far 34 = .ok (.aload_n 0, 1) := by decide +kernel
theorem dX5_far_35 : decode cX5_far 35 = .ok (.getfield 10, 3) := by decide +kernel
theorem dX5_far_38 : decode cX5_far 38 = .ok (.getfield 87, 3) := by decide +kernel
theorem dX5_far_41 : decode cX5_far 41 = .ok (.iload_n 2, 1) := by decide +kernel
theorem dX5_far_42 : decode cX5_far 42 = .ok (.iaload, 1) := by decide +kernel
theorem dX5_far_43 : decode cX5_far 43 = .ok (.ireturn, 1) := by decide +kernel
theorem dX5_proof_0 : decode cX5_proof 0 = .ok (.aload_n 0, 1) := by decide +kernel
theorem dX5_proof_1 : decode cX5_proof 1 = .ok (.getfield 10, 3) := by decide +kernel
theorem dX5_proof_4 : decode cX5_proof 4 = .ok (.iload_n 1, 1) := by decide +kernel
theorem dX5_proof_5 : decode cX5_proof 5 = .ok (.invokevirtual 61, 3) := by decide +kernel
theorem dX5_proof_8 : decode cX5_proof 8 = .ok (.ifCond .ne 6, 3) := by decide +kernel
theorem dX5_proof_11 : decode cX5_proof 11 = .ok (.bipush (-101), 2) := by decide +kernel
theorem dX5_proof_13 : decode cX5_proof 13 = .ok (.ireturn, 1) := by decide +kernel
theorem dX5_proof_14 : decode cX5_proof 14 = .ok (.iload_n 2, 1) := by decide +kernel
theorem dX5_proof_15 : decode cX5_proof 15 = .ok (.ifCond .lt 9, 3) := by decide +kernel
theorem dX5_proof_18 : decode cX5_proof 18 = .ok (.iload_n 2, 1) := by decide +kernel
theorem dX5_proof_19 : decode cX5_proof 19 = .ok (.bipush 63, 2) := by decide +kernel
theorem dX5_proof_21 : decode cX5_proof 21 = .ok (.if_icmp .le 6, 3) := by decide +kernel
theorem dX5_proof_24 : decode cX5_proof 24 = .ok (.bipush (-102), 2) := by decide +kernel
theorem dX5_proof_26 : decode cX5_proof 26 = .ok (.ireturn, 1) := by decide +kernel
theorem dX5_proof_27 : decode cX5_proof 27 = .ok (.aload_n 0, 1) := by decide +kernel
theorem dX5_proof_28 : decode cX5_proof 28 = .ok (.getfield 41, 3) := by decide +kernel
theorem dX5_proof_31 : decode cX5_proof 31 = .ok (.iload_n 1, 1) := by decide +kernel
theorem dX5_proof_32 : decode cX5_proof 32 = .ok (.iaload, 1) := by decide +kernel
theorem dX5_proof_33 : decode cX5_proof 33 = .ok (.istore_n 3, 1) := by decide +kernel
theorem dX5_proof_34 : decode cX5_proof 34 = .ok (.aload_n 0, 1) := by decide +kernel
theorem dX5_proof_35 : decode cX5_proof 35 = .ok (.getfield 41, 3) := by decide +kernel
theorem dX5_proof_38 : decode cX5_proof 38 = .ok (.iload_n 1, 1) := by decide +kernel
theorem dX5_proof_39 : decode cX5_proof 39 = .ok (.iload_n 2, 1) := by decide +kernel
theorem dX5_proof_40 : decode cX5_proof 40 = .ok (.iastore, 1) := by decide +kernel
theorem dX5_proof_41 : decode cX5_proof 41 = .ok (.iload_n 3, 1) := by decide +kernel
theorem dX5_proof_42 : decode cX5_proof 42 = .ok (.ireturn, 1) := by decide +kernel
theorem dX5_accepts_0 : decode cX5_accepts 0 = .ok (.aload_n 0, 1) := by decide +kernel
theorem dX5_accepts_1 : decode cX5_accepts 1 = .ok (.getfield 10, 3) := by decide +kernel
theorem dX5_accepts_4 : decode cX5_accepts 4 = .ok (.iload_n 1, 1) := by decide +kernel
theorem dX5_accepts_5 : decode cX5_accepts 5 = .ok (.invokevirtual 61, 3) := by decide +kernel
theorem dX5_accepts_8 : decode cX5_accepts 8 = .ok (.ifCond .ne 6, 3) := by decide +kernel
theorem dX5_accepts_11 : decode cX5_accepts 11 = .ok (.bipush (-101), 2) := by decide +kernel
theorem dX5_accepts_13 : decode cX5_accepts 13 = .ok (.ireturn, 1) := by decide +kernel
theorem dX5_accepts_14 : decode cX5_accepts 14 = .ok (.aload_n 0, 1) := by decide +kernel
theorem dX5_accepts_15 : decode cX5_accepts 15 = .ok (.getfield 10, 3) := by decide +kernel
theorem dX5_accepts_18 : decode cX5_accepts 18 = .ok (.aload_n 0, 1) := by decide +kernel
theorem dX5_accepts_19 : decode cX5_accepts 19 = .ok (.getfield 45, 3) := by decide +kernel
theorem dX5_accepts_22 : decode cX5_accepts 22 = .ok (.aload_n 0, 1) := by decide +kernel
theorem dX5_accepts_23 : decode cX5_accepts 23 = .ok (.getfield 41, 3) := by decide +kernel
theorem dX5_accepts_26 : decode cX5_accepts 26 = .ok (.iload_n 1, 1) := by decide +kernel
theorem dX5_accepts_27 : decode cX5_accepts 27 = .ok (.invokestatic 90, 3) := by decide +kernel
theorem dX5_accepts_30 : decode cX5_accepts 30 = .ok (.ifCond .eq 7, 3) := by decide +kernel
theorem dX5_accepts_33 : decode cX5_accepts 33 = .ok (.iconst 1, 1) := by decide +kernel
theorem dX5_accepts_34 : decode cX5_accepts 34 = .ok (.goto 4, 3) := by decide +kernel
theorem dX5_accepts_37 : decode cX5_accepts 37 = .ok (.iconst 0, 1) := by decide +kernel
theorem dX5_accepts_38 : decode cX5_accepts 38 = .ok (.ireturn, 1) := by decide +kernel
theorem dX5_against_0 : decode cX5_against 0 = .ok (.iconst 0, 1) := by decide +kernel
theorem dX5_against_1 : decode cX5_against 1 = .ok (.istore_n 1, 1) := by decide +kernel
theorem dX5_against_2 : decode cX5_against 2 = .ok (.iconst 0, 1) := by decide +kernel
theorem dX5_against_3 : decode cX5_against 3 = .ok (.istore_n 2, 1) := by decide +kernel
theorem dX5_against_4 : decode cX5_against 4 = .ok (.iload_n 2, 1) := by decide +kernel
theorem dX5_against_5 : decode cX5_against 5 = .ok (.aload_n 0, 1) := by decide +kernel
theorem dX5_against_6 : decode cX5_against 6 = .ok (.getfield 10, 3) := by decide +kernel
theorem dX5_against_9 : decode cX5_against 9 = .ok (.getfield 96, 3) := by decide +kernel
theorem dX5_against_12 : decode cX5_against 12 = .ok (.if_icmp .ge 34, 3) := by decide +kernel
theorem dX5_against_15 : decode cX5_against 15 = .ok (.aload_n 0, 1) := by decide +kernel
theorem dX5_against_16 : decode cX5_against 16 = .ok (.getfield 10, 3) := by decide +kernel
theorem dX5_against_19 : decode cX5_against 19 = .ok (.aload_n 0, 1) := by decide +kernel
theorem dX5_against_20 : decode cX5_against 20 = .ok (.getfield 45, 3) := by decide +kernel
theorem dX5_against_23 : decode cX5_against 23 = .ok (.aload_n 0, 1) := by decide +kernel
theorem dX5_against_24 : decode cX5_against 24 = .ok (.getfield 41, 3) := by decide +kernel
theorem dX5_against_27 : decode cX5_against 27 = .ok (.iload_n 2, 1) := by decide +kernel
theorem dX5_against_28 : decode cX5_against 28 = .ok (.invokestatic 90, 3) := by decide +kernel
theorem dX5_against_31 : decode cX5_against 31 = .ok (.ifCond .ne 9, 3) := by decide +kernel
theorem dX5_against_34 : decode cX5_against 34 = .ok (.iload_n 1, 1) := by decide +kernel
theorem dX5_against_35 : decode cX5_against 35 = .ok (.iconst 1, 1) := by decide +kernel
theorem dX5_against_36 : decode cX5_against 36 = .ok (.iload_n 2, 1) := by decide +kernel
theorem dX5_against_37 : decode cX5_against 37 = .ok (.ishl, 1) := by decide +kernel
theorem dX5_against_38 : decode cX5_against 38 = .ok (.ior, 1) := by decide +kernel
theorem dX5_against_39 : decode cX5_against 39 = .ok (.istore_n 1, 1) := by decide +kernel
theorem dX5_against_40 : decode cX5_against 40 = .ok (.iinc 2 1, 3) := by decide +kernel
theorem dX5_against_43 : decode cX5_against 43 = .ok (.goto (-39), 3) := by decide +kernel
theorem dX5_against_46 : decode cX5_against 46 = .ok (.iload_n 1, 1) := by decide +kernel
theorem dX5_against_47 : decode cX5_against 47 = .ok (.ireturn, 1) := by decide +kernel
theorem dX5_prove_0 : decode cX5_prove 0 = .ok (.aload_n 0, 1) := by decide +kernel
theorem dX5_prove_1 : decode cX5_prove 1 = .ok (.getfield 30, 3) := by decide +kernel
theorem dX5_prove_4 : decode cX5_prove 4 = .ok (.aload_n 0, 1) := by decide +kernel
theorem dX5_prove_5 : decode cX5_prove 5 = .ok (.getfield 45, 3) := by decide +kernel
theorem dX5_prove_8 : decode cX5_prove 8 = .ok (.invokevirtual 76, 3) := by decide +kernel
theorem dX5_prove_11 : decode cX5_prove 11 = .ok (.ifCond .ne 5, 3) := by decide +kernel
theorem dX5_prove_14 : decode cX5_prove 14 = .ok (.iconst 0, 1) := by decide +kernel
theorem dX5_prove_15 : decode cX5_prove 15 = .ok (.ireturn, 1) := by decide +kernel
theorem dX5_prove_16 : decode cX5_prove 16 = .ok (.aload_n 0, 1) := by decide +kernel
theorem dX5_prove_17 : decode cX5_prove 17 = .ok (.getfield 30, 3) := by decide +kernel
theorem dX5_prove_20 : decode cX5_prove 20 = .ok (.getfield 99, 3) := by decide +kernel
theorem dX5_prove_23 : decode cX5_prove 23 = .ok (.iconst 0, 1) := by decide +kernel
theorem dX5_prove_24 : decode cX5_prove 24 = .ok (.aload_n 0, 1) := by decide +kernel
theorem dX5_prove_25 : decode cX5_prove 25 = .ok (.getfield 41, 3) := by decide +kernel
theorem dX5_prove_28 : decode cX5_prove 28 = .ok (.iconst 0, 1) := by decide +kernel
theorem dX5_prove_29 : decode cX5_prove 29 = .ok (.aload_n 0, 1) := by decide +kernel
theorem dX5_prove_30 : decode cX5_prove 30 = .ok (.getfield 10, 3) := by decide +kernel
theorem dX5_prove_33 : decode cX5_prove 33 = .ok (.getfield 96, 3) := by decide +kernel
theorem dX5_prove_36 : decode cX5_prove 36 = .ok (.invokestatic 102, 3) := by decide +kernel
theorem dX5_prove_39 : decode cX5_prove 39 = .ok (.iconst 1, 1) := by decide +kernel
theorem dX5_prove_40 : decode cX5_prove 40 = .ok (.ireturn, 1) := by decide +kernel
theorem dX5_tryAll_0 : decode cX5_tryAll 0 = .ok (.aload_n 0, 1) := by decide +kernel
theorem dX5_tryAll_1 : decode cX5_tryAll 1 = .ok (.iload_n 1, 1) := by decide +kernel
theorem dX5_tryAll_2 : decode cX5_tryAll 2 = .ok (.invokevirtual 108, 3) := by decide +kernel
theorem dX5_tryAll_5 : decode cX5_tryAll 5 = .ok (.istore_n 2, 1) := by decide +kernel
theorem dX5_tryAll_6 : decode cX5_tryAll 6 = .ok (.iload_n 2, 1) := by decide +kernel
theorem dX5_tryAll_7 : decode cX5_tryAll 7 = .ok (.ifCond .eq 5, 3) := by decide +kernel
theorem dX5_tryAll_10 : decode cX5_tryAll 10 = .ok (.iload_n 2, 1) := by decide +kernel
theorem dX5_tryAll_11 : decode cX5_tryAll 11 = .ok (.ireturn, 1) := by decide +kernel
theorem dX5_tryAll_12 : decode cX5_tryAll 12 = .ok (.aload_n 0, 1) := by decide +kernel
theorem dX5_tryAll_13 : decode cX5_tryAll 13 = .ok (.dup, 1) := by decide +kernel
theorem dX5_tryAll_14 : decode cX5_tryAll 14 = .ok (.getfield 111, 3) := by decide +kernel
theorem dX5_tryAll_17 : decode cX5_tryAll 17 = .ok (.iconst 1, 1) := by decide +kernel
theorem dX5_tryAll_18 : decode cX5_tryAll 18 = .ok (.iadd, 1) := by decide +kernel
theorem dX5_tryAll_19 : decode cX5_tryAll 19 = .ok (.putfield 111, 3) := by decide +kernel
theorem dX5_tryAll_22 : decode cX5_tryAll 22 = .ok (.aload_n 0, 1) := by decide +kernel
theorem dX5_tryAll_23 : decode cX5_tryAll 23 = .ok (.getfield 21, 3) := by decide +kernel
theorem dX5_tryAll_26 : decode cX5_tryAll 26 = .ok (.aload_n 0, 1) := by decide +kernel
theorem dX5_tryAll_27 : decode cX5_tryAll 27 = .ok (.getfield 45, 3) := by decide +kernel
theorem dX5_tryAll_30 : decode cX5_tryAll 30 = .ok (.iload_n 1, 1) := by decide +kernel
theorem dX5_tryAll_31 : decode cX5_tryAll 31 = .ok (.iconst (-1), 1) := by decide +kernel
theorem dX5_tryAll_32 : decode cX5_tryAll 32 = .ok (.invokevirtual 114, 3) := by decide +kernel
theorem dX5_tryAll_35 : decode cX5_tryAll 35 = .ok (.aload_n 0, 1) := by decide +kernel
theorem dX5_tryAll_36 : decode cX5_tryAll 36 = .ok (.getfield 21, 3) := by decide +kernel
theorem dX5_tryAll_39 : decode cX5_tryAll 39 = .ok (.getfield 118, 3) := by decide +kernel
theorem dX5_tryAll_42 : decode cX5_tryAll 42 = .ok (.ireturn, 1) := by decide +kernel
theorem dX5_attempt_0 : decode cX5_attempt 0 = .ok (.aload_n 0, 1) := by decide +kernel
theorem dX5_attempt_1 : decode cX5_attempt 1 = .ok (.iload_n 1, 1) := by decide +kernel
theorem dX5_attempt_2 : decode cX5_attempt 2 = .ok (.invokevirtual 108, 3) := by decide +kernel
theorem dX5_attempt_5 : decode cX5_attempt 5 = .ok (.istore_n 3, 1) := by decide +kernel
theorem dX5_attempt_6 : decode cX5_attempt 6 = .ok (.iload_n 3, 1) := by decide +kernel
theorem dX5_attempt_7 : decode cX5_attempt 7 = .ok (.ifCond .eq 5, 3) := by decide +kernel
theorem dX5_attempt_10 : decode cX5_attempt 10 = .ok (.iload_n 3, 1) := by decide +kernel
theorem dX5_attempt_11 : decode cX5_attempt 11 = .ok (.ireturn, 1) := by decide +kernel
theorem dX5_attempt_12 : decode cX5_attempt 12 = .ok (.aload_n 0, 1) := by decide +kernel
theorem dX5_attempt_13 : decode cX5_attempt 13 = .ok (.dup, 1) := by decide +kernel
theorem dX5_attempt_14 : decode cX5_attempt 14 = .ok (.getfield 111, 3) := by decide +kernel
theorem dX5_attempt_17 : decode cX5_attempt 17 = .ok (.iconst 1, 1) := by decide +kernel
theorem dX5_attempt_18 : decode cX5_attempt 18 = .ok (.iadd, 1) := by decide +kernel
theorem dX5_attempt_19 : decode cX5_attempt 19 = .ok (.putfield 111, 3) := by decide +kernel
theorem dX5_attempt_22 : decode cX5_attempt 22 = .ok (.aload_n 0, 1) := by decide +kernel
theorem dX5_attempt_23 : decode cX5_attempt 23 = .ok (.getfield 21, 3) := by decide +kernel
theorem dX5_attempt_26 : decode cX5_attempt 26 = .ok (.aload_n 0, 1) := by decide +kernel
theorem dX5_attempt_27 : decode cX5_attempt 27 = .ok (.getfield 45, 3) := by decide +kernel
theorem dX5_attempt_30 : decode cX5_attempt 30 = .ok (.iload_n 1, 1) := by decide +kernel
theorem dX5_attempt_31 : decode cX5_attempt 31 = .ok (.iload_n 2, 1) := by decide +kernel
theorem dX5_attempt_32 : decode cX5_attempt 32 = .ok (.invokevirtual 114, 3) := by decide +kernel
theorem dX5_attempt_35 : decode cX5_attempt 35 = .ok (.aload_n 0, 1) := by decide +kernel
theorem dX5_attempt_36 : decode cX5_attempt 36 = .ok (.getfield 21, 3) := by decide +kernel
theorem dX5_attempt_39 : decode cX5_attempt 39 = .ok (.getfield 121, 3) := by decide +kernel
theorem dX5_attempt_42 : decode cX5_attempt 42 = .ok (.ifCond .ne 5, 3) := by decide +kernel
theorem dX5_attempt_45 : decode cX5_attempt 45 = .ok (.iconst (-1), 1) := by decide +kernel
theorem dX5_attempt_46 : decode cX5_attempt 46 = .ok (.ireturn, 1) := by decide +kernel
theorem dX5_attempt_47 : decode cX5_attempt 47 = .ok (.aload_n 0, 1) := by decide +kernel
theorem dX5_attempt_48 : decode cX5_attempt 48 = .ok (.getfield 21, 3) := by decide +kernel
theorem dX5_attempt_51 : decode cX5_attempt 51 = .ok (.getfield 125, 3) := by decide +kernel
theorem dX5_attempt_54 : decode cX5_attempt 54 = .ok (.iconst 0, 1) := by decide +kernel
theorem dX5_attempt_55 : decode cX5_attempt 55 = .ok (.aload_n 0, 1) := by decide +kernel
theorem dX5_attempt_56 : decode cX5_attempt 56 = .ok (.getfield 41, 3) := by decide +kernel
theorem dX5_attempt_59 : decode cX5_attempt 59 = .ok (.iconst 0, 1) := by decide +kernel
theorem dX5_attempt_60 : decode cX5_attempt 60 = .ok (.aload_n 0, 1) := by decide +kernel
theorem dX5_attempt_61 : decode cX5_attempt 61 = .ok (.getfield 10, 3) := by decide +kernel
theorem dX5_attempt_64 : decode cX5_attempt 64 = .ok (.getfield 96, 3) := by decide +kernel
theorem dX5_attempt_67 : decode cX5_attempt 67 = .ok (.invokestatic 102, 3) := by decide +kernel
theorem dX5_attempt_70 : decode cX5_attempt 70 = .ok (.iconst 1, 1) := by decide +kernel
theorem dX5_attempt_71 : decode cX5_attempt 71 = .ok (.ireturn, 1) := by decide +kernel
theorem dX5_numbers_0 : decode cX5_numbers 0 = .ok (.aload_n 0, 1) := by decide +kernel
theorem dX5_numbers_1 : decode cX5_numbers 1 = .ok (.getfield 30, 3) := by decide +kernel
theorem dX5_numbers_4 : decode cX5_numbers 4 = .ok (.aload_n 0, 1) := by decide +kernel
theorem dX5_numbers_5 : decode cX5_numbers 5 = .ok (.getfield 45, 3) := by decide +kernel
theorem dX5_numbers_8 : decode cX5_numbers 8 = .ok (.invokevirtual 76, 3) := by decide +kernel
theorem dX5_numbers_11 : decode cX5_numbers 11 = .ok (.ifCond .ne 5, 3) := by decide +kernel
theorem dX5_numbers_14 : decode cX5_numbers 14 = .ok (.iconst (-1), 1) := by decide +kernel
theorem dX5_numbers_15 : decode cX5_numbers 15 = .ok (.ireturn, 1) := by decide +kernel
theorem dX5_numbers_16 : decode cX5_numbers 16 = .ok (.iconst 0, 1) := by decide +kernel
theorem dX5_numbers_17 : decode cX5_numbers 17 = .ok (.istore_n 1, 1) := by decide +kernel
theorem dX5_numbers_18 : decode cX5_numbers 18 = .ok (.iconst 0, 1) := by decide +kernel
theorem dX5_numbers_19 : decode cX5_numbers 19 = .ok (.istore_n 2, 1) := by decide +kernel
theorem dX5_numbers_20 : decode cX5_numbers 20 = .ok (.iload_n 2, 1) := by decide +kernel
theorem dX5_numbers_21 : decode cX5_numbers 21 = .ok (.aload_n 0, 1) := by decide +kernel
theorem dX5_numbers_22 : decode cX5_numbers 22 = .ok (.getfield 10, 3) := by decide +kernel
theorem dX5_numbers_25 : decode cX5_numbers 25 = .ok (.getfield 96, 3) := by decide +kernel
theorem dX5_numbers_28 : decode cX5_numbers 28 = .ok (.if_icmp .ge 23, 3) := by decide +kernel
theorem dX5_numbers_31 : decode cX5_numbers 31 = .ok (.iload_n 1, 1) := by decide +kernel
theorem dX5_numbers_32 : decode cX5_numbers 32 = .ok (.aload_n 0, 1) := by decide +kernel
theorem dX5_numbers_33 : decode cX5_numbers 33 = .ok (.getfield 30, 3) := by decide +kernel
theorem dX5_numbers_36 : decode cX5_numbers 36 = .ok (.getfield 99, 3) := by decide +kernel
theorem dX5_numbers_39 : decode cX5_numbers 39 = .ok (.iload_n 2, 1) := by decide +kernel
theorem dX5_numbers_40 : decode cX5_numbers 40 = .ok (.iaload, 1) := by decide +kernel
theorem dX5_numbers_41 : decode cX5_numbers 41 = .ok (.invokestatic 126, 3) := by decide +kernel
theorem dX5_numbers_44 : decode cX5_numbers 44 = .ok (.istore_n 1, 1) := by decide +kernel
theorem dX5_numbers_45 : decode cX5_numbers 45 = .ok (.iinc 2 1, 3) := by decide +kernel
theorem dX5_numbers_48 : decode cX5_numbers 48 = .ok (.goto (-28), 3) := by decide +kernel
theorem dX5_numbers_51 : decode cX5_numbers 51 = .ok (.iload_n 1, 1) := by decide +kernel
theorem dX5_numbers_52 : decode cX5_numbers 52 = .ok (.iconst 1, 1) := by decide +kernel
theorem dX5_numbers_53 : decode cX5_numbers 53 = .ok (.iadd, 1) := by decide +kernel
theorem dX5_numbers_54 : decode cX5_numbers 54 = .ok (.ireturn, 1) := by decide +kernel
theorem dX5_slip_0 : decode cX5_slip 0 = .ok (.iload_n 1, 1) := by decide +kernel
theorem dX5_slip_1 : decode cX5_slip 1 = .ok (.ifCond .lt 18, 3) := by decide +kernel
theorem dX5_slip_4 : decode cX5_slip 4 = .ok (.iload_n 1, 1) := by decide +kernel
theorem dX5_slip_5 : decode cX5_slip 5 = .ok (.bipush 10, 2) := by decide +kernel
theorem dX5_slip_7 : decode cX5_slip 7 = .ok (.if_icmp .gt 12, 3) := by decide +kernel
theorem dX5_slip_10 : decode cX5_slip 10 = .ok (.iload_n 2, 1) := by decide +kernel
theorem dX5_slip_11 : decode cX5_slip 11 = .ok (.ifCond .lt 8, 3) := by decide +kernel
theorem dX5_slip_14 : decode cX5_slip 14 = .ok (.iload_n 2, 1) := by decide +kernel
theorem dX5_slip_15 : decode cX5_slip 15 = .ok (.iconst 1, 1) := by decide +kernel
theorem dX5_slip_16 : decode cX5_slip 16 = .ok (.if_icmp .le 7, 3) := by decide +kernel
theorem dX5_slip_19 : decode cX5_slip 19 = .ok (.ldc2_w 131, 3) := by decide +kernel
theorem dX5_slip_22 : decode cX5_slip 22 = .ok (.lreturn, 1) := by decide +kernel
theorem dX5_slip_23 : decode cX5_slip 23 = .ok (.bipush 10, 2) := by decide +kernel
theorem dX5_slip_25 : decode cX5_slip 25 = .ok (.iload_n 1, 1) := by decide +kernel
theorem dX5_slip_26 : decode cX5_slip 26 = .ok (.isub, 1) := by decide +kernel
theorem dX5_slip_27 : decode cX5_slip 27 = .ok (.bipush 10, 2) := by decide +kernel
theorem dX5_slip_29 : decode cX5_slip 29 = .ok (.invokestatic 133, 3) := by decide +kernel
theorem dX5_slip_32 : decode cX5_slip 32 = .ok (.istore_n 3, 1) := by decide +kernel
theorem dX5_slip_33 : decode cX5_slip 33 = .ok (.iload_n 2, 1) := by decide +kernel
theorem dX5_slip_34 : decode cX5_slip 34 = .ok (.ifCond .ne 10, 3) := by decide +kernel
theorem dX5_slip_37 : decode cX5_slip 37 = .ok (.bipush 10, 2) := by decide +kernel
theorem dX5_slip_39 : decode cX5_slip 39 = .ok (.iload_n 1, 1) := by decide +kernel
theorem dX5_slip_40 : decode cX5_slip 40 = .ok (.isub, 1) := by decide +kernel
theorem dX5_slip_41 : decode cX5_slip 41 = .ok (.goto 5, 3) := by decide +kernel
theorem dX5_slip_44 : decode cX5_slip 44 = .ok (.bipush 10, 2) := by decide +kernel
theorem dX5_slip_46 : decode cX5_slip 46 = .ok (.iload_n 3, 1) := by decide +kernel
theorem dX5_slip_47 : decode cX5_slip 47 = .ok (.idiv, 1) := by decide +kernel
theorem dX5_slip_48 : decode cX5_slip 48 = .ok (.i2l, 1) := by decide +kernel
theorem dX5_slip_49 : decode cX5_slip 49 = .ok (.lstore 4, 2) := by decide +kernel
theorem dX5_slip_51 : decode cX5_slip 51 = .ok (.lload 4, 2) := by decide +kernel
theorem dX5_slip_53 : decode cX5_slip 53 = .ok (.aload_n 0, 1) := by decide +kernel
theorem dX5_slip_54 : decode cX5_slip 54 = .ok (.invokevirtual 136, 3) := by decide +kernel
theorem dX5_slip_57 : decode cX5_slip 57 = .ok (.invokestatic 139, 3) := by decide +kernel
theorem dX5_slip_60 : decode cX5_slip 60 = .ok (.invokestatic 144, 3) := by decide +kernel
theorem dX5_slip_63 : decode cX5_slip 63 = .ok (.lreturn, 1) := by decide +kernel
theorem dX5_distance_0 : decode cX5_distance 0 = .ok (.aload_n 0, 1) := by decide +kernel
theorem dX5_distance_1 : decode cX5_distance 1 = .ok (.getfield 10, 3) := by decide +kernel
theorem dX5_distance_4 : decode cX5_distance 4 = .ok (.iload_n 1, 1) := by decide +kernel
theorem dX5_distance_5 : decode cX5_distance 5 = .ok (.invokevirtual 61, 3) := by decide +kernel
theorem dX5_distance_8 : decode cX5_distance 8 = .ok (.ifCond .ne 6, 3) := by decide +kernel
theorem dX5_distance_11 : decode cX5_distance 11 = .ok (.bipush (-101), 2) := by decide +kernel
theorem dX5_distance_13 : decode cX5_distance 13 = .ok (.ireturn, 1) := by decide +kernel
theorem dX5_distance_14 : decode cX5_distance 14 = .ok (.iload_n 2, 1) := by decide +kernel
theorem dX5_distance_15 : decode cX5_distance 15 = .ok (.ifCond .lt 8, 3) := by decide +kernel
theorem dX5_distance_18 : decode cX5_distance 18 = .ok (.iload_n 2, 1) := by decide +kernel
theorem dX5_distance_19 : decode cX5_distance 19 = .ok (.iconst 4, 1) := by decide +kernel
theorem dX5_distance_20 : decode cX5_distance 20 = .ok (.if_icmp .le 6, 3) := by decide +kernel
theorem dX5_distance_23 : decode cX5_distance 23 = .ok (.bipush (-102), 2) := by decide +kernel
theorem dX5_distance_25 : decode cX5_distance 25 = .ok (.ireturn, 1) := by decide +kernel
theorem dX5_distance_26 : decode cX5_distance 26 = .ok (.aload_n 0, 1) := by decide +kernel
theorem dX5_distance_27 : decode cX5_distance 27 = .ok (.getfield 37, 3) := by decide +kernel
theorem dX5_distance_30 : decode cX5_distance 30 = .ok (.getfield 148, 3) := by decide +kernel
theorem dX5_distance_33 : decode cX5_distance 33 = .ok (.iload_n 1, 1) := by decide +kernel
theorem dX5_distance_34 : decode cX5_distance 34 = .ok (.iaload, 1) := by decide +kernel
theorem dX5_distance_35 : decode cX5_distance 35 = .ok (.istore_n 3, 1) := by decide +kernel
theorem dX5_distance_36 : decode cX5_distance 36 = .ok (.aload_n 0, 1) := by decide +kernel
theorem dX5_distance_37 : decode cX5_distance 37 = .ok (.getfield 37, 3) := by decide +kernel
theorem dX5_distance_40 : decode cX5_distance 40 = .ok (.getfield 148, 3) := by decide +kernel
theorem dX5_distance_43 : decode cX5_distance 43 = .ok (.iload_n 1, 1) := by decide +kernel
theorem dX5_distance_44 : decode cX5_distance 44 = .ok (.iload_n 2, 1) := by decide +kernel
theorem dX5_distance_45 : decode cX5_distance 45 = .ok (.iastore, 1) := by decide +kernel
theorem dX5_distance_46 : decode cX5_distance 46 = .ok (.iload_n 3, 1) := by decide +kernel
theorem dX5_distance_47 : decode cX5_distance 47 = .ok (.ireturn, 1) := by decide +kernel
theorem dX5_restless_0 : decode cX5_restless 0 = .ok (.iconst 0, 1) := by decide +kernel
theorem dX5_restless_1 : decode cX5_restless 1 = .ok (.istore_n 1, 1) := by decide +kernel
theorem dX5_restless_2 : decode cX5_restless 2 = .ok (.iconst 0, 1) := by decide +kernel
theorem dX5_restless_3 : decode cX5_restless 3 = .ok (.istore_n 2, 1) := by decide +kernel
theorem dX5_restless_4 : decode cX5_restless 4 = .ok (.iload_n 2, 1) := by decide +kernel
theorem dX5_restless_5 : decode cX5_restless 5 = .ok (.aload_n 0, 1) := by decide +kernel
theorem dX5_restless_6 : decode cX5_restless 6 = .ok (.getfield 10, 3) := by decide +kernel
theorem dX5_restless_9 : decode cX5_restless 9 = .ok (.getfield 96, 3) := by decide +kernel
theorem dX5_restless_12 : decode cX5_restless 12 = .ok (.if_icmp .ge 26, 3) := by decide +kernel
theorem dX5_restless_15 : decode cX5_restless 15 = .ok (.aload_n 0, 1) := by decide +kernel
theorem dX5_restless_16 : decode cX5_restless 16 = .ok (.getfield 37, 3) := by decide +kernel
theorem dX5_restless_19 : decode cX5_restless 19 = .ok (.iload_n 2, 1) := by decide +kernel
theorem dX5_restless_20 : decode cX5_restless 20 = .ok (.invokevirtual 151, 3) := by decide +kernel
theorem dX5_restless_23 : decode cX5_restless 23 = .ok (.ifCond .eq 9, 3) := by decide +kernel
theorem dX5_restless_26 : decode cX5_restless 26 = .ok (.iload_n 1, 1) := by decide +kernel
theorem dX5_restless_27 : decode cX5_restless 27 = .ok (.iconst 1, 1) := by decide +kernel
theorem dX5_restless_28 : decode cX5_restless 28 = .ok (.iload_n 2, 1) := by decide +kernel
theorem dX5_restless_29 : decode cX5_restless 29 = .ok (.ishl, 1) := by decide +kernel
theorem dX5_restless_30 : decode cX5_restless 30 = .ok (.ior, 1) := by decide +kernel
theorem dX5_restless_31 : decode cX5_restless 31 = .ok (.istore_n 1, 1) := by decide +kernel
theorem dX5_restless_32 : decode cX5_restless 32 = .ok (.iinc 2 1, 3) := by decide +kernel
theorem dX5_restless_35 : decode cX5_restless 35 = .ok (.goto (-31), 3) := by decide +kernel
theorem dX5_restless_38 : decode cX5_restless 38 = .ok (.iload_n 1, 1) := by decide +kernel
theorem dX5_restless_39 : decode cX5_restless 39 = .ok (.ireturn, 1) := by decide +kernel
theorem dX5_move_0 : decode cX5_move 0 = .ok (.aload_n 0, 1) := by decide +kernel
theorem dX5_move_1 : decode cX5_move 1 = .ok (.getfield 10, 3) := by decide +kernel
theorem dX5_move_4 : decode cX5_move 4 = .ok (.iload_n 1, 1) := by decide +kernel
theorem dX5_move_5 : decode cX5_move 5 = .ok (.invokevirtual 61, 3) := by decide +kernel
theorem dX5_move_8 : decode cX5_move 8 = .ok (.ifCond .ne 6, 3) := by decide +kernel
theorem dX5_move_11 : decode cX5_move 11 = .ok (.bipush (-101), 2) := by decide +kernel
theorem dX5_move_13 : decode cX5_move 13 = .ok (.ireturn, 1) := by decide +kernel
theorem dX5_move_14 : decode cX5_move 14 = .ok (.aload_n 0, 1) := by decide +kernel
theorem dX5_move_15 : decode cX5_move 15 = .ok (.getfield 37, 3) := by decide +kernel
theorem dX5_move_18 : decode cX5_move 18 = .ok (.iload_n 1, 1) := by decide +kernel
theorem dX5_move_19 : decode cX5_move 19 = .ok (.invokevirtual 151, 3) := by decide +kernel
theorem dX5_move_22 : decode cX5_move 22 = .ok (.ifCond .ne 6, 3) := by decide +kernel
theorem dX5_move_25 : decode cX5_move 25 = .ok (.bipush (-103), 2) := by decide +kernel
theorem dX5_move_27 : decode cX5_move 27 = .ok (.ireturn, 1) := by decide +kernel
theorem dX5_move_28 : decode cX5_move 28 = .ok (.aload_n 0, 1) := by decide +kernel
theorem dX5_move_29 : decode cX5_move 29 = .ok (.getfield 37, 3) := by decide +kernel
theorem dX5_move_32 : decode cX5_move 32 = .ok (.iload_n 1, 1) := by decide +kernel
theorem dX5_move_33 : decode cX5_move 33 = .ok (.invokevirtual 154, 3) := by decide +kernel
theorem dX5_move_36 : decode cX5_move 36 = .ok (.aload_n 0, 1) := by decide +kernel
theorem dX5_move_37 : decode cX5_move 37 = .ok (.getfield 37, 3) := by decide +kernel
theorem dX5_move_40 : decode cX5_move 40 = .ok (.getfield 148, 3) := by decide +kernel
theorem dX5_move_43 : decode cX5_move 43 = .ok (.iload_n 1, 1) := by decide +kernel
theorem dX5_move_44 : decode cX5_move 44 = .ok (.iaload, 1) := by decide +kernel
theorem dX5_move_45 : decode cX5_move 45 = .ok (.ireturn, 1) := by decide +kernel
theorem dX5_mend_0 : decode cX5_mend 0 = .ok (.aload_n 0, 1) := by decide +kernel
theorem dX5_mend_1 : decode cX5_mend 1 = .ok (.getfield 37, 3) := by decide +kernel
theorem dX5_mend_4 : decode cX5_mend 4 = .ok (.invokevirtual 157, 3) := by decide +kernel
theorem dX5_mend_7 : decode cX5_mend 7 = .ok (.ireturn, 1) := by decide +kernel
theorem dX5_longest_0 : decode cX5_longest 0 = .ok (.aload_n 0, 1) := by decide +kernel
theorem dX5_longest_1 : decode cX5_longest 1 = .ok (.invokevirtual 160, 3) := by decide +kernel
theorem dX5_longest_4 : decode cX5_longest 4 = .ok (.ifCond .eq 6, 3) := by decide +kernel
theorem dX5_longest_7 : decode cX5_longest 7 = .ok (.bipush (-103), 2) := by decide +kernel
theorem dX5_longest_9 : decode cX5_longest 9 = .ok (.ireturn, 1) := by decide +kernel
theorem dX5_longest_10 : decode cX5_longest 10 = .ok (.aload_n 0, 1) := by decide +kernel
theorem dX5_longest_11 : decode cX5_longest 11 = .ok (.dup, 1) := by decide +kernel
theorem dX5_longest_12 : decode cX5_longest 12 = .ok (.getfield 164, 3) := by decide +kernel
theorem dX5_longest_15 : decode cX5_longest 15 = .ok (.iconst 1, 1) := by decide +kernel
theorem dX5_longest_16 : decode cX5_longest 16 = .ok (.iadd, 1) := by decide +kernel
theorem dX5_longest_17 : decode cX5_longest 17 = .ok (.putfield 164, 3) := by decide +kernel
theorem dX5_longest_20 : decode cX5_longest 20 = .ok (.aload_n 0, 1) := by decide +kernel
theorem dX5_longest_21 : decode cX5_longest 21 = .ok (.getfield 37, 3) := by decide +kernel
theorem dX5_longest_24 : decode cX5_longest 24 = .ok (.invokevirtual 167, 3) := by decide +kernel
theorem dX5_longest_27 : decode cX5_longest 27 = .ok (.ireturn, 1) := by decide +kernel
theorem dX5_shortest_0 : decode cX5_shortest 0 = .ok (.aload_n 0, 1) := by decide +kernel
theorem dX5_shortest_1 : decode cX5_shortest 1 = .ok (.invokevirtual 160, 3) := by decide +kernel
theorem dX5_shortest_4 : decode cX5_shortest 4 = .ok (.ifCond .eq 6, 3) := by decide +kernel
theorem dX5_shortest_7 : decode cX5_shortest 7 = .ok (.bipush (-103), 2) := by decide +kernel
theorem dX5_shortest_9 : decode cX5_shortest 9 = .ok (.ireturn, 1) := by decide +kernel
theorem dX5_shortest_10 : decode cX5_shortest 10 = .ok (.aload_n 0, 1) := by decide +kernel
theorem dX5_shortest_11 : decode cX5_shortest 11 = .ok (.dup, 1) := by decide +kernel
theorem dX5_shortest_12 : decode cX5_shortest 12 = .ok (.getfield 164, 3) := by decide +kernel
theorem dX5_shortest_15 : decode cX5_shortest 15 = .ok (.iconst 1, 1) := by decide +kernel
theorem dX5_shortest_16 : decode cX5_shortest 16 = .ok (.iadd, 1) := by decide +kernel
theorem dX5_shortest_17 : decode cX5_shortest 17 = .ok (.putfield 164, 3) := by decide +kernel
theorem dX5_shortest_20 : decode cX5_shortest 20 = .ok (.aload_n 0, 1) := by decide +kernel
theorem dX5_shortest_21 : decode cX5_shortest 21 = .ok (.getfield 37, 3) := by decide +kernel
theorem dX5_shortest_24 : decode cX5_shortest 24 = .ok (.invokevirtual 170, 3) := by decide +kernel
theorem dX5_shortest_27 : decode cX5_shortest 27 = .ok (.ireturn, 1) := by decide +kernel
theorem dX5_count_0 : decode cX5_count 0 = .ok (.iload_n 1, 1) := by decide +kernel
theorem dX5_count_1 : decode cX5_count 1 = .ok (.tableswitch 81 0 5 #[39, 47, 55, 60, 71, 76], 39) := by decide +kernel
theorem dX5_count_40 : decode cX5_count 40 = .ok (.aload_n 0, 1) := by decide +kernel
theorem dX5_count_41 : decode cX5_count 41 = .ok (.getfield 10, 3) := by decide +kernel
theorem dX5_count_44 : decode cX5_count 44 = .ok (.getfield 96, 3) := by decide +kernel
theorem dX5_count_47 : decode cX5_count 47 = .ok (.ireturn, 1) := by decide +kernel
theorem dX5_count_48 : decode cX5_count 48 = .ok (.aload_n 0, 1) := by decide +kernel
theorem dX5_count_49 : decode cX5_count 49 = .ok (.getfield 10, 3) := by decide +kernel
theorem dX5_count_52 : decode cX5_count 52 = .ok (.invokevirtual 173, 3) := by decide +kernel
theorem dX5_count_55 : decode cX5_count 55 = .ok (.ireturn, 1) := by decide +kernel
theorem dX5_count_56 : decode cX5_count 56 = .ok (.aload_n 0, 1) := by decide +kernel
theorem dX5_count_57 : decode cX5_count 57 = .ok (.getfield 45, 3) := by decide +kernel
theorem dX5_count_60 : decode cX5_count 60 = .ok (.ireturn, 1) := by decide +kernel
theorem dX5_count_61 : decode cX5_count 61 = .ok (.aload_n 0, 1) := by decide +kernel
theorem dX5_count_62 : decode cX5_count 62 = .ok (.getfield 10, 3) := by decide +kernel
theorem dX5_count_65 : decode cX5_count 65 = .ok (.invokevirtual 176, 3) := by decide +kernel
theorem dX5_count_68 : decode cX5_count 68 = .ok (.invokestatic 139, 3) := by decide +kernel
theorem dX5_count_71 : decode cX5_count 71 = .ok (.ireturn, 1) := by decide +kernel
theorem dX5_count_72 : decode cX5_count 72 = .ok (.aload_n 0, 1) := by decide +kernel
theorem dX5_count_73 : decode cX5_count 73 = .ok (.getfield 111, 3) := by decide +kernel
theorem dX5_count_76 : decode cX5_count 76 = .ok (.ireturn, 1) := by decide +kernel
theorem dX5_count_77 : decode cX5_count 77 = .ok (.aload_n 0, 1) := by decide +kernel
theorem dX5_count_78 : decode cX5_count 78 = .ok (.getfield 164, 3) := by decide +kernel
theorem dX5_count_81 : decode cX5_count 81 = .ok (.ireturn, 1) := by decide +kernel
theorem dX5_count_82 : decode cX5_count 82 = .ok (.bipush (-102), 2) := by decide +kernel
theorem dX5_count_84 : decode cX5_count 84 = .ok (.ireturn, 1) := by decide +kernel
theorem dX5_digest_0 : decode cX5_digest 0 = .ok (.ldc2_w 179, 3) := by decide +kernel
theorem dX5_digest_3 : decode cX5_digest 3 = .ok (.aload_n 0, 1) := by decide +kernel
theorem dX5_digest_4 : decode cX5_digest 4 = .ok (.getfield 10, 3) := by decide +kernel
theorem dX5_digest_7 : decode cX5_digest 7 = .ok (.getfield 96, 3) := by decide +kernel
theorem dX5_digest_10 : decode cX5_digest 10 = .ok (.i2l, 1) := by decide +kernel
theorem dX5_digest_11 : decode cX5_digest 11 = .ok (.invokestatic 181, 3) := by decide +kernel
theorem dX5_digest_14 : decode cX5_digest 14 = .ok (.lstore_n 1, 1) := by decide +kernel
theorem dX5_digest_15 : decode cX5_digest 15 = .ok (.iconst 0, 1) := by decide +kernel
theorem dX5_digest_16 : decode cX5_digest 16 = .ok (.istore_n 3, 1) := by decide +kernel
theorem dX5_digest_17 : decode cX5_digest 17 = .ok (.iload_n 3, 1) := by decide +kernel
theorem dX5_digest_18 : decode cX5_digest 18 = .ok (.aload_n 0, 1) := by decide +kernel
theorem dX5_digest_19 : decode cX5_digest 19 = .ok (.getfield 10, 3) := by decide +kernel
theorem dX5_digest_22 : decode cX5_digest 22 = .ok (.getfield 96, 3) := by decide +kernel
theorem dX5_digest_25 : decode cX5_digest 25 = .ok (.if_icmp .ge 90, 3) := by decide +kernel
theorem dX5_digest_28 : decode cX5_digest 28 = .ok (.lload_n 1, 1) := by decide +kernel
theorem dX5_digest_29 : decode cX5_digest 29 = .ok (.aload_n 0, 1) := by decide +kernel
theorem dX5_digest_30 : decode cX5_digest 30 = .ok (.getfield 10, 3) := by decide +kernel
theorem dX5_digest_33 : decode cX5_digest 33 = .ok (.getfield 73, 3) := by decide +kernel
theorem dX5_digest_36 : decode cX5_digest 36 = .ok (.iload_n 3, 1) := by decide +kernel
theorem dX5_digest_37 : decode cX5_digest 37 = .ok (.iaload, 1) := by decide +kernel
theorem dX5_digest_38 : decode cX5_digest 38 = .ok (.i2l, 1) := by decide +kernel
theorem dX5_digest_39 : decode cX5_digest 39 = .ok (.invokestatic 181, 3) := by decide +kernel
theorem dX5_digest_42 : decode cX5_digest 42 = .ok (.lstore_n 1, 1) := by decide +kernel
theorem dX5_digest_43 : decode cX5_digest 43 = .ok (.lload_n 1, 1) := by decide +kernel
theorem dX5_digest_44 : decode cX5_digest 44 = .ok (.aload_n 0, 1) := by decide +kernel
theorem dX5_digest_45 : decode cX5_digest 45 = .ok (.getfield 41, 3) := by decide +kernel
theorem dX5_digest_48 : decode cX5_digest 48 = .ok (.iload_n 3, 1) := by decide +kernel
theorem dX5_digest_49 : decode cX5_digest 49 = .ok (.iaload, 1) := by decide +kernel
theorem dX5_digest_50 : decode cX5_digest 50 = .ok (.i2l, 1) := by decide +kernel
theorem dX5_digest_51 : decode cX5_digest 51 = .ok (.invokestatic 181, 3) := by decide +kernel
theorem dX5_digest_54 : decode cX5_digest 54 = .ok (.lstore_n 1, 1) := by decide +kernel
theorem dX5_digest_55 : decode cX5_digest 55 = .ok (.lload_n 1, 1) := by decide +kernel
theorem dX5_digest_56 : decode cX5_digest 56 = .ok (.aload_n 0, 1) := by decide +kernel
theorem dX5_digest_57 : decode cX5_digest 57 = .ok (.getfield 37, 3) := by decide +kernel
theorem dX5_digest_60 : decode cX5_digest 60 = .ok (.getfield 148, 3) := by decide +kernel
theorem dX5_digest_63 : decode cX5_digest 63 = .ok (.iload_n 3, 1) := by decide +kernel
theorem dX5_digest_64 : decode cX5_digest 64 = .ok (.iaload, 1) := by decide +kernel
theorem dX5_digest_65 : decode cX5_digest 65 = .ok (.i2l, 1) := by decide +kernel
theorem dX5_digest_66 : decode cX5_digest 66 = .ok (.invokestatic 181, 3) := by decide +kernel
theorem dX5_digest_69 : decode cX5_digest 69 = .ok (.lstore_n 1, 1) := by decide +kernel
theorem dX5_digest_70 : decode cX5_digest 70 = .ok (.iload_n 3, 1) := by decide +kernel
theorem dX5_digest_71 : decode cX5_digest 71 = .ok (.iconst 1, 1) := by decide +kernel
theorem dX5_digest_72 : decode cX5_digest 72 = .ok (.iadd, 1) := by decide +kernel
theorem dX5_digest_73 : decode cX5_digest 73 = .ok (.istore 4, 2) := by decide +kernel
theorem dX5_digest_75 : decode cX5_digest 75 = .ok (.iload 4, 2) := by decide +kernel
theorem dX5_digest_77 : decode cX5_digest 77 = .ok (.aload_n 0, 1) := by decide +kernel
theorem dX5_digest_78 : decode cX5_digest 78 = .ok (.getfield 10, 3) := by decide +kernel
theorem dX5_digest_81 : decode cX5_digest 81 = .ok (.getfield 96, 3) := by decide +kernel
theorem dX5_digest_84 : decode cX5_digest 84 = .ok (.if_icmp .ge 25, 3) := by decide +kernel
theorem dX5_digest_87 : decode cX5_digest 87 = .ok (.lload_n 1, 1) := by decide +kernel
theorem dX5_digest_88 : decode cX5_digest 88 = .ok (.aload_n 0, 1) := by decide +kernel
theorem dX5_digest_89 : decode cX5_digest 89 = .ok (.getfield 10, 3) := by decide +kernel
theorem dX5_digest_92 : decode cX5_digest 92 = .ok (.iload_n 3, 1) := by decide +kernel
theorem dX5_digest_93 : decode cX5_digest 93 = .ok (.iload 4, 2) := by decide +kernel
theorem dX5_digest_95 : decode cX5_digest 95 = .ok (.invokevirtual 65, 3) := by decide +kernel
theorem dX5_digest_98 : decode cX5_digest 98 = .ok (.i2l, 1) := by decide +kernel
theorem dX5_digest_99 : decode cX5_digest 99 = .ok (.invokestatic 181, 3) := by decide +kernel
theorem dX5_digest_102 : decode cX5_digest 102 = .ok (.lstore_n 1, 1) := by decide +kernel
theorem dX5_digest_103 : decode cX5_digest 103 = .ok (.iinc 4 1, 3) := by decide +kernel
theorem dX5_digest_106 : decode cX5_digest 106 = .ok (.goto (-31), 3) := by decide +kernel
theorem dX5_digest_109 : decode cX5_digest 109 = .ok (.iinc 3 1, 3) := by decide +kernel
theorem dX5_digest_112 : decode cX5_digest 112 = .ok (.goto (-95), 3) := by decide +kernel
theorem dX5_digest_115 : decode cX5_digest 115 = .ok (.lload_n 1, 1) := by decide +kernel
theorem dX5_digest_116 : decode cX5_digest 116 = .ok (.aload_n 0, 1) := by decide +kernel
theorem dX5_digest_117 : decode cX5_digest 117 = .ok (.getfield 45, 3) := by decide +kernel
theorem dX5_digest_120 : decode cX5_digest 120 = .ok (.i2l, 1) := by decide +kernel
theorem dX5_digest_121 : decode cX5_digest 121 = .ok (.invokestatic 181, 3) := by decide +kernel
theorem dX5_digest_124 : decode cX5_digest 124 = .ok (.lstore_n 1, 1) := by decide +kernel
theorem dX5_digest_125 : decode cX5_digest 125 = .ok (.lload_n 1, 1) := by decide +kernel
theorem dX5_digest_126 : decode cX5_digest 126 = .ok (.aload_n 0, 1) := by decide +kernel
theorem dX5_digest_127 : decode cX5_digest 127 = .ok (.getfield 111, 3) := by decide +kernel
theorem dX5_digest_130 : decode cX5_digest 130 = .ok (.i2l, 1) := by decide +kernel
theorem dX5_digest_131 : decode cX5_digest 131 = .ok (.invokestatic 181, 3) := by decide +kernel
theorem dX5_digest_134 : decode cX5_digest 134 = .ok (.lstore_n 1, 1) := by decide +kernel
theorem dX5_digest_135 : decode cX5_digest 135 = .ok (.lload_n 1, 1) := by decide +kernel
theorem dX5_digest_136 : decode cX5_digest 136 = .ok (.aload_n 0, 1) := by decide +kernel
theorem dX5_digest_137 : decode cX5_digest 137 = .ok (.getfield 164, 3) := by decide +kernel
theorem dX5_digest_140 : decode cX5_digest 140 = .ok (.i2l, 1) := by decide +kernel
theorem dX5_digest_141 : decode cX5_digest 141 = .ok (.invokestatic 181, 3) := by decide +kernel
theorem dX5_digest_144 : decode cX5_digest 144 = .ok (.lreturn, 1) := by decide +kernel
theorem dX5_mix_0 : decode cX5_mix 0 = .ok (.ldc2_w 185, 3) := by decide +kernel
theorem dX5_mix_3 : decode cX5_mix 3 = .ok (.lload_n 0, 1) := by decide +kernel
theorem dX5_mix_4 : decode cX5_mix 4 = .ok (.lmul, 1) := by decide +kernel
theorem dX5_mix_5 : decode cX5_mix 5 = .ok (.lload_n 2, 1) := by decide +kernel
theorem dX5_mix_6 : decode cX5_mix 6 = .ok (.ladd, 1) := by decide +kernel
theorem dX5_mix_7 : decode cX5_mix 7 = .ok (.lreturn, 1) := by decide +kernel
theorem dX5_tryRefusal_0 : decode cX5_tryRefusal 0 = .ok (.iload_n 1, 1) := by decide +kernel
theorem dX5_tryRefusal_1 : decode cX5_tryRefusal 1 = .ok (.iconst 1, 1) := by decide +kernel
theorem dX5_tryRefusal_2 : decode cX5_tryRefusal 2 = .ok (.if_icmp .lt 9, 3) := by decide +kernel
theorem dX5_tryRefusal_5 : decode cX5_tryRefusal 5 = .ok (.iload_n 1, 1) := by decide +kernel
theorem dX5_tryRefusal_6 : decode cX5_tryRefusal 6 = .ok (.bipush 64, 2) := by decide +kernel
theorem dX5_tryRefusal_8 : decode cX5_tryRefusal 8 = .ok (.if_icmp .le 6, 3) := by decide +kernel
theorem dX5_tryRefusal_11 : decode cX5_tryRefusal 11 = .ok (.bipush (-102), 2) := by decide +kernel
theorem dX5_tryRefusal_13 : decode cX5_tryRefusal 13 = .ok (.ireturn, 1) := by decide +kernel
theorem dX5_tryRefusal_14 : decode cX5_tryRefusal 14 = .ok (.aload_n 0, 1) := by decide +kernel
theorem dX5_tryRefusal_15 : decode cX5_tryRefusal 15 = .ok (.getfield 111, 3) := by decide +kernel
theorem dX5_tryRefusal_18 : decode cX5_tryRefusal 18 = .ok (.bipush 30, 2) := by decide +kernel
theorem dX5_tryRefusal_20 : decode cX5_tryRefusal 20 = .ok (.if_icmp .ge 22, 3) := by decide +kernel
theorem dX5_tryRefusal_23 : decode cX5_tryRefusal 23 = .ok (.iload_n 1, 1) := by decide +kernel
theorem dX5_tryRefusal_24 : decode cX5_tryRefusal 24 = .ok (.i2l, 1) := by decide +kernel
theorem dX5_tryRefusal_25 : decode cX5_tryRefusal 25 = .ok (.aload_n 0, 1) := by decide +kernel
theorem dX5_tryRefusal_26 : decode cX5_tryRefusal 26 = .ok (.getfield 10, 3) := by decide +kernel
theorem dX5_tryRefusal_29 : decode cX5_tryRefusal 29 = .ok (.getfield 96, 3) := by decide +kernel
theorem dX5_tryRefusal_32 : decode cX5_tryRefusal 32 = .ok (.invokestatic 144, 3) := by decide +kernel
theorem dX5_tryRefusal_35 : decode cX5_tryRefusal 35 = .ok (.ldc2_w 187, 3) := by decide +kernel
theorem dX5_tryRefusal_38 : decode cX5_tryRefusal 38 = .ok (.lcmp, 1) := by decide +kernel
theorem dX5_tryRefusal_39 : decode cX5_tryRefusal 39 = .ok (.ifCond .le 6, 3) := by decide +kernel
theorem dX5_tryRefusal_42 : decode cX5_tryRefusal 42 = .ok (.bipush (-103), 2) := by decide +kernel
theorem dX5_tryRefusal_44 : decode cX5_tryRefusal 44 = .ok (.ireturn, 1) := by decide +kernel
theorem dX5_tryRefusal_45 : decode cX5_tryRefusal 45 = .ok (.iconst 0, 1) := by decide +kernel
theorem dX5_tryRefusal_46 : decode cX5_tryRefusal 46 = .ok (.ireturn, 1) := by decide +kernel
theorem dX5_waysRefused_0 : decode cX5_waysRefused 0 = .ok (.aload_n 0, 1) := by decide +kernel
theorem dX5_waysRefused_1 : decode cX5_waysRefused 1 = .ok (.getfield 10, 3) := by decide +kernel
theorem dX5_waysRefused_4 : decode cX5_waysRefused 4 = .ok (.getfield 96, 3) := by decide +kernel
theorem dX5_waysRefused_7 : decode cX5_waysRefused 7 = .ok (.iconst 5, 1) := by decide +kernel
theorem dX5_waysRefused_8 : decode cX5_waysRefused 8 = .ok (.if_icmp .gt 12, 3) := by decide +kernel
theorem dX5_waysRefused_11 : decode cX5_waysRefused 11 = .ok (.aload_n 0, 1) := by decide +kernel
theorem dX5_waysRefused_12 : decode cX5_waysRefused 12 = .ok (.getfield 164, 3) := by decide +kernel
theorem dX5_waysRefused_15 : decode cX5_waysRefused 15 = .ok (.bipush 20, 2) := by decide +kernel
theorem dX5_waysRefused_17 : decode cX5_waysRefused 17 = .ok (.if_icmp .lt 7, 3) := by decide +kernel
theorem dX5_waysRefused_20 : decode cX5_waysRefused 20 = .ok (.iconst 1, 1) := by decide +kernel
theorem dX5_waysRefused_21 : decode cX5_waysRefused 21 = .ok (.goto 4, 3) := by decide +kernel
theorem dX5_waysRefused_24 : decode cX5_waysRefused 24 = .ok (.iconst 0, 1) := by decide +kernel
theorem dX5_waysRefused_25 : decode cX5_waysRefused 25 = .ok (.ireturn, 1) := by decide +kernel
theorem dX5_power_0 : decode cX5_power 0 = .ok (.lconst 1, 1) := by decide +kernel
theorem dX5_power_1 : decode cX5_power 1 = .ok (.lstore_n 3, 1) := by decide +kernel
theorem dX5_power_2 : decode cX5_power 2 = .ok (.iconst 0, 1) := by decide +kernel
theorem dX5_power_3 : decode cX5_power 3 = .ok (.istore 5, 2) := by decide +kernel
theorem dX5_power_5 : decode cX5_power 5 = .ok (.iload 5, 2) := by decide +kernel
theorem dX5_power_7 : decode cX5_power 7 = .ok (.iload_n 2, 1) := by decide +kernel
theorem dX5_power_8 : decode cX5_power 8 = .ok (.if_icmp .ge 13, 3) := by decide +kernel
theorem dX5_power_11 : decode cX5_power 11 = .ok (.lload_n 3, 1) := by decide +kernel
theorem dX5_power_12 : decode cX5_power 12 = .ok (.lload_n 0, 1) := by decide +kernel
theorem dX5_power_13 : decode cX5_power 13 = .ok (.lmul, 1) := by decide +kernel
theorem dX5_power_14 : decode cX5_power 14 = .ok (.lstore_n 3, 1) := by decide +kernel
theorem dX5_power_15 : decode cX5_power 15 = .ok (.iinc 5 1, 3) := by decide +kernel
theorem dX5_power_18 : decode cX5_power 18 = .ok (.goto (-13), 3) := by decide +kernel
theorem dX5_power_21 : decode cX5_power 21 = .ok (.lload_n 3, 1) := by decide +kernel
theorem dX5_power_22 : decode cX5_power 22 = .ok (.lreturn, 1) := by decide +kernel
theorem dX5_commonDivisor_0 : decode cX5_commonDivisor 0 = .ok (.iload_n 1, 1) := by decide +kernel
theorem dX5_commonDivisor_1 : decode cX5_commonDivisor 1 = .ok (.istore_n 2, 1) := by decide +kernel
theorem dX5_commonDivisor_2 : decode cX5_commonDivisor 2 = .ok (.iload_n 2, 1) := by decide +kernel
theorem dX5_commonDivisor_3 : decode cX5_commonDivisor 3 = .ok (.iconst 1, 1) := by decide +kernel
theorem dX5_commonDivisor_4 : decode cX5_commonDivisor 4 = .ok (.if_icmp .le 23, 3) := by decide +kernel
theorem dX5_commonDivisor_7 : decode cX5_commonDivisor 7 = .ok (.iload_n 0, 1) := by decide +kernel
theorem dX5_commonDivisor_8 : decode cX5_commonDivisor 8 = .ok (.iload_n 2, 1) := by decide +kernel
theorem dX5_commonDivisor_9 : decode cX5_commonDivisor 9 = .ok (.irem, 1) := by decide +kernel
theorem dX5_commonDivisor_10 : decode cX5_commonDivisor 10 = .ok (.ifCond .ne 11, 3) := by decide +kernel
theorem dX5_commonDivisor_13 : decode cX5_commonDivisor 13 = .ok (.iload_n 1, 1) := by decide +kernel
theorem dX5_commonDivisor_14 : decode cX5_commonDivisor 14 = .ok (.iload_n 2, 1) := by decide +kernel
theorem dX5_commonDivisor_15 : decode cX5_commonDivisor 15 = .ok (.irem, 1) := by decide +kernel
theorem dX5_commonDivisor_16 : decode cX5_commonDivisor 16 = .ok (.ifCond .ne 5, 3) := by decide +kernel
theorem dX5_commonDivisor_19 : decode cX5_commonDivisor 19 = .ok (.iload_n 2, 1) := by decide +kernel
theorem dX5_commonDivisor_20 : decode cX5_commonDivisor 20 = .ok (.ireturn, 1) := by decide +kernel
theorem dX5_commonDivisor_21 : decode cX5_commonDivisor 21 = .ok (.iinc 2 (-1), 3) := by decide +kernel
theorem dX5_commonDivisor_24 : decode cX5_commonDivisor 24 = .ok (.goto (-22), 3) := by decide +kernel
theorem dX5_commonDivisor_27 : decode cX5_commonDivisor 27 = .ok (.iconst 1, 1) := by decide +kernel
theorem dX5_commonDivisor_28 : decode cX5_commonDivisor 28 = .ok (.ireturn, 1) := by decide +kernel
theorem dX6_init_0 : decode cX6_init 0 = .ok (.aload_n 0, 1) := by decide +kernel
theorem dX6_init_1 : decode cX6_init 1 = .ok (.invokespecial 1, 3) := by decide +kernel
theorem dX6_init_4 : decode cX6_init 4 = .ok (.aload_n 0, 1) := by decide +kernel
theorem dX6_init_5 : decode cX6_init 5 = .ok (.bipush 8, 2) := by decide +kernel
theorem dX6_init_7 : decode cX6_init 7 = .ok (.newarray .int, 2) := by decide +kernel
theorem dX6_init_9 : decode cX6_init 9 = .ok (.putfield 7, 3) := by decide +kernel
theorem dX6_init_12 : decode cX6_init 12 = .ok (.aload_n 0, 1) := by decide +kernel
theorem dX6_init_13 : decode cX6_init 13 = .ok (.bipush 8, 2) := by decide +kernel
theorem dX6_init_15 : decode cX6_init 15 = .ok (.newarray .int, 2) := by decide +kernel
theorem dX6_init_17 : decode cX6_init 17 = .ok (.putfield 13, 3) := by decide +kernel
theorem dX6_init_20 : decode cX6_init 20 = .ok (.aload_n 0, 1) := by decide +kernel
theorem dX6_init_21 : decode cX6_init 21 = .ok (.bipush 8, 2) := by decide +kernel
theorem dX6_init_23 : decode cX6_init 23 = .ok (.newarray .int, 2) := by decide +kernel
theorem dX6_init_25 : decode cX6_init 25 = .ok (.putfield 16, 3) := by decide +kernel
theorem dX6_init_28 : decode cX6_init 28 = .ok (.aload_n 0, 1) := by decide +kernel
theorem dX6_init_29 : decode cX6_init 29 = .ok (.bipush 8, 2) := by decide +kernel
theorem dX6_init_31 : decode cX6_init 31 = .ok (.newarray .int, 2) := by decide +kernel
theorem dX6_init_33 : decode cX6_init 33 = .ok (.putfield 19, 3) := by decide +kernel
theorem dX6_init_36 : decode cX6_init 36 = .ok (.aload_n 0, 1) := by decide +kernel
theorem dX6_init_37 : decode cX6_init 37 = .ok (.bipush 8, 2) := by decide +kernel
theorem dX6_init_39 : decode cX6_init 39 = .ok (.newarray .int, 2) := by decide +kernel
theorem dX6_init_41 : decode cX6_init 41 = .ok (.putfield 22, 3) := by decide +kernel
theorem dX6_init_44 : decode cX6_init 44 = .ok (.aload_n 0, 1) := by decide +kernel
theorem dX6_init_45 : decode cX6_init 45 = .ok (.bipush 8, 2) := by decide +kernel
theorem dX6_init_47 : decode cX6_init 47 = .ok (.newarray .int, 2) := by decide +kernel
theorem dX6_init_49 : decode cX6_init 49 = .ok (.putfield 25, 3) := by decide +kernel
theorem dX6_init_52 : decode cX6_init 52 = .ok (.aload_n 0, 1) := by decide +kernel
theorem dX6_init_53 : decode cX6_init 53 = .ok (.bipush 8, 2) := by decide +kernel
theorem dX6_init_55 : decode cX6_init 55 = .ok (.newarray .int, 2) := by decide +kernel
theorem dX6_init_57 : decode cX6_init 57 = .ok (.putfield 28, 3) := by decide +kernel
theorem dX6_init_60 : decode cX6_init 60 = .ok (.aload_n 0, 1) := by decide +kernel
theorem dX6_init_61 : decode cX6_init 61 = .ok (.sipush 3125, 3) := by decide +kernel
theorem dX6_init_64 : decode cX6_init 64 = .ok (.newarray .int, 2) := by decide +kernel
theorem dX6_init_66 : decode cX6_init 66 = .ok (.putfield 31, 3) := by decide +kernel
theorem dX6_init_69 : decode cX6_init 69 = .ok (.aload_n 0, 1) := by decide +kernel
theorem dX6_init_70 : decode cX6_init 70 = .ok (.iconst 1, 1) := by decide +kernel
theorem dX6_init_71 : decode cX6_init 71 = .ok (.putfield 34, 3) := by decide +kernel
theorem dX6_init_74 : decode cX6_init 74 = .ok (.return_, 1) := by decide +kernel
theorem dX6_in_0 : decode cX6_in 0 = .ok (.lload_n 0, 1) := by decide +kernel
theorem dX6_in_1 : decode cX6_in 1 = .ok (.lload_n 2, 1) := by decide +kernel
theorem dX6_in_2 : decode cX6_in 2 = .ok (.lcmp, 1) := by decide +kernel
theorem dX6_in_3 : decode cX6_in 3 = .ok (.ifCond .lt 14, 3) := by decide +kernel
theorem dX6_in_6 : decode cX6_in 6 = .ok (.lload_n 0, 1) := by decide +kernel
theorem dX6_in_7 : decode cX6_in 7 = .ok (.lload 4, 2) := by decide +kernel
theorem dX6_in_9 : decode cX6_in 9 = .ok (.lcmp, 1) := by decide +kernel
theorem dX6_in_10 : decode cX6_in 10 = .ok (.ifCond .gt 7, 3) := by decide +kernel
theorem dX6_in_13 : decode cX6_in 13 = .ok (.iconst 1, 1) := by decide +kernel
theorem dX6_in_14 : decode cX6_in 14 = .ok (.goto 4, 3) := by decide +kernel
theorem dX6_in_17 : decode cX6_in 17 = .ok (.iconst 0, 1) := by decide +kernel
theorem dX6_in_18 : decode cX6_in 18 = .ok (.ireturn, 1) := by decide +kernel
theorem dX6_isPost_0 : decode cX6_isPost 0 = .ok (.iload_n 1, 1) := by decide +kernel
theorem dX6_isPost_1 : decode cX6_isPost 1 = .ok (.i2l, 1) := by decide +kernel
theorem dX6_isPost_2 : decode cX6_isPost 2 = .ok (.lconst 0, 1) := by decide +kernel
theorem dX6_isPost_3 : decode cX6_isPost 3 = .ok (.aload_n 0, 1) := by decide +kernel
theorem dX6_isPost_4 : decode cX6_isPost 4 = .ok (.getfield 34, 3) := by decide +kernel
theorem dX6_isPost_7 : decode cX6_isPost 7 = .ok (.iconst 1, 1) := by decide +kernel
theorem dX6_isPost_8 : decode cX6_isPost 8 = .ok (.isub, 1) := by decide +kernel
theorem dX6_isPost_9 : decode cX6_isPost 9 = .ok (.i2l, 1) := by decide +kernel
theorem dX6_isPost_10 : decode cX6_isPost 10 = .ok (.invokestatic 38, 3) := by decide +kernel
theorem dX6_isPost_13 : decode cX6_isPost 13 = .ok (.ireturn, 1) := by decide +kernel
theorem dX6_posts_0 : decode cX6_posts 0 = .ok (.iload_n 1, 1) := by decide +kernel
theorem dX6_posts_1 : decode cX6_posts 1 = .ok (.i2l, 1) := by decide +kernel
theorem dX6_posts_2 : decode cX6_posts 2 = .ok (.lconst 1, 1) := by decide +kernel
theorem dX6_posts_3 : decode cX6_posts 3 = .ok (.ldc2_w 42, 3) := by decide +kernel
theorem dX6_posts_6 : decode cX6_posts 6 = .ok (.invokestatic 38, 3) := by decide +kernel
theorem dX6_posts_9 : decode cX6_posts 9 = .ok (.ifCond .ne 6, 3) := by decide +kernel
theorem dX6_posts_12 : decode cX6_posts 12 = .ok (.bipush (-102), 2) := by decide +kernel
theorem dX6_posts_14 : decode cX6_posts 14 = .ok (.ireturn, 1) := by decide +kernel
theorem dX6_posts_15 : decode cX6_posts 15 = .ok (.aload_n 0, 1) := by decide +kernel
theorem dX6_posts_16 : decode cX6_posts 16 = .ok (.iload_n 1, 1) := by decide +kernel
theorem dX6_posts_17 : decode cX6_posts 17 = .ok (.putfield 34, 3) := by decide +kernel
theorem dX6_posts_20 : decode cX6_posts 20 = .ok (.iconst 0, 1) := by decide +kernel
theorem dX6_posts_21 : decode cX6_posts 21 = .ok (.istore_n 2, 1) := by decide +kernel
theorem dX6_posts_22 : decode cX6_posts 22 = .ok (.iload_n 2, 1) := by decide +kernel
theorem dX6_posts_23 : decode cX6_posts 23 = .ok (.bipush 8, 2) := by decide +kernel
theorem dX6_posts_25 : decode cX6_posts 25 = .ok (.if_icmp .ge 37, 3) := by decide +kernel
theorem dX6_posts_28 : decode cX6_posts 28 = .ok (.aload_n 0, 1) := by decide +kernel
theorem dX6_posts_29 : decode cX6_posts 29 = .ok (.getfield 7, 3) := by decide +kernel
theorem dX6_posts_32 : decode cX6_posts 32 = .ok (.iload_n 2, 1) := by decide +kernel
theorem dX6_posts_33 : decode cX6_posts 33 = .ok (.iconst 0, 1) := by decide +kernel
theorem dX6_posts_34 : decode cX6_posts 34 = .ok (.iastore, 1) := by decide +kernel
theorem dX6_posts_35 : decode cX6_posts 35 = .ok (.aload_n 0, 1) := by decide +kernel
theorem dX6_posts_36 : decode cX6_posts 36 = .ok (.getfield 13, 3) := by decide +kernel
theorem dX6_posts_39 : decode cX6_posts 39 = .ok (.iload_n 2, 1) := by decide +kernel
theorem dX6_posts_40 : decode cX6_posts 40 = .ok (.iconst 0, 1) := by decide +kernel
theorem dX6_posts_41 : decode cX6_posts 41 = .ok (.iastore, 1) := by decide +kernel
theorem dX6_posts_42 : decode cX6_posts 42 = .ok (.aload_n 0, 1) := by decide +kernel
theorem dX6_posts_43 : decode cX6_posts 43 = .ok (.getfield 16, 3) := by decide +kernel
theorem dX6_posts_46 : decode cX6_posts 46 = .ok (.iload_n 2, 1) := by decide +kernel
theorem dX6_posts_47 : decode cX6_posts 47 = .ok (.iconst 0, 1) := by decide +kernel
theorem dX6_posts_48 : decode cX6_posts 48 = .ok (.iastore, 1) := by decide +kernel
theorem dX6_posts_49 : decode cX6_posts 49 = .ok (.aload_n 0, 1) := by decide +kernel
theorem dX6_posts_50 : decode cX6_posts 50 = .ok (.getfield 19, 3) := by decide +kernel
theorem dX6_posts_53 : decode cX6_posts 53 = .ok (.iload_n 2, 1) := by decide +kernel
theorem dX6_posts_54 : decode cX6_posts 54 = .ok (.iconst 0, 1) := by decide +kernel
theorem dX6_posts_55 : decode cX6_posts 55 = .ok (.iastore, 1) := by decide +kernel
theorem dX6_posts_56 : decode cX6_posts 56 = .ok (.iinc 2 1, 3) := by decide +kernel
theorem dX6_posts_59 : decode cX6_posts 59 = .ok (.goto (-37), 3) := by decide +kernel
theorem dX6_posts_62 : decode cX6_posts 62 = .ok (.aload_n 0, 1) := by decide +kernel
theorem dX6_posts_63 : decode cX6_posts 63 = .ok (.getfield 34, 3) := by decide +kernel
theorem dX6_posts_66 : decode cX6_posts 66 = .ok (.ireturn, 1) := by decide +kernel
theorem dX6_areNear_0 : decode cX6_areNear 0 = .ok (.aload_n 0, 1) := by decide +kernel
theorem dX6_areNear_1 : decode cX6_areNear 1 = .ok (.getfield 7, 3) := by decide +kernel
theorem dX6_areNear_4 : decode cX6_areNear 4 = .ok (.iload_n 1, 1) := by decide +kernel
theorem dX6_areNear_5 : decode cX6_areNear 5 = .ok (.iaload, 1) := by decide +kernel
theorem dX6_areNear_6 : decode cX6_areNear 6 = .ok (.iload_n 2, 1) := by decide +kernel
theorem dX6_areNear_7 : decode cX6_areNear 7 = .ok (.ishr, 1) := by decide +kernel
theorem dX6_areNear_8 : decode cX6_areNear 8 = .ok (.iconst 1, 1) := by decide +kernel
theorem dX6_areNear_9 : decode cX6_areNear 9 = .ok (.iand, 1) := by decide +kernel
theorem dX6_areNear_10 : decode cX6_areNear 10 = .ok (.iconst 1, 1) := by decide +kernel
theorem dX6_areNear_11 : decode cX6_areNear 11 = .ok (.if_icmp .ne 7, 3) := by decide +kernel
theorem dX6_areNear_14 : decode cX6_areNear 14 = .ok (.iconst 1, 1) := by decide +kernel
theorem dX6_areNear_15 : decode cX6_areNear 15 = .ok (.goto 4, 3) := by decide +kernel
theorem dX6_areNear_18 : decode cX6_areNear 18 = .ok (.iconst 0, 1) := by decide +kernel
theorem dX6_areNear_19 : decode cX6_areNear 19 = .ok (.ireturn, 1) := by decide +kernel
theorem dX6_line_0 : decode cX6_line 0 = .ok (.aload_n 0, 1) := by decide +kernel
theorem dX6_line_1 : decode cX6_line 1 = .ok (.iload_n 1, 1) := by decide +kernel
theorem dX6_line_2 : decode cX6_line 2 = .ok (.invokevirtual 44, 3) := by decide +kernel
theorem dX6_line_5 : decode cX6_line 5 = .ok (.ifCond .eq 11, 3) := by decide +kernel
theorem dX6_line_8 : decode cX6_line 8 = .ok (.aload_n 0, 1) := by decide +kernel
theorem dX6_line_9 : decode cX6_line 9 = .ok (.iload_n 2, 1) := by decide +kernel
theorem dX6_line_10 : decode cX6_line 10 = .ok (.invokevirtual 44, 3) := by decide +kernel
theorem dX6_line_13 : decode cX6_line 13 = .ok (.ifCond .ne 6, 3) := by decide +kernel
theorem dX6_line_16 : decode cX6_line 16 = .ok (.bipush (-101), 2) := by decide +kernel
theorem dX6_line_18 : decode cX6_line 18 = .ok (.ireturn, 1) := by decide +kernel
theorem dX6_line_19 : decode cX6_line 19 = .ok (.iload_n 1, 1) := by decide +kernel
theorem dX6_line_20 : decode cX6_line 20 = .ok (.iload_n 2, 1) := by decide +kernel
theorem dX6_line_21 : decode cX6_line 21 = .ok (.if_icmp .ne 6, 3) := by decide +kernel
theorem dX6_line_24 : decode cX6_line 24 = .ok (.bipush (-102), 2) := by decide +kernel
theorem dX6_line_26 : decode cX6_line 26 = .ok (.ireturn, 1) := by decide +kernel
theorem dX6_line_27 : decode cX6_line 27 = .ok (.aload_n 0, 1) := by decide +kernel
theorem dX6_line_28 : decode cX6_line 28 = .ok (.getfield 7, 3) := by decide +kernel
theorem dX6_line_31 : decode cX6_line 31 = .ok (.iload_n 1, 1) := by decide +kernel
theorem dX6_line_32 : decode cX6_line 32 = .ok (.iaload, 1) := by decide +kernel
theorem dX6_line_33 : decode cX6_line 33 = .ok (.iload_n 2, 1) := by decide +kernel
theorem dX6_line_34 : decode cX6_line 34 = .ok (.ishr, 1) := by decide +kernel
theorem dX6_line_35 : decode cX6_line 35 = .ok (.iconst 1, 1) := by decide +kernel
theorem dX6_line_36 : decode cX6_line 36 = .ok (.iand, 1) := by decide +kernel
theorem dX6_line_37 : decode cX6_line 37 = .ok (.istore 4, 2) := by decide +kernel
theorem dX6_line_39 : decode cX6_line 39 = .ok (.aload_n 0, 1) := by decide +kernel
theorem dX6_line_40 : decode cX6_line 40 = .ok (.getfield 7, 3) := by decide +kernel
theorem dX6_line_43 : decode cX6_line 43 = .ok (.iload_n 1, 1) := by decide +kernel
theorem dX6_line_44 : decode cX6_line 44 = .ok (.iload_n 3, 1) := by decide +kernel
theorem dX6_line_45 : decode cX6_line 45 = .ok (.ifCond .eq 16, 3) := by decide +kernel
theorem dX6_line_48 : decode cX6_line 48 = .ok (.aload_n 0, 1) := by decide +kernel
theorem dX6_line_49 : decode cX6_line 49 = .ok (.getfield 7, 3) := by decide +kernel
theorem dX6_line_52 : decode cX6_line 52 = .ok (.iload_n 1, 1) := by decide +kernel
theorem dX6_line_53 : decode cX6_line 53 = .ok (.iaload, 1) := by decide +kernel
theorem dX6_line_54 : decode cX6_line 54 = .ok (.iconst 1, 1) := by decide +kernel
theorem dX6_line_55 : decode cX6_line 55 = .ok (.iload_n 2, 1) := by decide +kernel
theorem dX6_line_56 : decode cX6_line 56 = .ok (.ishl, 1) := by decide +kernel
theorem dX6_line_57 : decode cX6_line 57 = .ok (.ior, 1) := by decide +kernel
theorem dX6_line_58 : decode cX6_line 58 = .ok (.goto 15, 3) := by decide +kernel
theorem dX6_line_61 : decode cX6_line 61 = .ok (.aload_n 0, 1) := by decide +kernel
theorem dX6_line_62 : decode cX6_line 62 = .ok (.getfield 7, 3) := by decide +kernel
theorem dX6_line_65 : decode cX6_line 65 = .ok (.iload_n 1, 1) := by decide +kernel
theorem dX6_line_66 : decode cX6_line 66 = .ok (.iaload, 1) := by decide +kernel
theorem dX6_line_67 : decode cX6_line 67 = .ok (.iconst 1, 1) := by decide +kernel
theorem dX6_line_68 : decode cX6_line 68 = .ok (.iload_n 2, 1) := by decide +kernel
theorem dX6_line_69 : decode cX6_line 69 = .ok (.ishl, 1) := by decide +kernel
theorem dX6_line_70 : decode cX6_line 70 = .ok (.iconst (-1), 1) := by decide +kernel
theorem dX6_line_71 : decode cX6_line 71 = .ok (.ixor, 1) := by decide +kernel
theorem dX6_line_72 : decode cX6_line 72 = .ok (.iand, 1) := by decide +kernel
theorem dX6_line_73 : decode cX6_line 73 = .ok (.iastore, 1) := by decide +kernel
theorem dX6_line_74 : decode cX6_line 74 = .ok (.aload_n 0, 1) := by decide +kernel
theorem dX6_line_75 : decode cX6_line 75 = .ok (.getfield 7, 3) := by decide +kernel
theorem dX6_line_78 : decode cX6_line 78 = .ok (.iload_n 2, 1) := by decide +kernel
theorem dX6_line_79 : decode cX6_line 79 = .ok (.iload_n 3, 1) := by decide +kernel
theorem dX6_line_80 : decode cX6_line 80 = .ok (.ifCond .eq 16, 3) := by decide +kernel
theorem dX6_line_83 : decode cX6_line 83 = .ok (.aload_n 0, 1) := by decide +kernel
theorem dX6_line_84 : decode cX6_line 84 = .ok (.getfield 7, 3) := by decide +kernel
theorem dX6_line_87 : decode cX6_line 87 = .ok (.iload_n 2, 1) := by decide +kernel
theorem dX6_line_88 : decode cX6_line 88 = .ok (.iaload, 1) := by decide +kernel
theorem dX6_line_89 : decode cX6_line 89 = .ok (.iconst 1, 1) := by decide +kernel
theorem dX6_line_90 : decode cX6_line 90 = .ok (.iload_n 1, 1) := by decide +kernel
theorem dX6_line_91 : decode cX6_line 91 = .ok (.ishl, 1) := by decide +kernel
theorem dX6_line_92 : decode cX6_line 92 = .ok (.ior, 1) := by decide +kernel
theorem dX6_line_93 : decode cX6_line 93 = .ok (.goto 15, 3) := by decide +kernel
theorem dX6_line_96 : decode cX6_line 96 = .ok (.aload_n 0, 1) := by decide +kernel
theorem dX6_line_97 : decode cX6_line 97 = .ok (.getfield 7, 3) := by decide +kernel
theorem dX6_line_100 : decode cX6_line 100 = .ok (.iload_n 2, 1) := by decide +kernel
theorem dX6_line_101 : decode cX6_line 101 = .ok (.iaload, 1) := by decide +kernel
theorem dX6_line_102 : decode cX6_line 102 = .ok (.iconst 1, 1) := by decide +kernel
theorem dX6_line_103 : decode cX6_line 103 = .ok (.iload_n 1, 1) := by decide +kernel
theorem dX6_line_104 : decode cX6_line 104 = .ok (.ishl, 1) := by decide +kernel
theorem dX6_line_105 : decode cX6_line 105 = .ok (.iconst (-1), 1) := by decide +kernel
theorem dX6_line_106 : decode cX6_line 106 = .ok (.ixor, 1) := by decide +kernel
theorem dX6_line_107 : decode cX6_line 107 = .ok (.iand, 1) := by decide +kernel
theorem dX6_line_108 : decode cX6_line 108 = .ok (.iastore, 1) := by decide +kernel
theorem dX6_line_109 : decode cX6_line 109 = .ok (.iload 4, 2) := by decide +kernel
theorem dX6_line_111 : decode cX6_line 111 = .ok (.ireturn, 1) := by decide +kernel
theorem dX6_mark_0 : decode cX6_mark 0 = .ok (.aload_n 0, 1) := by decide +kernel
theorem dX6_mark_1 : decode cX6_mark 1 = .ok (.iload_n 1, 1) := by decide +kernel
theorem dX6_mark_2 : decode cX6_mark 2 = .ok (.invokevirtual 44, 3) := by decide +kernel
theorem dX6_mark_5 : decode cX6_mark 5 = .ok (.ifCond .ne 6, 3) := by decide +kernel
theorem dX6_mark_8 : decode cX6_mark 8 = .ok (.bipush (-101), 2) := by decide +kernel
theorem dX6_mark_10 : decode cX6_mark 10 = .ok (.ireturn, 1) := by decide +kernel
theorem dX6_mark_11 : decode cX6_mark 11 = .ok (.iload_n 2, 1) := by decide +kernel
theorem dX6_mark_12 : decode cX6_mark 12 = .ok (.i2l, 1) := by decide +kernel
theorem dX6_mark_13 : decode cX6_mark 13 = .ok (.lconst 0, 1) := by decide +kernel
theorem dX6_mark_14 : decode cX6_mark 14 = .ok (.ldc2_w 48, 3) := by decide +kernel
theorem dX6_mark_17 : decode cX6_mark 17 = .ok (.invokestatic 38, 3) := by decide +kernel
theorem dX6_mark_20 : decode cX6_mark 20 = .ok (.ifCond .ne 6, 3) := by decide +kernel
theorem dX6_mark_23 : decode cX6_mark 23 = .ok (.bipush (-102), 2) := by decide +kernel
theorem dX6_mark_25 : decode cX6_mark 25 = .ok (.ireturn, 1) := by decide +kernel
theorem dX6_mark_26 : decode cX6_mark 26 = .ok (.aload_n 0, 1) := by decide +kernel
theorem dX6_mark_27 : decode cX6_mark 27 = .ok (.getfield 13, 3) := by decide +kernel
theorem dX6_mark_30 : decode cX6_mark 30 = .ok (.iload_n 1, 1) := by decide +kernel
theorem dX6_mark_31 : decode cX6_mark 31 = .ok (.iaload, 1) := by decide +kernel
theorem dX6_mark_32 : decode cX6_mark 32 = .ok (.istore_n 3, 1) := by decide +kernel
theorem dX6_mark_33 : decode cX6_mark 33 = .ok (.aload_n 0, 1) := by decide +kernel
theorem dX6_mark_34 : decode cX6_mark 34 = .ok (.getfield 13, 3) := by decide +kernel
theorem dX6_mark_37 : decode cX6_mark 37 = .ok (.iload_n 1, 1) := by decide +kernel
theorem dX6_mark_38 : decode cX6_mark 38 = .ok (.iload_n 2, 1) := by decide +kernel
theorem dX6_mark_39 : decode cX6_mark 39 = .ok (.iastore, 1) := by decide +kernel
theorem dX6_mark_40 : decode cX6_mark 40 = .ok (.iload_n 3, 1) := by decide +kernel
theorem dX6_mark_41 : decode cX6_mark 41 = .ok (.ireturn, 1) := by decide +kernel
theorem dX6_scheme_0 : decode cX6_scheme 0 = .ok (.iload_n 1, 1) := by decide +kernel
theorem dX6_scheme_1 : decode cX6_scheme 1 = .ok (.i2l, 1) := by decide +kernel
theorem dX6_scheme_2 : decode cX6_scheme 2 = .ok (.lconst 0, 1) := by decide +kernel
theorem dX6_scheme_3 : decode cX6_scheme 3 = .ok (.ldc2_w 50, 3) := by decide +kernel
theorem dX6_scheme_6 : decode cX6_scheme 6 = .ok (.invokestatic 38, 3) := by decide +kernel
theorem dX6_scheme_9 : decode cX6_scheme 9 = .ok (.ifCond .ne 6, 3) := by decide +kernel
theorem dX6_scheme_12 : decode cX6_scheme 12 = .ok (.bipush (-102), 2) := by decide +kernel
theorem dX6_scheme_14 : decode cX6_scheme 14 = .ok (.ireturn, 1) := by decide +kernel
theorem dX6_scheme_15 : decode cX6_scheme 15 = .ok (.aload_n 0, 1) := by decide +kernel
theorem dX6_scheme_16 : decode cX6_scheme 16 = .ok (.getfield 52, 3) := by decide +kernel
theorem dX6_scheme_19 : decode cX6_scheme 19 = .ok (.istore_n 2, 1) := by decide +kernel
theorem dX6_scheme_20 : decode cX6_scheme 20 = .ok (.aload_n 0, 1) := by decide +kernel
theorem dX6_scheme_21 : decode cX6_scheme 21 = .ok (.iload_n 1, 1) := by decide +kernel
theorem dX6_scheme_22 : decode cX6_scheme 22 = .ok (.putfield 52, 3) := by decide +kernel
theorem dX6_scheme_25 : decode cX6_scheme 25 = .ok (.iload_n 2, 1) := by decide +kernel
theorem dX6_scheme_26 : decode cX6_scheme 26 = .ok (.ireturn, 1) := by decide +kernel
theorem dX6_spread_0 : decode cX6_spread 0 = .ok (.iconst 0, 1) := by decide +kernel
theorem dX6_spread_1 : decode cX6_spread 1 = .ok (.istore_n 2, 1) := by decide +kernel
theorem dX6_spread_2 : decode cX6_spread 2 = .ok (.iload_n 2, 1) := by decide +kernel
theorem dX6_spread_3 : decode cX6_spread 3 = .ok (.aload_n 0, 1) := by decide +kernel
theorem dX6_spread_4 : decode cX6_spread 4 = .ok (.getfield 34, 3) := by decide +kernel
theorem dX6_spread_7 : decode cX6_spread 7 = .ok (.if_icmp .ge 25, 3) := by decide +kernel
theorem dX6_spread_10 : decode cX6_spread 10 = .ok (.aload_n 0, 1) := by decide +kernel
theorem dX6_spread_11 : decode cX6_spread 11 = .ok (.getfield 22, 3) := by decide +kernel
theorem dX6_spread_14 : decode cX6_spread 14 = .ok (.iload_n 2, 1) := by decide +kernel
theorem dX6_spread_15 : decode cX6_spread 15 = .ok (.iload_n 2, 1) := by decide +kernel
theorem dX6_spread_16 : decode cX6_spread 16 = .ok (.iload_n 1, 1) := by decide +kernel
theorem dX6_spread_17 : decode cX6_spread 17 = .ok (.if_icmp .ne 7, 3) := by decide +kernel
theorem dX6_spread_20 : decode cX6_spread 20 = .ok (.iconst 0, 1) := by decide +kernel
theorem dX6_spread_21 : decode cX6_spread 21 = .ok (.goto 4, 3) := by decide +kernel
theorem dX6_spread_24 : decode cX6_spread 24 = .ok (.iconst (-1), 1) := by decide +kernel
theorem dX6_spread_25 : decode cX6_spread 25 = .ok (.iastore, 1) := by decide +kernel
theorem dX6_spread_26 : decode cX6_spread 26 = .ok (.iinc 2 1, 3) := by decide +kernel
theorem dX6_spread_29 : decode cX6_spread 29 = .ok (.goto (-27), 3) := by decide +kernel
theorem dX6_spread_32 : decode cX6_spread 32 = .ok (.iconst 0, 1) := by decide +kernel
theorem dX6_spread_33 : decode cX6_spread 33 = .ok (.istore_n 2, 1) := by decide +kernel
theorem dX6_spread_34 : decode cX6_spread 34 = .ok (.iload_n 2, 1) := by decide +kernel
theorem dX6_spread_35 : decode cX6_spread 35 = .ok (.aload_n 0, 1) := by decide +kernel
theorem dX6_spread_36 : decode cX6_spread 36 = .ok (.getfield 34, 3) := by decide +kernel
theorem dX6_spread_39 : decode cX6_spread 39 = .ok (.if_icmp .ge 84, 3) := by decide +kernel
theorem dX6_spread_42 : decode cX6_spread 42 = .ok (.iconst 0, 1) := by decide +kernel
theorem dX6_spread_43 : decode cX6_spread 43 = .ok (.istore_n 3, 1) := by decide +kernel
theorem dX6_spread_44 : decode cX6_spread 44 = .ok (.iload_n 3, 1) := by decide +kernel
theorem dX6_spread_45 : decode cX6_spread 45 = .ok (.aload_n 0, 1) := by decide +kernel
theorem dX6_spread_46 : decode cX6_spread 46 = .ok (.getfield 34, 3) := by decide +kernel
theorem dX6_spread_49 : decode cX6_spread 49 = .ok (.if_icmp .ge 68, 3) := by decide +kernel
theorem dX6_spread_52 : decode cX6_spread 52 = .ok (.iconst 0, 1) := by decide +kernel
theorem dX6_spread_53 : decode cX6_spread 53 = .ok (.istore 4, 2) := by decide +kernel
theorem dX6_spread_55 : decode cX6_spread 55 = .ok (.iload 4, 2) := by decide +kernel
theorem dX6_spread_57 : decode cX6_spread 57 = .ok (.aload_n 0, 1) := by decide +kernel
theorem dX6_spread_58 : decode cX6_spread 58 = .ok (.getfield 34, 3) := by decide +kernel
theorem dX6_spread_61 : decode cX6_spread 61 = .ok (.if_icmp .ge 50, 3) := by decide +kernel
theorem dX6_spread_64 : decode cX6_spread 64 = .ok (.aload_n 0, 1) := by decide +kernel
theorem dX6_spread_65 : decode cX6_spread 65 = .ok (.getfield 22, 3) := by decide +kernel
theorem dX6_spread_68 : decode cX6_spread 68 = .ok (.iload_n 3, 1) := by decide +kernel
theorem dX6_spread_69 : decode cX6_spread 69 = .ok (.iaload, 1) := by decide +kernel
theorem dX6_spread_70 : decode cX6_spread 70 = .ok (.iload_n 2, 1) := by decide +kernel
theorem dX6_spread_71 : decode cX6_spread 71 = .ok (.if_icmp .ne 34, 3) := by decide +kernel
theorem dX6_spread_74 : decode cX6_spread 74 = .ok (.aload_n 0, 1) := by decide +kernel
end
section
theorem dX6_spread_75 : decode cX6_spread 75 = .ok (.iload_n 3, 1) := by decide +kernel
theorem dX6_spread_76 : decode cX6_spread 76 = .ok (.iload 4, 2) := by decide +kernel
theorem dX6_spread_78 : decode cX6_spread 78 = .ok (.invokevirtual 55, 3) := by decide +kernel
theorem dX6_spread_81 : decode cX6_spread 81 = .ok (.ifCond .eq 24, 3) := by decide +kernel
theorem dX6_spread_84 : decode cX6_spread 84 = .ok (.aload_n 0, 1) := by decide +kernel
theorem dX6_spread_85 : decode cX6_spread 85 = .ok (.getfield 22, 3) := by decide +kernel
theorem dX6_spread_88 : decode cX6_spread 88 = .ok (.iload 4, 2) := by decide +kernel
theorem dX6_spread_90 : decode cX6_spread 90 = .ok (.iaload, 1) := by decide +kernel
theorem dX6_spread_91 : decode cX6_spread 91 = .ok (.iconst (-1), 1) := by decide +kernel
theorem dX6_spread_92 : decode cX6_spread 92 = .ok (.if_icmp .ne 13, 3) := by decide +kernel
theorem dX6_spread_95 : decode cX6_spread 95 = .ok (.aload_n 0, 1) := by decide +kernel
theorem dX6_spread_96 : decode cX6_spread 96 = .ok (.getfield 22, 3) := by decide +kernel
theorem dX6_spread_99 : decode cX6_spread 99 = .ok (.iload 4, 2) := by decide +kernel
theorem dX6_spread_101 : decode cX6_spread 101 = .ok (.iload_n 2, 1) := by decide +kernel
theorem dX6_spread_102 : decode cX6_spread 102 = .ok (.iconst 1, 1) := by decide +kernel
theorem dX6_spread_103 : decode cX6_spread 103 = .ok (.iadd, 1) := by decide +kernel
theorem dX6_spread_104 : decode cX6_spread 104 = .ok (.iastore, 1) := by decide +kernel
theorem dX6_spread_105 : decode cX6_spread 105 = .ok (.iinc 4 1, 3) := by decide +kernel
theorem dX6_spread_108 : decode cX6_spread 108 = .ok (.goto (-53), 3) := by decide +kernel
theorem dX6_spread_111 : decode cX6_spread 111 = .ok (.iinc 3 1, 3) := by decide +kernel
theorem dX6_spread_114 : decode cX6_spread 114 = .ok (.goto (-70), 3) := by decide +kernel
theorem dX6_spread_117 : decode cX6_spread 117 = .ok (.iinc 2 1, 3) := by decide +kernel
theorem dX6_spread_120 : decode cX6_spread 120 = .ok (.goto (-86), 3) := by decide +kernel
theorem dX6_spread_123 : decode cX6_spread 123 = .ok (.return_, 1) := by decide +kernel
theorem dX6_firstOf_0 : decode cX6_firstOf 0 = .ok (.aload_n 0, 1) := by decide +kernel
theorem dX6_firstOf_1 : decode cX6_firstOf 1 = .ok (.iload_n 1, 1) := by decide +kernel
theorem dX6_firstOf_2 : decode cX6_firstOf 2 = .ok (.invokevirtual 59, 3) := by decide +kernel
theorem dX6_firstOf_5 : decode cX6_firstOf 5 = .ok (.iconst 0, 1) := by decide +kernel
theorem dX6_firstOf_6 : decode cX6_firstOf 6 = .ok (.istore_n 2, 1) := by decide +kernel
theorem dX6_firstOf_7 : decode cX6_firstOf 7 = .ok (.aload_n 0, 1) := by decide +kernel
theorem dX6_firstOf_8 : decode cX6_firstOf 8 = .ok (.getfield 22, 3) := by decide +kernel
theorem dX6_firstOf_11 : decode cX6_firstOf 11 = .ok (.iload_n 2, 1) := by decide +kernel
theorem dX6_firstOf_12 : decode cX6_firstOf 12 = .ok (.iaload, 1) := by decide +kernel
theorem dX6_firstOf_13 : decode cX6_firstOf 13 = .ok (.iconst (-1), 1) := by decide +kernel
theorem dX6_firstOf_14 : decode cX6_firstOf 14 = .ok (.if_icmp .ne 9, 3) := by decide +kernel
theorem dX6_firstOf_17 : decode cX6_firstOf 17 = .ok (.iinc 2 1, 3) := by decide +kernel
theorem dX6_firstOf_20 : decode cX6_firstOf 20 = .ok (.goto (-13), 3) := by decide +kernel
theorem dX6_firstOf_23 : decode cX6_firstOf 23 = .ok (.iload_n 2, 1) := by decide +kernel
theorem dX6_firstOf_24 : decode cX6_firstOf 24 = .ok (.ireturn, 1) := by decide +kernel
theorem dX6_setsOf_0 : decode cX6_setsOf 0 = .ok (.iconst 0, 1) := by decide +kernel
theorem dX6_setsOf_1 : decode cX6_setsOf 1 = .ok (.istore_n 1, 1) := by decide +kernel
theorem dX6_setsOf_2 : decode cX6_setsOf 2 = .ok (.iconst 0, 1) := by decide +kernel
theorem dX6_setsOf_3 : decode cX6_setsOf 3 = .ok (.istore_n 2, 1) := by decide +kernel
theorem dX6_setsOf_4 : decode cX6_setsOf 4 = .ok (.iload_n 2, 1) := by decide +kernel
theorem dX6_setsOf_5 : decode cX6_setsOf 5 = .ok (.aload_n 0, 1) := by decide +kernel
theorem dX6_setsOf_6 : decode cX6_setsOf 6 = .ok (.getfield 34, 3) := by decide +kernel
theorem dX6_setsOf_9 : decode cX6_setsOf 9 = .ok (.if_icmp .ge 26, 3) := by decide +kernel
theorem dX6_setsOf_12 : decode cX6_setsOf 12 = .ok (.iload_n 1, 1) := by decide +kernel
theorem dX6_setsOf_13 : decode cX6_setsOf 13 = .ok (.aload_n 0, 1) := by decide +kernel
theorem dX6_setsOf_14 : decode cX6_setsOf 14 = .ok (.iload_n 2, 1) := by decide +kernel
theorem dX6_setsOf_15 : decode cX6_setsOf 15 = .ok (.invokevirtual 63, 3) := by decide +kernel
theorem dX6_setsOf_18 : decode cX6_setsOf 18 = .ok (.iload_n 2, 1) := by decide +kernel
theorem dX6_setsOf_19 : decode cX6_setsOf 19 = .ok (.if_icmp .ne 7, 3) := by decide +kernel
theorem dX6_setsOf_22 : decode cX6_setsOf 22 = .ok (.iconst 1, 1) := by decide +kernel
theorem dX6_setsOf_23 : decode cX6_setsOf 23 = .ok (.goto 4, 3) := by decide +kernel
theorem dX6_setsOf_26 : decode cX6_setsOf 26 = .ok (.iconst 0, 1) := by decide +kernel
theorem dX6_setsOf_27 : decode cX6_setsOf 27 = .ok (.iadd, 1) := by decide +kernel
theorem dX6_setsOf_28 : decode cX6_setsOf 28 = .ok (.istore_n 1, 1) := by decide +kernel
theorem dX6_setsOf_29 : decode cX6_setsOf 29 = .ok (.iinc 2 1, 3) := by decide +kernel
theorem dX6_setsOf_32 : decode cX6_setsOf 32 = .ok (.goto (-28), 3) := by decide +kernel
theorem dX6_setsOf_35 : decode cX6_setsOf 35 = .ok (.iload_n 1, 1) := by decide +kernel
theorem dX6_setsOf_36 : decode cX6_setsOf 36 = .ok (.ireturn, 1) := by decide +kernel
theorem dX6_linesOf_0 : decode cX6_linesOf 0 = .ok (.iconst 0, 1) := by decide +kernel
theorem dX6_linesOf_1 : decode cX6_linesOf 1 = .ok (.istore_n 1, 1) := by decide +kernel
theorem dX6_linesOf_2 : decode cX6_linesOf 2 = .ok (.iconst 0, 1) := by decide +kernel
theorem dX6_linesOf_3 : decode cX6_linesOf 3 = .ok (.istore_n 2, 1) := by decide +kernel
theorem dX6_linesOf_4 : decode cX6_linesOf 4 = .ok (.iload_n 2, 1) := by decide +kernel
theorem dX6_linesOf_5 : decode cX6_linesOf 5 = .ok (.aload_n 0, 1) := by decide +kernel
theorem dX6_linesOf_6 : decode cX6_linesOf 6 = .ok (.getfield 34, 3) := by decide +kernel
theorem dX6_linesOf_9 : decode cX6_linesOf 9 = .ok (.if_icmp .ge 39, 3) := by decide +kernel
theorem dX6_linesOf_12 : decode cX6_linesOf 12 = .ok (.iconst 0, 1) := by decide +kernel
theorem dX6_linesOf_13 : decode cX6_linesOf 13 = .ok (.istore_n 3, 1) := by decide +kernel
theorem dX6_linesOf_14 : decode cX6_linesOf 14 = .ok (.iload_n 3, 1) := by decide +kernel
theorem dX6_linesOf_15 : decode cX6_linesOf 15 = .ok (.iload_n 2, 1) := by decide +kernel
theorem dX6_linesOf_16 : decode cX6_linesOf 16 = .ok (.if_icmp .ge 26, 3) := by decide +kernel
theorem dX6_linesOf_19 : decode cX6_linesOf 19 = .ok (.iload_n 1, 1) := by decide +kernel
theorem dX6_linesOf_20 : decode cX6_linesOf 20 = .ok (.aload_n 0, 1) := by decide +kernel
theorem dX6_linesOf_21 : decode cX6_linesOf 21 = .ok (.iload_n 2, 1) := by decide +kernel
theorem dX6_linesOf_22 : decode cX6_linesOf 22 = .ok (.iload_n 3, 1) := by decide +kernel
theorem dX6_linesOf_23 : decode cX6_linesOf 23 = .ok (.invokevirtual 55, 3) := by decide +kernel
theorem dX6_linesOf_26 : decode cX6_linesOf 26 = .ok (.ifCond .eq 7, 3) := by decide +kernel
theorem dX6_linesOf_29 : decode cX6_linesOf 29 = .ok (.iconst 1, 1) := by decide +kernel
theorem dX6_linesOf_30 : decode cX6_linesOf 30 = .ok (.goto 4, 3) := by decide +kernel
theorem dX6_linesOf_33 : decode cX6_linesOf 33 = .ok (.iconst 0, 1) := by decide +kernel
theorem dX6_linesOf_34 : decode cX6_linesOf 34 = .ok (.iadd, 1) := by decide +kernel
theorem dX6_linesOf_35 : decode cX6_linesOf 35 = .ok (.istore_n 1, 1) := by decide +kernel
theorem dX6_linesOf_36 : decode cX6_linesOf 36 = .ok (.iinc 3 1, 3) := by decide +kernel
theorem dX6_linesOf_39 : decode cX6_linesOf 39 = .ok (.goto (-25), 3) := by decide +kernel
theorem dX6_linesOf_42 : decode cX6_linesOf 42 = .ok (.iinc 2 1, 3) := by decide +kernel
theorem dX6_linesOf_45 : decode cX6_linesOf 45 = .ok (.goto (-41), 3) := by decide +kernel
theorem dX6_linesOf_48 : decode cX6_linesOf 48 = .ok (.iload_n 1, 1) := by decide +kernel
theorem dX6_linesOf_49 : decode cX6_linesOf 49 = .ok (.ireturn, 1) := by decide +kernel
theorem dX6_leaderOf_0 : decode cX6_leaderOf 0 = .ok (.aload_n 0, 1) := by decide +kernel
theorem dX6_leaderOf_1 : decode cX6_leaderOf 1 = .ok (.iload_n 1, 1) := by decide +kernel
theorem dX6_leaderOf_2 : decode cX6_leaderOf 2 = .ok (.invokevirtual 59, 3) := by decide +kernel
theorem dX6_leaderOf_5 : decode cX6_leaderOf 5 = .ok (.iconst (-1), 1) := by decide +kernel
theorem dX6_leaderOf_6 : decode cX6_leaderOf 6 = .ok (.istore_n 2, 1) := by decide +kernel
theorem dX6_leaderOf_7 : decode cX6_leaderOf 7 = .ok (.iconst 0, 1) := by decide +kernel
theorem dX6_leaderOf_8 : decode cX6_leaderOf 8 = .ok (.istore_n 3, 1) := by decide +kernel
theorem dX6_leaderOf_9 : decode cX6_leaderOf 9 = .ok (.iload_n 3, 1) := by decide +kernel
theorem dX6_leaderOf_10 : decode cX6_leaderOf 10 = .ok (.aload_n 0, 1) := by decide +kernel
theorem dX6_leaderOf_11 : decode cX6_leaderOf 11 = .ok (.getfield 34, 3) := by decide +kernel
theorem dX6_leaderOf_14 : decode cX6_leaderOf 14 = .ok (.if_icmp .ge 41, 3) := by decide +kernel
theorem dX6_leaderOf_17 : decode cX6_leaderOf 17 = .ok (.aload_n 0, 1) := by decide +kernel
theorem dX6_leaderOf_18 : decode cX6_leaderOf 18 = .ok (.getfield 22, 3) := by decide +kernel
theorem dX6_leaderOf_21 : decode cX6_leaderOf 21 = .ok (.iload_n 3, 1) := by decide +kernel
theorem dX6_leaderOf_22 : decode cX6_leaderOf 22 = .ok (.iaload, 1) := by decide +kernel
theorem dX6_leaderOf_23 : decode cX6_leaderOf 23 = .ok (.iconst (-1), 1) := by decide +kernel
theorem dX6_leaderOf_24 : decode cX6_leaderOf 24 = .ok (.if_icmp .eq 25, 3) := by decide +kernel
theorem dX6_leaderOf_27 : decode cX6_leaderOf 27 = .ok (.aload_n 0, 1) := by decide +kernel
theorem dX6_leaderOf_28 : decode cX6_leaderOf 28 = .ok (.getfield 13, 3) := by decide +kernel
theorem dX6_leaderOf_31 : decode cX6_leaderOf 31 = .ok (.iload_n 3, 1) := by decide +kernel
theorem dX6_leaderOf_32 : decode cX6_leaderOf 32 = .ok (.iaload, 1) := by decide +kernel
theorem dX6_leaderOf_33 : decode cX6_leaderOf 33 = .ok (.iconst 1, 1) := by decide +kernel
theorem dX6_leaderOf_34 : decode cX6_leaderOf 34 = .ok (.if_icmp .ne 15, 3) := by decide +kernel
theorem dX6_leaderOf_37 : decode cX6_leaderOf 37 = .ok (.iload_n 2, 1) := by decide +kernel
theorem dX6_leaderOf_38 : decode cX6_leaderOf 38 = .ok (.iconst (-1), 1) := by decide +kernel
theorem dX6_leaderOf_39 : decode cX6_leaderOf 39 = .ok (.if_icmp .ne 7, 3) := by decide +kernel
theorem dX6_leaderOf_42 : decode cX6_leaderOf 42 = .ok (.iload_n 3, 1) := by decide +kernel
theorem dX6_leaderOf_43 : decode cX6_leaderOf 43 = .ok (.goto 5, 3) := by decide +kernel
theorem dX6_leaderOf_46 : decode cX6_leaderOf 46 = .ok (.bipush (-2), 2) := by decide +kernel
theorem dX6_leaderOf_48 : decode cX6_leaderOf 48 = .ok (.istore_n 2, 1) := by decide +kernel
theorem dX6_leaderOf_49 : decode cX6_leaderOf 49 = .ok (.iinc 3 1, 3) := by decide +kernel
theorem dX6_leaderOf_52 : decode cX6_leaderOf 52 = .ok (.goto (-43), 3) := by decide +kernel
theorem dX6_leaderOf_55 : decode cX6_leaderOf 55 = .ok (.iload_n 2, 1) := by decide +kernel
theorem dX6_leaderOf_56 : decode cX6_leaderOf 56 = .ok (.ifCond .ge 7, 3) := by decide +kernel
theorem dX6_leaderOf_59 : decode cX6_leaderOf 59 = .ok (.iconst (-1), 1) := by decide +kernel
theorem dX6_leaderOf_60 : decode cX6_leaderOf 60 = .ok (.goto 4, 3) := by decide +kernel
theorem dX6_leaderOf_63 : decode cX6_leaderOf 63 = .ok (.iload_n 2, 1) := by decide +kernel
theorem dX6_leaderOf_64 : decode cX6_leaderOf 64 = .ok (.ireturn, 1) := by decide +kernel
theorem dX6_colours_0 : decode cX6_colours 0 = .ok (.iconst 1, 1) := by decide +kernel
theorem dX6_colours_1 : decode cX6_colours 1 = .ok (.istore_n 2, 1) := by decide +kernel
theorem dX6_colours_2 : decode cX6_colours 2 = .ok (.iconst 0, 1) := by decide +kernel
theorem dX6_colours_3 : decode cX6_colours 3 = .ok (.istore_n 3, 1) := by decide +kernel
theorem dX6_colours_4 : decode cX6_colours 4 = .ok (.iload_n 3, 1) := by decide +kernel
theorem dX6_colours_5 : decode cX6_colours 5 = .ok (.aload_n 0, 1) := by decide +kernel
theorem dX6_colours_6 : decode cX6_colours 6 = .ok (.getfield 34, 3) := by decide +kernel
theorem dX6_colours_9 : decode cX6_colours 9 = .ok (.if_icmp .ge 13, 3) := by decide +kernel
theorem dX6_colours_12 : decode cX6_colours 12 = .ok (.iload_n 2, 1) := by decide +kernel
theorem dX6_colours_13 : decode cX6_colours 13 = .ok (.iload_n 1, 1) := by decide +kernel
theorem dX6_colours_14 : decode cX6_colours 14 = .ok (.imul, 1) := by decide +kernel
theorem dX6_colours_15 : decode cX6_colours 15 = .ok (.istore_n 2, 1) := by decide +kernel
theorem dX6_colours_16 : decode cX6_colours 16 = .ok (.iinc 3 1, 3) := by decide +kernel
theorem dX6_colours_19 : decode cX6_colours 19 = .ok (.goto (-15), 3) := by decide +kernel
theorem dX6_colours_22 : decode cX6_colours 22 = .ok (.iconst 0, 1) := by decide +kernel
theorem dX6_colours_23 : decode cX6_colours 23 = .ok (.istore_n 3, 1) := by decide +kernel
theorem dX6_colours_24 : decode cX6_colours 24 = .ok (.iload_n 3, 1) := by decide +kernel
theorem dX6_colours_25 : decode cX6_colours 25 = .ok (.iload_n 2, 1) := by decide +kernel
theorem dX6_colours_26 : decode cX6_colours 26 = .ok (.if_icmp .ge 132, 3) := by decide +kernel
theorem dX6_colours_29 : decode cX6_colours 29 = .ok (.iload_n 3, 1) := by decide +kernel
theorem dX6_colours_30 : decode cX6_colours 30 = .ok (.istore 4, 2) := by decide +kernel
theorem dX6_colours_32 : decode cX6_colours 32 = .ok (.aload_n 0, 1) := by decide +kernel
theorem dX6_colours_33 : decode cX6_colours 33 = .ok (.getfield 34, 3) := by decide +kernel
theorem dX6_colours_36 : decode cX6_colours 36 = .ok (.iconst 1, 1) := by decide +kernel
theorem dX6_colours_37 : decode cX6_colours 37 = .ok (.isub, 1) := by decide +kernel
theorem dX6_colours_38 : decode cX6_colours 38 = .ok (.istore 5, 2) := by decide +kernel
theorem dX6_colours_40 : decode cX6_colours 40 = .ok (.iload 5, 2) := by decide +kernel
theorem dX6_colours_42 : decode cX6_colours 42 = .ok (.ifCond .lt 26, 3) := by decide +kernel
theorem dX6_colours_45 : decode cX6_colours 45 = .ok (.aload_n 0, 1) := by decide +kernel
theorem dX6_colours_46 : decode cX6_colours 46 = .ok (.getfield 25, 3) := by decide +kernel
theorem dX6_colours_49 : decode cX6_colours 49 = .ok (.iload 5, 2) := by decide +kernel
theorem dX6_colours_51 : decode cX6_colours 51 = .ok (.iload 4, 2) := by decide +kernel
theorem dX6_colours_53 : decode cX6_colours 53 = .ok (.iload_n 1, 1) := by decide +kernel
theorem dX6_colours_54 : decode cX6_colours 54 = .ok (.irem, 1) := by decide +kernel
theorem dX6_colours_55 : decode cX6_colours 55 = .ok (.iastore, 1) := by decide +kernel
theorem dX6_colours_56 : decode cX6_colours 56 = .ok (.iload 4, 2) := by decide +kernel
theorem dX6_colours_58 : decode cX6_colours 58 = .ok (.iload_n 1, 1) := by decide +kernel
theorem dX6_colours_59 : decode cX6_colours 59 = .ok (.idiv, 1) := by decide +kernel
theorem dX6_colours_60 : decode cX6_colours 60 = .ok (.istore 4, 2) := by decide +kernel
theorem dX6_colours_62 : decode cX6_colours 62 = .ok (.iinc 5 (-1), 3) := by decide +kernel
theorem dX6_colours_65 : decode cX6_colours 65 = .ok (.goto (-25), 3) := by decide +kernel
theorem dX6_colours_68 : decode cX6_colours 68 = .ok (.iconst 1, 1) := by decide +kernel
theorem dX6_colours_69 : decode cX6_colours 69 = .ok (.istore 5, 2) := by decide +kernel
theorem dX6_colours_71 : decode cX6_colours 71 = .ok (.iconst 0, 1) := by decide +kernel
theorem dX6_colours_72 : decode cX6_colours 72 = .ok (.istore 6, 2) := by decide +kernel
theorem dX6_colours_74 : decode cX6_colours 74 = .ok (.iload 6, 2) := by decide +kernel
theorem dX6_colours_76 : decode cX6_colours 76 = .ok (.aload_n 0, 1) := by decide +kernel
theorem dX6_colours_77 : decode cX6_colours 77 = .ok (.getfield 34, 3) := by decide +kernel
theorem dX6_colours_80 : decode cX6_colours 80 = .ok (.if_icmp .ge 65, 3) := by decide +kernel
theorem dX6_colours_83 : decode cX6_colours 83 = .ok (.iconst 0, 1) := by decide +kernel
theorem dX6_colours_84 : decode cX6_colours 84 = .ok (.istore 7, 2) := by decide +kernel
theorem dX6_colours_86 : decode cX6_colours 86 = .ok (.iload 7, 2) := by decide +kernel
theorem dX6_colours_88 : decode cX6_colours 88 = .ok (.iload 6, 2) := by decide +kernel
theorem dX6_colours_90 : decode cX6_colours 90 = .ok (.if_icmp .ge 49, 3) := by decide +kernel
theorem dX6_colours_93 : decode cX6_colours 93 = .ok (.iload 5, 2) := by decide +kernel
theorem dX6_colours_95 : decode cX6_colours 95 = .ok (.ifCond .eq 35, 3) := by decide +kernel
theorem dX6_colours_98 : decode cX6_colours 98 = .ok (.aload_n 0, 1) := by decide +kernel
theorem dX6_colours_99 : decode cX6_colours 99 = .ok (.iload 6, 2) := by decide +kernel
theorem dX6_colours_101 : decode cX6_colours 101 = .ok (.iload 7, 2) := by decide +kernel
theorem dX6_colours_103 : decode cX6_colours 103 = .ok (.invokevirtual 55, 3) := by decide +kernel
theorem dX6_colours_106 : decode cX6_colours 106 = .ok (.ifCond .eq 20, 3) := by decide +kernel
theorem dX6_colours_109 : decode cX6_colours 109 = .ok (.aload_n 0, 1) := by decide +kernel
theorem dX6_colours_110 : decode cX6_colours 110 = .ok (.getfield 25, 3) := by decide +kernel
theorem dX6_colours_113 : decode cX6_colours 113 = .ok (.iload 6, 2) := by decide +kernel
theorem dX6_colours_115 : decode cX6_colours 115 = .ok (.iaload, 1) := by decide +kernel
theorem dX6_colours_116 : decode cX6_colours 116 = .ok (.aload_n 0, 1) := by decide +kernel
theorem dX6_colours_117 : decode cX6_colours 117 = .ok (.getfield 25, 3) := by decide +kernel
theorem dX6_colours_120 : decode cX6_colours 120 = .ok (.iload 7, 2) := by decide +kernel
theorem dX6_colours_122 : decode cX6_colours 122 = .ok (.iaload, 1) := by decide +kernel
theorem dX6_colours_123 : decode cX6_colours 123 = .ok (.if_icmp .eq 7, 3) := by decide +kernel
theorem dX6_colours_126 : decode cX6_colours 126 = .ok (.iconst 1, 1) := by decide +kernel
theorem dX6_colours_127 : decode cX6_colours 127 = .ok (.goto 4, 3) := by decide +kernel
theorem dX6_colours_130 : decode cX6_colours 130 = .ok (.iconst 0, 1) := by decide +kernel
theorem dX6_colours_131 : decode cX6_colours 131 = .ok (.istore 5, 2) := by decide +kernel
theorem dX6_colours_133 : decode cX6_colours 133 = .ok (.iinc 7 1, 3) := by decide +kernel
theorem dX6_colours_136 : decode cX6_colours 136 = .ok (.goto (-50), 3) := by decide +kernel
theorem dX6_colours_139 : decode cX6_colours 139 = .ok (.iinc 6 1, 3) := by decide +kernel
theorem dX6_colours_142 : decode cX6_colours 142 = .ok (.goto (-68), 3) := by decide +kernel
theorem dX6_colours_145 : decode cX6_colours 145 = .ok (.iload 5, 2) := by decide +kernel
theorem dX6_colours_147 : decode cX6_colours 147 = .ok (.ifCond .eq 5, 3) := by decide +kernel
theorem dX6_colours_150 : decode cX6_colours 150 = .ok (.iconst 1, 1) := by decide +kernel
theorem dX6_colours_151 : decode cX6_colours 151 = .ok (.ireturn, 1) := by decide +kernel
theorem dX6_colours_152 : decode cX6_colours 152 = .ok (.iinc 3 1, 3) := by decide +kernel
theorem dX6_colours_155 : decode cX6_colours 155 = .ok (.goto (-131), 3) := by decide +kernel
theorem dX6_colours_158 : decode cX6_colours 158 = .ok (.iconst 0, 1) := by decide +kernel
theorem dX6_colours_159 : decode cX6_colours 159 = .ok (.ireturn, 1) := by decide +kernel
theorem dX6_isGood_0 : decode cX6_isGood 0 = .ok (.iconst 0, 1) := by decide +kernel
theorem dX6_isGood_1 : decode cX6_isGood 1 = .ok (.istore_n 2, 1) := by decide +kernel
theorem dX6_isGood_2 : decode cX6_isGood 2 = .ok (.iconst 0, 1) := by decide +kernel
theorem dX6_isGood_3 : decode cX6_isGood 3 = .ok (.istore_n 3, 1) := by decide +kernel
theorem dX6_isGood_4 : decode cX6_isGood 4 = .ok (.iload_n 3, 1) := by decide +kernel
theorem dX6_isGood_5 : decode cX6_isGood 5 = .ok (.aload_n 0, 1) := by decide +kernel
theorem dX6_isGood_6 : decode cX6_isGood 6 = .ok (.getfield 34, 3) := by decide +kernel
theorem dX6_isGood_9 : decode cX6_isGood 9 = .ok (.if_icmp .ge 38, 3) := by decide +kernel
theorem dX6_isGood_12 : decode cX6_isGood 12 = .ok (.iload_n 2, 1) := by decide +kernel
theorem dX6_isGood_13 : decode cX6_isGood 13 = .ok (.ifCond .ne 22, 3) := by decide +kernel
theorem dX6_isGood_16 : decode cX6_isGood 16 = .ok (.aload_n 0, 1) := by decide +kernel
theorem dX6_isGood_17 : decode cX6_isGood 17 = .ok (.iload_n 1, 1) := by decide +kernel
theorem dX6_isGood_18 : decode cX6_isGood 18 = .ok (.iload_n 3, 1) := by decide +kernel
theorem dX6_isGood_19 : decode cX6_isGood 19 = .ok (.invokevirtual 55, 3) := by decide +kernel
theorem dX6_isGood_22 : decode cX6_isGood 22 = .ok (.ifCond .eq 17, 3) := by decide +kernel
theorem dX6_isGood_25 : decode cX6_isGood 25 = .ok (.aload_n 0, 1) := by decide +kernel
theorem dX6_isGood_26 : decode cX6_isGood 26 = .ok (.getfield 13, 3) := by decide +kernel
theorem dX6_isGood_29 : decode cX6_isGood 29 = .ok (.iload_n 3, 1) := by decide +kernel
theorem dX6_isGood_30 : decode cX6_isGood 30 = .ok (.iaload, 1) := by decide +kernel
theorem dX6_isGood_31 : decode cX6_isGood 31 = .ok (.iconst 1, 1) := by decide +kernel
theorem dX6_isGood_32 : decode cX6_isGood 32 = .ok (.if_icmp .ne 7, 3) := by decide +kernel
theorem dX6_isGood_35 : decode cX6_isGood 35 = .ok (.iconst 1, 1) := by decide +kernel
theorem dX6_isGood_36 : decode cX6_isGood 36 = .ok (.goto 4, 3) := by decide +kernel
theorem dX6_isGood_39 : decode cX6_isGood 39 = .ok (.iconst 0, 1) := by decide +kernel
theorem dX6_isGood_40 : decode cX6_isGood 40 = .ok (.istore_n 2, 1) := by decide +kernel
theorem dX6_isGood_41 : decode cX6_isGood 41 = .ok (.iinc 3 1, 3) := by decide +kernel
theorem dX6_isGood_44 : decode cX6_isGood 44 = .ok (.goto (-40), 3) := by decide +kernel
theorem dX6_isGood_47 : decode cX6_isGood 47 = .ok (.iload_n 2, 1) := by decide +kernel
theorem dX6_isGood_48 : decode cX6_isGood 48 = .ok (.aload_n 0, 1) := by decide +kernel
theorem dX6_isGood_49 : decode cX6_isGood 49 = .ok (.getfield 13, 3) := by decide +kernel
theorem dX6_isGood_52 : decode cX6_isGood 52 = .ok (.iload_n 1, 1) := by decide +kernel
theorem dX6_isGood_53 : decode cX6_isGood 53 = .ok (.iaload, 1) := by decide +kernel
theorem dX6_isGood_54 : decode cX6_isGood 54 = .ok (.iconst 1, 1) := by decide +kernel
theorem dX6_isGood_55 : decode cX6_isGood 55 = .ok (.if_icmp .ne 7, 3) := by decide +kernel
theorem dX6_isGood_58 : decode cX6_isGood 58 = .ok (.iconst 1, 1) := by decide +kernel
theorem dX6_isGood_59 : decode cX6_isGood 59 = .ok (.goto 4, 3) := by decide +kernel
theorem dX6_isGood_62 : decode cX6_isGood 62 = .ok (.iconst 0, 1) := by decide +kernel
theorem dX6_isGood_63 : decode cX6_isGood 63 = .ok (.if_icmp .eq 7, 3) := by decide +kernel
theorem dX6_isGood_66 : decode cX6_isGood 66 = .ok (.iconst 1, 1) := by decide +kernel
theorem dX6_isGood_67 : decode cX6_isGood 67 = .ok (.goto 4, 3) := by decide +kernel
theorem dX6_isGood_70 : decode cX6_isGood 70 = .ok (.iconst 0, 1) := by decide +kernel
theorem dX6_isGood_71 : decode cX6_isGood 71 = .ok (.ireturn, 1) := by decide +kernel
theorem dX6_claims_0 : decode cX6_claims 0 = .ok (.aload_n 0, 1) := by decide +kernel
theorem dX6_claims_1 : decode cX6_claims 1 = .ok (.getfield 52, 3) := by decide +kernel
theorem dX6_claims_4 : decode cX6_claims 4 = .ok (.iconst 2, 1) := by decide +kernel
theorem dX6_claims_5 : decode cX6_claims 5 = .ok (.if_icmp .ge 14, 3) := by decide +kernel
theorem dX6_claims_8 : decode cX6_claims 8 = .ok (.aload_n 0, 1) := by decide +kernel
theorem dX6_claims_9 : decode cX6_claims 9 = .ok (.iconst 2, 1) := by decide +kernel
theorem dX6_claims_10 : decode cX6_claims 10 = .ok (.aload_n 0, 1) := by decide +kernel
theorem dX6_claims_11 : decode cX6_claims 11 = .ok (.getfield 52, 3) := by decide +kernel
theorem dX6_claims_14 : decode cX6_claims 14 = .ok (.iadd, 1) := by decide +kernel
theorem dX6_claims_15 : decode cX6_claims 15 = .ok (.invokevirtual 67, 3) := by decide +kernel
theorem dX6_claims_18 : decode cX6_claims 18 = .ok (.ireturn, 1) := by decide +kernel
theorem dX6_claims_19 : decode cX6_claims 19 = .ok (.aload_n 0, 1) := by decide +kernel
theorem dX6_claims_20 : decode cX6_claims 20 = .ok (.getfield 52, 3) := by decide +kernel
theorem dX6_claims_23 : decode cX6_claims 23 = .ok (.iconst 4, 1) := by decide +kernel
theorem dX6_claims_24 : decode cX6_claims 24 = .ok (.if_icmp .ne 19, 3) := by decide +kernel
theorem dX6_claims_27 : decode cX6_claims 27 = .ok (.aload_n 0, 1) := by decide +kernel
theorem dX6_claims_28 : decode cX6_claims 28 = .ok (.invokevirtual 70, 3) := by decide +kernel
theorem dX6_claims_31 : decode cX6_claims 31 = .ok (.aload_n 0, 1) := by decide +kernel
theorem dX6_claims_32 : decode cX6_claims 32 = .ok (.getfield 34, 3) := by decide +kernel
theorem dX6_claims_35 : decode cX6_claims 35 = .ok (.aload_n 0, 1) := by decide +kernel
theorem dX6_claims_36 : decode cX6_claims 36 = .ok (.invokevirtual 74, 3) := by decide +kernel
theorem dX6_claims_39 : decode cX6_claims 39 = .ok (.isub, 1) := by decide +kernel
theorem dX6_claims_40 : decode cX6_claims 40 = .ok (.if_icmp .ne 7, 3) := by decide +kernel
theorem dX6_claims_43 : decode cX6_claims 43 = .ok (.iconst 1, 1) := by decide +kernel
theorem dX6_claims_44 : decode cX6_claims 44 = .ok (.goto 4, 3) := by decide +kernel
theorem dX6_claims_47 : decode cX6_claims 47 = .ok (.iconst 0, 1) := by decide +kernel
theorem dX6_claims_48 : decode cX6_claims 48 = .ok (.istore_n 1, 1) := by decide +kernel
theorem dX6_claims_49 : decode cX6_claims 49 = .ok (.iconst 0, 1) := by decide +kernel
theorem dX6_claims_50 : decode cX6_claims 50 = .ok (.istore_n 2, 1) := by decide +kernel
theorem dX6_claims_51 : decode cX6_claims 51 = .ok (.iload_n 2, 1) := by decide +kernel
theorem dX6_claims_52 : decode cX6_claims 52 = .ok (.aload_n 0, 1) := by decide +kernel
theorem dX6_claims_53 : decode cX6_claims 53 = .ok (.getfield 34, 3) := by decide +kernel
theorem dX6_claims_56 : decode cX6_claims 56 = .ok (.if_icmp .ge 119, 3) := by decide +kernel
theorem dX6_claims_59 : decode cX6_claims 59 = .ok (.aload_n 0, 1) := by decide +kernel
theorem dX6_claims_60 : decode cX6_claims 60 = .ok (.getfield 52, 3) := by decide +kernel
theorem dX6_claims_63 : decode cX6_claims 63 = .ok (.iconst 2, 1) := by decide +kernel
theorem dX6_claims_64 : decode cX6_claims 64 = .ok (.if_icmp .ne 53, 3) := by decide +kernel
theorem dX6_claims_67 : decode cX6_claims 67 = .ok (.aload_n 0, 1) := by decide +kernel
theorem dX6_claims_68 : decode cX6_claims 68 = .ok (.iload_n 2, 1) := by decide +kernel
theorem dX6_claims_69 : decode cX6_claims 69 = .ok (.invokevirtual 77, 3) := by decide +kernel
theorem dX6_claims_72 : decode cX6_claims 72 = .ok (.istore_n 3, 1) := by decide +kernel
theorem dX6_claims_73 : decode cX6_claims 73 = .ok (.iload_n 1, 1) := by decide +kernel
theorem dX6_claims_74 : decode cX6_claims 74 = .ok (.ifCond .eq 12, 3) := by decide +kernel
theorem dX6_claims_77 : decode cX6_claims 77 = .ok (.iload_n 3, 1) := by decide +kernel
theorem dX6_claims_78 : decode cX6_claims 78 = .ok (.iconst (-1), 1) := by decide +kernel
theorem dX6_claims_79 : decode cX6_claims 79 = .ok (.if_icmp .eq 7, 3) := by decide +kernel
theorem dX6_claims_82 : decode cX6_claims 82 = .ok (.iconst 1, 1) := by decide +kernel
theorem dX6_claims_83 : decode cX6_claims 83 = .ok (.goto 4, 3) := by decide +kernel
theorem dX6_claims_86 : decode cX6_claims 86 = .ok (.iconst 0, 1) := by decide +kernel
theorem dX6_claims_87 : decode cX6_claims 87 = .ok (.istore_n 1, 1) := by decide +kernel
theorem dX6_claims_88 : decode cX6_claims 88 = .ok (.aload_n 0, 1) := by decide +kernel
theorem dX6_claims_89 : decode cX6_claims 89 = .ok (.getfield 25, 3) := by decide +kernel
theorem dX6_claims_92 : decode cX6_claims 92 = .ok (.iload_n 2, 1) := by decide +kernel
theorem dX6_claims_93 : decode cX6_claims 93 = .ok (.iload_n 3, 1) := by decide +kernel
theorem dX6_claims_94 : decode cX6_claims 94 = .ok (.iconst (-1), 1) := by decide +kernel
theorem dX6_claims_95 : decode cX6_claims 95 = .ok (.if_icmp .ne 7, 3) := by decide +kernel
theorem dX6_claims_98 : decode cX6_claims 98 = .ok (.iconst 0, 1) := by decide +kernel
theorem dX6_claims_99 : decode cX6_claims 99 = .ok (.goto 14, 3) := by decide +kernel
theorem dX6_claims_102 : decode cX6_claims 102 = .ok (.bipush 8, 2) := by decide +kernel
theorem dX6_claims_104 : decode cX6_claims 104 = .ok (.iload_n 3, 1) := by decide +kernel
theorem dX6_claims_105 : decode cX6_claims 105 = .ok (.imul, 1) := by decide +kernel
theorem dX6_claims_106 : decode cX6_claims 106 = .ok (.aload_n 0, 1) := by decide +kernel
theorem dX6_claims_107 : decode cX6_claims 107 = .ok (.getfield 22, 3) := by decide +kernel
theorem dX6_claims_110 : decode cX6_claims 110 = .ok (.iload_n 3, 1) := by decide +kernel
theorem dX6_claims_111 : decode cX6_claims 111 = .ok (.iaload, 1) := by decide +kernel
theorem dX6_claims_112 : decode cX6_claims 112 = .ok (.iadd, 1) := by decide +kernel
theorem dX6_claims_113 : decode cX6_claims 113 = .ok (.iastore, 1) := by decide +kernel
theorem dX6_claims_114 : decode cX6_claims 114 = .ok (.goto 55, 3) := by decide +kernel
theorem dX6_claims_117 : decode cX6_claims 117 = .ok (.aload_n 0, 1) := by decide +kernel
theorem dX6_claims_118 : decode cX6_claims 118 = .ok (.getfield 52, 3) := by decide +kernel
theorem dX6_claims_121 : decode cX6_claims 121 = .ok (.iconst 3, 1) := by decide +kernel
theorem dX6_claims_122 : decode cX6_claims 122 = .ok (.if_icmp .ne 31, 3) := by decide +kernel
theorem dX6_claims_125 : decode cX6_claims 125 = .ok (.iload_n 1, 1) := by decide +kernel
theorem dX6_claims_126 : decode cX6_claims 126 = .ok (.ifCond .eq 15, 3) := by decide +kernel
theorem dX6_claims_129 : decode cX6_claims 129 = .ok (.aload_n 0, 1) := by decide +kernel
theorem dX6_claims_130 : decode cX6_claims 130 = .ok (.iload_n 2, 1) := by decide +kernel
theorem dX6_claims_131 : decode cX6_claims 131 = .ok (.invokevirtual 80, 3) := by decide +kernel
theorem dX6_claims_134 : decode cX6_claims 134 = .ok (.ifCond .eq 7, 3) := by decide +kernel
theorem dX6_claims_137 : decode cX6_claims 137 = .ok (.iconst 1, 1) := by decide +kernel
theorem dX6_claims_138 : decode cX6_claims 138 = .ok (.goto 4, 3) := by decide +kernel
theorem dX6_claims_141 : decode cX6_claims 141 = .ok (.iconst 0, 1) := by decide +kernel
theorem dX6_claims_142 : decode cX6_claims 142 = .ok (.istore_n 1, 1) := by decide +kernel
theorem dX6_claims_143 : decode cX6_claims 143 = .ok (.aload_n 0, 1) := by decide +kernel
theorem dX6_claims_144 : decode cX6_claims 144 = .ok (.getfield 25, 3) := by decide +kernel
theorem dX6_claims_147 : decode cX6_claims 147 = .ok (.iload_n 2, 1) := by decide +kernel
theorem dX6_claims_148 : decode cX6_claims 148 = .ok (.iconst 0, 1) := by decide +kernel
theorem dX6_claims_149 : decode cX6_claims 149 = .ok (.iastore, 1) := by decide +kernel
theorem dX6_claims_150 : decode cX6_claims 150 = .ok (.goto 19, 3) := by decide +kernel
theorem dX6_claims_153 : decode cX6_claims 153 = .ok (.aload_n 0, 1) := by decide +kernel
theorem dX6_claims_154 : decode cX6_claims 154 = .ok (.getfield 25, 3) := by decide +kernel
theorem dX6_claims_157 : decode cX6_claims 157 = .ok (.iload_n 2, 1) := by decide +kernel
theorem dX6_claims_158 : decode cX6_claims 158 = .ok (.aload_n 0, 1) := by decide +kernel
theorem dX6_claims_159 : decode cX6_claims 159 = .ok (.getfield 22, 3) := by decide +kernel
theorem dX6_claims_162 : decode cX6_claims 162 = .ok (.aload_n 0, 1) := by decide +kernel
theorem dX6_claims_163 : decode cX6_claims 163 = .ok (.iload_n 2, 1) := by decide +kernel
theorem dX6_claims_164 : decode cX6_claims 164 = .ok (.invokevirtual 63, 3) := by decide +kernel
theorem dX6_claims_167 : decode cX6_claims 167 = .ok (.iaload, 1) := by decide +kernel
theorem dX6_claims_168 : decode cX6_claims 168 = .ok (.iastore, 1) := by decide +kernel
theorem dX6_claims_169 : decode cX6_claims 169 = .ok (.iinc 2 1, 3) := by decide +kernel
theorem dX6_claims_172 : decode cX6_claims 172 = .ok (.goto (-121), 3) := by decide +kernel
theorem dX6_claims_175 : decode cX6_claims 175 = .ok (.iload_n 1, 1) := by decide +kernel
theorem dX6_claims_176 : decode cX6_claims 176 = .ok (.ireturn, 1) := by decide +kernel
theorem dX6_holds_0 : decode cX6_holds 0 = .ok (.aload_n 0, 1) := by decide +kernel
theorem dX6_holds_1 : decode cX6_holds 1 = .ok (.invokevirtual 83, 3) := by decide +kernel
theorem dX6_holds_4 : decode cX6_holds 4 = .ok (.ifCond .eq 7, 3) := by decide +kernel
theorem dX6_holds_7 : decode cX6_holds 7 = .ok (.iconst 1, 1) := by decide +kernel
theorem dX6_holds_8 : decode cX6_holds 8 = .ok (.goto 4, 3) := by decide +kernel
theorem dX6_holds_11 : decode cX6_holds 11 = .ok (.iconst 0, 1) := by decide +kernel
theorem dX6_holds_12 : decode cX6_holds 12 = .ok (.ireturn, 1) := by decide +kernel
theorem dX6_sets_0 : decode cX6_sets 0 = .ok (.aload_n 0, 1) := by decide +kernel
theorem dX6_sets_1 : decode cX6_sets 1 = .ok (.invokevirtual 74, 3) := by decide +kernel
theorem dX6_sets_4 : decode cX6_sets 4 = .ok (.ireturn, 1) := by decide +kernel
theorem dX6_far_0 : decode cX6_far 0 = .ok (.aload_n 0, 1) := by decide +kernel
theorem dX6_far_1 : decode cX6_far 1 = .ok (.iload_n 1, 1) := by decide +kernel
theorem dX6_far_2 : decode cX6_far 2 = .ok (.invokevirtual 44, 3) := by decide +kernel
theorem dX6_far_5 : decode cX6_far 5 = .ok (.ifCond .eq 11, 3) := by decide +kernel
theorem dX6_far_8 : decode cX6_far 8 = .ok (.aload_n 0, 1) := by decide +kernel
theorem dX6_far_9 : decode cX6_far 9 = .ok (.iload_n 2, 1) := by decide +kernel
theorem dX6_far_10 : decode cX6_far 10 = .ok (.invokevirtual 44, 3) := by decide +kernel
theorem dX6_far_13 : decode cX6_far 13 = .ok (.ifCond .ne 6, 3) := by decide +kernel
theorem dX6_far_16 : decode cX6_far 16 = .ok (.bipush (-101), 2) := by decide +kernel
theorem dX6_far_18 : decode cX6_far 18 = .ok (.ireturn, 1) := by decide +kernel
theorem dX6_far_19 : decode cX6_far 19 = .ok (.aload_n 0, 1) := by decide +kernel
theorem dX6_far_20 : decode cX6_far 20 = .ok (.iload_n 1, 1) := by decide +kernel
theorem dX6_far_21 : decode cX6_far 21 = .ok (.invokevirtual 59, 3) := by decide +kernel
theorem dX6_far_24 : decode cX6_far 24 = .ok (.aload_n 0, 1) := by decide +kernel
theorem dX6_far_25 : decode cX6_far 25 = .ok (.getfield 22, 3) := by decide +kernel
theorem dX6_far_28 : decode cX6_far 28 = .ok (.iload_n 2, 1) := by decide +kernel
theorem dX6_far_29 : decode cX6_far 29 = .ok (.iaload, 1) := by decide +kernel
theorem dX6_far_30 : decode cX6_far 30 = .ok (.ireturn, 1) := by decide +kernel
theorem dX6_proof_0 : decode cX6_proof 0 = .ok (.aload_n 0, 1) := by decide +kernel
theorem dX6_proof_1 : decode cX6_proof 1 = .ok (.iload_n 1, 1) := by decide +kernel
theorem dX6_proof_2 : decode cX6_proof 2 = .ok (.invokevirtual 44, 3) := by decide +kernel
theorem dX6_proof_5 : decode cX6_proof 5 = .ok (.ifCond .ne 6, 3) := by decide +kernel
theorem dX6_proof_8 : decode cX6_proof 8 = .ok (.bipush (-101), 2) := by decide +kernel
theorem dX6_proof_10 : decode cX6_proof 10 = .ok (.ireturn, 1) := by decide +kernel
theorem dX6_proof_11 : decode cX6_proof 11 = .ok (.iload_n 2, 1) := by decide +kernel
theorem dX6_proof_12 : decode cX6_proof 12 = .ok (.i2l, 1) := by decide +kernel
theorem dX6_proof_13 : decode cX6_proof 13 = .ok (.lconst 0, 1) := by decide +kernel
theorem dX6_proof_14 : decode cX6_proof 14 = .ok (.ldc2_w 87, 3) := by decide +kernel
theorem dX6_proof_17 : decode cX6_proof 17 = .ok (.invokestatic 38, 3) := by decide +kernel
theorem dX6_proof_20 : decode cX6_proof 20 = .ok (.ifCond .ne 6, 3) := by decide +kernel
theorem dX6_proof_23 : decode cX6_proof 23 = .ok (.bipush (-102), 2) := by decide +kernel
theorem dX6_proof_25 : decode cX6_proof 25 = .ok (.ireturn, 1) := by decide +kernel
theorem dX6_proof_26 : decode cX6_proof 26 = .ok (.aload_n 0, 1) := by decide +kernel
theorem dX6_proof_27 : decode cX6_proof 27 = .ok (.getfield 16, 3) := by decide +kernel
theorem dX6_proof_30 : decode cX6_proof 30 = .ok (.iload_n 1, 1) := by decide +kernel
theorem dX6_proof_31 : decode cX6_proof 31 = .ok (.iaload, 1) := by decide +kernel
theorem dX6_proof_32 : decode cX6_proof 32 = .ok (.istore_n 3, 1) := by decide +kernel
theorem dX6_proof_33 : decode cX6_proof 33 = .ok (.aload_n 0, 1) := by decide +kernel
theorem dX6_proof_34 : decode cX6_proof 34 = .ok (.getfield 16, 3) := by decide +kernel
theorem dX6_proof_37 : decode cX6_proof 37 = .ok (.iload_n 1, 1) := by decide +kernel
theorem dX6_proof_38 : decode cX6_proof 38 = .ok (.iload_n 2, 1) := by decide +kernel
theorem dX6_proof_39 : decode cX6_proof 39 = .ok (.iastore, 1) := by decide +kernel
theorem dX6_proof_40 : decode cX6_proof 40 = .ok (.iload_n 3, 1) := by decide +kernel
theorem dX6_proof_41 : decode cX6_proof 41 = .ok (.ireturn, 1) := by decide +kernel
theorem dX6_hasAccepted_0 : decode cX6_hasAccepted 0 = .ok (.aload_n 0, 1) := by decide +kernel
theorem dX6_hasAccepted_1 : decode cX6_hasAccepted 1 = .ok (.getfield 16, 3) := by decide +kernel
theorem dX6_hasAccepted_4 : decode cX6_hasAccepted 4 = .ok (.iload_n 1, 1) := by decide +kernel
theorem dX6_hasAccepted_5 : decode cX6_hasAccepted 5 = .ok (.iaload, 1) := by decide +kernel
theorem dX6_hasAccepted_6 : decode cX6_hasAccepted 6 = .ok (.istore_n 2, 1) := by decide +kernel
theorem dX6_hasAccepted_7 : decode cX6_hasAccepted 7 = .ok (.aload_n 0, 1) := by decide +kernel
theorem dX6_hasAccepted_8 : decode cX6_hasAccepted 8 = .ok (.getfield 52, 3) := by decide +kernel
theorem dX6_hasAccepted_11 : decode cX6_hasAccepted 11 = .ok (.iconst 3, 1) := by decide +kernel
theorem dX6_hasAccepted_12 : decode cX6_hasAccepted 12 = .ok (.if_icmp .ne 21, 3) := by decide +kernel
theorem dX6_hasAccepted_15 : decode cX6_hasAccepted 15 = .ok (.iload_n 2, 1) := by decide +kernel
theorem dX6_hasAccepted_16 : decode cX6_hasAccepted 16 = .ok (.ifCond .ne 15, 3) := by decide +kernel
theorem dX6_hasAccepted_19 : decode cX6_hasAccepted 19 = .ok (.aload_n 0, 1) := by decide +kernel
theorem dX6_hasAccepted_20 : decode cX6_hasAccepted 20 = .ok (.iload_n 1, 1) := by decide +kernel
theorem dX6_hasAccepted_21 : decode cX6_hasAccepted 21 = .ok (.invokevirtual 80, 3) := by decide +kernel
theorem dX6_hasAccepted_24 : decode cX6_hasAccepted 24 = .ok (.ifCond .eq 7, 3) := by decide +kernel
theorem dX6_hasAccepted_27 : decode cX6_hasAccepted 27 = .ok (.iconst 1, 1) := by decide +kernel
theorem dX6_hasAccepted_28 : decode cX6_hasAccepted 28 = .ok (.goto 4, 3) := by decide +kernel
theorem dX6_hasAccepted_31 : decode cX6_hasAccepted 31 = .ok (.iconst 0, 1) := by decide +kernel
theorem dX6_hasAccepted_32 : decode cX6_hasAccepted 32 = .ok (.ireturn, 1) := by decide +kernel
theorem dX6_hasAccepted_33 : decode cX6_hasAccepted 33 = .ok (.aload_n 0, 1) := by decide +kernel
theorem dX6_hasAccepted_34 : decode cX6_hasAccepted 34 = .ok (.getfield 52, 3) := by decide +kernel
theorem dX6_hasAccepted_37 : decode cX6_hasAccepted 37 = .ok (.ifCond .ne 16, 3) := by decide +kernel
theorem dX6_hasAccepted_40 : decode cX6_hasAccepted 40 = .ok (.iload_n 2, 1) := by decide +kernel
theorem dX6_hasAccepted_41 : decode cX6_hasAccepted 41 = .ok (.iconst 2, 1) := by decide +kernel
theorem dX6_hasAccepted_42 : decode cX6_hasAccepted 42 = .ok (.if_icmp .ge 7, 3) := by decide +kernel
theorem dX6_hasAccepted_45 : decode cX6_hasAccepted 45 = .ok (.iconst 1, 1) := by decide +kernel
theorem dX6_hasAccepted_46 : decode cX6_hasAccepted 46 = .ok (.goto 47, 3) := by decide +kernel
theorem dX6_hasAccepted_49 : decode cX6_hasAccepted 49 = .ok (.iconst 0, 1) := by decide +kernel
theorem dX6_hasAccepted_50 : decode cX6_hasAccepted 50 = .ok (.goto 43, 3) := by decide +kernel
theorem dX6_hasAccepted_53 : decode cX6_hasAccepted 53 = .ok (.aload_n 0, 1) := by decide +kernel
theorem dX6_hasAccepted_54 : decode cX6_hasAccepted 54 = .ok (.getfield 52, 3) := by decide +kernel
theorem dX6_hasAccepted_57 : decode cX6_hasAccepted 57 = .ok (.iconst 1, 1) := by decide +kernel
theorem dX6_hasAccepted_58 : decode cX6_hasAccepted 58 = .ok (.if_icmp .ne 16, 3) := by decide +kernel
theorem dX6_hasAccepted_61 : decode cX6_hasAccepted 61 = .ok (.iload_n 2, 1) := by decide +kernel
theorem dX6_hasAccepted_62 : decode cX6_hasAccepted 62 = .ok (.iconst 3, 1) := by decide +kernel
theorem dX6_hasAccepted_63 : decode cX6_hasAccepted 63 = .ok (.if_icmp .ge 7, 3) := by decide +kernel
theorem dX6_hasAccepted_66 : decode cX6_hasAccepted 66 = .ok (.iconst 1, 1) := by decide +kernel
theorem dX6_hasAccepted_67 : decode cX6_hasAccepted 67 = .ok (.goto 26, 3) := by decide +kernel
theorem dX6_hasAccepted_70 : decode cX6_hasAccepted 70 = .ok (.iconst 0, 1) := by decide +kernel
theorem dX6_hasAccepted_71 : decode cX6_hasAccepted 71 = .ok (.goto 22, 3) := by decide +kernel
theorem dX6_hasAccepted_74 : decode cX6_hasAccepted 74 = .ok (.aload_n 0, 1) := by decide +kernel
theorem dX6_hasAccepted_75 : decode cX6_hasAccepted 75 = .ok (.getfield 52, 3) := by decide +kernel
theorem dX6_hasAccepted_78 : decode cX6_hasAccepted 78 = .ok (.iconst 2, 1) := by decide +kernel
theorem dX6_hasAccepted_79 : decode cX6_hasAccepted 79 = .ok (.if_icmp .eq 9, 3) := by decide +kernel
theorem dX6_hasAccepted_82 : decode cX6_hasAccepted 82 = .ok (.iload_n 2, 1) := by decide +kernel
theorem dX6_hasAccepted_83 : decode cX6_hasAccepted 83 = .ok (.bipush 8, 2) := by decide +kernel
theorem dX6_hasAccepted_85 : decode cX6_hasAccepted 85 = .ok (.if_icmp .ge 7, 3) := by decide +kernel
theorem dX6_hasAccepted_88 : decode cX6_hasAccepted 88 = .ok (.iconst 1, 1) := by decide +kernel
theorem dX6_hasAccepted_89 : decode cX6_hasAccepted 89 = .ok (.goto 4, 3) := by decide +kernel
theorem dX6_hasAccepted_92 : decode cX6_hasAccepted 92 = .ok (.iconst 0, 1) := by decide +kernel
theorem dX6_hasAccepted_93 : decode cX6_hasAccepted 93 = .ok (.istore_n 3, 1) := by decide +kernel
theorem dX6_hasAccepted_94 : decode cX6_hasAccepted 94 = .ok (.iconst 0, 1) := by decide +kernel
theorem dX6_hasAccepted_95 : decode cX6_hasAccepted 95 = .ok (.istore 4, 2) := by decide +kernel
theorem dX6_hasAccepted_97 : decode cX6_hasAccepted 97 = .ok (.iconst 0, 1) := by decide +kernel
theorem dX6_hasAccepted_98 : decode cX6_hasAccepted 98 = .ok (.istore 5, 2) := by decide +kernel
theorem dX6_hasAccepted_100 : decode cX6_hasAccepted 100 = .ok (.iload 5, 2) := by decide +kernel
theorem dX6_hasAccepted_102 : decode cX6_hasAccepted 102 = .ok (.aload_n 0, 1) := by decide +kernel
theorem dX6_hasAccepted_103 : decode cX6_hasAccepted 103 = .ok (.getfield 34, 3) := by decide +kernel
theorem dX6_hasAccepted_106 : decode cX6_hasAccepted 106 = .ok (.if_icmp .ge 156, 3) := by decide +kernel
theorem dX6_hasAccepted_109 : decode cX6_hasAccepted 109 = .ok (.aload_n 0, 1) := by decide +kernel
theorem dX6_hasAccepted_110 : decode cX6_hasAccepted 110 = .ok (.iload_n 1, 1) := by decide +kernel
theorem dX6_hasAccepted_111 : decode cX6_hasAccepted 111 = .ok (.iload 5, 2) := by decide +kernel
theorem dX6_hasAccepted_113 : decode cX6_hasAccepted 113 = .ok (.invokevirtual 55, 3) := by decide +kernel
theorem dX6_hasAccepted_116 : decode cX6_hasAccepted 116 = .ok (.ifCond .eq 140, 3) := by decide +kernel
theorem dX6_hasAccepted_119 : decode cX6_hasAccepted 119 = .ok (.aload_n 0, 1) := by decide +kernel
theorem dX6_hasAccepted_120 : decode cX6_hasAccepted 120 = .ok (.getfield 16, 3) := by decide +kernel
theorem dX6_hasAccepted_123 : decode cX6_hasAccepted 123 = .ok (.iload 5, 2) := by decide +kernel
theorem dX6_hasAccepted_125 : decode cX6_hasAccepted 125 = .ok (.iaload, 1) := by decide +kernel
theorem dX6_hasAccepted_126 : decode cX6_hasAccepted 126 = .ok (.istore 6, 2) := by decide +kernel
theorem dX6_hasAccepted_128 : decode cX6_hasAccepted 128 = .ok (.aload_n 0, 1) := by decide +kernel
theorem dX6_hasAccepted_129 : decode cX6_hasAccepted 129 = .ok (.getfield 52, 3) := by decide +kernel
theorem dX6_hasAccepted_132 : decode cX6_hasAccepted 132 = .ok (.iconst 2, 1) := by decide +kernel
theorem dX6_hasAccepted_133 : decode cX6_hasAccepted 133 = .ok (.if_icmp .ge 22, 3) := by decide +kernel
theorem dX6_hasAccepted_136 : decode cX6_hasAccepted 136 = .ok (.iload_n 3, 1) := by decide +kernel
theorem dX6_hasAccepted_137 : decode cX6_hasAccepted 137 = .ok (.ifCond .eq 13, 3) := by decide +kernel
theorem dX6_hasAccepted_140 : decode cX6_hasAccepted 140 = .ok (.iload 6, 2) := by decide +kernel
theorem dX6_hasAccepted_142 : decode cX6_hasAccepted 142 = .ok (.iload_n 2, 1) := by decide +kernel
theorem dX6_hasAccepted_143 : decode cX6_hasAccepted 143 = .ok (.if_icmp .eq 7, 3) := by decide +kernel
theorem dX6_hasAccepted_146 : decode cX6_hasAccepted 146 = .ok (.iconst 1, 1) := by decide +kernel
theorem dX6_hasAccepted_147 : decode cX6_hasAccepted 147 = .ok (.goto 4, 3) := by decide +kernel
theorem dX6_hasAccepted_150 : decode cX6_hasAccepted 150 = .ok (.iconst 0, 1) := by decide +kernel
theorem dX6_hasAccepted_151 : decode cX6_hasAccepted 151 = .ok (.istore_n 3, 1) := by decide +kernel
theorem dX6_hasAccepted_152 : decode cX6_hasAccepted 152 = .ok (.goto 104, 3) := by decide +kernel
theorem dX6_hasAccepted_155 : decode cX6_hasAccepted 155 = .ok (.aload_n 0, 1) := by decide +kernel
theorem dX6_hasAccepted_156 : decode cX6_hasAccepted 156 = .ok (.getfield 52, 3) := by decide +kernel
theorem dX6_hasAccepted_159 : decode cX6_hasAccepted 159 = .ok (.iconst 2, 1) := by decide +kernel
theorem dX6_hasAccepted_160 : decode cX6_hasAccepted 160 = .ok (.if_icmp .ne 52, 3) := by decide +kernel
theorem dX6_hasAccepted_163 : decode cX6_hasAccepted 163 = .ok (.iload_n 3, 1) := by decide +kernel
theorem dX6_hasAccepted_164 : decode cX6_hasAccepted 164 = .ok (.ifCond .eq 19, 3) := by decide +kernel
theorem dX6_hasAccepted_167 : decode cX6_hasAccepted 167 = .ok (.iload 6, 2) := by decide +kernel
theorem dX6_hasAccepted_169 : decode cX6_hasAccepted 169 = .ok (.bipush 8, 2) := by decide +kernel
theorem dX6_hasAccepted_171 : decode cX6_hasAccepted 171 = .ok (.idiv, 1) := by decide +kernel
theorem dX6_hasAccepted_172 : decode cX6_hasAccepted 172 = .ok (.iload_n 2, 1) := by decide +kernel
theorem dX6_hasAccepted_173 : decode cX6_hasAccepted 173 = .ok (.bipush 8, 2) := by decide +kernel
theorem dX6_hasAccepted_175 : decode cX6_hasAccepted 175 = .ok (.idiv, 1) := by decide +kernel
theorem dX6_hasAccepted_176 : decode cX6_hasAccepted 176 = .ok (.if_icmp .ne 7, 3) := by decide +kernel
theorem dX6_hasAccepted_179 : decode cX6_hasAccepted 179 = .ok (.iconst 1, 1) := by decide +kernel
theorem dX6_hasAccepted_180 : decode cX6_hasAccepted 180 = .ok (.goto 4, 3) := by decide +kernel
theorem dX6_hasAccepted_183 : decode cX6_hasAccepted 183 = .ok (.iconst 0, 1) := by decide +kernel
theorem dX6_hasAccepted_184 : decode cX6_hasAccepted 184 = .ok (.istore_n 3, 1) := by decide +kernel
theorem dX6_hasAccepted_185 : decode cX6_hasAccepted 185 = .ok (.iload 4, 2) := by decide +kernel
theorem dX6_hasAccepted_187 : decode cX6_hasAccepted 187 = .ok (.iload 6, 2) := by decide +kernel
theorem dX6_hasAccepted_189 : decode cX6_hasAccepted 189 = .ok (.bipush 8, 2) := by decide +kernel
theorem dX6_hasAccepted_191 : decode cX6_hasAccepted 191 = .ok (.irem, 1) := by decide +kernel
theorem dX6_hasAccepted_192 : decode cX6_hasAccepted 192 = .ok (.iload_n 2, 1) := by decide +kernel
theorem dX6_hasAccepted_193 : decode cX6_hasAccepted 193 = .ok (.bipush 8, 2) := by decide +kernel
theorem dX6_hasAccepted_195 : decode cX6_hasAccepted 195 = .ok (.irem, 1) := by decide +kernel
theorem dX6_hasAccepted_196 : decode cX6_hasAccepted 196 = .ok (.iconst 1, 1) := by decide +kernel
theorem dX6_hasAccepted_197 : decode cX6_hasAccepted 197 = .ok (.isub, 1) := by decide +kernel
theorem dX6_hasAccepted_198 : decode cX6_hasAccepted 198 = .ok (.if_icmp .ne 7, 3) := by decide +kernel
theorem dX6_hasAccepted_201 : decode cX6_hasAccepted 201 = .ok (.iconst 1, 1) := by decide +kernel
theorem dX6_hasAccepted_202 : decode cX6_hasAccepted 202 = .ok (.goto 4, 3) := by decide +kernel
theorem dX6_hasAccepted_205 : decode cX6_hasAccepted 205 = .ok (.iconst 0, 1) := by decide +kernel
theorem dX6_hasAccepted_206 : decode cX6_hasAccepted 206 = .ok (.iadd, 1) := by decide +kernel
theorem dX6_hasAccepted_207 : decode cX6_hasAccepted 207 = .ok (.istore 4, 2) := by decide +kernel
theorem dX6_hasAccepted_209 : decode cX6_hasAccepted 209 = .ok (.goto 47, 3) := by decide +kernel
theorem dX6_hasAccepted_212 : decode cX6_hasAccepted 212 = .ok (.iload_n 3, 1) := by decide +kernel
theorem dX6_hasAccepted_213 : decode cX6_hasAccepted 213 = .ok (.ifCond .eq 23, 3) := by decide +kernel
theorem dX6_hasAccepted_216 : decode cX6_hasAccepted 216 = .ok (.iload 6, 2) := by decide +kernel
theorem dX6_hasAccepted_218 : decode cX6_hasAccepted 218 = .ok (.iload_n 2, 1) := by decide +kernel
theorem dX6_hasAccepted_219 : decode cX6_hasAccepted 219 = .ok (.iconst 1, 1) := by decide +kernel
theorem dX6_hasAccepted_220 : decode cX6_hasAccepted 220 = .ok (.isub, 1) := by decide +kernel
theorem dX6_hasAccepted_221 : decode cX6_hasAccepted 221 = .ok (.if_icmp .eq 11, 3) := by decide +kernel
theorem dX6_hasAccepted_224 : decode cX6_hasAccepted 224 = .ok (.iload 6, 2) := by decide +kernel
theorem dX6_hasAccepted_226 : decode cX6_hasAccepted 226 = .ok (.iload_n 2, 1) := by decide +kernel
theorem dX6_hasAccepted_227 : decode cX6_hasAccepted 227 = .ok (.iconst 1, 1) := by decide +kernel
theorem dX6_hasAccepted_228 : decode cX6_hasAccepted 228 = .ok (.iadd, 1) := by decide +kernel
theorem dX6_hasAccepted_229 : decode cX6_hasAccepted 229 = .ok (.if_icmp .ne 7, 3) := by decide +kernel
theorem dX6_hasAccepted_232 : decode cX6_hasAccepted 232 = .ok (.iconst 1, 1) := by decide +kernel
theorem dX6_hasAccepted_233 : decode cX6_hasAccepted 233 = .ok (.goto 4, 3) := by decide +kernel
theorem dX6_hasAccepted_236 : decode cX6_hasAccepted 236 = .ok (.iconst 0, 1) := by decide +kernel
theorem dX6_hasAccepted_237 : decode cX6_hasAccepted 237 = .ok (.istore_n 3, 1) := by decide +kernel
theorem dX6_hasAccepted_238 : decode cX6_hasAccepted 238 = .ok (.iload 4, 2) := by decide +kernel
theorem dX6_hasAccepted_240 : decode cX6_hasAccepted 240 = .ok (.iload 6, 2) := by decide +kernel
theorem dX6_hasAccepted_242 : decode cX6_hasAccepted 242 = .ok (.iload_n 2, 1) := by decide +kernel
theorem dX6_hasAccepted_243 : decode cX6_hasAccepted 243 = .ok (.iconst 1, 1) := by decide +kernel
theorem dX6_hasAccepted_244 : decode cX6_hasAccepted 244 = .ok (.isub, 1) := by decide +kernel
theorem dX6_hasAccepted_245 : decode cX6_hasAccepted 245 = .ok (.if_icmp .ne 7, 3) := by decide +kernel
theorem dX6_hasAccepted_248 : decode cX6_hasAccepted 248 = .ok (.iconst 1, 1) := by decide +kernel
theorem dX6_hasAccepted_249 : decode cX6_hasAccepted 249 = .ok (.goto 4, 3) := by decide +kernel
theorem dX6_hasAccepted_252 : decode cX6_hasAccepted 252 = .ok (.iconst 0, 1) := by decide +kernel
theorem dX6_hasAccepted_253 : decode cX6_hasAccepted 253 = .ok (.iadd, 1) := by decide +kernel
theorem dX6_hasAccepted_254 : decode cX6_hasAccepted 254 = .ok (.istore 4, 2) := by decide +kernel
theorem dX6_hasAccepted_256 : decode cX6_hasAccepted 256 = .ok (.iinc 5 1, 3) := by decide +kernel
theorem dX6_hasAccepted_259 : decode cX6_hasAccepted 259 = .ok (.goto (-159), 3) := by decide +kernel
theorem dX6_hasAccepted_262 : decode cX6_hasAccepted 262 = .ok (.aload_n 0, 1) := by decide +kernel
theorem dX6_hasAccepted_263 : decode cX6_hasAccepted 263 = .ok (.getfield 52, 3) := by decide +kernel
theorem dX6_hasAccepted_266 : decode cX6_hasAccepted 266 = .ok (.iconst 2, 1) := by decide +kernel
theorem dX6_hasAccepted_267 : decode cX6_hasAccepted 267 = .ok (.if_icmp .ne 56, 3) := by decide +kernel
theorem dX6_hasAccepted_270 : decode cX6_hasAccepted 270 = .ok (.iload_n 3, 1) := by decide +kernel
theorem dX6_hasAccepted_271 : decode cX6_hasAccepted 271 = .ok (.ifCond .eq 50, 3) := by decide +kernel
theorem dX6_hasAccepted_274 : decode cX6_hasAccepted 274 = .ok (.iload_n 2, 1) := by decide +kernel
theorem dX6_hasAccepted_275 : decode cX6_hasAccepted 275 = .ok (.bipush 8, 2) := by decide +kernel
theorem dX6_hasAccepted_277 : decode cX6_hasAccepted 277 = .ok (.irem, 1) := by decide +kernel
theorem dX6_hasAccepted_278 : decode cX6_hasAccepted 278 = .ok (.ifCond .ne 24, 3) := by decide +kernel
theorem dX6_hasAccepted_281 : decode cX6_hasAccepted 281 = .ok (.iload_n 1, 1) := by decide +kernel
theorem dX6_hasAccepted_282 : decode cX6_hasAccepted 282 = .ok (.iload_n 2, 1) := by decide +kernel
theorem dX6_hasAccepted_283 : decode cX6_hasAccepted 283 = .ok (.bipush 8, 2) := by decide +kernel
theorem dX6_hasAccepted_285 : decode cX6_hasAccepted 285 = .ok (.idiv, 1) := by decide +kernel
theorem dX6_hasAccepted_286 : decode cX6_hasAccepted 286 = .ok (.if_icmp .ne 35, 3) := by decide +kernel
theorem dX6_hasAccepted_289 : decode cX6_hasAccepted 289 = .ok (.aload_n 0, 1) := by decide +kernel
theorem dX6_hasAccepted_290 : decode cX6_hasAccepted 290 = .ok (.getfield 13, 3) := by decide +kernel
theorem dX6_hasAccepted_293 : decode cX6_hasAccepted 293 = .ok (.iload_n 1, 1) := by decide +kernel
theorem dX6_hasAccepted_294 : decode cX6_hasAccepted 294 = .ok (.iaload, 1) := by decide +kernel
theorem dX6_hasAccepted_295 : decode cX6_hasAccepted 295 = .ok (.iconst 1, 1) := by decide +kernel
theorem dX6_hasAccepted_296 : decode cX6_hasAccepted 296 = .ok (.if_icmp .ne 25, 3) := by decide +kernel
theorem dX6_hasAccepted_299 : decode cX6_hasAccepted 299 = .ok (.goto 18, 3) := by decide +kernel
theorem dX6_hasAccepted_302 : decode cX6_hasAccepted 302 = .ok (.aload_n 0, 1) := by decide +kernel
theorem dX6_hasAccepted_303 : decode cX6_hasAccepted 303 = .ok (.getfield 13, 3) := by decide +kernel
theorem dX6_hasAccepted_306 : decode cX6_hasAccepted 306 = .ok (.iload_n 1, 1) := by decide +kernel
theorem dX6_hasAccepted_307 : decode cX6_hasAccepted 307 = .ok (.iaload, 1) := by decide +kernel
theorem dX6_hasAccepted_308 : decode cX6_hasAccepted 308 = .ok (.iconst 1, 1) := by decide +kernel
theorem dX6_hasAccepted_309 : decode cX6_hasAccepted 309 = .ok (.if_icmp .eq 12, 3) := by decide +kernel
theorem dX6_hasAccepted_312 : decode cX6_hasAccepted 312 = .ok (.iload 4, 2) := by decide +kernel
theorem dX6_hasAccepted_314 : decode cX6_hasAccepted 314 = .ok (.ifCond .le 7, 3) := by decide +kernel
theorem dX6_hasAccepted_317 : decode cX6_hasAccepted 317 = .ok (.iconst 1, 1) := by decide +kernel
theorem dX6_hasAccepted_318 : decode cX6_hasAccepted 318 = .ok (.goto 4, 3) := by decide +kernel
theorem dX6_hasAccepted_321 : decode cX6_hasAccepted 321 = .ok (.iconst 0, 1) := by decide +kernel
theorem dX6_hasAccepted_322 : decode cX6_hasAccepted 322 = .ok (.istore_n 3, 1) := by decide +kernel
theorem dX6_hasAccepted_323 : decode cX6_hasAccepted 323 = .ok (.aload_n 0, 1) := by decide +kernel
theorem dX6_hasAccepted_324 : decode cX6_hasAccepted 324 = .ok (.getfield 52, 3) := by decide +kernel
theorem dX6_hasAccepted_327 : decode cX6_hasAccepted 327 = .ok (.iconst 4, 1) := by decide +kernel
theorem dX6_hasAccepted_328 : decode cX6_hasAccepted 328 = .ok (.if_icmp .ne 23, 3) := by decide +kernel
theorem dX6_hasAccepted_331 : decode cX6_hasAccepted 331 = .ok (.iload_n 3, 1) := by decide +kernel
theorem dX6_hasAccepted_332 : decode cX6_hasAccepted 332 = .ok (.ifCond .eq 17, 3) := by decide +kernel
theorem dX6_hasAccepted_335 : decode cX6_hasAccepted 335 = .ok (.iload_n 2, 1) := by decide +kernel
theorem dX6_hasAccepted_336 : decode cX6_hasAccepted 336 = .ok (.ifCond .eq 9, 3) := by decide +kernel
theorem dX6_hasAccepted_339 : decode cX6_hasAccepted 339 = .ok (.iload 4, 2) := by decide +kernel
theorem dX6_hasAccepted_341 : decode cX6_hasAccepted 341 = .ok (.iconst 1, 1) := by decide +kernel
theorem dX6_hasAccepted_342 : decode cX6_hasAccepted 342 = .ok (.if_icmp .ne 7, 3) := by decide +kernel
theorem dX6_hasAccepted_345 : decode cX6_hasAccepted 345 = .ok (.iconst 1, 1) := by decide +kernel
theorem dX6_hasAccepted_346 : decode cX6_hasAccepted 346 = .ok (.goto 4, 3) := by decide +kernel
theorem dX6_hasAccepted_349 : decode cX6_hasAccepted 349 = .ok (.iconst 0, 1) := by decide +kernel
theorem dX6_hasAccepted_350 : decode cX6_hasAccepted 350 = .ok (.istore_n 3, 1) := by decide +kernel
theorem dX6_hasAccepted_351 : decode cX6_hasAccepted 351 = .ok (.iload_n 3, 1) := by decide +kernel
theorem dX6_hasAccepted_352 : decode cX6_hasAccepted 352 = .ok (.ireturn, 1) := by decide +kernel
theorem dX6_accepts_0 : decode cX6_accepts 0 = .ok (.aload_n 0, 1) := by decide +kernel
theorem dX6_accepts_1 : decode cX6_accepts 1 = .ok (.iload_n 1, 1) := by decide +kernel
theorem dX6_accepts_2 : decode cX6_accepts 2 = .ok (.invokevirtual 44, 3) := by decide +kernel
theorem dX6_accepts_5 : decode cX6_accepts 5 = .ok (.ifCond .ne 8, 3) := by decide +kernel
theorem dX6_accepts_8 : decode cX6_accepts 8 = .ok (.bipush (-101), 2) := by decide +kernel
theorem dX6_accepts_10 : decode cX6_accepts 10 = .ok (.goto 16, 3) := by decide +kernel
theorem dX6_accepts_13 : decode cX6_accepts 13 = .ok (.aload_n 0, 1) := by decide +kernel
theorem dX6_accepts_14 : decode cX6_accepts 14 = .ok (.iload_n 1, 1) := by decide +kernel
theorem dX6_accepts_15 : decode cX6_accepts 15 = .ok (.invokevirtual 89, 3) := by decide +kernel
theorem dX6_accepts_18 : decode cX6_accepts 18 = .ok (.ifCond .eq 7, 3) := by decide +kernel
theorem dX6_accepts_21 : decode cX6_accepts 21 = .ok (.iconst 1, 1) := by decide +kernel
theorem dX6_accepts_22 : decode cX6_accepts 22 = .ok (.goto 4, 3) := by decide +kernel
theorem dX6_accepts_25 : decode cX6_accepts 25 = .ok (.iconst 0, 1) := by decide +kernel
theorem dX6_accepts_26 : decode cX6_accepts 26 = .ok (.ireturn, 1) := by decide +kernel
theorem dX6_againstOf_0 : decode cX6_againstOf 0 = .ok (.iconst 0, 1) := by decide +kernel
theorem dX6_againstOf_1 : decode cX6_againstOf 1 = .ok (.istore_n 1, 1) := by decide +kernel
theorem dX6_againstOf_2 : decode cX6_againstOf 2 = .ok (.iconst 0, 1) := by decide +kernel
theorem dX6_againstOf_3 : decode cX6_againstOf 3 = .ok (.istore_n 2, 1) := by decide +kernel
theorem dX6_againstOf_4 : decode cX6_againstOf 4 = .ok (.iload_n 2, 1) := by decide +kernel
theorem dX6_againstOf_5 : decode cX6_againstOf 5 = .ok (.aload_n 0, 1) := by decide +kernel
theorem dX6_againstOf_6 : decode cX6_againstOf 6 = .ok (.getfield 34, 3) := by decide +kernel
theorem dX6_againstOf_9 : decode cX6_againstOf 9 = .ok (.if_icmp .ge 27, 3) := by decide +kernel
theorem dX6_againstOf_12 : decode cX6_againstOf 12 = .ok (.iload_n 1, 1) := by decide +kernel
theorem dX6_againstOf_13 : decode cX6_againstOf 13 = .ok (.aload_n 0, 1) := by decide +kernel
theorem dX6_againstOf_14 : decode cX6_againstOf 14 = .ok (.iload_n 2, 1) := by decide +kernel
theorem dX6_againstOf_15 : decode cX6_againstOf 15 = .ok (.invokevirtual 89, 3) := by decide +kernel
theorem dX6_againstOf_18 : decode cX6_againstOf 18 = .ok (.ifCond .eq 7, 3) := by decide +kernel
theorem dX6_againstOf_21 : decode cX6_againstOf 21 = .ok (.iconst 0, 1) := by decide +kernel
theorem dX6_againstOf_22 : decode cX6_againstOf 22 = .ok (.goto 6, 3) := by decide +kernel
theorem dX6_againstOf_25 : decode cX6_againstOf 25 = .ok (.iconst 1, 1) := by decide +kernel
theorem dX6_againstOf_26 : decode cX6_againstOf 26 = .ok (.iload_n 2, 1) := by decide +kernel
theorem dX6_againstOf_27 : decode cX6_againstOf 27 = .ok (.ishl, 1) := by decide +kernel
theorem dX6_againstOf_28 : decode cX6_againstOf 28 = .ok (.ior, 1) := by decide +kernel
theorem dX6_againstOf_29 : decode cX6_againstOf 29 = .ok (.istore_n 1, 1) := by decide +kernel
theorem dX6_againstOf_30 : decode cX6_againstOf 30 = .ok (.iinc 2 1, 3) := by decide +kernel
theorem dX6_againstOf_33 : decode cX6_againstOf 33 = .ok (.goto (-29), 3) := by decide +kernel
theorem dX6_againstOf_36 : decode cX6_againstOf 36 = .ok (.iload_n 1, 1) := by decide +kernel
theorem dX6_againstOf_37 : decode cX6_againstOf 37 = .ok (.ireturn, 1) := by decide +kernel
theorem dX6_against_0 : decode cX6_against 0 = .ok (.aload_n 0, 1) := by decide +kernel
theorem dX6_against_1 : decode cX6_against 1 = .ok (.invokevirtual 92, 3) := by decide +kernel
theorem dX6_against_4 : decode cX6_against 4 = .ok (.ireturn, 1) := by decide +kernel
theorem dX6_prove_0 : decode cX6_prove 0 = .ok (.aload_n 0, 1) := by decide +kernel
theorem dX6_prove_1 : decode cX6_prove 1 = .ok (.invokevirtual 83, 3) := by decide +kernel
theorem dX6_prove_4 : decode cX6_prove 4 = .ok (.ifCond .ne 5, 3) := by decide +kernel
theorem dX6_prove_7 : decode cX6_prove 7 = .ok (.iconst 0, 1) := by decide +kernel
theorem dX6_prove_8 : decode cX6_prove 8 = .ok (.ireturn, 1) := by decide +kernel
theorem dX6_prove_9 : decode cX6_prove 9 = .ok (.iconst 0, 1) := by decide +kernel
theorem dX6_prove_10 : decode cX6_prove 10 = .ok (.istore_n 1, 1) := by decide +kernel
theorem dX6_prove_11 : decode cX6_prove 11 = .ok (.iload_n 1, 1) := by decide +kernel
theorem dX6_prove_12 : decode cX6_prove 12 = .ok (.aload_n 0, 1) := by decide +kernel
theorem dX6_prove_13 : decode cX6_prove 13 = .ok (.getfield 34, 3) := by decide +kernel
theorem dX6_prove_16 : decode cX6_prove 16 = .ok (.if_icmp .ge 21, 3) := by decide +kernel
theorem dX6_prove_19 : decode cX6_prove 19 = .ok (.aload_n 0, 1) := by decide +kernel
theorem dX6_prove_20 : decode cX6_prove 20 = .ok (.getfield 16, 3) := by decide +kernel
theorem dX6_prove_23 : decode cX6_prove 23 = .ok (.iload_n 1, 1) := by decide +kernel
theorem dX6_prove_24 : decode cX6_prove 24 = .ok (.aload_n 0, 1) := by decide +kernel
theorem dX6_prove_25 : decode cX6_prove 25 = .ok (.getfield 25, 3) := by decide +kernel
theorem dX6_prove_28 : decode cX6_prove 28 = .ok (.iload_n 1, 1) := by decide +kernel
theorem dX6_prove_29 : decode cX6_prove 29 = .ok (.iaload, 1) := by decide +kernel
theorem dX6_prove_30 : decode cX6_prove 30 = .ok (.iastore, 1) := by decide +kernel
theorem dX6_prove_31 : decode cX6_prove 31 = .ok (.iinc 1 1, 3) := by decide +kernel
theorem dX6_prove_34 : decode cX6_prove 34 = .ok (.goto (-23), 3) := by decide +kernel
theorem dX6_prove_37 : decode cX6_prove 37 = .ok (.iconst 1, 1) := by decide +kernel
theorem dX6_prove_38 : decode cX6_prove 38 = .ok (.ireturn, 1) := by decide +kernel
theorem dX6_allOf_0 : decode cX6_allOf 0 = .ok (.lconst 1, 1) := by decide +kernel
theorem dX6_allOf_1 : decode cX6_allOf 1 = .ok (.lstore_n 2, 1) := by decide +kernel
theorem dX6_allOf_2 : decode cX6_allOf 2 = .ok (.iconst 0, 1) := by decide +kernel
theorem dX6_allOf_3 : decode cX6_allOf 3 = .ok (.istore 4, 2) := by decide +kernel
theorem dX6_allOf_5 : decode cX6_allOf 5 = .ok (.iload 4, 2) := by decide +kernel
theorem dX6_allOf_7 : decode cX6_allOf 7 = .ok (.aload_n 0, 1) := by decide +kernel
theorem dX6_allOf_8 : decode cX6_allOf 8 = .ok (.getfield 34, 3) := by decide +kernel
theorem dX6_allOf_11 : decode cX6_allOf 11 = .ok (.if_icmp .ge 14, 3) := by decide +kernel
theorem dX6_allOf_14 : decode cX6_allOf 14 = .ok (.lload_n 2, 1) := by decide +kernel
theorem dX6_allOf_15 : decode cX6_allOf 15 = .ok (.iload_n 1, 1) := by decide +kernel
theorem dX6_allOf_16 : decode cX6_allOf 16 = .ok (.i2l, 1) := by decide +kernel
theorem dX6_allOf_17 : decode cX6_allOf 17 = .ok (.lmul, 1) := by decide +kernel
theorem dX6_allOf_18 : decode cX6_allOf 18 = .ok (.lstore_n 2, 1) := by decide +kernel
theorem dX6_allOf_19 : decode cX6_allOf 19 = .ok (.iinc 4 1, 3) := by decide +kernel
theorem dX6_allOf_22 : decode cX6_allOf 22 = .ok (.goto (-17), 3) := by decide +kernel
theorem dX6_allOf_25 : decode cX6_allOf 25 = .ok (.lload_n 2, 1) := by decide +kernel
theorem dX6_allOf_26 : decode cX6_allOf 26 = .ok (.lreturn, 1) := by decide +kernel
theorem dX6_goThrough_0 : decode cX6_goThrough 0 = .ok (.aload_n 0, 1) := by decide +kernel
theorem dX6_goThrough_1 : decode cX6_goThrough 1 = .ok (.iload_n 1, 1) := by decide +kernel
theorem dX6_goThrough_2 : decode cX6_goThrough 2 = .ok (.invokevirtual 95, 3) := by decide +kernel
theorem dX6_goThrough_5 : decode cX6_goThrough 5 = .ok (.lstore_n 3, 1) := by decide +kernel
theorem dX6_goThrough_6 : decode cX6_goThrough 6 = .ok (.iconst 0, 1) := by decide +kernel
theorem dX6_goThrough_7 : decode cX6_goThrough 7 = .ok (.istore 5, 2) := by decide +kernel
theorem dX6_goThrough_9 : decode cX6_goThrough 9 = .ok (.iconst 0, 1) := by decide +kernel
theorem dX6_goThrough_10 : decode cX6_goThrough 10 = .ok (.istore 6, 2) := by decide +kernel
theorem dX6_goThrough_12 : decode cX6_goThrough 12 = .ok (.iload 6, 2) := by decide +kernel
theorem dX6_goThrough_14 : decode cX6_goThrough 14 = .ok (.i2l, 1) := by decide +kernel
theorem dX6_goThrough_15 : decode cX6_goThrough 15 = .ok (.lload_n 3, 1) := by decide +kernel
theorem dX6_goThrough_16 : decode cX6_goThrough 16 = .ok (.lcmp, 1) := by decide +kernel
theorem dX6_goThrough_17 : decode cX6_goThrough 17 = .ok (.ifCond .ge 70, 3) := by decide +kernel
theorem dX6_goThrough_20 : decode cX6_goThrough 20 = .ok (.iload 6, 2) := by decide +kernel
theorem dX6_goThrough_22 : decode cX6_goThrough 22 = .ok (.istore 7, 2) := by decide +kernel
theorem dX6_goThrough_24 : decode cX6_goThrough 24 = .ok (.aload_n 0, 1) := by decide +kernel
theorem dX6_goThrough_25 : decode cX6_goThrough 25 = .ok (.getfield 34, 3) := by decide +kernel
theorem dX6_goThrough_28 : decode cX6_goThrough 28 = .ok (.iconst 1, 1) := by decide +kernel
theorem dX6_goThrough_29 : decode cX6_goThrough 29 = .ok (.isub, 1) := by decide +kernel
theorem dX6_goThrough_30 : decode cX6_goThrough 30 = .ok (.istore 8, 2) := by decide +kernel
theorem dX6_goThrough_32 : decode cX6_goThrough 32 = .ok (.iload 8, 2) := by decide +kernel
theorem dX6_goThrough_34 : decode cX6_goThrough 34 = .ok (.ifCond .lt 26, 3) := by decide +kernel
theorem dX6_goThrough_37 : decode cX6_goThrough 37 = .ok (.aload_n 0, 1) := by decide +kernel
theorem dX6_goThrough_38 : decode cX6_goThrough 38 = .ok (.getfield 16, 3) := by decide +kernel
theorem dX6_goThrough_41 : decode cX6_goThrough 41 = .ok (.iload 8, 2) := by decide +kernel
theorem dX6_goThrough_43 : decode cX6_goThrough 43 = .ok (.iload 7, 2) := by decide +kernel
theorem dX6_goThrough_45 : decode cX6_goThrough 45 = .ok (.iload_n 1, 1) := by decide +kernel
theorem dX6_goThrough_46 : decode cX6_goThrough 46 = .ok (.irem, 1) := by decide +kernel
theorem dX6_goThrough_47 : decode cX6_goThrough 47 = .ok (.iastore, 1) := by decide +kernel
theorem dX6_goThrough_48 : decode cX6_goThrough 48 = .ok (.iload 7, 2) := by decide +kernel
theorem dX6_goThrough_50 : decode cX6_goThrough 50 = .ok (.iload_n 1, 1) := by decide +kernel
theorem dX6_goThrough_51 : decode cX6_goThrough 51 = .ok (.idiv, 1) := by decide +kernel
theorem dX6_goThrough_52 : decode cX6_goThrough 52 = .ok (.istore 7, 2) := by decide +kernel
theorem dX6_goThrough_54 : decode cX6_goThrough 54 = .ok (.iinc 8 (-1), 3) := by decide +kernel
theorem dX6_goThrough_57 : decode cX6_goThrough 57 = .ok (.goto (-25), 3) := by decide +kernel
theorem dX6_goThrough_60 : decode cX6_goThrough 60 = .ok (.aload_n 0, 1) := by decide +kernel
theorem dX6_goThrough_61 : decode cX6_goThrough 61 = .ok (.invokevirtual 92, 3) := by decide +kernel
theorem dX6_goThrough_64 : decode cX6_goThrough 64 = .ok (.ifCond .ne 17, 3) := by decide +kernel
theorem dX6_goThrough_67 : decode cX6_goThrough 67 = .ok (.iload 5, 2) := by decide +kernel
theorem dX6_goThrough_69 : decode cX6_goThrough 69 = .ok (.iload_n 2, 1) := by decide +kernel
theorem dX6_goThrough_70 : decode cX6_goThrough 70 = .ok (.if_icmp .ne 8, 3) := by decide +kernel
theorem dX6_goThrough_73 : decode cX6_goThrough 73 = .ok (.iload 5, 2) := by decide +kernel
theorem dX6_goThrough_75 : decode cX6_goThrough 75 = .ok (.iconst 1, 1) := by decide +kernel
theorem dX6_goThrough_76 : decode cX6_goThrough 76 = .ok (.iadd, 1) := by decide +kernel
theorem dX6_goThrough_77 : decode cX6_goThrough 77 = .ok (.ireturn, 1) := by decide +kernel
theorem dX6_goThrough_78 : decode cX6_goThrough 78 = .ok (.iinc 5 1, 3) := by decide +kernel
theorem dX6_goThrough_81 : decode cX6_goThrough 81 = .ok (.iinc 6 1, 3) := by decide +kernel
theorem dX6_goThrough_84 : decode cX6_goThrough 84 = .ok (.goto (-72), 3) := by decide +kernel
theorem dX6_goThrough_87 : decode cX6_goThrough 87 = .ok (.iload 5, 2) := by decide +kernel
theorem dX6_goThrough_89 : decode cX6_goThrough 89 = .ok (.ireturn, 1) := by decide +kernel
theorem dX6_layAside_0 : decode cX6_layAside 0 = .ok (.iconst 0, 1) := by decide +kernel
theorem dX6_layAside_1 : decode cX6_layAside 1 = .ok (.istore_n 1, 1) := by decide +kernel
theorem dX6_layAside_2 : decode cX6_layAside 2 = .ok (.iload_n 1, 1) := by decide +kernel
theorem dX6_layAside_3 : decode cX6_layAside 3 = .ok (.aload_n 0, 1) := by decide +kernel
theorem dX6_layAside_4 : decode cX6_layAside 4 = .ok (.getfield 34, 3) := by decide +kernel
theorem dX6_layAside_7 : decode cX6_layAside 7 = .ok (.if_icmp .ge 21, 3) := by decide +kernel
theorem dX6_layAside_10 : decode cX6_layAside 10 = .ok (.aload_n 0, 1) := by decide +kernel
theorem dX6_layAside_11 : decode cX6_layAside 11 = .ok (.getfield 28, 3) := by decide +kernel
theorem dX6_layAside_14 : decode cX6_layAside 14 = .ok (.iload_n 1, 1) := by decide +kernel
theorem dX6_layAside_15 : decode cX6_layAside 15 = .ok (.aload_n 0, 1) := by decide +kernel
theorem dX6_layAside_16 : decode cX6_layAside 16 = .ok (.getfield 16, 3) := by decide +kernel
theorem dX6_layAside_19 : decode cX6_layAside 19 = .ok (.iload_n 1, 1) := by decide +kernel
theorem dX6_layAside_20 : decode cX6_layAside 20 = .ok (.iaload, 1) := by decide +kernel
theorem dX6_layAside_21 : decode cX6_layAside 21 = .ok (.iastore, 1) := by decide +kernel
theorem dX6_layAside_22 : decode cX6_layAside 22 = .ok (.iinc 1 1, 3) := by decide +kernel
theorem dX6_layAside_25 : decode cX6_layAside 25 = .ok (.goto (-23), 3) := by decide +kernel
theorem dX6_layAside_28 : decode cX6_layAside 28 = .ok (.return_, 1) := by decide +kernel
theorem dX6_putBack_0 : decode cX6_putBack 0 = .ok (.iconst 0, 1) := by decide +kernel
theorem dX6_putBack_1 : decode cX6_putBack 1 = .ok (.istore_n 1, 1) := by decide +kernel
theorem dX6_putBack_2 : decode cX6_putBack 2 = .ok (.iload_n 1, 1) := by decide +kernel
theorem dX6_putBack_3 : decode cX6_putBack 3 = .ok (.aload_n 0, 1) := by decide +kernel
theorem dX6_putBack_4 : decode cX6_putBack 4 = .ok (.getfield 34, 3) := by decide +kernel
theorem dX6_putBack_7 : decode cX6_putBack 7 = .ok (.if_icmp .ge 21, 3) := by decide +kernel
theorem dX6_putBack_10 : decode cX6_putBack 10 = .ok (.aload_n 0, 1) := by decide +kernel
theorem dX6_putBack_11 : decode cX6_putBack 11 = .ok (.getfield 16, 3) := by decide +kernel
theorem dX6_putBack_14 : decode cX6_putBack 14 = .ok (.iload_n 1, 1) := by decide +kernel
theorem dX6_putBack_15 : decode cX6_putBack 15 = .ok (.aload_n 0, 1) := by decide +kernel
theorem dX6_putBack_16 : decode cX6_putBack 16 = .ok (.getfield 28, 3) := by decide +kernel
theorem dX6_putBack_19 : decode cX6_putBack 19 = .ok (.iload_n 1, 1) := by decide +kernel
theorem dX6_putBack_20 : decode cX6_putBack 20 = .ok (.iaload, 1) := by decide +kernel
theorem dX6_putBack_21 : decode cX6_putBack 21 = .ok (.iastore, 1) := by decide +kernel
theorem dX6_putBack_22 : decode cX6_putBack 22 = .ok (.iinc 1 1, 3) := by decide +kernel
theorem dX6_putBack_25 : decode cX6_putBack 25 = .ok (.goto (-23), 3) := by decide +kernel
theorem dX6_putBack_28 : decode cX6_putBack 28 = .ok (.return_, 1) := by decide +kernel
theorem dX6_tryAll_0 : decode cX6_tryAll 0 = .ok (.iload_n 1, 1) := by decide +kernel
theorem dX6_tryAll_1 : decode cX6_tryAll 1 = .ok (.i2l, 1) := by decide +kernel
theorem dX6_tryAll_2 : decode cX6_tryAll 2 = .ok (.lconst 1, 1) := by decide +kernel
theorem dX6_tryAll_3 : decode cX6_tryAll 3 = .ok (.ldc2_w 99, 3) := by decide +kernel
theorem dX6_tryAll_6 : decode cX6_tryAll 6 = .ok (.invokestatic 38, 3) := by decide +kernel
theorem dX6_tryAll_9 : decode cX6_tryAll 9 = .ok (.ifCond .ne 6, 3) := by decide +kernel
theorem dX6_tryAll_12 : decode cX6_tryAll 12 = .ok (.bipush (-102), 2) := by decide +kernel
theorem dX6_tryAll_14 : decode cX6_tryAll 14 = .ok (.ireturn, 1) := by decide +kernel
theorem dX6_tryAll_15 : decode cX6_tryAll 15 = .ok (.aload_n 0, 1) := by decide +kernel
theorem dX6_tryAll_16 : decode cX6_tryAll 16 = .ok (.iload_n 1, 1) := by decide +kernel
theorem dX6_tryAll_17 : decode cX6_tryAll 17 = .ok (.invokevirtual 95, 3) := by decide +kernel
theorem dX6_tryAll_20 : decode cX6_tryAll 20 = .ok (.ldc2_w 101, 3) := by decide +kernel
theorem dX6_tryAll_23 : decode cX6_tryAll 23 = .ok (.lcmp, 1) := by decide +kernel
theorem dX6_tryAll_24 : decode cX6_tryAll 24 = .ok (.ifCond .gt 12, 3) := by decide +kernel
theorem dX6_tryAll_27 : decode cX6_tryAll 27 = .ok (.aload_n 0, 1) := by decide +kernel
theorem dX6_tryAll_28 : decode cX6_tryAll 28 = .ok (.getfield 103, 3) := by decide +kernel
theorem dX6_tryAll_31 : decode cX6_tryAll 31 = .ok (.bipush 30, 2) := by decide +kernel
theorem dX6_tryAll_33 : decode cX6_tryAll 33 = .ok (.if_icmp .ne 6, 3) := by decide +kernel
theorem dX6_tryAll_36 : decode cX6_tryAll 36 = .ok (.bipush (-103), 2) := by decide +kernel
theorem dX6_tryAll_38 : decode cX6_tryAll 38 = .ok (.ireturn, 1) := by decide +kernel
theorem dX6_tryAll_39 : decode cX6_tryAll 39 = .ok (.aload_n 0, 1) := by decide +kernel
theorem dX6_tryAll_40 : decode cX6_tryAll 40 = .ok (.dup, 1) := by decide +kernel
theorem dX6_tryAll_41 : decode cX6_tryAll 41 = .ok (.getfield 103, 3) := by decide +kernel
theorem dX6_tryAll_44 : decode cX6_tryAll 44 = .ok (.iconst 1, 1) := by decide +kernel
theorem dX6_tryAll_45 : decode cX6_tryAll 45 = .ok (.iadd, 1) := by decide +kernel
theorem dX6_tryAll_46 : decode cX6_tryAll 46 = .ok (.putfield 103, 3) := by decide +kernel
theorem dX6_tryAll_49 : decode cX6_tryAll 49 = .ok (.aload_n 0, 1) := by decide +kernel
theorem dX6_tryAll_50 : decode cX6_tryAll 50 = .ok (.invokevirtual 106, 3) := by decide +kernel
theorem dX6_tryAll_53 : decode cX6_tryAll 53 = .ok (.aload_n 0, 1) := by decide +kernel
theorem dX6_tryAll_54 : decode cX6_tryAll 54 = .ok (.iload_n 1, 1) := by decide +kernel
theorem dX6_tryAll_55 : decode cX6_tryAll 55 = .ok (.iconst (-1), 1) := by decide +kernel
theorem dX6_tryAll_56 : decode cX6_tryAll 56 = .ok (.invokevirtual 109, 3) := by decide +kernel
theorem dX6_tryAll_59 : decode cX6_tryAll 59 = .ok (.istore_n 2, 1) := by decide +kernel
theorem dX6_tryAll_60 : decode cX6_tryAll 60 = .ok (.aload_n 0, 1) := by decide +kernel
theorem dX6_tryAll_61 : decode cX6_tryAll 61 = .ok (.invokevirtual 113, 3) := by decide +kernel
theorem dX6_tryAll_64 : decode cX6_tryAll 64 = .ok (.iload_n 2, 1) := by decide +kernel
theorem dX6_tryAll_65 : decode cX6_tryAll 65 = .ok (.ireturn, 1) := by decide +kernel
theorem dX6_attempt_0 : decode cX6_attempt 0 = .ok (.iload_n 1, 1) := by decide +kernel
theorem dX6_attempt_1 : decode cX6_attempt 1 = .ok (.i2l, 1) := by decide +kernel
theorem dX6_attempt_2 : decode cX6_attempt 2 = .ok (.lconst 1, 1) := by decide +kernel
theorem dX6_attempt_3 : decode cX6_attempt 3 = .ok (.ldc2_w 99, 3) := by decide +kernel
theorem dX6_attempt_6 : decode cX6_attempt 6 = .ok (.invokestatic 38, 3) := by decide +kernel
theorem dX6_attempt_9 : decode cX6_attempt 9 = .ok (.ifCond .ne 6, 3) := by decide +kernel
theorem dX6_attempt_12 : decode cX6_attempt 12 = .ok (.bipush (-102), 2) := by decide +kernel
theorem dX6_attempt_14 : decode cX6_attempt 14 = .ok (.ireturn, 1) := by decide +kernel
theorem dX6_attempt_15 : decode cX6_attempt 15 = .ok (.aload_n 0, 1) := by decide +kernel
theorem dX6_attempt_16 : decode cX6_attempt 16 = .ok (.iload_n 1, 1) := by decide +kernel
theorem dX6_attempt_17 : decode cX6_attempt 17 = .ok (.invokevirtual 95, 3) := by decide +kernel
theorem dX6_attempt_20 : decode cX6_attempt 20 = .ok (.ldc2_w 101, 3) := by decide +kernel
theorem dX6_attempt_23 : decode cX6_attempt 23 = .ok (.lcmp, 1) := by decide +kernel
theorem dX6_attempt_24 : decode cX6_attempt 24 = .ok (.ifCond .gt 12, 3) := by decide +kernel
theorem dX6_attempt_27 : decode cX6_attempt 27 = .ok (.aload_n 0, 1) := by decide +kernel
theorem dX6_attempt_28 : decode cX6_attempt 28 = .ok (.getfield 103, 3) := by decide +kernel
theorem dX6_attempt_31 : decode cX6_attempt 31 = .ok (.bipush 30, 2) := by decide +kernel
theorem dX6_attempt_33 : decode cX6_attempt 33 = .ok (.if_icmp .ne 6, 3) := by decide +kernel
theorem dX6_attempt_36 : decode cX6_attempt 36 = .ok (.bipush (-103), 2) := by decide +kernel
theorem dX6_attempt_38 : decode cX6_attempt 38 = .ok (.ireturn, 1) := by decide +kernel
theorem dX6_attempt_39 : decode cX6_attempt 39 = .ok (.aload_n 0, 1) := by decide +kernel
theorem dX6_attempt_40 : decode cX6_attempt 40 = .ok (.dup, 1) := by decide +kernel
theorem dX6_attempt_41 : decode cX6_attempt 41 = .ok (.getfield 103, 3) := by decide +kernel
theorem dX6_attempt_44 : decode cX6_attempt 44 = .ok (.iconst 1, 1) := by decide +kernel
theorem dX6_attempt_45 : decode cX6_attempt 45 = .ok (.iadd, 1) := by decide +kernel
theorem dX6_attempt_46 : decode cX6_attempt 46 = .ok (.putfield 103, 3) := by decide +kernel
theorem dX6_attempt_49 : decode cX6_attempt 49 = .ok (.aload_n 0, 1) := by decide +kernel
theorem dX6_attempt_50 : decode cX6_attempt 50 = .ok (.invokevirtual 106, 3) := by decide +kernel
theorem dX6_attempt_53 : decode cX6_attempt 53 = .ok (.iload_n 2, 1) := by decide +kernel
theorem dX6_attempt_54 : decode cX6_attempt 54 = .ok (.ifCond .lt 15, 3) := by decide +kernel
theorem dX6_attempt_57 : decode cX6_attempt 57 = .ok (.aload_n 0, 1) := by decide +kernel
theorem dX6_attempt_58 : decode cX6_attempt 58 = .ok (.iload_n 1, 1) := by decide +kernel
theorem dX6_attempt_59 : decode cX6_attempt 59 = .ok (.iload_n 2, 1) := by decide +kernel
theorem dX6_attempt_60 : decode cX6_attempt 60 = .ok (.invokevirtual 109, 3) := by decide +kernel
theorem dX6_attempt_63 : decode cX6_attempt 63 = .ok (.iload_n 2, 1) := by decide +kernel
theorem dX6_attempt_64 : decode cX6_attempt 64 = .ok (.iconst 1, 1) := by decide +kernel
theorem dX6_attempt_65 : decode cX6_attempt 65 = .ok (.iadd, 1) := by decide +kernel
theorem dX6_attempt_66 : decode cX6_attempt 66 = .ok (.if_icmp .eq 9, 3) := by decide +kernel
theorem dX6_attempt_69 : decode cX6_attempt 69 = .ok (.aload_n 0, 1) := by decide +kernel
theorem dX6_attempt_70 : decode cX6_attempt 70 = .ok (.invokevirtual 113, 3) := by decide +kernel
theorem dX6_attempt_73 : decode cX6_attempt 73 = .ok (.iconst (-1), 1) := by decide +kernel
theorem dX6_attempt_74 : decode cX6_attempt 74 = .ok (.ireturn, 1) := by decide +kernel
theorem dX6_attempt_75 : decode cX6_attempt 75 = .ok (.iconst 1, 1) := by decide +kernel
theorem dX6_attempt_76 : decode cX6_attempt 76 = .ok (.ireturn, 1) := by decide +kernel
theorem dX6_numbers_0 : decode cX6_numbers 0 = .ok (.aload_n 0, 1) := by decide +kernel
theorem dX6_numbers_1 : decode cX6_numbers 1 = .ok (.invokevirtual 83, 3) := by decide +kernel
theorem dX6_numbers_4 : decode cX6_numbers 4 = .ok (.ifCond .ne 5, 3) := by decide +kernel
theorem dX6_numbers_7 : decode cX6_numbers 7 = .ok (.iconst (-1), 1) := by decide +kernel
theorem dX6_numbers_8 : decode cX6_numbers 8 = .ok (.ireturn, 1) := by decide +kernel
theorem dX6_numbers_9 : decode cX6_numbers 9 = .ok (.iconst 0, 1) := by decide +kernel
theorem dX6_numbers_10 : decode cX6_numbers 10 = .ok (.istore_n 1, 1) := by decide +kernel
theorem dX6_numbers_11 : decode cX6_numbers 11 = .ok (.iconst 0, 1) := by decide +kernel
theorem dX6_numbers_12 : decode cX6_numbers 12 = .ok (.istore_n 2, 1) := by decide +kernel
theorem dX6_numbers_13 : decode cX6_numbers 13 = .ok (.iload_n 2, 1) := by decide +kernel
theorem dX6_numbers_14 : decode cX6_numbers 14 = .ok (.aload_n 0, 1) := by decide +kernel
theorem dX6_numbers_15 : decode cX6_numbers 15 = .ok (.getfield 34, 3) := by decide +kernel
theorem dX6_numbers_18 : decode cX6_numbers 18 = .ok (.if_icmp .ge 30, 3) := by decide +kernel
theorem dX6_numbers_21 : decode cX6_numbers 21 = .ok (.aload_n 0, 1) := by decide +kernel
theorem dX6_numbers_22 : decode cX6_numbers 22 = .ok (.getfield 25, 3) := by decide +kernel
theorem dX6_numbers_25 : decode cX6_numbers 25 = .ok (.iload_n 2, 1) := by decide +kernel
theorem dX6_numbers_26 : decode cX6_numbers 26 = .ok (.iaload, 1) := by decide +kernel
theorem dX6_numbers_27 : decode cX6_numbers 27 = .ok (.iload_n 1, 1) := by decide +kernel
theorem dX6_numbers_28 : decode cX6_numbers 28 = .ok (.if_icmp .le 12, 3) := by decide +kernel
theorem dX6_numbers_31 : decode cX6_numbers 31 = .ok (.aload_n 0, 1) := by decide +kernel
theorem dX6_numbers_32 : decode cX6_numbers 32 = .ok (.getfield 25, 3) := by decide +kernel
theorem dX6_numbers_35 : decode cX6_numbers 35 = .ok (.iload_n 2, 1) := by decide +kernel
theorem dX6_numbers_36 : decode cX6_numbers 36 = .ok (.iaload, 1) := by decide +kernel
theorem dX6_numbers_37 : decode cX6_numbers 37 = .ok (.goto 4, 3) := by decide +kernel
theorem dX6_numbers_40 : decode cX6_numbers 40 = .ok (.iload_n 1, 1) := by decide +kernel
theorem dX6_numbers_41 : decode cX6_numbers 41 = .ok (.istore_n 1, 1) := by decide +kernel
theorem dX6_numbers_42 : decode cX6_numbers 42 = .ok (.iinc 2 1, 3) := by decide +kernel
theorem dX6_numbers_45 : decode cX6_numbers 45 = .ok (.goto (-32), 3) := by decide +kernel
theorem dX6_numbers_48 : decode cX6_numbers 48 = .ok (.iload_n 1, 1) := by decide +kernel
theorem dX6_numbers_49 : decode cX6_numbers 49 = .ok (.iconst 1, 1) := by decide +kernel
theorem dX6_numbers_50 : decode cX6_numbers 50 = .ok (.iadd, 1) := by decide +kernel
theorem dX6_numbers_51 : decode cX6_numbers 51 = .ok (.ireturn, 1) := by decide +kernel
theorem dX6_slip_0 : decode cX6_slip 0 = .ok (.iload_n 1, 1) := by decide +kernel
theorem dX6_slip_1 : decode cX6_slip 1 = .ok (.i2l, 1) := by decide +kernel
theorem dX6_slip_2 : decode cX6_slip 2 = .ok (.lconst 0, 1) := by decide +kernel
theorem dX6_slip_3 : decode cX6_slip 3 = .ok (.ldc2_w 116, 3) := by decide +kernel
theorem dX6_slip_6 : decode cX6_slip 6 = .ok (.invokestatic 38, 3) := by decide +kernel
theorem dX6_slip_9 : decode cX6_slip 9 = .ok (.ifCond .eq 13, 3) := by decide +kernel
theorem dX6_slip_12 : decode cX6_slip 12 = .ok (.iload_n 2, 1) := by decide +kernel
theorem dX6_slip_13 : decode cX6_slip 13 = .ok (.i2l, 1) := by decide +kernel
theorem dX6_slip_14 : decode cX6_slip 14 = .ok (.lconst 0, 1) := by decide +kernel
theorem dX6_slip_15 : decode cX6_slip 15 = .ok (.lconst 1, 1) := by decide +kernel
theorem dX6_slip_16 : decode cX6_slip 16 = .ok (.invokestatic 38, 3) := by decide +kernel
theorem dX6_slip_19 : decode cX6_slip 19 = .ok (.ifCond .ne 7, 3) := by decide +kernel
theorem dX6_slip_22 : decode cX6_slip 22 = .ok (.ldc2_w 118, 3) := by decide +kernel
theorem dX6_slip_25 : decode cX6_slip 25 = .ok (.lreturn, 1) := by decide +kernel
theorem dX6_slip_26 : decode cX6_slip 26 = .ok (.aload_n 0, 1) := by decide +kernel
theorem dX6_slip_27 : decode cX6_slip 27 = .ok (.invokevirtual 92, 3) := by decide +kernel
theorem dX6_slip_30 : decode cX6_slip 30 = .ok (.istore_n 3, 1) := by decide +kernel
theorem dX6_slip_31 : decode cX6_slip 31 = .ok (.lconst 1, 1) := by decide +kernel
theorem dX6_slip_32 : decode cX6_slip 32 = .ok (.lstore 4, 2) := by decide +kernel
theorem dX6_slip_34 : decode cX6_slip 34 = .ok (.lconst 1, 1) := by decide +kernel
theorem dX6_slip_35 : decode cX6_slip 35 = .ok (.lstore 6, 2) := by decide +kernel
theorem dX6_slip_37 : decode cX6_slip 37 = .ok (.iconst 0, 1) := by decide +kernel
theorem dX6_slip_38 : decode cX6_slip 38 = .ok (.istore 8, 2) := by decide +kernel
theorem dX6_slip_40 : decode cX6_slip 40 = .ok (.iload 8, 2) := by decide +kernel
theorem dX6_slip_42 : decode cX6_slip 42 = .ok (.aload_n 0, 1) := by decide +kernel
theorem dX6_slip_43 : decode cX6_slip 43 = .ok (.getfield 34, 3) := by decide +kernel
theorem dX6_slip_46 : decode cX6_slip 46 = .ok (.if_icmp .ge 37, 3) := by decide +kernel
theorem dX6_slip_49 : decode cX6_slip 49 = .ok (.iload_n 3, 1) := by decide +kernel
theorem dX6_slip_50 : decode cX6_slip 50 = .ok (.iload 8, 2) := by decide +kernel
theorem dX6_slip_52 : decode cX6_slip 52 = .ok (.ishr, 1) := by decide +kernel
theorem dX6_slip_53 : decode cX6_slip 53 = .ok (.iconst 1, 1) := by decide +kernel
theorem dX6_slip_54 : decode cX6_slip 54 = .ok (.iand, 1) := by decide +kernel
theorem dX6_slip_55 : decode cX6_slip 55 = .ok (.iconst 1, 1) := by decide +kernel
theorem dX6_slip_56 : decode cX6_slip 56 = .ok (.if_icmp .ne 21, 3) := by decide +kernel
theorem dX6_slip_59 : decode cX6_slip 59 = .ok (.lload 4, 2) := by decide +kernel
theorem dX6_slip_61 : decode cX6_slip 61 = .ok (.bipush 10, 2) := by decide +kernel
theorem dX6_slip_63 : decode cX6_slip 63 = .ok (.iload_n 1, 1) := by decide +kernel
theorem dX6_slip_64 : decode cX6_slip 64 = .ok (.isub, 1) := by decide +kernel
theorem dX6_slip_65 : decode cX6_slip 65 = .ok (.i2l, 1) := by decide +kernel
theorem dX6_slip_66 : decode cX6_slip 66 = .ok (.lmul, 1) := by decide +kernel
theorem dX6_slip_67 : decode cX6_slip 67 = .ok (.lstore 4, 2) := by decide +kernel
theorem dX6_slip_69 : decode cX6_slip 69 = .ok (.lload 6, 2) := by decide +kernel
theorem dX6_slip_71 : decode cX6_slip 71 = .ok (.ldc2_w 116, 3) := by decide +kernel
theorem dX6_slip_74 : decode cX6_slip 74 = .ok (.lmul, 1) := by decide +kernel
theorem dX6_slip_75 : decode cX6_slip 75 = .ok (.lstore 6, 2) := by decide +kernel
theorem dX6_slip_77 : decode cX6_slip 77 = .ok (.iinc 8 1, 3) := by decide +kernel
theorem dX6_slip_80 : decode cX6_slip 80 = .ok (.goto (-40), 3) := by decide +kernel
theorem dX6_slip_83 : decode cX6_slip 83 = .ok (.lload 4, 2) := by decide +kernel
theorem dX6_slip_85 : decode cX6_slip 85 = .ok (.lstore 8, 2) := by decide +kernel
theorem dX6_slip_87 : decode cX6_slip 87 = .ok (.lload 6, 2) := by decide +kernel
theorem dX6_slip_89 : decode cX6_slip 89 = .ok (.lstore 10, 2) := by decide +kernel
theorem dX6_slip_91 : decode cX6_slip 91 = .ok (.lload 8, 2) := by decide +kernel
theorem dX6_slip_93 : decode cX6_slip 93 = .ok (.lconst 0, 1) := by decide +kernel
theorem dX6_slip_94 : decode cX6_slip 94 = .ok (.lcmp, 1) := by decide +kernel
theorem dX6_slip_95 : decode cX6_slip 95 = .ok (.ifCond .le 21, 3) := by decide +kernel
theorem dX6_slip_98 : decode cX6_slip 98 = .ok (.lload 10, 2) := by decide +kernel
theorem dX6_slip_100 : decode cX6_slip 100 = .ok (.lload 8, 2) := by decide +kernel
theorem dX6_slip_102 : decode cX6_slip 102 = .ok (.lrem, 1) := by decide +kernel
theorem dX6_slip_103 : decode cX6_slip 103 = .ok (.lstore 12, 2) := by decide +kernel
theorem dX6_slip_105 : decode cX6_slip 105 = .ok (.lload 8, 2) := by decide +kernel
theorem dX6_slip_107 : decode cX6_slip 107 = .ok (.lstore 10, 2) := by decide +kernel
theorem dX6_slip_109 : decode cX6_slip 109 = .ok (.lload 12, 2) := by decide +kernel
theorem dX6_slip_111 : decode cX6_slip 111 = .ok (.lstore 8, 2) := by decide +kernel
theorem dX6_slip_113 : decode cX6_slip 113 = .ok (.goto (-22), 3) := by decide +kernel
theorem dX6_slip_116 : decode cX6_slip 116 = .ok (.iload_n 2, 1) := by decide +kernel
theorem dX6_slip_117 : decode cX6_slip 117 = .ok (.ifCond .ne 11, 3) := by decide +kernel
theorem dX6_slip_120 : decode cX6_slip 120 = .ok (.lload 4, 2) := by decide +kernel
theorem dX6_slip_122 : decode cX6_slip 122 = .ok (.lload 10, 2) := by decide +kernel
theorem dX6_slip_124 : decode cX6_slip 124 = .ok (.ldiv, 1) := by decide +kernel
theorem dX6_slip_125 : decode cX6_slip 125 = .ok (.goto 8, 3) := by decide +kernel
theorem dX6_slip_128 : decode cX6_slip 128 = .ok (.lload 6, 2) := by decide +kernel
theorem dX6_slip_130 : decode cX6_slip 130 = .ok (.lload 10, 2) := by decide +kernel
theorem dX6_slip_132 : decode cX6_slip 132 = .ok (.ldiv, 1) := by decide +kernel
theorem dX6_slip_133 : decode cX6_slip 133 = .ok (.lreturn, 1) := by decide +kernel
theorem dX6_distance_0 : decode cX6_distance 0 = .ok (.aload_n 0, 1) := by decide +kernel
theorem dX6_distance_1 : decode cX6_distance 1 = .ok (.iload_n 1, 1) := by decide +kernel
theorem dX6_distance_2 : decode cX6_distance 2 = .ok (.invokevirtual 44, 3) := by decide +kernel
theorem dX6_distance_5 : decode cX6_distance 5 = .ok (.ifCond .ne 6, 3) := by decide +kernel
theorem dX6_distance_8 : decode cX6_distance 8 = .ok (.bipush (-101), 2) := by decide +kernel
theorem dX6_distance_10 : decode cX6_distance 10 = .ok (.ireturn, 1) := by decide +kernel
theorem dX6_distance_11 : decode cX6_distance 11 = .ok (.iload_n 2, 1) := by decide +kernel
theorem dX6_distance_12 : decode cX6_distance 12 = .ok (.i2l, 1) := by decide +kernel
theorem dX6_distance_13 : decode cX6_distance 13 = .ok (.lconst 0, 1) := by decide +kernel
theorem dX6_distance_14 : decode cX6_distance 14 = .ok (.ldc2_w 50, 3) := by decide +kernel
theorem dX6_distance_17 : decode cX6_distance 17 = .ok (.invokestatic 38, 3) := by decide +kernel
theorem dX6_distance_20 : decode cX6_distance 20 = .ok (.ifCond .ne 6, 3) := by decide +kernel
theorem dX6_distance_23 : decode cX6_distance 23 = .ok (.bipush (-102), 2) := by decide +kernel
theorem dX6_distance_25 : decode cX6_distance 25 = .ok (.ireturn, 1) := by decide +kernel
theorem dX6_distance_26 : decode cX6_distance 26 = .ok (.aload_n 0, 1) := by decide +kernel
theorem dX6_distance_27 : decode cX6_distance 27 = .ok (.getfield 19, 3) := by decide +kernel
theorem dX6_distance_30 : decode cX6_distance 30 = .ok (.iload_n 1, 1) := by decide +kernel
theorem dX6_distance_31 : decode cX6_distance 31 = .ok (.iaload, 1) := by decide +kernel
theorem dX6_distance_32 : decode cX6_distance 32 = .ok (.istore_n 3, 1) := by decide +kernel
theorem dX6_distance_33 : decode cX6_distance 33 = .ok (.aload_n 0, 1) := by decide +kernel
theorem dX6_distance_34 : decode cX6_distance 34 = .ok (.getfield 19, 3) := by decide +kernel
theorem dX6_distance_37 : decode cX6_distance 37 = .ok (.iload_n 1, 1) := by decide +kernel
theorem dX6_distance_38 : decode cX6_distance 38 = .ok (.iload_n 2, 1) := by decide +kernel
theorem dX6_distance_39 : decode cX6_distance 39 = .ok (.iastore, 1) := by decide +kernel
theorem dX6_distance_40 : decode cX6_distance 40 = .ok (.iload_n 3, 1) := by decide +kernel
theorem dX6_distance_41 : decode cX6_distance 41 = .ok (.ireturn, 1) := by decide +kernel
theorem dX6_ruleOf_0 : decode cX6_ruleOf 0 = .ok (.iload_n 1, 1) := by decide +kernel
theorem dX6_ruleOf_1 : decode cX6_ruleOf 1 = .ok (.ifCond .ne 5, 3) := by decide +kernel
theorem dX6_ruleOf_4 : decode cX6_ruleOf 4 = .ok (.iconst 0, 1) := by decide +kernel
theorem dX6_ruleOf_5 : decode cX6_ruleOf 5 = .ok (.ireturn, 1) := by decide +kernel
theorem dX6_ruleOf_6 : decode cX6_ruleOf 6 = .ok (.iconst 3, 1) := by decide +kernel
theorem dX6_ruleOf_7 : decode cX6_ruleOf 7 = .ok (.istore_n 2, 1) := by decide +kernel
theorem dX6_ruleOf_8 : decode cX6_ruleOf 8 = .ok (.iconst 0, 1) := by decide +kernel
theorem dX6_ruleOf_9 : decode cX6_ruleOf 9 = .ok (.istore_n 3, 1) := by decide +kernel
theorem dX6_ruleOf_10 : decode cX6_ruleOf 10 = .ok (.iload_n 3, 1) := by decide +kernel
theorem dX6_ruleOf_11 : decode cX6_ruleOf 11 = .ok (.aload_n 0, 1) := by decide +kernel
theorem dX6_ruleOf_12 : decode cX6_ruleOf 12 = .ok (.getfield 34, 3) := by decide +kernel
theorem dX6_ruleOf_15 : decode cX6_ruleOf 15 = .ok (.if_icmp .ge 39, 3) := by decide +kernel
theorem dX6_ruleOf_18 : decode cX6_ruleOf 18 = .ok (.aload_n 0, 1) := by decide +kernel
theorem dX6_ruleOf_19 : decode cX6_ruleOf 19 = .ok (.iload_n 1, 1) := by decide +kernel
theorem dX6_ruleOf_20 : decode cX6_ruleOf 20 = .ok (.iload_n 3, 1) := by decide +kernel
theorem dX6_ruleOf_21 : decode cX6_ruleOf 21 = .ok (.invokevirtual 55, 3) := by decide +kernel
theorem dX6_ruleOf_24 : decode cX6_ruleOf 24 = .ok (.ifCond .eq 22, 3) := by decide +kernel
theorem dX6_ruleOf_27 : decode cX6_ruleOf 27 = .ok (.aload_n 0, 1) := by decide +kernel
theorem dX6_ruleOf_28 : decode cX6_ruleOf 28 = .ok (.getfield 19, 3) := by decide +kernel
theorem dX6_ruleOf_31 : decode cX6_ruleOf 31 = .ok (.iload_n 3, 1) := by decide +kernel
theorem dX6_ruleOf_32 : decode cX6_ruleOf 32 = .ok (.iaload, 1) := by decide +kernel
theorem dX6_ruleOf_33 : decode cX6_ruleOf 33 = .ok (.iload_n 2, 1) := by decide +kernel
theorem dX6_ruleOf_34 : decode cX6_ruleOf 34 = .ok (.if_icmp .ge 12, 3) := by decide +kernel
theorem dX6_ruleOf_37 : decode cX6_ruleOf 37 = .ok (.aload_n 0, 1) := by decide +kernel
theorem dX6_ruleOf_38 : decode cX6_ruleOf 38 = .ok (.getfield 19, 3) := by decide +kernel
theorem dX6_ruleOf_41 : decode cX6_ruleOf 41 = .ok (.iload_n 3, 1) := by decide +kernel
theorem dX6_ruleOf_42 : decode cX6_ruleOf 42 = .ok (.iaload, 1) := by decide +kernel
theorem dX6_ruleOf_43 : decode cX6_ruleOf 43 = .ok (.goto 4, 3) := by decide +kernel
theorem dX6_ruleOf_46 : decode cX6_ruleOf 46 = .ok (.iload_n 2, 1) := by decide +kernel
theorem dX6_ruleOf_47 : decode cX6_ruleOf 47 = .ok (.istore_n 2, 1) := by decide +kernel
theorem dX6_ruleOf_48 : decode cX6_ruleOf 48 = .ok (.iinc 3 1, 3) := by decide +kernel
theorem dX6_ruleOf_51 : decode cX6_ruleOf 51 = .ok (.goto (-41), 3) := by decide +kernel
theorem dX6_ruleOf_54 : decode cX6_ruleOf 54 = .ok (.iload_n 2, 1) := by decide +kernel
theorem dX6_ruleOf_55 : decode cX6_ruleOf 55 = .ok (.iconst 1, 1) := by decide +kernel
theorem dX6_ruleOf_56 : decode cX6_ruleOf 56 = .ok (.iadd, 1) := by decide +kernel
theorem dX6_ruleOf_57 : decode cX6_ruleOf 57 = .ok (.ireturn, 1) := by decide +kernel
theorem dX6_restlessOf_0 : decode cX6_restlessOf 0 = .ok (.iconst 0, 1) := by decide +kernel
theorem dX6_restlessOf_1 : decode cX6_restlessOf 1 = .ok (.istore_n 1, 1) := by decide +kernel
theorem dX6_restlessOf_2 : decode cX6_restlessOf 2 = .ok (.iconst 0, 1) := by decide +kernel
theorem dX6_restlessOf_3 : decode cX6_restlessOf 3 = .ok (.istore_n 2, 1) := by decide +kernel
theorem dX6_restlessOf_4 : decode cX6_restlessOf 4 = .ok (.iload_n 2, 1) := by decide +kernel
theorem dX6_restlessOf_5 : decode cX6_restlessOf 5 = .ok (.aload_n 0, 1) := by decide +kernel
theorem dX6_restlessOf_6 : decode cX6_restlessOf 6 = .ok (.getfield 34, 3) := by decide +kernel
theorem dX6_restlessOf_9 : decode cX6_restlessOf 9 = .ok (.if_icmp .ge 33, 3) := by decide +kernel
theorem dX6_restlessOf_12 : decode cX6_restlessOf 12 = .ok (.iload_n 1, 1) := by decide +kernel
theorem dX6_restlessOf_13 : decode cX6_restlessOf 13 = .ok (.aload_n 0, 1) := by decide +kernel
theorem dX6_restlessOf_14 : decode cX6_restlessOf 14 = .ok (.iload_n 2, 1) := by decide +kernel
theorem dX6_restlessOf_15 : decode cX6_restlessOf 15 = .ok (.invokevirtual 120, 3) := by decide +kernel
theorem dX6_restlessOf_18 : decode cX6_restlessOf 18 = .ok (.aload_n 0, 1) := by decide +kernel
theorem dX6_restlessOf_19 : decode cX6_restlessOf 19 = .ok (.getfield 19, 3) := by decide +kernel
theorem dX6_restlessOf_22 : decode cX6_restlessOf 22 = .ok (.iload_n 2, 1) := by decide +kernel
theorem dX6_restlessOf_23 : decode cX6_restlessOf 23 = .ok (.iaload, 1) := by decide +kernel
theorem dX6_restlessOf_24 : decode cX6_restlessOf 24 = .ok (.if_icmp .ne 7, 3) := by decide +kernel
theorem dX6_restlessOf_27 : decode cX6_restlessOf 27 = .ok (.iconst 0, 1) := by decide +kernel
theorem dX6_restlessOf_28 : decode cX6_restlessOf 28 = .ok (.goto 6, 3) := by decide +kernel
theorem dX6_restlessOf_31 : decode cX6_restlessOf 31 = .ok (.iconst 1, 1) := by decide +kernel
theorem dX6_restlessOf_32 : decode cX6_restlessOf 32 = .ok (.iload_n 2, 1) := by decide +kernel
theorem dX6_restlessOf_33 : decode cX6_restlessOf 33 = .ok (.ishl, 1) := by decide +kernel
theorem dX6_restlessOf_34 : decode cX6_restlessOf 34 = .ok (.ior, 1) := by decide +kernel
theorem dX6_restlessOf_35 : decode cX6_restlessOf 35 = .ok (.istore_n 1, 1) := by decide +kernel
theorem dX6_restlessOf_36 : decode cX6_restlessOf 36 = .ok (.iinc 2 1, 3) := by decide +kernel
theorem dX6_restlessOf_39 : decode cX6_restlessOf 39 = .ok (.goto (-35), 3) := by decide +kernel
theorem dX6_restlessOf_42 : decode cX6_restlessOf 42 = .ok (.iload_n 1, 1) := by decide +kernel
theorem dX6_restlessOf_43 : decode cX6_restlessOf 43 = .ok (.ireturn, 1) := by decide +kernel
theorem dX6_restless_0 : decode cX6_restless 0 = .ok (.aload_n 0, 1) := by decide +kernel
theorem dX6_restless_1 : decode cX6_restless 1 = .ok (.invokevirtual 123, 3) := by decide +kernel
theorem dX6_restless_4 : decode cX6_restless 4 = .ok (.ireturn, 1) := by decide +kernel
theorem dX6_move_0 : decode cX6_move 0 = .ok (.aload_n 0, 1) := by decide +kernel
theorem dX6_move_1 : decode cX6_move 1 = .ok (.iload_n 1, 1) := by decide +kernel
theorem dX6_move_2 : decode cX6_move 2 = .ok (.invokevirtual 44, 3) := by decide +kernel
theorem dX6_move_5 : decode cX6_move 5 = .ok (.ifCond .ne 6, 3) := by decide +kernel
theorem dX6_move_8 : decode cX6_move 8 = .ok (.bipush (-101), 2) := by decide +kernel
theorem dX6_move_10 : decode cX6_move 10 = .ok (.ireturn, 1) := by decide +kernel
theorem dX6_move_11 : decode cX6_move 11 = .ok (.aload_n 0, 1) := by decide +kernel
theorem dX6_move_12 : decode cX6_move 12 = .ok (.iload_n 1, 1) := by decide +kernel
theorem dX6_move_13 : decode cX6_move 13 = .ok (.invokevirtual 120, 3) := by decide +kernel
theorem dX6_move_16 : decode cX6_move 16 = .ok (.aload_n 0, 1) := by decide +kernel
theorem dX6_move_17 : decode cX6_move 17 = .ok (.getfield 19, 3) := by decide +kernel
theorem dX6_move_20 : decode cX6_move 20 = .ok (.iload_n 1, 1) := by decide +kernel
theorem dX6_move_21 : decode cX6_move 21 = .ok (.iaload, 1) := by decide +kernel
theorem dX6_move_22 : decode cX6_move 22 = .ok (.if_icmp .ne 6, 3) := by decide +kernel
theorem dX6_move_25 : decode cX6_move 25 = .ok (.bipush (-103), 2) := by decide +kernel
theorem dX6_move_27 : decode cX6_move 27 = .ok (.ireturn, 1) := by decide +kernel
theorem dX6_move_28 : decode cX6_move 28 = .ok (.aload_n 0, 1) := by decide +kernel
theorem dX6_move_29 : decode cX6_move 29 = .ok (.getfield 19, 3) := by decide +kernel
theorem dX6_move_32 : decode cX6_move 32 = .ok (.iload_n 1, 1) := by decide +kernel
theorem dX6_move_33 : decode cX6_move 33 = .ok (.aload_n 0, 1) := by decide +kernel
theorem dX6_move_34 : decode cX6_move 34 = .ok (.iload_n 1, 1) := by decide +kernel
theorem dX6_move_35 : decode cX6_move 35 = .ok (.invokevirtual 120, 3) := by decide +kernel
theorem dX6_move_38 : decode cX6_move 38 = .ok (.iastore, 1) := by decide +kernel
theorem dX6_move_39 : decode cX6_move 39 = .ok (.aload_n 0, 1) := by decide +kernel
theorem dX6_move_40 : decode cX6_move 40 = .ok (.getfield 19, 3) := by decide +kernel
theorem dX6_move_43 : decode cX6_move 43 = .ok (.iload_n 1, 1) := by decide +kernel
theorem dX6_move_44 : decode cX6_move 44 = .ok (.iaload, 1) := by decide +kernel
theorem dX6_move_45 : decode cX6_move 45 = .ok (.ireturn, 1) := by decide +kernel
theorem dX6_mend_0 : decode cX6_mend 0 = .ok (.iconst 0, 1) := by decide +kernel
theorem dX6_mend_1 : decode cX6_mend 1 = .ok (.istore_n 1, 1) := by decide +kernel
theorem dX6_mend_2 : decode cX6_mend 2 = .ok (.aload_n 0, 1) := by decide +kernel
theorem dX6_mend_3 : decode cX6_mend 3 = .ok (.invokevirtual 123, 3) := by decide +kernel
theorem dX6_mend_6 : decode cX6_mend 6 = .ok (.istore_n 2, 1) := by decide +kernel
theorem dX6_mend_7 : decode cX6_mend 7 = .ok (.iload_n 2, 1) := by decide +kernel
theorem dX6_mend_8 : decode cX6_mend 8 = .ok (.ifCond .eq 48, 3) := by decide +kernel
theorem dX6_mend_11 : decode cX6_mend 11 = .ok (.iload_n 1, 1) := by decide +kernel
theorem dX6_mend_12 : decode cX6_mend 12 = .ok (.sipush 1000, 3) := by decide +kernel
theorem dX6_mend_15 : decode cX6_mend 15 = .ok (.if_icmp .ge 41, 3) := by decide +kernel
theorem dX6_mend_18 : decode cX6_mend 18 = .ok (.iconst 0, 1) := by decide +kernel
theorem dX6_mend_19 : decode cX6_mend 19 = .ok (.istore_n 3, 1) := by decide +kernel
theorem dX6_mend_20 : decode cX6_mend 20 = .ok (.iload_n 2, 1) := by decide +kernel
theorem dX6_mend_21 : decode cX6_mend 21 = .ok (.iload_n 3, 1) := by decide +kernel
theorem dX6_mend_22 : decode cX6_mend 22 = .ok (.ishr, 1) := by decide +kernel
theorem dX6_mend_23 : decode cX6_mend 23 = .ok (.iconst 1, 1) := by decide +kernel
theorem dX6_mend_24 : decode cX6_mend 24 = .ok (.iand, 1) := by decide +kernel
end
section
theorem dX6_mend_25 : decode cX6_mend 25 = .ok (.ifCond .ne 9, 3) := by decide +kernel
theorem dX6_mend_28 : decode cX6_mend 28 = .ok (.iinc 3 1, 3) := by decide +kernel
theorem dX6_mend_31 : decode cX6_mend 31 = .ok (.goto (-11), 3) := by decide +kernel
theorem dX6_mend_34 : decode cX6_mend 34 = .ok (.aload_n 0, 1) := by decide +kernel
theorem dX6_mend_35 : decode cX6_mend 35 = .ok (.getfield 19, 3) := by decide +kernel
theorem dX6_mend_38 : decode cX6_mend 38 = .ok (.iload_n 3, 1) := by decide +kernel
theorem dX6_mend_39 : decode cX6_mend 39 = .ok (.aload_n 0, 1) := by decide +kernel
theorem dX6_mend_40 : decode cX6_mend 40 = .ok (.iload_n 3, 1) := by decide +kernel
theorem dX6_mend_41 : decode cX6_mend 41 = .ok (.invokevirtual 120, 3) := by decide +kernel
theorem dX6_mend_44 : decode cX6_mend 44 = .ok (.iastore, 1) := by decide +kernel
theorem dX6_mend_45 : decode cX6_mend 45 = .ok (.iinc 1 1, 3) := by decide +kernel
theorem dX6_mend_48 : decode cX6_mend 48 = .ok (.aload_n 0, 1) := by decide +kernel
theorem dX6_mend_49 : decode cX6_mend 49 = .ok (.invokevirtual 123, 3) := by decide +kernel
theorem dX6_mend_52 : decode cX6_mend 52 = .ok (.istore_n 2, 1) := by decide +kernel
theorem dX6_mend_53 : decode cX6_mend 53 = .ok (.goto (-46), 3) := by decide +kernel
theorem dX6_mend_56 : decode cX6_mend 56 = .ok (.iload_n 2, 1) := by decide +kernel
theorem dX6_mend_57 : decode cX6_mend 57 = .ok (.ifCond .ne 7, 3) := by decide +kernel
theorem dX6_mend_60 : decode cX6_mend 60 = .ok (.iload_n 1, 1) := by decide +kernel
theorem dX6_mend_61 : decode cX6_mend 61 = .ok (.goto 4, 3) := by decide +kernel
theorem dX6_mend_64 : decode cX6_mend 64 = .ok (.iconst (-1), 1) := by decide +kernel
theorem dX6_mend_65 : decode cX6_mend 65 = .ok (.ireturn, 1) := by decide +kernel
theorem dX6_stateOf_0 : decode cX6_stateOf 0 = .ok (.iconst 0, 1) := by decide +kernel
theorem dX6_stateOf_1 : decode cX6_stateOf 1 = .ok (.istore_n 1, 1) := by decide +kernel
theorem dX6_stateOf_2 : decode cX6_stateOf 2 = .ok (.iconst 0, 1) := by decide +kernel
theorem dX6_stateOf_3 : decode cX6_stateOf 3 = .ok (.istore_n 2, 1) := by decide +kernel
theorem dX6_stateOf_4 : decode cX6_stateOf 4 = .ok (.iload_n 2, 1) := by decide +kernel
theorem dX6_stateOf_5 : decode cX6_stateOf 5 = .ok (.aload_n 0, 1) := by decide +kernel
theorem dX6_stateOf_6 : decode cX6_stateOf 6 = .ok (.getfield 34, 3) := by decide +kernel
theorem dX6_stateOf_9 : decode cX6_stateOf 9 = .ok (.if_icmp .ge 20, 3) := by decide +kernel
theorem dX6_stateOf_12 : decode cX6_stateOf 12 = .ok (.iconst 5, 1) := by decide +kernel
theorem dX6_stateOf_13 : decode cX6_stateOf 13 = .ok (.iload_n 1, 1) := by decide +kernel
theorem dX6_stateOf_14 : decode cX6_stateOf 14 = .ok (.imul, 1) := by decide +kernel
theorem dX6_stateOf_15 : decode cX6_stateOf 15 = .ok (.aload_n 0, 1) := by decide +kernel
theorem dX6_stateOf_16 : decode cX6_stateOf 16 = .ok (.getfield 19, 3) := by decide +kernel
theorem dX6_stateOf_19 : decode cX6_stateOf 19 = .ok (.iload_n 2, 1) := by decide +kernel
theorem dX6_stateOf_20 : decode cX6_stateOf 20 = .ok (.iaload, 1) := by decide +kernel
theorem dX6_stateOf_21 : decode cX6_stateOf 21 = .ok (.iadd, 1) := by decide +kernel
theorem dX6_stateOf_22 : decode cX6_stateOf 22 = .ok (.istore_n 1, 1) := by decide +kernel
theorem dX6_stateOf_23 : decode cX6_stateOf 23 = .ok (.iinc 2 1, 3) := by decide +kernel
theorem dX6_stateOf_26 : decode cX6_stateOf 26 = .ok (.goto (-22), 3) := by decide +kernel
theorem dX6_stateOf_29 : decode cX6_stateOf 29 = .ok (.iload_n 1, 1) := by decide +kernel
theorem dX6_stateOf_30 : decode cX6_stateOf 30 = .ok (.ireturn, 1) := by decide +kernel
theorem dX6_setState_0 : decode cX6_setState 0 = .ok (.iload_n 1, 1) := by decide +kernel
theorem dX6_setState_1 : decode cX6_setState 1 = .ok (.istore_n 2, 1) := by decide +kernel
theorem dX6_setState_2 : decode cX6_setState 2 = .ok (.aload_n 0, 1) := by decide +kernel
theorem dX6_setState_3 : decode cX6_setState 3 = .ok (.getfield 34, 3) := by decide +kernel
theorem dX6_setState_6 : decode cX6_setState 6 = .ok (.iconst 1, 1) := by decide +kernel
theorem dX6_setState_7 : decode cX6_setState 7 = .ok (.isub, 1) := by decide +kernel
theorem dX6_setState_8 : decode cX6_setState 8 = .ok (.istore_n 3, 1) := by decide +kernel
theorem dX6_setState_9 : decode cX6_setState 9 = .ok (.iload_n 3, 1) := by decide +kernel
theorem dX6_setState_10 : decode cX6_setState 10 = .ok (.ifCond .lt 22, 3) := by decide +kernel
theorem dX6_setState_13 : decode cX6_setState 13 = .ok (.aload_n 0, 1) := by decide +kernel
theorem dX6_setState_14 : decode cX6_setState 14 = .ok (.getfield 19, 3) := by decide +kernel
theorem dX6_setState_17 : decode cX6_setState 17 = .ok (.iload_n 3, 1) := by decide +kernel
theorem dX6_setState_18 : decode cX6_setState 18 = .ok (.iload_n 2, 1) := by decide +kernel
theorem dX6_setState_19 : decode cX6_setState 19 = .ok (.iconst 5, 1) := by decide +kernel
theorem dX6_setState_20 : decode cX6_setState 20 = .ok (.irem, 1) := by decide +kernel
theorem dX6_setState_21 : decode cX6_setState 21 = .ok (.iastore, 1) := by decide +kernel
theorem dX6_setState_22 : decode cX6_setState 22 = .ok (.iload_n 2, 1) := by decide +kernel
theorem dX6_setState_23 : decode cX6_setState 23 = .ok (.iconst 5, 1) := by decide +kernel
theorem dX6_setState_24 : decode cX6_setState 24 = .ok (.idiv, 1) := by decide +kernel
theorem dX6_setState_25 : decode cX6_setState 25 = .ok (.istore_n 2, 1) := by decide +kernel
theorem dX6_setState_26 : decode cX6_setState 26 = .ok (.iinc 3 (-1), 3) := by decide +kernel
theorem dX6_setState_29 : decode cX6_setState 29 = .ok (.goto (-20), 3) := by decide +kernel
theorem dX6_setState_32 : decode cX6_setState 32 = .ok (.return_, 1) := by decide +kernel
theorem dX6_findWay_0 : decode cX6_findWay 0 = .ok (.aload_n 0, 1) := by decide +kernel
theorem dX6_findWay_1 : decode cX6_findWay 1 = .ok (.invokevirtual 126, 3) := by decide +kernel
theorem dX6_findWay_4 : decode cX6_findWay 4 = .ok (.istore_n 2, 1) := by decide +kernel
theorem dX6_findWay_5 : decode cX6_findWay 5 = .ok (.iconst 1, 1) := by decide +kernel
theorem dX6_findWay_6 : decode cX6_findWay 6 = .ok (.istore_n 3, 1) := by decide +kernel
theorem dX6_findWay_7 : decode cX6_findWay 7 = .ok (.iconst 0, 1) := by decide +kernel
theorem dX6_findWay_8 : decode cX6_findWay 8 = .ok (.istore 4, 2) := by decide +kernel
theorem dX6_findWay_10 : decode cX6_findWay 10 = .ok (.iload 4, 2) := by decide +kernel
theorem dX6_findWay_12 : decode cX6_findWay 12 = .ok (.aload_n 0, 1) := by decide +kernel
theorem dX6_findWay_13 : decode cX6_findWay 13 = .ok (.getfield 34, 3) := by decide +kernel
theorem dX6_findWay_16 : decode cX6_findWay 16 = .ok (.if_icmp .ge 13, 3) := by decide +kernel
theorem dX6_findWay_19 : decode cX6_findWay 19 = .ok (.iload_n 3, 1) := by decide +kernel
theorem dX6_findWay_20 : decode cX6_findWay 20 = .ok (.iconst 5, 1) := by decide +kernel
theorem dX6_findWay_21 : decode cX6_findWay 21 = .ok (.imul, 1) := by decide +kernel
theorem dX6_findWay_22 : decode cX6_findWay 22 = .ok (.istore_n 3, 1) := by decide +kernel
theorem dX6_findWay_23 : decode cX6_findWay 23 = .ok (.iinc 4 1, 3) := by decide +kernel
theorem dX6_findWay_26 : decode cX6_findWay 26 = .ok (.goto (-16), 3) := by decide +kernel
theorem dX6_findWay_29 : decode cX6_findWay 29 = .ok (.iconst 0, 1) := by decide +kernel
theorem dX6_findWay_30 : decode cX6_findWay 30 = .ok (.istore 4, 2) := by decide +kernel
theorem dX6_findWay_32 : decode cX6_findWay 32 = .ok (.iload 4, 2) := by decide +kernel
theorem dX6_findWay_34 : decode cX6_findWay 34 = .ok (.iload_n 3, 1) := by decide +kernel
theorem dX6_findWay_35 : decode cX6_findWay 35 = .ok (.if_icmp .ge 34, 3) := by decide +kernel
theorem dX6_findWay_38 : decode cX6_findWay 38 = .ok (.aload_n 0, 1) := by decide +kernel
theorem dX6_findWay_39 : decode cX6_findWay 39 = .ok (.iload 4, 2) := by decide +kernel
theorem dX6_findWay_41 : decode cX6_findWay 41 = .ok (.invokevirtual 129, 3) := by decide +kernel
theorem dX6_findWay_44 : decode cX6_findWay 44 = .ok (.aload_n 0, 1) := by decide +kernel
theorem dX6_findWay_45 : decode cX6_findWay 45 = .ok (.getfield 31, 3) := by decide +kernel
theorem dX6_findWay_48 : decode cX6_findWay 48 = .ok (.iload 4, 2) := by decide +kernel
theorem dX6_findWay_50 : decode cX6_findWay 50 = .ok (.aload_n 0, 1) := by decide +kernel
theorem dX6_findWay_51 : decode cX6_findWay 51 = .ok (.invokevirtual 123, 3) := by decide +kernel
theorem dX6_findWay_54 : decode cX6_findWay 54 = .ok (.ifCond .ne 7, 3) := by decide +kernel
theorem dX6_findWay_57 : decode cX6_findWay 57 = .ok (.iconst 0, 1) := by decide +kernel
theorem dX6_findWay_58 : decode cX6_findWay 58 = .ok (.goto 4, 3) := by decide +kernel
theorem dX6_findWay_61 : decode cX6_findWay 61 = .ok (.iconst (-1), 1) := by decide +kernel
theorem dX6_findWay_62 : decode cX6_findWay 62 = .ok (.iastore, 1) := by decide +kernel
theorem dX6_findWay_63 : decode cX6_findWay 63 = .ok (.iinc 4 1, 3) := by decide +kernel
theorem dX6_findWay_66 : decode cX6_findWay 66 = .ok (.goto (-34), 3) := by decide +kernel
theorem dX6_findWay_69 : decode cX6_findWay 69 = .ok (.iconst 1, 1) := by decide +kernel
theorem dX6_findWay_70 : decode cX6_findWay 70 = .ok (.istore 4, 2) := by decide +kernel
theorem dX6_findWay_72 : decode cX6_findWay 72 = .ok (.iload 4, 2) := by decide +kernel
theorem dX6_findWay_74 : decode cX6_findWay 74 = .ok (.ifCond .eq 76, 3) := by decide +kernel
theorem dX6_findWay_77 : decode cX6_findWay 77 = .ok (.iconst 0, 1) := by decide +kernel
theorem dX6_findWay_78 : decode cX6_findWay 78 = .ok (.istore 4, 2) := by decide +kernel
theorem dX6_findWay_80 : decode cX6_findWay 80 = .ok (.iconst 0, 1) := by decide +kernel
theorem dX6_findWay_81 : decode cX6_findWay 81 = .ok (.istore 5, 2) := by decide +kernel
theorem dX6_findWay_83 : decode cX6_findWay 83 = .ok (.iload 5, 2) := by decide +kernel
theorem dX6_findWay_85 : decode cX6_findWay 85 = .ok (.iload_n 3, 1) := by decide +kernel
theorem dX6_findWay_86 : decode cX6_findWay 86 = .ok (.if_icmp .ge 61, 3) := by decide +kernel
theorem dX6_findWay_89 : decode cX6_findWay 89 = .ok (.aload_n 0, 1) := by decide +kernel
theorem dX6_findWay_90 : decode cX6_findWay 90 = .ok (.getfield 31, 3) := by decide +kernel
theorem dX6_findWay_93 : decode cX6_findWay 93 = .ok (.iload 5, 2) := by decide +kernel
theorem dX6_findWay_95 : decode cX6_findWay 95 = .ok (.iaload, 1) := by decide +kernel
theorem dX6_findWay_96 : decode cX6_findWay 96 = .ok (.ifCond .eq 45, 3) := by decide +kernel
theorem dX6_findWay_99 : decode cX6_findWay 99 = .ok (.aload_n 0, 1) := by decide +kernel
theorem dX6_findWay_100 : decode cX6_findWay 100 = .ok (.iload 5, 2) := by decide +kernel
theorem dX6_findWay_102 : decode cX6_findWay 102 = .ok (.iload_n 1, 1) := by decide +kernel
theorem dX6_findWay_103 : decode cX6_findWay 103 = .ok (.invokevirtual 132, 3) := by decide +kernel
theorem dX6_findWay_106 : decode cX6_findWay 106 = .ok (.istore 6, 2) := by decide +kernel
theorem dX6_findWay_108 : decode cX6_findWay 108 = .ok (.iload 4, 2) := by decide +kernel
theorem dX6_findWay_110 : decode cX6_findWay 110 = .ok (.ifCond .ne 15, 3) := by decide +kernel
theorem dX6_findWay_113 : decode cX6_findWay 113 = .ok (.iload 6, 2) := by decide +kernel
theorem dX6_findWay_115 : decode cX6_findWay 115 = .ok (.aload_n 0, 1) := by decide +kernel
theorem dX6_findWay_116 : decode cX6_findWay 116 = .ok (.getfield 31, 3) := by decide +kernel
theorem dX6_findWay_119 : decode cX6_findWay 119 = .ok (.iload 5, 2) := by decide +kernel
theorem dX6_findWay_121 : decode cX6_findWay 121 = .ok (.iaload, 1) := by decide +kernel
theorem dX6_findWay_122 : decode cX6_findWay 122 = .ok (.if_icmp .eq 7, 3) := by decide +kernel
theorem dX6_findWay_125 : decode cX6_findWay 125 = .ok (.iconst 1, 1) := by decide +kernel
theorem dX6_findWay_126 : decode cX6_findWay 126 = .ok (.goto 4, 3) := by decide +kernel
theorem dX6_findWay_129 : decode cX6_findWay 129 = .ok (.iconst 0, 1) := by decide +kernel
theorem dX6_findWay_130 : decode cX6_findWay 130 = .ok (.istore 4, 2) := by decide +kernel
theorem dX6_findWay_132 : decode cX6_findWay 132 = .ok (.aload_n 0, 1) := by decide +kernel
theorem dX6_findWay_133 : decode cX6_findWay 133 = .ok (.getfield 31, 3) := by decide +kernel
theorem dX6_findWay_136 : decode cX6_findWay 136 = .ok (.iload 5, 2) := by decide +kernel
theorem dX6_findWay_138 : decode cX6_findWay 138 = .ok (.iload 6, 2) := by decide +kernel
theorem dX6_findWay_140 : decode cX6_findWay 140 = .ok (.iastore, 1) := by decide +kernel
theorem dX6_findWay_141 : decode cX6_findWay 141 = .ok (.iinc 5 1, 3) := by decide +kernel
theorem dX6_findWay_144 : decode cX6_findWay 144 = .ok (.goto (-61), 3) := by decide +kernel
theorem dX6_findWay_147 : decode cX6_findWay 147 = .ok (.goto (-75), 3) := by decide +kernel
theorem dX6_findWay_150 : decode cX6_findWay 150 = .ok (.aload_n 0, 1) := by decide +kernel
theorem dX6_findWay_151 : decode cX6_findWay 151 = .ok (.iload_n 2, 1) := by decide +kernel
theorem dX6_findWay_152 : decode cX6_findWay 152 = .ok (.invokevirtual 129, 3) := by decide +kernel
theorem dX6_findWay_155 : decode cX6_findWay 155 = .ok (.aload_n 0, 1) := by decide +kernel
theorem dX6_findWay_156 : decode cX6_findWay 156 = .ok (.getfield 31, 3) := by decide +kernel
theorem dX6_findWay_159 : decode cX6_findWay 159 = .ok (.iload_n 2, 1) := by decide +kernel
theorem dX6_findWay_160 : decode cX6_findWay 160 = .ok (.iaload, 1) := by decide +kernel
theorem dX6_findWay_161 : decode cX6_findWay 161 = .ok (.ireturn, 1) := by decide +kernel
theorem dX6_step_0 : decode cX6_step 0 = .ok (.aload_n 0, 1) := by decide +kernel
theorem dX6_step_1 : decode cX6_step 1 = .ok (.iload_n 1, 1) := by decide +kernel
theorem dX6_step_2 : decode cX6_step 2 = .ok (.invokevirtual 129, 3) := by decide +kernel
theorem dX6_step_5 : decode cX6_step 5 = .ok (.aload_n 0, 1) := by decide +kernel
theorem dX6_step_6 : decode cX6_step 6 = .ok (.invokevirtual 123, 3) := by decide +kernel
theorem dX6_step_9 : decode cX6_step 9 = .ok (.istore_n 3, 1) := by decide +kernel
theorem dX6_step_10 : decode cX6_step 10 = .ok (.iconst (-1), 1) := by decide +kernel
theorem dX6_step_11 : decode cX6_step 11 = .ok (.istore 4, 2) := by decide +kernel
theorem dX6_step_13 : decode cX6_step 13 = .ok (.iconst 0, 1) := by decide +kernel
theorem dX6_step_14 : decode cX6_step 14 = .ok (.istore 5, 2) := by decide +kernel
theorem dX6_step_16 : decode cX6_step 16 = .ok (.iload 5, 2) := by decide +kernel
theorem dX6_step_18 : decode cX6_step 18 = .ok (.aload_n 0, 1) := by decide +kernel
theorem dX6_step_19 : decode cX6_step 19 = .ok (.getfield 34, 3) := by decide +kernel
theorem dX6_step_22 : decode cX6_step 22 = .ok (.if_icmp .ge 97, 3) := by decide +kernel
theorem dX6_step_25 : decode cX6_step 25 = .ok (.iload_n 3, 1) := by decide +kernel
theorem dX6_step_26 : decode cX6_step 26 = .ok (.iload 5, 2) := by decide +kernel
theorem dX6_step_28 : decode cX6_step 28 = .ok (.ishr, 1) := by decide +kernel
theorem dX6_step_29 : decode cX6_step 29 = .ok (.iconst 1, 1) := by decide +kernel
theorem dX6_step_30 : decode cX6_step 30 = .ok (.iand, 1) := by decide +kernel
theorem dX6_step_31 : decode cX6_step 31 = .ok (.iconst 1, 1) := by decide +kernel
theorem dX6_step_32 : decode cX6_step 32 = .ok (.if_icmp .ne 81, 3) := by decide +kernel
theorem dX6_step_35 : decode cX6_step 35 = .ok (.aload_n 0, 1) := by decide +kernel
theorem dX6_step_36 : decode cX6_step 36 = .ok (.iload_n 1, 1) := by decide +kernel
theorem dX6_step_37 : decode cX6_step 37 = .ok (.invokevirtual 129, 3) := by decide +kernel
theorem dX6_step_40 : decode cX6_step 40 = .ok (.aload_n 0, 1) := by decide +kernel
theorem dX6_step_41 : decode cX6_step 41 = .ok (.getfield 19, 3) := by decide +kernel
theorem dX6_step_44 : decode cX6_step 44 = .ok (.iload 5, 2) := by decide +kernel
theorem dX6_step_46 : decode cX6_step 46 = .ok (.aload_n 0, 1) := by decide +kernel
theorem dX6_step_47 : decode cX6_step 47 = .ok (.iload 5, 2) := by decide +kernel
theorem dX6_step_49 : decode cX6_step 49 = .ok (.invokevirtual 120, 3) := by decide +kernel
theorem dX6_step_52 : decode cX6_step 52 = .ok (.iastore, 1) := by decide +kernel
theorem dX6_step_53 : decode cX6_step 53 = .ok (.aload_n 0, 1) := by decide +kernel
theorem dX6_step_54 : decode cX6_step 54 = .ok (.getfield 31, 3) := by decide +kernel
theorem dX6_step_57 : decode cX6_step 57 = .ok (.aload_n 0, 1) := by decide +kernel
theorem dX6_step_58 : decode cX6_step 58 = .ok (.invokevirtual 126, 3) := by decide +kernel
theorem dX6_step_61 : decode cX6_step 61 = .ok (.iaload, 1) := by decide +kernel
theorem dX6_step_62 : decode cX6_step 62 = .ok (.istore 6, 2) := by decide +kernel
theorem dX6_step_64 : decode cX6_step 64 = .ok (.iload 6, 2) := by decide +kernel
theorem dX6_step_66 : decode cX6_step 66 = .ok (.iconst (-1), 1) := by decide +kernel
theorem dX6_step_67 : decode cX6_step 67 = .ok (.if_icmp .ne 9, 3) := by decide +kernel
theorem dX6_step_70 : decode cX6_step 70 = .ok (.iload_n 2, 1) := by decide +kernel
theorem dX6_step_71 : decode cX6_step 71 = .ok (.ifCond .eq 42, 3) := by decide +kernel
theorem dX6_step_74 : decode cX6_step 74 = .ok (.iconst (-1), 1) := by decide +kernel
theorem dX6_step_75 : decode cX6_step 75 = .ok (.ireturn, 1) := by decide +kernel
theorem dX6_step_76 : decode cX6_step 76 = .ok (.iload 4, 2) := by decide +kernel
theorem dX6_step_78 : decode cX6_step 78 = .ok (.iconst (-1), 1) := by decide +kernel
theorem dX6_step_79 : decode cX6_step 79 = .ok (.if_icmp .eq 28, 3) := by decide +kernel
theorem dX6_step_82 : decode cX6_step 82 = .ok (.iload_n 2, 1) := by decide +kernel
theorem dX6_step_83 : decode cX6_step 83 = .ok (.ifCond .eq 15, 3) := by decide +kernel
theorem dX6_step_86 : decode cX6_step 86 = .ok (.iload 6, 2) := by decide +kernel
theorem dX6_step_88 : decode cX6_step 88 = .ok (.iconst 1, 1) := by decide +kernel
theorem dX6_step_89 : decode cX6_step 89 = .ok (.iadd, 1) := by decide +kernel
theorem dX6_step_90 : decode cX6_step 90 = .ok (.iload 4, 2) := by decide +kernel
theorem dX6_step_92 : decode cX6_step 92 = .ok (.if_icmp .le 21, 3) := by decide +kernel
theorem dX6_step_95 : decode cX6_step 95 = .ok (.goto 12, 3) := by decide +kernel
theorem dX6_step_98 : decode cX6_step 98 = .ok (.iload 6, 2) := by decide +kernel
theorem dX6_step_100 : decode cX6_step 100 = .ok (.iconst 1, 1) := by decide +kernel
theorem dX6_step_101 : decode cX6_step 101 = .ok (.iadd, 1) := by decide +kernel
theorem dX6_step_102 : decode cX6_step 102 = .ok (.iload 4, 2) := by decide +kernel
theorem dX6_step_104 : decode cX6_step 104 = .ok (.if_icmp .ge 9, 3) := by decide +kernel
theorem dX6_step_107 : decode cX6_step 107 = .ok (.iload 6, 2) := by decide +kernel
theorem dX6_step_109 : decode cX6_step 109 = .ok (.iconst 1, 1) := by decide +kernel
theorem dX6_step_110 : decode cX6_step 110 = .ok (.iadd, 1) := by decide +kernel
theorem dX6_step_111 : decode cX6_step 111 = .ok (.istore 4, 2) := by decide +kernel
theorem dX6_step_113 : decode cX6_step 113 = .ok (.iinc 5 1, 3) := by decide +kernel
theorem dX6_step_116 : decode cX6_step 116 = .ok (.goto (-100), 3) := by decide +kernel
theorem dX6_step_119 : decode cX6_step 119 = .ok (.iload 4, 2) := by decide +kernel
theorem dX6_step_121 : decode cX6_step 121 = .ok (.ireturn, 1) := by decide +kernel
theorem dX6_longest_0 : decode cX6_longest 0 = .ok (.aload_n 0, 1) := by decide +kernel
theorem dX6_longest_1 : decode cX6_longest 1 = .ok (.getfield 34, 3) := by decide +kernel
theorem dX6_longest_4 : decode cX6_longest 4 = .ok (.iconst 5, 1) := by decide +kernel
theorem dX6_longest_5 : decode cX6_longest 5 = .ok (.if_icmp .gt 12, 3) := by decide +kernel
theorem dX6_longest_8 : decode cX6_longest 8 = .ok (.aload_n 0, 1) := by decide +kernel
theorem dX6_longest_9 : decode cX6_longest 9 = .ok (.getfield 136, 3) := by decide +kernel
theorem dX6_longest_12 : decode cX6_longest 12 = .ok (.bipush 20, 2) := by decide +kernel
theorem dX6_longest_14 : decode cX6_longest 14 = .ok (.if_icmp .ne 6, 3) := by decide +kernel
theorem dX6_longest_17 : decode cX6_longest 17 = .ok (.bipush (-103), 2) := by decide +kernel
theorem dX6_longest_19 : decode cX6_longest 19 = .ok (.ireturn, 1) := by decide +kernel
theorem dX6_longest_20 : decode cX6_longest 20 = .ok (.aload_n 0, 1) := by decide +kernel
theorem dX6_longest_21 : decode cX6_longest 21 = .ok (.dup, 1) := by decide +kernel
theorem dX6_longest_22 : decode cX6_longest 22 = .ok (.getfield 136, 3) := by decide +kernel
theorem dX6_longest_25 : decode cX6_longest 25 = .ok (.iconst 1, 1) := by decide +kernel
theorem dX6_longest_26 : decode cX6_longest 26 = .ok (.iadd, 1) := by decide +kernel
theorem dX6_longest_27 : decode cX6_longest 27 = .ok (.putfield 136, 3) := by decide +kernel
theorem dX6_longest_30 : decode cX6_longest 30 = .ok (.aload_n 0, 1) := by decide +kernel
theorem dX6_longest_31 : decode cX6_longest 31 = .ok (.iconst 1, 1) := by decide +kernel
theorem dX6_longest_32 : decode cX6_longest 32 = .ok (.invokevirtual 139, 3) := by decide +kernel
theorem dX6_longest_35 : decode cX6_longest 35 = .ok (.ireturn, 1) := by decide +kernel
theorem dX6_shortest_0 : decode cX6_shortest 0 = .ok (.aload_n 0, 1) := by decide +kernel
theorem dX6_shortest_1 : decode cX6_shortest 1 = .ok (.getfield 34, 3) := by decide +kernel
theorem dX6_shortest_4 : decode cX6_shortest 4 = .ok (.iconst 5, 1) := by decide +kernel
theorem dX6_shortest_5 : decode cX6_shortest 5 = .ok (.if_icmp .gt 12, 3) := by decide +kernel
theorem dX6_shortest_8 : decode cX6_shortest 8 = .ok (.aload_n 0, 1) := by decide +kernel
theorem dX6_shortest_9 : decode cX6_shortest 9 = .ok (.getfield 136, 3) := by decide +kernel
theorem dX6_shortest_12 : decode cX6_shortest 12 = .ok (.bipush 20, 2) := by decide +kernel
theorem dX6_shortest_14 : decode cX6_shortest 14 = .ok (.if_icmp .ne 6, 3) := by decide +kernel
theorem dX6_shortest_17 : decode cX6_shortest 17 = .ok (.bipush (-103), 2) := by decide +kernel
theorem dX6_shortest_19 : decode cX6_shortest 19 = .ok (.ireturn, 1) := by decide +kernel
theorem dX6_shortest_20 : decode cX6_shortest 20 = .ok (.aload_n 0, 1) := by decide +kernel
theorem dX6_shortest_21 : decode cX6_shortest 21 = .ok (.dup, 1) := by decide +kernel
theorem dX6_shortest_22 : decode cX6_shortest 22 = .ok (.getfield 136, 3) := by decide +kernel
theorem dX6_shortest_25 : decode cX6_shortest 25 = .ok (.iconst 1, 1) := by decide +kernel
theorem dX6_shortest_26 : decode cX6_shortest 26 = .ok (.iadd, 1) := by decide +kernel
theorem dX6_shortest_27 : decode cX6_shortest 27 = .ok (.putfield 136, 3) := by decide +kernel
theorem dX6_shortest_30 : decode cX6_shortest 30 = .ok (.aload_n 0, 1) := by decide +kernel
theorem dX6_shortest_31 : decode cX6_shortest 31 = .ok (.iconst 0, 1) := by decide +kernel
theorem dX6_shortest_32 : decode cX6_shortest 32 = .ok (.invokevirtual 139, 3) := by decide +kernel
theorem dX6_shortest_35 : decode cX6_shortest 35 = .ok (.ireturn, 1) := by decide +kernel
theorem dX6_count_0 : decode cX6_count 0 = .ok (.iload_n 1, 1) := by decide +kernel
theorem dX6_count_1 : decode cX6_count 1 = .ok (.tableswitch 102 0 5 #[39, 44, 49, 54, 92, 97], 39) := by decide +kernel
theorem dX6_count_40 : decode cX6_count 40 = .ok (.aload_n 0, 1) := by decide +kernel
theorem dX6_count_41 : decode cX6_count 41 = .ok (.getfield 34, 3) := by decide +kernel
theorem dX6_count_44 : decode cX6_count 44 = .ok (.ireturn, 1) := by decide +kernel
theorem dX6_count_45 : decode cX6_count 45 = .ok (.aload_n 0, 1) := by decide +kernel
theorem dX6_count_46 : decode cX6_count 46 = .ok (.invokevirtual 70, 3) := by decide +kernel
theorem dX6_count_49 : decode cX6_count 49 = .ok (.ireturn, 1) := by decide +kernel
theorem dX6_count_50 : decode cX6_count 50 = .ok (.aload_n 0, 1) := by decide +kernel
theorem dX6_count_51 : decode cX6_count 51 = .ok (.getfield 52, 3) := by decide +kernel
theorem dX6_count_54 : decode cX6_count 54 = .ok (.ireturn, 1) := by decide +kernel
theorem dX6_count_55 : decode cX6_count 55 = .ok (.iconst 0, 1) := by decide +kernel
theorem dX6_count_56 : decode cX6_count 56 = .ok (.istore_n 2, 1) := by decide +kernel
theorem dX6_count_57 : decode cX6_count 57 = .ok (.iconst 0, 1) := by decide +kernel
theorem dX6_count_58 : decode cX6_count 58 = .ok (.istore_n 3, 1) := by decide +kernel
theorem dX6_count_59 : decode cX6_count 59 = .ok (.iload_n 3, 1) := by decide +kernel
theorem dX6_count_60 : decode cX6_count 60 = .ok (.aload_n 0, 1) := by decide +kernel
theorem dX6_count_61 : decode cX6_count 61 = .ok (.getfield 34, 3) := by decide +kernel
theorem dX6_count_64 : decode cX6_count 64 = .ok (.if_icmp .ge 27, 3) := by decide +kernel
theorem dX6_count_67 : decode cX6_count 67 = .ok (.iload_n 2, 1) := by decide +kernel
theorem dX6_count_68 : decode cX6_count 68 = .ok (.aload_n 0, 1) := by decide +kernel
theorem dX6_count_69 : decode cX6_count 69 = .ok (.getfield 13, 3) := by decide +kernel
theorem dX6_count_72 : decode cX6_count 72 = .ok (.iload_n 3, 1) := by decide +kernel
theorem dX6_count_73 : decode cX6_count 73 = .ok (.iaload, 1) := by decide +kernel
theorem dX6_count_74 : decode cX6_count 74 = .ok (.iconst 1, 1) := by decide +kernel
theorem dX6_count_75 : decode cX6_count 75 = .ok (.if_icmp .ne 7, 3) := by decide +kernel
theorem dX6_count_78 : decode cX6_count 78 = .ok (.iconst 1, 1) := by decide +kernel
theorem dX6_count_79 : decode cX6_count 79 = .ok (.goto 4, 3) := by decide +kernel
theorem dX6_count_82 : decode cX6_count 82 = .ok (.iconst 0, 1) := by decide +kernel
theorem dX6_count_83 : decode cX6_count 83 = .ok (.iadd, 1) := by decide +kernel
theorem dX6_count_84 : decode cX6_count 84 = .ok (.istore_n 2, 1) := by decide +kernel
theorem dX6_count_85 : decode cX6_count 85 = .ok (.iinc 3 1, 3) := by decide +kernel
theorem dX6_count_88 : decode cX6_count 88 = .ok (.goto (-29), 3) := by decide +kernel
theorem dX6_count_91 : decode cX6_count 91 = .ok (.iload_n 2, 1) := by decide +kernel
theorem dX6_count_92 : decode cX6_count 92 = .ok (.ireturn, 1) := by decide +kernel
theorem dX6_count_93 : decode cX6_count 93 = .ok (.aload_n 0, 1) := by decide +kernel
theorem dX6_count_94 : decode cX6_count 94 = .ok (.getfield 103, 3) := by decide +kernel
theorem dX6_count_97 : decode cX6_count 97 = .ok (.ireturn, 1) := by decide +kernel
theorem dX6_count_98 : decode cX6_count 98 = .ok (.aload_n 0, 1) := by decide +kernel
theorem dX6_count_99 : decode cX6_count 99 = .ok (.getfield 136, 3) := by decide +kernel
theorem dX6_count_102 : decode cX6_count 102 = .ok (.ireturn, 1) := by decide +kernel
theorem dX6_count_103 : decode cX6_count 103 = .ok (.bipush (-102), 2) := by decide +kernel
theorem dX6_count_105 : decode cX6_count 105 = .ok (.ireturn, 1) := by decide +kernel
theorem dX6_digest_0 : decode cX6_digest 0 = .ok (.ldc2_w 143, 3) := by decide +kernel
theorem dX6_digest_3 : decode cX6_digest 3 = .ok (.lstore_n 1, 1) := by decide +kernel
theorem dX6_digest_4 : decode cX6_digest 4 = .ok (.ldc2_w 145, 3) := by decide +kernel
theorem dX6_digest_7 : decode cX6_digest 7 = .ok (.lload_n 1, 1) := by decide +kernel
theorem dX6_digest_8 : decode cX6_digest 8 = .ok (.lmul, 1) := by decide +kernel
theorem dX6_digest_9 : decode cX6_digest 9 = .ok (.aload_n 0, 1) := by decide +kernel
theorem dX6_digest_10 : decode cX6_digest 10 = .ok (.getfield 34, 3) := by decide +kernel
theorem dX6_digest_13 : decode cX6_digest 13 = .ok (.i2l, 1) := by decide +kernel
theorem dX6_digest_14 : decode cX6_digest 14 = .ok (.ladd, 1) := by decide +kernel
theorem dX6_digest_15 : decode cX6_digest 15 = .ok (.lstore_n 1, 1) := by decide +kernel
theorem dX6_digest_16 : decode cX6_digest 16 = .ok (.iconst 0, 1) := by decide +kernel
theorem dX6_digest_17 : decode cX6_digest 17 = .ok (.istore_n 3, 1) := by decide +kernel
theorem dX6_digest_18 : decode cX6_digest 18 = .ok (.iload_n 3, 1) := by decide +kernel
theorem dX6_digest_19 : decode cX6_digest 19 = .ok (.aload_n 0, 1) := by decide +kernel
theorem dX6_digest_20 : decode cX6_digest 20 = .ok (.getfield 34, 3) := by decide +kernel
theorem dX6_digest_23 : decode cX6_digest 23 = .ok (.if_icmp .ge 94, 3) := by decide +kernel
theorem dX6_digest_26 : decode cX6_digest 26 = .ok (.ldc2_w 145, 3) := by decide +kernel
theorem dX6_digest_29 : decode cX6_digest 29 = .ok (.lload_n 1, 1) := by decide +kernel
theorem dX6_digest_30 : decode cX6_digest 30 = .ok (.lmul, 1) := by decide +kernel
theorem dX6_digest_31 : decode cX6_digest 31 = .ok (.aload_n 0, 1) := by decide +kernel
theorem dX6_digest_32 : decode cX6_digest 32 = .ok (.getfield 13, 3) := by decide +kernel
theorem dX6_digest_35 : decode cX6_digest 35 = .ok (.iload_n 3, 1) := by decide +kernel
theorem dX6_digest_36 : decode cX6_digest 36 = .ok (.iaload, 1) := by decide +kernel
theorem dX6_digest_37 : decode cX6_digest 37 = .ok (.i2l, 1) := by decide +kernel
theorem dX6_digest_38 : decode cX6_digest 38 = .ok (.ladd, 1) := by decide +kernel
theorem dX6_digest_39 : decode cX6_digest 39 = .ok (.lstore_n 1, 1) := by decide +kernel
theorem dX6_digest_40 : decode cX6_digest 40 = .ok (.ldc2_w 145, 3) := by decide +kernel
theorem dX6_digest_43 : decode cX6_digest 43 = .ok (.lload_n 1, 1) := by decide +kernel
theorem dX6_digest_44 : decode cX6_digest 44 = .ok (.lmul, 1) := by decide +kernel
theorem dX6_digest_45 : decode cX6_digest 45 = .ok (.aload_n 0, 1) := by decide +kernel
theorem dX6_digest_46 : decode cX6_digest 46 = .ok (.getfield 16, 3) := by decide +kernel
theorem dX6_digest_49 : decode cX6_digest 49 = .ok (.iload_n 3, 1) := by decide +kernel
theorem dX6_digest_50 : decode cX6_digest 50 = .ok (.iaload, 1) := by decide +kernel
theorem dX6_digest_51 : decode cX6_digest 51 = .ok (.i2l, 1) := by decide +kernel
theorem dX6_digest_52 : decode cX6_digest 52 = .ok (.ladd, 1) := by decide +kernel
theorem dX6_digest_53 : decode cX6_digest 53 = .ok (.lstore_n 1, 1) := by decide +kernel
theorem dX6_digest_54 : decode cX6_digest 54 = .ok (.ldc2_w 145, 3) := by decide +kernel
theorem dX6_digest_57 : decode cX6_digest 57 = .ok (.lload_n 1, 1) := by decide +kernel
theorem dX6_digest_58 : decode cX6_digest 58 = .ok (.lmul, 1) := by decide +kernel
theorem dX6_digest_59 : decode cX6_digest 59 = .ok (.aload_n 0, 1) := by decide +kernel
theorem dX6_digest_60 : decode cX6_digest 60 = .ok (.getfield 19, 3) := by decide +kernel
theorem dX6_digest_63 : decode cX6_digest 63 = .ok (.iload_n 3, 1) := by decide +kernel
theorem dX6_digest_64 : decode cX6_digest 64 = .ok (.iaload, 1) := by decide +kernel
theorem dX6_digest_65 : decode cX6_digest 65 = .ok (.i2l, 1) := by decide +kernel
theorem dX6_digest_66 : decode cX6_digest 66 = .ok (.ladd, 1) := by decide +kernel
theorem dX6_digest_67 : decode cX6_digest 67 = .ok (.lstore_n 1, 1) := by decide +kernel
theorem dX6_digest_68 : decode cX6_digest 68 = .ok (.iload_n 3, 1) := by decide +kernel
theorem dX6_digest_69 : decode cX6_digest 69 = .ok (.iconst 1, 1) := by decide +kernel
theorem dX6_digest_70 : decode cX6_digest 70 = .ok (.iadd, 1) := by decide +kernel
theorem dX6_digest_71 : decode cX6_digest 71 = .ok (.istore 4, 2) := by decide +kernel
theorem dX6_digest_73 : decode cX6_digest 73 = .ok (.iload 4, 2) := by decide +kernel
theorem dX6_digest_75 : decode cX6_digest 75 = .ok (.aload_n 0, 1) := by decide +kernel
theorem dX6_digest_76 : decode cX6_digest 76 = .ok (.getfield 34, 3) := by decide +kernel
theorem dX6_digest_79 : decode cX6_digest 79 = .ok (.if_icmp .ge 32, 3) := by decide +kernel
theorem dX6_digest_82 : decode cX6_digest 82 = .ok (.ldc2_w 145, 3) := by decide +kernel
theorem dX6_digest_85 : decode cX6_digest 85 = .ok (.lload_n 1, 1) := by decide +kernel
theorem dX6_digest_86 : decode cX6_digest 86 = .ok (.lmul, 1) := by decide +kernel
theorem dX6_digest_87 : decode cX6_digest 87 = .ok (.aload_n 0, 1) := by decide +kernel
theorem dX6_digest_88 : decode cX6_digest 88 = .ok (.iload_n 3, 1) := by decide +kernel
theorem dX6_digest_89 : decode cX6_digest 89 = .ok (.iload 4, 2) := by decide +kernel
theorem dX6_digest_91 : decode cX6_digest 91 = .ok (.invokevirtual 55, 3) := by decide +kernel
theorem dX6_digest_94 : decode cX6_digest 94 = .ok (.ifCond .eq 7, 3) := by decide +kernel
theorem dX6_digest_97 : decode cX6_digest 97 = .ok (.iconst 1, 1) := by decide +kernel
theorem dX6_digest_98 : decode cX6_digest 98 = .ok (.goto 4, 3) := by decide +kernel
theorem dX6_digest_101 : decode cX6_digest 101 = .ok (.iconst 0, 1) := by decide +kernel
theorem dX6_digest_102 : decode cX6_digest 102 = .ok (.i2l, 1) := by decide +kernel
theorem dX6_digest_103 : decode cX6_digest 103 = .ok (.ladd, 1) := by decide +kernel
theorem dX6_digest_104 : decode cX6_digest 104 = .ok (.lstore_n 1, 1) := by decide +kernel
theorem dX6_digest_105 : decode cX6_digest 105 = .ok (.iinc 4 1, 3) := by decide +kernel
theorem dX6_digest_108 : decode cX6_digest 108 = .ok (.goto (-35), 3) := by decide +kernel
theorem dX6_digest_111 : decode cX6_digest 111 = .ok (.iinc 3 1, 3) := by decide +kernel
theorem dX6_digest_114 : decode cX6_digest 114 = .ok (.goto (-96), 3) := by decide +kernel
theorem dX6_digest_117 : decode cX6_digest 117 = .ok (.ldc2_w 145, 3) := by decide +kernel
theorem dX6_digest_120 : decode cX6_digest 120 = .ok (.lload_n 1, 1) := by decide +kernel
theorem dX6_digest_121 : decode cX6_digest 121 = .ok (.lmul, 1) := by decide +kernel
theorem dX6_digest_122 : decode cX6_digest 122 = .ok (.aload_n 0, 1) := by decide +kernel
theorem dX6_digest_123 : decode cX6_digest 123 = .ok (.getfield 52, 3) := by decide +kernel
theorem dX6_digest_126 : decode cX6_digest 126 = .ok (.i2l, 1) := by decide +kernel
theorem dX6_digest_127 : decode cX6_digest 127 = .ok (.ladd, 1) := by decide +kernel
theorem dX6_digest_128 : decode cX6_digest 128 = .ok (.lstore_n 1, 1) := by decide +kernel
theorem dX6_digest_129 : decode cX6_digest 129 = .ok (.ldc2_w 145, 3) := by decide +kernel
theorem dX6_digest_132 : decode cX6_digest 132 = .ok (.lload_n 1, 1) := by decide +kernel
theorem dX6_digest_133 : decode cX6_digest 133 = .ok (.lmul, 1) := by decide +kernel
theorem dX6_digest_134 : decode cX6_digest 134 = .ok (.aload_n 0, 1) := by decide +kernel
theorem dX6_digest_135 : decode cX6_digest 135 = .ok (.getfield 103, 3) := by decide +kernel
theorem dX6_digest_138 : decode cX6_digest 138 = .ok (.i2l, 1) := by decide +kernel
theorem dX6_digest_139 : decode cX6_digest 139 = .ok (.ladd, 1) := by decide +kernel
theorem dX6_digest_140 : decode cX6_digest 140 = .ok (.lstore_n 1, 1) := by decide +kernel
theorem dX6_digest_141 : decode cX6_digest 141 = .ok (.ldc2_w 145, 3) := by decide +kernel
theorem dX6_digest_144 : decode cX6_digest 144 = .ok (.lload_n 1, 1) := by decide +kernel
theorem dX6_digest_145 : decode cX6_digest 145 = .ok (.lmul, 1) := by decide +kernel
theorem dX6_digest_146 : decode cX6_digest 146 = .ok (.aload_n 0, 1) := by decide +kernel
theorem dX6_digest_147 : decode cX6_digest 147 = .ok (.getfield 136, 3) := by decide +kernel
theorem dX6_digest_150 : decode cX6_digest 150 = .ok (.i2l, 1) := by decide +kernel
theorem dX6_digest_151 : decode cX6_digest 151 = .ok (.ladd, 1) := by decide +kernel
theorem dX6_digest_152 : decode cX6_digest 152 = .ok (.lreturn, 1) := by decide +kernel
theorem dJ6_bitCount_0f7a4_0 : decode cJ6_bitCount_0f7a4 0 = .ok (.iload_n 0, 1) := by decide +kernel
theorem dJ6_bitCount_0f7a4_1 : decode cJ6_bitCount_0f7a4 1 = .ok (.iload_n 0, 1) := by decide +kernel
theorem dJ6_bitCount_0f7a4_2 : decode cJ6_bitCount_0f7a4 2 = .ok (.iconst 1, 1) := by decide +kernel
theorem dJ6_bitCount_0f7a4_3 : decode cJ6_bitCount_0f7a4 3 = .ok (.iushr, 1) := by decide +kernel
theorem dJ6_bitCount_0f7a4_4 : decode cJ6_bitCount_0f7a4 4 = .ok (.ldc_w 265, 3) := by decide +kernel
theorem dJ6_bitCount_0f7a4_7 : decode cJ6_bitCount_0f7a4 7 = .ok (.iand, 1) := by decide +kernel
theorem dJ6_bitCount_0f7a4_8 : decode cJ6_bitCount_0f7a4 8 = .ok (.isub, 1) := by decide +kernel
theorem dJ6_bitCount_0f7a4_9 : decode cJ6_bitCount_0f7a4 9 = .ok (.istore_n 0, 1) := by decide +kernel
theorem dJ6_bitCount_0f7a4_10 : decode cJ6_bitCount_0f7a4 10 = .ok (.iload_n 0, 1) := by decide +kernel
theorem dJ6_bitCount_0f7a4_11 : decode cJ6_bitCount_0f7a4 11 = .ok (.ldc_w 266, 3) := by decide +kernel
theorem dJ6_bitCount_0f7a4_14 : decode cJ6_bitCount_0f7a4 14 = .ok (.iand, 1) := by decide +kernel
theorem dJ6_bitCount_0f7a4_15 : decode cJ6_bitCount_0f7a4 15 = .ok (.iload_n 0, 1) := by decide +kernel
theorem dJ6_bitCount_0f7a4_16 : decode cJ6_bitCount_0f7a4 16 = .ok (.iconst 2, 1) := by decide +kernel
theorem dJ6_bitCount_0f7a4_17 : decode cJ6_bitCount_0f7a4 17 = .ok (.iushr, 1) := by decide +kernel
theorem dJ6_bitCount_0f7a4_18 : decode cJ6_bitCount_0f7a4 18 = .ok (.ldc_w 266, 3) := by decide +kernel
theorem dJ6_bitCount_0f7a4_21 : decode cJ6_bitCount_0f7a4 21 = .ok (.iand, 1) := by decide +kernel
theorem dJ6_bitCount_0f7a4_22 : decode cJ6_bitCount_0f7a4 22 = .ok (.iadd, 1) := by decide +kernel
theorem dJ6_bitCount_0f7a4_23 : decode cJ6_bitCount_0f7a4 23 = .ok (.istore_n 0, 1) := by decide +kernel
theorem dJ6_bitCount_0f7a4_24 : decode cJ6_bitCount_0f7a4 24 = .ok (.iload_n 0, 1) := by decide +kernel
theorem dJ6_bitCount_0f7a4_25 : decode cJ6_bitCount_0f7a4 25 = .ok (.iload_n 0, 1) := by decide +kernel
theorem dJ6_bitCount_0f7a4_26 : decode cJ6_bitCount_0f7a4 26 = .ok (.iconst 4, 1) := by decide +kernel
theorem dJ6_bitCount_0f7a4_27 : decode cJ6_bitCount_0f7a4 27 = .ok (.iushr, 1) := by decide +kernel
theorem dJ6_bitCount_0f7a4_28 : decode cJ6_bitCount_0f7a4 28 = .ok (.iadd, 1) := by decide +kernel
theorem dJ6_bitCount_0f7a4_29 : decode cJ6_bitCount_0f7a4 29 = .ok (.ldc_w 267, 3) := by decide +kernel
theorem dJ6_bitCount_0f7a4_32 : decode cJ6_bitCount_0f7a4 32 = .ok (.iand, 1) := by decide +kernel
theorem dJ6_bitCount_0f7a4_33 : decode cJ6_bitCount_0f7a4 33 = .ok (.istore_n 0, 1) := by decide +kernel
theorem dJ6_bitCount_0f7a4_34 : decode cJ6_bitCount_0f7a4 34 = .ok (.iload_n 0, 1) := by decide +kernel
theorem dJ6_bitCount_0f7a4_35 : decode cJ6_bitCount_0f7a4 35 = .ok (.iload_n 0, 1) := by decide +kernel
theorem dJ6_bitCount_0f7a4_36 : decode cJ6_bitCount_0f7a4 36 = .ok (.bipush 8, 2) := by decide +kernel
theorem dJ6_bitCount_0f7a4_38 : decode cJ6_bitCount_0f7a4 38 = .ok (.iushr, 1) := by decide +kernel
theorem dJ6_bitCount_0f7a4_39 : decode cJ6_bitCount_0f7a4 39 = .ok (.iadd, 1) := by decide +kernel
theorem dJ6_bitCount_0f7a4_40 : decode cJ6_bitCount_0f7a4 40 = .ok (.istore_n 0, 1) := by decide +kernel
theorem dJ6_bitCount_0f7a4_41 : decode cJ6_bitCount_0f7a4 41 = .ok (.iload_n 0, 1) := by decide +kernel
theorem dJ6_bitCount_0f7a4_42 : decode cJ6_bitCount_0f7a4 42 = .ok (.iload_n 0, 1) := by decide +kernel
theorem dJ6_bitCount_0f7a4_43 : decode cJ6_bitCount_0f7a4 43 = .ok (.bipush 16, 2) := by decide +kernel
theorem dJ6_bitCount_0f7a4_45 : decode cJ6_bitCount_0f7a4 45 = .ok (.iushr, 1) := by decide +kernel
theorem dJ6_bitCount_0f7a4_46 : decode cJ6_bitCount_0f7a4 46 = .ok (.iadd, 1) := by decide +kernel
theorem dJ6_bitCount_0f7a4_47 : decode cJ6_bitCount_0f7a4 47 = .ok (.istore_n 0, 1) := by decide +kernel
theorem dJ6_bitCount_0f7a4_48 : decode cJ6_bitCount_0f7a4 48 = .ok (.iload_n 0, 1) := by decide +kernel
theorem dJ6_bitCount_0f7a4_49 : decode cJ6_bitCount_0f7a4 49 = .ok (.bipush 63, 2) := by decide +kernel
theorem dJ6_bitCount_0f7a4_51 : decode cJ6_bitCount_0f7a4 51 = .ok (.iand, 1) := by decide +kernel
theorem dJ6_bitCount_0f7a4_52 : decode cJ6_bitCount_0f7a4 52 = .ok (.ireturn, 1) := by decide +kernel
theorem dJ9_max_7cf53_0 : decode cJ9_max_7cf53 0 = .ok (.iload_n 0, 1) := by decide +kernel
theorem dJ9_max_7cf53_1 : decode cJ9_max_7cf53 1 = .ok (.iload_n 1, 1) := by decide +kernel
theorem dJ9_max_7cf53_2 : decode cJ9_max_7cf53 2 = .ok (.if_icmp .lt 7, 3) := by decide +kernel
theorem dJ9_max_7cf53_5 : decode cJ9_max_7cf53 5 = .ok (.iload_n 0, 1) := by decide +kernel
theorem dJ9_max_7cf53_6 : decode cJ9_max_7cf53 6 = .ok (.goto 4, 3) := by decide +kernel
theorem dJ9_max_7cf53_9 : decode cJ9_max_7cf53 9 = .ok (.iload_n 1, 1) := by decide +kernel
theorem dJ9_max_7cf53_10 : decode cJ9_max_7cf53 10 = .ok (.ireturn, 1) := by decide +kernel
theorem dJ9_min_7cf53_0 : decode cJ9_min_7cf53 0 = .ok (.iload_n 0, 1) := by decide +kernel
theorem dJ9_min_7cf53_1 : decode cJ9_min_7cf53 1 = .ok (.iload_n 1, 1) := by decide +kernel
theorem dJ9_min_7cf53_2 : decode cJ9_min_7cf53 2 = .ok (.if_icmp .gt 7, 3) := by decide +kernel
theorem dJ9_min_7cf53_5 : decode cJ9_min_7cf53 5 = .ok (.iload_n 0, 1) := by decide +kernel
theorem dJ9_min_7cf53_6 : decode cJ9_min_7cf53 6 = .ok (.goto 4, 3) := by decide +kernel
theorem dJ9_min_7cf53_9 : decode cJ9_min_7cf53 9 = .ok (.iload_n 1, 1) := by decide +kernel
theorem dJ9_min_7cf53_10 : decode cJ9_min_7cf53 10 = .ok (.ireturn, 1) := by decide +kernel
theorem dJ7_fill_53178_0 : decode cJ7_fill_53178 0 = .ok (.iconst 0, 1) := by decide +kernel
theorem dJ7_fill_53178_1 : decode cJ7_fill_53178 1 = .ok (.istore_n 2, 1) := by decide +kernel
theorem dJ7_fill_53178_2 : decode cJ7_fill_53178 2 = .ok (.aload_n 0, 1) := by decide +kernel
theorem dJ7_fill_53178_3 : decode cJ7_fill_53178 3 = .ok (.arraylength, 1) := by decide +kernel
theorem dJ7_fill_53178_4 : decode cJ7_fill_53178 4 = .ok (.istore_n 3, 1) := by decide +kernel
theorem dJ7_fill_53178_5 : decode cJ7_fill_53178 5 = .ok (.iload_n 2, 1) := by decide +kernel
theorem dJ7_fill_53178_6 : decode cJ7_fill_53178 6 = .ok (.iload_n 3, 1) := by decide +kernel
theorem dJ7_fill_53178_7 : decode cJ7_fill_53178 7 = .ok (.if_icmp .ge 13, 3) := by decide +kernel
theorem dJ7_fill_53178_10 : decode cJ7_fill_53178 10 = .ok (.aload_n 0, 1) := by decide +kernel
theorem dJ7_fill_53178_11 : decode cJ7_fill_53178 11 = .ok (.iload_n 2, 1) := by decide +kernel
theorem dJ7_fill_53178_12 : decode cJ7_fill_53178 12 = .ok (.iload_n 1, 1) := by decide +kernel
theorem dJ7_fill_53178_13 : decode cJ7_fill_53178 13 = .ok (.iastore, 1) := by decide +kernel
theorem dJ7_fill_53178_14 : decode cJ7_fill_53178 14 = .ok (.iinc 2 1, 3) := by decide +kernel
theorem dJ7_fill_53178_17 : decode cJ7_fill_53178 17 = .ok (.goto (-12), 3) := by decide +kernel
theorem dJ7_fill_53178_20 : decode cJ7_fill_53178 20 = .ok (.return_, 1) := by decide +kernel
theorem dL_law_0 : decode cL_law 0 = .ok (.new 7, 3) := by decide +kernel
theorem dL_law_3 : decode cL_law 3 = .ok (.dup, 1) := by decide +kernel
theorem dL_law_4 : decode cL_law 4 = .ok (.invokespecial 9, 3) := by decide +kernel
theorem dL_law_7 : decode cL_law 7 = .ok (.astore_n 1, 1) := by decide +kernel
theorem dL_law_8 : decode cL_law 8 = .ok (.new 10, 3) := by decide +kernel
theorem dL_law_11 : decode cL_law 11 = .ok (.dup, 1) := by decide +kernel
theorem dL_law_12 : decode cL_law 12 = .ok (.invokespecial 12, 3) := by decide +kernel
theorem dL_law_15 : decode cL_law 15 = .ok (.astore_n 2, 1) := by decide +kernel
theorem dL_law_16 : decode cL_law 16 = .ok (.iconst 0, 1) := by decide +kernel
theorem dL_law_17 : decode cL_law 17 = .ok (.istore_n 3, 1) := by decide +kernel
theorem dL_law_18 : decode cL_law 18 = .ok (.iload_n 3, 1) := by decide +kernel
theorem dL_law_19 : decode cL_law 19 = .ok (.aload_n 0, 1) := by decide +kernel
theorem dL_law_20 : decode cL_law 20 = .ok (.arraylength, 1) := by decide +kernel
theorem dL_law_21 : decode cL_law 21 = .ok (.iconst 4, 1) := by decide +kernel
theorem dL_law_22 : decode cL_law 22 = .ok (.isub, 1) := by decide +kernel
theorem dL_law_23 : decode cL_law 23 = .ok (.if_icmp .gt 650, 3) := by decide +kernel
theorem dL_law_26 : decode cL_law 26 = .ok (.aload_n 0, 1) := by decide +kernel
theorem dL_law_27 : decode cL_law 27 = .ok (.iload_n 3, 1) := by decide +kernel
theorem dL_law_28 : decode cL_law 28 = .ok (.iaload, 1) := by decide +kernel
theorem dL_law_29 : decode cL_law 29 = .ok (.bipush 31, 2) := by decide +kernel
theorem dL_law_31 : decode cL_law 31 = .ok (.iand, 1) := by decide +kernel
theorem dL_law_32 : decode cL_law 32 = .ok (.tableswitch 635 0 22 #[108, 131, 190, 223, 246, 259, 272, 305, 338, 361, 374, 387, 410, 443, 456, 490, 523, 536, 559, 572, 585, 598, 621], 108) := by decide +kernel
theorem dL_law_140 : decode cL_law 140 = .ok (.aload_n 1, 1) := by decide +kernel
theorem dL_law_141 : decode cL_law 141 = .ok (.aload_n 0, 1) := by decide +kernel
theorem dL_law_142 : decode cL_law 142 = .ok (.iload_n 3, 1) := by decide +kernel
theorem dL_law_143 : decode cL_law 143 = .ok (.iconst 1, 1) := by decide +kernel
theorem dL_law_144 : decode cL_law 144 = .ok (.iadd, 1) := by decide +kernel
theorem dL_law_145 : decode cL_law 145 = .ok (.iaload, 1) := by decide +kernel
theorem dL_law_146 : decode cL_law 146 = .ok (.invokevirtual 13, 3) := by decide +kernel
theorem dL_law_149 : decode cL_law 149 = .ok (.aload_n 2, 1) := by decide +kernel
theorem dL_law_150 : decode cL_law 150 = .ok (.aload_n 0, 1) := by decide +kernel
theorem dL_law_151 : decode cL_law 151 = .ok (.iload_n 3, 1) := by decide +kernel
theorem dL_law_152 : decode cL_law 152 = .ok (.iconst 1, 1) := by decide +kernel
theorem dL_law_153 : decode cL_law 153 = .ok (.iadd, 1) := by decide +kernel
theorem dL_law_154 : decode cL_law 154 = .ok (.iaload, 1) := by decide +kernel
theorem dL_law_155 : decode cL_law 155 = .ok (.invokevirtual 17, 3) := by decide +kernel
theorem dL_law_158 : decode cL_law 158 = .ok (.if_icmp .eq 509, 3) := by decide +kernel
theorem dL_law_161 : decode cL_law 161 = .ok (.iconst 0, 1) := by decide +kernel
theorem dL_law_162 : decode cL_law 162 = .ok (.ireturn, 1) := by decide +kernel
theorem dL_law_163 : decode cL_law 163 = .ok (.aload_n 1, 1) := by decide +kernel
theorem dL_law_164 : decode cL_law 164 = .ok (.aload_n 0, 1) := by decide +kernel
theorem dL_law_165 : decode cL_law 165 = .ok (.iload_n 3, 1) := by decide +kernel
theorem dL_law_166 : decode cL_law 166 = .ok (.iconst 1, 1) := by decide +kernel
theorem dL_law_167 : decode cL_law 167 = .ok (.iadd, 1) := by decide +kernel
theorem dL_law_168 : decode cL_law 168 = .ok (.iaload, 1) := by decide +kernel
theorem dL_law_169 : decode cL_law 169 = .ok (.aload_n 0, 1) := by decide +kernel
theorem dL_law_170 : decode cL_law 170 = .ok (.iload_n 3, 1) := by decide +kernel
theorem dL_law_171 : decode cL_law 171 = .ok (.iconst 2, 1) := by decide +kernel
theorem dL_law_172 : decode cL_law 172 = .ok (.iadd, 1) := by decide +kernel
theorem dL_law_173 : decode cL_law 173 = .ok (.iaload, 1) := by decide +kernel
theorem dL_law_174 : decode cL_law 174 = .ok (.aload_n 0, 1) := by decide +kernel
theorem dL_law_175 : decode cL_law 175 = .ok (.iload_n 3, 1) := by decide +kernel
theorem dL_law_176 : decode cL_law 176 = .ok (.iconst 3, 1) := by decide +kernel
theorem dL_law_177 : decode cL_law 177 = .ok (.iadd, 1) := by decide +kernel
theorem dL_law_178 : decode cL_law 178 = .ok (.iaload, 1) := by decide +kernel
theorem dL_law_179 : decode cL_law 179 = .ok (.ifCond .eq 7, 3) := by decide +kernel
theorem dL_law_182 : decode cL_law 182 = .ok (.iconst 1, 1) := by decide +kernel
theorem dL_law_183 : decode cL_law 183 = .ok (.goto 4, 3) := by decide +kernel
theorem dL_law_186 : decode cL_law 186 = .ok (.iconst 0, 1) := by decide +kernel
theorem dL_law_187 : decode cL_law 187 = .ok (.invokevirtual 18, 3) := by decide +kernel
theorem dL_law_190 : decode cL_law 190 = .ok (.aload_n 2, 1) := by decide +kernel
theorem dL_law_191 : decode cL_law 191 = .ok (.aload_n 0, 1) := by decide +kernel
theorem dL_law_192 : decode cL_law 192 = .ok (.iload_n 3, 1) := by decide +kernel
theorem dL_law_193 : decode cL_law 193 = .ok (.iconst 1, 1) := by decide +kernel
theorem dL_law_194 : decode cL_law 194 = .ok (.iadd, 1) := by decide +kernel
theorem dL_law_195 : decode cL_law 195 = .ok (.iaload, 1) := by decide +kernel
theorem dL_law_196 : decode cL_law 196 = .ok (.aload_n 0, 1) := by decide +kernel
theorem dL_law_197 : decode cL_law 197 = .ok (.iload_n 3, 1) := by decide +kernel
theorem dL_law_198 : decode cL_law 198 = .ok (.iconst 2, 1) := by decide +kernel
theorem dL_law_199 : decode cL_law 199 = .ok (.iadd, 1) := by decide +kernel
theorem dL_law_200 : decode cL_law 200 = .ok (.iaload, 1) := by decide +kernel
theorem dL_law_201 : decode cL_law 201 = .ok (.aload_n 0, 1) := by decide +kernel
theorem dL_law_202 : decode cL_law 202 = .ok (.iload_n 3, 1) := by decide +kernel
theorem dL_law_203 : decode cL_law 203 = .ok (.iconst 3, 1) := by decide +kernel
theorem dL_law_204 : decode cL_law 204 = .ok (.iadd, 1) := by decide +kernel
theorem dL_law_205 : decode cL_law 205 = .ok (.iaload, 1) := by decide +kernel
theorem dL_law_206 : decode cL_law 206 = .ok (.ifCond .eq 7, 3) := by decide +kernel
theorem dL_law_209 : decode cL_law 209 = .ok (.iconst 1, 1) := by decide +kernel
theorem dL_law_210 : decode cL_law 210 = .ok (.goto 4, 3) := by decide +kernel
theorem dL_law_213 : decode cL_law 213 = .ok (.iconst 0, 1) := by decide +kernel
theorem dL_law_214 : decode cL_law 214 = .ok (.invokevirtual 22, 3) := by decide +kernel
theorem dL_law_217 : decode cL_law 217 = .ok (.if_icmp .eq 450, 3) := by decide +kernel
theorem dL_law_220 : decode cL_law 220 = .ok (.iconst 0, 1) := by decide +kernel
theorem dL_law_221 : decode cL_law 221 = .ok (.ireturn, 1) := by decide +kernel
theorem dL_law_222 : decode cL_law 222 = .ok (.aload_n 1, 1) := by decide +kernel
theorem dL_law_223 : decode cL_law 223 = .ok (.aload_n 0, 1) := by decide +kernel
theorem dL_law_224 : decode cL_law 224 = .ok (.iload_n 3, 1) := by decide +kernel
theorem dL_law_225 : decode cL_law 225 = .ok (.iconst 1, 1) := by decide +kernel
theorem dL_law_226 : decode cL_law 226 = .ok (.iadd, 1) := by decide +kernel
theorem dL_law_227 : decode cL_law 227 = .ok (.iaload, 1) := by decide +kernel
theorem dL_law_228 : decode cL_law 228 = .ok (.aload_n 0, 1) := by decide +kernel
theorem dL_law_229 : decode cL_law 229 = .ok (.iload_n 3, 1) := by decide +kernel
theorem dL_law_230 : decode cL_law 230 = .ok (.iconst 2, 1) := by decide +kernel
theorem dL_law_231 : decode cL_law 231 = .ok (.iadd, 1) := by decide +kernel
theorem dL_law_232 : decode cL_law 232 = .ok (.iaload, 1) := by decide +kernel
theorem dL_law_233 : decode cL_law 233 = .ok (.invokevirtual 23, 3) := by decide +kernel
theorem dL_law_236 : decode cL_law 236 = .ok (.aload_n 2, 1) := by decide +kernel
theorem dL_law_237 : decode cL_law 237 = .ok (.aload_n 0, 1) := by decide +kernel
theorem dL_law_238 : decode cL_law 238 = .ok (.iload_n 3, 1) := by decide +kernel
theorem dL_law_239 : decode cL_law 239 = .ok (.iconst 1, 1) := by decide +kernel
theorem dL_law_240 : decode cL_law 240 = .ok (.iadd, 1) := by decide +kernel
theorem dL_law_241 : decode cL_law 241 = .ok (.iaload, 1) := by decide +kernel
theorem dL_law_242 : decode cL_law 242 = .ok (.aload_n 0, 1) := by decide +kernel
theorem dL_law_243 : decode cL_law 243 = .ok (.iload_n 3, 1) := by decide +kernel
theorem dL_law_244 : decode cL_law 244 = .ok (.iconst 2, 1) := by decide +kernel
theorem dL_law_245 : decode cL_law 245 = .ok (.iadd, 1) := by decide +kernel
theorem dL_law_246 : decode cL_law 246 = .ok (.iaload, 1) := by decide +kernel
theorem dL_law_247 : decode cL_law 247 = .ok (.invokevirtual 27, 3) := by decide +kernel
theorem dL_law_250 : decode cL_law 250 = .ok (.if_icmp .eq 417, 3) := by decide +kernel
theorem dL_law_253 : decode cL_law 253 = .ok (.iconst 0, 1) := by decide +kernel
theorem dL_law_254 : decode cL_law 254 = .ok (.ireturn, 1) := by decide +kernel
theorem dL_law_255 : decode cL_law 255 = .ok (.aload_n 1, 1) := by decide +kernel
theorem dL_law_256 : decode cL_law 256 = .ok (.aload_n 0, 1) := by decide +kernel
theorem dL_law_257 : decode cL_law 257 = .ok (.iload_n 3, 1) := by decide +kernel
theorem dL_law_258 : decode cL_law 258 = .ok (.iconst 1, 1) := by decide +kernel
theorem dL_law_259 : decode cL_law 259 = .ok (.iadd, 1) := by decide +kernel
theorem dL_law_260 : decode cL_law 260 = .ok (.iaload, 1) := by decide +kernel
theorem dL_law_261 : decode cL_law 261 = .ok (.invokevirtual 28, 3) := by decide +kernel
theorem dL_law_264 : decode cL_law 264 = .ok (.aload_n 2, 1) := by decide +kernel
theorem dL_law_265 : decode cL_law 265 = .ok (.aload_n 0, 1) := by decide +kernel
theorem dL_law_266 : decode cL_law 266 = .ok (.iload_n 3, 1) := by decide +kernel
theorem dL_law_267 : decode cL_law 267 = .ok (.iconst 1, 1) := by decide +kernel
theorem dL_law_268 : decode cL_law 268 = .ok (.iadd, 1) := by decide +kernel
theorem dL_law_269 : decode cL_law 269 = .ok (.iaload, 1) := by decide +kernel
theorem dL_law_270 : decode cL_law 270 = .ok (.invokevirtual 31, 3) := by decide +kernel
theorem dL_law_273 : decode cL_law 273 = .ok (.if_icmp .eq 394, 3) := by decide +kernel
theorem dL_law_276 : decode cL_law 276 = .ok (.iconst 0, 1) := by decide +kernel
theorem dL_law_277 : decode cL_law 277 = .ok (.ireturn, 1) := by decide +kernel
theorem dL_law_278 : decode cL_law 278 = .ok (.aload_n 1, 1) := by decide +kernel
theorem dL_law_279 : decode cL_law 279 = .ok (.invokevirtual 32, 3) := by decide +kernel
theorem dL_law_282 : decode cL_law 282 = .ok (.aload_n 2, 1) := by decide +kernel
theorem dL_law_283 : decode cL_law 283 = .ok (.invokevirtual 36, 3) := by decide +kernel
theorem dL_law_286 : decode cL_law 286 = .ok (.if_icmp .eq 381, 3) := by decide +kernel
theorem dL_law_289 : decode cL_law 289 = .ok (.iconst 0, 1) := by decide +kernel
theorem dL_law_290 : decode cL_law 290 = .ok (.ireturn, 1) := by decide +kernel
theorem dL_law_291 : decode cL_law 291 = .ok (.aload_n 1, 1) := by decide +kernel
theorem dL_law_292 : decode cL_law 292 = .ok (.invokevirtual 37, 3) := by decide +kernel
theorem dL_law_295 : decode cL_law 295 = .ok (.aload_n 2, 1) := by decide +kernel
theorem dL_law_296 : decode cL_law 296 = .ok (.invokevirtual 40, 3) := by decide +kernel
theorem dL_law_299 : decode cL_law 299 = .ok (.if_icmp .eq 368, 3) := by decide +kernel
theorem dL_law_302 : decode cL_law 302 = .ok (.iconst 0, 1) := by decide +kernel
theorem dL_law_303 : decode cL_law 303 = .ok (.ireturn, 1) := by decide +kernel
theorem dL_law_304 : decode cL_law 304 = .ok (.aload_n 1, 1) := by decide +kernel
theorem dL_law_305 : decode cL_law 305 = .ok (.aload_n 0, 1) := by decide +kernel
theorem dL_law_306 : decode cL_law 306 = .ok (.iload_n 3, 1) := by decide +kernel
theorem dL_law_307 : decode cL_law 307 = .ok (.iconst 1, 1) := by decide +kernel
theorem dL_law_308 : decode cL_law 308 = .ok (.iadd, 1) := by decide +kernel
theorem dL_law_309 : decode cL_law 309 = .ok (.iaload, 1) := by decide +kernel
theorem dL_law_310 : decode cL_law 310 = .ok (.aload_n 0, 1) := by decide +kernel
theorem dL_law_311 : decode cL_law 311 = .ok (.iload_n 3, 1) := by decide +kernel
theorem dL_law_312 : decode cL_law 312 = .ok (.iconst 2, 1) := by decide +kernel
theorem dL_law_313 : decode cL_law 313 = .ok (.iadd, 1) := by decide +kernel
theorem dL_law_314 : decode cL_law 314 = .ok (.iaload, 1) := by decide +kernel
theorem dL_law_315 : decode cL_law 315 = .ok (.invokevirtual 41, 3) := by decide +kernel
theorem dL_law_318 : decode cL_law 318 = .ok (.aload_n 2, 1) := by decide +kernel
theorem dL_law_319 : decode cL_law 319 = .ok (.aload_n 0, 1) := by decide +kernel
theorem dL_law_320 : decode cL_law 320 = .ok (.iload_n 3, 1) := by decide +kernel
theorem dL_law_321 : decode cL_law 321 = .ok (.iconst 1, 1) := by decide +kernel
theorem dL_law_322 : decode cL_law 322 = .ok (.iadd, 1) := by decide +kernel
theorem dL_law_323 : decode cL_law 323 = .ok (.iaload, 1) := by decide +kernel
theorem dL_law_324 : decode cL_law 324 = .ok (.aload_n 0, 1) := by decide +kernel
theorem dL_law_325 : decode cL_law 325 = .ok (.iload_n 3, 1) := by decide +kernel
theorem dL_law_326 : decode cL_law 326 = .ok (.iconst 2, 1) := by decide +kernel
theorem dL_law_327 : decode cL_law 327 = .ok (.iadd, 1) := by decide +kernel
theorem dL_law_328 : decode cL_law 328 = .ok (.iaload, 1) := by decide +kernel
theorem dL_law_329 : decode cL_law 329 = .ok (.invokevirtual 44, 3) := by decide +kernel
theorem dL_law_332 : decode cL_law 332 = .ok (.if_icmp .eq 335, 3) := by decide +kernel
theorem dL_law_335 : decode cL_law 335 = .ok (.iconst 0, 1) := by decide +kernel
theorem dL_law_336 : decode cL_law 336 = .ok (.ireturn, 1) := by decide +kernel
theorem dL_law_337 : decode cL_law 337 = .ok (.aload_n 1, 1) := by decide +kernel
theorem dL_law_338 : decode cL_law 338 = .ok (.aload_n 0, 1) := by decide +kernel
theorem dL_law_339 : decode cL_law 339 = .ok (.iload_n 3, 1) := by decide +kernel
theorem dL_law_340 : decode cL_law 340 = .ok (.iconst 1, 1) := by decide +kernel
theorem dL_law_341 : decode cL_law 341 = .ok (.iadd, 1) := by decide +kernel
theorem dL_law_342 : decode cL_law 342 = .ok (.iaload, 1) := by decide +kernel
theorem dL_law_343 : decode cL_law 343 = .ok (.aload_n 0, 1) := by decide +kernel
theorem dL_law_344 : decode cL_law 344 = .ok (.iload_n 3, 1) := by decide +kernel
theorem dL_law_345 : decode cL_law 345 = .ok (.iconst 2, 1) := by decide +kernel
theorem dL_law_346 : decode cL_law 346 = .ok (.iadd, 1) := by decide +kernel
theorem dL_law_347 : decode cL_law 347 = .ok (.iaload, 1) := by decide +kernel
theorem dL_law_348 : decode cL_law 348 = .ok (.invokevirtual 45, 3) := by decide +kernel
theorem dL_law_351 : decode cL_law 351 = .ok (.aload_n 2, 1) := by decide +kernel
theorem dL_law_352 : decode cL_law 352 = .ok (.aload_n 0, 1) := by decide +kernel
theorem dL_law_353 : decode cL_law 353 = .ok (.iload_n 3, 1) := by decide +kernel
theorem dL_law_354 : decode cL_law 354 = .ok (.iconst 1, 1) := by decide +kernel
theorem dL_law_355 : decode cL_law 355 = .ok (.iadd, 1) := by decide +kernel
theorem dL_law_356 : decode cL_law 356 = .ok (.iaload, 1) := by decide +kernel
theorem dL_law_357 : decode cL_law 357 = .ok (.aload_n 0, 1) := by decide +kernel
theorem dL_law_358 : decode cL_law 358 = .ok (.iload_n 3, 1) := by decide +kernel
theorem dL_law_359 : decode cL_law 359 = .ok (.iconst 2, 1) := by decide +kernel
theorem dL_law_360 : decode cL_law 360 = .ok (.iadd, 1) := by decide +kernel
theorem dL_law_361 : decode cL_law 361 = .ok (.iaload, 1) := by decide +kernel
theorem dL_law_362 : decode cL_law 362 = .ok (.invokevirtual 48, 3) := by decide +kernel
theorem dL_law_365 : decode cL_law 365 = .ok (.if_icmp .eq 302, 3) := by decide +kernel
theorem dL_law_368 : decode cL_law 368 = .ok (.iconst 0, 1) := by decide +kernel
theorem dL_law_369 : decode cL_law 369 = .ok (.ireturn, 1) := by decide +kernel
theorem dL_law_370 : decode cL_law 370 = .ok (.aload_n 1, 1) := by decide +kernel
theorem dL_law_371 : decode cL_law 371 = .ok (.aload_n 0, 1) := by decide +kernel
theorem dL_law_372 : decode cL_law 372 = .ok (.iload_n 3, 1) := by decide +kernel
theorem dL_law_373 : decode cL_law 373 = .ok (.iconst 1, 1) := by decide +kernel
theorem dL_law_374 : decode cL_law 374 = .ok (.iadd, 1) := by decide +kernel
theorem dL_law_375 : decode cL_law 375 = .ok (.iaload, 1) := by decide +kernel
theorem dL_law_376 : decode cL_law 376 = .ok (.invokevirtual 49, 3) := by decide +kernel
theorem dL_law_379 : decode cL_law 379 = .ok (.aload_n 2, 1) := by decide +kernel
theorem dL_law_380 : decode cL_law 380 = .ok (.aload_n 0, 1) := by decide +kernel
theorem dL_law_381 : decode cL_law 381 = .ok (.iload_n 3, 1) := by decide +kernel
theorem dL_law_382 : decode cL_law 382 = .ok (.iconst 1, 1) := by decide +kernel
theorem dL_law_383 : decode cL_law 383 = .ok (.iadd, 1) := by decide +kernel
theorem dL_law_384 : decode cL_law 384 = .ok (.iaload, 1) := by decide +kernel
theorem dL_law_385 : decode cL_law 385 = .ok (.invokevirtual 52, 3) := by decide +kernel
theorem dL_law_388 : decode cL_law 388 = .ok (.if_icmp .eq 279, 3) := by decide +kernel
theorem dL_law_391 : decode cL_law 391 = .ok (.iconst 0, 1) := by decide +kernel
theorem dL_law_392 : decode cL_law 392 = .ok (.ireturn, 1) := by decide +kernel
theorem dL_law_393 : decode cL_law 393 = .ok (.aload_n 1, 1) := by decide +kernel
theorem dL_law_394 : decode cL_law 394 = .ok (.invokevirtual 53, 3) := by decide +kernel
theorem dL_law_397 : decode cL_law 397 = .ok (.aload_n 2, 1) := by decide +kernel
theorem dL_law_398 : decode cL_law 398 = .ok (.invokevirtual 56, 3) := by decide +kernel
theorem dL_law_401 : decode cL_law 401 = .ok (.if_icmp .eq 266, 3) := by decide +kernel
theorem dL_law_404 : decode cL_law 404 = .ok (.iconst 0, 1) := by decide +kernel
theorem dL_law_405 : decode cL_law 405 = .ok (.ireturn, 1) := by decide +kernel
theorem dL_law_406 : decode cL_law 406 = .ok (.aload_n 1, 1) := by decide +kernel
theorem dL_law_407 : decode cL_law 407 = .ok (.invokevirtual 57, 3) := by decide +kernel
theorem dL_law_410 : decode cL_law 410 = .ok (.aload_n 2, 1) := by decide +kernel
theorem dL_law_411 : decode cL_law 411 = .ok (.invokevirtual 60, 3) := by decide +kernel
theorem dL_law_414 : decode cL_law 414 = .ok (.if_icmp .eq 253, 3) := by decide +kernel
theorem dL_law_417 : decode cL_law 417 = .ok (.iconst 0, 1) := by decide +kernel
theorem dL_law_418 : decode cL_law 418 = .ok (.ireturn, 1) := by decide +kernel
theorem dL_law_419 : decode cL_law 419 = .ok (.aload_n 1, 1) := by decide +kernel
theorem dL_law_420 : decode cL_law 420 = .ok (.aload_n 0, 1) := by decide +kernel
theorem dL_law_421 : decode cL_law 421 = .ok (.iload_n 3, 1) := by decide +kernel
theorem dL_law_422 : decode cL_law 422 = .ok (.iconst 1, 1) := by decide +kernel
theorem dL_law_423 : decode cL_law 423 = .ok (.iadd, 1) := by decide +kernel
theorem dL_law_424 : decode cL_law 424 = .ok (.iaload, 1) := by decide +kernel
theorem dL_law_425 : decode cL_law 425 = .ok (.invokevirtual 61, 3) := by decide +kernel
theorem dL_law_428 : decode cL_law 428 = .ok (.aload_n 2, 1) := by decide +kernel
theorem dL_law_429 : decode cL_law 429 = .ok (.aload_n 0, 1) := by decide +kernel
theorem dL_law_430 : decode cL_law 430 = .ok (.iload_n 3, 1) := by decide +kernel
theorem dL_law_431 : decode cL_law 431 = .ok (.iconst 1, 1) := by decide +kernel
theorem dL_law_432 : decode cL_law 432 = .ok (.iadd, 1) := by decide +kernel
theorem dL_law_433 : decode cL_law 433 = .ok (.iaload, 1) := by decide +kernel
theorem dL_law_434 : decode cL_law 434 = .ok (.invokevirtual 64, 3) := by decide +kernel
theorem dL_law_437 : decode cL_law 437 = .ok (.if_icmp .eq 230, 3) := by decide +kernel
theorem dL_law_440 : decode cL_law 440 = .ok (.iconst 0, 1) := by decide +kernel
theorem dL_law_441 : decode cL_law 441 = .ok (.ireturn, 1) := by decide +kernel
theorem dL_law_442 : decode cL_law 442 = .ok (.aload_n 1, 1) := by decide +kernel
theorem dL_law_443 : decode cL_law 443 = .ok (.aload_n 0, 1) := by decide +kernel
theorem dL_law_444 : decode cL_law 444 = .ok (.iload_n 3, 1) := by decide +kernel
theorem dL_law_445 : decode cL_law 445 = .ok (.iconst 1, 1) := by decide +kernel
theorem dL_law_446 : decode cL_law 446 = .ok (.iadd, 1) := by decide +kernel
theorem dL_law_447 : decode cL_law 447 = .ok (.iaload, 1) := by decide +kernel
theorem dL_law_448 : decode cL_law 448 = .ok (.aload_n 0, 1) := by decide +kernel
theorem dL_law_449 : decode cL_law 449 = .ok (.iload_n 3, 1) := by decide +kernel
theorem dL_law_450 : decode cL_law 450 = .ok (.iconst 2, 1) := by decide +kernel
theorem dL_law_451 : decode cL_law 451 = .ok (.iadd, 1) := by decide +kernel
theorem dL_law_452 : decode cL_law 452 = .ok (.iaload, 1) := by decide +kernel
theorem dL_law_453 : decode cL_law 453 = .ok (.invokevirtual 65, 3) := by decide +kernel
theorem dL_law_456 : decode cL_law 456 = .ok (.aload_n 2, 1) := by decide +kernel
theorem dL_law_457 : decode cL_law 457 = .ok (.aload_n 0, 1) := by decide +kernel
theorem dL_law_458 : decode cL_law 458 = .ok (.iload_n 3, 1) := by decide +kernel
theorem dL_law_459 : decode cL_law 459 = .ok (.iconst 1, 1) := by decide +kernel
theorem dL_law_460 : decode cL_law 460 = .ok (.iadd, 1) := by decide +kernel
theorem dL_law_461 : decode cL_law 461 = .ok (.iaload, 1) := by decide +kernel
theorem dL_law_462 : decode cL_law 462 = .ok (.aload_n 0, 1) := by decide +kernel
theorem dL_law_463 : decode cL_law 463 = .ok (.iload_n 3, 1) := by decide +kernel
theorem dL_law_464 : decode cL_law 464 = .ok (.iconst 2, 1) := by decide +kernel
theorem dL_law_465 : decode cL_law 465 = .ok (.iadd, 1) := by decide +kernel
theorem dL_law_466 : decode cL_law 466 = .ok (.iaload, 1) := by decide +kernel
theorem dL_law_467 : decode cL_law 467 = .ok (.invokevirtual 68, 3) := by decide +kernel
theorem dL_law_470 : decode cL_law 470 = .ok (.if_icmp .eq 197, 3) := by decide +kernel
theorem dL_law_473 : decode cL_law 473 = .ok (.iconst 0, 1) := by decide +kernel
theorem dL_law_474 : decode cL_law 474 = .ok (.ireturn, 1) := by decide +kernel
theorem dL_law_475 : decode cL_law 475 = .ok (.aload_n 1, 1) := by decide +kernel
theorem dL_law_476 : decode cL_law 476 = .ok (.invokevirtual 69, 3) := by decide +kernel
theorem dL_law_479 : decode cL_law 479 = .ok (.aload_n 2, 1) := by decide +kernel
theorem dL_law_480 : decode cL_law 480 = .ok (.invokevirtual 72, 3) := by decide +kernel
theorem dL_law_483 : decode cL_law 483 = .ok (.if_icmp .eq 184, 3) := by decide +kernel
theorem dL_law_486 : decode cL_law 486 = .ok (.iconst 0, 1) := by decide +kernel
theorem dL_law_487 : decode cL_law 487 = .ok (.ireturn, 1) := by decide +kernel
theorem dL_law_488 : decode cL_law 488 = .ok (.aload_n 1, 1) := by decide +kernel
theorem dL_law_489 : decode cL_law 489 = .ok (.aload_n 0, 1) := by decide +kernel
theorem dL_law_490 : decode cL_law 490 = .ok (.iload_n 3, 1) := by decide +kernel
theorem dL_law_491 : decode cL_law 491 = .ok (.iconst 1, 1) := by decide +kernel
theorem dL_law_492 : decode cL_law 492 = .ok (.iadd, 1) := by decide +kernel
theorem dL_law_493 : decode cL_law 493 = .ok (.iaload, 1) := by decide +kernel
theorem dL_law_494 : decode cL_law 494 = .ok (.aload_n 0, 1) := by decide +kernel
theorem dL_law_495 : decode cL_law 495 = .ok (.iload_n 3, 1) := by decide +kernel
theorem dL_law_496 : decode cL_law 496 = .ok (.iconst 2, 1) := by decide +kernel
theorem dL_law_497 : decode cL_law 497 = .ok (.iadd, 1) := by decide +kernel
theorem dL_law_498 : decode cL_law 498 = .ok (.iaload, 1) := by decide +kernel
theorem dL_law_499 : decode cL_law 499 = .ok (.invokevirtual 73, 3) := by decide +kernel
theorem dL_law_502 : decode cL_law 502 = .ok (.aload_n 2, 1) := by decide +kernel
theorem dL_law_503 : decode cL_law 503 = .ok (.aload_n 0, 1) := by decide +kernel
theorem dL_law_504 : decode cL_law 504 = .ok (.iload_n 3, 1) := by decide +kernel
theorem dL_law_505 : decode cL_law 505 = .ok (.iconst 1, 1) := by decide +kernel
theorem dL_law_506 : decode cL_law 506 = .ok (.iadd, 1) := by decide +kernel
theorem dL_law_507 : decode cL_law 507 = .ok (.iaload, 1) := by decide +kernel
theorem dL_law_508 : decode cL_law 508 = .ok (.aload_n 0, 1) := by decide +kernel
theorem dL_law_509 : decode cL_law 509 = .ok (.iload_n 3, 1) := by decide +kernel
theorem dL_law_510 : decode cL_law 510 = .ok (.iconst 2, 1) := by decide +kernel
theorem dL_law_511 : decode cL_law 511 = .ok (.iadd, 1) := by decide +kernel
theorem dL_law_512 : decode cL_law 512 = .ok (.iaload, 1) := by decide +kernel
theorem dL_law_513 : decode cL_law 513 = .ok (.invokevirtual 77, 3) := by decide +kernel
theorem dL_law_516 : decode cL_law 516 = .ok (.lcmp, 1) := by decide +kernel
theorem dL_law_517 : decode cL_law 517 = .ok (.ifCond .eq 150, 3) := by decide +kernel
theorem dL_law_520 : decode cL_law 520 = .ok (.iconst 0, 1) := by decide +kernel
theorem dL_law_521 : decode cL_law 521 = .ok (.ireturn, 1) := by decide +kernel
theorem dL_law_522 : decode cL_law 522 = .ok (.aload_n 1, 1) := by decide +kernel
theorem dL_law_523 : decode cL_law 523 = .ok (.aload_n 0, 1) := by decide +kernel
theorem dL_law_524 : decode cL_law 524 = .ok (.iload_n 3, 1) := by decide +kernel
theorem dL_law_525 : decode cL_law 525 = .ok (.iconst 1, 1) := by decide +kernel
theorem dL_law_526 : decode cL_law 526 = .ok (.iadd, 1) := by decide +kernel
theorem dL_law_527 : decode cL_law 527 = .ok (.iaload, 1) := by decide +kernel
theorem dL_law_528 : decode cL_law 528 = .ok (.aload_n 0, 1) := by decide +kernel
theorem dL_law_529 : decode cL_law 529 = .ok (.iload_n 3, 1) := by decide +kernel
theorem dL_law_530 : decode cL_law 530 = .ok (.iconst 2, 1) := by decide +kernel
theorem dL_law_531 : decode cL_law 531 = .ok (.iadd, 1) := by decide +kernel
theorem dL_law_532 : decode cL_law 532 = .ok (.iaload, 1) := by decide +kernel
theorem dL_law_533 : decode cL_law 533 = .ok (.invokevirtual 78, 3) := by decide +kernel
theorem dL_law_536 : decode cL_law 536 = .ok (.aload_n 2, 1) := by decide +kernel
theorem dL_law_537 : decode cL_law 537 = .ok (.aload_n 0, 1) := by decide +kernel
theorem dL_law_538 : decode cL_law 538 = .ok (.iload_n 3, 1) := by decide +kernel
theorem dL_law_539 : decode cL_law 539 = .ok (.iconst 1, 1) := by decide +kernel
theorem dL_law_540 : decode cL_law 540 = .ok (.iadd, 1) := by decide +kernel
theorem dL_law_541 : decode cL_law 541 = .ok (.iaload, 1) := by decide +kernel
theorem dL_law_542 : decode cL_law 542 = .ok (.aload_n 0, 1) := by decide +kernel
theorem dL_law_543 : decode cL_law 543 = .ok (.iload_n 3, 1) := by decide +kernel
theorem dL_law_544 : decode cL_law 544 = .ok (.iconst 2, 1) := by decide +kernel
theorem dL_law_545 : decode cL_law 545 = .ok (.iadd, 1) := by decide +kernel
theorem dL_law_546 : decode cL_law 546 = .ok (.iaload, 1) := by decide +kernel
theorem dL_law_547 : decode cL_law 547 = .ok (.invokevirtual 81, 3) := by decide +kernel
theorem dL_law_550 : decode cL_law 550 = .ok (.if_icmp .eq 117, 3) := by decide +kernel
theorem dL_law_553 : decode cL_law 553 = .ok (.iconst 0, 1) := by decide +kernel
theorem dL_law_554 : decode cL_law 554 = .ok (.ireturn, 1) := by decide +kernel
theorem dL_law_555 : decode cL_law 555 = .ok (.aload_n 1, 1) := by decide +kernel
theorem dL_law_556 : decode cL_law 556 = .ok (.invokevirtual 82, 3) := by decide +kernel
theorem dL_law_559 : decode cL_law 559 = .ok (.aload_n 2, 1) := by decide +kernel
theorem dL_law_560 : decode cL_law 560 = .ok (.invokevirtual 85, 3) := by decide +kernel
theorem dL_law_563 : decode cL_law 563 = .ok (.if_icmp .eq 104, 3) := by decide +kernel
theorem dL_law_566 : decode cL_law 566 = .ok (.iconst 0, 1) := by decide +kernel
theorem dL_law_567 : decode cL_law 567 = .ok (.ireturn, 1) := by decide +kernel
theorem dL_law_568 : decode cL_law 568 = .ok (.aload_n 1, 1) := by decide +kernel
theorem dL_law_569 : decode cL_law 569 = .ok (.aload_n 0, 1) := by decide +kernel
theorem dL_law_570 : decode cL_law 570 = .ok (.iload_n 3, 1) := by decide +kernel
theorem dL_law_571 : decode cL_law 571 = .ok (.iconst 1, 1) := by decide +kernel
theorem dL_law_572 : decode cL_law 572 = .ok (.iadd, 1) := by decide +kernel
theorem dL_law_573 : decode cL_law 573 = .ok (.iaload, 1) := by decide +kernel
theorem dL_law_574 : decode cL_law 574 = .ok (.invokevirtual 86, 3) := by decide +kernel
theorem dL_law_577 : decode cL_law 577 = .ok (.aload_n 2, 1) := by decide +kernel
theorem dL_law_578 : decode cL_law 578 = .ok (.aload_n 0, 1) := by decide +kernel
theorem dL_law_579 : decode cL_law 579 = .ok (.iload_n 3, 1) := by decide +kernel
theorem dL_law_580 : decode cL_law 580 = .ok (.iconst 1, 1) := by decide +kernel
theorem dL_law_581 : decode cL_law 581 = .ok (.iadd, 1) := by decide +kernel
theorem dL_law_582 : decode cL_law 582 = .ok (.iaload, 1) := by decide +kernel
theorem dL_law_583 : decode cL_law 583 = .ok (.invokevirtual 89, 3) := by decide +kernel
theorem dL_law_586 : decode cL_law 586 = .ok (.if_icmp .eq 81, 3) := by decide +kernel
theorem dL_law_589 : decode cL_law 589 = .ok (.iconst 0, 1) := by decide +kernel
theorem dL_law_590 : decode cL_law 590 = .ok (.ireturn, 1) := by decide +kernel
theorem dL_law_591 : decode cL_law 591 = .ok (.aload_n 1, 1) := by decide +kernel
theorem dL_law_592 : decode cL_law 592 = .ok (.invokevirtual 90, 3) := by decide +kernel
theorem dL_law_595 : decode cL_law 595 = .ok (.aload_n 2, 1) := by decide +kernel
theorem dL_law_596 : decode cL_law 596 = .ok (.invokevirtual 93, 3) := by decide +kernel
theorem dL_law_599 : decode cL_law 599 = .ok (.if_icmp .eq 68, 3) := by decide +kernel
theorem dL_law_602 : decode cL_law 602 = .ok (.iconst 0, 1) := by decide +kernel
theorem dL_law_603 : decode cL_law 603 = .ok (.ireturn, 1) := by decide +kernel
theorem dL_law_604 : decode cL_law 604 = .ok (.aload_n 1, 1) := by decide +kernel
theorem dL_law_605 : decode cL_law 605 = .ok (.invokevirtual 94, 3) := by decide +kernel
theorem dL_law_608 : decode cL_law 608 = .ok (.aload_n 2, 1) := by decide +kernel
theorem dL_law_609 : decode cL_law 609 = .ok (.invokevirtual 97, 3) := by decide +kernel
theorem dL_law_612 : decode cL_law 612 = .ok (.if_icmp .eq 55, 3) := by decide +kernel
theorem dL_law_615 : decode cL_law 615 = .ok (.iconst 0, 1) := by decide +kernel
theorem dL_law_616 : decode cL_law 616 = .ok (.ireturn, 1) := by decide +kernel
theorem dL_law_617 : decode cL_law 617 = .ok (.aload_n 1, 1) := by decide +kernel
theorem dL_law_618 : decode cL_law 618 = .ok (.invokevirtual 98, 3) := by decide +kernel
theorem dL_law_621 : decode cL_law 621 = .ok (.aload_n 2, 1) := by decide +kernel
theorem dL_law_622 : decode cL_law 622 = .ok (.invokevirtual 101, 3) := by decide +kernel
theorem dL_law_625 : decode cL_law 625 = .ok (.if_icmp .eq 42, 3) := by decide +kernel
theorem dL_law_628 : decode cL_law 628 = .ok (.iconst 0, 1) := by decide +kernel
theorem dL_law_629 : decode cL_law 629 = .ok (.ireturn, 1) := by decide +kernel
theorem dL_law_630 : decode cL_law 630 = .ok (.aload_n 1, 1) := by decide +kernel
theorem dL_law_631 : decode cL_law 631 = .ok (.aload_n 0, 1) := by decide +kernel
theorem dL_law_632 : decode cL_law 632 = .ok (.iload_n 3, 1) := by decide +kernel
theorem dL_law_633 : decode cL_law 633 = .ok (.iconst 1, 1) := by decide +kernel
theorem dL_law_634 : decode cL_law 634 = .ok (.iadd, 1) := by decide +kernel
theorem dL_law_635 : decode cL_law 635 = .ok (.iaload, 1) := by decide +kernel
theorem dL_law_636 : decode cL_law 636 = .ok (.invokevirtual 102, 3) := by decide +kernel
theorem dL_law_639 : decode cL_law 639 = .ok (.aload_n 2, 1) := by decide +kernel
theorem dL_law_640 : decode cL_law 640 = .ok (.aload_n 0, 1) := by decide +kernel
theorem dL_law_641 : decode cL_law 641 = .ok (.iload_n 3, 1) := by decide +kernel
theorem dL_law_642 : decode cL_law 642 = .ok (.iconst 1, 1) := by decide +kernel
theorem dL_law_643 : decode cL_law 643 = .ok (.iadd, 1) := by decide +kernel
theorem dL_law_644 : decode cL_law 644 = .ok (.iaload, 1) := by decide +kernel
theorem dL_law_645 : decode cL_law 645 = .ok (.invokevirtual 105, 3) := by decide +kernel
theorem dL_law_648 : decode cL_law 648 = .ok (.if_icmp .eq 19, 3) := by decide +kernel
theorem dL_law_651 : decode cL_law 651 = .ok (.iconst 0, 1) := by decide +kernel
theorem dL_law_652 : decode cL_law 652 = .ok (.ireturn, 1) := by decide +kernel
theorem dL_law_653 : decode cL_law 653 = .ok (.aload_n 1, 1) := by decide +kernel
theorem dL_law_654 : decode cL_law 654 = .ok (.invokevirtual 106, 3) := by decide +kernel
theorem dL_law_657 : decode cL_law 657 = .ok (.aload_n 2, 1) := by decide +kernel
theorem dL_law_658 : decode cL_law 658 = .ok (.invokevirtual 110, 3) := by decide +kernel
theorem dL_law_661 : decode cL_law 661 = .ok (.lcmp, 1) := by decide +kernel
theorem dL_law_662 : decode cL_law 662 = .ok (.ifCond .eq 5, 3) := by decide +kernel
theorem dL_law_665 : decode cL_law 665 = .ok (.iconst 0, 1) := by decide +kernel
theorem dL_law_666 : decode cL_law 666 = .ok (.ireturn, 1) := by decide +kernel
theorem dL_law_667 : decode cL_law 667 = .ok (.iinc 3 4, 3) := by decide +kernel
theorem dL_law_670 : decode cL_law 670 = .ok (.goto (-652), 3) := by decide +kernel
theorem dL_law_673 : decode cL_law 673 = .ok (.iconst 1, 1) := by decide +kernel
theorem dL_law_674 : decode cL_law 674 = .ok (.ireturn, 1) := by decide +kernel
end
section
/-! ===== the small machine: a fixed shape of cells, values with cells' numbers, the judgement 'at' ===== -/
/-- the tables' words that hold in every state of the run -/
def mm_tb : List Cond := lw_tbl.filter goodWord
abbrev mm_H : Type := Nat → Nat → Int32
abbrev mm_L : Type := List (Option Value)
abbrev mm_K : Type := Nat → mm_L → List Value → mm_H → Prop
abbrev mm_S : Type := mm_K → mm_L → List Value → mm_H → Prop
abbrev mm_M : Type := MethodName × ByteArray × Nat × Option FieldType
abbrev mm_X : Type := State → (Nat → Nat) → (Nat → Prop) → Prop
abbrev mm_Po : Type := Option Value → mm_H → Prop
def mm_rv (ad : Nat → Nat) (v : Value) : Value := match v with
  | .ref a => .ref (ad a)
  | w => w
theorem mm_rv_cat (ad : Nat → Nat) (v : Value) : (mm_rv ad v).category = v.category := by cases v <;> rfl
/-- what the cells are: an array of ints of a length, or an object: its class's number, its fields: an int, or a cell for good -/
def mm_shp : List (Nat ⊕ (Nat × List (Option Nat))) := [
  .inr (4, [some 1, some 5, some 7, some 9, some 15, none, none, none]),
  .inr (1, [some 2, some 3, some 4, none]),
  .inl 8, .inl 8, .inl 8,
  .inr (3, [some 6, none, none, some 1, none, none, none]),
  .inl 8,
  .inr (2, [some 8, some 1, some 5]),
  .inl 8,
  .inr (0, [some 10, some 1, some 11, some 12, some 13, some 14]),
  .inl 8, .inl 8, .inl 3125, .inl 3125, .inl 3125,
  .inl 8,
  .inr (5, [none, some 17, some 18, some 19, some 20, none, some 21, some 22, none, some 23, some 24, none]),
  .inl 8, .inl 8, .inl 8, .inl 8, .inl 8, .inl 8, .inl 8, .inl 3125]
def mm_plc : Nat → Int32 := fun k => match k with
  | 0 => 1
  | 1 => 5
  | 2 => 25
  | 3 => 125
  | _ => 625
/-- the length of an array cell; 0: it is none -/
def mm_len (a : Nat) : Nat := match a with
  | 0 | 1 | 5 | 7 | 9 | 16 => 0
  | 2 | 3 | 4 | 6 | 8 | 10 | 11 | 15 | 17 | 18 | 19 | 20 | 21 | 22 | 23 => 8
  | 12 | 13 | 14 | 24 => 3125
  | 25 => 5
  | _ => 0
def mm_fv (ad : Nat → Nat) (h : mm_H) (i k : Nat) (f : Option Nat) : Value := match f with
  | none => .int (h i k)
  | some r => .ref (ad r)
def mm_cell (ad : Nat → Nat) (cA : ClassId) (h : mm_H) (i : Nat) (x : Nat ⊕ (Nat × List (Option Nat))) : Nat × va_E := (ad i, match x with
  | .inl n => .inl (cA, n, .inl (h i))
  | .inr q => .inr (q.1, q.2.mapIdx (mm_fv ad h i)))
def mm_wld (ad : Nat → Nat) (cA : ClassId) (h : mm_H) : va_W := mm_shp.mapIdx (mm_cell ad cA h)
def mm_set (h : mm_H) (i k : Nat) (v : Int32) : mm_H := fun a b => if a = i then (if b = k then v else h a b) else h a b
def mm_setA (h : mm_H) (i : Nat) (f : Nat → Int32) : mm_H := fun a => if a = i then f else h a
theorem mm_wld_at {ad : Nat → Nat} {cA : ClassId} {h : mm_H} {i : Nat} {x : Nat ⊕ (Nat × List (Option Nat))} (hx : mm_shp[i]? = some x) : (mm_wld ad cA h)[i]? = some (mm_cell ad cA h i x) := by
  unfold mm_wld
  rw [List.getElem?_mapIdx, hx]
  rfl
theorem mm_wld_addr {ad : Nat → Nat} {cA : ClassId} {h : mm_H} {i : Nat} {q : Nat × va_E} (hq : (mm_wld ad cA h)[i]? = some q) : i < 25 ∧ q.1 = ad i := by
  unfold mm_wld at hq
  rw [List.getElem?_mapIdx] at hq
  cases hx : mm_shp[i]? with
  | none => rw [hx] at hq; cases hq
  | some x =>
    rw [hx] at hq
    cases hq
    exact ⟨(List.getElem?_eq_some_iff.mp hx).1, rfl⟩
theorem mm_wld_in {ad : Nat → Nat} {cA : ClassId} {h : mm_H} {i : Nat} (hi : i < 25) : ∃ e : va_E, (mm_wld ad cA h)[i]? = some (ad i, e) := by
  have hl : i < mm_shp.length := hi
  exact ⟨_, mm_wld_at (List.getElem?_eq_getElem hl)⟩
theorem mm_wld_len (ad : Nat → Nat) (cA : ClassId) (h : mm_H) : (mm_wld ad cA h).length = 25 := by
  unfold mm_wld
  rw [List.length_mapIdx]
  rfl
/-- a field is written -/
theorem mm_wld_set {ad : Nat → Nat} {cA : ClassId} {h : mm_H} {i ci k : Nat} {fs : List (Option Nat)} {v : Int32} (hx : mm_shp[i]? = some (.inr (ci, fs))) (hk : fs[k]? = some none) : (mm_wld ad cA h).set i (ad i, .inr (ci, (fs.mapIdx (mm_fv ad h i)).set k (.int v))) = mm_wld ad cA (mm_set h i k v) := by
  apply List.ext_getElem?
  intro j
  unfold mm_wld
  by_cases hj : i = j
  · subst hj
    have hl : i < (mm_shp.mapIdx (mm_cell ad cA h)).length := by rw [List.length_mapIdx]; exact (List.getElem?_eq_some_iff.mp hx).1
    rw [List.getElem?_set_self hl, List.getElem?_mapIdx, hx]
    show _ = some (mm_cell ad cA (mm_set h i k v) i (.inr (ci, fs)))
    unfold mm_cell
    dsimp only
    congr 4
    apply List.ext_getElem?
    intro b
    by_cases hb : k = b
    · subst hb
      rw [List.getElem?_set_self (by rw [List.length_mapIdx]; exact (List.getElem?_eq_some_iff.mp hk).1), List.getElem?_mapIdx, hk]
      simp [mm_fv, mm_set]
    · rw [List.getElem?_set_ne hb, List.getElem?_mapIdx, List.getElem?_mapIdx]
      cases fs[b]? with
      | none => rfl
      | some f => cases f with
        | none => simp [mm_fv, mm_set, Ne.symm hb]
        | some r => rfl
  · rw [List.getElem?_set_ne hj, List.getElem?_mapIdx, List.getElem?_mapIdx]
    cases mm_shp[j]? with
    | none => rfl
    | some x =>
      cases x with
      | inl n =>
        have e : mm_set h i k v j = h j := by funext b; simp [mm_set, Ne.symm hj]
        simp [mm_cell, e]
      | inr q => 
        have e : mm_fv ad (mm_set h i k v) j = mm_fv ad h j := by
          funext b f
          cases f with
          | none => simp [mm_fv, mm_set, Ne.symm hj]
          | some r => rfl
        simp [mm_cell, e]
/-- a whole array is written -/
theorem mm_wld_setA {ad : Nat → Nat} {cA : ClassId} {h : mm_H} {i n : Nat} {f : Nat → Int32} (hx : mm_shp[i]? = some (.inl n)) : (mm_wld ad cA h).set i (ad i, .inl (cA, n, .inl f)) = mm_wld ad cA (mm_setA h i f) := by
  apply List.ext_getElem?
  intro j
  unfold mm_wld
  by_cases hj : i = j
  · subst hj
    have hl : i < (mm_shp.mapIdx (mm_cell ad cA h)).length := by rw [List.length_mapIdx]; exact (List.getElem?_eq_some_iff.mp hx).1
    rw [List.getElem?_set_self hl, List.getElem?_mapIdx, hx]
    simp [mm_cell, mm_setA]
  · rw [List.getElem?_set_ne hj, List.getElem?_mapIdx, List.getElem?_mapIdx]
    cases mm_shp[j]? with
    | none => rfl
    | some x =>
      cases x with
      | inl n => simp [mm_cell, mm_setA, Ne.symm hj]
      | inr q => 
        have e : mm_fv ad (mm_setA h i f) j = mm_fv ad h j := by
          funext b g
          cases g with
          | none => simp [mm_fv, mm_setA, Ne.symm hj]
          | some r => rfl
        simp [mm_cell, e]
theorem mm_setA_upd (h : mm_H) (i k : Nat) (v : Int32) : mm_setA h i (upd (h i) k v) = mm_set h i k v := by
  funext a b
  unfold mm_setA mm_set upd
  by_cases ha : a = i
  · subst ha; simp
  · simp [ha]
theorem mm_len_at {a : Nat} (h : 0 < mm_len a) (h25 : a ≠ 25) : mm_shp[a]? = some (.inl (mm_len a)) := by
  have hl : a < 25 := by
    apply Nat.lt_of_not_le
    intro hle
    have : mm_len a = 0 := by
      unfold mm_len
      split <;> first | omega | rfl
    omega
  have key : ∀ a : Fin 25, 0 < mm_len a.val → mm_shp[a.val]? = some (.inl (mm_len a.val)) := by decide
  exact key ⟨a, hl⟩ h
/-! locals by their places -/
def mm_lv (ad : Nat → Nat) (ls : Array Slot) (nL : Nat) (L : mm_L) : Prop := ls.size = nL ∧ lv_wf ls ∧ ∀ (i : Nat) (v : Value), L[i]? = some (some v) → ls[i]? = some (.val (mm_rv ad v))
def mm_as (ad : Nat → Nat) : Nat → mm_L → List (Nat × Value)
  | _, [] => []
  | i, none :: L => mm_as ad (i + 1) L
  | i, some v :: L => (i, mm_rv ad v) :: mm_as ad (i + 1) L
theorem mm_as_mem {ad : Nat → Nat} : ∀ {L : mm_L} {i : Nat} {q : Nat × Value}, q ∈ mm_as ad i L → ∃ (k : Nat) (v : Value), q.1 = i + k ∧ L[k]? = some (some v) ∧ q.2 = mm_rv ad v
  | [], i, q, h => by cases h
  | none :: L, i, q, h => by
    obtain ⟨k, v, h1, h2, h3⟩ := mm_as_mem (L := L) h
    exact ⟨k + 1, v, by omega, h2, h3⟩
  | some w :: L, i, q, h => by
    rcases List.mem_cons.mp h with h | h
    · subst h
      exact ⟨0, w, rfl, rfl, rfl⟩
    · obtain ⟨k, v, h1, h2, h3⟩ := mm_as_mem (L := L) h
      exact ⟨k + 1, v, by omega, h2, h3⟩
theorem mm_mem_as {ad : Nat → Nat} : ∀ {L : mm_L} {i k : Nat} {v : Value}, L[k]? = some (some v) → (i + k, mm_rv ad v) ∈ mm_as ad i L
  | [], i, k, v, h => by simp at h
  | none :: L, i, k, v, h => by
    cases k with
    | zero => simp at h
    | succ k =>
      have := mm_mem_as (ad := ad) (L := L) (i := i + 1) (k := k) (v := v) (by simpa using h)
      have e : i + 1 + k = i + (k + 1) := by omega
      rw [e] at this
      exact this
  | some w :: L, i, k, v, h => by
    cases k with
    | zero =>
      have : w = v := by simpa using h
      subst this
      exact List.mem_cons_self
    | succ k =>
      have := mm_mem_as (ad := ad) (L := L) (i := i + 1) (k := k) (v := v) (by simpa using h)
      have e : i + 1 + k = i + (k + 1) := by omega
      rw [e] at this
      exact List.mem_cons_of_mem _ this
theorem mm_lv.has {ad : Nat → Nat} {ls : Array Slot} {nL : Nat} {L : mm_L} (h : mm_lv ad ls nL L) : lv_has ls nL (mm_as ad 0 L) := by
  refine ⟨h.1, h.2.1, fun q hq => ?_⟩
  obtain ⟨k, v, h1, h2, h3⟩ := mm_as_mem hq
  rw [h1, h3, Nat.zero_add]
  exact h.2.2 k v h2
def mm_nth {α : Type} : List α → Nat → Option α
  | [], _ => none
  | a :: _, 0 => some a
  | _ :: l, n + 1 => mm_nth l n
theorem mm_nth_eq {α : Type} : ∀ (l : List α) (n : Nat), mm_nth l n = l[n]?
  | [], n => by simp [mm_nth]
  | a :: l, 0 => by simp [mm_nth]
  | a :: l, n + 1 => by simp [mm_nth, mm_nth_eq l n]
def mm_put {α : Type} : List α → Nat → α → List α
  | [], _, _ => []
  | _ :: l, 0, x => x :: l
  | a :: l, n + 1, x => a :: mm_put l n x
theorem mm_put_eq {α : Type} : ∀ (l : List α) (n : Nat) (x : α), mm_put l n x = l.set n x
  | [], n, x => by simp [mm_put]
  | a :: l, 0, x => by simp [mm_put]
  | a :: l, n + 1, x => by simp [mm_put, mm_put_eq l n x]
/-- a value of one word comes into a place: a long that began one place ahead is gone -/
def mm_sto (L : mm_L) (i : Nat) (v : Value) : mm_L := match i with
  | 0 => mm_put L 0 (some v)
  | j + 1 => match mm_nth L j with
    | some (some (.long _)) => mm_put (mm_put L j none) (j + 1) (some v)
    | some (some (.double _)) => mm_put (mm_put L j none) (j + 1) (some v)
    | _ => mm_put L (j + 1) (some v)
def mm_stoL (L : mm_L) (i : Nat) (v : Value) : mm_L := mm_put (mm_sto L i v) (i + 1) none
theorem mm_sto_at {L : mm_L} {i j : Nat} {v w : Value} (h : (mm_sto L i v)[j]? = some (some w)) : (j = i ∧ w = v) ∨ (j ≠ i ∧ L[j]? = some (some w) ∧ ¬ (j + 1 = i ∧ w.category = 2)) := by
  have base : ∀ (X : mm_L) (i : Nat), (X.set i (some v))[j]? = some (some w) → (j = i ∧ w = v) ∨ (j ≠ i ∧ X[j]? = some (some w)) := by
    intro X i hX
    by_cases hj : i = j
    · subst hj
      by_cases hl : i < X.length
      · rw [List.getElem?_set_self hl] at hX
        cases hX
        exact Or.inl ⟨rfl, rfl⟩
      · rw [List.getElem?_eq_none (by rw [List.length_set]; omega)] at hX
        cases hX
    · rw [List.getElem?_set_ne hj] at hX
      exact Or.inr ⟨Ne.symm hj, hX⟩
  have kill : ∀ (i : Nat), (mm_put (mm_put L i none) (i + 1) (some v))[j]? = some (some w) → (j = i + 1 ∧ w = v) ∨ (j ≠ i + 1 ∧ L[j]? = some (some w) ∧ ¬ (j + 1 = i + 1 ∧ w.category = 2)) := by
    intro i hX
    rw [mm_put_eq, mm_put_eq] at hX
    rcases base _ _ hX with h1 | ⟨h1, h2⟩
    · exact Or.inl h1
    · by_cases hj : i = j
      · subst hj
        by_cases hl : i < L.length
        · rw [List.getElem?_set_self hl] at h2
          cases h2
        · rw [List.getElem?_eq_none (by rw [List.length_set]; omega)] at h2
          cases h2
      · rw [List.getElem?_set_ne hj] at h2
        exact Or.inr ⟨h1, h2, fun hh => hj (by omega)⟩
  unfold mm_sto at h
  split at h
  · rw [mm_put_eq] at h
    rcases base _ _ h with h1 | ⟨h1, h2⟩
    · exact Or.inl h1
    · exact Or.inr ⟨h1, h2, fun hh => by omega⟩
  · rename_i i' 
    split at h
    · exact kill _ h
    · exact kill _ h
    · rename_i hn1 hn2
      rw [mm_put_eq] at h
      rcases base _ _ h with h1 | ⟨h1, h2⟩
      · exact Or.inl h1
      · refine Or.inr ⟨h1, h2, fun hh => ?_⟩
        have hj : j = i' := by omega
        subst hj
        rw [mm_nth_eq] at hn1 hn2
        cases w with
        | long x => exact hn1 x h2
        | double x => exact hn2 x h2
        | _ => simp [Value.category] at hh
theorem mm_lv.sto {ad : Nat → Nat} {ls' : Array Slot} {nL i : Nat} {L : mm_L} {v : Value} (h : lv_has ls' nL ((i, mm_rv ad v) :: (mm_as ad 0 L).filter (fun q => !(q.1 == i) && !(q.1 + 1 == i && q.2.category == 2)))) : mm_lv ad ls' nL (mm_sto L i v) := by
  refine ⟨h.1, h.2.1, fun j w hj => ?_⟩
  rcases mm_sto_at hj with ⟨h1, h2⟩ | ⟨h1, h2, h3⟩
  · subst h1; subst h2
    exact h.2.2 (j, mm_rv ad w) List.mem_cons_self
  · refine h.2.2 (j, mm_rv ad w) (List.mem_cons_of_mem _ (List.mem_filter.mpr ⟨?_, ?_⟩))
    · have := mm_mem_as (ad := ad) (i := 0) h2
      rwa [Nat.zero_add] at this
    · simp only [Bool.and_eq_true, Bool.not_eq_true', beq_eq_false_iff_ne, ne_eq]
      refine ⟨h1, ?_⟩
      simp only [Bool.and_eq_false_iff, beq_eq_false_iff_ne, ne_eq]
      by_cases hh : j + 1 = i
      · exact Or.inr (fun hc => h3 ⟨hh, by rw [mm_rv_cat] at hc; exact hc⟩)
      · exact Or.inl hh
theorem mm_lv.stoL {ad : Nat → Nat} {ls' : Array Slot} {nL i : Nat} {L : mm_L} {v : Value} (h : lv_has ls' nL ((i, mm_rv ad v) :: (mm_as ad 0 L).filter (fun q => !(q.1 == i) && (!(q.1 == i + 1) && !(q.1 + 1 == i && q.2.category == 2))))) : mm_lv ad ls' nL (mm_stoL L i v) := by
  refine ⟨h.1, h.2.1, fun j w hj => ?_⟩
  unfold mm_stoL at hj
  rw [mm_put_eq] at hj
  by_cases hji : i + 1 = j
  · subst hji
    by_cases hl : i + 1 < (mm_sto L i v).length
    · rw [List.getElem?_set_self hl] at hj
      cases hj
    · rw [List.getElem?_eq_none (by rw [List.length_set]; omega)] at hj
      cases hj
  · rw [List.getElem?_set_ne hji] at hj
    rcases mm_sto_at hj with ⟨h1, h2⟩ | ⟨h1, h2, h3⟩
    · subst h1; subst h2
      exact h.2.2 (j, mm_rv ad w) List.mem_cons_self
    · refine h.2.2 (j, mm_rv ad w) (List.mem_cons_of_mem _ (List.mem_filter.mpr ⟨?_, ?_⟩))
      · have := mm_mem_as (ad := ad) (i := 0) h2
        rwa [Nat.zero_add] at this
      · simp only [Bool.and_eq_true, Bool.not_eq_true', beq_eq_false_iff_ne, ne_eq]
        refine ⟨h1, Ne.symm hji, ?_⟩
        simp only [Bool.and_eq_false_iff, beq_eq_false_iff_ne, ne_eq]
        by_cases hh : j + 1 = i
        · exact Or.inr (fun hc => h3 ⟨hh, by rw [mm_rv_cat] at hc; exact hc⟩)
        · exact Or.inl hh
theorem mm_lv.at {ad : Nat → Nat} {ls : Array Slot} {nL i : Nat} {L : mm_L} {v : Value} (h : mm_lv ad ls nL L) (hi : mm_nth L i = some (some v)) : ls[i]? = some (.val (mm_rv ad v)) := h.2.2 i v (by rw [← mm_nth_eq]; exact hi)
/-! ===== the judgement ===== -/
def mm_St (ad : Nat → Nat) (A : Nat → Prop) (U : State) : Prop := va_Z RX1 "PLACES" "[I" (.ref (ad 25)) A U U.heap ∧ va_T .int (ad 25) 5 (fun j => .int (mm_plc j)) A U U.heap
def mm_Wd (D : va_G) (ad : Nat → Nat) (cA : ClassId) (A : Nat → Prop) (H0 : Heap) (h : mm_H) (H : Heap) (locs : List Loc) : Prop := va_P D vwCl (mm_wld ad cA h) H ∧ va_D A (mm_wld ad cA h) ∧ va_S A H0 H locs ∧ h 25 = mm_plc
def mm_Cx (d : Nat) (M : mm_M) (E : mm_X) (p : Program) (R : Room) (s : State) (m : MethodId) (args : Array Value) (c : Code) (cells slots : Nat) (D : va_G) (ad : Nat → Nat) (cA : ClassId) (A : Nat → Prop) : Prop :=
  p.tables.exec = Jvm.exec ∧ c.code = M.2.1 ∧ c.maxLocals = M.2.2.1 ∧ s.vm.findClass M.1.cls = some m.cls ∧ (∀ w ∈ mm_tb, w.before args s = true) ∧ va_K D vwCl [(cA, .int)] s ∧ (∀ q, s.heap.size ≤ q → A q) ∧ mm_St ad A s ∧ d ≤ R.frames ∧ 40 * d ≤ R.locals ∧ cells ≤ R.cells ∧ slots ≤ R.slots ∧ E s ad A
def mm_rt (ret : Option FieldType) (r : Option Value) (i : Instr) : Prop := (ret = some .int ∧ i = .ireturn ∧ ∃ v : Int32, r = some (.int v)) ∨ (ret = some .boolean ∧ i = .ireturn ∧ ∃ v : Int32, r = some (.int v) ∧ (v = 0 ∨ v = 1)) ∨ (ret = some .long ∧ i = .lreturn ∧ ∃ v : Int64, r = some (.long v)) ∨ (ret = none ∧ i = .return_ ∧ r = none)
def mm_Rt (M : mm_M) (post : mm_Po) (p : Program) (l : Launch) (e : Env) (R : Room) (s : State) (m : MethodId) (args : Array Value) (below : List Frame) (meth : Method) (c : Code) (cells slots : Nat) (Q : State → Prop) (D : va_G) (ad : Nat → Nat) (cA : ClassId) (A : Nat → Prop) : Prop :=
  ∀ (pc : Nat) (ls : Array Slot) (h : mm_H) (H : Heap) (locs : List Loc) (r : Option Value) (i : Instr), mm_Wd D ad cA A s.heap h H locs → post r h → mm_rt M.2.2.2 r i → decode M.2.1 pc = .ok (i, 1) → W p l e R s m args below meth c H locs cells slots Q (F0 m pc ls r.toList)
def mm_At (l : Launch) (d : Nat) (M : mm_M) (E : mm_X) (post : mm_Po) (pc : Nat) (L : mm_L) (st : List Value) (h : mm_H) : Prop :=
  ∀ (p : Program) (e : Env) (R : Room) (s : State) (m : MethodId) (args : Array Value) (below : List Frame) (meth : Method) (c : Code) (cells slots : Nat) (Q : State → Prop) (D : va_G) (ad : Nat → Nat) (cA : ClassId) (A : Nat → Prop) (H : Heap) (locs : List Loc) (ls : Array Slot),
    mm_Cx d M E p R s m args c cells slots D ad cA A → mm_Rt M post p l e R s m args below meth c cells slots Q D ad cA A → mm_Wd D ad cA A s.heap h H locs → mm_lv ad ls M.2.2.1 L → W p l e R s m args below meth c H locs cells slots Q (F0 m pc ls (st.map (mm_rv ad)))
def mm_Sn (l : Launch) (d : Nat) (M : mm_M) (E : mm_X) (post : mm_Po) (q : Nat × mm_S) : Prop := ∀ k : mm_K, (∀ pc L st h, k pc L st h → mm_At l d M E post pc L st h) → ∀ L st h, q.2 k L st h → mm_At l d M E post q.1 L st h
def mm_in (l : List Nat) (a : Nat) : Bool := match l with
  | [] => false
  | b :: l => match Nat.beq a b with
    | true => true
    | false => mm_in l a
/-- from a place on, forward through the rows; what is jumped to behind, or is a cut, is the judgement itself -/
def mm_go (k : mm_K) (cuts : List Nat) : List (Nat × mm_S) → mm_K
  | [], pc, L, st, h => k pc L st h
  | (q, f) :: r, pc, L, st, h => match Nat.beq pc q with
    | true => f (fun pc' L' st' h' => match mm_in cuts pc' with
      | true => k pc' L' st' h'
      | false => mm_go k cuts r pc' L' st' h') L st h
    | false => mm_go k cuts r pc L st h
theorem mm_go_ok {l : Launch} {d : Nat} {M : mm_M} {E : mm_X} {post : mm_Po} (cuts : List Nat) : ∀ (rows : List (Nat × mm_S)), (∀ q ∈ rows, mm_Sn l d M E post q) → ∀ pc L st h, mm_go (mm_At l d M E post) cuts rows pc L st h → mm_At l d M E post pc L st h
  | [], _, pc, L, st, h, hg => hg
  | (q, f) :: r, hs, pc, L, st, h, hg => by
    have ih := mm_go_ok cuts r (fun q hq => hs q (List.mem_cons_of_mem _ hq))
    unfold mm_go at hg
    split at hg
    · rename_i hb
      have hpc : pc = q := Nat.eq_of_beq_eq_true hb
      subst hpc
      refine hs (pc, f) List.mem_cons_self _ (fun pc' L' st' h' hk => ?_) L st h hg
      split at hk
      · exact hk
      · exact ih _ _ _ _ hk
    · exact ih _ _ _ _ hg
end
section
/-! ===== the rows of the small machine ===== -/
section SE
variable {l : Launch} {d : Nat} {M : mm_M} {E : mm_X} {post : mm_Po} {q : Nat}

def se_int (v : Int32) (n : Nat) : mm_S := fun k L st h => k n L (.int v :: st) h
def se_lng (v : Int64) (n : Nat) : mm_S := fun k L st h => k n L (.long v :: st) h
theorem sn_iconst {n0 : Int} {v : Int32} (hd : decode M.2.1 q = .ok (.iconst n0, 1)) (hv : Int32.ofInt n0 = v) : mm_Sn l d M E post (q, se_int v (q + 1)) := by
  intro k hk L st h hs
  intro p e R s m args below meth c cells slots Q D ad cA A H locs ls hC hR hW hL
  exact lv_iconst hC.1 hC.2.1 hd hv (hk _ _ _ _ hs p e R s m args below meth c cells slots Q D ad cA A H locs ls hC hR hW hL)
theorem sn_bipush {n0 : Int} {v : Int32} (hd : decode M.2.1 q = .ok (.bipush n0, 2)) (hv : (Int8.ofInt n0).toInt32 = v) : mm_Sn l d M E post (q, se_int v (q + 2)) := by
  intro k hk L st h hs
  intro p e R s m args below meth c cells slots Q D ad cA A H locs ls hC hR hW hL
  exact lv_bipush hC.1 hC.2.1 hd hv (hk _ _ _ _ hs p e R s m args below meth c cells slots Q D ad cA A H locs ls hC hR hW hL)
theorem sn_sipush {n0 : Int} {v : Int32} (hd : decode M.2.1 q = .ok (.sipush n0, 3)) (hv : (Int16.ofInt n0).toInt32 = v) : mm_Sn l d M E post (q, se_int v (q + 3)) := by
  intro k hk L st h hs
  intro p e R s m args below meth c cells slots Q D ad cA A H locs ls hC hR hW hL
  exact lv_sipush hC.1 hC.2.1 hd hv (hk _ _ _ _ hs p e R s m args below meth c cells slots Q D ad cA A H locs ls hC hR hW hL)
theorem sn_lconst {n0 : Fin 2} {v : Int64} (hd : decode M.2.1 q = .ok (.lconst n0, 1)) (hv : Int64.ofNat (n0 : Nat) = v) : mm_Sn l d M E post (q, se_lng v (q + 1)) := by
  intro k hk L st h hs
  intro p e R s m args below meth c cells slots Q D ad cA A H locs ls hC hR hW hL
  exact lv_lconst hC.1 hC.2.1 hd hv (hk _ _ _ _ hs p e R s m args below meth c cells slots Q D ad cA A H locs ls hC hR hW hL)
theorem sn_ldc {idx : Nat} {v : Int32} (hd : decode M.2.1 q = .ok (.ldc idx, 2)) (hv : Cond.constant M.1.cls idx v ∈ mm_tb) : mm_Sn l d M E post (q, se_int v (q + 2)) := by
  intro k hk L st h hs
  intro p e R s m args below meth c cells slots Q D ad cA A H locs ls hC hR hW hL
  exact lv_ldc hC.1 hC.2.1 hC.2.2.2.1 (hC.2.2.2.2.1 _ hv) hd (hk _ _ _ _ hs p e R s m args below meth c cells slots Q D ad cA A H locs ls hC hR hW hL)
theorem sn_ldcw {idx : Nat} {v : Int32} (hd : decode M.2.1 q = .ok (.ldc_w idx, 3)) (hv : Cond.constant M.1.cls idx v ∈ mm_tb) : mm_Sn l d M E post (q, se_int v (q + 3)) := by
  intro k hk L st h hs
  intro p e R s m args below meth c cells slots Q D ad cA A H locs ls hC hR hW hL
  exact lv_ldcw hC.1 hC.2.1 hC.2.2.2.1 (hC.2.2.2.2.1 _ hv) hd (hk _ _ _ _ hs p e R s m args below meth c cells slots Q D ad cA A H locs ls hC hR hW hL)
theorem sn_ldc2 {idx : Nat} {v : Int64} (hd : decode M.2.1 q = .ok (.ldc2_w idx, 3)) (hv : Cond.constantLong M.1.cls idx v ∈ mm_tb) : mm_Sn l d M E post (q, se_lng v (q + 3)) := by
  intro k hk L st h hs
  intro p e R s m args below meth c cells slots Q D ad cA A H locs ls hC hR hW hL
  exact lv_ldc2 hC.1 hC.2.1 hC.2.2.2.1 (hC.2.2.2.2.1 _ hv) hd (hk _ _ _ _ hs p e R s m args below meth c cells slots Q D ad cA A H locs ls hC hR hW hL)
def se_iload (i n : Nat) : mm_S := fun k L st h => match mm_nth L i with
  | some (some (.int x)) => k n L (.int x :: st) h
  | _ => False
theorem sn_iload_n {j : Fin 4} {i : Nat} (hd : decode M.2.1 q = .ok (.iload_n j, 1)) (hi : (j : Nat) = i) : mm_Sn l d M E post (q, se_iload i (q + 1)) := by
  intro k hk L st h hs
  unfold se_iload at hs
  dsimp only at hs
  split at hs
  · rename_i x hx
    intro p e R s m args below meth c cells slots Q D ad cA A H locs ls hC hR hW hL
    exact lv_iload_n hC.1 hC.2.1 hd hi (hL.at hx) (hk _ _ _ _ hs p e R s m args below meth c cells slots Q D ad cA A H locs ls hC hR hW hL)
  · exact hs.elim
theorem sn_iload {i : Nat} (hd : decode M.2.1 q = .ok (.iload i, 2)) : mm_Sn l d M E post (q, se_iload i (q + 2)) := by
  intro k hk L st h hs
  unfold se_iload at hs
  dsimp only at hs
  split at hs
  · rename_i x hx
    intro p e R s m args below meth c cells slots Q D ad cA A H locs ls hC hR hW hL
    exact lv_iload hC.1 hC.2.1 hd (hL.at hx) (hk _ _ _ _ hs p e R s m args below meth c cells slots Q D ad cA A H locs ls hC hR hW hL)
  · exact hs.elim
def se_lload (i n : Nat) : mm_S := fun k L st h => match mm_nth L i with
  | some (some (.long x)) => k n L (.long x :: st) h
  | _ => False
theorem sn_lload_n {j : Fin 4} {i : Nat} (hd : decode M.2.1 q = .ok (.lload_n j, 1)) (hi : (j : Nat) = i) : mm_Sn l d M E post (q, se_lload i (q + 1)) := by
  intro k hk L st h hs
  unfold se_lload at hs
  dsimp only at hs
  split at hs
  · rename_i x hx
    intro p e R s m args below meth c cells slots Q D ad cA A H locs ls hC hR hW hL
    exact lv_lload_n hC.1 hC.2.1 hd hi (hL.at hx) (hk _ _ _ _ hs p e R s m args below meth c cells slots Q D ad cA A H locs ls hC hR hW hL)
  · exact hs.elim
theorem sn_lload {i : Nat} (hd : decode M.2.1 q = .ok (.lload i, 2)) : mm_Sn l d M E post (q, se_lload i (q + 2)) := by
  intro k hk L st h hs
  unfold se_lload at hs
  dsimp only at hs
  split at hs
  · rename_i x hx
    intro p e R s m args below meth c cells slots Q D ad cA A H locs ls hC hR hW hL
    exact lv_lload hC.1 hC.2.1 hd (hL.at hx) (hk _ _ _ _ hs p e R s m args below meth c cells slots Q D ad cA A H locs ls hC hR hW hL)
  · exact hs.elim
def se_aload (i n : Nat) : mm_S := fun k L st h => match mm_nth L i with
  | some (some (.ref x)) => k n L (.ref x :: st) h
  | _ => False
theorem sn_aload_n {j : Fin 4} {i : Nat} (hd : decode M.2.1 q = .ok (.aload_n j, 1)) (hi : (j : Nat) = i) : mm_Sn l d M E post (q, se_aload i (q + 1)) := by
  intro k hk L st h hs
  unfold se_aload at hs
  dsimp only at hs
  split at hs
  · rename_i x hx
    intro p e R s m args below meth c cells slots Q D ad cA A H locs ls hC hR hW hL
    exact lv_aload_n hC.1 hC.2.1 hd hi (hL.at hx) (hk _ _ _ _ hs p e R s m args below meth c cells slots Q D ad cA A H locs ls hC hR hW hL)
  · exact hs.elim
theorem sn_aload {i : Nat} (hd : decode M.2.1 q = .ok (.aload i, 2)) : mm_Sn l d M E post (q, se_aload i (q + 2)) := by
  intro k hk L st h hs
  unfold se_aload at hs
  dsimp only at hs
  split at hs
  · rename_i x hx
    intro p e R s m args below meth c cells slots Q D ad cA A H locs ls hC hR hW hL
    exact lv_aload hC.1 hC.2.1 hd (hL.at hx) (hk _ _ _ _ hs p e R s m args below meth c cells slots Q D ad cA A H locs ls hC hR hW hL)
  · exact hs.elim
def se_istore (i n : Nat) : mm_S := fun k L st h => match st with
  | .int x :: r => k n (mm_sto L i (.int x)) r h
  | _ => False
theorem sn_istore_n {j : Fin 4} {i : Nat} (hd : decode M.2.1 q = .ok (.istore_n j, 1)) (hi : (j : Nat) = i) (hn : i < M.2.2.1) : mm_Sn l d M E post (q, se_istore i (q + 1)) := by
  intro k hk L st h hs
  unfold se_istore at hs
  dsimp only at hs
  split at hs
  · rename_i x r
    intro p e R s m args below meth c cells slots Q D ad cA A H locs ls hC hR hW hL
    exact lv_istore_n hC.1 hC.2.1 hd hi hL.has hn rfl (fun ls' hl' => hk _ _ _ _ hs p e R s m args below meth c cells slots Q D ad cA A H locs ls' hC hR hW (mm_lv.sto (v := .int x) hl'))
  · exact hs.elim
theorem sn_istore {i : Nat} (hd : decode M.2.1 q = .ok (.istore i, 2)) (hn : i < M.2.2.1) : mm_Sn l d M E post (q, se_istore i (q + 2)) := by
  intro k hk L st h hs
  unfold se_istore at hs
  dsimp only at hs
  split at hs
  · rename_i x r
    intro p e R s m args below meth c cells slots Q D ad cA A H locs ls hC hR hW hL
    exact lv_istore hC.1 hC.2.1 hd hL.has hn rfl (fun ls' hl' => hk _ _ _ _ hs p e R s m args below meth c cells slots Q D ad cA A H locs ls' hC hR hW (mm_lv.sto (v := .int x) hl'))
  · exact hs.elim
def se_lstore (i n : Nat) : mm_S := fun k L st h => match st with
  | .long x :: r => k n (mm_stoL L i (.long x)) r h
  | _ => False
theorem sn_lstore_n {j : Fin 4} {i : Nat} (hd : decode M.2.1 q = .ok (.lstore_n j, 1)) (hi : (j : Nat) = i) (hn : i + 1 < M.2.2.1) : mm_Sn l d M E post (q, se_lstore i (q + 1)) := by
  intro k hk L st h hs
  unfold se_lstore at hs
  dsimp only at hs
  split at hs
  · rename_i x r
    intro p e R s m args below meth c cells slots Q D ad cA A H locs ls hC hR hW hL
    exact lv_lstore_n hC.1 hC.2.1 hd hi hL.has hn rfl (fun ls' hl' => hk _ _ _ _ hs p e R s m args below meth c cells slots Q D ad cA A H locs ls' hC hR hW (mm_lv.stoL (v := .long x) hl'))
  · exact hs.elim
theorem sn_lstore {i : Nat} (hd : decode M.2.1 q = .ok (.lstore i, 2)) (hn : i + 1 < M.2.2.1) : mm_Sn l d M E post (q, se_lstore i (q + 2)) := by
  intro k hk L st h hs
  unfold se_lstore at hs
  dsimp only at hs
  split at hs
  · rename_i x r
    intro p e R s m args below meth c cells slots Q D ad cA A H locs ls hC hR hW hL
    exact lv_lstore hC.1 hC.2.1 hd hL.has hn rfl (fun ls' hl' => hk _ _ _ _ hs p e R s m args below meth c cells slots Q D ad cA A H locs ls' hC hR hW (mm_lv.stoL (v := .long x) hl'))
  · exact hs.elim
def se_astore (i n : Nat) : mm_S := fun k L st h => match st with
  | .ref x :: r => k n (mm_sto L i (.ref x)) r h
  | _ => False
theorem sn_astore_n {j : Fin 4} {i : Nat} (hd : decode M.2.1 q = .ok (.astore_n j, 1)) (hi : (j : Nat) = i) (hn : i < M.2.2.1) : mm_Sn l d M E post (q, se_astore i (q + 1)) := by
  intro k hk L st h hs
  unfold se_astore at hs
  dsimp only at hs
  split at hs
  · rename_i x r
    intro p e R s m args below meth c cells slots Q D ad cA A H locs ls hC hR hW hL
    exact lv_astore_n hC.1 hC.2.1 hd hi hL.has hn rfl (fun ls' hl' => hk _ _ _ _ hs p e R s m args below meth c cells slots Q D ad cA A H locs ls' hC hR hW (mm_lv.sto (v := .ref x) hl'))
  · exact hs.elim
theorem sn_astore {i : Nat} (hd : decode M.2.1 q = .ok (.astore i, 2)) (hn : i < M.2.2.1) : mm_Sn l d M E post (q, se_astore i (q + 2)) := by
  intro k hk L st h hs
  unfold se_astore at hs
  dsimp only at hs
  split at hs
  · rename_i x r
    intro p e R s m args below meth c cells slots Q D ad cA A H locs ls hC hR hW hL
    exact lv_astore hC.1 hC.2.1 hd hL.has hn rfl (fun ls' hl' => hk _ _ _ _ hs p e R s m args below meth c cells slots Q D ad cA A H locs ls' hC hR hW (mm_lv.sto (v := .ref x) hl'))
  · exact hs.elim
def se_iinc (i : Nat) (w : Int32) (n : Nat) : mm_S := fun k L st h => match mm_nth L i with
  | some (some (.int x)) => k n (mm_sto L i (.int (x + w))) st h
  | _ => False
theorem sn_iinc {i : Nat} {n0 : Int} {w : Int32} (hd : decode M.2.1 q = .ok (.iinc i n0, 3)) (hw : Int32.ofInt n0 = w) (hn : i < M.2.2.1) : mm_Sn l d M E post (q, se_iinc i w (q + 3)) := by
  intro k hk L st h hs
  unfold se_iinc at hs
  dsimp only at hs
  split at hs
  · rename_i x hx
    intro p e R s m args below meth c cells slots Q D ad cA A H locs ls hC hR hW hL
    subst hw
    have hm := mm_mem_as (ad := ad) (i := 0) (k := i) (v := .int x) (by rw [← mm_nth_eq]; exact hx)
    rw [Nat.zero_add] at hm
    obtain ⟨kk, hkk⟩ := List.getElem?_of_mem hm
    exact lv_iinc hC.1 hC.2.1 hd hL.has hkk rfl hn rfl (fun ls' hl' => hk _ _ _ _ hs p e R s m args below meth c cells slots Q D ad cA A H locs ls' hC hR hW (mm_lv.sto (v := .int (x + Int32.ofInt n0)) hl'))
  · exact hs.elim
def se_iadd (n : Nat) : mm_S := fun k L st h => match st with
  | .int y :: .int x :: r => k n L (.int (x + y) :: r) h
  | _ => False
theorem sn_iadd (hd : decode M.2.1 q = .ok (.iadd, 1)) : mm_Sn l d M E post (q, se_iadd (q + 1)) := by
  intro k hk L st h hs
  unfold se_iadd at hs
  dsimp only at hs
  split at hs
  · intro p e R s m args below meth c cells slots Q D ad cA A H locs ls hC hR hW hL
    exact lv_iadd hC.1 hC.2.1 hd (hk _ _ _ _ hs p e R s m args below meth c cells slots Q D ad cA A H locs ls hC hR hW hL)
  · exact hs.elim
def se_isub (n : Nat) : mm_S := fun k L st h => match st with
  | .int y :: .int x :: r => k n L (.int (x - y) :: r) h
  | _ => False
theorem sn_isub (hd : decode M.2.1 q = .ok (.isub, 1)) : mm_Sn l d M E post (q, se_isub (q + 1)) := by
  intro k hk L st h hs
  unfold se_isub at hs
  dsimp only at hs
  split at hs
  · intro p e R s m args below meth c cells slots Q D ad cA A H locs ls hC hR hW hL
    exact lv_isub hC.1 hC.2.1 hd (hk _ _ _ _ hs p e R s m args below meth c cells slots Q D ad cA A H locs ls hC hR hW hL)
  · exact hs.elim
def se_imul (n : Nat) : mm_S := fun k L st h => match st with
  | .int y :: .int x :: r => k n L (.int (x * y) :: r) h
  | _ => False
theorem sn_imul (hd : decode M.2.1 q = .ok (.imul, 1)) : mm_Sn l d M E post (q, se_imul (q + 1)) := by
  intro k hk L st h hs
  unfold se_imul at hs
  dsimp only at hs
  split at hs
  · intro p e R s m args below meth c cells slots Q D ad cA A H locs ls hC hR hW hL
    exact lv_imul hC.1 hC.2.1 hd (hk _ _ _ _ hs p e R s m args below meth c cells slots Q D ad cA A H locs ls hC hR hW hL)
  · exact hs.elim
def se_iand (n : Nat) : mm_S := fun k L st h => match st with
  | .int y :: .int x :: r => k n L (.int (x &&& y) :: r) h
  | _ => False
theorem sn_iand (hd : decode M.2.1 q = .ok (.iand, 1)) : mm_Sn l d M E post (q, se_iand (q + 1)) := by
  intro k hk L st h hs
  unfold se_iand at hs
  dsimp only at hs
  split at hs
  · intro p e R s m args below meth c cells slots Q D ad cA A H locs ls hC hR hW hL
    exact lv_iand hC.1 hC.2.1 hd (hk _ _ _ _ hs p e R s m args below meth c cells slots Q D ad cA A H locs ls hC hR hW hL)
  · exact hs.elim
def se_ior (n : Nat) : mm_S := fun k L st h => match st with
  | .int y :: .int x :: r => k n L (.int (x ||| y) :: r) h
  | _ => False
theorem sn_ior (hd : decode M.2.1 q = .ok (.ior, 1)) : mm_Sn l d M E post (q, se_ior (q + 1)) := by
  intro k hk L st h hs
  unfold se_ior at hs
  dsimp only at hs
  split at hs
  · intro p e R s m args below meth c cells slots Q D ad cA A H locs ls hC hR hW hL
    exact lv_ior hC.1 hC.2.1 hd (hk _ _ _ _ hs p e R s m args below meth c cells slots Q D ad cA A H locs ls hC hR hW hL)
  · exact hs.elim
def se_ixor (n : Nat) : mm_S := fun k L st h => match st with
  | .int y :: .int x :: r => k n L (.int (x ^^^ y) :: r) h
  | _ => False
theorem sn_ixor (hd : decode M.2.1 q = .ok (.ixor, 1)) : mm_Sn l d M E post (q, se_ixor (q + 1)) := by
  intro k hk L st h hs
  unfold se_ixor at hs
  dsimp only at hs
  split at hs
  · intro p e R s m args below meth c cells slots Q D ad cA A H locs ls hC hR hW hL
    exact lv_ixor hC.1 hC.2.1 hd (hk _ _ _ _ hs p e R s m args below meth c cells slots Q D ad cA A H locs ls hC hR hW hL)
  · exact hs.elim
def se_ishl (n : Nat) : mm_S := fun k L st h => match st with
  | .int y :: .int x :: r => k n L (.int (x <<< (y &&& 31)) :: r) h
  | _ => False
theorem sn_ishl (hd : decode M.2.1 q = .ok (.ishl, 1)) : mm_Sn l d M E post (q, se_ishl (q + 1)) := by
  intro k hk L st h hs
  unfold se_ishl at hs
  dsimp only at hs
  split at hs
  · intro p e R s m args below meth c cells slots Q D ad cA A H locs ls hC hR hW hL
    exact lv_ishl hC.1 hC.2.1 hd (hk _ _ _ _ hs p e R s m args below meth c cells slots Q D ad cA A H locs ls hC hR hW hL)
  · exact hs.elim
def se_ishr (n : Nat) : mm_S := fun k L st h => match st with
  | .int y :: .int x :: r => k n L (.int (x >>> (y &&& 31)) :: r) h
  | _ => False
theorem sn_ishr (hd : decode M.2.1 q = .ok (.ishr, 1)) : mm_Sn l d M E post (q, se_ishr (q + 1)) := by
  intro k hk L st h hs
  unfold se_ishr at hs
  dsimp only at hs
  split at hs
  · intro p e R s m args below meth c cells slots Q D ad cA A H locs ls hC hR hW hL
    exact lv_ishr hC.1 hC.2.1 hd (hk _ _ _ _ hs p e R s m args below meth c cells slots Q D ad cA A H locs ls hC hR hW hL)
  · exact hs.elim
def se_iushr (n : Nat) : mm_S := fun k L st h => match st with
  | .int y :: .int x :: r => k n L (.int (x.toUInt32 >>> (y.toUInt32 &&& Int32.toUInt32 31)).toInt32 :: r) h
  | _ => False
theorem sn_iushr (hd : decode M.2.1 q = .ok (.iushr, 1)) : mm_Sn l d M E post (q, se_iushr (q + 1)) := by
  intro k hk L st h hs
  unfold se_iushr at hs
  dsimp only at hs
  split at hs
  · intro p e R s m args below meth c cells slots Q D ad cA A H locs ls hC hR hW hL
    exact lv_iushr hC.1 hC.2.1 hd rfl (hk _ _ _ _ hs p e R s m args below meth c cells slots Q D ad cA A H locs ls hC hR hW hL)
  · exact hs.elim
def se_ladd (n : Nat) : mm_S := fun k L st h => match st with
  | .long y :: .long x :: r => k n L (.long (x + y) :: r) h
  | _ => False
theorem sn_ladd (hd : decode M.2.1 q = .ok (.ladd, 1)) : mm_Sn l d M E post (q, se_ladd (q + 1)) := by
  intro k hk L st h hs
  unfold se_ladd at hs
  dsimp only at hs
  split at hs
  · intro p e R s m args below meth c cells slots Q D ad cA A H locs ls hC hR hW hL
    exact lv_ladd hC.1 hC.2.1 hd (hk _ _ _ _ hs p e R s m args below meth c cells slots Q D ad cA A H locs ls hC hR hW hL)
  · exact hs.elim
def se_lsub (n : Nat) : mm_S := fun k L st h => match st with
  | .long y :: .long x :: r => k n L (.long (x - y) :: r) h
  | _ => False
theorem sn_lsub (hd : decode M.2.1 q = .ok (.lsub, 1)) : mm_Sn l d M E post (q, se_lsub (q + 1)) := by
  intro k hk L st h hs
  unfold se_lsub at hs
  dsimp only at hs
  split at hs
  · intro p e R s m args below meth c cells slots Q D ad cA A H locs ls hC hR hW hL
    exact lv_lsub hC.1 hC.2.1 hd (hk _ _ _ _ hs p e R s m args below meth c cells slots Q D ad cA A H locs ls hC hR hW hL)
  · exact hs.elim
def se_lmul (n : Nat) : mm_S := fun k L st h => match st with
  | .long y :: .long x :: r => k n L (.long (x * y) :: r) h
  | _ => False
theorem sn_lmul (hd : decode M.2.1 q = .ok (.lmul, 1)) : mm_Sn l d M E post (q, se_lmul (q + 1)) := by
  intro k hk L st h hs
  unfold se_lmul at hs
  dsimp only at hs
  split at hs
  · intro p e R s m args below meth c cells slots Q D ad cA A H locs ls hC hR hW hL
    exact lv_lmul hC.1 hC.2.1 hd (hk _ _ _ _ hs p e R s m args below meth c cells slots Q D ad cA A H locs ls hC hR hW hL)
  · exact hs.elim
def se_idiv (n : Nat) : mm_S := fun k L st h => match st with
  | .int y :: .int x :: r => (¬ y = 0) ∧ k n L (.int (x / y) :: r) h
  | _ => False
theorem sn_idiv (hd : decode M.2.1 q = .ok (.idiv, 1)) : mm_Sn l d M E post (q, se_idiv (q + 1)) := by
  intro k hk L st h hs
  unfold se_idiv at hs
  dsimp only at hs
  split at hs
  · intro p e R s m args below meth c cells slots Q D ad cA A H locs ls hC hR hW hL
    exact lv_idiv hC.1 hC.2.1 hd hs.1 (hk _ _ _ _ hs.2 p e R s m args below meth c cells slots Q D ad cA A H locs ls hC hR hW hL)
  · exact hs.elim
def se_irem (n : Nat) : mm_S := fun k L st h => match st with
  | .int y :: .int x :: r => (¬ y = 0) ∧ k n L (.int (x - x / y * y) :: r) h
  | _ => False
theorem sn_irem (hd : decode M.2.1 q = .ok (.irem, 1)) : mm_Sn l d M E post (q, se_irem (q + 1)) := by
  intro k hk L st h hs
  unfold se_irem at hs
  dsimp only at hs
  split at hs
  · intro p e R s m args below meth c cells slots Q D ad cA A H locs ls hC hR hW hL
    exact lv_irem hC.1 hC.2.1 hd hs.1 (hk _ _ _ _ hs.2 p e R s m args below meth c cells slots Q D ad cA A H locs ls hC hR hW hL)
  · exact hs.elim
def se_ldiv (n : Nat) : mm_S := fun k L st h => match st with
  | .long y :: .long x :: r => (¬ y = 0) ∧ k n L (.long (x / y) :: r) h
  | _ => False
theorem sn_ldiv (hd : decode M.2.1 q = .ok (.ldiv, 1)) : mm_Sn l d M E post (q, se_ldiv (q + 1)) := by
  intro k hk L st h hs
  unfold se_ldiv at hs
  dsimp only at hs
  split at hs
  · intro p e R s m args below meth c cells slots Q D ad cA A H locs ls hC hR hW hL
    exact lv_ldiv hC.1 hC.2.1 hd hs.1 (hk _ _ _ _ hs.2 p e R s m args below meth c cells slots Q D ad cA A H locs ls hC hR hW hL)
  · exact hs.elim
def se_lrem (n : Nat) : mm_S := fun k L st h => match st with
  | .long y :: .long x :: r => (¬ y = 0) ∧ k n L (.long (x - x / y * y) :: r) h
  | _ => False
theorem sn_lrem (hd : decode M.2.1 q = .ok (.lrem, 1)) : mm_Sn l d M E post (q, se_lrem (q + 1)) := by
  intro k hk L st h hs
  unfold se_lrem at hs
  dsimp only at hs
  split at hs
  · intro p e R s m args below meth c cells slots Q D ad cA A H locs ls hC hR hW hL
    exact lv_lrem hC.1 hC.2.1 hd hs.1 (hk _ _ _ _ hs.2 p e R s m args below meth c cells slots Q D ad cA A H locs ls hC hR hW hL)
  · exact hs.elim
def se_i2l (n : Nat) : mm_S := fun k L st h => match st with
  | .int x :: r => k n L (.long x.toInt64 :: r) h
  | _ => False
theorem sn_i2l (hd : decode M.2.1 q = .ok (.i2l, 1)) : mm_Sn l d M E post (q, se_i2l (q + 1)) := by
  intro k hk L st h hs
  unfold se_i2l at hs
  dsimp only at hs
  split at hs
  · intro p e R s m args below meth c cells slots Q D ad cA A H locs ls hC hR hW hL
    exact lv_i2l hC.1 hC.2.1 hd rfl (hk _ _ _ _ hs p e R s m args below meth c cells slots Q D ad cA A H locs ls hC hR hW hL)
  · exact hs.elim
def se_lcmp (n : Nat) : mm_S := fun k L st h => match st with
  | .long y :: .long x :: r => k n L (.int (lg_cmp x y) :: r) h
  | _ => False
theorem sn_lcmp (hd : decode M.2.1 q = .ok (.lcmp, 1)) : mm_Sn l d M E post (q, se_lcmp (q + 1)) := by
  intro k hk L st h hs
  unfold se_lcmp at hs
  dsimp only at hs
  split at hs
  · intro p e R s m args below meth c cells slots Q D ad cA A H locs ls hC hR hW hL
    exact W.lcmp hC.1 hC.2.1 hd (hk _ _ _ _ hs p e R s m args below meth c cells slots Q D ad cA A H locs ls hC hR hW hL)
  · exact hs.elim
def se_dup (n : Nat) : mm_S := fun k L st h => match st with
  | .int x :: r => k n L (.int x :: .int x :: r) h
  | .ref x :: r => k n L (.ref x :: .ref x :: r) h
  | _ => False
theorem sn_dup (hd : decode M.2.1 q = .ok (.dup, 1)) : mm_Sn l d M E post (q, se_dup (q + 1)) := by
  intro k hk L st h hs
  unfold se_dup at hs
  dsimp only at hs
  split at hs
  · intro p e R s m args below meth c cells slots Q D ad cA A H locs ls hC hR hW hL
    exact lv_dup hC.1 hC.2.1 hd rfl (hk _ _ _ _ hs p e R s m args below meth c cells slots Q D ad cA A H locs ls hC hR hW hL)
  · intro p e R s m args below meth c cells slots Q D ad cA A H locs ls hC hR hW hL
    exact lv_dup hC.1 hC.2.1 hd rfl (hk _ _ _ _ hs p e R s m args below meth c cells slots Q D ad cA A H locs ls hC hR hW hL)
  · exact hs.elim
def se_pop (n : Nat) : mm_S := fun k L st h => match st with
  | .int _ :: r => k n L r h
  | _ => False
theorem sn_pop (hd : decode M.2.1 q = .ok (.pop, 1)) : mm_Sn l d M E post (q, se_pop (q + 1)) := by
  intro k hk L st h hs
  unfold se_pop at hs
  dsimp only at hs
  split at hs
  · intro p e R s m args below meth c cells slots Q D ad cA A H locs ls hC hR hW hL
    exact lv_pop hC.1 hC.2.1 hd rfl (hk _ _ _ _ hs p e R s m args below meth c cells slots Q D ad cA A H locs ls hC hR hW hL)
  · exact hs.elim
def se_dup2 (n : Nat) : mm_S := fun k L st h => match st with
  | .int x :: .ref y :: r => k n L (.int x :: .ref y :: .int x :: .ref y :: r) h
  | _ => False
theorem sn_dup2 (hd : decode M.2.1 q = .ok (.dup2, 1)) : mm_Sn l d M E post (q, se_dup2 (q + 1)) := by
  intro k hk L st h hs
  unfold se_dup2 at hs
  dsimp only at hs
  split at hs
  · intro p e R s m args below meth c cells slots Q D ad cA A H locs ls hC hR hW hL
    exact lv_dup2_11 hC.1 hC.2.1 hd rfl rfl (hk _ _ _ _ hs p e R s m args below meth c cells slots Q D ad cA A H locs ls hC hR hW hL)
  · exact hs.elim
def se_goto (t : Nat) : mm_S := fun k L st h => k t L st h
theorem sn_goto {off : Int} {t : Nat} (hd : decode M.2.1 q = .ok (.goto off, 3)) (ht : (q : Int) + off = (t : Int)) : mm_Sn l d M E post (q, se_goto t) := by
  intro k hk L st h hs
  intro p e R s m args below meth c cells slots Q D ad cA A H locs ls hC hR hW hL
  exact lv_goto hC.1 hC.2.1 hd ht (hk _ _ _ _ hs p e R s m args below meth c cells slots Q D ad cA A H locs ls hC hR hW hL)
def se_if_eq (t n : Nat) : mm_S := fun k L st h => match st with
  | .int x :: r => (x = 0 → k t L r h) ∧ (¬ x = 0 → k n L r h)
  | _ => False
theorem sn_if_eq {off : Int} {t : Nat} (hd : decode M.2.1 q = .ok (.ifCond .eq off, 3)) (ht : (q : Int) + off = (t : Int)) : mm_Sn l d M E post (q, se_if_eq t (q + 3)) := by
  intro k hk L st h hs
  unfold se_if_eq at hs
  dsimp only at hs
  split at hs
  · intro p e R s m args below meth c cells slots Q D ad cA A H locs ls hC hR hW hL
    exact lv_if_eq hC.1 hC.2.1 hd ht (fun hc => hk _ _ _ _ (hs.1 hc) p e R s m args below meth c cells slots Q D ad cA A H locs ls hC hR hW hL) (fun hc => hk _ _ _ _ (hs.2 hc) p e R s m args below meth c cells slots Q D ad cA A H locs ls hC hR hW hL)
  · exact hs.elim
def se_icmp_eq (t n : Nat) : mm_S := fun k L st h => match st with
  | .int y :: .int x :: r => (x = y → k t L r h) ∧ (¬ x = y → k n L r h)
  | _ => False
theorem sn_icmp_eq {off : Int} {t : Nat} (hd : decode M.2.1 q = .ok (.if_icmp .eq off, 3)) (ht : (q : Int) + off = (t : Int)) : mm_Sn l d M E post (q, se_icmp_eq t (q + 3)) := by
  intro k hk L st h hs
  unfold se_icmp_eq at hs
  dsimp only at hs
  split at hs
  · intro p e R s m args below meth c cells slots Q D ad cA A H locs ls hC hR hW hL
    exact lv_icmp_eq hC.1 hC.2.1 hd ht (fun hc => hk _ _ _ _ (hs.1 hc) p e R s m args below meth c cells slots Q D ad cA A H locs ls hC hR hW hL) (fun hc => hk _ _ _ _ (hs.2 hc) p e R s m args below meth c cells slots Q D ad cA A H locs ls hC hR hW hL)
  · exact hs.elim
def se_if_ne (t n : Nat) : mm_S := fun k L st h => match st with
  | .int x :: r => (¬ x = 0 → k t L r h) ∧ (x = 0 → k n L r h)
  | _ => False
theorem sn_if_ne {off : Int} {t : Nat} (hd : decode M.2.1 q = .ok (.ifCond .ne off, 3)) (ht : (q : Int) + off = (t : Int)) : mm_Sn l d M E post (q, se_if_ne t (q + 3)) := by
  intro k hk L st h hs
  unfold se_if_ne at hs
  dsimp only at hs
  split at hs
  · intro p e R s m args below meth c cells slots Q D ad cA A H locs ls hC hR hW hL
    exact lv_if_ne hC.1 hC.2.1 hd ht (fun hc => hk _ _ _ _ (hs.1 hc) p e R s m args below meth c cells slots Q D ad cA A H locs ls hC hR hW hL) (fun hc => hk _ _ _ _ (hs.2 hc) p e R s m args below meth c cells slots Q D ad cA A H locs ls hC hR hW hL)
  · exact hs.elim
def se_icmp_ne (t n : Nat) : mm_S := fun k L st h => match st with
  | .int y :: .int x :: r => (¬ x = y → k t L r h) ∧ (x = y → k n L r h)
  | _ => False
theorem sn_icmp_ne {off : Int} {t : Nat} (hd : decode M.2.1 q = .ok (.if_icmp .ne off, 3)) (ht : (q : Int) + off = (t : Int)) : mm_Sn l d M E post (q, se_icmp_ne t (q + 3)) := by
  intro k hk L st h hs
  unfold se_icmp_ne at hs
  dsimp only at hs
  split at hs
  · intro p e R s m args below meth c cells slots Q D ad cA A H locs ls hC hR hW hL
    exact lv_icmp_ne hC.1 hC.2.1 hd ht (fun hc => hk _ _ _ _ (hs.1 hc) p e R s m args below meth c cells slots Q D ad cA A H locs ls hC hR hW hL) (fun hc => hk _ _ _ _ (hs.2 hc) p e R s m args below meth c cells slots Q D ad cA A H locs ls hC hR hW hL)
  · exact hs.elim
def se_if_lt (t n : Nat) : mm_S := fun k L st h => match st with
  | .int x :: r => (x < 0 → k t L r h) ∧ (¬ x < 0 → k n L r h)
  | _ => False
theorem sn_if_lt {off : Int} {t : Nat} (hd : decode M.2.1 q = .ok (.ifCond .lt off, 3)) (ht : (q : Int) + off = (t : Int)) : mm_Sn l d M E post (q, se_if_lt t (q + 3)) := by
  intro k hk L st h hs
  unfold se_if_lt at hs
  dsimp only at hs
  split at hs
  · intro p e R s m args below meth c cells slots Q D ad cA A H locs ls hC hR hW hL
    exact lv_if_lt hC.1 hC.2.1 hd ht (fun hc => hk _ _ _ _ (hs.1 hc) p e R s m args below meth c cells slots Q D ad cA A H locs ls hC hR hW hL) (fun hc => hk _ _ _ _ (hs.2 hc) p e R s m args below meth c cells slots Q D ad cA A H locs ls hC hR hW hL)
  · exact hs.elim
def se_icmp_lt (t n : Nat) : mm_S := fun k L st h => match st with
  | .int y :: .int x :: r => (x < y → k t L r h) ∧ (¬ x < y → k n L r h)
  | _ => False
theorem sn_icmp_lt {off : Int} {t : Nat} (hd : decode M.2.1 q = .ok (.if_icmp .lt off, 3)) (ht : (q : Int) + off = (t : Int)) : mm_Sn l d M E post (q, se_icmp_lt t (q + 3)) := by
  intro k hk L st h hs
  unfold se_icmp_lt at hs
  dsimp only at hs
  split at hs
  · intro p e R s m args below meth c cells slots Q D ad cA A H locs ls hC hR hW hL
    exact lv_icmp_lt hC.1 hC.2.1 hd ht (fun hc => hk _ _ _ _ (hs.1 hc) p e R s m args below meth c cells slots Q D ad cA A H locs ls hC hR hW hL) (fun hc => hk _ _ _ _ (hs.2 hc) p e R s m args below meth c cells slots Q D ad cA A H locs ls hC hR hW hL)
  · exact hs.elim
def se_if_ge (t n : Nat) : mm_S := fun k L st h => match st with
  | .int x :: r => (0 ≤ x → k t L r h) ∧ (¬ 0 ≤ x → k n L r h)
  | _ => False
theorem sn_if_ge {off : Int} {t : Nat} (hd : decode M.2.1 q = .ok (.ifCond .ge off, 3)) (ht : (q : Int) + off = (t : Int)) : mm_Sn l d M E post (q, se_if_ge t (q + 3)) := by
  intro k hk L st h hs
  unfold se_if_ge at hs
  dsimp only at hs
  split at hs
  · intro p e R s m args below meth c cells slots Q D ad cA A H locs ls hC hR hW hL
    exact lv_if_ge hC.1 hC.2.1 hd ht (fun hc => hk _ _ _ _ (hs.1 hc) p e R s m args below meth c cells slots Q D ad cA A H locs ls hC hR hW hL) (fun hc => hk _ _ _ _ (hs.2 hc) p e R s m args below meth c cells slots Q D ad cA A H locs ls hC hR hW hL)
  · exact hs.elim
def se_icmp_ge (t n : Nat) : mm_S := fun k L st h => match st with
  | .int y :: .int x :: r => (y ≤ x → k t L r h) ∧ (¬ y ≤ x → k n L r h)
  | _ => False
theorem sn_icmp_ge {off : Int} {t : Nat} (hd : decode M.2.1 q = .ok (.if_icmp .ge off, 3)) (ht : (q : Int) + off = (t : Int)) : mm_Sn l d M E post (q, se_icmp_ge t (q + 3)) := by
  intro k hk L st h hs
  unfold se_icmp_ge at hs
  dsimp only at hs
  split at hs
  · intro p e R s m args below meth c cells slots Q D ad cA A H locs ls hC hR hW hL
    exact lv_icmp_ge hC.1 hC.2.1 hd ht (fun hc => hk _ _ _ _ (hs.1 hc) p e R s m args below meth c cells slots Q D ad cA A H locs ls hC hR hW hL) (fun hc => hk _ _ _ _ (hs.2 hc) p e R s m args below meth c cells slots Q D ad cA A H locs ls hC hR hW hL)
  · exact hs.elim
def se_if_gt (t n : Nat) : mm_S := fun k L st h => match st with
  | .int x :: r => (0 < x → k t L r h) ∧ (¬ 0 < x → k n L r h)
  | _ => False
theorem sn_if_gt {off : Int} {t : Nat} (hd : decode M.2.1 q = .ok (.ifCond .gt off, 3)) (ht : (q : Int) + off = (t : Int)) : mm_Sn l d M E post (q, se_if_gt t (q + 3)) := by
  intro k hk L st h hs
  unfold se_if_gt at hs
  dsimp only at hs
  split at hs
  · intro p e R s m args below meth c cells slots Q D ad cA A H locs ls hC hR hW hL
    exact lv_if_gt hC.1 hC.2.1 hd ht (fun hc => hk _ _ _ _ (hs.1 hc) p e R s m args below meth c cells slots Q D ad cA A H locs ls hC hR hW hL) (fun hc => hk _ _ _ _ (hs.2 hc) p e R s m args below meth c cells slots Q D ad cA A H locs ls hC hR hW hL)
  · exact hs.elim
def se_icmp_gt (t n : Nat) : mm_S := fun k L st h => match st with
  | .int y :: .int x :: r => (y < x → k t L r h) ∧ (¬ y < x → k n L r h)
  | _ => False
theorem sn_icmp_gt {off : Int} {t : Nat} (hd : decode M.2.1 q = .ok (.if_icmp .gt off, 3)) (ht : (q : Int) + off = (t : Int)) : mm_Sn l d M E post (q, se_icmp_gt t (q + 3)) := by
  intro k hk L st h hs
  unfold se_icmp_gt at hs
  dsimp only at hs
  split at hs
  · intro p e R s m args below meth c cells slots Q D ad cA A H locs ls hC hR hW hL
    exact lv_icmp_gt hC.1 hC.2.1 hd ht (fun hc => hk _ _ _ _ (hs.1 hc) p e R s m args below meth c cells slots Q D ad cA A H locs ls hC hR hW hL) (fun hc => hk _ _ _ _ (hs.2 hc) p e R s m args below meth c cells slots Q D ad cA A H locs ls hC hR hW hL)
  · exact hs.elim
def se_if_le (t n : Nat) : mm_S := fun k L st h => match st with
  | .int x :: r => (x ≤ 0 → k t L r h) ∧ (¬ x ≤ 0 → k n L r h)
  | _ => False
theorem sn_if_le {off : Int} {t : Nat} (hd : decode M.2.1 q = .ok (.ifCond .le off, 3)) (ht : (q : Int) + off = (t : Int)) : mm_Sn l d M E post (q, se_if_le t (q + 3)) := by
  intro k hk L st h hs
  unfold se_if_le at hs
  dsimp only at hs
  split at hs
  · intro p e R s m args below meth c cells slots Q D ad cA A H locs ls hC hR hW hL
    exact lv_if_le hC.1 hC.2.1 hd ht (fun hc => hk _ _ _ _ (hs.1 hc) p e R s m args below meth c cells slots Q D ad cA A H locs ls hC hR hW hL) (fun hc => hk _ _ _ _ (hs.2 hc) p e R s m args below meth c cells slots Q D ad cA A H locs ls hC hR hW hL)
  · exact hs.elim
def se_icmp_le (t n : Nat) : mm_S := fun k L st h => match st with
  | .int y :: .int x :: r => (x ≤ y → k t L r h) ∧ (¬ x ≤ y → k n L r h)
  | _ => False
theorem sn_icmp_le {off : Int} {t : Nat} (hd : decode M.2.1 q = .ok (.if_icmp .le off, 3)) (ht : (q : Int) + off = (t : Int)) : mm_Sn l d M E post (q, se_icmp_le t (q + 3)) := by
  intro k hk L st h hs
  unfold se_icmp_le at hs
  dsimp only at hs
  split at hs
  · intro p e R s m args below meth c cells slots Q D ad cA A H locs ls hC hR hW hL
    exact lv_icmp_le hC.1 hC.2.1 hd ht (fun hc => hk _ _ _ _ (hs.1 hc) p e R s m args below meth c cells slots Q D ad cA A H locs ls hC hR hW hL) (fun hc => hk _ _ _ _ (hs.2 hc) p e R s m args below meth c cells slots Q D ad cA A H locs ls hC hR hW hL)
  · exact hs.elim
def se_iaload (n : Nat) : mm_S := fun k L st h => match st with
  | .int i :: .ref a :: r => vp_in i (mm_len a) ∧ k n L (.int (h a i.toNatClampNeg) :: r) h
  | _ => False
theorem mm_in_pos {i : Int32} {n : Nat} (h : vp_in i n) : 0 < n := by
  rcases Nat.eq_zero_or_pos n with e | e
  · subst e
    exact absurd (Or.inr (Nat.zero_le _)) h
  · exact e
theorem sn_iaload (hd : decode M.2.1 q = .ok (.iaload, 1)) : mm_Sn l d M E post (q, se_iaload (q + 1)) := by
  intro k hk L st h hs
  unfold se_iaload at hs
  dsimp only at hs
  split at hs
  · rename_i i a r
    intro p e R s m args below meth c cells slots Q D ad cA A H locs ls hC hR hW hL
    have kk := hk _ _ _ _ hs.2 p e R s m args below meth c cells slots Q D ad cA A H locs ls hC hR hW hL
    by_cases ha : a = 25
    · subst ha
      rw [hW.2.2.2] at kk
      exact va_ti hC.1 hC.2.1 hC.2.2.2.2.2.2.2.1.2 hW.2.2.1 hs.1 rfl hd kk
    · exact va_iald hC.1 hC.2.1 hC.2.2.2.2.2.1 hW.1 a 0 (mm_wld_at (mm_len_at (mm_in_pos hs.1) ha)) rfl hs.1 hd kk
  · exact hs.elim
def se_iastore (n : Nat) : mm_S := fun k L st h => match st with
  | .int x :: .int i :: .ref a :: r => (¬ a = 25) ∧ vp_in i (mm_len a) ∧ k n L r (mm_set h a i.toNatClampNeg x)
  | _ => False
theorem mm_set_25 {h : mm_H} {a k : Nat} {v : Int32} (ha : ¬ a = 25) (h25 : h 25 = mm_plc) : mm_set h a k v 25 = mm_plc := by
  rw [← h25]
  funext b
  unfold mm_set
  rw [if_neg (fun e => ha e.symm)]
theorem mm_setA_25 {h : mm_H} {a : Nat} {f : Nat → Int32} (ha : ¬ a = 25) (h25 : h 25 = mm_plc) : mm_setA h a f 25 = mm_plc := by
  rw [← h25]
  unfold mm_setA
  rw [if_neg (fun e => ha e.symm)]
theorem sn_iastore (hd : decode M.2.1 q = .ok (.iastore, 1)) : mm_Sn l d M E post (q, se_iastore (q + 1)) := by
  intro k hk L st h hs
  unfold se_iastore at hs
  dsimp only at hs
  split at hs
  · rename_i x i a r
    intro p e R s m args below meth c cells slots Q D ad cA A H locs ls hC hR hW hL
    obtain ⟨ha, hi, hs⟩ := hs
    have hx := mm_len_at (mm_in_pos hi) ha
    refine va_iast hC.1 hC.2.1 hC.2.2.2.2.2.1 hW.1 hW.2.1 hW.2.2.1 a 0 (mm_wld_at hx) rfl hi hd (fun H1 locs1 hP hD hS => ?_)
    have he : (mm_wld ad cA h).set a (ad a, .inl (cA, mm_len a, .inl (upd (h a) i.toNatClampNeg x))) = mm_wld ad cA (mm_set h a i.toNatClampNeg x) := by
      rw [mm_wld_setA hx, mm_setA_upd]
    have hP := he ▸ hP
    have hD := he ▸ hD
    exact hk _ _ _ _ hs p e R s m args below meth c cells slots Q D ad cA A H1 locs1 ls hC hR ⟨hP, hD, hS, mm_set_25 ha hW.2.2.2⟩ hL
  · exact hs.elim
def se_alen (n : Nat) : mm_S := fun k L st h => match st with
  | .ref a :: r => 0 < mm_len a ∧ k n L (.int (Int32.ofNat (mm_len a)) :: r) h
  | _ => False
theorem sn_alen (hd : decode M.2.1 q = .ok (.arraylength, 1)) : mm_Sn l d M E post (q, se_alen (q + 1)) := by
  intro k hk L st h hs
  unfold se_alen at hs
  dsimp only at hs
  split at hs
  · rename_i a r
    intro p e R s m args below meth c cells slots Q D ad cA A H locs ls hC hR hW hL
    have kk := hk _ _ _ _ hs.2 p e R s m args below meth c cells slots Q D ad cA A H locs ls hC hR hW hL
    by_cases ha : a = 25
    · subst ha
      exact va_tlen hC.1 hC.2.1 hC.2.2.2.2.2.2.2.1.2 hW.2.2.1 rfl hd kk
    · exact va_alen hC.1 hC.2.1 hC.2.2.2.2.2.1 hW.1 a 0 (mm_wld_at (mm_len_at hs.1 ha)) rfl rfl hd kk
  · exact hs.elim
/-- the one static row of numbers -/
def se_places (n : Nat) : mm_S := fun k L st h => k n L (.ref 25 :: st) h
theorem sn_places {idx : Nat} (hd : decode M.2.1 q = .ok (.getstatic idx, 3)) (hl : Cond.fieldLink M.1.cls idx RX1 "PLACES" "[I" ∈ mm_tb) : mm_Sn l d M E post (q, se_places (q + 3)) := by
  intro k hk L st h hs
  intro p e R s m args below meth c cells slots Q D ad cA A H locs ls hC hR hW hL
  exact va_gets hC.1 hC.2.1 hC.2.2.2.2.2.2.2.1.1 hW.2.2.1 hC.2.2.2.1 (hC.2.2.2.2.1 _ hl) (fun _ h9 => h9) hd (hk _ _ _ _ hs p e R s m args below meth c cells slots Q D ad cA A H locs ls hC hR hW hL)
/-- a field's link: which cell, which place of it -/
def mm_fok (own : String) (idx c k : Nat) (f : Option Nat) : Prop := ∃ (ci : Nat) (fs : List (Option Nat)) (C : String) (T : u_T) (N : Nat), mm_shp[c]? = some (.inr (ci, fs)) ∧ fs[k]? = some f ∧ vwCl[ci]? = some (C, T, N) ∧ k < N ∧ (∀ w ∈ u_ws C T N, w ∈ mm_tb) ∧ Cond.fieldLink own idx (T k).1 (T k).2.1 (T k).2.2.1 ∈ mm_tb
/-- as it is written: no final one, an int or a boolean -/
def mm_fw (own : String) (idx c k : Nat) (z : Bool) : Prop := ∃ (ci : Nat) (fs : List (Option Nat)) (C : String) (T : u_T) (N : Nat) (ty : Nat → FieldType), mm_shp[c]? = some (.inr (ci, fs)) ∧ fs[k]? = some none ∧ vwCl[ci]? = some (C, T, N) ∧ k < N ∧ (∀ w ∈ u_ws C T N, w ∈ mm_tb) ∧ Cond.fieldLink own idx (T k).1 (T k).2.1 (T k).2.2.1 ∈ mm_tb ∧ (∀ k, k < N → parseFieldDescriptor (T k).2.2.1 = some (ty k)) ∧ (∀ a, a < N → ∀ b, b < N → a ≠ b → (T a).2.1 ≠ (T b).2.1) ∧ (T k).2.2.2 = false ∧ ty k = (if z = true then .boolean else .int)
def se_getI (c0 k0 n : Nat) : mm_S := fun k L st h => match st with
  | .ref a :: r => a = c0 ∧ k n L (.int (h c0 k0) :: r) h
  | _ => False
theorem sn_getI {idx c0 k0 : Nat} (hd : decode M.2.1 q = .ok (.getfield idx, 3)) (hf : mm_fok M.1.cls idx c0 k0 none) : mm_Sn l d M E post (q, se_getI c0 k0 (q + 3)) := by
  intro k hk L st h hs
  unfold se_getI at hs
  dsimp only at hs
  split at hs
  · intro p e R s m args below meth c cells slots Q D ad cA A H locs ls hC hR hW hL
    obtain ⟨rfl, hs⟩ := hs
    obtain ⟨ci, fs, C, T, N, f1, f2, f3, f4, f5, f6⟩ := hf
    refine va_get (v := .int (h _ k0)) hC.1 hC.2.1 hC.2.2.2.2.1 f5 hC.2.2.2.1 hC.2.2.2.2.2.1 hW.1 _ (mm_wld_at f1) f3 k0 f4 (hC.2.2.2.2.1 _ f6) (fun _ h9 => h9) ?_ hd (hk _ _ _ _ hs p e R s m args below meth c cells slots Q D ad cA A H locs ls hC hR hW hL)
    rw [List.getElem?_mapIdx, f2]
    rfl
  · exact hs.elim
def se_getR (c0 r0 n : Nat) : mm_S := fun k L st h => match st with
  | .ref a :: r => a = c0 ∧ k n L (.ref r0 :: r) h
  | _ => False
theorem sn_getR {idx c0 k0 r0 : Nat} (hd : decode M.2.1 q = .ok (.getfield idx, 3)) (hf : mm_fok M.1.cls idx c0 k0 (some r0)) : mm_Sn l d M E post (q, se_getR c0 r0 (q + 3)) := by
  intro k hk L st h hs
  unfold se_getR at hs
  dsimp only at hs
  split at hs
  · intro p e R s m args below meth c cells slots Q D ad cA A H locs ls hC hR hW hL
    obtain ⟨rfl, hs⟩ := hs
    obtain ⟨ci, fs, C, T, N, f1, f2, f3, f4, f5, f6⟩ := hf
    refine va_get (v := .ref (ad r0)) hC.1 hC.2.1 hC.2.2.2.2.1 f5 hC.2.2.2.1 hC.2.2.2.2.2.1 hW.1 _ (mm_wld_at f1) f3 k0 f4 (hC.2.2.2.2.1 _ f6) (fun _ h9 => h9) ?_ hd (hk _ _ _ _ hs p e R s m args below meth c cells slots Q D ad cA A H locs ls hC hR hW hL)
    rw [List.getElem?_mapIdx, f2]
    rfl
  · exact hs.elim
def se_put (z : Bool) (c0 k0 n : Nat) : mm_S := fun k L st h => match st with
  | .int v :: .ref a :: r => a = c0 ∧ (z = true → v = 0 ∨ v = 1) ∧ k n L r (mm_set h c0 k0 v)
  | _ => False
theorem sn_put {z : Bool} {idx c0 k0 : Nat} (hd : decode M.2.1 q = .ok (.putfield idx, 3)) (hf : mm_fw M.1.cls idx c0 k0 z) : mm_Sn l d M E post (q, se_put z c0 k0 (q + 3)) := by
  intro k hk L st h hs
  unfold se_put at hs
  dsimp only at hs
  split at hs
  · rename_i v a r
    intro p e R s m args below meth c cells slots Q D ad cA A H locs ls hC hR hW hL
    obtain ⟨rfl, hz, hs⟩ := hs
    obtain ⟨ci, fs, C, T, N, ty, f1, f2, f3, f4, f5, f6, f7, f8, f9, f10⟩ := hf
    have hl : a < 25 := (List.getElem?_eq_some_iff.mp f1).1
    have hnar : narrow (ty k0) (.int v) = .int v ∧ fits (ty k0) (.int v) = true := by
      rw [f10]
      cases z with
      | false => exact ⟨rfl, rfl⟩
      | true =>
        rcases hz rfl with e | e <;> subst e <;> exact ⟨by decide, by decide⟩
    refine va_put (v := .int v) (ty := ty k0) hC.1 hC.2.1 hC.2.2.2.2.1 f5 ty f7 f8 hC.2.2.2.1 hC.2.2.2.2.2.1 hW.1 hW.2.1 hW.2.2.1 _ (mm_wld_at f1) f3 k0 f4 (hC.2.2.2.2.1 _ f6) (fun _ h9 => h9) f9 (f7 k0 f4) hnar.1 hnar.2 ?_ hd (fun H1 locs1 hP hD hS => ?_)
    · rw [List.length_mapIdx]
      exact (List.getElem?_eq_some_iff.mp f2).1
    · have e := mm_wld_set (ad := ad) (cA := cA) (h := h) (v := v) f1 f2
      have hP := e ▸ hP
      have hD := e ▸ hD
      exact hk _ _ _ _ hs p _ R s m args below meth c cells slots Q D ad cA A H1 locs1 ls hC hR ⟨hP, hD, hS, mm_set_25 (Nat.ne_of_lt hl) hW.2.2.2⟩ hL
  · exact hs.elim
/-- the ends -/
def se_ret (P : mm_Po) (z : Bool) : mm_S := fun _ _ st h => match st with
  | [.int v] => P (some (.int v)) h ∧ (z = true → v = 0 ∨ v = 1)
  | _ => False
theorem sn_ireturn (hd : decode M.2.1 q = .ok (.ireturn, 1)) (hr : M.2.2.2 = some .int) : mm_Sn l d M E post (q, se_ret post false) := by
  intro k hk L st h hs
  unfold se_ret at hs
  dsimp only at hs
  split at hs
  · rename_i v
    intro p e R s m args below meth c cells slots Q D ad cA A H locs ls hC hR hW hL
    exact hR q ls h H locs (some (.int v)) .ireturn hW hs.1 (Or.inl ⟨hr, rfl, v, rfl⟩) hd
  · exact hs.elim
theorem sn_zreturn (hd : decode M.2.1 q = .ok (.ireturn, 1)) (hr : M.2.2.2 = some .boolean) : mm_Sn l d M E post (q, se_ret post true) := by
  intro k hk L st h hs
  unfold se_ret at hs
  dsimp only at hs
  split at hs
  · rename_i v
    intro p e R s m args below meth c cells slots Q D ad cA A H locs ls hC hR hW hL
    exact hR q ls h H locs (some (.int v)) .ireturn hW hs.1 (Or.inr (Or.inl ⟨hr, rfl, v, rfl, hs.2 rfl⟩)) hd
  · exact hs.elim
def se_lret (P : mm_Po) : mm_S := fun _ _ st h => match st with
  | [.long v] => P (some (.long v)) h
  | _ => False
theorem sn_lreturn (hd : decode M.2.1 q = .ok (.lreturn, 1)) (hr : M.2.2.2 = some .long) : mm_Sn l d M E post (q, se_lret post) := by
  intro k hk L st h hs
  unfold se_lret at hs
  dsimp only at hs
  split at hs
  · rename_i v
    intro p e R s m args below meth c cells slots Q D ad cA A H locs ls hC hR hW hL
    exact hR q ls h H locs (some (.long v)) .lreturn hW hs (Or.inr (Or.inr (Or.inl ⟨hr, rfl, v, rfl⟩))) hd
  · exact hs.elim
def se_vret (P : mm_Po) : mm_S := fun _ _ st h => match st with
  | [] => P none h
  | _ => False
theorem sn_return (hd : decode M.2.1 q = .ok (.return_, 1)) (hr : M.2.2.2 = none) : mm_Sn l d M E post (q, se_vret post) := by
  intro k hk L st h hs
  unfold se_vret at hs
  dsimp only at hs
  split at hs
  · intro p e R s m args below meth c cells slots Q D ad cA A H locs ls hC hR hW hL
    exact hR q ls h H locs none .return_ hW hs (Or.inr (Or.inr (Or.inr ⟨hr, rfl, rfl⟩))) hd
  · exact hs.elim
/-- a switch: the cases in their order -/
def mm_sw (k : mm_K) (L : mm_L) (r : List Value) (h : mm_H) (x : Int32) (t0 : Nat) : List (Int32 × Nat) → Prop
  | [] => k t0 L r h
  | (v, t) :: cs => (x = v → k t L r h) ∧ (¬ x = v → mm_sw k L r h x t0 cs)
theorem mm_sw_hit {k : mm_K} {L : mm_L} {r : List Value} {h : mm_H} {x : Int32} {t0 t : Nat} : ∀ {cs : List (Int32 × Nat)} {j : Nat}, mm_sw k L r h x t0 cs → (cs.map Prod.fst).Nodup → cs[j]? = some (x, t) → k t L r h
  | [], j, _, _, hj => by simp at hj
  | (v, t1) :: cs, 0, hs, _, hj => by
    have e : (v, t1) = (x, t) := by simpa using hj
    cases e
    exact hs.1 rfl
  | (v, t1) :: cs, j + 1, hs, hn, hj => by
    have hj' : cs[j]? = some (x, t) := by simpa using hj
    have hn' := List.nodup_cons.mp hn
    have hv : ¬ x = v := fun e => hn'.1 (by rw [← e]; exact List.mem_map.mpr ⟨(x, t), List.mem_of_getElem? hj', rfl⟩)
    exact mm_sw_hit (hs.2 hv) hn'.2 hj'
theorem mm_sw_miss {k : mm_K} {L : mm_L} {r : List Value} {h : mm_H} {x : Int32} {t0 : Nat} : ∀ {cs : List (Int32 × Nat)}, mm_sw k L r h x t0 cs → (∀ c ∈ cs, ¬ x = c.1) → k t0 L r h
  | [], hs, _ => hs
  | (v, t1) :: cs, hs, hx => mm_sw_miss (hs.2 (hx _ List.mem_cons_self)) (fun c hc => hx c (List.mem_cons_of_mem _ hc))
def se_switch (cs : List (Int32 × Nat)) (t0 : Nat) : mm_S := fun k L st h => match st with
  | .int x :: r => mm_sw k L r h x t0 cs
  | _ => False
/-- the cases are the table's -/
def mm_swok (q : Nat) (dflt lo hi : Int) (offs : Array Int) (cs : List (Int32 × Nat)) (t0 : Nat) : Bool :=
  decide ((q : Int) + dflt = (t0 : Int)) && decide (hi = lo + (cs.length : Int) - 1) && decide (0 ≤ lo) && decide (hi < 1000) && decide (offs.size = cs.length) && (List.range cs.length).all (fun j => decide ((cs[j]?.map (fun c => (c.1.toInt, (c.2 : Int)))) = (offs[j]?.map (fun o => (lo + (j : Int), (q : Int) + o))))) && decide ((cs.map Prod.fst).Nodup)
theorem sn_switch {dflt lo hi : Int} {offs : Array Int} {len : Nat} {cs : List (Int32 × Nat)} {t0 : Nat} (hd : decode M.2.1 q = .ok (.tableswitch dflt lo hi offs, len)) (ho : mm_swok q dflt lo hi offs cs t0 = true) : mm_Sn l d M E post (q, se_switch cs t0) := by
  intro k hk L st h hs
  unfold se_switch at hs
  dsimp only at hs
  simp only [mm_swok, Bool.and_eq_true, decide_eq_true_eq] at ho
  obtain ⟨⟨⟨⟨⟨⟨o1, o2⟩, o3⟩, o4⟩, o5⟩, o6⟩, o7⟩ := ho
  split at hs
  · rename_i x r
    intro p e R s m args below meth c cells slots Q D ad cA A H locs ls hC hR hW hL
    by_cases hin : x.toInt < lo ∨ hi < x.toInt
    · refine lv_tableOut hC.1 hC.2.1 hd hin o1 (hk _ _ _ _ (mm_sw_miss hs (fun c hc e => ?_)) p e R s m args below meth c cells slots Q D ad cA A H locs ls hC hR hW hL)
      obtain ⟨j, hj⟩ := List.getElem?_of_mem hc
      have hjl : j < cs.length := (List.getElem?_eq_some_iff.mp hj).1
      have h6 := List.all_eq_true.mp o6 j (List.mem_range.mpr hjl)
      rw [decide_eq_true_eq, hj] at h6
      cases ho : offs[j]? with
      | none => rw [ho] at h6; cases h6
      | some z =>
        rw [ho] at h6
        have h7 : c.1.toInt = lo + (j : Int) := by
          have := congrArg (Option.map Prod.fst) h6
          simpa using this
        rw [← e] at h7
        omega
    · have g1 : ¬ x.toInt < lo := fun z => hin (Or.inl z)
      have g2 : ¬ hi < x.toInt := fun z => hin (Or.inr z)
      have hjl : (x.toInt - lo).toNat < cs.length := by omega
      have h6 := List.all_eq_true.mp o6 _ (List.mem_range.mpr hjl)
      rw [decide_eq_true_eq] at h6
      obtain ⟨c0, hc0⟩ : ∃ c0, cs[(x.toInt - lo).toNat]? = some c0 := ⟨_, List.getElem?_eq_getElem hjl⟩
      cases ho : offs[(x.toInt - lo).toNat]? with
      | none => rw [ho, hc0] at h6; cases h6
      | some z =>
        rw [ho, hc0] at h6
        have h7 : c0.1.toInt = lo + ((x.toInt - lo).toNat : Int) := by
          have := congrArg (Option.map Prod.fst) h6
          simpa using this
        have h8 : (c0.2 : Int) = (q : Int) + z := by
          have := congrArg (Option.map Prod.snd) h6
          simpa using this
        have hx : c0.1 = x := Int32.toInt_inj.mp (by omega)
        obtain ⟨c1, t1⟩ := c0
        dsimp only at hx h8
        subst hx
        exact lv_tableIn hC.1 hC.2.1 hd g1 g2 ho h8.symm (hk _ _ _ _ (mm_sw_hit hs o7 hc0) p e R s m args below meth c cells slots Q D ad cA A H locs ls hC hR hW hL)
  · exact hs.elim
end SE
end
section
/-! ===== methods of the small machine: what a call does ===== -/
def mm_rm (d : Nat) : Room := { frames := d, cells := 0, slots := 0, locals := 40 * d }
def mm_ws (M : mm_M) : List Cond := Cond.code M.1 M.2.1 M.2.2.1 M.2.2.2 :: mm_tb
def mm_A (ad : Nat → Nat) (sz : Nat) : Nat → Prop := fun q => (∃ k : Nat, k < 25 ∧ q = ad k) ∨ sz ≤ q
def mm_Pc (D : va_G) (ad : Nat → Nat) (cA : ClassId) (sz : Nat) (h : mm_H) (args : List Value) : Array Value → State → Prop := va_Pc (args.map (mm_rv ad)) (fun U => U.heap.size = sz ∧ va_P D vwCl (mm_wld ad cA h) U.heap ∧ va_K D vwCl [(cA, .int)] U ∧ va_D (fun _ => True) (mm_wld ad cA h) ∧ h 25 = mm_plc ∧ mm_St ad (mm_A ad sz) U)
def mm_Qc (D : va_G) (ad : Nat → Nat) (cA : ClassId) (sz : Nat) (post : mm_Po) : Array Value → State → Outcome → State → Prop := fun _ st oc t => (∃ (r : Option Value) (h' : mm_H), oc = .returned r ∧ post r h' ∧ va_P D vwCl (mm_wld ad cA h') t.heap ∧ h' 25 = mm_plc) ∧ va_F (mm_A ad sz) st t
/-- method M at depth d, called with args at h: it comes back, with an answer and an h' of which post holds -/
def mm_Ev (l : Launch) (d : Nat) (M : mm_M) (args : List Value) (h : mm_H) (post : mm_Po) : Prop := ∀ (D : va_G) (ad : Nat → Nat) (cA : ClassId) (sz : Nat), Met l M.1 (mm_ws M) (mm_rm d) (mm_Pc D ad cA sz h args) (mm_Qc D ad cA sz post) 0 0 (mm_A ad sz)
theorem mm_D_any {A : Nat → Prop} {ad : Nat → Nat} {cA : ClassId} {h h' : mm_H} (hD : va_D A (mm_wld ad cA h)) : va_D A (mm_wld ad cA h') := by
  refine ⟨fun i j x y hi hj hxy => ?_, fun k q hk => ?_⟩
  · obtain ⟨i1, i2⟩ := mm_wld_addr hi
    obtain ⟨j1, j2⟩ := mm_wld_addr hj
    obtain ⟨e1, g1⟩ := mm_wld_in (ad := ad) (cA := cA) (h := h) i1
    obtain ⟨e2, g2⟩ := mm_wld_in (ad := ad) (cA := cA) (h := h) j1
    exact hD.1 i j _ _ g1 g2 (by rw [← i2, ← j2]; exact hxy)
  · obtain ⟨i1, i2⟩ := mm_wld_addr hk
    obtain ⟨e1, g1⟩ := mm_wld_in (ad := ad) (cA := cA) (h := h) i1
    rw [i2]
    exact hD.2 k _ g1
theorem mm_D_A {A : Nat → Prop} {ad : Nat → Nat} {cA : ClassId} {h : mm_H} (sz : Nat) (hD : va_D A (mm_wld ad cA h)) : va_D (mm_A ad sz) (mm_wld ad cA h) := by
  refine ⟨hD.1, fun k q hk => ?_⟩
  obtain ⟨i1, i2⟩ := mm_wld_addr hk
  exact Or.inl ⟨k, i1, i2⟩
theorem mm_A_in {A : Nat → Prop} {ad : Nat → Nat} {cA : ClassId} {h : mm_H} {H0 : Heap} {sz : Nat} (hD : va_D A (mm_wld ad cA h)) (hA : ∀ q, H0.size ≤ q → A q) (hs : H0.size ≤ sz) : ∀ q, mm_A ad sz q → A q := by
  intro q hq
  rcases hq with ⟨k, hk, e⟩ | hq
  · obtain ⟨e1, g1⟩ := mm_wld_in (ad := ad) (cA := cA) (h := h) hk
    rw [e]
    exact hD.2 k _ g1
  · exact hA q (Nat.le_trans hs hq)
theorem mm_St.at {ad : Nat → Nat} {A B : Nat → Prop} {s U : State} {H : Heap} {locs : List Loc} (hS : va_S A s.heap H locs) (hU : U.heap = H) (hvm : s.vm.Alike U.vm) (hB : ∀ q, B q → A q) (h : mm_St ad A s) : mm_St ad B U := by
  obtain ⟨hz, ht⟩ := h
  unfold mm_St
  rw [hU]
  refine ⟨?_, (va_T.kept (va_T.moved hvm ht) hS.2.1).narrow hB⟩
  obtain ⟨cf, kf, fi, f, a, cell, q1, q2, q3, q4, q5, q6, q7, q8⟩ := va_Z.kept (va_Z.moved hvm hz) hS.2.1
  exact ⟨cf, kf, fi, f, a, cell, q1, q2, q3, q4, q5, q6, q7, fun z => q8 (hB a z)⟩
/-- the locals at a method's entry -/
def mm_en : Nat → List Value → mm_L
  | n, [] => List.replicate n none
  | n, v :: vs => match v with
    | .long _ => some v :: none :: mm_en (n - 2) vs
    | .double _ => some v :: none :: mm_en (n - 2) vs
    | _ => some v :: mm_en (n - 1) vs
theorem mm_en_at (ad : Nat → Nat) : ∀ (vs : List Value) (n k i : Nat) (v : Value), (mm_en n vs)[i]? = some (some v) → (k + i, mm_rv ad v) ∈ lv_args k (vs.map (mm_rv ad))
  | [], n, k, i, v, h => by
    unfold mm_en at h
    have := List.eq_of_mem_replicate (List.mem_of_getElem? h)
    cases this
  | w :: vs, n, k, i, v, h => by
    have two : ∀ (X : mm_L), w.category = 2 → X = mm_en (n - 2) vs → (some w :: none :: X)[i]? = some (some v) → (k + i, mm_rv ad v) ∈ lv_args k ((w :: vs).map (mm_rv ad)) := by
      intro X hc hX hi
      unfold lv_args
      rw [List.map_cons]
      dsimp only
      rw [mm_rv_cat, if_pos hc]
      match i, hi with
      | 0, hi =>
        have e : w = v := by simpa using hi
        subst e
        exact List.mem_cons_self
      | 1, hi => simp at hi
      | i + 2, hi =>
        have := mm_en_at ad vs (n - 2) (k + 2) i v (by rw [← hX]; simpa using hi)
        rw [show k + (i + 2) = k + 2 + i by omega]
        exact List.mem_cons_of_mem _ this
    have one : ∀ (X : mm_L), ¬ w.category = 2 → X = mm_en (n - 1) vs → (some w :: X)[i]? = some (some v) → (k + i, mm_rv ad v) ∈ lv_args k ((w :: vs).map (mm_rv ad)) := by
      intro X hc hX hi
      unfold lv_args
      rw [List.map_cons]
      dsimp only
      rw [mm_rv_cat, if_neg hc]
      match i, hi with
      | 0, hi =>
        have e : w = v := by simpa using hi
        subst e
        exact List.mem_cons_self
      | i + 1, hi =>
        have := mm_en_at ad vs (n - 1) (k + 1) i v (by rw [← hX]; simpa using hi)
        rw [show k + (i + 1) = k + 1 + i by omega]
        exact List.mem_cons_of_mem _ this
    unfold mm_en at h
    cases w with
    | long x => exact two _ rfl rfl h
    | double x => exact two _ rfl rfl h
    | int x => exact one _ (by simp [Value.category]) rfl h
    | float x => exact one _ (by simp [Value.category]) rfl h
    | null => exact one _ (by simp [Value.category]) rfl h
    | ref x => exact one _ (by simp [Value.category]) rfl h
    | retAddr x => exact one _ (by simp [Value.category]) rfl h
def mm_wds (vs : List Value) : Nat := (vs.map Value.category).sum
theorem mm_wds_eq (ad : Nat → Nat) : ∀ (vs : List Value), (lg_sl (vs.map (mm_rv ad))).length = mm_wds vs
  | [] => rfl
  | v :: vs => by
    have ih := mm_wds_eq ad vs
    have e : lg_sl ((v :: vs).map (mm_rv ad)) = (if v.category = 2 then [.val (mm_rv ad v), .second] else [.val (mm_rv ad v)]) ++ lg_sl (vs.map (mm_rv ad)) := by
      unfold lg_sl
      rw [List.map_cons, List.flatMap_cons, mm_rv_cat]
    rw [e, List.length_append, ih]
    unfold mm_wds
    rw [List.map_cons, List.sum_cons]
    rcases lv_cat v with hc | hc <;> simp [hc]
set_option maxHeartbeats 4000000 in
theorem mm_Ev.of {l : Launch} {d : Nat} {M : mm_M} {args : List Value} {h : mm_H} {post : mm_Po} (hy : plainName M.1.cls = true) (hn : mm_wds args ≤ M.2.2.1) (hat : mm_At l d M (fun _ _ _ => True) post 0 (mm_en M.2.2.1 args) [] h) : mm_Ev l d M args h post := by
  intro D ad cA sz
  refine Met.ofW (cc := M.2.1) (maxL := M.2.2.1) (ret := M.2.2.2) hy rfl ?_
  intro p e s m args' below meth c s₁ B hml hv
  obtain ⟨rfl, hsz, hP, hK, hD, h25, hSt⟩ := hv
  have hx := B.exec
  have hb := B.bytes
  have hr := B.returns
  have hts := atoms_spec (ws := mm_ws M) B.pre
  have hown : s.vm.findClass M.1.cls = some m.cls := findClass_of_methodNamed B.named
  have hlocks := B.notSynchronized
  subst hsz
  have hl := lv_entry (args.map (mm_rv ad)) (n := M.2.2.1) (by rw [mm_wds_eq]; exact hn)
  rw [lg_entry_eq]
  generalize (lg_sl (args.map (mm_rv ad)) ++ List.replicate (M.2.2.1 - (lg_sl (args.map (mm_rv ad))).length) Slot.unset).toArray = ls at hl ⊢
  refine hat p e (mm_rm d) s m _ below meth c 0 0 _ D ad cA (mm_A ad s.heap.size) s.heap [] ls ⟨hx, hb, hml, hown, fun w hw => hts w (List.mem_cons_of_mem _ hw), hK, fun q hq => Or.inr hq, hSt, Nat.le_refl _, Nat.le_refl _, Nat.zero_le _, Nat.zero_le _, trivial⟩ ?_ ⟨hP, mm_D_A _ hD, va_S.rf, h25⟩ ⟨hl.1, hl.2.1, fun i v hi => ?_⟩
  · intro pc ls h' H locs r i hW hpo hrt hd
    have hq : ∀ t : State, t.heap = H → s.WarmedH t.vm → mm_Qc D ad cA s.heap.size post (args.map (mm_rv ad)).toArray s (.returned r) t := fun t ht _ => ⟨⟨r, h', rfl, hpo, by rw [ht]; exact hW.1, hW.2.2.2⟩, hW.2.2.1.F ht⟩
    rcases hrt with ⟨h1, h2, v, h3⟩ | ⟨h1, h2, v, h3, h4⟩ | ⟨h1, h2, v, h3⟩ | ⟨h1, h2, h3⟩
    · subst h2; subst h3
      exact W.iret hx hb (hr.trans h1) hq hW.2.2.1.2.2 hd
    · subst h2; subst h3
      exact W.zret hx hb (hr.trans h1) (by rcases h4 with e4 | e4 <;> subst e4 <;> decide) hq hW.2.2.1.2.2 hd
    · subst h2; subst h3
      exact W.lret hx hb (hr.trans h1) hq hW.2.2.1.2.2 hd
    · subst h2; subst h3
      exact W.vret hx hb (hr.trans h1) hq hW.2.2.1.2.2 hd
  · have := mm_en_at ad args M.2.2.1 0 i v hi
    rw [Nat.zero_add] at this
    exact hl.2.2 _ this
theorem mm_Ev.mono {l : Launch} {d : Nat} {M : mm_M} {args : List Value} {h : mm_H} {post post' : mm_Po} (hE : mm_Ev l d M args h post) (hp : ∀ r h', post r h' → post' r h') : mm_Ev l d M args h post' := by
  intro D ad cA sz
  have hM := hE D ad cA sz
  unfold Met at hM ⊢
  refine hM.mono (fun _ _ hp => hp) (fun _ _ _ _ _ h => h) (fun a st o t _ hq => ?_)
  obtain ⟨⟨⟨r, h', e1, e2, e3⟩, e4⟩, e5⟩ := hq
  exact ⟨⟨⟨r, h', e1, hp r h' e2, e3⟩, e4⟩, e5⟩

/-- behind a call: the answer, and the world as the callee leaves it -/
theorem mm_callk {p : Program} {l : Launch} {e : Env} {R : Room} {s : State} {m : MethodId} {args : Array Value} {below : List Frame} {meth : Method} {c : Code} {H : Heap} {locs : List Loc} {cells slots : Nat} {Q : State → Prop} {pc : Nat} {ls : Array Slot} {rest st0 : List Value} {a : Array Value} {D : va_G} {ad : Nat → Nat} {cA : ClassId} {A : Nat → Prop} {h : mm_H} {post' : mm_Po}
    (hr : va_Run p l e R s m args below meth c H locs cells slots 0 0 (F0 m pc ls st0) rest (mm_Qc D ad cA H.size post' a) (mm_A ad H.size)) (hW : mm_Wd D ad cA A s.heap h H locs) (hA : ∀ q, s.heap.size ≤ q → A q)
    (kk : ∀ (r : Option Value) (h' : mm_H) (H1 : Heap) (locs1 : List Loc), post' r h' → mm_Wd D ad cA A s.heap h' H1 locs1 → W p l e R s m args below meth c H1 locs1 cells slots Q (F0 m (pc + 3) ls (r.toList ++ rest))) : W p l e R s m args below meth c H locs cells slots Q (F0 m pc ls st0) := by
  intro T hT X
  obtain ⟨v, st₀, t, T', L, h0, X', hL, e1, e2, ⟨⟨r, h', hv, hp, hP', h25'⟩, hz, hk⟩, st⟩ := hr T hT X
  cases hv
  rw [h0] at hz hk
  have hA1 := mm_A_in hW.2.1 hA hW.2.2.1.1
  obtain ⟨t2, a1, b1⟩ := kk v h' T'.heap (locs ++ L) hp ⟨by rw [e1]; exact hP', mm_D_any hW.2.1, ⟨Nat.le_trans hW.2.2.1.1 (by rw [e1]; exact hz), fun q h1 h2 => by rw [e1, hk q (Nat.lt_of_lt_of_le h1 hW.2.2.1.1) (fun z => h2 (hA1 q z))]; exact hW.2.2.1.2.1 q h1 h2, fun q hq => by
      rcases List.mem_append.mp hq with h | h
      · exact hW.2.2.1.2.2 q h
      · exact hA1 _ (hL q h)⟩, h25'⟩ T' rfl X'
  exact ⟨t2, st t2 a1, b1⟩
def mm_ag : Nat → List Value → List Value → List Value
  | 0, _, acc => acc
  | _ + 1, [], acc => acc
  | n + 1, v :: st, acc => mm_ag n st (v :: acc)
def mm_dr : Nat → List Value → List Value
  | 0, st => st
  | _ + 1, [] => []
  | n + 1, _ :: st => mm_dr n st
def mm_c8 (st : List Value) : Bool := Nat.ble (st.map Value.category).sum 8
theorem mm_ag_eq : ∀ (n : Nat) (st acc : List Value), mm_ag n st acc = (st.take n).reverse ++ acc
  | 0, st, acc => by simp [mm_ag]
  | n + 1, [], acc => by simp [mm_ag]
  | n + 1, v :: st, acc => by simp [mm_ag, mm_ag_eq n st]
theorem mm_dr_eq : ∀ (n : Nat) (st : List Value), mm_dr n st = st.drop n
  | 0, st => by simp [mm_dr]
  | n + 1, [] => by simp [mm_dr]
  | n + 1, v :: st => by simp [mm_dr, mm_dr_eq n st]
theorem mm_good {w : Cond} (h : w ∈ mm_tb) : goodWord w = true := (List.mem_filter.mp h).2
theorem mm_goodIn {ws : List Cond} (h : ∀ w ∈ ws, w ∈ mm_tb) : GoodIn mm_tb ws := fun w hw => ⟨h w hw, good_of_word (mm_good (h w hw))⟩
/-- a call's link: static -/
def mm_cs (own : String) (idx : Nat) (M : mm_M) (n : Nat) : Prop := Cond.methodLink own idx M.1 ∈ mm_tb ∧ Cond.static M.1 ∈ mm_tb ∧ Cond.initialized M.1.cls ∈ mm_tb ∧ Cond.code M.1 M.2.1 M.2.2.1 M.2.2.2 ∈ mm_tb ∧ (M.1.cls ≠ "java/lang/invoke/MethodHandle" ∧ M.1.cls ≠ "java/lang/invoke/VarHandle" ∧ (parseMethodDescriptor M.1.desc).map (fun d => d.parameters.length) = some n) ∧ M.2.2.1 ≤ 21
/-- a call's link: of a cell -/
def mm_cv (own : String) (idx : Nat) (M : mm_M) (n c0 : Nat) : Prop := Cond.methodLink own idx M.1 ∈ mm_tb ∧ Cond.instanceMethod M.1 ∈ mm_tb ∧ Cond.selects M.1.cls M.1 M.1 ∈ mm_tb ∧ Cond.initialized M.1.cls ∈ mm_tb ∧ Cond.code M.1 M.2.1 M.2.2.1 M.2.2.2 ∈ mm_tb ∧ (M.1.cls ≠ "java/lang/invoke/MethodHandle" ∧ M.1.cls ≠ "java/lang/invoke/VarHandle" ∧ (parseMethodDescriptor M.1.desc).map (fun d => d.parameters.length) = some n) ∧ M.2.2.1 ≤ 21 ∧ ∃ (ci : Nat) (fs : List (Option Nat)) (T : u_T) (N : Nat), mm_shp[c0]? = some (.inr (ci, fs)) ∧ vwCl[ci]? = some (M.1.cls, T, N)
theorem mm_ws_in {M : mm_M} (h : Cond.code M.1 M.2.1 M.2.2.1 M.2.2.2 ∈ mm_tb) : GoodIn mm_tb (mm_ws M) := mm_goodIn (fun w hw => by
  rcases List.mem_cons.mp hw with e | e
  · rw [e]; exact h
  · exact e)
theorem mm_blind (D : va_G) (ad : Nat → Nat) (cA : ClassId) (sz : Nat) (h : mm_H) (As : List Value) : FrameBlind (mm_Pc D ad cA sz h As) := by
  intro a U g mk hq
  obtain ⟨q0, q1, qP, qK, qD, q25, qS⟩ := hq
  exact ⟨q0, q1, qP, va_K.moved (u := U) (U := U.calling g mk a) (Vm.Alike.refl U.vm) qK, qD, q25, va_Z.moved (u := U) (U := U.calling g mk a) (Vm.Alike.refl U.vm) qS.1, va_T.moved (u := U) (U := U.calling g mk a) (Vm.Alike.refl U.vm) qS.2⟩
section SC
variable {l : Launch} {d : Nat} {M : mm_M} {E : mm_X} {post : mm_Po} {q : Nat}
def mm_rvk (ad : Nat → Nat) (r : Option Value) : Prop := r.toList.map (mm_rv ad) = r.toList
theorem mm_stk {n : Nat} {st : List Value} {ad : Nat → Nat} : st.map (mm_rv ad) = ((mm_ag n st []).map (mm_rv ad)).reverse ++ (mm_dr n st).map (mm_rv ad) := by
  rw [mm_ag_eq, mm_dr_eq, List.append_nil, ← List.map_reverse, List.reverse_reverse, ← List.map_append, List.take_append_drop]
theorem mm_c8_ok {ad : Nat → Nat} {st : List Value} (h : mm_c8 st = true) : ((st.map (mm_rv ad)).map fun v => v.category).sum ≤ 8 := by
  have e : (st.map (mm_rv ad)).map (fun v => v.category) = st.map Value.category := by
    rw [List.map_map]
    exact List.map_congr_left (fun v _ => mm_rv_cat ad v)
  rw [e]
  exact Nat.le_of_ble_eq_true h
theorem mm_pre {p : Program} {R : Room} {s : State} {m : MethodId} {args : Array Value} {c : Code} {H : Heap} {locs : List Loc} {cells slots : Nat} {D : va_G} {ad : Nat → Nat} {cA : ClassId} {A : Nat → Prop} {h : mm_H} {As : List Value} (hC : mm_Cx d M E p R s m args c cells slots D ad cA A) (hW : mm_Wd D ad cA A s.heap h H locs) (U : State) (hU : U.heap = H) (hw : s.WarmedH U.vm) : mm_Pc D ad cA H.size h As (As.map (mm_rv ad)).toArray U :=
  ⟨rfl, by rw [hU], by rw [hU]; exact hW.1, va_K.moved hw.alike hC.2.2.2.2.2.1, hW.2.1.weaken (fun _ _ _ _ => trivial), hW.2.2.2, mm_St.at hW.2.2.1 hU hw.alike (mm_A_in hW.2.1 hC.2.2.2.2.2.2.1 hW.2.2.1.1) hC.2.2.2.2.2.2.2.1⟩
theorem mm_kk {p : Program} {e : Env} {R : Room} {s : State} {m : MethodId} {args : Array Value} {below : List Frame} {meth : Method} {c : Code} {H : Heap} {locs : List Loc} {cells slots : Nat} {Q : State → Prop} {ls : Array Slot} {D : va_G} {ad : Nat → Nat} {cA : ClassId} {A : Nat → Prop} {pc : Nat} {L : mm_L} {r : Option Value} {st : List Value} {h : mm_H} (hat : mm_At l d M E post pc L (r.toList ++ st) h) (hr : mm_rvk ad r) (hC : mm_Cx d M E p R s m args c cells slots D ad cA A) (hR : mm_Rt M post p l e R s m args below meth c cells slots Q D ad cA A) (hW : mm_Wd D ad cA A s.heap h H locs) (hL : mm_lv ad ls M.2.2.1 L) : W p l e R s m args below meth c H locs cells slots Q (F0 m pc ls (r.toList ++ st.map (mm_rv ad))) := by
  have := hat p e R s m args below meth c cells slots Q D ad cA A H locs ls hC hR hW hL
  rw [List.map_append, hr] at this
  exact this
/-- an answer is a number, or none -/
def mm_num (r : Option Value) : Prop := r = none ∨ (∃ v : Int32, r = some (.int v)) ∨ ∃ v : Int64, r = some (.long v)
theorem mm_num.rvk {r : Option Value} (h : mm_num r) (ad : Nat → Nat) : mm_rvk ad r := by
  rcases h with rfl | ⟨v, rfl⟩ | ⟨v, rfl⟩ <;> rfl
def se_callS (l : Launch) (d : Nat) (M' : mm_M) (n nx : Nat) : mm_S := fun k L st h => ∃ (d' : Nat) (P : mm_Po), d' < d ∧ mm_Ev l d' M' (mm_ag n st []) h P ∧ Nat.ble n st.length = true ∧ mm_c8 (mm_dr n st) = true ∧ ∀ (r : Option Value) (h' : mm_H), P r h' → mm_num r ∧ k nx L (r.toList ++ mm_dr n st) h'
set_option maxHeartbeats 4000000 in
theorem sn_callS {idx n : Nat} {M' : mm_M} (hd : decode M.2.1 q = .ok (.invokestatic idx, 3)) (hc : mm_cs M.1.cls idx M' n) : mm_Sn l d M E post (q, se_callS l d M' n (q + 3)) := by
  intro k hk L st h hs
  obtain ⟨d', P, hlt, hE, hlen, h8, hpo⟩ := hs
  obtain ⟨c1, c2, c3, c4, c5, c6⟩ := hc
  intro p e R s m args below meth c cells slots Q D ad cA A H locs ls hC hR hW hL
  have hfr := hC.2.2.2.2.2.2.2.2.1
  have hlo := hC.2.2.2.2.2.2.2.2.2.1
  have hts := hC.2.2.2.2.1
  have cb : CallB R s args M.1.cls idx M'.1 M'.2.1 M'.2.2.1 M'.2.2.2 (mm_ws M') (mm_rm d') 0 0 n := callB_of n hts (mm_ws_in c4) rfl rfl rfl (hts _ c3) (hts _ c1) c5 ⟨by show d' + 1 ≤ _; omega, by show _ + 40 * d' ≤ _; omega⟩
  have hlen2 : ((mm_ag n st []).map (mm_rv ad)).length = n := by
    rw [List.length_map, mm_ag_eq, List.append_nil, List.length_reverse, List.length_take]
    have := Nat.le_of_ble_eq_true hlen
    omega
  have hrun := va_runS (g := F0 m q ls (st.map (mm_rv ad))) (As := (mm_ag n st []).map (mm_rv ad)) (rest := (mm_dr n st).map (mm_rv ad)) (locs := locs) (cells := cells) (slots := slots) (below := below) (meth := meth) (e := e) ⟨hC.1, hC.2.1, hC.2.2.1, hC.2.2.2.1, hts⟩ (hE D ad cA H.size) ⟨cb, hts _ c2⟩ ⟨mm_blind _ _ _ _ _ _, fun U hU hw => mm_pre hC hW U hU hw⟩ rfl hlen2 hL.1 mm_stk (lv_room (mm_c8_ok h8)) hd ⟨hC.2.2.2.2.2.2.2.2.2.2.1, hC.2.2.2.2.2.2.2.2.2.2.2.1⟩
  refine mm_callk hrun hW hC.2.2.2.2.2.2.1 (fun r h' H1 locs1 hp hW1 => ?_)
  obtain ⟨hn, hkk⟩ := hpo r h' hp
  exact mm_kk (hk _ _ _ _ hkk) (hn.rvk ad) hC hR hW1 hL
def se_callV (l : Launch) (d : Nat) (M' : mm_M) (n c0 nx : Nat) : mm_S := fun k L st h => ∃ (d' : Nat) (P : mm_Po), d' < d ∧ mm_Ev l d' M' (mm_ag (n + 1) st []) h P ∧ mm_nth st n = some (.ref c0) ∧ mm_c8 (mm_dr (n + 1) st) = true ∧ ∀ (r : Option Value) (h' : mm_H), P r h' → mm_num r ∧ k nx L (r.toList ++ mm_dr (n + 1) st) h'
set_option maxHeartbeats 4000000 in
theorem sn_callV {idx n c0 : Nat} {M' : mm_M} (hd : decode M.2.1 q = .ok (.invokevirtual idx, 3)) (hc : mm_cv M.1.cls idx M' n c0) : mm_Sn l d M E post (q, se_callV l d M' n c0 (q + 3)) := by
  intro k hk L st h hs
  obtain ⟨d', P, hlt, hE, hrec, h8, hpo⟩ := hs
  obtain ⟨c1, c2, c3, c4, c5, c6, c7, ci, fs, T, N, c8, c9⟩ := hc
  intro p e R s m args below meth c cells slots Q D ad cA A H locs ls hC hR hW hL
  have hfr := hC.2.2.2.2.2.2.2.2.1
  have hlo := hC.2.2.2.2.2.2.2.2.2.1
  have hts := hC.2.2.2.2.1
  have cb : CallB R s args M.1.cls idx M'.1 M'.2.1 M'.2.2.1 M'.2.2.2 (mm_ws M') (mm_rm d') 0 0 n := callB_of n hts (mm_ws_in c5) rfl rfl rfl (hts _ c4) (hts _ c1) c6 ⟨by show d' + 1 ≤ _; omega, by show _ + 40 * d' ≤ _; omega⟩
  have hst : mm_ag (n + 1) st [] = .ref c0 :: (st.take n).reverse := by
    rw [mm_ag_eq, List.append_nil, mm_nth_eq] at *
    rw [List.take_succ, hrec]
    simp
  have hl2 : n < st.length := by
    rw [mm_nth_eq] at hrec
    exact (List.getElem?_eq_some_iff.mp hrec).1
  have hlen2 : ((st.take n).reverse.map (mm_rv ad)).length = n := by
    rw [List.length_map, List.length_reverse, List.length_take]
    omega
  have hstk : st.map (mm_rv ad) = ((st.take n).reverse.map (mm_rv ad)).reverse ++ .ref (ad c0) :: (mm_dr (n + 1) st).map (mm_rv ad) := by
    have := mm_stk (n := n + 1) (st := st) (ad := ad)
    rw [hst] at this
    rw [this]
    simp [mm_rv]
  rw [hst] at hE
  have hrun := va_runV (g := F0 m q ls (st.map (mm_rv ad))) (b := ad c0) (As := (st.take n).reverse.map (mm_rv ad)) (rest := (mm_dr (n + 1) st).map (mm_rv ad)) (locs := locs) (cells := cells) (slots := slots) (below := below) (meth := meth) (e := e) ⟨hC.1, hC.2.1, hC.2.2.1, hC.2.2.2.1, hts⟩ (hE D ad cA H.size) ⟨cb, hts _ c2, hts _ c3⟩ ⟨mm_blind _ _ _ _ _ _, va_recv hC.2.2.2.2.2.1 hW.1 c9 (mm_wld_at c8), fun U hU hw => mm_pre hC hW U hU hw⟩ rfl hlen2 hL.1 hstk (lv_room (mm_c8_ok h8)) hd ⟨hC.2.2.2.2.2.2.2.2.2.2.1, hC.2.2.2.2.2.2.2.2.2.2.2.1⟩
  refine mm_callk hrun hW hC.2.2.2.2.2.2.1 (fun r h' H1 locs1 hp hW1 => ?_)
  obtain ⟨hn, hkk⟩ := hpo r h' hp
  exact mm_kk (hk _ _ _ _ hkk) (hn.rvk ad) hC hR hW1 hL
/-- System.arraycopy between two rows of ints -/
def se_copy (d nx : Nat) : mm_S := fun k L st h => match st with
  | .int n :: .int dp :: .ref b :: .int sp :: .ref a :: r => 1 ≤ d ∧ (¬ sp < 0) ∧ (¬ dp < 0) ∧ (¬ n < 0) ∧ (¬ a = 25) ∧ (¬ b = 25) ∧ 0 < mm_len a ∧ 0 < mm_len b ∧ sp.toNatClampNeg + n.toNatClampNeg ≤ mm_len a ∧ dp.toNatClampNeg + n.toNatClampNeg ≤ mm_len b ∧ mm_c8 r = true ∧ k nx L r (mm_setA h b (va_cpy (h a) (h b) sp.toNatClampNeg dp.toNatClampNeg n.toNatClampNeg))
  | _ => False
set_option maxHeartbeats 4000000 in
theorem sn_copy {idx : Nat} (hd : decode M.2.1 q = .ok (.invokestatic idx, 3)) (h1 : Cond.methodLink M.1.cls idx arraycopyName ∈ mm_tb) (h2 : Cond.native arraycopyName ∈ mm_tb) (h3 : Cond.static arraycopyName ∈ mm_tb) (h4 : Cond.initialized "java/lang/System" ∈ mm_tb) : mm_Sn l d M E post (q, se_copy d (q + 3)) := by
  intro k hk L st h hs
  unfold se_copy at hs
  dsimp only at hs
  split at hs
  · rename_i n dp b sp a r
    obtain ⟨d1, g1, g2, g3, ha, hb, la, lb, g4, g5, h8, hs⟩ := hs
    intro p e R s m args below meth c cells slots Q D ad cA A H locs ls hC hR hW hL
    have hts := hC.2.2.2.2.1
    have hfr := hC.2.2.2.2.2.2.2.2.1
    have hlo := hC.2.2.2.2.2.2.2.2.2.1
    have hxa := mm_len_at la ha
    have hxb := mm_len_at lb hb
    refine va_copyi hC.1 hC.2.1 (hC.2.2.1.trans hL.1.symm) hC.2.2.2.1 (hts _ h1) (hts _ h2) (hts _ h3) (hts _ h4) hC.2.2.2.2.2.1 hW.1 hW.2.1 hW.2.2.1 a b 0 0 (mm_wld_at hxa) (mm_wld_at hxb) rfl rfl rfl g1 g2 g3 g4 g5 (fun i _ => rfl) (Nat.le_trans d1 hfr) ?_ hd (fun H1 locs1 hP hD hS => ?_)
    · have e8 := mm_c8_ok (ad := ad) h8
      have e7 : nativeFrameWords "java/lang/System" "arraycopy" 5 = 7 := by decide
      rw [e7]
      omega
    · have he := mm_wld_setA (ad := ad) (cA := cA) (h := h) (f := va_cpy (h a) (h b) sp.toNatClampNeg dp.toNatClampNeg n.toNatClampNeg) hxb
      have hP := he ▸ hP
      have hD := he ▸ hD
      exact hk _ _ _ _ hs p e R s m args below meth c cells slots Q D ad cA A H1 locs1 ls hC hR ⟨hP, hD, hS, mm_setA_25 hb hW.2.2.2⟩ hL
  · exact hs.elim
/-- Math.max -/
def se_max (d nx : Nat) : mm_S := fun k L st h => match st with
  | .int y :: .int x :: r => 0 < d ∧ mm_c8 r = true ∧ k nx L (.int (if x < y then y else x) :: r) h
  | _ => False
theorem sn_max {idx : Nat} (hd : decode M.2.1 q = .ok (.invokestatic idx, 3)) (h1 : Cond.methodLink M.1.cls idx Lib.Math.max.name ∈ mm_tb) (h2 : Cond.static Lib.Math.max.name ∈ mm_tb) (h3 : Cond.initialized "java/lang/Math" ∈ mm_tb) (h4 : Cond.code Lib.Math.max.name Lib.Math.max.code 2 (some .int) ∈ mm_tb) : mm_Sn l d M E post (q, se_max d (q + 3)) := by
  intro k hk L st h hs
  unfold se_max at hs
  dsimp only at hs
  split at hs
  · rename_i y x r
    obtain ⟨d1, h8, hs⟩ := hs
    intro p e R s m args below meth c cells slots Q D ad cA A H locs ls hC hR hW hL
    have hts := hC.2.2.2.2.1
    have hfr := hC.2.2.2.2.2.2.2.2.1
    have hlo := hC.2.2.2.2.2.2.2.2.2.1
    refine va_mmax hC.1 hC.2.1 (hC.2.2.1.trans hL.1.symm) hC.2.2.2.1 (hts _ h1) (hts _ h2) (hts _ h3) (hts _ h4) (Nat.le_trans d1 hfr) ?_ hC.2.2.2.2.2.2.2.2.2.2.1 hC.2.2.2.2.2.2.2.2.2.2.2.1 hd (hk _ _ _ _ hs p e R s m args below meth c cells slots Q D ad cA A H locs ls hC hR hW hL)
    have e8 := mm_c8_ok (ad := ad) h8
    omega
  · exact hs.elim
/-- Math.min -/
def se_min (d nx : Nat) : mm_S := fun k L st h => match st with
  | .int y :: .int x :: r => 0 < d ∧ mm_c8 r = true ∧ k nx L (.int (if y < x then y else x) :: r) h
  | _ => False
theorem sn_min {idx : Nat} (hd : decode M.2.1 q = .ok (.invokestatic idx, 3)) (h1 : Cond.methodLink M.1.cls idx Lib.Math.min.name ∈ mm_tb) (h2 : Cond.static Lib.Math.min.name ∈ mm_tb) (h3 : Cond.initialized "java/lang/Math" ∈ mm_tb) (h4 : Cond.code Lib.Math.min.name Lib.Math.min.code 2 (some .int) ∈ mm_tb) : mm_Sn l d M E post (q, se_min d (q + 3)) := by
  intro k hk L st h hs
  unfold se_min at hs
  dsimp only at hs
  split at hs
  · rename_i y x r
    obtain ⟨d1, h8, hs⟩ := hs
    intro p e R s m args below meth c cells slots Q D ad cA A H locs ls hC hR hW hL
    have hts := hC.2.2.2.2.1
    have hfr := hC.2.2.2.2.2.2.2.2.1
    have hlo := hC.2.2.2.2.2.2.2.2.2.1
    refine va_mmin hC.1 hC.2.1 (hC.2.2.1.trans hL.1.symm) hC.2.2.2.1 (hts _ h1) (hts _ h2) (hts _ h3) (hts _ h4) (Nat.le_trans d1 hfr) ?_ hC.2.2.2.2.2.2.2.2.2.2.1 hC.2.2.2.2.2.2.2.2.2.2.2.1 hd (hk _ _ _ _ hs p e R s m args below meth c cells slots Q D ad cA A H locs ls hC hR hW hL)
    have e8 := mm_c8_ok (ad := ad) h8
    omega
  · exact hs.elim
theorem mm_numI (v : Int32) : mm_num (some (.int v)) := Or.inr (Or.inl ⟨v, rfl⟩)
theorem mm_numL (v : Int64) : mm_num (some (.long v)) := Or.inr (Or.inr ⟨v, rfl⟩)
theorem mm_numN : mm_num none := Or.inl rfl
end SC
end
section
/-! ===== the methods as rows of the small machine; printed by a program ===== -/
theorem mm_mem {w : Cond} (i : Nat) (h : lw_tbl[i]? = some w) (hg : goodWord w = true) : w ∈ mm_tb := List.mem_filter.mpr ⟨List.mem_of_getElem? h, hg⟩
theorem mm_c {l : Launch} {d : Nat} {M : mm_M} {E : mm_X} {post : mm_Po} {q : Nat × mm_S} {r : List (Nat × mm_S)} (h : mm_Sn l d M E post q) (t : ∀ x ∈ r, mm_Sn l d M E post x) : ∀ x ∈ q :: r, mm_Sn l d M E post x := List.forall_mem_cons.mpr ⟨h, t⟩
theorem mm_n {l : Launch} {d : Nat} {M : mm_M} {E : mm_X} {post : mm_Po} : ∀ x ∈ ([] : List (Nat × mm_S)), mm_Sn l d M E post x := fun _ h => absurd h List.not_mem_nil
theorem mm_inTX1 : ∀ w ∈ u_ws RX1 TX1 6, w ∈ mm_tb := by decide +kernel
theorem mm_inTX2 : ∀ w ∈ u_ws RX2 TX2 4, w ∈ mm_tb := by decide +kernel
theorem mm_inTX3 : ∀ w ∈ u_ws RX3 TX3 3, w ∈ mm_tb := by decide +kernel
theorem mm_inTX4 : ∀ w ∈ u_ws RX4 TX4 7, w ∈ mm_tb := by decide +kernel
theorem mm_inTX5 : ∀ w ∈ u_ws RX5 TX5 8, w ∈ mm_tb := by decide +kernel
theorem mm_inTX6 : ∀ w ∈ u_ws RX6 TX6 12, w ∈ mm_tb := by decide +kernel
def MJ_bitCount : mm_M := (yJ6_bitCount_0f7a4, cJ6_bitCount_0f7a4, 1, (some .int))
theorem cw_J_bitCount : Cond.code MJ_bitCount.1 MJ_bitCount.2.1 MJ_bitCount.2.2.1 MJ_bitCount.2.2.2 ∈ mm_tb := mm_mem 276 (by decide +kernel) rfl
def PJ_bitCount (l : Launch) (d : Nat) (post : mm_Po) : List (Nat × mm_S) := [(0, se_iload 0 1), (1, se_iload 0 2), (2, se_int 1 3), (3, se_iushr 4), (4, se_int 1431655765 7), (7, se_iand 8), (8, se_isub 9), (9, se_istore 0 10), (10, se_iload 0 11), (11, se_int 858993459 14), (14, se_iand 15), (15, se_iload 0 16), (16, se_int 2 17), (17, se_iushr 18), (18, se_int 858993459 21), (21, se_iand 22), (22, se_iadd 23), (23, se_istore 0 24), (24, se_iload 0 25), (25, se_iload 0 26), (26, se_int 4 27), (27, se_iushr 28), (28, se_iadd 29), (29, se_int 252645135 32), (32, se_iand 33), (33, se_istore 0 34), (34, se_iload 0 35), (35, se_iload 0 36), (36, se_int 8 38), (38, se_iushr 39), (39, se_iadd 40), (40, se_istore 0 41), (41, se_iload 0 42), (42, se_iload 0 43), (43, se_int 16 45), (45, se_iushr 46), (46, se_iadd 47), (47, se_istore 0 48), (48, se_iload 0 49), (49, se_int 63 51), (51, se_iand 52), (52, se_ret post false)]
set_option maxRecDepth 100000 in
theorem SJ_bitCount (l : Launch) (d : Nat) (E : mm_X) (post : mm_Po) : ∀ q ∈ PJ_bitCount l d post, mm_Sn l d MJ_bitCount E post q := mm_c (sn_iload_n dJ6_bitCount_0f7a4_0 rfl) <| mm_c (sn_iload_n dJ6_bitCount_0f7a4_1 rfl) <| mm_c (sn_iconst dJ6_bitCount_0f7a4_2 (by decide)) <| mm_c (sn_iushr dJ6_bitCount_0f7a4_3) <| mm_c (sn_ldcw dJ6_bitCount_0f7a4_4 (mm_mem 277 (by decide +kernel) rfl)) <| mm_c (sn_iand dJ6_bitCount_0f7a4_7) <| mm_c (sn_isub dJ6_bitCount_0f7a4_8) <| mm_c (sn_istore_n dJ6_bitCount_0f7a4_9 rfl (by decide)) <| mm_c (sn_iload_n dJ6_bitCount_0f7a4_10 rfl) <| mm_c (sn_ldcw dJ6_bitCount_0f7a4_11 (mm_mem 278 (by decide +kernel) rfl)) <| mm_c (sn_iand dJ6_bitCount_0f7a4_14) <| mm_c (sn_iload_n dJ6_bitCount_0f7a4_15 rfl) <| mm_c (sn_iconst dJ6_bitCount_0f7a4_16 (by decide)) <| mm_c (sn_iushr dJ6_bitCount_0f7a4_17) <| mm_c (sn_ldcw dJ6_bitCount_0f7a4_18 (mm_mem 278 (by decide +kernel) rfl)) <| mm_c (sn_iand dJ6_bitCount_0f7a4_21) <| mm_c (sn_iadd dJ6_bitCount_0f7a4_22) <| mm_c (sn_istore_n dJ6_bitCount_0f7a4_23 rfl (by decide)) <| mm_c (sn_iload_n dJ6_bitCount_0f7a4_24 rfl) <| mm_c (sn_iload_n dJ6_bitCount_0f7a4_25 rfl) <| mm_c (sn_iconst dJ6_bitCount_0f7a4_26 (by decide)) <| mm_c (sn_iushr dJ6_bitCount_0f7a4_27) <| mm_c (sn_iadd dJ6_bitCount_0f7a4_28) <| mm_c (sn_ldcw dJ6_bitCount_0f7a4_29 (mm_mem 279 (by decide +kernel) rfl)) <| mm_c (sn_iand dJ6_bitCount_0f7a4_32) <| mm_c (sn_istore_n dJ6_bitCount_0f7a4_33 rfl (by decide)) <| mm_c (sn_iload_n dJ6_bitCount_0f7a4_34 rfl) <| mm_c (sn_iload_n dJ6_bitCount_0f7a4_35 rfl) <| mm_c (sn_bipush dJ6_bitCount_0f7a4_36 (by decide)) <| mm_c (sn_iushr dJ6_bitCount_0f7a4_38) <| mm_c (sn_iadd dJ6_bitCount_0f7a4_39) <| mm_c (sn_istore_n dJ6_bitCount_0f7a4_40 rfl (by decide)) <| mm_c (sn_iload_n dJ6_bitCount_0f7a4_41 rfl) <| mm_c (sn_iload_n dJ6_bitCount_0f7a4_42 rfl) <| mm_c (sn_bipush dJ6_bitCount_0f7a4_43 (by decide)) <| mm_c (sn_iushr dJ6_bitCount_0f7a4_45) <| mm_c (sn_iadd dJ6_bitCount_0f7a4_46) <| mm_c (sn_istore_n dJ6_bitCount_0f7a4_47 rfl (by decide)) <| mm_c (sn_iload_n dJ6_bitCount_0f7a4_48 rfl) <| mm_c (sn_bipush dJ6_bitCount_0f7a4_49 (by decide)) <| mm_c (sn_iand dJ6_bitCount_0f7a4_51) <| mm_c (sn_ireturn dJ6_bitCount_0f7a4_52 rfl) <| mm_n
def MJ_fill : mm_M := (yJ7_fill_53178, cJ7_fill_53178, 4, none)
theorem cw_J_fill : Cond.code MJ_fill.1 MJ_fill.2.1 MJ_fill.2.2.1 MJ_fill.2.2.2 ∈ mm_tb := mm_mem 198 (by decide +kernel) rfl
def PJ_fill (l : Launch) (d : Nat) (post : mm_Po) : List (Nat × mm_S) := [(0, se_int 0 1), (1, se_istore 2 2), (2, se_aload 0 3), (3, se_alen 4), (4, se_istore 3 5), (5, se_iload 2 6), (6, se_iload 3 7), (7, se_icmp_ge 20 10), (10, se_aload 0 11), (11, se_iload 2 12), (12, se_iload 1 13), (13, se_iastore 14), (14, se_iinc 2 1 17), (17, se_goto 5), (20, se_vret post)]
set_option maxRecDepth 100000 in
theorem SJ_fill (l : Launch) (d : Nat) (E : mm_X) (post : mm_Po) : ∀ q ∈ PJ_fill l d post, mm_Sn l d MJ_fill E post q := mm_c (sn_iconst dJ7_fill_53178_0 (by decide)) <| mm_c (sn_istore_n dJ7_fill_53178_1 rfl (by decide)) <| mm_c (sn_aload_n dJ7_fill_53178_2 rfl) <| mm_c (sn_alen dJ7_fill_53178_3) <| mm_c (sn_istore_n dJ7_fill_53178_4 rfl (by decide)) <| mm_c (sn_iload_n dJ7_fill_53178_5 rfl) <| mm_c (sn_iload_n dJ7_fill_53178_6 rfl) <| mm_c (sn_icmp_ge dJ7_fill_53178_7 (by decide)) <| mm_c (sn_aload_n dJ7_fill_53178_10 rfl) <| mm_c (sn_iload_n dJ7_fill_53178_11 rfl) <| mm_c (sn_iload_n dJ7_fill_53178_12 rfl) <| mm_c (sn_iastore dJ7_fill_53178_13) <| mm_c (sn_iinc dJ7_fill_53178_14 (by decide) (by decide)) <| mm_c (sn_goto dJ7_fill_53178_17 (by decide)) <| mm_c (sn_return dJ7_fill_53178_20 rfl) <| mm_n
end
section
/-! ===== the methods as rows of the small machine; printed by a program ===== -/
def M0_suits : mm_M := (yX0_suits, cX0_suits, 5, (some .boolean))
theorem cw_0_suits : Cond.code M0_suits.1 M0_suits.2.1 M0_suits.2.2.1 M0_suits.2.2.2 ∈ mm_tb := mm_mem 249 (by decide +kernel) rfl
theorem C_X0_9 : mm_cs RX0 9 M0_suits 4 := ⟨mm_mem 257 (by decide +kernel) rfl, mm_mem 248 (by decide +kernel) rfl, mm_mem 44 (by decide +kernel) rfl, cw_0_suits, by decide +kernel, by decide⟩
def M0_nearWith : mm_M := (yX0_nearWith, cX0_nearWith, 6, (some .int))
theorem cw_0_nearWith : Cond.code M0_nearWith.1 M0_nearWith.2.1 M0_nearWith.2.2.1 M0_nearWith.2.2.2 ∈ mm_tb := mm_mem 260 (by decide +kernel) rfl
theorem C_X0_15 : mm_cs RX0 15 M0_nearWith 4 := ⟨mm_mem 258 (by decide +kernel) rfl, mm_mem 259 (by decide +kernel) rfl, mm_mem 44 (by decide +kernel) rfl, cw_0_nearWith, by decide +kernel, by decide⟩
def M0_followsLeader : mm_M := (yX0_followsLeader, cX0_followsLeader, 5, (some .boolean))
theorem cw_0_followsLeader : Cond.code M0_followsLeader.1 M0_followsLeader.2.1 M0_followsLeader.2.2.1 M0_followsLeader.2.2.2 ∈ mm_tb := mm_mem 263 (by decide +kernel) rfl
theorem C_X0_19 : mm_cs RX0 19 M0_followsLeader 3 := ⟨mm_mem 261 (by decide +kernel) rfl, mm_mem 262 (by decide +kernel) rfl, mm_mem 44 (by decide +kernel) rfl, cw_0_followsLeader, by decide +kernel, by decide⟩
def M0_isScattered : mm_M := (yX0_isScattered, cX0_isScattered, 3, (some .boolean))
theorem cw_0_isScattered : Cond.code M0_isScattered.1 M0_isScattered.2.1 M0_isScattered.2.2.1 M0_isScattered.2.2.2 ∈ mm_tb := mm_mem 266 (by decide +kernel) rfl
theorem C_X0_23 : mm_cs RX0 23 M0_isScattered 2 := ⟨mm_mem 264 (by decide +kernel) rfl, mm_mem 265 (by decide +kernel) rfl, mm_mem 44 (by decide +kernel) rfl, cw_0_isScattered, by decide +kernel, by decide⟩
def M0_hangsOnOne : mm_M := (yX0_hangsOnOne, cX0_hangsOnOne, 6, (some .boolean))
theorem cw_0_hangsOnOne : Cond.code M0_hangsOnOne.1 M0_hangsOnOne.2.1 M0_hangsOnOne.2.2.1 M0_hangsOnOne.2.2.2 ∈ mm_tb := mm_mem 273 (by decide +kernel) rfl
theorem C_X0_27 : mm_cs RX0 27 M0_hangsOnOne 3 := ⟨mm_mem 271 (by decide +kernel) rfl, mm_mem 272 (by decide +kernel) rfl, mm_mem 44 (by decide +kernel) rfl, cw_0_hangsOnOne, by decide +kernel, by decide⟩
def M0_saysYes : mm_M := (yX0_saysYes, cX0_saysYes, 4, (some .boolean))
theorem cw_0_saysYes : Cond.code M0_saysYes.1 M0_saysYes.2.1 M0_saysYes.2.2.1 M0_saysYes.2.2.2 ∈ mm_tb := mm_mem 256 (by decide +kernel) rfl
def P0_saysYes (l : Launch) (d : Nat) (post : mm_Po) : List (Nat × mm_S) := [(0, se_aload 0 1), (1, se_iload 1 2), (2, se_iload 3 3), (3, se_aload 2 4), (4, se_iload 3 5), (5, se_iaload 6), (6, se_callS l d M0_suits 4 9), (9, se_if_ne 14 12), (12, se_int 0 13), (13, se_ret post true), (14, se_iload 1 15), (15, se_switch [(0, 44), (1, 44), (2, 62), (3, 69)] 75), (44, se_aload 0 45), (45, se_aload 2 46), (46, se_iload 3 47), (47, se_aload 2 48), (48, se_iload 3 49), (49, se_iaload 50), (50, se_callS l d M0_nearWith 4 53), (53, se_if_ne 60 56), (56, se_int 1 57), (57, se_goto 61), (60, se_int 0 61), (61, se_ret post true), (62, se_aload 0 63), (63, se_aload 2 64), (64, se_iload 3 65), (65, se_callS l d M0_followsLeader 3 68), (68, se_ret post true), (69, se_aload 0 70), (70, se_iload 3 71), (71, se_callS l d M0_isScattered 2 74), (74, se_ret post true), (75, se_aload 0 76), (76, se_aload 2 77), (77, se_iload 3 78), (78, se_callS l d M0_hangsOnOne 3 81), (81, se_ret post true)]
set_option maxRecDepth 100000 in
theorem S0_saysYes (l : Launch) (d : Nat) (E : mm_X) (post : mm_Po) : ∀ q ∈ P0_saysYes l d post, mm_Sn l d M0_saysYes E post q := mm_c (sn_aload_n dX0_saysYes_0 rfl) <| mm_c (sn_iload_n dX0_saysYes_1 rfl) <| mm_c (sn_iload_n dX0_saysYes_2 rfl) <| mm_c (sn_aload_n dX0_saysYes_3 rfl) <| mm_c (sn_iload_n dX0_saysYes_4 rfl) <| mm_c (sn_iaload dX0_saysYes_5) <| mm_c (sn_callS dX0_saysYes_6 C_X0_9) <| mm_c (sn_if_ne dX0_saysYes_9 (by decide)) <| mm_c (sn_iconst dX0_saysYes_12 (by decide)) <| mm_c (sn_zreturn dX0_saysYes_13 rfl) <| mm_c (sn_iload_n dX0_saysYes_14 rfl) <| mm_c (sn_switch dX0_saysYes_15 (by decide +kernel)) <| mm_c (sn_aload_n dX0_saysYes_44 rfl) <| mm_c (sn_aload_n dX0_saysYes_45 rfl) <| mm_c (sn_iload_n dX0_saysYes_46 rfl) <| mm_c (sn_aload_n dX0_saysYes_47 rfl) <| mm_c (sn_iload_n dX0_saysYes_48 rfl) <| mm_c (sn_iaload dX0_saysYes_49) <| mm_c (sn_callS dX0_saysYes_50 C_X0_15) <| mm_c (sn_if_ne dX0_saysYes_53 (by decide)) <| mm_c (sn_iconst dX0_saysYes_56 (by decide)) <| mm_c (sn_goto dX0_saysYes_57 (by decide)) <| mm_c (sn_iconst dX0_saysYes_60 (by decide)) <| mm_c (sn_zreturn dX0_saysYes_61 rfl) <| mm_c (sn_aload_n dX0_saysYes_62 rfl) <| mm_c (sn_aload_n dX0_saysYes_63 rfl) <| mm_c (sn_iload_n dX0_saysYes_64 rfl) <| mm_c (sn_callS dX0_saysYes_65 C_X0_19) <| mm_c (sn_zreturn dX0_saysYes_68 rfl) <| mm_c (sn_aload_n dX0_saysYes_69 rfl) <| mm_c (sn_iload_n dX0_saysYes_70 rfl) <| mm_c (sn_callS dX0_saysYes_71 C_X0_23) <| mm_c (sn_zreturn dX0_saysYes_74 rfl) <| mm_c (sn_aload_n dX0_saysYes_75 rfl) <| mm_c (sn_aload_n dX0_saysYes_76 rfl) <| mm_c (sn_iload_n dX0_saysYes_77 rfl) <| mm_c (sn_callS dX0_saysYes_78 C_X0_27) <| mm_c (sn_zreturn dX0_saysYes_81 rfl) <| mm_n
theorem F_X0_30 : mm_fok RX0 30 1 1 (some 3) := ⟨1, _, RX2, TX2, 4, rfl, rfl, rfl, by decide, mm_inTX2, mm_mem 67 (by decide +kernel) rfl⟩
def P0_suits (l : Launch) (d : Nat) (post : mm_Po) : List (Nat × mm_S) := [(0, se_iload 1 1), (1, se_switch [(0, 32), (1, 43), (2, 54), (3, 110)] 120), (32, se_iload 3 33), (33, se_int 2 34), (34, se_icmp_ge 41 37), (37, se_int 1 38), (38, se_goto 42), (41, se_int 0 42), (42, se_ret post true), (43, se_iload 3 44), (44, se_int 3 45), (45, se_icmp_ge 52 48), (48, se_int 1 49), (49, se_goto 53), (52, se_int 0 53), (53, se_ret post true), (54, se_aload 0 55), (55, se_getR 1 3 58), (58, se_iload 2 59), (59, se_iaload 60), (60, se_int 1 61), (61, se_icmp_ne 68 64), (64, se_int 1 65), (65, se_goto 69), (68, se_int 0 69), (69, se_istore 4 71), (71, se_iload 3 72), (72, se_int 8 74), (74, se_irem 75), (75, se_if_ne 99 78), (78, se_iload 4 80), (80, se_if_eq 95 83), (83, se_iload 3 84), (84, se_int 8 86), (86, se_idiv 87), (87, se_iload 2 88), (88, se_icmp_ne 95 91), (91, se_int 1 92), (92, se_goto 109), (95, se_int 0 96), (96, se_goto 109), (99, se_iload 4 101), (101, se_if_ne 108 104), (104, se_int 1 105), (105, se_goto 109), (108, se_int 0 109), (109, se_ret post true), (110, se_iload 3 111), (111, se_if_ne 118 114), (114, se_int 1 115), (115, se_goto 119), (118, se_int 0 119), (119, se_ret post true), (120, se_iload 3 121), (121, se_int 8 123), (123, se_icmp_ge 130 126), (126, se_int 1 127), (127, se_goto 131), (130, se_int 0 131), (131, se_ret post true)]
set_option maxRecDepth 100000 in
theorem S0_suits (l : Launch) (d : Nat) (E : mm_X) (post : mm_Po) : ∀ q ∈ P0_suits l d post, mm_Sn l d M0_suits E post q := mm_c (sn_iload_n dX0_suits_0 rfl) <| mm_c (sn_switch dX0_suits_1 (by decide +kernel)) <| mm_c (sn_iload_n dX0_suits_32 rfl) <| mm_c (sn_iconst dX0_suits_33 (by decide)) <| mm_c (sn_icmp_ge dX0_suits_34 (by decide)) <| mm_c (sn_iconst dX0_suits_37 (by decide)) <| mm_c (sn_goto dX0_suits_38 (by decide)) <| mm_c (sn_iconst dX0_suits_41 (by decide)) <| mm_c (sn_zreturn dX0_suits_42 rfl) <| mm_c (sn_iload_n dX0_suits_43 rfl) <| mm_c (sn_iconst dX0_suits_44 (by decide)) <| mm_c (sn_icmp_ge dX0_suits_45 (by decide)) <| mm_c (sn_iconst dX0_suits_48 (by decide)) <| mm_c (sn_goto dX0_suits_49 (by decide)) <| mm_c (sn_iconst dX0_suits_52 (by decide)) <| mm_c (sn_zreturn dX0_suits_53 rfl) <| mm_c (sn_aload_n dX0_suits_54 rfl) <| mm_c (sn_getR dX0_suits_55 F_X0_30) <| mm_c (sn_iload_n dX0_suits_58 rfl) <| mm_c (sn_iaload dX0_suits_59) <| mm_c (sn_iconst dX0_suits_60 (by decide)) <| mm_c (sn_icmp_ne dX0_suits_61 (by decide)) <| mm_c (sn_iconst dX0_suits_64 (by decide)) <| mm_c (sn_goto dX0_suits_65 (by decide)) <| mm_c (sn_iconst dX0_suits_68 (by decide)) <| mm_c (sn_istore dX0_suits_69 (by decide)) <| mm_c (sn_iload_n dX0_suits_71 rfl) <| mm_c (sn_bipush dX0_suits_72 (by decide)) <| mm_c (sn_irem dX0_suits_74) <| mm_c (sn_if_ne dX0_suits_75 (by decide)) <| mm_c (sn_iload dX0_suits_78) <| mm_c (sn_if_eq dX0_suits_80 (by decide)) <| mm_c (sn_iload_n dX0_suits_83 rfl) <| mm_c (sn_bipush dX0_suits_84 (by decide)) <| mm_c (sn_idiv dX0_suits_86) <| mm_c (sn_iload_n dX0_suits_87 rfl) <| mm_c (sn_icmp_ne dX0_suits_88 (by decide)) <| mm_c (sn_iconst dX0_suits_91 (by decide)) <| mm_c (sn_goto dX0_suits_92 (by decide)) <| mm_c (sn_iconst dX0_suits_95 (by decide)) <| mm_c (sn_goto dX0_suits_96 (by decide)) <| mm_c (sn_iload dX0_suits_99) <| mm_c (sn_if_ne dX0_suits_101 (by decide)) <| mm_c (sn_iconst dX0_suits_104 (by decide)) <| mm_c (sn_goto dX0_suits_105 (by decide)) <| mm_c (sn_iconst dX0_suits_108 (by decide)) <| mm_c (sn_zreturn dX0_suits_109 rfl) <| mm_c (sn_iload_n dX0_suits_110 rfl) <| mm_c (sn_if_ne dX0_suits_111 (by decide)) <| mm_c (sn_iconst dX0_suits_114 (by decide)) <| mm_c (sn_goto dX0_suits_115 (by decide)) <| mm_c (sn_iconst dX0_suits_118 (by decide)) <| mm_c (sn_zreturn dX0_suits_119 rfl) <| mm_c (sn_iload_n dX0_suits_120 rfl) <| mm_c (sn_bipush dX0_suits_121 (by decide)) <| mm_c (sn_icmp_ge dX0_suits_123 (by decide)) <| mm_c (sn_iconst dX0_suits_126 (by decide)) <| mm_c (sn_goto dX0_suits_127 (by decide)) <| mm_c (sn_iconst dX0_suits_130 (by decide)) <| mm_c (sn_zreturn dX0_suits_131 rfl) <| mm_n
theorem F_X0_36 : mm_fok RX0 36 1 3 none := ⟨1, _, RX2, TX2, 4, rfl, rfl, rfl, by decide, mm_inTX2, mm_mem 74 (by decide +kernel) rfl⟩
theorem F_X0_36_w : mm_fw RX0 36 1 3 false := ⟨1, _, RX2, TX2, 4, tyX2, rfl, rfl, rfl, by decide, mm_inTX2, mm_mem 74 (by decide +kernel) rfl, tyX2_ok, nmX2, rfl, rfl⟩
theorem F_X0_40 : mm_fok RX0 40 1 0 (some 2) := ⟨1, _, RX2, TX2, 4, rfl, rfl, rfl, by decide, mm_inTX2, mm_mem 64 (by decide +kernel) rfl⟩
def P0_nearWith (l : Launch) (d : Nat) (post : mm_Po) : List (Nat × mm_S) := [(0, se_int 0 1), (1, se_istore 4 3), (3, se_int 0 4), (4, se_istore 5 6), (6, se_iload 5 8), (8, se_aload 0 9), (9, se_getI 1 3 12), (12, se_icmp_ge 47 15), (15, se_aload 0 16), (16, se_getR 1 2 19), (19, se_iload 2 20), (20, se_iaload 21), (21, se_iload 5 23), (23, se_ishr 24), (24, se_int 1 25), (25, se_iand 26), (26, se_int 1 27), (27, se_icmp_ne 41 30), (30, se_aload 1 31), (31, se_iload 5 33), (33, se_iaload 34), (34, se_iload 3 35), (35, se_icmp_ne 41 38), (38, se_iinc 4 1 41), (41, se_iinc 5 1 44), (44, se_goto 6), (47, se_iload 4 49), (49, se_ret post false)]
set_option maxRecDepth 100000 in
theorem S0_nearWith (l : Launch) (d : Nat) (E : mm_X) (post : mm_Po) : ∀ q ∈ P0_nearWith l d post, mm_Sn l d M0_nearWith E post q := mm_c (sn_iconst dX0_nearWith_0 (by decide)) <| mm_c (sn_istore dX0_nearWith_1 (by decide)) <| mm_c (sn_iconst dX0_nearWith_3 (by decide)) <| mm_c (sn_istore dX0_nearWith_4 (by decide)) <| mm_c (sn_iload dX0_nearWith_6) <| mm_c (sn_aload_n dX0_nearWith_8 rfl) <| mm_c (sn_getI dX0_nearWith_9 F_X0_36) <| mm_c (sn_icmp_ge dX0_nearWith_12 (by decide)) <| mm_c (sn_aload_n dX0_nearWith_15 rfl) <| mm_c (sn_getR dX0_nearWith_16 F_X0_40) <| mm_c (sn_iload_n dX0_nearWith_19 rfl) <| mm_c (sn_iaload dX0_nearWith_20) <| mm_c (sn_iload dX0_nearWith_21) <| mm_c (sn_ishr dX0_nearWith_23) <| mm_c (sn_iconst dX0_nearWith_24 (by decide)) <| mm_c (sn_iand dX0_nearWith_25) <| mm_c (sn_iconst dX0_nearWith_26 (by decide)) <| mm_c (sn_icmp_ne dX0_nearWith_27 (by decide)) <| mm_c (sn_aload_n dX0_nearWith_30 rfl) <| mm_c (sn_iload dX0_nearWith_31) <| mm_c (sn_iaload dX0_nearWith_33) <| mm_c (sn_iload_n dX0_nearWith_34 rfl) <| mm_c (sn_icmp_ne dX0_nearWith_35 (by decide)) <| mm_c (sn_iinc dX0_nearWith_38 (by decide) (by decide)) <| mm_c (sn_iinc dX0_nearWith_41 (by decide) (by decide)) <| mm_c (sn_goto dX0_nearWith_44 (by decide)) <| mm_c (sn_iload dX0_nearWith_47) <| mm_c (sn_ireturn dX0_nearWith_49 rfl) <| mm_n
def P0_followsLeader (l : Launch) (d : Nat) (post : mm_Po) : List (Nat × mm_S) := [(0, se_aload 1 1), (1, se_iload 2 2), (2, se_iaload 3), (3, se_int 8 5), (5, se_idiv 6), (6, se_istore 3 7), (7, se_int 0 8), (8, se_istore 4 10), (10, se_iload 4 12), (12, se_aload 0 13), (13, se_getI 1 3 16), (16, se_icmp_ge 53 19), (19, se_aload 0 20), (20, se_getR 1 2 23), (23, se_iload 2 24), (24, se_iaload 25), (25, se_iload 4 27), (27, se_ishr 28), (28, se_int 1 29), (29, se_iand 30), (30, se_int 1 31), (31, se_icmp_ne 47 34), (34, se_aload 1 35), (35, se_iload 4 37), (37, se_iaload 38), (38, se_int 8 40), (40, se_idiv 41), (41, se_iload 3 42), (42, se_icmp_eq 47 45), (45, se_int 0 46), (46, se_ret post true), (47, se_iinc 4 1 50), (50, se_goto 10), (53, se_aload 1 54), (54, se_iload 2 55), (55, se_iaload 56), (56, se_int 8 58), (58, se_irem 59), (59, se_if_eq 76 62), (62, se_aload 0 63), (63, se_aload 1 64), (64, se_iload 2 65), (65, se_aload 1 66), (66, se_iload 2 67), (67, se_iaload 68), (68, se_int 1 69), (69, se_isub 70), (70, se_callS l d M0_nearWith 4 73), (73, se_if_le 80 76), (76, se_int 1 77), (77, se_goto 81), (80, se_int 0 81), (81, se_ret post true)]
set_option maxRecDepth 100000 in
theorem S0_followsLeader (l : Launch) (d : Nat) (E : mm_X) (post : mm_Po) : ∀ q ∈ P0_followsLeader l d post, mm_Sn l d M0_followsLeader E post q := mm_c (sn_aload_n dX0_followsLeader_0 rfl) <| mm_c (sn_iload_n dX0_followsLeader_1 rfl) <| mm_c (sn_iaload dX0_followsLeader_2) <| mm_c (sn_bipush dX0_followsLeader_3 (by decide)) <| mm_c (sn_idiv dX0_followsLeader_5) <| mm_c (sn_istore_n dX0_followsLeader_6 rfl (by decide)) <| mm_c (sn_iconst dX0_followsLeader_7 (by decide)) <| mm_c (sn_istore dX0_followsLeader_8 (by decide)) <| mm_c (sn_iload dX0_followsLeader_10) <| mm_c (sn_aload_n dX0_followsLeader_12 rfl) <| mm_c (sn_getI dX0_followsLeader_13 F_X0_36) <| mm_c (sn_icmp_ge dX0_followsLeader_16 (by decide)) <| mm_c (sn_aload_n dX0_followsLeader_19 rfl) <| mm_c (sn_getR dX0_followsLeader_20 F_X0_40) <| mm_c (sn_iload_n dX0_followsLeader_23 rfl) <| mm_c (sn_iaload dX0_followsLeader_24) <| mm_c (sn_iload dX0_followsLeader_25) <| mm_c (sn_ishr dX0_followsLeader_27) <| mm_c (sn_iconst dX0_followsLeader_28 (by decide)) <| mm_c (sn_iand dX0_followsLeader_29) <| mm_c (sn_iconst dX0_followsLeader_30 (by decide)) <| mm_c (sn_icmp_ne dX0_followsLeader_31 (by decide)) <| mm_c (sn_aload_n dX0_followsLeader_34 rfl) <| mm_c (sn_iload dX0_followsLeader_35) <| mm_c (sn_iaload dX0_followsLeader_37) <| mm_c (sn_bipush dX0_followsLeader_38 (by decide)) <| mm_c (sn_idiv dX0_followsLeader_40) <| mm_c (sn_iload_n dX0_followsLeader_41 rfl) <| mm_c (sn_icmp_eq dX0_followsLeader_42 (by decide)) <| mm_c (sn_iconst dX0_followsLeader_45 (by decide)) <| mm_c (sn_zreturn dX0_followsLeader_46 rfl) <| mm_c (sn_iinc dX0_followsLeader_47 (by decide) (by decide)) <| mm_c (sn_goto dX0_followsLeader_50 (by decide)) <| mm_c (sn_aload_n dX0_followsLeader_53 rfl) <| mm_c (sn_iload_n dX0_followsLeader_54 rfl) <| mm_c (sn_iaload dX0_followsLeader_55) <| mm_c (sn_bipush dX0_followsLeader_56 (by decide)) <| mm_c (sn_irem dX0_followsLeader_58) <| mm_c (sn_if_eq dX0_followsLeader_59 (by decide)) <| mm_c (sn_aload_n dX0_followsLeader_62 rfl) <| mm_c (sn_aload_n dX0_followsLeader_63 rfl) <| mm_c (sn_iload_n dX0_followsLeader_64 rfl) <| mm_c (sn_aload_n dX0_followsLeader_65 rfl) <| mm_c (sn_iload_n dX0_followsLeader_66 rfl) <| mm_c (sn_iaload dX0_followsLeader_67) <| mm_c (sn_iconst dX0_followsLeader_68 (by decide)) <| mm_c (sn_isub dX0_followsLeader_69) <| mm_c (sn_callS dX0_followsLeader_70 C_X0_15) <| mm_c (sn_if_le dX0_followsLeader_73 (by decide)) <| mm_c (sn_iconst dX0_followsLeader_76 (by decide)) <| mm_c (sn_goto dX0_followsLeader_77 (by decide)) <| mm_c (sn_iconst dX0_followsLeader_80 (by decide)) <| mm_c (sn_zreturn dX0_followsLeader_81 rfl) <| mm_n
def M2_leaders : mm_M := (yX2_leaders, cX2_leaders, 3, (some .int))
theorem cw_2_leaders : Cond.code M2_leaders.1 M2_leaders.2.1 M2_leaders.2.2.1 M2_leaders.2.2.2 ∈ mm_tb := mm_mem 270 (by decide +kernel) rfl
theorem C_X0_43 : mm_cv RX0 43 M2_leaders 0 1 := ⟨mm_mem 267 (by decide +kernel) rfl, mm_mem 268 (by decide +kernel) rfl, mm_mem 269 (by decide +kernel) rfl, mm_mem 38 (by decide +kernel) rfl, cw_2_leaders, by decide +kernel, by decide, 1, _, _, _, rfl, rfl⟩
def P0_isScattered (l : Launch) (d : Nat) (post : mm_Po) : List (Nat × mm_S) := [(0, se_aload 0 1), (1, se_getR 1 2 4), (4, se_iload 1 5), (5, se_iaload 6), (6, se_aload 0 7), (7, se_callV l d M2_leaders 0 1 10), (10, se_iand 11), (11, se_if_eq 18 14), (14, se_int 1 15), (15, se_goto 19), (18, se_int 0 19), (19, se_istore 2 20), (20, se_iload 2 21), (21, se_aload 0 22), (22, se_getR 1 3 25), (25, se_iload 1 26), (26, se_iaload 27), (27, se_int 1 28), (28, se_icmp_ne 35 31), (31, se_int 1 32), (32, se_goto 36), (35, se_int 0 36), (36, se_icmp_eq 43 39), (39, se_int 1 40), (40, se_goto 44), (43, se_int 0 44), (44, se_ret post true)]
set_option maxRecDepth 100000 in
theorem S0_isScattered (l : Launch) (d : Nat) (E : mm_X) (post : mm_Po) : ∀ q ∈ P0_isScattered l d post, mm_Sn l d M0_isScattered E post q := mm_c (sn_aload_n dX0_isScattered_0 rfl) <| mm_c (sn_getR dX0_isScattered_1 F_X0_40) <| mm_c (sn_iload_n dX0_isScattered_4 rfl) <| mm_c (sn_iaload dX0_isScattered_5) <| mm_c (sn_aload_n dX0_isScattered_6 rfl) <| mm_c (sn_callV dX0_isScattered_7 C_X0_43) <| mm_c (sn_iand dX0_isScattered_10) <| mm_c (sn_if_eq dX0_isScattered_11 (by decide)) <| mm_c (sn_iconst dX0_isScattered_14 (by decide)) <| mm_c (sn_goto dX0_isScattered_15 (by decide)) <| mm_c (sn_iconst dX0_isScattered_18 (by decide)) <| mm_c (sn_istore_n dX0_isScattered_19 rfl (by decide)) <| mm_c (sn_iload_n dX0_isScattered_20 rfl) <| mm_c (sn_aload_n dX0_isScattered_21 rfl) <| mm_c (sn_getR dX0_isScattered_22 F_X0_30) <| mm_c (sn_iload_n dX0_isScattered_25 rfl) <| mm_c (sn_iaload dX0_isScattered_26) <| mm_c (sn_iconst dX0_isScattered_27 (by decide)) <| mm_c (sn_icmp_ne dX0_isScattered_28 (by decide)) <| mm_c (sn_iconst dX0_isScattered_31 (by decide)) <| mm_c (sn_goto dX0_isScattered_32 (by decide)) <| mm_c (sn_iconst dX0_isScattered_35 (by decide)) <| mm_c (sn_icmp_eq dX0_isScattered_36 (by decide)) <| mm_c (sn_iconst dX0_isScattered_39 (by decide)) <| mm_c (sn_goto dX0_isScattered_40 (by decide)) <| mm_c (sn_iconst dX0_isScattered_43 (by decide)) <| mm_c (sn_zreturn dX0_isScattered_44 rfl) <| mm_n
theorem C_X0_47 : mm_cs RX0 47 MJ_bitCount 1 := ⟨mm_mem 274 (by decide +kernel) rfl, mm_mem 275 (by decide +kernel) rfl, mm_mem 45 (by decide +kernel) rfl, cw_J_bitCount, by decide +kernel, by decide⟩
def P0_hangsOnOne (l : Launch) (d : Nat) (post : mm_Po) : List (Nat × mm_S) := [(0, se_aload 0 1), (1, se_aload 1 2), (2, se_iload 2 3), (3, se_aload 1 4), (4, se_iload 2 5), (5, se_iaload 6), (6, se_int 1 7), (7, se_isub 8), (8, se_callS l d M0_nearWith 4 11), (11, se_istore 3 12), (12, se_aload 0 13), (13, se_aload 1 14), (14, se_iload 2 15), (15, se_aload 1 16), (16, se_iload 2 17), (17, se_iaload 18), (18, se_int 1 19), (19, se_iadd 20), (20, se_callS l d M0_nearWith 4 23), (23, se_istore 4 25), (25, se_aload 1 26), (26, se_iload 2 27), (27, se_iaload 28), (28, se_if_ne 35 31), (31, se_int 0 32), (32, se_goto 36), (35, se_int 1 36), (36, se_istore 5 38), (38, se_iload 3 39), (39, se_iload 5 41), (41, se_icmp_ne 64 44), (44, se_iload 3 45), (45, se_iload 4 47), (47, se_iadd 48), (48, se_aload 0 49), (49, se_getR 1 2 52), (52, se_iload 2 53), (53, se_iaload 54), (54, se_callS l d MJ_bitCount 1 57), (57, se_icmp_ne 64 60), (60, se_int 1 61), (61, se_goto 65), (64, se_int 0 65), (65, se_ret post true)]
set_option maxRecDepth 100000 in
theorem S0_hangsOnOne (l : Launch) (d : Nat) (E : mm_X) (post : mm_Po) : ∀ q ∈ P0_hangsOnOne l d post, mm_Sn l d M0_hangsOnOne E post q := mm_c (sn_aload_n dX0_hangsOnOne_0 rfl) <| mm_c (sn_aload_n dX0_hangsOnOne_1 rfl) <| mm_c (sn_iload_n dX0_hangsOnOne_2 rfl) <| mm_c (sn_aload_n dX0_hangsOnOne_3 rfl) <| mm_c (sn_iload_n dX0_hangsOnOne_4 rfl) <| mm_c (sn_iaload dX0_hangsOnOne_5) <| mm_c (sn_iconst dX0_hangsOnOne_6 (by decide)) <| mm_c (sn_isub dX0_hangsOnOne_7) <| mm_c (sn_callS dX0_hangsOnOne_8 C_X0_15) <| mm_c (sn_istore_n dX0_hangsOnOne_11 rfl (by decide)) <| mm_c (sn_aload_n dX0_hangsOnOne_12 rfl) <| mm_c (sn_aload_n dX0_hangsOnOne_13 rfl) <| mm_c (sn_iload_n dX0_hangsOnOne_14 rfl) <| mm_c (sn_aload_n dX0_hangsOnOne_15 rfl) <| mm_c (sn_iload_n dX0_hangsOnOne_16 rfl) <| mm_c (sn_iaload dX0_hangsOnOne_17) <| mm_c (sn_iconst dX0_hangsOnOne_18 (by decide)) <| mm_c (sn_iadd dX0_hangsOnOne_19) <| mm_c (sn_callS dX0_hangsOnOne_20 C_X0_15) <| mm_c (sn_istore dX0_hangsOnOne_23 (by decide)) <| mm_c (sn_aload_n dX0_hangsOnOne_25 rfl) <| mm_c (sn_iload_n dX0_hangsOnOne_26 rfl) <| mm_c (sn_iaload dX0_hangsOnOne_27) <| mm_c (sn_if_ne dX0_hangsOnOne_28 (by decide)) <| mm_c (sn_iconst dX0_hangsOnOne_31 (by decide)) <| mm_c (sn_goto dX0_hangsOnOne_32 (by decide)) <| mm_c (sn_iconst dX0_hangsOnOne_35 (by decide)) <| mm_c (sn_istore dX0_hangsOnOne_36 (by decide)) <| mm_c (sn_iload_n dX0_hangsOnOne_38 rfl) <| mm_c (sn_iload dX0_hangsOnOne_39) <| mm_c (sn_icmp_ne dX0_hangsOnOne_41 (by decide)) <| mm_c (sn_iload_n dX0_hangsOnOne_44 rfl) <| mm_c (sn_iload dX0_hangsOnOne_45) <| mm_c (sn_iadd dX0_hangsOnOne_47) <| mm_c (sn_aload_n dX0_hangsOnOne_48 rfl) <| mm_c (sn_getR dX0_hangsOnOne_49 F_X0_40) <| mm_c (sn_iload_n dX0_hangsOnOne_52 rfl) <| mm_c (sn_iaload dX0_hangsOnOne_53) <| mm_c (sn_callS dX0_hangsOnOne_54 C_X0_47) <| mm_c (sn_icmp_ne dX0_hangsOnOne_57 (by decide)) <| mm_c (sn_iconst dX0_hangsOnOne_60 (by decide)) <| mm_c (sn_goto dX0_hangsOnOne_61 (by decide)) <| mm_c (sn_iconst dX0_hangsOnOne_64 (by decide)) <| mm_c (sn_zreturn dX0_hangsOnOne_65 rfl) <| mm_n
theorem F_X2_21 : mm_fok RX2 21 1 3 none := ⟨1, _, RX2, TX2, 4, rfl, rfl, rfl, by decide, mm_inTX2, mm_mem 72 (by decide +kernel) rfl⟩
theorem F_X2_21_w : mm_fw RX2 21 1 3 false := ⟨1, _, RX2, TX2, 4, tyX2, rfl, rfl, rfl, by decide, mm_inTX2, mm_mem 72 (by decide +kernel) rfl, tyX2_ok, nmX2, rfl, rfl⟩
theorem F_X2_9 : mm_fok RX2 9 1 0 (some 2) := ⟨1, _, RX2, TX2, 4, rfl, rfl, rfl, by decide, mm_inTX2, mm_mem 62 (by decide +kernel) rfl⟩
theorem C_X2_25 : mm_cs RX2 25 MJ_fill 2 := ⟨mm_mem 196 (by decide +kernel) rfl, mm_mem 197 (by decide +kernel) rfl, mm_mem 43 (by decide +kernel) rfl, cw_J_fill, by decide +kernel, by decide⟩
theorem F_X2_15 : mm_fok RX2 15 1 1 (some 3) := ⟨1, _, RX2, TX2, 4, rfl, rfl, rfl, by decide, mm_inTX2, mm_mem 65 (by decide +kernel) rfl⟩
def M2_clear : mm_M := (yX2_clear, cX2_clear, 2, none)
theorem cw_2_clear : Cond.code M2_clear.1 M2_clear.2.1 M2_clear.2.2.1 M2_clear.2.2.2 ∈ mm_tb := mm_mem 195 (by decide +kernel) rfl
def P2_clear (l : Launch) (d : Nat) (post : mm_Po) : List (Nat × mm_S) := [(0, se_aload 0 1), (1, se_iload 1 2), (2, se_put false 1 3 5), (5, se_aload 0 6), (6, se_getR 1 2 9), (9, se_int 0 10), (10, se_callS l d MJ_fill 2 13), (13, se_aload 0 14), (14, se_getR 1 3 17), (17, se_int 0 18), (18, se_callS l d MJ_fill 2 21), (21, se_vret post)]
set_option maxRecDepth 100000 in
theorem S2_clear (l : Launch) (d : Nat) (E : mm_X) (post : mm_Po) : ∀ q ∈ P2_clear l d post, mm_Sn l d M2_clear E post q := mm_c (sn_aload_n dX2_clear_0 rfl) <| mm_c (sn_iload_n dX2_clear_1 rfl) <| mm_c (sn_put dX2_clear_2 F_X2_21_w) <| mm_c (sn_aload_n dX2_clear_5 rfl) <| mm_c (sn_getR dX2_clear_6 F_X2_9) <| mm_c (sn_iconst dX2_clear_9 (by decide)) <| mm_c (sn_callS dX2_clear_10 C_X2_25) <| mm_c (sn_aload_n dX2_clear_13 rfl) <| mm_c (sn_getR dX2_clear_14 F_X2_15) <| mm_c (sn_iconst dX2_clear_17 (by decide)) <| mm_c (sn_callS dX2_clear_18 C_X2_25) <| mm_c (sn_return dX2_clear_21 rfl) <| mm_n
def M2_has : mm_M := (yX2_has, cX2_has, 2, (some .boolean))
theorem cw_2_has : Cond.code M2_has.1 M2_has.2.1 M2_has.2.2.1 M2_has.2.2.2 ∈ mm_tb := mm_mem 212 (by decide +kernel) rfl
def P2_has (l : Launch) (d : Nat) (post : mm_Po) : List (Nat × mm_S) := [(0, se_iload 1 1), (1, se_if_lt 16 4), (4, se_iload 1 5), (5, se_aload 0 6), (6, se_getI 1 3 9), (9, se_icmp_ge 16 12), (12, se_int 1 13), (13, se_goto 17), (16, se_int 0 17), (17, se_ret post true)]
set_option maxRecDepth 100000 in
theorem S2_has (l : Launch) (d : Nat) (E : mm_X) (post : mm_Po) : ∀ q ∈ P2_has l d post, mm_Sn l d M2_has E post q := mm_c (sn_iload_n dX2_has_0 rfl) <| mm_c (sn_if_lt dX2_has_1 (by decide)) <| mm_c (sn_iload_n dX2_has_4 rfl) <| mm_c (sn_aload_n dX2_has_5 rfl) <| mm_c (sn_getI dX2_has_6 F_X2_21) <| mm_c (sn_icmp_ge dX2_has_9 (by decide)) <| mm_c (sn_iconst dX2_has_12 (by decide)) <| mm_c (sn_goto dX2_has_13 (by decide)) <| mm_c (sn_iconst dX2_has_16 (by decide)) <| mm_c (sn_zreturn dX2_has_17 rfl) <| mm_n
def M2_joined : mm_M := (yX2_joined, cX2_joined, 3, (some .int))
theorem cw_2_joined : Cond.code M2_joined.1 M2_joined.2.1 M2_joined.2.2.1 M2_joined.2.2.2 ∈ mm_tb := mm_mem 216 (by decide +kernel) rfl
def P2_joined (l : Launch) (d : Nat) (post : mm_Po) : List (Nat × mm_S) := [(0, se_aload 0 1), (1, se_getR 1 2 4), (4, se_iload 1 5), (5, se_iaload 6), (6, se_iload 2 7), (7, se_ishr 8), (8, se_int 1 9), (9, se_iand 10), (10, se_ret post false)]
set_option maxRecDepth 100000 in
theorem S2_joined (l : Launch) (d : Nat) (E : mm_X) (post : mm_Po) : ∀ q ∈ P2_joined l d post, mm_Sn l d M2_joined E post q := mm_c (sn_aload_n dX2_joined_0 rfl) <| mm_c (sn_getR dX2_joined_1 F_X2_9) <| mm_c (sn_iload_n dX2_joined_4 rfl) <| mm_c (sn_iaload dX2_joined_5) <| mm_c (sn_iload_n dX2_joined_6 rfl) <| mm_c (sn_ishr dX2_joined_7) <| mm_c (sn_iconst dX2_joined_8 (by decide)) <| mm_c (sn_iand dX2_joined_9) <| mm_c (sn_ireturn dX2_joined_10 rfl) <| mm_n
def M2_join : mm_M := (yX2_join, cX2_join, 4, none)
theorem cw_2_join : Cond.code M2_join.1 M2_join.2.1 M2_join.2.2.1 M2_join.2.2.2 ∈ mm_tb := mm_mem 220 (by decide +kernel) rfl
def P2_join (l : Launch) (d : Nat) (post : mm_Po) : List (Nat × mm_S) := [(0, se_iload 3 1), (1, se_if_eq 31 4), (4, se_aload 0 5), (5, se_getR 1 2 8), (8, se_iload 1 9), (9, se_dup2 10), (10, se_iaload 11), (11, se_int 1 12), (12, se_iload 2 13), (13, se_ishl 14), (14, se_ior 15), (15, se_iastore 16), (16, se_aload 0 17), (17, se_getR 1 2 20), (20, se_iload 2 21), (21, se_dup2 22), (22, se_iaload 23), (23, se_int 1 24), (24, se_iload 1 25), (25, se_ishl 26), (26, se_ior 27), (27, se_iastore 28), (28, se_goto 59), (31, se_aload 0 32), (32, se_getR 1 2 35), (35, se_iload 1 36), (36, se_dup2 37), (37, se_iaload 38), (38, se_int 1 39), (39, se_iload 2 40), (40, se_ishl 41), (41, se_int (-1) 42), (42, se_ixor 43), (43, se_iand 44), (44, se_iastore 45), (45, se_aload 0 46), (46, se_getR 1 2 49), (49, se_iload 2 50), (50, se_dup2 51), (51, se_iaload 52), (52, se_int 1 53), (53, se_iload 1 54), (54, se_ishl 55), (55, se_int (-1) 56), (56, se_ixor 57), (57, se_iand 58), (58, se_iastore 59), (59, se_vret post)]
set_option maxRecDepth 100000 in
theorem S2_join (l : Launch) (d : Nat) (E : mm_X) (post : mm_Po) : ∀ q ∈ P2_join l d post, mm_Sn l d M2_join E post q := mm_c (sn_iload_n dX2_join_0 rfl) <| mm_c (sn_if_eq dX2_join_1 (by decide)) <| mm_c (sn_aload_n dX2_join_4 rfl) <| mm_c (sn_getR dX2_join_5 F_X2_9) <| mm_c (sn_iload_n dX2_join_8 rfl) <| mm_c (sn_dup2 dX2_join_9) <| mm_c (sn_iaload dX2_join_10) <| mm_c (sn_iconst dX2_join_11 (by decide)) <| mm_c (sn_iload_n dX2_join_12 rfl) <| mm_c (sn_ishl dX2_join_13) <| mm_c (sn_ior dX2_join_14) <| mm_c (sn_iastore dX2_join_15) <| mm_c (sn_aload_n dX2_join_16 rfl) <| mm_c (sn_getR dX2_join_17 F_X2_9) <| mm_c (sn_iload_n dX2_join_20 rfl) <| mm_c (sn_dup2 dX2_join_21) <| mm_c (sn_iaload dX2_join_22) <| mm_c (sn_iconst dX2_join_23 (by decide)) <| mm_c (sn_iload_n dX2_join_24 rfl) <| mm_c (sn_ishl dX2_join_25) <| mm_c (sn_ior dX2_join_26) <| mm_c (sn_iastore dX2_join_27) <| mm_c (sn_goto dX2_join_28 (by decide)) <| mm_c (sn_aload_n dX2_join_31 rfl) <| mm_c (sn_getR dX2_join_32 F_X2_9) <| mm_c (sn_iload_n dX2_join_35 rfl) <| mm_c (sn_dup2 dX2_join_36) <| mm_c (sn_iaload dX2_join_37) <| mm_c (sn_iconst dX2_join_38 (by decide)) <| mm_c (sn_iload_n dX2_join_39 rfl) <| mm_c (sn_ishl dX2_join_40) <| mm_c (sn_iconst dX2_join_41 (by decide)) <| mm_c (sn_ixor dX2_join_42) <| mm_c (sn_iand dX2_join_43) <| mm_c (sn_iastore dX2_join_44) <| mm_c (sn_aload_n dX2_join_45 rfl) <| mm_c (sn_getR dX2_join_46 F_X2_9) <| mm_c (sn_iload_n dX2_join_49 rfl) <| mm_c (sn_dup2 dX2_join_50) <| mm_c (sn_iaload dX2_join_51) <| mm_c (sn_iconst dX2_join_52 (by decide)) <| mm_c (sn_iload_n dX2_join_53 rfl) <| mm_c (sn_ishl dX2_join_54) <| mm_c (sn_iconst dX2_join_55 (by decide)) <| mm_c (sn_ixor dX2_join_56) <| mm_c (sn_iand dX2_join_57) <| mm_c (sn_iastore dX2_join_58) <| mm_c (sn_return dX2_join_59 rfl) <| mm_n
theorem C_X2_31 : mm_cs RX2 31 MJ_bitCount 1 := ⟨mm_mem 317 (by decide +kernel) rfl, mm_mem 275 (by decide +kernel) rfl, mm_mem 45 (by decide +kernel) rfl, cw_J_bitCount, by decide +kernel, by decide⟩
def M2_lineCount : mm_M := (yX2_lineCount, cX2_lineCount, 3, (some .int))
theorem cw_2_lineCount : Cond.code M2_lineCount.1 M2_lineCount.2.1 M2_lineCount.2.2.1 M2_lineCount.2.2.2 ∈ mm_tb := mm_mem 316 (by decide +kernel) rfl
def P2_lineCount (l : Launch) (d : Nat) (post : mm_Po) : List (Nat × mm_S) := [(0, se_int 0 1), (1, se_istore 1 2), (2, se_int 0 3), (3, se_istore 2 4), (4, se_iload 2 5), (5, se_aload 0 6), (6, se_getI 1 3 9), (9, se_icmp_ge 30 12), (12, se_iload 1 13), (13, se_aload 0 14), (14, se_getR 1 2 17), (17, se_iload 2 18), (18, se_iaload 19), (19, se_callS l d MJ_bitCount 1 22), (22, se_iadd 23), (23, se_istore 1 24), (24, se_iinc 2 1 27), (27, se_goto 4), (30, se_iload 1 31), (31, se_int 2 32), (32, se_idiv 33), (33, se_ret post false)]
set_option maxRecDepth 100000 in
theorem S2_lineCount (l : Launch) (d : Nat) (E : mm_X) (post : mm_Po) : ∀ q ∈ P2_lineCount l d post, mm_Sn l d M2_lineCount E post q := mm_c (sn_iconst dX2_lineCount_0 (by decide)) <| mm_c (sn_istore_n dX2_lineCount_1 rfl (by decide)) <| mm_c (sn_iconst dX2_lineCount_2 (by decide)) <| mm_c (sn_istore_n dX2_lineCount_3 rfl (by decide)) <| mm_c (sn_iload_n dX2_lineCount_4 rfl) <| mm_c (sn_aload_n dX2_lineCount_5 rfl) <| mm_c (sn_getI dX2_lineCount_6 F_X2_21) <| mm_c (sn_icmp_ge dX2_lineCount_9 (by decide)) <| mm_c (sn_iload_n dX2_lineCount_12 rfl) <| mm_c (sn_aload_n dX2_lineCount_13 rfl) <| mm_c (sn_getR dX2_lineCount_14 F_X2_9) <| mm_c (sn_iload_n dX2_lineCount_17 rfl) <| mm_c (sn_iaload dX2_lineCount_18) <| mm_c (sn_callS dX2_lineCount_19 C_X2_31) <| mm_c (sn_iadd dX2_lineCount_22) <| mm_c (sn_istore_n dX2_lineCount_23 rfl (by decide)) <| mm_c (sn_iinc dX2_lineCount_24 (by decide) (by decide)) <| mm_c (sn_goto dX2_lineCount_27 (by decide)) <| mm_c (sn_iload_n dX2_lineCount_30 rfl) <| mm_c (sn_iconst dX2_lineCount_31 (by decide)) <| mm_c (sn_idiv dX2_lineCount_32) <| mm_c (sn_ireturn dX2_lineCount_33 rfl) <| mm_n
def P2_leaders (l : Launch) (d : Nat) (post : mm_Po) : List (Nat × mm_S) := [(0, se_int 0 1), (1, se_istore 1 2), (2, se_int 0 3), (3, se_istore 2 4), (4, se_iload 2 5), (5, se_aload 0 6), (6, se_getI 1 3 9), (9, se_icmp_ge 34 12), (12, se_aload 0 13), (13, se_getR 1 3 16), (16, se_iload 2 17), (17, se_iaload 18), (18, se_int 1 19), (19, se_icmp_ne 28 22), (22, se_iload 1 23), (23, se_int 1 24), (24, se_iload 2 25), (25, se_ishl 26), (26, se_ior 27), (27, se_istore 1 28), (28, se_iinc 2 1 31), (31, se_goto 4), (34, se_iload 1 35), (35, se_ret post false)]
set_option maxRecDepth 100000 in
theorem S2_leaders (l : Launch) (d : Nat) (E : mm_X) (post : mm_Po) : ∀ q ∈ P2_leaders l d post, mm_Sn l d M2_leaders E post q := mm_c (sn_iconst dX2_leaders_0 (by decide)) <| mm_c (sn_istore_n dX2_leaders_1 rfl (by decide)) <| mm_c (sn_iconst dX2_leaders_2 (by decide)) <| mm_c (sn_istore_n dX2_leaders_3 rfl (by decide)) <| mm_c (sn_iload_n dX2_leaders_4 rfl) <| mm_c (sn_aload_n dX2_leaders_5 rfl) <| mm_c (sn_getI dX2_leaders_6 F_X2_21) <| mm_c (sn_icmp_ge dX2_leaders_9 (by decide)) <| mm_c (sn_aload_n dX2_leaders_12 rfl) <| mm_c (sn_getR dX2_leaders_13 F_X2_15) <| mm_c (sn_iload_n dX2_leaders_16 rfl) <| mm_c (sn_iaload dX2_leaders_17) <| mm_c (sn_iconst dX2_leaders_18 (by decide)) <| mm_c (sn_icmp_ne dX2_leaders_19 (by decide)) <| mm_c (sn_iload_n dX2_leaders_22 rfl) <| mm_c (sn_iconst dX2_leaders_23 (by decide)) <| mm_c (sn_iload_n dX2_leaders_24 rfl) <| mm_c (sn_ishl dX2_leaders_25) <| mm_c (sn_ior dX2_leaders_26) <| mm_c (sn_istore_n dX2_leaders_27 rfl (by decide)) <| mm_c (sn_iinc dX2_leaders_28 (by decide) (by decide)) <| mm_c (sn_goto dX2_leaders_31 (by decide)) <| mm_c (sn_iload_n dX2_leaders_34 rfl) <| mm_c (sn_ireturn dX2_leaders_35 rfl) <| mm_n
theorem F_X2_18 : mm_fok RX2 18 1 2 (some 4) := ⟨1, _, RX2, TX2, 4, rfl, rfl, rfl, by decide, mm_inTX2, mm_mem 69 (by decide +kernel) rfl⟩
def M2_nearAny : mm_M := (yX2_nearAny, cX2_nearAny, 4, (some .int))
theorem cw_2_nearAny : Cond.code M2_nearAny.1 M2_nearAny.2.1 M2_nearAny.2.2.1 M2_nearAny.2.2.2 ∈ mm_tb := mm_mem 295 (by decide +kernel) rfl
theorem C_X2_37 : mm_cv RX2 37 M2_nearAny 1 1 := ⟨mm_mem 292 (by decide +kernel) rfl, mm_mem 294 (by decide +kernel) rfl, mm_mem 3 (by decide +kernel) rfl, mm_mem 38 (by decide +kernel) rfl, cw_2_nearAny, by decide +kernel, by decide, 1, _, _, _, rfl, rfl⟩
def M2_measure : mm_M := (yX2_measure, cX2_measure, 6, (some .int))
theorem cw_2_measure : Cond.code M2_measure.1 M2_measure.2.1 M2_measure.2.2.1 M2_measure.2.2.2 ∈ mm_tb := mm_mem 291 (by decide +kernel) rfl
def P2_measure (l : Launch) (d : Nat) (post : mm_Po) : List (Nat × mm_S) := [(0, se_aload 0 1), (1, se_getR 1 4 4), (4, se_int (-1) 5), (5, se_callS l d MJ_fill 2 8), (8, se_aload 0 9), (9, se_getR 1 4 12), (12, se_iload 1 13), (13, se_int 0 14), (14, se_iastore 15), (15, se_int 1 16), (16, se_iload 1 17), (17, se_ishl 18), (18, se_istore 2 19), (19, se_iload 2 20), (20, se_istore 3 21), (21, se_int 1 22), (22, se_istore 4 24), (24, se_iload 4 26), (26, se_aload 0 27), (27, se_getI 1 3 30), (30, se_icmp_ge 90 33), (33, se_aload 0 34), (34, se_iload 3 35), (35, se_callV l d M2_nearAny 1 1 38), (38, se_iload 2 39), (39, se_int (-1) 40), (40, se_ixor 41), (41, se_iand 42), (42, se_istore 3 43), (43, se_iload 2 44), (44, se_iload 3 45), (45, se_ior 46), (46, se_istore 2 47), (47, se_int 0 48), (48, se_istore 5 50), (50, se_iload 5 52), (52, se_aload 0 53), (53, se_getI 1 3 56), (56, se_icmp_ge 84 59), (59, se_iload 3 60), (60, se_iload 5 62), (62, se_ishr 63), (63, se_int 1 64), (64, se_iand 65), (65, se_int 1 66), (66, se_icmp_ne 78 69), (69, se_aload 0 70), (70, se_getR 1 4 73), (73, se_iload 5 75), (75, se_iload 4 77), (77, se_iastore 78), (78, se_iinc 5 1 81), (81, se_goto 50), (84, se_iinc 4 1 87), (87, se_goto 24), (90, se_iload 2 91), (91, se_ret post false)]
set_option maxRecDepth 100000 in
theorem S2_measure (l : Launch) (d : Nat) (E : mm_X) (post : mm_Po) : ∀ q ∈ P2_measure l d post, mm_Sn l d M2_measure E post q := mm_c (sn_aload_n dX2_measure_0 rfl) <| mm_c (sn_getR dX2_measure_1 F_X2_18) <| mm_c (sn_iconst dX2_measure_4 (by decide)) <| mm_c (sn_callS dX2_measure_5 C_X2_25) <| mm_c (sn_aload_n dX2_measure_8 rfl) <| mm_c (sn_getR dX2_measure_9 F_X2_18) <| mm_c (sn_iload_n dX2_measure_12 rfl) <| mm_c (sn_iconst dX2_measure_13 (by decide)) <| mm_c (sn_iastore dX2_measure_14) <| mm_c (sn_iconst dX2_measure_15 (by decide)) <| mm_c (sn_iload_n dX2_measure_16 rfl) <| mm_c (sn_ishl dX2_measure_17) <| mm_c (sn_istore_n dX2_measure_18 rfl (by decide)) <| mm_c (sn_iload_n dX2_measure_19 rfl) <| mm_c (sn_istore_n dX2_measure_20 rfl (by decide)) <| mm_c (sn_iconst dX2_measure_21 (by decide)) <| mm_c (sn_istore dX2_measure_22 (by decide)) <| mm_c (sn_iload dX2_measure_24) <| mm_c (sn_aload_n dX2_measure_26 rfl) <| mm_c (sn_getI dX2_measure_27 F_X2_21) <| mm_c (sn_icmp_ge dX2_measure_30 (by decide)) <| mm_c (sn_aload_n dX2_measure_33 rfl) <| mm_c (sn_iload_n dX2_measure_34 rfl) <| mm_c (sn_callV dX2_measure_35 C_X2_37) <| mm_c (sn_iload_n dX2_measure_38 rfl) <| mm_c (sn_iconst dX2_measure_39 (by decide)) <| mm_c (sn_ixor dX2_measure_40) <| mm_c (sn_iand dX2_measure_41) <| mm_c (sn_istore_n dX2_measure_42 rfl (by decide)) <| mm_c (sn_iload_n dX2_measure_43 rfl) <| mm_c (sn_iload_n dX2_measure_44 rfl) <| mm_c (sn_ior dX2_measure_45) <| mm_c (sn_istore_n dX2_measure_46 rfl (by decide)) <| mm_c (sn_iconst dX2_measure_47 (by decide)) <| mm_c (sn_istore dX2_measure_48 (by decide)) <| mm_c (sn_iload dX2_measure_50) <| mm_c (sn_aload_n dX2_measure_52 rfl) <| mm_c (sn_getI dX2_measure_53 F_X2_21) <| mm_c (sn_icmp_ge dX2_measure_56 (by decide)) <| mm_c (sn_iload_n dX2_measure_59 rfl) <| mm_c (sn_iload dX2_measure_60) <| mm_c (sn_ishr dX2_measure_62) <| mm_c (sn_iconst dX2_measure_63 (by decide)) <| mm_c (sn_iand dX2_measure_64) <| mm_c (sn_iconst dX2_measure_65 (by decide)) <| mm_c (sn_icmp_ne dX2_measure_66 (by decide)) <| mm_c (sn_aload_n dX2_measure_69 rfl) <| mm_c (sn_getR dX2_measure_70 F_X2_18) <| mm_c (sn_iload dX2_measure_73) <| mm_c (sn_iload dX2_measure_75) <| mm_c (sn_iastore dX2_measure_77) <| mm_c (sn_iinc dX2_measure_78 (by decide) (by decide)) <| mm_c (sn_goto dX2_measure_81 (by decide)) <| mm_c (sn_iinc dX2_measure_84 (by decide) (by decide)) <| mm_c (sn_goto dX2_measure_87 (by decide)) <| mm_c (sn_iload_n dX2_measure_90 rfl) <| mm_c (sn_ireturn dX2_measure_91 rfl) <| mm_n
def P2_nearAny (l : Launch) (d : Nat) (post : mm_Po) : List (Nat × mm_S) := [(0, se_int 0 1), (1, se_istore 2 2), (2, se_int 0 3), (3, se_istore 3 4), (4, se_iload 3 5), (5, se_aload 0 6), (6, se_getI 1 3 9), (9, se_icmp_ge 36 12), (12, se_iload 1 13), (13, se_iload 3 14), (14, se_ishr 15), (15, se_int 1 16), (16, se_iand 17), (17, se_int 1 18), (18, se_icmp_ne 30 21), (21, se_iload 2 22), (22, se_aload 0 23), (23, se_getR 1 2 26), (26, se_iload 3 27), (27, se_iaload 28), (28, se_ior 29), (29, se_istore 2 30), (30, se_iinc 3 1 33), (33, se_goto 4), (36, se_iload 2 37), (37, se_ret post false)]
set_option maxRecDepth 100000 in
theorem S2_nearAny (l : Launch) (d : Nat) (E : mm_X) (post : mm_Po) : ∀ q ∈ P2_nearAny l d post, mm_Sn l d M2_nearAny E post q := mm_c (sn_iconst dX2_nearAny_0 (by decide)) <| mm_c (sn_istore_n dX2_nearAny_1 rfl (by decide)) <| mm_c (sn_iconst dX2_nearAny_2 (by decide)) <| mm_c (sn_istore_n dX2_nearAny_3 rfl (by decide)) <| mm_c (sn_iload_n dX2_nearAny_4 rfl) <| mm_c (sn_aload_n dX2_nearAny_5 rfl) <| mm_c (sn_getI dX2_nearAny_6 F_X2_21) <| mm_c (sn_icmp_ge dX2_nearAny_9 (by decide)) <| mm_c (sn_iload_n dX2_nearAny_12 rfl) <| mm_c (sn_iload_n dX2_nearAny_13 rfl) <| mm_c (sn_ishr dX2_nearAny_14) <| mm_c (sn_iconst dX2_nearAny_15 (by decide)) <| mm_c (sn_iand dX2_nearAny_16) <| mm_c (sn_iconst dX2_nearAny_17 (by decide)) <| mm_c (sn_icmp_ne dX2_nearAny_18 (by decide)) <| mm_c (sn_iload_n dX2_nearAny_21 rfl) <| mm_c (sn_aload_n dX2_nearAny_22 rfl) <| mm_c (sn_getR dX2_nearAny_23 F_X2_9) <| mm_c (sn_iload_n dX2_nearAny_26 rfl) <| mm_c (sn_iaload dX2_nearAny_27) <| mm_c (sn_ior dX2_nearAny_28) <| mm_c (sn_istore_n dX2_nearAny_29 rfl (by decide)) <| mm_c (sn_iinc dX2_nearAny_30 (by decide) (by decide)) <| mm_c (sn_goto dX2_nearAny_33 (by decide)) <| mm_c (sn_iload_n dX2_nearAny_36 rfl) <| mm_c (sn_ireturn dX2_nearAny_37 rfl) <| mm_n
theorem C_X2_40 : mm_cv RX2 40 M2_measure 1 1 := ⟨mm_mem 326 (by decide +kernel) rfl, mm_mem 289 (by decide +kernel) rfl, mm_mem 290 (by decide +kernel) rfl, mm_mem 38 (by decide +kernel) rfl, cw_2_measure, by decide +kernel, by decide, 1, _, _, _, rfl, rfl⟩
def M2_isLeast : mm_M := (yX2_isLeast, cX2_isLeast, 2, (some .boolean))
theorem cw_2_isLeast : Cond.code M2_isLeast.1 M2_isLeast.2.1 M2_isLeast.2.2.1 M2_isLeast.2.2.2 ∈ mm_tb := mm_mem 312 (by decide +kernel) rfl
theorem C_X2_43 : mm_cs RX2 43 M2_isLeast 2 := ⟨mm_mem 327 (by decide +kernel) rfl, mm_mem 311 (by decide +kernel) rfl, mm_mem 38 (by decide +kernel) rfl, cw_2_isLeast, by decide +kernel, by decide⟩
def M2_setCount : mm_M := (yX2_setCount, cX2_setCount, 3, (some .int))
theorem cw_2_setCount : Cond.code M2_setCount.1 M2_setCount.2.1 M2_setCount.2.2.1 M2_setCount.2.2.2 ∈ mm_tb := mm_mem 325 (by decide +kernel) rfl
def P2_setCount (l : Launch) (d : Nat) (post : mm_Po) : List (Nat × mm_S) := [(0, se_int 0 1), (1, se_istore 1 2), (2, se_int 0 3), (3, se_istore 2 4), (4, se_iload 2 5), (5, se_aload 0 6), (6, se_getI 1 3 9), (9, se_icmp_ge 33 12), (12, se_iload 2 13), (13, se_aload 0 14), (14, se_iload 2 15), (15, se_callV l d M2_measure 1 1 18), (18, se_callS l d M2_isLeast 2 21), (21, se_if_eq 27 24), (24, se_iinc 1 1 27), (27, se_iinc 2 1 30), (30, se_goto 4), (33, se_iload 1 34), (34, se_ret post false)]
set_option maxRecDepth 100000 in
theorem S2_setCount (l : Launch) (d : Nat) (E : mm_X) (post : mm_Po) : ∀ q ∈ P2_setCount l d post, mm_Sn l d M2_setCount E post q := mm_c (sn_iconst dX2_setCount_0 (by decide)) <| mm_c (sn_istore_n dX2_setCount_1 rfl (by decide)) <| mm_c (sn_iconst dX2_setCount_2 (by decide)) <| mm_c (sn_istore_n dX2_setCount_3 rfl (by decide)) <| mm_c (sn_iload_n dX2_setCount_4 rfl) <| mm_c (sn_aload_n dX2_setCount_5 rfl) <| mm_c (sn_getI dX2_setCount_6 F_X2_21) <| mm_c (sn_icmp_ge dX2_setCount_9 (by decide)) <| mm_c (sn_iload_n dX2_setCount_12 rfl) <| mm_c (sn_aload_n dX2_setCount_13 rfl) <| mm_c (sn_iload_n dX2_setCount_14 rfl) <| mm_c (sn_callV dX2_setCount_15 C_X2_40) <| mm_c (sn_callS dX2_setCount_18 C_X2_43) <| mm_c (sn_if_eq dX2_setCount_21 (by decide)) <| mm_c (sn_iinc dX2_setCount_24 (by decide) (by decide)) <| mm_c (sn_iinc dX2_setCount_27 (by decide) (by decide)) <| mm_c (sn_goto dX2_setCount_30 (by decide)) <| mm_c (sn_iload_n dX2_setCount_33 rfl) <| mm_c (sn_ireturn dX2_setCount_34 rfl) <| mm_n
def P2_isLeast (l : Launch) (d : Nat) (post : mm_Po) : List (Nat × mm_S) := [(0, se_iload 1 1), (1, se_int 1 2), (2, se_iload 0 3), (3, se_ishl 4), (4, se_int 1 5), (5, se_isub 6), (6, se_iand 7), (7, se_if_ne 14 10), (10, se_int 1 11), (11, se_goto 15), (14, se_int 0 15), (15, se_ret post true)]
set_option maxRecDepth 100000 in
theorem S2_isLeast (l : Launch) (d : Nat) (E : mm_X) (post : mm_Po) : ∀ q ∈ P2_isLeast l d post, mm_Sn l d M2_isLeast E post q := mm_c (sn_iload_n dX2_isLeast_0 rfl) <| mm_c (sn_iconst dX2_isLeast_1 (by decide)) <| mm_c (sn_iload_n dX2_isLeast_2 rfl) <| mm_c (sn_ishl dX2_isLeast_3) <| mm_c (sn_iconst dX2_isLeast_4 (by decide)) <| mm_c (sn_isub dX2_isLeast_5) <| mm_c (sn_iand dX2_isLeast_6) <| mm_c (sn_if_ne dX2_isLeast_7 (by decide)) <| mm_c (sn_iconst dX2_isLeast_10 (by decide)) <| mm_c (sn_goto dX2_isLeast_11 (by decide)) <| mm_c (sn_iconst dX2_isLeast_14 (by decide)) <| mm_c (sn_zreturn dX2_isLeast_15 rfl) <| mm_n
end
section
/-! ===== the methods as rows of the small machine; printed by a program ===== -/
theorem F_X1_9 : mm_fok RX1 9 9 0 (some 10) := ⟨0, _, RX1, TX1, 6, rfl, rfl, rfl, by decide, mm_inTX1, mm_mem 143 (by decide +kernel) rfl⟩
theorem C_X1_31 : mm_cs RX1 31 MJ_fill 2 := ⟨mm_mem 203 (by decide +kernel) rfl, mm_mem 197 (by decide +kernel) rfl, mm_mem 43 (by decide +kernel) rfl, cw_J_fill, by decide +kernel, by decide⟩
def M1_clear : mm_M := (yX1_clear, cX1_clear, 1, none)
theorem cw_1_clear : Cond.code M1_clear.1 M1_clear.2.1 M1_clear.2.2.1 M1_clear.2.2.2 ∈ mm_tb := mm_mem 202 (by decide +kernel) rfl
def P1_clear (l : Launch) (d : Nat) (post : mm_Po) : List (Nat × mm_S) := [(0, se_aload 0 1), (1, se_getR 9 10 4), (4, se_int 0 5), (5, se_callS l d MJ_fill 2 8), (8, se_vret post)]
set_option maxRecDepth 100000 in
theorem S1_clear (l : Launch) (d : Nat) (E : mm_X) (post : mm_Po) : ∀ q ∈ P1_clear l d post, mm_Sn l d M1_clear E post q := mm_c (sn_aload_n dX1_clear_0 rfl) <| mm_c (sn_getR dX1_clear_1 F_X1_9) <| mm_c (sn_iconst dX1_clear_4 (by decide)) <| mm_c (sn_callS dX1_clear_5 C_X1_31) <| mm_c (sn_return dX1_clear_8 rfl) <| mm_n
def M1_rule : mm_M := (yX1_rule, cX1_rule, 5, (some .int))
theorem cw_1_rule : Cond.code M1_rule.1 M1_rule.2.1 M1_rule.2.2.1 M1_rule.2.2.2 ∈ mm_tb := mm_mem 400 (by decide +kernel) rfl
theorem C_X1_37 : mm_cv RX1 37 M1_rule 2 9 := ⟨mm_mem 397 (by decide +kernel) rfl, mm_mem 399 (by decide +kernel) rfl, mm_mem 8 (by decide +kernel) rfl, mm_mem 41 (by decide +kernel) rfl, cw_1_rule, by decide +kernel, by decide, 0, _, _, _, rfl, rfl⟩
def M1_isRestless : mm_M := (yX1_isRestless, cX1_isRestless, 2, (some .boolean))
theorem cw_1_isRestless : Cond.code M1_isRestless.1 M1_isRestless.2.1 M1_isRestless.2.2.1 M1_isRestless.2.2.2 ∈ mm_tb := mm_mem 396 (by decide +kernel) rfl
def P1_isRestless (l : Launch) (d : Nat) (post : mm_Po) : List (Nat × mm_S) := [(0, se_aload 0 1), (1, se_aload 0 2), (2, se_getR 9 10 5), (5, se_iload 1 6), (6, se_callV l d M1_rule 2 9 9), (9, se_aload 0 10), (10, se_getR 9 10 13), (13, se_iload 1 14), (14, se_iaload 15), (15, se_icmp_eq 22 18), (18, se_int 1 19), (19, se_goto 23), (22, se_int 0 23), (23, se_ret post true)]
set_option maxRecDepth 100000 in
theorem S1_isRestless (l : Launch) (d : Nat) (E : mm_X) (post : mm_Po) : ∀ q ∈ P1_isRestless l d post, mm_Sn l d M1_isRestless E post q := mm_c (sn_aload_n dX1_isRestless_0 rfl) <| mm_c (sn_aload_n dX1_isRestless_1 rfl) <| mm_c (sn_getR dX1_isRestless_2 F_X1_9) <| mm_c (sn_iload_n dX1_isRestless_5 rfl) <| mm_c (sn_callV dX1_isRestless_6 C_X1_37) <| mm_c (sn_aload_n dX1_isRestless_9 rfl) <| mm_c (sn_getR dX1_isRestless_10 F_X1_9) <| mm_c (sn_iload_n dX1_isRestless_13 rfl) <| mm_c (sn_iaload dX1_isRestless_14) <| mm_c (sn_icmp_eq dX1_isRestless_15 (by decide)) <| mm_c (sn_iconst dX1_isRestless_18 (by decide)) <| mm_c (sn_goto dX1_isRestless_19 (by decide)) <| mm_c (sn_iconst dX1_isRestless_22 (by decide)) <| mm_c (sn_zreturn dX1_isRestless_23 rfl) <| mm_n
def M1_obey : mm_M := (yX1_obey, cX1_obey, 2, none)
theorem cw_1_obey : Cond.code M1_obey.1 M1_obey.2.1 M1_obey.2.2.1 M1_obey.2.2.2 ∈ mm_tb := mm_mem 412 (by decide +kernel) rfl
def P1_obey (l : Launch) (d : Nat) (post : mm_Po) : List (Nat × mm_S) := [(0, se_aload 0 1), (1, se_getR 9 10 4), (4, se_iload 1 5), (5, se_aload 0 6), (6, se_aload 0 7), (7, se_getR 9 10 10), (10, se_iload 1 11), (11, se_callV l d M1_rule 2 9 14), (14, se_iastore 15), (15, se_vret post)]
set_option maxRecDepth 100000 in
theorem S1_obey (l : Launch) (d : Nat) (E : mm_X) (post : mm_Po) : ∀ q ∈ P1_obey l d post, mm_Sn l d M1_obey E post q := mm_c (sn_aload_n dX1_obey_0 rfl) <| mm_c (sn_getR dX1_obey_1 F_X1_9) <| mm_c (sn_iload_n dX1_obey_4 rfl) <| mm_c (sn_aload_n dX1_obey_5 rfl) <| mm_c (sn_aload_n dX1_obey_6 rfl) <| mm_c (sn_getR dX1_obey_7 F_X1_9) <| mm_c (sn_iload_n dX1_obey_10 rfl) <| mm_c (sn_callV dX1_obey_11 C_X1_37) <| mm_c (sn_iastore dX1_obey_14) <| mm_c (sn_return dX1_obey_15 rfl) <| mm_n
theorem F_X1_27 : mm_fok RX1 27 9 1 (some 1) := ⟨0, _, RX1, TX1, 6, rfl, rfl, rfl, by decide, mm_inTX1, mm_mem 145 (by decide +kernel) rfl⟩
theorem F_X1_41 : mm_fok RX1 41 1 3 none := ⟨1, _, RX2, TX2, 4, rfl, rfl, rfl, by decide, mm_inTX2, mm_mem 75 (by decide +kernel) rfl⟩
theorem F_X1_41_w : mm_fw RX1 41 1 3 false := ⟨1, _, RX2, TX2, 4, tyX2, rfl, rfl, rfl, by decide, mm_inTX2, mm_mem 75 (by decide +kernel) rfl, tyX2_ok, nmX2, rfl, rfl⟩
theorem C_X1_47 : mm_cv RX1 47 M2_joined 2 1 := ⟨mm_mem 401 (by decide +kernel) rfl, mm_mem 214 (by decide +kernel) rfl, mm_mem 215 (by decide +kernel) rfl, mm_mem 38 (by decide +kernel) rfl, cw_2_joined, by decide +kernel, by decide, 1, _, _, _, rfl, rfl⟩
def P1_rule (l : Launch) (d : Nat) (post : mm_Po) : List (Nat × mm_S) := [(0, se_iload 2 1), (1, se_if_ne 6 4), (4, se_int 0 5), (5, se_ret post false), (6, se_int 3 7), (7, se_istore 3 8), (8, se_int 0 9), (9, se_istore 4 11), (11, se_iload 4 13), (13, se_aload 0 14), (14, se_getR 9 1 17), (17, se_getI 1 3 20), (20, se_icmp_ge 52 23), (23, se_aload 0 24), (24, se_getR 9 1 27), (27, se_iload 2 28), (28, se_iload 4 30), (30, se_callV l d M2_joined 2 1 33), (33, se_int 1 34), (34, se_icmp_ne 46 37), (37, se_iload 3 38), (38, se_aload 1 39), (39, se_iload 4 41), (41, se_iaload 42), (42, se_min d 45), (45, se_istore 3 46), (46, se_iinc 4 1 49), (49, se_goto 11), (52, se_iload 3 53), (53, se_int 1 54), (54, se_iadd 55), (55, se_ret post false)]
set_option maxRecDepth 100000 in
theorem S1_rule (l : Launch) (d : Nat) (E : mm_X) (post : mm_Po) : ∀ q ∈ P1_rule l d post, mm_Sn l d M1_rule E post q := mm_c (sn_iload_n dX1_rule_0 rfl) <| mm_c (sn_if_ne dX1_rule_1 (by decide)) <| mm_c (sn_iconst dX1_rule_4 (by decide)) <| mm_c (sn_ireturn dX1_rule_5 rfl) <| mm_c (sn_iconst dX1_rule_6 (by decide)) <| mm_c (sn_istore_n dX1_rule_7 rfl (by decide)) <| mm_c (sn_iconst dX1_rule_8 (by decide)) <| mm_c (sn_istore dX1_rule_9 (by decide)) <| mm_c (sn_iload dX1_rule_11) <| mm_c (sn_aload_n dX1_rule_13 rfl) <| mm_c (sn_getR dX1_rule_14 F_X1_27) <| mm_c (sn_getI dX1_rule_17 F_X1_41) <| mm_c (sn_icmp_ge dX1_rule_20 (by decide)) <| mm_c (sn_aload_n dX1_rule_23 rfl) <| mm_c (sn_getR dX1_rule_24 F_X1_27) <| mm_c (sn_iload_n dX1_rule_27 rfl) <| mm_c (sn_iload dX1_rule_28) <| mm_c (sn_callV dX1_rule_30 C_X1_47) <| mm_c (sn_iconst dX1_rule_33 (by decide)) <| mm_c (sn_icmp_ne dX1_rule_34 (by decide)) <| mm_c (sn_iload_n dX1_rule_37 rfl) <| mm_c (sn_aload_n dX1_rule_38 rfl) <| mm_c (sn_iload dX1_rule_39) <| mm_c (sn_iaload dX1_rule_41) <| mm_c (sn_min dX1_rule_42 (mm_mem 402 (by decide +kernel) rfl) (mm_mem 403 (by decide +kernel) rfl) (mm_mem 47 (by decide +kernel) rfl) (mm_mem 404 (by decide +kernel) rfl)) <| mm_c (sn_istore_n dX1_rule_45 rfl (by decide)) <| mm_c (sn_iinc dX1_rule_46 (by decide) (by decide)) <| mm_c (sn_goto dX1_rule_49 (by decide)) <| mm_c (sn_iload_n dX1_rule_52 rfl) <| mm_c (sn_iconst dX1_rule_53 (by decide)) <| mm_c (sn_iadd dX1_rule_54) <| mm_c (sn_ireturn dX1_rule_55 rfl) <| mm_n
def M1_leastRestless : mm_M := (yX1_leastRestless, cX1_leastRestless, 2, (some .int))
theorem cw_1_leastRestless : Cond.code M1_leastRestless.1 M1_leastRestless.2.1 M1_leastRestless.2.2.1 M1_leastRestless.2.2.2 ∈ mm_tb := mm_mem 424 (by decide +kernel) rfl
theorem C_X1_56 : mm_cv RX1 56 M1_leastRestless 0 9 := ⟨mm_mem 421 (by decide +kernel) rfl, mm_mem 423 (by decide +kernel) rfl, mm_mem 9 (by decide +kernel) rfl, mm_mem 41 (by decide +kernel) rfl, cw_1_leastRestless, by decide +kernel, by decide, 0, _, _, _, rfl, rfl⟩
theorem C_X1_60 : mm_cv RX1 60 M1_obey 1 9 := ⟨mm_mem 426 (by decide +kernel) rfl, mm_mem 410 (by decide +kernel) rfl, mm_mem 411 (by decide +kernel) rfl, mm_mem 41 (by decide +kernel) rfl, cw_1_obey, by decide +kernel, by decide, 0, _, _, _, rfl, rfl⟩
def M1_settle : mm_M := (yX1_settle, cX1_settle, 3, (some .int))
theorem cw_1_settle : Cond.code M1_settle.1 M1_settle.2.1 M1_settle.2.2.1 M1_settle.2.2.2 ∈ mm_tb := mm_mem 420 (by decide +kernel) rfl
def P1_settle (l : Launch) (d : Nat) (post : mm_Po) : List (Nat × mm_S) := [(0, se_int 0 1), (1, se_istore 1 2), (2, se_iload 1 3), (3, se_int 1000 6), (6, se_icmp_ge 32 9), (9, se_aload 0 10), (10, se_callV l d M1_leastRestless 0 9 13), (13, se_istore 2 14), (14, se_iload 2 15), (15, se_int (-1) 16), (16, se_icmp_ne 21 19), (19, se_iload 1 20), (20, se_ret post false), (21, se_aload 0 22), (22, se_iload 2 23), (23, se_callV l d M1_obey 1 9 26), (26, se_iinc 1 1 29), (29, se_goto 2), (32, se_aload 0 33), (33, se_callV l d M1_leastRestless 0 9 36), (36, se_int (-1) 37), (37, se_icmp_ne 46 40), (40, se_int 1000 43), (43, se_goto 47), (46, se_int (-1) 47), (47, se_ret post false)]
set_option maxRecDepth 100000 in
theorem S1_settle (l : Launch) (d : Nat) (E : mm_X) (post : mm_Po) : ∀ q ∈ P1_settle l d post, mm_Sn l d M1_settle E post q := mm_c (sn_iconst dX1_settle_0 (by decide)) <| mm_c (sn_istore_n dX1_settle_1 rfl (by decide)) <| mm_c (sn_iload_n dX1_settle_2 rfl) <| mm_c (sn_sipush dX1_settle_3 (by decide)) <| mm_c (sn_icmp_ge dX1_settle_6 (by decide)) <| mm_c (sn_aload_n dX1_settle_9 rfl) <| mm_c (sn_callV dX1_settle_10 C_X1_56) <| mm_c (sn_istore_n dX1_settle_13 rfl (by decide)) <| mm_c (sn_iload_n dX1_settle_14 rfl) <| mm_c (sn_iconst dX1_settle_15 (by decide)) <| mm_c (sn_icmp_ne dX1_settle_16 (by decide)) <| mm_c (sn_iload_n dX1_settle_19 rfl) <| mm_c (sn_ireturn dX1_settle_20 rfl) <| mm_c (sn_aload_n dX1_settle_21 rfl) <| mm_c (sn_iload_n dX1_settle_22 rfl) <| mm_c (sn_callV dX1_settle_23 C_X1_60) <| mm_c (sn_iinc dX1_settle_26 (by decide) (by decide)) <| mm_c (sn_goto dX1_settle_29 (by decide)) <| mm_c (sn_aload_n dX1_settle_32 rfl) <| mm_c (sn_callV dX1_settle_33 C_X1_56) <| mm_c (sn_iconst dX1_settle_36 (by decide)) <| mm_c (sn_icmp_ne dX1_settle_37 (by decide)) <| mm_c (sn_sipush dX1_settle_40 (by decide)) <| mm_c (sn_goto dX1_settle_43 (by decide)) <| mm_c (sn_iconst dX1_settle_46 (by decide)) <| mm_c (sn_ireturn dX1_settle_47 rfl) <| mm_n
theorem C_X1_64 : mm_cv RX1 64 M1_isRestless 1 9 := ⟨mm_mem 425 (by decide +kernel) rfl, mm_mem 394 (by decide +kernel) rfl, mm_mem 395 (by decide +kernel) rfl, mm_mem 41 (by decide +kernel) rfl, cw_1_isRestless, by decide +kernel, by decide, 0, _, _, _, rfl, rfl⟩
def P1_leastRestless (l : Launch) (d : Nat) (post : mm_Po) : List (Nat × mm_S) := [(0, se_int 0 1), (1, se_istore 1 2), (2, se_iload 1 3), (3, se_aload 0 4), (4, se_getR 9 1 7), (7, se_getI 1 3 10), (10, se_icmp_ge 29 13), (13, se_aload 0 14), (14, se_iload 1 15), (15, se_callV l d M1_isRestless 1 9 18), (18, se_if_eq 23 21), (21, se_iload 1 22), (22, se_ret post false), (23, se_iinc 1 1 26), (26, se_goto 2), (29, se_int (-1) 30), (30, se_ret post false)]
set_option maxRecDepth 100000 in
theorem S1_leastRestless (l : Launch) (d : Nat) (E : mm_X) (post : mm_Po) : ∀ q ∈ P1_leastRestless l d post, mm_Sn l d M1_leastRestless E post q := mm_c (sn_iconst dX1_leastRestless_0 (by decide)) <| mm_c (sn_istore_n dX1_leastRestless_1 rfl (by decide)) <| mm_c (sn_iload_n dX1_leastRestless_2 rfl) <| mm_c (sn_aload_n dX1_leastRestless_3 rfl) <| mm_c (sn_getR dX1_leastRestless_4 F_X1_27) <| mm_c (sn_getI dX1_leastRestless_7 F_X1_41) <| mm_c (sn_icmp_ge dX1_leastRestless_10 (by decide)) <| mm_c (sn_aload_n dX1_leastRestless_13 rfl) <| mm_c (sn_iload_n dX1_leastRestless_14 rfl) <| mm_c (sn_callV dX1_leastRestless_15 C_X1_64) <| mm_c (sn_if_eq dX1_leastRestless_18 (by decide)) <| mm_c (sn_iload_n dX1_leastRestless_21 rfl) <| mm_c (sn_ireturn dX1_leastRestless_22 rfl) <| mm_c (sn_iinc dX1_leastRestless_23 (by decide) (by decide)) <| mm_c (sn_goto dX1_leastRestless_26 (by decide)) <| mm_c (sn_iconst dX1_leastRestless_29 (by decide)) <| mm_c (sn_ireturn dX1_leastRestless_30 rfl) <| mm_n
def M1_stateNow : mm_M := (yX1_stateNow, cX1_stateNow, 3, (some .int))
theorem cw_1_stateNow : Cond.code M1_stateNow.1 M1_stateNow.2.1 M1_stateNow.2.2.1 M1_stateNow.2.2.2 ∈ mm_tb := mm_mem 442 (by decide +kernel) rfl
def P1_stateNow (l : Launch) (d : Nat) (post : mm_Po) : List (Nat × mm_S) := [(0, se_int 0 1), (1, se_istore 1 2), (2, se_int 0 3), (3, se_istore 2 4), (4, se_iload 2 5), (5, se_aload 0 6), (6, se_getR 9 1 9), (9, se_getI 1 3 12), (12, se_icmp_ge 44 15), (15, se_iload 2 16), (16, se_places 19), (19, se_alen 20), (20, se_icmp_ge 44 23), (23, se_iload 1 24), (24, se_aload 0 25), (25, se_getR 9 10 28), (28, se_iload 2 29), (29, se_iaload 30), (30, se_places 33), (33, se_iload 2 34), (34, se_iaload 35), (35, se_imul 36), (36, se_iadd 37), (37, se_istore 1 38), (38, se_iinc 2 1 41), (41, se_goto 4), (44, se_iload 1 45), (45, se_ret post false)]
set_option maxRecDepth 100000 in
theorem S1_stateNow (l : Launch) (d : Nat) (E : mm_X) (post : mm_Po) : ∀ q ∈ P1_stateNow l d post, mm_Sn l d M1_stateNow E post q := mm_c (sn_iconst dX1_stateNow_0 (by decide)) <| mm_c (sn_istore_n dX1_stateNow_1 rfl (by decide)) <| mm_c (sn_iconst dX1_stateNow_2 (by decide)) <| mm_c (sn_istore_n dX1_stateNow_3 rfl (by decide)) <| mm_c (sn_iload_n dX1_stateNow_4 rfl) <| mm_c (sn_aload_n dX1_stateNow_5 rfl) <| mm_c (sn_getR dX1_stateNow_6 F_X1_27) <| mm_c (sn_getI dX1_stateNow_9 F_X1_41) <| mm_c (sn_icmp_ge dX1_stateNow_12 (by decide)) <| mm_c (sn_iload_n dX1_stateNow_15 rfl) <| mm_c (sn_places dX1_stateNow_16 (mm_mem 443 (by decide +kernel) rfl)) <| mm_c (sn_alen dX1_stateNow_19) <| mm_c (sn_icmp_ge dX1_stateNow_20 (by decide)) <| mm_c (sn_iload_n dX1_stateNow_23 rfl) <| mm_c (sn_aload_n dX1_stateNow_24 rfl) <| mm_c (sn_getR dX1_stateNow_25 F_X1_9) <| mm_c (sn_iload_n dX1_stateNow_28 rfl) <| mm_c (sn_iaload dX1_stateNow_29) <| mm_c (sn_places dX1_stateNow_30 (mm_mem 443 (by decide +kernel) rfl)) <| mm_c (sn_iload_n dX1_stateNow_33 rfl) <| mm_c (sn_iaload dX1_stateNow_34) <| mm_c (sn_imul dX1_stateNow_35) <| mm_c (sn_iadd dX1_stateNow_36) <| mm_c (sn_istore_n dX1_stateNow_37 rfl (by decide)) <| mm_c (sn_iinc dX1_stateNow_38 (by decide) (by decide)) <| mm_c (sn_goto dX1_stateNow_41 (by decide)) <| mm_c (sn_iload_n dX1_stateNow_44 rfl) <| mm_c (sn_ireturn dX1_stateNow_45 rfl) <| mm_n
theorem F_X1_15 : mm_fok RX1 15 9 2 (some 11) := ⟨0, _, RX1, TX1, 6, rfl, rfl, rfl, by decide, mm_inTX1, mm_mem 146 (by decide +kernel) rfl⟩
def M1_stateBehind : mm_M := (yX1_stateBehind, cX1_stateBehind, 5, (some .int))
theorem cw_1_stateBehind : Cond.code M1_stateBehind.1 M1_stateBehind.2.1 M1_stateBehind.2.2.1 M1_stateBehind.2.2.2 ∈ mm_tb := mm_mem 454 (by decide +kernel) rfl
def P1_stateBehind (l : Launch) (d : Nat) (post : mm_Po) : List (Nat × mm_S) := [(0, se_iload 1 1), (1, se_istore 3 2), (2, se_int 0 3), (3, se_istore 4 5), (5, se_iload 4 7), (7, se_aload 0 8), (8, se_getR 9 1 11), (11, se_getI 1 3 14), (14, se_icmp_ge 37 17), (17, se_aload 0 18), (18, se_getR 9 11 21), (21, se_iload 4 23), (23, se_iload 3 24), (24, se_int 5 25), (25, se_irem 26), (26, se_iastore 27), (27, se_iload 3 28), (28, se_int 5 29), (29, se_idiv 30), (30, se_istore 3 31), (31, se_iinc 4 1 34), (34, se_goto 5), (37, se_iload 1 38), (38, se_aload 0 39), (39, se_aload 0 40), (40, se_getR 9 11 43), (43, se_iload 2 44), (44, se_callV l d M1_rule 2 9 47), (47, se_aload 0 48), (48, se_getR 9 11 51), (51, se_iload 2 52), (52, se_iaload 53), (53, se_isub 54), (54, se_places 57), (57, se_iload 2 58), (58, se_iaload 59), (59, se_imul 60), (60, se_iadd 61), (61, se_ret post false)]
set_option maxRecDepth 100000 in
theorem S1_stateBehind (l : Launch) (d : Nat) (E : mm_X) (post : mm_Po) : ∀ q ∈ P1_stateBehind l d post, mm_Sn l d M1_stateBehind E post q := mm_c (sn_iload_n dX1_stateBehind_0 rfl) <| mm_c (sn_istore_n dX1_stateBehind_1 rfl (by decide)) <| mm_c (sn_iconst dX1_stateBehind_2 (by decide)) <| mm_c (sn_istore dX1_stateBehind_3 (by decide)) <| mm_c (sn_iload dX1_stateBehind_5) <| mm_c (sn_aload_n dX1_stateBehind_7 rfl) <| mm_c (sn_getR dX1_stateBehind_8 F_X1_27) <| mm_c (sn_getI dX1_stateBehind_11 F_X1_41) <| mm_c (sn_icmp_ge dX1_stateBehind_14 (by decide)) <| mm_c (sn_aload_n dX1_stateBehind_17 rfl) <| mm_c (sn_getR dX1_stateBehind_18 F_X1_15) <| mm_c (sn_iload dX1_stateBehind_21) <| mm_c (sn_iload_n dX1_stateBehind_23 rfl) <| mm_c (sn_iconst dX1_stateBehind_24 (by decide)) <| mm_c (sn_irem dX1_stateBehind_25) <| mm_c (sn_iastore dX1_stateBehind_26) <| mm_c (sn_iload_n dX1_stateBehind_27 rfl) <| mm_c (sn_iconst dX1_stateBehind_28 (by decide)) <| mm_c (sn_idiv dX1_stateBehind_29) <| mm_c (sn_istore_n dX1_stateBehind_30 rfl (by decide)) <| mm_c (sn_iinc dX1_stateBehind_31 (by decide) (by decide)) <| mm_c (sn_goto dX1_stateBehind_34 (by decide)) <| mm_c (sn_iload_n dX1_stateBehind_37 rfl) <| mm_c (sn_aload_n dX1_stateBehind_38 rfl) <| mm_c (sn_aload_n dX1_stateBehind_39 rfl) <| mm_c (sn_getR dX1_stateBehind_40 F_X1_15) <| mm_c (sn_iload_n dX1_stateBehind_43 rfl) <| mm_c (sn_callV dX1_stateBehind_44 C_X1_37) <| mm_c (sn_aload_n dX1_stateBehind_47 rfl) <| mm_c (sn_getR dX1_stateBehind_48 F_X1_15) <| mm_c (sn_iload_n dX1_stateBehind_51 rfl) <| mm_c (sn_iaload dX1_stateBehind_52) <| mm_c (sn_isub dX1_stateBehind_53) <| mm_c (sn_places dX1_stateBehind_54 (mm_mem 443 (by decide +kernel) rfl)) <| mm_c (sn_iload_n dX1_stateBehind_57 rfl) <| mm_c (sn_iaload dX1_stateBehind_58) <| mm_c (sn_imul dX1_stateBehind_59) <| mm_c (sn_iadd dX1_stateBehind_60) <| mm_c (sn_ireturn dX1_stateBehind_61 rfl) <| mm_n
theorem C_X1_71 : mm_cv RX1 71 M1_stateNow 0 9 := ⟨mm_mem 439 (by decide +kernel) rfl, mm_mem 441 (by decide +kernel) rfl, mm_mem 11 (by decide +kernel) rfl, mm_mem 41 (by decide +kernel) rfl, cw_1_stateNow, by decide +kernel, by decide, 0, _, _, _, rfl, rfl⟩
theorem F_X1_21 : mm_fok RX1 21 9 4 (some 13) := ⟨0, _, RX1, TX1, 6, rfl, rfl, rfl, by decide, mm_inTX1, mm_mem 148 (by decide +kernel) rfl⟩
def M1_enter : mm_M := (yX1_enter, cX1_enter, 3, none)
theorem cw_1_enter : Cond.code M1_enter.1 M1_enter.2.1 M1_enter.2.2.1 M1_enter.2.2.2 ∈ mm_tb := mm_mem 448 (by decide +kernel) rfl
theorem C_X1_74 : mm_cv RX1 74 M1_enter 2 9 := ⟨mm_mem 445 (by decide +kernel) rfl, mm_mem 447 (by decide +kernel) rfl, mm_mem 12 (by decide +kernel) rfl, mm_mem 41 (by decide +kernel) rfl, cw_1_enter, by decide +kernel, by decide, 0, _, _, _, rfl, rfl⟩
theorem F_X1_24 : mm_fok RX1 24 9 5 (some 14) := ⟨0, _, RX1, TX1, 6, rfl, rfl, rfl, by decide, mm_inTX1, mm_mem 149 (by decide +kernel) rfl⟩
theorem C_X1_82 : mm_cv RX1 82 M1_stateBehind 2 9 := ⟨mm_mem 451 (by decide +kernel) rfl, mm_mem 453 (by decide +kernel) rfl, mm_mem 13 (by decide +kernel) rfl, mm_mem 41 (by decide +kernel) rfl, cw_1_stateBehind, by decide +kernel, by decide, 0, _, _, _, rfl, rfl⟩
theorem F_X1_18 : mm_fok RX1 18 9 3 (some 12) := ⟨0, _, RX1, TX1, 6, rfl, rfl, rfl, by decide, mm_inTX1, mm_mem 147 (by decide +kernel) rfl⟩
def M1_longestWay : mm_M := (yX1_longestWay, cX1_longestWay, 8, (some .int))
theorem cw_1_longestWay : Cond.code M1_longestWay.1 M1_longestWay.2.1 M1_longestWay.2.2.1 M1_longestWay.2.2.2 ∈ mm_tb := mm_mem 438 (by decide +kernel) rfl
def P1_longestWay (l : Launch) (d : Nat) (post : mm_Po) : List (Nat × mm_S) := [(0, se_aload 0 1), (1, se_getR 9 1 4), (4, se_getI 1 3 7), (7, se_int 1 8), (8, se_iadd 9), (9, se_istore 1 10), (10, se_aload 0 11), (11, se_callV l d M1_stateNow 0 9 14), (14, se_istore 2 15), (15, se_aload 0 16), (16, se_getR 9 13 19), (19, se_int (-1) 20), (20, se_callS l d MJ_fill 2 23), (23, se_int 0 24), (24, se_istore 3 25), (25, se_aload 0 26), (26, se_iload 2 27), (27, se_iload 3 28), (28, se_callV l d M1_enter 2 9 31), (31, se_int 0 32), (32, se_istore 4 34), (34, se_iload 4 36), (36, se_int 1000000 38), (38, se_icmp_ge 212 41), (41, se_aload 0 42), (42, se_getR 9 13 45), (45, se_iload 2 46), (46, se_iaload 47), (47, se_iload 1 48), (48, se_icmp_eq 212 51), (51, se_aload 0 52), (52, se_getR 9 14 55), (55, se_iload 3 56), (56, se_iaload 57), (57, se_istore 5 59), (59, se_aload 0 60), (60, se_getR 9 13 63), (63, se_iload 5 65), (65, se_iaload 66), (66, se_istore 6 68), (68, se_aload 0 69), (69, se_getR 9 13 72), (72, se_iload 5 74), (74, se_dup2 75), (75, se_iaload 76), (76, se_int 1 77), (77, se_iadd 78), (78, se_iastore 79), (79, se_iload 6 81), (81, se_aload 0 82), (82, se_getR 9 1 85), (85, se_getI 1 3 88), (88, se_icmp_ne 102 91), (91, se_iload 3 92), (92, se_int 1 93), (93, se_isub 94), (94, se_int 0 95), (95, se_max d 98), (98, se_istore 3 99), (99, se_goto 206), (102, se_aload 0 103), (103, se_iload 5 105), (105, se_iload 6 107), (107, se_callV l d M1_stateBehind 2 9 110), (110, se_istore 7 112), (112, se_iload 7 114), (114, se_iload 5 116), (116, se_icmp_ne 122 119), (119, se_goto 206), (122, se_aload 0 123), (123, se_getR 9 13 126), (126, se_iload 7 128), (128, se_iaload 129), (129, se_int (-1) 130), (130, se_icmp_ne 164 133), (133, se_iload 3 134), (134, se_int 1 135), (135, se_iadd 136), (136, se_int 3125 139), (139, se_icmp_ge 164 142), (142, se_aload 0 143), (143, se_getR 9 13 146), (146, se_iload 5 148), (148, se_iload 6 150), (150, se_iastore 151), (151, se_iinc 3 1 154), (154, se_aload 0 155), (155, se_iload 7 157), (157, se_iload 3 158), (158, se_callV l d M1_enter 2 9 161), (161, se_goto 206), (164, se_aload 0 165), (165, se_getR 9 13 168), (168, se_iload 7 170), (170, se_iaload 171), (171, se_iload 1 172), (172, se_icmp_ne 204 175), (175, se_aload 0 176), (176, se_getR 9 12 179), (179, se_iload 5 181), (181, se_aload 0 182), (182, se_getR 9 12 185), (185, se_iload 5 187), (187, se_iaload 188), (188, se_aload 0 189), (189, se_getR 9 12 192), (192, se_iload 7 194), (194, se_iaload 195), (195, se_int 1 196), (196, se_iadd 197), (197, se_max d 200), (200, se_iastore 201), (201, se_goto 206), (204, se_int (-1) 205), (205, se_ret post false), (206, se_iinc 4 1 209), (209, se_goto 34), (212, se_aload 0 213), (213, se_getR 9 12 216), (216, se_iload 2 217), (217, se_iaload 218), (218, se_ret post false)]
set_option maxRecDepth 100000 in
theorem S1_longestWay (l : Launch) (d : Nat) (E : mm_X) (post : mm_Po) : ∀ q ∈ P1_longestWay l d post, mm_Sn l d M1_longestWay E post q := mm_c (sn_aload_n dX1_longestWay_0 rfl) <| mm_c (sn_getR dX1_longestWay_1 F_X1_27) <| mm_c (sn_getI dX1_longestWay_4 F_X1_41) <| mm_c (sn_iconst dX1_longestWay_7 (by decide)) <| mm_c (sn_iadd dX1_longestWay_8) <| mm_c (sn_istore_n dX1_longestWay_9 rfl (by decide)) <| mm_c (sn_aload_n dX1_longestWay_10 rfl) <| mm_c (sn_callV dX1_longestWay_11 C_X1_71) <| mm_c (sn_istore_n dX1_longestWay_14 rfl (by decide)) <| mm_c (sn_aload_n dX1_longestWay_15 rfl) <| mm_c (sn_getR dX1_longestWay_16 F_X1_21) <| mm_c (sn_iconst dX1_longestWay_19 (by decide)) <| mm_c (sn_callS dX1_longestWay_20 C_X1_31) <| mm_c (sn_iconst dX1_longestWay_23 (by decide)) <| mm_c (sn_istore_n dX1_longestWay_24 rfl (by decide)) <| mm_c (sn_aload_n dX1_longestWay_25 rfl) <| mm_c (sn_iload_n dX1_longestWay_26 rfl) <| mm_c (sn_iload_n dX1_longestWay_27 rfl) <| mm_c (sn_callV dX1_longestWay_28 C_X1_74) <| mm_c (sn_iconst dX1_longestWay_31 (by decide)) <| mm_c (sn_istore dX1_longestWay_32 (by decide)) <| mm_c (sn_iload dX1_longestWay_34) <| mm_c (sn_ldc dX1_longestWay_36 (mm_mem 449 (by decide +kernel) rfl)) <| mm_c (sn_icmp_ge dX1_longestWay_38 (by decide)) <| mm_c (sn_aload_n dX1_longestWay_41 rfl) <| mm_c (sn_getR dX1_longestWay_42 F_X1_21) <| mm_c (sn_iload_n dX1_longestWay_45 rfl) <| mm_c (sn_iaload dX1_longestWay_46) <| mm_c (sn_iload_n dX1_longestWay_47 rfl) <| mm_c (sn_icmp_eq dX1_longestWay_48 (by decide)) <| mm_c (sn_aload_n dX1_longestWay_51 rfl) <| mm_c (sn_getR dX1_longestWay_52 F_X1_24) <| mm_c (sn_iload_n dX1_longestWay_55 rfl) <| mm_c (sn_iaload dX1_longestWay_56) <| mm_c (sn_istore dX1_longestWay_57 (by decide)) <| mm_c (sn_aload_n dX1_longestWay_59 rfl) <| mm_c (sn_getR dX1_longestWay_60 F_X1_21) <| mm_c (sn_iload dX1_longestWay_63) <| mm_c (sn_iaload dX1_longestWay_65) <| mm_c (sn_istore dX1_longestWay_66 (by decide)) <| mm_c (sn_aload_n dX1_longestWay_68 rfl) <| mm_c (sn_getR dX1_longestWay_69 F_X1_21) <| mm_c (sn_iload dX1_longestWay_72) <| mm_c (sn_dup2 dX1_longestWay_74) <| mm_c (sn_iaload dX1_longestWay_75) <| mm_c (sn_iconst dX1_longestWay_76 (by decide)) <| mm_c (sn_iadd dX1_longestWay_77) <| mm_c (sn_iastore dX1_longestWay_78) <| mm_c (sn_iload dX1_longestWay_79) <| mm_c (sn_aload_n dX1_longestWay_81 rfl) <| mm_c (sn_getR dX1_longestWay_82 F_X1_27) <| mm_c (sn_getI dX1_longestWay_85 F_X1_41) <| mm_c (sn_icmp_ne dX1_longestWay_88 (by decide)) <| mm_c (sn_iload_n dX1_longestWay_91 rfl) <| mm_c (sn_iconst dX1_longestWay_92 (by decide)) <| mm_c (sn_isub dX1_longestWay_93) <| mm_c (sn_iconst dX1_longestWay_94 (by decide)) <| mm_c (sn_max dX1_longestWay_95 (mm_mem 450 (by decide +kernel) rfl) (mm_mem 373 (by decide +kernel) rfl) (mm_mem 47 (by decide +kernel) rfl) (mm_mem 374 (by decide +kernel) rfl)) <| mm_c (sn_istore_n dX1_longestWay_98 rfl (by decide)) <| mm_c (sn_goto dX1_longestWay_99 (by decide)) <| mm_c (sn_aload_n dX1_longestWay_102 rfl) <| mm_c (sn_iload dX1_longestWay_103) <| mm_c (sn_iload dX1_longestWay_105) <| mm_c (sn_callV dX1_longestWay_107 C_X1_82) <| mm_c (sn_istore dX1_longestWay_110 (by decide)) <| mm_c (sn_iload dX1_longestWay_112) <| mm_c (sn_iload dX1_longestWay_114) <| mm_c (sn_icmp_ne dX1_longestWay_116 (by decide)) <| mm_c (sn_goto dX1_longestWay_119 (by decide)) <| mm_c (sn_aload_n dX1_longestWay_122 rfl) <| mm_c (sn_getR dX1_longestWay_123 F_X1_21) <| mm_c (sn_iload dX1_longestWay_126) <| mm_c (sn_iaload dX1_longestWay_128) <| mm_c (sn_iconst dX1_longestWay_129 (by decide)) <| mm_c (sn_icmp_ne dX1_longestWay_130 (by decide)) <| mm_c (sn_iload_n dX1_longestWay_133 rfl) <| mm_c (sn_iconst dX1_longestWay_134 (by decide)) <| mm_c (sn_iadd dX1_longestWay_135) <| mm_c (sn_sipush dX1_longestWay_136 (by decide)) <| mm_c (sn_icmp_ge dX1_longestWay_139 (by decide)) <| mm_c (sn_aload_n dX1_longestWay_142 rfl) <| mm_c (sn_getR dX1_longestWay_143 F_X1_21) <| mm_c (sn_iload dX1_longestWay_146) <| mm_c (sn_iload dX1_longestWay_148) <| mm_c (sn_iastore dX1_longestWay_150) <| mm_c (sn_iinc dX1_longestWay_151 (by decide) (by decide)) <| mm_c (sn_aload_n dX1_longestWay_154 rfl) <| mm_c (sn_iload dX1_longestWay_155) <| mm_c (sn_iload_n dX1_longestWay_157 rfl) <| mm_c (sn_callV dX1_longestWay_158 C_X1_74) <| mm_c (sn_goto dX1_longestWay_161 (by decide)) <| mm_c (sn_aload_n dX1_longestWay_164 rfl) <| mm_c (sn_getR dX1_longestWay_165 F_X1_21) <| mm_c (sn_iload dX1_longestWay_168) <| mm_c (sn_iaload dX1_longestWay_170) <| mm_c (sn_iload_n dX1_longestWay_171 rfl) <| mm_c (sn_icmp_ne dX1_longestWay_172 (by decide)) <| mm_c (sn_aload_n dX1_longestWay_175 rfl) <| mm_c (sn_getR dX1_longestWay_176 F_X1_18) <| mm_c (sn_iload dX1_longestWay_179) <| mm_c (sn_aload_n dX1_longestWay_181 rfl) <| mm_c (sn_getR dX1_longestWay_182 F_X1_18) <| mm_c (sn_iload dX1_longestWay_185) <| mm_c (sn_iaload dX1_longestWay_187) <| mm_c (sn_aload_n dX1_longestWay_188 rfl) <| mm_c (sn_getR dX1_longestWay_189 F_X1_18) <| mm_c (sn_iload dX1_longestWay_192) <| mm_c (sn_iaload dX1_longestWay_194) <| mm_c (sn_iconst dX1_longestWay_195 (by decide)) <| mm_c (sn_iadd dX1_longestWay_196) <| mm_c (sn_max dX1_longestWay_197 (mm_mem 450 (by decide +kernel) rfl) (mm_mem 373 (by decide +kernel) rfl) (mm_mem 47 (by decide +kernel) rfl) (mm_mem 374 (by decide +kernel) rfl)) <| mm_c (sn_iastore dX1_longestWay_200) <| mm_c (sn_goto dX1_longestWay_201 (by decide)) <| mm_c (sn_iconst dX1_longestWay_204 (by decide)) <| mm_c (sn_ireturn dX1_longestWay_205 rfl) <| mm_c (sn_iinc dX1_longestWay_206 (by decide) (by decide)) <| mm_c (sn_goto dX1_longestWay_209 (by decide)) <| mm_c (sn_aload_n dX1_longestWay_212 rfl) <| mm_c (sn_getR dX1_longestWay_213 F_X1_18) <| mm_c (sn_iload_n dX1_longestWay_216 rfl) <| mm_c (sn_iaload dX1_longestWay_217) <| mm_c (sn_ireturn dX1_longestWay_218 rfl) <| mm_n
def P1_enter (l : Launch) (d : Nat) (post : mm_Po) : List (Nat × mm_S) := [(0, se_aload 0 1), (1, se_getR 9 14 4), (4, se_iload 2 5), (5, se_iload 1 6), (6, se_iastore 7), (7, se_aload 0 8), (8, se_getR 9 13 11), (11, se_iload 1 12), (12, se_int 0 13), (13, se_iastore 14), (14, se_aload 0 15), (15, se_getR 9 12 18), (18, se_iload 1 19), (19, se_int 0 20), (20, se_iastore 21), (21, se_vret post)]
set_option maxRecDepth 100000 in
theorem S1_enter (l : Launch) (d : Nat) (E : mm_X) (post : mm_Po) : ∀ q ∈ P1_enter l d post, mm_Sn l d M1_enter E post q := mm_c (sn_aload_n dX1_enter_0 rfl) <| mm_c (sn_getR dX1_enter_1 F_X1_24) <| mm_c (sn_iload_n dX1_enter_4 rfl) <| mm_c (sn_iload_n dX1_enter_5 rfl) <| mm_c (sn_iastore dX1_enter_6) <| mm_c (sn_aload_n dX1_enter_7 rfl) <| mm_c (sn_getR dX1_enter_8 F_X1_21) <| mm_c (sn_iload_n dX1_enter_11 rfl) <| mm_c (sn_iconst dX1_enter_12 (by decide)) <| mm_c (sn_iastore dX1_enter_13) <| mm_c (sn_aload_n dX1_enter_14 rfl) <| mm_c (sn_getR dX1_enter_15 F_X1_18) <| mm_c (sn_iload_n dX1_enter_18 rfl) <| mm_c (sn_iconst dX1_enter_19 (by decide)) <| mm_c (sn_iastore dX1_enter_20) <| mm_c (sn_return dX1_enter_21 rfl) <| mm_n
def M1_shortestWay : mm_M := (yX1_shortestWay, cX1_shortestWay, 7, (some .int))
theorem cw_1_shortestWay : Cond.code M1_shortestWay.1 M1_shortestWay.2.1 M1_shortestWay.2.2.1 M1_shortestWay.2.2.2 ∈ mm_tb := mm_mem 462 (by decide +kernel) rfl
def P1_shortestWay (l : Launch) (d : Nat) (post : mm_Po) : List (Nat × mm_S) := [(0, se_aload 0 1), (1, se_getR 9 12 4), (4, se_int (-1) 5), (5, se_callS l d MJ_fill 2 8), (8, se_int 1 9), (9, se_istore 1 10), (10, se_aload 0 11), (11, se_getR 9 14 14), (14, se_int 0 15), (15, se_aload 0 16), (16, se_callV l d M1_stateNow 0 9 19), (19, se_iastore 20), (20, se_aload 0 21), (21, se_getR 9 12 24), (24, se_aload 0 25), (25, se_getR 9 14 28), (28, se_int 0 29), (29, se_iaload 30), (30, se_int 0 31), (31, se_iastore 32), (32, se_int 0 33), (33, se_istore 2 34), (34, se_iload 2 35), (35, se_iload 1 36), (36, se_icmp_ge 166 39), (39, se_iload 2 40), (40, se_int 3125 43), (43, se_icmp_ge 166 46), (46, se_aload 0 47), (47, se_getR 9 14 50), (50, se_iload 2 51), (51, se_iaload 52), (52, se_istore 3 53), (53, se_int 1 54), (54, se_istore 4 56), (56, se_int 0 57), (57, se_istore 5 59), (59, se_iload 5 61), (61, se_aload 0 62), (62, se_getR 9 1 65), (65, se_getI 1 3 68), (68, se_icmp_ge 148 71), (71, se_aload 0 72), (72, se_iload 3 73), (73, se_iload 5 75), (75, se_callV l d M1_stateBehind 2 9 78), (78, se_istore 6 80), (80, se_iload 4 82), (82, se_if_eq 95 85), (85, se_iload 6 87), (87, se_iload 3 88), (88, se_icmp_ne 95 91), (91, se_int 1 92), (92, se_goto 96), (95, se_int 0 96), (96, se_istore 4 98), (98, se_aload 0 99), (99, se_getR 9 12 102), (102, se_iload 6 104), (104, se_iaload 105), (105, se_int (-1) 106), (106, se_icmp_ne 142 109), (109, se_iload 1 110), (110, se_int 3125 113), (113, se_icmp_ge 142 116), (116, se_aload 0 117), (117, se_getR 9 12 120), (120, se_iload 6 122), (122, se_aload 0 123), (123, se_getR 9 12 126), (126, se_iload 3 127), (127, se_iaload 128), (128, se_int 1 129), (129, se_iadd 130), (130, se_iastore 131), (131, se_aload 0 132), (132, se_getR 9 14 135), (135, se_iload 1 136), (136, se_iload 6 138), (138, se_iastore 139), (139, se_iinc 1 1 142), (142, se_iinc 5 1 145), (145, se_goto 59), (148, se_iload 4 150), (150, se_if_eq 160 153), (153, se_aload 0 154), (154, se_getR 9 12 157), (157, se_iload 3 158), (158, se_iaload 159), (159, se_ret post false), (160, se_iinc 2 1 163), (163, se_goto 34), (166, se_int (-1) 167), (167, se_ret post false)]
set_option maxRecDepth 100000 in
theorem S1_shortestWay (l : Launch) (d : Nat) (E : mm_X) (post : mm_Po) : ∀ q ∈ P1_shortestWay l d post, mm_Sn l d M1_shortestWay E post q := mm_c (sn_aload_n dX1_shortestWay_0 rfl) <| mm_c (sn_getR dX1_shortestWay_1 F_X1_18) <| mm_c (sn_iconst dX1_shortestWay_4 (by decide)) <| mm_c (sn_callS dX1_shortestWay_5 C_X1_31) <| mm_c (sn_iconst dX1_shortestWay_8 (by decide)) <| mm_c (sn_istore_n dX1_shortestWay_9 rfl (by decide)) <| mm_c (sn_aload_n dX1_shortestWay_10 rfl) <| mm_c (sn_getR dX1_shortestWay_11 F_X1_24) <| mm_c (sn_iconst dX1_shortestWay_14 (by decide)) <| mm_c (sn_aload_n dX1_shortestWay_15 rfl) <| mm_c (sn_callV dX1_shortestWay_16 C_X1_71) <| mm_c (sn_iastore dX1_shortestWay_19) <| mm_c (sn_aload_n dX1_shortestWay_20 rfl) <| mm_c (sn_getR dX1_shortestWay_21 F_X1_18) <| mm_c (sn_aload_n dX1_shortestWay_24 rfl) <| mm_c (sn_getR dX1_shortestWay_25 F_X1_24) <| mm_c (sn_iconst dX1_shortestWay_28 (by decide)) <| mm_c (sn_iaload dX1_shortestWay_29) <| mm_c (sn_iconst dX1_shortestWay_30 (by decide)) <| mm_c (sn_iastore dX1_shortestWay_31) <| mm_c (sn_iconst dX1_shortestWay_32 (by decide)) <| mm_c (sn_istore_n dX1_shortestWay_33 rfl (by decide)) <| mm_c (sn_iload_n dX1_shortestWay_34 rfl) <| mm_c (sn_iload_n dX1_shortestWay_35 rfl) <| mm_c (sn_icmp_ge dX1_shortestWay_36 (by decide)) <| mm_c (sn_iload_n dX1_shortestWay_39 rfl) <| mm_c (sn_sipush dX1_shortestWay_40 (by decide)) <| mm_c (sn_icmp_ge dX1_shortestWay_43 (by decide)) <| mm_c (sn_aload_n dX1_shortestWay_46 rfl) <| mm_c (sn_getR dX1_shortestWay_47 F_X1_24) <| mm_c (sn_iload_n dX1_shortestWay_50 rfl) <| mm_c (sn_iaload dX1_shortestWay_51) <| mm_c (sn_istore_n dX1_shortestWay_52 rfl (by decide)) <| mm_c (sn_iconst dX1_shortestWay_53 (by decide)) <| mm_c (sn_istore dX1_shortestWay_54 (by decide)) <| mm_c (sn_iconst dX1_shortestWay_56 (by decide)) <| mm_c (sn_istore dX1_shortestWay_57 (by decide)) <| mm_c (sn_iload dX1_shortestWay_59) <| mm_c (sn_aload_n dX1_shortestWay_61 rfl) <| mm_c (sn_getR dX1_shortestWay_62 F_X1_27) <| mm_c (sn_getI dX1_shortestWay_65 F_X1_41) <| mm_c (sn_icmp_ge dX1_shortestWay_68 (by decide)) <| mm_c (sn_aload_n dX1_shortestWay_71 rfl) <| mm_c (sn_iload_n dX1_shortestWay_72 rfl) <| mm_c (sn_iload dX1_shortestWay_73) <| mm_c (sn_callV dX1_shortestWay_75 C_X1_82) <| mm_c (sn_istore dX1_shortestWay_78 (by decide)) <| mm_c (sn_iload dX1_shortestWay_80) <| mm_c (sn_if_eq dX1_shortestWay_82 (by decide)) <| mm_c (sn_iload dX1_shortestWay_85) <| mm_c (sn_iload_n dX1_shortestWay_87 rfl) <| mm_c (sn_icmp_ne dX1_shortestWay_88 (by decide)) <| mm_c (sn_iconst dX1_shortestWay_91 (by decide)) <| mm_c (sn_goto dX1_shortestWay_92 (by decide)) <| mm_c (sn_iconst dX1_shortestWay_95 (by decide)) <| mm_c (sn_istore dX1_shortestWay_96 (by decide)) <| mm_c (sn_aload_n dX1_shortestWay_98 rfl) <| mm_c (sn_getR dX1_shortestWay_99 F_X1_18) <| mm_c (sn_iload dX1_shortestWay_102) <| mm_c (sn_iaload dX1_shortestWay_104) <| mm_c (sn_iconst dX1_shortestWay_105 (by decide)) <| mm_c (sn_icmp_ne dX1_shortestWay_106 (by decide)) <| mm_c (sn_iload_n dX1_shortestWay_109 rfl) <| mm_c (sn_sipush dX1_shortestWay_110 (by decide)) <| mm_c (sn_icmp_ge dX1_shortestWay_113 (by decide)) <| mm_c (sn_aload_n dX1_shortestWay_116 rfl) <| mm_c (sn_getR dX1_shortestWay_117 F_X1_18) <| mm_c (sn_iload dX1_shortestWay_120) <| mm_c (sn_aload_n dX1_shortestWay_122 rfl) <| mm_c (sn_getR dX1_shortestWay_123 F_X1_18) <| mm_c (sn_iload_n dX1_shortestWay_126 rfl) <| mm_c (sn_iaload dX1_shortestWay_127) <| mm_c (sn_iconst dX1_shortestWay_128 (by decide)) <| mm_c (sn_iadd dX1_shortestWay_129) <| mm_c (sn_iastore dX1_shortestWay_130) <| mm_c (sn_aload_n dX1_shortestWay_131 rfl) <| mm_c (sn_getR dX1_shortestWay_132 F_X1_24) <| mm_c (sn_iload_n dX1_shortestWay_135 rfl) <| mm_c (sn_iload dX1_shortestWay_136) <| mm_c (sn_iastore dX1_shortestWay_138) <| mm_c (sn_iinc dX1_shortestWay_139 (by decide) (by decide)) <| mm_c (sn_iinc dX1_shortestWay_142 (by decide) (by decide)) <| mm_c (sn_goto dX1_shortestWay_145 (by decide)) <| mm_c (sn_iload dX1_shortestWay_148) <| mm_c (sn_if_eq dX1_shortestWay_150 (by decide)) <| mm_c (sn_aload_n dX1_shortestWay_153 rfl) <| mm_c (sn_getR dX1_shortestWay_154 F_X1_18) <| mm_c (sn_iload_n dX1_shortestWay_157 rfl) <| mm_c (sn_iaload dX1_shortestWay_158) <| mm_c (sn_ireturn dX1_shortestWay_159 rfl) <| mm_c (sn_iinc dX1_shortestWay_160 (by decide) (by decide)) <| mm_c (sn_goto dX1_shortestWay_163 (by decide)) <| mm_c (sn_iconst dX1_shortestWay_166 (by decide)) <| mm_c (sn_ireturn dX1_shortestWay_167 rfl) <| mm_n
theorem F_X3_9 : mm_fok RX3 9 7 0 (some 8) := ⟨2, _, RX3, TX3, 3, rfl, rfl, rfl, by decide, mm_inTX3, mm_mem 126 (by decide +kernel) rfl⟩
theorem C_X3_23 : mm_cs RX3 23 MJ_fill 2 := ⟨mm_mem 237 (by decide +kernel) rfl, mm_mem 197 (by decide +kernel) rfl, mm_mem 43 (by decide +kernel) rfl, cw_J_fill, by decide +kernel, by decide⟩
theorem F_X3_19 : mm_fok RX3 19 7 2 (some 5) := ⟨2, _, RX3, TX3, 3, rfl, rfl, rfl, by decide, mm_inTX3, mm_mem 129 (by decide +kernel) rfl⟩
def M4_search : mm_M := (yX4_search, cX4_search, 4, none)
theorem cw_4_search : Cond.code M4_search.1 M4_search.2.1 M4_search.2.2.1 M4_search.2.2.2 ∈ mm_tb := mm_mem 241 (by decide +kernel) rfl
theorem C_X3_29 : mm_cv RX3 29 M4_search 3 5 := ⟨mm_mem 238 (by decide +kernel) rfl, mm_mem 239 (by decide +kernel) rfl, mm_mem 240 (by decide +kernel) rfl, mm_mem 39 (by decide +kernel) rfl, cw_4_search, by decide +kernel, by decide, 3, _, _, _, rfl, rfl⟩
theorem F_X3_35 : mm_fok RX3 35 5 0 (some 6) := ⟨3, _, RX4, TX4, 7, rfl, rfl, rfl, by decide, mm_inTX4, mm_mem 94 (by decide +kernel) rfl⟩
theorem F_X3_15 : mm_fok RX3 15 7 1 (some 1) := ⟨2, _, RX3, TX3, 3, rfl, rfl, rfl, by decide, mm_inTX3, mm_mem 128 (by decide +kernel) rfl⟩
theorem F_X3_36 : mm_fok RX3 36 1 3 none := ⟨1, _, RX2, TX2, 4, rfl, rfl, rfl, by decide, mm_inTX2, mm_mem 73 (by decide +kernel) rfl⟩
theorem F_X3_36_w : mm_fw RX3 36 1 3 false := ⟨1, _, RX2, TX2, 4, tyX2, rfl, rfl, rfl, by decide, mm_inTX2, mm_mem 73 (by decide +kernel) rfl, tyX2_ok, nmX2, rfl, rfl⟩
theorem F_X3_48 : mm_fok RX3 48 5 2 none := ⟨3, _, RX4, TX4, 7, rfl, rfl, rfl, by decide, mm_inTX4, mm_mem 99 (by decide +kernel) rfl⟩
theorem F_X3_48_w : mm_fw RX3 48 5 2 true := ⟨3, _, RX4, TX4, 7, tyX4, rfl, rfl, rfl, by decide, mm_inTX4, mm_mem 99 (by decide +kernel) rfl, tyX4_ok, nmX4, rfl, rfl⟩
def M3_findsLeaders : mm_M := (yX3_findsLeaders, cX3_findsLeaders, 4, (some .boolean))
theorem cw_3_findsLeaders : Cond.code M3_findsLeaders.1 M3_findsLeaders.2.1 M3_findsLeaders.2.2.1 M3_findsLeaders.2.2.2 ∈ mm_tb := mm_mem 286 (by decide +kernel) rfl
theorem C_X3_52 : mm_cv RX3 52 M3_findsLeaders 0 7 := ⟨mm_mem 283 (by decide +kernel) rfl, mm_mem 285 (by decide +kernel) rfl, mm_mem 2 (by decide +kernel) rfl, mm_mem 40 (by decide +kernel) rfl, cw_3_findsLeaders, by decide +kernel, by decide, 2, _, _, _, rfl, rfl⟩
def M3_allScattered : mm_M := (yX3_allScattered, cX3_allScattered, 2, (some .boolean))
theorem cw_3_allScattered : Cond.code M3_allScattered.1 M3_allScattered.2.1 M3_allScattered.2.2.1 M3_allScattered.2.2.2 ∈ mm_tb := mm_mem 304 (by decide +kernel) rfl
theorem C_X3_56 : mm_cv RX3 56 M3_allScattered 0 7 := ⟨mm_mem 301 (by decide +kernel) rfl, mm_mem 303 (by decide +kernel) rfl, mm_mem 5 (by decide +kernel) rfl, mm_mem 40 (by decide +kernel) rfl, cw_3_allScattered, by decide +kernel, by decide, 2, _, _, _, rfl, rfl⟩
def M3_findsNoRings : mm_M := (yX3_findsNoRings, cX3_findsNoRings, 4, (some .boolean))
theorem cw_3_findsNoRings : Cond.code M3_findsNoRings.1 M3_findsNoRings.2.1 M3_findsNoRings.2.2.1 M3_findsNoRings.2.2.2 ∈ mm_tb := mm_mem 309 (by decide +kernel) rfl
theorem C_X3_59 : mm_cv RX3 59 M3_findsNoRings 0 7 := ⟨mm_mem 306 (by decide +kernel) rfl, mm_mem 308 (by decide +kernel) rfl, mm_mem 6 (by decide +kernel) rfl, mm_mem 40 (by decide +kernel) rfl, cw_3_findsNoRings, by decide +kernel, by decide, 2, _, _, _, rfl, rfl⟩
def M3_finds : mm_M := (yX3_finds, cX3_finds, 2, (some .boolean))
theorem cw_3_finds : Cond.code M3_finds.1 M3_finds.2.1 M3_finds.2.2.1 M3_finds.2.2.2 ∈ mm_tb := mm_mem 236 (by decide +kernel) rfl
def P3_finds (l : Launch) (d : Nat) (post : mm_Po) : List (Nat × mm_S) := [(0, se_aload 0 1), (1, se_getR 7 8 4), (4, se_int 0 5), (5, se_callS l d MJ_fill 2 8), (8, se_iload 1 9), (9, se_switch [(0, 40), (1, 40), (2, 81), (3, 86)] 91), (40, se_aload 0 41), (41, se_getR 7 5 44), (44, se_iload 1 45), (45, se_int 3 46), (46, se_int 0 47), (47, se_callV l d M4_search 3 5 50), (50, se_aload 0 51), (51, se_getR 7 5 54), (54, se_getR 5 6 57), (57, se_int 0 58), (58, se_aload 0 59), (59, se_getR 7 8 62), (62, se_int 0 63), (63, se_aload 0 64), (64, se_getR 7 1 67), (67, se_getI 1 3 70), (70, se_copy d 73), (73, se_aload 0 74), (74, se_getR 7 5 77), (77, se_getI 5 2 80), (80, se_ret post true), (81, se_aload 0 82), (82, se_callV l d M3_findsLeaders 0 7 85), (85, se_ret post true), (86, se_aload 0 87), (87, se_callV l d M3_allScattered 0 7 90), (90, se_ret post true), (91, se_aload 0 92), (92, se_callV l d M3_findsNoRings 0 7 95), (95, se_ret post true)]
set_option maxRecDepth 100000 in
theorem S3_finds (l : Launch) (d : Nat) (E : mm_X) (post : mm_Po) : ∀ q ∈ P3_finds l d post, mm_Sn l d M3_finds E post q := mm_c (sn_aload_n dX3_finds_0 rfl) <| mm_c (sn_getR dX3_finds_1 F_X3_9) <| mm_c (sn_iconst dX3_finds_4 (by decide)) <| mm_c (sn_callS dX3_finds_5 C_X3_23) <| mm_c (sn_iload_n dX3_finds_8 rfl) <| mm_c (sn_switch dX3_finds_9 (by decide +kernel)) <| mm_c (sn_aload_n dX3_finds_40 rfl) <| mm_c (sn_getR dX3_finds_41 F_X3_19) <| mm_c (sn_iload_n dX3_finds_44 rfl) <| mm_c (sn_iconst dX3_finds_45 (by decide)) <| mm_c (sn_iconst dX3_finds_46 (by decide)) <| mm_c (sn_callV dX3_finds_47 C_X3_29) <| mm_c (sn_aload_n dX3_finds_50 rfl) <| mm_c (sn_getR dX3_finds_51 F_X3_19) <| mm_c (sn_getR dX3_finds_54 F_X3_35) <| mm_c (sn_iconst dX3_finds_57 (by decide)) <| mm_c (sn_aload_n dX3_finds_58 rfl) <| mm_c (sn_getR dX3_finds_59 F_X3_9) <| mm_c (sn_iconst dX3_finds_62 (by decide)) <| mm_c (sn_aload_n dX3_finds_63 rfl) <| mm_c (sn_getR dX3_finds_64 F_X3_15) <| mm_c (sn_getI dX3_finds_67 F_X3_36) <| mm_c (sn_copy dX3_finds_70 (mm_mem 280 (by decide +kernel) rfl) (mm_mem 282 (by decide +kernel) rfl) (mm_mem 281 (by decide +kernel) rfl) (mm_mem 46 (by decide +kernel) rfl)) <| mm_c (sn_aload_n dX3_finds_73 rfl) <| mm_c (sn_getR dX3_finds_74 F_X3_19) <| mm_c (sn_getI dX3_finds_77 F_X3_48) <| mm_c (sn_zreturn dX3_finds_80 rfl) <| mm_c (sn_aload_n dX3_finds_81 rfl) <| mm_c (sn_callV dX3_finds_82 C_X3_52) <| mm_c (sn_zreturn dX3_finds_85 rfl) <| mm_c (sn_aload_n dX3_finds_86 rfl) <| mm_c (sn_callV dX3_finds_87 C_X3_56) <| mm_c (sn_zreturn dX3_finds_90 rfl) <| mm_c (sn_aload_n dX3_finds_91 rfl) <| mm_c (sn_callV dX3_finds_92 C_X3_59) <| mm_c (sn_zreturn dX3_finds_95 rfl) <| mm_n
theorem C_X3_62 : mm_cv RX3 62 M2_leaders 0 1 := ⟨mm_mem 287 (by decide +kernel) rfl, mm_mem 268 (by decide +kernel) rfl, mm_mem 269 (by decide +kernel) rfl, mm_mem 38 (by decide +kernel) rfl, cw_2_leaders, by decide +kernel, by decide, 1, _, _, _, rfl, rfl⟩
theorem C_X3_66 : mm_cv RX3 66 M2_measure 1 1 := ⟨mm_mem 288 (by decide +kernel) rfl, mm_mem 289 (by decide +kernel) rfl, mm_mem 290 (by decide +kernel) rfl, mm_mem 38 (by decide +kernel) rfl, cw_2_measure, by decide +kernel, by decide, 1, _, _, _, rfl, rfl⟩
theorem C_X3_70 : mm_cs RX3 70 MJ_bitCount 1 := ⟨mm_mem 296 (by decide +kernel) rfl, mm_mem 275 (by decide +kernel) rfl, mm_mem 45 (by decide +kernel) rfl, cw_J_bitCount, by decide +kernel, by decide⟩
theorem F_X3_75 : mm_fok RX3 75 1 1 (some 3) := ⟨1, _, RX2, TX2, 4, rfl, rfl, rfl, by decide, mm_inTX2, mm_mem 66 (by decide +kernel) rfl⟩
def M3_numberFrom : mm_M := (yX3_numberFrom, cX3_numberFrom, 4, none)
theorem cw_3_numberFrom : Cond.code M3_numberFrom.1 M3_numberFrom.2.1 M3_numberFrom.2.2.1 M3_numberFrom.2.2.2 ∈ mm_tb := mm_mem 300 (by decide +kernel) rfl
theorem C_X3_78 : mm_cv RX3 78 M3_numberFrom 2 7 := ⟨mm_mem 297 (by decide +kernel) rfl, mm_mem 299 (by decide +kernel) rfl, mm_mem 4 (by decide +kernel) rfl, mm_mem 40 (by decide +kernel) rfl, cw_3_numberFrom, by decide +kernel, by decide, 2, _, _, _, rfl, rfl⟩
def P3_findsLeaders (l : Launch) (d : Nat) (post : mm_Po) : List (Nat × mm_S) := [(0, se_aload 0 1), (1, se_getR 7 1 4), (4, se_callV l d M2_leaders 0 1 7), (7, se_istore 1 8), (8, se_int 0 9), (9, se_istore 2 10), (10, se_iload 2 11), (11, se_aload 0 12), (12, se_getR 7 1 15), (15, se_getI 1 3 18), (18, se_icmp_ge 70 21), (21, se_aload 0 22), (22, se_getR 7 1 25), (25, se_iload 2 26), (26, se_callV l d M2_measure 1 1 29), (29, se_istore 3 30), (30, se_iload 3 31), (31, se_iload 1 32), (32, se_iand 33), (33, se_callS l d MJ_bitCount 1 36), (36, se_int 1 37), (37, se_icmp_eq 42 40), (40, se_int 0 41), (41, se_ret post true), (42, se_aload 0 43), (43, se_getR 7 1 46), (46, se_getR 1 3 49), (49, se_iload 2 50), (50, se_iaload 51), (51, se_int 1 52), (52, se_icmp_ne 64 55), (55, se_aload 0 56), (56, se_iload 3 57), (57, se_int 8 59), (59, se_iload 2 60), (60, se_imul 61), (61, se_callV l d M3_numberFrom 2 7 64), (64, se_iinc 2 1 67), (67, se_goto 10), (70, se_int 1 71), (71, se_ret post true)]
set_option maxRecDepth 100000 in
theorem S3_findsLeaders (l : Launch) (d : Nat) (E : mm_X) (post : mm_Po) : ∀ q ∈ P3_findsLeaders l d post, mm_Sn l d M3_findsLeaders E post q := mm_c (sn_aload_n dX3_findsLeaders_0 rfl) <| mm_c (sn_getR dX3_findsLeaders_1 F_X3_15) <| mm_c (sn_callV dX3_findsLeaders_4 C_X3_62) <| mm_c (sn_istore_n dX3_findsLeaders_7 rfl (by decide)) <| mm_c (sn_iconst dX3_findsLeaders_8 (by decide)) <| mm_c (sn_istore_n dX3_findsLeaders_9 rfl (by decide)) <| mm_c (sn_iload_n dX3_findsLeaders_10 rfl) <| mm_c (sn_aload_n dX3_findsLeaders_11 rfl) <| mm_c (sn_getR dX3_findsLeaders_12 F_X3_15) <| mm_c (sn_getI dX3_findsLeaders_15 F_X3_36) <| mm_c (sn_icmp_ge dX3_findsLeaders_18 (by decide)) <| mm_c (sn_aload_n dX3_findsLeaders_21 rfl) <| mm_c (sn_getR dX3_findsLeaders_22 F_X3_15) <| mm_c (sn_iload_n dX3_findsLeaders_25 rfl) <| mm_c (sn_callV dX3_findsLeaders_26 C_X3_66) <| mm_c (sn_istore_n dX3_findsLeaders_29 rfl (by decide)) <| mm_c (sn_iload_n dX3_findsLeaders_30 rfl) <| mm_c (sn_iload_n dX3_findsLeaders_31 rfl) <| mm_c (sn_iand dX3_findsLeaders_32) <| mm_c (sn_callS dX3_findsLeaders_33 C_X3_70) <| mm_c (sn_iconst dX3_findsLeaders_36 (by decide)) <| mm_c (sn_icmp_eq dX3_findsLeaders_37 (by decide)) <| mm_c (sn_iconst dX3_findsLeaders_40 (by decide)) <| mm_c (sn_zreturn dX3_findsLeaders_41 rfl) <| mm_c (sn_aload_n dX3_findsLeaders_42 rfl) <| mm_c (sn_getR dX3_findsLeaders_43 F_X3_15) <| mm_c (sn_getR dX3_findsLeaders_46 F_X3_75) <| mm_c (sn_iload_n dX3_findsLeaders_49 rfl) <| mm_c (sn_iaload dX3_findsLeaders_50) <| mm_c (sn_iconst dX3_findsLeaders_51 (by decide)) <| mm_c (sn_icmp_ne dX3_findsLeaders_52 (by decide)) <| mm_c (sn_aload_n dX3_findsLeaders_55 rfl) <| mm_c (sn_iload_n dX3_findsLeaders_56 rfl) <| mm_c (sn_bipush dX3_findsLeaders_57 (by decide)) <| mm_c (sn_iload_n dX3_findsLeaders_59 rfl) <| mm_c (sn_imul dX3_findsLeaders_60) <| mm_c (sn_callV dX3_findsLeaders_61 C_X3_78) <| mm_c (sn_iinc dX3_findsLeaders_64 (by decide) (by decide)) <| mm_c (sn_goto dX3_findsLeaders_67 (by decide)) <| mm_c (sn_iconst dX3_findsLeaders_70 (by decide)) <| mm_c (sn_zreturn dX3_findsLeaders_71 rfl) <| mm_n
theorem C_X3_82 : mm_cs RX3 82 M0_isScattered 2 := ⟨mm_mem 305 (by decide +kernel) rfl, mm_mem 265 (by decide +kernel) rfl, mm_mem 44 (by decide +kernel) rfl, cw_0_isScattered, by decide +kernel, by decide⟩
def P3_allScattered (l : Launch) (d : Nat) (post : mm_Po) : List (Nat × mm_S) := [(0, se_int 0 1), (1, se_istore 1 2), (2, se_iload 1 3), (3, se_aload 0 4), (4, se_getR 7 1 7), (7, se_getI 1 3 10), (10, se_icmp_ge 32 13), (13, se_aload 0 14), (14, se_getR 7 1 17), (17, se_iload 1 18), (18, se_callS l d M0_isScattered 2 21), (21, se_if_ne 26 24), (24, se_int 0 25), (25, se_ret post true), (26, se_iinc 1 1 29), (29, se_goto 2), (32, se_int 1 33), (33, se_ret post true)]
set_option maxRecDepth 100000 in
theorem S3_allScattered (l : Launch) (d : Nat) (E : mm_X) (post : mm_Po) : ∀ q ∈ P3_allScattered l d post, mm_Sn l d M3_allScattered E post q := mm_c (sn_iconst dX3_allScattered_0 (by decide)) <| mm_c (sn_istore_n dX3_allScattered_1 rfl (by decide)) <| mm_c (sn_iload_n dX3_allScattered_2 rfl) <| mm_c (sn_aload_n dX3_allScattered_3 rfl) <| mm_c (sn_getR dX3_allScattered_4 F_X3_15) <| mm_c (sn_getI dX3_allScattered_7 F_X3_36) <| mm_c (sn_icmp_ge dX3_allScattered_10 (by decide)) <| mm_c (sn_aload_n dX3_allScattered_13 rfl) <| mm_c (sn_getR dX3_allScattered_14 F_X3_15) <| mm_c (sn_iload_n dX3_allScattered_17 rfl) <| mm_c (sn_callS dX3_allScattered_18 C_X3_82) <| mm_c (sn_if_ne dX3_allScattered_21 (by decide)) <| mm_c (sn_iconst dX3_allScattered_24 (by decide)) <| mm_c (sn_zreturn dX3_allScattered_25 rfl) <| mm_c (sn_iinc dX3_allScattered_26 (by decide) (by decide)) <| mm_c (sn_goto dX3_allScattered_29 (by decide)) <| mm_c (sn_iconst dX3_allScattered_32 (by decide)) <| mm_c (sn_zreturn dX3_allScattered_33 rfl) <| mm_n
theorem C_X3_88 : mm_cs RX3 88 M2_isLeast 2 := ⟨mm_mem 310 (by decide +kernel) rfl, mm_mem 311 (by decide +kernel) rfl, mm_mem 38 (by decide +kernel) rfl, cw_2_isLeast, by decide +kernel, by decide⟩
theorem C_X3_92 : mm_cv RX3 92 M2_lineCount 0 1 := ⟨mm_mem 313 (by decide +kernel) rfl, mm_mem 314 (by decide +kernel) rfl, mm_mem 315 (by decide +kernel) rfl, mm_mem 38 (by decide +kernel) rfl, cw_2_lineCount, by decide +kernel, by decide, 1, _, _, _, rfl, rfl⟩
def P3_findsNoRings (l : Launch) (d : Nat) (post : mm_Po) : List (Nat × mm_S) := [(0, se_int 0 1), (1, se_istore 1 2), (2, se_int 0 3), (3, se_istore 2 4), (4, se_iload 2 5), (5, se_aload 0 6), (6, se_getR 7 1 9), (9, se_getI 1 3 12), (12, se_icmp_ge 47 15), (15, se_aload 0 16), (16, se_getR 7 1 19), (19, se_iload 2 20), (20, se_callV l d M2_measure 1 1 23), (23, se_istore 3 24), (24, se_iload 2 25), (25, se_iload 3 26), (26, se_callS l d M2_isLeast 2 29), (29, se_if_eq 41 32), (32, se_iinc 1 1 35), (35, se_aload 0 36), (36, se_iload 3 37), (37, se_int 0 38), (38, se_callV l d M3_numberFrom 2 7 41), (41, se_iinc 2 1 44), (44, se_goto 4), (47, se_aload 0 48), (48, se_getR 7 1 51), (51, se_callV l d M2_lineCount 0 1 54), (54, se_aload 0 55), (55, se_getR 7 1 58), (58, se_getI 1 3 61), (61, se_iload 1 62), (62, se_isub 63), (63, se_icmp_ne 70 66), (66, se_int 1 67), (67, se_goto 71), (70, se_int 0 71), (71, se_ret post true)]
set_option maxRecDepth 100000 in
theorem S3_findsNoRings (l : Launch) (d : Nat) (E : mm_X) (post : mm_Po) : ∀ q ∈ P3_findsNoRings l d post, mm_Sn l d M3_findsNoRings E post q := mm_c (sn_iconst dX3_findsNoRings_0 (by decide)) <| mm_c (sn_istore_n dX3_findsNoRings_1 rfl (by decide)) <| mm_c (sn_iconst dX3_findsNoRings_2 (by decide)) <| mm_c (sn_istore_n dX3_findsNoRings_3 rfl (by decide)) <| mm_c (sn_iload_n dX3_findsNoRings_4 rfl) <| mm_c (sn_aload_n dX3_findsNoRings_5 rfl) <| mm_c (sn_getR dX3_findsNoRings_6 F_X3_15) <| mm_c (sn_getI dX3_findsNoRings_9 F_X3_36) <| mm_c (sn_icmp_ge dX3_findsNoRings_12 (by decide)) <| mm_c (sn_aload_n dX3_findsNoRings_15 rfl) <| mm_c (sn_getR dX3_findsNoRings_16 F_X3_15) <| mm_c (sn_iload_n dX3_findsNoRings_19 rfl) <| mm_c (sn_callV dX3_findsNoRings_20 C_X3_66) <| mm_c (sn_istore_n dX3_findsNoRings_23 rfl (by decide)) <| mm_c (sn_iload_n dX3_findsNoRings_24 rfl) <| mm_c (sn_iload_n dX3_findsNoRings_25 rfl) <| mm_c (sn_callS dX3_findsNoRings_26 C_X3_88) <| mm_c (sn_if_eq dX3_findsNoRings_29 (by decide)) <| mm_c (sn_iinc dX3_findsNoRings_32 (by decide) (by decide)) <| mm_c (sn_aload_n dX3_findsNoRings_35 rfl) <| mm_c (sn_iload_n dX3_findsNoRings_36 rfl) <| mm_c (sn_iconst dX3_findsNoRings_37 (by decide)) <| mm_c (sn_callV dX3_findsNoRings_38 C_X3_78) <| mm_c (sn_iinc dX3_findsNoRings_41 (by decide) (by decide)) <| mm_c (sn_goto dX3_findsNoRings_44 (by decide)) <| mm_c (sn_aload_n dX3_findsNoRings_47 rfl) <| mm_c (sn_getR dX3_findsNoRings_48 F_X3_15) <| mm_c (sn_callV dX3_findsNoRings_51 C_X3_92) <| mm_c (sn_aload_n dX3_findsNoRings_54 rfl) <| mm_c (sn_getR dX3_findsNoRings_55 F_X3_15) <| mm_c (sn_getI dX3_findsNoRings_58 F_X3_36) <| mm_c (sn_iload_n dX3_findsNoRings_61 rfl) <| mm_c (sn_isub dX3_findsNoRings_62) <| mm_c (sn_icmp_ne dX3_findsNoRings_63 (by decide)) <| mm_c (sn_iconst dX3_findsNoRings_66 (by decide)) <| mm_c (sn_goto dX3_findsNoRings_67 (by decide)) <| mm_c (sn_iconst dX3_findsNoRings_70 (by decide)) <| mm_c (sn_zreturn dX3_findsNoRings_71 rfl) <| mm_n
theorem F_X3_95 : mm_fok RX3 95 1 2 (some 4) := ⟨1, _, RX2, TX2, 4, rfl, rfl, rfl, by decide, mm_inTX2, mm_mem 70 (by decide +kernel) rfl⟩
def P3_numberFrom (l : Launch) (d : Nat) (post : mm_Po) : List (Nat × mm_S) := [(0, se_int 0 1), (1, se_istore 3 2), (2, se_iload 3 3), (3, se_aload 0 4), (4, se_getR 7 1 7), (7, se_getI 1 3 10), (10, se_icmp_ge 45 13), (13, se_iload 1 14), (14, se_iload 3 15), (15, se_ishr 16), (16, se_int 1 17), (17, se_iand 18), (18, se_int 1 19), (19, se_icmp_ne 39 22), (22, se_aload 0 23), (23, se_getR 7 8 26), (26, se_iload 3 27), (27, se_iload 2 28), (28, se_aload 0 29), (29, se_getR 7 1 32), (32, se_getR 1 4 35), (35, se_iload 3 36), (36, se_iaload 37), (37, se_iadd 38), (38, se_iastore 39), (39, se_iinc 3 1 42), (42, se_goto 2), (45, se_vret post)]
set_option maxRecDepth 100000 in
theorem S3_numberFrom (l : Launch) (d : Nat) (E : mm_X) (post : mm_Po) : ∀ q ∈ P3_numberFrom l d post, mm_Sn l d M3_numberFrom E post q := mm_c (sn_iconst dX3_numberFrom_0 (by decide)) <| mm_c (sn_istore_n dX3_numberFrom_1 rfl (by decide)) <| mm_c (sn_iload_n dX3_numberFrom_2 rfl) <| mm_c (sn_aload_n dX3_numberFrom_3 rfl) <| mm_c (sn_getR dX3_numberFrom_4 F_X3_15) <| mm_c (sn_getI dX3_numberFrom_7 F_X3_36) <| mm_c (sn_icmp_ge dX3_numberFrom_10 (by decide)) <| mm_c (sn_iload_n dX3_numberFrom_13 rfl) <| mm_c (sn_iload_n dX3_numberFrom_14 rfl) <| mm_c (sn_ishr dX3_numberFrom_15) <| mm_c (sn_iconst dX3_numberFrom_16 (by decide)) <| mm_c (sn_iand dX3_numberFrom_17) <| mm_c (sn_iconst dX3_numberFrom_18 (by decide)) <| mm_c (sn_icmp_ne dX3_numberFrom_19 (by decide)) <| mm_c (sn_aload_n dX3_numberFrom_22 rfl) <| mm_c (sn_getR dX3_numberFrom_23 F_X3_9) <| mm_c (sn_iload_n dX3_numberFrom_26 rfl) <| mm_c (sn_iload_n dX3_numberFrom_27 rfl) <| mm_c (sn_aload_n dX3_numberFrom_28 rfl) <| mm_c (sn_getR dX3_numberFrom_29 F_X3_15) <| mm_c (sn_getR dX3_numberFrom_32 F_X3_95) <| mm_c (sn_iload_n dX3_numberFrom_35 rfl) <| mm_c (sn_iaload dX3_numberFrom_36) <| mm_c (sn_iadd dX3_numberFrom_37) <| mm_c (sn_iastore dX3_numberFrom_38) <| mm_c (sn_iinc dX3_numberFrom_39 (by decide) (by decide)) <| mm_c (sn_goto dX3_numberFrom_42 (by decide)) <| mm_c (sn_return dX3_numberFrom_45 rfl) <| mm_n
theorem F_X4_19 : mm_fok RX4 19 5 4 none := ⟨3, _, RX4, TX4, 7, rfl, rfl, rfl, by decide, mm_inTX4, mm_mem 102 (by decide +kernel) rfl⟩
theorem F_X4_19_w : mm_fw RX4 19 5 4 false := ⟨3, _, RX4, TX4, 7, tyX4, rfl, rfl, rfl, by decide, mm_inTX4, mm_mem 102 (by decide +kernel) rfl, tyX4_ok, nmX4, rfl, rfl⟩
theorem F_X4_23 : mm_fok RX4 23 5 5 none := ⟨3, _, RX4, TX4, 7, rfl, rfl, rfl, by decide, mm_inTX4, mm_mem 103 (by decide +kernel) rfl⟩
theorem F_X4_23_w : mm_fw RX4 23 5 5 false := ⟨3, _, RX4, TX4, 7, tyX4, rfl, rfl, rfl, by decide, mm_inTX4, mm_mem 103 (by decide +kernel) rfl, tyX4_ok, nmX4, rfl, rfl⟩
theorem F_X4_26 : mm_fok RX4 26 5 6 none := ⟨3, _, RX4, TX4, 7, rfl, rfl, rfl, by decide, mm_inTX4, mm_mem 104 (by decide +kernel) rfl⟩
theorem F_X4_26_w : mm_fw RX4 26 5 6 false := ⟨3, _, RX4, TX4, 7, tyX4, rfl, rfl, rfl, by decide, mm_inTX4, mm_mem 104 (by decide +kernel) rfl, tyX4_ok, nmX4, rfl, rfl⟩
theorem F_X4_29 : mm_fok RX4 29 5 1 none := ⟨3, _, RX4, TX4, 7, rfl, rfl, rfl, by decide, mm_inTX4, mm_mem 96 (by decide +kernel) rfl⟩
theorem F_X4_29_w : mm_fw RX4 29 5 1 false := ⟨3, _, RX4, TX4, 7, tyX4, rfl, rfl, rfl, by decide, mm_inTX4, mm_mem 96 (by decide +kernel) rfl, tyX4_ok, nmX4, rfl, rfl⟩
theorem F_X4_32 : mm_fok RX4 32 5 2 none := ⟨3, _, RX4, TX4, 7, rfl, rfl, rfl, by decide, mm_inTX4, mm_mem 98 (by decide +kernel) rfl⟩
theorem F_X4_32_w : mm_fw RX4 32 5 2 true := ⟨3, _, RX4, TX4, 7, tyX4, rfl, rfl, rfl, by decide, mm_inTX4, mm_mem 98 (by decide +kernel) rfl, tyX4_ok, nmX4, rfl, rfl⟩
def M4_place : mm_M := (yX4_place, cX4_place, 3, none)
theorem cw_4_place : Cond.code M4_place.1 M4_place.2.1 M4_place.2.2.1 M4_place.2.2.2 ∈ mm_tb := mm_mem 245 (by decide +kernel) rfl
theorem C_X4_36 : mm_cv RX4 36 M4_place 1 5 := ⟨mm_mem 242 (by decide +kernel) rfl, mm_mem 244 (by decide +kernel) rfl, mm_mem 0 (by decide +kernel) rfl, mm_mem 39 (by decide +kernel) rfl, cw_4_place, by decide +kernel, by decide, 3, _, _, _, rfl, rfl⟩
def P4_search (l : Launch) (d : Nat) (post : mm_Po) : List (Nat × mm_S) := [(0, se_aload 0 1), (1, se_iload 1 2), (2, se_put false 5 4 5), (5, se_aload 0 6), (6, se_iload 2 7), (7, se_put false 5 5 10), (10, se_aload 0 11), (11, se_iload 3 12), (12, se_put false 5 6 15), (15, se_aload 0 16), (16, se_int 0 17), (17, se_put false 5 1 20), (20, se_aload 0 21), (21, se_int 0 22), (22, se_put true 5 2 25), (25, se_aload 0 26), (26, se_int 0 27), (27, se_callV l d M4_place 1 5 30), (30, se_vret post)]
set_option maxRecDepth 100000 in
theorem S4_search (l : Launch) (d : Nat) (E : mm_X) (post : mm_Po) : ∀ q ∈ P4_search l d post, mm_Sn l d M4_search E post q := mm_c (sn_aload_n dX4_search_0 rfl) <| mm_c (sn_iload_n dX4_search_1 rfl) <| mm_c (sn_put dX4_search_2 F_X4_19_w) <| mm_c (sn_aload_n dX4_search_5 rfl) <| mm_c (sn_iload_n dX4_search_6 rfl) <| mm_c (sn_put dX4_search_7 F_X4_23_w) <| mm_c (sn_aload_n dX4_search_10 rfl) <| mm_c (sn_iload_n dX4_search_11 rfl) <| mm_c (sn_put dX4_search_12 F_X4_26_w) <| mm_c (sn_aload_n dX4_search_15 rfl) <| mm_c (sn_iconst dX4_search_16 (by decide)) <| mm_c (sn_put dX4_search_17 F_X4_29_w) <| mm_c (sn_aload_n dX4_search_20 rfl) <| mm_c (sn_iconst dX4_search_21 (by decide)) <| mm_c (sn_put dX4_search_22 F_X4_32_w) <| mm_c (sn_aload_n dX4_search_25 rfl) <| mm_c (sn_iconst dX4_search_26 (by decide)) <| mm_c (sn_callV dX4_search_27 C_X4_36) <| mm_c (sn_return dX4_search_30 rfl) <| mm_n
theorem F_X4_15 : mm_fok RX4 15 5 3 (some 1) := ⟨3, _, RX4, TX4, 7, rfl, rfl, rfl, by decide, mm_inTX4, mm_mem 101 (by decide +kernel) rfl⟩
theorem C_X4_40 : mm_cv RX4 40 M2_has 1 1 := ⟨mm_mem 246 (by decide +kernel) rfl, mm_mem 210 (by decide +kernel) rfl, mm_mem 211 (by decide +kernel) rfl, mm_mem 38 (by decide +kernel) rfl, cw_2_has, by decide +kernel, by decide, 1, _, _, _, rfl, rfl⟩
theorem C_X4_46 : mm_cs RX4 46 M0_suits 4 := ⟨mm_mem 247 (by decide +kernel) rfl, mm_mem 248 (by decide +kernel) rfl, mm_mem 44 (by decide +kernel) rfl, cw_0_suits, by decide +kernel, by decide⟩
theorem F_X4_9 : mm_fok RX4 9 5 0 (some 6) := ⟨3, _, RX4, TX4, 7, rfl, rfl, rfl, by decide, mm_inTX4, mm_mem 93 (by decide +kernel) rfl⟩
def M4_stillStands : mm_M := (yX4_stillStands, cX4_stillStands, 4, (some .boolean))
theorem cw_4_stillStands : Cond.code M4_stillStands.1 M4_stillStands.2.1 M4_stillStands.2.2.1 M4_stillStands.2.2.2 ∈ mm_tb := mm_mem 253 (by decide +kernel) rfl
theorem C_X4_52 : mm_cv RX4 52 M4_stillStands 1 5 := ⟨mm_mem 250 (by decide +kernel) rfl, mm_mem 252 (by decide +kernel) rfl, mm_mem 1 (by decide +kernel) rfl, mm_mem 39 (by decide +kernel) rfl, cw_4_stillStands, by decide +kernel, by decide, 3, _, _, _, rfl, rfl⟩
def P4_place (l : Launch) (d : Nat) (post : mm_Po) : List (Nat × mm_S) := [(0, se_aload 0 1), (1, se_getR 5 1 4), (4, se_iload 1 5), (5, se_callV l d M2_has 1 1 8), (8, se_if_ne 42 11), (11, se_aload 0 12), (12, se_aload 0 13), (13, se_getI 5 1 16), (16, se_aload 0 17), (17, se_getI 5 6 20), (20, se_icmp_ne 27 23), (23, se_int 1 24), (24, se_goto 28), (27, se_int 0 28), (28, se_put true 5 2 31), (31, se_aload 0 32), (32, se_dup 33), (33, se_getI 5 1 36), (36, se_int 1 37), (37, se_iadd 38), (38, se_put false 5 1 41), (41, se_vret post), (42, se_int 0 43), (43, se_istore 2 44), (44, se_iload 2 45), (45, se_aload 0 46), (46, se_getI 5 5 49), (49, se_icmp_ge 103 52), (52, se_aload 0 53), (53, se_getI 5 2 56), (56, se_if_ne 103 59), (59, se_aload 0 60), (60, se_getR 5 1 63), (63, se_aload 0 64), (64, se_getI 5 4 67), (67, se_iload 1 68), (68, se_iload 2 69), (69, se_callS l d M0_suits 4 72), (72, se_if_eq 97 75), (75, se_aload 0 76), (76, se_getR 5 6 79), (79, se_iload 1 80), (80, se_iload 2 81), (81, se_iastore 82), (82, se_aload 0 83), (83, se_iload 1 84), (84, se_callV l d M4_stillStands 1 5 87), (87, se_if_eq 97 90), (90, se_aload 0 91), (91, se_iload 1 92), (92, se_int 1 93), (93, se_iadd 94), (94, se_callV l d M4_place 1 5 97), (97, se_iinc 2 1 100), (100, se_goto 44), (103, se_vret post)]
set_option maxRecDepth 100000 in
theorem S4_place (l : Launch) (d : Nat) (E : mm_X) (post : mm_Po) : ∀ q ∈ P4_place l d post, mm_Sn l d M4_place E post q := mm_c (sn_aload_n dX4_place_0 rfl) <| mm_c (sn_getR dX4_place_1 F_X4_15) <| mm_c (sn_iload_n dX4_place_4 rfl) <| mm_c (sn_callV dX4_place_5 C_X4_40) <| mm_c (sn_if_ne dX4_place_8 (by decide)) <| mm_c (sn_aload_n dX4_place_11 rfl) <| mm_c (sn_aload_n dX4_place_12 rfl) <| mm_c (sn_getI dX4_place_13 F_X4_29) <| mm_c (sn_aload_n dX4_place_16 rfl) <| mm_c (sn_getI dX4_place_17 F_X4_26) <| mm_c (sn_icmp_ne dX4_place_20 (by decide)) <| mm_c (sn_iconst dX4_place_23 (by decide)) <| mm_c (sn_goto dX4_place_24 (by decide)) <| mm_c (sn_iconst dX4_place_27 (by decide)) <| mm_c (sn_put dX4_place_28 F_X4_32_w) <| mm_c (sn_aload_n dX4_place_31 rfl) <| mm_c (sn_dup dX4_place_32) <| mm_c (sn_getI dX4_place_33 F_X4_29) <| mm_c (sn_iconst dX4_place_36 (by decide)) <| mm_c (sn_iadd dX4_place_37) <| mm_c (sn_put dX4_place_38 F_X4_29_w) <| mm_c (sn_return dX4_place_41 rfl) <| mm_c (sn_iconst dX4_place_42 (by decide)) <| mm_c (sn_istore_n dX4_place_43 rfl (by decide)) <| mm_c (sn_iload_n dX4_place_44 rfl) <| mm_c (sn_aload_n dX4_place_45 rfl) <| mm_c (sn_getI dX4_place_46 F_X4_23) <| mm_c (sn_icmp_ge dX4_place_49 (by decide)) <| mm_c (sn_aload_n dX4_place_52 rfl) <| mm_c (sn_getI dX4_place_53 F_X4_32) <| mm_c (sn_if_ne dX4_place_56 (by decide)) <| mm_c (sn_aload_n dX4_place_59 rfl) <| mm_c (sn_getR dX4_place_60 F_X4_15) <| mm_c (sn_aload_n dX4_place_63 rfl) <| mm_c (sn_getI dX4_place_64 F_X4_19) <| mm_c (sn_iload_n dX4_place_67 rfl) <| mm_c (sn_iload_n dX4_place_68 rfl) <| mm_c (sn_callS dX4_place_69 C_X4_46) <| mm_c (sn_if_eq dX4_place_72 (by decide)) <| mm_c (sn_aload_n dX4_place_75 rfl) <| mm_c (sn_getR dX4_place_76 F_X4_9) <| mm_c (sn_iload_n dX4_place_79 rfl) <| mm_c (sn_iload_n dX4_place_80 rfl) <| mm_c (sn_iastore dX4_place_81) <| mm_c (sn_aload_n dX4_place_82 rfl) <| mm_c (sn_iload_n dX4_place_83 rfl) <| mm_c (sn_callV dX4_place_84 C_X4_52) <| mm_c (sn_if_eq dX4_place_87 (by decide)) <| mm_c (sn_aload_n dX4_place_90 rfl) <| mm_c (sn_iload_n dX4_place_91 rfl) <| mm_c (sn_iconst dX4_place_92 (by decide)) <| mm_c (sn_iadd dX4_place_93) <| mm_c (sn_callV dX4_place_94 C_X4_36) <| mm_c (sn_iinc dX4_place_97 (by decide) (by decide)) <| mm_c (sn_goto dX4_place_100 (by decide)) <| mm_c (sn_return dX4_place_103 rfl) <| mm_n
theorem F_X4_55 : mm_fok RX4 55 1 0 (some 2) := ⟨1, _, RX2, TX2, 4, rfl, rfl, rfl, by decide, mm_inTX2, mm_mem 63 (by decide +kernel) rfl⟩
theorem C_X4_58 : mm_cs RX4 58 M0_saysYes 4 := ⟨mm_mem 254 (by decide +kernel) rfl, mm_mem 255 (by decide +kernel) rfl, mm_mem 44 (by decide +kernel) rfl, cw_0_saysYes, by decide +kernel, by decide⟩
def P4_stillStands (l : Launch) (d : Nat) (post : mm_Po) : List (Nat × mm_S) := [(0, se_int 0 1), (1, se_istore 2 2), (2, se_iload 2 3), (3, se_iload 1 4), (4, se_icmp_gt 63 7), (7, se_aload 0 8), (8, se_getR 5 1 11), (11, se_getR 1 2 14), (14, se_iload 2 15), (15, se_iaload 16), (16, se_int 1 17), (17, se_iload 2 18), (18, se_ishl 19), (19, se_ior 20), (20, se_iload 1 21), (21, se_ishr 22), (22, se_int 1 23), (23, se_icmp_ne 30 26), (26, se_int 1 27), (27, se_goto 31), (30, se_int 0 31), (31, se_istore 3 32), (32, se_iload 3 33), (33, se_if_eq 57 36), (36, se_aload 0 37), (37, se_getR 5 1 40), (40, se_aload 0 41), (41, se_getI 5 4 44), (44, se_aload 0 45), (45, se_getR 5 6 48), (48, se_iload 2 49), (49, se_callS l d M0_saysYes 4 52), (52, se_if_ne 57 55), (55, se_int 0 56), (56, se_ret post true), (57, se_iinc 2 1 60), (60, se_goto 2), (63, se_int 1 64), (64, se_ret post true)]
set_option maxRecDepth 100000 in
theorem S4_stillStands (l : Launch) (d : Nat) (E : mm_X) (post : mm_Po) : ∀ q ∈ P4_stillStands l d post, mm_Sn l d M4_stillStands E post q := mm_c (sn_iconst dX4_stillStands_0 (by decide)) <| mm_c (sn_istore_n dX4_stillStands_1 rfl (by decide)) <| mm_c (sn_iload_n dX4_stillStands_2 rfl) <| mm_c (sn_iload_n dX4_stillStands_3 rfl) <| mm_c (sn_icmp_gt dX4_stillStands_4 (by decide)) <| mm_c (sn_aload_n dX4_stillStands_7 rfl) <| mm_c (sn_getR dX4_stillStands_8 F_X4_15) <| mm_c (sn_getR dX4_stillStands_11 F_X4_55) <| mm_c (sn_iload_n dX4_stillStands_14 rfl) <| mm_c (sn_iaload dX4_stillStands_15) <| mm_c (sn_iconst dX4_stillStands_16 (by decide)) <| mm_c (sn_iload_n dX4_stillStands_17 rfl) <| mm_c (sn_ishl dX4_stillStands_18) <| mm_c (sn_ior dX4_stillStands_19) <| mm_c (sn_iload_n dX4_stillStands_20 rfl) <| mm_c (sn_ishr dX4_stillStands_21) <| mm_c (sn_iconst dX4_stillStands_22 (by decide)) <| mm_c (sn_icmp_ne dX4_stillStands_23 (by decide)) <| mm_c (sn_iconst dX4_stillStands_26 (by decide)) <| mm_c (sn_goto dX4_stillStands_27 (by decide)) <| mm_c (sn_iconst dX4_stillStands_30 (by decide)) <| mm_c (sn_istore_n dX4_stillStands_31 rfl (by decide)) <| mm_c (sn_iload_n dX4_stillStands_32 rfl) <| mm_c (sn_if_eq dX4_stillStands_33 (by decide)) <| mm_c (sn_aload_n dX4_stillStands_36 rfl) <| mm_c (sn_getR dX4_stillStands_37 F_X4_15) <| mm_c (sn_aload_n dX4_stillStands_40 rfl) <| mm_c (sn_getI dX4_stillStands_41 F_X4_19) <| mm_c (sn_aload_n dX4_stillStands_44 rfl) <| mm_c (sn_getR dX4_stillStands_45 F_X4_9) <| mm_c (sn_iload_n dX4_stillStands_48 rfl) <| mm_c (sn_callS dX4_stillStands_49 C_X4_58) <| mm_c (sn_if_ne dX4_stillStands_52 (by decide)) <| mm_c (sn_iconst dX4_stillStands_55 (by decide)) <| mm_c (sn_zreturn dX4_stillStands_56 rfl) <| mm_c (sn_iinc dX4_stillStands_57 (by decide) (by decide)) <| mm_c (sn_goto dX4_stillStands_60 (by decide)) <| mm_c (sn_iconst dX4_stillStands_63 (by decide)) <| mm_c (sn_zreturn dX4_stillStands_64 rfl) <| mm_n
end
section
/-! ===== the methods as rows of the small machine; printed by a program ===== -/
theorem F_X5_10 : mm_fok RX5 10 0 0 (some 1) := ⟨4, _, RX5, TX5, 8, rfl, rfl, rfl, by decide, mm_inTX5, mm_mem 163 (by decide +kernel) rfl⟩
theorem C_X5_49 : mm_cv RX5 49 M2_clear 1 1 := ⟨mm_mem 192 (by decide +kernel) rfl, mm_mem 193 (by decide +kernel) rfl, mm_mem 194 (by decide +kernel) rfl, mm_mem 38 (by decide +kernel) rfl, cw_2_clear, by decide +kernel, by decide, 1, _, _, _, rfl, rfl⟩
theorem F_X5_37 : mm_fok RX5 37 0 3 (some 9) := ⟨4, _, RX5, TX5, 8, rfl, rfl, rfl, by decide, mm_inTX5, mm_mem 166 (by decide +kernel) rfl⟩
theorem C_X5_53 : mm_cv RX5 53 M1_clear 0 9 := ⟨mm_mem 199 (by decide +kernel) rfl, mm_mem 200 (by decide +kernel) rfl, mm_mem 201 (by decide +kernel) rfl, mm_mem 41 (by decide +kernel) rfl, cw_1_clear, by decide +kernel, by decide, 0, _, _, _, rfl, rfl⟩
theorem F_X5_41 : mm_fok RX5 41 0 4 (some 15) := ⟨4, _, RX5, TX5, 8, rfl, rfl, rfl, by decide, mm_inTX5, mm_mem 167 (by decide +kernel) rfl⟩
theorem C_X5_55 : mm_cs RX5 55 MJ_fill 2 := ⟨mm_mem 204 (by decide +kernel) rfl, mm_mem 197 (by decide +kernel) rfl, mm_mem 43 (by decide +kernel) rfl, cw_J_fill, by decide +kernel, by decide⟩
def M5_posts : mm_M := (yX5_posts, cX5_posts, 2, (some .int))
theorem cw_5_posts : Cond.code M5_posts.1 M5_posts.2.1 M5_posts.2.2.1 M5_posts.2.2.2 ∈ mm_tb := mm_mem 191 (by decide +kernel) rfl
def P5_posts (l : Launch) (d : Nat) (post : mm_Po) : List (Nat × mm_S) := [(0, se_iload 1 1), (1, se_int 1 2), (2, se_icmp_lt 11 5), (5, se_iload 1 6), (6, se_int 8 8), (8, se_icmp_le 14 11), (11, se_int (-102) 13), (13, se_ret post false), (14, se_aload 0 15), (15, se_getR 0 1 18), (18, se_iload 1 19), (19, se_callV l d M2_clear 1 1 22), (22, se_aload 0 23), (23, se_getR 0 9 26), (26, se_callV l d M1_clear 0 9 29), (29, se_aload 0 30), (30, se_getR 0 15 33), (33, se_int 0 34), (34, se_callS l d MJ_fill 2 37), (37, se_iload 1 38), (38, se_ret post false)]
set_option maxRecDepth 100000 in
theorem S5_posts (l : Launch) (d : Nat) (E : mm_X) (post : mm_Po) : ∀ q ∈ P5_posts l d post, mm_Sn l d M5_posts E post q := mm_c (sn_iload_n dX5_posts_0 rfl) <| mm_c (sn_iconst dX5_posts_1 (by decide)) <| mm_c (sn_icmp_lt dX5_posts_2 (by decide)) <| mm_c (sn_iload_n dX5_posts_5 rfl) <| mm_c (sn_bipush dX5_posts_6 (by decide)) <| mm_c (sn_icmp_le dX5_posts_8 (by decide)) <| mm_c (sn_bipush dX5_posts_11 (by decide)) <| mm_c (sn_ireturn dX5_posts_13 rfl) <| mm_c (sn_aload_n dX5_posts_14 rfl) <| mm_c (sn_getR dX5_posts_15 F_X5_10) <| mm_c (sn_iload_n dX5_posts_18 rfl) <| mm_c (sn_callV dX5_posts_19 C_X5_49) <| mm_c (sn_aload_n dX5_posts_22 rfl) <| mm_c (sn_getR dX5_posts_23 F_X5_37) <| mm_c (sn_callV dX5_posts_26 C_X5_53) <| mm_c (sn_aload_n dX5_posts_29 rfl) <| mm_c (sn_getR dX5_posts_30 F_X5_41) <| mm_c (sn_iconst dX5_posts_33 (by decide)) <| mm_c (sn_callS dX5_posts_34 C_X5_55) <| mm_c (sn_iload_n dX5_posts_37 rfl) <| mm_c (sn_ireturn dX5_posts_38 rfl) <| mm_n
theorem C_X5_61 : mm_cv RX5 61 M2_has 1 1 := ⟨mm_mem 209 (by decide +kernel) rfl, mm_mem 210 (by decide +kernel) rfl, mm_mem 211 (by decide +kernel) rfl, mm_mem 38 (by decide +kernel) rfl, cw_2_has, by decide +kernel, by decide, 1, _, _, _, rfl, rfl⟩
theorem C_X5_65 : mm_cv RX5 65 M2_joined 2 1 := ⟨mm_mem 213 (by decide +kernel) rfl, mm_mem 214 (by decide +kernel) rfl, mm_mem 215 (by decide +kernel) rfl, mm_mem 38 (by decide +kernel) rfl, cw_2_joined, by decide +kernel, by decide, 1, _, _, _, rfl, rfl⟩
theorem C_X5_69 : mm_cv RX5 69 M2_join 3 1 := ⟨mm_mem 217 (by decide +kernel) rfl, mm_mem 218 (by decide +kernel) rfl, mm_mem 219 (by decide +kernel) rfl, mm_mem 38 (by decide +kernel) rfl, cw_2_join, by decide +kernel, by decide, 1, _, _, _, rfl, rfl⟩
def M5_line : mm_M := (yX5_line, cX5_line, 5, (some .int))
theorem cw_5_line : Cond.code M5_line.1 M5_line.2.1 M5_line.2.2.1 M5_line.2.2.2 ∈ mm_tb := mm_mem 208 (by decide +kernel) rfl
def P5_line (l : Launch) (d : Nat) (post : mm_Po) : List (Nat × mm_S) := [(0, se_aload 0 1), (1, se_getR 0 1 4), (4, se_iload 1 5), (5, se_callV l d M2_has 1 1 8), (8, se_if_eq 22 11), (11, se_aload 0 12), (12, se_getR 0 1 15), (15, se_iload 2 16), (16, se_callV l d M2_has 1 1 19), (19, se_if_ne 25 22), (22, se_int (-101) 24), (24, se_ret post false), (25, se_iload 1 26), (26, se_iload 2 27), (27, se_icmp_ne 33 30), (30, se_int (-102) 32), (32, se_ret post false), (33, se_aload 0 34), (34, se_getR 0 1 37), (37, se_iload 1 38), (38, se_iload 2 39), (39, se_callV l d M2_joined 2 1 42), (42, se_istore 4 44), (44, se_aload 0 45), (45, se_getR 0 1 48), (48, se_iload 1 49), (49, se_iload 2 50), (50, se_iload 3 51), (51, se_callV l d M2_join 3 1 54), (54, se_iload 4 56), (56, se_ret post false)]
set_option maxRecDepth 100000 in
theorem S5_line (l : Launch) (d : Nat) (E : mm_X) (post : mm_Po) : ∀ q ∈ P5_line l d post, mm_Sn l d M5_line E post q := mm_c (sn_aload_n dX5_line_0 rfl) <| mm_c (sn_getR dX5_line_1 F_X5_10) <| mm_c (sn_iload_n dX5_line_4 rfl) <| mm_c (sn_callV dX5_line_5 C_X5_61) <| mm_c (sn_if_eq dX5_line_8 (by decide)) <| mm_c (sn_aload_n dX5_line_11 rfl) <| mm_c (sn_getR dX5_line_12 F_X5_10) <| mm_c (sn_iload_n dX5_line_15 rfl) <| mm_c (sn_callV dX5_line_16 C_X5_61) <| mm_c (sn_if_ne dX5_line_19 (by decide)) <| mm_c (sn_bipush dX5_line_22 (by decide)) <| mm_c (sn_ireturn dX5_line_24 rfl) <| mm_c (sn_iload_n dX5_line_25 rfl) <| mm_c (sn_iload_n dX5_line_26 rfl) <| mm_c (sn_icmp_ne dX5_line_27 (by decide)) <| mm_c (sn_bipush dX5_line_30 (by decide)) <| mm_c (sn_ireturn dX5_line_32 rfl) <| mm_c (sn_aload_n dX5_line_33 rfl) <| mm_c (sn_getR dX5_line_34 F_X5_10) <| mm_c (sn_iload_n dX5_line_37 rfl) <| mm_c (sn_iload_n dX5_line_38 rfl) <| mm_c (sn_callV dX5_line_39 C_X5_65) <| mm_c (sn_istore dX5_line_42 (by decide)) <| mm_c (sn_aload_n dX5_line_44 rfl) <| mm_c (sn_getR dX5_line_45 F_X5_10) <| mm_c (sn_iload_n dX5_line_48 rfl) <| mm_c (sn_iload_n dX5_line_49 rfl) <| mm_c (sn_iload_n dX5_line_50 rfl) <| mm_c (sn_callV dX5_line_51 C_X5_69) <| mm_c (sn_iload dX5_line_54) <| mm_c (sn_ireturn dX5_line_56 rfl) <| mm_n
theorem F_X5_73 : mm_fok RX5 73 1 1 (some 3) := ⟨1, _, RX2, TX2, 4, rfl, rfl, rfl, by decide, mm_inTX2, mm_mem 68 (by decide +kernel) rfl⟩
def M5_mark : mm_M := (yX5_mark, cX5_mark, 4, (some .int))
theorem cw_5_mark : Cond.code M5_mark.1 M5_mark.2.1 M5_mark.2.2.1 M5_mark.2.2.2 ∈ mm_tb := mm_mem 224 (by decide +kernel) rfl
def P5_mark (l : Launch) (d : Nat) (post : mm_Po) : List (Nat × mm_S) := [(0, se_aload 0 1), (1, se_getR 0 1 4), (4, se_iload 1 5), (5, se_callV l d M2_has 1 1 8), (8, se_if_ne 14 11), (11, se_int (-101) 13), (13, se_ret post false), (14, se_iload 2 15), (15, se_if_lt 23 18), (18, se_iload 2 19), (19, se_int 3 20), (20, se_icmp_le 26 23), (23, se_int (-102) 25), (25, se_ret post false), (26, se_aload 0 27), (27, se_getR 0 1 30), (30, se_getR 1 3 33), (33, se_iload 1 34), (34, se_iaload 35), (35, se_istore 3 36), (36, se_aload 0 37), (37, se_getR 0 1 40), (40, se_getR 1 3 43), (43, se_iload 1 44), (44, se_iload 2 45), (45, se_iastore 46), (46, se_iload 3 47), (47, se_ret post false)]
set_option maxRecDepth 100000 in
theorem S5_mark (l : Launch) (d : Nat) (E : mm_X) (post : mm_Po) : ∀ q ∈ P5_mark l d post, mm_Sn l d M5_mark E post q := mm_c (sn_aload_n dX5_mark_0 rfl) <| mm_c (sn_getR dX5_mark_1 F_X5_10) <| mm_c (sn_iload_n dX5_mark_4 rfl) <| mm_c (sn_callV dX5_mark_5 C_X5_61) <| mm_c (sn_if_ne dX5_mark_8 (by decide)) <| mm_c (sn_bipush dX5_mark_11 (by decide)) <| mm_c (sn_ireturn dX5_mark_13 rfl) <| mm_c (sn_iload_n dX5_mark_14 rfl) <| mm_c (sn_if_lt dX5_mark_15 (by decide)) <| mm_c (sn_iload_n dX5_mark_18 rfl) <| mm_c (sn_iconst dX5_mark_19 (by decide)) <| mm_c (sn_icmp_le dX5_mark_20 (by decide)) <| mm_c (sn_bipush dX5_mark_23 (by decide)) <| mm_c (sn_ireturn dX5_mark_25 rfl) <| mm_c (sn_aload_n dX5_mark_26 rfl) <| mm_c (sn_getR dX5_mark_27 F_X5_10) <| mm_c (sn_getR dX5_mark_30 F_X5_73) <| mm_c (sn_iload_n dX5_mark_33 rfl) <| mm_c (sn_iaload dX5_mark_34) <| mm_c (sn_istore_n dX5_mark_35 rfl (by decide)) <| mm_c (sn_aload_n dX5_mark_36 rfl) <| mm_c (sn_getR dX5_mark_37 F_X5_10) <| mm_c (sn_getR dX5_mark_40 F_X5_73) <| mm_c (sn_iload_n dX5_mark_43 rfl) <| mm_c (sn_iload_n dX5_mark_44 rfl) <| mm_c (sn_iastore dX5_mark_45) <| mm_c (sn_iload_n dX5_mark_46 rfl) <| mm_c (sn_ireturn dX5_mark_47 rfl) <| mm_n
theorem F_X5_45 : mm_fok RX5 45 0 5 none := ⟨4, _, RX5, TX5, 8, rfl, rfl, rfl, by decide, mm_inTX5, mm_mem 168 (by decide +kernel) rfl⟩
theorem F_X5_45_w : mm_fw RX5 45 0 5 false := ⟨4, _, RX5, TX5, 8, tyX5, rfl, rfl, rfl, by decide, mm_inTX5, mm_mem 168 (by decide +kernel) rfl, tyX5_ok, nmX5, rfl, rfl⟩
def M5_scheme : mm_M := (yX5_scheme, cX5_scheme, 3, (some .int))
theorem cw_5_scheme : Cond.code M5_scheme.1 M5_scheme.2.1 M5_scheme.2.2.1 M5_scheme.2.2.2 ∈ mm_tb := mm_mem 228 (by decide +kernel) rfl
def P5_scheme (l : Launch) (d : Nat) (post : mm_Po) : List (Nat × mm_S) := [(0, se_iload 1 1), (1, se_if_lt 9 4), (4, se_iload 1 5), (5, se_int 4 6), (6, se_icmp_le 12 9), (9, se_int (-102) 11), (11, se_ret post false), (12, se_aload 0 13), (13, se_getI 0 5 16), (16, se_istore 2 17), (17, se_aload 0 18), (18, se_iload 1 19), (19, se_put false 0 5 22), (22, se_iload 2 23), (23, se_ret post false)]
set_option maxRecDepth 100000 in
theorem S5_scheme (l : Launch) (d : Nat) (E : mm_X) (post : mm_Po) : ∀ q ∈ P5_scheme l d post, mm_Sn l d M5_scheme E post q := mm_c (sn_iload_n dX5_scheme_0 rfl) <| mm_c (sn_if_lt dX5_scheme_1 (by decide)) <| mm_c (sn_iload_n dX5_scheme_4 rfl) <| mm_c (sn_iconst dX5_scheme_5 (by decide)) <| mm_c (sn_icmp_le dX5_scheme_6 (by decide)) <| mm_c (sn_bipush dX5_scheme_9 (by decide)) <| mm_c (sn_ireturn dX5_scheme_11 rfl) <| mm_c (sn_aload_n dX5_scheme_12 rfl) <| mm_c (sn_getI dX5_scheme_13 F_X5_45) <| mm_c (sn_istore_n dX5_scheme_16 rfl (by decide)) <| mm_c (sn_aload_n dX5_scheme_17 rfl) <| mm_c (sn_iload_n dX5_scheme_18 rfl) <| mm_c (sn_put dX5_scheme_19 F_X5_45_w) <| mm_c (sn_iload_n dX5_scheme_22 rfl) <| mm_c (sn_ireturn dX5_scheme_23 rfl) <| mm_n
theorem F_X5_30 : mm_fok RX5 30 0 2 (some 7) := ⟨4, _, RX5, TX5, 8, rfl, rfl, rfl, by decide, mm_inTX5, mm_mem 165 (by decide +kernel) rfl⟩
theorem C_X5_76 : mm_cv RX5 76 M3_finds 1 7 := ⟨mm_mem 233 (by decide +kernel) rfl, mm_mem 234 (by decide +kernel) rfl, mm_mem 235 (by decide +kernel) rfl, mm_mem 40 (by decide +kernel) rfl, cw_3_finds, by decide +kernel, by decide, 2, _, _, _, rfl, rfl⟩
def M5_holds : mm_M := (yX5_holds, cX5_holds, 1, (some .int))
theorem cw_5_holds : Cond.code M5_holds.1 M5_holds.2.1 M5_holds.2.2.1 M5_holds.2.2.2 ∈ mm_tb := mm_mem 232 (by decide +kernel) rfl
def P5_holds (l : Launch) (d : Nat) (post : mm_Po) : List (Nat × mm_S) := [(0, se_aload 0 1), (1, se_getR 0 7 4), (4, se_aload 0 5), (5, se_getI 0 5 8), (8, se_callV l d M3_finds 1 7 11), (11, se_if_eq 18 14), (14, se_int 1 15), (15, se_goto 19), (18, se_int 0 19), (19, se_ret post false)]
set_option maxRecDepth 100000 in
theorem S5_holds (l : Launch) (d : Nat) (E : mm_X) (post : mm_Po) : ∀ q ∈ P5_holds l d post, mm_Sn l d M5_holds E post q := mm_c (sn_aload_n dX5_holds_0 rfl) <| mm_c (sn_getR dX5_holds_1 F_X5_30) <| mm_c (sn_aload_n dX5_holds_4 rfl) <| mm_c (sn_getI dX5_holds_5 F_X5_45) <| mm_c (sn_callV dX5_holds_8 C_X5_76) <| mm_c (sn_if_eq dX5_holds_11 (by decide)) <| mm_c (sn_iconst dX5_holds_14 (by decide)) <| mm_c (sn_goto dX5_holds_15 (by decide)) <| mm_c (sn_iconst dX5_holds_18 (by decide)) <| mm_c (sn_ireturn dX5_holds_19 rfl) <| mm_n
theorem C_X5_79 : mm_cv RX5 79 M2_setCount 0 1 := ⟨mm_mem 322 (by decide +kernel) rfl, mm_mem 323 (by decide +kernel) rfl, mm_mem 324 (by decide +kernel) rfl, mm_mem 38 (by decide +kernel) rfl, cw_2_setCount, by decide +kernel, by decide, 1, _, _, _, rfl, rfl⟩
def M5_sets : mm_M := (yX5_sets, cX5_sets, 1, (some .int))
theorem cw_5_sets : Cond.code M5_sets.1 M5_sets.2.1 M5_sets.2.2.1 M5_sets.2.2.2 ∈ mm_tb := mm_mem 321 (by decide +kernel) rfl
def P5_sets (l : Launch) (d : Nat) (post : mm_Po) : List (Nat × mm_S) := [(0, se_aload 0 1), (1, se_getR 0 1 4), (4, se_callV l d M2_setCount 0 1 7), (7, se_ret post false)]
set_option maxRecDepth 100000 in
theorem S5_sets (l : Launch) (d : Nat) (E : mm_X) (post : mm_Po) : ∀ q ∈ P5_sets l d post, mm_Sn l d M5_sets E post q := mm_c (sn_aload_n dX5_sets_0 rfl) <| mm_c (sn_getR dX5_sets_1 F_X5_10) <| mm_c (sn_callV dX5_sets_4 C_X5_79) <| mm_c (sn_ireturn dX5_sets_7 rfl) <| mm_n
theorem C_X5_83 : mm_cv RX5 83 M2_measure 1 1 := ⟨mm_mem 332 (by decide +kernel) rfl, mm_mem 289 (by decide +kernel) rfl, mm_mem 290 (by decide +kernel) rfl, mm_mem 38 (by decide +kernel) rfl, cw_2_measure, by decide +kernel, by decide, 1, _, _, _, rfl, rfl⟩
theorem F_X5_87 : mm_fok RX5 87 1 2 (some 4) := ⟨1, _, RX2, TX2, 4, rfl, rfl, rfl, by decide, mm_inTX2, mm_mem 71 (by decide +kernel) rfl⟩
def M5_far : mm_M := (yX5_far, cX5_far, 3, (some .int))
theorem cw_5_far : Cond.code M5_far.1 M5_far.2.1 M5_far.2.2.1 M5_far.2.2.2 ∈ mm_tb := mm_mem 331 (by decide +kernel) rfl
def P5_far (l : Launch) (d : Nat) (post : mm_Po) : List (Nat × mm_S) := [(0, se_aload 0 1), (1, se_getR 0 1 4), (4, se_iload 1 5), (5, se_callV l d M2_has 1 1 8), (8, se_if_eq 22 11), (11, se_aload 0 12), (12, se_getR 0 1 15), (15, se_iload 2 16), (16, se_callV l d M2_has 1 1 19), (19, se_if_ne 25 22), (22, se_int (-101) 24), (24, se_ret post false), (25, se_aload 0 26), (26, se_getR 0 1 29), (29, se_iload 1 30), (30, se_callV l d M2_measure 1 1 33), (33, se_pop 34), (34, se_aload 0 35), (35, se_getR 0 1 38), (38, se_getR 1 4 41), (41, se_iload 2 42), (42, se_iaload 43), (43, se_ret post false)]
set_option maxRecDepth 100000 in
theorem S5_far (l : Launch) (d : Nat) (E : mm_X) (post : mm_Po) : ∀ q ∈ P5_far l d post, mm_Sn l d M5_far E post q := mm_c (sn_aload_n dX5_far_0 rfl) <| mm_c (sn_getR dX5_far_1 F_X5_10) <| mm_c (sn_iload_n dX5_far_4 rfl) <| mm_c (sn_callV dX5_far_5 C_X5_61) <| mm_c (sn_if_eq dX5_far_8 (by decide)) <| mm_c (sn_aload_n dX5_far_11 rfl) <| mm_c (sn_getR dX5_far_12 F_X5_10) <| mm_c (sn_iload_n dX5_far_15 rfl) <| mm_c (sn_callV dX5_far_16 C_X5_61) <| mm_c (sn_if_ne dX5_far_19 (by decide)) <| mm_c (sn_bipush dX5_far_22 (by decide)) <| mm_c (sn_ireturn dX5_far_24 rfl) <| mm_c (sn_aload_n dX5_far_25 rfl) <| mm_c (sn_getR dX5_far_26 F_X5_10) <| mm_c (sn_iload_n dX5_far_29 rfl) <| mm_c (sn_callV dX5_far_30 C_X5_83) <| mm_c (sn_pop dX5_far_33) <| mm_c (sn_aload_n dX5_far_34 rfl) <| mm_c (sn_getR dX5_far_35 F_X5_10) <| mm_c (sn_getR dX5_far_38 F_X5_87) <| mm_c (sn_iload_n dX5_far_41 rfl) <| mm_c (sn_iaload dX5_far_42) <| mm_c (sn_ireturn dX5_far_43 rfl) <| mm_n
def M5_proof : mm_M := (yX5_proof, cX5_proof, 4, (some .int))
theorem cw_5_proof : Cond.code M5_proof.1 M5_proof.2.1 M5_proof.2.2.1 M5_proof.2.2.2 ∈ mm_tb := mm_mem 336 (by decide +kernel) rfl
def P5_proof (l : Launch) (d : Nat) (post : mm_Po) : List (Nat × mm_S) := [(0, se_aload 0 1), (1, se_getR 0 1 4), (4, se_iload 1 5), (5, se_callV l d M2_has 1 1 8), (8, se_if_ne 14 11), (11, se_int (-101) 13), (13, se_ret post false), (14, se_iload 2 15), (15, se_if_lt 24 18), (18, se_iload 2 19), (19, se_int 63 21), (21, se_icmp_le 27 24), (24, se_int (-102) 26), (26, se_ret post false), (27, se_aload 0 28), (28, se_getR 0 15 31), (31, se_iload 1 32), (32, se_iaload 33), (33, se_istore 3 34), (34, se_aload 0 35), (35, se_getR 0 15 38), (38, se_iload 1 39), (39, se_iload 2 40), (40, se_iastore 41), (41, se_iload 3 42), (42, se_ret post false)]
set_option maxRecDepth 100000 in
theorem S5_proof (l : Launch) (d : Nat) (E : mm_X) (post : mm_Po) : ∀ q ∈ P5_proof l d post, mm_Sn l d M5_proof E post q := mm_c (sn_aload_n dX5_proof_0 rfl) <| mm_c (sn_getR dX5_proof_1 F_X5_10) <| mm_c (sn_iload_n dX5_proof_4 rfl) <| mm_c (sn_callV dX5_proof_5 C_X5_61) <| mm_c (sn_if_ne dX5_proof_8 (by decide)) <| mm_c (sn_bipush dX5_proof_11 (by decide)) <| mm_c (sn_ireturn dX5_proof_13 rfl) <| mm_c (sn_iload_n dX5_proof_14 rfl) <| mm_c (sn_if_lt dX5_proof_15 (by decide)) <| mm_c (sn_iload_n dX5_proof_18 rfl) <| mm_c (sn_bipush dX5_proof_19 (by decide)) <| mm_c (sn_icmp_le dX5_proof_21 (by decide)) <| mm_c (sn_bipush dX5_proof_24 (by decide)) <| mm_c (sn_ireturn dX5_proof_26 rfl) <| mm_c (sn_aload_n dX5_proof_27 rfl) <| mm_c (sn_getR dX5_proof_28 F_X5_41) <| mm_c (sn_iload_n dX5_proof_31 rfl) <| mm_c (sn_iaload dX5_proof_32) <| mm_c (sn_istore_n dX5_proof_33 rfl (by decide)) <| mm_c (sn_aload_n dX5_proof_34 rfl) <| mm_c (sn_getR dX5_proof_35 F_X5_41) <| mm_c (sn_iload_n dX5_proof_38 rfl) <| mm_c (sn_iload_n dX5_proof_39 rfl) <| mm_c (sn_iastore dX5_proof_40) <| mm_c (sn_iload_n dX5_proof_41 rfl) <| mm_c (sn_ireturn dX5_proof_42 rfl) <| mm_n
theorem C_X5_90 : mm_cs RX5 90 M0_saysYes 4 := ⟨mm_mem 341 (by decide +kernel) rfl, mm_mem 255 (by decide +kernel) rfl, mm_mem 44 (by decide +kernel) rfl, cw_0_saysYes, by decide +kernel, by decide⟩
def M5_accepts : mm_M := (yX5_accepts, cX5_accepts, 2, (some .int))
theorem cw_5_accepts : Cond.code M5_accepts.1 M5_accepts.2.1 M5_accepts.2.2.1 M5_accepts.2.2.2 ∈ mm_tb := mm_mem 340 (by decide +kernel) rfl
def P5_accepts (l : Launch) (d : Nat) (post : mm_Po) : List (Nat × mm_S) := [(0, se_aload 0 1), (1, se_getR 0 1 4), (4, se_iload 1 5), (5, se_callV l d M2_has 1 1 8), (8, se_if_ne 14 11), (11, se_int (-101) 13), (13, se_ret post false), (14, se_aload 0 15), (15, se_getR 0 1 18), (18, se_aload 0 19), (19, se_getI 0 5 22), (22, se_aload 0 23), (23, se_getR 0 15 26), (26, se_iload 1 27), (27, se_callS l d M0_saysYes 4 30), (30, se_if_eq 37 33), (33, se_int 1 34), (34, se_goto 38), (37, se_int 0 38), (38, se_ret post false)]
set_option maxRecDepth 100000 in
theorem S5_accepts (l : Launch) (d : Nat) (E : mm_X) (post : mm_Po) : ∀ q ∈ P5_accepts l d post, mm_Sn l d M5_accepts E post q := mm_c (sn_aload_n dX5_accepts_0 rfl) <| mm_c (sn_getR dX5_accepts_1 F_X5_10) <| mm_c (sn_iload_n dX5_accepts_4 rfl) <| mm_c (sn_callV dX5_accepts_5 C_X5_61) <| mm_c (sn_if_ne dX5_accepts_8 (by decide)) <| mm_c (sn_bipush dX5_accepts_11 (by decide)) <| mm_c (sn_ireturn dX5_accepts_13 rfl) <| mm_c (sn_aload_n dX5_accepts_14 rfl) <| mm_c (sn_getR dX5_accepts_15 F_X5_10) <| mm_c (sn_aload_n dX5_accepts_18 rfl) <| mm_c (sn_getI dX5_accepts_19 F_X5_45) <| mm_c (sn_aload_n dX5_accepts_22 rfl) <| mm_c (sn_getR dX5_accepts_23 F_X5_41) <| mm_c (sn_iload_n dX5_accepts_26 rfl) <| mm_c (sn_callS dX5_accepts_27 C_X5_90) <| mm_c (sn_if_eq dX5_accepts_30 (by decide)) <| mm_c (sn_iconst dX5_accepts_33 (by decide)) <| mm_c (sn_goto dX5_accepts_34 (by decide)) <| mm_c (sn_iconst dX5_accepts_37 (by decide)) <| mm_c (sn_ireturn dX5_accepts_38 rfl) <| mm_n
theorem F_X5_96 : mm_fok RX5 96 1 3 none := ⟨1, _, RX2, TX2, 4, rfl, rfl, rfl, by decide, mm_inTX2, mm_mem 76 (by decide +kernel) rfl⟩
theorem F_X5_96_w : mm_fw RX5 96 1 3 false := ⟨1, _, RX2, TX2, 4, tyX2, rfl, rfl, rfl, by decide, mm_inTX2, mm_mem 76 (by decide +kernel) rfl, tyX2_ok, nmX2, rfl, rfl⟩
def M5_against : mm_M := (yX5_against, cX5_against, 3, (some .int))
theorem cw_5_against : Cond.code M5_against.1 M5_against.2.1 M5_against.2.2.1 M5_against.2.2.2 ∈ mm_tb := mm_mem 345 (by decide +kernel) rfl
def P5_against (l : Launch) (d : Nat) (post : mm_Po) : List (Nat × mm_S) := [(0, se_int 0 1), (1, se_istore 1 2), (2, se_int 0 3), (3, se_istore 2 4), (4, se_iload 2 5), (5, se_aload 0 6), (6, se_getR 0 1 9), (9, se_getI 1 3 12), (12, se_icmp_ge 46 15), (15, se_aload 0 16), (16, se_getR 0 1 19), (19, se_aload 0 20), (20, se_getI 0 5 23), (23, se_aload 0 24), (24, se_getR 0 15 27), (27, se_iload 2 28), (28, se_callS l d M0_saysYes 4 31), (31, se_if_ne 40 34), (34, se_iload 1 35), (35, se_int 1 36), (36, se_iload 2 37), (37, se_ishl 38), (38, se_ior 39), (39, se_istore 1 40), (40, se_iinc 2 1 43), (43, se_goto 4), (46, se_iload 1 47), (47, se_ret post false)]
set_option maxRecDepth 100000 in
theorem S5_against (l : Launch) (d : Nat) (E : mm_X) (post : mm_Po) : ∀ q ∈ P5_against l d post, mm_Sn l d M5_against E post q := mm_c (sn_iconst dX5_against_0 (by decide)) <| mm_c (sn_istore_n dX5_against_1 rfl (by decide)) <| mm_c (sn_iconst dX5_against_2 (by decide)) <| mm_c (sn_istore_n dX5_against_3 rfl (by decide)) <| mm_c (sn_iload_n dX5_against_4 rfl) <| mm_c (sn_aload_n dX5_against_5 rfl) <| mm_c (sn_getR dX5_against_6 F_X5_10) <| mm_c (sn_getI dX5_against_9 F_X5_96) <| mm_c (sn_icmp_ge dX5_against_12 (by decide)) <| mm_c (sn_aload_n dX5_against_15 rfl) <| mm_c (sn_getR dX5_against_16 F_X5_10) <| mm_c (sn_aload_n dX5_against_19 rfl) <| mm_c (sn_getI dX5_against_20 F_X5_45) <| mm_c (sn_aload_n dX5_against_23 rfl) <| mm_c (sn_getR dX5_against_24 F_X5_41) <| mm_c (sn_iload_n dX5_against_27 rfl) <| mm_c (sn_callS dX5_against_28 C_X5_90) <| mm_c (sn_if_ne dX5_against_31 (by decide)) <| mm_c (sn_iload_n dX5_against_34 rfl) <| mm_c (sn_iconst dX5_against_35 (by decide)) <| mm_c (sn_iload_n dX5_against_36 rfl) <| mm_c (sn_ishl dX5_against_37) <| mm_c (sn_ior dX5_against_38) <| mm_c (sn_istore_n dX5_against_39 rfl (by decide)) <| mm_c (sn_iinc dX5_against_40 (by decide) (by decide)) <| mm_c (sn_goto dX5_against_43 (by decide)) <| mm_c (sn_iload_n dX5_against_46 rfl) <| mm_c (sn_ireturn dX5_against_47 rfl) <| mm_n
theorem F_X5_99 : mm_fok RX5 99 7 0 (some 8) := ⟨2, _, RX3, TX3, 3, rfl, rfl, rfl, by decide, mm_inTX3, mm_mem 127 (by decide +kernel) rfl⟩
def M5_prove : mm_M := (yX5_prove, cX5_prove, 1, (some .int))
theorem cw_5_prove : Cond.code M5_prove.1 M5_prove.2.1 M5_prove.2.2.1 M5_prove.2.2.2 ∈ mm_tb := mm_mem 349 (by decide +kernel) rfl
def P5_prove (l : Launch) (d : Nat) (post : mm_Po) : List (Nat × mm_S) := [(0, se_aload 0 1), (1, se_getR 0 7 4), (4, se_aload 0 5), (5, se_getI 0 5 8), (8, se_callV l d M3_finds 1 7 11), (11, se_if_ne 16 14), (14, se_int 0 15), (15, se_ret post false), (16, se_aload 0 17), (17, se_getR 0 7 20), (20, se_getR 7 8 23), (23, se_int 0 24), (24, se_aload 0 25), (25, se_getR 0 15 28), (28, se_int 0 29), (29, se_aload 0 30), (30, se_getR 0 1 33), (33, se_getI 1 3 36), (36, se_copy d 39), (39, se_int 1 40), (40, se_ret post false)]
set_option maxRecDepth 100000 in
theorem S5_prove (l : Launch) (d : Nat) (E : mm_X) (post : mm_Po) : ∀ q ∈ P5_prove l d post, mm_Sn l d M5_prove E post q := mm_c (sn_aload_n dX5_prove_0 rfl) <| mm_c (sn_getR dX5_prove_1 F_X5_30) <| mm_c (sn_aload_n dX5_prove_4 rfl) <| mm_c (sn_getI dX5_prove_5 F_X5_45) <| mm_c (sn_callV dX5_prove_8 C_X5_76) <| mm_c (sn_if_ne dX5_prove_11 (by decide)) <| mm_c (sn_iconst dX5_prove_14 (by decide)) <| mm_c (sn_ireturn dX5_prove_15 rfl) <| mm_c (sn_aload_n dX5_prove_16 rfl) <| mm_c (sn_getR dX5_prove_17 F_X5_30) <| mm_c (sn_getR dX5_prove_20 F_X5_99) <| mm_c (sn_iconst dX5_prove_23 (by decide)) <| mm_c (sn_aload_n dX5_prove_24 rfl) <| mm_c (sn_getR dX5_prove_25 F_X5_41) <| mm_c (sn_iconst dX5_prove_28 (by decide)) <| mm_c (sn_aload_n dX5_prove_29 rfl) <| mm_c (sn_getR dX5_prove_30 F_X5_10) <| mm_c (sn_getI dX5_prove_33 F_X5_96) <| mm_c (sn_copy dX5_prove_36 (mm_mem 350 (by decide +kernel) rfl) (mm_mem 282 (by decide +kernel) rfl) (mm_mem 281 (by decide +kernel) rfl) (mm_mem 46 (by decide +kernel) rfl)) <| mm_c (sn_iconst dX5_prove_39 (by decide)) <| mm_c (sn_ireturn dX5_prove_40 rfl) <| mm_n
def M5_tryRefusal : mm_M := (yX5_tryRefusal, cX5_tryRefusal, 2, (some .int))
theorem cw_5_tryRefusal : Cond.code M5_tryRefusal.1 M5_tryRefusal.2.1 M5_tryRefusal.2.2.1 M5_tryRefusal.2.2.2 ∈ mm_tb := mm_mem 358 (by decide +kernel) rfl
theorem C_X5_108 : mm_cv RX5 108 M5_tryRefusal 1 0 := ⟨mm_mem 355 (by decide +kernel) rfl, mm_mem 357 (by decide +kernel) rfl, mm_mem 7 (by decide +kernel) rfl, mm_mem 37 (by decide +kernel) rfl, cw_5_tryRefusal, by decide +kernel, by decide, 4, _, _, _, rfl, rfl⟩
theorem F_X5_111 : mm_fok RX5 111 0 6 none := ⟨4, _, RX5, TX5, 8, rfl, rfl, rfl, by decide, mm_inTX5, mm_mem 169 (by decide +kernel) rfl⟩
theorem F_X5_111_w : mm_fw RX5 111 0 6 false := ⟨4, _, RX5, TX5, 8, tyX5, rfl, rfl, rfl, by decide, mm_inTX5, mm_mem 169 (by decide +kernel) rfl, tyX5_ok, nmX5, rfl, rfl⟩
theorem F_X5_21 : mm_fok RX5 21 0 1 (some 5) := ⟨4, _, RX5, TX5, 8, rfl, rfl, rfl, by decide, mm_inTX5, mm_mem 164 (by decide +kernel) rfl⟩
theorem C_X5_114 : mm_cv RX5 114 M4_search 3 5 := ⟨mm_mem 363 (by decide +kernel) rfl, mm_mem 239 (by decide +kernel) rfl, mm_mem 240 (by decide +kernel) rfl, mm_mem 39 (by decide +kernel) rfl, cw_4_search, by decide +kernel, by decide, 3, _, _, _, rfl, rfl⟩
theorem F_X5_118 : mm_fok RX5 118 5 1 none := ⟨3, _, RX4, TX4, 7, rfl, rfl, rfl, by decide, mm_inTX4, mm_mem 97 (by decide +kernel) rfl⟩
theorem F_X5_118_w : mm_fw RX5 118 5 1 false := ⟨3, _, RX4, TX4, 7, tyX4, rfl, rfl, rfl, by decide, mm_inTX4, mm_mem 97 (by decide +kernel) rfl, tyX4_ok, nmX4, rfl, rfl⟩
def M5_tryAll : mm_M := (yX5_tryAll, cX5_tryAll, 3, (some .int))
theorem cw_5_tryAll : Cond.code M5_tryAll.1 M5_tryAll.2.1 M5_tryAll.2.2.1 M5_tryAll.2.2.2 ∈ mm_tb := mm_mem 354 (by decide +kernel) rfl
def P5_tryAll (l : Launch) (d : Nat) (post : mm_Po) : List (Nat × mm_S) := [(0, se_aload 0 1), (1, se_iload 1 2), (2, se_callV l d M5_tryRefusal 1 0 5), (5, se_istore 2 6), (6, se_iload 2 7), (7, se_if_eq 12 10), (10, se_iload 2 11), (11, se_ret post false), (12, se_aload 0 13), (13, se_dup 14), (14, se_getI 0 6 17), (17, se_int 1 18), (18, se_iadd 19), (19, se_put false 0 6 22), (22, se_aload 0 23), (23, se_getR 0 5 26), (26, se_aload 0 27), (27, se_getI 0 5 30), (30, se_iload 1 31), (31, se_int (-1) 32), (32, se_callV l d M4_search 3 5 35), (35, se_aload 0 36), (36, se_getR 0 5 39), (39, se_getI 5 1 42), (42, se_ret post false)]
set_option maxRecDepth 100000 in
theorem S5_tryAll (l : Launch) (d : Nat) (E : mm_X) (post : mm_Po) : ∀ q ∈ P5_tryAll l d post, mm_Sn l d M5_tryAll E post q := mm_c (sn_aload_n dX5_tryAll_0 rfl) <| mm_c (sn_iload_n dX5_tryAll_1 rfl) <| mm_c (sn_callV dX5_tryAll_2 C_X5_108) <| mm_c (sn_istore_n dX5_tryAll_5 rfl (by decide)) <| mm_c (sn_iload_n dX5_tryAll_6 rfl) <| mm_c (sn_if_eq dX5_tryAll_7 (by decide)) <| mm_c (sn_iload_n dX5_tryAll_10 rfl) <| mm_c (sn_ireturn dX5_tryAll_11 rfl) <| mm_c (sn_aload_n dX5_tryAll_12 rfl) <| mm_c (sn_dup dX5_tryAll_13) <| mm_c (sn_getI dX5_tryAll_14 F_X5_111) <| mm_c (sn_iconst dX5_tryAll_17 (by decide)) <| mm_c (sn_iadd dX5_tryAll_18) <| mm_c (sn_put dX5_tryAll_19 F_X5_111_w) <| mm_c (sn_aload_n dX5_tryAll_22 rfl) <| mm_c (sn_getR dX5_tryAll_23 F_X5_21) <| mm_c (sn_aload_n dX5_tryAll_26 rfl) <| mm_c (sn_getI dX5_tryAll_27 F_X5_45) <| mm_c (sn_iload_n dX5_tryAll_30 rfl) <| mm_c (sn_iconst dX5_tryAll_31 (by decide)) <| mm_c (sn_callV dX5_tryAll_32 C_X5_114) <| mm_c (sn_aload_n dX5_tryAll_35 rfl) <| mm_c (sn_getR dX5_tryAll_36 F_X5_21) <| mm_c (sn_getI dX5_tryAll_39 F_X5_118) <| mm_c (sn_ireturn dX5_tryAll_42 rfl) <| mm_n
theorem F_X5_121 : mm_fok RX5 121 5 2 none := ⟨3, _, RX4, TX4, 7, rfl, rfl, rfl, by decide, mm_inTX4, mm_mem 100 (by decide +kernel) rfl⟩
theorem F_X5_121_w : mm_fw RX5 121 5 2 true := ⟨3, _, RX4, TX4, 7, tyX4, rfl, rfl, rfl, by decide, mm_inTX4, mm_mem 100 (by decide +kernel) rfl, tyX4_ok, nmX4, rfl, rfl⟩
theorem F_X5_125 : mm_fok RX5 125 5 0 (some 6) := ⟨3, _, RX4, TX4, 7, rfl, rfl, rfl, by decide, mm_inTX4, mm_mem 95 (by decide +kernel) rfl⟩
def M5_attempt : mm_M := (yX5_attempt, cX5_attempt, 4, (some .int))
theorem cw_5_attempt : Cond.code M5_attempt.1 M5_attempt.2.1 M5_attempt.2.2.1 M5_attempt.2.2.2 ∈ mm_tb := mm_mem 367 (by decide +kernel) rfl
def P5_attempt (l : Launch) (d : Nat) (post : mm_Po) : List (Nat × mm_S) := [(0, se_aload 0 1), (1, se_iload 1 2), (2, se_callV l d M5_tryRefusal 1 0 5), (5, se_istore 3 6), (6, se_iload 3 7), (7, se_if_eq 12 10), (10, se_iload 3 11), (11, se_ret post false), (12, se_aload 0 13), (13, se_dup 14), (14, se_getI 0 6 17), (17, se_int 1 18), (18, se_iadd 19), (19, se_put false 0 6 22), (22, se_aload 0 23), (23, se_getR 0 5 26), (26, se_aload 0 27), (27, se_getI 0 5 30), (30, se_iload 1 31), (31, se_iload 2 32), (32, se_callV l d M4_search 3 5 35), (35, se_aload 0 36), (36, se_getR 0 5 39), (39, se_getI 5 2 42), (42, se_if_ne 47 45), (45, se_int (-1) 46), (46, se_ret post false), (47, se_aload 0 48), (48, se_getR 0 5 51), (51, se_getR 5 6 54), (54, se_int 0 55), (55, se_aload 0 56), (56, se_getR 0 15 59), (59, se_int 0 60), (60, se_aload 0 61), (61, se_getR 0 1 64), (64, se_getI 1 3 67), (67, se_copy d 70), (70, se_int 1 71), (71, se_ret post false)]
set_option maxRecDepth 100000 in
theorem S5_attempt (l : Launch) (d : Nat) (E : mm_X) (post : mm_Po) : ∀ q ∈ P5_attempt l d post, mm_Sn l d M5_attempt E post q := mm_c (sn_aload_n dX5_attempt_0 rfl) <| mm_c (sn_iload_n dX5_attempt_1 rfl) <| mm_c (sn_callV dX5_attempt_2 C_X5_108) <| mm_c (sn_istore_n dX5_attempt_5 rfl (by decide)) <| mm_c (sn_iload_n dX5_attempt_6 rfl) <| mm_c (sn_if_eq dX5_attempt_7 (by decide)) <| mm_c (sn_iload_n dX5_attempt_10 rfl) <| mm_c (sn_ireturn dX5_attempt_11 rfl) <| mm_c (sn_aload_n dX5_attempt_12 rfl) <| mm_c (sn_dup dX5_attempt_13) <| mm_c (sn_getI dX5_attempt_14 F_X5_111) <| mm_c (sn_iconst dX5_attempt_17 (by decide)) <| mm_c (sn_iadd dX5_attempt_18) <| mm_c (sn_put dX5_attempt_19 F_X5_111_w) <| mm_c (sn_aload_n dX5_attempt_22 rfl) <| mm_c (sn_getR dX5_attempt_23 F_X5_21) <| mm_c (sn_aload_n dX5_attempt_26 rfl) <| mm_c (sn_getI dX5_attempt_27 F_X5_45) <| mm_c (sn_iload_n dX5_attempt_30 rfl) <| mm_c (sn_iload_n dX5_attempt_31 rfl) <| mm_c (sn_callV dX5_attempt_32 C_X5_114) <| mm_c (sn_aload_n dX5_attempt_35 rfl) <| mm_c (sn_getR dX5_attempt_36 F_X5_21) <| mm_c (sn_getI dX5_attempt_39 F_X5_121) <| mm_c (sn_if_ne dX5_attempt_42 (by decide)) <| mm_c (sn_iconst dX5_attempt_45 (by decide)) <| mm_c (sn_ireturn dX5_attempt_46 rfl) <| mm_c (sn_aload_n dX5_attempt_47 rfl) <| mm_c (sn_getR dX5_attempt_48 F_X5_21) <| mm_c (sn_getR dX5_attempt_51 F_X5_125) <| mm_c (sn_iconst dX5_attempt_54 (by decide)) <| mm_c (sn_aload_n dX5_attempt_55 rfl) <| mm_c (sn_getR dX5_attempt_56 F_X5_41) <| mm_c (sn_iconst dX5_attempt_59 (by decide)) <| mm_c (sn_aload_n dX5_attempt_60 rfl) <| mm_c (sn_getR dX5_attempt_61 F_X5_10) <| mm_c (sn_getI dX5_attempt_64 F_X5_96) <| mm_c (sn_copy dX5_attempt_67 (mm_mem 350 (by decide +kernel) rfl) (mm_mem 282 (by decide +kernel) rfl) (mm_mem 281 (by decide +kernel) rfl) (mm_mem 46 (by decide +kernel) rfl)) <| mm_c (sn_iconst dX5_attempt_70 (by decide)) <| mm_c (sn_ireturn dX5_attempt_71 rfl) <| mm_n
def M5_numbers : mm_M := (yX5_numbers, cX5_numbers, 3, (some .int))
theorem cw_5_numbers : Cond.code M5_numbers.1 M5_numbers.2.1 M5_numbers.2.2.1 M5_numbers.2.2.2 ∈ mm_tb := mm_mem 371 (by decide +kernel) rfl
def P5_numbers (l : Launch) (d : Nat) (post : mm_Po) : List (Nat × mm_S) := [(0, se_aload 0 1), (1, se_getR 0 7 4), (4, se_aload 0 5), (5, se_getI 0 5 8), (8, se_callV l d M3_finds 1 7 11), (11, se_if_ne 16 14), (14, se_int (-1) 15), (15, se_ret post false), (16, se_int 0 17), (17, se_istore 1 18), (18, se_int 0 19), (19, se_istore 2 20), (20, se_iload 2 21), (21, se_aload 0 22), (22, se_getR 0 1 25), (25, se_getI 1 3 28), (28, se_icmp_ge 51 31), (31, se_iload 1 32), (32, se_aload 0 33), (33, se_getR 0 7 36), (36, se_getR 7 8 39), (39, se_iload 2 40), (40, se_iaload 41), (41, se_max d 44), (44, se_istore 1 45), (45, se_iinc 2 1 48), (48, se_goto 20), (51, se_iload 1 52), (52, se_int 1 53), (53, se_iadd 54), (54, se_ret post false)]
set_option maxRecDepth 100000 in
theorem S5_numbers (l : Launch) (d : Nat) (E : mm_X) (post : mm_Po) : ∀ q ∈ P5_numbers l d post, mm_Sn l d M5_numbers E post q := mm_c (sn_aload_n dX5_numbers_0 rfl) <| mm_c (sn_getR dX5_numbers_1 F_X5_30) <| mm_c (sn_aload_n dX5_numbers_4 rfl) <| mm_c (sn_getI dX5_numbers_5 F_X5_45) <| mm_c (sn_callV dX5_numbers_8 C_X5_76) <| mm_c (sn_if_ne dX5_numbers_11 (by decide)) <| mm_c (sn_iconst dX5_numbers_14 (by decide)) <| mm_c (sn_ireturn dX5_numbers_15 rfl) <| mm_c (sn_iconst dX5_numbers_16 (by decide)) <| mm_c (sn_istore_n dX5_numbers_17 rfl (by decide)) <| mm_c (sn_iconst dX5_numbers_18 (by decide)) <| mm_c (sn_istore_n dX5_numbers_19 rfl (by decide)) <| mm_c (sn_iload_n dX5_numbers_20 rfl) <| mm_c (sn_aload_n dX5_numbers_21 rfl) <| mm_c (sn_getR dX5_numbers_22 F_X5_10) <| mm_c (sn_getI dX5_numbers_25 F_X5_96) <| mm_c (sn_icmp_ge dX5_numbers_28 (by decide)) <| mm_c (sn_iload_n dX5_numbers_31 rfl) <| mm_c (sn_aload_n dX5_numbers_32 rfl) <| mm_c (sn_getR dX5_numbers_33 F_X5_30) <| mm_c (sn_getR dX5_numbers_36 F_X5_99) <| mm_c (sn_iload_n dX5_numbers_39 rfl) <| mm_c (sn_iaload dX5_numbers_40) <| mm_c (sn_max dX5_numbers_41 (mm_mem 372 (by decide +kernel) rfl) (mm_mem 373 (by decide +kernel) rfl) (mm_mem 47 (by decide +kernel) rfl) (mm_mem 374 (by decide +kernel) rfl)) <| mm_c (sn_istore_n dX5_numbers_44 rfl (by decide)) <| mm_c (sn_iinc dX5_numbers_45 (by decide) (by decide)) <| mm_c (sn_goto dX5_numbers_48 (by decide)) <| mm_c (sn_iload_n dX5_numbers_51 rfl) <| mm_c (sn_iconst dX5_numbers_52 (by decide)) <| mm_c (sn_iadd dX5_numbers_53) <| mm_c (sn_ireturn dX5_numbers_54 rfl) <| mm_n
def M5_commonDivisor : mm_M := (yX5_commonDivisor, cX5_commonDivisor, 3, (some .int))
theorem cw_5_commonDivisor : Cond.code M5_commonDivisor.1 M5_commonDivisor.2.1 M5_commonDivisor.2.2.1 M5_commonDivisor.2.2.2 ∈ mm_tb := mm_mem 382 (by decide +kernel) rfl
theorem C_X5_133 : mm_cs RX5 133 M5_commonDivisor 2 := ⟨mm_mem 380 (by decide +kernel) rfl, mm_mem 381 (by decide +kernel) rfl, mm_mem 37 (by decide +kernel) rfl, cw_5_commonDivisor, by decide +kernel, by decide⟩
theorem C_X5_136 : mm_cv RX5 136 M5_against 0 0 := ⟨mm_mem 383 (by decide +kernel) rfl, mm_mem 343 (by decide +kernel) rfl, mm_mem 344 (by decide +kernel) rfl, mm_mem 37 (by decide +kernel) rfl, cw_5_against, by decide +kernel, by decide, 4, _, _, _, rfl, rfl⟩
theorem C_X5_139 : mm_cs RX5 139 MJ_bitCount 1 := ⟨mm_mem 384 (by decide +kernel) rfl, mm_mem 275 (by decide +kernel) rfl, mm_mem 45 (by decide +kernel) rfl, cw_J_bitCount, by decide +kernel, by decide⟩
def M5_power : mm_M := (yX5_power, cX5_power, 6, (some .long))
theorem cw_5_power : Cond.code M5_power.1 M5_power.2.1 M5_power.2.2.1 M5_power.2.2.2 ∈ mm_tb := mm_mem 361 (by decide +kernel) rfl
theorem C_X5_144 : mm_cs RX5 144 M5_power 2 := ⟨mm_mem 359 (by decide +kernel) rfl, mm_mem 360 (by decide +kernel) rfl, mm_mem 37 (by decide +kernel) rfl, cw_5_power, by decide +kernel, by decide⟩
def M5_slip : mm_M := (yX5_slip, cX5_slip, 6, (some .long))
theorem cw_5_slip : Cond.code M5_slip.1 M5_slip.2.1 M5_slip.2.2.1 M5_slip.2.2.2 ∈ mm_tb := mm_mem 378 (by decide +kernel) rfl
def P5_slip (l : Launch) (d : Nat) (post : mm_Po) : List (Nat × mm_S) := [(0, se_iload 1 1), (1, se_if_lt 19 4), (4, se_iload 1 5), (5, se_int 10 7), (7, se_icmp_gt 19 10), (10, se_iload 2 11), (11, se_if_lt 19 14), (14, se_iload 2 15), (15, se_int 1 16), (16, se_icmp_le 23 19), (19, se_lng (-102) 22), (22, se_lret post), (23, se_int 10 25), (25, se_iload 1 26), (26, se_isub 27), (27, se_int 10 29), (29, se_callS l d M5_commonDivisor 2 32), (32, se_istore 3 33), (33, se_iload 2 34), (34, se_if_ne 44 37), (37, se_int 10 39), (39, se_iload 1 40), (40, se_isub 41), (41, se_goto 46), (44, se_int 10 46), (46, se_iload 3 47), (47, se_idiv 48), (48, se_i2l 49), (49, se_lstore 4 51), (51, se_lload 4 53), (53, se_aload 0 54), (54, se_callV l d M5_against 0 0 57), (57, se_callS l d MJ_bitCount 1 60), (60, se_callS l d M5_power 2 63), (63, se_lret post)]
set_option maxRecDepth 100000 in
theorem S5_slip (l : Launch) (d : Nat) (E : mm_X) (post : mm_Po) : ∀ q ∈ P5_slip l d post, mm_Sn l d M5_slip E post q := mm_c (sn_iload_n dX5_slip_0 rfl) <| mm_c (sn_if_lt dX5_slip_1 (by decide)) <| mm_c (sn_iload_n dX5_slip_4 rfl) <| mm_c (sn_bipush dX5_slip_5 (by decide)) <| mm_c (sn_icmp_gt dX5_slip_7 (by decide)) <| mm_c (sn_iload_n dX5_slip_10 rfl) <| mm_c (sn_if_lt dX5_slip_11 (by decide)) <| mm_c (sn_iload_n dX5_slip_14 rfl) <| mm_c (sn_iconst dX5_slip_15 (by decide)) <| mm_c (sn_icmp_le dX5_slip_16 (by decide)) <| mm_c (sn_ldc2 dX5_slip_19 (mm_mem 379 (by decide +kernel) rfl)) <| mm_c (sn_lreturn dX5_slip_22 rfl) <| mm_c (sn_bipush dX5_slip_23 (by decide)) <| mm_c (sn_iload_n dX5_slip_25 rfl) <| mm_c (sn_isub dX5_slip_26) <| mm_c (sn_bipush dX5_slip_27 (by decide)) <| mm_c (sn_callS dX5_slip_29 C_X5_133) <| mm_c (sn_istore_n dX5_slip_32 rfl (by decide)) <| mm_c (sn_iload_n dX5_slip_33 rfl) <| mm_c (sn_if_ne dX5_slip_34 (by decide)) <| mm_c (sn_bipush dX5_slip_37 (by decide)) <| mm_c (sn_iload_n dX5_slip_39 rfl) <| mm_c (sn_isub dX5_slip_40) <| mm_c (sn_goto dX5_slip_41 (by decide)) <| mm_c (sn_bipush dX5_slip_44 (by decide)) <| mm_c (sn_iload_n dX5_slip_46 rfl) <| mm_c (sn_idiv dX5_slip_47) <| mm_c (sn_i2l dX5_slip_48) <| mm_c (sn_lstore dX5_slip_49 (by decide)) <| mm_c (sn_lload dX5_slip_51) <| mm_c (sn_aload_n dX5_slip_53 rfl) <| mm_c (sn_callV dX5_slip_54 C_X5_136) <| mm_c (sn_callS dX5_slip_57 C_X5_139) <| mm_c (sn_callS dX5_slip_60 C_X5_144) <| mm_c (sn_lreturn dX5_slip_63 rfl) <| mm_n
theorem F_X5_148 : mm_fok RX5 148 9 0 (some 10) := ⟨0, _, RX1, TX1, 6, rfl, rfl, rfl, by decide, mm_inTX1, mm_mem 144 (by decide +kernel) rfl⟩
def M5_distance : mm_M := (yX5_distance, cX5_distance, 4, (some .int))
theorem cw_5_distance : Cond.code M5_distance.1 M5_distance.2.1 M5_distance.2.2.1 M5_distance.2.2.2 ∈ mm_tb := mm_mem 388 (by decide +kernel) rfl
def P5_distance (l : Launch) (d : Nat) (post : mm_Po) : List (Nat × mm_S) := [(0, se_aload 0 1), (1, se_getR 0 1 4), (4, se_iload 1 5), (5, se_callV l d M2_has 1 1 8), (8, se_if_ne 14 11), (11, se_int (-101) 13), (13, se_ret post false), (14, se_iload 2 15), (15, se_if_lt 23 18), (18, se_iload 2 19), (19, se_int 4 20), (20, se_icmp_le 26 23), (23, se_int (-102) 25), (25, se_ret post false), (26, se_aload 0 27), (27, se_getR 0 9 30), (30, se_getR 9 10 33), (33, se_iload 1 34), (34, se_iaload 35), (35, se_istore 3 36), (36, se_aload 0 37), (37, se_getR 0 9 40), (40, se_getR 9 10 43), (43, se_iload 1 44), (44, se_iload 2 45), (45, se_iastore 46), (46, se_iload 3 47), (47, se_ret post false)]
set_option maxRecDepth 100000 in
theorem S5_distance (l : Launch) (d : Nat) (E : mm_X) (post : mm_Po) : ∀ q ∈ P5_distance l d post, mm_Sn l d M5_distance E post q := mm_c (sn_aload_n dX5_distance_0 rfl) <| mm_c (sn_getR dX5_distance_1 F_X5_10) <| mm_c (sn_iload_n dX5_distance_4 rfl) <| mm_c (sn_callV dX5_distance_5 C_X5_61) <| mm_c (sn_if_ne dX5_distance_8 (by decide)) <| mm_c (sn_bipush dX5_distance_11 (by decide)) <| mm_c (sn_ireturn dX5_distance_13 rfl) <| mm_c (sn_iload_n dX5_distance_14 rfl) <| mm_c (sn_if_lt dX5_distance_15 (by decide)) <| mm_c (sn_iload_n dX5_distance_18 rfl) <| mm_c (sn_iconst dX5_distance_19 (by decide)) <| mm_c (sn_icmp_le dX5_distance_20 (by decide)) <| mm_c (sn_bipush dX5_distance_23 (by decide)) <| mm_c (sn_ireturn dX5_distance_25 rfl) <| mm_c (sn_aload_n dX5_distance_26 rfl) <| mm_c (sn_getR dX5_distance_27 F_X5_37) <| mm_c (sn_getR dX5_distance_30 F_X5_148) <| mm_c (sn_iload_n dX5_distance_33 rfl) <| mm_c (sn_iaload dX5_distance_34) <| mm_c (sn_istore_n dX5_distance_35 rfl (by decide)) <| mm_c (sn_aload_n dX5_distance_36 rfl) <| mm_c (sn_getR dX5_distance_37 F_X5_37) <| mm_c (sn_getR dX5_distance_40 F_X5_148) <| mm_c (sn_iload_n dX5_distance_43 rfl) <| mm_c (sn_iload_n dX5_distance_44 rfl) <| mm_c (sn_iastore dX5_distance_45) <| mm_c (sn_iload_n dX5_distance_46 rfl) <| mm_c (sn_ireturn dX5_distance_47 rfl) <| mm_n
theorem C_X5_151 : mm_cv RX5 151 M1_isRestless 1 9 := ⟨mm_mem 393 (by decide +kernel) rfl, mm_mem 394 (by decide +kernel) rfl, mm_mem 395 (by decide +kernel) rfl, mm_mem 41 (by decide +kernel) rfl, cw_1_isRestless, by decide +kernel, by decide, 0, _, _, _, rfl, rfl⟩
def M5_restless : mm_M := (yX5_restless, cX5_restless, 3, (some .int))
theorem cw_5_restless : Cond.code M5_restless.1 M5_restless.2.1 M5_restless.2.2.1 M5_restless.2.2.2 ∈ mm_tb := mm_mem 392 (by decide +kernel) rfl
def P5_restless (l : Launch) (d : Nat) (post : mm_Po) : List (Nat × mm_S) := [(0, se_int 0 1), (1, se_istore 1 2), (2, se_int 0 3), (3, se_istore 2 4), (4, se_iload 2 5), (5, se_aload 0 6), (6, se_getR 0 1 9), (9, se_getI 1 3 12), (12, se_icmp_ge 38 15), (15, se_aload 0 16), (16, se_getR 0 9 19), (19, se_iload 2 20), (20, se_callV l d M1_isRestless 1 9 23), (23, se_if_eq 32 26), (26, se_iload 1 27), (27, se_int 1 28), (28, se_iload 2 29), (29, se_ishl 30), (30, se_ior 31), (31, se_istore 1 32), (32, se_iinc 2 1 35), (35, se_goto 4), (38, se_iload 1 39), (39, se_ret post false)]
set_option maxRecDepth 100000 in
theorem S5_restless (l : Launch) (d : Nat) (E : mm_X) (post : mm_Po) : ∀ q ∈ P5_restless l d post, mm_Sn l d M5_restless E post q := mm_c (sn_iconst dX5_restless_0 (by decide)) <| mm_c (sn_istore_n dX5_restless_1 rfl (by decide)) <| mm_c (sn_iconst dX5_restless_2 (by decide)) <| mm_c (sn_istore_n dX5_restless_3 rfl (by decide)) <| mm_c (sn_iload_n dX5_restless_4 rfl) <| mm_c (sn_aload_n dX5_restless_5 rfl) <| mm_c (sn_getR dX5_restless_6 F_X5_10) <| mm_c (sn_getI dX5_restless_9 F_X5_96) <| mm_c (sn_icmp_ge dX5_restless_12 (by decide)) <| mm_c (sn_aload_n dX5_restless_15 rfl) <| mm_c (sn_getR dX5_restless_16 F_X5_37) <| mm_c (sn_iload_n dX5_restless_19 rfl) <| mm_c (sn_callV dX5_restless_20 C_X5_151) <| mm_c (sn_if_eq dX5_restless_23 (by decide)) <| mm_c (sn_iload_n dX5_restless_26 rfl) <| mm_c (sn_iconst dX5_restless_27 (by decide)) <| mm_c (sn_iload_n dX5_restless_28 rfl) <| mm_c (sn_ishl dX5_restless_29) <| mm_c (sn_ior dX5_restless_30) <| mm_c (sn_istore_n dX5_restless_31 rfl (by decide)) <| mm_c (sn_iinc dX5_restless_32 (by decide) (by decide)) <| mm_c (sn_goto dX5_restless_35 (by decide)) <| mm_c (sn_iload_n dX5_restless_38 rfl) <| mm_c (sn_ireturn dX5_restless_39 rfl) <| mm_n
theorem C_X5_154 : mm_cv RX5 154 M1_obey 1 9 := ⟨mm_mem 409 (by decide +kernel) rfl, mm_mem 410 (by decide +kernel) rfl, mm_mem 411 (by decide +kernel) rfl, mm_mem 41 (by decide +kernel) rfl, cw_1_obey, by decide +kernel, by decide, 0, _, _, _, rfl, rfl⟩
def M5_move : mm_M := (yX5_move, cX5_move, 2, (some .int))
theorem cw_5_move : Cond.code M5_move.1 M5_move.2.1 M5_move.2.2.1 M5_move.2.2.2 ∈ mm_tb := mm_mem 408 (by decide +kernel) rfl
def P5_move (l : Launch) (d : Nat) (post : mm_Po) : List (Nat × mm_S) := [(0, se_aload 0 1), (1, se_getR 0 1 4), (4, se_iload 1 5), (5, se_callV l d M2_has 1 1 8), (8, se_if_ne 14 11), (11, se_int (-101) 13), (13, se_ret post false), (14, se_aload 0 15), (15, se_getR 0 9 18), (18, se_iload 1 19), (19, se_callV l d M1_isRestless 1 9 22), (22, se_if_ne 28 25), (25, se_int (-103) 27), (27, se_ret post false), (28, se_aload 0 29), (29, se_getR 0 9 32), (32, se_iload 1 33), (33, se_callV l d M1_obey 1 9 36), (36, se_aload 0 37), (37, se_getR 0 9 40), (40, se_getR 9 10 43), (43, se_iload 1 44), (44, se_iaload 45), (45, se_ret post false)]
set_option maxRecDepth 100000 in
theorem S5_move (l : Launch) (d : Nat) (E : mm_X) (post : mm_Po) : ∀ q ∈ P5_move l d post, mm_Sn l d M5_move E post q := mm_c (sn_aload_n dX5_move_0 rfl) <| mm_c (sn_getR dX5_move_1 F_X5_10) <| mm_c (sn_iload_n dX5_move_4 rfl) <| mm_c (sn_callV dX5_move_5 C_X5_61) <| mm_c (sn_if_ne dX5_move_8 (by decide)) <| mm_c (sn_bipush dX5_move_11 (by decide)) <| mm_c (sn_ireturn dX5_move_13 rfl) <| mm_c (sn_aload_n dX5_move_14 rfl) <| mm_c (sn_getR dX5_move_15 F_X5_37) <| mm_c (sn_iload_n dX5_move_18 rfl) <| mm_c (sn_callV dX5_move_19 C_X5_151) <| mm_c (sn_if_ne dX5_move_22 (by decide)) <| mm_c (sn_bipush dX5_move_25 (by decide)) <| mm_c (sn_ireturn dX5_move_27 rfl) <| mm_c (sn_aload_n dX5_move_28 rfl) <| mm_c (sn_getR dX5_move_29 F_X5_37) <| mm_c (sn_iload_n dX5_move_32 rfl) <| mm_c (sn_callV dX5_move_33 C_X5_154) <| mm_c (sn_aload_n dX5_move_36 rfl) <| mm_c (sn_getR dX5_move_37 F_X5_37) <| mm_c (sn_getR dX5_move_40 F_X5_148) <| mm_c (sn_iload_n dX5_move_43 rfl) <| mm_c (sn_iaload dX5_move_44) <| mm_c (sn_ireturn dX5_move_45 rfl) <| mm_n
theorem C_X5_157 : mm_cv RX5 157 M1_settle 0 9 := ⟨mm_mem 417 (by decide +kernel) rfl, mm_mem 418 (by decide +kernel) rfl, mm_mem 419 (by decide +kernel) rfl, mm_mem 41 (by decide +kernel) rfl, cw_1_settle, by decide +kernel, by decide, 0, _, _, _, rfl, rfl⟩
def M5_mend : mm_M := (yX5_mend, cX5_mend, 1, (some .int))
theorem cw_5_mend : Cond.code M5_mend.1 M5_mend.2.1 M5_mend.2.2.1 M5_mend.2.2.2 ∈ mm_tb := mm_mem 416 (by decide +kernel) rfl
def P5_mend (l : Launch) (d : Nat) (post : mm_Po) : List (Nat × mm_S) := [(0, se_aload 0 1), (1, se_getR 0 9 4), (4, se_callV l d M1_settle 0 9 7), (7, se_ret post false)]
set_option maxRecDepth 100000 in
theorem S5_mend (l : Launch) (d : Nat) (E : mm_X) (post : mm_Po) : ∀ q ∈ P5_mend l d post, mm_Sn l d M5_mend E post q := mm_c (sn_aload_n dX5_mend_0 rfl) <| mm_c (sn_getR dX5_mend_1 F_X5_37) <| mm_c (sn_callV dX5_mend_4 C_X5_157) <| mm_c (sn_ireturn dX5_mend_7 rfl) <| mm_n
def M5_waysRefused : mm_M := (yX5_waysRefused, cX5_waysRefused, 1, (some .boolean))
theorem cw_5_waysRefused : Cond.code M5_waysRefused.1 M5_waysRefused.2.1 M5_waysRefused.2.2.1 M5_waysRefused.2.2.2 ∈ mm_tb := mm_mem 434 (by decide +kernel) rfl
theorem C_X5_160 : mm_cv RX5 160 M5_waysRefused 0 0 := ⟨mm_mem 431 (by decide +kernel) rfl, mm_mem 433 (by decide +kernel) rfl, mm_mem 10 (by decide +kernel) rfl, mm_mem 37 (by decide +kernel) rfl, cw_5_waysRefused, by decide +kernel, by decide, 4, _, _, _, rfl, rfl⟩
theorem F_X5_164 : mm_fok RX5 164 0 7 none := ⟨4, _, RX5, TX5, 8, rfl, rfl, rfl, by decide, mm_inTX5, mm_mem 170 (by decide +kernel) rfl⟩
theorem F_X5_164_w : mm_fw RX5 164 0 7 false := ⟨4, _, RX5, TX5, 8, tyX5, rfl, rfl, rfl, by decide, mm_inTX5, mm_mem 170 (by decide +kernel) rfl, tyX5_ok, nmX5, rfl, rfl⟩
theorem C_X5_167 : mm_cv RX5 167 M1_longestWay 0 9 := ⟨mm_mem 435 (by decide +kernel) rfl, mm_mem 436 (by decide +kernel) rfl, mm_mem 437 (by decide +kernel) rfl, mm_mem 41 (by decide +kernel) rfl, cw_1_longestWay, by decide +kernel, by decide, 0, _, _, _, rfl, rfl⟩
def M5_longest : mm_M := (yX5_longest, cX5_longest, 1, (some .int))
theorem cw_5_longest : Cond.code M5_longest.1 M5_longest.2.1 M5_longest.2.2.1 M5_longest.2.2.2 ∈ mm_tb := mm_mem 430 (by decide +kernel) rfl
def P5_longest (l : Launch) (d : Nat) (post : mm_Po) : List (Nat × mm_S) := [(0, se_aload 0 1), (1, se_callV l d M5_waysRefused 0 0 4), (4, se_if_eq 10 7), (7, se_int (-103) 9), (9, se_ret post false), (10, se_aload 0 11), (11, se_dup 12), (12, se_getI 0 7 15), (15, se_int 1 16), (16, se_iadd 17), (17, se_put false 0 7 20), (20, se_aload 0 21), (21, se_getR 0 9 24), (24, se_callV l d M1_longestWay 0 9 27), (27, se_ret post false)]
set_option maxRecDepth 100000 in
theorem S5_longest (l : Launch) (d : Nat) (E : mm_X) (post : mm_Po) : ∀ q ∈ P5_longest l d post, mm_Sn l d M5_longest E post q := mm_c (sn_aload_n dX5_longest_0 rfl) <| mm_c (sn_callV dX5_longest_1 C_X5_160) <| mm_c (sn_if_eq dX5_longest_4 (by decide)) <| mm_c (sn_bipush dX5_longest_7 (by decide)) <| mm_c (sn_ireturn dX5_longest_9 rfl) <| mm_c (sn_aload_n dX5_longest_10 rfl) <| mm_c (sn_dup dX5_longest_11) <| mm_c (sn_getI dX5_longest_12 F_X5_164) <| mm_c (sn_iconst dX5_longest_15 (by decide)) <| mm_c (sn_iadd dX5_longest_16) <| mm_c (sn_put dX5_longest_17 F_X5_164_w) <| mm_c (sn_aload_n dX5_longest_20 rfl) <| mm_c (sn_getR dX5_longest_21 F_X5_37) <| mm_c (sn_callV dX5_longest_24 C_X5_167) <| mm_c (sn_ireturn dX5_longest_27 rfl) <| mm_n
theorem C_X5_170 : mm_cv RX5 170 M1_shortestWay 0 9 := ⟨mm_mem 459 (by decide +kernel) rfl, mm_mem 460 (by decide +kernel) rfl, mm_mem 461 (by decide +kernel) rfl, mm_mem 41 (by decide +kernel) rfl, cw_1_shortestWay, by decide +kernel, by decide, 0, _, _, _, rfl, rfl⟩
def M5_shortest : mm_M := (yX5_shortest, cX5_shortest, 1, (some .int))
theorem cw_5_shortest : Cond.code M5_shortest.1 M5_shortest.2.1 M5_shortest.2.2.1 M5_shortest.2.2.2 ∈ mm_tb := mm_mem 458 (by decide +kernel) rfl
def P5_shortest (l : Launch) (d : Nat) (post : mm_Po) : List (Nat × mm_S) := [(0, se_aload 0 1), (1, se_callV l d M5_waysRefused 0 0 4), (4, se_if_eq 10 7), (7, se_int (-103) 9), (9, se_ret post false), (10, se_aload 0 11), (11, se_dup 12), (12, se_getI 0 7 15), (15, se_int 1 16), (16, se_iadd 17), (17, se_put false 0 7 20), (20, se_aload 0 21), (21, se_getR 0 9 24), (24, se_callV l d M1_shortestWay 0 9 27), (27, se_ret post false)]
set_option maxRecDepth 100000 in
theorem S5_shortest (l : Launch) (d : Nat) (E : mm_X) (post : mm_Po) : ∀ q ∈ P5_shortest l d post, mm_Sn l d M5_shortest E post q := mm_c (sn_aload_n dX5_shortest_0 rfl) <| mm_c (sn_callV dX5_shortest_1 C_X5_160) <| mm_c (sn_if_eq dX5_shortest_4 (by decide)) <| mm_c (sn_bipush dX5_shortest_7 (by decide)) <| mm_c (sn_ireturn dX5_shortest_9 rfl) <| mm_c (sn_aload_n dX5_shortest_10 rfl) <| mm_c (sn_dup dX5_shortest_11) <| mm_c (sn_getI dX5_shortest_12 F_X5_164) <| mm_c (sn_iconst dX5_shortest_15 (by decide)) <| mm_c (sn_iadd dX5_shortest_16) <| mm_c (sn_put dX5_shortest_17 F_X5_164_w) <| mm_c (sn_aload_n dX5_shortest_20 rfl) <| mm_c (sn_getR dX5_shortest_21 F_X5_37) <| mm_c (sn_callV dX5_shortest_24 C_X5_170) <| mm_c (sn_ireturn dX5_shortest_27 rfl) <| mm_n
theorem C_X5_173 : mm_cv RX5 173 M2_lineCount 0 1 := ⟨mm_mem 467 (by decide +kernel) rfl, mm_mem 314 (by decide +kernel) rfl, mm_mem 315 (by decide +kernel) rfl, mm_mem 38 (by decide +kernel) rfl, cw_2_lineCount, by decide +kernel, by decide, 1, _, _, _, rfl, rfl⟩
theorem C_X5_176 : mm_cv RX5 176 M2_leaders 0 1 := ⟨mm_mem 468 (by decide +kernel) rfl, mm_mem 268 (by decide +kernel) rfl, mm_mem 269 (by decide +kernel) rfl, mm_mem 38 (by decide +kernel) rfl, cw_2_leaders, by decide +kernel, by decide, 1, _, _, _, rfl, rfl⟩
def M5_count : mm_M := (yX5_count, cX5_count, 2, (some .int))
theorem cw_5_count : Cond.code M5_count.1 M5_count.2.1 M5_count.2.2.1 M5_count.2.2.2 ∈ mm_tb := mm_mem 466 (by decide +kernel) rfl
def P5_count (l : Launch) (d : Nat) (post : mm_Po) : List (Nat × mm_S) := [(0, se_iload 1 1), (1, se_switch [(0, 40), (1, 48), (2, 56), (3, 61), (4, 72), (5, 77)] 82), (40, se_aload 0 41), (41, se_getR 0 1 44), (44, se_getI 1 3 47), (47, se_ret post false), (48, se_aload 0 49), (49, se_getR 0 1 52), (52, se_callV l d M2_lineCount 0 1 55), (55, se_ret post false), (56, se_aload 0 57), (57, se_getI 0 5 60), (60, se_ret post false), (61, se_aload 0 62), (62, se_getR 0 1 65), (65, se_callV l d M2_leaders 0 1 68), (68, se_callS l d MJ_bitCount 1 71), (71, se_ret post false), (72, se_aload 0 73), (73, se_getI 0 6 76), (76, se_ret post false), (77, se_aload 0 78), (78, se_getI 0 7 81), (81, se_ret post false), (82, se_int (-102) 84), (84, se_ret post false)]
set_option maxRecDepth 100000 in
theorem S5_count (l : Launch) (d : Nat) (E : mm_X) (post : mm_Po) : ∀ q ∈ P5_count l d post, mm_Sn l d M5_count E post q := mm_c (sn_iload_n dX5_count_0 rfl) <| mm_c (sn_switch dX5_count_1 (by decide +kernel)) <| mm_c (sn_aload_n dX5_count_40 rfl) <| mm_c (sn_getR dX5_count_41 F_X5_10) <| mm_c (sn_getI dX5_count_44 F_X5_96) <| mm_c (sn_ireturn dX5_count_47 rfl) <| mm_c (sn_aload_n dX5_count_48 rfl) <| mm_c (sn_getR dX5_count_49 F_X5_10) <| mm_c (sn_callV dX5_count_52 C_X5_173) <| mm_c (sn_ireturn dX5_count_55 rfl) <| mm_c (sn_aload_n dX5_count_56 rfl) <| mm_c (sn_getI dX5_count_57 F_X5_45) <| mm_c (sn_ireturn dX5_count_60 rfl) <| mm_c (sn_aload_n dX5_count_61 rfl) <| mm_c (sn_getR dX5_count_62 F_X5_10) <| mm_c (sn_callV dX5_count_65 C_X5_176) <| mm_c (sn_callS dX5_count_68 C_X5_139) <| mm_c (sn_ireturn dX5_count_71 rfl) <| mm_c (sn_aload_n dX5_count_72 rfl) <| mm_c (sn_getI dX5_count_73 F_X5_111) <| mm_c (sn_ireturn dX5_count_76 rfl) <| mm_c (sn_aload_n dX5_count_77 rfl) <| mm_c (sn_getI dX5_count_78 F_X5_164) <| mm_c (sn_ireturn dX5_count_81 rfl) <| mm_c (sn_bipush dX5_count_82 (by decide)) <| mm_c (sn_ireturn dX5_count_84 rfl) <| mm_n
def M5_mix : mm_M := (yX5_mix, cX5_mix, 4, (some .long))
theorem cw_5_mix : Cond.code M5_mix.1 M5_mix.2.1 M5_mix.2.2.1 M5_mix.2.2.2 ∈ mm_tb := mm_mem 476 (by decide +kernel) rfl
theorem C_X5_181 : mm_cs RX5 181 M5_mix 2 := ⟨mm_mem 474 (by decide +kernel) rfl, mm_mem 475 (by decide +kernel) rfl, mm_mem 37 (by decide +kernel) rfl, cw_5_mix, by decide +kernel, by decide⟩
def M5_digest : mm_M := (yX5_digest, cX5_digest, 5, (some .long))
theorem cw_5_digest : Cond.code M5_digest.1 M5_digest.2.1 M5_digest.2.2.1 M5_digest.2.2.2 ∈ mm_tb := mm_mem 472 (by decide +kernel) rfl
def P5_digest (l : Launch) (d : Nat) (post : mm_Po) : List (Nat × mm_S) := [(0, se_lng 197 3), (3, se_aload 0 4), (4, se_getR 0 1 7), (7, se_getI 1 3 10), (10, se_i2l 11), (11, se_callS l d M5_mix 2 14), (14, se_lstore 1 15), (15, se_int 0 16), (16, se_istore 3 17), (17, se_iload 3 18), (18, se_aload 0 19), (19, se_getR 0 1 22), (22, se_getI 1 3 25), (25, se_icmp_ge 115 28), (28, se_lload 1 29), (29, se_aload 0 30), (30, se_getR 0 1 33), (33, se_getR 1 3 36), (36, se_iload 3 37), (37, se_iaload 38), (38, se_i2l 39), (39, se_callS l d M5_mix 2 42), (42, se_lstore 1 43), (43, se_lload 1 44), (44, se_aload 0 45), (45, se_getR 0 15 48), (48, se_iload 3 49), (49, se_iaload 50), (50, se_i2l 51), (51, se_callS l d M5_mix 2 54), (54, se_lstore 1 55), (55, se_lload 1 56), (56, se_aload 0 57), (57, se_getR 0 9 60), (60, se_getR 9 10 63), (63, se_iload 3 64), (64, se_iaload 65), (65, se_i2l 66), (66, se_callS l d M5_mix 2 69), (69, se_lstore 1 70), (70, se_iload 3 71), (71, se_int 1 72), (72, se_iadd 73), (73, se_istore 4 75), (75, se_iload 4 77), (77, se_aload 0 78), (78, se_getR 0 1 81), (81, se_getI 1 3 84), (84, se_icmp_ge 109 87), (87, se_lload 1 88), (88, se_aload 0 89), (89, se_getR 0 1 92), (92, se_iload 3 93), (93, se_iload 4 95), (95, se_callV l d M2_joined 2 1 98), (98, se_i2l 99), (99, se_callS l d M5_mix 2 102), (102, se_lstore 1 103), (103, se_iinc 4 1 106), (106, se_goto 75), (109, se_iinc 3 1 112), (112, se_goto 17), (115, se_lload 1 116), (116, se_aload 0 117), (117, se_getI 0 5 120), (120, se_i2l 121), (121, se_callS l d M5_mix 2 124), (124, se_lstore 1 125), (125, se_lload 1 126), (126, se_aload 0 127), (127, se_getI 0 6 130), (130, se_i2l 131), (131, se_callS l d M5_mix 2 134), (134, se_lstore 1 135), (135, se_lload 1 136), (136, se_aload 0 137), (137, se_getI 0 7 140), (140, se_i2l 141), (141, se_callS l d M5_mix 2 144), (144, se_lret post)]
set_option maxRecDepth 100000 in
theorem S5_digest (l : Launch) (d : Nat) (E : mm_X) (post : mm_Po) : ∀ q ∈ P5_digest l d post, mm_Sn l d M5_digest E post q := mm_c (sn_ldc2 dX5_digest_0 (mm_mem 473 (by decide +kernel) rfl)) <| mm_c (sn_aload_n dX5_digest_3 rfl) <| mm_c (sn_getR dX5_digest_4 F_X5_10) <| mm_c (sn_getI dX5_digest_7 F_X5_96) <| mm_c (sn_i2l dX5_digest_10) <| mm_c (sn_callS dX5_digest_11 C_X5_181) <| mm_c (sn_lstore_n dX5_digest_14 rfl (by decide)) <| mm_c (sn_iconst dX5_digest_15 (by decide)) <| mm_c (sn_istore_n dX5_digest_16 rfl (by decide)) <| mm_c (sn_iload_n dX5_digest_17 rfl) <| mm_c (sn_aload_n dX5_digest_18 rfl) <| mm_c (sn_getR dX5_digest_19 F_X5_10) <| mm_c (sn_getI dX5_digest_22 F_X5_96) <| mm_c (sn_icmp_ge dX5_digest_25 (by decide)) <| mm_c (sn_lload_n dX5_digest_28 rfl) <| mm_c (sn_aload_n dX5_digest_29 rfl) <| mm_c (sn_getR dX5_digest_30 F_X5_10) <| mm_c (sn_getR dX5_digest_33 F_X5_73) <| mm_c (sn_iload_n dX5_digest_36 rfl) <| mm_c (sn_iaload dX5_digest_37) <| mm_c (sn_i2l dX5_digest_38) <| mm_c (sn_callS dX5_digest_39 C_X5_181) <| mm_c (sn_lstore_n dX5_digest_42 rfl (by decide)) <| mm_c (sn_lload_n dX5_digest_43 rfl) <| mm_c (sn_aload_n dX5_digest_44 rfl) <| mm_c (sn_getR dX5_digest_45 F_X5_41) <| mm_c (sn_iload_n dX5_digest_48 rfl) <| mm_c (sn_iaload dX5_digest_49) <| mm_c (sn_i2l dX5_digest_50) <| mm_c (sn_callS dX5_digest_51 C_X5_181) <| mm_c (sn_lstore_n dX5_digest_54 rfl (by decide)) <| mm_c (sn_lload_n dX5_digest_55 rfl) <| mm_c (sn_aload_n dX5_digest_56 rfl) <| mm_c (sn_getR dX5_digest_57 F_X5_37) <| mm_c (sn_getR dX5_digest_60 F_X5_148) <| mm_c (sn_iload_n dX5_digest_63 rfl) <| mm_c (sn_iaload dX5_digest_64) <| mm_c (sn_i2l dX5_digest_65) <| mm_c (sn_callS dX5_digest_66 C_X5_181) <| mm_c (sn_lstore_n dX5_digest_69 rfl (by decide)) <| mm_c (sn_iload_n dX5_digest_70 rfl) <| mm_c (sn_iconst dX5_digest_71 (by decide)) <| mm_c (sn_iadd dX5_digest_72) <| mm_c (sn_istore dX5_digest_73 (by decide)) <| mm_c (sn_iload dX5_digest_75) <| mm_c (sn_aload_n dX5_digest_77 rfl) <| mm_c (sn_getR dX5_digest_78 F_X5_10) <| mm_c (sn_getI dX5_digest_81 F_X5_96) <| mm_c (sn_icmp_ge dX5_digest_84 (by decide)) <| mm_c (sn_lload_n dX5_digest_87 rfl) <| mm_c (sn_aload_n dX5_digest_88 rfl) <| mm_c (sn_getR dX5_digest_89 F_X5_10) <| mm_c (sn_iload_n dX5_digest_92 rfl) <| mm_c (sn_iload dX5_digest_93) <| mm_c (sn_callV dX5_digest_95 C_X5_65) <| mm_c (sn_i2l dX5_digest_98) <| mm_c (sn_callS dX5_digest_99 C_X5_181) <| mm_c (sn_lstore_n dX5_digest_102 rfl (by decide)) <| mm_c (sn_iinc dX5_digest_103 (by decide) (by decide)) <| mm_c (sn_goto dX5_digest_106 (by decide)) <| mm_c (sn_iinc dX5_digest_109 (by decide) (by decide)) <| mm_c (sn_goto dX5_digest_112 (by decide)) <| mm_c (sn_lload_n dX5_digest_115 rfl) <| mm_c (sn_aload_n dX5_digest_116 rfl) <| mm_c (sn_getI dX5_digest_117 F_X5_45) <| mm_c (sn_i2l dX5_digest_120) <| mm_c (sn_callS dX5_digest_121 C_X5_181) <| mm_c (sn_lstore_n dX5_digest_124 rfl (by decide)) <| mm_c (sn_lload_n dX5_digest_125 rfl) <| mm_c (sn_aload_n dX5_digest_126 rfl) <| mm_c (sn_getI dX5_digest_127 F_X5_111) <| mm_c (sn_i2l dX5_digest_130) <| mm_c (sn_callS dX5_digest_131 C_X5_181) <| mm_c (sn_lstore_n dX5_digest_134 rfl (by decide)) <| mm_c (sn_lload_n dX5_digest_135 rfl) <| mm_c (sn_aload_n dX5_digest_136 rfl) <| mm_c (sn_getI dX5_digest_137 F_X5_164) <| mm_c (sn_i2l dX5_digest_140) <| mm_c (sn_callS dX5_digest_141 C_X5_181) <| mm_c (sn_lreturn dX5_digest_144 rfl) <| mm_n
def P5_mix (l : Launch) (d : Nat) (post : mm_Po) : List (Nat × mm_S) := [(0, se_lng 31 3), (3, se_lload 0 4), (4, se_lmul 5), (5, se_lload 2 6), (6, se_ladd 7), (7, se_lret post)]
set_option maxRecDepth 100000 in
theorem S5_mix (l : Launch) (d : Nat) (E : mm_X) (post : mm_Po) : ∀ q ∈ P5_mix l d post, mm_Sn l d M5_mix E post q := mm_c (sn_ldc2 dX5_mix_0 (mm_mem 477 (by decide +kernel) rfl)) <| mm_c (sn_lload_n dX5_mix_3 rfl) <| mm_c (sn_lmul dX5_mix_4) <| mm_c (sn_lload_n dX5_mix_5 rfl) <| mm_c (sn_ladd dX5_mix_6) <| mm_c (sn_lreturn dX5_mix_7 rfl) <| mm_n
def P5_tryRefusal (l : Launch) (d : Nat) (post : mm_Po) : List (Nat × mm_S) := [(0, se_iload 1 1), (1, se_int 1 2), (2, se_icmp_lt 11 5), (5, se_iload 1 6), (6, se_int 64 8), (8, se_icmp_le 14 11), (11, se_int (-102) 13), (13, se_ret post false), (14, se_aload 0 15), (15, se_getI 0 6 18), (18, se_int 30 20), (20, se_icmp_ge 42 23), (23, se_iload 1 24), (24, se_i2l 25), (25, se_aload 0 26), (26, se_getR 0 1 29), (29, se_getI 1 3 32), (32, se_callS l d M5_power 2 35), (35, se_lng 100000 38), (38, se_lcmp 39), (39, se_if_le 45 42), (42, se_int (-103) 44), (44, se_ret post false), (45, se_int 0 46), (46, se_ret post false)]
set_option maxRecDepth 100000 in
theorem S5_tryRefusal (l : Launch) (d : Nat) (E : mm_X) (post : mm_Po) : ∀ q ∈ P5_tryRefusal l d post, mm_Sn l d M5_tryRefusal E post q := mm_c (sn_iload_n dX5_tryRefusal_0 rfl) <| mm_c (sn_iconst dX5_tryRefusal_1 (by decide)) <| mm_c (sn_icmp_lt dX5_tryRefusal_2 (by decide)) <| mm_c (sn_iload_n dX5_tryRefusal_5 rfl) <| mm_c (sn_bipush dX5_tryRefusal_6 (by decide)) <| mm_c (sn_icmp_le dX5_tryRefusal_8 (by decide)) <| mm_c (sn_bipush dX5_tryRefusal_11 (by decide)) <| mm_c (sn_ireturn dX5_tryRefusal_13 rfl) <| mm_c (sn_aload_n dX5_tryRefusal_14 rfl) <| mm_c (sn_getI dX5_tryRefusal_15 F_X5_111) <| mm_c (sn_bipush dX5_tryRefusal_18 (by decide)) <| mm_c (sn_icmp_ge dX5_tryRefusal_20 (by decide)) <| mm_c (sn_iload_n dX5_tryRefusal_23 rfl) <| mm_c (sn_i2l dX5_tryRefusal_24) <| mm_c (sn_aload_n dX5_tryRefusal_25 rfl) <| mm_c (sn_getR dX5_tryRefusal_26 F_X5_10) <| mm_c (sn_getI dX5_tryRefusal_29 F_X5_96) <| mm_c (sn_callS dX5_tryRefusal_32 C_X5_144) <| mm_c (sn_ldc2 dX5_tryRefusal_35 (mm_mem 362 (by decide +kernel) rfl)) <| mm_c (sn_lcmp dX5_tryRefusal_38) <| mm_c (sn_if_le dX5_tryRefusal_39 (by decide)) <| mm_c (sn_bipush dX5_tryRefusal_42 (by decide)) <| mm_c (sn_ireturn dX5_tryRefusal_44 rfl) <| mm_c (sn_iconst dX5_tryRefusal_45 (by decide)) <| mm_c (sn_ireturn dX5_tryRefusal_46 rfl) <| mm_n
def P5_waysRefused (l : Launch) (d : Nat) (post : mm_Po) : List (Nat × mm_S) := [(0, se_aload 0 1), (1, se_getR 0 1 4), (4, se_getI 1 3 7), (7, se_int 5 8), (8, se_icmp_gt 20 11), (11, se_aload 0 12), (12, se_getI 0 7 15), (15, se_int 20 17), (17, se_icmp_lt 24 20), (20, se_int 1 21), (21, se_goto 25), (24, se_int 0 25), (25, se_ret post true)]
set_option maxRecDepth 100000 in
theorem S5_waysRefused (l : Launch) (d : Nat) (E : mm_X) (post : mm_Po) : ∀ q ∈ P5_waysRefused l d post, mm_Sn l d M5_waysRefused E post q := mm_c (sn_aload_n dX5_waysRefused_0 rfl) <| mm_c (sn_getR dX5_waysRefused_1 F_X5_10) <| mm_c (sn_getI dX5_waysRefused_4 F_X5_96) <| mm_c (sn_iconst dX5_waysRefused_7 (by decide)) <| mm_c (sn_icmp_gt dX5_waysRefused_8 (by decide)) <| mm_c (sn_aload_n dX5_waysRefused_11 rfl) <| mm_c (sn_getI dX5_waysRefused_12 F_X5_164) <| mm_c (sn_bipush dX5_waysRefused_15 (by decide)) <| mm_c (sn_icmp_lt dX5_waysRefused_17 (by decide)) <| mm_c (sn_iconst dX5_waysRefused_20 (by decide)) <| mm_c (sn_goto dX5_waysRefused_21 (by decide)) <| mm_c (sn_iconst dX5_waysRefused_24 (by decide)) <| mm_c (sn_zreturn dX5_waysRefused_25 rfl) <| mm_n
def P5_power (l : Launch) (d : Nat) (post : mm_Po) : List (Nat × mm_S) := [(0, se_lng 1 1), (1, se_lstore 3 2), (2, se_int 0 3), (3, se_istore 5 5), (5, se_iload 5 7), (7, se_iload 2 8), (8, se_icmp_ge 21 11), (11, se_lload 3 12), (12, se_lload 0 13), (13, se_lmul 14), (14, se_lstore 3 15), (15, se_iinc 5 1 18), (18, se_goto 5), (21, se_lload 3 22), (22, se_lret post)]
set_option maxRecDepth 100000 in
theorem S5_power (l : Launch) (d : Nat) (E : mm_X) (post : mm_Po) : ∀ q ∈ P5_power l d post, mm_Sn l d M5_power E post q := mm_c (sn_lconst dX5_power_0 (by decide)) <| mm_c (sn_lstore_n dX5_power_1 rfl (by decide)) <| mm_c (sn_iconst dX5_power_2 (by decide)) <| mm_c (sn_istore dX5_power_3 (by decide)) <| mm_c (sn_iload dX5_power_5) <| mm_c (sn_iload_n dX5_power_7 rfl) <| mm_c (sn_icmp_ge dX5_power_8 (by decide)) <| mm_c (sn_lload_n dX5_power_11 rfl) <| mm_c (sn_lload_n dX5_power_12 rfl) <| mm_c (sn_lmul dX5_power_13) <| mm_c (sn_lstore_n dX5_power_14 rfl (by decide)) <| mm_c (sn_iinc dX5_power_15 (by decide) (by decide)) <| mm_c (sn_goto dX5_power_18 (by decide)) <| mm_c (sn_lload_n dX5_power_21 rfl) <| mm_c (sn_lreturn dX5_power_22 rfl) <| mm_n
def P5_commonDivisor (l : Launch) (d : Nat) (post : mm_Po) : List (Nat × mm_S) := [(0, se_iload 1 1), (1, se_istore 2 2), (2, se_iload 2 3), (3, se_int 1 4), (4, se_icmp_le 27 7), (7, se_iload 0 8), (8, se_iload 2 9), (9, se_irem 10), (10, se_if_ne 21 13), (13, se_iload 1 14), (14, se_iload 2 15), (15, se_irem 16), (16, se_if_ne 21 19), (19, se_iload 2 20), (20, se_ret post false), (21, se_iinc 2 (-1) 24), (24, se_goto 2), (27, se_int 1 28), (28, se_ret post false)]
set_option maxRecDepth 100000 in
theorem S5_commonDivisor (l : Launch) (d : Nat) (E : mm_X) (post : mm_Po) : ∀ q ∈ P5_commonDivisor l d post, mm_Sn l d M5_commonDivisor E post q := mm_c (sn_iload_n dX5_commonDivisor_0 rfl) <| mm_c (sn_istore_n dX5_commonDivisor_1 rfl (by decide)) <| mm_c (sn_iload_n dX5_commonDivisor_2 rfl) <| mm_c (sn_iconst dX5_commonDivisor_3 (by decide)) <| mm_c (sn_icmp_le dX5_commonDivisor_4 (by decide)) <| mm_c (sn_iload_n dX5_commonDivisor_7 rfl) <| mm_c (sn_iload_n dX5_commonDivisor_8 rfl) <| mm_c (sn_irem dX5_commonDivisor_9) <| mm_c (sn_if_ne dX5_commonDivisor_10 (by decide)) <| mm_c (sn_iload_n dX5_commonDivisor_13 rfl) <| mm_c (sn_iload_n dX5_commonDivisor_14 rfl) <| mm_c (sn_irem dX5_commonDivisor_15) <| mm_c (sn_if_ne dX5_commonDivisor_16 (by decide)) <| mm_c (sn_iload_n dX5_commonDivisor_19 rfl) <| mm_c (sn_ireturn dX5_commonDivisor_20 rfl) <| mm_c (sn_iinc dX5_commonDivisor_21 (by decide) (by decide)) <| mm_c (sn_goto dX5_commonDivisor_24 (by decide)) <| mm_c (sn_iconst dX5_commonDivisor_27 (by decide)) <| mm_c (sn_ireturn dX5_commonDivisor_28 rfl) <| mm_n
end
section
/-! ===== the methods as rows of the small machine; printed by a program ===== -/
def M6_in : mm_M := (yX6_in, cX6_in, 6, (some .boolean))
theorem cw_6_in : Cond.code M6_in.1 M6_in.2.1 M6_in.2.2.1 M6_in.2.2.2 ∈ mm_tb := mm_mem 528 (by decide +kernel) rfl
def P6_in (l : Launch) (d : Nat) (post : mm_Po) : List (Nat × mm_S) := [(0, se_lload 0 1), (1, se_lload 2 2), (2, se_lcmp 3), (3, se_if_lt 17 6), (6, se_lload 0 7), (7, se_lload 4 9), (9, se_lcmp 10), (10, se_if_gt 17 13), (13, se_int 1 14), (14, se_goto 18), (17, se_int 0 18), (18, se_ret post true)]
set_option maxRecDepth 100000 in
theorem S6_in (l : Launch) (d : Nat) (E : mm_X) (post : mm_Po) : ∀ q ∈ P6_in l d post, mm_Sn l d M6_in E post q := mm_c (sn_lload_n dX6_in_0 rfl) <| mm_c (sn_lload_n dX6_in_1 rfl) <| mm_c (sn_lcmp dX6_in_2) <| mm_c (sn_if_lt dX6_in_3 (by decide)) <| mm_c (sn_lload_n dX6_in_6 rfl) <| mm_c (sn_lload dX6_in_7) <| mm_c (sn_lcmp dX6_in_9) <| mm_c (sn_if_gt dX6_in_10 (by decide)) <| mm_c (sn_iconst dX6_in_13 (by decide)) <| mm_c (sn_goto dX6_in_14 (by decide)) <| mm_c (sn_iconst dX6_in_17 (by decide)) <| mm_c (sn_zreturn dX6_in_18 rfl) <| mm_n
theorem F_X6_34 : mm_fok RX6 34 16 0 none := ⟨5, _, RX6, TX6, 12, rfl, rfl, rfl, by decide, mm_inTX6, mm_mem 484 (by decide +kernel) rfl⟩
theorem F_X6_34_w : mm_fw RX6 34 16 0 false := ⟨5, _, RX6, TX6, 12, tyX6, rfl, rfl, rfl, by decide, mm_inTX6, mm_mem 484 (by decide +kernel) rfl, tyX6_ok, nmX6, rfl, rfl⟩
theorem C_X6_38 : mm_cs RX6 38 M6_in 3 := ⟨mm_mem 526 (by decide +kernel) rfl, mm_mem 527 (by decide +kernel) rfl, mm_mem 42 (by decide +kernel) rfl, cw_6_in, by decide +kernel, by decide⟩
def M6_isPost : mm_M := (yX6_isPost, cX6_isPost, 2, (some .boolean))
theorem cw_6_isPost : Cond.code M6_isPost.1 M6_isPost.2.1 M6_isPost.2.2.1 M6_isPost.2.2.2 ∈ mm_tb := mm_mem 536 (by decide +kernel) rfl
def P6_isPost (l : Launch) (d : Nat) (post : mm_Po) : List (Nat × mm_S) := [(0, se_iload 1 1), (1, se_i2l 2), (2, se_lng 0 3), (3, se_aload 0 4), (4, se_getI 16 0 7), (7, se_int 1 8), (8, se_isub 9), (9, se_i2l 10), (10, se_callS l d M6_in 3 13), (13, se_ret post true)]
set_option maxRecDepth 100000 in
theorem S6_isPost (l : Launch) (d : Nat) (E : mm_X) (post : mm_Po) : ∀ q ∈ P6_isPost l d post, mm_Sn l d M6_isPost E post q := mm_c (sn_iload_n dX6_isPost_0 rfl) <| mm_c (sn_i2l dX6_isPost_1) <| mm_c (sn_lconst dX6_isPost_2 (by decide)) <| mm_c (sn_aload_n dX6_isPost_3 rfl) <| mm_c (sn_getI dX6_isPost_4 F_X6_34) <| mm_c (sn_iconst dX6_isPost_7 (by decide)) <| mm_c (sn_isub dX6_isPost_8) <| mm_c (sn_i2l dX6_isPost_9) <| mm_c (sn_callS dX6_isPost_10 C_X6_38) <| mm_c (sn_zreturn dX6_isPost_13 rfl) <| mm_n
theorem F_X6_7 : mm_fok RX6 7 16 1 (some 17) := ⟨5, _, RX6, TX6, 12, rfl, rfl, rfl, by decide, mm_inTX6, mm_mem 485 (by decide +kernel) rfl⟩
theorem F_X6_13 : mm_fok RX6 13 16 2 (some 18) := ⟨5, _, RX6, TX6, 12, rfl, rfl, rfl, by decide, mm_inTX6, mm_mem 486 (by decide +kernel) rfl⟩
theorem F_X6_16 : mm_fok RX6 16 16 3 (some 19) := ⟨5, _, RX6, TX6, 12, rfl, rfl, rfl, by decide, mm_inTX6, mm_mem 487 (by decide +kernel) rfl⟩
theorem F_X6_19 : mm_fok RX6 19 16 4 (some 20) := ⟨5, _, RX6, TX6, 12, rfl, rfl, rfl, by decide, mm_inTX6, mm_mem 488 (by decide +kernel) rfl⟩
def M6_posts : mm_M := (yX6_posts, cX6_posts, 3, (some .int))
theorem cw_6_posts : Cond.code M6_posts.1 M6_posts.2.1 M6_posts.2.2.1 M6_posts.2.2.2 ∈ mm_tb := mm_mem 524 (by decide +kernel) rfl
def P6_posts (l : Launch) (d : Nat) (post : mm_Po) : List (Nat × mm_S) := [(0, se_iload 1 1), (1, se_i2l 2), (2, se_lng 1 3), (3, se_lng 8 6), (6, se_callS l d M6_in 3 9), (9, se_if_ne 15 12), (12, se_int (-102) 14), (14, se_ret post false), (15, se_aload 0 16), (16, se_iload 1 17), (17, se_put false 16 0 20), (20, se_int 0 21), (21, se_istore 2 22), (22, se_iload 2 23), (23, se_int 8 25), (25, se_icmp_ge 62 28), (28, se_aload 0 29), (29, se_getR 16 17 32), (32, se_iload 2 33), (33, se_int 0 34), (34, se_iastore 35), (35, se_aload 0 36), (36, se_getR 16 18 39), (39, se_iload 2 40), (40, se_int 0 41), (41, se_iastore 42), (42, se_aload 0 43), (43, se_getR 16 19 46), (46, se_iload 2 47), (47, se_int 0 48), (48, se_iastore 49), (49, se_aload 0 50), (50, se_getR 16 20 53), (53, se_iload 2 54), (54, se_int 0 55), (55, se_iastore 56), (56, se_iinc 2 1 59), (59, se_goto 22), (62, se_aload 0 63), (63, se_getI 16 0 66), (66, se_ret post false)]
set_option maxRecDepth 100000 in
theorem S6_posts (l : Launch) (d : Nat) (E : mm_X) (post : mm_Po) : ∀ q ∈ P6_posts l d post, mm_Sn l d M6_posts E post q := mm_c (sn_iload_n dX6_posts_0 rfl) <| mm_c (sn_i2l dX6_posts_1) <| mm_c (sn_lconst dX6_posts_2 (by decide)) <| mm_c (sn_ldc2 dX6_posts_3 (mm_mem 525 (by decide +kernel) rfl)) <| mm_c (sn_callS dX6_posts_6 C_X6_38) <| mm_c (sn_if_ne dX6_posts_9 (by decide)) <| mm_c (sn_bipush dX6_posts_12 (by decide)) <| mm_c (sn_ireturn dX6_posts_14 rfl) <| mm_c (sn_aload_n dX6_posts_15 rfl) <| mm_c (sn_iload_n dX6_posts_16 rfl) <| mm_c (sn_put dX6_posts_17 F_X6_34_w) <| mm_c (sn_iconst dX6_posts_20 (by decide)) <| mm_c (sn_istore_n dX6_posts_21 rfl (by decide)) <| mm_c (sn_iload_n dX6_posts_22 rfl) <| mm_c (sn_bipush dX6_posts_23 (by decide)) <| mm_c (sn_icmp_ge dX6_posts_25 (by decide)) <| mm_c (sn_aload_n dX6_posts_28 rfl) <| mm_c (sn_getR dX6_posts_29 F_X6_7) <| mm_c (sn_iload_n dX6_posts_32 rfl) <| mm_c (sn_iconst dX6_posts_33 (by decide)) <| mm_c (sn_iastore dX6_posts_34) <| mm_c (sn_aload_n dX6_posts_35 rfl) <| mm_c (sn_getR dX6_posts_36 F_X6_13) <| mm_c (sn_iload_n dX6_posts_39 rfl) <| mm_c (sn_iconst dX6_posts_40 (by decide)) <| mm_c (sn_iastore dX6_posts_41) <| mm_c (sn_aload_n dX6_posts_42 rfl) <| mm_c (sn_getR dX6_posts_43 F_X6_16) <| mm_c (sn_iload_n dX6_posts_46 rfl) <| mm_c (sn_iconst dX6_posts_47 (by decide)) <| mm_c (sn_iastore dX6_posts_48) <| mm_c (sn_aload_n dX6_posts_49 rfl) <| mm_c (sn_getR dX6_posts_50 F_X6_19) <| mm_c (sn_iload_n dX6_posts_53 rfl) <| mm_c (sn_iconst dX6_posts_54 (by decide)) <| mm_c (sn_iastore dX6_posts_55) <| mm_c (sn_iinc dX6_posts_56 (by decide) (by decide)) <| mm_c (sn_goto dX6_posts_59 (by decide)) <| mm_c (sn_aload_n dX6_posts_62 rfl) <| mm_c (sn_getI dX6_posts_63 F_X6_34) <| mm_c (sn_ireturn dX6_posts_66 rfl) <| mm_n
def M6_areNear : mm_M := (yX6_areNear, cX6_areNear, 3, (some .boolean))
theorem cw_6_areNear : Cond.code M6_areNear.1 M6_areNear.2.1 M6_areNear.2.2.1 M6_areNear.2.2.2 ∈ mm_tb := mm_mem 562 (by decide +kernel) rfl
def P6_areNear (l : Launch) (d : Nat) (post : mm_Po) : List (Nat × mm_S) := [(0, se_aload 0 1), (1, se_getR 16 17 4), (4, se_iload 1 5), (5, se_iaload 6), (6, se_iload 2 7), (7, se_ishr 8), (8, se_int 1 9), (9, se_iand 10), (10, se_int 1 11), (11, se_icmp_ne 18 14), (14, se_int 1 15), (15, se_goto 19), (18, se_int 0 19), (19, se_ret post true)]
set_option maxRecDepth 100000 in
theorem S6_areNear (l : Launch) (d : Nat) (E : mm_X) (post : mm_Po) : ∀ q ∈ P6_areNear l d post, mm_Sn l d M6_areNear E post q := mm_c (sn_aload_n dX6_areNear_0 rfl) <| mm_c (sn_getR dX6_areNear_1 F_X6_7) <| mm_c (sn_iload_n dX6_areNear_4 rfl) <| mm_c (sn_iaload dX6_areNear_5) <| mm_c (sn_iload_n dX6_areNear_6 rfl) <| mm_c (sn_ishr dX6_areNear_7) <| mm_c (sn_iconst dX6_areNear_8 (by decide)) <| mm_c (sn_iand dX6_areNear_9) <| mm_c (sn_iconst dX6_areNear_10 (by decide)) <| mm_c (sn_icmp_ne dX6_areNear_11 (by decide)) <| mm_c (sn_iconst dX6_areNear_14 (by decide)) <| mm_c (sn_goto dX6_areNear_15 (by decide)) <| mm_c (sn_iconst dX6_areNear_18 (by decide)) <| mm_c (sn_zreturn dX6_areNear_19 rfl) <| mm_n
theorem C_X6_44 : mm_cv RX6 44 M6_isPost 1 16 := ⟨mm_mem 533 (by decide +kernel) rfl, mm_mem 535 (by decide +kernel) rfl, mm_mem 14 (by decide +kernel) rfl, mm_mem 42 (by decide +kernel) rfl, cw_6_isPost, by decide +kernel, by decide, 5, _, _, _, rfl, rfl⟩
def M6_line : mm_M := (yX6_line, cX6_line, 5, (some .int))
theorem cw_6_line : Cond.code M6_line.1 M6_line.2.1 M6_line.2.2.1 M6_line.2.2.2 ∈ mm_tb := mm_mem 532 (by decide +kernel) rfl
def P6_line (l : Launch) (d : Nat) (post : mm_Po) : List (Nat × mm_S) := [(0, se_aload 0 1), (1, se_iload 1 2), (2, se_callV l d M6_isPost 1 16 5), (5, se_if_eq 16 8), (8, se_aload 0 9), (9, se_iload 2 10), (10, se_callV l d M6_isPost 1 16 13), (13, se_if_ne 19 16), (16, se_int (-101) 18), (18, se_ret post false), (19, se_iload 1 20), (20, se_iload 2 21), (21, se_icmp_ne 27 24), (24, se_int (-102) 26), (26, se_ret post false), (27, se_aload 0 28), (28, se_getR 16 17 31), (31, se_iload 1 32), (32, se_iaload 33), (33, se_iload 2 34), (34, se_ishr 35), (35, se_int 1 36), (36, se_iand 37), (37, se_istore 4 39), (39, se_aload 0 40), (40, se_getR 16 17 43), (43, se_iload 1 44), (44, se_iload 3 45), (45, se_if_eq 61 48), (48, se_aload 0 49), (49, se_getR 16 17 52), (52, se_iload 1 53), (53, se_iaload 54), (54, se_int 1 55), (55, se_iload 2 56), (56, se_ishl 57), (57, se_ior 58), (58, se_goto 73), (61, se_aload 0 62), (62, se_getR 16 17 65), (65, se_iload 1 66), (66, se_iaload 67), (67, se_int 1 68), (68, se_iload 2 69), (69, se_ishl 70), (70, se_int (-1) 71), (71, se_ixor 72), (72, se_iand 73), (73, se_iastore 74), (74, se_aload 0 75), (75, se_getR 16 17 78), (78, se_iload 2 79), (79, se_iload 3 80), (80, se_if_eq 96 83), (83, se_aload 0 84), (84, se_getR 16 17 87), (87, se_iload 2 88), (88, se_iaload 89), (89, se_int 1 90), (90, se_iload 1 91), (91, se_ishl 92), (92, se_ior 93), (93, se_goto 108), (96, se_aload 0 97), (97, se_getR 16 17 100), (100, se_iload 2 101), (101, se_iaload 102), (102, se_int 1 103), (103, se_iload 1 104), (104, se_ishl 105), (105, se_int (-1) 106), (106, se_ixor 107), (107, se_iand 108), (108, se_iastore 109), (109, se_iload 4 111), (111, se_ret post false)]
set_option maxRecDepth 100000 in
theorem S6_line (l : Launch) (d : Nat) (E : mm_X) (post : mm_Po) : ∀ q ∈ P6_line l d post, mm_Sn l d M6_line E post q := mm_c (sn_aload_n dX6_line_0 rfl) <| mm_c (sn_iload_n dX6_line_1 rfl) <| mm_c (sn_callV dX6_line_2 C_X6_44) <| mm_c (sn_if_eq dX6_line_5 (by decide)) <| mm_c (sn_aload_n dX6_line_8 rfl) <| mm_c (sn_iload_n dX6_line_9 rfl) <| mm_c (sn_callV dX6_line_10 C_X6_44) <| mm_c (sn_if_ne dX6_line_13 (by decide)) <| mm_c (sn_bipush dX6_line_16 (by decide)) <| mm_c (sn_ireturn dX6_line_18 rfl) <| mm_c (sn_iload_n dX6_line_19 rfl) <| mm_c (sn_iload_n dX6_line_20 rfl) <| mm_c (sn_icmp_ne dX6_line_21 (by decide)) <| mm_c (sn_bipush dX6_line_24 (by decide)) <| mm_c (sn_ireturn dX6_line_26 rfl) <| mm_c (sn_aload_n dX6_line_27 rfl) <| mm_c (sn_getR dX6_line_28 F_X6_7) <| mm_c (sn_iload_n dX6_line_31 rfl) <| mm_c (sn_iaload dX6_line_32) <| mm_c (sn_iload_n dX6_line_33 rfl) <| mm_c (sn_ishr dX6_line_34) <| mm_c (sn_iconst dX6_line_35 (by decide)) <| mm_c (sn_iand dX6_line_36) <| mm_c (sn_istore dX6_line_37 (by decide)) <| mm_c (sn_aload_n dX6_line_39 rfl) <| mm_c (sn_getR dX6_line_40 F_X6_7) <| mm_c (sn_iload_n dX6_line_43 rfl) <| mm_c (sn_iload_n dX6_line_44 rfl) <| mm_c (sn_if_eq dX6_line_45 (by decide)) <| mm_c (sn_aload_n dX6_line_48 rfl) <| mm_c (sn_getR dX6_line_49 F_X6_7) <| mm_c (sn_iload_n dX6_line_52 rfl) <| mm_c (sn_iaload dX6_line_53) <| mm_c (sn_iconst dX6_line_54 (by decide)) <| mm_c (sn_iload_n dX6_line_55 rfl) <| mm_c (sn_ishl dX6_line_56) <| mm_c (sn_ior dX6_line_57) <| mm_c (sn_goto dX6_line_58 (by decide)) <| mm_c (sn_aload_n dX6_line_61 rfl) <| mm_c (sn_getR dX6_line_62 F_X6_7) <| mm_c (sn_iload_n dX6_line_65 rfl) <| mm_c (sn_iaload dX6_line_66) <| mm_c (sn_iconst dX6_line_67 (by decide)) <| mm_c (sn_iload_n dX6_line_68 rfl) <| mm_c (sn_ishl dX6_line_69) <| mm_c (sn_iconst dX6_line_70 (by decide)) <| mm_c (sn_ixor dX6_line_71) <| mm_c (sn_iand dX6_line_72) <| mm_c (sn_iastore dX6_line_73) <| mm_c (sn_aload_n dX6_line_74 rfl) <| mm_c (sn_getR dX6_line_75 F_X6_7) <| mm_c (sn_iload_n dX6_line_78 rfl) <| mm_c (sn_iload_n dX6_line_79 rfl) <| mm_c (sn_if_eq dX6_line_80 (by decide)) <| mm_c (sn_aload_n dX6_line_83 rfl) <| mm_c (sn_getR dX6_line_84 F_X6_7) <| mm_c (sn_iload_n dX6_line_87 rfl) <| mm_c (sn_iaload dX6_line_88) <| mm_c (sn_iconst dX6_line_89 (by decide)) <| mm_c (sn_iload_n dX6_line_90 rfl) <| mm_c (sn_ishl dX6_line_91) <| mm_c (sn_ior dX6_line_92) <| mm_c (sn_goto dX6_line_93 (by decide)) <| mm_c (sn_aload_n dX6_line_96 rfl) <| mm_c (sn_getR dX6_line_97 F_X6_7) <| mm_c (sn_iload_n dX6_line_100 rfl) <| mm_c (sn_iaload dX6_line_101) <| mm_c (sn_iconst dX6_line_102 (by decide)) <| mm_c (sn_iload_n dX6_line_103 rfl) <| mm_c (sn_ishl dX6_line_104) <| mm_c (sn_iconst dX6_line_105 (by decide)) <| mm_c (sn_ixor dX6_line_106) <| mm_c (sn_iand dX6_line_107) <| mm_c (sn_iastore dX6_line_108) <| mm_c (sn_iload dX6_line_109) <| mm_c (sn_ireturn dX6_line_111 rfl) <| mm_n
def M6_mark : mm_M := (yX6_mark, cX6_mark, 4, (some .int))
theorem cw_6_mark : Cond.code M6_mark.1 M6_mark.2.1 M6_mark.2.2.1 M6_mark.2.2.2 ∈ mm_tb := mm_mem 540 (by decide +kernel) rfl
def P6_mark (l : Launch) (d : Nat) (post : mm_Po) : List (Nat × mm_S) := [(0, se_aload 0 1), (1, se_iload 1 2), (2, se_callV l d M6_isPost 1 16 5), (5, se_if_ne 11 8), (8, se_int (-101) 10), (10, se_ret post false), (11, se_iload 2 12), (12, se_i2l 13), (13, se_lng 0 14), (14, se_lng 3 17), (17, se_callS l d M6_in 3 20), (20, se_if_ne 26 23), (23, se_int (-102) 25), (25, se_ret post false), (26, se_aload 0 27), (27, se_getR 16 18 30), (30, se_iload 1 31), (31, se_iaload 32), (32, se_istore 3 33), (33, se_aload 0 34), (34, se_getR 16 18 37), (37, se_iload 1 38), (38, se_iload 2 39), (39, se_iastore 40), (40, se_iload 3 41), (41, se_ret post false)]
set_option maxRecDepth 100000 in
theorem S6_mark (l : Launch) (d : Nat) (E : mm_X) (post : mm_Po) : ∀ q ∈ P6_mark l d post, mm_Sn l d M6_mark E post q := mm_c (sn_aload_n dX6_mark_0 rfl) <| mm_c (sn_iload_n dX6_mark_1 rfl) <| mm_c (sn_callV dX6_mark_2 C_X6_44) <| mm_c (sn_if_ne dX6_mark_5 (by decide)) <| mm_c (sn_bipush dX6_mark_8 (by decide)) <| mm_c (sn_ireturn dX6_mark_10 rfl) <| mm_c (sn_iload_n dX6_mark_11 rfl) <| mm_c (sn_i2l dX6_mark_12) <| mm_c (sn_lconst dX6_mark_13 (by decide)) <| mm_c (sn_ldc2 dX6_mark_14 (mm_mem 541 (by decide +kernel) rfl)) <| mm_c (sn_callS dX6_mark_17 C_X6_38) <| mm_c (sn_if_ne dX6_mark_20 (by decide)) <| mm_c (sn_bipush dX6_mark_23 (by decide)) <| mm_c (sn_ireturn dX6_mark_25 rfl) <| mm_c (sn_aload_n dX6_mark_26 rfl) <| mm_c (sn_getR dX6_mark_27 F_X6_13) <| mm_c (sn_iload_n dX6_mark_30 rfl) <| mm_c (sn_iaload dX6_mark_31) <| mm_c (sn_istore_n dX6_mark_32 rfl (by decide)) <| mm_c (sn_aload_n dX6_mark_33 rfl) <| mm_c (sn_getR dX6_mark_34 F_X6_13) <| mm_c (sn_iload_n dX6_mark_37 rfl) <| mm_c (sn_iload_n dX6_mark_38 rfl) <| mm_c (sn_iastore dX6_mark_39) <| mm_c (sn_iload_n dX6_mark_40 rfl) <| mm_c (sn_ireturn dX6_mark_41 rfl) <| mm_n
theorem F_X6_52 : mm_fok RX6 52 16 5 none := ⟨5, _, RX6, TX6, 12, rfl, rfl, rfl, by decide, mm_inTX6, mm_mem 489 (by decide +kernel) rfl⟩
theorem F_X6_52_w : mm_fw RX6 52 16 5 false := ⟨5, _, RX6, TX6, 12, tyX6, rfl, rfl, rfl, by decide, mm_inTX6, mm_mem 489 (by decide +kernel) rfl, tyX6_ok, nmX6, rfl, rfl⟩
def M6_scheme : mm_M := (yX6_scheme, cX6_scheme, 3, (some .int))
theorem cw_6_scheme : Cond.code M6_scheme.1 M6_scheme.2.1 M6_scheme.2.2.1 M6_scheme.2.2.2 ∈ mm_tb := mm_mem 545 (by decide +kernel) rfl
def P6_scheme (l : Launch) (d : Nat) (post : mm_Po) : List (Nat × mm_S) := [(0, se_iload 1 1), (1, se_i2l 2), (2, se_lng 0 3), (3, se_lng 4 6), (6, se_callS l d M6_in 3 9), (9, se_if_ne 15 12), (12, se_int (-102) 14), (14, se_ret post false), (15, se_aload 0 16), (16, se_getI 16 5 19), (19, se_istore 2 20), (20, se_aload 0 21), (21, se_iload 1 22), (22, se_put false 16 5 25), (25, se_iload 2 26), (26, se_ret post false)]
set_option maxRecDepth 100000 in
theorem S6_scheme (l : Launch) (d : Nat) (E : mm_X) (post : mm_Po) : ∀ q ∈ P6_scheme l d post, mm_Sn l d M6_scheme E post q := mm_c (sn_iload_n dX6_scheme_0 rfl) <| mm_c (sn_i2l dX6_scheme_1) <| mm_c (sn_lconst dX6_scheme_2 (by decide)) <| mm_c (sn_ldc2 dX6_scheme_3 (mm_mem 546 (by decide +kernel) rfl)) <| mm_c (sn_callS dX6_scheme_6 C_X6_38) <| mm_c (sn_if_ne dX6_scheme_9 (by decide)) <| mm_c (sn_bipush dX6_scheme_12 (by decide)) <| mm_c (sn_ireturn dX6_scheme_14 rfl) <| mm_c (sn_aload_n dX6_scheme_15 rfl) <| mm_c (sn_getI dX6_scheme_16 F_X6_52) <| mm_c (sn_istore_n dX6_scheme_19 rfl (by decide)) <| mm_c (sn_aload_n dX6_scheme_20 rfl) <| mm_c (sn_iload_n dX6_scheme_21 rfl) <| mm_c (sn_put dX6_scheme_22 F_X6_52_w) <| mm_c (sn_iload_n dX6_scheme_25 rfl) <| mm_c (sn_ireturn dX6_scheme_26 rfl) <| mm_n
theorem F_X6_22 : mm_fok RX6 22 16 6 (some 21) := ⟨5, _, RX6, TX6, 12, rfl, rfl, rfl, by decide, mm_inTX6, mm_mem 490 (by decide +kernel) rfl⟩
theorem C_X6_55 : mm_cv RX6 55 M6_areNear 2 16 := ⟨mm_mem 559 (by decide +kernel) rfl, mm_mem 561 (by decide +kernel) rfl, mm_mem 17 (by decide +kernel) rfl, mm_mem 42 (by decide +kernel) rfl, cw_6_areNear, by decide +kernel, by decide, 5, _, _, _, rfl, rfl⟩
def M6_spread : mm_M := (yX6_spread, cX6_spread, 5, none)
theorem cw_6_spread : Cond.code M6_spread.1 M6_spread.2.1 M6_spread.2.2.1 M6_spread.2.2.2 ∈ mm_tb := mm_mem 578 (by decide +kernel) rfl
def P6_spread (l : Launch) (d : Nat) (post : mm_Po) : List (Nat × mm_S) := [(0, se_int 0 1), (1, se_istore 2 2), (2, se_iload 2 3), (3, se_aload 0 4), (4, se_getI 16 0 7), (7, se_icmp_ge 32 10), (10, se_aload 0 11), (11, se_getR 16 21 14), (14, se_iload 2 15), (15, se_iload 2 16), (16, se_iload 1 17), (17, se_icmp_ne 24 20), (20, se_int 0 21), (21, se_goto 25), (24, se_int (-1) 25), (25, se_iastore 26), (26, se_iinc 2 1 29), (29, se_goto 2), (32, se_int 0 33), (33, se_istore 2 34), (34, se_iload 2 35), (35, se_aload 0 36), (36, se_getI 16 0 39), (39, se_icmp_ge 123 42), (42, se_int 0 43), (43, se_istore 3 44), (44, se_iload 3 45), (45, se_aload 0 46), (46, se_getI 16 0 49), (49, se_icmp_ge 117 52), (52, se_int 0 53), (53, se_istore 4 55), (55, se_iload 4 57), (57, se_aload 0 58), (58, se_getI 16 0 61), (61, se_icmp_ge 111 64), (64, se_aload 0 65), (65, se_getR 16 21 68), (68, se_iload 3 69), (69, se_iaload 70), (70, se_iload 2 71), (71, se_icmp_ne 105 74), (74, se_aload 0 75), (75, se_iload 3 76), (76, se_iload 4 78), (78, se_callV l d M6_areNear 2 16 81), (81, se_if_eq 105 84), (84, se_aload 0 85), (85, se_getR 16 21 88), (88, se_iload 4 90), (90, se_iaload 91), (91, se_int (-1) 92), (92, se_icmp_ne 105 95), (95, se_aload 0 96), (96, se_getR 16 21 99), (99, se_iload 4 101), (101, se_iload 2 102), (102, se_int 1 103), (103, se_iadd 104), (104, se_iastore 105), (105, se_iinc 4 1 108), (108, se_goto 55), (111, se_iinc 3 1 114), (114, se_goto 44), (117, se_iinc 2 1 120), (120, se_goto 34), (123, se_vret post)]
set_option maxRecDepth 100000 in
theorem S6_spread (l : Launch) (d : Nat) (E : mm_X) (post : mm_Po) : ∀ q ∈ P6_spread l d post, mm_Sn l d M6_spread E post q := mm_c (sn_iconst dX6_spread_0 (by decide)) <| mm_c (sn_istore_n dX6_spread_1 rfl (by decide)) <| mm_c (sn_iload_n dX6_spread_2 rfl) <| mm_c (sn_aload_n dX6_spread_3 rfl) <| mm_c (sn_getI dX6_spread_4 F_X6_34) <| mm_c (sn_icmp_ge dX6_spread_7 (by decide)) <| mm_c (sn_aload_n dX6_spread_10 rfl) <| mm_c (sn_getR dX6_spread_11 F_X6_22) <| mm_c (sn_iload_n dX6_spread_14 rfl) <| mm_c (sn_iload_n dX6_spread_15 rfl) <| mm_c (sn_iload_n dX6_spread_16 rfl) <| mm_c (sn_icmp_ne dX6_spread_17 (by decide)) <| mm_c (sn_iconst dX6_spread_20 (by decide)) <| mm_c (sn_goto dX6_spread_21 (by decide)) <| mm_c (sn_iconst dX6_spread_24 (by decide)) <| mm_c (sn_iastore dX6_spread_25) <| mm_c (sn_iinc dX6_spread_26 (by decide) (by decide)) <| mm_c (sn_goto dX6_spread_29 (by decide)) <| mm_c (sn_iconst dX6_spread_32 (by decide)) <| mm_c (sn_istore_n dX6_spread_33 rfl (by decide)) <| mm_c (sn_iload_n dX6_spread_34 rfl) <| mm_c (sn_aload_n dX6_spread_35 rfl) <| mm_c (sn_getI dX6_spread_36 F_X6_34) <| mm_c (sn_icmp_ge dX6_spread_39 (by decide)) <| mm_c (sn_iconst dX6_spread_42 (by decide)) <| mm_c (sn_istore_n dX6_spread_43 rfl (by decide)) <| mm_c (sn_iload_n dX6_spread_44 rfl) <| mm_c (sn_aload_n dX6_spread_45 rfl) <| mm_c (sn_getI dX6_spread_46 F_X6_34) <| mm_c (sn_icmp_ge dX6_spread_49 (by decide)) <| mm_c (sn_iconst dX6_spread_52 (by decide)) <| mm_c (sn_istore dX6_spread_53 (by decide)) <| mm_c (sn_iload dX6_spread_55) <| mm_c (sn_aload_n dX6_spread_57 rfl) <| mm_c (sn_getI dX6_spread_58 F_X6_34) <| mm_c (sn_icmp_ge dX6_spread_61 (by decide)) <| mm_c (sn_aload_n dX6_spread_64 rfl) <| mm_c (sn_getR dX6_spread_65 F_X6_22) <| mm_c (sn_iload_n dX6_spread_68 rfl) <| mm_c (sn_iaload dX6_spread_69) <| mm_c (sn_iload_n dX6_spread_70 rfl) <| mm_c (sn_icmp_ne dX6_spread_71 (by decide)) <| mm_c (sn_aload_n dX6_spread_74 rfl) <| mm_c (sn_iload_n dX6_spread_75 rfl) <| mm_c (sn_iload dX6_spread_76) <| mm_c (sn_callV dX6_spread_78 C_X6_55) <| mm_c (sn_if_eq dX6_spread_81 (by decide)) <| mm_c (sn_aload_n dX6_spread_84 rfl) <| mm_c (sn_getR dX6_spread_85 F_X6_22) <| mm_c (sn_iload dX6_spread_88) <| mm_c (sn_iaload dX6_spread_90) <| mm_c (sn_iconst dX6_spread_91 (by decide)) <| mm_c (sn_icmp_ne dX6_spread_92 (by decide)) <| mm_c (sn_aload_n dX6_spread_95 rfl) <| mm_c (sn_getR dX6_spread_96 F_X6_22) <| mm_c (sn_iload dX6_spread_99) <| mm_c (sn_iload_n dX6_spread_101 rfl) <| mm_c (sn_iconst dX6_spread_102 (by decide)) <| mm_c (sn_iadd dX6_spread_103) <| mm_c (sn_iastore dX6_spread_104) <| mm_c (sn_iinc dX6_spread_105 (by decide) (by decide)) <| mm_c (sn_goto dX6_spread_108 (by decide)) <| mm_c (sn_iinc dX6_spread_111 (by decide) (by decide)) <| mm_c (sn_goto dX6_spread_114 (by decide)) <| mm_c (sn_iinc dX6_spread_117 (by decide) (by decide)) <| mm_c (sn_goto dX6_spread_120 (by decide)) <| mm_c (sn_return dX6_spread_123 rfl) <| mm_n
theorem C_X6_59 : mm_cv RX6 59 M6_spread 1 16 := ⟨mm_mem 575 (by decide +kernel) rfl, mm_mem 577 (by decide +kernel) rfl, mm_mem 21 (by decide +kernel) rfl, mm_mem 42 (by decide +kernel) rfl, cw_6_spread, by decide +kernel, by decide, 5, _, _, _, rfl, rfl⟩
def M6_firstOf : mm_M := (yX6_firstOf, cX6_firstOf, 3, (some .int))
theorem cw_6_firstOf : Cond.code M6_firstOf.1 M6_firstOf.2.1 M6_firstOf.2.2.1 M6_firstOf.2.2.2 ∈ mm_tb := mm_mem 574 (by decide +kernel) rfl
def P6_firstOf (l : Launch) (d : Nat) (post : mm_Po) : List (Nat × mm_S) := [(0, se_aload 0 1), (1, se_iload 1 2), (2, se_callV l d M6_spread 1 16 5), (5, se_int 0 6), (6, se_istore 2 7), (7, se_aload 0 8), (8, se_getR 16 21 11), (11, se_iload 2 12), (12, se_iaload 13), (13, se_int (-1) 14), (14, se_icmp_ne 23 17), (17, se_iinc 2 1 20), (20, se_goto 7), (23, se_iload 2 24), (24, se_ret post false)]
set_option maxRecDepth 100000 in
theorem S6_firstOf (l : Launch) (d : Nat) (E : mm_X) (post : mm_Po) : ∀ q ∈ P6_firstOf l d post, mm_Sn l d M6_firstOf E post q := mm_c (sn_aload_n dX6_firstOf_0 rfl) <| mm_c (sn_iload_n dX6_firstOf_1 rfl) <| mm_c (sn_callV dX6_firstOf_2 C_X6_59) <| mm_c (sn_iconst dX6_firstOf_5 (by decide)) <| mm_c (sn_istore_n dX6_firstOf_6 rfl (by decide)) <| mm_c (sn_aload_n dX6_firstOf_7 rfl) <| mm_c (sn_getR dX6_firstOf_8 F_X6_22) <| mm_c (sn_iload_n dX6_firstOf_11 rfl) <| mm_c (sn_iaload dX6_firstOf_12) <| mm_c (sn_iconst dX6_firstOf_13 (by decide)) <| mm_c (sn_icmp_ne dX6_firstOf_14 (by decide)) <| mm_c (sn_iinc dX6_firstOf_17 (by decide) (by decide)) <| mm_c (sn_goto dX6_firstOf_20 (by decide)) <| mm_c (sn_iload_n dX6_firstOf_23 rfl) <| mm_c (sn_ireturn dX6_firstOf_24 rfl) <| mm_n
theorem C_X6_63 : mm_cv RX6 63 M6_firstOf 1 16 := ⟨mm_mem 571 (by decide +kernel) rfl, mm_mem 573 (by decide +kernel) rfl, mm_mem 20 (by decide +kernel) rfl, mm_mem 42 (by decide +kernel) rfl, cw_6_firstOf, by decide +kernel, by decide, 5, _, _, _, rfl, rfl⟩
def M6_setsOf : mm_M := (yX6_setsOf, cX6_setsOf, 3, (some .int))
theorem cw_6_setsOf : Cond.code M6_setsOf.1 M6_setsOf.2.1 M6_setsOf.2.2.1 M6_setsOf.2.2.2 ∈ mm_tb := mm_mem 570 (by decide +kernel) rfl
def P6_setsOf (l : Launch) (d : Nat) (post : mm_Po) : List (Nat × mm_S) := [(0, se_int 0 1), (1, se_istore 1 2), (2, se_int 0 3), (3, se_istore 2 4), (4, se_iload 2 5), (5, se_aload 0 6), (6, se_getI 16 0 9), (9, se_icmp_ge 35 12), (12, se_iload 1 13), (13, se_aload 0 14), (14, se_iload 2 15), (15, se_callV l d M6_firstOf 1 16 18), (18, se_iload 2 19), (19, se_icmp_ne 26 22), (22, se_int 1 23), (23, se_goto 27), (26, se_int 0 27), (27, se_iadd 28), (28, se_istore 1 29), (29, se_iinc 2 1 32), (32, se_goto 4), (35, se_iload 1 36), (36, se_ret post false)]
set_option maxRecDepth 100000 in
theorem S6_setsOf (l : Launch) (d : Nat) (E : mm_X) (post : mm_Po) : ∀ q ∈ P6_setsOf l d post, mm_Sn l d M6_setsOf E post q := mm_c (sn_iconst dX6_setsOf_0 (by decide)) <| mm_c (sn_istore_n dX6_setsOf_1 rfl (by decide)) <| mm_c (sn_iconst dX6_setsOf_2 (by decide)) <| mm_c (sn_istore_n dX6_setsOf_3 rfl (by decide)) <| mm_c (sn_iload_n dX6_setsOf_4 rfl) <| mm_c (sn_aload_n dX6_setsOf_5 rfl) <| mm_c (sn_getI dX6_setsOf_6 F_X6_34) <| mm_c (sn_icmp_ge dX6_setsOf_9 (by decide)) <| mm_c (sn_iload_n dX6_setsOf_12 rfl) <| mm_c (sn_aload_n dX6_setsOf_13 rfl) <| mm_c (sn_iload_n dX6_setsOf_14 rfl) <| mm_c (sn_callV dX6_setsOf_15 C_X6_63) <| mm_c (sn_iload_n dX6_setsOf_18 rfl) <| mm_c (sn_icmp_ne dX6_setsOf_19 (by decide)) <| mm_c (sn_iconst dX6_setsOf_22 (by decide)) <| mm_c (sn_goto dX6_setsOf_23 (by decide)) <| mm_c (sn_iconst dX6_setsOf_26 (by decide)) <| mm_c (sn_iadd dX6_setsOf_27) <| mm_c (sn_istore_n dX6_setsOf_28 rfl (by decide)) <| mm_c (sn_iinc dX6_setsOf_29 (by decide) (by decide)) <| mm_c (sn_goto dX6_setsOf_32 (by decide)) <| mm_c (sn_iload_n dX6_setsOf_35 rfl) <| mm_c (sn_ireturn dX6_setsOf_36 rfl) <| mm_n
def M6_linesOf : mm_M := (yX6_linesOf, cX6_linesOf, 4, (some .int))
theorem cw_6_linesOf : Cond.code M6_linesOf.1 M6_linesOf.2.1 M6_linesOf.2.2.1 M6_linesOf.2.2.2 ∈ mm_tb := mm_mem 566 (by decide +kernel) rfl
def P6_linesOf (l : Launch) (d : Nat) (post : mm_Po) : List (Nat × mm_S) := [(0, se_int 0 1), (1, se_istore 1 2), (2, se_int 0 3), (3, se_istore 2 4), (4, se_iload 2 5), (5, se_aload 0 6), (6, se_getI 16 0 9), (9, se_icmp_ge 48 12), (12, se_int 0 13), (13, se_istore 3 14), (14, se_iload 3 15), (15, se_iload 2 16), (16, se_icmp_ge 42 19), (19, se_iload 1 20), (20, se_aload 0 21), (21, se_iload 2 22), (22, se_iload 3 23), (23, se_callV l d M6_areNear 2 16 26), (26, se_if_eq 33 29), (29, se_int 1 30), (30, se_goto 34), (33, se_int 0 34), (34, se_iadd 35), (35, se_istore 1 36), (36, se_iinc 3 1 39), (39, se_goto 14), (42, se_iinc 2 1 45), (45, se_goto 4), (48, se_iload 1 49), (49, se_ret post false)]
set_option maxRecDepth 100000 in
theorem S6_linesOf (l : Launch) (d : Nat) (E : mm_X) (post : mm_Po) : ∀ q ∈ P6_linesOf l d post, mm_Sn l d M6_linesOf E post q := mm_c (sn_iconst dX6_linesOf_0 (by decide)) <| mm_c (sn_istore_n dX6_linesOf_1 rfl (by decide)) <| mm_c (sn_iconst dX6_linesOf_2 (by decide)) <| mm_c (sn_istore_n dX6_linesOf_3 rfl (by decide)) <| mm_c (sn_iload_n dX6_linesOf_4 rfl) <| mm_c (sn_aload_n dX6_linesOf_5 rfl) <| mm_c (sn_getI dX6_linesOf_6 F_X6_34) <| mm_c (sn_icmp_ge dX6_linesOf_9 (by decide)) <| mm_c (sn_iconst dX6_linesOf_12 (by decide)) <| mm_c (sn_istore_n dX6_linesOf_13 rfl (by decide)) <| mm_c (sn_iload_n dX6_linesOf_14 rfl) <| mm_c (sn_iload_n dX6_linesOf_15 rfl) <| mm_c (sn_icmp_ge dX6_linesOf_16 (by decide)) <| mm_c (sn_iload_n dX6_linesOf_19 rfl) <| mm_c (sn_aload_n dX6_linesOf_20 rfl) <| mm_c (sn_iload_n dX6_linesOf_21 rfl) <| mm_c (sn_iload_n dX6_linesOf_22 rfl) <| mm_c (sn_callV dX6_linesOf_23 C_X6_55) <| mm_c (sn_if_eq dX6_linesOf_26 (by decide)) <| mm_c (sn_iconst dX6_linesOf_29 (by decide)) <| mm_c (sn_goto dX6_linesOf_30 (by decide)) <| mm_c (sn_iconst dX6_linesOf_33 (by decide)) <| mm_c (sn_iadd dX6_linesOf_34) <| mm_c (sn_istore_n dX6_linesOf_35 rfl (by decide)) <| mm_c (sn_iinc dX6_linesOf_36 (by decide) (by decide)) <| mm_c (sn_goto dX6_linesOf_39 (by decide)) <| mm_c (sn_iinc dX6_linesOf_42 (by decide) (by decide)) <| mm_c (sn_goto dX6_linesOf_45 (by decide)) <| mm_c (sn_iload_n dX6_linesOf_48 rfl) <| mm_c (sn_ireturn dX6_linesOf_49 rfl) <| mm_n
def M6_leaderOf : mm_M := (yX6_leaderOf, cX6_leaderOf, 4, (some .int))
theorem cw_6_leaderOf : Cond.code M6_leaderOf.1 M6_leaderOf.2.1 M6_leaderOf.2.2.1 M6_leaderOf.2.2.2 ∈ mm_tb := mm_mem 582 (by decide +kernel) rfl
def P6_leaderOf (l : Launch) (d : Nat) (post : mm_Po) : List (Nat × mm_S) := [(0, se_aload 0 1), (1, se_iload 1 2), (2, se_callV l d M6_spread 1 16 5), (5, se_int (-1) 6), (6, se_istore 2 7), (7, se_int 0 8), (8, se_istore 3 9), (9, se_iload 3 10), (10, se_aload 0 11), (11, se_getI 16 0 14), (14, se_icmp_ge 55 17), (17, se_aload 0 18), (18, se_getR 16 21 21), (21, se_iload 3 22), (22, se_iaload 23), (23, se_int (-1) 24), (24, se_icmp_eq 49 27), (27, se_aload 0 28), (28, se_getR 16 18 31), (31, se_iload 3 32), (32, se_iaload 33), (33, se_int 1 34), (34, se_icmp_ne 49 37), (37, se_iload 2 38), (38, se_int (-1) 39), (39, se_icmp_ne 46 42), (42, se_iload 3 43), (43, se_goto 48), (46, se_int (-2) 48), (48, se_istore 2 49), (49, se_iinc 3 1 52), (52, se_goto 9), (55, se_iload 2 56), (56, se_if_ge 63 59), (59, se_int (-1) 60), (60, se_goto 64), (63, se_iload 2 64), (64, se_ret post false)]
set_option maxRecDepth 100000 in
theorem S6_leaderOf (l : Launch) (d : Nat) (E : mm_X) (post : mm_Po) : ∀ q ∈ P6_leaderOf l d post, mm_Sn l d M6_leaderOf E post q := mm_c (sn_aload_n dX6_leaderOf_0 rfl) <| mm_c (sn_iload_n dX6_leaderOf_1 rfl) <| mm_c (sn_callV dX6_leaderOf_2 C_X6_59) <| mm_c (sn_iconst dX6_leaderOf_5 (by decide)) <| mm_c (sn_istore_n dX6_leaderOf_6 rfl (by decide)) <| mm_c (sn_iconst dX6_leaderOf_7 (by decide)) <| mm_c (sn_istore_n dX6_leaderOf_8 rfl (by decide)) <| mm_c (sn_iload_n dX6_leaderOf_9 rfl) <| mm_c (sn_aload_n dX6_leaderOf_10 rfl) <| mm_c (sn_getI dX6_leaderOf_11 F_X6_34) <| mm_c (sn_icmp_ge dX6_leaderOf_14 (by decide)) <| mm_c (sn_aload_n dX6_leaderOf_17 rfl) <| mm_c (sn_getR dX6_leaderOf_18 F_X6_22) <| mm_c (sn_iload_n dX6_leaderOf_21 rfl) <| mm_c (sn_iaload dX6_leaderOf_22) <| mm_c (sn_iconst dX6_leaderOf_23 (by decide)) <| mm_c (sn_icmp_eq dX6_leaderOf_24 (by decide)) <| mm_c (sn_aload_n dX6_leaderOf_27 rfl) <| mm_c (sn_getR dX6_leaderOf_28 F_X6_13) <| mm_c (sn_iload_n dX6_leaderOf_31 rfl) <| mm_c (sn_iaload dX6_leaderOf_32) <| mm_c (sn_iconst dX6_leaderOf_33 (by decide)) <| mm_c (sn_icmp_ne dX6_leaderOf_34 (by decide)) <| mm_c (sn_iload_n dX6_leaderOf_37 rfl) <| mm_c (sn_iconst dX6_leaderOf_38 (by decide)) <| mm_c (sn_icmp_ne dX6_leaderOf_39 (by decide)) <| mm_c (sn_iload_n dX6_leaderOf_42 rfl) <| mm_c (sn_goto dX6_leaderOf_43 (by decide)) <| mm_c (sn_bipush dX6_leaderOf_46 (by decide)) <| mm_c (sn_istore_n dX6_leaderOf_48 rfl (by decide)) <| mm_c (sn_iinc dX6_leaderOf_49 (by decide) (by decide)) <| mm_c (sn_goto dX6_leaderOf_52 (by decide)) <| mm_c (sn_iload_n dX6_leaderOf_55 rfl) <| mm_c (sn_if_ge dX6_leaderOf_56 (by decide)) <| mm_c (sn_iconst dX6_leaderOf_59 (by decide)) <| mm_c (sn_goto dX6_leaderOf_60 (by decide)) <| mm_c (sn_iload_n dX6_leaderOf_63 rfl) <| mm_c (sn_ireturn dX6_leaderOf_64 rfl) <| mm_n
theorem F_X6_25 : mm_fok RX6 25 16 7 (some 22) := ⟨5, _, RX6, TX6, 12, rfl, rfl, rfl, by decide, mm_inTX6, mm_mem 491 (by decide +kernel) rfl⟩
def M6_colours : mm_M := (yX6_colours, cX6_colours, 8, (some .boolean))
theorem cw_6_colours : Cond.code M6_colours.1 M6_colours.2.1 M6_colours.2.2.1 M6_colours.2.2.2 ∈ mm_tb := mm_mem 558 (by decide +kernel) rfl
def P6_colours (l : Launch) (d : Nat) (post : mm_Po) : List (Nat × mm_S) := [(0, se_int 1 1), (1, se_istore 2 2), (2, se_int 0 3), (3, se_istore 3 4), (4, se_iload 3 5), (5, se_aload 0 6), (6, se_getI 16 0 9), (9, se_icmp_ge 22 12), (12, se_iload 2 13), (13, se_iload 1 14), (14, se_imul 15), (15, se_istore 2 16), (16, se_iinc 3 1 19), (19, se_goto 4), (22, se_int 0 23), (23, se_istore 3 24), (24, se_iload 3 25), (25, se_iload 2 26), (26, se_icmp_ge 158 29), (29, se_iload 3 30), (30, se_istore 4 32), (32, se_aload 0 33), (33, se_getI 16 0 36), (36, se_int 1 37), (37, se_isub 38), (38, se_istore 5 40), (40, se_iload 5 42), (42, se_if_lt 68 45), (45, se_aload 0 46), (46, se_getR 16 22 49), (49, se_iload 5 51), (51, se_iload 4 53), (53, se_iload 1 54), (54, se_irem 55), (55, se_iastore 56), (56, se_iload 4 58), (58, se_iload 1 59), (59, se_idiv 60), (60, se_istore 4 62), (62, se_iinc 5 (-1) 65), (65, se_goto 40), (68, se_int 1 69), (69, se_istore 5 71), (71, se_int 0 72), (72, se_istore 6 74), (74, se_iload 6 76), (76, se_aload 0 77), (77, se_getI 16 0 80), (80, se_icmp_ge 145 83), (83, se_int 0 84), (84, se_istore 7 86), (86, se_iload 7 88), (88, se_iload 6 90), (90, se_icmp_ge 139 93), (93, se_iload 5 95), (95, se_if_eq 130 98), (98, se_aload 0 99), (99, se_iload 6 101), (101, se_iload 7 103), (103, se_callV l d M6_areNear 2 16 106), (106, se_if_eq 126 109), (109, se_aload 0 110), (110, se_getR 16 22 113), (113, se_iload 6 115), (115, se_iaload 116), (116, se_aload 0 117), (117, se_getR 16 22 120), (120, se_iload 7 122), (122, se_iaload 123), (123, se_icmp_eq 130 126), (126, se_int 1 127), (127, se_goto 131), (130, se_int 0 131), (131, se_istore 5 133), (133, se_iinc 7 1 136), (136, se_goto 86), (139, se_iinc 6 1 142), (142, se_goto 74), (145, se_iload 5 147), (147, se_if_eq 152 150), (150, se_int 1 151), (151, se_ret post true), (152, se_iinc 3 1 155), (155, se_goto 24), (158, se_int 0 159), (159, se_ret post true)]
set_option maxRecDepth 100000 in
theorem S6_colours (l : Launch) (d : Nat) (E : mm_X) (post : mm_Po) : ∀ q ∈ P6_colours l d post, mm_Sn l d M6_colours E post q := mm_c (sn_iconst dX6_colours_0 (by decide)) <| mm_c (sn_istore_n dX6_colours_1 rfl (by decide)) <| mm_c (sn_iconst dX6_colours_2 (by decide)) <| mm_c (sn_istore_n dX6_colours_3 rfl (by decide)) <| mm_c (sn_iload_n dX6_colours_4 rfl) <| mm_c (sn_aload_n dX6_colours_5 rfl) <| mm_c (sn_getI dX6_colours_6 F_X6_34) <| mm_c (sn_icmp_ge dX6_colours_9 (by decide)) <| mm_c (sn_iload_n dX6_colours_12 rfl) <| mm_c (sn_iload_n dX6_colours_13 rfl) <| mm_c (sn_imul dX6_colours_14) <| mm_c (sn_istore_n dX6_colours_15 rfl (by decide)) <| mm_c (sn_iinc dX6_colours_16 (by decide) (by decide)) <| mm_c (sn_goto dX6_colours_19 (by decide)) <| mm_c (sn_iconst dX6_colours_22 (by decide)) <| mm_c (sn_istore_n dX6_colours_23 rfl (by decide)) <| mm_c (sn_iload_n dX6_colours_24 rfl) <| mm_c (sn_iload_n dX6_colours_25 rfl) <| mm_c (sn_icmp_ge dX6_colours_26 (by decide)) <| mm_c (sn_iload_n dX6_colours_29 rfl) <| mm_c (sn_istore dX6_colours_30 (by decide)) <| mm_c (sn_aload_n dX6_colours_32 rfl) <| mm_c (sn_getI dX6_colours_33 F_X6_34) <| mm_c (sn_iconst dX6_colours_36 (by decide)) <| mm_c (sn_isub dX6_colours_37) <| mm_c (sn_istore dX6_colours_38 (by decide)) <| mm_c (sn_iload dX6_colours_40) <| mm_c (sn_if_lt dX6_colours_42 (by decide)) <| mm_c (sn_aload_n dX6_colours_45 rfl) <| mm_c (sn_getR dX6_colours_46 F_X6_25) <| mm_c (sn_iload dX6_colours_49) <| mm_c (sn_iload dX6_colours_51) <| mm_c (sn_iload_n dX6_colours_53 rfl) <| mm_c (sn_irem dX6_colours_54) <| mm_c (sn_iastore dX6_colours_55) <| mm_c (sn_iload dX6_colours_56) <| mm_c (sn_iload_n dX6_colours_58 rfl) <| mm_c (sn_idiv dX6_colours_59) <| mm_c (sn_istore dX6_colours_60 (by decide)) <| mm_c (sn_iinc dX6_colours_62 (by decide) (by decide)) <| mm_c (sn_goto dX6_colours_65 (by decide)) <| mm_c (sn_iconst dX6_colours_68 (by decide)) <| mm_c (sn_istore dX6_colours_69 (by decide)) <| mm_c (sn_iconst dX6_colours_71 (by decide)) <| mm_c (sn_istore dX6_colours_72 (by decide)) <| mm_c (sn_iload dX6_colours_74) <| mm_c (sn_aload_n dX6_colours_76 rfl) <| mm_c (sn_getI dX6_colours_77 F_X6_34) <| mm_c (sn_icmp_ge dX6_colours_80 (by decide)) <| mm_c (sn_iconst dX6_colours_83 (by decide)) <| mm_c (sn_istore dX6_colours_84 (by decide)) <| mm_c (sn_iload dX6_colours_86) <| mm_c (sn_iload dX6_colours_88) <| mm_c (sn_icmp_ge dX6_colours_90 (by decide)) <| mm_c (sn_iload dX6_colours_93) <| mm_c (sn_if_eq dX6_colours_95 (by decide)) <| mm_c (sn_aload_n dX6_colours_98 rfl) <| mm_c (sn_iload dX6_colours_99) <| mm_c (sn_iload dX6_colours_101) <| mm_c (sn_callV dX6_colours_103 C_X6_55) <| mm_c (sn_if_eq dX6_colours_106 (by decide)) <| mm_c (sn_aload_n dX6_colours_109 rfl) <| mm_c (sn_getR dX6_colours_110 F_X6_25) <| mm_c (sn_iload dX6_colours_113) <| mm_c (sn_iaload dX6_colours_115) <| mm_c (sn_aload_n dX6_colours_116 rfl) <| mm_c (sn_getR dX6_colours_117 F_X6_25) <| mm_c (sn_iload dX6_colours_120) <| mm_c (sn_iaload dX6_colours_122) <| mm_c (sn_icmp_eq dX6_colours_123 (by decide)) <| mm_c (sn_iconst dX6_colours_126 (by decide)) <| mm_c (sn_goto dX6_colours_127 (by decide)) <| mm_c (sn_iconst dX6_colours_130 (by decide)) <| mm_c (sn_istore dX6_colours_131 (by decide)) <| mm_c (sn_iinc dX6_colours_133 (by decide) (by decide)) <| mm_c (sn_goto dX6_colours_136 (by decide)) <| mm_c (sn_iinc dX6_colours_139 (by decide) (by decide)) <| mm_c (sn_goto dX6_colours_142 (by decide)) <| mm_c (sn_iload dX6_colours_145) <| mm_c (sn_if_eq dX6_colours_147 (by decide)) <| mm_c (sn_iconst dX6_colours_150 (by decide)) <| mm_c (sn_zreturn dX6_colours_151 rfl) <| mm_c (sn_iinc dX6_colours_152 (by decide) (by decide)) <| mm_c (sn_goto dX6_colours_155 (by decide)) <| mm_c (sn_iconst dX6_colours_158 (by decide)) <| mm_c (sn_zreturn dX6_colours_159 rfl) <| mm_n
def M6_isGood : mm_M := (yX6_isGood, cX6_isGood, 4, (some .boolean))
theorem cw_6_isGood : Cond.code M6_isGood.1 M6_isGood.2.1 M6_isGood.2.2.1 M6_isGood.2.2.2 ∈ mm_tb := mm_mem 586 (by decide +kernel) rfl
def P6_isGood (l : Launch) (d : Nat) (post : mm_Po) : List (Nat × mm_S) := [(0, se_int 0 1), (1, se_istore 2 2), (2, se_int 0 3), (3, se_istore 3 4), (4, se_iload 3 5), (5, se_aload 0 6), (6, se_getI 16 0 9), (9, se_icmp_ge 47 12), (12, se_iload 2 13), (13, se_if_ne 35 16), (16, se_aload 0 17), (17, se_iload 1 18), (18, se_iload 3 19), (19, se_callV l d M6_areNear 2 16 22), (22, se_if_eq 39 25), (25, se_aload 0 26), (26, se_getR 16 18 29), (29, se_iload 3 30), (30, se_iaload 31), (31, se_int 1 32), (32, se_icmp_ne 39 35), (35, se_int 1 36), (36, se_goto 40), (39, se_int 0 40), (40, se_istore 2 41), (41, se_iinc 3 1 44), (44, se_goto 4), (47, se_iload 2 48), (48, se_aload 0 49), (49, se_getR 16 18 52), (52, se_iload 1 53), (53, se_iaload 54), (54, se_int 1 55), (55, se_icmp_ne 62 58), (58, se_int 1 59), (59, se_goto 63), (62, se_int 0 63), (63, se_icmp_eq 70 66), (66, se_int 1 67), (67, se_goto 71), (70, se_int 0 71), (71, se_ret post true)]
set_option maxRecDepth 100000 in
theorem S6_isGood (l : Launch) (d : Nat) (E : mm_X) (post : mm_Po) : ∀ q ∈ P6_isGood l d post, mm_Sn l d M6_isGood E post q := mm_c (sn_iconst dX6_isGood_0 (by decide)) <| mm_c (sn_istore_n dX6_isGood_1 rfl (by decide)) <| mm_c (sn_iconst dX6_isGood_2 (by decide)) <| mm_c (sn_istore_n dX6_isGood_3 rfl (by decide)) <| mm_c (sn_iload_n dX6_isGood_4 rfl) <| mm_c (sn_aload_n dX6_isGood_5 rfl) <| mm_c (sn_getI dX6_isGood_6 F_X6_34) <| mm_c (sn_icmp_ge dX6_isGood_9 (by decide)) <| mm_c (sn_iload_n dX6_isGood_12 rfl) <| mm_c (sn_if_ne dX6_isGood_13 (by decide)) <| mm_c (sn_aload_n dX6_isGood_16 rfl) <| mm_c (sn_iload_n dX6_isGood_17 rfl) <| mm_c (sn_iload_n dX6_isGood_18 rfl) <| mm_c (sn_callV dX6_isGood_19 C_X6_55) <| mm_c (sn_if_eq dX6_isGood_22 (by decide)) <| mm_c (sn_aload_n dX6_isGood_25 rfl) <| mm_c (sn_getR dX6_isGood_26 F_X6_13) <| mm_c (sn_iload_n dX6_isGood_29 rfl) <| mm_c (sn_iaload dX6_isGood_30) <| mm_c (sn_iconst dX6_isGood_31 (by decide)) <| mm_c (sn_icmp_ne dX6_isGood_32 (by decide)) <| mm_c (sn_iconst dX6_isGood_35 (by decide)) <| mm_c (sn_goto dX6_isGood_36 (by decide)) <| mm_c (sn_iconst dX6_isGood_39 (by decide)) <| mm_c (sn_istore_n dX6_isGood_40 rfl (by decide)) <| mm_c (sn_iinc dX6_isGood_41 (by decide) (by decide)) <| mm_c (sn_goto dX6_isGood_44 (by decide)) <| mm_c (sn_iload_n dX6_isGood_47 rfl) <| mm_c (sn_aload_n dX6_isGood_48 rfl) <| mm_c (sn_getR dX6_isGood_49 F_X6_13) <| mm_c (sn_iload_n dX6_isGood_52 rfl) <| mm_c (sn_iaload dX6_isGood_53) <| mm_c (sn_iconst dX6_isGood_54 (by decide)) <| mm_c (sn_icmp_ne dX6_isGood_55 (by decide)) <| mm_c (sn_iconst dX6_isGood_58 (by decide)) <| mm_c (sn_goto dX6_isGood_59 (by decide)) <| mm_c (sn_iconst dX6_isGood_62 (by decide)) <| mm_c (sn_icmp_eq dX6_isGood_63 (by decide)) <| mm_c (sn_iconst dX6_isGood_66 (by decide)) <| mm_c (sn_goto dX6_isGood_67 (by decide)) <| mm_c (sn_iconst dX6_isGood_70 (by decide)) <| mm_c (sn_zreturn dX6_isGood_71 rfl) <| mm_n
theorem C_X6_67 : mm_cv RX6 67 M6_colours 1 16 := ⟨mm_mem 555 (by decide +kernel) rfl, mm_mem 557 (by decide +kernel) rfl, mm_mem 16 (by decide +kernel) rfl, mm_mem 42 (by decide +kernel) rfl, cw_6_colours, by decide +kernel, by decide, 5, _, _, _, rfl, rfl⟩
theorem C_X6_70 : mm_cv RX6 70 M6_linesOf 0 16 := ⟨mm_mem 563 (by decide +kernel) rfl, mm_mem 565 (by decide +kernel) rfl, mm_mem 18 (by decide +kernel) rfl, mm_mem 42 (by decide +kernel) rfl, cw_6_linesOf, by decide +kernel, by decide, 5, _, _, _, rfl, rfl⟩
theorem C_X6_74 : mm_cv RX6 74 M6_setsOf 0 16 := ⟨mm_mem 567 (by decide +kernel) rfl, mm_mem 569 (by decide +kernel) rfl, mm_mem 19 (by decide +kernel) rfl, mm_mem 42 (by decide +kernel) rfl, cw_6_setsOf, by decide +kernel, by decide, 5, _, _, _, rfl, rfl⟩
theorem C_X6_77 : mm_cv RX6 77 M6_leaderOf 1 16 := ⟨mm_mem 579 (by decide +kernel) rfl, mm_mem 581 (by decide +kernel) rfl, mm_mem 22 (by decide +kernel) rfl, mm_mem 42 (by decide +kernel) rfl, cw_6_leaderOf, by decide +kernel, by decide, 5, _, _, _, rfl, rfl⟩
theorem C_X6_80 : mm_cv RX6 80 M6_isGood 1 16 := ⟨mm_mem 583 (by decide +kernel) rfl, mm_mem 585 (by decide +kernel) rfl, mm_mem 23 (by decide +kernel) rfl, mm_mem 42 (by decide +kernel) rfl, cw_6_isGood, by decide +kernel, by decide, 5, _, _, _, rfl, rfl⟩
def M6_claims : mm_M := (yX6_claims, cX6_claims, 4, (some .boolean))
theorem cw_6_claims : Cond.code M6_claims.1 M6_claims.2.1 M6_claims.2.2.1 M6_claims.2.2.2 ∈ mm_tb := mm_mem 554 (by decide +kernel) rfl
def P6_claims (l : Launch) (d : Nat) (post : mm_Po) : List (Nat × mm_S) := [(0, se_aload 0 1), (1, se_getI 16 5 4), (4, se_int 2 5), (5, se_icmp_ge 19 8), (8, se_aload 0 9), (9, se_int 2 10), (10, se_aload 0 11), (11, se_getI 16 5 14), (14, se_iadd 15), (15, se_callV l d M6_colours 1 16 18), (18, se_ret post true), (19, se_aload 0 20), (20, se_getI 16 5 23), (23, se_int 4 24), (24, se_icmp_ne 43 27), (27, se_aload 0 28), (28, se_callV l d M6_linesOf 0 16 31), (31, se_aload 0 32), (32, se_getI 16 0 35), (35, se_aload 0 36), (36, se_callV l d M6_setsOf 0 16 39), (39, se_isub 40), (40, se_icmp_ne 47 43), (43, se_int 1 44), (44, se_goto 48), (47, se_int 0 48), (48, se_istore 1 49), (49, se_int 0 50), (50, se_istore 2 51), (51, se_iload 2 52), (52, se_aload 0 53), (53, se_getI 16 0 56), (56, se_icmp_ge 175 59), (59, se_aload 0 60), (60, se_getI 16 5 63), (63, se_int 2 64), (64, se_icmp_ne 117 67), (67, se_aload 0 68), (68, se_iload 2 69), (69, se_callV l d M6_leaderOf 1 16 72), (72, se_istore 3 73), (73, se_iload 1 74), (74, se_if_eq 86 77), (77, se_iload 3 78), (78, se_int (-1) 79), (79, se_icmp_eq 86 82), (82, se_int 1 83), (83, se_goto 87), (86, se_int 0 87), (87, se_istore 1 88), (88, se_aload 0 89), (89, se_getR 16 22 92), (92, se_iload 2 93), (93, se_iload 3 94), (94, se_int (-1) 95), (95, se_icmp_ne 102 98), (98, se_int 0 99), (99, se_goto 113), (102, se_int 8 104), (104, se_iload 3 105), (105, se_imul 106), (106, se_aload 0 107), (107, se_getR 16 21 110), (110, se_iload 3 111), (111, se_iaload 112), (112, se_iadd 113), (113, se_iastore 114), (114, se_goto 169), (117, se_aload 0 118), (118, se_getI 16 5 121), (121, se_int 3 122), (122, se_icmp_ne 153 125), (125, se_iload 1 126), (126, se_if_eq 141 129), (129, se_aload 0 130), (130, se_iload 2 131), (131, se_callV l d M6_isGood 1 16 134), (134, se_if_eq 141 137), (137, se_int 1 138), (138, se_goto 142), (141, se_int 0 142), (142, se_istore 1 143), (143, se_aload 0 144), (144, se_getR 16 22 147), (147, se_iload 2 148), (148, se_int 0 149), (149, se_iastore 150), (150, se_goto 169), (153, se_aload 0 154), (154, se_getR 16 22 157), (157, se_iload 2 158), (158, se_aload 0 159), (159, se_getR 16 21 162), (162, se_aload 0 163), (163, se_iload 2 164), (164, se_callV l d M6_firstOf 1 16 167), (167, se_iaload 168), (168, se_iastore 169), (169, se_iinc 2 1 172), (172, se_goto 51), (175, se_iload 1 176), (176, se_ret post true)]
set_option maxRecDepth 100000 in
theorem S6_claims (l : Launch) (d : Nat) (E : mm_X) (post : mm_Po) : ∀ q ∈ P6_claims l d post, mm_Sn l d M6_claims E post q := mm_c (sn_aload_n dX6_claims_0 rfl) <| mm_c (sn_getI dX6_claims_1 F_X6_52) <| mm_c (sn_iconst dX6_claims_4 (by decide)) <| mm_c (sn_icmp_ge dX6_claims_5 (by decide)) <| mm_c (sn_aload_n dX6_claims_8 rfl) <| mm_c (sn_iconst dX6_claims_9 (by decide)) <| mm_c (sn_aload_n dX6_claims_10 rfl) <| mm_c (sn_getI dX6_claims_11 F_X6_52) <| mm_c (sn_iadd dX6_claims_14) <| mm_c (sn_callV dX6_claims_15 C_X6_67) <| mm_c (sn_zreturn dX6_claims_18 rfl) <| mm_c (sn_aload_n dX6_claims_19 rfl) <| mm_c (sn_getI dX6_claims_20 F_X6_52) <| mm_c (sn_iconst dX6_claims_23 (by decide)) <| mm_c (sn_icmp_ne dX6_claims_24 (by decide)) <| mm_c (sn_aload_n dX6_claims_27 rfl) <| mm_c (sn_callV dX6_claims_28 C_X6_70) <| mm_c (sn_aload_n dX6_claims_31 rfl) <| mm_c (sn_getI dX6_claims_32 F_X6_34) <| mm_c (sn_aload_n dX6_claims_35 rfl) <| mm_c (sn_callV dX6_claims_36 C_X6_74) <| mm_c (sn_isub dX6_claims_39) <| mm_c (sn_icmp_ne dX6_claims_40 (by decide)) <| mm_c (sn_iconst dX6_claims_43 (by decide)) <| mm_c (sn_goto dX6_claims_44 (by decide)) <| mm_c (sn_iconst dX6_claims_47 (by decide)) <| mm_c (sn_istore_n dX6_claims_48 rfl (by decide)) <| mm_c (sn_iconst dX6_claims_49 (by decide)) <| mm_c (sn_istore_n dX6_claims_50 rfl (by decide)) <| mm_c (sn_iload_n dX6_claims_51 rfl) <| mm_c (sn_aload_n dX6_claims_52 rfl) <| mm_c (sn_getI dX6_claims_53 F_X6_34) <| mm_c (sn_icmp_ge dX6_claims_56 (by decide)) <| mm_c (sn_aload_n dX6_claims_59 rfl) <| mm_c (sn_getI dX6_claims_60 F_X6_52) <| mm_c (sn_iconst dX6_claims_63 (by decide)) <| mm_c (sn_icmp_ne dX6_claims_64 (by decide)) <| mm_c (sn_aload_n dX6_claims_67 rfl) <| mm_c (sn_iload_n dX6_claims_68 rfl) <| mm_c (sn_callV dX6_claims_69 C_X6_77) <| mm_c (sn_istore_n dX6_claims_72 rfl (by decide)) <| mm_c (sn_iload_n dX6_claims_73 rfl) <| mm_c (sn_if_eq dX6_claims_74 (by decide)) <| mm_c (sn_iload_n dX6_claims_77 rfl) <| mm_c (sn_iconst dX6_claims_78 (by decide)) <| mm_c (sn_icmp_eq dX6_claims_79 (by decide)) <| mm_c (sn_iconst dX6_claims_82 (by decide)) <| mm_c (sn_goto dX6_claims_83 (by decide)) <| mm_c (sn_iconst dX6_claims_86 (by decide)) <| mm_c (sn_istore_n dX6_claims_87 rfl (by decide)) <| mm_c (sn_aload_n dX6_claims_88 rfl) <| mm_c (sn_getR dX6_claims_89 F_X6_25) <| mm_c (sn_iload_n dX6_claims_92 rfl) <| mm_c (sn_iload_n dX6_claims_93 rfl) <| mm_c (sn_iconst dX6_claims_94 (by decide)) <| mm_c (sn_icmp_ne dX6_claims_95 (by decide)) <| mm_c (sn_iconst dX6_claims_98 (by decide)) <| mm_c (sn_goto dX6_claims_99 (by decide)) <| mm_c (sn_bipush dX6_claims_102 (by decide)) <| mm_c (sn_iload_n dX6_claims_104 rfl) <| mm_c (sn_imul dX6_claims_105) <| mm_c (sn_aload_n dX6_claims_106 rfl) <| mm_c (sn_getR dX6_claims_107 F_X6_22) <| mm_c (sn_iload_n dX6_claims_110 rfl) <| mm_c (sn_iaload dX6_claims_111) <| mm_c (sn_iadd dX6_claims_112) <| mm_c (sn_iastore dX6_claims_113) <| mm_c (sn_goto dX6_claims_114 (by decide)) <| mm_c (sn_aload_n dX6_claims_117 rfl) <| mm_c (sn_getI dX6_claims_118 F_X6_52) <| mm_c (sn_iconst dX6_claims_121 (by decide)) <| mm_c (sn_icmp_ne dX6_claims_122 (by decide)) <| mm_c (sn_iload_n dX6_claims_125 rfl) <| mm_c (sn_if_eq dX6_claims_126 (by decide)) <| mm_c (sn_aload_n dX6_claims_129 rfl) <| mm_c (sn_iload_n dX6_claims_130 rfl) <| mm_c (sn_callV dX6_claims_131 C_X6_80) <| mm_c (sn_if_eq dX6_claims_134 (by decide)) <| mm_c (sn_iconst dX6_claims_137 (by decide)) <| mm_c (sn_goto dX6_claims_138 (by decide)) <| mm_c (sn_iconst dX6_claims_141 (by decide)) <| mm_c (sn_istore_n dX6_claims_142 rfl (by decide)) <| mm_c (sn_aload_n dX6_claims_143 rfl) <| mm_c (sn_getR dX6_claims_144 F_X6_25) <| mm_c (sn_iload_n dX6_claims_147 rfl) <| mm_c (sn_iconst dX6_claims_148 (by decide)) <| mm_c (sn_iastore dX6_claims_149) <| mm_c (sn_goto dX6_claims_150 (by decide)) <| mm_c (sn_aload_n dX6_claims_153 rfl) <| mm_c (sn_getR dX6_claims_154 F_X6_25) <| mm_c (sn_iload_n dX6_claims_157 rfl) <| mm_c (sn_aload_n dX6_claims_158 rfl) <| mm_c (sn_getR dX6_claims_159 F_X6_22) <| mm_c (sn_aload_n dX6_claims_162 rfl) <| mm_c (sn_iload_n dX6_claims_163 rfl) <| mm_c (sn_callV dX6_claims_164 C_X6_63) <| mm_c (sn_iaload dX6_claims_167) <| mm_c (sn_iastore dX6_claims_168) <| mm_c (sn_iinc dX6_claims_169 (by decide) (by decide)) <| mm_c (sn_goto dX6_claims_172 (by decide)) <| mm_c (sn_iload_n dX6_claims_175 rfl) <| mm_c (sn_zreturn dX6_claims_176 rfl) <| mm_n
theorem C_X6_83 : mm_cv RX6 83 M6_claims 0 16 := ⟨mm_mem 551 (by decide +kernel) rfl, mm_mem 553 (by decide +kernel) rfl, mm_mem 15 (by decide +kernel) rfl, mm_mem 42 (by decide +kernel) rfl, cw_6_claims, by decide +kernel, by decide, 5, _, _, _, rfl, rfl⟩
def M6_holds : mm_M := (yX6_holds, cX6_holds, 1, (some .int))
theorem cw_6_holds : Cond.code M6_holds.1 M6_holds.2.1 M6_holds.2.2.1 M6_holds.2.2.2 ∈ mm_tb := mm_mem 550 (by decide +kernel) rfl
def P6_holds (l : Launch) (d : Nat) (post : mm_Po) : List (Nat × mm_S) := [(0, se_aload 0 1), (1, se_callV l d M6_claims 0 16 4), (4, se_if_eq 11 7), (7, se_int 1 8), (8, se_goto 12), (11, se_int 0 12), (12, se_ret post false)]
set_option maxRecDepth 100000 in
theorem S6_holds (l : Launch) (d : Nat) (E : mm_X) (post : mm_Po) : ∀ q ∈ P6_holds l d post, mm_Sn l d M6_holds E post q := mm_c (sn_aload_n dX6_holds_0 rfl) <| mm_c (sn_callV dX6_holds_1 C_X6_83) <| mm_c (sn_if_eq dX6_holds_4 (by decide)) <| mm_c (sn_iconst dX6_holds_7 (by decide)) <| mm_c (sn_goto dX6_holds_8 (by decide)) <| mm_c (sn_iconst dX6_holds_11 (by decide)) <| mm_c (sn_ireturn dX6_holds_12 rfl) <| mm_n
def M6_sets : mm_M := (yX6_sets, cX6_sets, 1, (some .int))
theorem cw_6_sets : Cond.code M6_sets.1 M6_sets.2.1 M6_sets.2.2.1 M6_sets.2.2.2 ∈ mm_tb := mm_mem 590 (by decide +kernel) rfl
def P6_sets (l : Launch) (d : Nat) (post : mm_Po) : List (Nat × mm_S) := [(0, se_aload 0 1), (1, se_callV l d M6_setsOf 0 16 4), (4, se_ret post false)]
set_option maxRecDepth 100000 in
theorem S6_sets (l : Launch) (d : Nat) (E : mm_X) (post : mm_Po) : ∀ q ∈ P6_sets l d post, mm_Sn l d M6_sets E post q := mm_c (sn_aload_n dX6_sets_0 rfl) <| mm_c (sn_callV dX6_sets_1 C_X6_74) <| mm_c (sn_ireturn dX6_sets_4 rfl) <| mm_n
def M6_far : mm_M := (yX6_far, cX6_far, 3, (some .int))
theorem cw_6_far : Cond.code M6_far.1 M6_far.2.1 M6_far.2.2.1 M6_far.2.2.2 ∈ mm_tb := mm_mem 594 (by decide +kernel) rfl
def P6_far (l : Launch) (d : Nat) (post : mm_Po) : List (Nat × mm_S) := [(0, se_aload 0 1), (1, se_iload 1 2), (2, se_callV l d M6_isPost 1 16 5), (5, se_if_eq 16 8), (8, se_aload 0 9), (9, se_iload 2 10), (10, se_callV l d M6_isPost 1 16 13), (13, se_if_ne 19 16), (16, se_int (-101) 18), (18, se_ret post false), (19, se_aload 0 20), (20, se_iload 1 21), (21, se_callV l d M6_spread 1 16 24), (24, se_aload 0 25), (25, se_getR 16 21 28), (28, se_iload 2 29), (29, se_iaload 30), (30, se_ret post false)]
set_option maxRecDepth 100000 in
theorem S6_far (l : Launch) (d : Nat) (E : mm_X) (post : mm_Po) : ∀ q ∈ P6_far l d post, mm_Sn l d M6_far E post q := mm_c (sn_aload_n dX6_far_0 rfl) <| mm_c (sn_iload_n dX6_far_1 rfl) <| mm_c (sn_callV dX6_far_2 C_X6_44) <| mm_c (sn_if_eq dX6_far_5 (by decide)) <| mm_c (sn_aload_n dX6_far_8 rfl) <| mm_c (sn_iload_n dX6_far_9 rfl) <| mm_c (sn_callV dX6_far_10 C_X6_44) <| mm_c (sn_if_ne dX6_far_13 (by decide)) <| mm_c (sn_bipush dX6_far_16 (by decide)) <| mm_c (sn_ireturn dX6_far_18 rfl) <| mm_c (sn_aload_n dX6_far_19 rfl) <| mm_c (sn_iload_n dX6_far_20 rfl) <| mm_c (sn_callV dX6_far_21 C_X6_59) <| mm_c (sn_aload_n dX6_far_24 rfl) <| mm_c (sn_getR dX6_far_25 F_X6_22) <| mm_c (sn_iload_n dX6_far_28 rfl) <| mm_c (sn_iaload dX6_far_29) <| mm_c (sn_ireturn dX6_far_30 rfl) <| mm_n
def M6_proof : mm_M := (yX6_proof, cX6_proof, 4, (some .int))
theorem cw_6_proof : Cond.code M6_proof.1 M6_proof.2.1 M6_proof.2.2.1 M6_proof.2.2.2 ∈ mm_tb := mm_mem 598 (by decide +kernel) rfl
def P6_proof (l : Launch) (d : Nat) (post : mm_Po) : List (Nat × mm_S) := [(0, se_aload 0 1), (1, se_iload 1 2), (2, se_callV l d M6_isPost 1 16 5), (5, se_if_ne 11 8), (8, se_int (-101) 10), (10, se_ret post false), (11, se_iload 2 12), (12, se_i2l 13), (13, se_lng 0 14), (14, se_lng 63 17), (17, se_callS l d M6_in 3 20), (20, se_if_ne 26 23), (23, se_int (-102) 25), (25, se_ret post false), (26, se_aload 0 27), (27, se_getR 16 19 30), (30, se_iload 1 31), (31, se_iaload 32), (32, se_istore 3 33), (33, se_aload 0 34), (34, se_getR 16 19 37), (37, se_iload 1 38), (38, se_iload 2 39), (39, se_iastore 40), (40, se_iload 3 41), (41, se_ret post false)]
set_option maxRecDepth 100000 in
theorem S6_proof (l : Launch) (d : Nat) (E : mm_X) (post : mm_Po) : ∀ q ∈ P6_proof l d post, mm_Sn l d M6_proof E post q := mm_c (sn_aload_n dX6_proof_0 rfl) <| mm_c (sn_iload_n dX6_proof_1 rfl) <| mm_c (sn_callV dX6_proof_2 C_X6_44) <| mm_c (sn_if_ne dX6_proof_5 (by decide)) <| mm_c (sn_bipush dX6_proof_8 (by decide)) <| mm_c (sn_ireturn dX6_proof_10 rfl) <| mm_c (sn_iload_n dX6_proof_11 rfl) <| mm_c (sn_i2l dX6_proof_12) <| mm_c (sn_lconst dX6_proof_13 (by decide)) <| mm_c (sn_ldc2 dX6_proof_14 (mm_mem 599 (by decide +kernel) rfl)) <| mm_c (sn_callS dX6_proof_17 C_X6_38) <| mm_c (sn_if_ne dX6_proof_20 (by decide)) <| mm_c (sn_bipush dX6_proof_23 (by decide)) <| mm_c (sn_ireturn dX6_proof_25 rfl) <| mm_c (sn_aload_n dX6_proof_26 rfl) <| mm_c (sn_getR dX6_proof_27 F_X6_16) <| mm_c (sn_iload_n dX6_proof_30 rfl) <| mm_c (sn_iaload dX6_proof_31) <| mm_c (sn_istore_n dX6_proof_32 rfl (by decide)) <| mm_c (sn_aload_n dX6_proof_33 rfl) <| mm_c (sn_getR dX6_proof_34 F_X6_16) <| mm_c (sn_iload_n dX6_proof_37 rfl) <| mm_c (sn_iload_n dX6_proof_38 rfl) <| mm_c (sn_iastore dX6_proof_39) <| mm_c (sn_iload_n dX6_proof_40 rfl) <| mm_c (sn_ireturn dX6_proof_41 rfl) <| mm_n
def M6_hasAccepted : mm_M := (yX6_hasAccepted, cX6_hasAccepted, 7, (some .boolean))
theorem cw_6_hasAccepted : Cond.code M6_hasAccepted.1 M6_hasAccepted.2.1 M6_hasAccepted.2.2.1 M6_hasAccepted.2.2.2 ∈ mm_tb := mm_mem 607 (by decide +kernel) rfl
def P6_hasAccepted (l : Launch) (d : Nat) (post : mm_Po) : List (Nat × mm_S) := [(0, se_aload 0 1), (1, se_getR 16 19 4), (4, se_iload 1 5), (5, se_iaload 6), (6, se_istore 2 7), (7, se_aload 0 8), (8, se_getI 16 5 11), (11, se_int 3 12), (12, se_icmp_ne 33 15), (15, se_iload 2 16), (16, se_if_ne 31 19), (19, se_aload 0 20), (20, se_iload 1 21), (21, se_callV l d M6_isGood 1 16 24), (24, se_if_eq 31 27), (27, se_int 1 28), (28, se_goto 32), (31, se_int 0 32), (32, se_ret post true), (33, se_aload 0 34), (34, se_getI 16 5 37), (37, se_if_ne 53 40), (40, se_iload 2 41), (41, se_int 2 42), (42, se_icmp_ge 49 45), (45, se_int 1 46), (46, se_goto 93), (49, se_int 0 50), (50, se_goto 93), (53, se_aload 0 54), (54, se_getI 16 5 57), (57, se_int 1 58), (58, se_icmp_ne 74 61), (61, se_iload 2 62), (62, se_int 3 63), (63, se_icmp_ge 70 66), (66, se_int 1 67), (67, se_goto 93), (70, se_int 0 71), (71, se_goto 93), (74, se_aload 0 75), (75, se_getI 16 5 78), (78, se_int 2 79), (79, se_icmp_eq 88 82), (82, se_iload 2 83), (83, se_int 8 85), (85, se_icmp_ge 92 88), (88, se_int 1 89), (89, se_goto 93), (92, se_int 0 93), (93, se_istore 3 94), (94, se_int 0 95), (95, se_istore 4 97), (97, se_int 0 98), (98, se_istore 5 100), (100, se_iload 5 102), (102, se_aload 0 103), (103, se_getI 16 0 106), (106, se_icmp_ge 262 109), (109, se_aload 0 110), (110, se_iload 1 111), (111, se_iload 5 113), (113, se_callV l d M6_areNear 2 16 116), (116, se_if_eq 256 119), (119, se_aload 0 120), (120, se_getR 16 19 123), (123, se_iload 5 125), (125, se_iaload 126), (126, se_istore 6 128), (128, se_aload 0 129), (129, se_getI 16 5 132), (132, se_int 2 133), (133, se_icmp_ge 155 136), (136, se_iload 3 137), (137, se_if_eq 150 140), (140, se_iload 6 142), (142, se_iload 2 143), (143, se_icmp_eq 150 146), (146, se_int 1 147), (147, se_goto 151), (150, se_int 0 151), (151, se_istore 3 152), (152, se_goto 256), (155, se_aload 0 156), (156, se_getI 16 5 159), (159, se_int 2 160), (160, se_icmp_ne 212 163), (163, se_iload 3 164), (164, se_if_eq 183 167), (167, se_iload 6 169), (169, se_int 8 171), (171, se_idiv 172), (172, se_iload 2 173), (173, se_int 8 175), (175, se_idiv 176), (176, se_icmp_ne 183 179), (179, se_int 1 180), (180, se_goto 184), (183, se_int 0 184), (184, se_istore 3 185), (185, se_iload 4 187), (187, se_iload 6 189), (189, se_int 8 191), (191, se_irem 192), (192, se_iload 2 193), (193, se_int 8 195), (195, se_irem 196), (196, se_int 1 197), (197, se_isub 198), (198, se_icmp_ne 205 201), (201, se_int 1 202), (202, se_goto 206), (205, se_int 0 206), (206, se_iadd 207), (207, se_istore 4 209), (209, se_goto 256), (212, se_iload 3 213), (213, se_if_eq 236 216), (216, se_iload 6 218), (218, se_iload 2 219), (219, se_int 1 220), (220, se_isub 221), (221, se_icmp_eq 232 224), (224, se_iload 6 226), (226, se_iload 2 227), (227, se_int 1 228), (228, se_iadd 229), (229, se_icmp_ne 236 232), (232, se_int 1 233), (233, se_goto 237), (236, se_int 0 237), (237, se_istore 3 238), (238, se_iload 4 240), (240, se_iload 6 242), (242, se_iload 2 243), (243, se_int 1 244), (244, se_isub 245), (245, se_icmp_ne 252 248), (248, se_int 1 249), (249, se_goto 253), (252, se_int 0 253), (253, se_iadd 254), (254, se_istore 4 256), (256, se_iinc 5 1 259), (259, se_goto 100), (262, se_aload 0 263), (263, se_getI 16 5 266), (266, se_int 2 267), (267, se_icmp_ne 323 270), (270, se_iload 3 271), (271, se_if_eq 321 274), (274, se_iload 2 275), (275, se_int 8 277), (277, se_irem 278), (278, se_if_ne 302 281), (281, se_iload 1 282), (282, se_iload 2 283), (283, se_int 8 285), (285, se_idiv 286), (286, se_icmp_ne 321 289), (289, se_aload 0 290), (290, se_getR 16 18 293), (293, se_iload 1 294), (294, se_iaload 295), (295, se_int 1 296), (296, se_icmp_ne 321 299), (299, se_goto 317), (302, se_aload 0 303), (303, se_getR 16 18 306), (306, se_iload 1 307), (307, se_iaload 308), (308, se_int 1 309), (309, se_icmp_eq 321 312), (312, se_iload 4 314), (314, se_if_le 321 317), (317, se_int 1 318), (318, se_goto 322), (321, se_int 0 322), (322, se_istore 3 323), (323, se_aload 0 324), (324, se_getI 16 5 327), (327, se_int 4 328), (328, se_icmp_ne 351 331), (331, se_iload 3 332), (332, se_if_eq 349 335), (335, se_iload 2 336), (336, se_if_eq 345 339), (339, se_iload 4 341), (341, se_int 1 342), (342, se_icmp_ne 349 345), (345, se_int 1 346), (346, se_goto 350), (349, se_int 0 350), (350, se_istore 3 351), (351, se_iload 3 352), (352, se_ret post true)]
set_option maxRecDepth 100000 in
theorem S6_hasAccepted (l : Launch) (d : Nat) (E : mm_X) (post : mm_Po) : ∀ q ∈ P6_hasAccepted l d post, mm_Sn l d M6_hasAccepted E post q := mm_c (sn_aload_n dX6_hasAccepted_0 rfl) <| mm_c (sn_getR dX6_hasAccepted_1 F_X6_16) <| mm_c (sn_iload_n dX6_hasAccepted_4 rfl) <| mm_c (sn_iaload dX6_hasAccepted_5) <| mm_c (sn_istore_n dX6_hasAccepted_6 rfl (by decide)) <| mm_c (sn_aload_n dX6_hasAccepted_7 rfl) <| mm_c (sn_getI dX6_hasAccepted_8 F_X6_52) <| mm_c (sn_iconst dX6_hasAccepted_11 (by decide)) <| mm_c (sn_icmp_ne dX6_hasAccepted_12 (by decide)) <| mm_c (sn_iload_n dX6_hasAccepted_15 rfl) <| mm_c (sn_if_ne dX6_hasAccepted_16 (by decide)) <| mm_c (sn_aload_n dX6_hasAccepted_19 rfl) <| mm_c (sn_iload_n dX6_hasAccepted_20 rfl) <| mm_c (sn_callV dX6_hasAccepted_21 C_X6_80) <| mm_c (sn_if_eq dX6_hasAccepted_24 (by decide)) <| mm_c (sn_iconst dX6_hasAccepted_27 (by decide)) <| mm_c (sn_goto dX6_hasAccepted_28 (by decide)) <| mm_c (sn_iconst dX6_hasAccepted_31 (by decide)) <| mm_c (sn_zreturn dX6_hasAccepted_32 rfl) <| mm_c (sn_aload_n dX6_hasAccepted_33 rfl) <| mm_c (sn_getI dX6_hasAccepted_34 F_X6_52) <| mm_c (sn_if_ne dX6_hasAccepted_37 (by decide)) <| mm_c (sn_iload_n dX6_hasAccepted_40 rfl) <| mm_c (sn_iconst dX6_hasAccepted_41 (by decide)) <| mm_c (sn_icmp_ge dX6_hasAccepted_42 (by decide)) <| mm_c (sn_iconst dX6_hasAccepted_45 (by decide)) <| mm_c (sn_goto dX6_hasAccepted_46 (by decide)) <| mm_c (sn_iconst dX6_hasAccepted_49 (by decide)) <| mm_c (sn_goto dX6_hasAccepted_50 (by decide)) <| mm_c (sn_aload_n dX6_hasAccepted_53 rfl) <| mm_c (sn_getI dX6_hasAccepted_54 F_X6_52) <| mm_c (sn_iconst dX6_hasAccepted_57 (by decide)) <| mm_c (sn_icmp_ne dX6_hasAccepted_58 (by decide)) <| mm_c (sn_iload_n dX6_hasAccepted_61 rfl) <| mm_c (sn_iconst dX6_hasAccepted_62 (by decide)) <| mm_c (sn_icmp_ge dX6_hasAccepted_63 (by decide)) <| mm_c (sn_iconst dX6_hasAccepted_66 (by decide)) <| mm_c (sn_goto dX6_hasAccepted_67 (by decide)) <| mm_c (sn_iconst dX6_hasAccepted_70 (by decide)) <| mm_c (sn_goto dX6_hasAccepted_71 (by decide)) <| mm_c (sn_aload_n dX6_hasAccepted_74 rfl) <| mm_c (sn_getI dX6_hasAccepted_75 F_X6_52) <| mm_c (sn_iconst dX6_hasAccepted_78 (by decide)) <| mm_c (sn_icmp_eq dX6_hasAccepted_79 (by decide)) <| mm_c (sn_iload_n dX6_hasAccepted_82 rfl) <| mm_c (sn_bipush dX6_hasAccepted_83 (by decide)) <| mm_c (sn_icmp_ge dX6_hasAccepted_85 (by decide)) <| mm_c (sn_iconst dX6_hasAccepted_88 (by decide)) <| mm_c (sn_goto dX6_hasAccepted_89 (by decide)) <| mm_c (sn_iconst dX6_hasAccepted_92 (by decide)) <| mm_c (sn_istore_n dX6_hasAccepted_93 rfl (by decide)) <| mm_c (sn_iconst dX6_hasAccepted_94 (by decide)) <| mm_c (sn_istore dX6_hasAccepted_95 (by decide)) <| mm_c (sn_iconst dX6_hasAccepted_97 (by decide)) <| mm_c (sn_istore dX6_hasAccepted_98 (by decide)) <| mm_c (sn_iload dX6_hasAccepted_100) <| mm_c (sn_aload_n dX6_hasAccepted_102 rfl) <| mm_c (sn_getI dX6_hasAccepted_103 F_X6_34) <| mm_c (sn_icmp_ge dX6_hasAccepted_106 (by decide)) <| mm_c (sn_aload_n dX6_hasAccepted_109 rfl) <| mm_c (sn_iload_n dX6_hasAccepted_110 rfl) <| mm_c (sn_iload dX6_hasAccepted_111) <| mm_c (sn_callV dX6_hasAccepted_113 C_X6_55) <| mm_c (sn_if_eq dX6_hasAccepted_116 (by decide)) <| mm_c (sn_aload_n dX6_hasAccepted_119 rfl) <| mm_c (sn_getR dX6_hasAccepted_120 F_X6_16) <| mm_c (sn_iload dX6_hasAccepted_123) <| mm_c (sn_iaload dX6_hasAccepted_125) <| mm_c (sn_istore dX6_hasAccepted_126 (by decide)) <| mm_c (sn_aload_n dX6_hasAccepted_128 rfl) <| mm_c (sn_getI dX6_hasAccepted_129 F_X6_52) <| mm_c (sn_iconst dX6_hasAccepted_132 (by decide)) <| mm_c (sn_icmp_ge dX6_hasAccepted_133 (by decide)) <| mm_c (sn_iload_n dX6_hasAccepted_136 rfl) <| mm_c (sn_if_eq dX6_hasAccepted_137 (by decide)) <| mm_c (sn_iload dX6_hasAccepted_140) <| mm_c (sn_iload_n dX6_hasAccepted_142 rfl) <| mm_c (sn_icmp_eq dX6_hasAccepted_143 (by decide)) <| mm_c (sn_iconst dX6_hasAccepted_146 (by decide)) <| mm_c (sn_goto dX6_hasAccepted_147 (by decide)) <| mm_c (sn_iconst dX6_hasAccepted_150 (by decide)) <| mm_c (sn_istore_n dX6_hasAccepted_151 rfl (by decide)) <| mm_c (sn_goto dX6_hasAccepted_152 (by decide)) <| mm_c (sn_aload_n dX6_hasAccepted_155 rfl) <| mm_c (sn_getI dX6_hasAccepted_156 F_X6_52) <| mm_c (sn_iconst dX6_hasAccepted_159 (by decide)) <| mm_c (sn_icmp_ne dX6_hasAccepted_160 (by decide)) <| mm_c (sn_iload_n dX6_hasAccepted_163 rfl) <| mm_c (sn_if_eq dX6_hasAccepted_164 (by decide)) <| mm_c (sn_iload dX6_hasAccepted_167) <| mm_c (sn_bipush dX6_hasAccepted_169 (by decide)) <| mm_c (sn_idiv dX6_hasAccepted_171) <| mm_c (sn_iload_n dX6_hasAccepted_172 rfl) <| mm_c (sn_bipush dX6_hasAccepted_173 (by decide)) <| mm_c (sn_idiv dX6_hasAccepted_175) <| mm_c (sn_icmp_ne dX6_hasAccepted_176 (by decide)) <| mm_c (sn_iconst dX6_hasAccepted_179 (by decide)) <| mm_c (sn_goto dX6_hasAccepted_180 (by decide)) <| mm_c (sn_iconst dX6_hasAccepted_183 (by decide)) <| mm_c (sn_istore_n dX6_hasAccepted_184 rfl (by decide)) <| mm_c (sn_iload dX6_hasAccepted_185) <| mm_c (sn_iload dX6_hasAccepted_187) <| mm_c (sn_bipush dX6_hasAccepted_189 (by decide)) <| mm_c (sn_irem dX6_hasAccepted_191) <| mm_c (sn_iload_n dX6_hasAccepted_192 rfl) <| mm_c (sn_bipush dX6_hasAccepted_193 (by decide)) <| mm_c (sn_irem dX6_hasAccepted_195) <| mm_c (sn_iconst dX6_hasAccepted_196 (by decide)) <| mm_c (sn_isub dX6_hasAccepted_197) <| mm_c (sn_icmp_ne dX6_hasAccepted_198 (by decide)) <| mm_c (sn_iconst dX6_hasAccepted_201 (by decide)) <| mm_c (sn_goto dX6_hasAccepted_202 (by decide)) <| mm_c (sn_iconst dX6_hasAccepted_205 (by decide)) <| mm_c (sn_iadd dX6_hasAccepted_206) <| mm_c (sn_istore dX6_hasAccepted_207 (by decide)) <| mm_c (sn_goto dX6_hasAccepted_209 (by decide)) <| mm_c (sn_iload_n dX6_hasAccepted_212 rfl) <| mm_c (sn_if_eq dX6_hasAccepted_213 (by decide)) <| mm_c (sn_iload dX6_hasAccepted_216) <| mm_c (sn_iload_n dX6_hasAccepted_218 rfl) <| mm_c (sn_iconst dX6_hasAccepted_219 (by decide)) <| mm_c (sn_isub dX6_hasAccepted_220) <| mm_c (sn_icmp_eq dX6_hasAccepted_221 (by decide)) <| mm_c (sn_iload dX6_hasAccepted_224) <| mm_c (sn_iload_n dX6_hasAccepted_226 rfl) <| mm_c (sn_iconst dX6_hasAccepted_227 (by decide)) <| mm_c (sn_iadd dX6_hasAccepted_228) <| mm_c (sn_icmp_ne dX6_hasAccepted_229 (by decide)) <| mm_c (sn_iconst dX6_hasAccepted_232 (by decide)) <| mm_c (sn_goto dX6_hasAccepted_233 (by decide)) <| mm_c (sn_iconst dX6_hasAccepted_236 (by decide)) <| mm_c (sn_istore_n dX6_hasAccepted_237 rfl (by decide)) <| mm_c (sn_iload dX6_hasAccepted_238) <| mm_c (sn_iload dX6_hasAccepted_240) <| mm_c (sn_iload_n dX6_hasAccepted_242 rfl) <| mm_c (sn_iconst dX6_hasAccepted_243 (by decide)) <| mm_c (sn_isub dX6_hasAccepted_244) <| mm_c (sn_icmp_ne dX6_hasAccepted_245 (by decide)) <| mm_c (sn_iconst dX6_hasAccepted_248 (by decide)) <| mm_c (sn_goto dX6_hasAccepted_249 (by decide)) <| mm_c (sn_iconst dX6_hasAccepted_252 (by decide)) <| mm_c (sn_iadd dX6_hasAccepted_253) <| mm_c (sn_istore dX6_hasAccepted_254 (by decide)) <| mm_c (sn_iinc dX6_hasAccepted_256 (by decide) (by decide)) <| mm_c (sn_goto dX6_hasAccepted_259 (by decide)) <| mm_c (sn_aload_n dX6_hasAccepted_262 rfl) <| mm_c (sn_getI dX6_hasAccepted_263 F_X6_52) <| mm_c (sn_iconst dX6_hasAccepted_266 (by decide)) <| mm_c (sn_icmp_ne dX6_hasAccepted_267 (by decide)) <| mm_c (sn_iload_n dX6_hasAccepted_270 rfl) <| mm_c (sn_if_eq dX6_hasAccepted_271 (by decide)) <| mm_c (sn_iload_n dX6_hasAccepted_274 rfl) <| mm_c (sn_bipush dX6_hasAccepted_275 (by decide)) <| mm_c (sn_irem dX6_hasAccepted_277) <| mm_c (sn_if_ne dX6_hasAccepted_278 (by decide)) <| mm_c (sn_iload_n dX6_hasAccepted_281 rfl) <| mm_c (sn_iload_n dX6_hasAccepted_282 rfl) <| mm_c (sn_bipush dX6_hasAccepted_283 (by decide)) <| mm_c (sn_idiv dX6_hasAccepted_285) <| mm_c (sn_icmp_ne dX6_hasAccepted_286 (by decide)) <| mm_c (sn_aload_n dX6_hasAccepted_289 rfl) <| mm_c (sn_getR dX6_hasAccepted_290 F_X6_13) <| mm_c (sn_iload_n dX6_hasAccepted_293 rfl) <| mm_c (sn_iaload dX6_hasAccepted_294) <| mm_c (sn_iconst dX6_hasAccepted_295 (by decide)) <| mm_c (sn_icmp_ne dX6_hasAccepted_296 (by decide)) <| mm_c (sn_goto dX6_hasAccepted_299 (by decide)) <| mm_c (sn_aload_n dX6_hasAccepted_302 rfl) <| mm_c (sn_getR dX6_hasAccepted_303 F_X6_13) <| mm_c (sn_iload_n dX6_hasAccepted_306 rfl) <| mm_c (sn_iaload dX6_hasAccepted_307) <| mm_c (sn_iconst dX6_hasAccepted_308 (by decide)) <| mm_c (sn_icmp_eq dX6_hasAccepted_309 (by decide)) <| mm_c (sn_iload dX6_hasAccepted_312) <| mm_c (sn_if_le dX6_hasAccepted_314 (by decide)) <| mm_c (sn_iconst dX6_hasAccepted_317 (by decide)) <| mm_c (sn_goto dX6_hasAccepted_318 (by decide)) <| mm_c (sn_iconst dX6_hasAccepted_321 (by decide)) <| mm_c (sn_istore_n dX6_hasAccepted_322 rfl (by decide)) <| mm_c (sn_aload_n dX6_hasAccepted_323 rfl) <| mm_c (sn_getI dX6_hasAccepted_324 F_X6_52) <| mm_c (sn_iconst dX6_hasAccepted_327 (by decide)) <| mm_c (sn_icmp_ne dX6_hasAccepted_328 (by decide)) <| mm_c (sn_iload_n dX6_hasAccepted_331 rfl) <| mm_c (sn_if_eq dX6_hasAccepted_332 (by decide)) <| mm_c (sn_iload_n dX6_hasAccepted_335 rfl) <| mm_c (sn_if_eq dX6_hasAccepted_336 (by decide)) <| mm_c (sn_iload dX6_hasAccepted_339) <| mm_c (sn_iconst dX6_hasAccepted_341 (by decide)) <| mm_c (sn_icmp_ne dX6_hasAccepted_342 (by decide)) <| mm_c (sn_iconst dX6_hasAccepted_345 (by decide)) <| mm_c (sn_goto dX6_hasAccepted_346 (by decide)) <| mm_c (sn_iconst dX6_hasAccepted_349 (by decide)) <| mm_c (sn_istore_n dX6_hasAccepted_350 rfl (by decide)) <| mm_c (sn_iload_n dX6_hasAccepted_351 rfl) <| mm_c (sn_zreturn dX6_hasAccepted_352 rfl) <| mm_n
theorem C_X6_89 : mm_cv RX6 89 M6_hasAccepted 1 16 := ⟨mm_mem 604 (by decide +kernel) rfl, mm_mem 606 (by decide +kernel) rfl, mm_mem 24 (by decide +kernel) rfl, mm_mem 42 (by decide +kernel) rfl, cw_6_hasAccepted, by decide +kernel, by decide, 5, _, _, _, rfl, rfl⟩
def M6_accepts : mm_M := (yX6_accepts, cX6_accepts, 2, (some .int))
theorem cw_6_accepts : Cond.code M6_accepts.1 M6_accepts.2.1 M6_accepts.2.2.1 M6_accepts.2.2.2 ∈ mm_tb := mm_mem 603 (by decide +kernel) rfl
def P6_accepts (l : Launch) (d : Nat) (post : mm_Po) : List (Nat × mm_S) := [(0, se_aload 0 1), (1, se_iload 1 2), (2, se_callV l d M6_isPost 1 16 5), (5, se_if_ne 13 8), (8, se_int (-101) 10), (10, se_goto 26), (13, se_aload 0 14), (14, se_iload 1 15), (15, se_callV l d M6_hasAccepted 1 16 18), (18, se_if_eq 25 21), (21, se_int 1 22), (22, se_goto 26), (25, se_int 0 26), (26, se_ret post false)]
set_option maxRecDepth 100000 in
theorem S6_accepts (l : Launch) (d : Nat) (E : mm_X) (post : mm_Po) : ∀ q ∈ P6_accepts l d post, mm_Sn l d M6_accepts E post q := mm_c (sn_aload_n dX6_accepts_0 rfl) <| mm_c (sn_iload_n dX6_accepts_1 rfl) <| mm_c (sn_callV dX6_accepts_2 C_X6_44) <| mm_c (sn_if_ne dX6_accepts_5 (by decide)) <| mm_c (sn_bipush dX6_accepts_8 (by decide)) <| mm_c (sn_goto dX6_accepts_10 (by decide)) <| mm_c (sn_aload_n dX6_accepts_13 rfl) <| mm_c (sn_iload_n dX6_accepts_14 rfl) <| mm_c (sn_callV dX6_accepts_15 C_X6_89) <| mm_c (sn_if_eq dX6_accepts_18 (by decide)) <| mm_c (sn_iconst dX6_accepts_21 (by decide)) <| mm_c (sn_goto dX6_accepts_22 (by decide)) <| mm_c (sn_iconst dX6_accepts_25 (by decide)) <| mm_c (sn_ireturn dX6_accepts_26 rfl) <| mm_n
def M6_againstOf : mm_M := (yX6_againstOf, cX6_againstOf, 3, (some .int))
theorem cw_6_againstOf : Cond.code M6_againstOf.1 M6_againstOf.2.1 M6_againstOf.2.2.1 M6_againstOf.2.2.2 ∈ mm_tb := mm_mem 615 (by decide +kernel) rfl
def P6_againstOf (l : Launch) (d : Nat) (post : mm_Po) : List (Nat × mm_S) := [(0, se_int 0 1), (1, se_istore 1 2), (2, se_int 0 3), (3, se_istore 2 4), (4, se_iload 2 5), (5, se_aload 0 6), (6, se_getI 16 0 9), (9, se_icmp_ge 36 12), (12, se_iload 1 13), (13, se_aload 0 14), (14, se_iload 2 15), (15, se_callV l d M6_hasAccepted 1 16 18), (18, se_if_eq 25 21), (21, se_int 0 22), (22, se_goto 28), (25, se_int 1 26), (26, se_iload 2 27), (27, se_ishl 28), (28, se_ior 29), (29, se_istore 1 30), (30, se_iinc 2 1 33), (33, se_goto 4), (36, se_iload 1 37), (37, se_ret post false)]
set_option maxRecDepth 100000 in
theorem S6_againstOf (l : Launch) (d : Nat) (E : mm_X) (post : mm_Po) : ∀ q ∈ P6_againstOf l d post, mm_Sn l d M6_againstOf E post q := mm_c (sn_iconst dX6_againstOf_0 (by decide)) <| mm_c (sn_istore_n dX6_againstOf_1 rfl (by decide)) <| mm_c (sn_iconst dX6_againstOf_2 (by decide)) <| mm_c (sn_istore_n dX6_againstOf_3 rfl (by decide)) <| mm_c (sn_iload_n dX6_againstOf_4 rfl) <| mm_c (sn_aload_n dX6_againstOf_5 rfl) <| mm_c (sn_getI dX6_againstOf_6 F_X6_34) <| mm_c (sn_icmp_ge dX6_againstOf_9 (by decide)) <| mm_c (sn_iload_n dX6_againstOf_12 rfl) <| mm_c (sn_aload_n dX6_againstOf_13 rfl) <| mm_c (sn_iload_n dX6_againstOf_14 rfl) <| mm_c (sn_callV dX6_againstOf_15 C_X6_89) <| mm_c (sn_if_eq dX6_againstOf_18 (by decide)) <| mm_c (sn_iconst dX6_againstOf_21 (by decide)) <| mm_c (sn_goto dX6_againstOf_22 (by decide)) <| mm_c (sn_iconst dX6_againstOf_25 (by decide)) <| mm_c (sn_iload_n dX6_againstOf_26 rfl) <| mm_c (sn_ishl dX6_againstOf_27) <| mm_c (sn_ior dX6_againstOf_28) <| mm_c (sn_istore_n dX6_againstOf_29 rfl (by decide)) <| mm_c (sn_iinc dX6_againstOf_30 (by decide) (by decide)) <| mm_c (sn_goto dX6_againstOf_33 (by decide)) <| mm_c (sn_iload_n dX6_againstOf_36 rfl) <| mm_c (sn_ireturn dX6_againstOf_37 rfl) <| mm_n
theorem C_X6_92 : mm_cv RX6 92 M6_againstOf 0 16 := ⟨mm_mem 612 (by decide +kernel) rfl, mm_mem 614 (by decide +kernel) rfl, mm_mem 25 (by decide +kernel) rfl, mm_mem 42 (by decide +kernel) rfl, cw_6_againstOf, by decide +kernel, by decide, 5, _, _, _, rfl, rfl⟩
def M6_against : mm_M := (yX6_against, cX6_against, 1, (some .int))
theorem cw_6_against : Cond.code M6_against.1 M6_against.2.1 M6_against.2.2.1 M6_against.2.2.2 ∈ mm_tb := mm_mem 611 (by decide +kernel) rfl
def P6_against (l : Launch) (d : Nat) (post : mm_Po) : List (Nat × mm_S) := [(0, se_aload 0 1), (1, se_callV l d M6_againstOf 0 16 4), (4, se_ret post false)]
set_option maxRecDepth 100000 in
theorem S6_against (l : Launch) (d : Nat) (E : mm_X) (post : mm_Po) : ∀ q ∈ P6_against l d post, mm_Sn l d M6_against E post q := mm_c (sn_aload_n dX6_against_0 rfl) <| mm_c (sn_callV dX6_against_1 C_X6_92) <| mm_c (sn_ireturn dX6_against_4 rfl) <| mm_n
def M6_prove : mm_M := (yX6_prove, cX6_prove, 2, (some .int))
theorem cw_6_prove : Cond.code M6_prove.1 M6_prove.2.1 M6_prove.2.2.1 M6_prove.2.2.2 ∈ mm_tb := mm_mem 619 (by decide +kernel) rfl
def P6_prove (l : Launch) (d : Nat) (post : mm_Po) : List (Nat × mm_S) := [(0, se_aload 0 1), (1, se_callV l d M6_claims 0 16 4), (4, se_if_ne 9 7), (7, se_int 0 8), (8, se_ret post false), (9, se_int 0 10), (10, se_istore 1 11), (11, se_iload 1 12), (12, se_aload 0 13), (13, se_getI 16 0 16), (16, se_icmp_ge 37 19), (19, se_aload 0 20), (20, se_getR 16 19 23), (23, se_iload 1 24), (24, se_aload 0 25), (25, se_getR 16 22 28), (28, se_iload 1 29), (29, se_iaload 30), (30, se_iastore 31), (31, se_iinc 1 1 34), (34, se_goto 11), (37, se_int 1 38), (38, se_ret post false)]
set_option maxRecDepth 100000 in
theorem S6_prove (l : Launch) (d : Nat) (E : mm_X) (post : mm_Po) : ∀ q ∈ P6_prove l d post, mm_Sn l d M6_prove E post q := mm_c (sn_aload_n dX6_prove_0 rfl) <| mm_c (sn_callV dX6_prove_1 C_X6_83) <| mm_c (sn_if_ne dX6_prove_4 (by decide)) <| mm_c (sn_iconst dX6_prove_7 (by decide)) <| mm_c (sn_ireturn dX6_prove_8 rfl) <| mm_c (sn_iconst dX6_prove_9 (by decide)) <| mm_c (sn_istore_n dX6_prove_10 rfl (by decide)) <| mm_c (sn_iload_n dX6_prove_11 rfl) <| mm_c (sn_aload_n dX6_prove_12 rfl) <| mm_c (sn_getI dX6_prove_13 F_X6_34) <| mm_c (sn_icmp_ge dX6_prove_16 (by decide)) <| mm_c (sn_aload_n dX6_prove_19 rfl) <| mm_c (sn_getR dX6_prove_20 F_X6_16) <| mm_c (sn_iload_n dX6_prove_23 rfl) <| mm_c (sn_aload_n dX6_prove_24 rfl) <| mm_c (sn_getR dX6_prove_25 F_X6_25) <| mm_c (sn_iload_n dX6_prove_28 rfl) <| mm_c (sn_iaload dX6_prove_29) <| mm_c (sn_iastore dX6_prove_30) <| mm_c (sn_iinc dX6_prove_31 (by decide) (by decide)) <| mm_c (sn_goto dX6_prove_34 (by decide)) <| mm_c (sn_iconst dX6_prove_37 (by decide)) <| mm_c (sn_ireturn dX6_prove_38 rfl) <| mm_n
def M6_allOf : mm_M := (yX6_allOf, cX6_allOf, 5, (some .long))
theorem cw_6_allOf : Cond.code M6_allOf.1 M6_allOf.2.1 M6_allOf.2.2.1 M6_allOf.2.2.2 ∈ mm_tb := mm_mem 628 (by decide +kernel) rfl
def P6_allOf (l : Launch) (d : Nat) (post : mm_Po) : List (Nat × mm_S) := [(0, se_lng 1 1), (1, se_lstore 2 2), (2, se_int 0 3), (3, se_istore 4 5), (5, se_iload 4 7), (7, se_aload 0 8), (8, se_getI 16 0 11), (11, se_icmp_ge 25 14), (14, se_lload 2 15), (15, se_iload 1 16), (16, se_i2l 17), (17, se_lmul 18), (18, se_lstore 2 19), (19, se_iinc 4 1 22), (22, se_goto 5), (25, se_lload 2 26), (26, se_lret post)]
set_option maxRecDepth 100000 in
theorem S6_allOf (l : Launch) (d : Nat) (E : mm_X) (post : mm_Po) : ∀ q ∈ P6_allOf l d post, mm_Sn l d M6_allOf E post q := mm_c (sn_lconst dX6_allOf_0 (by decide)) <| mm_c (sn_lstore_n dX6_allOf_1 rfl (by decide)) <| mm_c (sn_iconst dX6_allOf_2 (by decide)) <| mm_c (sn_istore dX6_allOf_3 (by decide)) <| mm_c (sn_iload dX6_allOf_5) <| mm_c (sn_aload_n dX6_allOf_7 rfl) <| mm_c (sn_getI dX6_allOf_8 F_X6_34) <| mm_c (sn_icmp_ge dX6_allOf_11 (by decide)) <| mm_c (sn_lload_n dX6_allOf_14 rfl) <| mm_c (sn_iload_n dX6_allOf_15 rfl) <| mm_c (sn_i2l dX6_allOf_16) <| mm_c (sn_lmul dX6_allOf_17) <| mm_c (sn_lstore_n dX6_allOf_18 rfl (by decide)) <| mm_c (sn_iinc dX6_allOf_19 (by decide) (by decide)) <| mm_c (sn_goto dX6_allOf_22 (by decide)) <| mm_c (sn_lload_n dX6_allOf_25 rfl) <| mm_c (sn_lreturn dX6_allOf_26 rfl) <| mm_n
theorem C_X6_95 : mm_cv RX6 95 M6_allOf 1 16 := ⟨mm_mem 625 (by decide +kernel) rfl, mm_mem 627 (by decide +kernel) rfl, mm_mem 26 (by decide +kernel) rfl, mm_mem 42 (by decide +kernel) rfl, cw_6_allOf, by decide +kernel, by decide, 5, _, _, _, rfl, rfl⟩
def M6_goThrough : mm_M := (yX6_goThrough, cX6_goThrough, 9, (some .int))
theorem cw_6_goThrough : Cond.code M6_goThrough.1 M6_goThrough.2.1 M6_goThrough.2.2.1 M6_goThrough.2.2.2 ∈ mm_tb := mm_mem 637 (by decide +kernel) rfl
def P6_goThrough (l : Launch) (d : Nat) (post : mm_Po) : List (Nat × mm_S) := [(0, se_aload 0 1), (1, se_iload 1 2), (2, se_callV l d M6_allOf 1 16 5), (5, se_lstore 3 6), (6, se_int 0 7), (7, se_istore 5 9), (9, se_int 0 10), (10, se_istore 6 12), (12, se_iload 6 14), (14, se_i2l 15), (15, se_lload 3 16), (16, se_lcmp 17), (17, se_if_ge 87 20), (20, se_iload 6 22), (22, se_istore 7 24), (24, se_aload 0 25), (25, se_getI 16 0 28), (28, se_int 1 29), (29, se_isub 30), (30, se_istore 8 32), (32, se_iload 8 34), (34, se_if_lt 60 37), (37, se_aload 0 38), (38, se_getR 16 19 41), (41, se_iload 8 43), (43, se_iload 7 45), (45, se_iload 1 46), (46, se_irem 47), (47, se_iastore 48), (48, se_iload 7 50), (50, se_iload 1 51), (51, se_idiv 52), (52, se_istore 7 54), (54, se_iinc 8 (-1) 57), (57, se_goto 32), (60, se_aload 0 61), (61, se_callV l d M6_againstOf 0 16 64), (64, se_if_ne 81 67), (67, se_iload 5 69), (69, se_iload 2 70), (70, se_icmp_ne 78 73), (73, se_iload 5 75), (75, se_int 1 76), (76, se_iadd 77), (77, se_ret post false), (78, se_iinc 5 1 81), (81, se_iinc 6 1 84), (84, se_goto 12), (87, se_iload 5 89), (89, se_ret post false)]
set_option maxRecDepth 100000 in
theorem S6_goThrough (l : Launch) (d : Nat) (E : mm_X) (post : mm_Po) : ∀ q ∈ P6_goThrough l d post, mm_Sn l d M6_goThrough E post q := mm_c (sn_aload_n dX6_goThrough_0 rfl) <| mm_c (sn_iload_n dX6_goThrough_1 rfl) <| mm_c (sn_callV dX6_goThrough_2 C_X6_95) <| mm_c (sn_lstore_n dX6_goThrough_5 rfl (by decide)) <| mm_c (sn_iconst dX6_goThrough_6 (by decide)) <| mm_c (sn_istore dX6_goThrough_7 (by decide)) <| mm_c (sn_iconst dX6_goThrough_9 (by decide)) <| mm_c (sn_istore dX6_goThrough_10 (by decide)) <| mm_c (sn_iload dX6_goThrough_12) <| mm_c (sn_i2l dX6_goThrough_14) <| mm_c (sn_lload_n dX6_goThrough_15 rfl) <| mm_c (sn_lcmp dX6_goThrough_16) <| mm_c (sn_if_ge dX6_goThrough_17 (by decide)) <| mm_c (sn_iload dX6_goThrough_20) <| mm_c (sn_istore dX6_goThrough_22 (by decide)) <| mm_c (sn_aload_n dX6_goThrough_24 rfl) <| mm_c (sn_getI dX6_goThrough_25 F_X6_34) <| mm_c (sn_iconst dX6_goThrough_28 (by decide)) <| mm_c (sn_isub dX6_goThrough_29) <| mm_c (sn_istore dX6_goThrough_30 (by decide)) <| mm_c (sn_iload dX6_goThrough_32) <| mm_c (sn_if_lt dX6_goThrough_34 (by decide)) <| mm_c (sn_aload_n dX6_goThrough_37 rfl) <| mm_c (sn_getR dX6_goThrough_38 F_X6_16) <| mm_c (sn_iload dX6_goThrough_41) <| mm_c (sn_iload dX6_goThrough_43) <| mm_c (sn_iload_n dX6_goThrough_45 rfl) <| mm_c (sn_irem dX6_goThrough_46) <| mm_c (sn_iastore dX6_goThrough_47) <| mm_c (sn_iload dX6_goThrough_48) <| mm_c (sn_iload_n dX6_goThrough_50 rfl) <| mm_c (sn_idiv dX6_goThrough_51) <| mm_c (sn_istore dX6_goThrough_52 (by decide)) <| mm_c (sn_iinc dX6_goThrough_54 (by decide) (by decide)) <| mm_c (sn_goto dX6_goThrough_57 (by decide)) <| mm_c (sn_aload_n dX6_goThrough_60 rfl) <| mm_c (sn_callV dX6_goThrough_61 C_X6_92) <| mm_c (sn_if_ne dX6_goThrough_64 (by decide)) <| mm_c (sn_iload dX6_goThrough_67) <| mm_c (sn_iload_n dX6_goThrough_69 rfl) <| mm_c (sn_icmp_ne dX6_goThrough_70 (by decide)) <| mm_c (sn_iload dX6_goThrough_73) <| mm_c (sn_iconst dX6_goThrough_75 (by decide)) <| mm_c (sn_iadd dX6_goThrough_76) <| mm_c (sn_ireturn dX6_goThrough_77 rfl) <| mm_c (sn_iinc dX6_goThrough_78 (by decide) (by decide)) <| mm_c (sn_iinc dX6_goThrough_81 (by decide) (by decide)) <| mm_c (sn_goto dX6_goThrough_84 (by decide)) <| mm_c (sn_iload dX6_goThrough_87) <| mm_c (sn_ireturn dX6_goThrough_89 rfl) <| mm_n
theorem F_X6_28 : mm_fok RX6 28 16 9 (some 23) := ⟨5, _, RX6, TX6, 12, rfl, rfl, rfl, by decide, mm_inTX6, mm_mem 493 (by decide +kernel) rfl⟩
def M6_layAside : mm_M := (yX6_layAside, cX6_layAside, 2, none)
theorem cw_6_layAside : Cond.code M6_layAside.1 M6_layAside.2.1 M6_layAside.2.2.1 M6_layAside.2.2.2 ∈ mm_tb := mm_mem 633 (by decide +kernel) rfl
def P6_layAside (l : Launch) (d : Nat) (post : mm_Po) : List (Nat × mm_S) := [(0, se_int 0 1), (1, se_istore 1 2), (2, se_iload 1 3), (3, se_aload 0 4), (4, se_getI 16 0 7), (7, se_icmp_ge 28 10), (10, se_aload 0 11), (11, se_getR 16 23 14), (14, se_iload 1 15), (15, se_aload 0 16), (16, se_getR 16 19 19), (19, se_iload 1 20), (20, se_iaload 21), (21, se_iastore 22), (22, se_iinc 1 1 25), (25, se_goto 2), (28, se_vret post)]
set_option maxRecDepth 100000 in
theorem S6_layAside (l : Launch) (d : Nat) (E : mm_X) (post : mm_Po) : ∀ q ∈ P6_layAside l d post, mm_Sn l d M6_layAside E post q := mm_c (sn_iconst dX6_layAside_0 (by decide)) <| mm_c (sn_istore_n dX6_layAside_1 rfl (by decide)) <| mm_c (sn_iload_n dX6_layAside_2 rfl) <| mm_c (sn_aload_n dX6_layAside_3 rfl) <| mm_c (sn_getI dX6_layAside_4 F_X6_34) <| mm_c (sn_icmp_ge dX6_layAside_7 (by decide)) <| mm_c (sn_aload_n dX6_layAside_10 rfl) <| mm_c (sn_getR dX6_layAside_11 F_X6_28) <| mm_c (sn_iload_n dX6_layAside_14 rfl) <| mm_c (sn_aload_n dX6_layAside_15 rfl) <| mm_c (sn_getR dX6_layAside_16 F_X6_16) <| mm_c (sn_iload_n dX6_layAside_19 rfl) <| mm_c (sn_iaload dX6_layAside_20) <| mm_c (sn_iastore dX6_layAside_21) <| mm_c (sn_iinc dX6_layAside_22 (by decide) (by decide)) <| mm_c (sn_goto dX6_layAside_25 (by decide)) <| mm_c (sn_return dX6_layAside_28 rfl) <| mm_n
def M6_putBack : mm_M := (yX6_putBack, cX6_putBack, 2, none)
theorem cw_6_putBack : Cond.code M6_putBack.1 M6_putBack.2.1 M6_putBack.2.2.1 M6_putBack.2.2.2 ∈ mm_tb := mm_mem 641 (by decide +kernel) rfl
def P6_putBack (l : Launch) (d : Nat) (post : mm_Po) : List (Nat × mm_S) := [(0, se_int 0 1), (1, se_istore 1 2), (2, se_iload 1 3), (3, se_aload 0 4), (4, se_getI 16 0 7), (7, se_icmp_ge 28 10), (10, se_aload 0 11), (11, se_getR 16 19 14), (14, se_iload 1 15), (15, se_aload 0 16), (16, se_getR 16 23 19), (19, se_iload 1 20), (20, se_iaload 21), (21, se_iastore 22), (22, se_iinc 1 1 25), (25, se_goto 2), (28, se_vret post)]
set_option maxRecDepth 100000 in
theorem S6_putBack (l : Launch) (d : Nat) (E : mm_X) (post : mm_Po) : ∀ q ∈ P6_putBack l d post, mm_Sn l d M6_putBack E post q := mm_c (sn_iconst dX6_putBack_0 (by decide)) <| mm_c (sn_istore_n dX6_putBack_1 rfl (by decide)) <| mm_c (sn_iload_n dX6_putBack_2 rfl) <| mm_c (sn_aload_n dX6_putBack_3 rfl) <| mm_c (sn_getI dX6_putBack_4 F_X6_34) <| mm_c (sn_icmp_ge dX6_putBack_7 (by decide)) <| mm_c (sn_aload_n dX6_putBack_10 rfl) <| mm_c (sn_getR dX6_putBack_11 F_X6_16) <| mm_c (sn_iload_n dX6_putBack_14 rfl) <| mm_c (sn_aload_n dX6_putBack_15 rfl) <| mm_c (sn_getR dX6_putBack_16 F_X6_28) <| mm_c (sn_iload_n dX6_putBack_19 rfl) <| mm_c (sn_iaload dX6_putBack_20) <| mm_c (sn_iastore dX6_putBack_21) <| mm_c (sn_iinc dX6_putBack_22 (by decide) (by decide)) <| mm_c (sn_goto dX6_putBack_25 (by decide)) <| mm_c (sn_return dX6_putBack_28 rfl) <| mm_n
theorem F_X6_103 : mm_fok RX6 103 16 8 none := ⟨5, _, RX6, TX6, 12, rfl, rfl, rfl, by decide, mm_inTX6, mm_mem 492 (by decide +kernel) rfl⟩
theorem F_X6_103_w : mm_fw RX6 103 16 8 false := ⟨5, _, RX6, TX6, 12, tyX6, rfl, rfl, rfl, by decide, mm_inTX6, mm_mem 492 (by decide +kernel) rfl, tyX6_ok, nmX6, rfl, rfl⟩
theorem C_X6_106 : mm_cv RX6 106 M6_layAside 0 16 := ⟨mm_mem 630 (by decide +kernel) rfl, mm_mem 632 (by decide +kernel) rfl, mm_mem 27 (by decide +kernel) rfl, mm_mem 42 (by decide +kernel) rfl, cw_6_layAside, by decide +kernel, by decide, 5, _, _, _, rfl, rfl⟩
theorem C_X6_109 : mm_cv RX6 109 M6_goThrough 2 16 := ⟨mm_mem 634 (by decide +kernel) rfl, mm_mem 636 (by decide +kernel) rfl, mm_mem 28 (by decide +kernel) rfl, mm_mem 42 (by decide +kernel) rfl, cw_6_goThrough, by decide +kernel, by decide, 5, _, _, _, rfl, rfl⟩
theorem C_X6_113 : mm_cv RX6 113 M6_putBack 0 16 := ⟨mm_mem 638 (by decide +kernel) rfl, mm_mem 640 (by decide +kernel) rfl, mm_mem 29 (by decide +kernel) rfl, mm_mem 42 (by decide +kernel) rfl, cw_6_putBack, by decide +kernel, by decide, 5, _, _, _, rfl, rfl⟩
def M6_tryAll : mm_M := (yX6_tryAll, cX6_tryAll, 3, (some .int))
theorem cw_6_tryAll : Cond.code M6_tryAll.1 M6_tryAll.2.1 M6_tryAll.2.2.1 M6_tryAll.2.2.2 ∈ mm_tb := mm_mem 623 (by decide +kernel) rfl
def P6_tryAll (l : Launch) (d : Nat) (post : mm_Po) : List (Nat × mm_S) := [(0, se_iload 1 1), (1, se_i2l 2), (2, se_lng 1 3), (3, se_lng 64 6), (6, se_callS l d M6_in 3 9), (9, se_if_ne 15 12), (12, se_int (-102) 14), (14, se_ret post false), (15, se_aload 0 16), (16, se_iload 1 17), (17, se_callV l d M6_allOf 1 16 20), (20, se_lng 100000 23), (23, se_lcmp 24), (24, se_if_gt 36 27), (27, se_aload 0 28), (28, se_getI 16 8 31), (31, se_int 30 33), (33, se_icmp_ne 39 36), (36, se_int (-103) 38), (38, se_ret post false), (39, se_aload 0 40), (40, se_dup 41), (41, se_getI 16 8 44), (44, se_int 1 45), (45, se_iadd 46), (46, se_put false 16 8 49), (49, se_aload 0 50), (50, se_callV l d M6_layAside 0 16 53), (53, se_aload 0 54), (54, se_iload 1 55), (55, se_int (-1) 56), (56, se_callV l d M6_goThrough 2 16 59), (59, se_istore 2 60), (60, se_aload 0 61), (61, se_callV l d M6_putBack 0 16 64), (64, se_iload 2 65), (65, se_ret post false)]
set_option maxRecDepth 100000 in
theorem S6_tryAll (l : Launch) (d : Nat) (E : mm_X) (post : mm_Po) : ∀ q ∈ P6_tryAll l d post, mm_Sn l d M6_tryAll E post q := mm_c (sn_iload_n dX6_tryAll_0 rfl) <| mm_c (sn_i2l dX6_tryAll_1) <| mm_c (sn_lconst dX6_tryAll_2 (by decide)) <| mm_c (sn_ldc2 dX6_tryAll_3 (mm_mem 624 (by decide +kernel) rfl)) <| mm_c (sn_callS dX6_tryAll_6 C_X6_38) <| mm_c (sn_if_ne dX6_tryAll_9 (by decide)) <| mm_c (sn_bipush dX6_tryAll_12 (by decide)) <| mm_c (sn_ireturn dX6_tryAll_14 rfl) <| mm_c (sn_aload_n dX6_tryAll_15 rfl) <| mm_c (sn_iload_n dX6_tryAll_16 rfl) <| mm_c (sn_callV dX6_tryAll_17 C_X6_95) <| mm_c (sn_ldc2 dX6_tryAll_20 (mm_mem 629 (by decide +kernel) rfl)) <| mm_c (sn_lcmp dX6_tryAll_23) <| mm_c (sn_if_gt dX6_tryAll_24 (by decide)) <| mm_c (sn_aload_n dX6_tryAll_27 rfl) <| mm_c (sn_getI dX6_tryAll_28 F_X6_103) <| mm_c (sn_bipush dX6_tryAll_31 (by decide)) <| mm_c (sn_icmp_ne dX6_tryAll_33 (by decide)) <| mm_c (sn_bipush dX6_tryAll_36 (by decide)) <| mm_c (sn_ireturn dX6_tryAll_38 rfl) <| mm_c (sn_aload_n dX6_tryAll_39 rfl) <| mm_c (sn_dup dX6_tryAll_40) <| mm_c (sn_getI dX6_tryAll_41 F_X6_103) <| mm_c (sn_iconst dX6_tryAll_44 (by decide)) <| mm_c (sn_iadd dX6_tryAll_45) <| mm_c (sn_put dX6_tryAll_46 F_X6_103_w) <| mm_c (sn_aload_n dX6_tryAll_49 rfl) <| mm_c (sn_callV dX6_tryAll_50 C_X6_106) <| mm_c (sn_aload_n dX6_tryAll_53 rfl) <| mm_c (sn_iload_n dX6_tryAll_54 rfl) <| mm_c (sn_iconst dX6_tryAll_55 (by decide)) <| mm_c (sn_callV dX6_tryAll_56 C_X6_109) <| mm_c (sn_istore_n dX6_tryAll_59 rfl (by decide)) <| mm_c (sn_aload_n dX6_tryAll_60 rfl) <| mm_c (sn_callV dX6_tryAll_61 C_X6_113) <| mm_c (sn_iload_n dX6_tryAll_64 rfl) <| mm_c (sn_ireturn dX6_tryAll_65 rfl) <| mm_n
def M6_attempt : mm_M := (yX6_attempt, cX6_attempt, 3, (some .int))
theorem cw_6_attempt : Cond.code M6_attempt.1 M6_attempt.2.1 M6_attempt.2.2.1 M6_attempt.2.2.2 ∈ mm_tb := mm_mem 645 (by decide +kernel) rfl
def P6_attempt (l : Launch) (d : Nat) (post : mm_Po) : List (Nat × mm_S) := [(0, se_iload 1 1), (1, se_i2l 2), (2, se_lng 1 3), (3, se_lng 64 6), (6, se_callS l d M6_in 3 9), (9, se_if_ne 15 12), (12, se_int (-102) 14), (14, se_ret post false), (15, se_aload 0 16), (16, se_iload 1 17), (17, se_callV l d M6_allOf 1 16 20), (20, se_lng 100000 23), (23, se_lcmp 24), (24, se_if_gt 36 27), (27, se_aload 0 28), (28, se_getI 16 8 31), (31, se_int 30 33), (33, se_icmp_ne 39 36), (36, se_int (-103) 38), (38, se_ret post false), (39, se_aload 0 40), (40, se_dup 41), (41, se_getI 16 8 44), (44, se_int 1 45), (45, se_iadd 46), (46, se_put false 16 8 49), (49, se_aload 0 50), (50, se_callV l d M6_layAside 0 16 53), (53, se_iload 2 54), (54, se_if_lt 69 57), (57, se_aload 0 58), (58, se_iload 1 59), (59, se_iload 2 60), (60, se_callV l d M6_goThrough 2 16 63), (63, se_iload 2 64), (64, se_int 1 65), (65, se_iadd 66), (66, se_icmp_eq 75 69), (69, se_aload 0 70), (70, se_callV l d M6_putBack 0 16 73), (73, se_int (-1) 74), (74, se_ret post false), (75, se_int 1 76), (76, se_ret post false)]
set_option maxRecDepth 100000 in
theorem S6_attempt (l : Launch) (d : Nat) (E : mm_X) (post : mm_Po) : ∀ q ∈ P6_attempt l d post, mm_Sn l d M6_attempt E post q := mm_c (sn_iload_n dX6_attempt_0 rfl) <| mm_c (sn_i2l dX6_attempt_1) <| mm_c (sn_lconst dX6_attempt_2 (by decide)) <| mm_c (sn_ldc2 dX6_attempt_3 (mm_mem 624 (by decide +kernel) rfl)) <| mm_c (sn_callS dX6_attempt_6 C_X6_38) <| mm_c (sn_if_ne dX6_attempt_9 (by decide)) <| mm_c (sn_bipush dX6_attempt_12 (by decide)) <| mm_c (sn_ireturn dX6_attempt_14 rfl) <| mm_c (sn_aload_n dX6_attempt_15 rfl) <| mm_c (sn_iload_n dX6_attempt_16 rfl) <| mm_c (sn_callV dX6_attempt_17 C_X6_95) <| mm_c (sn_ldc2 dX6_attempt_20 (mm_mem 629 (by decide +kernel) rfl)) <| mm_c (sn_lcmp dX6_attempt_23) <| mm_c (sn_if_gt dX6_attempt_24 (by decide)) <| mm_c (sn_aload_n dX6_attempt_27 rfl) <| mm_c (sn_getI dX6_attempt_28 F_X6_103) <| mm_c (sn_bipush dX6_attempt_31 (by decide)) <| mm_c (sn_icmp_ne dX6_attempt_33 (by decide)) <| mm_c (sn_bipush dX6_attempt_36 (by decide)) <| mm_c (sn_ireturn dX6_attempt_38 rfl) <| mm_c (sn_aload_n dX6_attempt_39 rfl) <| mm_c (sn_dup dX6_attempt_40) <| mm_c (sn_getI dX6_attempt_41 F_X6_103) <| mm_c (sn_iconst dX6_attempt_44 (by decide)) <| mm_c (sn_iadd dX6_attempt_45) <| mm_c (sn_put dX6_attempt_46 F_X6_103_w) <| mm_c (sn_aload_n dX6_attempt_49 rfl) <| mm_c (sn_callV dX6_attempt_50 C_X6_106) <| mm_c (sn_iload_n dX6_attempt_53 rfl) <| mm_c (sn_if_lt dX6_attempt_54 (by decide)) <| mm_c (sn_aload_n dX6_attempt_57 rfl) <| mm_c (sn_iload_n dX6_attempt_58 rfl) <| mm_c (sn_iload_n dX6_attempt_59 rfl) <| mm_c (sn_callV dX6_attempt_60 C_X6_109) <| mm_c (sn_iload_n dX6_attempt_63 rfl) <| mm_c (sn_iconst dX6_attempt_64 (by decide)) <| mm_c (sn_iadd dX6_attempt_65) <| mm_c (sn_icmp_eq dX6_attempt_66 (by decide)) <| mm_c (sn_aload_n dX6_attempt_69 rfl) <| mm_c (sn_callV dX6_attempt_70 C_X6_113) <| mm_c (sn_iconst dX6_attempt_73 (by decide)) <| mm_c (sn_ireturn dX6_attempt_74 rfl) <| mm_c (sn_iconst dX6_attempt_75 (by decide)) <| mm_c (sn_ireturn dX6_attempt_76 rfl) <| mm_n
def M6_numbers : mm_M := (yX6_numbers, cX6_numbers, 3, (some .int))
theorem cw_6_numbers : Cond.code M6_numbers.1 M6_numbers.2.1 M6_numbers.2.2.1 M6_numbers.2.2.2 ∈ mm_tb := mm_mem 649 (by decide +kernel) rfl
def P6_numbers (l : Launch) (d : Nat) (post : mm_Po) : List (Nat × mm_S) := [(0, se_aload 0 1), (1, se_callV l d M6_claims 0 16 4), (4, se_if_ne 9 7), (7, se_int (-1) 8), (8, se_ret post false), (9, se_int 0 10), (10, se_istore 1 11), (11, se_int 0 12), (12, se_istore 2 13), (13, se_iload 2 14), (14, se_aload 0 15), (15, se_getI 16 0 18), (18, se_icmp_ge 48 21), (21, se_aload 0 22), (22, se_getR 16 22 25), (25, se_iload 2 26), (26, se_iaload 27), (27, se_iload 1 28), (28, se_icmp_le 40 31), (31, se_aload 0 32), (32, se_getR 16 22 35), (35, se_iload 2 36), (36, se_iaload 37), (37, se_goto 41), (40, se_iload 1 41), (41, se_istore 1 42), (42, se_iinc 2 1 45), (45, se_goto 13), (48, se_iload 1 49), (49, se_int 1 50), (50, se_iadd 51), (51, se_ret post false)]
set_option maxRecDepth 100000 in
theorem S6_numbers (l : Launch) (d : Nat) (E : mm_X) (post : mm_Po) : ∀ q ∈ P6_numbers l d post, mm_Sn l d M6_numbers E post q := mm_c (sn_aload_n dX6_numbers_0 rfl) <| mm_c (sn_callV dX6_numbers_1 C_X6_83) <| mm_c (sn_if_ne dX6_numbers_4 (by decide)) <| mm_c (sn_iconst dX6_numbers_7 (by decide)) <| mm_c (sn_ireturn dX6_numbers_8 rfl) <| mm_c (sn_iconst dX6_numbers_9 (by decide)) <| mm_c (sn_istore_n dX6_numbers_10 rfl (by decide)) <| mm_c (sn_iconst dX6_numbers_11 (by decide)) <| mm_c (sn_istore_n dX6_numbers_12 rfl (by decide)) <| mm_c (sn_iload_n dX6_numbers_13 rfl) <| mm_c (sn_aload_n dX6_numbers_14 rfl) <| mm_c (sn_getI dX6_numbers_15 F_X6_34) <| mm_c (sn_icmp_ge dX6_numbers_18 (by decide)) <| mm_c (sn_aload_n dX6_numbers_21 rfl) <| mm_c (sn_getR dX6_numbers_22 F_X6_25) <| mm_c (sn_iload_n dX6_numbers_25 rfl) <| mm_c (sn_iaload dX6_numbers_26) <| mm_c (sn_iload_n dX6_numbers_27 rfl) <| mm_c (sn_icmp_le dX6_numbers_28 (by decide)) <| mm_c (sn_aload_n dX6_numbers_31 rfl) <| mm_c (sn_getR dX6_numbers_32 F_X6_25) <| mm_c (sn_iload_n dX6_numbers_35 rfl) <| mm_c (sn_iaload dX6_numbers_36) <| mm_c (sn_goto dX6_numbers_37 (by decide)) <| mm_c (sn_iload_n dX6_numbers_40 rfl) <| mm_c (sn_istore_n dX6_numbers_41 rfl (by decide)) <| mm_c (sn_iinc dX6_numbers_42 (by decide) (by decide)) <| mm_c (sn_goto dX6_numbers_45 (by decide)) <| mm_c (sn_iload_n dX6_numbers_48 rfl) <| mm_c (sn_iconst dX6_numbers_49 (by decide)) <| mm_c (sn_iadd dX6_numbers_50) <| mm_c (sn_ireturn dX6_numbers_51 rfl) <| mm_n
def M6_slip : mm_M := (yX6_slip, cX6_slip, 14, (some .long))
theorem cw_6_slip : Cond.code M6_slip.1 M6_slip.2.1 M6_slip.2.2.1 M6_slip.2.2.2 ∈ mm_tb := mm_mem 653 (by decide +kernel) rfl
def P6_slip (l : Launch) (d : Nat) (post : mm_Po) : List (Nat × mm_S) := [(0, se_iload 1 1), (1, se_i2l 2), (2, se_lng 0 3), (3, se_lng 10 6), (6, se_callS l d M6_in 3 9), (9, se_if_eq 22 12), (12, se_iload 2 13), (13, se_i2l 14), (14, se_lng 0 15), (15, se_lng 1 16), (16, se_callS l d M6_in 3 19), (19, se_if_ne 26 22), (22, se_lng (-102) 25), (25, se_lret post), (26, se_aload 0 27), (27, se_callV l d M6_againstOf 0 16 30), (30, se_istore 3 31), (31, se_lng 1 32), (32, se_lstore 4 34), (34, se_lng 1 35), (35, se_lstore 6 37), (37, se_int 0 38), (38, se_istore 8 40), (40, se_iload 8 42), (42, se_aload 0 43), (43, se_getI 16 0 46), (46, se_icmp_ge 83 49), (49, se_iload 3 50), (50, se_iload 8 52), (52, se_ishr 53), (53, se_int 1 54), (54, se_iand 55), (55, se_int 1 56), (56, se_icmp_ne 77 59), (59, se_lload 4 61), (61, se_int 10 63), (63, se_iload 1 64), (64, se_isub 65), (65, se_i2l 66), (66, se_lmul 67), (67, se_lstore 4 69), (69, se_lload 6 71), (71, se_lng 10 74), (74, se_lmul 75), (75, se_lstore 6 77), (77, se_iinc 8 1 80), (80, se_goto 40), (83, se_lload 4 85), (85, se_lstore 8 87), (87, se_lload 6 89), (89, se_lstore 10 91), (91, se_lload 8 93), (93, se_lng 0 94), (94, se_lcmp 95), (95, se_if_le 116 98), (98, se_lload 10 100), (100, se_lload 8 102), (102, se_lrem 103), (103, se_lstore 12 105), (105, se_lload 8 107), (107, se_lstore 10 109), (109, se_lload 12 111), (111, se_lstore 8 113), (113, se_goto 91), (116, se_iload 2 117), (117, se_if_ne 128 120), (120, se_lload 4 122), (122, se_lload 10 124), (124, se_ldiv 125), (125, se_goto 133), (128, se_lload 6 130), (130, se_lload 10 132), (132, se_ldiv 133), (133, se_lret post)]
set_option maxRecDepth 100000 in
theorem S6_slip (l : Launch) (d : Nat) (E : mm_X) (post : mm_Po) : ∀ q ∈ P6_slip l d post, mm_Sn l d M6_slip E post q := mm_c (sn_iload_n dX6_slip_0 rfl) <| mm_c (sn_i2l dX6_slip_1) <| mm_c (sn_lconst dX6_slip_2 (by decide)) <| mm_c (sn_ldc2 dX6_slip_3 (mm_mem 654 (by decide +kernel) rfl)) <| mm_c (sn_callS dX6_slip_6 C_X6_38) <| mm_c (sn_if_eq dX6_slip_9 (by decide)) <| mm_c (sn_iload_n dX6_slip_12 rfl) <| mm_c (sn_i2l dX6_slip_13) <| mm_c (sn_lconst dX6_slip_14 (by decide)) <| mm_c (sn_lconst dX6_slip_15 (by decide)) <| mm_c (sn_callS dX6_slip_16 C_X6_38) <| mm_c (sn_if_ne dX6_slip_19 (by decide)) <| mm_c (sn_ldc2 dX6_slip_22 (mm_mem 655 (by decide +kernel) rfl)) <| mm_c (sn_lreturn dX6_slip_25 rfl) <| mm_c (sn_aload_n dX6_slip_26 rfl) <| mm_c (sn_callV dX6_slip_27 C_X6_92) <| mm_c (sn_istore_n dX6_slip_30 rfl (by decide)) <| mm_c (sn_lconst dX6_slip_31 (by decide)) <| mm_c (sn_lstore dX6_slip_32 (by decide)) <| mm_c (sn_lconst dX6_slip_34 (by decide)) <| mm_c (sn_lstore dX6_slip_35 (by decide)) <| mm_c (sn_iconst dX6_slip_37 (by decide)) <| mm_c (sn_istore dX6_slip_38 (by decide)) <| mm_c (sn_iload dX6_slip_40) <| mm_c (sn_aload_n dX6_slip_42 rfl) <| mm_c (sn_getI dX6_slip_43 F_X6_34) <| mm_c (sn_icmp_ge dX6_slip_46 (by decide)) <| mm_c (sn_iload_n dX6_slip_49 rfl) <| mm_c (sn_iload dX6_slip_50) <| mm_c (sn_ishr dX6_slip_52) <| mm_c (sn_iconst dX6_slip_53 (by decide)) <| mm_c (sn_iand dX6_slip_54) <| mm_c (sn_iconst dX6_slip_55 (by decide)) <| mm_c (sn_icmp_ne dX6_slip_56 (by decide)) <| mm_c (sn_lload dX6_slip_59) <| mm_c (sn_bipush dX6_slip_61 (by decide)) <| mm_c (sn_iload_n dX6_slip_63 rfl) <| mm_c (sn_isub dX6_slip_64) <| mm_c (sn_i2l dX6_slip_65) <| mm_c (sn_lmul dX6_slip_66) <| mm_c (sn_lstore dX6_slip_67 (by decide)) <| mm_c (sn_lload dX6_slip_69) <| mm_c (sn_ldc2 dX6_slip_71 (mm_mem 654 (by decide +kernel) rfl)) <| mm_c (sn_lmul dX6_slip_74) <| mm_c (sn_lstore dX6_slip_75 (by decide)) <| mm_c (sn_iinc dX6_slip_77 (by decide) (by decide)) <| mm_c (sn_goto dX6_slip_80 (by decide)) <| mm_c (sn_lload dX6_slip_83) <| mm_c (sn_lstore dX6_slip_85 (by decide)) <| mm_c (sn_lload dX6_slip_87) <| mm_c (sn_lstore dX6_slip_89 (by decide)) <| mm_c (sn_lload dX6_slip_91) <| mm_c (sn_lconst dX6_slip_93 (by decide)) <| mm_c (sn_lcmp dX6_slip_94) <| mm_c (sn_if_le dX6_slip_95 (by decide)) <| mm_c (sn_lload dX6_slip_98) <| mm_c (sn_lload dX6_slip_100) <| mm_c (sn_lrem dX6_slip_102) <| mm_c (sn_lstore dX6_slip_103 (by decide)) <| mm_c (sn_lload dX6_slip_105) <| mm_c (sn_lstore dX6_slip_107 (by decide)) <| mm_c (sn_lload dX6_slip_109) <| mm_c (sn_lstore dX6_slip_111 (by decide)) <| mm_c (sn_goto dX6_slip_113 (by decide)) <| mm_c (sn_iload_n dX6_slip_116 rfl) <| mm_c (sn_if_ne dX6_slip_117 (by decide)) <| mm_c (sn_lload dX6_slip_120) <| mm_c (sn_lload dX6_slip_122) <| mm_c (sn_ldiv dX6_slip_124) <| mm_c (sn_goto dX6_slip_125 (by decide)) <| mm_c (sn_lload dX6_slip_128) <| mm_c (sn_lload dX6_slip_130) <| mm_c (sn_ldiv dX6_slip_132) <| mm_c (sn_lreturn dX6_slip_133 rfl) <| mm_n
def M6_distance : mm_M := (yX6_distance, cX6_distance, 4, (some .int))
theorem cw_6_distance : Cond.code M6_distance.1 M6_distance.2.1 M6_distance.2.2.1 M6_distance.2.2.2 ∈ mm_tb := mm_mem 659 (by decide +kernel) rfl
def P6_distance (l : Launch) (d : Nat) (post : mm_Po) : List (Nat × mm_S) := [(0, se_aload 0 1), (1, se_iload 1 2), (2, se_callV l d M6_isPost 1 16 5), (5, se_if_ne 11 8), (8, se_int (-101) 10), (10, se_ret post false), (11, se_iload 2 12), (12, se_i2l 13), (13, se_lng 0 14), (14, se_lng 4 17), (17, se_callS l d M6_in 3 20), (20, se_if_ne 26 23), (23, se_int (-102) 25), (25, se_ret post false), (26, se_aload 0 27), (27, se_getR 16 20 30), (30, se_iload 1 31), (31, se_iaload 32), (32, se_istore 3 33), (33, se_aload 0 34), (34, se_getR 16 20 37), (37, se_iload 1 38), (38, se_iload 2 39), (39, se_iastore 40), (40, se_iload 3 41), (41, se_ret post false)]
set_option maxRecDepth 100000 in
theorem S6_distance (l : Launch) (d : Nat) (E : mm_X) (post : mm_Po) : ∀ q ∈ P6_distance l d post, mm_Sn l d M6_distance E post q := mm_c (sn_aload_n dX6_distance_0 rfl) <| mm_c (sn_iload_n dX6_distance_1 rfl) <| mm_c (sn_callV dX6_distance_2 C_X6_44) <| mm_c (sn_if_ne dX6_distance_5 (by decide)) <| mm_c (sn_bipush dX6_distance_8 (by decide)) <| mm_c (sn_ireturn dX6_distance_10 rfl) <| mm_c (sn_iload_n dX6_distance_11 rfl) <| mm_c (sn_i2l dX6_distance_12) <| mm_c (sn_lconst dX6_distance_13 (by decide)) <| mm_c (sn_ldc2 dX6_distance_14 (mm_mem 546 (by decide +kernel) rfl)) <| mm_c (sn_callS dX6_distance_17 C_X6_38) <| mm_c (sn_if_ne dX6_distance_20 (by decide)) <| mm_c (sn_bipush dX6_distance_23 (by decide)) <| mm_c (sn_ireturn dX6_distance_25 rfl) <| mm_c (sn_aload_n dX6_distance_26 rfl) <| mm_c (sn_getR dX6_distance_27 F_X6_19) <| mm_c (sn_iload_n dX6_distance_30 rfl) <| mm_c (sn_iaload dX6_distance_31) <| mm_c (sn_istore_n dX6_distance_32 rfl (by decide)) <| mm_c (sn_aload_n dX6_distance_33 rfl) <| mm_c (sn_getR dX6_distance_34 F_X6_19) <| mm_c (sn_iload_n dX6_distance_37 rfl) <| mm_c (sn_iload_n dX6_distance_38 rfl) <| mm_c (sn_iastore dX6_distance_39) <| mm_c (sn_iload_n dX6_distance_40 rfl) <| mm_c (sn_ireturn dX6_distance_41 rfl) <| mm_n
def M6_ruleOf : mm_M := (yX6_ruleOf, cX6_ruleOf, 4, (some .int))
theorem cw_6_ruleOf : Cond.code M6_ruleOf.1 M6_ruleOf.2.1 M6_ruleOf.2.2.1 M6_ruleOf.2.2.2 ∈ mm_tb := mm_mem 671 (by decide +kernel) rfl
def P6_ruleOf (l : Launch) (d : Nat) (post : mm_Po) : List (Nat × mm_S) := [(0, se_iload 1 1), (1, se_if_ne 6 4), (4, se_int 0 5), (5, se_ret post false), (6, se_int 3 7), (7, se_istore 2 8), (8, se_int 0 9), (9, se_istore 3 10), (10, se_iload 3 11), (11, se_aload 0 12), (12, se_getI 16 0 15), (15, se_icmp_ge 54 18), (18, se_aload 0 19), (19, se_iload 1 20), (20, se_iload 3 21), (21, se_callV l d M6_areNear 2 16 24), (24, se_if_eq 46 27), (27, se_aload 0 28), (28, se_getR 16 20 31), (31, se_iload 3 32), (32, se_iaload 33), (33, se_iload 2 34), (34, se_icmp_ge 46 37), (37, se_aload 0 38), (38, se_getR 16 20 41), (41, se_iload 3 42), (42, se_iaload 43), (43, se_goto 47), (46, se_iload 2 47), (47, se_istore 2 48), (48, se_iinc 3 1 51), (51, se_goto 10), (54, se_iload 2 55), (55, se_int 1 56), (56, se_iadd 57), (57, se_ret post false)]
set_option maxRecDepth 100000 in
theorem S6_ruleOf (l : Launch) (d : Nat) (E : mm_X) (post : mm_Po) : ∀ q ∈ P6_ruleOf l d post, mm_Sn l d M6_ruleOf E post q := mm_c (sn_iload_n dX6_ruleOf_0 rfl) <| mm_c (sn_if_ne dX6_ruleOf_1 (by decide)) <| mm_c (sn_iconst dX6_ruleOf_4 (by decide)) <| mm_c (sn_ireturn dX6_ruleOf_5 rfl) <| mm_c (sn_iconst dX6_ruleOf_6 (by decide)) <| mm_c (sn_istore_n dX6_ruleOf_7 rfl (by decide)) <| mm_c (sn_iconst dX6_ruleOf_8 (by decide)) <| mm_c (sn_istore_n dX6_ruleOf_9 rfl (by decide)) <| mm_c (sn_iload_n dX6_ruleOf_10 rfl) <| mm_c (sn_aload_n dX6_ruleOf_11 rfl) <| mm_c (sn_getI dX6_ruleOf_12 F_X6_34) <| mm_c (sn_icmp_ge dX6_ruleOf_15 (by decide)) <| mm_c (sn_aload_n dX6_ruleOf_18 rfl) <| mm_c (sn_iload_n dX6_ruleOf_19 rfl) <| mm_c (sn_iload_n dX6_ruleOf_20 rfl) <| mm_c (sn_callV dX6_ruleOf_21 C_X6_55) <| mm_c (sn_if_eq dX6_ruleOf_24 (by decide)) <| mm_c (sn_aload_n dX6_ruleOf_27 rfl) <| mm_c (sn_getR dX6_ruleOf_28 F_X6_19) <| mm_c (sn_iload_n dX6_ruleOf_31 rfl) <| mm_c (sn_iaload dX6_ruleOf_32) <| mm_c (sn_iload_n dX6_ruleOf_33 rfl) <| mm_c (sn_icmp_ge dX6_ruleOf_34 (by decide)) <| mm_c (sn_aload_n dX6_ruleOf_37 rfl) <| mm_c (sn_getR dX6_ruleOf_38 F_X6_19) <| mm_c (sn_iload_n dX6_ruleOf_41 rfl) <| mm_c (sn_iaload dX6_ruleOf_42) <| mm_c (sn_goto dX6_ruleOf_43 (by decide)) <| mm_c (sn_iload_n dX6_ruleOf_46 rfl) <| mm_c (sn_istore_n dX6_ruleOf_47 rfl (by decide)) <| mm_c (sn_iinc dX6_ruleOf_48 (by decide) (by decide)) <| mm_c (sn_goto dX6_ruleOf_51 (by decide)) <| mm_c (sn_iload_n dX6_ruleOf_54 rfl) <| mm_c (sn_iconst dX6_ruleOf_55 (by decide)) <| mm_c (sn_iadd dX6_ruleOf_56) <| mm_c (sn_ireturn dX6_ruleOf_57 rfl) <| mm_n
theorem C_X6_120 : mm_cv RX6 120 M6_ruleOf 1 16 := ⟨mm_mem 668 (by decide +kernel) rfl, mm_mem 670 (by decide +kernel) rfl, mm_mem 31 (by decide +kernel) rfl, mm_mem 42 (by decide +kernel) rfl, cw_6_ruleOf, by decide +kernel, by decide, 5, _, _, _, rfl, rfl⟩
def M6_restlessOf : mm_M := (yX6_restlessOf, cX6_restlessOf, 3, (some .int))
theorem cw_6_restlessOf : Cond.code M6_restlessOf.1 M6_restlessOf.2.1 M6_restlessOf.2.2.1 M6_restlessOf.2.2.2 ∈ mm_tb := mm_mem 667 (by decide +kernel) rfl
def P6_restlessOf (l : Launch) (d : Nat) (post : mm_Po) : List (Nat × mm_S) := [(0, se_int 0 1), (1, se_istore 1 2), (2, se_int 0 3), (3, se_istore 2 4), (4, se_iload 2 5), (5, se_aload 0 6), (6, se_getI 16 0 9), (9, se_icmp_ge 42 12), (12, se_iload 1 13), (13, se_aload 0 14), (14, se_iload 2 15), (15, se_callV l d M6_ruleOf 1 16 18), (18, se_aload 0 19), (19, se_getR 16 20 22), (22, se_iload 2 23), (23, se_iaload 24), (24, se_icmp_ne 31 27), (27, se_int 0 28), (28, se_goto 34), (31, se_int 1 32), (32, se_iload 2 33), (33, se_ishl 34), (34, se_ior 35), (35, se_istore 1 36), (36, se_iinc 2 1 39), (39, se_goto 4), (42, se_iload 1 43), (43, se_ret post false)]
set_option maxRecDepth 100000 in
theorem S6_restlessOf (l : Launch) (d : Nat) (E : mm_X) (post : mm_Po) : ∀ q ∈ P6_restlessOf l d post, mm_Sn l d M6_restlessOf E post q := mm_c (sn_iconst dX6_restlessOf_0 (by decide)) <| mm_c (sn_istore_n dX6_restlessOf_1 rfl (by decide)) <| mm_c (sn_iconst dX6_restlessOf_2 (by decide)) <| mm_c (sn_istore_n dX6_restlessOf_3 rfl (by decide)) <| mm_c (sn_iload_n dX6_restlessOf_4 rfl) <| mm_c (sn_aload_n dX6_restlessOf_5 rfl) <| mm_c (sn_getI dX6_restlessOf_6 F_X6_34) <| mm_c (sn_icmp_ge dX6_restlessOf_9 (by decide)) <| mm_c (sn_iload_n dX6_restlessOf_12 rfl) <| mm_c (sn_aload_n dX6_restlessOf_13 rfl) <| mm_c (sn_iload_n dX6_restlessOf_14 rfl) <| mm_c (sn_callV dX6_restlessOf_15 C_X6_120) <| mm_c (sn_aload_n dX6_restlessOf_18 rfl) <| mm_c (sn_getR dX6_restlessOf_19 F_X6_19) <| mm_c (sn_iload_n dX6_restlessOf_22 rfl) <| mm_c (sn_iaload dX6_restlessOf_23) <| mm_c (sn_icmp_ne dX6_restlessOf_24 (by decide)) <| mm_c (sn_iconst dX6_restlessOf_27 (by decide)) <| mm_c (sn_goto dX6_restlessOf_28 (by decide)) <| mm_c (sn_iconst dX6_restlessOf_31 (by decide)) <| mm_c (sn_iload_n dX6_restlessOf_32 rfl) <| mm_c (sn_ishl dX6_restlessOf_33) <| mm_c (sn_ior dX6_restlessOf_34) <| mm_c (sn_istore_n dX6_restlessOf_35 rfl (by decide)) <| mm_c (sn_iinc dX6_restlessOf_36 (by decide) (by decide)) <| mm_c (sn_goto dX6_restlessOf_39 (by decide)) <| mm_c (sn_iload_n dX6_restlessOf_42 rfl) <| mm_c (sn_ireturn dX6_restlessOf_43 rfl) <| mm_n
theorem C_X6_123 : mm_cv RX6 123 M6_restlessOf 0 16 := ⟨mm_mem 664 (by decide +kernel) rfl, mm_mem 666 (by decide +kernel) rfl, mm_mem 30 (by decide +kernel) rfl, mm_mem 42 (by decide +kernel) rfl, cw_6_restlessOf, by decide +kernel, by decide, 5, _, _, _, rfl, rfl⟩
def M6_restless : mm_M := (yX6_restless, cX6_restless, 1, (some .int))
theorem cw_6_restless : Cond.code M6_restless.1 M6_restless.2.1 M6_restless.2.2.1 M6_restless.2.2.2 ∈ mm_tb := mm_mem 663 (by decide +kernel) rfl
def P6_restless (l : Launch) (d : Nat) (post : mm_Po) : List (Nat × mm_S) := [(0, se_aload 0 1), (1, se_callV l d M6_restlessOf 0 16 4), (4, se_ret post false)]
set_option maxRecDepth 100000 in
theorem S6_restless (l : Launch) (d : Nat) (E : mm_X) (post : mm_Po) : ∀ q ∈ P6_restless l d post, mm_Sn l d M6_restless E post q := mm_c (sn_aload_n dX6_restless_0 rfl) <| mm_c (sn_callV dX6_restless_1 C_X6_123) <| mm_c (sn_ireturn dX6_restless_4 rfl) <| mm_n
def M6_move : mm_M := (yX6_move, cX6_move, 2, (some .int))
theorem cw_6_move : Cond.code M6_move.1 M6_move.2.1 M6_move.2.2.1 M6_move.2.2.2 ∈ mm_tb := mm_mem 675 (by decide +kernel) rfl
def P6_move (l : Launch) (d : Nat) (post : mm_Po) : List (Nat × mm_S) := [(0, se_aload 0 1), (1, se_iload 1 2), (2, se_callV l d M6_isPost 1 16 5), (5, se_if_ne 11 8), (8, se_int (-101) 10), (10, se_ret post false), (11, se_aload 0 12), (12, se_iload 1 13), (13, se_callV l d M6_ruleOf 1 16 16), (16, se_aload 0 17), (17, se_getR 16 20 20), (20, se_iload 1 21), (21, se_iaload 22), (22, se_icmp_ne 28 25), (25, se_int (-103) 27), (27, se_ret post false), (28, se_aload 0 29), (29, se_getR 16 20 32), (32, se_iload 1 33), (33, se_aload 0 34), (34, se_iload 1 35), (35, se_callV l d M6_ruleOf 1 16 38), (38, se_iastore 39), (39, se_aload 0 40), (40, se_getR 16 20 43), (43, se_iload 1 44), (44, se_iaload 45), (45, se_ret post false)]
set_option maxRecDepth 100000 in
theorem S6_move (l : Launch) (d : Nat) (E : mm_X) (post : mm_Po) : ∀ q ∈ P6_move l d post, mm_Sn l d M6_move E post q := mm_c (sn_aload_n dX6_move_0 rfl) <| mm_c (sn_iload_n dX6_move_1 rfl) <| mm_c (sn_callV dX6_move_2 C_X6_44) <| mm_c (sn_if_ne dX6_move_5 (by decide)) <| mm_c (sn_bipush dX6_move_8 (by decide)) <| mm_c (sn_ireturn dX6_move_10 rfl) <| mm_c (sn_aload_n dX6_move_11 rfl) <| mm_c (sn_iload_n dX6_move_12 rfl) <| mm_c (sn_callV dX6_move_13 C_X6_120) <| mm_c (sn_aload_n dX6_move_16 rfl) <| mm_c (sn_getR dX6_move_17 F_X6_19) <| mm_c (sn_iload_n dX6_move_20 rfl) <| mm_c (sn_iaload dX6_move_21) <| mm_c (sn_icmp_ne dX6_move_22 (by decide)) <| mm_c (sn_bipush dX6_move_25 (by decide)) <| mm_c (sn_ireturn dX6_move_27 rfl) <| mm_c (sn_aload_n dX6_move_28 rfl) <| mm_c (sn_getR dX6_move_29 F_X6_19) <| mm_c (sn_iload_n dX6_move_32 rfl) <| mm_c (sn_aload_n dX6_move_33 rfl) <| mm_c (sn_iload_n dX6_move_34 rfl) <| mm_c (sn_callV dX6_move_35 C_X6_120) <| mm_c (sn_iastore dX6_move_38) <| mm_c (sn_aload_n dX6_move_39 rfl) <| mm_c (sn_getR dX6_move_40 F_X6_19) <| mm_c (sn_iload_n dX6_move_43 rfl) <| mm_c (sn_iaload dX6_move_44) <| mm_c (sn_ireturn dX6_move_45 rfl) <| mm_n
def M6_mend : mm_M := (yX6_mend, cX6_mend, 4, (some .int))
theorem cw_6_mend : Cond.code M6_mend.1 M6_mend.2.1 M6_mend.2.2.1 M6_mend.2.2.2 ∈ mm_tb := mm_mem 679 (by decide +kernel) rfl
def P6_mend (l : Launch) (d : Nat) (post : mm_Po) : List (Nat × mm_S) := [(0, se_int 0 1), (1, se_istore 1 2), (2, se_aload 0 3), (3, se_callV l d M6_restlessOf 0 16 6), (6, se_istore 2 7), (7, se_iload 2 8), (8, se_if_eq 56 11), (11, se_iload 1 12), (12, se_int 1000 15), (15, se_icmp_ge 56 18), (18, se_int 0 19), (19, se_istore 3 20), (20, se_iload 2 21), (21, se_iload 3 22), (22, se_ishr 23), (23, se_int 1 24), (24, se_iand 25), (25, se_if_ne 34 28), (28, se_iinc 3 1 31), (31, se_goto 20), (34, se_aload 0 35), (35, se_getR 16 20 38), (38, se_iload 3 39), (39, se_aload 0 40), (40, se_iload 3 41), (41, se_callV l d M6_ruleOf 1 16 44), (44, se_iastore 45), (45, se_iinc 1 1 48), (48, se_aload 0 49), (49, se_callV l d M6_restlessOf 0 16 52), (52, se_istore 2 53), (53, se_goto 7), (56, se_iload 2 57), (57, se_if_ne 64 60), (60, se_iload 1 61), (61, se_goto 65), (64, se_int (-1) 65), (65, se_ret post false)]
set_option maxRecDepth 100000 in
theorem S6_mend (l : Launch) (d : Nat) (E : mm_X) (post : mm_Po) : ∀ q ∈ P6_mend l d post, mm_Sn l d M6_mend E post q := mm_c (sn_iconst dX6_mend_0 (by decide)) <| mm_c (sn_istore_n dX6_mend_1 rfl (by decide)) <| mm_c (sn_aload_n dX6_mend_2 rfl) <| mm_c (sn_callV dX6_mend_3 C_X6_123) <| mm_c (sn_istore_n dX6_mend_6 rfl (by decide)) <| mm_c (sn_iload_n dX6_mend_7 rfl) <| mm_c (sn_if_eq dX6_mend_8 (by decide)) <| mm_c (sn_iload_n dX6_mend_11 rfl) <| mm_c (sn_sipush dX6_mend_12 (by decide)) <| mm_c (sn_icmp_ge dX6_mend_15 (by decide)) <| mm_c (sn_iconst dX6_mend_18 (by decide)) <| mm_c (sn_istore_n dX6_mend_19 rfl (by decide)) <| mm_c (sn_iload_n dX6_mend_20 rfl) <| mm_c (sn_iload_n dX6_mend_21 rfl) <| mm_c (sn_ishr dX6_mend_22) <| mm_c (sn_iconst dX6_mend_23 (by decide)) <| mm_c (sn_iand dX6_mend_24) <| mm_c (sn_if_ne dX6_mend_25 (by decide)) <| mm_c (sn_iinc dX6_mend_28 (by decide) (by decide)) <| mm_c (sn_goto dX6_mend_31 (by decide)) <| mm_c (sn_aload_n dX6_mend_34 rfl) <| mm_c (sn_getR dX6_mend_35 F_X6_19) <| mm_c (sn_iload_n dX6_mend_38 rfl) <| mm_c (sn_aload_n dX6_mend_39 rfl) <| mm_c (sn_iload_n dX6_mend_40 rfl) <| mm_c (sn_callV dX6_mend_41 C_X6_120) <| mm_c (sn_iastore dX6_mend_44) <| mm_c (sn_iinc dX6_mend_45 (by decide) (by decide)) <| mm_c (sn_aload_n dX6_mend_48 rfl) <| mm_c (sn_callV dX6_mend_49 C_X6_123) <| mm_c (sn_istore_n dX6_mend_52 rfl (by decide)) <| mm_c (sn_goto dX6_mend_53 (by decide)) <| mm_c (sn_iload_n dX6_mend_56 rfl) <| mm_c (sn_if_ne dX6_mend_57 (by decide)) <| mm_c (sn_iload_n dX6_mend_60 rfl) <| mm_c (sn_goto dX6_mend_61 (by decide)) <| mm_c (sn_iconst dX6_mend_64 (by decide)) <| mm_c (sn_ireturn dX6_mend_65 rfl) <| mm_n
def M6_stateOf : mm_M := (yX6_stateOf, cX6_stateOf, 3, (some .int))
theorem cw_6_stateOf : Cond.code M6_stateOf.1 M6_stateOf.2.1 M6_stateOf.2.2.1 M6_stateOf.2.2.2 ∈ mm_tb := mm_mem 691 (by decide +kernel) rfl
def P6_stateOf (l : Launch) (d : Nat) (post : mm_Po) : List (Nat × mm_S) := [(0, se_int 0 1), (1, se_istore 1 2), (2, se_int 0 3), (3, se_istore 2 4), (4, se_iload 2 5), (5, se_aload 0 6), (6, se_getI 16 0 9), (9, se_icmp_ge 29 12), (12, se_int 5 13), (13, se_iload 1 14), (14, se_imul 15), (15, se_aload 0 16), (16, se_getR 16 20 19), (19, se_iload 2 20), (20, se_iaload 21), (21, se_iadd 22), (22, se_istore 1 23), (23, se_iinc 2 1 26), (26, se_goto 4), (29, se_iload 1 30), (30, se_ret post false)]
set_option maxRecDepth 100000 in
theorem S6_stateOf (l : Launch) (d : Nat) (E : mm_X) (post : mm_Po) : ∀ q ∈ P6_stateOf l d post, mm_Sn l d M6_stateOf E post q := mm_c (sn_iconst dX6_stateOf_0 (by decide)) <| mm_c (sn_istore_n dX6_stateOf_1 rfl (by decide)) <| mm_c (sn_iconst dX6_stateOf_2 (by decide)) <| mm_c (sn_istore_n dX6_stateOf_3 rfl (by decide)) <| mm_c (sn_iload_n dX6_stateOf_4 rfl) <| mm_c (sn_aload_n dX6_stateOf_5 rfl) <| mm_c (sn_getI dX6_stateOf_6 F_X6_34) <| mm_c (sn_icmp_ge dX6_stateOf_9 (by decide)) <| mm_c (sn_iconst dX6_stateOf_12 (by decide)) <| mm_c (sn_iload_n dX6_stateOf_13 rfl) <| mm_c (sn_imul dX6_stateOf_14) <| mm_c (sn_aload_n dX6_stateOf_15 rfl) <| mm_c (sn_getR dX6_stateOf_16 F_X6_19) <| mm_c (sn_iload_n dX6_stateOf_19 rfl) <| mm_c (sn_iaload dX6_stateOf_20) <| mm_c (sn_iadd dX6_stateOf_21) <| mm_c (sn_istore_n dX6_stateOf_22 rfl (by decide)) <| mm_c (sn_iinc dX6_stateOf_23 (by decide) (by decide)) <| mm_c (sn_goto dX6_stateOf_26 (by decide)) <| mm_c (sn_iload_n dX6_stateOf_29 rfl) <| mm_c (sn_ireturn dX6_stateOf_30 rfl) <| mm_n
def M6_setState : mm_M := (yX6_setState, cX6_setState, 4, none)
theorem cw_6_setState : Cond.code M6_setState.1 M6_setState.2.1 M6_setState.2.2.1 M6_setState.2.2.2 ∈ mm_tb := mm_mem 695 (by decide +kernel) rfl
def P6_setState (l : Launch) (d : Nat) (post : mm_Po) : List (Nat × mm_S) := [(0, se_iload 1 1), (1, se_istore 2 2), (2, se_aload 0 3), (3, se_getI 16 0 6), (6, se_int 1 7), (7, se_isub 8), (8, se_istore 3 9), (9, se_iload 3 10), (10, se_if_lt 32 13), (13, se_aload 0 14), (14, se_getR 16 20 17), (17, se_iload 3 18), (18, se_iload 2 19), (19, se_int 5 20), (20, se_irem 21), (21, se_iastore 22), (22, se_iload 2 23), (23, se_int 5 24), (24, se_idiv 25), (25, se_istore 2 26), (26, se_iinc 3 (-1) 29), (29, se_goto 9), (32, se_vret post)]
set_option maxRecDepth 100000 in
theorem S6_setState (l : Launch) (d : Nat) (E : mm_X) (post : mm_Po) : ∀ q ∈ P6_setState l d post, mm_Sn l d M6_setState E post q := mm_c (sn_iload_n dX6_setState_0 rfl) <| mm_c (sn_istore_n dX6_setState_1 rfl (by decide)) <| mm_c (sn_aload_n dX6_setState_2 rfl) <| mm_c (sn_getI dX6_setState_3 F_X6_34) <| mm_c (sn_iconst dX6_setState_6 (by decide)) <| mm_c (sn_isub dX6_setState_7) <| mm_c (sn_istore_n dX6_setState_8 rfl (by decide)) <| mm_c (sn_iload_n dX6_setState_9 rfl) <| mm_c (sn_if_lt dX6_setState_10 (by decide)) <| mm_c (sn_aload_n dX6_setState_13 rfl) <| mm_c (sn_getR dX6_setState_14 F_X6_19) <| mm_c (sn_iload_n dX6_setState_17 rfl) <| mm_c (sn_iload_n dX6_setState_18 rfl) <| mm_c (sn_iconst dX6_setState_19 (by decide)) <| mm_c (sn_irem dX6_setState_20) <| mm_c (sn_iastore dX6_setState_21) <| mm_c (sn_iload_n dX6_setState_22 rfl) <| mm_c (sn_iconst dX6_setState_23 (by decide)) <| mm_c (sn_idiv dX6_setState_24) <| mm_c (sn_istore_n dX6_setState_25 rfl (by decide)) <| mm_c (sn_iinc dX6_setState_26 (by decide) (by decide)) <| mm_c (sn_goto dX6_setState_29 (by decide)) <| mm_c (sn_return dX6_setState_32 rfl) <| mm_n
theorem C_X6_126 : mm_cv RX6 126 M6_stateOf 0 16 := ⟨mm_mem 688 (by decide +kernel) rfl, mm_mem 690 (by decide +kernel) rfl, mm_mem 33 (by decide +kernel) rfl, mm_mem 42 (by decide +kernel) rfl, cw_6_stateOf, by decide +kernel, by decide, 5, _, _, _, rfl, rfl⟩
theorem C_X6_129 : mm_cv RX6 129 M6_setState 1 16 := ⟨mm_mem 692 (by decide +kernel) rfl, mm_mem 694 (by decide +kernel) rfl, mm_mem 34 (by decide +kernel) rfl, mm_mem 42 (by decide +kernel) rfl, cw_6_setState, by decide +kernel, by decide, 5, _, _, _, rfl, rfl⟩
theorem F_X6_31 : mm_fok RX6 31 16 10 (some 24) := ⟨5, _, RX6, TX6, 12, rfl, rfl, rfl, by decide, mm_inTX6, mm_mem 494 (by decide +kernel) rfl⟩
def M6_step : mm_M := (yX6_step, cX6_step, 7, (some .int))
theorem cw_6_step : Cond.code M6_step.1 M6_step.2.1 M6_step.2.2.1 M6_step.2.2.2 ∈ mm_tb := mm_mem 699 (by decide +kernel) rfl
theorem C_X6_132 : mm_cv RX6 132 M6_step 2 16 := ⟨mm_mem 696 (by decide +kernel) rfl, mm_mem 698 (by decide +kernel) rfl, mm_mem 35 (by decide +kernel) rfl, mm_mem 42 (by decide +kernel) rfl, cw_6_step, by decide +kernel, by decide, 5, _, _, _, rfl, rfl⟩
def M6_findWay : mm_M := (yX6_findWay, cX6_findWay, 7, (some .int))
theorem cw_6_findWay : Cond.code M6_findWay.1 M6_findWay.2.1 M6_findWay.2.2.1 M6_findWay.2.2.2 ∈ mm_tb := mm_mem 687 (by decide +kernel) rfl
def P6_findWay (l : Launch) (d : Nat) (post : mm_Po) : List (Nat × mm_S) := [(0, se_aload 0 1), (1, se_callV l d M6_stateOf 0 16 4), (4, se_istore 2 5), (5, se_int 1 6), (6, se_istore 3 7), (7, se_int 0 8), (8, se_istore 4 10), (10, se_iload 4 12), (12, se_aload 0 13), (13, se_getI 16 0 16), (16, se_icmp_ge 29 19), (19, se_iload 3 20), (20, se_int 5 21), (21, se_imul 22), (22, se_istore 3 23), (23, se_iinc 4 1 26), (26, se_goto 10), (29, se_int 0 30), (30, se_istore 4 32), (32, se_iload 4 34), (34, se_iload 3 35), (35, se_icmp_ge 69 38), (38, se_aload 0 39), (39, se_iload 4 41), (41, se_callV l d M6_setState 1 16 44), (44, se_aload 0 45), (45, se_getR 16 24 48), (48, se_iload 4 50), (50, se_aload 0 51), (51, se_callV l d M6_restlessOf 0 16 54), (54, se_if_ne 61 57), (57, se_int 0 58), (58, se_goto 62), (61, se_int (-1) 62), (62, se_iastore 63), (63, se_iinc 4 1 66), (66, se_goto 32), (69, se_int 1 70), (70, se_istore 4 72), (72, se_iload 4 74), (74, se_if_eq 150 77), (77, se_int 0 78), (78, se_istore 4 80), (80, se_int 0 81), (81, se_istore 5 83), (83, se_iload 5 85), (85, se_iload 3 86), (86, se_icmp_ge 147 89), (89, se_aload 0 90), (90, se_getR 16 24 93), (93, se_iload 5 95), (95, se_iaload 96), (96, se_if_eq 141 99), (99, se_aload 0 100), (100, se_iload 5 102), (102, se_iload 1 103), (103, se_callV l d M6_step 2 16 106), (106, se_istore 6 108), (108, se_iload 4 110), (110, se_if_ne 125 113), (113, se_iload 6 115), (115, se_aload 0 116), (116, se_getR 16 24 119), (119, se_iload 5 121), (121, se_iaload 122), (122, se_icmp_eq 129 125), (125, se_int 1 126), (126, se_goto 130), (129, se_int 0 130), (130, se_istore 4 132), (132, se_aload 0 133), (133, se_getR 16 24 136), (136, se_iload 5 138), (138, se_iload 6 140), (140, se_iastore 141), (141, se_iinc 5 1 144), (144, se_goto 83), (147, se_goto 72), (150, se_aload 0 151), (151, se_iload 2 152), (152, se_callV l d M6_setState 1 16 155), (155, se_aload 0 156), (156, se_getR 16 24 159), (159, se_iload 2 160), (160, se_iaload 161), (161, se_ret post false)]
set_option maxRecDepth 100000 in
theorem S6_findWay (l : Launch) (d : Nat) (E : mm_X) (post : mm_Po) : ∀ q ∈ P6_findWay l d post, mm_Sn l d M6_findWay E post q := mm_c (sn_aload_n dX6_findWay_0 rfl) <| mm_c (sn_callV dX6_findWay_1 C_X6_126) <| mm_c (sn_istore_n dX6_findWay_4 rfl (by decide)) <| mm_c (sn_iconst dX6_findWay_5 (by decide)) <| mm_c (sn_istore_n dX6_findWay_6 rfl (by decide)) <| mm_c (sn_iconst dX6_findWay_7 (by decide)) <| mm_c (sn_istore dX6_findWay_8 (by decide)) <| mm_c (sn_iload dX6_findWay_10) <| mm_c (sn_aload_n dX6_findWay_12 rfl) <| mm_c (sn_getI dX6_findWay_13 F_X6_34) <| mm_c (sn_icmp_ge dX6_findWay_16 (by decide)) <| mm_c (sn_iload_n dX6_findWay_19 rfl) <| mm_c (sn_iconst dX6_findWay_20 (by decide)) <| mm_c (sn_imul dX6_findWay_21) <| mm_c (sn_istore_n dX6_findWay_22 rfl (by decide)) <| mm_c (sn_iinc dX6_findWay_23 (by decide) (by decide)) <| mm_c (sn_goto dX6_findWay_26 (by decide)) <| mm_c (sn_iconst dX6_findWay_29 (by decide)) <| mm_c (sn_istore dX6_findWay_30 (by decide)) <| mm_c (sn_iload dX6_findWay_32) <| mm_c (sn_iload_n dX6_findWay_34 rfl) <| mm_c (sn_icmp_ge dX6_findWay_35 (by decide)) <| mm_c (sn_aload_n dX6_findWay_38 rfl) <| mm_c (sn_iload dX6_findWay_39) <| mm_c (sn_callV dX6_findWay_41 C_X6_129) <| mm_c (sn_aload_n dX6_findWay_44 rfl) <| mm_c (sn_getR dX6_findWay_45 F_X6_31) <| mm_c (sn_iload dX6_findWay_48) <| mm_c (sn_aload_n dX6_findWay_50 rfl) <| mm_c (sn_callV dX6_findWay_51 C_X6_123) <| mm_c (sn_if_ne dX6_findWay_54 (by decide)) <| mm_c (sn_iconst dX6_findWay_57 (by decide)) <| mm_c (sn_goto dX6_findWay_58 (by decide)) <| mm_c (sn_iconst dX6_findWay_61 (by decide)) <| mm_c (sn_iastore dX6_findWay_62) <| mm_c (sn_iinc dX6_findWay_63 (by decide) (by decide)) <| mm_c (sn_goto dX6_findWay_66 (by decide)) <| mm_c (sn_iconst dX6_findWay_69 (by decide)) <| mm_c (sn_istore dX6_findWay_70 (by decide)) <| mm_c (sn_iload dX6_findWay_72) <| mm_c (sn_if_eq dX6_findWay_74 (by decide)) <| mm_c (sn_iconst dX6_findWay_77 (by decide)) <| mm_c (sn_istore dX6_findWay_78 (by decide)) <| mm_c (sn_iconst dX6_findWay_80 (by decide)) <| mm_c (sn_istore dX6_findWay_81 (by decide)) <| mm_c (sn_iload dX6_findWay_83) <| mm_c (sn_iload_n dX6_findWay_85 rfl) <| mm_c (sn_icmp_ge dX6_findWay_86 (by decide)) <| mm_c (sn_aload_n dX6_findWay_89 rfl) <| mm_c (sn_getR dX6_findWay_90 F_X6_31) <| mm_c (sn_iload dX6_findWay_93) <| mm_c (sn_iaload dX6_findWay_95) <| mm_c (sn_if_eq dX6_findWay_96 (by decide)) <| mm_c (sn_aload_n dX6_findWay_99 rfl) <| mm_c (sn_iload dX6_findWay_100) <| mm_c (sn_iload_n dX6_findWay_102 rfl) <| mm_c (sn_callV dX6_findWay_103 C_X6_132) <| mm_c (sn_istore dX6_findWay_106 (by decide)) <| mm_c (sn_iload dX6_findWay_108) <| mm_c (sn_if_ne dX6_findWay_110 (by decide)) <| mm_c (sn_iload dX6_findWay_113) <| mm_c (sn_aload_n dX6_findWay_115 rfl) <| mm_c (sn_getR dX6_findWay_116 F_X6_31) <| mm_c (sn_iload dX6_findWay_119) <| mm_c (sn_iaload dX6_findWay_121) <| mm_c (sn_icmp_eq dX6_findWay_122 (by decide)) <| mm_c (sn_iconst dX6_findWay_125 (by decide)) <| mm_c (sn_goto dX6_findWay_126 (by decide)) <| mm_c (sn_iconst dX6_findWay_129 (by decide)) <| mm_c (sn_istore dX6_findWay_130 (by decide)) <| mm_c (sn_aload_n dX6_findWay_132 rfl) <| mm_c (sn_getR dX6_findWay_133 F_X6_31) <| mm_c (sn_iload dX6_findWay_136) <| mm_c (sn_iload dX6_findWay_138) <| mm_c (sn_iastore dX6_findWay_140) <| mm_c (sn_iinc dX6_findWay_141 (by decide) (by decide)) <| mm_c (sn_goto dX6_findWay_144 (by decide)) <| mm_c (sn_goto dX6_findWay_147 (by decide)) <| mm_c (sn_aload_n dX6_findWay_150 rfl) <| mm_c (sn_iload_n dX6_findWay_151 rfl) <| mm_c (sn_callV dX6_findWay_152 C_X6_129) <| mm_c (sn_aload_n dX6_findWay_155 rfl) <| mm_c (sn_getR dX6_findWay_156 F_X6_31) <| mm_c (sn_iload_n dX6_findWay_159 rfl) <| mm_c (sn_iaload dX6_findWay_160) <| mm_c (sn_ireturn dX6_findWay_161 rfl) <| mm_n
def P6_step (l : Launch) (d : Nat) (post : mm_Po) : List (Nat × mm_S) := [(0, se_aload 0 1), (1, se_iload 1 2), (2, se_callV l d M6_setState 1 16 5), (5, se_aload 0 6), (6, se_callV l d M6_restlessOf 0 16 9), (9, se_istore 3 10), (10, se_int (-1) 11), (11, se_istore 4 13), (13, se_int 0 14), (14, se_istore 5 16), (16, se_iload 5 18), (18, se_aload 0 19), (19, se_getI 16 0 22), (22, se_icmp_ge 119 25), (25, se_iload 3 26), (26, se_iload 5 28), (28, se_ishr 29), (29, se_int 1 30), (30, se_iand 31), (31, se_int 1 32), (32, se_icmp_ne 113 35), (35, se_aload 0 36), (36, se_iload 1 37), (37, se_callV l d M6_setState 1 16 40), (40, se_aload 0 41), (41, se_getR 16 20 44), (44, se_iload 5 46), (46, se_aload 0 47), (47, se_iload 5 49), (49, se_callV l d M6_ruleOf 1 16 52), (52, se_iastore 53), (53, se_aload 0 54), (54, se_getR 16 24 57), (57, se_aload 0 58), (58, se_callV l d M6_stateOf 0 16 61), (61, se_iaload 62), (62, se_istore 6 64), (64, se_iload 6 66), (66, se_int (-1) 67), (67, se_icmp_ne 76 70), (70, se_iload 2 71), (71, se_if_eq 113 74), (74, se_int (-1) 75), (75, se_ret post false), (76, se_iload 4 78), (78, se_int (-1) 79), (79, se_icmp_eq 107 82), (82, se_iload 2 83), (83, se_if_eq 98 86), (86, se_iload 6 88), (88, se_int 1 89), (89, se_iadd 90), (90, se_iload 4 92), (92, se_icmp_le 113 95), (95, se_goto 107), (98, se_iload 6 100), (100, se_int 1 101), (101, se_iadd 102), (102, se_iload 4 104), (104, se_icmp_ge 113 107), (107, se_iload 6 109), (109, se_int 1 110), (110, se_iadd 111), (111, se_istore 4 113), (113, se_iinc 5 1 116), (116, se_goto 16), (119, se_iload 4 121), (121, se_ret post false)]
set_option maxRecDepth 100000 in
theorem S6_step (l : Launch) (d : Nat) (E : mm_X) (post : mm_Po) : ∀ q ∈ P6_step l d post, mm_Sn l d M6_step E post q := mm_c (sn_aload_n dX6_step_0 rfl) <| mm_c (sn_iload_n dX6_step_1 rfl) <| mm_c (sn_callV dX6_step_2 C_X6_129) <| mm_c (sn_aload_n dX6_step_5 rfl) <| mm_c (sn_callV dX6_step_6 C_X6_123) <| mm_c (sn_istore_n dX6_step_9 rfl (by decide)) <| mm_c (sn_iconst dX6_step_10 (by decide)) <| mm_c (sn_istore dX6_step_11 (by decide)) <| mm_c (sn_iconst dX6_step_13 (by decide)) <| mm_c (sn_istore dX6_step_14 (by decide)) <| mm_c (sn_iload dX6_step_16) <| mm_c (sn_aload_n dX6_step_18 rfl) <| mm_c (sn_getI dX6_step_19 F_X6_34) <| mm_c (sn_icmp_ge dX6_step_22 (by decide)) <| mm_c (sn_iload_n dX6_step_25 rfl) <| mm_c (sn_iload dX6_step_26) <| mm_c (sn_ishr dX6_step_28) <| mm_c (sn_iconst dX6_step_29 (by decide)) <| mm_c (sn_iand dX6_step_30) <| mm_c (sn_iconst dX6_step_31 (by decide)) <| mm_c (sn_icmp_ne dX6_step_32 (by decide)) <| mm_c (sn_aload_n dX6_step_35 rfl) <| mm_c (sn_iload_n dX6_step_36 rfl) <| mm_c (sn_callV dX6_step_37 C_X6_129) <| mm_c (sn_aload_n dX6_step_40 rfl) <| mm_c (sn_getR dX6_step_41 F_X6_19) <| mm_c (sn_iload dX6_step_44) <| mm_c (sn_aload_n dX6_step_46 rfl) <| mm_c (sn_iload dX6_step_47) <| mm_c (sn_callV dX6_step_49 C_X6_120) <| mm_c (sn_iastore dX6_step_52) <| mm_c (sn_aload_n dX6_step_53 rfl) <| mm_c (sn_getR dX6_step_54 F_X6_31) <| mm_c (sn_aload_n dX6_step_57 rfl) <| mm_c (sn_callV dX6_step_58 C_X6_126) <| mm_c (sn_iaload dX6_step_61) <| mm_c (sn_istore dX6_step_62 (by decide)) <| mm_c (sn_iload dX6_step_64) <| mm_c (sn_iconst dX6_step_66 (by decide)) <| mm_c (sn_icmp_ne dX6_step_67 (by decide)) <| mm_c (sn_iload_n dX6_step_70 rfl) <| mm_c (sn_if_eq dX6_step_71 (by decide)) <| mm_c (sn_iconst dX6_step_74 (by decide)) <| mm_c (sn_ireturn dX6_step_75 rfl) <| mm_c (sn_iload dX6_step_76) <| mm_c (sn_iconst dX6_step_78 (by decide)) <| mm_c (sn_icmp_eq dX6_step_79 (by decide)) <| mm_c (sn_iload_n dX6_step_82 rfl) <| mm_c (sn_if_eq dX6_step_83 (by decide)) <| mm_c (sn_iload dX6_step_86) <| mm_c (sn_iconst dX6_step_88 (by decide)) <| mm_c (sn_iadd dX6_step_89) <| mm_c (sn_iload dX6_step_90) <| mm_c (sn_icmp_le dX6_step_92 (by decide)) <| mm_c (sn_goto dX6_step_95 (by decide)) <| mm_c (sn_iload dX6_step_98) <| mm_c (sn_iconst dX6_step_100 (by decide)) <| mm_c (sn_iadd dX6_step_101) <| mm_c (sn_iload dX6_step_102) <| mm_c (sn_icmp_ge dX6_step_104 (by decide)) <| mm_c (sn_iload dX6_step_107) <| mm_c (sn_iconst dX6_step_109 (by decide)) <| mm_c (sn_iadd dX6_step_110) <| mm_c (sn_istore dX6_step_111 (by decide)) <| mm_c (sn_iinc dX6_step_113 (by decide) (by decide)) <| mm_c (sn_goto dX6_step_116 (by decide)) <| mm_c (sn_iload dX6_step_119) <| mm_c (sn_ireturn dX6_step_121 rfl) <| mm_n
theorem F_X6_136 : mm_fok RX6 136 16 11 none := ⟨5, _, RX6, TX6, 12, rfl, rfl, rfl, by decide, mm_inTX6, mm_mem 495 (by decide +kernel) rfl⟩
theorem F_X6_136_w : mm_fw RX6 136 16 11 false := ⟨5, _, RX6, TX6, 12, tyX6, rfl, rfl, rfl, by decide, mm_inTX6, mm_mem 495 (by decide +kernel) rfl, tyX6_ok, nmX6, rfl, rfl⟩
theorem C_X6_139 : mm_cv RX6 139 M6_findWay 1 16 := ⟨mm_mem 684 (by decide +kernel) rfl, mm_mem 686 (by decide +kernel) rfl, mm_mem 32 (by decide +kernel) rfl, mm_mem 42 (by decide +kernel) rfl, cw_6_findWay, by decide +kernel, by decide, 5, _, _, _, rfl, rfl⟩
def M6_longest : mm_M := (yX6_longest, cX6_longest, 1, (some .int))
theorem cw_6_longest : Cond.code M6_longest.1 M6_longest.2.1 M6_longest.2.2.1 M6_longest.2.2.2 ∈ mm_tb := mm_mem 683 (by decide +kernel) rfl
def P6_longest (l : Launch) (d : Nat) (post : mm_Po) : List (Nat × mm_S) := [(0, se_aload 0 1), (1, se_getI 16 0 4), (4, se_int 5 5), (5, se_icmp_gt 17 8), (8, se_aload 0 9), (9, se_getI 16 11 12), (12, se_int 20 14), (14, se_icmp_ne 20 17), (17, se_int (-103) 19), (19, se_ret post false), (20, se_aload 0 21), (21, se_dup 22), (22, se_getI 16 11 25), (25, se_int 1 26), (26, se_iadd 27), (27, se_put false 16 11 30), (30, se_aload 0 31), (31, se_int 1 32), (32, se_callV l d M6_findWay 1 16 35), (35, se_ret post false)]
set_option maxRecDepth 100000 in
theorem S6_longest (l : Launch) (d : Nat) (E : mm_X) (post : mm_Po) : ∀ q ∈ P6_longest l d post, mm_Sn l d M6_longest E post q := mm_c (sn_aload_n dX6_longest_0 rfl) <| mm_c (sn_getI dX6_longest_1 F_X6_34) <| mm_c (sn_iconst dX6_longest_4 (by decide)) <| mm_c (sn_icmp_gt dX6_longest_5 (by decide)) <| mm_c (sn_aload_n dX6_longest_8 rfl) <| mm_c (sn_getI dX6_longest_9 F_X6_136) <| mm_c (sn_bipush dX6_longest_12 (by decide)) <| mm_c (sn_icmp_ne dX6_longest_14 (by decide)) <| mm_c (sn_bipush dX6_longest_17 (by decide)) <| mm_c (sn_ireturn dX6_longest_19 rfl) <| mm_c (sn_aload_n dX6_longest_20 rfl) <| mm_c (sn_dup dX6_longest_21) <| mm_c (sn_getI dX6_longest_22 F_X6_136) <| mm_c (sn_iconst dX6_longest_25 (by decide)) <| mm_c (sn_iadd dX6_longest_26) <| mm_c (sn_put dX6_longest_27 F_X6_136_w) <| mm_c (sn_aload_n dX6_longest_30 rfl) <| mm_c (sn_iconst dX6_longest_31 (by decide)) <| mm_c (sn_callV dX6_longest_32 C_X6_139) <| mm_c (sn_ireturn dX6_longest_35 rfl) <| mm_n
def M6_shortest : mm_M := (yX6_shortest, cX6_shortest, 1, (some .int))
theorem cw_6_shortest : Cond.code M6_shortest.1 M6_shortest.2.1 M6_shortest.2.2.1 M6_shortest.2.2.2 ∈ mm_tb := mm_mem 703 (by decide +kernel) rfl
def P6_shortest (l : Launch) (d : Nat) (post : mm_Po) : List (Nat × mm_S) := [(0, se_aload 0 1), (1, se_getI 16 0 4), (4, se_int 5 5), (5, se_icmp_gt 17 8), (8, se_aload 0 9), (9, se_getI 16 11 12), (12, se_int 20 14), (14, se_icmp_ne 20 17), (17, se_int (-103) 19), (19, se_ret post false), (20, se_aload 0 21), (21, se_dup 22), (22, se_getI 16 11 25), (25, se_int 1 26), (26, se_iadd 27), (27, se_put false 16 11 30), (30, se_aload 0 31), (31, se_int 0 32), (32, se_callV l d M6_findWay 1 16 35), (35, se_ret post false)]
set_option maxRecDepth 100000 in
theorem S6_shortest (l : Launch) (d : Nat) (E : mm_X) (post : mm_Po) : ∀ q ∈ P6_shortest l d post, mm_Sn l d M6_shortest E post q := mm_c (sn_aload_n dX6_shortest_0 rfl) <| mm_c (sn_getI dX6_shortest_1 F_X6_34) <| mm_c (sn_iconst dX6_shortest_4 (by decide)) <| mm_c (sn_icmp_gt dX6_shortest_5 (by decide)) <| mm_c (sn_aload_n dX6_shortest_8 rfl) <| mm_c (sn_getI dX6_shortest_9 F_X6_136) <| mm_c (sn_bipush dX6_shortest_12 (by decide)) <| mm_c (sn_icmp_ne dX6_shortest_14 (by decide)) <| mm_c (sn_bipush dX6_shortest_17 (by decide)) <| mm_c (sn_ireturn dX6_shortest_19 rfl) <| mm_c (sn_aload_n dX6_shortest_20 rfl) <| mm_c (sn_dup dX6_shortest_21) <| mm_c (sn_getI dX6_shortest_22 F_X6_136) <| mm_c (sn_iconst dX6_shortest_25 (by decide)) <| mm_c (sn_iadd dX6_shortest_26) <| mm_c (sn_put dX6_shortest_27 F_X6_136_w) <| mm_c (sn_aload_n dX6_shortest_30 rfl) <| mm_c (sn_iconst dX6_shortest_31 (by decide)) <| mm_c (sn_callV dX6_shortest_32 C_X6_139) <| mm_c (sn_ireturn dX6_shortest_35 rfl) <| mm_n
def M6_count : mm_M := (yX6_count, cX6_count, 4, (some .int))
theorem cw_6_count : Cond.code M6_count.1 M6_count.2.1 M6_count.2.2.1 M6_count.2.2.2 ∈ mm_tb := mm_mem 707 (by decide +kernel) rfl
def P6_count (l : Launch) (d : Nat) (post : mm_Po) : List (Nat × mm_S) := [(0, se_iload 1 1), (1, se_switch [(0, 40), (1, 45), (2, 50), (3, 55), (4, 93), (5, 98)] 103), (40, se_aload 0 41), (41, se_getI 16 0 44), (44, se_ret post false), (45, se_aload 0 46), (46, se_callV l d M6_linesOf 0 16 49), (49, se_ret post false), (50, se_aload 0 51), (51, se_getI 16 5 54), (54, se_ret post false), (55, se_int 0 56), (56, se_istore 2 57), (57, se_int 0 58), (58, se_istore 3 59), (59, se_iload 3 60), (60, se_aload 0 61), (61, se_getI 16 0 64), (64, se_icmp_ge 91 67), (67, se_iload 2 68), (68, se_aload 0 69), (69, se_getR 16 18 72), (72, se_iload 3 73), (73, se_iaload 74), (74, se_int 1 75), (75, se_icmp_ne 82 78), (78, se_int 1 79), (79, se_goto 83), (82, se_int 0 83), (83, se_iadd 84), (84, se_istore 2 85), (85, se_iinc 3 1 88), (88, se_goto 59), (91, se_iload 2 92), (92, se_ret post false), (93, se_aload 0 94), (94, se_getI 16 8 97), (97, se_ret post false), (98, se_aload 0 99), (99, se_getI 16 11 102), (102, se_ret post false), (103, se_int (-102) 105), (105, se_ret post false)]
set_option maxRecDepth 100000 in
theorem S6_count (l : Launch) (d : Nat) (E : mm_X) (post : mm_Po) : ∀ q ∈ P6_count l d post, mm_Sn l d M6_count E post q := mm_c (sn_iload_n dX6_count_0 rfl) <| mm_c (sn_switch dX6_count_1 (by decide +kernel)) <| mm_c (sn_aload_n dX6_count_40 rfl) <| mm_c (sn_getI dX6_count_41 F_X6_34) <| mm_c (sn_ireturn dX6_count_44 rfl) <| mm_c (sn_aload_n dX6_count_45 rfl) <| mm_c (sn_callV dX6_count_46 C_X6_70) <| mm_c (sn_ireturn dX6_count_49 rfl) <| mm_c (sn_aload_n dX6_count_50 rfl) <| mm_c (sn_getI dX6_count_51 F_X6_52) <| mm_c (sn_ireturn dX6_count_54 rfl) <| mm_c (sn_iconst dX6_count_55 (by decide)) <| mm_c (sn_istore_n dX6_count_56 rfl (by decide)) <| mm_c (sn_iconst dX6_count_57 (by decide)) <| mm_c (sn_istore_n dX6_count_58 rfl (by decide)) <| mm_c (sn_iload_n dX6_count_59 rfl) <| mm_c (sn_aload_n dX6_count_60 rfl) <| mm_c (sn_getI dX6_count_61 F_X6_34) <| mm_c (sn_icmp_ge dX6_count_64 (by decide)) <| mm_c (sn_iload_n dX6_count_67 rfl) <| mm_c (sn_aload_n dX6_count_68 rfl) <| mm_c (sn_getR dX6_count_69 F_X6_13) <| mm_c (sn_iload_n dX6_count_72 rfl) <| mm_c (sn_iaload dX6_count_73) <| mm_c (sn_iconst dX6_count_74 (by decide)) <| mm_c (sn_icmp_ne dX6_count_75 (by decide)) <| mm_c (sn_iconst dX6_count_78 (by decide)) <| mm_c (sn_goto dX6_count_79 (by decide)) <| mm_c (sn_iconst dX6_count_82 (by decide)) <| mm_c (sn_iadd dX6_count_83) <| mm_c (sn_istore_n dX6_count_84 rfl (by decide)) <| mm_c (sn_iinc dX6_count_85 (by decide) (by decide)) <| mm_c (sn_goto dX6_count_88 (by decide)) <| mm_c (sn_iload_n dX6_count_91 rfl) <| mm_c (sn_ireturn dX6_count_92 rfl) <| mm_c (sn_aload_n dX6_count_93 rfl) <| mm_c (sn_getI dX6_count_94 F_X6_103) <| mm_c (sn_ireturn dX6_count_97 rfl) <| mm_c (sn_aload_n dX6_count_98 rfl) <| mm_c (sn_getI dX6_count_99 F_X6_136) <| mm_c (sn_ireturn dX6_count_102 rfl) <| mm_c (sn_bipush dX6_count_103 (by decide)) <| mm_c (sn_ireturn dX6_count_105 rfl) <| mm_n
def M6_digest : mm_M := (yX6_digest, cX6_digest, 5, (some .long))
theorem cw_6_digest : Cond.code M6_digest.1 M6_digest.2.1 M6_digest.2.2.1 M6_digest.2.2.2 ∈ mm_tb := mm_mem 711 (by decide +kernel) rfl
def P6_digest (l : Launch) (d : Nat) (post : mm_Po) : List (Nat × mm_S) := [(0, se_lng 197 3), (3, se_lstore 1 4), (4, se_lng 31 7), (7, se_lload 1 8), (8, se_lmul 9), (9, se_aload 0 10), (10, se_getI 16 0 13), (13, se_i2l 14), (14, se_ladd 15), (15, se_lstore 1 16), (16, se_int 0 17), (17, se_istore 3 18), (18, se_iload 3 19), (19, se_aload 0 20), (20, se_getI 16 0 23), (23, se_icmp_ge 117 26), (26, se_lng 31 29), (29, se_lload 1 30), (30, se_lmul 31), (31, se_aload 0 32), (32, se_getR 16 18 35), (35, se_iload 3 36), (36, se_iaload 37), (37, se_i2l 38), (38, se_ladd 39), (39, se_lstore 1 40), (40, se_lng 31 43), (43, se_lload 1 44), (44, se_lmul 45), (45, se_aload 0 46), (46, se_getR 16 19 49), (49, se_iload 3 50), (50, se_iaload 51), (51, se_i2l 52), (52, se_ladd 53), (53, se_lstore 1 54), (54, se_lng 31 57), (57, se_lload 1 58), (58, se_lmul 59), (59, se_aload 0 60), (60, se_getR 16 20 63), (63, se_iload 3 64), (64, se_iaload 65), (65, se_i2l 66), (66, se_ladd 67), (67, se_lstore 1 68), (68, se_iload 3 69), (69, se_int 1 70), (70, se_iadd 71), (71, se_istore 4 73), (73, se_iload 4 75), (75, se_aload 0 76), (76, se_getI 16 0 79), (79, se_icmp_ge 111 82), (82, se_lng 31 85), (85, se_lload 1 86), (86, se_lmul 87), (87, se_aload 0 88), (88, se_iload 3 89), (89, se_iload 4 91), (91, se_callV l d M6_areNear 2 16 94), (94, se_if_eq 101 97), (97, se_int 1 98), (98, se_goto 102), (101, se_int 0 102), (102, se_i2l 103), (103, se_ladd 104), (104, se_lstore 1 105), (105, se_iinc 4 1 108), (108, se_goto 73), (111, se_iinc 3 1 114), (114, se_goto 18), (117, se_lng 31 120), (120, se_lload 1 121), (121, se_lmul 122), (122, se_aload 0 123), (123, se_getI 16 5 126), (126, se_i2l 127), (127, se_ladd 128), (128, se_lstore 1 129), (129, se_lng 31 132), (132, se_lload 1 133), (133, se_lmul 134), (134, se_aload 0 135), (135, se_getI 16 8 138), (138, se_i2l 139), (139, se_ladd 140), (140, se_lstore 1 141), (141, se_lng 31 144), (144, se_lload 1 145), (145, se_lmul 146), (146, se_aload 0 147), (147, se_getI 16 11 150), (150, se_i2l 151), (151, se_ladd 152), (152, se_lret post)]
set_option maxRecDepth 100000 in
theorem S6_digest (l : Launch) (d : Nat) (E : mm_X) (post : mm_Po) : ∀ q ∈ P6_digest l d post, mm_Sn l d M6_digest E post q := mm_c (sn_ldc2 dX6_digest_0 (mm_mem 712 (by decide +kernel) rfl)) <| mm_c (sn_lstore_n dX6_digest_3 rfl (by decide)) <| mm_c (sn_ldc2 dX6_digest_4 (mm_mem 713 (by decide +kernel) rfl)) <| mm_c (sn_lload_n dX6_digest_7 rfl) <| mm_c (sn_lmul dX6_digest_8) <| mm_c (sn_aload_n dX6_digest_9 rfl) <| mm_c (sn_getI dX6_digest_10 F_X6_34) <| mm_c (sn_i2l dX6_digest_13) <| mm_c (sn_ladd dX6_digest_14) <| mm_c (sn_lstore_n dX6_digest_15 rfl (by decide)) <| mm_c (sn_iconst dX6_digest_16 (by decide)) <| mm_c (sn_istore_n dX6_digest_17 rfl (by decide)) <| mm_c (sn_iload_n dX6_digest_18 rfl) <| mm_c (sn_aload_n dX6_digest_19 rfl) <| mm_c (sn_getI dX6_digest_20 F_X6_34) <| mm_c (sn_icmp_ge dX6_digest_23 (by decide)) <| mm_c (sn_ldc2 dX6_digest_26 (mm_mem 713 (by decide +kernel) rfl)) <| mm_c (sn_lload_n dX6_digest_29 rfl) <| mm_c (sn_lmul dX6_digest_30) <| mm_c (sn_aload_n dX6_digest_31 rfl) <| mm_c (sn_getR dX6_digest_32 F_X6_13) <| mm_c (sn_iload_n dX6_digest_35 rfl) <| mm_c (sn_iaload dX6_digest_36) <| mm_c (sn_i2l dX6_digest_37) <| mm_c (sn_ladd dX6_digest_38) <| mm_c (sn_lstore_n dX6_digest_39 rfl (by decide)) <| mm_c (sn_ldc2 dX6_digest_40 (mm_mem 713 (by decide +kernel) rfl)) <| mm_c (sn_lload_n dX6_digest_43 rfl) <| mm_c (sn_lmul dX6_digest_44) <| mm_c (sn_aload_n dX6_digest_45 rfl) <| mm_c (sn_getR dX6_digest_46 F_X6_16) <| mm_c (sn_iload_n dX6_digest_49 rfl) <| mm_c (sn_iaload dX6_digest_50) <| mm_c (sn_i2l dX6_digest_51) <| mm_c (sn_ladd dX6_digest_52) <| mm_c (sn_lstore_n dX6_digest_53 rfl (by decide)) <| mm_c (sn_ldc2 dX6_digest_54 (mm_mem 713 (by decide +kernel) rfl)) <| mm_c (sn_lload_n dX6_digest_57 rfl) <| mm_c (sn_lmul dX6_digest_58) <| mm_c (sn_aload_n dX6_digest_59 rfl) <| mm_c (sn_getR dX6_digest_60 F_X6_19) <| mm_c (sn_iload_n dX6_digest_63 rfl) <| mm_c (sn_iaload dX6_digest_64) <| mm_c (sn_i2l dX6_digest_65) <| mm_c (sn_ladd dX6_digest_66) <| mm_c (sn_lstore_n dX6_digest_67 rfl (by decide)) <| mm_c (sn_iload_n dX6_digest_68 rfl) <| mm_c (sn_iconst dX6_digest_69 (by decide)) <| mm_c (sn_iadd dX6_digest_70) <| mm_c (sn_istore dX6_digest_71 (by decide)) <| mm_c (sn_iload dX6_digest_73) <| mm_c (sn_aload_n dX6_digest_75 rfl) <| mm_c (sn_getI dX6_digest_76 F_X6_34) <| mm_c (sn_icmp_ge dX6_digest_79 (by decide)) <| mm_c (sn_ldc2 dX6_digest_82 (mm_mem 713 (by decide +kernel) rfl)) <| mm_c (sn_lload_n dX6_digest_85 rfl) <| mm_c (sn_lmul dX6_digest_86) <| mm_c (sn_aload_n dX6_digest_87 rfl) <| mm_c (sn_iload_n dX6_digest_88 rfl) <| mm_c (sn_iload dX6_digest_89) <| mm_c (sn_callV dX6_digest_91 C_X6_55) <| mm_c (sn_if_eq dX6_digest_94 (by decide)) <| mm_c (sn_iconst dX6_digest_97 (by decide)) <| mm_c (sn_goto dX6_digest_98 (by decide)) <| mm_c (sn_iconst dX6_digest_101 (by decide)) <| mm_c (sn_i2l dX6_digest_102) <| mm_c (sn_ladd dX6_digest_103) <| mm_c (sn_lstore_n dX6_digest_104 rfl (by decide)) <| mm_c (sn_iinc dX6_digest_105 (by decide) (by decide)) <| mm_c (sn_goto dX6_digest_108 (by decide)) <| mm_c (sn_iinc dX6_digest_111 (by decide) (by decide)) <| mm_c (sn_goto dX6_digest_114 (by decide)) <| mm_c (sn_ldc2 dX6_digest_117 (mm_mem 713 (by decide +kernel) rfl)) <| mm_c (sn_lload_n dX6_digest_120 rfl) <| mm_c (sn_lmul dX6_digest_121) <| mm_c (sn_aload_n dX6_digest_122 rfl) <| mm_c (sn_getI dX6_digest_123 F_X6_52) <| mm_c (sn_i2l dX6_digest_126) <| mm_c (sn_ladd dX6_digest_127) <| mm_c (sn_lstore_n dX6_digest_128 rfl (by decide)) <| mm_c (sn_ldc2 dX6_digest_129 (mm_mem 713 (by decide +kernel) rfl)) <| mm_c (sn_lload_n dX6_digest_132 rfl) <| mm_c (sn_lmul dX6_digest_133) <| mm_c (sn_aload_n dX6_digest_134 rfl) <| mm_c (sn_getI dX6_digest_135 F_X6_103) <| mm_c (sn_i2l dX6_digest_138) <| mm_c (sn_ladd dX6_digest_139) <| mm_c (sn_lstore_n dX6_digest_140 rfl (by decide)) <| mm_c (sn_ldc2 dX6_digest_141 (mm_mem 713 (by decide +kernel) rfl)) <| mm_c (sn_lload_n dX6_digest_144 rfl) <| mm_c (sn_lmul dX6_digest_145) <| mm_c (sn_aload_n dX6_digest_146 rfl) <| mm_c (sn_getI dX6_digest_147 F_X6_136) <| mm_c (sn_i2l dX6_digest_150) <| mm_c (sn_ladd dX6_digest_151) <| mm_c (sn_lreturn dX6_digest_152 rfl) <| mm_n
end
section
/-! ===== the methods as rows of the small machine; printed by a program ===== -/
theorem N0_saysYes : M0_saysYes.2.2.1 = 4 := rfl
theorem N0_suits : M0_suits.2.2.1 = 5 := rfl
theorem N0_nearWith : M0_nearWith.2.2.1 = 6 := rfl
theorem N0_followsLeader : M0_followsLeader.2.2.1 = 5 := rfl
theorem N0_isScattered : M0_isScattered.2.2.1 = 3 := rfl
theorem N0_hangsOnOne : M0_hangsOnOne.2.2.1 = 6 := rfl
theorem N1_clear : M1_clear.2.2.1 = 1 := rfl
theorem N1_isRestless : M1_isRestless.2.2.1 = 2 := rfl
theorem N1_obey : M1_obey.2.2.1 = 2 := rfl
theorem N1_rule : M1_rule.2.2.1 = 5 := rfl
theorem N1_settle : M1_settle.2.2.1 = 3 := rfl
theorem N1_leastRestless : M1_leastRestless.2.2.1 = 2 := rfl
theorem N1_stateNow : M1_stateNow.2.2.1 = 3 := rfl
theorem N1_stateBehind : M1_stateBehind.2.2.1 = 5 := rfl
theorem N1_longestWay : M1_longestWay.2.2.1 = 8 := rfl
theorem N1_enter : M1_enter.2.2.1 = 3 := rfl
theorem N1_shortestWay : M1_shortestWay.2.2.1 = 7 := rfl
theorem N2_clear : M2_clear.2.2.1 = 2 := rfl
theorem N2_has : M2_has.2.2.1 = 2 := rfl
theorem N2_joined : M2_joined.2.2.1 = 3 := rfl
theorem N2_join : M2_join.2.2.1 = 4 := rfl
theorem N2_lineCount : M2_lineCount.2.2.1 = 3 := rfl
theorem N2_leaders : M2_leaders.2.2.1 = 3 := rfl
theorem N2_measure : M2_measure.2.2.1 = 6 := rfl
theorem N2_nearAny : M2_nearAny.2.2.1 = 4 := rfl
theorem N2_setCount : M2_setCount.2.2.1 = 3 := rfl
theorem N2_isLeast : M2_isLeast.2.2.1 = 2 := rfl
theorem N3_finds : M3_finds.2.2.1 = 2 := rfl
theorem N3_findsLeaders : M3_findsLeaders.2.2.1 = 4 := rfl
theorem N3_allScattered : M3_allScattered.2.2.1 = 2 := rfl
theorem N3_findsNoRings : M3_findsNoRings.2.2.1 = 4 := rfl
theorem N3_numberFrom : M3_numberFrom.2.2.1 = 4 := rfl
theorem N4_search : M4_search.2.2.1 = 4 := rfl
theorem N4_place : M4_place.2.2.1 = 3 := rfl
theorem N4_stillStands : M4_stillStands.2.2.1 = 4 := rfl
theorem N5_posts : M5_posts.2.2.1 = 2 := rfl
theorem N5_line : M5_line.2.2.1 = 5 := rfl
theorem N5_mark : M5_mark.2.2.1 = 4 := rfl
theorem N5_scheme : M5_scheme.2.2.1 = 3 := rfl
theorem N5_holds : M5_holds.2.2.1 = 1 := rfl
theorem N5_sets : M5_sets.2.2.1 = 1 := rfl
theorem N5_far : M5_far.2.2.1 = 3 := rfl
theorem N5_proof : M5_proof.2.2.1 = 4 := rfl
theorem N5_accepts : M5_accepts.2.2.1 = 2 := rfl
theorem N5_against : M5_against.2.2.1 = 3 := rfl
theorem N5_prove : M5_prove.2.2.1 = 1 := rfl
theorem N5_tryAll : M5_tryAll.2.2.1 = 3 := rfl
theorem N5_attempt : M5_attempt.2.2.1 = 4 := rfl
theorem N5_numbers : M5_numbers.2.2.1 = 3 := rfl
theorem N5_slip : M5_slip.2.2.1 = 6 := rfl
theorem N5_distance : M5_distance.2.2.1 = 4 := rfl
theorem N5_restless : M5_restless.2.2.1 = 3 := rfl
theorem N5_move : M5_move.2.2.1 = 2 := rfl
theorem N5_mend : M5_mend.2.2.1 = 1 := rfl
theorem N5_longest : M5_longest.2.2.1 = 1 := rfl
theorem N5_shortest : M5_shortest.2.2.1 = 1 := rfl
theorem N5_count : M5_count.2.2.1 = 2 := rfl
theorem N5_digest : M5_digest.2.2.1 = 5 := rfl
theorem N5_mix : M5_mix.2.2.1 = 4 := rfl
theorem N5_tryRefusal : M5_tryRefusal.2.2.1 = 2 := rfl
theorem N5_waysRefused : M5_waysRefused.2.2.1 = 1 := rfl
theorem N5_power : M5_power.2.2.1 = 6 := rfl
theorem N5_commonDivisor : M5_commonDivisor.2.2.1 = 3 := rfl
theorem N6_in : M6_in.2.2.1 = 6 := rfl
theorem N6_isPost : M6_isPost.2.2.1 = 2 := rfl
theorem N6_posts : M6_posts.2.2.1 = 3 := rfl
theorem N6_areNear : M6_areNear.2.2.1 = 3 := rfl
theorem N6_line : M6_line.2.2.1 = 5 := rfl
theorem N6_mark : M6_mark.2.2.1 = 4 := rfl
theorem N6_scheme : M6_scheme.2.2.1 = 3 := rfl
theorem N6_spread : M6_spread.2.2.1 = 5 := rfl
theorem N6_firstOf : M6_firstOf.2.2.1 = 3 := rfl
theorem N6_setsOf : M6_setsOf.2.2.1 = 3 := rfl
theorem N6_linesOf : M6_linesOf.2.2.1 = 4 := rfl
theorem N6_leaderOf : M6_leaderOf.2.2.1 = 4 := rfl
theorem N6_colours : M6_colours.2.2.1 = 8 := rfl
theorem N6_isGood : M6_isGood.2.2.1 = 4 := rfl
theorem N6_claims : M6_claims.2.2.1 = 4 := rfl
theorem N6_holds : M6_holds.2.2.1 = 1 := rfl
theorem N6_sets : M6_sets.2.2.1 = 1 := rfl
theorem N6_far : M6_far.2.2.1 = 3 := rfl
theorem N6_proof : M6_proof.2.2.1 = 4 := rfl
theorem N6_hasAccepted : M6_hasAccepted.2.2.1 = 7 := rfl
theorem N6_accepts : M6_accepts.2.2.1 = 2 := rfl
theorem N6_againstOf : M6_againstOf.2.2.1 = 3 := rfl
theorem N6_against : M6_against.2.2.1 = 1 := rfl
theorem N6_prove : M6_prove.2.2.1 = 2 := rfl
theorem N6_allOf : M6_allOf.2.2.1 = 5 := rfl
theorem N6_goThrough : M6_goThrough.2.2.1 = 9 := rfl
theorem N6_layAside : M6_layAside.2.2.1 = 2 := rfl
theorem N6_putBack : M6_putBack.2.2.1 = 2 := rfl
theorem N6_tryAll : M6_tryAll.2.2.1 = 3 := rfl
theorem N6_attempt : M6_attempt.2.2.1 = 3 := rfl
theorem N6_numbers : M6_numbers.2.2.1 = 3 := rfl
theorem N6_slip : M6_slip.2.2.1 = 14 := rfl
theorem N6_distance : M6_distance.2.2.1 = 4 := rfl
theorem N6_ruleOf : M6_ruleOf.2.2.1 = 4 := rfl
theorem N6_restlessOf : M6_restlessOf.2.2.1 = 3 := rfl
theorem N6_restless : M6_restless.2.2.1 = 1 := rfl
theorem N6_move : M6_move.2.2.1 = 2 := rfl
theorem N6_mend : M6_mend.2.2.1 = 4 := rfl
theorem N6_stateOf : M6_stateOf.2.2.1 = 3 := rfl
theorem N6_setState : M6_setState.2.2.1 = 4 := rfl
theorem N6_findWay : M6_findWay.2.2.1 = 7 := rfl
theorem N6_step : M6_step.2.2.1 = 7 := rfl
theorem N6_longest : M6_longest.2.2.1 = 1 := rfl
theorem N6_shortest : M6_shortest.2.2.1 = 1 := rfl
theorem N6_count : M6_count.2.2.1 = 4 := rfl
theorem N6_digest : M6_digest.2.2.1 = 5 := rfl
theorem NJ_bitCount : MJ_bitCount.2.2.1 = 1 := rfl
theorem NJ_fill : MJ_fill.2.2.1 = 4 := rfl
end
section
/-! ===== numbers: counts, masks, bits ===== -/
theorem mm_len_2 : mm_len 2 = 8 := rfl
theorem mm_len_3 : mm_len 3 = 8 := rfl
theorem mm_len_4 : mm_len 4 = 8 := rfl
theorem mm_len_6 : mm_len 6 = 8 := rfl
theorem mm_len_8 : mm_len 8 = 8 := rfl
theorem mm_len_10 : mm_len 10 = 8 := rfl
theorem mm_len_11 : mm_len 11 = 8 := rfl
theorem mm_len_12 : mm_len 12 = 3125 := rfl
theorem mm_len_13 : mm_len 13 = 3125 := rfl
theorem mm_len_14 : mm_len 14 = 3125 := rfl
theorem mm_len_15 : mm_len 15 = 8 := rfl
theorem mm_len_17 : mm_len 17 = 8 := rfl
theorem mm_len_18 : mm_len 18 = 8 := rfl
theorem mm_len_19 : mm_len 19 = 8 := rfl
theorem mm_len_20 : mm_len 20 = 8 := rfl
theorem mm_len_21 : mm_len 21 = 8 := rfl
theorem mm_len_22 : mm_len 22 = 8 := rfl
theorem mm_len_23 : mm_len 23 = 8 := rfl
theorem mm_len_24 : mm_len 24 = 3125 := rfl
theorem mm_len_25 : mm_len 25 = 5 := rfl
theorem pp_i10 : ((1 : Int32) = 0) = False := eq_false (by decide)
theorem pp_i01 : ((0 : Int32) = 1) = False := eq_false (by decide)
theorem pp_im1 : ((-1 : Int32) = 0) = False := eq_false (by decide)
/-- how many below k -/
def pp_cnt (P : Nat → Bool) : Nat → Nat
  | 0 => 0
  | k + 1 => pp_cnt P k + (if P k = true then 1 else 0)
def pp_all (P : Nat → Bool) : Nat → Bool
  | 0 => true
  | k + 1 => pp_all P k && P k
def pp_any (P : Nat → Bool) : Nat → Bool
  | 0 => false
  | k + 1 => pp_any P k || P k
def pp_msk (P : Nat → Bool) : Nat → Nat
  | 0 => 0
  | k + 1 => pp_msk P k ||| (if P k = true then 1 <<< k else 0)
theorem pp_cnt_le (P : Nat → Bool) : ∀ k, pp_cnt P k ≤ k
  | 0 => Nat.le_refl 0
  | k + 1 => by
    have := pp_cnt_le P k
    unfold pp_cnt
    split <;> omega
theorem pp_cnt_t {P : Nat → Bool} {k : Nat} (h : P k = true) : pp_cnt P (k + 1) = pp_cnt P k + 1 := by
  show pp_cnt P k + (if P k = true then 1 else 0) = _
  rw [if_pos h]
theorem pp_cnt_f {P : Nat → Bool} {k : Nat} (h : P k = false) : pp_cnt P (k + 1) = pp_cnt P k := by
  show pp_cnt P k + (if P k = true then 1 else 0) = _
  rw [if_neg (by rw [h]; exact Bool.false_ne_true), Nat.add_zero]
theorem pp_all_iff {P : Nat → Bool} : ∀ {k : Nat}, pp_all P k = true ↔ ∀ j, j < k → P j = true
  | 0 => ⟨fun _ j h => absurd h (Nat.not_lt_zero j), fun _ => rfl⟩
  | k + 1 => by
    unfold pp_all
    rw [Bool.and_eq_true, pp_all_iff]
    constructor
    · intro ⟨h1, h2⟩ j hj
      rcases Nat.lt_succ_iff_lt_or_eq.mp hj with h | h
      · exact h1 j h
      · rw [h]; exact h2
    · intro h
      exact ⟨fun j hj => h j (by omega), h k (by omega)⟩
theorem pp_any_iff {P : Nat → Bool} : ∀ {k : Nat}, pp_any P k = true ↔ ∃ j, j < k ∧ P j = true
  | 0 => ⟨fun h => absurd h Bool.false_ne_true, fun ⟨j, h, _⟩ => absurd h (Nat.not_lt_zero j)⟩
  | k + 1 => by
    unfold pp_any
    rw [Bool.or_eq_true, pp_any_iff]
    constructor
    · rintro (⟨j, h1, h2⟩ | h)
      · exact ⟨j, by omega, h2⟩
      · exact ⟨k, by omega, h⟩
    · rintro ⟨j, h1, h2⟩
      rcases Nat.lt_succ_iff_lt_or_eq.mp h1 with h | h
      · exact Or.inl ⟨j, h, h2⟩
      · rw [h] at h2; exact Or.inr h2
theorem pp_msk_bit (P : Nat → Bool) (j : Nat) : ∀ k, (pp_msk P k).testBit j = (decide (j < k) && P j)
  | 0 => by simp [pp_msk]
  | k + 1 => by
    unfold pp_msk
    rw [Nat.testBit_or, pp_msk_bit P j k]
    by_cases hP : P k = true
    · rw [if_pos hP]
      by_cases hj : j = k
      · subst hj
        simp [Nat.testBit_shiftLeft, hP]
      · have e : (1 <<< k).testBit j = false := by
          rw [Nat.one_shiftLeft]
          exact Nat.testBit_two_pow_of_ne (Ne.symm hj)
        rw [e, Bool.or_false]
        by_cases h1 : j < k
        · simp [h1, Nat.lt_succ_of_lt h1]
        · have h2 : ¬ j < k + 1 := by omega
          simp [h1, h2]
    · rw [if_neg hP, Nat.zero_testBit, Bool.or_false]
      by_cases hj : j = k
      · subst hj
        simp [hP]
      · by_cases h1 : j < k
        · simp [h1, Nat.lt_succ_of_lt h1]
        · have h2 : ¬ j < k + 1 := by omega
          simp [h1, h2]
theorem pp_msk_lt (P : Nat → Bool) (k : Nat) : pp_msk P k < 2 ^ k := by
  apply Nat.lt_pow_two_of_testBit
  intro j hj
  rw [pp_msk_bit]
  have : ¬ j < k := by omega
  simp [this]
theorem pp_msk_eq {P Q : Nat → Bool} {k : Nat} (h : ∀ j, j < k → P j = Q j) : pp_msk P k = pp_msk Q k := by
  apply Nat.eq_of_testBit_eq
  intro j
  rw [pp_msk_bit, pp_msk_bit]
  by_cases hj : j < k
  · rw [h j hj]
  · simp [hj]
theorem pp_cnt_eq {P Q : Nat → Bool} : ∀ {k : Nat}, (∀ j, j < k → P j = Q j) → pp_cnt P k = pp_cnt Q k
  | 0, _ => rfl
  | k + 1, h => by
    unfold pp_cnt
    rw [pp_cnt_eq (fun j hj => h j (by omega)), h k (by omega)]
theorem pp_all_eq {P Q : Nat → Bool} {k : Nat} (h : ∀ j, j < k → P j = Q j) : pp_all P k = pp_all Q k := by
  apply Bool.eq_iff_iff.mpr
  rw [pp_all_iff, pp_all_iff]
  exact ⟨fun g j hj => by rw [← h j hj]; exact g j hj, fun g j hj => by rw [h j hj]; exact g j hj⟩
theorem pp_any_eq {P Q : Nat → Bool} {k : Nat} (h : ∀ j, j < k → P j = Q j) : pp_any P k = pp_any Q k := by
  apply Bool.eq_iff_iff.mpr
  rw [pp_any_iff, pp_any_iff]
  exact ⟨fun ⟨j, hj, g⟩ => ⟨j, hj, by rw [← h j hj]; exact g⟩, fun ⟨j, hj, g⟩ => ⟨j, hj, by rw [h j hj]; exact g⟩⟩
/-! ints of small numbers -/
theorem pp_s31 : ∀ k : Fin 32, (((nI k.val) &&& 31).toBitVec.smod 32).toNat = k.val := by decide +kernel
theorem pp_shr {a k : Nat} (ha : a < 2 ^ 31) (hk : k < 32) : nI a >>> (nI k &&& 31) = nI (a / 2 ^ k) := pk_shrN ha _ k (pp_s31 ⟨k, hk⟩)
theorem pp_shl {a k : Nat} (hk : k < 32) (h : a * 2 ^ k < 2 ^ 32) : nI a <<< (nI k &&& 31) = nI (a * 2 ^ k) := pk_shlN _ k (pp_s31 ⟨k, hk⟩) h
theorem pp_and1 {a : Nat} (ha : a < 2 ^ 32) : nI a &&& 1 = nI (a % 2) := pk_andN ha 1 (by decide)
theorem pp_bit {a k : Nat} (ha : a < 2 ^ 31) (hk : k < 32) : (nI a >>> (nI k &&& 31)) &&& 1 = nI (a.testBit k).toNat := by
  rw [pp_shr ha hk, pp_and1 (Nat.lt_of_le_of_lt (Nat.div_le_self _ _) (by omega)), Nat.testBit_eq_decide_div_mod_eq]
  congr 1
  rcases Nat.mod_two_eq_zero_or_one (a / 2 ^ k) with h | h <;> simp [h]
theorem pp_bit1 {a k : Nat} (ha : a < 2 ^ 31) (hk : k < 32) : (nI a >>> (nI k &&& 31)) &&& 1 = 1 ↔ a.testBit k = true := by
  rw [pp_bit ha hk]
  cases a.testBit k <;> simp [Bool.toNat] <;> decide
theorem pp_and (a b : Nat) (ha : a < 2 ^ 32) (hb : b < 2 ^ 32) : nI a &&& nI b = nI (a &&& b) := by
  apply Int32.toBitVec_inj.mp
  apply BitVec.eq_of_toNat_eq
  have h3 : (a &&& b) < 2 ^ 32 := Nat.lt_of_le_of_lt Nat.and_le_left ha
  rw [pk_tn h3, Int32.toBitVec_and, BitVec.toNat_and, pk_tn ha, pk_tn hb]
theorem pp_or (a b : Nat) (ha : a < 2 ^ 32) (hb : b < 2 ^ 32) : nI a ||| nI b = nI (a ||| b) := by
  apply Int32.toBitVec_inj.mp
  apply BitVec.eq_of_toNat_eq
  have h3 : (a ||| b) < 2 ^ 32 := Nat.or_lt_two_pow ha hb
  rw [pk_tn h3, Int32.toBitVec_or, BitVec.toNat_or, pk_tn ha, pk_tn hb]
theorem pp_one_shl {k : Nat} (hk : k < 31) : (1 : Int32) <<< (nI k &&& 31) = nI (1 <<< k) := by
  have h := pp_shl (a := 1) (k := k) (by omega) (by
    rw [Nat.one_mul]
    exact Nat.pow_lt_pow_right (by omega) (by omega))
  rw [Nat.one_mul] at h
  rw [Nat.one_shiftLeft]
  exact h
theorem pp_cl {k : Nat} (h : k < 2 ^ 31) : (nI k).toNatClampNeg = k := nI_clamp h
theorem pp_msk_step {P : Nat → Bool} {k : Nat} (hk : k < 31) (hP : P k = true) : nI (pp_msk P k) ||| ((1 : Int32) <<< (nI k &&& 31)) = nI (pp_msk P (k + 1)) := by
  rw [pp_one_shl hk, pp_or _ _ (Nat.lt_of_lt_of_le (pp_msk_lt P k) (Nat.pow_le_pow_right (by omega) (by omega))) (by
    rw [Nat.one_shiftLeft]
    exact Nat.pow_lt_pow_right (by omega) (by omega))]
  show _ = nI (pp_msk P k ||| (if P k = true then 1 <<< k else 0))
  rw [if_pos hP]
theorem pp_msk_skip {P : Nat → Bool} {k : Nat} (hP : ¬ P k = true) : pp_msk P (k + 1) = pp_msk P k := by
  show pp_msk P k ||| (if P k = true then 1 <<< k else 0) = _
  rw [if_neg hP, Nat.or_zero]
end
section
/-! ===== the smallest methods ===== -/
/-- the net as the class has it: n posts, neighbours as bits, marks -/
def cc_N (h : mm_H) (n : Nat) (A mk : Nat → Nat) : Prop := 1 ≤ n ∧ n ≤ 8 ∧ h 1 3 = nI n ∧ (∀ p, p < 8 → h 2 p = nI (A p)) ∧ (∀ p, p < 8 → h 3 p = nI (mk p)) ∧ (∀ p, A p < 256) ∧ (∀ p, mk p < 4)
theorem t_has (l : Launch) (d : Nat) (h : mm_H) (x : Int32) : mm_Ev l d M2_has [.ref 1, .int x] h (fun r h' => r = some (.int (if 0 ≤ x ∧ x < h 1 3 then 1 else 0)) ∧ h' = h) := by
  refine mm_Ev.of (by decide +kernel) (Nat.le_of_ble_eq_true rfl) (mm_go_ok [] _ (S2_has l d _ _) _ _ _ _ ?_)
  dsimp only [P2_has, N2_has, mm_go, mm_in, mm_en, mm_nth, mm_put, mm_sto, mm_stoL, mm_ag, mm_dr, Nat.reduceSub, List.replicate, Option.toList, List.cons_append, List.nil_append, se_int, se_lng, se_iload, se_lload, se_aload, se_istore, se_lstore, se_astore, se_iinc, se_iadd, se_isub, se_imul, se_iand, se_ior, se_ixor, se_ishl, se_ishr, se_iushr, se_ladd, se_lsub, se_lmul, se_idiv, se_irem, se_ldiv, se_lrem, se_i2l, se_lcmp, se_dup, se_pop, se_dup2, se_goto, se_if_eq, se_icmp_eq, se_if_ne, se_icmp_ne, se_if_lt, se_icmp_lt, se_if_ge, se_icmp_ge, se_if_gt, se_icmp_gt, se_if_le, se_icmp_le, se_iaload, se_iastore, se_alen, se_places, se_getI, se_getR, se_put, se_ret, se_lret, se_vret, mm_sw, se_switch, se_callS, se_callV, se_copy, se_max, se_min, mm_len_2, mm_len_3, mm_len_4, mm_len_6, mm_len_8, mm_len_10, mm_len_11, mm_len_12, mm_len_13, mm_len_14, mm_len_15, mm_len_17, mm_len_18, mm_len_19, mm_len_20, mm_len_21, mm_len_22, mm_len_23, mm_len_24, mm_len_25]
  try simp only [eq_self, true_and, and_true, Bool.false_eq_true, false_implies, true_implies, true_or, or_true, mm_numI, mm_numL, mm_numN, pp_i10, pp_i01, pp_im1, not_false_eq_true, not_true_eq_false, false_or, or_false]
  refine ⟨fun h1 => ?_, fun h1 => ⟨fun h2 => ?_, fun h2 => ?_⟩⟩
  · rw [if_neg (fun hh => ?_)]
    exact absurd hh.1 (Int32.not_le.mpr h1)
  · rw [if_neg (fun hh => ?_)]
    exact absurd hh.2 (Int32.not_lt.mpr h2)
  · rw [if_pos ⟨Int32.not_lt.mp h1, Int32.not_le.mp h2⟩]
theorem t_nearWith_loop {l : Launch} {d : Nat} {h : mm_H} {n : Nat} {A mk f : Nat → Nat} (hN : cc_N h n A mk) {a p : Nat} (ha : mm_len a = 8) (hf : ∀ q, q < 8 → h a q = nI (f q)) (hp : p < 8) (x : Int32) (E : mm_X) : ∀ (k q : Nat), q + k = n → mm_At l d M0_nearWith E (fun r h' => r = some (.int (nI (pp_cnt (fun q => (A p).testBit q && decide (nI (f q) = x)) n))) ∧ h' = h) 6 [some (.ref 1), some (.ref a), some (.int (nI p)), some (.int x), some (.int (nI (pp_cnt (fun q => (A p).testBit q && decide (nI (f q) = x)) q))), some (.int (nI q))] [] h := by
  obtain ⟨n1, n8, hn, hA, hm, hA8, hm4⟩ := hN
  have ep : (nI p).toNatClampNeg = p := nI_clamp (by omega)
  intro k
  induction k with
  | zero =>
    intro q hq
    refine mm_go_ok [] _ (S0_nearWith l d _ _) _ _ _ _ ?_
    dsimp only [P0_nearWith, N0_nearWith, mm_go, mm_in, mm_en, mm_nth, mm_put, mm_sto, mm_stoL, mm_ag, mm_dr, Nat.reduceSub, List.replicate, Option.toList, List.cons_append, List.nil_append, se_int, se_lng, se_iload, se_lload, se_aload, se_istore, se_lstore, se_astore, se_iinc, se_iadd, se_isub, se_imul, se_iand, se_ior, se_ixor, se_ishl, se_ishr, se_iushr, se_ladd, se_lsub, se_lmul, se_idiv, se_irem, se_ldiv, se_lrem, se_i2l, se_lcmp, se_dup, se_pop, se_dup2, se_goto, se_if_eq, se_icmp_eq, se_if_ne, se_icmp_ne, se_if_lt, se_icmp_lt, se_if_ge, se_icmp_ge, se_if_gt, se_icmp_gt, se_if_le, se_icmp_le, se_iaload, se_iastore, se_alen, se_places, se_getI, se_getR, se_put, se_ret, se_lret, se_vret, mm_sw, se_switch, se_callS, se_callV, se_copy, se_max, se_min, mm_len_2, mm_len_3, mm_len_4, mm_len_6, mm_len_8, mm_len_10, mm_len_11, mm_len_12, mm_len_13, mm_len_14, mm_len_15, mm_len_17, mm_len_18, mm_len_19, mm_len_20, mm_len_21, mm_len_22, mm_len_23, mm_len_24, mm_len_25]
    try simp only [eq_self, true_and, and_true, Bool.false_eq_true, false_implies, true_implies, true_or, or_true, mm_numI, mm_numL, mm_numN, pp_i10, pp_i01, pp_im1, not_false_eq_true, not_true_eq_false, false_or, or_false]
    rw [hn]
    refine ⟨fun _ => ?_, fun hc => absurd (nI_le (by omega) (by omega)) hc⟩
    rw [show q = n by omega]
  | succ k ih =>
    intro q hq
    refine mm_go_ok [] _ (S0_nearWith l d _ _) _ _ _ _ ?_
    dsimp only [P0_nearWith, N0_nearWith, mm_go, mm_in, mm_en, mm_nth, mm_put, mm_sto, mm_stoL, mm_ag, mm_dr, Nat.reduceSub, List.replicate, Option.toList, List.cons_append, List.nil_append, se_int, se_lng, se_iload, se_lload, se_aload, se_istore, se_lstore, se_astore, se_iinc, se_iadd, se_isub, se_imul, se_iand, se_ior, se_ixor, se_ishl, se_ishr, se_iushr, se_ladd, se_lsub, se_lmul, se_idiv, se_irem, se_ldiv, se_lrem, se_i2l, se_lcmp, se_dup, se_pop, se_dup2, se_goto, se_if_eq, se_icmp_eq, se_if_ne, se_icmp_ne, se_if_lt, se_icmp_lt, se_if_ge, se_icmp_ge, se_if_gt, se_icmp_gt, se_if_le, se_icmp_le, se_iaload, se_iastore, se_alen, se_places, se_getI, se_getR, se_put, se_ret, se_lret, se_vret, mm_sw, se_switch, se_callS, se_callV, se_copy, se_max, se_min, mm_len_2, mm_len_3, mm_len_4, mm_len_6, mm_len_8, mm_len_10, mm_len_11, mm_len_12, mm_len_13, mm_len_14, mm_len_15, mm_len_17, mm_len_18, mm_len_19, mm_len_20, mm_len_21, mm_len_22, mm_len_23, mm_len_24, mm_len_25]
    try simp only [eq_self, true_and, and_true, Bool.false_eq_true, false_implies, true_implies, true_or, or_true, mm_numI, mm_numL, mm_numN, pp_i10, pp_i01, pp_im1, not_false_eq_true, not_true_eq_false, false_or, or_false]
    have eq : (nI q).toNatClampNeg = q := nI_clamp (by omega)
    have es := nI_1 q
    have ih := ih (q + 1) (by omega)
    rw [hn, ep, eq, hA p hp, ha, es, pp_bit1 (Nat.lt_trans (hA8 p) (by decide)) (by omega), hf q (by omega)]
    refine ⟨fun hc => absurd (nI_ge (show q < n by omega) (by omega)) (fun z => z hc), fun _ => ⟨vp_in_nI hp (by decide), fun hb => ?_, fun hb => ⟨vp_in_nI (by omega) (by decide), fun hv => ?_, fun hv => ?_⟩⟩⟩
    · rw [pp_cnt_f (by simp [hb])] at ih
      exact ih
    · rw [pp_cnt_f (by simp [hv])] at ih
      exact ih
    · rw [pp_cnt_t (by simp [hb, hv])] at ih
      rw [nI_1]
      exact ih
end
section
/-! ===== the library's own; the net's small methods; the judge ===== -/
def pp_b (b : Bool) : Int32 := match b with
  | true => 1
  | false => 0
theorem pp_b1 {b : Bool} (h : b = true) : some (Value.int 1) = some (.int (pp_b b)) := by rw [h]; rfl
theorem pp_b0 {b : Bool} (h : b = false) : some (Value.int 0) = some (.int (pp_b b)) := by rw [h]; rfl
theorem pp_b01 (b : Bool) : pp_b b = 0 ∨ pp_b b = 1 := by cases b <;> simp [pp_b]
theorem pp_bne {b : Bool} : (¬ pp_b b = 0) ↔ b = true := by cases b <;> simp [pp_b]
theorem pp_beq {b : Bool} : pp_b b = 0 ↔ b = false := by cases b <;> simp [pp_b]
def pp_pop (a : Nat) : Nat := pp_cnt a.testBit 8
theorem t_bitCount (l : Launch) (d : Nat) (h : mm_H) (a : Nat) (ha : a < 256) : mm_Ev l d MJ_bitCount [.int (nI a)] h (fun r h' => r = some (.int (nI (pp_pop a))) ∧ h' = h) := by
  refine mm_Ev.of (by decide +kernel) (Nat.le_of_ble_eq_true rfl) (mm_go_ok [] _ (SJ_bitCount l d _ _) _ _ _ _ ?_)
  dsimp only [PJ_bitCount, NJ_bitCount, mm_go, mm_in, mm_en, mm_nth, mm_put, mm_sto, mm_stoL, mm_ag, mm_dr, Nat.reduceSub, List.replicate, Option.toList, List.cons_append, List.nil_append, se_int, se_lng, se_iload, se_lload, se_aload, se_istore, se_lstore, se_astore, se_iinc, se_iadd, se_isub, se_imul, se_iand, se_ior, se_ixor, se_ishl, se_ishr, se_iushr, se_ladd, se_lsub, se_lmul, se_idiv, se_irem, se_ldiv, se_lrem, se_i2l, se_lcmp, se_dup, se_pop, se_dup2, se_goto, se_if_eq, se_icmp_eq, se_if_ne, se_icmp_ne, se_if_lt, se_icmp_lt, se_if_ge, se_icmp_ge, se_if_gt, se_icmp_gt, se_if_le, se_icmp_le, se_iaload, se_iastore, se_alen, se_places, se_getI, se_getR, se_put, se_ret, se_lret, se_vret, mm_sw, se_switch, se_callS, se_callV, se_copy, se_max, se_min, mm_len_2, mm_len_3, mm_len_4, mm_len_6, mm_len_8, mm_len_10, mm_len_11, mm_len_12, mm_len_13, mm_len_14, mm_len_15, mm_len_17, mm_len_18, mm_len_19, mm_len_20, mm_len_21, mm_len_22, mm_len_23, mm_len_24, mm_len_25]
  try simp only [eq_self, true_and, and_true, Bool.false_eq_true, false_implies, true_implies, true_or, or_true, mm_numI, mm_numL, mm_numN, pp_i10, pp_i01, pp_im1, not_false_eq_true, not_true_eq_false, false_or, or_false]
  have key : ∀ a : Fin 256, (fun x : Int32 => (fun x : Int32 => (fun x : Int32 => (fun x : Int32 => (fun x : Int32 => x &&& 63) (x + (x.toUInt32 >>> (Int32.toUInt32 16 &&& Int32.toUInt32 31)).toInt32)) (x + (x.toUInt32 >>> (Int32.toUInt32 8 &&& Int32.toUInt32 31)).toInt32)) ((x + (x.toUInt32 >>> (Int32.toUInt32 4 &&& Int32.toUInt32 31)).toInt32) &&& 252645135)) ((x &&& 858993459) + ((x.toUInt32 >>> (Int32.toUInt32 2 &&& Int32.toUInt32 31)).toInt32 &&& 858993459))) ((nI a.val) - (((nI a.val).toUInt32 >>> (Int32.toUInt32 1 &&& Int32.toUInt32 31)).toInt32 &&& 1431655765)) = nI (pp_pop a.val) := by decide +kernel
  have := key ⟨a, ha⟩
  dsimp only at this
  rw [this]
theorem mm_setA_same (h : mm_H) (c : Nat) (f : Nat → Int32) : mm_setA h c f c = f := by
  unfold mm_setA
  rw [if_pos rfl]
theorem mm_setA_ne {h : mm_H} {c a : Nat} {f : Nat → Int32} (ha : a ≠ c) : mm_setA h c f a = h a := by
  unfold mm_setA
  rw [if_neg ha]
theorem mm_set_ne {h : mm_H} {c a k : Nat} {v : Int32} (ha : a ≠ c) : mm_set h c k v a = h a := by
  funext b
  unfold mm_set
  rw [if_neg ha]
theorem mm_set_same (h : mm_H) (c k : Nat) (v : Int32) : mm_set h c k v c k = v := by
  unfold mm_set
  rw [if_pos rfl, if_pos rfl]
theorem mm_set_other {h : mm_H} {c k j : Nat} {v : Int32} (hj : j ≠ k) : mm_set h c k v c j = h c j := by
  unfold mm_set
  rw [if_pos rfl, if_neg hj]
theorem mm_set_setA (h : mm_H) (c k : Nat) (f : Nat → Int32) (v : Int32) : mm_set (mm_setA h c f) c k v = mm_setA h c (upd f k v) := by
  funext a b
  unfold mm_set mm_setA upd
  by_cases ha : a = c
  · simp [ha]
  · simp [ha]
theorem mm_setA_setA (h : mm_H) (c : Nat) (f g : Nat → Int32) : mm_setA (mm_setA h c f) c g = mm_setA h c g := by
  funext a
  unfold mm_setA
  by_cases ha : a = c
  · simp [ha]
  · simp [ha]
theorem mm_setA_id (h : mm_H) (c : Nat) : mm_setA h c (h c) = h := by
  funext a
  unfold mm_setA
  by_cases ha : a = c
  · simp [ha]
  · simp [ha]
def pp_fill (f : Nat → Int32) (v : Int32) (k : Nat) : Nat → Int32 := fun j => if j < k then v else f j
theorem pp_fill_s (f : Nat → Int32) (v : Int32) (k : Nat) : upd (pp_fill f v k) k v = pp_fill f v (k + 1) := by
  funext j
  unfold upd pp_fill
  by_cases hj : j = k
  · simp [hj]
  · by_cases h1 : j < k
    · simp [hj, h1, Nat.lt_succ_of_lt h1]
    · have h2 : ¬ j < k + 1 := by omega
      simp [hj, h1, h2]
theorem pp_fill_0 (f : Nat → Int32) (v : Int32) : pp_fill f v 0 = f := by
  funext j
  simp [pp_fill]
theorem t_fill_loop {l : Launch} {d : Nat} {E : mm_X} {h : mm_H} {a : Nat} (ha : ¬ a = 25) {v : Int32} {post : mm_Po} (hl : mm_len a < 2 ^ 31) (hp : post none (mm_setA h a (pp_fill (h a) v (mm_len a)))) : ∀ (k i : Nat), i + k = mm_len a → mm_At l d MJ_fill E post 5 [some (.ref a), some (.int v), some (.int (nI i)), some (.int (nI (mm_len a)))] [] (mm_setA h a (pp_fill (h a) v i)) := by
  intro k
  induction k with
  | zero =>
    intro i hi
    refine mm_go_ok [] _ (SJ_fill l d _ _) _ _ _ _ ?_
    dsimp only [PJ_fill, NJ_fill, mm_go, mm_in, mm_en, mm_nth, mm_put, mm_sto, mm_stoL, mm_ag, mm_dr, Nat.reduceSub, List.replicate, Option.toList, List.cons_append, List.nil_append, se_int, se_lng, se_iload, se_lload, se_aload, se_istore, se_lstore, se_astore, se_iinc, se_iadd, se_isub, se_imul, se_iand, se_ior, se_ixor, se_ishl, se_ishr, se_iushr, se_ladd, se_lsub, se_lmul, se_idiv, se_irem, se_ldiv, se_lrem, se_i2l, se_lcmp, se_dup, se_pop, se_dup2, se_goto, se_if_eq, se_icmp_eq, se_if_ne, se_icmp_ne, se_if_lt, se_icmp_lt, se_if_ge, se_icmp_ge, se_if_gt, se_icmp_gt, se_if_le, se_icmp_le, se_iaload, se_iastore, se_alen, se_places, se_getI, se_getR, se_put, se_ret, se_lret, se_vret, mm_sw, se_switch, se_callS, se_callV, se_copy, se_max, se_min, mm_len_2, mm_len_3, mm_len_4, mm_len_6, mm_len_8, mm_len_10, mm_len_11, mm_len_12, mm_len_13, mm_len_14, mm_len_15, mm_len_17, mm_len_18, mm_len_19, mm_len_20, mm_len_21, mm_len_22, mm_len_23, mm_len_24, mm_len_25]
    try simp only [eq_self, true_and, and_true, Bool.false_eq_true, false_implies, true_implies, true_or, or_true, mm_numI, mm_numL, mm_numN, pp_i10, pp_i01, pp_im1, not_false_eq_true, not_true_eq_false, false_or, or_false]
    refine ⟨fun _ => by rw [show i = mm_len a by omega]; exact hp, fun hc => absurd (nI_le (by omega) (by omega)) hc⟩
  | succ k ih =>
    intro i hi
    refine mm_go_ok [] _ (SJ_fill l d _ _) _ _ _ _ ?_
    dsimp only [PJ_fill, NJ_fill, mm_go, mm_in, mm_en, mm_nth, mm_put, mm_sto, mm_stoL, mm_ag, mm_dr, Nat.reduceSub, List.replicate, Option.toList, List.cons_append, List.nil_append, se_int, se_lng, se_iload, se_lload, se_aload, se_istore, se_lstore, se_astore, se_iinc, se_iadd, se_isub, se_imul, se_iand, se_ior, se_ixor, se_ishl, se_ishr, se_iushr, se_ladd, se_lsub, se_lmul, se_idiv, se_irem, se_ldiv, se_lrem, se_i2l, se_lcmp, se_dup, se_pop, se_dup2, se_goto, se_if_eq, se_icmp_eq, se_if_ne, se_icmp_ne, se_if_lt, se_icmp_lt, se_if_ge, se_icmp_ge, se_if_gt, se_icmp_gt, se_if_le, se_icmp_le, se_iaload, se_iastore, se_alen, se_places, se_getI, se_getR, se_put, se_ret, se_lret, se_vret, mm_sw, se_switch, se_callS, se_callV, se_copy, se_max, se_min, mm_len_2, mm_len_3, mm_len_4, mm_len_6, mm_len_8, mm_len_10, mm_len_11, mm_len_12, mm_len_13, mm_len_14, mm_len_15, mm_len_17, mm_len_18, mm_len_19, mm_len_20, mm_len_21, mm_len_22, mm_len_23, mm_len_24, mm_len_25]
    try simp only [eq_self, true_and, and_true, Bool.false_eq_true, false_implies, true_implies, true_or, or_true, mm_numI, mm_numL, mm_numN, pp_i10, pp_i01, pp_im1, not_false_eq_true, not_true_eq_false, false_or, or_false]
    have ih := ih (i + 1) (by omega)
    refine ⟨fun hc => absurd hc (nI_ge (by omega) (by omega)), fun _ => ⟨ha, vp_in_nI (by omega) (by omega), ?_⟩⟩
    rw [nI_clamp (by omega), mm_set_setA, pp_fill_s, nI_1]
    exact ih
theorem t_fill (l : Launch) (d : Nat) (h : mm_H) (a : Nat) (ha : ¬ a = 25) (h0 : 0 < mm_len a) (hl : mm_len a < 2 ^ 31) (v : Int32) : mm_Ev l d MJ_fill [.ref a, .int v] h (fun r h' => r = none ∧ h' = mm_setA h a (pp_fill (h a) v (mm_len a))) := by
  refine mm_Ev.of (by decide +kernel) (Nat.le_of_ble_eq_true rfl) (mm_go_ok [5] _ (SJ_fill l d _ _) _ _ _ _ ?_)
  dsimp only [PJ_fill, NJ_fill, mm_go, mm_in, mm_en, mm_nth, mm_put, mm_sto, mm_stoL, mm_ag, mm_dr, Nat.reduceSub, List.replicate, Option.toList, List.cons_append, List.nil_append, se_int, se_lng, se_iload, se_lload, se_aload, se_istore, se_lstore, se_astore, se_iinc, se_iadd, se_isub, se_imul, se_iand, se_ior, se_ixor, se_ishl, se_ishr, se_iushr, se_ladd, se_lsub, se_lmul, se_idiv, se_irem, se_ldiv, se_lrem, se_i2l, se_lcmp, se_dup, se_pop, se_dup2, se_goto, se_if_eq, se_icmp_eq, se_if_ne, se_icmp_ne, se_if_lt, se_icmp_lt, se_if_ge, se_icmp_ge, se_if_gt, se_icmp_gt, se_if_le, se_icmp_le, se_iaload, se_iastore, se_alen, se_places, se_getI, se_getR, se_put, se_ret, se_lret, se_vret, mm_sw, se_switch, se_callS, se_callV, se_copy, se_max, se_min, mm_len_2, mm_len_3, mm_len_4, mm_len_6, mm_len_8, mm_len_10, mm_len_11, mm_len_12, mm_len_13, mm_len_14, mm_len_15, mm_len_17, mm_len_18, mm_len_19, mm_len_20, mm_len_21, mm_len_22, mm_len_23, mm_len_24, mm_len_25]
  try simp only [eq_self, true_and, and_true, Bool.false_eq_true, false_implies, true_implies, true_or, or_true, mm_numI, mm_numL, mm_numN, pp_i10, pp_i01, pp_im1, not_false_eq_true, not_true_eq_false, false_or, or_false]
  refine ⟨h0, ?_⟩
  have := t_fill_loop (l := l) (d := d) (E := fun _ _ _ => True) (h := h) (v := v) (post := fun r h' => r = none ∧ h' = mm_setA h a (pp_fill (h a) v (mm_len a))) ha hl ⟨rfl, rfl⟩ (mm_len a) 0 (by omega)
  rw [pp_fill_0, mm_setA_id] at this
  exact this
/-! the net -/
theorem t_joined {l : Launch} {d : Nat} {h : mm_H} {n : Nat} {A mk : Nat → Nat} (hN : cc_N h n A mk) {p q : Nat} (hp : p < 8) (hq : q < 8) : mm_Ev l d M2_joined [.ref 1, .int (nI p), .int (nI q)] h (fun r h' => r = some (.int (pp_b ((A p).testBit q))) ∧ h' = h) := by
  obtain ⟨n1, n8, hn, hA, hm, hA8, hm4⟩ := hN
  refine mm_Ev.of (by decide +kernel) (Nat.le_of_ble_eq_true rfl) (mm_go_ok [] _ (S2_joined l d _ _) _ _ _ _ ?_)
  dsimp only [P2_joined, N2_joined, mm_go, mm_in, mm_en, mm_nth, mm_put, mm_sto, mm_stoL, mm_ag, mm_dr, Nat.reduceSub, List.replicate, Option.toList, List.cons_append, List.nil_append, se_int, se_lng, se_iload, se_lload, se_aload, se_istore, se_lstore, se_astore, se_iinc, se_iadd, se_isub, se_imul, se_iand, se_ior, se_ixor, se_ishl, se_ishr, se_iushr, se_ladd, se_lsub, se_lmul, se_idiv, se_irem, se_ldiv, se_lrem, se_i2l, se_lcmp, se_dup, se_pop, se_dup2, se_goto, se_if_eq, se_icmp_eq, se_if_ne, se_icmp_ne, se_if_lt, se_icmp_lt, se_if_ge, se_icmp_ge, se_if_gt, se_icmp_gt, se_if_le, se_icmp_le, se_iaload, se_iastore, se_alen, se_places, se_getI, se_getR, se_put, se_ret, se_lret, se_vret, mm_sw, se_switch, se_callS, se_callV, se_copy, se_max, se_min, mm_len_2, mm_len_3, mm_len_4, mm_len_6, mm_len_8, mm_len_10, mm_len_11, mm_len_12, mm_len_13, mm_len_14, mm_len_15, mm_len_17, mm_len_18, mm_len_19, mm_len_20, mm_len_21, mm_len_22, mm_len_23, mm_len_24, mm_len_25]
  try simp only [eq_self, true_and, and_true, Bool.false_eq_true, false_implies, true_implies, true_or, or_true, mm_numI, mm_numL, mm_numN, pp_i10, pp_i01, pp_im1, not_false_eq_true, not_true_eq_false, false_or, or_false]
  rw [nI_clamp (show p < 2 ^ 31 by omega), hA p hp, pp_bit (Nat.lt_trans (hA8 p) (by decide)) (by omega)]
  refine ⟨vp_in_nI hp (by decide), ?_⟩
  cases (A p).testBit q <;> rfl
theorem t_leaders_loop {l : Launch} {d : Nat} {E : mm_X} {h : mm_H} {n : Nat} {A mk : Nat → Nat} (hN : cc_N h n A mk) : ∀ (k p : Nat), p + k = n → mm_At l d M2_leaders E (fun r h' => r = some (.int (nI (pp_msk (fun q => decide (mk q = 1)) n))) ∧ h' = h) 4 [some (.ref 1), some (.int (nI (pp_msk (fun q => decide (mk q = 1)) p))), some (.int (nI p))] [] h := by
  obtain ⟨n1, n8, hn, hA, hm, hA8, hm4⟩ := hN
  intro k
  induction k with
  | zero =>
    intro p hp
    refine mm_go_ok [] _ (S2_leaders l d _ _) _ _ _ _ ?_
    dsimp only [P2_leaders, N2_leaders, mm_go, mm_in, mm_en, mm_nth, mm_put, mm_sto, mm_stoL, mm_ag, mm_dr, Nat.reduceSub, List.replicate, Option.toList, List.cons_append, List.nil_append, se_int, se_lng, se_iload, se_lload, se_aload, se_istore, se_lstore, se_astore, se_iinc, se_iadd, se_isub, se_imul, se_iand, se_ior, se_ixor, se_ishl, se_ishr, se_iushr, se_ladd, se_lsub, se_lmul, se_idiv, se_irem, se_ldiv, se_lrem, se_i2l, se_lcmp, se_dup, se_pop, se_dup2, se_goto, se_if_eq, se_icmp_eq, se_if_ne, se_icmp_ne, se_if_lt, se_icmp_lt, se_if_ge, se_icmp_ge, se_if_gt, se_icmp_gt, se_if_le, se_icmp_le, se_iaload, se_iastore, se_alen, se_places, se_getI, se_getR, se_put, se_ret, se_lret, se_vret, mm_sw, se_switch, se_callS, se_callV, se_copy, se_max, se_min, mm_len_2, mm_len_3, mm_len_4, mm_len_6, mm_len_8, mm_len_10, mm_len_11, mm_len_12, mm_len_13, mm_len_14, mm_len_15, mm_len_17, mm_len_18, mm_len_19, mm_len_20, mm_len_21, mm_len_22, mm_len_23, mm_len_24, mm_len_25]
    try simp only [eq_self, true_and, and_true, Bool.false_eq_true, false_implies, true_implies, true_or, or_true, mm_numI, mm_numL, mm_numN, pp_i10, pp_i01, pp_im1, not_false_eq_true, not_true_eq_false, false_or, or_false]
    rw [hn]
    refine ⟨fun _ => ?_, fun hc => absurd (nI_le (by omega) (by omega)) hc⟩
    rw [show p = n by omega]
  | succ k ih =>
    intro p hp
    refine mm_go_ok [] _ (S2_leaders l d _ _) _ _ _ _ ?_
    dsimp only [P2_leaders, N2_leaders, mm_go, mm_in, mm_en, mm_nth, mm_put, mm_sto, mm_stoL, mm_ag, mm_dr, Nat.reduceSub, List.replicate, Option.toList, List.cons_append, List.nil_append, se_int, se_lng, se_iload, se_lload, se_aload, se_istore, se_lstore, se_astore, se_iinc, se_iadd, se_isub, se_imul, se_iand, se_ior, se_ixor, se_ishl, se_ishr, se_iushr, se_ladd, se_lsub, se_lmul, se_idiv, se_irem, se_ldiv, se_lrem, se_i2l, se_lcmp, se_dup, se_pop, se_dup2, se_goto, se_if_eq, se_icmp_eq, se_if_ne, se_icmp_ne, se_if_lt, se_icmp_lt, se_if_ge, se_icmp_ge, se_if_gt, se_icmp_gt, se_if_le, se_icmp_le, se_iaload, se_iastore, se_alen, se_places, se_getI, se_getR, se_put, se_ret, se_lret, se_vret, mm_sw, se_switch, se_callS, se_callV, se_copy, se_max, se_min, mm_len_2, mm_len_3, mm_len_4, mm_len_6, mm_len_8, mm_len_10, mm_len_11, mm_len_12, mm_len_13, mm_len_14, mm_len_15, mm_len_17, mm_len_18, mm_len_19, mm_len_20, mm_len_21, mm_len_22, mm_len_23, mm_len_24, mm_len_25]
    try simp only [eq_self, true_and, and_true, Bool.false_eq_true, false_implies, true_implies, true_or, or_true, mm_numI, mm_numL, mm_numN, pp_i10, pp_i01, pp_im1, not_false_eq_true, not_true_eq_false, false_or, or_false]
    have ih := ih (p + 1) (by omega)
    rw [hn, nI_clamp (show p < 2 ^ 31 by omega), hm p (by omega), nI_1]
    refine ⟨fun hc => absurd hc (nI_ge (by omega) (by omega)), fun _ => ⟨vp_in_nI (by omega) (by decide), fun hc => ?_, fun hc => ?_⟩⟩
    · rw [pp_msk_skip (by simpa using fun e => hc (by rw [e]; rfl))] at ih
      exact ih
    · have e : mk p = 1 := (nI_eq (b := 1) (Nat.lt_trans (hm4 p) (by decide)) (by decide)).mp hc
      rw [pp_msk_step (by omega) (by simpa using e)]
      exact ih
theorem t_leaders {l : Launch} {d : Nat} {h : mm_H} {n : Nat} {A mk : Nat → Nat} (hN : cc_N h n A mk) : mm_Ev l d M2_leaders [.ref 1] h (fun r h' => r = some (.int (nI (pp_msk (fun q => decide (mk q = 1)) n))) ∧ h' = h) := by
  refine mm_Ev.of (by decide +kernel) (Nat.le_of_ble_eq_true rfl) (mm_go_ok [4] _ (S2_leaders l d _ _) _ _ _ _ ?_)
  dsimp only [P2_leaders, N2_leaders, mm_go, mm_in, mm_en, mm_nth, mm_put, mm_sto, mm_stoL, mm_ag, mm_dr, Nat.reduceSub, List.replicate, Option.toList, List.cons_append, List.nil_append, se_int, se_lng, se_iload, se_lload, se_aload, se_istore, se_lstore, se_astore, se_iinc, se_iadd, se_isub, se_imul, se_iand, se_ior, se_ixor, se_ishl, se_ishr, se_iushr, se_ladd, se_lsub, se_lmul, se_idiv, se_irem, se_ldiv, se_lrem, se_i2l, se_lcmp, se_dup, se_pop, se_dup2, se_goto, se_if_eq, se_icmp_eq, se_if_ne, se_icmp_ne, se_if_lt, se_icmp_lt, se_if_ge, se_icmp_ge, se_if_gt, se_icmp_gt, se_if_le, se_icmp_le, se_iaload, se_iastore, se_alen, se_places, se_getI, se_getR, se_put, se_ret, se_lret, se_vret, mm_sw, se_switch, se_callS, se_callV, se_copy, se_max, se_min, mm_len_2, mm_len_3, mm_len_4, mm_len_6, mm_len_8, mm_len_10, mm_len_11, mm_len_12, mm_len_13, mm_len_14, mm_len_15, mm_len_17, mm_len_18, mm_len_19, mm_len_20, mm_len_21, mm_len_22, mm_len_23, mm_len_24, mm_len_25]
  try simp only [eq_self, true_and, and_true, Bool.false_eq_true, false_implies, true_implies, true_or, or_true, mm_numI, mm_numL, mm_numN, pp_i10, pp_i01, pp_im1, not_false_eq_true, not_true_eq_false, false_or, or_false]
  exact t_leaders_loop hN n 0 (by omega)
theorem t_nearWith {l : Launch} {d : Nat} {h : mm_H} {n : Nat} {A mk f : Nat → Nat} (hN : cc_N h n A mk) {a p : Nat} (ha : mm_len a = 8) (hf : ∀ q, q < 8 → h a q = nI (f q)) (hp : p < 8) (x : Int32) : mm_Ev l d M0_nearWith [.ref 1, .ref a, .int (nI p), .int x] h (fun r h' => r = some (.int (nI (pp_cnt (fun q => (A p).testBit q && decide (nI (f q) = x)) n))) ∧ h' = h) := by
  refine mm_Ev.of (by decide +kernel) (Nat.le_of_ble_eq_true rfl) (mm_go_ok [6] _ (S0_nearWith l d _ _) _ _ _ _ ?_)
  dsimp only [P0_nearWith, N0_nearWith, mm_go, mm_in, mm_en, mm_nth, mm_put, mm_sto, mm_stoL, mm_ag, mm_dr, Nat.reduceSub, List.replicate, Option.toList, List.cons_append, List.nil_append, se_int, se_lng, se_iload, se_lload, se_aload, se_istore, se_lstore, se_astore, se_iinc, se_iadd, se_isub, se_imul, se_iand, se_ior, se_ixor, se_ishl, se_ishr, se_iushr, se_ladd, se_lsub, se_lmul, se_idiv, se_irem, se_ldiv, se_lrem, se_i2l, se_lcmp, se_dup, se_pop, se_dup2, se_goto, se_if_eq, se_icmp_eq, se_if_ne, se_icmp_ne, se_if_lt, se_icmp_lt, se_if_ge, se_icmp_ge, se_if_gt, se_icmp_gt, se_if_le, se_icmp_le, se_iaload, se_iastore, se_alen, se_places, se_getI, se_getR, se_put, se_ret, se_lret, se_vret, mm_sw, se_switch, se_callS, se_callV, se_copy, se_max, se_min, mm_len_2, mm_len_3, mm_len_4, mm_len_6, mm_len_8, mm_len_10, mm_len_11, mm_len_12, mm_len_13, mm_len_14, mm_len_15, mm_len_17, mm_len_18, mm_len_19, mm_len_20, mm_len_21, mm_len_22, mm_len_23, mm_len_24, mm_len_25]
  try simp only [eq_self, true_and, and_true, Bool.false_eq_true, false_implies, true_implies, true_or, or_true, mm_numI, mm_numL, mm_numN, pp_i10, pp_i01, pp_im1, not_false_eq_true, not_true_eq_false, false_or, or_false]
  exact t_nearWith_loop hN ha hf hp x _ n 0 (by omega)
/-! the judge: what is accepted -/
def jj_good (n : Nat) (A mk : Nat → Nat) (p : Nat) : Bool := (pp_any (fun q => (A p).testBit q && decide (mk q = 1)) n) != decide (mk p = 1)
theorem pp_b_ne {a b : Bool} : pp_b a = pp_b b ↔ a = b := by cases a <;> cases b <;> simp [pp_b]
theorem t_isScattered {l : Launch} {d : Nat} (hd : 0 < d) {h : mm_H} {n : Nat} {A mk : Nat → Nat} (hN : cc_N h n A mk) {p : Nat} (hp : p < 8) (hAn : ∀ q, (A p).testBit q = true → q < n) : mm_Ev l d M0_isScattered [.ref 1, .int (nI p)] h (fun r h' => r = some (.int (pp_b (jj_good n A mk p))) ∧ h' = h) := by
  have hN' := hN
  obtain ⟨n1, n8, hn, hA, hm, hA8, hm4⟩ := hN
  refine mm_Ev.of (by decide +kernel) (Nat.le_of_ble_eq_true rfl) (mm_go_ok [] _ (S0_isScattered l d _ _) _ _ _ _ ?_)
  dsimp only [P0_isScattered, N0_isScattered, mm_go, mm_in, mm_en, mm_nth, mm_put, mm_sto, mm_stoL, mm_ag, mm_dr, Nat.reduceSub, List.replicate, Option.toList, List.cons_append, List.nil_append, se_int, se_lng, se_iload, se_lload, se_aload, se_istore, se_lstore, se_astore, se_iinc, se_iadd, se_isub, se_imul, se_iand, se_ior, se_ixor, se_ishl, se_ishr, se_iushr, se_ladd, se_lsub, se_lmul, se_idiv, se_irem, se_ldiv, se_lrem, se_i2l, se_lcmp, se_dup, se_pop, se_dup2, se_goto, se_if_eq, se_icmp_eq, se_if_ne, se_icmp_ne, se_if_lt, se_icmp_lt, se_if_ge, se_icmp_ge, se_if_gt, se_icmp_gt, se_if_le, se_icmp_le, se_iaload, se_iastore, se_alen, se_places, se_getI, se_getR, se_put, se_ret, se_lret, se_vret, mm_sw, se_switch, se_callS, se_callV, se_copy, se_max, se_min, mm_len_2, mm_len_3, mm_len_4, mm_len_6, mm_len_8, mm_len_10, mm_len_11, mm_len_12, mm_len_13, mm_len_14, mm_len_15, mm_len_17, mm_len_18, mm_len_19, mm_len_20, mm_len_21, mm_len_22, mm_len_23, mm_len_24, mm_len_25]
  try simp only [eq_self, true_and, and_true, Bool.false_eq_true, false_implies, true_implies, true_or, or_true, mm_numI, mm_numL, mm_numN, pp_i10, pp_i01, pp_im1, not_false_eq_true, not_true_eq_false, false_or, or_false]
  have hlt : pp_msk (fun q => decide (mk q = 1)) n < 2 ^ 8 := Nat.lt_of_lt_of_le (pp_msk_lt _ _) (Nat.pow_le_pow_right (by decide) n8)
  refine ⟨vp_in_nI hp (by decide), 0, _, hd, t_leaders hN', rfl, ?_⟩
  rintro _ _ ⟨rfl, rfl⟩
  dsimp only [mm_go, mm_in, mm_en, mm_nth, mm_put, mm_sto, mm_stoL, mm_ag, mm_dr, Nat.reduceSub, List.replicate, Option.toList, List.cons_append, List.nil_append, se_int, se_lng, se_iload, se_lload, se_aload, se_istore, se_lstore, se_astore, se_iinc, se_iadd, se_isub, se_imul, se_iand, se_ior, se_ixor, se_ishl, se_ishr, se_iushr, se_ladd, se_lsub, se_lmul, se_idiv, se_irem, se_ldiv, se_lrem, se_i2l, se_lcmp, se_dup, se_pop, se_dup2, se_goto, se_if_eq, se_icmp_eq, se_if_ne, se_icmp_ne, se_if_lt, se_icmp_lt, se_if_ge, se_icmp_ge, se_if_gt, se_icmp_gt, se_if_le, se_icmp_le, se_iaload, se_iastore, se_alen, se_places, se_getI, se_getR, se_put, se_ret, se_lret, se_vret, mm_sw, se_switch, se_callS, se_callV, se_copy, se_max, se_min, mm_len_2, mm_len_3, mm_len_4, mm_len_6, mm_len_8, mm_len_10, mm_len_11, mm_len_12, mm_len_13, mm_len_14, mm_len_15, mm_len_17, mm_len_18, mm_len_19, mm_len_20, mm_len_21, mm_len_22, mm_len_23, mm_len_24, mm_len_25]
  try simp only [eq_self, true_and, and_true, Bool.false_eq_true, false_implies, true_implies, true_or, or_true, mm_numI, mm_numL, mm_numN, pp_i10, pp_i01, pp_im1, not_false_eq_true, not_true_eq_false, false_or, or_false]
  rw [nI_clamp (show p < 2 ^ 31 by omega), hA p hp, hm p hp, pp_and _ _ (Nat.lt_trans (hA8 p) (by decide)) (Nat.lt_trans hlt (by decide))]
  have hany : (A p &&& pp_msk (fun q => decide (mk q = 1)) n = 0) ↔ pp_any (fun q => (A p).testBit q && decide (mk q = 1)) n = false := by
    constructor
    · intro h0
      apply Bool.eq_false_iff.mpr
      intro h1
      obtain ⟨j, hj, hb⟩ := pp_any_iff.mp h1
      have := congrArg (fun z => z.testBit j) h0
      simp only [Nat.testBit_and, pp_msk_bit, Nat.zero_testBit] at this
      simp only [Bool.and_eq_true] at hb
      simp [hj, hb.1, hb.2] at this
    · intro h0
      apply Nat.eq_of_testBit_eq
      intro j
      rw [Nat.testBit_and, pp_msk_bit, Nat.zero_testBit]
      apply Bool.eq_false_iff.mpr
      intro h1
      simp only [Bool.and_eq_true] at h1
      exact absurd ((pp_any_iff (P := fun q => (A p).testBit q && decide (mk q = 1))).mpr ⟨j, hAn j h1.1, by show ((A p).testBit j && decide (mk j = 1)) = true; rw [Bool.and_eq_true]; exact ⟨h1.1, h1.2.2⟩⟩) (by rw [h0]; exact Bool.false_ne_true)
  have h256 : A p &&& pp_msk (fun q => decide (mk q = 1)) n < 256 := Nat.lt_of_le_of_lt Nat.and_le_left (hA8 p)
  have e0 : (nI (A p &&& pp_msk (fun q => decide (mk q = 1)) n) = 0) ↔ pp_any (fun q => (A p).testBit q && decide (mk q = 1)) n = false := by
    rw [← hany]
    exact nI_eq (b := 0) (Nat.lt_trans h256 (by decide)) (by decide)
  have e1 : (nI (mk p) = 1) ↔ decide (mk p = 1) = true := by
    rw [decide_eq_true_eq]
    exact nI_eq (b := 1) (Nat.lt_trans (hm4 p) (by decide)) (by decide)
  rw [e0, e1]
  unfold jj_good
  cases pp_any (fun q => (A p).testBit q && decide (mk q = 1)) n <;> cases decide (mk p = 1) <;> simp [vp_in_nI hp, pp_b] <;> decide
end
section
/-- does post p accept, in scheme sc, with the numbers f -/
def jj_acc (n : Nat) (A mk : Nat → Nat) (sc : Nat) (f : Nat → Nat) (p : Nat) : Bool :=
  if sc = 0 then decide (f p < 2) && pp_all (fun q => !((A p).testBit q) || decide (f q ≠ f p)) n
  else if sc = 1 then decide (f p < 3) && pp_all (fun q => !((A p).testBit q) || decide (f q ≠ f p)) n
  else if sc = 2 then pp_all (fun q => !((A p).testBit q) || decide (f q / 8 = f p / 8)) n && (if f p % 8 = 0 then decide (p = f p / 8) && decide (mk p = 1) else decide (mk p ≠ 1) && pp_any (fun q => (A p).testBit q && decide (f q % 8 + 1 = f p % 8)) n)
  else if sc = 3 then decide (f p = 0) && jj_good n A mk p
  else decide (f p < 8) && (pp_all (fun q => !((A p).testBit q) || (decide (f q + 1 = f p) || decide (f q = f p + 1))) n && (decide (f p = 0) || decide (pp_cnt (fun q => (A p).testBit q && decide (f q + 1 = f p)) n = 1)))
/-- what a post can tell of its own number -/
def jj_suits (mk : Nat → Nat) (sc p v : Nat) : Bool :=
  if sc = 0 then decide (v < 2)
  else if sc = 1 then decide (v < 3)
  else if sc = 2 then (if v % 8 = 0 then decide (mk p = 1) && decide (v / 8 = p) else decide (mk p ≠ 1))
  else if sc = 3 then decide (v = 0)
  else decide (v < 8)
theorem pp_div8 {a : Nat} (h : a < 2 ^ 31) : nI a / 8 = nI (a / 8) := pk_div (d := 8) h (by decide) (by decide)
theorem pp_rem8 {a : Nat} (h : a < 2 ^ 31) : nI a - nI a / 8 * 8 = nI (a % 8) := pk_rem (d := 8) h (by decide) (by decide)
theorem pp_eqN {a b : Nat} (ha : a < 2 ^ 31) (hb : b < 2 ^ 31) : nI a = nI b ↔ a = b := nI_eq ha hb
theorem pp_eq0 {a : Nat} (ha : a < 2 ^ 31) : nI a = 0 ↔ a = 0 := nI_eq (b := 0) ha (by decide)
theorem pp_eq1 {a : Nat} (ha : a < 2 ^ 31) : nI a = 1 ↔ a = 1 := nI_eq (b := 1) ha (by decide)
theorem pp_sc {sc k : Nat} (h : sc < 5) (hk : k < 5) : nI sc = nI k ↔ sc = k := nI_eq (by omega) (by omega)
theorem t_suits {l : Launch} {d : Nat} {h : mm_H} {n : Nat} {A mk : Nat → Nat} (hN : cc_N h n A mk) {sc p v : Nat} (hsc : sc < 5) (hp : p < 8) (hv : v < 2 ^ 30) : mm_Ev l d M0_suits [.ref 1, .int (nI sc), .int (nI p), .int (nI v)] h (fun r h' => r = some (.int (pp_b (jj_suits mk sc p v))) ∧ h' = h) := by
  obtain ⟨n1, n8, hn, hA, hm, hA8, hm4⟩ := hN
  have hv' : v < 2 ^ 31 := by omega
  refine mm_Ev.of (by decide +kernel) (Nat.le_of_ble_eq_true rfl) (mm_go_ok [] _ (S0_suits l d _ _) _ _ _ _ ?_)
  dsimp only [P0_suits, N0_suits, mm_go, mm_in, mm_en, mm_nth, mm_put, mm_sto, mm_stoL, mm_ag, mm_dr, Nat.reduceSub, List.replicate, Option.toList, List.cons_append, List.nil_append, se_int, se_lng, se_iload, se_lload, se_aload, se_istore, se_lstore, se_astore, se_iinc, se_iadd, se_isub, se_imul, se_iand, se_ior, se_ixor, se_ishl, se_ishr, se_iushr, se_ladd, se_lsub, se_lmul, se_idiv, se_irem, se_ldiv, se_lrem, se_i2l, se_lcmp, se_dup, se_pop, se_dup2, se_goto, se_if_eq, se_icmp_eq, se_if_ne, se_icmp_ne, se_if_lt, se_icmp_lt, se_if_ge, se_icmp_ge, se_if_gt, se_icmp_gt, se_if_le, se_icmp_le, se_iaload, se_iastore, se_alen, se_places, se_getI, se_getR, se_put, se_ret, se_lret, se_vret, mm_sw, se_switch, se_callS, se_callV, se_copy, se_max, se_min, mm_len_2, mm_len_3, mm_len_4, mm_len_6, mm_len_8, mm_len_10, mm_len_11, mm_len_12, mm_len_13, mm_len_14, mm_len_15, mm_len_17, mm_len_18, mm_len_19, mm_len_20, mm_len_21, mm_len_22, mm_len_23, mm_len_24, mm_len_25]
  try simp only [eq_self, true_and, and_true, Bool.false_eq_true, false_implies, true_implies, true_or, or_true, mm_numI, mm_numL, mm_numN, pp_i10, pp_i01, pp_im1, not_false_eq_true, not_true_eq_false, false_or, or_false]
  have e0 : (nI sc = 0) ↔ sc = 0 := pp_eq0 (by omega)
  have e1 : (nI sc = 1) ↔ sc = 1 := pp_eq1 (by omega)
  have e2 : (nI sc = 2) ↔ sc = 2 := nI_eq (b := 2) (by omega) (by decide)
  have e3 : (nI sc = 3) ↔ sc = 3 := nI_eq (b := 3) (by omega) (by decide)
  have le2 : ((2 : Int32) ≤ nI v) ↔ 2 ≤ v := nI_leI (a := 2) (by decide) hv'
  have le3 : ((3 : Int32) ≤ nI v) ↔ 3 ≤ v := nI_leI (a := 3) (by decide) hv'
  have le8 : ((8 : Int32) ≤ nI v) ↔ 8 ≤ v := nI_leI (a := 8) (by decide) hv'
  have em : (nI (mk p) = 1) ↔ mk p = 1 := pp_eq1 (Nat.lt_trans (hm4 p) (by decide))
  have er : (nI (v % 8) = 0) ↔ v % 8 = 0 := pp_eq0 (by omega)
  have ed : (nI (v / 8) = nI p) ↔ v / 8 = p := pp_eqN (by omega) (by omega)
  rw [nI_clamp (show p < 2 ^ 31 by omega), hm p hp, e0, e1, e2, e3, le2, le3, le8, em, pp_rem8 hv', pp_div8 hv', er, ed, pp_eq0 hv']
  unfold jj_suits
  refine ⟨fun h0 => ?_, fun h0 => ⟨fun h1 => ?_, fun h1 => ⟨fun h2 => ?_, fun h2 => ⟨fun h3 => ?_, fun h3 => ?_⟩⟩⟩⟩
  · rw [if_pos h0]
    exact ⟨fun hc => pp_b0 (by simpa using hc), fun hc => pp_b1 (by simpa using hc)⟩
  · rw [if_neg h0, if_pos h1]
    exact ⟨fun hc => pp_b0 (by simpa using hc), fun hc => pp_b1 (by simpa using hc)⟩
  · rw [if_neg h0, if_neg h1, if_pos h2]
    refine ⟨vp_in_nI hp (by decide), fun hc => ⟨by decide, fun hr => ?_, fun hr => ?_⟩, fun hc => ⟨by decide, fun hr => ?_, fun hr => ?_⟩⟩
    · rw [if_neg hr]
      exact pp_b1 (by simpa using hc)
    · rw [if_pos hr]
      exact pp_b0 (by simp [hc])
    · rw [if_neg hr]
      exact pp_b0 (by simpa using hc)
    · rw [if_pos hr]
      exact ⟨by decide, fun hq => pp_b0 (by simp [hq]), fun hq => pp_b1 (by simp [hc, hq])⟩
  · rw [if_neg h0, if_neg h1, if_neg h2, if_pos h3]
    exact ⟨fun hc => pp_b0 (by simpa using hc), fun hc => pp_b1 (by simpa using hc)⟩
  · rw [if_neg h0, if_neg h1, if_neg h2, if_neg h3]
    exact ⟨fun hc => pp_b0 (by simpa using hc), fun hc => pp_b1 (by simpa using hc)⟩
def jj_fl (n : Nat) (A : Nat → Nat) (f : Nat → Nat) (p : Nat) : Bool := pp_all (fun q => !((A p).testBit q) || decide (f q / 8 = f p / 8)) n && (decide (f p % 8 = 0) || decide (0 < pp_cnt (fun q => (A p).testBit q && decide (nI (f q) = nI (f p) - 1)) n))
theorem pp_le0 {a : Nat} (h : a < 2 ^ 31) : nI a ≤ 0 ↔ a = 0 := by
  have := nI_leI (a := a) (b := 0) h (by decide)
  rw [show (0 : Int32) = nI 0 from rfl, this]
  omega
theorem t_followsLeader_loop {l : Launch} {d : Nat} (hd : 0 < d) {E : mm_X} {h : mm_H} {n : Nat} {A mk f : Nat → Nat} (hN : cc_N h n A mk) {a p : Nat} (ha : mm_len a = 8) (hf : ∀ q, q < 8 → h a q = nI (f q)) (hf2 : ∀ q, f q < 2 ^ 30) (hp : p < 8) : ∀ (k q : Nat), q + k = n → pp_all (fun q => !((A p).testBit q) || decide (f q / 8 = f p / 8)) q = true → mm_At l d M0_followsLeader E (fun r h' => r = some (.int (pp_b (jj_fl n A f p))) ∧ h' = h) 10 [some (.ref 1), some (.ref a), some (.int (nI p)), some (.int (nI (f p / 8))), some (.int (nI q))] [] h := by
  have hN' := hN
  obtain ⟨n1, n8, hn, hA, hm, hA8, hm4⟩ := hN
  have hfp := hf2 p
  intro k
  induction k with
  | zero =>
    intro q hq hall
    have hqn : q = n := by omega
    subst hqn
    refine mm_go_ok [] _ (S0_followsLeader l d _ _) _ _ _ _ ?_
    dsimp only [P0_followsLeader, N0_followsLeader, mm_go, mm_in, mm_en, mm_nth, mm_put, mm_sto, mm_stoL, mm_ag, mm_dr, Nat.reduceSub, List.replicate, Option.toList, List.cons_append, List.nil_append, se_int, se_lng, se_iload, se_lload, se_aload, se_istore, se_lstore, se_astore, se_iinc, se_iadd, se_isub, se_imul, se_iand, se_ior, se_ixor, se_ishl, se_ishr, se_iushr, se_ladd, se_lsub, se_lmul, se_idiv, se_irem, se_ldiv, se_lrem, se_i2l, se_lcmp, se_dup, se_pop, se_dup2, se_goto, se_if_eq, se_icmp_eq, se_if_ne, se_icmp_ne, se_if_lt, se_icmp_lt, se_if_ge, se_icmp_ge, se_if_gt, se_icmp_gt, se_if_le, se_icmp_le, se_iaload, se_iastore, se_alen, se_places, se_getI, se_getR, se_put, se_ret, se_lret, se_vret, mm_sw, se_switch, se_callS, se_callV, se_copy, se_max, se_min, mm_len_2, mm_len_3, mm_len_4, mm_len_6, mm_len_8, mm_len_10, mm_len_11, mm_len_12, mm_len_13, mm_len_14, mm_len_15, mm_len_17, mm_len_18, mm_len_19, mm_len_20, mm_len_21, mm_len_22, mm_len_23, mm_len_24, mm_len_25]
    try simp only [eq_self, true_and, and_true, Bool.false_eq_true, false_implies, true_implies, true_or, or_true, mm_numI, mm_numL, mm_numN, pp_i10, pp_i01, pp_im1, not_false_eq_true, not_true_eq_false, false_or, or_false]
    have er : (nI (f p % 8) = 0) ↔ f p % 8 = 0 := pp_eq0 (by omega)
    rw [hn, ha, nI_clamp (show p < 2 ^ 31 by omega), hf p hp, pp_rem8 (by omega), er]
    refine ⟨fun _ => ⟨vp_in_nI hp (by decide), by decide, fun hr => pp_b1 (by unfold jj_fl; rw [hall]; simp [hr]), fun hr => ?_⟩, fun hc => absurd (nI_le (by omega) (by omega)) hc⟩
    refine ⟨vp_in_nI hp (by decide), 0, _, hd, t_nearWith hN' ha hf hp _, rfl, rfl, ?_⟩
    rintro _ _ ⟨rfl, rfl⟩
    dsimp only [mm_go, mm_in, mm_en, mm_nth, mm_put, mm_sto, mm_stoL, mm_ag, mm_dr, Nat.reduceSub, List.replicate, Option.toList, List.cons_append, List.nil_append, se_int, se_lng, se_iload, se_lload, se_aload, se_istore, se_lstore, se_astore, se_iinc, se_iadd, se_isub, se_imul, se_iand, se_ior, se_ixor, se_ishl, se_ishr, se_iushr, se_ladd, se_lsub, se_lmul, se_idiv, se_irem, se_ldiv, se_lrem, se_i2l, se_lcmp, se_dup, se_pop, se_dup2, se_goto, se_if_eq, se_icmp_eq, se_if_ne, se_icmp_ne, se_if_lt, se_icmp_lt, se_if_ge, se_icmp_ge, se_if_gt, se_icmp_gt, se_if_le, se_icmp_le, se_iaload, se_iastore, se_alen, se_places, se_getI, se_getR, se_put, se_ret, se_lret, se_vret, mm_sw, se_switch, se_callS, se_callV, se_copy, se_max, se_min, mm_len_2, mm_len_3, mm_len_4, mm_len_6, mm_len_8, mm_len_10, mm_len_11, mm_len_12, mm_len_13, mm_len_14, mm_len_15, mm_len_17, mm_len_18, mm_len_19, mm_len_20, mm_len_21, mm_len_22, mm_len_23, mm_len_24, mm_len_25]
    try simp only [eq_self, true_and, and_true, Bool.false_eq_true, false_implies, true_implies, true_or, or_true, mm_numI, mm_numL, mm_numN, pp_i10, pp_i01, pp_im1, not_false_eq_true, not_true_eq_false, false_or, or_false]
    rw [pp_le0 (Nat.lt_of_le_of_lt (pp_cnt_le _ _) (by omega))]
    exact ⟨fun hc => pp_b0 (by unfold jj_fl; simp [hc, hr]), fun hc => pp_b1 (by unfold jj_fl; rw [hall]; simp; omega)⟩
  | succ k ih =>
    intro q hq hall
    refine mm_go_ok [] _ (S0_followsLeader l d _ _) _ _ _ _ ?_
    dsimp only [P0_followsLeader, N0_followsLeader, mm_go, mm_in, mm_en, mm_nth, mm_put, mm_sto, mm_stoL, mm_ag, mm_dr, Nat.reduceSub, List.replicate, Option.toList, List.cons_append, List.nil_append, se_int, se_lng, se_iload, se_lload, se_aload, se_istore, se_lstore, se_astore, se_iinc, se_iadd, se_isub, se_imul, se_iand, se_ior, se_ixor, se_ishl, se_ishr, se_iushr, se_ladd, se_lsub, se_lmul, se_idiv, se_irem, se_ldiv, se_lrem, se_i2l, se_lcmp, se_dup, se_pop, se_dup2, se_goto, se_if_eq, se_icmp_eq, se_if_ne, se_icmp_ne, se_if_lt, se_icmp_lt, se_if_ge, se_icmp_ge, se_if_gt, se_icmp_gt, se_if_le, se_icmp_le, se_iaload, se_iastore, se_alen, se_places, se_getI, se_getR, se_put, se_ret, se_lret, se_vret, mm_sw, se_switch, se_callS, se_callV, se_copy, se_max, se_min, mm_len_2, mm_len_3, mm_len_4, mm_len_6, mm_len_8, mm_len_10, mm_len_11, mm_len_12, mm_len_13, mm_len_14, mm_len_15, mm_len_17, mm_len_18, mm_len_19, mm_len_20, mm_len_21, mm_len_22, mm_len_23, mm_len_24, mm_len_25]
    try simp only [eq_self, true_and, and_true, Bool.false_eq_true, false_implies, true_implies, true_or, or_true, mm_numI, mm_numL, mm_numN, pp_i10, pp_i01, pp_im1, not_false_eq_true, not_true_eq_false, false_or, or_false]
    have hfq := hf2 q
    have ed : (nI (f q / 8) = nI (f p / 8)) ↔ f q / 8 = f p / 8 := pp_eqN (by omega) (by omega)
    rw [hn, ha, nI_clamp (show p < 2 ^ 31 by omega), nI_clamp (show q < 2 ^ 31 by omega), hA p hp, hf q (by omega), nI_1, pp_bit1 (Nat.lt_trans (hA8 p) (by decide)) (by omega), pp_div8 (by omega), ed]
    refine ⟨fun hc => absurd hc (nI_ge (by omega) (by omega)), fun _ => ⟨vp_in_nI hp (by decide), fun hb => ih (q + 1) (by omega) ?_, fun hb => ⟨vp_in_nI (by omega) (by decide), by decide, fun hv => ih (q + 1) (by omega) ?_, fun hv => pp_b0 ?_⟩⟩⟩
    · unfold pp_all
      rw [hall]
      simp [hb]
    · unfold pp_all
      rw [hall]
      simp [hv]
    · unfold jj_fl
      rw [Bool.and_eq_false_iff]
      refine Or.inl (Bool.eq_false_iff.mpr (fun hc => ?_))
      have := pp_all_iff.mp hc q (by omega)
      simp [hb, hv] at this
theorem t_followsLeader {l : Launch} {d : Nat} (hd : 0 < d) {h : mm_H} {n : Nat} {A mk f : Nat → Nat} (hN : cc_N h n A mk) {a p : Nat} (ha : mm_len a = 8) (hf : ∀ q, q < 8 → h a q = nI (f q)) (hf2 : ∀ q, f q < 2 ^ 30) (hp : p < 8) : mm_Ev l d M0_followsLeader [.ref 1, .ref a, .int (nI p)] h (fun r h' => r = some (.int (pp_b (jj_fl n A f p))) ∧ h' = h) := by
  refine mm_Ev.of (by decide +kernel) (Nat.le_of_ble_eq_true rfl) (mm_go_ok [10] _ (S0_followsLeader l d _ _) _ _ _ _ ?_)
  dsimp only [P0_followsLeader, N0_followsLeader, mm_go, mm_in, mm_en, mm_nth, mm_put, mm_sto, mm_stoL, mm_ag, mm_dr, Nat.reduceSub, List.replicate, Option.toList, List.cons_append, List.nil_append, se_int, se_lng, se_iload, se_lload, se_aload, se_istore, se_lstore, se_astore, se_iinc, se_iadd, se_isub, se_imul, se_iand, se_ior, se_ixor, se_ishl, se_ishr, se_iushr, se_ladd, se_lsub, se_lmul, se_idiv, se_irem, se_ldiv, se_lrem, se_i2l, se_lcmp, se_dup, se_pop, se_dup2, se_goto, se_if_eq, se_icmp_eq, se_if_ne, se_icmp_ne, se_if_lt, se_icmp_lt, se_if_ge, se_icmp_ge, se_if_gt, se_icmp_gt, se_if_le, se_icmp_le, se_iaload, se_iastore, se_alen, se_places, se_getI, se_getR, se_put, se_ret, se_lret, se_vret, mm_sw, se_switch, se_callS, se_callV, se_copy, se_max, se_min, mm_len_2, mm_len_3, mm_len_4, mm_len_6, mm_len_8, mm_len_10, mm_len_11, mm_len_12, mm_len_13, mm_len_14, mm_len_15, mm_len_17, mm_len_18, mm_len_19, mm_len_20, mm_len_21, mm_len_22, mm_len_23, mm_len_24, mm_len_25]
  try simp only [eq_self, true_and, and_true, Bool.false_eq_true, false_implies, true_implies, true_or, or_true, mm_numI, mm_numL, mm_numN, pp_i10, pp_i01, pp_im1, not_false_eq_true, not_true_eq_false, false_or, or_false]
  have hfp := hf2 p
  rw [ha, nI_clamp (show p < 2 ^ 31 by omega), hf p hp, pp_div8 (by omega)]
  exact ⟨vp_in_nI hp (by decide), by decide, t_followsLeader_loop hd hN ha hf hf2 hp n 0 (by omega) rfl⟩
def jj_ho (n : Nat) (A : Nat → Nat) (f : Nat → Nat) (p : Nat) : Bool := decide (pp_cnt (fun q => (A p).testBit q && decide (nI (f q) = nI (f p) - 1)) n = (if f p = 0 then 0 else 1)) && decide (pp_cnt (fun q => (A p).testBit q && decide (nI (f q) = nI (f p) - 1)) n + pp_cnt (fun q => (A p).testBit q && decide (nI (f q) = nI (f p) + 1)) n = pp_pop (A p))
theorem t_hangsOnOne {l : Launch} {d : Nat} (hd : 0 < d) {h : mm_H} {n : Nat} {A mk f : Nat → Nat} (hN : cc_N h n A mk) {a p : Nat} (ha : mm_len a = 8) (hf : ∀ q, q < 8 → h a q = nI (f q)) (hf2 : ∀ q, f q < 2 ^ 30) (hp : p < 8) : mm_Ev l d M0_hangsOnOne [.ref 1, .ref a, .int (nI p)] h (fun r h' => r = some (.int (pp_b (jj_ho n A f p))) ∧ h' = h) := by
  have hN' := hN
  obtain ⟨n1, n8, hn, hA, hm, hA8, hm4⟩ := hN
  have hfp := hf2 p
  refine mm_Ev.of (by decide +kernel) (Nat.le_of_ble_eq_true rfl) (mm_go_ok [] _ (S0_hangsOnOne l d _ _) _ _ _ _ ?_)
  dsimp only [P0_hangsOnOne, N0_hangsOnOne, mm_go, mm_in, mm_en, mm_nth, mm_put, mm_sto, mm_stoL, mm_ag, mm_dr, Nat.reduceSub, List.replicate, Option.toList, List.cons_append, List.nil_append, se_int, se_lng, se_iload, se_lload, se_aload, se_istore, se_lstore, se_astore, se_iinc, se_iadd, se_isub, se_imul, se_iand, se_ior, se_ixor, se_ishl, se_ishr, se_iushr, se_ladd, se_lsub, se_lmul, se_idiv, se_irem, se_ldiv, se_lrem, se_i2l, se_lcmp, se_dup, se_pop, se_dup2, se_goto, se_if_eq, se_icmp_eq, se_if_ne, se_icmp_ne, se_if_lt, se_icmp_lt, se_if_ge, se_icmp_ge, se_if_gt, se_icmp_gt, se_if_le, se_icmp_le, se_iaload, se_iastore, se_alen, se_places, se_getI, se_getR, se_put, se_ret, se_lret, se_vret, mm_sw, se_switch, se_callS, se_callV, se_copy, se_max, se_min, mm_len_2, mm_len_3, mm_len_4, mm_len_6, mm_len_8, mm_len_10, mm_len_11, mm_len_12, mm_len_13, mm_len_14, mm_len_15, mm_len_17, mm_len_18, mm_len_19, mm_len_20, mm_len_21, mm_len_22, mm_len_23, mm_len_24, mm_len_25]
  try simp only [eq_self, true_and, and_true, Bool.false_eq_true, false_implies, true_implies, true_or, or_true, mm_numI, mm_numL, mm_numN, pp_i10, pp_i01, pp_im1, not_false_eq_true, not_true_eq_false, false_or, or_false]
  rw [ha, nI_clamp (show p < 2 ^ 31 by omega), hf p hp]
  refine ⟨vp_in_nI hp (by decide), 0, _, hd, t_nearWith hN' ha hf hp _, rfl, rfl, ?_⟩
  rintro _ _ ⟨rfl, rfl⟩
  dsimp only [mm_go, mm_in, mm_en, mm_nth, mm_put, mm_sto, mm_stoL, mm_ag, mm_dr, Nat.reduceSub, List.replicate, Option.toList, List.cons_append, List.nil_append, se_int, se_lng, se_iload, se_lload, se_aload, se_istore, se_lstore, se_astore, se_iinc, se_iadd, se_isub, se_imul, se_iand, se_ior, se_ixor, se_ishl, se_ishr, se_iushr, se_ladd, se_lsub, se_lmul, se_idiv, se_irem, se_ldiv, se_lrem, se_i2l, se_lcmp, se_dup, se_pop, se_dup2, se_goto, se_if_eq, se_icmp_eq, se_if_ne, se_icmp_ne, se_if_lt, se_icmp_lt, se_if_ge, se_icmp_ge, se_if_gt, se_icmp_gt, se_if_le, se_icmp_le, se_iaload, se_iastore, se_alen, se_places, se_getI, se_getR, se_put, se_ret, se_lret, se_vret, mm_sw, se_switch, se_callS, se_callV, se_copy, se_max, se_min, mm_len_2, mm_len_3, mm_len_4, mm_len_6, mm_len_8, mm_len_10, mm_len_11, mm_len_12, mm_len_13, mm_len_14, mm_len_15, mm_len_17, mm_len_18, mm_len_19, mm_len_20, mm_len_21, mm_len_22, mm_len_23, mm_len_24, mm_len_25]
  try simp only [eq_self, true_and, and_true, Bool.false_eq_true, false_implies, true_implies, true_or, or_true, mm_numI, mm_numL, mm_numN, pp_i10, pp_i01, pp_im1, not_false_eq_true, not_true_eq_false, false_or, or_false]
  rw [hf p hp]
  refine ⟨vp_in_nI hp (by decide), 0, _, hd, t_nearWith hN' ha hf hp _, rfl, rfl, ?_⟩
  rintro _ _ ⟨rfl, rfl⟩
  dsimp only [mm_go, mm_in, mm_en, mm_nth, mm_put, mm_sto, mm_stoL, mm_ag, mm_dr, Nat.reduceSub, List.replicate, Option.toList, List.cons_append, List.nil_append, se_int, se_lng, se_iload, se_lload, se_aload, se_istore, se_lstore, se_astore, se_iinc, se_iadd, se_isub, se_imul, se_iand, se_ior, se_ixor, se_ishl, se_ishr, se_iushr, se_ladd, se_lsub, se_lmul, se_idiv, se_irem, se_ldiv, se_lrem, se_i2l, se_lcmp, se_dup, se_pop, se_dup2, se_goto, se_if_eq, se_icmp_eq, se_if_ne, se_icmp_ne, se_if_lt, se_icmp_lt, se_if_ge, se_icmp_ge, se_if_gt, se_icmp_gt, se_if_le, se_icmp_le, se_iaload, se_iastore, se_alen, se_places, se_getI, se_getR, se_put, se_ret, se_lret, se_vret, mm_sw, se_switch, se_callS, se_callV, se_copy, se_max, se_min, mm_len_2, mm_len_3, mm_len_4, mm_len_6, mm_len_8, mm_len_10, mm_len_11, mm_len_12, mm_len_13, mm_len_14, mm_len_15, mm_len_17, mm_len_18, mm_len_19, mm_len_20, mm_len_21, mm_len_22, mm_len_23, mm_len_24, mm_len_25]
  try simp only [eq_self, true_and, and_true, Bool.false_eq_true, false_implies, true_implies, true_or, or_true, mm_numI, mm_numL, mm_numN, pp_i10, pp_i01, pp_im1, not_false_eq_true, not_true_eq_false, false_or, or_false]
  have l1 := pp_cnt_le (fun q => (A p).testBit q && decide (nI (f q) = nI (f p) - 1)) n
  have l2 := pp_cnt_le (fun q => (A p).testBit q && decide (nI (f q) = nI (f p) + 1)) n
  have l3 : pp_pop (A p) ≤ 8 := pp_cnt_le _ _
  rw [hf p hp, hA p hp, pp_eq0 (show f p < 2 ^ 31 by omega), pp_eq0 (show pp_cnt (fun q => (A p).testBit q && decide (nI (f q) = nI (f p) - 1)) n < 2 ^ 31 by omega), pp_eq1 (show pp_cnt (fun q => (A p).testBit q && decide (nI (f q) = nI (f p) - 1)) n < 2 ^ 31 by omega)]
  refine ⟨vp_in_nI hp (by decide), fun h0 => ⟨fun h1 => ?_, fun h1 => ?_⟩, fun h0 => ⟨fun h1 => ?_, fun h1 => ?_⟩⟩
  · exact pp_b0 (by unfold jj_ho; rw [if_neg h0, decide_eq_false h1, Bool.false_and])
  · refine ⟨vp_in_nI hp (by decide), 0, _, hd, t_bitCount l 0 _ (A p) (hA8 p), rfl, rfl, ?_⟩
    rintro _ _ ⟨rfl, rfl⟩
    dsimp only [mm_go, mm_in, mm_en, mm_nth, mm_put, mm_sto, mm_stoL, mm_ag, mm_dr, Nat.reduceSub, List.replicate, Option.toList, List.cons_append, List.nil_append, se_int, se_lng, se_iload, se_lload, se_aload, se_istore, se_lstore, se_astore, se_iinc, se_iadd, se_isub, se_imul, se_iand, se_ior, se_ixor, se_ishl, se_ishr, se_iushr, se_ladd, se_lsub, se_lmul, se_idiv, se_irem, se_ldiv, se_lrem, se_i2l, se_lcmp, se_dup, se_pop, se_dup2, se_goto, se_if_eq, se_icmp_eq, se_if_ne, se_icmp_ne, se_if_lt, se_icmp_lt, se_if_ge, se_icmp_ge, se_if_gt, se_icmp_gt, se_if_le, se_icmp_le, se_iaload, se_iastore, se_alen, se_places, se_getI, se_getR, se_put, se_ret, se_lret, se_vret, mm_sw, se_switch, se_callS, se_callV, se_copy, se_max, se_min, mm_len_2, mm_len_3, mm_len_4, mm_len_6, mm_len_8, mm_len_10, mm_len_11, mm_len_12, mm_len_13, mm_len_14, mm_len_15, mm_len_17, mm_len_18, mm_len_19, mm_len_20, mm_len_21, mm_len_22, mm_len_23, mm_len_24, mm_len_25]
    try simp only [eq_self, true_and, and_true, Bool.false_eq_true, false_implies, true_implies, true_or, or_true, mm_numI, mm_numL, mm_numN, pp_i10, pp_i01, pp_im1, not_false_eq_true, not_true_eq_false, false_or, or_false]
    rw [nI_add, pp_eqN (by omega) (by omega)]
    exact ⟨fun h2 => pp_b0 (by unfold jj_ho; rw [decide_eq_false h2, Bool.and_false]), fun h2 => pp_b1 (by unfold jj_ho; rw [if_neg h0, decide_eq_true h1, decide_eq_true h2]; rfl)⟩
  · exact pp_b0 (by unfold jj_ho; rw [if_pos h0, decide_eq_false h1, Bool.false_and])
  · refine ⟨vp_in_nI hp (by decide), 0, _, hd, t_bitCount l 0 _ (A p) (hA8 p), rfl, rfl, ?_⟩
    rintro _ _ ⟨rfl, rfl⟩
    dsimp only [mm_go, mm_in, mm_en, mm_nth, mm_put, mm_sto, mm_stoL, mm_ag, mm_dr, Nat.reduceSub, List.replicate, Option.toList, List.cons_append, List.nil_append, se_int, se_lng, se_iload, se_lload, se_aload, se_istore, se_lstore, se_astore, se_iinc, se_iadd, se_isub, se_imul, se_iand, se_ior, se_ixor, se_ishl, se_ishr, se_iushr, se_ladd, se_lsub, se_lmul, se_idiv, se_irem, se_ldiv, se_lrem, se_i2l, se_lcmp, se_dup, se_pop, se_dup2, se_goto, se_if_eq, se_icmp_eq, se_if_ne, se_icmp_ne, se_if_lt, se_icmp_lt, se_if_ge, se_icmp_ge, se_if_gt, se_icmp_gt, se_if_le, se_icmp_le, se_iaload, se_iastore, se_alen, se_places, se_getI, se_getR, se_put, se_ret, se_lret, se_vret, mm_sw, se_switch, se_callS, se_callV, se_copy, se_max, se_min, mm_len_2, mm_len_3, mm_len_4, mm_len_6, mm_len_8, mm_len_10, mm_len_11, mm_len_12, mm_len_13, mm_len_14, mm_len_15, mm_len_17, mm_len_18, mm_len_19, mm_len_20, mm_len_21, mm_len_22, mm_len_23, mm_len_24, mm_len_25]
    try simp only [eq_self, true_and, and_true, Bool.false_eq_true, false_implies, true_implies, true_or, or_true, mm_numI, mm_numL, mm_numN, pp_i10, pp_i01, pp_im1, not_false_eq_true, not_true_eq_false, false_or, or_false]
    rw [nI_add, pp_eqN (by omega) (by omega)]
    exact ⟨fun h2 => pp_b0 (by unfold jj_ho; rw [decide_eq_false h2, Bool.and_false]), fun h2 => pp_b1 (by unfold jj_ho; rw [if_pos h0, decide_eq_true h1, decide_eq_true h2]; rfl)⟩
end
section
/-! the judge's answer is what is accepted -/
theorem pp_and_split {a b : Bool} : (a && b) = true ↔ a = true ∧ b = true := by simp
theorem jj_cnt0 {P : Nat → Bool} : ∀ {n : Nat}, pp_cnt P n = 0 ↔ ∀ q, q < n → P q = false
  | 0 => ⟨fun _ q hq => absurd hq (Nat.not_lt_zero q), fun _ => rfl⟩
  | n + 1 => by
    constructor
    · intro h q hq
      cases hP : P n with
      | true => rw [pp_cnt_t hP] at h; omega
      | false =>
        rw [pp_cnt_f hP] at h
        rcases Nat.lt_succ_iff_lt_or_eq.mp hq with h1 | h1
        · exact jj_cnt0.mp h q h1
        · rw [h1]; exact hP
    · intro h
      rw [pp_cnt_f (h n (by omega))]
      exact jj_cnt0.mpr (fun q hq => h q (by omega))
theorem jj_cntpos {P : Nat → Bool} {n : Nat} : 0 < pp_cnt P n ↔ pp_any P n = true := by
  constructor
  · intro h
    apply Classical.byContradiction
    intro hn
    have : pp_cnt P n = 0 := jj_cnt0.mpr (fun q hq => by
      cases hP : P q with
      | false => rfl
      | true => exact absurd (pp_any_iff.mpr ⟨q, hq, hP⟩) hn)
    omega
  · intro h
    obtain ⟨q, hq, hP⟩ := pp_any_iff.mp h
    apply Nat.pos_of_ne_zero
    intro h0
    rw [jj_cnt0.mp h0 q hq] at hP
    cases hP
/-- two kinds that exclude each other fill a third just when each of it is of one of them -/
theorem jj_cnt2 {P Q R : Nat → Bool} (hP : ∀ q, P q = true → R q = true) (hQ : ∀ q, Q q = true → R q = true) (hx : ∀ q, ¬ (P q = true ∧ Q q = true)) : ∀ {n : Nat}, pp_cnt P n + pp_cnt Q n ≤ pp_cnt R n ∧ (pp_cnt P n + pp_cnt Q n = pp_cnt R n ↔ ∀ q, q < n → R q = true → P q = true ∨ Q q = true)
  | 0 => ⟨Nat.le_refl _, fun _ q hq => absurd hq (Nat.not_lt_zero q), fun _ => rfl⟩
  | n + 1 => by
    obtain ⟨ih1, ih2⟩ := jj_cnt2 hP hQ hx (n := n)
    have e1 : pp_cnt P (n + 1) = pp_cnt P n + (if P n = true then 1 else 0) := rfl
    have e2 : pp_cnt Q (n + 1) = pp_cnt Q n + (if Q n = true then 1 else 0) := rfl
    have e3 : pp_cnt R (n + 1) = pp_cnt R n + (if R n = true then 1 else 0) := rfl
    have hxn := hx n
    have hPn := hP n
    have hQn := hQ n
    rw [e1, e2, e3]
    have split : (∀ q, q < n + 1 → R q = true → P q = true ∨ Q q = true) ↔ (∀ q, q < n → R q = true → P q = true ∨ Q q = true) ∧ (R n = true → P n = true ∨ Q n = true) := by
      constructor
      · intro h
        exact ⟨fun q hq => h q (by omega), h n (by omega)⟩
      · intro ⟨h1, h2⟩ q hq
        rcases Nat.lt_succ_iff_lt_or_eq.mp hq with h3 | h3
        · exact h1 q h3
        · rw [h3]; exact h2
    rw [split, ← ih2]
    cases h1 : P n <;> cases h2 : Q n <;> cases h3 : R n <;> simp [h1, h2, h3] at hxn hPn hQn ⊢ <;> omega
/-- neighbours are posts -/
def jj_ok (n : Nat) (A : Nat → Nat) : Prop := ∀ p q, (A p).testBit q = true → q < n
theorem jj_pop {n : Nat} {A : Nat → Nat} {p : Nat} (n8 : n ≤ 8) (hA : jj_ok n A) : pp_pop (A p) = pp_cnt (A p).testBit n := by
  unfold pp_pop
  have key : ∀ k, n + k ≤ 8 → pp_cnt (A p).testBit (n + k) = pp_cnt (A p).testBit n := by
    intro k
    induction k with
    | zero => intro _; rfl
    | succ k ih =>
      intro hk
      have : (A p).testBit (n + k) = false := Bool.eq_false_iff.mpr (fun h => by have := hA p _ h; omega)
      rw [← Nat.add_assoc, pp_cnt_f this]
      exact ih (by omega)
  have := key (8 - n) (by omega)
  rwa [show n + (8 - n) = 8 by omega] at this
theorem pp_pred {a b : Nat} (ha : a < 2 ^ 30) (hb : b < 2 ^ 30) : (nI a = nI b - 1) ↔ a + 1 = b := by
  constructor
  · intro h
    have h1 := congrArg Int32.toInt h
    rw [nI_toInt (by omega), show (1 : Int32) = nI 1 from rfl, pk_sub_toInt hb (by decide)] at h1
    omega
  · intro h
    rw [← h, nI_pred]
theorem pp_succ {a b : Nat} (ha : a < 2 ^ 30) (hb : b < 2 ^ 30) : (nI a = nI b + 1) ↔ a = b + 1 := by
  rw [nI_1]
  exact nI_eq (by omega) (by omega)
theorem jj_colour {n : Nat} {A f : Nat → Nat} {p : Nat} (hf : ∀ q, f q < 2 ^ 30) : decide (pp_cnt (fun q => (A p).testBit q && decide (nI (f q) = nI (f p))) n = 0) = pp_all (fun q => !((A p).testBit q) || decide (f q ≠ f p)) n := by
  apply Bool.eq_iff_iff.mpr
  rw [decide_eq_true_eq, jj_cnt0, pp_all_iff]
  constructor
  · intro h q hq
    have := h q hq
    simp only [Bool.and_eq_false_iff, decide_eq_false_iff_not] at this
    simp only [Bool.or_eq_true, Bool.not_eq_true', decide_eq_true_eq]
    rcases this with h1 | h1
    · exact Or.inl h1
    · exact Or.inr (fun e => h1 (by rw [e]))
  · intro h q hq
    have := h q hq
    simp only [Bool.or_eq_true, Bool.not_eq_true', decide_eq_true_eq] at this
    simp only [Bool.and_eq_false_iff, decide_eq_false_iff_not]
    rcases this with h1 | h1
    · exact Or.inl h1
    · exact Or.inr (fun e => h1 ((nI_eq (Nat.lt_trans (hf q) (by decide)) (Nat.lt_trans (hf p) (by decide))).mp e))
theorem jj_lead {n : Nat} {A mk f : Nat → Nat} {p : Nat} (hf : ∀ q, f q < 2 ^ 30) : (jj_suits mk 2 p (f p) && jj_fl n A f p) = jj_acc n A mk 2 f p := by
  unfold jj_suits jj_fl jj_acc
  simp only [show ¬ (2 = 0) by decide, show ¬ (2 = 1) by decide, if_false, if_true]
  apply Bool.eq_iff_iff.mpr
  by_cases h0 : f p % 8 = 0
  · simp only [h0, if_true, decide_true, Bool.true_or, Bool.and_true, Bool.and_eq_true, decide_eq_true_eq]
    constructor
    · rintro ⟨⟨h1, h2⟩, h3⟩
      exact ⟨h3, h2.symm, h1⟩
    · rintro ⟨h3, h2, h1⟩
      exact ⟨⟨h1, h2.symm⟩, h3⟩
  · simp only [h0, if_false, decide_false, Bool.false_or, Bool.and_eq_true, decide_eq_true_eq]
    rw [jj_cntpos]
    have eany : pp_all (fun q => !((A p).testBit q) || decide (f q / 8 = f p / 8)) n = true → (pp_any (fun q => (A p).testBit q && decide (nI (f q) = nI (f p) - 1)) n = true ↔ pp_any (fun q => (A p).testBit q && decide (f q % 8 + 1 = f p % 8)) n = true) := by
      intro hall
      rw [pp_any_iff, pp_any_iff]
      have conv : ∀ q, q < n → (A p).testBit q = true → (nI (f q) = nI (f p) - 1 ↔ f q % 8 + 1 = f p % 8) := by
        intro q hq hb
        have h8 := pp_all_iff.mp hall q hq
        simp only [hb, Bool.not_true, Bool.false_or, decide_eq_true_eq] at h8
        rw [pp_pred (hf q) (hf p)]
        omega
      constructor
      · rintro ⟨q, hq, hb⟩
        simp only [Bool.and_eq_true, decide_eq_true_eq] at hb
        exact ⟨q, hq, by simp only [Bool.and_eq_true, decide_eq_true_eq]; exact ⟨hb.1, (conv q hq hb.1).mp hb.2⟩⟩
      · rintro ⟨q, hq, hb⟩
        simp only [Bool.and_eq_true, decide_eq_true_eq] at hb
        exact ⟨q, hq, by simp only [Bool.and_eq_true, decide_eq_true_eq]; exact ⟨hb.1, (conv q hq hb.1).mpr hb.2⟩⟩
    constructor
    · rintro ⟨h1, h2, h3⟩
      exact ⟨h2, h1, (eany h2).mp h3⟩
    · rintro ⟨h2, h1, h3⟩
      exact ⟨h1, h2, (eany h2).mpr h3⟩
theorem jj_tree {n : Nat} {A mk f : Nat → Nat} {p : Nat} (n8 : n ≤ 8) (hA : jj_ok n A) (hf : ∀ q, f q < 2 ^ 30) {sc : Nat} (h0 : ¬ sc = 0) (h1 : ¬ sc = 1) (h2 : ¬ sc = 2) (h3 : ¬ sc = 3) : (jj_suits mk sc p (f p) && jj_ho n A f p) = jj_acc n A mk sc f p := by
  unfold jj_suits jj_ho jj_acc
  simp only [h0, h1, h2, h3, if_false]
  have ep : pp_cnt (fun q => (A p).testBit q && decide (nI (f q) = nI (f p) - 1)) n = pp_cnt (fun q => (A p).testBit q && decide (f q + 1 = f p)) n := pp_cnt_eq (fun q _ => by
    congr 1
    exact decide_eq_decide.mpr (pp_pred (hf q) (hf p)))
  have es : pp_cnt (fun q => (A p).testBit q && decide (nI (f q) = nI (f p) + 1)) n = pp_cnt (fun q => (A p).testBit q && decide (f q = f p + 1)) n := pp_cnt_eq (fun q _ => by
    congr 1
    exact decide_eq_decide.mpr (pp_succ (hf q) (hf p)))
  rw [ep, es, jj_pop n8 hA]
  congr 1
  apply Bool.eq_iff_iff.mpr
  rw [Bool.and_eq_true, Bool.and_eq_true, decide_eq_true_eq, decide_eq_true_eq, (jj_cnt2 (P := fun q => (A p).testBit q && decide (f q + 1 = f p)) (Q := fun q => (A p).testBit q && decide (f q = f p + 1)) (R := (A p).testBit) (fun q h => by simp only [Bool.and_eq_true] at h; exact h.1) (fun q h => by simp only [Bool.and_eq_true] at h; exact h.1) (fun q h => by simp only [Bool.and_eq_true, decide_eq_true_eq] at h; omega)).2]
  have eall : (∀ q, q < n → (A p).testBit q = true → ((A p).testBit q && decide (f q + 1 = f p)) = true ∨ ((A p).testBit q && decide (f q = f p + 1)) = true) ↔ pp_all (fun q => !((A p).testBit q) || (decide (f q + 1 = f p) || decide (f q = f p + 1))) n = true := by
    rw [pp_all_iff]
    constructor
    · intro h q hq
      cases hb : (A p).testBit q with
      | false => rfl
      | true =>
        have := h q hq hb
        simpa [hb] using this
    · intro h q hq hb
      have := h q hq
      simpa [hb] using this
  rw [eall, and_comm]
  apply and_congr_right
  intro _
  by_cases hz : f p = 0
  · simp only [hz, if_true, decide_true, Bool.true_or, iff_true]
    exact jj_cnt0.mpr (fun q _ => by simp)
  · simp only [hz, if_false, decide_false, Bool.false_or, decide_eq_true_eq]
set_option maxHeartbeats 4000000 in
theorem t_saysYes {l : Launch} {d : Nat} (hd : 1 < d) {h : mm_H} {n : Nat} {A mk f : Nat → Nat} (hN : cc_N h n A mk) (hok : jj_ok n A) {sc a p : Nat} (hsc : sc < 5) (ha : mm_len a = 8) (hf : ∀ q, q < 8 → h a q = nI (f q)) (hf2 : ∀ q, f q < 2 ^ 30) (hp : p < 8) : mm_Ev l d M0_saysYes [.ref 1, .int (nI sc), .ref a, .int (nI p)] h (fun r h' => r = some (.int (pp_b (jj_acc n A mk sc f p))) ∧ h' = h) := by
  have hfp := hf2 p
  refine mm_Ev.of (by decide +kernel) (Nat.le_of_ble_eq_true rfl) (mm_go_ok [14] _ (S0_saysYes l d _ _) _ _ _ _ ?_)
  dsimp only [P0_saysYes, N0_saysYes, mm_go, mm_in, mm_en, mm_nth, mm_put, mm_sto, mm_stoL, mm_ag, mm_dr, Nat.reduceSub, List.replicate, Option.toList, List.cons_append, List.nil_append, se_int, se_lng, se_iload, se_lload, se_aload, se_istore, se_lstore, se_astore, se_iinc, se_iadd, se_isub, se_imul, se_iand, se_ior, se_ixor, se_ishl, se_ishr, se_iushr, se_ladd, se_lsub, se_lmul, se_idiv, se_irem, se_ldiv, se_lrem, se_i2l, se_lcmp, se_dup, se_pop, se_dup2, se_goto, se_if_eq, se_icmp_eq, se_if_ne, se_icmp_ne, se_if_lt, se_icmp_lt, se_if_ge, se_icmp_ge, se_if_gt, se_icmp_gt, se_if_le, se_icmp_le, se_iaload, se_iastore, se_alen, se_places, se_getI, se_getR, se_put, se_ret, se_lret, se_vret, mm_sw, se_switch, se_callS, se_callV, se_copy, se_max, se_min, mm_len_2, mm_len_3, mm_len_4, mm_len_6, mm_len_8, mm_len_10, mm_len_11, mm_len_12, mm_len_13, mm_len_14, mm_len_15, mm_len_17, mm_len_18, mm_len_19, mm_len_20, mm_len_21, mm_len_22, mm_len_23, mm_len_24, mm_len_25]
  try simp only [eq_self, true_and, and_true, Bool.false_eq_true, false_implies, true_implies, true_or, or_true, mm_numI, mm_numL, mm_numN, pp_i10, pp_i01, pp_im1, not_false_eq_true, not_true_eq_false, false_or, or_false]
  rw [ha, nI_clamp (show p < 2 ^ 31 by omega), hf p hp]
  refine ⟨vp_in_nI hp (by decide), 0, _, by omega, t_suits hN hsc hp hfp, rfl, rfl, ?_⟩
  rintro _ _ ⟨rfl, rfl⟩
  dsimp only [mm_go, mm_in, mm_en, mm_nth, mm_put, mm_sto, mm_stoL, mm_ag, mm_dr, Nat.reduceSub, List.replicate, Option.toList, List.cons_append, List.nil_append, se_int, se_lng, se_iload, se_lload, se_aload, se_istore, se_lstore, se_astore, se_iinc, se_iadd, se_isub, se_imul, se_iand, se_ior, se_ixor, se_ishl, se_ishr, se_iushr, se_ladd, se_lsub, se_lmul, se_idiv, se_irem, se_ldiv, se_lrem, se_i2l, se_lcmp, se_dup, se_pop, se_dup2, se_goto, se_if_eq, se_icmp_eq, se_if_ne, se_icmp_ne, se_if_lt, se_icmp_lt, se_if_ge, se_icmp_ge, se_if_gt, se_icmp_gt, se_if_le, se_icmp_le, se_iaload, se_iastore, se_alen, se_places, se_getI, se_getR, se_put, se_ret, se_lret, se_vret, mm_sw, se_switch, se_callS, se_callV, se_copy, se_max, se_min, mm_len_2, mm_len_3, mm_len_4, mm_len_6, mm_len_8, mm_len_10, mm_len_11, mm_len_12, mm_len_13, mm_len_14, mm_len_15, mm_len_17, mm_len_18, mm_len_19, mm_len_20, mm_len_21, mm_len_22, mm_len_23, mm_len_24, mm_len_25]
  try simp only [eq_self, true_and, and_true, Bool.false_eq_true, false_implies, true_implies, true_or, or_true, mm_numI, mm_numL, mm_numN, pp_i10, pp_i01, pp_im1, not_false_eq_true, not_true_eq_false, false_or, or_false]
  rw [pp_bne, pp_beq]
  refine ⟨fun hs => ?_, fun hs => ?_⟩
  · refine mm_go_ok [] _ (S0_saysYes l d _ _) _ _ _ _ ?_
    dsimp only [P0_saysYes, N0_saysYes, mm_go, mm_in, mm_en, mm_nth, mm_put, mm_sto, mm_stoL, mm_ag, mm_dr, Nat.reduceSub, List.replicate, Option.toList, List.cons_append, List.nil_append, se_int, se_lng, se_iload, se_lload, se_aload, se_istore, se_lstore, se_astore, se_iinc, se_iadd, se_isub, se_imul, se_iand, se_ior, se_ixor, se_ishl, se_ishr, se_iushr, se_ladd, se_lsub, se_lmul, se_idiv, se_irem, se_ldiv, se_lrem, se_i2l, se_lcmp, se_dup, se_pop, se_dup2, se_goto, se_if_eq, se_icmp_eq, se_if_ne, se_icmp_ne, se_if_lt, se_icmp_lt, se_if_ge, se_icmp_ge, se_if_gt, se_icmp_gt, se_if_le, se_icmp_le, se_iaload, se_iastore, se_alen, se_places, se_getI, se_getR, se_put, se_ret, se_lret, se_vret, mm_sw, se_switch, se_callS, se_callV, se_copy, se_max, se_min, mm_len_2, mm_len_3, mm_len_4, mm_len_6, mm_len_8, mm_len_10, mm_len_11, mm_len_12, mm_len_13, mm_len_14, mm_len_15, mm_len_17, mm_len_18, mm_len_19, mm_len_20, mm_len_21, mm_len_22, mm_len_23, mm_len_24, mm_len_25]
    try simp only [eq_self, true_and, and_true, Bool.false_eq_true, false_implies, true_implies, true_or, or_true, mm_numI, mm_numL, mm_numN, pp_i10, pp_i01, pp_im1, not_false_eq_true, not_true_eq_false, false_or, or_false]
    have e0 : (nI sc = 0) ↔ sc = 0 := pp_eq0 (by omega)
    have e1 : (nI sc = 1) ↔ sc = 1 := pp_eq1 (by omega)
    have e2 : (nI sc = 2) ↔ sc = 2 := nI_eq (b := 2) (by omega) (by decide)
    have e3 : (nI sc = 3) ↔ sc = 3 := nI_eq (b := 3) (by omega) (by decide)
    rw [e0, e1, e2, e3, ha, nI_clamp (show p < 2 ^ 31 by omega), hf p hp]
    have col : (sc = 0 ∨ sc = 1) → jj_acc n A mk sc f p = decide (pp_cnt (fun q => (A p).testBit q && decide (nI (f q) = nI (f p))) n = 0) := by
      intro hc
      rw [jj_colour hf2]
      rcases hc with hc | hc
      · subst hc
        have : decide (f p < 2) = true := by simpa [jj_suits] using hs
        simp only [jj_acc, if_true, this, Bool.true_and]
      · subst hc
        have : decide (f p < 3) = true := by simpa [jj_suits] using hs
        simp only [jj_acc, show ¬ (1 = 0) by decide, if_false, if_true, this, Bool.true_and]
    have lc := pp_cnt_le (fun q => (A p).testBit q && decide (nI (f q) = nI (f p))) n
    have n8 := hN.2.1
    refine ⟨fun h0 => ?_, fun h0 => ⟨fun h1 => ?_, fun h1 => ⟨fun h2 => ?_, fun h2 => ⟨fun h3 => ?_, fun h3 => ?_⟩⟩⟩⟩
    · refine ⟨vp_in_nI hp (by decide), 0, _, by omega, t_nearWith hN ha hf hp _, rfl, rfl, ?_⟩
      rintro _ _ ⟨rfl, rfl⟩
      dsimp only [mm_go, mm_in, mm_en, mm_nth, mm_put, mm_sto, mm_stoL, mm_ag, mm_dr, Nat.reduceSub, List.replicate, Option.toList, List.cons_append, List.nil_append, se_int, se_lng, se_iload, se_lload, se_aload, se_istore, se_lstore, se_astore, se_iinc, se_iadd, se_isub, se_imul, se_iand, se_ior, se_ixor, se_ishl, se_ishr, se_iushr, se_ladd, se_lsub, se_lmul, se_idiv, se_irem, se_ldiv, se_lrem, se_i2l, se_lcmp, se_dup, se_pop, se_dup2, se_goto, se_if_eq, se_icmp_eq, se_if_ne, se_icmp_ne, se_if_lt, se_icmp_lt, se_if_ge, se_icmp_ge, se_if_gt, se_icmp_gt, se_if_le, se_icmp_le, se_iaload, se_iastore, se_alen, se_places, se_getI, se_getR, se_put, se_ret, se_lret, se_vret, mm_sw, se_switch, se_callS, se_callV, se_copy, se_max, se_min, mm_len_2, mm_len_3, mm_len_4, mm_len_6, mm_len_8, mm_len_10, mm_len_11, mm_len_12, mm_len_13, mm_len_14, mm_len_15, mm_len_17, mm_len_18, mm_len_19, mm_len_20, mm_len_21, mm_len_22, mm_len_23, mm_len_24, mm_len_25]
      try simp only [eq_self, true_and, and_true, Bool.false_eq_true, false_implies, true_implies, true_or, or_true, mm_numI, mm_numL, mm_numN, pp_i10, pp_i01, pp_im1, not_false_eq_true, not_true_eq_false, false_or, or_false]
      rw [pp_eq0 (by omega), col (Or.inl h0)]
      exact ⟨fun hc => pp_b0 (by simpa using hc), fun hc => pp_b1 (by simpa using hc)⟩
    · refine ⟨vp_in_nI hp (by decide), 0, _, by omega, t_nearWith hN ha hf hp _, rfl, rfl, ?_⟩
      rintro _ _ ⟨rfl, rfl⟩
      dsimp only [mm_go, mm_in, mm_en, mm_nth, mm_put, mm_sto, mm_stoL, mm_ag, mm_dr, Nat.reduceSub, List.replicate, Option.toList, List.cons_append, List.nil_append, se_int, se_lng, se_iload, se_lload, se_aload, se_istore, se_lstore, se_astore, se_iinc, se_iadd, se_isub, se_imul, se_iand, se_ior, se_ixor, se_ishl, se_ishr, se_iushr, se_ladd, se_lsub, se_lmul, se_idiv, se_irem, se_ldiv, se_lrem, se_i2l, se_lcmp, se_dup, se_pop, se_dup2, se_goto, se_if_eq, se_icmp_eq, se_if_ne, se_icmp_ne, se_if_lt, se_icmp_lt, se_if_ge, se_icmp_ge, se_if_gt, se_icmp_gt, se_if_le, se_icmp_le, se_iaload, se_iastore, se_alen, se_places, se_getI, se_getR, se_put, se_ret, se_lret, se_vret, mm_sw, se_switch, se_callS, se_callV, se_copy, se_max, se_min, mm_len_2, mm_len_3, mm_len_4, mm_len_6, mm_len_8, mm_len_10, mm_len_11, mm_len_12, mm_len_13, mm_len_14, mm_len_15, mm_len_17, mm_len_18, mm_len_19, mm_len_20, mm_len_21, mm_len_22, mm_len_23, mm_len_24, mm_len_25]
      try simp only [eq_self, true_and, and_true, Bool.false_eq_true, false_implies, true_implies, true_or, or_true, mm_numI, mm_numL, mm_numN, pp_i10, pp_i01, pp_im1, not_false_eq_true, not_true_eq_false, false_or, or_false]
      rw [pp_eq0 (by omega), col (Or.inr h1)]
      exact ⟨fun hc => pp_b0 (by simpa using hc), fun hc => pp_b1 (by simpa using hc)⟩
    · refine ⟨1, _, hd, t_followsLeader (by decide) hN ha hf hf2 hp, rfl, rfl, ?_⟩
      rintro _ _ ⟨rfl, rfl⟩
      dsimp only [mm_go, mm_in, mm_en, mm_nth, mm_put, mm_sto, mm_stoL, mm_ag, mm_dr, Nat.reduceSub, List.replicate, Option.toList, List.cons_append, List.nil_append, se_int, se_lng, se_iload, se_lload, se_aload, se_istore, se_lstore, se_astore, se_iinc, se_iadd, se_isub, se_imul, se_iand, se_ior, se_ixor, se_ishl, se_ishr, se_iushr, se_ladd, se_lsub, se_lmul, se_idiv, se_irem, se_ldiv, se_lrem, se_i2l, se_lcmp, se_dup, se_pop, se_dup2, se_goto, se_if_eq, se_icmp_eq, se_if_ne, se_icmp_ne, se_if_lt, se_icmp_lt, se_if_ge, se_icmp_ge, se_if_gt, se_icmp_gt, se_if_le, se_icmp_le, se_iaload, se_iastore, se_alen, se_places, se_getI, se_getR, se_put, se_ret, se_lret, se_vret, mm_sw, se_switch, se_callS, se_callV, se_copy, se_max, se_min, mm_len_2, mm_len_3, mm_len_4, mm_len_6, mm_len_8, mm_len_10, mm_len_11, mm_len_12, mm_len_13, mm_len_14, mm_len_15, mm_len_17, mm_len_18, mm_len_19, mm_len_20, mm_len_21, mm_len_22, mm_len_23, mm_len_24, mm_len_25]
      try simp only [eq_self, true_and, and_true, Bool.false_eq_true, false_implies, true_implies, true_or, or_true, mm_numI, mm_numL, mm_numN, pp_i10, pp_i01, pp_im1, not_false_eq_true, not_true_eq_false, false_or, or_false]
      subst h2
      rw [← jj_lead hf2, hs]
      exact ⟨rfl, pp_b01 _⟩
    · refine ⟨1, _, hd, t_isScattered (by decide) hN hp (hok p), rfl, rfl, ?_⟩
      rintro _ _ ⟨rfl, rfl⟩
      dsimp only [mm_go, mm_in, mm_en, mm_nth, mm_put, mm_sto, mm_stoL, mm_ag, mm_dr, Nat.reduceSub, List.replicate, Option.toList, List.cons_append, List.nil_append, se_int, se_lng, se_iload, se_lload, se_aload, se_istore, se_lstore, se_astore, se_iinc, se_iadd, se_isub, se_imul, se_iand, se_ior, se_ixor, se_ishl, se_ishr, se_iushr, se_ladd, se_lsub, se_lmul, se_idiv, se_irem, se_ldiv, se_lrem, se_i2l, se_lcmp, se_dup, se_pop, se_dup2, se_goto, se_if_eq, se_icmp_eq, se_if_ne, se_icmp_ne, se_if_lt, se_icmp_lt, se_if_ge, se_icmp_ge, se_if_gt, se_icmp_gt, se_if_le, se_icmp_le, se_iaload, se_iastore, se_alen, se_places, se_getI, se_getR, se_put, se_ret, se_lret, se_vret, mm_sw, se_switch, se_callS, se_callV, se_copy, se_max, se_min, mm_len_2, mm_len_3, mm_len_4, mm_len_6, mm_len_8, mm_len_10, mm_len_11, mm_len_12, mm_len_13, mm_len_14, mm_len_15, mm_len_17, mm_len_18, mm_len_19, mm_len_20, mm_len_21, mm_len_22, mm_len_23, mm_len_24, mm_len_25]
      try simp only [eq_self, true_and, and_true, Bool.false_eq_true, false_implies, true_implies, true_or, or_true, mm_numI, mm_numL, mm_numN, pp_i10, pp_i01, pp_im1, not_false_eq_true, not_true_eq_false, false_or, or_false]
      subst h3
      have : jj_acc n A mk 3 f p = jj_good n A mk p := by
        have : decide (f p = 0) = true := by simpa [jj_suits] using hs
        simp only [jj_acc, show ¬ (3 = 0) by decide, show ¬ (3 = 1) by decide, show ¬ (3 = 2) by decide, if_false, if_true, this, Bool.true_and]
      rw [this]
      exact ⟨rfl, pp_b01 _⟩
    · refine ⟨1, _, hd, t_hangsOnOne (by decide) hN ha hf hf2 hp, rfl, rfl, ?_⟩
      rintro _ _ ⟨rfl, rfl⟩
      dsimp only [mm_go, mm_in, mm_en, mm_nth, mm_put, mm_sto, mm_stoL, mm_ag, mm_dr, Nat.reduceSub, List.replicate, Option.toList, List.cons_append, List.nil_append, se_int, se_lng, se_iload, se_lload, se_aload, se_istore, se_lstore, se_astore, se_iinc, se_iadd, se_isub, se_imul, se_iand, se_ior, se_ixor, se_ishl, se_ishr, se_iushr, se_ladd, se_lsub, se_lmul, se_idiv, se_irem, se_ldiv, se_lrem, se_i2l, se_lcmp, se_dup, se_pop, se_dup2, se_goto, se_if_eq, se_icmp_eq, se_if_ne, se_icmp_ne, se_if_lt, se_icmp_lt, se_if_ge, se_icmp_ge, se_if_gt, se_icmp_gt, se_if_le, se_icmp_le, se_iaload, se_iastore, se_alen, se_places, se_getI, se_getR, se_put, se_ret, se_lret, se_vret, mm_sw, se_switch, se_callS, se_callV, se_copy, se_max, se_min, mm_len_2, mm_len_3, mm_len_4, mm_len_6, mm_len_8, mm_len_10, mm_len_11, mm_len_12, mm_len_13, mm_len_14, mm_len_15, mm_len_17, mm_len_18, mm_len_19, mm_len_20, mm_len_21, mm_len_22, mm_len_23, mm_len_24, mm_len_25]
      try simp only [eq_self, true_and, and_true, Bool.false_eq_true, false_implies, true_implies, true_or, or_true, mm_numI, mm_numL, mm_numN, pp_i10, pp_i01, pp_im1, not_false_eq_true, not_true_eq_false, false_or, or_false]
      rw [← jj_tree n8 hok hf2 h0 h1 h2 h3, hs]
      exact ⟨rfl, pp_b01 _⟩
  · refine pp_b0 ?_
    have : sc = 0 ∨ sc = 1 ∨ sc = 2 ∨ sc = 3 ∨ sc = 4 := by omega
    rcases this with e | e | e | e | e <;> subst e
    · simp only [jj_suits, if_true] at hs
      simp only [jj_acc, if_true, hs, Bool.false_and]
    · simp only [jj_suits, show ¬ (1 = 0) by decide, if_false, if_true] at hs
      simp only [jj_acc, show ¬ (1 = 0) by decide, if_false, if_true, hs, Bool.false_and]
    · rw [← jj_lead hf2, hs, Bool.false_and]
    · simp only [jj_suits, show ¬ (3 = 0) by decide, show ¬ (3 = 1) by decide, show ¬ (3 = 2) by decide, if_false, if_true] at hs
      simp only [jj_acc, show ¬ (3 = 0) by decide, show ¬ (3 = 1) by decide, show ¬ (3 = 2) by decide, if_false, if_true, hs, Bool.false_and]
    · rw [← jj_tree hN.2.1 hok hf2 (by decide) (by decide) (by decide) (by decide), hs, Bool.false_and]
end
