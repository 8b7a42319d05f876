/-- a private method of a class that the tables say can be made, by its rows of tables_1 -/
def lw_okq (q : MethodName × Nat) : Prop := (q.1.cls ≠ "java/lang/invoke/MethodHandle" ∧ q.1.cls ≠ "java/lang/invoke/VarHandle") ∧ Cond.instantiable q.1.cls q.2 ∈ tables_1 ∧ Cond.privateMethod q.1 ∈ tables_1 ∧ Cond.instanceMethod q.1 ∈ tables_1
theorem lw_p0 : lw_okq (⟨"PostProofs$Trial", "stillStands", "(I)Z"⟩, 7) := ⟨⟨by decide +kernel, by decide +kernel⟩, List.mem_of_getElem? (i := 52) (by decide +kernel), List.mem_of_getElem? (i := 214) (by decide +kernel), List.mem_of_getElem? (i := 215) (by decide +kernel)⟩
theorem lw_p1 : lw_okq (⟨"PostProofs$Prover", "findsLeaders", "()Z"⟩, 3) := ⟨⟨by decide +kernel, by decide +kernel⟩, List.mem_of_getElem? (i := 85) (by decide +kernel), List.mem_of_getElem? (i := 247) (by decide +kernel), List.mem_of_getElem? (i := 248) (by decide +kernel)⟩
theorem lw_p2 : lw_okq (⟨"PostProofs$Net", "nearAny", "(I)I"⟩, 4) := ⟨⟨by decide +kernel, by decide +kernel⟩, List.mem_of_getElem? (i := 21) (by decide +kernel), List.mem_of_getElem? (i := 256) (by decide +kernel), List.mem_of_getElem? (i := 257) (by decide +kernel)⟩
theorem lw_p3 : lw_okq (⟨"PostProofs$Prover", "numberFrom", "(II)V"⟩, 3) := ⟨⟨by decide +kernel, by decide +kernel⟩, List.mem_of_getElem? (i := 85) (by decide +kernel), List.mem_of_getElem? (i := 261) (by decide +kernel), List.mem_of_getElem? (i := 262) (by decide +kernel)⟩
theorem lw_p4 : lw_okq (⟨"PostProofs$Prover", "allScattered", "()Z"⟩, 3) := ⟨⟨by decide +kernel, by decide +kernel⟩, List.mem_of_getElem? (i := 85) (by decide +kernel), List.mem_of_getElem? (i := 265) (by decide +kernel), List.mem_of_getElem? (i := 266) (by decide +kernel)⟩
theorem lw_p5 : lw_okq (⟨"PostProofs$Prover", "findsNoRings", "()Z"⟩, 3) := ⟨⟨by decide +kernel, by decide +kernel⟩, List.mem_of_getElem? (i := 85) (by decide +kernel), List.mem_of_getElem? (i := 270) (by decide +kernel), List.mem_of_getElem? (i := 271) (by decide +kernel)⟩
theorem lw_p6 : lw_okq (⟨"PostProofs", "tryRefusal", "(I)I"⟩, 8) := ⟨⟨by decide +kernel, by decide +kernel⟩, List.mem_of_getElem? (i := 13) (by decide +kernel), List.mem_of_getElem? (i := 319) (by decide +kernel), List.mem_of_getElem? (i := 320) (by decide +kernel)⟩
theorem lw_p7 : lw_okq (⟨"PostProofs$Mending", "rule", "([II)I"⟩, 6) := ⟨⟨by decide +kernel, by decide +kernel⟩, List.mem_of_getElem? (i := 102) (by decide +kernel), List.mem_of_getElem? (i := 361) (by decide +kernel), List.mem_of_getElem? (i := 362) (by decide +kernel)⟩
theorem lw_p8 : lw_okq (⟨"PostProofs$Mending", "leastRestless", "()I"⟩, 6) := ⟨⟨by decide +kernel, by decide +kernel⟩, List.mem_of_getElem? (i := 102) (by decide +kernel), List.mem_of_getElem? (i := 385) (by decide +kernel), List.mem_of_getElem? (i := 386) (by decide +kernel)⟩
theorem lw_p9 : lw_okq (⟨"PostProofs", "waysRefused", "()Z"⟩, 8) := ⟨⟨by decide +kernel, by decide +kernel⟩, List.mem_of_getElem? (i := 13) (by decide +kernel), List.mem_of_getElem? (i := 395) (by decide +kernel), List.mem_of_getElem? (i := 396) (by decide +kernel)⟩
theorem lw_p10 : lw_okq (⟨"PostProofs$Mending", "stateNow", "()I"⟩, 6) := ⟨⟨by decide +kernel, by decide +kernel⟩, List.mem_of_getElem? (i := 102) (by decide +kernel), List.mem_of_getElem? (i := 403) (by decide +kernel), List.mem_of_getElem? (i := 404) (by decide +kernel)⟩
theorem lw_p11 : lw_okq (⟨"PostProofs$Mending", "enter", "(II)V"⟩, 6) := ⟨⟨by decide +kernel, by decide +kernel⟩, List.mem_of_getElem? (i := 102) (by decide +kernel), List.mem_of_getElem? (i := 409) (by decide +kernel), List.mem_of_getElem? (i := 410) (by decide +kernel)⟩
theorem lw_p12 : lw_okq (⟨"PostProofs$Mending", "stateBehind", "(II)I"⟩, 6) := ⟨⟨by decide +kernel, by decide +kernel⟩, List.mem_of_getElem? (i := 102) (by decide +kernel), List.mem_of_getElem? (i := 415) (by decide +kernel), List.mem_of_getElem? (i := 416) (by decide +kernel)⟩
theorem lw_p13 : lw_okq (⟨"PostProofsModel", "isPost", "(I)Z"⟩, 12) := ⟨⟨by decide +kernel, by decide +kernel⟩, List.mem_of_getElem? (i := 442) (by decide +kernel), List.mem_of_getElem? (i := 497) (by decide +kernel), List.mem_of_getElem? (i := 498) (by decide +kernel)⟩
theorem lw_p14 : lw_okq (⟨"PostProofsModel", "claims", "()Z"⟩, 12) := ⟨⟨by decide +kernel, by decide +kernel⟩, List.mem_of_getElem? (i := 442) (by decide +kernel), List.mem_of_getElem? (i := 515) (by decide +kernel), List.mem_of_getElem? (i := 516) (by decide +kernel)⟩
theorem lw_p15 : lw_okq (⟨"PostProofsModel", "colours", "(I)Z"⟩, 12) := ⟨⟨by decide +kernel, by decide +kernel⟩, List.mem_of_getElem? (i := 442) (by decide +kernel), List.mem_of_getElem? (i := 519) (by decide +kernel), List.mem_of_getElem? (i := 520) (by decide +kernel)⟩
def lw_privs_1 : List (MethodName × Nat) := [(⟨"PostProofs$Trial", "stillStands", "(I)Z"⟩, 7), (⟨"PostProofs$Prover", "findsLeaders", "()Z"⟩, 3), (⟨"PostProofs$Net", "nearAny", "(I)I"⟩, 4), (⟨"PostProofs$Prover", "numberFrom", "(II)V"⟩, 3), (⟨"PostProofs$Prover", "allScattered", "()Z"⟩, 3), (⟨"PostProofs$Prover", "findsNoRings", "()Z"⟩, 3), (⟨"PostProofs", "tryRefusal", "(I)I"⟩, 8), (⟨"PostProofs$Mending", "rule", "([II)I"⟩, 6), (⟨"PostProofs$Mending", "leastRestless", "()I"⟩, 6), (⟨"PostProofs", "waysRefused", "()Z"⟩, 8), (⟨"PostProofs$Mending", "stateNow", "()I"⟩, 6), (⟨"PostProofs$Mending", "enter", "(II)V"⟩, 6), (⟨"PostProofs$Mending", "stateBehind", "(II)I"⟩, 6), (⟨"PostProofsModel", "isPost", "(I)Z"⟩, 12), (⟨"PostProofsModel", "claims", "()Z"⟩, 12), (⟨"PostProofsModel", "colours", "(I)Z"⟩, 12)]
theorem lw_r1 : ∀ q ∈ lw_privs_1, lw_okq q := List.forall_mem_cons.mpr ⟨lw_p0, List.forall_mem_cons.mpr ⟨lw_p1, List.forall_mem_cons.mpr ⟨lw_p2, List.forall_mem_cons.mpr ⟨lw_p3, List.forall_mem_cons.mpr ⟨lw_p4, List.forall_mem_cons.mpr ⟨lw_p5, List.forall_mem_cons.mpr ⟨lw_p6, List.forall_mem_cons.mpr ⟨lw_p7, List.forall_mem_cons.mpr ⟨lw_p8, List.forall_mem_cons.mpr ⟨lw_p9, List.forall_mem_cons.mpr ⟨lw_p10, List.forall_mem_cons.mpr ⟨lw_p11, List.forall_mem_cons.mpr ⟨lw_p12, List.forall_mem_cons.mpr ⟨lw_p13, List.forall_mem_cons.mpr ⟨lw_p14, List.forall_mem_cons.mpr ⟨lw_p15, fun _ h => absurd h List.not_mem_nil⟩⟩⟩⟩⟩⟩⟩⟩⟩⟩⟩⟩⟩⟩⟩⟩
theorem lw_p16 : lw_okq (⟨"PostProofsModel", "areNear", "(II)Z"⟩, 12) := ⟨⟨by decide +kernel, by decide +kernel⟩, List.mem_of_getElem? (i := 442) (by decide +kernel), List.mem_of_getElem? (i := 523) (by decide +kernel), List.mem_of_getElem? (i := 524) (by decide +kernel)⟩
theorem lw_p17 : lw_okq (⟨"PostProofsModel", "linesOf", "()I"⟩, 12) := ⟨⟨by decide +kernel, by decide +kernel⟩, List.mem_of_getElem? (i := 442) (by decide +kernel), List.mem_of_getElem? (i := 527) (by decide +kernel), List.mem_of_getElem? (i := 528) (by decide +kernel)⟩
theorem lw_p18 : lw_okq (⟨"PostProofsModel", "setsOf", "()I"⟩, 12) := ⟨⟨by decide +kernel, by decide +kernel⟩, List.mem_of_getElem? (i := 442) (by decide +kernel), List.mem_of_getElem? (i := 531) (by decide +kernel), List.mem_of_getElem? (i := 532) (by decide +kernel)⟩
theorem lw_p19 : lw_okq (⟨"PostProofsModel", "firstOf", "(I)I"⟩, 12) := ⟨⟨by decide +kernel, by decide +kernel⟩, List.mem_of_getElem? (i := 442) (by decide +kernel), List.mem_of_getElem? (i := 535) (by decide +kernel), List.mem_of_getElem? (i := 536) (by decide +kernel)⟩
theorem lw_p20 : lw_okq (⟨"PostProofsModel", "spread", "(I)V"⟩, 12) := ⟨⟨by decide +kernel, by decide +kernel⟩, List.mem_of_getElem? (i := 442) (by decide +kernel), List.mem_of_getElem? (i := 539) (by decide +kernel), List.mem_of_getElem? (i := 540) (by decide +kernel)⟩
theorem lw_p21 : lw_okq (⟨"PostProofsModel", "leaderOf", "(I)I"⟩, 12) := ⟨⟨by decide +kernel, by decide +kernel⟩, List.mem_of_getElem? (i := 442) (by decide +kernel), List.mem_of_getElem? (i := 543) (by decide +kernel), List.mem_of_getElem? (i := 544) (by decide +kernel)⟩
theorem lw_p22 : lw_okq (⟨"PostProofsModel", "isGood", "(I)Z"⟩, 12) := ⟨⟨by decide +kernel, by decide +kernel⟩, List.mem_of_getElem? (i := 442) (by decide +kernel), List.mem_of_getElem? (i := 547) (by decide +kernel), List.mem_of_getElem? (i := 548) (by decide +kernel)⟩
theorem lw_p23 : lw_okq (⟨"PostProofsModel", "hasAccepted", "(I)Z"⟩, 12) := ⟨⟨by decide +kernel, by decide +kernel⟩, List.mem_of_getElem? (i := 442) (by decide +kernel), List.mem_of_getElem? (i := 568) (by decide +kernel), List.mem_of_getElem? (i := 569) (by decide +kernel)⟩
theorem lw_p24 : lw_okq (⟨"PostProofsModel", "againstOf", "()I"⟩, 12) := ⟨⟨by decide +kernel, by decide +kernel⟩, List.mem_of_getElem? (i := 442) (by decide +kernel), List.mem_of_getElem? (i := 576) (by decide +kernel), List.mem_of_getElem? (i := 577) (by decide +kernel)⟩
theorem lw_p25 : lw_okq (⟨"PostProofsModel", "allOf", "(I)J"⟩, 12) := ⟨⟨by decide +kernel, by decide +kernel⟩, List.mem_of_getElem? (i := 442) (by decide +kernel), List.mem_of_getElem? (i := 589) (by decide +kernel), List.mem_of_getElem? (i := 590) (by decide +kernel)⟩
theorem lw_p26 : lw_okq (⟨"PostProofsModel", "layAside", "()V"⟩, 12) := ⟨⟨by decide +kernel, by decide +kernel⟩, List.mem_of_getElem? (i := 442) (by decide +kernel), List.mem_of_getElem? (i := 594) (by decide +kernel), List.mem_of_getElem? (i := 595) (by decide +kernel)⟩
theorem lw_p27 : lw_okq (⟨"PostProofsModel", "goThrough", "(II)I"⟩, 12) := ⟨⟨by decide +kernel, by decide +kernel⟩, List.mem_of_getElem? (i := 442) (by decide +kernel), List.mem_of_getElem? (i := 598) (by decide +kernel), List.mem_of_getElem? (i := 599) (by decide +kernel)⟩
theorem lw_p28 : lw_okq (⟨"PostProofsModel", "putBack", "()V"⟩, 12) := ⟨⟨by decide +kernel, by decide +kernel⟩, List.mem_of_getElem? (i := 442) (by decide +kernel), List.mem_of_getElem? (i := 602) (by decide +kernel), List.mem_of_getElem? (i := 603) (by decide +kernel)⟩
theorem lw_p29 : lw_okq (⟨"PostProofsModel", "restlessOf", "()I"⟩, 12) := ⟨⟨by decide +kernel, by decide +kernel⟩, List.mem_of_getElem? (i := 442) (by decide +kernel), List.mem_of_getElem? (i := 628) (by decide +kernel), List.mem_of_getElem? (i := 629) (by decide +kernel)⟩
theorem lw_p30 : lw_okq (⟨"PostProofsModel", "ruleOf", "(I)I"⟩, 12) := ⟨⟨by decide +kernel, by decide +kernel⟩, List.mem_of_getElem? (i := 442) (by decide +kernel), List.mem_of_getElem? (i := 632) (by decide +kernel), List.mem_of_getElem? (i := 633) (by decide +kernel)⟩
theorem lw_p31 : lw_okq (⟨"PostProofsModel", "findWay", "(Z)I"⟩, 12) := ⟨⟨by decide +kernel, by decide +kernel⟩, List.mem_of_getElem? (i := 442) (by decide +kernel), List.mem_of_getElem? (i := 648) (by decide +kernel), List.mem_of_getElem? (i := 649) (by decide +kernel)⟩
def lw_privs_2 : List (MethodName × Nat) := [(⟨"PostProofsModel", "areNear", "(II)Z"⟩, 12), (⟨"PostProofsModel", "linesOf", "()I"⟩, 12), (⟨"PostProofsModel", "setsOf", "()I"⟩, 12), (⟨"PostProofsModel", "firstOf", "(I)I"⟩, 12), (⟨"PostProofsModel", "spread", "(I)V"⟩, 12), (⟨"PostProofsModel", "leaderOf", "(I)I"⟩, 12), (⟨"PostProofsModel", "isGood", "(I)Z"⟩, 12), (⟨"PostProofsModel", "hasAccepted", "(I)Z"⟩, 12), (⟨"PostProofsModel", "againstOf", "()I"⟩, 12), (⟨"PostProofsModel", "allOf", "(I)J"⟩, 12), (⟨"PostProofsModel", "layAside", "()V"⟩, 12), (⟨"PostProofsModel", "goThrough", "(II)I"⟩, 12), (⟨"PostProofsModel", "putBack", "()V"⟩, 12), (⟨"PostProofsModel", "restlessOf", "()I"⟩, 12), (⟨"PostProofsModel", "ruleOf", "(I)I"⟩, 12), (⟨"PostProofsModel", "findWay", "(Z)I"⟩, 12)]
theorem lw_r2 : ∀ q ∈ lw_privs_2, lw_okq q := List.forall_mem_cons.mpr ⟨lw_p16, List.forall_mem_cons.mpr ⟨lw_p17, List.forall_mem_cons.mpr ⟨lw_p18, List.forall_mem_cons.mpr ⟨lw_p19, List.forall_mem_cons.mpr ⟨lw_p20, List.forall_mem_cons.mpr ⟨lw_p21, List.forall_mem_cons.mpr ⟨lw_p22, List.forall_mem_cons.mpr ⟨lw_p23, List.forall_mem_cons.mpr ⟨lw_p24, List.forall_mem_cons.mpr ⟨lw_p25, List.forall_mem_cons.mpr ⟨lw_p26, List.forall_mem_cons.mpr ⟨lw_p27, List.forall_mem_cons.mpr ⟨lw_p28, List.forall_mem_cons.mpr ⟨lw_p29, List.forall_mem_cons.mpr ⟨lw_p30, List.forall_mem_cons.mpr ⟨lw_p31, fun _ h => absurd h List.not_mem_nil⟩⟩⟩⟩⟩⟩⟩⟩⟩⟩⟩⟩⟩⟩⟩⟩
theorem lw_p32 : lw_okq (⟨"PostProofsModel", "stateOf", "()I"⟩, 12) := ⟨⟨by decide +kernel, by decide +kernel⟩, List.mem_of_getElem? (i := 442) (by decide +kernel), List.mem_of_getElem? (i := 652) (by decide +kernel), List.mem_of_getElem? (i := 653) (by decide +kernel)⟩
theorem lw_p33 : lw_okq (⟨"PostProofsModel", "setState", "(I)V"⟩, 12) := ⟨⟨by decide +kernel, by decide +kernel⟩, List.mem_of_getElem? (i := 442) (by decide +kernel), List.mem_of_getElem? (i := 656) (by decide +kernel), List.mem_of_getElem? (i := 657) (by decide +kernel)⟩
theorem lw_p34 : lw_okq (⟨"PostProofsModel", "step", "(IZ)I"⟩, 12) := ⟨⟨by decide +kernel, by decide +kernel⟩, List.mem_of_getElem? (i := 442) (by decide +kernel), List.mem_of_getElem? (i := 660) (by decide +kernel), List.mem_of_getElem? (i := 661) (by decide +kernel)⟩
def lw_privs_3 : List (MethodName × Nat) := [(⟨"PostProofsModel", "stateOf", "()I"⟩, 12), (⟨"PostProofsModel", "setState", "(I)V"⟩, 12), (⟨"PostProofsModel", "step", "(IZ)I"⟩, 12)]
theorem lw_r3 : ∀ q ∈ lw_privs_3, lw_okq q := List.forall_mem_cons.mpr ⟨lw_p32, List.forall_mem_cons.mpr ⟨lw_p33, List.forall_mem_cons.mpr ⟨lw_p34, fun _ h => absurd h List.not_mem_nil⟩⟩⟩
def lw_privs : List (MethodName × Nat) := lw_privs_1 ++ (lw_privs_2 ++ (lw_privs_3))
def lw_tbl : List Cond := k2_sels lw_privs ++ tables_1
theorem lw_privs_ok : ∀ q ∈ lw_privs, lw_okq q := by
  show ∀ q ∈ lw_privs_1 ++ (lw_privs_2 ++ (lw_privs_3)), lw_okq q
  exact List.forall_mem_append.mpr ⟨lw_r1, List.forall_mem_append.mpr ⟨lw_r2, lw_r3⟩⟩
def RX0 : String := "PostProofs$Judge"
def TX0 : u_T := fun k => match k with
  | _ => ("", "", "", false)
def tyX0 : Nat → FieldType := fun k => match k with
  | _ => .int
abbrev wsX00 : List Cond := u_ws RX0 TX0 0
theorem nmX0 : ∀ a, a < 0 → ∀ b, b < 0 → a ≠ b → (TX0 a).2.1 ≠ (TX0 b).2.1 := by decide +kernel
theorem tyX0_ok : ∀ k, k < 0 → parseFieldDescriptor (TX0 k).2.2.1 = some (tyX0 k) := by decide +kernel
abbrev cX0_saysYes : ByteArray := prog_2_method_2_code
def yX0_saysYes : MethodName := ⟨RX0, "saysYes", "(LPostProofs$Net;I[II)Z"⟩
abbrev cX0_suits : ByteArray := prog_2_method_3_code
def yX0_suits : MethodName := ⟨RX0, "suits", "(LPostProofs$Net;III)Z"⟩
abbrev cX0_nearWith : ByteArray := prog_2_method_4_code
def yX0_nearWith : MethodName := ⟨RX0, "nearWith", "(LPostProofs$Net;[III)I"⟩
abbrev cX0_followsLeader : ByteArray := prog_2_method_5_code
def yX0_followsLeader : MethodName := ⟨RX0, "followsLeader", "(LPostProofs$Net;[II)Z"⟩
abbrev cX0_isScattered : ByteArray := prog_2_method_6_code
def yX0_isScattered : MethodName := ⟨RX0, "isScattered", "(LPostProofs$Net;I)Z"⟩
abbrev cX0_hangsOnOne : ByteArray := prog_2_method_7_code
def yX0_hangsOnOne : MethodName := ⟨RX0, "hangsOnOne", "(LPostProofs$Net;[II)Z"⟩
def RX1 : String := "PostProofs$Mending"
def TX1 : u_T := fun k => match k with
  | 0 => ("PostProofs$Mending", "distances", "[I", true)
  | 1 => ("PostProofs$Mending", "net", "LPostProofs$Net;", true)
  | 2 => ("PostProofs$Mending", "tried", "[I", true)
  | 3 => ("PostProofs$Mending", "moves", "[I", true)
  | 4 => ("PostProofs$Mending", "looked", "[I", true)
  | _ => ("PostProofs$Mending", "trail", "[I", true)
def tyX1 : Nat → FieldType := fun k => match k with
  | 0 => .array .int
  | 1 => .object "PostProofs$Net"
  | 2 => .array .int
  | 3 => .array .int
  | 4 => .array .int
  | _ => .array .int
abbrev wsX10 : List Cond := u_ws RX1 TX1 6
theorem nmX1 : ∀ a, a < 6 → ∀ b, b < 6 → a ≠ b → (TX1 a).2.1 ≠ (TX1 b).2.1 := by decide +kernel
theorem tyX1_ok : ∀ k, k < 6 → parseFieldDescriptor (TX1 k).2.2.1 = some (tyX1 k) := by decide +kernel
abbrev cX1_init : ByteArray := prog_3_method_1_code
def yX1_init : MethodName := ⟨RX1, "<init>", "(LPostProofs$Net;)V"⟩
abbrev cX1_clear : ByteArray := prog_3_method_2_code
def yX1_clear : MethodName := ⟨RX1, "clear", "()V"⟩
abbrev cX1_isRestless : ByteArray := prog_3_method_3_code
def yX1_isRestless : MethodName := ⟨RX1, "isRestless", "(I)Z"⟩
abbrev cX1_obey : ByteArray := prog_3_method_4_code
def yX1_obey : MethodName := ⟨RX1, "obey", "(I)V"⟩
abbrev cX1_rule : ByteArray := prog_3_method_5_code
def yX1_rule : MethodName := ⟨RX1, "rule", "([II)I"⟩
abbrev cX1_settle : ByteArray := prog_3_method_6_code
def yX1_settle : MethodName := ⟨RX1, "settle", "()I"⟩
abbrev cX1_leastRestless : ByteArray := prog_3_method_7_code
def yX1_leastRestless : MethodName := ⟨RX1, "leastRestless", "()I"⟩
abbrev cX1_stateNow : ByteArray := prog_3_method_8_code
def yX1_stateNow : MethodName := ⟨RX1, "stateNow", "()I"⟩
abbrev cX1_stateBehind : ByteArray := prog_3_method_9_code
def yX1_stateBehind : MethodName := ⟨RX1, "stateBehind", "(II)I"⟩
abbrev cX1_longestWay : ByteArray := prog_3_method_10_code
def yX1_longestWay : MethodName := ⟨RX1, "longestWay", "()I"⟩
abbrev cX1_enter : ByteArray := prog_3_method_11_code
def yX1_enter : MethodName := ⟨RX1, "enter", "(II)V"⟩
abbrev cX1_shortestWay : ByteArray := prog_3_method_12_code
def yX1_shortestWay : MethodName := ⟨RX1, "shortestWay", "()I"⟩
def RX2 : String := "PostProofs$Net"
def TX2 : u_T := fun k => match k with
  | 0 => ("PostProofs$Net", "near", "[I", true)
  | 1 => ("PostProofs$Net", "marks", "[I", true)
  | 2 => ("PostProofs$Net", "away", "[I", true)
  | _ => ("PostProofs$Net", "size", "I", false)
def tyX2 : Nat → FieldType := fun k => match k with
  | 0 => .array .int
  | 1 => .array .int
  | 2 => .array .int
  | _ => .int
abbrev wsX20 : List Cond := u_ws RX2 TX2 4
theorem nmX2 : ∀ a, a < 4 → ∀ b, b < 4 → a ≠ b → (TX2 a).2.1 ≠ (TX2 b).2.1 := by decide +kernel
theorem tyX2_ok : ∀ k, k < 4 → parseFieldDescriptor (TX2 k).2.2.1 = some (tyX2 k) := by decide +kernel
abbrev cX2_init : ByteArray := prog_4_method_1_code
def yX2_init : MethodName := ⟨RX2, "<init>", "()V"⟩
abbrev cX2_clear : ByteArray := prog_4_method_2_code
def yX2_clear : MethodName := ⟨RX2, "clear", "(I)V"⟩
abbrev cX2_has : ByteArray := prog_4_method_3_code
def yX2_has : MethodName := ⟨RX2, "has", "(I)Z"⟩
abbrev cX2_joined : ByteArray := prog_4_method_4_code
def yX2_joined : MethodName := ⟨RX2, "joined", "(II)I"⟩
abbrev cX2_join : ByteArray := prog_4_method_5_code
def yX2_join : MethodName := ⟨RX2, "join", "(IIZ)V"⟩
abbrev cX2_lineCount : ByteArray := prog_4_method_6_code
def yX2_lineCount : MethodName := ⟨RX2, "lineCount", "()I"⟩
abbrev cX2_leaders : ByteArray := prog_4_method_7_code
def yX2_leaders : MethodName := ⟨RX2, "leaders", "()I"⟩
abbrev cX2_measure : ByteArray := prog_4_method_8_code
def yX2_measure : MethodName := ⟨RX2, "measure", "(I)I"⟩
abbrev cX2_nearAny : ByteArray := prog_4_method_9_code
def yX2_nearAny : MethodName := ⟨RX2, "nearAny", "(I)I"⟩
abbrev cX2_setCount : ByteArray := prog_4_method_10_code
def yX2_setCount : MethodName := ⟨RX2, "setCount", "()I"⟩
abbrev cX2_isLeast : ByteArray := prog_4_method_11_code
def yX2_isLeast : MethodName := ⟨RX2, "isLeast", "(II)Z"⟩
def RX3 : String := "PostProofs$Prover"
def TX3 : u_T := fun k => match k with
  | 0 => ("PostProofs$Prover", "numbers", "[I", true)
  | 1 => ("PostProofs$Prover", "net", "LPostProofs$Net;", true)
  | _ => ("PostProofs$Prover", "trial", "LPostProofs$Trial;", true)
def tyX3 : Nat → FieldType := fun k => match k with
  | 0 => .array .int
  | 1 => .object "PostProofs$Net"
  | _ => .object "PostProofs$Trial"
abbrev wsX30 : List Cond := u_ws RX3 TX3 3
theorem nmX3 : ∀ a, a < 3 → ∀ b, b < 3 → a ≠ b → (TX3 a).2.1 ≠ (TX3 b).2.1 := by decide +kernel
theorem tyX3_ok : ∀ k, k < 3 → parseFieldDescriptor (TX3 k).2.2.1 = some (tyX3 k) := by decide +kernel
abbrev cX3_init : ByteArray := prog_5_method_1_code
def yX3_init : MethodName := ⟨RX3, "<init>", "(LPostProofs$Net;LPostProofs$Trial;)V"⟩
abbrev cX3_finds : ByteArray := prog_5_method_2_code
def yX3_finds : MethodName := ⟨RX3, "finds", "(I)Z"⟩
abbrev cX3_findsLeaders : ByteArray := prog_5_method_3_code
def yX3_findsLeaders : MethodName := ⟨RX3, "findsLeaders", "()Z"⟩
abbrev cX3_allScattered : ByteArray := prog_5_method_4_code
def yX3_allScattered : MethodName := ⟨RX3, "allScattered", "()Z"⟩
abbrev cX3_findsNoRings : ByteArray := prog_5_method_5_code
def yX3_findsNoRings : MethodName := ⟨RX3, "findsNoRings", "()Z"⟩
abbrev cX3_numberFrom : ByteArray := prog_5_method_6_code
def yX3_numberFrom : MethodName := ⟨RX3, "numberFrom", "(II)V"⟩
def RX4 : String := "PostProofs$Trial"
def TX4 : u_T := fun k => match k with
  | 0 => ("PostProofs$Trial", "numbers", "[I", true)
  | 1 => ("PostProofs$Trial", "standing", "I", false)
  | 2 => ("PostProofs$Trial", "found", "Z", false)
  | 3 => ("PostProofs$Trial", "net", "LPostProofs$Net;", true)
  | 4 => ("PostProofs$Trial", "schemeTried", "I", false)
  | 5 => ("PostProofs$Trial", "below", "I", false)
  | _ => ("PostProofs$Trial", "wanted", "I", false)
def tyX4 : Nat → FieldType := fun k => match k with
  | 0 => .array .int
  | 1 => .int
  | 2 => .boolean
  | 3 => .object "PostProofs$Net"
  | 4 => .int
  | 5 => .int
  | _ => .int
abbrev wsX40 : List Cond := u_ws RX4 TX4 7
theorem nmX4 : ∀ a, a < 7 → ∀ b, b < 7 → a ≠ b → (TX4 a).2.1 ≠ (TX4 b).2.1 := by decide +kernel
theorem tyX4_ok : ∀ k, k < 7 → parseFieldDescriptor (TX4 k).2.2.1 = some (tyX4 k) := by decide +kernel
abbrev cX4_init : ByteArray := prog_6_method_1_code
def yX4_init : MethodName := ⟨RX4, "<init>", "(LPostProofs$Net;)V"⟩
abbrev cX4_search : ByteArray := prog_6_method_2_code
def yX4_search : MethodName := ⟨RX4, "search", "(III)V"⟩
abbrev cX4_place : ByteArray := prog_6_method_3_code
def yX4_place : MethodName := ⟨RX4, "place", "(LPostProofs$Trial;I)V"⟩
abbrev cX4_stillStands : ByteArray := prog_6_method_4_code
def yX4_stillStands : MethodName := ⟨RX4, "stillStands", "(I)Z"⟩
def RX5 : String := "PostProofs"
def TX5 : u_T := fun k => match k with
  | 0 => ("PostProofs", "net", "LPostProofs$Net;", true)
  | 1 => ("PostProofs", "trial", "LPostProofs$Trial;", true)
  | 2 => ("PostProofs", "prover", "LPostProofs$Prover;", true)
  | 3 => ("PostProofs", "mending", "LPostProofs$Mending;", true)
  | 4 => ("PostProofs", "proofNow", "[I", true)
  | 5 => ("PostProofs", "schemeNow", "I", false)
  | 6 => ("PostProofs", "triesDone", "I", false)
  | _ => ("PostProofs", "waysDone", "I", false)
def tyX5 : Nat → FieldType := fun k => match k with
  | 0 => .object "PostProofs$Net"
  | 1 => .object "PostProofs$Trial"
  | 2 => .object "PostProofs$Prover"
  | 3 => .object "PostProofs$Mending"
  | 4 => .array .int
  | 5 => .int
  | 6 => .int
  | _ => .int
abbrev wsX50 : List Cond := u_ws RX5 TX5 8
theorem nmX5 : ∀ a, a < 8 → ∀ b, b < 8 → a ≠ b → (TX5 a).2.1 ≠ (TX5 b).2.1 := by decide +kernel
theorem tyX5_ok : ∀ k, k < 8 → parseFieldDescriptor (TX5 k).2.2.1 = some (tyX5 k) := by decide +kernel
abbrev cX5_init : ByteArray := prog_1_method_1_code
def yX5_init : MethodName := ⟨RX5, "<init>", "()V"⟩
abbrev cX5_posts : ByteArray := prog_1_method_2_code
def yX5_posts : MethodName := ⟨RX5, "posts", "(I)I"⟩
abbrev cX5_line : ByteArray := prog_1_method_3_code
def yX5_line : MethodName := ⟨RX5, "line", "(IIZ)I"⟩
abbrev cX5_mark : ByteArray := prog_1_method_4_code
def yX5_mark : MethodName := ⟨RX5, "mark", "(II)I"⟩
abbrev cX5_scheme : ByteArray := prog_1_method_5_code
def yX5_scheme : MethodName := ⟨RX5, "scheme", "(I)I"⟩
abbrev cX5_holds : ByteArray := prog_1_method_6_code
def yX5_holds : MethodName := ⟨RX5, "holds", "()I"⟩
abbrev cX5_sets : ByteArray := prog_1_method_7_code
def yX5_sets : MethodName := ⟨RX5, "sets", "()I"⟩
abbrev cX5_far : ByteArray := prog_1_method_8_code
def yX5_far : MethodName := ⟨RX5, "far", "(II)I"⟩
abbrev cX5_proof : ByteArray := prog_1_method_9_code
def yX5_proof : MethodName := ⟨RX5, "proof", "(II)I"⟩
abbrev cX5_accepts : ByteArray := prog_1_method_10_code
def yX5_accepts : MethodName := ⟨RX5, "accepts", "(I)I"⟩
abbrev cX5_against : ByteArray := prog_1_method_11_code
def yX5_against : MethodName := ⟨RX5, "against", "()I"⟩
abbrev cX5_prove : ByteArray := prog_1_method_12_code
def yX5_prove : MethodName := ⟨RX5, "prove", "()I"⟩
abbrev cX5_tryAll : ByteArray := prog_1_method_13_code
def yX5_tryAll : MethodName := ⟨RX5, "tryAll", "(I)I"⟩
abbrev cX5_attempt : ByteArray := prog_1_method_14_code
def yX5_attempt : MethodName := ⟨RX5, "attempt", "(II)I"⟩
abbrev cX5_numbers : ByteArray := prog_1_method_15_code
def yX5_numbers : MethodName := ⟨RX5, "numbers", "()I"⟩
abbrev cX5_slip : ByteArray := prog_1_method_16_code
def yX5_slip : MethodName := ⟨RX5, "slip", "(II)J"⟩
abbrev cX5_distance : ByteArray := prog_1_method_17_code
def yX5_distance : MethodName := ⟨RX5, "distance", "(II)I"⟩
abbrev cX5_restless : ByteArray := prog_1_method_18_code
def yX5_restless : MethodName := ⟨RX5, "restless", "()I"⟩
abbrev cX5_move : ByteArray := prog_1_method_19_code
def yX5_move : MethodName := ⟨RX5, "move", "(I)I"⟩
abbrev cX5_mend : ByteArray := prog_1_method_20_code
def yX5_mend : MethodName := ⟨RX5, "mend", "()I"⟩
abbrev cX5_longest : ByteArray := prog_1_method_21_code
def yX5_longest : MethodName := ⟨RX5, "longest", "()I"⟩
abbrev cX5_shortest : ByteArray := prog_1_method_22_code
def yX5_shortest : MethodName := ⟨RX5, "shortest", "()I"⟩
abbrev cX5_count : ByteArray := prog_1_method_23_code
def yX5_count : MethodName := ⟨RX5, "count", "(I)I"⟩
abbrev cX5_digest : ByteArray := prog_1_method_24_code
def yX5_digest : MethodName := ⟨RX5, "digest", "()J"⟩
abbrev cX5_mix : ByteArray := prog_1_method_25_code
def yX5_mix : MethodName := ⟨RX5, "mix", "(JJ)J"⟩
abbrev cX5_tryRefusal : ByteArray := prog_1_method_26_code
def yX5_tryRefusal : MethodName := ⟨RX5, "tryRefusal", "(I)I"⟩
abbrev cX5_waysRefused : ByteArray := prog_1_method_27_code
def yX5_waysRefused : MethodName := ⟨RX5, "waysRefused", "()Z"⟩
abbrev cX5_power : ByteArray := prog_1_method_28_code
def yX5_power : MethodName := ⟨RX5, "power", "(JI)J"⟩
abbrev cX5_lowestBelow : ByteArray := prog_1_method_29_code
def yX5_lowestBelow : MethodName := ⟨RX5, "lowestBelow", "(I)I"⟩
def RX6 : String := "PostProofsModel"
def TX6 : u_T := fun k => match k with
  | 0 => ("PostProofsModel", "n", "I", false)
  | 1 => ("PostProofsModel", "lines", "[I", true)
  | 2 => ("PostProofsModel", "marks", "[I", true)
  | 3 => ("PostProofsModel", "proof", "[I", true)
  | 4 => ("PostProofsModel", "distance", "[I", true)
  | 5 => ("PostProofsModel", "scheme", "I", false)
  | 6 => ("PostProofsModel", "away", "[I", true)
  | 7 => ("PostProofsModel", "made", "[I", true)
  | 8 => ("PostProofsModel", "tried", "I", false)
  | 9 => ("PostProofsModel", "aside", "[I", true)
  | 10 => ("PostProofsModel", "ways", "[I", true)
  | _ => ("PostProofsModel", "looked", "I", false)
def tyX6 : Nat → FieldType := fun k => match k with
  | 0 => .int
  | 1 => .array .int
  | 2 => .array .int
  | 3 => .array .int
  | 4 => .array .int
  | 5 => .int
  | 6 => .array .int
  | 7 => .array .int
  | 8 => .int
  | 9 => .array .int
  | 10 => .array .int
  | _ => .int
abbrev wsX60 : List Cond := u_ws RX6 TX6 12
theorem nmX6 : ∀ a, a < 12 → ∀ b, b < 12 → a ≠ b → (TX6 a).2.1 ≠ (TX6 b).2.1 := by decide +kernel
theorem tyX6_ok : ∀ k, k < 12 → parseFieldDescriptor (TX6 k).2.2.1 = some (tyX6 k) := by decide +kernel
abbrev cX6_init : ByteArray := prog_8_method_1_code
def yX6_init : MethodName := ⟨RX6, "<init>", "()V"⟩
abbrev cX6_in : ByteArray := prog_8_method_2_code
def yX6_in : MethodName := ⟨RX6, "in", "(JJJ)Z"⟩
abbrev cX6_isPost : ByteArray := prog_8_method_3_code
def yX6_isPost : MethodName := ⟨RX6, "isPost", "(I)Z"⟩
abbrev cX6_posts : ByteArray := prog_8_method_4_code
def yX6_posts : MethodName := ⟨RX6, "posts", "(I)I"⟩
abbrev cX6_areNear : ByteArray := prog_8_method_5_code
def yX6_areNear : MethodName := ⟨RX6, "areNear", "(II)Z"⟩
abbrev cX6_line : ByteArray := prog_8_method_6_code
def yX6_line : MethodName := ⟨RX6, "line", "(IIZ)I"⟩
abbrev cX6_mark : ByteArray := prog_8_method_7_code
def yX6_mark : MethodName := ⟨RX6, "mark", "(II)I"⟩
abbrev cX6_scheme : ByteArray := prog_8_method_8_code
def yX6_scheme : MethodName := ⟨RX6, "scheme", "(I)I"⟩
abbrev cX6_spread : ByteArray := prog_8_method_9_code
def yX6_spread : MethodName := ⟨RX6, "spread", "(I)V"⟩
abbrev cX6_firstOf : ByteArray := prog_8_method_10_code
def yX6_firstOf : MethodName := ⟨RX6, "firstOf", "(I)I"⟩
abbrev cX6_setsOf : ByteArray := prog_8_method_11_code
def yX6_setsOf : MethodName := ⟨RX6, "setsOf", "()I"⟩
abbrev cX6_linesOf : ByteArray := prog_8_method_12_code
def yX6_linesOf : MethodName := ⟨RX6, "linesOf", "()I"⟩
abbrev cX6_leaderOf : ByteArray := prog_8_method_13_code
def yX6_leaderOf : MethodName := ⟨RX6, "leaderOf", "(I)I"⟩
abbrev cX6_colours : ByteArray := prog_8_method_14_code
def yX6_colours : MethodName := ⟨RX6, "colours", "(I)Z"⟩
abbrev cX6_isGood : ByteArray := prog_8_method_15_code
def yX6_isGood : MethodName := ⟨RX6, "isGood", "(I)Z"⟩
abbrev cX6_claims : ByteArray := prog_8_method_16_code
def yX6_claims : MethodName := ⟨RX6, "claims", "()Z"⟩
abbrev cX6_holds : ByteArray := prog_8_method_17_code
def yX6_holds : MethodName := ⟨RX6, "holds", "()I"⟩
abbrev cX6_sets : ByteArray := prog_8_method_18_code
def yX6_sets : MethodName := ⟨RX6, "sets", "()I"⟩
abbrev cX6_far : ByteArray := prog_8_method_19_code
def yX6_far : MethodName := ⟨RX6, "far", "(II)I"⟩
abbrev cX6_proof : ByteArray := prog_8_method_20_code
def yX6_proof : MethodName := ⟨RX6, "proof", "(II)I"⟩
abbrev cX6_hasAccepted : ByteArray := prog_8_method_21_code
def yX6_hasAccepted : MethodName := ⟨RX6, "hasAccepted", "(I)Z"⟩
abbrev cX6_accepts : ByteArray := prog_8_method_22_code
def yX6_accepts : MethodName := ⟨RX6, "accepts", "(I)I"⟩
abbrev cX6_againstOf : ByteArray := prog_8_method_23_code
def yX6_againstOf : MethodName := ⟨RX6, "againstOf", "()I"⟩
abbrev cX6_against : ByteArray := prog_8_method_24_code
def yX6_against : MethodName := ⟨RX6, "against", "()I"⟩
abbrev cX6_prove : ByteArray := prog_8_method_25_code
def yX6_prove : MethodName := ⟨RX6, "prove", "()I"⟩
abbrev cX6_allOf : ByteArray := prog_8_method_26_code
def yX6_allOf : MethodName := ⟨RX6, "allOf", "(I)J"⟩
abbrev cX6_goThrough : ByteArray := prog_8_method_27_code
def yX6_goThrough : MethodName := ⟨RX6, "goThrough", "(II)I"⟩
abbrev cX6_layAside : ByteArray := prog_8_method_28_code
def yX6_layAside : MethodName := ⟨RX6, "layAside", "()V"⟩
abbrev cX6_putBack : ByteArray := prog_8_method_29_code
def yX6_putBack : MethodName := ⟨RX6, "putBack", "()V"⟩
abbrev cX6_tryAll : ByteArray := prog_8_method_30_code
def yX6_tryAll : MethodName := ⟨RX6, "tryAll", "(I)I"⟩
abbrev cX6_attempt : ByteArray := prog_8_method_31_code
def yX6_attempt : MethodName := ⟨RX6, "attempt", "(II)I"⟩
abbrev cX6_numbers : ByteArray := prog_8_method_32_code
def yX6_numbers : MethodName := ⟨RX6, "numbers", "()I"⟩
abbrev cX6_slip : ByteArray := prog_8_method_33_code
def yX6_slip : MethodName := ⟨RX6, "slip", "(II)J"⟩
abbrev cX6_distance : ByteArray := prog_8_method_34_code
def yX6_distance : MethodName := ⟨RX6, "distance", "(II)I"⟩
abbrev cX6_ruleOf : ByteArray := prog_8_method_35_code
def yX6_ruleOf : MethodName := ⟨RX6, "ruleOf", "(I)I"⟩
abbrev cX6_restlessOf : ByteArray := prog_8_method_36_code
def yX6_restlessOf : MethodName := ⟨RX6, "restlessOf", "()I"⟩
abbrev cX6_restless : ByteArray := prog_8_method_37_code
def yX6_restless : MethodName := ⟨RX6, "restless", "()I"⟩
abbrev cX6_move : ByteArray := prog_8_method_38_code
def yX6_move : MethodName := ⟨RX6, "move", "(I)I"⟩
abbrev cX6_mend : ByteArray := prog_8_method_39_code
def yX6_mend : MethodName := ⟨RX6, "mend", "()I"⟩
abbrev cX6_stateOf : ByteArray := prog_8_method_40_code
def yX6_stateOf : MethodName := ⟨RX6, "stateOf", "()I"⟩
abbrev cX6_setState : ByteArray := prog_8_method_41_code
def yX6_setState : MethodName := ⟨RX6, "setState", "(I)V"⟩
abbrev cX6_findWay : ByteArray := prog_8_method_42_code
def yX6_findWay : MethodName := ⟨RX6, "findWay", "(Z)I"⟩
abbrev cX6_step : ByteArray := prog_8_method_43_code
def yX6_step : MethodName := ⟨RX6, "step", "(IZ)I"⟩
abbrev cX6_longest : ByteArray := prog_8_method_44_code
def yX6_longest : MethodName := ⟨RX6, "longest", "()I"⟩
abbrev cX6_shortest : ByteArray := prog_8_method_45_code
def yX6_shortest : MethodName := ⟨RX6, "shortest", "()I"⟩
abbrev cX6_count : ByteArray := prog_8_method_46_code
def yX6_count : MethodName := ⟨RX6, "count", "(I)I"⟩
abbrev cX6_digest : ByteArray := prog_8_method_47_code
def yX6_digest : MethodName := ⟨RX6, "digest", "()J"⟩
def RJ6 : String := "java/lang/Integer"
def TJ6 : u_T := fun k => match k with
  | _ => ("", "", "", false)
def tyJ6 : Nat → FieldType := fun k => match k with
  | _ => .int
abbrev wsJ60 : List Cond := u_ws RJ6 TJ6 0
theorem nmJ6 : ∀ a, a < 0 → ∀ b, b < 0 → a ≠ b → (TJ6 a).2.1 ≠ (TJ6 b).2.1 := by decide +kernel
theorem tyJ6_ok : ∀ k, k < 0 → parseFieldDescriptor (TJ6 k).2.2.1 = some (tyJ6 k) := by decide +kernel
abbrev cJ6_bitCount_0f7a4 : ByteArray := prog_9_method_49_code
def yJ6_bitCount_0f7a4 : MethodName := ⟨RJ6, "bitCount", "(I)I"⟩
def RJ9 : String := "java/lang/Math"
def TJ9 : u_T := fun k => match k with
  | _ => ("", "", "", false)
def tyJ9 : Nat → FieldType := fun k => match k with
  | _ => .int
abbrev wsJ90 : List Cond := u_ws RJ9 TJ9 0
theorem nmJ9 : ∀ a, a < 0 → ∀ b, b < 0 → a ≠ b → (TJ9 a).2.1 ≠ (TJ9 b).2.1 := by decide +kernel
theorem tyJ9_ok : ∀ k, k < 0 → parseFieldDescriptor (TJ9 k).2.2.1 = some (tyJ9 k) := by decide +kernel
abbrev cJ9_max_7cf53 : ByteArray := prog_10_method_65_code
def yJ9_max_7cf53 : MethodName := ⟨RJ9, "max", "(II)I"⟩
abbrev cJ9_min_7cf53 : ByteArray := prog_10_method_69_code
def yJ9_min_7cf53 : MethodName := ⟨RJ9, "min", "(II)I"⟩
def RJ10 : String := "java/lang/System"
def TJ10 : u_T := fun k => match k with
  | _ => ("", "", "", false)
def tyJ10 : Nat → FieldType := fun k => match k with
  | _ => .int
abbrev wsJ100 : List Cond := u_ws RJ10 TJ10 0
theorem nmJ10 : ∀ a, a < 0 → ∀ b, b < 0 → a ≠ b → (TJ10 a).2.1 ≠ (TJ10 b).2.1 := by decide +kernel
theorem tyJ10_ok : ∀ k, k < 0 → parseFieldDescriptor (TJ10 k).2.2.1 = some (tyJ10 k) := by decide +kernel
def RJ7 : String := "java/util/Arrays"
def TJ7 : u_T := fun k => match k with
  | _ => ("", "", "", false)
def tyJ7 : Nat → FieldType := fun k => match k with
  | _ => .int
abbrev wsJ70 : List Cond := u_ws RJ7 TJ7 0
theorem nmJ7 : ∀ a, a < 0 → ∀ b, b < 0 → a ≠ b → (TJ7 a).2.1 ≠ (TJ7 b).2.1 := by decide +kernel
theorem tyJ7_ok : ∀ k, k < 0 → parseFieldDescriptor (TJ7 k).2.2.1 = some (tyJ7 k) := by decide +kernel
abbrev cJ7_fill_53178 : ByteArray := prog_12_method_103_code
def yJ7_fill_53178 : MethodName := ⟨RJ7, "fill", "([II)V"⟩
def RL : String := "PostProofsLaw"
abbrev cL_law : ByteArray := code
def yL_law : MethodName := ⟨RL, "law", "([I)Z"⟩
abbrev vwCl : List vw_C := [(RX1, TX1, 6), (RX2, TX2, 4), (RX3, TX3, 3), (RX4, TX4, 7), (RX5, TX5, 8), (RX6, TX6, 12)]
