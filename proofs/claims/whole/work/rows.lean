section
-- ===== PART A: goes FIRST, ahead of the names: the tables' words, and 'selects' of the private methods out of them =====
/-- a private method of a class that the tables say can be made, by its rows of tables_1 -/
def lw_okq (q : MethodName × Nat) : Prop := (q.1.cls ≠ "java/lang/invoke/MethodHandle" ∧ q.1.cls ≠ "java/lang/invoke/VarHandle") ∧ Cond.instantiable q.1.cls q.2 ∈ tables_1 ∧ Cond.privateMethod q.1 ∈ tables_1 ∧ Cond.instanceMethod q.1 ∈ tables_1
theorem lw_p0 : lw_okq (⟨"PipeForge$LineReader", "takes", "(I)Z"⟩, 4) := ⟨⟨by decide +kernel, by decide +kernel⟩, List.mem_of_getElem? (i := 29) (by decide +kernel), List.mem_of_getElem? (i := 280) (by decide +kernel), List.mem_of_getElem? (i := 281) (by decide +kernel)⟩
theorem lw_p1 : lw_okq (⟨"PipeForge$LineReader", "takesBreak", "()Z"⟩, 4) := ⟨⟨by decide +kernel, by decide +kernel⟩, List.mem_of_getElem? (i := 29) (by decide +kernel), List.mem_of_getElem? (i := 284) (by decide +kernel), List.mem_of_getElem? (i := 285) (by decide +kernel)⟩
theorem lw_p2 : lw_okq (⟨"PipeForge$LineReader", "puts", "(I)Z"⟩, 4) := ⟨⟨by decide +kernel, by decide +kernel⟩, List.mem_of_getElem? (i := 29) (by decide +kernel), List.mem_of_getElem? (i := 288) (by decide +kernel), List.mem_of_getElem? (i := 289) (by decide +kernel)⟩
theorem lw_p3 : lw_okq (⟨"PipeForge$Pipeline", "throwOutBehind", "(I)V"⟩, 12) := ⟨⟨by decide +kernel, by decide +kernel⟩, List.mem_of_getElem? (i := 130) (by decide +kernel), List.mem_of_getElem? (i := 356) (by decide +kernel), List.mem_of_getElem? (i := 357) (by decide +kernel)⟩
theorem lw_p4 : lw_okq (⟨"PipeForge$Pipeline", "step", "()V"⟩, 12) := ⟨⟨by decide +kernel, by decide +kernel⟩, List.mem_of_getElem? (i := 130) (by decide +kernel), List.mem_of_getElem? (i := 430) (by decide +kernel), List.mem_of_getElem? (i := 431) (by decide +kernel)⟩
theorem lw_p5 : lw_okq (⟨"PipeForge$Pipeline", "mayFire", "(I)Z"⟩, 12) := ⟨⟨by decide +kernel, by decide +kernel⟩, List.mem_of_getElem? (i := 130) (by decide +kernel), List.mem_of_getElem? (i := 443) (by decide +kernel), List.mem_of_getElem? (i := 444) (by decide +kernel)⟩
theorem lw_p6 : lw_okq (⟨"PipeForge$Pipeline", "isLast", "(I)Z"⟩, 12) := ⟨⟨by decide +kernel, by decide +kernel⟩, List.mem_of_getElem? (i := 130) (by decide +kernel), List.mem_of_getElem? (i := 447) (by decide +kernel), List.mem_of_getElem? (i := 448) (by decide +kernel)⟩
theorem lw_p7 : lw_okq (⟨"PipeForge$Pipeline", "mayRead", "(ILPipeForge$Instruction;)Z"⟩, 12) := ⟨⟨by decide +kernel, by decide +kernel⟩, List.mem_of_getElem? (i := 130) (by decide +kernel), List.mem_of_getElem? (i := 463) (by decide +kernel), List.mem_of_getElem? (i := 464) (by decide +kernel)⟩
theorem lw_p8 : lw_okq (⟨"PipeForge$Pipeline", "isReady", "(II)Z"⟩, 12) := ⟨⟨by decide +kernel, by decide +kernel⟩, List.mem_of_getElem? (i := 130) (by decide +kernel), List.mem_of_getElem? (i := 475) (by decide +kernel), List.mem_of_getElem? (i := 476) (by decide +kernel)⟩
theorem lw_p9 : lw_okq (⟨"PipeForge$Pipeline", "writerAhead", "(II)I"⟩, 12) := ⟨⟨by decide +kernel, by decide +kernel⟩, List.mem_of_getElem? (i := 130) (by decide +kernel), List.mem_of_getElem? (i := 479) (by decide +kernel), List.mem_of_getElem? (i := 480) (by decide +kernel)⟩
theorem lw_p10 : lw_okq (⟨"PipeForge$Pipeline", "isStoreAhead", "(I)Z"⟩, 12) := ⟨⟨by decide +kernel, by decide +kernel⟩, List.mem_of_getElem? (i := 130) (by decide +kernel), List.mem_of_getElem? (i := 509) (by decide +kernel), List.mem_of_getElem? (i := 510) (by decide +kernel)⟩
theorem lw_p11 : lw_okq (⟨"PipeForge$Pipeline", "fire", "(I)V"⟩, 12) := ⟨⟨by decide +kernel, by decide +kernel⟩, List.mem_of_getElem? (i := 130) (by decide +kernel), List.mem_of_getElem? (i := 533) (by decide +kernel), List.mem_of_getElem? (i := 534) (by decide +kernel)⟩
theorem lw_p12 : lw_okq (⟨"PipeForge$Pipeline", "read", "(ILPipeForge$LineThread;)V"⟩, 12) := ⟨⟨by decide +kernel, by decide +kernel⟩, List.mem_of_getElem? (i := 130) (by decide +kernel), List.mem_of_getElem? (i := 537) (by decide +kernel), List.mem_of_getElem? (i := 538) (by decide +kernel)⟩
theorem lw_p13 : lw_okq (⟨"PipeForge$Pipeline", "valueFor", "(II)I"⟩, 12) := ⟨⟨by decide +kernel, by decide +kernel⟩, List.mem_of_getElem? (i := 130) (by decide +kernel), List.mem_of_getElem? (i := 541) (by decide +kernel), List.mem_of_getElem? (i := 542) (by decide +kernel)⟩
theorem lw_p14 : lw_okq (⟨"PipeForge$Pipeline", "finish", "(LPipeForge$LineThread;)V"⟩, 12) := ⟨⟨by decide +kernel, by decide +kernel⟩, List.mem_of_getElem? (i := 130) (by decide +kernel), List.mem_of_getElem? (i := 602) (by decide +kernel), List.mem_of_getElem? (i := 603) (by decide +kernel)⟩
theorem lw_p15 : lw_okq (⟨"PipeForge$Pipeline", "moveOn", "(I)V"⟩, 12) := ⟨⟨by decide +kernel, by decide +kernel⟩, List.mem_of_getElem? (i := 130) (by decide +kernel), List.mem_of_getElem? (i := 634) (by decide +kernel), List.mem_of_getElem? (i := 635) (by decide +kernel)⟩
def lw_privs_1 : List (MethodName × Nat) := [(⟨"PipeForge$LineReader", "takes", "(I)Z"⟩, 4), (⟨"PipeForge$LineReader", "takesBreak", "()Z"⟩, 4), (⟨"PipeForge$LineReader", "puts", "(I)Z"⟩, 4), (⟨"PipeForge$Pipeline", "throwOutBehind", "(I)V"⟩, 12), (⟨"PipeForge$Pipeline", "step", "()V"⟩, 12), (⟨"PipeForge$Pipeline", "mayFire", "(I)Z"⟩, 12), (⟨"PipeForge$Pipeline", "isLast", "(I)Z"⟩, 12), (⟨"PipeForge$Pipeline", "mayRead", "(ILPipeForge$Instruction;)Z"⟩, 12), (⟨"PipeForge$Pipeline", "isReady", "(II)Z"⟩, 12), (⟨"PipeForge$Pipeline", "writerAhead", "(II)I"⟩, 12), (⟨"PipeForge$Pipeline", "isStoreAhead", "(I)Z"⟩, 12), (⟨"PipeForge$Pipeline", "fire", "(I)V"⟩, 12), (⟨"PipeForge$Pipeline", "read", "(ILPipeForge$LineThread;)V"⟩, 12), (⟨"PipeForge$Pipeline", "valueFor", "(II)I"⟩, 12), (⟨"PipeForge$Pipeline", "finish", "(LPipeForge$LineThread;)V"⟩, 12), (⟨"PipeForge$Pipeline", "moveOn", "(I)V"⟩, 12)]
theorem lw_r1 : ∀ q ∈ lw_privs_1, lw_okq q := List.forall_mem_cons.mpr ⟨lw_p0, List.forall_mem_cons.mpr ⟨lw_p1, List.forall_mem_cons.mpr ⟨lw_p2, List.forall_mem_cons.mpr ⟨lw_p3, List.forall_mem_cons.mpr ⟨lw_p4, List.forall_mem_cons.mpr ⟨lw_p5, List.forall_mem_cons.mpr ⟨lw_p6, List.forall_mem_cons.mpr ⟨lw_p7, List.forall_mem_cons.mpr ⟨lw_p8, List.forall_mem_cons.mpr ⟨lw_p9, List.forall_mem_cons.mpr ⟨lw_p10, List.forall_mem_cons.mpr ⟨lw_p11, List.forall_mem_cons.mpr ⟨lw_p12, List.forall_mem_cons.mpr ⟨lw_p13, List.forall_mem_cons.mpr ⟨lw_p14, List.forall_mem_cons.mpr ⟨lw_p15, fun _ h => absurd h List.not_mem_nil⟩⟩⟩⟩⟩⟩⟩⟩⟩⟩⟩⟩⟩⟩⟩⟩
theorem lw_p16 : lw_okq (⟨"PipeForge$OneByOne", "commitsAs", "(LPipeForge$CommitLog;ILPipeForge$Instruction;II)Z"⟩, 3) := ⟨⟨by decide +kernel, by decide +kernel⟩, List.mem_of_getElem? (i := 219) (by decide +kernel), List.mem_of_getElem? (i := 712) (by decide +kernel), List.mem_of_getElem? (i := 713) (by decide +kernel)⟩
theorem lw_p17 : lw_okq (⟨"PipeForgeModel", "anew", "()V"⟩, 36) := ⟨⟨by decide +kernel, by decide +kernel⟩, List.mem_of_getElem? (i := 737) (by decide +kernel), List.mem_of_getElem? (i := 743) (by decide +kernel), List.mem_of_getElem? (i := 744) (by decide +kernel)⟩
theorem lw_p18 : lw_okq (⟨"PipeForgeModel", "oneCycle", "()V"⟩, 36) := ⟨⟨by decide +kernel, by decide +kernel⟩, List.mem_of_getElem? (i := 737) (by decide +kernel), List.mem_of_getElem? (i := 887) (by decide +kernel), List.mem_of_getElem? (i := 888) (by decide +kernel)⟩
theorem lw_p19 : lw_okq (⟨"PipeForgeModel", "fires", "(I)Z"⟩, 36) := ⟨⟨by decide +kernel, by decide +kernel⟩, List.mem_of_getElem? (i := 737) (by decide +kernel), List.mem_of_getElem? (i := 891) (by decide +kernel), List.mem_of_getElem? (i := 892) (by decide +kernel)⟩
theorem lw_p20 : lw_okq (⟨"PipeForgeModel", "kindOf", "(I)I"⟩, 36) := ⟨⟨by decide +kernel, by decide +kernel⟩, List.mem_of_getElem? (i := 737) (by decide +kernel), List.mem_of_getElem? (i := 895) (by decide +kernel), List.mem_of_getElem? (i := 896) (by decide +kernel)⟩
theorem lw_p21 : lw_okq (⟨"PipeForgeModel", "isReady", "(II)Z"⟩, 36) := ⟨⟨by decide +kernel, by decide +kernel⟩, List.mem_of_getElem? (i := 737) (by decide +kernel), List.mem_of_getElem? (i := 902) (by decide +kernel), List.mem_of_getElem? (i := 903) (by decide +kernel)⟩
theorem lw_p22 : lw_okq (⟨"PipeForgeModel", "giver", "(II)I"⟩, 36) := ⟨⟨by decide +kernel, by decide +kernel⟩, List.mem_of_getElem? (i := 737) (by decide +kernel), List.mem_of_getElem? (i := 906) (by decide +kernel), List.mem_of_getElem? (i := 907) (by decide +kernel)⟩
theorem lw_p23 : lw_okq (⟨"PipeForgeModel", "commitsRegister", "(II)Z"⟩, 36) := ⟨⟨by decide +kernel, by decide +kernel⟩, List.mem_of_getElem? (i := 737) (by decide +kernel), List.mem_of_getElem? (i := 910) (by decide +kernel), List.mem_of_getElem? (i := 911) (by decide +kernel)⟩
theorem lw_p24 : lw_okq (⟨"PipeForgeModel", "hasOlderStore", "(I)Z"⟩, 36) := ⟨⟨by decide +kernel, by decide +kernel⟩, List.mem_of_getElem? (i := 737) (by decide +kernel), List.mem_of_getElem? (i := 917) (by decide +kernel), List.mem_of_getElem? (i := 918) (by decide +kernel)⟩
theorem lw_p25 : lw_okq (⟨"PipeForgeModel", "placeOf", "(I)I"⟩, 36) := ⟨⟨by decide +kernel, by decide +kernel⟩, List.mem_of_getElem? (i := 737) (by decide +kernel), List.mem_of_getElem? (i := 921) (by decide +kernel), List.mem_of_getElem? (i := 922) (by decide +kernel)⟩
theorem lw_p26 : lw_okq (⟨"PipeForgeModel", "fire", "(I)V"⟩, 36) := ⟨⟨by decide +kernel, by decide +kernel⟩, List.mem_of_getElem? (i := 737) (by decide +kernel), List.mem_of_getElem? (i := 925) (by decide +kernel), List.mem_of_getElem? (i := 926) (by decide +kernel)⟩
theorem lw_p27 : lw_okq (⟨"PipeForgeModel", "read", "(II)I"⟩, 36) := ⟨⟨by decide +kernel, by decide +kernel⟩, List.mem_of_getElem? (i := 737) (by decide +kernel), List.mem_of_getElem? (i := 929) (by decide +kernel), List.mem_of_getElem? (i := 930) (by decide +kernel)⟩
theorem lw_p28 : lw_okq (⟨"PipeForgeModel", "workOut", "(III)V"⟩, 36) := ⟨⟨by decide +kernel, by decide +kernel⟩, List.mem_of_getElem? (i := 737) (by decide +kernel), List.mem_of_getElem? (i := 933) (by decide +kernel), List.mem_of_getElem? (i := 934) (by decide +kernel)⟩
theorem lw_p29 : lw_okq (⟨"PipeForgeModel", "commitAll", "(III)V"⟩, 36) := ⟨⟨by decide +kernel, by decide +kernel⟩, List.mem_of_getElem? (i := 737) (by decide +kernel), List.mem_of_getElem? (i := 937) (by decide +kernel), List.mem_of_getElem? (i := 938) (by decide +kernel)⟩
theorem lw_p30 : lw_okq (⟨"PipeForgeModel", "commitOne", "(III)V"⟩, 36) := ⟨⟨by decide +kernel, by decide +kernel⟩, List.mem_of_getElem? (i := 737) (by decide +kernel), List.mem_of_getElem? (i := 941) (by decide +kernel), List.mem_of_getElem? (i := 942) (by decide +kernel)⟩
def lw_privs_2 : List (MethodName × Nat) := [(⟨"PipeForge$OneByOne", "commitsAs", "(LPipeForge$CommitLog;ILPipeForge$Instruction;II)Z"⟩, 3), (⟨"PipeForgeModel", "anew", "()V"⟩, 36), (⟨"PipeForgeModel", "oneCycle", "()V"⟩, 36), (⟨"PipeForgeModel", "fires", "(I)Z"⟩, 36), (⟨"PipeForgeModel", "kindOf", "(I)I"⟩, 36), (⟨"PipeForgeModel", "isReady", "(II)Z"⟩, 36), (⟨"PipeForgeModel", "giver", "(II)I"⟩, 36), (⟨"PipeForgeModel", "commitsRegister", "(II)Z"⟩, 36), (⟨"PipeForgeModel", "hasOlderStore", "(I)Z"⟩, 36), (⟨"PipeForgeModel", "placeOf", "(I)I"⟩, 36), (⟨"PipeForgeModel", "fire", "(I)V"⟩, 36), (⟨"PipeForgeModel", "read", "(II)I"⟩, 36), (⟨"PipeForgeModel", "workOut", "(III)V"⟩, 36), (⟨"PipeForgeModel", "commitAll", "(III)V"⟩, 36), (⟨"PipeForgeModel", "commitOne", "(III)V"⟩, 36)]
theorem lw_r2 : ∀ q ∈ lw_privs_2, lw_okq q := List.forall_mem_cons.mpr ⟨lw_p16, List.forall_mem_cons.mpr ⟨lw_p17, List.forall_mem_cons.mpr ⟨lw_p18, List.forall_mem_cons.mpr ⟨lw_p19, List.forall_mem_cons.mpr ⟨lw_p20, List.forall_mem_cons.mpr ⟨lw_p21, List.forall_mem_cons.mpr ⟨lw_p22, List.forall_mem_cons.mpr ⟨lw_p23, List.forall_mem_cons.mpr ⟨lw_p24, List.forall_mem_cons.mpr ⟨lw_p25, List.forall_mem_cons.mpr ⟨lw_p26, List.forall_mem_cons.mpr ⟨lw_p27, List.forall_mem_cons.mpr ⟨lw_p28, List.forall_mem_cons.mpr ⟨lw_p29, List.forall_mem_cons.mpr ⟨lw_p30, fun _ h => absurd h List.not_mem_nil⟩⟩⟩⟩⟩⟩⟩⟩⟩⟩⟩⟩⟩⟩⟩
def lw_privs : List (MethodName × Nat) := lw_privs_1 ++ (lw_privs_2)
def lw_tbl : List Cond := k2_sels lw_privs ++ tables_1
theorem lw_privs_ok : ∀ q ∈ lw_privs, lw_okq q := by
  show ∀ q ∈ lw_privs_1 ++ (lw_privs_2), lw_okq q
  exact List.forall_mem_append.mpr ⟨lw_r1, lw_r2⟩
end
section
def RX0 : String := "PipeForge$CommitLog"
def TX0 : u_T := fun k => match k with
  | 0 => ("PipeForge$CommitLog", "parts", "[I", true)
  | 1 => ("PipeForge$CommitLog", "kept", "I", false)
  | _ => ("PipeForge$CommitLog", "count", "I", false)
def tyX0 : Nat → FieldType := fun k => match k with
  | 0 => .array .int
  | 1 => .int
  | _ => .int
theorem nmX0 : ∀ a, a < 3 → ∀ b, b < 3 → a ≠ b → (TX0 a).2.1 ≠ (TX0 b).2.1 := by decide +kernel
theorem tyX0_ok : ∀ k, k < 3 → parseFieldDescriptor (TX0 k).2.2.1 = some (tyX0 k) := by decide +kernel
abbrev cX0_init : ByteArray := prog_2_method_1_code
def yX0_init : MethodName := ⟨RX0, "<init>", "()V"⟩
abbrev cX0_clear : ByteArray := prog_2_method_2_code
def yX0_clear : MethodName := ⟨RX0, "clear", "()V"⟩
abbrev cX0_add : ByteArray := prog_2_method_3_code
def yX0_add : MethodName := ⟨RX0, "add", "(IIII)V"⟩
abbrev cX0_total : ByteArray := prog_2_method_4_code
def yX0_total : MethodName := ⟨RX0, "total", "()I"⟩
abbrev cX0_size : ByteArray := prog_2_method_5_code
def yX0_size : MethodName := ⟨RX0, "size", "()I"⟩
abbrev cX0_part : ByteArray := prog_2_method_6_code
def yX0_part : MethodName := ⟨RX0, "part", "(II)I"⟩
abbrev cX0_holds : ByteArray := prog_2_method_7_code
def yX0_holds : MethodName := ⟨RX0, "holds", "(IIII)Z"⟩
def RX1 : String := "PipeForge$Holdings"
def TX1 : u_T := fun k => match k with
  | 0 => ("PipeForge$Holdings", "registers", "[I", true)
  | _ => ("PipeForge$Holdings", "places", "[I", true)
def tyX1 : Nat → FieldType := fun k => match k with
  | 0 => .array .int
  | _ => .array .int
theorem nmX1 : ∀ a, a < 2 → ∀ b, b < 2 → a ≠ b → (TX1 a).2.1 ≠ (TX1 b).2.1 := by decide +kernel
theorem tyX1_ok : ∀ k, k < 2 → parseFieldDescriptor (TX1 k).2.2.1 = some (tyX1 k) := by decide +kernel
abbrev cX1_init : ByteArray := prog_3_method_1_code
def yX1_init : MethodName := ⟨RX1, "<init>", "()V"⟩
abbrev cX1_reset : ByteArray := prog_3_method_2_code
def yX1_reset : MethodName := ⟨RX1, "reset", "(LPipeForge$Start;)V"⟩
abbrev cX1_inRegister : ByteArray := prog_3_method_3_code
def yX1_inRegister : MethodName := ⟨RX1, "inRegister", "(I)I"⟩
abbrev cX1_atPlace : ByteArray := prog_3_method_4_code
def yX1_atPlace : MethodName := ⟨RX1, "atPlace", "(I)I"⟩
abbrev cX1_take : ByteArray := prog_3_method_5_code
def yX1_take : MethodName := ⟨RX1, "take", "(LPipeForge$Instruction;II)V"⟩
def RX2 : String := "PipeForge$Instruction"
def TX2 : u_T := fun k => match k with
  | 0 => ("PipeForge$Instruction", "kind", "I", true)
  | 1 => ("PipeForge$Instruction", "d", "I", true)
  | 2 => ("PipeForge$Instruction", "a", "I", true)
  | 3 => ("PipeForge$Instruction", "b", "I", true)
  | _ => ("PipeForge$Instruction", "i", "I", true)
def tyX2 : Nat → FieldType := fun k => match k with
  | 0 => .int
  | 1 => .int
  | 2 => .int
  | 3 => .int
  | _ => .int
theorem nmX2 : ∀ a, a < 5 → ∀ b, b < 5 → a ≠ b → (TX2 a).2.1 ≠ (TX2 b).2.1 := by decide +kernel
theorem tyX2_ok : ∀ k, k < 5 → parseFieldDescriptor (TX2 k).2.2.1 = some (tyX2 k) := by decide +kernel
abbrev cX2_init : ByteArray := prog_4_method_1_code
def yX2_init : MethodName := ⟨RX2, "<init>", "(IIIII)V"⟩
abbrev cX2_kind : ByteArray := prog_4_method_2_code
def yX2_kind : MethodName := ⟨RX2, "kind", "()I"⟩
abbrev cX2_left : ByteArray := prog_4_method_3_code
def yX2_left : MethodName := ⟨RX2, "left", "()I"⟩
abbrev cX2_right : ByteArray := prog_4_method_4_code
def yX2_right : MethodName := ⟨RX2, "right", "()I"⟩
abbrev cX2_goal : ByteArray := prog_4_method_5_code
def yX2_goal : MethodName := ⟨RX2, "goal", "()I"⟩
abbrev cX2_readsLeft : ByteArray := prog_4_method_6_code
def yX2_readsLeft : MethodName := ⟨RX2, "readsLeft", "()Z"⟩
abbrev cX2_readsRight : ByteArray := prog_4_method_7_code
def yX2_readsRight : MethodName := ⟨RX2, "readsRight", "()Z"⟩
abbrev cX2_commitsRegister : ByteArray := prog_4_method_8_code
def yX2_commitsRegister : MethodName := ⟨RX2, "commitsRegister", "()Z"⟩
abbrev cX2_commitsTo : ByteArray := prog_4_method_9_code
def yX2_commitsTo : MethodName := ⟨RX2, "commitsTo", "(I)Z"⟩
abbrev cX2_commitsAnything : ByteArray := prog_4_method_10_code
def yX2_commitsAnything : MethodName := ⟨RX2, "commitsAnything", "()Z"⟩
abbrev cX2_commitKind : ByteArray := prog_4_method_11_code
def yX2_commitKind : MethodName := ⟨RX2, "commitKind", "()I"⟩
abbrev cX2_commitsWhere : ByteArray := prog_4_method_12_code
def yX2_commitsWhere : MethodName := ⟨RX2, "commitsWhere", "(I)I"⟩
abbrev cX2_placeFrom : ByteArray := prog_4_method_13_code
def yX2_placeFrom : MethodName := ⟨RX2, "placeFrom", "(I)I"⟩
abbrev cX2_workedOut : ByteArray := prog_4_method_14_code
def yX2_workedOut : MethodName := ⟨RX2, "workedOut", "(II)I"⟩
abbrev cX2_goesOn : ByteArray := prog_4_method_15_code
def yX2_goesOn : MethodName := ⟨RX2, "goesOn", "(II)Z"⟩
def RX3 : String := "PipeForge$Layout"
def TX3 : u_T := fun k => match k with
  | 0 => ("PipeForge$Layout", "stages", "[I", true)
  | _ => ("PipeForge$Layout", "count", "I", false)
def tyX3 : Nat → FieldType := fun k => match k with
  | 0 => .array .int
  | _ => .int
theorem nmX3 : ∀ a, a < 2 → ∀ b, b < 2 → a ≠ b → (TX3 a).2.1 ≠ (TX3 b).2.1 := by decide +kernel
theorem tyX3_ok : ∀ k, k < 2 → parseFieldDescriptor (TX3 k).2.2.1 = some (tyX3 k) := by decide +kernel
abbrev cX3_init : ByteArray := prog_5_method_1_code
def yX3_init : MethodName := ⟨RX3, "<init>", "()V"⟩
abbrev cX3_become : ByteArray := prog_5_method_2_code
def yX3_become : MethodName := ⟨RX3, "become", "([II)V"⟩
abbrev cX3_stageCount : ByteArray := prog_5_method_3_code
def yX3_stageCount : MethodName := ⟨RX3, "stageCount", "()I"⟩
abbrev cX3_stageOf : ByteArray := prog_5_method_4_code
def yX3_stageOf : MethodName := ⟨RX3, "stageOf", "(I)I"⟩
abbrev cX3_has : ByteArray := prog_5_method_5_code
def yX3_has : MethodName := ⟨RX3, "has", "(II)Z"⟩
abbrev cX3_givingStage : ByteArray := prog_5_method_6_code
def yX3_givingStage : MethodName := ⟨RX3, "givingStage", "(I)I"⟩
def RX4 : String := "PipeForge$LineReader"
def TX4 : u_T := fun k => match k with
  | 0 => ("PipeForge$LineReader", "found", "[I", true)
  | 1 => ("PipeForge$LineReader", "next", "I", false)
  | 2 => ("PipeForge$LineReader", "stage", "I", false)
  | _ => ("PipeForge$LineReader", "filled", "Z", false)
def tyX4 : Nat → FieldType := fun k => match k with
  | 0 => .array .int
  | 1 => .int
  | 2 => .int
  | _ => .boolean
theorem nmX4 : ∀ a, a < 4 → ∀ b, b < 4 → a ≠ b → (TX4 a).2.1 ≠ (TX4 b).2.1 := by decide +kernel
theorem tyX4_ok : ∀ k, k < 4 → parseFieldDescriptor (TX4 k).2.2.1 = some (tyX4 k) := by decide +kernel
abbrev cX4_init : ByteArray := prog_6_method_1_code
def yX4_init : MethodName := ⟨RX4, "<init>", "()V"⟩
abbrev cX4_firstWrong : ByteArray := prog_6_method_2_code
def yX4_firstWrong : MethodName := ⟨RX4, "firstWrong", "([II)I"⟩
abbrev cX4_writeTo : ByteArray := prog_6_method_3_code
def yX4_writeTo : MethodName := ⟨RX4, "writeTo", "(LPipeForge$Layout;)V"⟩
abbrev cX4_takes : ByteArray := prog_6_method_4_code
def yX4_takes : MethodName := ⟨RX4, "takes", "(I)Z"⟩
abbrev cX4_puts : ByteArray := prog_6_method_5_code
def yX4_puts : MethodName := ⟨RX4, "puts", "(I)Z"⟩
abbrev cX4_takesBreak : ByteArray := prog_6_method_6_code
def yX4_takesBreak : MethodName := ⟨RX4, "takesBreak", "()Z"⟩
def RX5 : String := "PipeForge$LineThread"
def TX5 : u_T := fun k => match k with
  | 0 => ("PipeForge$LineThread", "present", "Z", false)
  | 1 => ("PipeForge$LineThread", "row", "LPipeForge$Instruction;", false)
  | 2 => ("PipeForge$LineThread", "leftValue", "I", false)
  | 3 => ("PipeForge$LineThread", "rightValue", "I", false)
  | 4 => ("PipeForge$LineThread", "value", "I", false)
  | 5 => ("PipeForge$LineThread", "askedAt", "I", false)
  | _ => ("PipeForge$LineThread", "gaveAt", "I", false)
def tyX5 : Nat → FieldType := fun k => match k with
  | 0 => .boolean
  | 1 => .object "PipeForge$Instruction"
  | 2 => .int
  | 3 => .int
  | 4 => .int
  | 5 => .int
  | _ => .int
theorem nmX5 : ∀ a, a < 7 → ∀ b, b < 7 → a ≠ b → (TX5 a).2.1 ≠ (TX5 b).2.1 := by decide +kernel
theorem tyX5_ok : ∀ k, k < 7 → parseFieldDescriptor (TX5 k).2.2.1 = some (tyX5 k) := by decide +kernel
abbrev cX5_init : ByteArray := prog_7_method_1_code
def yX5_init : MethodName := ⟨RX5, "<init>", "(LPipeForge$Instruction;)V"⟩
abbrev cX5_come : ByteArray := prog_7_method_2_code
def yX5_come : MethodName := ⟨RX5, "come", "(LPipeForge$Instruction;)V"⟩
abbrev cX5_leave : ByteArray := prog_7_method_3_code
def yX5_leave : MethodName := ⟨RX5, "leave", "()V"⟩
abbrev cX5_isPresent : ByteArray := prog_7_method_4_code
def yX5_isPresent : MethodName := ⟨RX5, "isPresent", "()Z"⟩
abbrev cX5_instruction : ByteArray := prog_7_method_5_code
def yX5_instruction : MethodName := ⟨RX5, "instruction", "()LPipeForge$Instruction;"⟩
abbrev cX5_readLeft : ByteArray := prog_7_method_6_code
def yX5_readLeft : MethodName := ⟨RX5, "readLeft", "(I)V"⟩
abbrev cX5_readRight : ByteArray := prog_7_method_7_code
def yX5_readRight : MethodName := ⟨RX5, "readRight", "(I)V"⟩
abbrev cX5_workOut : ByteArray := prog_7_method_8_code
def yX5_workOut : MethodName := ⟨RX5, "workOut", "()V"⟩
abbrev cX5_goesOn : ByteArray := prog_7_method_9_code
def yX5_goesOn : MethodName := ⟨RX5, "goesOn", "()Z"⟩
abbrev cX5_asksPlace : ByteArray := prog_7_method_10_code
def yX5_asksPlace : MethodName := ⟨RX5, "asksPlace", "()I"⟩
abbrev cX5_ask : ByteArray := prog_7_method_11_code
def yX5_ask : MethodName := ⟨RX5, "ask", "(II)V"⟩
abbrev cX5_isAnswered : ByteArray := prog_7_method_12_code
def yX5_isAnswered : MethodName := ⟨RX5, "isAnswered", "(II)Z"⟩
abbrev cX5_give : ByteArray := prog_7_method_13_code
def yX5_give : MethodName := ⟨RX5, "give", "(I)V"⟩
abbrev cX5_gaveBefore : ByteArray := prog_7_method_14_code
def yX5_gaveBefore : MethodName := ⟨RX5, "gaveBefore", "(I)Z"⟩
abbrev cX5_worth : ByteArray := prog_7_method_15_code
def yX5_worth : MethodName := ⟨RX5, "worth", "()I"⟩
abbrev cX5_commitsWhere : ByteArray := prog_7_method_16_code
def yX5_commitsWhere : MethodName := ⟨RX5, "commitsWhere", "()I"⟩
def RX6 : String := "PipeForge$OneByOne"
def TX6 : u_T := fun k => match k with
  | 0 => ("PipeForge$OneByOne", "program", "LPipeForge$Program;", true)
  | 1 => ("PipeForge$OneByOne", "start", "LPipeForge$Start;", true)
  | _ => ("PipeForge$OneByOne", "holdings", "LPipeForge$Holdings;", true)
def tyX6 : Nat → FieldType := fun k => match k with
  | 0 => .object "PipeForge$Program"
  | 1 => .object "PipeForge$Start"
  | _ => .object "PipeForge$Holdings"
theorem nmX6 : ∀ a, a < 3 → ∀ b, b < 3 → a ≠ b → (TX6 a).2.1 ≠ (TX6 b).2.1 := by decide +kernel
theorem tyX6_ok : ∀ k, k < 3 → parseFieldDescriptor (TX6 k).2.2.1 = some (tyX6 k) := by decide +kernel
abbrev cX6_init : ByteArray := prog_8_method_1_code
def yX6_init : MethodName := ⟨RX6, "<init>", "(LPipeForge$Program;LPipeForge$Start;)V"⟩
abbrev cX6_agreesWith : ByteArray := prog_8_method_2_code
def yX6_agreesWith : MethodName := ⟨RX6, "agreesWith", "(LPipeForge$CommitLog;)Z"⟩
abbrev cX6_commitsAs : ByteArray := prog_8_method_3_code
def yX6_commitsAs : MethodName := ⟨RX6, "commitsAs", "(LPipeForge$CommitLog;ILPipeForge$Instruction;II)Z"⟩
def RX7 : String := "PipeForge$Pipeline"
def TX7 : u_T := fun k => match k with
  | 0 => ("PipeForge$Pipeline", "layout", "LPipeForge$Layout;", true)
  | 1 => ("PipeForge$Pipeline", "program", "LPipeForge$Program;", true)
  | 2 => ("PipeForge$Pipeline", "start", "LPipeForge$Start;", true)
  | 3 => ("PipeForge$Pipeline", "log", "LPipeForge$CommitLog;", true)
  | 4 => ("PipeForge$Pipeline", "holdings", "LPipeForge$Holdings;", true)
  | 5 => ("PipeForge$Pipeline", "threads", "[LPipeForge$LineThread;", true)
  | 6 => ("PipeForge$Pipeline", "committedAt", "[I", true)
  | 7 => ("PipeForge$Pipeline", "storedAt", "I", false)
  | 8 => ("PipeForge$Pipeline", "nextNumber", "I", false)
  | 9 => ("PipeForge$Pipeline", "cycle", "I", false)
  | 10 => ("PipeForge$Pipeline", "wentThrough", "I", false)
  | _ => ("PipeForge$Pipeline", "stopped", "Z", false)
def tyX7 : Nat → FieldType := fun k => match k with
  | 0 => .object "PipeForge$Layout"
  | 1 => .object "PipeForge$Program"
  | 2 => .object "PipeForge$Start"
  | 3 => .object "PipeForge$CommitLog"
  | 4 => .object "PipeForge$Holdings"
  | 5 => .array (.object "PipeForge$LineThread")
  | 6 => .array .int
  | 7 => .int
  | 8 => .int
  | 9 => .int
  | 10 => .int
  | _ => .boolean
theorem nmX7 : ∀ a, a < 12 → ∀ b, b < 12 → a ≠ b → (TX7 a).2.1 ≠ (TX7 b).2.1 := by decide +kernel
theorem tyX7_ok : ∀ k, k < 12 → parseFieldDescriptor (TX7 k).2.2.1 = some (tyX7 k) := by decide +kernel
abbrev cX7_init : ByteArray := prog_9_method_1_code
def yX7_init : MethodName := ⟨RX7, "<init>", "(LPipeForge$Layout;LPipeForge$Program;LPipeForge$Start;LPipeForge$CommitLog;)V"⟩
abbrev cX7_beginAnew : ByteArray := prog_9_method_2_code
def yX7_beginAnew : MethodName := ⟨RX7, "beginAnew", "()V"⟩
abbrev cX7_advance : ByteArray := prog_9_method_3_code
def yX7_advance : MethodName := ⟨RX7, "advance", "(I)V"⟩
abbrev cX7_reached : ByteArray := prog_9_method_4_code
def yX7_reached : MethodName := ⟨RX7, "reached", "()I"⟩
abbrev cX7_isEnded : ByteArray := prog_9_method_5_code
def yX7_isEnded : MethodName := ⟨RX7, "isEnded", "()Z"⟩
abbrev cX7_gone : ByteArray := prog_9_method_6_code
def yX7_gone : MethodName := ⟨RX7, "gone", "()I"⟩
abbrev cX7_holdings : ByteArray := prog_9_method_7_code
def yX7_holdings : MethodName := ⟨RX7, "holdings", "()LPipeForge$Holdings;"⟩
abbrev cX7_step : ByteArray := prog_9_method_8_code
def yX7_step : MethodName := ⟨RX7, "step", "()V"⟩
abbrev cX7_isLast : ByteArray := prog_9_method_9_code
def yX7_isLast : MethodName := ⟨RX7, "isLast", "(I)Z"⟩
abbrev cX7_mayFire : ByteArray := prog_9_method_10_code
def yX7_mayFire : MethodName := ⟨RX7, "mayFire", "(I)Z"⟩
abbrev cX7_mayRead : ByteArray := prog_9_method_11_code
def yX7_mayRead : MethodName := ⟨RX7, "mayRead", "(ILPipeForge$Instruction;)Z"⟩
abbrev cX7_isReady : ByteArray := prog_9_method_12_code
def yX7_isReady : MethodName := ⟨RX7, "isReady", "(II)Z"⟩
abbrev cX7_writerAhead : ByteArray := prog_9_method_13_code
def yX7_writerAhead : MethodName := ⟨RX7, "writerAhead", "(II)I"⟩
abbrev cX7_isStoreAhead : ByteArray := prog_9_method_14_code
def yX7_isStoreAhead : MethodName := ⟨RX7, "isStoreAhead", "(I)Z"⟩
abbrev cX7_fire : ByteArray := prog_9_method_15_code
def yX7_fire : MethodName := ⟨RX7, "fire", "(I)V"⟩
abbrev cX7_read : ByteArray := prog_9_method_16_code
def yX7_read : MethodName := ⟨RX7, "read", "(ILPipeForge$LineThread;)V"⟩
abbrev cX7_valueFor : ByteArray := prog_9_method_17_code
def yX7_valueFor : MethodName := ⟨RX7, "valueFor", "(II)I"⟩
abbrev cX7_throwOutBehind : ByteArray := prog_9_method_18_code
def yX7_throwOutBehind : MethodName := ⟨RX7, "throwOutBehind", "(I)V"⟩
abbrev cX7_finish : ByteArray := prog_9_method_19_code
def yX7_finish : MethodName := ⟨RX7, "finish", "(LPipeForge$LineThread;)V"⟩
abbrev cX7_moveOn : ByteArray := prog_9_method_20_code
def yX7_moveOn : MethodName := ⟨RX7, "moveOn", "(I)V"⟩
def RX8 : String := "PipeForge$Program"
def TX8 : u_T := fun k => match k with
  | 0 => ("PipeForge$Program", "rows", "[LPipeForge$Instruction;", true)
  | 1 => ("PipeForge$Program", "stop", "LPipeForge$Instruction;", true)
  | _ => ("PipeForge$Program", "count", "I", false)
def tyX8 : Nat → FieldType := fun k => match k with
  | 0 => .array (.object "PipeForge$Instruction")
  | 1 => .object "PipeForge$Instruction"
  | _ => .int
theorem nmX8 : ∀ a, a < 3 → ∀ b, b < 3 → a ≠ b → (TX8 a).2.1 ≠ (TX8 b).2.1 := by decide +kernel
theorem tyX8_ok : ∀ k, k < 3 → parseFieldDescriptor (TX8 k).2.2.1 = some (tyX8 k) := by decide +kernel
abbrev cX8_init : ByteArray := prog_10_method_1_code
def yX8_init : MethodName := ⟨RX8, "<init>", "()V"⟩
abbrev cX8_isFull : ByteArray := prog_10_method_2_code
def yX8_isFull : MethodName := ⟨RX8, "isFull", "()Z"⟩
abbrev cX8_add : ByteArray := prog_10_method_3_code
def yX8_add : MethodName := ⟨RX8, "add", "(LPipeForge$Instruction;)I"⟩
abbrev cX8_size : ByteArray := prog_10_method_4_code
def yX8_size : MethodName := ⟨RX8, "size", "()I"⟩
abbrev cX8_at : ByteArray := prog_10_method_5_code
def yX8_at : MethodName := ⟨RX8, "at", "(I)LPipeForge$Instruction;"⟩
def RX9 : String := "PipeForge$Start"
def TX9 : u_T := fun k => match k with
  | 0 => ("PipeForge$Start", "values", "[I", true)
  | _ => ("PipeForge$Start", "delays", "[I", true)
def tyX9 : Nat → FieldType := fun k => match k with
  | 0 => .array .int
  | _ => .array .int
theorem nmX9 : ∀ a, a < 2 → ∀ b, b < 2 → a ≠ b → (TX9 a).2.1 ≠ (TX9 b).2.1 := by decide +kernel
theorem tyX9_ok : ∀ k, k < 2 → parseFieldDescriptor (TX9 k).2.2.1 = some (tyX9 k) := by decide +kernel
abbrev cX9_init : ByteArray := prog_11_method_1_code
def yX9_init : MethodName := ⟨RX9, "<init>", "()V"⟩
abbrev cX9_tell : ByteArray := prog_11_method_2_code
def yX9_tell : MethodName := ⟨RX9, "tell", "(II)V"⟩
abbrev cX9_delay : ByteArray := prog_11_method_3_code
def yX9_delay : MethodName := ⟨RX9, "delay", "(II)V"⟩
abbrev cX9_delayOf : ByteArray := prog_11_method_4_code
def yX9_delayOf : MethodName := ⟨RX9, "delayOf", "(I)I"⟩
abbrev cX9_fill : ByteArray := prog_11_method_5_code
def yX9_fill : MethodName := ⟨RX9, "fill", "([I)V"⟩
def RX10 : String := "PipeForge"
def TX10 : u_T := fun k => match k with
  | 0 => ("PipeForge", "signs", "[I", true)
  | 1 => ("PipeForge", "signCount", "I", false)
  | 2 => ("PipeForge", "reader", "LPipeForge$LineReader;", true)
  | 3 => ("PipeForge", "layout", "LPipeForge$Layout;", true)
  | 4 => ("PipeForge", "program", "LPipeForge$Program;", true)
  | 5 => ("PipeForge", "start", "LPipeForge$Start;", true)
  | 6 => ("PipeForge", "log", "LPipeForge$CommitLog;", true)
  | 7 => ("PipeForge", "pipeline", "LPipeForge$Pipeline;", true)
  | _ => ("PipeForge", "oneByOne", "LPipeForge$OneByOne;", true)
def tyX10 : Nat → FieldType := fun k => match k with
  | 0 => .array .int
  | 1 => .int
  | 2 => .object "PipeForge$LineReader"
  | 3 => .object "PipeForge$Layout"
  | 4 => .object "PipeForge$Program"
  | 5 => .object "PipeForge$Start"
  | 6 => .object "PipeForge$CommitLog"
  | 7 => .object "PipeForge$Pipeline"
  | _ => .object "PipeForge$OneByOne"
theorem nmX10 : ∀ a, a < 9 → ∀ b, b < 9 → a ≠ b → (TX10 a).2.1 ≠ (TX10 b).2.1 := by decide +kernel
theorem tyX10_ok : ∀ k, k < 9 → parseFieldDescriptor (TX10 k).2.2.1 = some (tyX10 k) := by decide +kernel
abbrev cX10_init : ByteArray := prog_1_method_1_code
def yX10_init : MethodName := ⟨RX10, "<init>", "()V"⟩
abbrev cX10_unit : ByteArray := prog_1_method_2_code
def yX10_unit : MethodName := ⟨RX10, "unit", "(I)Z"⟩
abbrev cX10_line : ByteArray := prog_1_method_3_code
def yX10_line : MethodName := ⟨RX10, "line", "()I"⟩
abbrev cX10_code : ByteArray := prog_1_method_4_code
def yX10_code : MethodName := ⟨RX10, "code", "(IIIII)I"⟩
abbrev cX10_memory : ByteArray := prog_1_method_5_code
def yX10_memory : MethodName := ⟨RX10, "memory", "(II)Z"⟩
abbrev cX10_latency : ByteArray := prog_1_method_6_code
def yX10_latency : MethodName := ⟨RX10, "latency", "(II)Z"⟩
abbrev cX10_run : ByteArray := prog_1_method_7_code
def yX10_run : MethodName := ⟨RX10, "run", "(I)I"⟩
abbrev cX10_cycle : ByteArray := prog_1_method_8_code
def yX10_cycle : MethodName := ⟨RX10, "cycle", "()I"⟩
abbrev cX10_ended : ByteArray := prog_1_method_9_code
def yX10_ended : MethodName := ⟨RX10, "ended", "()Z"⟩
abbrev cX10_commits : ByteArray := prog_1_method_10_code
def yX10_commits : MethodName := ⟨RX10, "commits", "()I"⟩
abbrev cX10_commit : ByteArray := prog_1_method_11_code
def yX10_commit : MethodName := ⟨RX10, "commit", "(II)I"⟩
abbrev cX10_register : ByteArray := prog_1_method_12_code
def yX10_register : MethodName := ⟨RX10, "register", "(I)I"⟩
abbrev cX10_place : ByteArray := prog_1_method_13_code
def yX10_place : MethodName := ⟨RX10, "place", "(I)I"⟩
abbrev cX10_retired : ByteArray := prog_1_method_14_code
def yX10_retired : MethodName := ⟨RX10, "retired", "()I"⟩
abbrev cX10_faithful : ByteArray := prog_1_method_15_code
def yX10_faithful : MethodName := ⟨RX10, "faithful", "()Z"⟩
abbrev cX10_told : ByteArray := prog_1_method_16_code
def yX10_told : MethodName := ⟨RX10, "told", "(I)I"⟩
abbrev cX10_isRegister : ByteArray := prog_1_method_17_code
def yX10_isRegister : MethodName := ⟨RX10, "isRegister", "(I)Z"⟩
abbrev cX10_isPlace : ByteArray := prog_1_method_18_code
def yX10_isPlace : MethodName := ⟨RX10, "isPlace", "(I)Z"⟩
def RX11 : String := "PipeForgeModel"
def TX11 : u_T := fun k => match k with
  | 0 => ("PipeForgeModel", "text", "[I", true)
  | 1 => ("PipeForgeModel", "signs", "I", false)
  | 2 => ("PipeForgeModel", "stages", "I", false)
  | 3 => ("PipeForgeModel", "stageOf", "[I", true)
  | 4 => ("PipeForgeModel", "given", "I", false)
  | 5 => ("PipeForgeModel", "kinds", "[I", true)
  | 6 => ("PipeForgeModel", "ds", "[I", true)
  | 7 => ("PipeForgeModel", "as", "[I", true)
  | 8 => ("PipeForgeModel", "bs", "[I", true)
  | 9 => ("PipeForgeModel", "is", "[I", true)
  | 10 => ("PipeForgeModel", "size", "I", false)
  | 11 => ("PipeForgeModel", "base", "[I", true)
  | 12 => ("PipeForgeModel", "latencies", "[I", true)
  | 13 => ("PipeForgeModel", "threads", "[I", true)
  | 14 => ("PipeForgeModel", "has", "[Z", true)
  | 15 => ("PipeForgeModel", "oneValues", "[I", true)
  | 16 => ("PipeForgeModel", "twoValues", "[I", true)
  | 17 => ("PipeForgeModel", "results", "[I", true)
  | 18 => ("PipeForgeModel", "asked", "[I", true)
  | 19 => ("PipeForgeModel", "fired", "[I", true)
  | 20 => ("PipeForgeModel", "now", "I", false)
  | 21 => ("PipeForgeModel", "over", "Z", false)
  | 22 => ("PipeForgeModel", "next", "I", false)
  | 23 => ("PipeForgeModel", "gone", "I", false)
  | 24 => ("PipeForgeModel", "registers", "[I", true)
  | 25 => ("PipeForgeModel", "when", "[I", true)
  | 26 => ("PipeForgeModel", "cells", "[I", true)
  | 27 => ("PipeForgeModel", "stored", "Z", false)
  | 28 => ("PipeForgeModel", "commitKinds", "[I", true)
  | 29 => ("PipeForgeModel", "commitPlaces", "[I", true)
  | 30 => ("PipeForgeModel", "commitValues", "[I", true)
  | 31 => ("PipeForgeModel", "commitCycles", "[I", true)
  | 32 => ("PipeForgeModel", "commitCount", "I", false)
  | 33 => ("PipeForgeModel", "found", "[I", true)
  | 34 => ("PipeForgeModel", "plainRegisters", "[I", true)
  | _ => ("PipeForgeModel", "plainCells", "[I", true)
def tyX11 : Nat → FieldType := fun k => match k with
  | 0 => .array .int
  | 1 => .int
  | 2 => .int
  | 3 => .array .int
  | 4 => .int
  | 5 => .array .int
  | 6 => .array .int
  | 7 => .array .int
  | 8 => .array .int
  | 9 => .array .int
  | 10 => .int
  | 11 => .array .int
  | 12 => .array .int
  | 13 => .array .int
  | 14 => .array .boolean
  | 15 => .array .int
  | 16 => .array .int
  | 17 => .array .int
  | 18 => .array .int
  | 19 => .array .int
  | 20 => .int
  | 21 => .boolean
  | 22 => .int
  | 23 => .int
  | 24 => .array .int
  | 25 => .array .int
  | 26 => .array .int
  | 27 => .boolean
  | 28 => .array .int
  | 29 => .array .int
  | 30 => .array .int
  | 31 => .array .int
  | 32 => .int
  | 33 => .array .int
  | 34 => .array .int
  | _ => .array .int
theorem nmX11 : ∀ a, a < 36 → ∀ b, b < 36 → a ≠ b → (TX11 a).2.1 ≠ (TX11 b).2.1 := by decide +kernel
theorem tyX11_ok : ∀ k, k < 36 → parseFieldDescriptor (TX11 k).2.2.1 = some (tyX11 k) := by decide +kernel
abbrev cX11_init : ByteArray := prog_13_method_1_code
def yX11_init : MethodName := ⟨RX11, "<init>", "()V"⟩
abbrev cX11_anew : ByteArray := prog_13_method_2_code
def yX11_anew : MethodName := ⟨RX11, "anew", "()V"⟩
abbrev cX11_isIn : ByteArray := prog_13_method_3_code
def yX11_isIn : MethodName := ⟨RX11, "isIn", "(III)Z"⟩
abbrev cX11_unit : ByteArray := prog_13_method_4_code
def yX11_unit : MethodName := ⟨RX11, "unit", "(I)Z"⟩
abbrev cX11_actionOf : ByteArray := prog_13_method_5_code
def yX11_actionOf : MethodName := ⟨RX11, "actionOf", "(I)I"⟩
abbrev cX11_line : ByteArray := prog_13_method_6_code
def yX11_line : MethodName := ⟨RX11, "line", "()I"⟩
abbrev cX11_code : ByteArray := prog_13_method_7_code
def yX11_code : MethodName := ⟨RX11, "code", "(IIIII)I"⟩
abbrev cX11_memory : ByteArray := prog_13_method_8_code
def yX11_memory : MethodName := ⟨RX11, "memory", "(II)Z"⟩
abbrev cX11_latency : ByteArray := prog_13_method_9_code
def yX11_latency : MethodName := ⟨RX11, "latency", "(II)Z"⟩
abbrev cX11_kindOf : ByteArray := prog_13_method_10_code
def yX11_kindOf : MethodName := ⟨RX11, "kindOf", "(I)I"⟩
abbrev cX11_commitsRegister : ByteArray := prog_13_method_11_code
def yX11_commitsRegister : MethodName := ⟨RX11, "commitsRegister", "(II)Z"⟩
abbrev cX11_giver : ByteArray := prog_13_method_12_code
def yX11_giver : MethodName := ⟨RX11, "giver", "(II)I"⟩
abbrev cX11_isReady : ByteArray := prog_13_method_13_code
def yX11_isReady : MethodName := ⟨RX11, "isReady", "(II)Z"⟩
abbrev cX11_read : ByteArray := prog_13_method_14_code
def yX11_read : MethodName := ⟨RX11, "read", "(II)I"⟩
abbrev cX11_readsOne : ByteArray := prog_13_method_15_code
def yX11_readsOne : MethodName := ⟨RX11, "readsOne", "(I)Z"⟩
abbrev cX11_readsTwo : ByteArray := prog_13_method_16_code
def yX11_readsTwo : MethodName := ⟨RX11, "readsTwo", "(I)Z"⟩
abbrev cX11_hasOlderStore : ByteArray := prog_13_method_17_code
def yX11_hasOlderStore : MethodName := ⟨RX11, "hasOlderStore", "(I)Z"⟩
abbrev cX11_placeOf : ByteArray := prog_13_method_18_code
def yX11_placeOf : MethodName := ⟨RX11, "placeOf", "(I)I"⟩
abbrev cX11_fires : ByteArray := prog_13_method_19_code
def yX11_fires : MethodName := ⟨RX11, "fires", "(I)Z"⟩
abbrev cX11_workOut : ByteArray := prog_13_method_20_code
def yX11_workOut : MethodName := ⟨RX11, "workOut", "(III)V"⟩
abbrev cX11_commitOne : ByteArray := prog_13_method_21_code
def yX11_commitOne : MethodName := ⟨RX11, "commitOne", "(III)V"⟩
abbrev cX11_commitAll : ByteArray := prog_13_method_22_code
def yX11_commitAll : MethodName := ⟨RX11, "commitAll", "(III)V"⟩
abbrev cX11_fire : ByteArray := prog_13_method_23_code
def yX11_fire : MethodName := ⟨RX11, "fire", "(I)V"⟩
abbrev cX11_oneCycle : ByteArray := prog_13_method_24_code
def yX11_oneCycle : MethodName := ⟨RX11, "oneCycle", "()V"⟩
abbrev cX11_run : ByteArray := prog_13_method_25_code
def yX11_run : MethodName := ⟨RX11, "run", "(I)I"⟩
abbrev cX11_cycle : ByteArray := prog_13_method_26_code
def yX11_cycle : MethodName := ⟨RX11, "cycle", "()I"⟩
abbrev cX11_ended : ByteArray := prog_13_method_27_code
def yX11_ended : MethodName := ⟨RX11, "ended", "()Z"⟩
abbrev cX11_commits : ByteArray := prog_13_method_28_code
def yX11_commits : MethodName := ⟨RX11, "commits", "()I"⟩
abbrev cX11_commit : ByteArray := prog_13_method_29_code
def yX11_commit : MethodName := ⟨RX11, "commit", "(II)I"⟩
abbrev cX11_register : ByteArray := prog_13_method_30_code
def yX11_register : MethodName := ⟨RX11, "register", "(I)I"⟩
abbrev cX11_place : ByteArray := prog_13_method_31_code
def yX11_place : MethodName := ⟨RX11, "place", "(I)I"⟩
abbrev cX11_retired : ByteArray := prog_13_method_32_code
def yX11_retired : MethodName := ⟨RX11, "retired", "()I"⟩
abbrev cX11_faithful : ByteArray := prog_13_method_33_code
def yX11_faithful : MethodName := ⟨RX11, "faithful", "()Z"⟩
abbrev cX11_told : ByteArray := prog_13_method_34_code
def yX11_told : MethodName := ⟨RX11, "told", "(I)I"⟩
def RJ9 : String := "java/lang/Math"
def TJ9 : u_T := fun k => match k with
  | _ => ("", "", "", false)
def tyJ9 : Nat → FieldType := fun k => match k with
  | _ => .int
theorem nmJ9 : ∀ a, a < 0 → ∀ b, b < 0 → a ≠ b → (TJ9 a).2.1 ≠ (TJ9 b).2.1 := by decide +kernel
theorem tyJ9_ok : ∀ k, k < 0 → parseFieldDescriptor (TJ9 k).2.2.1 = some (tyJ9 k) := by decide +kernel
abbrev cJ9_floorMod_7cf53 : ByteArray := prog_14_method_50_code
def yJ9_floorMod_7cf53 : MethodName := ⟨RJ9, "floorMod", "(II)I"⟩
abbrev cJ9_max_7cf53 : ByteArray := prog_14_method_65_code
def yJ9_max_7cf53 : MethodName := ⟨RJ9, "max", "(II)I"⟩
def RJ0 : String := "java/lang/String"
def TJ0 : u_T := fun k => match k with
  | _ => ("", "", "", false)
def tyJ0 : Nat → FieldType := fun k => match k with
  | _ => .int
theorem nmJ0 : ∀ a, a < 0 → ∀ b, b < 0 → a ≠ b → (TJ0 a).2.1 ≠ (TJ0 b).2.1 := by decide +kernel
theorem tyJ0_ok : ∀ k, k < 0 → parseFieldDescriptor (TJ0 k).2.2.1 = some (tyJ0 k) := by decide +kernel
abbrev cJ0_length_8abf5 : ByteArray := prog_15_method_54_code
def yJ0_length_8abf5 : MethodName := ⟨RJ0, "length", "()I"⟩
abbrev cJ0_charAt_5068e : ByteArray := prog_15_method_56_code
def yJ0_charAt_5068e : MethodName := ⟨RJ0, "charAt", "(I)C"⟩
abbrev cJ0_coder_7d493 : ByteArray := prog_15_method_152_code
def yJ0_coder_7d493 : MethodName := ⟨RJ0, "coder", "()B"⟩
abbrev cJ0_isLatin1_aae02 : ByteArray := prog_15_method_154_code
def yJ0_isLatin1_aae02 : MethodName := ⟨RJ0, "isLatin1", "()Z"⟩
abbrev cJ0_checkIndex_df160 : ByteArray := prog_15_method_155_code
def yJ0_checkIndex_df160 : MethodName := ⟨RJ0, "checkIndex", "(II)V"⟩
def RJ1 : String := "java/lang/StringLatin1"
def TJ1 : u_T := fun k => match k with
  | _ => ("", "", "", false)
def tyJ1 : Nat → FieldType := fun k => match k with
  | _ => .int
theorem nmJ1 : ∀ a, a < 0 → ∀ b, b < 0 → a ≠ b → (TJ1 a).2.1 ≠ (TJ1 b).2.1 := by decide +kernel
theorem tyJ1_ok : ∀ k, k < 0 → parseFieldDescriptor (TJ1 k).2.2.1 = some (tyJ1 k) := by decide +kernel
abbrev cJ1_charAt_3b067 : ByteArray := prog_16_method_2_code
def yJ1_charAt_3b067 : MethodName := ⟨RJ1, "charAt", "([BI)C"⟩
def RJ2 : String := "java/lang/StringUTF16"
def TJ2 : u_T := fun k => match k with
  | _ => ("", "", "", false)
def tyJ2 : Nat → FieldType := fun k => match k with
  | _ => .int
theorem nmJ2 : ∀ a, a < 0 → ∀ b, b < 0 → a ≠ b → (TJ2 a).2.1 ≠ (TJ2 b).2.1 := by decide +kernel
theorem tyJ2_ok : ∀ k, k < 0 → parseFieldDescriptor (TJ2 k).2.2.1 = some (tyJ2 k) := by decide +kernel
abbrev cJ2_getChar_3b067 : ByteArray := prog_17_method_5_code
def yJ2_getChar_3b067 : MethodName := ⟨RJ2, "getChar", "([BI)C"⟩
abbrev cJ2_length_9d52b : ByteArray := prog_17_method_6_code
def yJ2_length_9d52b : MethodName := ⟨RJ2, "length", "([B)I"⟩
abbrev cJ2_charAt_3b067 : ByteArray := prog_17_method_83_code
def yJ2_charAt_3b067 : MethodName := ⟨RJ2, "charAt", "([BI)C"⟩
abbrev cJ2_checkIndex_2214a : ByteArray := prog_17_method_91_code
def yJ2_checkIndex_2214a : MethodName := ⟨RJ2, "checkIndex", "(I[B)V"⟩
def RJ10 : String := "java/lang/System"
def TJ10 : u_T := fun k => match k with
  | _ => ("", "", "", false)
def tyJ10 : Nat → FieldType := fun k => match k with
  | _ => .int
theorem nmJ10 : ∀ a, a < 0 → ∀ b, b < 0 → a ≠ b → (TJ10 a).2.1 ≠ (TJ10 b).2.1 := by decide +kernel
theorem tyJ10_ok : ∀ k, k < 0 → parseFieldDescriptor (TJ10 k).2.2.1 = some (tyJ10 k) := by decide +kernel
def RJ7 : String := "java/util/Arrays"
def TJ7 : u_T := fun k => match k with
  | _ => ("", "", "", false)
def tyJ7 : Nat → FieldType := fun k => match k with
  | _ => .int
theorem nmJ7 : ∀ a, a < 0 → ∀ b, b < 0 → a ≠ b → (TJ7 a).2.1 ≠ (TJ7 b).2.1 := by decide +kernel
theorem tyJ7_ok : ∀ k, k < 0 → parseFieldDescriptor (TJ7 k).2.2.1 = some (tyJ7 k) := by decide +kernel
abbrev cJ7_fill_53178 : ByteArray := prog_19_method_103_code
def yJ7_fill_53178 : MethodName := ⟨RJ7, "fill", "([II)V"⟩
def RJ3 : String := "jdk/internal/util/Preconditions"
def TJ3 : u_T := fun k => match k with
  | _ => ("", "", "", false)
def tyJ3 : Nat → FieldType := fun k => match k with
  | _ => .int
theorem nmJ3 : ∀ a, a < 0 → ∀ b, b < 0 → a ≠ b → (TJ3 a).2.1 ≠ (TJ3 b).2.1 := by decide +kernel
theorem tyJ3_ok : ∀ k, k < 0 → parseFieldDescriptor (TJ3 k).2.2.1 = some (tyJ3 k) := by decide +kernel
abbrev cJ3_checkIndex_8e157 : ByteArray := prog_20_method_11_code
def yJ3_checkIndex_8e157 : MethodName := ⟨RJ3, "checkIndex", "(IILjava/util/function/BiFunction;)I"⟩
def RL : String := "PipeForgeLaw"
abbrev cL_law : ByteArray := code
def yL_law : MethodName := ⟨RL, "law", "([I)Z"⟩
abbrev vwCl : List vw_C := [(RX0, TX0, 3), (RX1, TX1, 2), (RX2, TX2, 5), (RX3, TX3, 2), (RX4, TX4, 4), (RX5, TX5, 7), (RX6, TX6, 3), (RX7, TX7, 12), (RX8, TX8, 3), (RX9, TX9, 2), (RX10, TX10, 9), (RX11, TX11, 36)]
end
section
/-! THE MEMORY: shapes T, numbers I, references P over the addresses from b on; a walk over it (mJ), a contract over it (mMet) -/
abbrev mT : Type := Nat → Option (Nat × Nat × Nat)
abbrev mI : Type := Nat → Nat → Int32
abbrev mP : Type := Nat → Nat → Option Nat
def mu {α : Type} (f : Nat → Nat → α) (a k : Nat) (v : α) : Nat → Nat → α := fun x y => if x = a ∧ y = k then v else f x y
theorem mu_eq {α : Type} (f : Nat → Nat → α) (a k : Nat) (v : α) : mu f a k v a k = v := by simp [mu]
theorem mu_na {α : Type} (f : Nat → Nat → α) {a x : Nat} (k : Nat) (v : α) (h : x ≠ a) (y : Nat) : mu f a k v x y = f x y := by simp [mu, h]
theorem mu_ns {α : Type} (f : Nat → Nat → α) (a : Nat) {k y : Nat} (v : α) (h : y ≠ k) (x : Nat) : mu f a k v x y = f x y := by simp [mu, h]
theorem mu_row {α : Type} (f : Nat → Nat → α) {a x : Nat} (k : Nat) (v : α) (h : x ≠ a) : mu f a k v x = f x := by funext y; exact mu_na f k v h y
def mv (ty : FieldType) (x : Int32) (r : Option Nat) : Value := match ty with
  | .object _ => va_rf r
  | .array _ => va_rf r
  | _ => .int x
/-- a cell of a shape: 0 an object of class number sh.2.1; 1 a row of ints; 2 a row of booleans; j + 3 a row of references to objects of class number j -/
def mC (D : va_G) (cl : List vw_C) (ty : Nat → Nat → FieldType) (s : State) (sh : Nat × Nat × Nat) (f : Nat → Int32) (r : Nat → Option Nat) (a : Nat) (H : Heap) : Prop :=
  match sh.1 with
  | 0 => ∃ q : vw_C, cl[sh.2.1]? = some q ∧ t_OB a (D.1 sh.2.1) q.2.2 (D.2 sh.2.1) H (fun k => mv (ty sh.2.1 k) (f k) (r k))
  | 1 => ∃ cA : ClassId, (ArrOfT s cA .int ∧ va_RA s cA .int) ∧ H[a]? = some (arrV cA sh.2.2 (fun j => .int (f j)))
  | 2 => ∃ cA : ClassId, (ArrOfT s cA .boolean ∧ va_RA s cA .boolean) ∧ H[a]? = some (arrV cA sh.2.2 (fun j => .int (f j)))
  | j + 3 => ∃ cA : ClassId, (∃ q : vw_C, cl[j]? = some q ∧ ArrOfT s cA (.object q.1) ∧ va_RA s cA (.object q.1)) ∧ H[a]? = some (arrV cA sh.2.2 (fun j => va_rf (r j)))
theorem mC.kept {D : va_G} {cl : List vw_C} {ty : Nat → Nat → FieldType} {s : State} {sh : Nat × Nat × Nat} {f : Nat → Int32} {r : Nat → Option Nat} {a : Nat} {H H1 : Heap} (h : mC D cl ty s sh f r a H) (hq : H1[a]? = H[a]?) : mC D cl ty s sh f r a H1 := by
  obtain ⟨k, c, n⟩ := sh
  match k, h with
  | 0, h => obtain ⟨q, h1, h2⟩ := h; exact ⟨q, h1, h2.kept hq⟩
  | 1, h => obtain ⟨cA, h1, h2⟩ := h; exact ⟨cA, h1, hq.trans h2⟩
  | 2, h => obtain ⟨cA, h1, h2⟩ := h; exact ⟨cA, h1, hq.trans h2⟩
  | k + 3, h => obtain ⟨cA, h1, h2⟩ := h; exact ⟨cA, h1, hq.trans h2⟩
theorem mC.lt {D : va_G} {cl : List vw_C} {ty : Nat → Nat → FieldType} {s : State} {sh : Nat × Nat × Nat} {f : Nat → Int32} {r : Nat → Option Nat} {a : Nat} {H : Heap} (h : mC D cl ty s sh f r a H) : a < H.size := by
  obtain ⟨k, c, n⟩ := sh
  match k, h with
  | 0, h => obtain ⟨q, h1, cell, h2, -⟩ := h; exact (Array.getElem?_eq_some_iff.mp h2).1
  | 1, h => obtain ⟨cA, h1, h2⟩ := h; exact (Array.getElem?_eq_some_iff.mp h2).1
  | 2, h => obtain ⟨cA, h1, h2⟩ := h; exact (Array.getElem?_eq_some_iff.mp h2).1
  | k + 3, h => obtain ⟨cA, h1, h2⟩ := h; exact (Array.getElem?_eq_some_iff.mp h2).1
theorem mC.moved {D : va_G} {cl : List vw_C} {ty : Nat → Nat → FieldType} {s U : State} {sh : Nat × Nat × Nat} {f : Nat → Int32} {r : Nat → Option Nat} {a : Nat} {H : Heap} (hvm : s.vm.Alike U.vm) (h : mC D cl ty s sh f r a H) : mC D cl ty U sh f r a H := by
  obtain ⟨k, c, n⟩ := sh
  match k, h with
  | 0, h => exact h
  | 1, h => obtain ⟨cA, h1, h2⟩ := h; exact ⟨cA, ⟨arrOfT_moved hvm h1.1, h1.2.moved hvm⟩, h2⟩
  | 2, h => obtain ⟨cA, h1, h2⟩ := h; exact ⟨cA, ⟨arrOfT_moved hvm h1.1, h1.2.moved hvm⟩, h2⟩
  | k + 3, h => obtain ⟨cA, ⟨q, g1, g2, g3⟩, h2⟩ := h; exact ⟨cA, ⟨q, g1, arrOfT_moved hvm g2, g3.moved hvm⟩, h2⟩
/-- the memory (T, I, P) is what the heap holds from b on -/
def mW (D : va_G) (cl : List vw_C) (ty : Nat → Nat → FieldType) (b : Nat) (T : mT) (I : mI) (P : mP) (s : State) (H : Heap) : Prop := ∀ (a : Nat) (sh : Nat × Nat × Nat), T a = some sh → b ≤ a ∧ mC D cl ty s sh (I a) (P a) a H
theorem mW.moved {D : va_G} {cl : List vw_C} {ty : Nat → Nat → FieldType} {b : Nat} {T : mT} {I : mI} {P : mP} {s U : State} {H : Heap} (hvm : s.vm.Alike U.vm) (h : mW D cl ty b T I P s H) : mW D cl ty b T I P U H := fun a sh ha => ⟨(h a sh ha).1, (h a sh ha).2.moved hvm⟩
/-- one cell has changed -/
theorem mW.put {D : va_G} {cl : List vw_C} {ty : Nat → Nat → FieldType} {b : Nat} {T : mT} {I I' : mI} {P P' : mP} {s : State} {H H1 : Heap} {a : Nat} {sh : Nat × Nat × Nat} (h : mW D cl ty b T I P s H) (ha : T a = some sh) (hI : ∀ x, x ≠ a → I' x = I x) (hP : ∀ x, x ≠ a → P' x = P x) (ho : ∀ q : Nat, q ≠ a → H1[q]? = H[q]?) (hc : mC D cl ty s sh (I' a) (P' a) a H1) : mW D cl ty b T I' P' s H1 := by
  intro x sx hx
  by_cases he : x = a
  · subst he
    obtain rfl : sh = sx := Option.some.inj (ha.symm.trans hx)
    exact ⟨(h x sh hx).1, hc⟩
  · rw [hI x he, hP x he]
    exact ⟨(h x sx hx).1, (h x sx hx).2.kept (ho x he)⟩
/-- one cell has come -/
theorem mW.new {D : va_G} {cl : List vw_C} {ty : Nat → Nat → FieldType} {b : Nat} {T : mT} {I I' : mI} {P P' : mP} {s : State} {H H1 : Heap} {sh : Nat × Nat × Nat} (h : mW D cl ty b T I P s H) (hb : b ≤ H.size) (hI : ∀ x, x ≠ H.size → I' x = I x) (hP : ∀ x, x ≠ H.size → P' x = P x) (ho : ∀ q : Nat, q < H.size → H1[q]? = H[q]?) (hc : mC D cl ty s sh (I' H.size) (P' H.size) H.size H1) : mW D cl ty b (fun x => if x = H.size then some sh else T x) I' P' s H1 := by
  intro x sx hx
  by_cases he : x = H.size
  · subst he
    simp at hx
    subst hx
    exact ⟨hb, hc⟩
  · simp [he] at hx
    rw [hI x he, hP x he]
    exact ⟨(h x sx hx).1, (h x sx hx).2.kept (ho x (h x sx hx).2.lt)⟩
def lvg : List (Nat × Value) → Nat → Option Value
  | [], _ => none
  | (j, v) :: r, i => bif Nat.beq j i then some v else lvg r i
theorem lvg_mem : ∀ {lv : List (Nat × Value)} {i : Nat} {v : Value}, lvg lv i = some v → (i, v) ∈ lv
  | [], _, _, h => by cases h
  | (j, w) :: r, i, v, h => by
    unfold lvg at h
    cases hb : Nat.beq j i with
    | true =>
      rw [hb] at h
      obtain rfl : j = i := Nat.eq_of_beq_eq_true hb
      obtain rfl : w = v := Option.some.inj h
      exact List.mem_cons_self
    | false =>
      rw [hb] at h
      exact List.mem_cons_of_mem _ (lvg_mem h)
theorem lvg_has {ls : Array Slot} {nL : Nat} {lv : List (Nat × Value)} (h : lv_has ls nL lv) {i : Nat} {v : Value} (hg : lvg lv i = some v) : ls[i]? = some (.val v) := h.2.2 (i, v) (lvg_mem hg)
abbrev lvs (lv : List (Nat × Value)) (i : Nat) (v : Value) : List (Nat × Value) := (i, v) :: lv.filter (fun q => !(q.1 == i) && !(q.1 + 1 == i && q.2.category == 2))
theorem lvg_sub {ls : Array Slot} {nL : Nat} {lv lv' : List (Nat × Value)} (h : lv_has ls nL lv) (hs : lv'.map (fun q => lvg lv q.1) = lv'.map (fun q => some q.2)) : lv_has ls nL lv' := by
  refine ⟨h.1, h.2.1, fun q hq => ?_⟩
  have h1 : lvg lv q.1 = some q.2 := by
    obtain ⟨i, hi⟩ := List.getElem?_of_mem hq
    have e := congrArg (fun l => l[i]?) hs
    simp only [List.getElem?_map, hi, Option.map_some] at e
    exact Option.some.inj e
  exact lvg_has h h1
/-- what is fixed in a method's walk -/
def mX (p : Program) (s : State) (m : MethodId) (meth : Method) (c : Code) (args : Array Value) (cc : ByteArray) (nL : Nat) (own : String) (ret : Option FieldType) (TT : List Cond) (NN : State → Prop) (D : va_G) (cl : List vw_C) (b : Nat) : Prop :=
  p.tables.exec = Jvm.exec ∧ c.code = cc ∧ c.maxLocals = nL ∧ s.vm.findClass own = some m.cls ∧ (∀ w ∈ TT, w.before args s = true) ∧ va_K D cl [] s ∧ b ≤ s.heap.size ∧ meth.sig.returnType = ret ∧ meth.locks = false ∧ NN s ∧ GoodIn TT TT ∧ (∀ u U : State, u.WarmedH U.vm → NN u → NN U)
/-- a class by its number: its fields, their types, its words -/
def mCl (cl : List vw_C) (ty : Nat → Nat → FieldType) (TT : List Cond) (ci : Nat) (C : String) (F : u_T) (N : Nat) : Prop :=
  cl[ci]? = some (C, F, N) ∧ (∀ w ∈ u_ws C F N, w ∈ TT) ∧ (∀ k, k < N → parseFieldDescriptor (F k).2.2.1 = some (ty ci k)) ∧ (∀ a, a < N → ∀ b, b < N → a ≠ b → (F a).2.1 ≠ (F b).2.1)
section MJ
variable {p : Program} {l : Launch} {e : Env} {R : Room} {s : State} {m : MethodId} {args : Array Value} {below : List Frame} {meth : Method} {c : Code}
variable {D : va_G} {cl : List vw_C} {ty : Nat → Nat → FieldType} {b nL : Nat} {Q : State → Prop} {cells slots : Nat} {T : mT} {I : mI} {P : mP} {lv : List (Nat × Value)} {pc : Nat} {rest : List Value}
variable {cc : ByteArray} {own : String} {ret : Option FieldType} {TT : List Cond} {NN : State → Prop}
/-- THE WALK: at pc, with these locals and this stack, over any heap that holds the memory, the machine comes to Q -/
def mJ (p : Program) (l : Launch) (e : Env) (R : Room) (s : State) (m : MethodId) (args : Array Value) (below : List Frame) (meth : Method) (c : Code) (D : va_G) (cl : List vw_C) (ty : Nat → Nat → FieldType) (b nL : Nat) (Q : State → Prop) (cells slots : Nat) (T : mT) (I : mI) (P : mP) (lv : List (Nat × Value)) (pc : Nat) (st : List Value) : Prop :=
  ∀ (H : Heap) (locs : List Loc) (ls : Array Slot), mW D cl ty b T I P s H → va_S (fun q => b ≤ q) s.heap H locs → lv_has ls nL lv → W p l e R s m args below meth c H locs cells slots Q (F0 m pc ls st)
theorem mJ_lv {st : List Value} (lv' : List (Nat × Value)) (hs : lv'.map (fun q => lvg lv q.1) = lv'.map (fun q => some q.2)) (k : mJ p l e R s m args below meth c D cl ty b nL Q cells slots T I P lv' pc st) : mJ p l e R s m args below meth c D cl ty b nL Q cells slots T I P lv pc st :=
  fun H locs ls h1 h2 h3 => k H locs ls h1 h2 (lvg_sub h3 hs)
theorem mJ_wide {st : List Value} {k n : Nat} (h1 : cells ≤ k) (h2 : slots ≤ n) (kk : mJ p l e R s m args below meth c D cl ty b nL Q k n T I P lv pc st) : mJ p l e R s m args below meth c D cl ty b nL Q cells slots T I P lv pc st :=
  fun H locs ls g1 g2 g3 => W.widen h1 h2 (kk H locs ls g1 g2 g3)
theorem mJ_iconst (X : mX p s m meth c args cc nL own ret TT NN D cl b) {n : Int} {v : Int32} (hd : decode cc pc = .ok (.iconst n, 1)) (hv : Int32.ofInt n = v) (k : mJ p l e R s m args below meth c D cl ty b nL Q cells slots T I P lv (pc + 1) (.int v :: rest)) : mJ p l e R s m args below meth c D cl ty b nL Q cells slots T I P lv pc (rest) := fun H locs ls h1 h2 h3 => lv_iconst X.1 X.2.1 hd hv (k H locs ls h1 h2 h3)
theorem mJ_bipush (X : mX p s m meth c args cc nL own ret TT NN D cl b) {n : Int} {v : Int32} (hd : decode cc pc = .ok (.bipush n, 2)) (hv : (Int8.ofInt n).toInt32 = v) (k : mJ p l e R s m args below meth c D cl ty b nL Q cells slots T I P lv (pc + 2) (.int v :: rest)) : mJ p l e R s m args below meth c D cl ty b nL Q cells slots T I P lv pc (rest) := fun H locs ls h1 h2 h3 => lv_bipush X.1 X.2.1 hd hv (k H locs ls h1 h2 h3)
theorem mJ_sipush (X : mX p s m meth c args cc nL own ret TT NN D cl b) {n : Int} {v : Int32} (hd : decode cc pc = .ok (.sipush n, 3)) (hv : (Int16.ofInt n).toInt32 = v) (k : mJ p l e R s m args below meth c D cl ty b nL Q cells slots T I P lv (pc + 3) (.int v :: rest)) : mJ p l e R s m args below meth c D cl ty b nL Q cells slots T I P lv pc (rest) := fun H locs ls h1 h2 h3 => lv_sipush X.1 X.2.1 hd hv (k H locs ls h1 h2 h3)
theorem mJ_iload_n (X : mX p s m meth c args cc nL own ret TT NN D cl b) {k : Fin 4} {i : Nat} {x : Int32} (hd : decode cc pc = .ok (.iload_n k, 1)) (hi : (k : Nat) = i) (hl : lvg lv i = some (.int x)) (k : mJ p l e R s m args below meth c D cl ty b nL Q cells slots T I P lv (pc + 1) (.int x :: rest)) : mJ p l e R s m args below meth c D cl ty b nL Q cells slots T I P lv pc (rest) := fun H locs ls h1 h2 h3 => lv_iload_n X.1 X.2.1 hd hi (lvg_has h3 hl) (k H locs ls h1 h2 h3)
theorem mJ_iload (X : mX p s m meth c args cc nL own ret TT NN D cl b) {i : Nat} {x : Int32} (hd : decode cc pc = .ok (.iload i, 2)) (hl : lvg lv i = some (.int x)) (k : mJ p l e R s m args below meth c D cl ty b nL Q cells slots T I P lv (pc + 2) (.int x :: rest)) : mJ p l e R s m args below meth c D cl ty b nL Q cells slots T I P lv pc (rest) := fun H locs ls h1 h2 h3 => lv_iload X.1 X.2.1 hd (lvg_has h3 hl) (k H locs ls h1 h2 h3)
theorem mJ_aload_n (X : mX p s m meth c args cc nL own ret TT NN D cl b) {k : Fin 4} {i : Nat} {x : Nat} (hd : decode cc pc = .ok (.aload_n k, 1)) (hi : (k : Nat) = i) (hl : lvg lv i = some (.ref x)) (k : mJ p l e R s m args below meth c D cl ty b nL Q cells slots T I P lv (pc + 1) (.ref x :: rest)) : mJ p l e R s m args below meth c D cl ty b nL Q cells slots T I P lv pc (rest) := fun H locs ls h1 h2 h3 => lv_aload_n X.1 X.2.1 hd hi (lvg_has h3 hl) (k H locs ls h1 h2 h3)
theorem mJ_aload (X : mX p s m meth c args cc nL own ret TT NN D cl b) {i : Nat} {x : Nat} (hd : decode cc pc = .ok (.aload i, 2)) (hl : lvg lv i = some (.ref x)) (k : mJ p l e R s m args below meth c D cl ty b nL Q cells slots T I P lv (pc + 2) (.ref x :: rest)) : mJ p l e R s m args below meth c D cl ty b nL Q cells slots T I P lv pc (rest) := fun H locs ls h1 h2 h3 => lv_aload X.1 X.2.1 hd (lvg_has h3 hl) (k H locs ls h1 h2 h3)
theorem mJ_iadd (X : mX p s m meth c args cc nL own ret TT NN D cl b) {x y : Int32} (hd : decode cc pc = .ok (.iadd, 1))  (k : mJ p l e R s m args below meth c D cl ty b nL Q cells slots T I P lv (pc + 1) (.int (x + y) :: rest)) : mJ p l e R s m args below meth c D cl ty b nL Q cells slots T I P lv pc (.int y :: .int x :: rest) := fun H locs ls h1 h2 h3 => lv_iadd X.1 X.2.1 hd (k H locs ls h1 h2 h3)
theorem mJ_isub (X : mX p s m meth c args cc nL own ret TT NN D cl b) {x y : Int32} (hd : decode cc pc = .ok (.isub, 1))  (k : mJ p l e R s m args below meth c D cl ty b nL Q cells slots T I P lv (pc + 1) (.int (x - y) :: rest)) : mJ p l e R s m args below meth c D cl ty b nL Q cells slots T I P lv pc (.int y :: .int x :: rest) := fun H locs ls h1 h2 h3 => lv_isub X.1 X.2.1 hd (k H locs ls h1 h2 h3)
theorem mJ_imul (X : mX p s m meth c args cc nL own ret TT NN D cl b) {x y : Int32} (hd : decode cc pc = .ok (.imul, 1))  (k : mJ p l e R s m args below meth c D cl ty b nL Q cells slots T I P lv (pc + 1) (.int (x * y) :: rest)) : mJ p l e R s m args below meth c D cl ty b nL Q cells slots T I P lv pc (.int y :: .int x :: rest) := fun H locs ls h1 h2 h3 => lv_imul X.1 X.2.1 hd (k H locs ls h1 h2 h3)
theorem mJ_iand (X : mX p s m meth c args cc nL own ret TT NN D cl b) {x y : Int32} (hd : decode cc pc = .ok (.iand, 1))  (k : mJ p l e R s m args below meth c D cl ty b nL Q cells slots T I P lv (pc + 1) (.int (x &&& y) :: rest)) : mJ p l e R s m args below meth c D cl ty b nL Q cells slots T I P lv pc (.int y :: .int x :: rest) := fun H locs ls h1 h2 h3 => lv_iand X.1 X.2.1 hd (k H locs ls h1 h2 h3)
theorem mJ_ior (X : mX p s m meth c args cc nL own ret TT NN D cl b) {x y : Int32} (hd : decode cc pc = .ok (.ior, 1))  (k : mJ p l e R s m args below meth c D cl ty b nL Q cells slots T I P lv (pc + 1) (.int (x ||| y) :: rest)) : mJ p l e R s m args below meth c D cl ty b nL Q cells slots T I P lv pc (.int y :: .int x :: rest) := fun H locs ls h1 h2 h3 => lv_ior X.1 X.2.1 hd (k H locs ls h1 h2 h3)
theorem mJ_ixor (X : mX p s m meth c args cc nL own ret TT NN D cl b) {x y : Int32} (hd : decode cc pc = .ok (.ixor, 1))  (k : mJ p l e R s m args below meth c D cl ty b nL Q cells slots T I P lv (pc + 1) (.int (x ^^^ y) :: rest)) : mJ p l e R s m args below meth c D cl ty b nL Q cells slots T I P lv pc (.int y :: .int x :: rest) := fun H locs ls h1 h2 h3 => lv_ixor X.1 X.2.1 hd (k H locs ls h1 h2 h3)
theorem mJ_idiv (X : mX p s m meth c args cc nL own ret TT NN D cl b) {x y : Int32} (hd : decode cc pc = .ok (.idiv, 1)) (hne : ¬ y = 0) (k : mJ p l e R s m args below meth c D cl ty b nL Q cells slots T I P lv (pc + 1) (.int (x / y) :: rest)) : mJ p l e R s m args below meth c D cl ty b nL Q cells slots T I P lv pc (.int y :: .int x :: rest) := fun H locs ls h1 h2 h3 => lv_idiv X.1 X.2.1 hd hne (k H locs ls h1 h2 h3)
theorem mJ_irem (X : mX p s m meth c args cc nL own ret TT NN D cl b) {x y : Int32} (hd : decode cc pc = .ok (.irem, 1)) (hne : ¬ y = 0) (k : mJ p l e R s m args below meth c D cl ty b nL Q cells slots T I P lv (pc + 1) (.int (x - x / y * y) :: rest)) : mJ p l e R s m args below meth c D cl ty b nL Q cells slots T I P lv pc (.int y :: .int x :: rest) := fun H locs ls h1 h2 h3 => lv_irem X.1 X.2.1 hd hne (k H locs ls h1 h2 h3)
theorem mJ_ineg (X : mX p s m meth c args cc nL own ret TT NN D cl b) {x : Int32} (hd : decode cc pc = .ok (.ineg, 1))  (k : mJ p l e R s m args below meth c D cl ty b nL Q cells slots T I P lv (pc + 1) (.int (-x) :: rest)) : mJ p l e R s m args below meth c D cl ty b nL Q cells slots T I P lv pc (.int x :: rest) := fun H locs ls h1 h2 h3 => lv_ineg X.1 X.2.1 hd (k H locs ls h1 h2 h3)
theorem mJ_dup (X : mX p s m meth c args cc nL own ret TT NN D cl b) {va : Value} (hd : decode cc pc = .ok (.dup, 1)) (hva : va.category = 1) (k : mJ p l e R s m args below meth c D cl ty b nL Q cells slots T I P lv (pc + 1) (va :: va :: rest)) : mJ p l e R s m args below meth c D cl ty b nL Q cells slots T I P lv pc (va :: rest) := fun H locs ls h1 h2 h3 => lv_dup X.1 X.2.1 hd hva (k H locs ls h1 h2 h3)
theorem mJ_pop (X : mX p s m meth c args cc nL own ret TT NN D cl b) {va : Value} (hd : decode cc pc = .ok (.pop, 1)) (hva : va.category = 1) (k : mJ p l e R s m args below meth c D cl ty b nL Q cells slots T I P lv (pc + 1) (rest)) : mJ p l e R s m args below meth c D cl ty b nL Q cells slots T I P lv pc (va :: rest) := fun H locs ls h1 h2 h3 => lv_pop X.1 X.2.1 hd hva (k H locs ls h1 h2 h3)
theorem mJ_dup_x1 (X : mX p s m meth c args cc nL own ret TT NN D cl b) {va vb : Value} (hd : decode cc pc = .ok (.dup_x1, 1)) (hva : va.category = 1) (hvb : vb.category = 1) (k : mJ p l e R s m args below meth c D cl ty b nL Q cells slots T I P lv (pc + 1) (va :: vb :: va :: rest)) : mJ p l e R s m args below meth c D cl ty b nL Q cells slots T I P lv pc (va :: vb :: rest) := fun H locs ls h1 h2 h3 => lv_dup_x1 X.1 X.2.1 hd hva hvb (k H locs ls h1 h2 h3)
theorem mJ_dup2 (X : mX p s m meth c args cc nL own ret TT NN D cl b) {va vb : Value} (hd : decode cc pc = .ok (.dup2, 1)) (hva : va.category = 1) (hvb : vb.category = 1) (k : mJ p l e R s m args below meth c D cl ty b nL Q cells slots T I P lv (pc + 1) (va :: vb :: va :: vb :: rest)) : mJ p l e R s m args below meth c D cl ty b nL Q cells slots T I P lv pc (va :: vb :: rest) := fun H locs ls h1 h2 h3 => lv_dup2_11 X.1 X.2.1 hd hva hvb (k H locs ls h1 h2 h3)
theorem mJ_ldc (X : mX p s m meth c args cc nL own ret TT NN D cl b) {index : Nat} {v : Int32} (hd : decode cc pc = .ok (.ldc index, 2)) (hc : Jvm.Cond.constant own index v ∈ TT) (k : mJ p l e R s m args below meth c D cl ty b nL Q cells slots T I P lv (pc + 2) (.int v :: rest)) : mJ p l e R s m args below meth c D cl ty b nL Q cells slots T I P lv pc (rest) := fun H locs ls h1 h2 h3 => lv_ldc X.1 X.2.1 X.2.2.2.1 (X.2.2.2.2.1 _ hc) hd (k H locs ls h1 h2 h3)
theorem mJ_istore_n (X : mX p s m meth c args cc nL own ret TT NN D cl b) {k : Fin 4} {i : Nat} {x : Int32} (hd : decode cc pc = .ok (.istore_n k, 1)) (hi : (k : Nat) = i) (hn : i < nL) (k : mJ p l e R s m args below meth c D cl ty b nL Q cells slots T I P (lvs lv i (.int x)) (pc + 1) rest) : mJ p l e R s m args below meth c D cl ty b nL Q cells slots T I P lv pc (.int x :: rest) := fun H locs ls h1 h2 h3 => lv_istore_n X.1 X.2.1 hd hi h3 hn rfl (fun ls' h4 => k H locs ls' h1 h2 h4)
theorem mJ_istore (X : mX p s m meth c args cc nL own ret TT NN D cl b) {i : Nat} {x : Int32} (hd : decode cc pc = .ok (.istore i, 2)) (hn : i < nL) (k : mJ p l e R s m args below meth c D cl ty b nL Q cells slots T I P (lvs lv i (.int x)) (pc + 2) rest) : mJ p l e R s m args below meth c D cl ty b nL Q cells slots T I P lv pc (.int x :: rest) := fun H locs ls h1 h2 h3 => lv_istore X.1 X.2.1 hd h3 hn rfl (fun ls' h4 => k H locs ls' h1 h2 h4)
theorem mJ_astore_n (X : mX p s m meth c args cc nL own ret TT NN D cl b) {k : Fin 4} {i : Nat} {x : Nat} (hd : decode cc pc = .ok (.astore_n k, 1)) (hi : (k : Nat) = i) (hn : i < nL) (k : mJ p l e R s m args below meth c D cl ty b nL Q cells slots T I P (lvs lv i (.ref x)) (pc + 1) rest) : mJ p l e R s m args below meth c D cl ty b nL Q cells slots T I P lv pc (.ref x :: rest) := fun H locs ls h1 h2 h3 => lv_astore_n X.1 X.2.1 hd hi h3 hn rfl (fun ls' h4 => k H locs ls' h1 h2 h4)
theorem mJ_astore (X : mX p s m meth c args cc nL own ret TT NN D cl b) {i : Nat} {x : Nat} (hd : decode cc pc = .ok (.astore i, 2)) (hn : i < nL) (k : mJ p l e R s m args below meth c D cl ty b nL Q cells slots T I P (lvs lv i (.ref x)) (pc + 2) rest) : mJ p l e R s m args below meth c D cl ty b nL Q cells slots T I P lv pc (.ref x :: rest) := fun H locs ls h1 h2 h3 => lv_astore X.1 X.2.1 hd h3 hn rfl (fun ls' h4 => k H locs ls' h1 h2 h4)
theorem lvg_at : ∀ {lv : List (Nat × Value)} {i : Nat} {v : Value}, lvg lv i = some v → ∃ k : Nat, lv[k]? = some (i, v) := fun h => List.getElem?_of_mem (lvg_mem h)
theorem mJ_iinc (X : mX p s m meth c args cc nL own ret TT NN D cl b) {i : Nat} {n : Int} {x v : Int32} (hd : decode cc pc = .ok (.iinc i n, 3)) (hl : lvg lv i = some (.int x)) (hv : x + Int32.ofInt n = v) (hn : i < nL) (k : mJ p l e R s m args below meth c D cl ty b nL Q cells slots T I P (lvs lv i (.int v)) (pc + 3) rest) : mJ p l e R s m args below meth c D cl ty b nL Q cells slots T I P lv pc rest := fun H locs ls h1 h2 h3 => by
  obtain ⟨q, hq⟩ := lvg_at hl
  exact lv_iinc X.1 X.2.1 hd h3 hq hv hn rfl (fun ls' h4 => k H locs ls' h1 h2 h4)
theorem mJ_icmp_eq (X : mX p s m meth c args cc nL own ret TT NN D cl b) {x y : Int32} {off : Int} {tgt : Nat} (hd : decode cc pc = .ok (.if_icmp .eq off, 3)) (ht : (pc : Int) + off = (tgt : Int)) (kt : x = y → mJ p l e R s m args below meth c D cl ty b nL Q cells slots T I P lv tgt rest) (kf : ¬ x = y → mJ p l e R s m args below meth c D cl ty b nL Q cells slots T I P lv (pc + 3) rest) : mJ p l e R s m args below meth c D cl ty b nL Q cells slots T I P lv pc (.int y :: .int x :: rest) := fun H locs ls h1 h2 h3 => lv_icmp_eq X.1 X.2.1 hd ht (fun q => kt q H locs ls h1 h2 h3) (fun q => kf q H locs ls h1 h2 h3)
theorem mJ_if_eq (X : mX p s m meth c args cc nL own ret TT NN D cl b) {x : Int32} {off : Int} {tgt : Nat} (hd : decode cc pc = .ok (.ifCond .eq off, 3)) (ht : (pc : Int) + off = (tgt : Int)) (kt : x = 0 → mJ p l e R s m args below meth c D cl ty b nL Q cells slots T I P lv tgt rest) (kf : ¬ x = 0 → mJ p l e R s m args below meth c D cl ty b nL Q cells slots T I P lv (pc + 3) rest) : mJ p l e R s m args below meth c D cl ty b nL Q cells slots T I P lv pc (.int x :: rest) := fun H locs ls h1 h2 h3 => lv_if_eq X.1 X.2.1 hd ht (fun q => kt q H locs ls h1 h2 h3) (fun q => kf q H locs ls h1 h2 h3)
theorem mJ_icmp_ne (X : mX p s m meth c args cc nL own ret TT NN D cl b) {x y : Int32} {off : Int} {tgt : Nat} (hd : decode cc pc = .ok (.if_icmp .ne off, 3)) (ht : (pc : Int) + off = (tgt : Int)) (kt : ¬ x = y → mJ p l e R s m args below meth c D cl ty b nL Q cells slots T I P lv tgt rest) (kf : x = y → mJ p l e R s m args below meth c D cl ty b nL Q cells slots T I P lv (pc + 3) rest) : mJ p l e R s m args below meth c D cl ty b nL Q cells slots T I P lv pc (.int y :: .int x :: rest) := fun H locs ls h1 h2 h3 => lv_icmp_ne X.1 X.2.1 hd ht (fun q => kt q H locs ls h1 h2 h3) (fun q => kf q H locs ls h1 h2 h3)
theorem mJ_if_ne (X : mX p s m meth c args cc nL own ret TT NN D cl b) {x : Int32} {off : Int} {tgt : Nat} (hd : decode cc pc = .ok (.ifCond .ne off, 3)) (ht : (pc : Int) + off = (tgt : Int)) (kt : ¬ x = 0 → mJ p l e R s m args below meth c D cl ty b nL Q cells slots T I P lv tgt rest) (kf : x = 0 → mJ p l e R s m args below meth c D cl ty b nL Q cells slots T I P lv (pc + 3) rest) : mJ p l e R s m args below meth c D cl ty b nL Q cells slots T I P lv pc (.int x :: rest) := fun H locs ls h1 h2 h3 => lv_if_ne X.1 X.2.1 hd ht (fun q => kt q H locs ls h1 h2 h3) (fun q => kf q H locs ls h1 h2 h3)
theorem mJ_icmp_lt (X : mX p s m meth c args cc nL own ret TT NN D cl b) {x y : Int32} {off : Int} {tgt : Nat} (hd : decode cc pc = .ok (.if_icmp .lt off, 3)) (ht : (pc : Int) + off = (tgt : Int)) (kt : x < y → mJ p l e R s m args below meth c D cl ty b nL Q cells slots T I P lv tgt rest) (kf : ¬ x < y → mJ p l e R s m args below meth c D cl ty b nL Q cells slots T I P lv (pc + 3) rest) : mJ p l e R s m args below meth c D cl ty b nL Q cells slots T I P lv pc (.int y :: .int x :: rest) := fun H locs ls h1 h2 h3 => lv_icmp_lt X.1 X.2.1 hd ht (fun q => kt q H locs ls h1 h2 h3) (fun q => kf q H locs ls h1 h2 h3)
theorem mJ_if_lt (X : mX p s m meth c args cc nL own ret TT NN D cl b) {x : Int32} {off : Int} {tgt : Nat} (hd : decode cc pc = .ok (.ifCond .lt off, 3)) (ht : (pc : Int) + off = (tgt : Int)) (kt : x < 0 → mJ p l e R s m args below meth c D cl ty b nL Q cells slots T I P lv tgt rest) (kf : ¬ x < 0 → mJ p l e R s m args below meth c D cl ty b nL Q cells slots T I P lv (pc + 3) rest) : mJ p l e R s m args below meth c D cl ty b nL Q cells slots T I P lv pc (.int x :: rest) := fun H locs ls h1 h2 h3 => lv_if_lt X.1 X.2.1 hd ht (fun q => kt q H locs ls h1 h2 h3) (fun q => kf q H locs ls h1 h2 h3)
theorem mJ_icmp_ge (X : mX p s m meth c args cc nL own ret TT NN D cl b) {x y : Int32} {off : Int} {tgt : Nat} (hd : decode cc pc = .ok (.if_icmp .ge off, 3)) (ht : (pc : Int) + off = (tgt : Int)) (kt : y ≤ x → mJ p l e R s m args below meth c D cl ty b nL Q cells slots T I P lv tgt rest) (kf : ¬ y ≤ x → mJ p l e R s m args below meth c D cl ty b nL Q cells slots T I P lv (pc + 3) rest) : mJ p l e R s m args below meth c D cl ty b nL Q cells slots T I P lv pc (.int y :: .int x :: rest) := fun H locs ls h1 h2 h3 => lv_icmp_ge X.1 X.2.1 hd ht (fun q => kt q H locs ls h1 h2 h3) (fun q => kf q H locs ls h1 h2 h3)
theorem mJ_if_ge (X : mX p s m meth c args cc nL own ret TT NN D cl b) {x : Int32} {off : Int} {tgt : Nat} (hd : decode cc pc = .ok (.ifCond .ge off, 3)) (ht : (pc : Int) + off = (tgt : Int)) (kt : 0 ≤ x → mJ p l e R s m args below meth c D cl ty b nL Q cells slots T I P lv tgt rest) (kf : ¬ 0 ≤ x → mJ p l e R s m args below meth c D cl ty b nL Q cells slots T I P lv (pc + 3) rest) : mJ p l e R s m args below meth c D cl ty b nL Q cells slots T I P lv pc (.int x :: rest) := fun H locs ls h1 h2 h3 => lv_if_ge X.1 X.2.1 hd ht (fun q => kt q H locs ls h1 h2 h3) (fun q => kf q H locs ls h1 h2 h3)
theorem mJ_icmp_gt (X : mX p s m meth c args cc nL own ret TT NN D cl b) {x y : Int32} {off : Int} {tgt : Nat} (hd : decode cc pc = .ok (.if_icmp .gt off, 3)) (ht : (pc : Int) + off = (tgt : Int)) (kt : y < x → mJ p l e R s m args below meth c D cl ty b nL Q cells slots T I P lv tgt rest) (kf : ¬ y < x → mJ p l e R s m args below meth c D cl ty b nL Q cells slots T I P lv (pc + 3) rest) : mJ p l e R s m args below meth c D cl ty b nL Q cells slots T I P lv pc (.int y :: .int x :: rest) := fun H locs ls h1 h2 h3 => lv_icmp_gt X.1 X.2.1 hd ht (fun q => kt q H locs ls h1 h2 h3) (fun q => kf q H locs ls h1 h2 h3)
theorem mJ_if_gt (X : mX p s m meth c args cc nL own ret TT NN D cl b) {x : Int32} {off : Int} {tgt : Nat} (hd : decode cc pc = .ok (.ifCond .gt off, 3)) (ht : (pc : Int) + off = (tgt : Int)) (kt : 0 < x → mJ p l e R s m args below meth c D cl ty b nL Q cells slots T I P lv tgt rest) (kf : ¬ 0 < x → mJ p l e R s m args below meth c D cl ty b nL Q cells slots T I P lv (pc + 3) rest) : mJ p l e R s m args below meth c D cl ty b nL Q cells slots T I P lv pc (.int x :: rest) := fun H locs ls h1 h2 h3 => lv_if_gt X.1 X.2.1 hd ht (fun q => kt q H locs ls h1 h2 h3) (fun q => kf q H locs ls h1 h2 h3)
theorem mJ_icmp_le (X : mX p s m meth c args cc nL own ret TT NN D cl b) {x y : Int32} {off : Int} {tgt : Nat} (hd : decode cc pc = .ok (.if_icmp .le off, 3)) (ht : (pc : Int) + off = (tgt : Int)) (kt : x ≤ y → mJ p l e R s m args below meth c D cl ty b nL Q cells slots T I P lv tgt rest) (kf : ¬ x ≤ y → mJ p l e R s m args below meth c D cl ty b nL Q cells slots T I P lv (pc + 3) rest) : mJ p l e R s m args below meth c D cl ty b nL Q cells slots T I P lv pc (.int y :: .int x :: rest) := fun H locs ls h1 h2 h3 => lv_icmp_le X.1 X.2.1 hd ht (fun q => kt q H locs ls h1 h2 h3) (fun q => kf q H locs ls h1 h2 h3)
theorem mJ_if_le (X : mX p s m meth c args cc nL own ret TT NN D cl b) {x : Int32} {off : Int} {tgt : Nat} (hd : decode cc pc = .ok (.ifCond .le off, 3)) (ht : (pc : Int) + off = (tgt : Int)) (kt : x ≤ 0 → mJ p l e R s m args below meth c D cl ty b nL Q cells slots T I P lv tgt rest) (kf : ¬ x ≤ 0 → mJ p l e R s m args below meth c D cl ty b nL Q cells slots T I P lv (pc + 3) rest) : mJ p l e R s m args below meth c D cl ty b nL Q cells slots T I P lv pc (.int x :: rest) := fun H locs ls h1 h2 h3 => lv_if_le X.1 X.2.1 hd ht (fun q => kt q H locs ls h1 h2 h3) (fun q => kf q H locs ls h1 h2 h3)
theorem mJ_goto (X : mX p s m meth c args cc nL own ret TT NN D cl b) {off : Int} {tgt : Nat} (hd : decode cc pc = .ok (.goto off, 3)) (ht : (pc : Int) + off = (tgt : Int)) (k : mJ p l e R s m args below meth c D cl ty b nL Q cells slots T I P lv tgt rest) : mJ p l e R s m args below meth c D cl ty b nL Q cells slots T I P lv pc rest := fun H locs ls h1 h2 h3 => lv_goto X.1 X.2.1 hd ht (k H locs ls h1 h2 h3)
theorem mJ_tabOut (X : mX p s m meth c args cc nL own ret TT NN D cl b) {dflt lo hi : Int} {offs : Array Int} {len : Nat} {x : Int32} {tgt : Nat} (hd : decode cc pc = .ok (.tableswitch dflt lo hi offs, len)) (h : x.toInt < lo ∨ hi < x.toInt) (ht : (pc : Int) + dflt = (tgt : Int)) (k : mJ p l e R s m args below meth c D cl ty b nL Q cells slots T I P lv tgt rest) : mJ p l e R s m args below meth c D cl ty b nL Q cells slots T I P lv pc (.int x :: rest) := fun H locs ls h1 h2 h3 => lv_tableOut X.1 X.2.1 hd h ht (k H locs ls h1 h2 h3)
theorem mJ_tabIn (X : mX p s m meth c args cc nL own ret TT NN D cl b) {dflt lo hi : Int} {offs : Array Int} {len : Nat} {x : Int32} {off : Int} {tgt : Nat} (hd : decode cc pc = .ok (.tableswitch dflt lo hi offs, len)) (g1 : ¬ x.toInt < lo) (g2 : ¬ hi < x.toInt) (ho : offs[(x.toInt - lo).toNat]? = some off) (ht : (pc : Int) + off = (tgt : Int)) (k : mJ p l e R s m args below meth c D cl ty b nL Q cells slots T I P lv tgt rest) : mJ p l e R s m args below meth c D cl ty b nL Q cells slots T I P lv pc (.int x :: rest) := fun H locs ls h1 h2 h3 => lv_tableIn X.1 X.2.1 hd g1 g2 ho ht (k H locs ls h1 h2 h3)
theorem mJ_lookup (X : mX p s m meth c args cc nL own ret TT NN D cl b) {dflt : Int} {ps : Array (Int × Int)} {len : Nat} {x : Int32} {off : Int} {tgt : Nat} (hd : decode cc pc = .ok (.lookupswitch dflt ps, len)) (hp : (ps.toList.zip (ps.toList.drop 1)).all (fun (a, next) => a.1 < next.1) = true) (ho : Op.lookupswitch.offset ps.toList dflt x.toInt = off) (ht : (pc : Int) + off = (tgt : Int)) (k : mJ p l e R s m args below meth c D cl ty b nL Q cells slots T I P lv tgt rest) : mJ p l e R s m args below meth c D cl ty b nL Q cells slots T I P lv pc (.int x :: rest) := fun H locs ls h1 h2 h3 => lv_lookup X.1 X.2.1 hd hp ho ht (k H locs ls h1 h2 h3)
theorem mJ_get (X : mX p s m meth c args cc nL own ret TT NN D cl b) {a ci k idx : Nat} {C : String} {F : u_T} {N : Nat} (hC : mCl cl ty TT ci C F N) (hT : T a = some (0, ci, 0)) (hk : k < N) (hlink : Cond.fieldLink own idx (F k).1 (F k).2.1 (F k).2.2.1 ∈ TT) {v : Value} (hv : mv (ty ci k) (I a k) (P a k) = v) (hd : decode cc pc = .ok (.getfield idx, 3))
    (kk : mJ p l e R s m args below meth c D cl ty b nL Q cells slots T I P lv (pc + 3) (v :: rest)) : mJ p l e R s m args below meth c D cl ty b nL Q cells slots T I P lv pc (.ref a :: rest) := by
  intro H locs ls h1 h2 h3
  obtain ⟨hx, hb, hml, hown, hts, hK, hbs, hret, hlk, hNs, hG, hNw⟩ := X
  obtain ⟨hba, q, hq, cell, q1, q2, q3, q4⟩ := h1 a _ hT
  obtain rfl : q = (C, F, N) := Option.some.inj (hq.symm.trans hC.1)
  obtain ⟨hS, hfc, kC, hkC, hkind⟩ := hK.1 ci _ hC.1
  obtain ⟨cf, kf, fi, f, hi, hsl⟩ := hS k hk
  refine W.getf hx hb hown (hts _ hlink) hi (u_facts hfc hkC (u_lays hts hC.2.1 hk) hi).1 q1 (by rw [q3]; exact fun h => by cases h) (v := v) ?_ rfl rfl hd (kk H locs ls h1 h2 h3)
  rw [hsl]
  exact (q4 k hk).trans (congrArg some hv)
theorem mJ_putA (X : mX p s m meth c args cc nL own ret TT NN D cl b) {a ci k idx : Nat} {C : String} {F : u_T} {N : Nat} (hC : mCl cl ty TT ci C F N) (hT : T a = some (0, ci, 0)) (hk : k < N) (hlink : Cond.fieldLink own idx (F k).1 (F k).2.1 (F k).2.2.1 ∈ TT) {v : Value} {I' : mI} {P' : mP} (hfin : (F k).2.2.2 = false ∨ ((F k).2.2.2 = true ∧ meth.name = "<init>" ∧ (F k).1 = own)) (hn : narrow (ty ci k) v = v) (hfit : fits (ty ci k) v = true)
    (hIo : ∀ x, x ≠ a → I' x = I x) (hPo : ∀ x, x ≠ a → P' x = P x) (hv : ∀ j, updV (fun j => mv (ty ci j) (I a j) (P a j)) k v j = mv (ty ci j) (I' a j) (P' a j)) (hd : decode cc pc = .ok (.putfield idx, 3))
    (kk : mJ p l e R s m args below meth c D cl ty b nL Q cells slots T I' P' lv (pc + 3) rest) : mJ p l e R s m args below meth c D cl ty b nL Q cells slots T I P lv pc (v :: .ref a :: rest) := by
  intro H locs ls h1 h2 h3
  obtain ⟨hx, hb, hml, hown, hts, hK, hbs, hret, hlk, hNs, hG, hNw⟩ := X
  have hap := va_apart (own := own) hts hC.2.1 (ty ci) hC.2.2.1 hC.2.2.2 hK hC.1
  obtain ⟨hba, q, hq, cell, q1, q2, q3, q4⟩ := h1 a _ hT
  obtain rfl : q = (C, F, N) := Option.some.inj (hq.symm.trans hC.1)
  obtain ⟨hS, hfc, kC, hkC, hkind⟩ := hK.1 ci _ hC.1
  obtain ⟨cf, kf, fi, f, hi, hsl⟩ := hS k hk
  have hlay := hts _ (hC.2.1 _ (u_in_lay hk))
  have hst := (u_facts hfc hkC (u_lays hts hC.2.1 hk) hi).1
  unfold u_lay at hlay
  have fin : ∀ H1 : Heap, H1[a]? = some (cell.setSlot f.slot v) → H1.size = H.size → (∀ q : Nat, q ≠ a → H1[q]? = H[q]?) → W p l e R s m args below meth c H1 (locs ++ [⟨a, f.slot⟩]) cells slots Q (F0 m (pc + 3) ls rest) := by
    intro H1 e1 e2 e3
    refine kk H1 _ ls (h1.put hT hIo hPo e3 ⟨_, hC.1, ?_⟩) (h2.put e2 e3 hba) h3
    rw [hsl] at e1
    exact t_OB.to ⟨_, e1, q2, q3, t_set q4 hap hk v⟩ (fun j _ => hv j)
  rcases hfin with hfin | ⟨hfin, hin2, hdecl⟩
  · rw [if_neg (by rw [hfin]; decide)] at hlay
    have h6 := u_store hfc hkC hkind hlay hi (hC.2.2.1 k hk) hn hfit
    exact W.putK hx hb (f := f) ⟨hown, hts _ hlink, ⟨_, _, _, hi⟩, hst⟩ (by rw [q2]; exact h6) q1 q3 (by rw [hsl]; exact k2_hasslot (q4 k hk)) rfl rfl hd fin
  · rw [if_pos hfin] at hlay
    have hcf : m.cls = cf := by
      obtain ⟨_, _, c', _, _, _, -, -, hf', -, -, -, hown2, -⟩ := Cond.laysFinal_spec hlay
      have e1 : c' = cf := by have := hi.symm.trans hf'; simp at this; exact this.1.symm
      rw [hdecl] at hown2
      rw [← e1]; exact Option.some.inj (hown.symm.trans hown2)
    have h6 := u_fits hfc hkC hkind (Or.inr hlay) hi (hC.2.2.1 k hk) hn hfit
    exact W.putFinK hx hb hown (hts _ hlink) hi hst hcf hin2 (by rw [q2]; exact h6) q1 q3 (by rw [hsl]; exact k2_hasslot (q4 k hk)) rfl rfl hd fin
/-- a number into a field -/
theorem mJ_putI (X : mX p s m meth c args cc nL own ret TT NN D cl b) {a ci k idx : Nat} {C : String} {F : u_T} {N : Nat} (hC : mCl cl ty TT ci C F N) (hT : T a = some (0, ci, 0)) (hk : k < N) (hlink : Cond.fieldLink own idx (F k).1 (F k).2.1 (F k).2.2.1 ∈ TT) {v : Int32} (hfin : (F k).2.2.2 = false ∨ ((F k).2.2.2 = true ∧ meth.name = "<init>" ∧ (F k).1 = own)) (hn : narrow (ty ci k) (.int v) = .int v) (hfit : fits (ty ci k) (.int v) = true) (hty : ∀ x r, mv (ty ci k) x r = .int x) (hd : decode cc pc = .ok (.putfield idx, 3))
    (kk : ∀ I' : mI, I' = mu I a k v → mJ p l e R s m args below meth c D cl ty b nL Q cells slots T I' P lv (pc + 3) rest) : mJ p l e R s m args below meth c D cl ty b nL Q cells slots T I P lv pc (.int v :: .ref a :: rest) := by
  refine mJ_putA X hC hT hk hlink hfin hn hfit (I' := mu I a k v) (P' := P) (fun x hx => mu_row I k v hx) (fun _ _ => rfl) (fun j => ?_) hd (kk _ rfl)
  by_cases hj : j = k
  · subst hj
    simp [updV, mu_eq, hty]
  · simp [updV, hj, mu_ns I a v hj]
/-- a reference into a field -/
theorem mJ_putR (X : mX p s m meth c args cc nL own ret TT NN D cl b) {a ci k idx : Nat} {C : String} {F : u_T} {N : Nat} (hC : mCl cl ty TT ci C F N) (hT : T a = some (0, ci, 0)) (hk : k < N) (hlink : Cond.fieldLink own idx (F k).1 (F k).2.1 (F k).2.2.1 ∈ TT) {v : Nat} (hfin : (F k).2.2.2 = false ∨ ((F k).2.2.2 = true ∧ meth.name = "<init>" ∧ (F k).1 = own)) (hn : narrow (ty ci k) (.ref v) = .ref v) (hfit : fits (ty ci k) (.ref v) = true) (hty : ∀ x r, mv (ty ci k) x r = va_rf r) (hd : decode cc pc = .ok (.putfield idx, 3))
    (kk : ∀ P' : mP, P' = mu P a k (some v) → mJ p l e R s m args below meth c D cl ty b nL Q cells slots T I P' lv (pc + 3) rest) : mJ p l e R s m args below meth c D cl ty b nL Q cells slots T I P lv pc (.ref v :: .ref a :: rest) := by
  refine mJ_putA X hC hT hk hlink hfin hn hfit (I' := I) (P' := mu P a k (some v)) (fun _ _ => rfl) (fun x hx => mu_row P k (some v) hx) (fun j => ?_) hd (kk _ rfl)
  by_cases hj : j = k
  · subst hj
    simp [updV, mu_eq, hty, va_rf]
  · simp [updV, hj, mu_ns P a (some v) hj]
theorem mJ_iald (X : mX p s m meth c args cc nL own ret TT NN D cl b) {a n : Nat} {i : Int32} (hT : T a = some (1, 0, n)) (hin : vp_in i n) (hd : decode cc pc = .ok (.iaload, 1))
    (kk : mJ p l e R s m args below meth c D cl ty b nL Q cells slots T I P lv (pc + 1) (.int (I a i.toNatClampNeg) :: rest)) : mJ p l e R s m args below meth c D cl ty b nL Q cells slots T I P lv pc (.int i :: .ref a :: rest) := by
  intro H locs ls h1 h2 h3
  obtain ⟨hba, cA, ⟨g1, g2⟩, g3⟩ := h1 a _ hT
  have hlt : i.toNatClampNeg < n := Nat.not_le.mp fun q => hin (Or.inr q)
  exact W.iald (v := .int (I a i.toNatClampNeg)) X.1 X.2.1 g3 (g1 n (fun j => .int (I a j))) (fun q => by cases q) (by show ¬ (i < 0 ∨ (arrV _ _ _).slots.size ≤ _); rw [arrV_size]; exact hin) (by show (arrV _ _ _).slots[_]? = _; rw [arrV_read _ _ hlt]) rfl rfl hd (kk H locs ls h1 h2 h3)
theorem mJ_iast (X : mX p s m meth c args cc nL own ret TT NN D cl b) {a n : Nat} {i x : Int32} (hT : T a = some (1, 0, n)) (hin : vp_in i n) (hd : decode cc pc = .ok (.iastore, 1))
    (kk : ∀ I' : mI, I' = mu I a i.toNatClampNeg x → mJ p l e R s m args below meth c D cl ty b nL Q cells slots T I' P lv (pc + 1) rest) : mJ p l e R s m args below meth c D cl ty b nL Q cells slots T I P lv pc (.int x :: .int i :: .ref a :: rest) := by
  intro H locs ls h1 h2 h3
  obtain ⟨hba, cA, ⟨g1, g2⟩, g3⟩ := h1 a _ hT
  refine W.iast X.1 X.2.1 g3 (g1 n (fun j => .int (I a j))) (fun q => by cases q) (by show ¬ (i < 0 ∨ (arrV _ _ _).slots.size ≤ _); rw [arrV_size]; exact hin) rfl rfl hd fun H1 e z oq => ?_
  refine kk _ rfl H1 _ ls (h1.put hT (fun y hy => mu_row I _ x hy) (fun _ _ => rfl) oq ⟨cA, ⟨g1, g2⟩, ?_⟩) (h2.put z oq hba) h3
  show H1[a]? = some (arrV cA n _)
  rw [e, arrV_store]
  congr 2
  funext q
  by_cases hq : q = i.toNatClampNeg
  · subst hq
    simp [updV, mu_eq]
  · simp [updV, hq, mu_ns I a x hq]
theorem mJ_zald (X : mX p s m meth c args cc nL own ret TT NN D cl b) {a n : Nat} {i : Int32} (hT : T a = some (2, 0, n)) (hin : vp_in i n) (hd : decode cc pc = .ok (.baload, 1))
    (kk : mJ p l e R s m args below meth c D cl ty b nL Q cells slots T I P lv (pc + 1) (.int (I a i.toNatClampNeg) :: rest)) : mJ p l e R s m args below meth c D cl ty b nL Q cells slots T I P lv pc (.int i :: .ref a :: rest) := by
  intro H locs ls h1 h2 h3
  obtain ⟨hba, cA, ⟨g1, g2⟩, g3⟩ := h1 a _ hT
  have hlt : i.toNatClampNeg < n := Nat.not_le.mp fun q => hin (Or.inr q)
  exact W.zald (v := .int (I a i.toNatClampNeg)) X.1 X.2.1 g3 (g1 n (fun j => .int (I a j))) (fun q => by cases q) (by show ¬ (i < 0 ∨ (arrV _ _ _).slots.size ≤ _); rw [arrV_size]; exact hin) (by show (arrV _ _ _).slots[_]? = _; rw [arrV_read _ _ hlt]) rfl rfl hd (kk H locs ls h1 h2 h3)
theorem mJ_zast (X : mX p s m meth c args cc nL own ret TT NN D cl b) {a n : Nat} {i x : Int32} (hT : T a = some (2, 0, n)) (hin : vp_in i n) (hx : vp_nar .boolean x = x) (hd : decode cc pc = .ok (.bastore, 1))
    (kk : ∀ I' : mI, I' = mu I a i.toNatClampNeg x → mJ p l e R s m args below meth c D cl ty b nL Q cells slots T I' P lv (pc + 1) rest) : mJ p l e R s m args below meth c D cl ty b nL Q cells slots T I P lv pc (.int x :: .int i :: .ref a :: rest) := by
  intro H locs ls h1 h2 h3
  obtain ⟨hba, cA, ⟨g1, g2⟩, g3⟩ := h1 a _ hT
  refine W.zast X.1 X.2.1 g3 (g1 n (fun j => .int (I a j))) (fun q => by cases q) (by show ¬ (i < 0 ∨ (arrV _ _ _).slots.size ≤ _); rw [arrV_size]; exact hin) rfl rfl hd fun H1 e z oq => ?_
  refine kk _ rfl H1 _ ls (h1.put hT (fun y hy => mu_row I _ x hy) (fun _ _ => rfl) oq ⟨cA, ⟨g1, g2⟩, ?_⟩) (h2.put z oq hba) h3
  show H1[a]? = some (arrV cA n _)
  rw [e, arrV_store]
  congr 2
  funext q
  by_cases hq : q = i.toNatClampNeg
  · subst hq
    have hx' : narrow .boolean (.int x) = .int x := by
      have h9 : narrow .boolean (.int x) = .int (vp_nar .boolean x) := rfl
      rw [h9, hx]
    simp [updV, mu_eq, hx']
  · simp [updV, hq, mu_ns I a x hq]
theorem mJ_aald (X : mX p s m meth c args cc nL own ret TT NN D cl b) {a j n y : Nat} {i : Int32} (hT : T a = some (j + 3, 0, n)) (hin : vp_in i n) (hr : P a i.toNatClampNeg = some y) (hd : decode cc pc = .ok (.aaload, 1))
    (kk : mJ p l e R s m args below meth c D cl ty b nL Q cells slots T I P lv (pc + 1) (.ref y :: rest)) : mJ p l e R s m args below meth c D cl ty b nL Q cells slots T I P lv pc (.int i :: .ref a :: rest) := by
  intro H locs ls h1 h2 h3
  obtain ⟨hba, cA, ⟨q0, g0, g1, g2⟩, g3⟩ := h1 a _ hT
  have hlt : i.toNatClampNeg < n := Nat.not_le.mp fun q => hin (Or.inr q)
  exact W.aald (v := .ref y) (ty := .object q0.1) X.1 X.2.1 g3 (g1 n (fun j => va_rf (P a j))) rfl (fun q => by cases q) (by show ¬ (i < 0 ∨ (arrV _ _ _).slots.size ≤ _); rw [arrV_size]; exact hin) (by show (arrV _ _ _).slots[_]? = _; rw [arrV_read _ _ hlt, hr]; rfl) rfl rfl hd (kk H locs ls h1 h2 h3)
theorem mJ_aast (X : mX p s m meth c args cc nL own ret TT NN D cl b) {a j n v : Nat} {i : Int32} (hT : T a = some (j + 3, 0, n)) (hv : T v = some (0, j, 0)) (hin : vp_in i n) (hd : decode cc pc = .ok (.aastore, 1))
    (kk : ∀ P' : mP, P' = mu P a i.toNatClampNeg (some v) → mJ p l e R s m args below meth c D cl ty b nL Q cells slots T I P' lv (pc + 1) rest) : mJ p l e R s m args below meth c D cl ty b nL Q cells slots T I P lv pc (.ref v :: .int i :: .ref a :: rest) := by
  intro H locs ls h1 h2 h3
  obtain ⟨hba, cA, ⟨q0, g0, g1, kA, comp, k1, k2, k3, k4⟩, g3⟩ := h1 a _ hT
  obtain ⟨hbv, q', hq', cellV, w1, w2, w3, -⟩ := h1 v _ hv
  have hlt : i.toNatClampNeg < n := Nat.not_le.mp fun q => hin (Or.inr q)
  have h0 : ¬ i < 0 := fun q => hin (Or.inl q)
  have hcls := (X.2.2.2.2.2.1.1 j q0 g0).2
  obtain rfl : comp = D.1 j := Option.some.inj (k3.symm.trans hcls.1)
  obtain ⟨kC, hkC, -⟩ := hcls.2
  refine W.aast X.1 X.2.1 g3 (fun q h => by cases h) (fun h => by cases h) k1 k2 rfl hkC ⟨h0, by show _ < (arrV _ _ _).slots.size; rw [arrV_size]; exact hlt⟩ w1 (fun q h => by rw [w3] at h; cases h) (by rw [w2]; exact hkC) (by rw [w2]; exact va_assign hcls) rfl rfl hd fun H1 e z oq => ?_
  refine kk _ rfl H1 _ ls (h1.put hT (fun _ _ => rfl) (fun y hy => mu_row P _ (some v) hy) oq ⟨cA, ⟨q0, g0, g1, kA, _, k1, k2, k3, k4⟩, ?_⟩) (h2.put z oq hba) h3
  show H1[a]? = some (arrV cA n _)
  rw [e, arrV_store]
  congr 2
  funext q
  by_cases hq : q = i.toNatClampNeg
  · subst hq
    simp [updV, mu_eq, va_rf]
  · simp [updV, hq, mu_ns P a (some v) hq]
theorem mJ_alen (X : mX p s m meth c args cc nL own ret TT NN D cl b) {a n : Nat} {v : Int32} (hT : T a = some (1, 0, n)) (hv : Int32.ofNat n = v) (hd : decode cc pc = .ok (.arraylength, 1))
    (kk : mJ p l e R s m args below meth c D cl ty b nL Q cells slots T I P lv (pc + 1) (.int v :: rest)) : mJ p l e R s m args below meth c D cl ty b nL Q cells slots T I P lv pc (.ref a :: rest) := by
  intro H locs ls h1 h2 h3
  subst hv
  obtain ⟨hba, cA, ⟨g1, g2⟩, g3⟩ := h1 a _ hT
  exact W.alen (n := Int32.ofNat n) X.1 X.2.1 g3 (g1 n (fun j => .int (I a j))) (by rw [arrV_size] <;> rfl) rfl rfl hd (kk H locs ls h1 h2 h3)
theorem mJ_alenR (X : mX p s m meth c args cc nL own ret TT NN D cl b) {a j n : Nat} {v : Int32} (hT : T a = some (j + 3, 0, n)) (hv : Int32.ofNat n = v) (hd : decode cc pc = .ok (.arraylength, 1))
    (kk : mJ p l e R s m args below meth c D cl ty b nL Q cells slots T I P lv (pc + 1) (.int v :: rest)) : mJ p l e R s m args below meth c D cl ty b nL Q cells slots T I P lv pc (.ref a :: rest) := by
  intro H locs ls h1 h2 h3
  subst hv
  obtain ⟨hba, cA, ⟨q0, g0, g1, g2⟩, g3⟩ := h1 a _ hT
  exact W.alen (n := Int32.ofNat n) X.1 X.2.1 g3 (g1 n (fun j => va_rf (P a j))) (by rw [arrV_size] <;> rfl) rfl rfl hd (kk H locs ls h1 h2 h3)
/-- the memory with one more cell of zeros -/
abbrev mTn (T : mT) (q : Nat) (sh : Nat × Nat × Nat) : mT := fun x => if x = q then some sh else T x
abbrev mIn (I : mI) (q : Nat) : mI := fun x y => if x = q then 0 else I x y
abbrev mPn (P : mP) (q : Nat) : mP := fun x y => if x = q then none else P x y
theorem mJ_new (X : mX p s m meth c args cc nL own ret TT NN D cl b) {ci idx : Nat} {C : String} {F : u_T} {N : Nat} (hC : mCl cl ty TT ci C F N) (hcl : Cond.classLink own idx C ∈ TT) (hinst : Cond.instantiable C N ∈ TT) (hini : Cond.initialized C ∈ TT) (hdef : ∀ j, j < N → defaultValue (ty ci j) = mv (ty ci j) 0 none) (hcells : cells + 1 ≤ R.cells) (hslots : slots + N ≤ R.slots) (hd : decode cc pc = .ok (.new idx, 3))
    (kk : ∀ q : Nat, T q = none → b ≤ q → mJ p l e R s m args below meth c D cl ty b nL Q (cells + 1) (slots + N) (mTn T q (0, ci, 0)) (mIn I q) (mPn P q) lv (pc + 3) (.ref q :: rest)) : mJ p l e R s m args below meth c D cl ty b nL Q cells slots T I P lv pc rest := by
  intro H locs ls h1 h2 h3
  obtain ⟨hx, hb, hml, hown, hts, hK, hbs, hret, hlk, hNs, hG, hNw⟩ := X
  have hKn := hK.1 ci _ hC.1
  have hbH : b ≤ H.size := Nat.le_trans hbs h2.1
  refine W.newcK hx hb hown (hts _ hcl) (hts _ hinst) (hts _ hini) rfl hd hcells hslots hKn.2.1 rfl fun H1 kC hkC e1 z1 o1 => ?_
  refine kk H.size ?_ hbH H1 _ ls (h1.new hbH (fun x hx => by funext y; simp [hx]) (fun x hx => by funext y; simp [hx]) o1 ⟨_, hC.1, ?_⟩) ⟨Nat.le_trans h2.1 (by omega), fun x g1 g2 => (o1 x (Nat.lt_of_lt_of_le g1 h2.1)).trans (h2.2.1 x g1 g2), h2.2.2⟩ h3
  · cases hq : T H.size with
    | none => rfl
    | some sh => exact absurd (h1 _ _ hq).2.lt (Nat.lt_irrefl _)
  · refine (u_born (ty ci) hts hC.2.1 hKn hkC e1 hC.2.2.1).to (fun j hj => ?_)
    simp [hdef j hj, mIn, mPn]
theorem mJ_newa (X : mX p s m meth c args cc nL own ret TT NN D cl b) {n : Int32} {N : Nat} {atype : ArrayType} (hat : newarray.typeOf atype = .int) (harr : Cond.arrayClass .int ∈ TT) (hn : ¬ n < 0) (hN : n.toNatClampNeg = N) (hbytes : N * componentBytes .int ≤ 536870912) (hcells : cells + 1 ≤ R.cells) (hslots : slots + N ≤ R.slots) (hd : decode cc pc = .ok (.newarray atype, 2))
    (kk : ∀ q : Nat, T q = none → b ≤ q → mJ p l e R s m args below meth c D cl ty b nL Q (cells + 1) (slots + N) (mTn T q (1, 0, N)) (mIn I q) (mPn P q) lv (pc + 2) (.ref q :: rest)) : mJ p l e R s m args below meth c D cl ty b nL Q cells slots T I P lv pc (.int n :: rest) := by
  intro H locs ls h1 h2 h3
  obtain ⟨hx, hb, hml, hown, hts, hK, hbs, hret, hlk, hNs, hG, hNw⟩ := X
  have hbH : b ≤ H.size := Nat.le_trans hbs h2.1
  refine va_newaK hx hb (by rw [hat]; exact hts _ harr) rfl hd rfl hn hN (by rw [hat]; exact hbytes) hcells hslots rfl fun H1 cA e1 z1 o1 hAr hNm => ?_
  rw [hat] at e1 hAr hNm
  refine kk H.size ?_ hbH H1 _ ls (h1.new hbH (fun x hx => by funext y; simp [hx]) (fun x hx => by funext y; simp [hx]) o1 ⟨cA, ⟨hAr, hNm⟩, ?_⟩) ⟨Nat.le_trans h2.1 (by omega), fun x g1 g2 => (o1 x (Nat.lt_of_lt_of_le g1 h2.1)).trans (h2.2.1 x g1 g2), h2.2.2⟩ h3
  · cases hq : T H.size with
    | none => rfl
    | some sh => exact absurd (h1 _ _ hq).2.lt (Nat.lt_irrefl _)
  · simpa [defaultValue, mIn] using e1
theorem mJ_newz (X : mX p s m meth c args cc nL own ret TT NN D cl b) {n : Int32} {N : Nat} {atype : ArrayType} (hat : newarray.typeOf atype = .boolean) (harr : Cond.arrayClass .boolean ∈ TT) (hn : ¬ n < 0) (hN : n.toNatClampNeg = N) (hbytes : N * componentBytes .boolean ≤ 536870912) (hcells : cells + 1 ≤ R.cells) (hslots : slots + N ≤ R.slots) (hd : decode cc pc = .ok (.newarray atype, 2))
    (kk : ∀ q : Nat, T q = none → b ≤ q → mJ p l e R s m args below meth c D cl ty b nL Q (cells + 1) (slots + N) (mTn T q (2, 0, N)) (mIn I q) (mPn P q) lv (pc + 2) (.ref q :: rest)) : mJ p l e R s m args below meth c D cl ty b nL Q cells slots T I P lv pc (.int n :: rest) := by
  intro H locs ls h1 h2 h3
  obtain ⟨hx, hb, hml, hown, hts, hK, hbs, hret, hlk, hNs, hG, hNw⟩ := X
  have hbH : b ≤ H.size := Nat.le_trans hbs h2.1
  refine va_newaK hx hb (by rw [hat]; exact hts _ harr) rfl hd rfl hn hN (by rw [hat]; exact hbytes) hcells hslots rfl fun H1 cA e1 z1 o1 hAr hNm => ?_
  rw [hat] at e1 hAr hNm
  refine kk H.size ?_ hbH H1 _ ls (h1.new hbH (fun x hx => by funext y; simp [hx]) (fun x hx => by funext y; simp [hx]) o1 ⟨cA, ⟨hAr, hNm⟩, ?_⟩) ⟨Nat.le_trans h2.1 (by omega), fun x g1 g2 => (o1 x (Nat.lt_of_lt_of_le g1 h2.1)).trans (h2.2.1 x g1 g2), h2.2.2⟩ h3
  · cases hq : T H.size with
    | none => rfl
    | some sh => exact absurd (h1 _ _ hq).2.lt (Nat.lt_irrefl _)
  · simpa [defaultValue, mIn] using e1
theorem mJ_newq (X : mX p s m meth c args cc nL own ret TT NN D cl b) {n : Int32} {N j idx : Nat} {q0 : vw_C} (hc : cl[j]? = some q0) (hcl : Cond.classLink own idx q0.1 ∈ TT) (hov : (Cond.arrayOver (.object q0.1)).before args s = true) (hn : ¬ n < 0) (hN : n.toNatClampNeg = N) (hbytes : N * 4 ≤ 536870912) (hcells : cells + 1 ≤ R.cells) (hslots : slots + N ≤ R.slots) (hd : decode cc pc = .ok (.anewarray idx, 3))
    (kk : ∀ q : Nat, T q = none → b ≤ q → mJ p l e R s m args below meth c D cl ty b nL Q (cells + 1) (slots + N) (mTn T q (j + 3, 0, N)) (mIn I q) (mPn P q) lv (pc + 3) (.ref q :: rest)) : mJ p l e R s m args below meth c D cl ty b nL Q cells slots T I P lv pc (.int n :: rest) := by
  intro H locs ls h1 h2 h3
  obtain ⟨hx, hb, hml, hown, hts, hK, hbs, hret, hlk, hNs, hG, hNw⟩ := X
  have hbH : b ≤ H.size := Nat.le_trans hbs h2.1
  subst hN
  refine W.anew hx hb hown (hts _ hcl) hov rfl hd rfl hn hbytes hcells hslots fun cA kA comp f1 f2 f3 f4 => ?_
  generalize hH1 : H.push ({ cls := cA, slots := Array.replicate n.toNatClampNeg .null, vm := .none } : Cell) = H1
  have z1 : H1.size = H.size + 1 := by rw [← hH1, Array.size_push]
  have e1 : H1[H.size]? = some (arrV cA n.toNatClampNeg (fun _ => .null)) := by rw [← hH1, Array.getElem?_push_size, ← arrV_new]
  have o1 : ∀ q : Nat, q < H.size → H1[q]? = H[q]? := fun q hq => by rw [← hH1, Array.getElem?_push, if_neg (Nat.ne_of_lt hq)]
  have hAr : ArrOfT s cA (.object q0.1) := fun N z => ⟨(fun k h => by cases h), kA, f2, comp, f3⟩
  refine kk H.size ?_ hbH H1 _ ls (h1.new hbH (fun x hx => by funext y; simp [hx]) (fun x hx => by funext y; simp [hx]) o1 ⟨cA, ⟨q0, hc, hAr, kA, comp, f2, f3, f4, f1⟩, ?_⟩) ⟨Nat.le_trans h2.1 (by omega), fun x g1 g2 => (o1 x (Nat.lt_of_lt_of_le g1 h2.1)).trans (h2.2.1 x g1 g2), h2.2.2⟩ h3
  · cases hq : T H.size with
    | none => rfl
    | some sh => exact absurd (h1 _ _ hq).2.lt (Nat.lt_irrefl _)
  · simpa [va_rf, mPn] using e1
end MJ
/-- a contract's start and end over the memory -/
def mPre (D : va_G) (cl : List vw_C) (ty : Nat → Nat → FieldType) (b : Nat) (NN : State → Prop) (T : mT) (I : mI) (P : mP) (av : List Value) : Array Value → State → Prop := fun v U => v = av.toArray ∧ b ≤ U.heap.size ∧ va_K D cl [] U ∧ mW D cl ty b T I P U U.heap ∧ NN U
def mPost (D : va_G) (cl : List vw_C) (ty : Nat → Nat → FieldType) (b : Nat) (post : Option Value → mT → mI → mP → Prop) : Array Value → State → Outcome → State → Prop := fun _ st o t => (∃ (v : Option Value) (T' : mT) (I' : mI) (P' : mP), o = .returned v ∧ post v T' I' P' ∧ mW D cl ty b T' I' P' t t.heap) ∧ va_F (fun q => b ≤ q) st t
def mMet (l : Launch) (D : va_G) (cl : List vw_C) (ty : Nat → Nat → FieldType) (b : Nat) (TT : List Cond) (NN : State → Prop) (y : MethodName) (bytes : ByteArray) (maxL : Nat) (ret : Option FieldType) (rm : Room) (T : mT) (I : mI) (P : mP) (av : List Value) (post : Option Value → mT → mI → mP → Prop) : Prop :=
  Met l y (.code y bytes maxL ret :: TT) rm (mPre D cl ty b NN T I P av) (mPost D cl ty b post) rm.cells rm.slots (fun q => b ≤ q)
/-- a method by its name: its code and words -/
def mMe (TT : List Cond) (y : MethodName) (bytes : ByteArray) (maxL : Nat) (ret : Option FieldType) (n : Nat) : Prop :=
  Cond.code y bytes maxL ret ∈ TT ∧ Cond.initialized y.cls ∈ TT ∧ (y.cls ≠ "java/lang/invoke/MethodHandle" ∧ y.cls ≠ "java/lang/invoke/VarHandle") ∧ (parseMethodDescriptor y.desc).map (fun d => d.parameters.length) = some n
section MK
variable {p : Program} {l : Launch} {e : Env} {R : Room} {s : State} {m : MethodId} {args : Array Value} {below : List Frame} {meth : Method} {c : Code}
variable {D : va_G} {cl : List vw_C} {ty : Nat → Nat → FieldType} {b nL : Nat} {Q : State → Prop} {cells slots : Nat} {T : mT} {I : mI} {P : mP} {lv : List (Nat × Value)} {pc : Nat} {rest : List Value}
variable {cc : ByteArray} {own : String} {ret : Option FieldType} {TT : List Cond} {NN : State → Prop}
theorem mMet_of {y : MethodName} {bytes : ByteArray} {maxL : Nat} {ret : Option FieldType} {rm : Room} {av : List Value} {post : Option Value → mT → mI → mP → Prop} (own : String) (hown : y.cls = own) (hy : plainName y.cls = true) (hG : GoodIn TT TT) (hN : ∀ u U : State, u.WarmedH U.vm → NN u → NN U) (hav : (lg_sl av).length ≤ maxL)
    (body : ∀ p e s m args below meth c, mX p s m meth c args bytes maxL own ret TT NN D cl b → meth.name = y.name → mJ p l e rm s m args below meth c D cl ty b maxL (MQ below (mPost D cl ty b post) args s rm.cells rm.slots (fun q => b ≤ q)) 0 0 T I P (lv_args 0 av) 0 []) : mMet l D cl ty b TT NN y bytes maxL ret rm T I P av post := by
  refine Met.ofW (cc := bytes) (maxL := maxL) (ret := ret) hy rfl ?_
  intro p e s m args below meth c s₁ B hml hv
  obtain ⟨rfl, hb, hK, hW, hNs⟩ := hv
  have hts := atoms_spec (ws := .code y bytes maxL ret :: TT) B.pre
  have ho : s.vm.findClass own = some m.cls := by rw [← hown]; exact findClass_of_methodNamed B.named
  rw [lg_entry_eq]
  exact body p e s m _ below meth c ⟨B.exec, B.bytes, hml, ho, fun w hw => hts w (List.mem_cons_of_mem _ hw), hK, hb, B.returns, B.notSynchronized, hNs, hG, hN⟩ (name_of_methodNamed B.named B.method).1 s.heap [] _ hW va_S.rf (lv_entry av hav)
theorem mJ_iret (X : mX p s m meth c args cc nL own (some .int) TT NN D cl b) {post : Option Value → mT → mI → mP → Prop} {v : Int32} (hd : decode cc pc = .ok (.ireturn, 1)) (hp : post (some (.int v)) T I P) : mJ p l e R s m args below meth c D cl ty b nL (MQ below (mPost D cl ty b post) args s cells slots (fun q => b ≤ q)) cells slots T I P lv pc [.int v] :=
  fun H locs ls h1 h2 h3 => W.iret X.1 X.2.1 X.2.2.2.2.2.2.2.1 (fun t ht hW => ⟨⟨_, T, I, P, rfl, hp, by rw [ht]; exact h1.moved hW.alike⟩, h2.F ht⟩) h2.2.2 hd X.2.2.2.2.2.2.2.2.1
theorem mJ_zret (X : mX p s m meth c args cc nL own (some .boolean) TT NN D cl b) {post : Option Value → mT → mI → mP → Prop} {v : Int32} (hd : decode cc pc = .ok (.ireturn, 1)) (hn : narrow .boolean (.int v) = .int v) (hp : post (some (.int v)) T I P) : mJ p l e R s m args below meth c D cl ty b nL (MQ below (mPost D cl ty b post) args s cells slots (fun q => b ≤ q)) cells slots T I P lv pc [.int v] :=
  fun H locs ls h1 h2 h3 => W.zret X.1 X.2.1 X.2.2.2.2.2.2.2.1 hn (fun t ht hW => ⟨⟨_, T, I, P, rfl, hp, by rw [ht]; exact h1.moved hW.alike⟩, h2.F ht⟩) h2.2.2 hd X.2.2.2.2.2.2.2.2.1
theorem mJ_cret (X : mX p s m meth c args cc nL own (some .char) TT NN D cl b) {post : Option Value → mT → mI → mP → Prop} {v : Int32} (hd : decode cc pc = .ok (.ireturn, 1)) (hn : narrow .char (.int v) = .int v) (hp : post (some (.int v)) T I P) : mJ p l e R s m args below meth c D cl ty b nL (MQ below (mPost D cl ty b post) args s cells slots (fun q => b ≤ q)) cells slots T I P lv pc [.int v] :=
  fun H locs ls h1 h2 h3 => W.zret X.1 X.2.1 X.2.2.2.2.2.2.2.1 hn (fun t ht hW => ⟨⟨_, T, I, P, rfl, hp, by rw [ht]; exact h1.moved hW.alike⟩, h2.F ht⟩) h2.2.2 hd X.2.2.2.2.2.2.2.2.1
theorem mJ_vret (X : mX p s m meth c args cc nL own none TT NN D cl b) {post : Option Value → mT → mI → mP → Prop} (hd : decode cc pc = .ok (.return_, 1)) (hp : post none T I P) : mJ p l e R s m args below meth c D cl ty b nL (MQ below (mPost D cl ty b post) args s cells slots (fun q => b ≤ q)) cells slots T I P lv pc [] :=
  fun H locs ls h1 h2 h3 => W.vret X.1 X.2.1 X.2.2.2.2.2.2.2.1 (fun t ht hW => ⟨⟨_, T, I, P, rfl, hp, by rw [ht]; exact h1.moved hW.alike⟩, h2.F ht⟩) h2.2.2 hd X.2.2.2.2.2.2.2.2.1
theorem mJ_aret {rt : FieldType} (X : mX p s m meth c args cc nL own (some rt) TT NN D cl b) (hrt : (∃ n, rt = .object n) ∨ ∃ t, rt = .array t) {post : Option Value → mT → mI → mP → Prop} {v : Nat} (hd : decode cc pc = .ok (.areturn, 1)) (hp : post (some (.ref v)) T I P) : mJ p l e R s m args below meth c D cl ty b nL (MQ below (mPost D cl ty b post) args s cells slots (fun q => b ≤ q)) cells slots T I P lv pc [.ref v] :=
  fun H locs ls h1 h2 h3 => W.aret X.1 X.2.1 X.2.2.2.2.2.2.2.1 hrt (Or.inr ⟨_, rfl⟩) (fun t ht hW => ⟨⟨_, T, I, P, rfl, hp, by rw [ht]; exact h1.moved hW.alike⟩, h2.F ht⟩) h2.2.2 hd X.2.2.2.2.2.2.2.2.1
theorem mPre_blind (hN : ∀ u U : State, u.WarmedH U.vm → NN u → NN U) {av : List Value} : FrameBlind (mPre D cl ty b NN T I P av) := by
  intro a U g mk h
  obtain ⟨h0, h1, h2, h3, h4⟩ := h
  exact ⟨h0, h1, va_K.moved (u := U) (U := U.calling g mk a) (Vm.Alike.refl U.vm) h2, h3.moved (Vm.Alike.refl U.vm), hN U _ (State.WarmedH.refl U) h4⟩
theorem mPre_at (X : mX p s m meth c args cc nL own ret TT NN D cl b) {H : Heap} {locs : List Loc} (h1 : mW D cl ty b T I P s H) (h2 : va_S (fun q => b ≤ q) s.heap H locs) (av : List Value) : ∀ U : State, U.heap = H → s.WarmedH U.vm → mPre D cl ty b NN T I P av av.toArray U := by
  intro U hU hW
  obtain ⟨hx, hb, hml, hown, hts, hK, hbs, hret, hlk, hNs, hG, hNw⟩ := X
  exact ⟨rfl, by rw [hU]; exact Nat.le_trans hbs h2.1, va_K.moved hW.alike hK, by rw [hU]; exact h1.moved hW.alike, hNw s U hW hNs⟩
theorem mJ_run {st0 : List Value} {post : Option Value → mT → mI → mP → Prop} {a : Array Value} {mc ms : Nat} (hr : ∀ (H : Heap) (locs : List Loc) (ls : Array Slot), mW D cl ty b T I P s H → va_S (fun q => b ≤ q) s.heap H locs → lv_has ls nL lv → va_Run p l e R s m args below meth c H locs cells slots mc ms (F0 m pc ls st0) rest (mPost D cl ty b post a) (fun q => b ≤ q))
    (kk : ∀ (v : Option Value) (T' : mT) (I' : mI) (P' : mP), post v T' I' P' → mJ p l e R s m args below meth c D cl ty b nL Q (cells + mc) (slots + ms) T' I' P' lv (pc + 3) (v.toList ++ rest)) : mJ p l e R s m args below meth c D cl ty b nL Q cells slots T I P lv pc st0 := by
  intro H locs ls h1 h2 h3 Tt hT Xs
  obtain ⟨v, st₀, t, T', L, h0, X', hL, e1, e2, ⟨⟨v', T2, I2, P2, hv, hp, hw⟩, hz, hk⟩, st⟩ := hr H locs ls h1 h2 h3 Tt hT Xs
  cases hv
  rw [h0] at hz hk
  have hal : t.vm.Alike s.vm := by rw [← e2]; exact X'.warmed.alike.symm
  obtain ⟨t2, a1, b1⟩ := kk v T2 I2 P2 hp T'.heap (locs ++ L) ls (by rw [e1]; exact hw.moved hal) ⟨Nat.le_trans h2.1 (by rw [e1]; exact hz), fun q g1 g2 => by rw [e1, hk q (Nat.lt_of_lt_of_le g1 h2.1) g2]; exact h2.2.1 q g1 g2, fun q hq => by
      rcases List.mem_append.mp hq with h | h
      · exact h2.2.2 q h
      · exact hL q h⟩ h3 T' rfl X'
  exact ⟨t2, st t2 a1, b1⟩
theorem mCallB (X : mX p s m meth c args cc nL own ret TT NN D cl b) {y : MethodName} {bytes : ByteArray} {maxL n idx : Nat} {ry : Option FieldType} {rm : Room} (hy : mMe TT y bytes maxL ry n) (hR : rm.frames + 1 ≤ R.frames ∧ 8 + (maxL + 11) + rm.locals ≤ R.locals) (hl : Cond.methodLink own idx y ∈ TT) : CallB R s args own idx y bytes maxL ry (.code y bytes maxL ry :: TT) rm rm.cells rm.slots n := by
  obtain ⟨hx, hb, hml, hown, hts, hK, hbs, hret, hlk, hNs, hG, hNw⟩ := X
  have hG2 : GoodIn TT (.code y bytes maxL ry :: TT) := fun w hw => by
    rcases List.mem_cons.mp hw with h | h
    · rw [h]; exact hG _ hy.1
    · exact hG w h
  refine ⟨rfl, rfl, hR.1, hR.2, pay_in hts hG2, List.mem_cons_self, hts _ hy.1, hts _ hy.2.1, hy.2.2.1, fun sig h => ?_, hts _ hl⟩
  have h2 := hy.2.2.2
  rw [h] at h2
  exact (Option.some.inj h2).symm
/-- a call of a method of an object -/
theorem mJ_callV (X : mX p s m meth c args cc nL own ret TT NN D cl b) {y : MethodName} {bytes : ByteArray} {maxL n idx a ci : Nat} {ry : Option FieldType} {rm : Room} {F : u_T} {N : Nat} {As : List Value} {post : Option Value → mT → mI → mP → Prop} (hM : mMet l D cl ty b TT NN y bytes maxL ry rm T I P (.ref a :: As) post) (hy : mMe TT y bytes maxL ry n) (hc : cl[ci]? = some (y.cls, F, N)) (hT : T a = some (0, ci, 0)) (hl : Cond.methodLink own idx y ∈ TT) (hin : Cond.instanceMethod y ∈ TT) (hsel : Cond.selects y.cls y y ∈ TT)
    (hn : As.length = n) {st0 : List Value} (hst : st0 = As.reverse ++ .ref a :: rest) (hW : (rest.map fun v => v.category).sum ≤ 8) (hR : rm.frames + 1 ≤ R.frames ∧ 8 + (maxL + 11) + rm.locals ≤ R.locals) (hf : cells + rm.cells ≤ R.cells ∧ slots + rm.slots ≤ R.slots) (hd : decode cc pc = .ok (.invokevirtual idx, 3))
    (kk : ∀ (v : Option Value) (T' : mT) (I' : mI) (P' : mP), post v T' I' P' → mJ p l e R s m args below meth c D cl ty b nL Q (cells + rm.cells) (slots + rm.slots) T' I' P' lv (pc + 3) (v.toList ++ rest)) : mJ p l e R s m args below meth c D cl ty b nL Q cells slots T I P lv pc st0 := by
  refine mJ_run (a := (Value.ref a :: As).toArray) (fun H locs ls h1 h2 h3 => ?_) kk
  obtain ⟨hba, q, hq, cell, q1, q2, q3, q4⟩ := h1 a _ hT
  have hK := X.2.2.2.2.2.1
  refine va_runV (C := y.cls) (b := a) (As := As) ⟨X.1, X.2.1, X.2.2.1, X.2.2.2.1, X.2.2.2.2.1⟩ hM ⟨mCallB X hy hR hl, X.2.2.2.2.1 _ hin, X.2.2.2.2.1 _ hsel⟩ ⟨mPre_blind X.2.2.2.2.2.2.2.2.2.2.2, ⟨cell, q1, by rw [q3]; rfl, by rw [q2]; exact (hK.1 ci _ hc).2.1⟩, mPre_at X h1 h2 _⟩ rfl hn h3.1 hst (lv_room hW) hd hf
theorem mJ_callS (X : mX p s m meth c args cc nL own ret TT NN D cl b) {y : MethodName} {bytes : ByteArray} {maxL n idx : Nat} {ry : Option FieldType} {rm : Room} {As : List Value} {post : Option Value → mT → mI → mP → Prop} (hM : mMet l D cl ty b TT NN y bytes maxL ry rm T I P As post) (hy : mMe TT y bytes maxL ry n) (hl : Cond.methodLink own idx y ∈ TT) (hss : Cond.static y ∈ TT)
    (hn : As.length = n) {st0 : List Value} (hst : st0 = As.reverse ++ rest) (hW : (rest.map fun v => v.category).sum ≤ 8) (hR : rm.frames + 1 ≤ R.frames ∧ 8 + (maxL + 11) + rm.locals ≤ R.locals) (hf : cells + rm.cells ≤ R.cells ∧ slots + rm.slots ≤ R.slots) (hd : decode cc pc = .ok (.invokestatic idx, 3))
    (kk : ∀ (v : Option Value) (T' : mT) (I' : mI) (P' : mP), post v T' I' P' → mJ p l e R s m args below meth c D cl ty b nL Q (cells + rm.cells) (slots + rm.slots) T' I' P' lv (pc + 3) (v.toList ++ rest)) : mJ p l e R s m args below meth c D cl ty b nL Q cells slots T I P lv pc st0 := by
  refine mJ_run (a := As.toArray) (fun H locs ls h1 h2 h3 => ?_) kk
  exact va_runS (As := As) ⟨X.1, X.2.1, X.2.2.1, X.2.2.2.1, X.2.2.2.2.1⟩ hM ⟨mCallB X hy hR hl, X.2.2.2.2.1 _ hss⟩ ⟨mPre_blind X.2.2.2.2.2.2.2.2.2.2.2, mPre_at X h1 h2 _⟩ rfl hn h3.1 hst (lv_room hW) hd hf
theorem mJ_callI (X : mX p s m meth c args cc nL own ret TT NN D cl b) {y : MethodName} {bytes : ByteArray} {maxL n idx a : Nat} {rm : Room} {As : List Value} {post : Option Value → mT → mI → mP → Prop} (hM : mMet l D cl ty b TT NN y bytes maxL none rm T I P (.ref a :: As) post) (hy : mMe TT y bytes maxL none n) (hl : Cond.methodLink own idx y ∈ TT) (hin : Cond.instanceMethod y ∈ TT) (hnm : y.name = "<init>")
    (hn : As.length = n) {st0 : List Value} (hst : st0 = As.reverse ++ .ref a :: rest) (hW : (rest.map fun v => v.category).sum ≤ 8) (hR : rm.frames + 1 ≤ R.frames ∧ 8 + (maxL + 11) + rm.locals ≤ R.locals) (hf : cells + rm.cells ≤ R.cells ∧ slots + rm.slots ≤ R.slots) (hd : decode cc pc = .ok (.invokespecial idx, 3))
    (kk : ∀ (v : Option Value) (T' : mT) (I' : mI) (P' : mP), post v T' I' P' → mJ p l e R s m args below meth c D cl ty b nL Q (cells + rm.cells) (slots + rm.slots) T' I' P' lv (pc + 3) (v.toList ++ rest)) : mJ p l e R s m args below meth c D cl ty b nL Q cells slots T I P lv pc st0 := by
  refine mJ_run (a := (Value.ref a :: As).toArray) (fun H locs ls h1 h2 h3 => ?_) kk
  exact va_runI (b := a) (As := As) ⟨X.1, X.2.1, X.2.2.1, X.2.2.2.1, X.2.2.2.2.1⟩ hM ⟨mCallB X hy hR hl, hnm, X.2.2.2.2.1 _ hin⟩ ⟨mPre_blind X.2.2.2.2.2.2.2.2.2.2.2, mPre_at X h1 h2 _⟩ rfl hn h3.1 hst (lv_room hW) hd hf
theorem mCallN (X : mX p s m meth c args cc nL own ret TT NN D cl b) {y : MethodName} {bytes : ByteArray} {maxL n idx : Nat} {host : String} {ry : Option FieldType} {rm : Room} (hy : mMe TT y bytes maxL ry n) (hR : rm.frames + 1 ≤ R.frames ∧ 8 + (maxL + 11) + rm.locals ≤ R.locals) (hl : va_Nw (.methodLinkNest own idx y host) s) : va_CN R s args own idx y host bytes maxL ry (.code y bytes maxL ry :: TT) rm rm.cells rm.slots n := by
  obtain ⟨hx, hb, hml, hown, hts, hK, hbs, hret, hlk, hNs, hG, hNw⟩ := X
  have hG2 : GoodIn TT (.code y bytes maxL ry :: TT) := fun w hw => by
    rcases List.mem_cons.mp hw with h | h
    · rw [h]; exact hG _ hy.1
    · exact hG w h
  exact va_cnB n hts hG2 rfl rfl rfl hl (hts _ hy.2.1) ⟨hy.2.2.1.1, hy.2.2.1.2, hy.2.2.2⟩ hR
/-- calls of nest mates' private methods -/
theorem mJ_callSN (X : mX p s m meth c args cc nL own ret TT NN D cl b) {y : MethodName} {bytes : ByteArray} {maxL n idx : Nat} {host : String} {ry : Option FieldType} {rm : Room} {As : List Value} {post : Option Value → mT → mI → mP → Prop} (hM : mMet l D cl ty b TT NN y bytes maxL ry rm T I P As post) (hy : mMe TT y bytes maxL ry n) (hl : va_Nw (.methodLinkNest own idx y host) s) (hss : Cond.static y ∈ TT)
    (hn : As.length = n) {st0 : List Value} (hst : st0 = As.reverse ++ rest) (hW : (rest.map fun v => v.category).sum ≤ 8) (hR : rm.frames + 1 ≤ R.frames ∧ 8 + (maxL + 11) + rm.locals ≤ R.locals) (hf : cells + rm.cells ≤ R.cells ∧ slots + rm.slots ≤ R.slots) (hd : decode cc pc = .ok (.invokestatic idx, 3))
    (kk : ∀ (v : Option Value) (T' : mT) (I' : mI) (P' : mP), post v T' I' P' → mJ p l e R s m args below meth c D cl ty b nL Q (cells + rm.cells) (slots + rm.slots) T' I' P' lv (pc + 3) (v.toList ++ rest)) : mJ p l e R s m args below meth c D cl ty b nL Q cells slots T I P lv pc st0 := by
  refine mJ_run (a := As.toArray) (fun H locs ls h1 h2 h3 => ?_) kk
  exact va_runSN (As := As) ⟨X.1, X.2.1, X.2.2.1, X.2.2.2.1, X.2.2.2.2.1⟩ hM ⟨mCallN X hy hR hl, X.2.2.2.2.1 _ hss, trivial⟩ ⟨mPre_blind X.2.2.2.2.2.2.2.2.2.2.2, mPre_at X h1 h2 _⟩ rfl hn h3.1 hst (lv_room hW) hd hf
theorem mJ_callIN (X : mX p s m meth c args cc nL own ret TT NN D cl b) {y : MethodName} {bytes : ByteArray} {maxL n idx a : Nat} {host : String} {rm : Room} {As : List Value} {post : Option Value → mT → mI → mP → Prop} (hM : mMet l D cl ty b TT NN y bytes maxL none rm T I P (.ref a :: As) post) (hy : mMe TT y bytes maxL none n) (hl : va_Nw (.methodLinkNest own idx y host) s) (hin : Cond.instanceMethod y ∈ TT) (hnm : y.name = "<init>")
    (hn : As.length = n) {st0 : List Value} (hst : st0 = As.reverse ++ .ref a :: rest) (hW : (rest.map fun v => v.category).sum ≤ 8) (hR : rm.frames + 1 ≤ R.frames ∧ 8 + (maxL + 11) + rm.locals ≤ R.locals) (hf : cells + rm.cells ≤ R.cells ∧ slots + rm.slots ≤ R.slots) (hd : decode cc pc = .ok (.invokespecial idx, 3))
    (kk : ∀ (v : Option Value) (T' : mT) (I' : mI) (P' : mP), post v T' I' P' → mJ p l e R s m args below meth c D cl ty b nL Q (cells + rm.cells) (slots + rm.slots) T' I' P' lv (pc + 3) (v.toList ++ rest)) : mJ p l e R s m args below meth c D cl ty b nL Q cells slots T I P lv pc st0 := by
  refine mJ_run (a := (Value.ref a :: As).toArray) (fun H locs ls h1 h2 h3 => ?_) kk
  exact va_runIN (b := a) (As := As) ⟨X.1, X.2.1, X.2.2.1, X.2.2.2.1, X.2.2.2.2.1⟩ hM ⟨mCallN X hy hR hl, hnm, X.2.2.2.2.1 _ hin⟩ ⟨mPre_blind X.2.2.2.2.2.2.2.2.2.2.2, mPre_at X h1 h2 _⟩ rfl hn h3.1 hst (lv_room hW) hd hf
theorem mJ_objInit (X : mX p s m meth c args cc nL own ret TT NN D cl b) {idx a : Nat} (hl : Cond.methodLink own idx Lib.objectInit ∈ TT) (hin : Cond.instanceMethod Lib.objectInit ∈ TT) (hco : Cond.code Lib.objectInit ⟨#[0xb1]⟩ 1 none ∈ TT) (hd : decode cc pc = .ok (.invokespecial idx, 3)) (hfr : 1 ≤ R.frames) (hlo : (rest.map fun v => v.category).sum + 12 ≤ R.locals)
    (k : mJ p l e R s m args below meth c D cl ty b nL Q cells slots T I P lv (pc + 3) rest) : mJ p l e R s m args below meth c D cl ty b nL Q cells slots T I P lv pc (.ref a :: rest) := by
  intro H locs ls h1 h2 h3
  refine W.objInit X.1 X.2.1 X.2.2.2.1 (X.2.2.2.2.1 _ hl) (X.2.2.2.2.1 _ hin) (X.2.2.2.2.1 _ hco) rfl (by rw [X.2.2.1]; exact h3.1) rfl hd hfr ?_ (k H locs ls h1 h2 h3)
  show 2 * 0 + _ + 12 ≤ _
  omega
end MK
section MCP
variable {p : Program} {l : Launch} {e : Env} {R : Room} {s : State} {m : MethodId} {args : Array Value} {below : List Frame} {meth : Method} {c : Code}
variable {D : va_G} {cl : List vw_C} {ty : Nat → Nat → FieldType} {b nL : Nat} {Q : State → Prop} {cells slots : Nat} {T : mT} {I : mI} {P : mP} {lv : List (Nat × Value)} {pc : Nat} {rest : List Value}
variable {cc : ByteArray} {own : String} {ret : Option FieldType} {TT : List Cond} {NN : State → Prop}
/-- System.arraycopy between rows of ints -/
theorem mJ_copy (X : mX p s m meth c args cc nL own ret TT NN D cl b) {idx a0 a n0 n1 : Nat} (hl : Cond.methodLink own idx arraycopyName ∈ TT) (hnat : Cond.native arraycopyName ∈ TT) (hstat : Cond.static arraycopyName ∈ TT) (hini : Cond.initialized "java/lang/System" ∈ TT) (hT0 : T a0 = some (1, 0, n0)) (hT1 : T a = some (1, 0, n1))
    {sp dp n : Int32} (h1 : ¬ sp < 0) (h2 : ¬ dp < 0) (h3 : ¬ n < 0) (h4 : sp.toNatClampNeg + n.toNatClampNeg ≤ n0) (h5 : dp.toNatClampNeg + n.toNatClampNeg ≤ n1) (hframes : 1 ≤ R.frames) (hlocals : (rest.map fun v => v.category).sum + (nativeFrameWords "java/lang/System" "arraycopy" 5 + 11) ≤ R.locals) (hd : decode cc pc = .ok (.invokestatic idx, 3))
    (kk : ∀ I' : mI, I' = (fun x => if x = a then va_cpy (I a0) (I a) sp.toNatClampNeg dp.toNatClampNeg n.toNatClampNeg else I x) → mJ p l e R s m args below meth c D cl ty b nL Q cells slots T I' P lv (pc + 3) rest) : mJ p l e R s m args below meth c D cl ty b nL Q cells slots T I P lv pc (.int n :: .int dp :: .ref a :: .int sp :: .ref a0 :: rest) := by
  have nn : ∀ z : Int32, ¬ z < 0 → z.toInt = (z.toNatClampNeg : Int) := by
    intro z hz
    have hz0 : (0 : Int) ≤ z.toInt := by
      have := Int32.not_lt.mp hz
      simpa using Int32.le_iff_toInt_le.mp this
    show z.toInt = ((z.toInt.toNat : Nat) : Int)
    omega
  intro H locs ls w1 w2 w3 Ts hT X9
  obtain ⟨hx, hb, hml, hown, hts, hK, hbs, hret, hlk, hNs, hG, hNw⟩ := X
  obtain ⟨hba0, c0, ⟨r0, r0'⟩, hc0⟩ := w1 a0 _ hT0
  obtain ⟨hba, c1, ⟨r1, r1'⟩, hc1⟩ := w1 a _ hT1
  obtain ⟨-, k0, hk0, cm0, hkk0⟩ := r0 n0 (fun j => .int (I a0 j))
  obtain ⟨-, k1, hk1, cm1, hkk1⟩ := r1 n1 (fun j => .int (I a j))
  obtain ⟨vm', X', step⟩ := X9.arraycopy hx hown (hts _ hl) (hts _ hnat) (hts _ hstat) (hts _ hini) (src := a0) (dst := a) (cs := vp_cell c0 (n0, .inl (I a0))) (cd := vp_cell c1 (n1, .inl (I a))) (srcPos := sp) (destPos := dp) (n := n) (by rw [hT]; exact hc0) (by rw [hT]; exact hc1)
    (fun _ h => by cases h) (fun _ h => by cases h) (fun h => by cases h) (fun h => by cases h) hk0 hk1 hkk0 hkk1 (by simp [refKind]) h1 h2 h3
    (by rw [nn sp h1, nn n h3]; show ¬ _ > ((arrV c0 n0 (fun j => .int (I a0 j))).slots.size : Int); rw [arrV_size]; omega)
    (by rw [nn dp h2, nn n h3]; show ¬ _ > ((arrV c1 n1 (fun j => .int (I a j))).slots.size : Int); rw [arrV_size]; omega)
    (fun vm₁ _ i hi => by
      have e : (vp_cell c0 (n0, .inl (I a0))).slots.getD (sp.toNatClampNeg + i) .null = .int (I a0 (sp.toNatClampNeg + i)) := by
        show (arrV c0 n0 (fun j => .int (I a0 j))).slots.getD _ _ = _
        rw [Array.getD_eq_getD_getElem?, arrV_read _ _ (by omega)]
        rfl
      refine ⟨?_, ?_⟩
      · rw [e]
        rfl
      · rw [e]
        exact trivial)
    (g := F0 m pc ls (.int n :: .int dp :: .ref a :: .int sp :: .ref a0 :: rest)) rfl (by rw [hml]; exact w3.1) (rest := rest) rfl (by rw [hb]; exact hd) hframes (by show 2 * 0 + _ + _ ≤ _; omega)
  have e1 : copied (vp_cell c0 (n0, .inl (I a0))) (vp_cell c1 (n1, .inl (I a))) sp dp n = vp_cell c1 (n1, .inl (va_cpy (I a0) (I a) sp.toNatClampNeg dp.toNatClampNeg n.toNatClampNeg)) := va_copied (fun z => .int z) c0 c1 (I a0) (I a) h4
  rw [e1] at X' step
  have hl9 : a < H.size := (Array.getElem?_eq_some_iff.mp hc1).1
  have hheap : ((Ts.setVm vm').setCell a (vp_cell c1 (n1, .inl (va_cpy (I a0) (I a) sp.toNatClampNeg dp.toNatClampNeg n.toNatClampNeg)))).heap = H.setIfInBounds a (vp_cell c1 (n1, .inl (va_cpy (I a0) (I a) sp.toNatClampNeg dp.toNatClampNeg n.toNatClampNeg))) := by rw [← hT]; rfl
  have oq : ∀ q : Nat, q ≠ a → (H.setIfInBounds a (vp_cell c1 (n1, .inl (va_cpy (I a0) (I a) sp.toNatClampNeg dp.toNatClampNeg n.toNatClampNeg))))[q]? = H[q]? := fun q hq => by simp [Array.getElem?_setIfInBounds, Ne.symm hq]
  obtain ⟨t, a1, b1⟩ := kk _ rfl _ _ ls (w1.put hT1 (I' := fun x => if x = a then va_cpy (I a0) (I a) sp.toNatClampNeg dp.toNatClampNeg n.toNatClampNeg else I x) (P' := P) (fun x hx => by simp [hx]) (fun _ _ => rfl) oq ⟨c1, ⟨r1, r1'⟩, (show (H.setIfInBounds a _)[a]? = some _ by simp [Array.getElem?_setIfInBounds, hl9, vp_cell])⟩) ⟨by simp; exact w2.1, fun q g1 g2 => by
      rw [oq q (fun e => g2 (by rw [e]; exact hba))]
      exact w2.2.1 q g1 g2, fun q hq => by
      rcases List.mem_append.mp hq with h | h
      · exact w2.2.2 q h
      · obtain ⟨z, -, hz⟩ := List.mem_map.mp h
        rw [← hz]
        exact hba⟩ w3 _ hheap X'
  exact ⟨t, step t a1, b1⟩
end MCP
end
section
/-! rows over the memory, by bundles: a field (mF), a method (mM), a call by its number of arguments -/
/-- a field that the class 'own' names at the pool's place idx: field k of class number ci, of numbers (t = 0) or of references (t = 1) -/
def mF (cl : List vw_C) (ty : Nat → Nat → FieldType) (TT : List Cond) (own : String) (idx ci k t : Nat) : Prop := ∃ (C : String) (F : u_T) (N : Nat), mCl cl ty TT ci C F N ∧ k < N ∧ Cond.fieldLink own idx (F k).1 (F k).2.1 (F k).2.2.1 ∈ TT ∧ ((F k).2.2.2 = false ∨ ((F k).2.2.2 = true ∧ (F k).1 = own)) ∧ (t = 0 → ∀ x r, mv (ty ci k) x r = .int x) ∧ (t = 1 → (∀ x r, mv (ty ci k) x r = va_rf r) ∧ ∀ v : Nat, narrow (ty ci k) (.ref v) = .ref v ∧ fits (ty ci k) (.ref v) = true)
/-- the field may be written outside a constructor -/
def mFw (cl : List vw_C) (own : String) (ci k : Nat) : Prop := ∃ (C : String) (F : u_T) (N : Nat), cl[ci]? = some (C, F, N) ∧ (F k).2.2.2 = false
abbrev mR (k : Nat) : Room := { frames := k, cells := 0, slots := 0, locals := 33 * k }
abbrev mPi (T : mT) (r : Int32) (I2 : mI) (P2 : mP) : Option Value → mT → mI → mP → Prop := fun v T' I' P' => v = some (.int r) ∧ T' = T ∧ I' = I2 ∧ P' = P2
abbrev mPr (T : mT) (r : Nat) (I2 : mI) (P2 : mP) : Option Value → mT → mI → mP → Prop := fun v T' I' P' => v = some (.ref r) ∧ T' = T ∧ I' = I2 ∧ P' = P2
abbrev mPv (T : mT) (I2 : mI) (P2 : mP) : Option Value → mT → mI → mP → Prop := fun v T' I' P' => v = none ∧ T' = T ∧ I' = I2 ∧ P' = P2
/-- a call's words: of an object's method, of a static one -/
def mG (cl : List vw_C) (TT : List Cond) (own : String) (idx : Nat) (y : MethodName) (bytes : ByteArray) (maxL : Nat) (ret : Option FieldType) (n ci : Nat) : Prop := mMe TT y bytes maxL ret n ∧ (∃ (F : u_T) (N : Nat), cl[ci]? = some (y.cls, F, N)) ∧ Cond.methodLink own idx y ∈ TT ∧ Cond.instanceMethod y ∈ TT ∧ Cond.selects y.cls y y ∈ TT
def mGS (TT : List Cond) (own : String) (idx : Nat) (y : MethodName) (bytes : ByteArray) (maxL : Nat) (ret : Option FieldType) (n : Nat) : Prop := mMe TT y bytes maxL ret n ∧ Cond.methodLink own idx y ∈ TT ∧ Cond.static y ∈ TT
def mGN (TT : List Cond) (NN : State → Prop) (own : String) (idx : Nat) (y : MethodName) (host : String) (bytes : ByteArray) (maxL : Nat) (ret : Option FieldType) (n : Nat) : Prop := mMe TT y bytes maxL ret n ∧ (∀ U : State, NN U → va_Nw (.methodLinkNest own idx y host) U) ∧ Cond.static y ∈ TT
section MR
variable {p : Program} {l : Launch} {e : Env} {R : Room} {s : State} {m : MethodId} {args : Array Value} {below : List Frame} {meth : Method} {c : Code}
variable {D : va_G} {cl : List vw_C} {ty : Nat → Nat → FieldType} {b nL : Nat} {Q : State → Prop} {cells slots : Nat} {T : mT} {I : mI} {P : mP} {lv : List (Nat × Value)} {pc : Nat} {rest : List Value}
variable {cc : ByteArray} {own : String} {ret : Option FieldType} {TT : List Cond} {NN : State → Prop}
theorem mJ_nI {st : List Value} (k : ∀ I' : mI, I' = I → mJ p l e R s m args below meth c D cl ty b nL Q cells slots T I' P lv pc st) : mJ p l e R s m args below meth c D cl ty b nL Q cells slots T I P lv pc st := k I rfl
theorem mJ_nP {st : List Value} (k : ∀ P' : mP, P' = P → mJ p l e R s m args below meth c D cl ty b nL Q cells slots T I P' lv pc st) : mJ p l e R s m args below meth c D cl ty b nL Q cells slots T I P lv pc st := k P rfl
theorem mJ_top {x : Int32} (k : ∀ y : Int32, y = x → mJ p l e R s m args below meth c D cl ty b nL Q cells slots T I P lv pc (.int y :: rest)) : mJ p l e R s m args below meth c D cl ty b nL Q cells slots T I P lv pc (.int x :: rest) := k x rfl
theorem mJ_getI (X : mX p s m meth c args cc nL own ret TT NN D cl b) {a ci k idx : Nat} (hf : mF cl ty TT own idx ci k 0) (hT : T a = some (0, ci, 0)) (hd : decode cc pc = .ok (.getfield idx, 3)) (kk : mJ p l e R s m args below meth c D cl ty b nL Q cells slots T I P lv (pc + 3) (.int (I a k) :: rest)) : mJ p l e R s m args below meth c D cl ty b nL Q cells slots T I P lv pc (.ref a :: rest) := by
  obtain ⟨C, F, N, h1, h2, h3, h4, h5, h6⟩ := hf
  exact mJ_get X h1 hT h2 h3 (h5 rfl _ _) hd kk
theorem mJ_getR (X : mX p s m meth c args cc nL own ret TT NN D cl b) {a ci k idx y : Nat} (hf : mF cl ty TT own idx ci k 1) (hT : T a = some (0, ci, 0)) (hr : P a k = some y) (hd : decode cc pc = .ok (.getfield idx, 3)) (kk : mJ p l e R s m args below meth c D cl ty b nL Q cells slots T I P lv (pc + 3) (.ref y :: rest)) : mJ p l e R s m args below meth c D cl ty b nL Q cells slots T I P lv pc (.ref a :: rest) := by
  obtain ⟨C, F, N, h1, h2, h3, h4, h5, h6⟩ := hf
  exact mJ_get X h1 hT h2 h3 (by rw [(h6 rfl).1, hr]; rfl) hd kk
theorem mF_fin {own : String} {idx ci k t : Nat} (hf : mF cl ty TT own idx ci k t) (hw : mFw cl own ci k ∨ meth.name = "<init>") : ∃ (C : String) (F : u_T) (N : Nat), mCl cl ty TT ci C F N ∧ k < N ∧ Cond.fieldLink own idx (F k).1 (F k).2.1 (F k).2.2.1 ∈ TT ∧ ((F k).2.2.2 = false ∨ ((F k).2.2.2 = true ∧ meth.name = "<init>" ∧ (F k).1 = own)) ∧ (t = 0 → ∀ x r, mv (ty ci k) x r = .int x) ∧ (t = 1 → (∀ x r, mv (ty ci k) x r = va_rf r) ∧ ∀ v : Nat, narrow (ty ci k) (.ref v) = .ref v ∧ fits (ty ci k) (.ref v) = true) := by
  obtain ⟨C, F, N, h1, h2, h3, h4, h5, h6⟩ := hf
  refine ⟨C, F, N, h1, h2, h3, ?_, h5, h6⟩
  rcases hw with ⟨C', F', N', hc, hfi⟩ | hw
  · left
    have := Option.some.inj (h1.1.symm.trans hc)
    simp at this
    rw [this.2.1]; exact hfi
  · rcases h4 with h | h
    · exact Or.inl h
    · exact Or.inr ⟨h.1, hw, h.2⟩
theorem mJ_setI (X : mX p s m meth c args cc nL own ret TT NN D cl b) {a ci k idx : Nat} {v : Int32} (hf : mF cl ty TT own idx ci k 0) (hw : mFw cl own ci k ∨ meth.name = "<init>") (hT : T a = some (0, ci, 0)) (hn : narrow (ty ci k) (.int v) = .int v ∧ fits (ty ci k) (.int v) = true) (hd : decode cc pc = .ok (.putfield idx, 3)) (kk : ∀ I' : mI, I' = mu I a k v → mJ p l e R s m args below meth c D cl ty b nL Q cells slots T I' P lv (pc + 3) rest) : mJ p l e R s m args below meth c D cl ty b nL Q cells slots T I P lv pc (.int v :: .ref a :: rest) := by
  obtain ⟨C, F, N, h1, h2, h3, h4, h5, h6⟩ := mF_fin hf hw
  exact mJ_putI X h1 hT h2 h3 h4 hn.1 hn.2 (h5 rfl) hd kk
theorem mJ_setR (X : mX p s m meth c args cc nL own ret TT NN D cl b) {a ci k idx v : Nat} (hf : mF cl ty TT own idx ci k 1) (hw : mFw cl own ci k ∨ meth.name = "<init>") (hT : T a = some (0, ci, 0)) (hd : decode cc pc = .ok (.putfield idx, 3)) (kk : ∀ P' : mP, P' = mu P a k (some v) → mJ p l e R s m args below meth c D cl ty b nL Q cells slots T I P' lv (pc + 3) rest) : mJ p l e R s m args below meth c D cl ty b nL Q cells slots T I P lv pc (.ref v :: .ref a :: rest) := by
  obtain ⟨C, F, N, h1, h2, h3, h4, h5, h6⟩ := mF_fin hf hw
  exact mJ_putR X h1 hT h2 h3 h4 ((h6 rfl).2 v).1 ((h6 rfl).2 v).2 (h6 rfl).1 hd kk
theorem mJ_Vi0 (X : mX p s m meth c args cc nL own ret TT NN D cl b) {y : MethodName} {bytes : ByteArray} {maxL idx a ci k : Nat} {ry : Option FieldType} {r : Int32} {I2 : mI} {P2 : mP} (hg : mG cl TT own idx y bytes maxL ry 0 ci) (hM : mMet l D cl ty b TT NN y bytes maxL ry (mR k) T I P [.ref a] (mPi T r I2 P2)) (hT : T a = some (0, ci, 0)) (hd : decode cc pc = .ok (.invokevirtual idx, 3)) (hR : k + 1 ≤ R.frames ∧ 8 + (maxL + 11) + 33 * k ≤ R.locals) (hW : (rest.map fun v => v.category).sum ≤ 8) (hcs : cells ≤ R.cells ∧ slots ≤ R.slots) (kk : mJ p l e R s m args below meth c D cl ty b nL Q cells slots T I2 P2 lv (pc + 3) (.int r :: rest)) : mJ p l e R s m args below meth c D cl ty b nL Q cells slots T I P lv pc (.ref a :: rest) := by
  obtain ⟨h1, ⟨F, N, h2⟩, h3, h4, h5⟩ := hg
  exact mJ_callV X (As := []) hM h1 h2 hT h3 h4 h5 rfl rfl hW hR hcs hd (fun v T' I' P' hp => by obtain ⟨rfl, rfl, rfl, rfl⟩ := hp; exact kk)
theorem mJ_Si0 (X : mX p s m meth c args cc nL own ret TT NN D cl b) {y : MethodName} {bytes : ByteArray} {maxL idx k : Nat} {ry : Option FieldType} {r : Int32} {I2 : mI} {P2 : mP} (hg : mGS TT own idx y bytes maxL ry 0) (hM : mMet l D cl ty b TT NN y bytes maxL ry (mR k) T I P [] (mPi T r I2 P2)) (hd : decode cc pc = .ok (.invokestatic idx, 3)) (hR : k + 1 ≤ R.frames ∧ 8 + (maxL + 11) + 33 * k ≤ R.locals) (hW : (rest.map fun v => v.category).sum ≤ 8) (hcs : cells ≤ R.cells ∧ slots ≤ R.slots) (kk : mJ p l e R s m args below meth c D cl ty b nL Q cells slots T I2 P2 lv (pc + 3) (.int r :: rest)) : mJ p l e R s m args below meth c D cl ty b nL Q cells slots T I P lv pc (rest) := by
  obtain ⟨h1, h3, h4⟩ := hg
  exact mJ_callS X (As := []) hM h1 h3 h4 rfl rfl hW hR hcs hd (fun v T' I' P' hp => by obtain ⟨rfl, rfl, rfl, rfl⟩ := hp; exact kk)
theorem mJ_Ni0 (X : mX p s m meth c args cc nL own ret TT NN D cl b) {y : MethodName} {bytes : ByteArray} {maxL idx k : Nat} {host : String} {ry : Option FieldType} {r : Int32} {I2 : mI} {P2 : mP} (hg : mGN TT NN own idx y host bytes maxL ry 0) (hM : mMet l D cl ty b TT NN y bytes maxL ry (mR k) T I P [] (mPi T r I2 P2)) (hd : decode cc pc = .ok (.invokestatic idx, 3)) (hR : k + 1 ≤ R.frames ∧ 8 + (maxL + 11) + 33 * k ≤ R.locals) (hW : (rest.map fun v => v.category).sum ≤ 8) (hcs : cells ≤ R.cells ∧ slots ≤ R.slots) (kk : mJ p l e R s m args below meth c D cl ty b nL Q cells slots T I2 P2 lv (pc + 3) (.int r :: rest)) : mJ p l e R s m args below meth c D cl ty b nL Q cells slots T I P lv pc (rest) := by
  obtain ⟨h1, h3, h4⟩ := hg
  exact mJ_callSN X (As := []) hM h1 (h3 s X.2.2.2.2.2.2.2.2.2.1) h4 rfl rfl hW hR hcs hd (fun v T' I' P' hp => by obtain ⟨rfl, rfl, rfl, rfl⟩ := hp; exact kk)
theorem mJ_Vr0 (X : mX p s m meth c args cc nL own ret TT NN D cl b) {y : MethodName} {bytes : ByteArray} {maxL idx a ci k : Nat} {ry : Option FieldType} {r : Nat} {I2 : mI} {P2 : mP} (hg : mG cl TT own idx y bytes maxL ry 0 ci) (hM : mMet l D cl ty b TT NN y bytes maxL ry (mR k) T I P [.ref a] (mPr T r I2 P2)) (hT : T a = some (0, ci, 0)) (hd : decode cc pc = .ok (.invokevirtual idx, 3)) (hR : k + 1 ≤ R.frames ∧ 8 + (maxL + 11) + 33 * k ≤ R.locals) (hW : (rest.map fun v => v.category).sum ≤ 8) (hcs : cells ≤ R.cells ∧ slots ≤ R.slots) (kk : mJ p l e R s m args below meth c D cl ty b nL Q cells slots T I2 P2 lv (pc + 3) (.ref r :: rest)) : mJ p l e R s m args below meth c D cl ty b nL Q cells slots T I P lv pc (.ref a :: rest) := by
  obtain ⟨h1, ⟨F, N, h2⟩, h3, h4, h5⟩ := hg
  exact mJ_callV X (As := []) hM h1 h2 hT h3 h4 h5 rfl rfl hW hR hcs hd (fun v T' I' P' hp => by obtain ⟨rfl, rfl, rfl, rfl⟩ := hp; exact kk)
theorem mJ_Sr0 (X : mX p s m meth c args cc nL own ret TT NN D cl b) {y : MethodName} {bytes : ByteArray} {maxL idx k : Nat} {ry : Option FieldType} {r : Nat} {I2 : mI} {P2 : mP} (hg : mGS TT own idx y bytes maxL ry 0) (hM : mMet l D cl ty b TT NN y bytes maxL ry (mR k) T I P [] (mPr T r I2 P2)) (hd : decode cc pc = .ok (.invokestatic idx, 3)) (hR : k + 1 ≤ R.frames ∧ 8 + (maxL + 11) + 33 * k ≤ R.locals) (hW : (rest.map fun v => v.category).sum ≤ 8) (hcs : cells ≤ R.cells ∧ slots ≤ R.slots) (kk : mJ p l e R s m args below meth c D cl ty b nL Q cells slots T I2 P2 lv (pc + 3) (.ref r :: rest)) : mJ p l e R s m args below meth c D cl ty b nL Q cells slots T I P lv pc (rest) := by
  obtain ⟨h1, h3, h4⟩ := hg
  exact mJ_callS X (As := []) hM h1 h3 h4 rfl rfl hW hR hcs hd (fun v T' I' P' hp => by obtain ⟨rfl, rfl, rfl, rfl⟩ := hp; exact kk)
theorem mJ_Nr0 (X : mX p s m meth c args cc nL own ret TT NN D cl b) {y : MethodName} {bytes : ByteArray} {maxL idx k : Nat} {host : String} {ry : Option FieldType} {r : Nat} {I2 : mI} {P2 : mP} (hg : mGN TT NN own idx y host bytes maxL ry 0) (hM : mMet l D cl ty b TT NN y bytes maxL ry (mR k) T I P [] (mPr T r I2 P2)) (hd : decode cc pc = .ok (.invokestatic idx, 3)) (hR : k + 1 ≤ R.frames ∧ 8 + (maxL + 11) + 33 * k ≤ R.locals) (hW : (rest.map fun v => v.category).sum ≤ 8) (hcs : cells ≤ R.cells ∧ slots ≤ R.slots) (kk : mJ p l e R s m args below meth c D cl ty b nL Q cells slots T I2 P2 lv (pc + 3) (.ref r :: rest)) : mJ p l e R s m args below meth c D cl ty b nL Q cells slots T I P lv pc (rest) := by
  obtain ⟨h1, h3, h4⟩ := hg
  exact mJ_callSN X (As := []) hM h1 (h3 s X.2.2.2.2.2.2.2.2.2.1) h4 rfl rfl hW hR hcs hd (fun v T' I' P' hp => by obtain ⟨rfl, rfl, rfl, rfl⟩ := hp; exact kk)
theorem mJ_Vv0 (X : mX p s m meth c args cc nL own ret TT NN D cl b) {y : MethodName} {bytes : ByteArray} {maxL idx a ci k : Nat} {ry : Option FieldType} {I2 : mI} {P2 : mP} (hg : mG cl TT own idx y bytes maxL ry 0 ci) (hM : mMet l D cl ty b TT NN y bytes maxL ry (mR k) T I P [.ref a] (mPv T I2 P2)) (hT : T a = some (0, ci, 0)) (hd : decode cc pc = .ok (.invokevirtual idx, 3)) (hR : k + 1 ≤ R.frames ∧ 8 + (maxL + 11) + 33 * k ≤ R.locals) (hW : (rest.map fun v => v.category).sum ≤ 8) (hcs : cells ≤ R.cells ∧ slots ≤ R.slots) (kk : mJ p l e R s m args below meth c D cl ty b nL Q cells slots T I2 P2 lv (pc + 3) (rest)) : mJ p l e R s m args below meth c D cl ty b nL Q cells slots T I P lv pc (.ref a :: rest) := by
  obtain ⟨h1, ⟨F, N, h2⟩, h3, h4, h5⟩ := hg
  exact mJ_callV X (As := []) hM h1 h2 hT h3 h4 h5 rfl rfl hW hR hcs hd (fun v T' I' P' hp => by obtain ⟨rfl, rfl, rfl, rfl⟩ := hp; exact kk)
theorem mJ_Sv0 (X : mX p s m meth c args cc nL own ret TT NN D cl b) {y : MethodName} {bytes : ByteArray} {maxL idx k : Nat} {ry : Option FieldType} {I2 : mI} {P2 : mP} (hg : mGS TT own idx y bytes maxL ry 0) (hM : mMet l D cl ty b TT NN y bytes maxL ry (mR k) T I P [] (mPv T I2 P2)) (hd : decode cc pc = .ok (.invokestatic idx, 3)) (hR : k + 1 ≤ R.frames ∧ 8 + (maxL + 11) + 33 * k ≤ R.locals) (hW : (rest.map fun v => v.category).sum ≤ 8) (hcs : cells ≤ R.cells ∧ slots ≤ R.slots) (kk : mJ p l e R s m args below meth c D cl ty b nL Q cells slots T I2 P2 lv (pc + 3) (rest)) : mJ p l e R s m args below meth c D cl ty b nL Q cells slots T I P lv pc (rest) := by
  obtain ⟨h1, h3, h4⟩ := hg
  exact mJ_callS X (As := []) hM h1 h3 h4 rfl rfl hW hR hcs hd (fun v T' I' P' hp => by obtain ⟨rfl, rfl, rfl, rfl⟩ := hp; exact kk)
theorem mJ_Nv0 (X : mX p s m meth c args cc nL own ret TT NN D cl b) {y : MethodName} {bytes : ByteArray} {maxL idx k : Nat} {host : String} {ry : Option FieldType} {I2 : mI} {P2 : mP} (hg : mGN TT NN own idx y host bytes maxL ry 0) (hM : mMet l D cl ty b TT NN y bytes maxL ry (mR k) T I P [] (mPv T I2 P2)) (hd : decode cc pc = .ok (.invokestatic idx, 3)) (hR : k + 1 ≤ R.frames ∧ 8 + (maxL + 11) + 33 * k ≤ R.locals) (hW : (rest.map fun v => v.category).sum ≤ 8) (hcs : cells ≤ R.cells ∧ slots ≤ R.slots) (kk : mJ p l e R s m args below meth c D cl ty b nL Q cells slots T I2 P2 lv (pc + 3) (rest)) : mJ p l e R s m args below meth c D cl ty b nL Q cells slots T I P lv pc (rest) := by
  obtain ⟨h1, h3, h4⟩ := hg
  exact mJ_callSN X (As := []) hM h1 (h3 s X.2.2.2.2.2.2.2.2.2.1) h4 rfl rfl hW hR hcs hd (fun v T' I' P' hp => by obtain ⟨rfl, rfl, rfl, rfl⟩ := hp; exact kk)
theorem mJ_Vi1 (X : mX p s m meth c args cc nL own ret TT NN D cl b) {y : MethodName} {bytes : ByteArray} {maxL idx a ci k : Nat} {ry : Option FieldType} {v1 : Value} {r : Int32} {I2 : mI} {P2 : mP} (hg : mG cl TT own idx y bytes maxL ry 1 ci) (hM : mMet l D cl ty b TT NN y bytes maxL ry (mR k) T I P [.ref a, v1] (mPi T r I2 P2)) (hT : T a = some (0, ci, 0)) (hd : decode cc pc = .ok (.invokevirtual idx, 3)) (hR : k + 1 ≤ R.frames ∧ 8 + (maxL + 11) + 33 * k ≤ R.locals) (hW : (rest.map fun v => v.category).sum ≤ 8) (hcs : cells ≤ R.cells ∧ slots ≤ R.slots) (kk : mJ p l e R s m args below meth c D cl ty b nL Q cells slots T I2 P2 lv (pc + 3) (.int r :: rest)) : mJ p l e R s m args below meth c D cl ty b nL Q cells slots T I P lv pc (v1 :: .ref a :: rest) := by
  obtain ⟨h1, ⟨F, N, h2⟩, h3, h4, h5⟩ := hg
  exact mJ_callV X (As := [v1]) hM h1 h2 hT h3 h4 h5 rfl rfl hW hR hcs hd (fun v T' I' P' hp => by obtain ⟨rfl, rfl, rfl, rfl⟩ := hp; exact kk)
theorem mJ_Si1 (X : mX p s m meth c args cc nL own ret TT NN D cl b) {y : MethodName} {bytes : ByteArray} {maxL idx k : Nat} {ry : Option FieldType} {v1 : Value} {r : Int32} {I2 : mI} {P2 : mP} (hg : mGS TT own idx y bytes maxL ry 1) (hM : mMet l D cl ty b TT NN y bytes maxL ry (mR k) T I P [v1] (mPi T r I2 P2)) (hd : decode cc pc = .ok (.invokestatic idx, 3)) (hR : k + 1 ≤ R.frames ∧ 8 + (maxL + 11) + 33 * k ≤ R.locals) (hW : (rest.map fun v => v.category).sum ≤ 8) (hcs : cells ≤ R.cells ∧ slots ≤ R.slots) (kk : mJ p l e R s m args below meth c D cl ty b nL Q cells slots T I2 P2 lv (pc + 3) (.int r :: rest)) : mJ p l e R s m args below meth c D cl ty b nL Q cells slots T I P lv pc (v1 :: rest) := by
  obtain ⟨h1, h3, h4⟩ := hg
  exact mJ_callS X (As := [v1]) hM h1 h3 h4 rfl rfl hW hR hcs hd (fun v T' I' P' hp => by obtain ⟨rfl, rfl, rfl, rfl⟩ := hp; exact kk)
theorem mJ_Ni1 (X : mX p s m meth c args cc nL own ret TT NN D cl b) {y : MethodName} {bytes : ByteArray} {maxL idx k : Nat} {host : String} {ry : Option FieldType} {v1 : Value} {r : Int32} {I2 : mI} {P2 : mP} (hg : mGN TT NN own idx y host bytes maxL ry 1) (hM : mMet l D cl ty b TT NN y bytes maxL ry (mR k) T I P [v1] (mPi T r I2 P2)) (hd : decode cc pc = .ok (.invokestatic idx, 3)) (hR : k + 1 ≤ R.frames ∧ 8 + (maxL + 11) + 33 * k ≤ R.locals) (hW : (rest.map fun v => v.category).sum ≤ 8) (hcs : cells ≤ R.cells ∧ slots ≤ R.slots) (kk : mJ p l e R s m args below meth c D cl ty b nL Q cells slots T I2 P2 lv (pc + 3) (.int r :: rest)) : mJ p l e R s m args below meth c D cl ty b nL Q cells slots T I P lv pc (v1 :: rest) := by
  obtain ⟨h1, h3, h4⟩ := hg
  exact mJ_callSN X (As := [v1]) hM h1 (h3 s X.2.2.2.2.2.2.2.2.2.1) h4 rfl rfl hW hR hcs hd (fun v T' I' P' hp => by obtain ⟨rfl, rfl, rfl, rfl⟩ := hp; exact kk)
theorem mJ_Vr1 (X : mX p s m meth c args cc nL own ret TT NN D cl b) {y : MethodName} {bytes : ByteArray} {maxL idx a ci k : Nat} {ry : Option FieldType} {v1 : Value} {r : Nat} {I2 : mI} {P2 : mP} (hg : mG cl TT own idx y bytes maxL ry 1 ci) (hM : mMet l D cl ty b TT NN y bytes maxL ry (mR k) T I P [.ref a, v1] (mPr T r I2 P2)) (hT : T a = some (0, ci, 0)) (hd : decode cc pc = .ok (.invokevirtual idx, 3)) (hR : k + 1 ≤ R.frames ∧ 8 + (maxL + 11) + 33 * k ≤ R.locals) (hW : (rest.map fun v => v.category).sum ≤ 8) (hcs : cells ≤ R.cells ∧ slots ≤ R.slots) (kk : mJ p l e R s m args below meth c D cl ty b nL Q cells slots T I2 P2 lv (pc + 3) (.ref r :: rest)) : mJ p l e R s m args below meth c D cl ty b nL Q cells slots T I P lv pc (v1 :: .ref a :: rest) := by
  obtain ⟨h1, ⟨F, N, h2⟩, h3, h4, h5⟩ := hg
  exact mJ_callV X (As := [v1]) hM h1 h2 hT h3 h4 h5 rfl rfl hW hR hcs hd (fun v T' I' P' hp => by obtain ⟨rfl, rfl, rfl, rfl⟩ := hp; exact kk)
theorem mJ_Sr1 (X : mX p s m meth c args cc nL own ret TT NN D cl b) {y : MethodName} {bytes : ByteArray} {maxL idx k : Nat} {ry : Option FieldType} {v1 : Value} {r : Nat} {I2 : mI} {P2 : mP} (hg : mGS TT own idx y bytes maxL ry 1) (hM : mMet l D cl ty b TT NN y bytes maxL ry (mR k) T I P [v1] (mPr T r I2 P2)) (hd : decode cc pc = .ok (.invokestatic idx, 3)) (hR : k + 1 ≤ R.frames ∧ 8 + (maxL + 11) + 33 * k ≤ R.locals) (hW : (rest.map fun v => v.category).sum ≤ 8) (hcs : cells ≤ R.cells ∧ slots ≤ R.slots) (kk : mJ p l e R s m args below meth c D cl ty b nL Q cells slots T I2 P2 lv (pc + 3) (.ref r :: rest)) : mJ p l e R s m args below meth c D cl ty b nL Q cells slots T I P lv pc (v1 :: rest) := by
  obtain ⟨h1, h3, h4⟩ := hg
  exact mJ_callS X (As := [v1]) hM h1 h3 h4 rfl rfl hW hR hcs hd (fun v T' I' P' hp => by obtain ⟨rfl, rfl, rfl, rfl⟩ := hp; exact kk)
theorem mJ_Nr1 (X : mX p s m meth c args cc nL own ret TT NN D cl b) {y : MethodName} {bytes : ByteArray} {maxL idx k : Nat} {host : String} {ry : Option FieldType} {v1 : Value} {r : Nat} {I2 : mI} {P2 : mP} (hg : mGN TT NN own idx y host bytes maxL ry 1) (hM : mMet l D cl ty b TT NN y bytes maxL ry (mR k) T I P [v1] (mPr T r I2 P2)) (hd : decode cc pc = .ok (.invokestatic idx, 3)) (hR : k + 1 ≤ R.frames ∧ 8 + (maxL + 11) + 33 * k ≤ R.locals) (hW : (rest.map fun v => v.category).sum ≤ 8) (hcs : cells ≤ R.cells ∧ slots ≤ R.slots) (kk : mJ p l e R s m args below meth c D cl ty b nL Q cells slots T I2 P2 lv (pc + 3) (.ref r :: rest)) : mJ p l e R s m args below meth c D cl ty b nL Q cells slots T I P lv pc (v1 :: rest) := by
  obtain ⟨h1, h3, h4⟩ := hg
  exact mJ_callSN X (As := [v1]) hM h1 (h3 s X.2.2.2.2.2.2.2.2.2.1) h4 rfl rfl hW hR hcs hd (fun v T' I' P' hp => by obtain ⟨rfl, rfl, rfl, rfl⟩ := hp; exact kk)
theorem mJ_Vv1 (X : mX p s m meth c args cc nL own ret TT NN D cl b) {y : MethodName} {bytes : ByteArray} {maxL idx a ci k : Nat} {ry : Option FieldType} {v1 : Value} {I2 : mI} {P2 : mP} (hg : mG cl TT own idx y bytes maxL ry 1 ci) (hM : mMet l D cl ty b TT NN y bytes maxL ry (mR k) T I P [.ref a, v1] (mPv T I2 P2)) (hT : T a = some (0, ci, 0)) (hd : decode cc pc = .ok (.invokevirtual idx, 3)) (hR : k + 1 ≤ R.frames ∧ 8 + (maxL + 11) + 33 * k ≤ R.locals) (hW : (rest.map fun v => v.category).sum ≤ 8) (hcs : cells ≤ R.cells ∧ slots ≤ R.slots) (kk : mJ p l e R s m args below meth c D cl ty b nL Q cells slots T I2 P2 lv (pc + 3) (rest)) : mJ p l e R s m args below meth c D cl ty b nL Q cells slots T I P lv pc (v1 :: .ref a :: rest) := by
  obtain ⟨h1, ⟨F, N, h2⟩, h3, h4, h5⟩ := hg
  exact mJ_callV X (As := [v1]) hM h1 h2 hT h3 h4 h5 rfl rfl hW hR hcs hd (fun v T' I' P' hp => by obtain ⟨rfl, rfl, rfl, rfl⟩ := hp; exact kk)
theorem mJ_Sv1 (X : mX p s m meth c args cc nL own ret TT NN D cl b) {y : MethodName} {bytes : ByteArray} {maxL idx k : Nat} {ry : Option FieldType} {v1 : Value} {I2 : mI} {P2 : mP} (hg : mGS TT own idx y bytes maxL ry 1) (hM : mMet l D cl ty b TT NN y bytes maxL ry (mR k) T I P [v1] (mPv T I2 P2)) (hd : decode cc pc = .ok (.invokestatic idx, 3)) (hR : k + 1 ≤ R.frames ∧ 8 + (maxL + 11) + 33 * k ≤ R.locals) (hW : (rest.map fun v => v.category).sum ≤ 8) (hcs : cells ≤ R.cells ∧ slots ≤ R.slots) (kk : mJ p l e R s m args below meth c D cl ty b nL Q cells slots T I2 P2 lv (pc + 3) (rest)) : mJ p l e R s m args below meth c D cl ty b nL Q cells slots T I P lv pc (v1 :: rest) := by
  obtain ⟨h1, h3, h4⟩ := hg
  exact mJ_callS X (As := [v1]) hM h1 h3 h4 rfl rfl hW hR hcs hd (fun v T' I' P' hp => by obtain ⟨rfl, rfl, rfl, rfl⟩ := hp; exact kk)
theorem mJ_Nv1 (X : mX p s m meth c args cc nL own ret TT NN D cl b) {y : MethodName} {bytes : ByteArray} {maxL idx k : Nat} {host : String} {ry : Option FieldType} {v1 : Value} {I2 : mI} {P2 : mP} (hg : mGN TT NN own idx y host bytes maxL ry 1) (hM : mMet l D cl ty b TT NN y bytes maxL ry (mR k) T I P [v1] (mPv T I2 P2)) (hd : decode cc pc = .ok (.invokestatic idx, 3)) (hR : k + 1 ≤ R.frames ∧ 8 + (maxL + 11) + 33 * k ≤ R.locals) (hW : (rest.map fun v => v.category).sum ≤ 8) (hcs : cells ≤ R.cells ∧ slots ≤ R.slots) (kk : mJ p l e R s m args below meth c D cl ty b nL Q cells slots T I2 P2 lv (pc + 3) (rest)) : mJ p l e R s m args below meth c D cl ty b nL Q cells slots T I P lv pc (v1 :: rest) := by
  obtain ⟨h1, h3, h4⟩ := hg
  exact mJ_callSN X (As := [v1]) hM h1 (h3 s X.2.2.2.2.2.2.2.2.2.1) h4 rfl rfl hW hR hcs hd (fun v T' I' P' hp => by obtain ⟨rfl, rfl, rfl, rfl⟩ := hp; exact kk)
theorem mJ_Vi2 (X : mX p s m meth c args cc nL own ret TT NN D cl b) {y : MethodName} {bytes : ByteArray} {maxL idx a ci k : Nat} {ry : Option FieldType} {v1 v2 : Value} {r : Int32} {I2 : mI} {P2 : mP} (hg : mG cl TT own idx y bytes maxL ry 2 ci) (hM : mMet l D cl ty b TT NN y bytes maxL ry (mR k) T I P [.ref a, v1, v2] (mPi T r I2 P2)) (hT : T a = some (0, ci, 0)) (hd : decode cc pc = .ok (.invokevirtual idx, 3)) (hR : k + 1 ≤ R.frames ∧ 8 + (maxL + 11) + 33 * k ≤ R.locals) (hW : (rest.map fun v => v.category).sum ≤ 8) (hcs : cells ≤ R.cells ∧ slots ≤ R.slots) (kk : mJ p l e R s m args below meth c D cl ty b nL Q cells slots T I2 P2 lv (pc + 3) (.int r :: rest)) : mJ p l e R s m args below meth c D cl ty b nL Q cells slots T I P lv pc (v2 :: v1 :: .ref a :: rest) := by
  obtain ⟨h1, ⟨F, N, h2⟩, h3, h4, h5⟩ := hg
  exact mJ_callV X (As := [v1, v2]) hM h1 h2 hT h3 h4 h5 rfl rfl hW hR hcs hd (fun v T' I' P' hp => by obtain ⟨rfl, rfl, rfl, rfl⟩ := hp; exact kk)
theorem mJ_Si2 (X : mX p s m meth c args cc nL own ret TT NN D cl b) {y : MethodName} {bytes : ByteArray} {maxL idx k : Nat} {ry : Option FieldType} {v1 v2 : Value} {r : Int32} {I2 : mI} {P2 : mP} (hg : mGS TT own idx y bytes maxL ry 2) (hM : mMet l D cl ty b TT NN y bytes maxL ry (mR k) T I P [v1, v2] (mPi T r I2 P2)) (hd : decode cc pc = .ok (.invokestatic idx, 3)) (hR : k + 1 ≤ R.frames ∧ 8 + (maxL + 11) + 33 * k ≤ R.locals) (hW : (rest.map fun v => v.category).sum ≤ 8) (hcs : cells ≤ R.cells ∧ slots ≤ R.slots) (kk : mJ p l e R s m args below meth c D cl ty b nL Q cells slots T I2 P2 lv (pc + 3) (.int r :: rest)) : mJ p l e R s m args below meth c D cl ty b nL Q cells slots T I P lv pc (v2 :: v1 :: rest) := by
  obtain ⟨h1, h3, h4⟩ := hg
  exact mJ_callS X (As := [v1, v2]) hM h1 h3 h4 rfl rfl hW hR hcs hd (fun v T' I' P' hp => by obtain ⟨rfl, rfl, rfl, rfl⟩ := hp; exact kk)
theorem mJ_Ni2 (X : mX p s m meth c args cc nL own ret TT NN D cl b) {y : MethodName} {bytes : ByteArray} {maxL idx k : Nat} {host : String} {ry : Option FieldType} {v1 v2 : Value} {r : Int32} {I2 : mI} {P2 : mP} (hg : mGN TT NN own idx y host bytes maxL ry 2) (hM : mMet l D cl ty b TT NN y bytes maxL ry (mR k) T I P [v1, v2] (mPi T r I2 P2)) (hd : decode cc pc = .ok (.invokestatic idx, 3)) (hR : k + 1 ≤ R.frames ∧ 8 + (maxL + 11) + 33 * k ≤ R.locals) (hW : (rest.map fun v => v.category).sum ≤ 8) (hcs : cells ≤ R.cells ∧ slots ≤ R.slots) (kk : mJ p l e R s m args below meth c D cl ty b nL Q cells slots T I2 P2 lv (pc + 3) (.int r :: rest)) : mJ p l e R s m args below meth c D cl ty b nL Q cells slots T I P lv pc (v2 :: v1 :: rest) := by
  obtain ⟨h1, h3, h4⟩ := hg
  exact mJ_callSN X (As := [v1, v2]) hM h1 (h3 s X.2.2.2.2.2.2.2.2.2.1) h4 rfl rfl hW hR hcs hd (fun v T' I' P' hp => by obtain ⟨rfl, rfl, rfl, rfl⟩ := hp; exact kk)
theorem mJ_Vr2 (X : mX p s m meth c args cc nL own ret TT NN D cl b) {y : MethodName} {bytes : ByteArray} {maxL idx a ci k : Nat} {ry : Option FieldType} {v1 v2 : Value} {r : Nat} {I2 : mI} {P2 : mP} (hg : mG cl TT own idx y bytes maxL ry 2 ci) (hM : mMet l D cl ty b TT NN y bytes maxL ry (mR k) T I P [.ref a, v1, v2] (mPr T r I2 P2)) (hT : T a = some (0, ci, 0)) (hd : decode cc pc = .ok (.invokevirtual idx, 3)) (hR : k + 1 ≤ R.frames ∧ 8 + (maxL + 11) + 33 * k ≤ R.locals) (hW : (rest.map fun v => v.category).sum ≤ 8) (hcs : cells ≤ R.cells ∧ slots ≤ R.slots) (kk : mJ p l e R s m args below meth c D cl ty b nL Q cells slots T I2 P2 lv (pc + 3) (.ref r :: rest)) : mJ p l e R s m args below meth c D cl ty b nL Q cells slots T I P lv pc (v2 :: v1 :: .ref a :: rest) := by
  obtain ⟨h1, ⟨F, N, h2⟩, h3, h4, h5⟩ := hg
  exact mJ_callV X (As := [v1, v2]) hM h1 h2 hT h3 h4 h5 rfl rfl hW hR hcs hd (fun v T' I' P' hp => by obtain ⟨rfl, rfl, rfl, rfl⟩ := hp; exact kk)
theorem mJ_Sr2 (X : mX p s m meth c args cc nL own ret TT NN D cl b) {y : MethodName} {bytes : ByteArray} {maxL idx k : Nat} {ry : Option FieldType} {v1 v2 : Value} {r : Nat} {I2 : mI} {P2 : mP} (hg : mGS TT own idx y bytes maxL ry 2) (hM : mMet l D cl ty b TT NN y bytes maxL ry (mR k) T I P [v1, v2] (mPr T r I2 P2)) (hd : decode cc pc = .ok (.invokestatic idx, 3)) (hR : k + 1 ≤ R.frames ∧ 8 + (maxL + 11) + 33 * k ≤ R.locals) (hW : (rest.map fun v => v.category).sum ≤ 8) (hcs : cells ≤ R.cells ∧ slots ≤ R.slots) (kk : mJ p l e R s m args below meth c D cl ty b nL Q cells slots T I2 P2 lv (pc + 3) (.ref r :: rest)) : mJ p l e R s m args below meth c D cl ty b nL Q cells slots T I P lv pc (v2 :: v1 :: rest) := by
  obtain ⟨h1, h3, h4⟩ := hg
  exact mJ_callS X (As := [v1, v2]) hM h1 h3 h4 rfl rfl hW hR hcs hd (fun v T' I' P' hp => by obtain ⟨rfl, rfl, rfl, rfl⟩ := hp; exact kk)
theorem mJ_Nr2 (X : mX p s m meth c args cc nL own ret TT NN D cl b) {y : MethodName} {bytes : ByteArray} {maxL idx k : Nat} {host : String} {ry : Option FieldType} {v1 v2 : Value} {r : Nat} {I2 : mI} {P2 : mP} (hg : mGN TT NN own idx y host bytes maxL ry 2) (hM : mMet l D cl ty b TT NN y bytes maxL ry (mR k) T I P [v1, v2] (mPr T r I2 P2)) (hd : decode cc pc = .ok (.invokestatic idx, 3)) (hR : k + 1 ≤ R.frames ∧ 8 + (maxL + 11) + 33 * k ≤ R.locals) (hW : (rest.map fun v => v.category).sum ≤ 8) (hcs : cells ≤ R.cells ∧ slots ≤ R.slots) (kk : mJ p l e R s m args below meth c D cl ty b nL Q cells slots T I2 P2 lv (pc + 3) (.ref r :: rest)) : mJ p l e R s m args below meth c D cl ty b nL Q cells slots T I P lv pc (v2 :: v1 :: rest) := by
  obtain ⟨h1, h3, h4⟩ := hg
  exact mJ_callSN X (As := [v1, v2]) hM h1 (h3 s X.2.2.2.2.2.2.2.2.2.1) h4 rfl rfl hW hR hcs hd (fun v T' I' P' hp => by obtain ⟨rfl, rfl, rfl, rfl⟩ := hp; exact kk)
theorem mJ_Vv2 (X : mX p s m meth c args cc nL own ret TT NN D cl b) {y : MethodName} {bytes : ByteArray} {maxL idx a ci k : Nat} {ry : Option FieldType} {v1 v2 : Value} {I2 : mI} {P2 : mP} (hg : mG cl TT own idx y bytes maxL ry 2 ci) (hM : mMet l D cl ty b TT NN y bytes maxL ry (mR k) T I P [.ref a, v1, v2] (mPv T I2 P2)) (hT : T a = some (0, ci, 0)) (hd : decode cc pc = .ok (.invokevirtual idx, 3)) (hR : k + 1 ≤ R.frames ∧ 8 + (maxL + 11) + 33 * k ≤ R.locals) (hW : (rest.map fun v => v.category).sum ≤ 8) (hcs : cells ≤ R.cells ∧ slots ≤ R.slots) (kk : mJ p l e R s m args below meth c D cl ty b nL Q cells slots T I2 P2 lv (pc + 3) (rest)) : mJ p l e R s m args below meth c D cl ty b nL Q cells slots T I P lv pc (v2 :: v1 :: .ref a :: rest) := by
  obtain ⟨h1, ⟨F, N, h2⟩, h3, h4, h5⟩ := hg
  exact mJ_callV X (As := [v1, v2]) hM h1 h2 hT h3 h4 h5 rfl rfl hW hR hcs hd (fun v T' I' P' hp => by obtain ⟨rfl, rfl, rfl, rfl⟩ := hp; exact kk)
theorem mJ_Sv2 (X : mX p s m meth c args cc nL own ret TT NN D cl b) {y : MethodName} {bytes : ByteArray} {maxL idx k : Nat} {ry : Option FieldType} {v1 v2 : Value} {I2 : mI} {P2 : mP} (hg : mGS TT own idx y bytes maxL ry 2) (hM : mMet l D cl ty b TT NN y bytes maxL ry (mR k) T I P [v1, v2] (mPv T I2 P2)) (hd : decode cc pc = .ok (.invokestatic idx, 3)) (hR : k + 1 ≤ R.frames ∧ 8 + (maxL + 11) + 33 * k ≤ R.locals) (hW : (rest.map fun v => v.category).sum ≤ 8) (hcs : cells ≤ R.cells ∧ slots ≤ R.slots) (kk : mJ p l e R s m args below meth c D cl ty b nL Q cells slots T I2 P2 lv (pc + 3) (rest)) : mJ p l e R s m args below meth c D cl ty b nL Q cells slots T I P lv pc (v2 :: v1 :: rest) := by
  obtain ⟨h1, h3, h4⟩ := hg
  exact mJ_callS X (As := [v1, v2]) hM h1 h3 h4 rfl rfl hW hR hcs hd (fun v T' I' P' hp => by obtain ⟨rfl, rfl, rfl, rfl⟩ := hp; exact kk)
theorem mJ_Nv2 (X : mX p s m meth c args cc nL own ret TT NN D cl b) {y : MethodName} {bytes : ByteArray} {maxL idx k : Nat} {host : String} {ry : Option FieldType} {v1 v2 : Value} {I2 : mI} {P2 : mP} (hg : mGN TT NN own idx y host bytes maxL ry 2) (hM : mMet l D cl ty b TT NN y bytes maxL ry (mR k) T I P [v1, v2] (mPv T I2 P2)) (hd : decode cc pc = .ok (.invokestatic idx, 3)) (hR : k + 1 ≤ R.frames ∧ 8 + (maxL + 11) + 33 * k ≤ R.locals) (hW : (rest.map fun v => v.category).sum ≤ 8) (hcs : cells ≤ R.cells ∧ slots ≤ R.slots) (kk : mJ p l e R s m args below meth c D cl ty b nL Q cells slots T I2 P2 lv (pc + 3) (rest)) : mJ p l e R s m args below meth c D cl ty b nL Q cells slots T I P lv pc (v2 :: v1 :: rest) := by
  obtain ⟨h1, h3, h4⟩ := hg
  exact mJ_callSN X (As := [v1, v2]) hM h1 (h3 s X.2.2.2.2.2.2.2.2.2.1) h4 rfl rfl hW hR hcs hd (fun v T' I' P' hp => by obtain ⟨rfl, rfl, rfl, rfl⟩ := hp; exact kk)
theorem mJ_Vi3 (X : mX p s m meth c args cc nL own ret TT NN D cl b) {y : MethodName} {bytes : ByteArray} {maxL idx a ci k : Nat} {ry : Option FieldType} {v1 v2 v3 : Value} {r : Int32} {I2 : mI} {P2 : mP} (hg : mG cl TT own idx y bytes maxL ry 3 ci) (hM : mMet l D cl ty b TT NN y bytes maxL ry (mR k) T I P [.ref a, v1, v2, v3] (mPi T r I2 P2)) (hT : T a = some (0, ci, 0)) (hd : decode cc pc = .ok (.invokevirtual idx, 3)) (hR : k + 1 ≤ R.frames ∧ 8 + (maxL + 11) + 33 * k ≤ R.locals) (hW : (rest.map fun v => v.category).sum ≤ 8) (hcs : cells ≤ R.cells ∧ slots ≤ R.slots) (kk : mJ p l e R s m args below meth c D cl ty b nL Q cells slots T I2 P2 lv (pc + 3) (.int r :: rest)) : mJ p l e R s m args below meth c D cl ty b nL Q cells slots T I P lv pc (v3 :: v2 :: v1 :: .ref a :: rest) := by
  obtain ⟨h1, ⟨F, N, h2⟩, h3, h4, h5⟩ := hg
  exact mJ_callV X (As := [v1, v2, v3]) hM h1 h2 hT h3 h4 h5 rfl rfl hW hR hcs hd (fun v T' I' P' hp => by obtain ⟨rfl, rfl, rfl, rfl⟩ := hp; exact kk)
theorem mJ_Si3 (X : mX p s m meth c args cc nL own ret TT NN D cl b) {y : MethodName} {bytes : ByteArray} {maxL idx k : Nat} {ry : Option FieldType} {v1 v2 v3 : Value} {r : Int32} {I2 : mI} {P2 : mP} (hg : mGS TT own idx y bytes maxL ry 3) (hM : mMet l D cl ty b TT NN y bytes maxL ry (mR k) T I P [v1, v2, v3] (mPi T r I2 P2)) (hd : decode cc pc = .ok (.invokestatic idx, 3)) (hR : k + 1 ≤ R.frames ∧ 8 + (maxL + 11) + 33 * k ≤ R.locals) (hW : (rest.map fun v => v.category).sum ≤ 8) (hcs : cells ≤ R.cells ∧ slots ≤ R.slots) (kk : mJ p l e R s m args below meth c D cl ty b nL Q cells slots T I2 P2 lv (pc + 3) (.int r :: rest)) : mJ p l e R s m args below meth c D cl ty b nL Q cells slots T I P lv pc (v3 :: v2 :: v1 :: rest) := by
  obtain ⟨h1, h3, h4⟩ := hg
  exact mJ_callS X (As := [v1, v2, v3]) hM h1 h3 h4 rfl rfl hW hR hcs hd (fun v T' I' P' hp => by obtain ⟨rfl, rfl, rfl, rfl⟩ := hp; exact kk)
theorem mJ_Ni3 (X : mX p s m meth c args cc nL own ret TT NN D cl b) {y : MethodName} {bytes : ByteArray} {maxL idx k : Nat} {host : String} {ry : Option FieldType} {v1 v2 v3 : Value} {r : Int32} {I2 : mI} {P2 : mP} (hg : mGN TT NN own idx y host bytes maxL ry 3) (hM : mMet l D cl ty b TT NN y bytes maxL ry (mR k) T I P [v1, v2, v3] (mPi T r I2 P2)) (hd : decode cc pc = .ok (.invokestatic idx, 3)) (hR : k + 1 ≤ R.frames ∧ 8 + (maxL + 11) + 33 * k ≤ R.locals) (hW : (rest.map fun v => v.category).sum ≤ 8) (hcs : cells ≤ R.cells ∧ slots ≤ R.slots) (kk : mJ p l e R s m args below meth c D cl ty b nL Q cells slots T I2 P2 lv (pc + 3) (.int r :: rest)) : mJ p l e R s m args below meth c D cl ty b nL Q cells slots T I P lv pc (v3 :: v2 :: v1 :: rest) := by
  obtain ⟨h1, h3, h4⟩ := hg
  exact mJ_callSN X (As := [v1, v2, v3]) hM h1 (h3 s X.2.2.2.2.2.2.2.2.2.1) h4 rfl rfl hW hR hcs hd (fun v T' I' P' hp => by obtain ⟨rfl, rfl, rfl, rfl⟩ := hp; exact kk)
theorem mJ_Vr3 (X : mX p s m meth c args cc nL own ret TT NN D cl b) {y : MethodName} {bytes : ByteArray} {maxL idx a ci k : Nat} {ry : Option FieldType} {v1 v2 v3 : Value} {r : Nat} {I2 : mI} {P2 : mP} (hg : mG cl TT own idx y bytes maxL ry 3 ci) (hM : mMet l D cl ty b TT NN y bytes maxL ry (mR k) T I P [.ref a, v1, v2, v3] (mPr T r I2 P2)) (hT : T a = some (0, ci, 0)) (hd : decode cc pc = .ok (.invokevirtual idx, 3)) (hR : k + 1 ≤ R.frames ∧ 8 + (maxL + 11) + 33 * k ≤ R.locals) (hW : (rest.map fun v => v.category).sum ≤ 8) (hcs : cells ≤ R.cells ∧ slots ≤ R.slots) (kk : mJ p l e R s m args below meth c D cl ty b nL Q cells slots T I2 P2 lv (pc + 3) (.ref r :: rest)) : mJ p l e R s m args below meth c D cl ty b nL Q cells slots T I P lv pc (v3 :: v2 :: v1 :: .ref a :: rest) := by
  obtain ⟨h1, ⟨F, N, h2⟩, h3, h4, h5⟩ := hg
  exact mJ_callV X (As := [v1, v2, v3]) hM h1 h2 hT h3 h4 h5 rfl rfl hW hR hcs hd (fun v T' I' P' hp => by obtain ⟨rfl, rfl, rfl, rfl⟩ := hp; exact kk)
theorem mJ_Sr3 (X : mX p s m meth c args cc nL own ret TT NN D cl b) {y : MethodName} {bytes : ByteArray} {maxL idx k : Nat} {ry : Option FieldType} {v1 v2 v3 : Value} {r : Nat} {I2 : mI} {P2 : mP} (hg : mGS TT own idx y bytes maxL ry 3) (hM : mMet l D cl ty b TT NN y bytes maxL ry (mR k) T I P [v1, v2, v3] (mPr T r I2 P2)) (hd : decode cc pc = .ok (.invokestatic idx, 3)) (hR : k + 1 ≤ R.frames ∧ 8 + (maxL + 11) + 33 * k ≤ R.locals) (hW : (rest.map fun v => v.category).sum ≤ 8) (hcs : cells ≤ R.cells ∧ slots ≤ R.slots) (kk : mJ p l e R s m args below meth c D cl ty b nL Q cells slots T I2 P2 lv (pc + 3) (.ref r :: rest)) : mJ p l e R s m args below meth c D cl ty b nL Q cells slots T I P lv pc (v3 :: v2 :: v1 :: rest) := by
  obtain ⟨h1, h3, h4⟩ := hg
  exact mJ_callS X (As := [v1, v2, v3]) hM h1 h3 h4 rfl rfl hW hR hcs hd (fun v T' I' P' hp => by obtain ⟨rfl, rfl, rfl, rfl⟩ := hp; exact kk)
theorem mJ_Nr3 (X : mX p s m meth c args cc nL own ret TT NN D cl b) {y : MethodName} {bytes : ByteArray} {maxL idx k : Nat} {host : String} {ry : Option FieldType} {v1 v2 v3 : Value} {r : Nat} {I2 : mI} {P2 : mP} (hg : mGN TT NN own idx y host bytes maxL ry 3) (hM : mMet l D cl ty b TT NN y bytes maxL ry (mR k) T I P [v1, v2, v3] (mPr T r I2 P2)) (hd : decode cc pc = .ok (.invokestatic idx, 3)) (hR : k + 1 ≤ R.frames ∧ 8 + (maxL + 11) + 33 * k ≤ R.locals) (hW : (rest.map fun v => v.category).sum ≤ 8) (hcs : cells ≤ R.cells ∧ slots ≤ R.slots) (kk : mJ p l e R s m args below meth c D cl ty b nL Q cells slots T I2 P2 lv (pc + 3) (.ref r :: rest)) : mJ p l e R s m args below meth c D cl ty b nL Q cells slots T I P lv pc (v3 :: v2 :: v1 :: rest) := by
  obtain ⟨h1, h3, h4⟩ := hg
  exact mJ_callSN X (As := [v1, v2, v3]) hM h1 (h3 s X.2.2.2.2.2.2.2.2.2.1) h4 rfl rfl hW hR hcs hd (fun v T' I' P' hp => by obtain ⟨rfl, rfl, rfl, rfl⟩ := hp; exact kk)
theorem mJ_Vv3 (X : mX p s m meth c args cc nL own ret TT NN D cl b) {y : MethodName} {bytes : ByteArray} {maxL idx a ci k : Nat} {ry : Option FieldType} {v1 v2 v3 : Value} {I2 : mI} {P2 : mP} (hg : mG cl TT own idx y bytes maxL ry 3 ci) (hM : mMet l D cl ty b TT NN y bytes maxL ry (mR k) T I P [.ref a, v1, v2, v3] (mPv T I2 P2)) (hT : T a = some (0, ci, 0)) (hd : decode cc pc = .ok (.invokevirtual idx, 3)) (hR : k + 1 ≤ R.frames ∧ 8 + (maxL + 11) + 33 * k ≤ R.locals) (hW : (rest.map fun v => v.category).sum ≤ 8) (hcs : cells ≤ R.cells ∧ slots ≤ R.slots) (kk : mJ p l e R s m args below meth c D cl ty b nL Q cells slots T I2 P2 lv (pc + 3) (rest)) : mJ p l e R s m args below meth c D cl ty b nL Q cells slots T I P lv pc (v3 :: v2 :: v1 :: .ref a :: rest) := by
  obtain ⟨h1, ⟨F, N, h2⟩, h3, h4, h5⟩ := hg
  exact mJ_callV X (As := [v1, v2, v3]) hM h1 h2 hT h3 h4 h5 rfl rfl hW hR hcs hd (fun v T' I' P' hp => by obtain ⟨rfl, rfl, rfl, rfl⟩ := hp; exact kk)
theorem mJ_Sv3 (X : mX p s m meth c args cc nL own ret TT NN D cl b) {y : MethodName} {bytes : ByteArray} {maxL idx k : Nat} {ry : Option FieldType} {v1 v2 v3 : Value} {I2 : mI} {P2 : mP} (hg : mGS TT own idx y bytes maxL ry 3) (hM : mMet l D cl ty b TT NN y bytes maxL ry (mR k) T I P [v1, v2, v3] (mPv T I2 P2)) (hd : decode cc pc = .ok (.invokestatic idx, 3)) (hR : k + 1 ≤ R.frames ∧ 8 + (maxL + 11) + 33 * k ≤ R.locals) (hW : (rest.map fun v => v.category).sum ≤ 8) (hcs : cells ≤ R.cells ∧ slots ≤ R.slots) (kk : mJ p l e R s m args below meth c D cl ty b nL Q cells slots T I2 P2 lv (pc + 3) (rest)) : mJ p l e R s m args below meth c D cl ty b nL Q cells slots T I P lv pc (v3 :: v2 :: v1 :: rest) := by
  obtain ⟨h1, h3, h4⟩ := hg
  exact mJ_callS X (As := [v1, v2, v3]) hM h1 h3 h4 rfl rfl hW hR hcs hd (fun v T' I' P' hp => by obtain ⟨rfl, rfl, rfl, rfl⟩ := hp; exact kk)
theorem mJ_Nv3 (X : mX p s m meth c args cc nL own ret TT NN D cl b) {y : MethodName} {bytes : ByteArray} {maxL idx k : Nat} {host : String} {ry : Option FieldType} {v1 v2 v3 : Value} {I2 : mI} {P2 : mP} (hg : mGN TT NN own idx y host bytes maxL ry 3) (hM : mMet l D cl ty b TT NN y bytes maxL ry (mR k) T I P [v1, v2, v3] (mPv T I2 P2)) (hd : decode cc pc = .ok (.invokestatic idx, 3)) (hR : k + 1 ≤ R.frames ∧ 8 + (maxL + 11) + 33 * k ≤ R.locals) (hW : (rest.map fun v => v.category).sum ≤ 8) (hcs : cells ≤ R.cells ∧ slots ≤ R.slots) (kk : mJ p l e R s m args below meth c D cl ty b nL Q cells slots T I2 P2 lv (pc + 3) (rest)) : mJ p l e R s m args below meth c D cl ty b nL Q cells slots T I P lv pc (v3 :: v2 :: v1 :: rest) := by
  obtain ⟨h1, h3, h4⟩ := hg
  exact mJ_callSN X (As := [v1, v2, v3]) hM h1 (h3 s X.2.2.2.2.2.2.2.2.2.1) h4 rfl rfl hW hR hcs hd (fun v T' I' P' hp => by obtain ⟨rfl, rfl, rfl, rfl⟩ := hp; exact kk)
theorem mJ_Vi4 (X : mX p s m meth c args cc nL own ret TT NN D cl b) {y : MethodName} {bytes : ByteArray} {maxL idx a ci k : Nat} {ry : Option FieldType} {v1 v2 v3 v4 : Value} {r : Int32} {I2 : mI} {P2 : mP} (hg : mG cl TT own idx y bytes maxL ry 4 ci) (hM : mMet l D cl ty b TT NN y bytes maxL ry (mR k) T I P [.ref a, v1, v2, v3, v4] (mPi T r I2 P2)) (hT : T a = some (0, ci, 0)) (hd : decode cc pc = .ok (.invokevirtual idx, 3)) (hR : k + 1 ≤ R.frames ∧ 8 + (maxL + 11) + 33 * k ≤ R.locals) (hW : (rest.map fun v => v.category).sum ≤ 8) (hcs : cells ≤ R.cells ∧ slots ≤ R.slots) (kk : mJ p l e R s m args below meth c D cl ty b nL Q cells slots T I2 P2 lv (pc + 3) (.int r :: rest)) : mJ p l e R s m args below meth c D cl ty b nL Q cells slots T I P lv pc (v4 :: v3 :: v2 :: v1 :: .ref a :: rest) := by
  obtain ⟨h1, ⟨F, N, h2⟩, h3, h4, h5⟩ := hg
  exact mJ_callV X (As := [v1, v2, v3, v4]) hM h1 h2 hT h3 h4 h5 rfl rfl hW hR hcs hd (fun v T' I' P' hp => by obtain ⟨rfl, rfl, rfl, rfl⟩ := hp; exact kk)
theorem mJ_Vr4 (X : mX p s m meth c args cc nL own ret TT NN D cl b) {y : MethodName} {bytes : ByteArray} {maxL idx a ci k : Nat} {ry : Option FieldType} {v1 v2 v3 v4 : Value} {r : Nat} {I2 : mI} {P2 : mP} (hg : mG cl TT own idx y bytes maxL ry 4 ci) (hM : mMet l D cl ty b TT NN y bytes maxL ry (mR k) T I P [.ref a, v1, v2, v3, v4] (mPr T r I2 P2)) (hT : T a = some (0, ci, 0)) (hd : decode cc pc = .ok (.invokevirtual idx, 3)) (hR : k + 1 ≤ R.frames ∧ 8 + (maxL + 11) + 33 * k ≤ R.locals) (hW : (rest.map fun v => v.category).sum ≤ 8) (hcs : cells ≤ R.cells ∧ slots ≤ R.slots) (kk : mJ p l e R s m args below meth c D cl ty b nL Q cells slots T I2 P2 lv (pc + 3) (.ref r :: rest)) : mJ p l e R s m args below meth c D cl ty b nL Q cells slots T I P lv pc (v4 :: v3 :: v2 :: v1 :: .ref a :: rest) := by
  obtain ⟨h1, ⟨F, N, h2⟩, h3, h4, h5⟩ := hg
  exact mJ_callV X (As := [v1, v2, v3, v4]) hM h1 h2 hT h3 h4 h5 rfl rfl hW hR hcs hd (fun v T' I' P' hp => by obtain ⟨rfl, rfl, rfl, rfl⟩ := hp; exact kk)
theorem mJ_Vv4 (X : mX p s m meth c args cc nL own ret TT NN D cl b) {y : MethodName} {bytes : ByteArray} {maxL idx a ci k : Nat} {ry : Option FieldType} {v1 v2 v3 v4 : Value} {I2 : mI} {P2 : mP} (hg : mG cl TT own idx y bytes maxL ry 4 ci) (hM : mMet l D cl ty b TT NN y bytes maxL ry (mR k) T I P [.ref a, v1, v2, v3, v4] (mPv T I2 P2)) (hT : T a = some (0, ci, 0)) (hd : decode cc pc = .ok (.invokevirtual idx, 3)) (hR : k + 1 ≤ R.frames ∧ 8 + (maxL + 11) + 33 * k ≤ R.locals) (hW : (rest.map fun v => v.category).sum ≤ 8) (hcs : cells ≤ R.cells ∧ slots ≤ R.slots) (kk : mJ p l e R s m args below meth c D cl ty b nL Q cells slots T I2 P2 lv (pc + 3) (rest)) : mJ p l e R s m args below meth c D cl ty b nL Q cells slots T I P lv pc (v4 :: v3 :: v2 :: v1 :: .ref a :: rest) := by
  obtain ⟨h1, ⟨F, N, h2⟩, h3, h4, h5⟩ := hg
  exact mJ_callV X (As := [v1, v2, v3, v4]) hM h1 h2 hT h3 h4 h5 rfl rfl hW hR hcs hd (fun v T' I' P' hp => by obtain ⟨rfl, rfl, rfl, rfl⟩ := hp; exact kk)
theorem mJ_Vi5 (X : mX p s m meth c args cc nL own ret TT NN D cl b) {y : MethodName} {bytes : ByteArray} {maxL idx a ci k : Nat} {ry : Option FieldType} {v1 v2 v3 v4 v5 : Value} {r : Int32} {I2 : mI} {P2 : mP} (hg : mG cl TT own idx y bytes maxL ry 5 ci) (hM : mMet l D cl ty b TT NN y bytes maxL ry (mR k) T I P [.ref a, v1, v2, v3, v4, v5] (mPi T r I2 P2)) (hT : T a = some (0, ci, 0)) (hd : decode cc pc = .ok (.invokevirtual idx, 3)) (hR : k + 1 ≤ R.frames ∧ 8 + (maxL + 11) + 33 * k ≤ R.locals) (hW : (rest.map fun v => v.category).sum ≤ 8) (hcs : cells ≤ R.cells ∧ slots ≤ R.slots) (kk : mJ p l e R s m args below meth c D cl ty b nL Q cells slots T I2 P2 lv (pc + 3) (.int r :: rest)) : mJ p l e R s m args below meth c D cl ty b nL Q cells slots T I P lv pc (v5 :: v4 :: v3 :: v2 :: v1 :: .ref a :: rest) := by
  obtain ⟨h1, ⟨F, N, h2⟩, h3, h4, h5⟩ := hg
  exact mJ_callV X (As := [v1, v2, v3, v4, v5]) hM h1 h2 hT h3 h4 h5 rfl rfl hW hR hcs hd (fun v T' I' P' hp => by obtain ⟨rfl, rfl, rfl, rfl⟩ := hp; exact kk)
theorem mJ_Vr5 (X : mX p s m meth c args cc nL own ret TT NN D cl b) {y : MethodName} {bytes : ByteArray} {maxL idx a ci k : Nat} {ry : Option FieldType} {v1 v2 v3 v4 v5 : Value} {r : Nat} {I2 : mI} {P2 : mP} (hg : mG cl TT own idx y bytes maxL ry 5 ci) (hM : mMet l D cl ty b TT NN y bytes maxL ry (mR k) T I P [.ref a, v1, v2, v3, v4, v5] (mPr T r I2 P2)) (hT : T a = some (0, ci, 0)) (hd : decode cc pc = .ok (.invokevirtual idx, 3)) (hR : k + 1 ≤ R.frames ∧ 8 + (maxL + 11) + 33 * k ≤ R.locals) (hW : (rest.map fun v => v.category).sum ≤ 8) (hcs : cells ≤ R.cells ∧ slots ≤ R.slots) (kk : mJ p l e R s m args below meth c D cl ty b nL Q cells slots T I2 P2 lv (pc + 3) (.ref r :: rest)) : mJ p l e R s m args below meth c D cl ty b nL Q cells slots T I P lv pc (v5 :: v4 :: v3 :: v2 :: v1 :: .ref a :: rest) := by
  obtain ⟨h1, ⟨F, N, h2⟩, h3, h4, h5⟩ := hg
  exact mJ_callV X (As := [v1, v2, v3, v4, v5]) hM h1 h2 hT h3 h4 h5 rfl rfl hW hR hcs hd (fun v T' I' P' hp => by obtain ⟨rfl, rfl, rfl, rfl⟩ := hp; exact kk)
theorem mJ_Vv5 (X : mX p s m meth c args cc nL own ret TT NN D cl b) {y : MethodName} {bytes : ByteArray} {maxL idx a ci k : Nat} {ry : Option FieldType} {v1 v2 v3 v4 v5 : Value} {I2 : mI} {P2 : mP} (hg : mG cl TT own idx y bytes maxL ry 5 ci) (hM : mMet l D cl ty b TT NN y bytes maxL ry (mR k) T I P [.ref a, v1, v2, v3, v4, v5] (mPv T I2 P2)) (hT : T a = some (0, ci, 0)) (hd : decode cc pc = .ok (.invokevirtual idx, 3)) (hR : k + 1 ≤ R.frames ∧ 8 + (maxL + 11) + 33 * k ≤ R.locals) (hW : (rest.map fun v => v.category).sum ≤ 8) (hcs : cells ≤ R.cells ∧ slots ≤ R.slots) (kk : mJ p l e R s m args below meth c D cl ty b nL Q cells slots T I2 P2 lv (pc + 3) (rest)) : mJ p l e R s m args below meth c D cl ty b nL Q cells slots T I P lv pc (v5 :: v4 :: v3 :: v2 :: v1 :: .ref a :: rest) := by
  obtain ⟨h1, ⟨F, N, h2⟩, h3, h4, h5⟩ := hg
  exact mJ_callV X (As := [v1, v2, v3, v4, v5]) hM h1 h2 hT h3 h4 h5 rfl rfl hW hR hcs hd (fun v T' I' P' hp => by obtain ⟨rfl, rfl, rfl, rfl⟩ := hp; exact kk)
end MR
end
section
/-! the words: TT the good ones of lw_tbl, NN what else of the tables is carried; bundles by field and by call (printed by a program) -/
def TT : List Cond := lw_tbl.filter goodWord
theorem TT_good : GoodIn TT TT := fun w hw => ⟨hw, good_of_word (List.mem_filter.mp hw).2⟩
theorem TT_in {w : Cond} (i : Nat) (h : lw_tbl[i]? = some w) (hg : goodWord w = true) : w ∈ TT := List.mem_filter.mpr ⟨List.mem_of_getElem? h, hg⟩
theorem TT_t {w : Cond} (i : Nat) (h : tables_1[i]? = some w) (hg : goodWord w = true) : w ∈ TT := List.mem_filter.mpr ⟨List.mem_append_right _ (List.mem_of_getElem? h), hg⟩
theorem TT_1 {w : Cond} (i : Nat) (h : tables_1_1[i]? = some w) (hg : goodWord w = true) : w ∈ TT := List.mem_filter.mpr ⟨List.mem_append_right _ (List.mem_append_left _ (List.mem_of_getElem? h)), hg⟩
theorem TT_2 {w : Cond} (i : Nat) (h : tables_1_2[i]? = some w) (hg : goodWord w = true) : w ∈ TT := List.mem_filter.mpr ⟨List.mem_append_right _ (List.mem_append_right _ (List.mem_append_left _ (List.mem_of_getElem? h))), hg⟩
theorem TT_3 {w : Cond} (i : Nat) (h : tables_1_3[i]? = some w) (hg : goodWord w = true) : w ∈ TT := List.mem_filter.mpr ⟨List.mem_append_right _ (List.mem_append_right _ (List.mem_append_right _ (List.mem_append_left _ (List.mem_of_getElem? h)))), hg⟩
theorem TT_4 {w : Cond} (i : Nat) (h : tables_1_4[i]? = some w) (hg : goodWord w = true) : w ∈ TT := List.mem_filter.mpr ⟨List.mem_append_right _ (List.mem_append_right _ (List.mem_append_right _ (List.mem_append_right _ (List.mem_append_left _ (List.mem_of_getElem? h))))), hg⟩
theorem TT_5 {w : Cond} (i : Nat) (h : tables_1_5[i]? = some w) (hg : goodWord w = true) : w ∈ TT := List.mem_filter.mpr ⟨List.mem_append_right _ (List.mem_append_right _ (List.mem_append_right _ (List.mem_append_right _ (List.mem_append_right _ (List.mem_of_getElem? h))))), hg⟩
theorem TT_p {q : MethodName × Nat} (i : Nat) (h : lw_privs[i]? = some q) (hg : goodWord (Cond.selects q.1.cls q.1 q.1) = true) : Cond.selects q.1.cls q.1 q.1 ∈ TT := List.mem_filter.mpr ⟨List.mem_append_left _ (List.mem_map.mpr ⟨q, List.mem_of_getElem? h, rfl⟩), hg⟩
def mty (ci : Nat) : Nat → FieldType := match ci with
  | 0 => tyX0
  | 1 => tyX1
  | 2 => tyX2
  | 3 => tyX3
  | 4 => tyX4
  | 5 => tyX5
  | 6 => tyX6
  | 7 => tyX7
  | 8 => tyX8
  | 9 => tyX9
  | 10 => tyX10
  | _ => tyX11
theorem wiX0 : ∀ w ∈ u_ws RX0 TX0 3, w ∈ TT := by
  have h : u_ws RX0 TX0 3 = [122, 124, 126].filterMap (fun i => tables_1[i]?) := by decide +kernel
  have hg : (u_ws RX0 TX0 3).all goodWord = true := by decide +kernel
  intro w hw
  have h1 := List.all_eq_true.mp hg w hw
  rw [h] at hw
  obtain ⟨i, -, hi⟩ := List.mem_filterMap.mp hw
  exact TT_t i hi h1
theorem clX0 : mCl vwCl mty TT 0 RX0 TX0 3 := ⟨rfl, wiX0, tyX0_ok, nmX0⟩
theorem dfX0 : ∀ j, j < 3 → defaultValue (mty 0 j) = mv (mty 0 j) 0 none := by decide +kernel
theorem wiX1 : ∀ w ∈ u_ws RX1 TX1 2, w ∈ TT := by
  have h : u_ws RX1 TX1 2 = [143, 145].filterMap (fun i => tables_1[i]?) := by decide +kernel
  have hg : (u_ws RX1 TX1 2).all goodWord = true := by decide +kernel
  intro w hw
  have h1 := List.all_eq_true.mp hg w hw
  rw [h] at hw
  obtain ⟨i, -, hi⟩ := List.mem_filterMap.mp hw
  exact TT_t i hi h1
theorem clX1 : mCl vwCl mty TT 1 RX1 TX1 2 := ⟨rfl, wiX1, tyX1_ok, nmX1⟩
theorem dfX1 : ∀ j, j < 2 → defaultValue (mty 1 j) = mv (mty 1 j) 0 none := by decide +kernel
theorem wiX2 : ∀ w ∈ u_ws RX2 TX2 5, w ∈ TT := by
  have h : u_ws RX2 TX2 5 = [79, 81, 83, 85, 87].filterMap (fun i => tables_1[i]?) := by decide +kernel
  have hg : (u_ws RX2 TX2 5).all goodWord = true := by decide +kernel
  intro w hw
  have h1 := List.all_eq_true.mp hg w hw
  rw [h] at hw
  obtain ⟨i, -, hi⟩ := List.mem_filterMap.mp hw
  exact TT_t i hi h1
theorem clX2 : mCl vwCl mty TT 2 RX2 TX2 5 := ⟨rfl, wiX2, tyX2_ok, nmX2⟩
theorem dfX2 : ∀ j, j < 5 → defaultValue (mty 2 j) = mv (mty 2 j) 0 none := by decide +kernel
theorem wiX3 : ∀ w ∈ u_ws RX3 TX3 2, w ∈ TT := by
  have h : u_ws RX3 TX3 2 = [56, 58].filterMap (fun i => tables_1[i]?) := by decide +kernel
  have hg : (u_ws RX3 TX3 2).all goodWord = true := by decide +kernel
  intro w hw
  have h1 := List.all_eq_true.mp hg w hw
  rw [h] at hw
  obtain ⟨i, -, hi⟩ := List.mem_filterMap.mp hw
  exact TT_t i hi h1
theorem clX3 : mCl vwCl mty TT 3 RX3 TX3 2 := ⟨rfl, wiX3, tyX3_ok, nmX3⟩
theorem dfX3 : ∀ j, j < 2 → defaultValue (mty 3 j) = mv (mty 3 j) 0 none := by decide +kernel
theorem wiX4 : ∀ w ∈ u_ws RX4 TX4 4, w ∈ TT := by
  have h : u_ws RX4 TX4 4 = [38, 40, 42, 44].filterMap (fun i => tables_1[i]?) := by decide +kernel
  have hg : (u_ws RX4 TX4 4).all goodWord = true := by decide +kernel
  intro w hw
  have h1 := List.all_eq_true.mp hg w hw
  rw [h] at hw
  obtain ⟨i, -, hi⟩ := List.mem_filterMap.mp hw
  exact TT_t i hi h1
theorem clX4 : mCl vwCl mty TT 4 RX4 TX4 4 := ⟨rfl, wiX4, tyX4_ok, nmX4⟩
theorem dfX4 : ∀ j, j < 4 → defaultValue (mty 4 j) = mv (mty 4 j) 0 none := by decide +kernel
theorem wiX5 : ∀ w ∈ u_ws RX5 TX5 7, w ∈ TT := by
  have h : u_ws RX5 TX5 7 = [166, 168, 170, 172, 174, 176, 178].filterMap (fun i => tables_1[i]?) := by decide +kernel
  have hg : (u_ws RX5 TX5 7).all goodWord = true := by decide +kernel
  intro w hw
  have h1 := List.all_eq_true.mp hg w hw
  rw [h] at hw
  obtain ⟨i, -, hi⟩ := List.mem_filterMap.mp hw
  exact TT_t i hi h1
theorem clX5 : mCl vwCl mty TT 5 RX5 TX5 7 := ⟨rfl, wiX5, tyX5_ok, nmX5⟩
theorem dfX5 : ∀ j, j < 7 → defaultValue (mty 5 j) = mv (mty 5 j) 0 none := by decide +kernel
theorem wiX6 : ∀ w ∈ u_ws RX6 TX6 3, w ∈ TT := by
  have h : u_ws RX6 TX6 3 = [229, 231, 233].filterMap (fun i => tables_1[i]?) := by decide +kernel
  have hg : (u_ws RX6 TX6 3).all goodWord = true := by decide +kernel
  intro w hw
  have h1 := List.all_eq_true.mp hg w hw
  rw [h] at hw
  obtain ⟨i, -, hi⟩ := List.mem_filterMap.mp hw
  exact TT_t i hi h1
theorem clX6 : mCl vwCl mty TT 6 RX6 TX6 3 := ⟨rfl, wiX6, tyX6_ok, nmX6⟩
theorem dfX6 : ∀ j, j < 3 → defaultValue (mty 6 j) = mv (mty 6 j) 0 none := by decide +kernel
theorem wiX7 : ∀ w ∈ u_ws RX7 TX7 12, w ∈ TT := by
  have h : u_ws RX7 TX7 12 = [193, 195, 197, 199, 201, 203, 205, 207, 209, 211, 213, 215].filterMap (fun i => tables_1[i]?) := by decide +kernel
  have hg : (u_ws RX7 TX7 12).all goodWord = true := by decide +kernel
  intro w hw
  have h1 := List.all_eq_true.mp hg w hw
  rw [h] at hw
  obtain ⟨i, -, hi⟩ := List.mem_filterMap.mp hw
  exact TT_t i hi h1
theorem clX7 : mCl vwCl mty TT 7 RX7 TX7 12 := ⟨rfl, wiX7, tyX7_ok, nmX7⟩
theorem dfX7 : ∀ j, j < 12 → defaultValue (mty 7 j) = mv (mty 7 j) 0 none := by decide +kernel
theorem wiX8 : ∀ w ∈ u_ws RX8 TX8 3, w ∈ TT := by
  have h : u_ws RX8 TX8 3 = [93, 95, 97].filterMap (fun i => tables_1[i]?) := by decide +kernel
  have hg : (u_ws RX8 TX8 3).all goodWord = true := by decide +kernel
  intro w hw
  have h1 := List.all_eq_true.mp hg w hw
  rw [h] at hw
  obtain ⟨i, -, hi⟩ := List.mem_filterMap.mp hw
  exact TT_t i hi h1
theorem clX8 : mCl vwCl mty TT 8 RX8 TX8 3 := ⟨rfl, wiX8, tyX8_ok, nmX8⟩
theorem dfX8 : ∀ j, j < 3 → defaultValue (mty 8 j) = mv (mty 8 j) 0 none := by decide +kernel
theorem wiX9 : ∀ w ∈ u_ws RX9 TX9 2, w ∈ TT := by
  have h : u_ws RX9 TX9 2 = [108, 110].filterMap (fun i => tables_1[i]?) := by decide +kernel
  have hg : (u_ws RX9 TX9 2).all goodWord = true := by decide +kernel
  intro w hw
  have h1 := List.all_eq_true.mp hg w hw
  rw [h] at hw
  obtain ⟨i, -, hi⟩ := List.mem_filterMap.mp hw
  exact TT_t i hi h1
theorem clX9 : mCl vwCl mty TT 9 RX9 TX9 2 := ⟨rfl, wiX9, tyX9_ok, nmX9⟩
theorem dfX9 : ∀ j, j < 2 → defaultValue (mty 9 j) = mv (mty 9 j) 0 none := by decide +kernel
theorem wiX10 : ∀ w ∈ u_ws RX10 TX10 9, w ∈ TT := by
  have h : u_ws RX10 TX10 9 = [245, 247, 249, 251, 253, 255, 257, 259, 261].filterMap (fun i => tables_1[i]?) := by decide +kernel
  have hg : (u_ws RX10 TX10 9).all goodWord = true := by decide +kernel
  intro w hw
  have h1 := List.all_eq_true.mp hg w hw
  rw [h] at hw
  obtain ⟨i, -, hi⟩ := List.mem_filterMap.mp hw
  exact TT_t i hi h1
theorem clX10 : mCl vwCl mty TT 10 RX10 TX10 9 := ⟨rfl, wiX10, tyX10_ok, nmX10⟩
theorem dfX10 : ∀ j, j < 9 → defaultValue (mty 10 j) = mv (mty 10 j) 0 none := by decide +kernel
theorem wiX11 : ∀ w ∈ u_ws RX11 TX11 36, w ∈ TT := by
  have h : u_ws RX11 TX11 36 = [782, 784, 786, 788, 790, 792, 794, 796, 798, 800, 802, 804, 806, 808, 810, 812, 814, 816, 818, 820, 822, 824, 826, 828, 830, 832, 834, 836, 838, 840, 842, 844, 846, 848, 850, 852].filterMap (fun i => tables_1[i]?) := by decide +kernel
  have hg : (u_ws RX11 TX11 36).all goodWord = true := by decide +kernel
  intro w hw
  have h1 := List.all_eq_true.mp hg w hw
  rw [h] at hw
  obtain ⟨i, -, hi⟩ := List.mem_filterMap.mp hw
  exact TT_t i hi h1
theorem clX11 : mCl vwCl mty TT 11 RX11 TX11 36 := ⟨rfl, wiX11, tyX11_ok, nmX11⟩
theorem dfX11 : ∀ j, j < 36 → defaultValue (mty 11 j) = mv (mty 11 j) 0 none := by decide +kernel
theorem fX4_9 : mF vwCl mty TT RX4 9 4 0 1 := ⟨RX4, TX4, 4, clX4, by decide, TT_1 34 rfl rfl, Or.inr ⟨rfl, rfl⟩, (fun h => absurd h (by decide)), (fun _ => ⟨fun _ _ => rfl, fun _ => ⟨rfl, rfl⟩⟩)⟩
theorem fX4_21 : mF vwCl mty TT RX4 21 4 1 0 := ⟨RX4, TX4, 4, clX4, by decide, TT_1 35 rfl rfl, Or.inl rfl, (fun _ _ _ => rfl), (fun h => absurd h (by decide))⟩
theorem fwX4_21 : mFw vwCl RX4 4 1 := ⟨RX4, TX4, 4, rfl, rfl⟩
theorem fX4_25 : mF vwCl mty TT RX4 25 4 2 0 := ⟨RX4, TX4, 4, clX4, by decide, TT_1 36 rfl rfl, Or.inl rfl, (fun _ _ _ => rfl), (fun h => absurd h (by decide))⟩
theorem fwX4_25 : mFw vwCl RX4 4 2 := ⟨RX4, TX4, 4, rfl, rfl⟩
theorem fX4_28 : mF vwCl mty TT RX4 28 4 3 0 := ⟨RX4, TX4, 4, clX4, by decide, TT_1 37 rfl rfl, Or.inl rfl, (fun _ _ _ => rfl), (fun h => absurd h (by decide))⟩
theorem fwX4_28 : mFw vwCl RX4 4 3 := ⟨RX4, TX4, 4, rfl, rfl⟩
theorem fX3_9 : mF vwCl mty TT RX3 9 3 0 1 := ⟨RX3, TX3, 2, clX3, by decide, TT_1 54 rfl rfl, Or.inr ⟨rfl, rfl⟩, (fun h => absurd h (by decide)), (fun _ => ⟨fun _ _ => rfl, fun _ => ⟨rfl, rfl⟩⟩)⟩
theorem fX3_15 : mF vwCl mty TT RX3 15 3 1 0 := ⟨RX3, TX3, 2, clX3, by decide, TT_1 55 rfl rfl, Or.inl rfl, (fun _ _ _ => rfl), (fun h => absurd h (by decide))⟩
theorem fwX3_15 : mFw vwCl RX3 3 1 := ⟨RX3, TX3, 2, rfl, rfl⟩
theorem fX2_9 : mF vwCl mty TT RX2 9 2 0 0 := ⟨RX2, TX2, 5, clX2, by decide, TT_1 74 rfl rfl, Or.inr ⟨rfl, rfl⟩, (fun _ _ _ => rfl), (fun h => absurd h (by decide))⟩
theorem fX2_15 : mF vwCl mty TT RX2 15 2 1 0 := ⟨RX2, TX2, 5, clX2, by decide, TT_1 75 rfl rfl, Or.inr ⟨rfl, rfl⟩, (fun _ _ _ => rfl), (fun h => absurd h (by decide))⟩
theorem fX2_18 : mF vwCl mty TT RX2 18 2 2 0 := ⟨RX2, TX2, 5, clX2, by decide, TT_1 76 rfl rfl, Or.inr ⟨rfl, rfl⟩, (fun _ _ _ => rfl), (fun h => absurd h (by decide))⟩
theorem fX2_21 : mF vwCl mty TT RX2 21 2 3 0 := ⟨RX2, TX2, 5, clX2, by decide, TT_1 77 rfl rfl, Or.inr ⟨rfl, rfl⟩, (fun _ _ _ => rfl), (fun h => absurd h (by decide))⟩
theorem fX2_24 : mF vwCl mty TT RX2 24 2 4 0 := ⟨RX2, TX2, 5, clX2, by decide, TT_1 78 rfl rfl, Or.inr ⟨rfl, rfl⟩, (fun _ _ _ => rfl), (fun h => absurd h (by decide))⟩
theorem fX8_11 : mF vwCl mty TT RX8 11 8 0 1 := ⟨RX8, TX8, 3, clX8, by decide, TT_1 90 rfl rfl, Or.inr ⟨rfl, rfl⟩, (fun h => absurd h (by decide)), (fun _ => ⟨fun _ _ => rfl, fun _ => ⟨rfl, rfl⟩⟩)⟩
theorem fX8_20 : mF vwCl mty TT RX8 20 8 1 1 := ⟨RX8, TX8, 3, clX8, by decide, TT_1 91 rfl rfl, Or.inr ⟨rfl, rfl⟩, (fun h => absurd h (by decide)), (fun _ => ⟨fun _ _ => rfl, fun _ => ⟨rfl, rfl⟩⟩)⟩
theorem fX8_24 : mF vwCl mty TT RX8 24 8 2 0 := ⟨RX8, TX8, 3, clX8, by decide, TT_1 92 rfl rfl, Or.inl rfl, (fun _ _ _ => rfl), (fun h => absurd h (by decide))⟩
theorem fwX8_24 : mFw vwCl RX8 8 2 := ⟨RX8, TX8, 3, rfl, rfl⟩
theorem fX9_9 : mF vwCl mty TT RX9 9 9 0 1 := ⟨RX9, TX9, 2, clX9, by decide, TT_1 106 rfl rfl, Or.inr ⟨rfl, rfl⟩, (fun h => absurd h (by decide)), (fun _ => ⟨fun _ _ => rfl, fun _ => ⟨rfl, rfl⟩⟩)⟩
theorem fX9_15 : mF vwCl mty TT RX9 15 9 1 1 := ⟨RX9, TX9, 2, clX9, by decide, TT_1 107 rfl rfl, Or.inr ⟨rfl, rfl⟩, (fun h => absurd h (by decide)), (fun _ => ⟨fun _ _ => rfl, fun _ => ⟨rfl, rfl⟩⟩)⟩
theorem fX0_11 : mF vwCl mty TT RX0 11 0 0 1 := ⟨RX0, TX0, 3, clX0, by decide, TT_1 119 rfl rfl, Or.inr ⟨rfl, rfl⟩, (fun h => absurd h (by decide)), (fun _ => ⟨fun _ _ => rfl, fun _ => ⟨rfl, rfl⟩⟩)⟩
theorem fX0_15 : mF vwCl mty TT RX0 15 0 1 0 := ⟨RX0, TX0, 3, clX0, by decide, TT_1 120 rfl rfl, Or.inl rfl, (fun _ _ _ => rfl), (fun h => absurd h (by decide))⟩
theorem fwX0_15 : mFw vwCl RX0 0 1 := ⟨RX0, TX0, 3, rfl, rfl⟩
theorem fX0_19 : mF vwCl mty TT RX0 19 0 2 0 := ⟨RX0, TX0, 3, clX0, by decide, TT_1 121 rfl rfl, Or.inl rfl, (fun _ _ _ => rfl), (fun h => absurd h (by decide))⟩
theorem fwX0_19 : mFw vwCl RX0 0 2 := ⟨RX0, TX0, 3, rfl, rfl⟩
theorem fX1_9 : mF vwCl mty TT RX1 9 1 0 1 := ⟨RX1, TX1, 2, clX1, by decide, TT_1 141 rfl rfl, Or.inr ⟨rfl, rfl⟩, (fun h => absurd h (by decide)), (fun _ => ⟨fun _ _ => rfl, fun _ => ⟨rfl, rfl⟩⟩)⟩
theorem fX1_15 : mF vwCl mty TT RX1 15 1 1 1 := ⟨RX1, TX1, 2, clX1, by decide, TT_1 142 rfl rfl, Or.inr ⟨rfl, rfl⟩, (fun h => absurd h (by decide)), (fun _ => ⟨fun _ _ => rfl, fun _ => ⟨rfl, rfl⟩⟩)⟩
theorem fX5_13 : mF vwCl mty TT RX5 13 5 0 0 := ⟨RX5, TX5, 7, clX5, by decide, TT_1 159 rfl rfl, Or.inl rfl, (fun _ _ _ => rfl), (fun h => absurd h (by decide))⟩
theorem fwX5_13 : mFw vwCl RX5 5 0 := ⟨RX5, TX5, 7, rfl, rfl⟩
theorem fX5_7 : mF vwCl mty TT RX5 7 5 1 1 := ⟨RX5, TX5, 7, clX5, by decide, TT_1 160 rfl rfl, Or.inl rfl, (fun h => absurd h (by decide)), (fun _ => ⟨fun _ _ => rfl, fun _ => ⟨rfl, rfl⟩⟩)⟩
theorem fwX5_7 : mFw vwCl RX5 5 1 := ⟨RX5, TX5, 7, rfl, rfl⟩
theorem fX5_17 : mF vwCl mty TT RX5 17 5 2 0 := ⟨RX5, TX5, 7, clX5, by decide, TT_1 161 rfl rfl, Or.inl rfl, (fun _ _ _ => rfl), (fun h => absurd h (by decide))⟩
theorem fwX5_17 : mFw vwCl RX5 5 2 := ⟨RX5, TX5, 7, rfl, rfl⟩
theorem fX5_21 : mF vwCl mty TT RX5 21 5 3 0 := ⟨RX5, TX5, 7, clX5, by decide, TT_1 162 rfl rfl, Or.inl rfl, (fun _ _ _ => rfl), (fun h => absurd h (by decide))⟩
theorem fwX5_21 : mFw vwCl RX5 5 3 := ⟨RX5, TX5, 7, rfl, rfl⟩
theorem fX5_24 : mF vwCl mty TT RX5 24 5 4 0 := ⟨RX5, TX5, 7, clX5, by decide, TT_1 163 rfl rfl, Or.inl rfl, (fun _ _ _ => rfl), (fun h => absurd h (by decide))⟩
theorem fwX5_24 : mFw vwCl RX5 5 4 := ⟨RX5, TX5, 7, rfl, rfl⟩
theorem fX5_27 : mF vwCl mty TT RX5 27 5 5 0 := ⟨RX5, TX5, 7, clX5, by decide, TT_1 164 rfl rfl, Or.inl rfl, (fun _ _ _ => rfl), (fun h => absurd h (by decide))⟩
theorem fwX5_27 : mFw vwCl RX5 5 5 := ⟨RX5, TX5, 7, rfl, rfl⟩
theorem fX5_30 : mF vwCl mty TT RX5 30 5 6 0 := ⟨RX5, TX5, 7, clX5, by decide, TT_1 165 rfl rfl, Or.inl rfl, (fun _ _ _ => rfl), (fun h => absurd h (by decide))⟩
theorem fwX5_30 : mFw vwCl RX5 5 6 := ⟨RX5, TX5, 7, rfl, rfl⟩
theorem fX7_28 : mF vwCl mty TT RX7 28 7 0 1 := ⟨RX7, TX7, 12, clX7, by decide, TT_1 181 rfl rfl, Or.inr ⟨rfl, rfl⟩, (fun h => absurd h (by decide)), (fun _ => ⟨fun _ _ => rfl, fun _ => ⟨rfl, rfl⟩⟩)⟩
theorem fX7_32 : mF vwCl mty TT RX7 32 7 1 1 := ⟨RX7, TX7, 12, clX7, by decide, TT_1 182 rfl rfl, Or.inr ⟨rfl, rfl⟩, (fun h => absurd h (by decide)), (fun _ => ⟨fun _ _ => rfl, fun _ => ⟨rfl, rfl⟩⟩)⟩
theorem fX7_36 : mF vwCl mty TT RX7 36 7 2 1 := ⟨RX7, TX7, 12, clX7, by decide, TT_1 183 rfl rfl, Or.inr ⟨rfl, rfl⟩, (fun h => absurd h (by decide)), (fun _ => ⟨fun _ _ => rfl, fun _ => ⟨rfl, rfl⟩⟩)⟩
theorem fX7_40 : mF vwCl mty TT RX7 40 7 3 1 := ⟨RX7, TX7, 12, clX7, by decide, TT_1 184 rfl rfl, Or.inr ⟨rfl, rfl⟩, (fun h => absurd h (by decide)), (fun _ => ⟨fun _ _ => rfl, fun _ => ⟨rfl, rfl⟩⟩)⟩
theorem fX7_12 : mF vwCl mty TT RX7 12 7 4 1 := ⟨RX7, TX7, 12, clX7, by decide, TT_1 185 rfl rfl, Or.inr ⟨rfl, rfl⟩, (fun h => absurd h (by decide)), (fun _ => ⟨fun _ _ => rfl, fun _ => ⟨rfl, rfl⟩⟩)⟩
theorem fX7_20 : mF vwCl mty TT RX7 20 7 5 1 := ⟨RX7, TX7, 12, clX7, by decide, TT_1 186 rfl rfl, Or.inr ⟨rfl, rfl⟩, (fun h => absurd h (by decide)), (fun _ => ⟨fun _ _ => rfl, fun _ => ⟨rfl, rfl⟩⟩)⟩
theorem fX7_24 : mF vwCl mty TT RX7 24 7 6 1 := ⟨RX7, TX7, 12, clX7, by decide, TT_1 187 rfl rfl, Or.inr ⟨rfl, rfl⟩, (fun h => absurd h (by decide)), (fun _ => ⟨fun _ _ => rfl, fun _ => ⟨rfl, rfl⟩⟩)⟩
theorem fX7_72 : mF vwCl mty TT RX7 72 7 7 0 := ⟨RX7, TX7, 12, clX7, by decide, TT_1 188 rfl rfl, Or.inl rfl, (fun _ _ _ => rfl), (fun h => absurd h (by decide))⟩
theorem fwX7_72 : mFw vwCl RX7 7 7 := ⟨RX7, TX7, 12, rfl, rfl⟩
theorem fX7_76 : mF vwCl mty TT RX7 76 7 8 0 := ⟨RX7, TX7, 12, clX7, by decide, TT_1 189 rfl rfl, Or.inl rfl, (fun _ _ _ => rfl), (fun h => absurd h (by decide))⟩
theorem fwX7_76 : mFw vwCl RX7 7 8 := ⟨RX7, TX7, 12, rfl, rfl⟩
theorem fX7_79 : mF vwCl mty TT RX7 79 7 9 0 := ⟨RX7, TX7, 12, clX7, by decide, TT_1 190 rfl rfl, Or.inl rfl, (fun _ _ _ => rfl), (fun h => absurd h (by decide))⟩
theorem fwX7_79 : mFw vwCl RX7 7 9 := ⟨RX7, TX7, 12, rfl, rfl⟩
theorem fX7_82 : mF vwCl mty TT RX7 82 7 10 0 := ⟨RX7, TX7, 12, clX7, by decide, TT_1 191 rfl rfl, Or.inl rfl, (fun _ _ _ => rfl), (fun h => absurd h (by decide))⟩
theorem fwX7_82 : mFw vwCl RX7 7 10 := ⟨RX7, TX7, 12, rfl, rfl⟩
theorem fX7_85 : mF vwCl mty TT RX7 85 7 11 0 := ⟨RX7, TX7, 12, clX7, by decide, TT_1 192 rfl rfl, Or.inl rfl, (fun _ _ _ => rfl), (fun h => absurd h (by decide))⟩
theorem fwX7_85 : mFw vwCl RX7 7 11 := ⟨RX7, TX7, 12, rfl, rfl⟩
theorem fX6_18 : mF vwCl mty TT RX6 18 6 0 1 := ⟨RX6, TX6, 3, clX6, by decide, TT_1 226 rfl rfl, Or.inr ⟨rfl, rfl⟩, (fun h => absurd h (by decide)), (fun _ => ⟨fun _ _ => rfl, fun _ => ⟨rfl, rfl⟩⟩)⟩
theorem fX6_22 : mF vwCl mty TT RX6 22 6 1 1 := ⟨RX6, TX6, 3, clX6, by decide, TT_1 227 rfl rfl, Or.inr ⟨rfl, rfl⟩, (fun h => absurd h (by decide)), (fun _ => ⟨fun _ _ => rfl, fun _ => ⟨rfl, rfl⟩⟩)⟩
theorem fX6_12 : mF vwCl mty TT RX6 12 6 2 1 := ⟨RX6, TX6, 3, clX6, by decide, TT_1 228 rfl rfl, Or.inr ⟨rfl, rfl⟩, (fun h => absurd h (by decide)), (fun _ => ⟨fun _ _ => rfl, fun _ => ⟨rfl, rfl⟩⟩)⟩
theorem fX10_9 : mF vwCl mty TT RX10 9 10 0 1 := ⟨RX10, TX10, 9, clX10, by decide, TT_1 236 rfl rfl, Or.inr ⟨rfl, rfl⟩, (fun h => absurd h (by decide)), (fun _ => ⟨fun _ _ => rfl, fun _ => ⟨rfl, rfl⟩⟩)⟩
theorem fX10_66 : mF vwCl mty TT RX10 66 10 1 0 := ⟨RX10, TX10, 9, clX10, by decide, TT_1 237 rfl rfl, Or.inl rfl, (fun _ _ _ => rfl), (fun h => absurd h (by decide))⟩
theorem fwX10_66 : mFw vwCl RX10 10 1 := ⟨RX10, TX10, 9, rfl, rfl⟩
theorem fX10_16 : mF vwCl mty TT RX10 16 10 2 1 := ⟨RX10, TX10, 9, clX10, by decide, TT_1 238 rfl rfl, Or.inr ⟨rfl, rfl⟩, (fun h => absurd h (by decide)), (fun _ => ⟨fun _ _ => rfl, fun _ => ⟨rfl, rfl⟩⟩)⟩
theorem fX10_23 : mF vwCl mty TT RX10 23 10 3 1 := ⟨RX10, TX10, 9, clX10, by decide, TT_1 239 rfl rfl, Or.inr ⟨rfl, rfl⟩, (fun h => absurd h (by decide)), (fun _ => ⟨fun _ _ => rfl, fun _ => ⟨rfl, rfl⟩⟩)⟩
theorem fX10_30 : mF vwCl mty TT RX10 30 10 4 1 := ⟨RX10, TX10, 9, clX10, by decide, TT_2 0 rfl rfl, Or.inr ⟨rfl, rfl⟩, (fun h => absurd h (by decide)), (fun _ => ⟨fun _ _ => rfl, fun _ => ⟨rfl, rfl⟩⟩)⟩
theorem fX10_37 : mF vwCl mty TT RX10 37 10 5 1 := ⟨RX10, TX10, 9, clX10, by decide, TT_2 1 rfl rfl, Or.inr ⟨rfl, rfl⟩, (fun h => absurd h (by decide)), (fun _ => ⟨fun _ _ => rfl, fun _ => ⟨rfl, rfl⟩⟩)⟩
theorem fX10_44 : mF vwCl mty TT RX10 44 10 6 1 := ⟨RX10, TX10, 9, clX10, by decide, TT_2 2 rfl rfl, Or.inr ⟨rfl, rfl⟩, (fun h => absurd h (by decide)), (fun _ => ⟨fun _ _ => rfl, fun _ => ⟨rfl, rfl⟩⟩)⟩
theorem fX10_53 : mF vwCl mty TT RX10 53 10 7 1 := ⟨RX10, TX10, 9, clX10, by decide, TT_2 3 rfl rfl, Or.inr ⟨rfl, rfl⟩, (fun h => absurd h (by decide)), (fun _ => ⟨fun _ _ => rfl, fun _ => ⟨rfl, rfl⟩⟩)⟩
theorem fX10_62 : mF vwCl mty TT RX10 62 10 8 1 := ⟨RX10, TX10, 9, clX10, by decide, TT_2 4 rfl rfl, Or.inr ⟨rfl, rfl⟩, (fun h => absurd h (by decide)), (fun _ => ⟨fun _ _ => rfl, fun _ => ⟨rfl, rfl⟩⟩)⟩
theorem fX11_7 : mF vwCl mty TT RX11 7 11 0 1 := ⟨RX11, TX11, 36, clX11, by decide, TT_4 26 rfl rfl, Or.inr ⟨rfl, rfl⟩, (fun h => absurd h (by decide)), (fun _ => ⟨fun _ _ => rfl, fun _ => ⟨rfl, rfl⟩⟩)⟩
theorem fX11_119 : mF vwCl mty TT RX11 119 11 1 0 := ⟨RX11, TX11, 36, clX11, by decide, TT_4 27 rfl rfl, Or.inl rfl, (fun _ _ _ => rfl), (fun h => absurd h (by decide))⟩
theorem fwX11_119 : mFw vwCl RX11 11 1 := ⟨RX11, TX11, 36, rfl, rfl⟩
theorem fX11_13 : mF vwCl mty TT RX11 13 11 2 0 := ⟨RX11, TX11, 36, clX11, by decide, TT_4 28 rfl rfl, Or.inl rfl, (fun _ _ _ => rfl), (fun h => absurd h (by decide))⟩
theorem fwX11_13 : mFw vwCl RX11 11 2 := ⟨RX11, TX11, 36, rfl, rfl⟩
theorem fX11_17 : mF vwCl mty TT RX11 17 11 3 1 := ⟨RX11, TX11, 36, clX11, by decide, TT_4 29 rfl rfl, Or.inr ⟨rfl, rfl⟩, (fun h => absurd h (by decide)), (fun _ => ⟨fun _ _ => rfl, fun _ => ⟨rfl, rfl⟩⟩)⟩
theorem fX11_20 : mF vwCl mty TT RX11 20 11 4 0 := ⟨RX11, TX11, 36, clX11, by decide, TT_4 30 rfl rfl, Or.inl rfl, (fun _ _ _ => rfl), (fun h => absurd h (by decide))⟩
theorem fwX11_20 : mFw vwCl RX11 11 4 := ⟨RX11, TX11, 36, rfl, rfl⟩
theorem fX11_23 : mF vwCl mty TT RX11 23 11 5 1 := ⟨RX11, TX11, 36, clX11, by decide, TT_4 31 rfl rfl, Or.inr ⟨rfl, rfl⟩, (fun h => absurd h (by decide)), (fun _ => ⟨fun _ _ => rfl, fun _ => ⟨rfl, rfl⟩⟩)⟩
theorem fX11_26 : mF vwCl mty TT RX11 26 11 6 1 := ⟨RX11, TX11, 36, clX11, by decide, TT_4 32 rfl rfl, Or.inr ⟨rfl, rfl⟩, (fun h => absurd h (by decide)), (fun _ => ⟨fun _ _ => rfl, fun _ => ⟨rfl, rfl⟩⟩)⟩
theorem fX11_29 : mF vwCl mty TT RX11 29 11 7 1 := ⟨RX11, TX11, 36, clX11, by decide, TT_4 33 rfl rfl, Or.inr ⟨rfl, rfl⟩, (fun h => absurd h (by decide)), (fun _ => ⟨fun _ _ => rfl, fun _ => ⟨rfl, rfl⟩⟩)⟩
theorem fX11_32 : mF vwCl mty TT RX11 32 11 8 1 := ⟨RX11, TX11, 36, clX11, by decide, TT_4 34 rfl rfl, Or.inr ⟨rfl, rfl⟩, (fun h => absurd h (by decide)), (fun _ => ⟨fun _ _ => rfl, fun _ => ⟨rfl, rfl⟩⟩)⟩
theorem fX11_35 : mF vwCl mty TT RX11 35 11 9 1 := ⟨RX11, TX11, 36, clX11, by decide, TT_4 35 rfl rfl, Or.inr ⟨rfl, rfl⟩, (fun h => absurd h (by decide)), (fun _ => ⟨fun _ _ => rfl, fun _ => ⟨rfl, rfl⟩⟩)⟩
theorem fX11_126 : mF vwCl mty TT RX11 126 11 10 0 := ⟨RX11, TX11, 36, clX11, by decide, TT_4 36 rfl rfl, Or.inl rfl, (fun _ _ _ => rfl), (fun h => absurd h (by decide))⟩
theorem fwX11_126 : mFw vwCl RX11 11 10 := ⟨RX11, TX11, 36, rfl, rfl⟩
theorem fX11_38 : mF vwCl mty TT RX11 38 11 11 1 := ⟨RX11, TX11, 36, clX11, by decide, TT_4 37 rfl rfl, Or.inr ⟨rfl, rfl⟩, (fun h => absurd h (by decide)), (fun _ => ⟨fun _ _ => rfl, fun _ => ⟨rfl, rfl⟩⟩)⟩
theorem fX11_41 : mF vwCl mty TT RX11 41 11 12 1 := ⟨RX11, TX11, 36, clX11, by decide, TT_4 38 rfl rfl, Or.inr ⟨rfl, rfl⟩, (fun h => absurd h (by decide)), (fun _ => ⟨fun _ _ => rfl, fun _ => ⟨rfl, rfl⟩⟩)⟩
theorem fX11_44 : mF vwCl mty TT RX11 44 11 13 1 := ⟨RX11, TX11, 36, clX11, by decide, TT_4 39 rfl rfl, Or.inr ⟨rfl, rfl⟩, (fun h => absurd h (by decide)), (fun _ => ⟨fun _ _ => rfl, fun _ => ⟨rfl, rfl⟩⟩)⟩
theorem fX11_47 : mF vwCl mty TT RX11 47 11 14 1 := ⟨RX11, TX11, 36, clX11, by decide, TT_4 40 rfl rfl, Or.inr ⟨rfl, rfl⟩, (fun h => absurd h (by decide)), (fun _ => ⟨fun _ _ => rfl, fun _ => ⟨rfl, rfl⟩⟩)⟩
theorem fX11_51 : mF vwCl mty TT RX11 51 11 15 1 := ⟨RX11, TX11, 36, clX11, by decide, TT_4 41 rfl rfl, Or.inr ⟨rfl, rfl⟩, (fun h => absurd h (by decide)), (fun _ => ⟨fun _ _ => rfl, fun _ => ⟨rfl, rfl⟩⟩)⟩
theorem fX11_54 : mF vwCl mty TT RX11 54 11 16 1 := ⟨RX11, TX11, 36, clX11, by decide, TT_4 42 rfl rfl, Or.inr ⟨rfl, rfl⟩, (fun h => absurd h (by decide)), (fun _ => ⟨fun _ _ => rfl, fun _ => ⟨rfl, rfl⟩⟩)⟩
theorem fX11_57 : mF vwCl mty TT RX11 57 11 17 1 := ⟨RX11, TX11, 36, clX11, by decide, TT_4 43 rfl rfl, Or.inr ⟨rfl, rfl⟩, (fun h => absurd h (by decide)), (fun _ => ⟨fun _ _ => rfl, fun _ => ⟨rfl, rfl⟩⟩)⟩
theorem fX11_60 : mF vwCl mty TT RX11 60 11 18 1 := ⟨RX11, TX11, 36, clX11, by decide, TT_4 44 rfl rfl, Or.inr ⟨rfl, rfl⟩, (fun h => absurd h (by decide)), (fun _ => ⟨fun _ _ => rfl, fun _ => ⟨rfl, rfl⟩⟩)⟩
theorem fX11_63 : mF vwCl mty TT RX11 63 11 19 1 := ⟨RX11, TX11, 36, clX11, by decide, TT_4 45 rfl rfl, Or.inr ⟨rfl, rfl⟩, (fun h => absurd h (by decide)), (fun _ => ⟨fun _ _ => rfl, fun _ => ⟨rfl, rfl⟩⟩)⟩
theorem fX11_99 : mF vwCl mty TT RX11 99 11 20 0 := ⟨RX11, TX11, 36, clX11, by decide, TT_4 46 rfl rfl, Or.inl rfl, (fun _ _ _ => rfl), (fun h => absurd h (by decide))⟩
theorem fwX11_99 : mFw vwCl RX11 11 20 := ⟨RX11, TX11, 36, rfl, rfl⟩
theorem fX11_102 : mF vwCl mty TT RX11 102 11 21 0 := ⟨RX11, TX11, 36, clX11, by decide, TT_4 47 rfl rfl, Or.inl rfl, (fun _ _ _ => rfl), (fun h => absurd h (by decide))⟩
theorem fwX11_102 : mFw vwCl RX11 11 21 := ⟨RX11, TX11, 36, rfl, rfl⟩
theorem fX11_106 : mF vwCl mty TT RX11 106 11 22 0 := ⟨RX11, TX11, 36, clX11, by decide, TT_4 48 rfl rfl, Or.inl rfl, (fun _ _ _ => rfl), (fun h => absurd h (by decide))⟩
theorem fwX11_106 : mFw vwCl RX11 11 22 := ⟨RX11, TX11, 36, rfl, rfl⟩
theorem fX11_109 : mF vwCl mty TT RX11 109 11 23 0 := ⟨RX11, TX11, 36, clX11, by decide, TT_4 49 rfl rfl, Or.inl rfl, (fun _ _ _ => rfl), (fun h => absurd h (by decide))⟩
theorem fwX11_109 : mFw vwCl RX11 11 23 := ⟨RX11, TX11, 36, rfl, rfl⟩
theorem fX11_66 : mF vwCl mty TT RX11 66 11 24 1 := ⟨RX11, TX11, 36, clX11, by decide, TT_4 50 rfl rfl, Or.inr ⟨rfl, rfl⟩, (fun h => absurd h (by decide)), (fun _ => ⟨fun _ _ => rfl, fun _ => ⟨rfl, rfl⟩⟩)⟩
theorem fX11_69 : mF vwCl mty TT RX11 69 11 25 1 := ⟨RX11, TX11, 36, clX11, by decide, TT_4 51 rfl rfl, Or.inr ⟨rfl, rfl⟩, (fun h => absurd h (by decide)), (fun _ => ⟨fun _ _ => rfl, fun _ => ⟨rfl, rfl⟩⟩)⟩
theorem fX11_72 : mF vwCl mty TT RX11 72 11 26 1 := ⟨RX11, TX11, 36, clX11, by decide, TT_4 52 rfl rfl, Or.inr ⟨rfl, rfl⟩, (fun h => absurd h (by decide)), (fun _ => ⟨fun _ _ => rfl, fun _ => ⟨rfl, rfl⟩⟩)⟩
theorem fX11_140 : mF vwCl mty TT RX11 140 11 27 0 := ⟨RX11, TX11, 36, clX11, by decide, TT_4 53 rfl rfl, Or.inl rfl, (fun _ _ _ => rfl), (fun h => absurd h (by decide))⟩
theorem fwX11_140 : mFw vwCl RX11 11 27 := ⟨RX11, TX11, 36, rfl, rfl⟩
theorem fX11_75 : mF vwCl mty TT RX11 75 11 28 1 := ⟨RX11, TX11, 36, clX11, by decide, TT_4 54 rfl rfl, Or.inr ⟨rfl, rfl⟩, (fun h => absurd h (by decide)), (fun _ => ⟨fun _ _ => rfl, fun _ => ⟨rfl, rfl⟩⟩)⟩
theorem fX11_78 : mF vwCl mty TT RX11 78 11 29 1 := ⟨RX11, TX11, 36, clX11, by decide, TT_4 55 rfl rfl, Or.inr ⟨rfl, rfl⟩, (fun h => absurd h (by decide)), (fun _ => ⟨fun _ _ => rfl, fun _ => ⟨rfl, rfl⟩⟩)⟩
theorem fX11_81 : mF vwCl mty TT RX11 81 11 30 1 := ⟨RX11, TX11, 36, clX11, by decide, TT_4 56 rfl rfl, Or.inr ⟨rfl, rfl⟩, (fun h => absurd h (by decide)), (fun _ => ⟨fun _ _ => rfl, fun _ => ⟨rfl, rfl⟩⟩)⟩
theorem fX11_84 : mF vwCl mty TT RX11 84 11 31 1 := ⟨RX11, TX11, 36, clX11, by decide, TT_4 57 rfl rfl, Or.inr ⟨rfl, rfl⟩, (fun h => absurd h (by decide)), (fun _ => ⟨fun _ _ => rfl, fun _ => ⟨rfl, rfl⟩⟩)⟩
theorem fX11_112 : mF vwCl mty TT RX11 112 11 32 0 := ⟨RX11, TX11, 36, clX11, by decide, TT_4 58 rfl rfl, Or.inl rfl, (fun _ _ _ => rfl), (fun h => absurd h (by decide))⟩
theorem fwX11_112 : mFw vwCl RX11 11 32 := ⟨RX11, TX11, 36, rfl, rfl⟩
theorem fX11_87 : mF vwCl mty TT RX11 87 11 33 1 := ⟨RX11, TX11, 36, clX11, by decide, TT_4 59 rfl rfl, Or.inr ⟨rfl, rfl⟩, (fun h => absurd h (by decide)), (fun _ => ⟨fun _ _ => rfl, fun _ => ⟨rfl, rfl⟩⟩)⟩
theorem fX11_90 : mF vwCl mty TT RX11 90 11 34 1 := ⟨RX11, TX11, 36, clX11, by decide, TT_4 60 rfl rfl, Or.inr ⟨rfl, rfl⟩, (fun h => absurd h (by decide)), (fun _ => ⟨fun _ _ => rfl, fun _ => ⟨rfl, rfl⟩⟩)⟩
theorem fX11_93 : mF vwCl mty TT RX11 93 11 35 1 := ⟨RX11, TX11, 36, clX11, by decide, TT_4 61 rfl rfl, Or.inr ⟨rfl, rfl⟩, (fun h => absurd h (by decide)), (fun _ => ⟨fun _ _ => rfl, fun _ => ⟨rfl, rfl⟩⟩)⟩
theorem mX0_init : mMe TT yX0_init cX0_init 1 none 0 := ⟨TT_1 117 rfl rfl, TT_1 7 rfl rfl, by decide +kernel, by decide +kernel⟩
theorem mX0_clear : mMe TT yX0_clear cX0_clear 1 none 0 := ⟨TT_2 136 rfl rfl, TT_1 7 rfl rfl, by decide +kernel, by decide +kernel⟩
theorem mX0_add : mMe TT yX0_add cX0_add 6 none 4 := ⟨TT_3 151 rfl rfl, TT_1 7 rfl rfl, by decide +kernel, by decide +kernel⟩
theorem mX0_total : mMe TT yX0_total cX0_total 1 (some .int) 0 := ⟨TT_3 180 rfl rfl, TT_1 7 rfl rfl, by decide +kernel, by decide +kernel⟩
theorem mX0_size : mMe TT yX0_size cX0_size 1 (some .int) 0 := ⟨TT_3 224 rfl rfl, TT_1 7 rfl rfl, by decide +kernel, by decide +kernel⟩
theorem mX0_part : mMe TT yX0_part cX0_part 3 (some .int) 2 := ⟨TT_3 188 rfl rfl, TT_1 7 rfl rfl, by decide +kernel, by decide +kernel⟩
theorem mX0_holds : mMe TT yX0_holds cX0_holds 6 (some .boolean) 4 := ⟨TT_4 4 rfl rfl, TT_1 7 rfl rfl, by decide +kernel, by decide +kernel⟩
theorem mX1_init : mMe TT yX1_init cX1_init 1 none 0 := ⟨TT_1 139 rfl rfl, TT_1 9 rfl rfl, by decide +kernel, by decide +kernel⟩
theorem mX1_reset : mMe TT yX1_reset cX1_reset 2 none 1 := ⟨TT_2 126 rfl rfl, TT_1 9 rfl rfl, by decide +kernel, by decide +kernel⟩
theorem mX1_inRegister : mMe TT yX1_inRegister cX1_inRegister 2 (some .int) 1 := ⟨TT_3 67 rfl rfl, TT_1 9 rfl rfl, by decide +kernel, by decide +kernel⟩
theorem mX1_atPlace : mMe TT yX1_atPlace cX1_atPlace 2 (some .int) 1 := ⟨TT_3 104 rfl rfl, TT_1 9 rfl rfl, by decide +kernel, by decide +kernel⟩
theorem mX1_take : mMe TT yX1_take cX1_take 4 none 3 := ⟨TT_3 141 rfl rfl, TT_1 9 rfl rfl, by decide +kernel, by decide +kernel⟩
theorem mX2_init : mMe TT yX2_init cX2_init 6 none 5 := ⟨TT_1 72 rfl rfl, TT_1 5 rfl rfl, by decide +kernel, by decide +kernel⟩
theorem mX2_kind : mMe TT yX2_kind cX2_kind 1 (some .int) 0 := ⟨TT_3 27 rfl rfl, TT_1 5 rfl rfl, by decide +kernel, by decide +kernel⟩
theorem mX2_left : mMe TT yX2_left cX2_left 1 (some .int) 0 := ⟨TT_2 233 rfl rfl, TT_1 5 rfl rfl, by decide +kernel, by decide +kernel⟩
theorem mX2_right : mMe TT yX2_right cX2_right 1 (some .int) 0 := ⟨TT_3 23 rfl rfl, TT_1 5 rfl rfl, by decide +kernel, by decide +kernel⟩
theorem mX2_goal : mMe TT yX2_goal cX2_goal 1 (some .int) 0 := ⟨TT_3 100 rfl rfl, TT_1 5 rfl rfl, by decide +kernel, by decide +kernel⟩
theorem mX2_readsLeft : mMe TT yX2_readsLeft cX2_readsLeft 1 (some .boolean) 0 := ⟨TT_2 229 rfl rfl, TT_1 5 rfl rfl, by decide +kernel, by decide +kernel⟩
theorem mX2_readsRight : mMe TT yX2_readsRight cX2_readsRight 1 (some .boolean) 0 := ⟨TT_3 18 rfl rfl, TT_1 5 rfl rfl, by decide +kernel, by decide +kernel⟩
theorem mX2_commitsRegister : mMe TT yX2_commitsRegister cX2_commitsRegister 1 (some .boolean) 0 := ⟨TT_3 9 rfl rfl, TT_1 5 rfl rfl, by decide +kernel, by decide +kernel⟩
theorem mX2_commitsTo : mMe TT yX2_commitsTo cX2_commitsTo 2 (some .boolean) 1 := ⟨TT_3 5 rfl rfl, TT_1 5 rfl rfl, by decide +kernel, by decide +kernel⟩
theorem mX2_commitsAnything : mMe TT yX2_commitsAnything cX2_commitsAnything 1 (some .boolean) 0 := ⟨TT_3 128 rfl rfl, TT_1 5 rfl rfl, by decide +kernel, by decide +kernel⟩
theorem mX2_commitKind : mMe TT yX2_commitKind cX2_commitKind 1 (some .int) 0 := ⟨TT_3 147 rfl rfl, TT_1 5 rfl rfl, by decide +kernel, by decide +kernel⟩
theorem mX2_commitsWhere : mMe TT yX2_commitsWhere cX2_commitsWhere 2 (some .int) 1 := ⟨TT_3 136 rfl rfl, TT_1 5 rfl rfl, by decide +kernel, by decide +kernel⟩
theorem mX2_placeFrom : mMe TT yX2_placeFrom cX2_placeFrom 2 (some .int) 1 := ⟨TT_3 39 rfl rfl, TT_1 5 rfl rfl, by decide +kernel, by decide +kernel⟩
theorem mX2_workedOut : mMe TT yX2_workedOut cX2_workedOut 3 (some .int) 2 := ⟨TT_3 88 rfl rfl, TT_1 5 rfl rfl, by decide +kernel, by decide +kernel⟩
theorem mX2_goesOn : mMe TT yX2_goesOn cX2_goesOn 3 (some .boolean) 2 := ⟨TT_3 96 rfl rfl, TT_1 5 rfl rfl, by decide +kernel, by decide +kernel⟩
theorem mX3_init : mMe TT yX3_init cX3_init 1 none 0 := ⟨TT_1 52 rfl rfl, TT_1 3 rfl rfl, by decide +kernel, by decide +kernel⟩
theorem mX3_become : mMe TT yX3_become cX3_become 3 none 2 := ⟨TT_2 107 rfl rfl, TT_1 3 rfl rfl, by decide +kernel, by decide +kernel⟩
theorem mX3_stageCount : mMe TT yX3_stageCount cX3_stageCount 1 (some .int) 0 := ⟨TT_2 141 rfl rfl, TT_1 3 rfl rfl, by decide +kernel, by decide +kernel⟩
theorem mX3_stageOf : mMe TT yX3_stageOf cX3_stageOf 2 (some .int) 1 := ⟨TT_2 217 rfl rfl, TT_1 3 rfl rfl, by decide +kernel, by decide +kernel⟩
theorem mX3_has : mMe TT yX3_has cX3_has 3 (some .boolean) 2 := ⟨TT_2 213 rfl rfl, TT_1 3 rfl rfl, by decide +kernel, by decide +kernel⟩
theorem mX3_givingStage : mMe TT yX3_givingStage cX3_givingStage 3 (some .int) 1 := ⟨TT_3 113 rfl rfl, TT_1 3 rfl rfl, by decide +kernel, by decide +kernel⟩
theorem mX4_init : mMe TT yX4_init cX4_init 1 none 0 := ⟨TT_1 32 rfl rfl, TT_1 2 rfl rfl, by decide +kernel, by decide +kernel⟩
theorem mX4_firstWrong : mMe TT yX4_firstWrong cX4_firstWrong 4 (some .int) 2 := ⟨TT_2 35 rfl rfl, TT_1 2 rfl rfl, by decide +kernel, by decide +kernel⟩
theorem mX4_writeTo : mMe TT yX4_writeTo cX4_writeTo 2 none 1 := ⟨TT_2 103 rfl rfl, TT_1 2 rfl rfl, by decide +kernel, by decide +kernel⟩
theorem mX4_takes : mMe TT yX4_takes cX4_takes 2 (some .boolean) 1 := ⟨TT_2 42 rfl rfl, TT_1 2 rfl rfl, by decide +kernel, by decide +kernel⟩
theorem mX4_puts : mMe TT yX4_puts cX4_puts 2 (some .boolean) 1 := ⟨TT_2 50 rfl rfl, TT_1 2 rfl rfl, by decide +kernel, by decide +kernel⟩
theorem mX4_takesBreak : mMe TT yX4_takesBreak cX4_takesBreak 1 (some .boolean) 0 := ⟨TT_2 46 rfl rfl, TT_1 2 rfl rfl, by decide +kernel, by decide +kernel⟩
theorem mX5_init : mMe TT yX5_init cX5_init 2 none 1 := ⟨TT_1 157 rfl rfl, TT_1 10 rfl rfl, by decide +kernel, by decide +kernel⟩
theorem mX5_come : mMe TT yX5_come cX5_come 2 none 1 := ⟨TT_2 200 rfl rfl, TT_1 10 rfl rfl, by decide +kernel, by decide +kernel⟩
theorem mX5_leave : mMe TT yX5_leave cX5_leave 1 none 0 := ⟨TT_2 122 rfl rfl, TT_1 10 rfl rfl, by decide +kernel, by decide +kernel⟩
theorem mX5_isPresent : mMe TT yX5_isPresent cX5_isPresent 1 (some .boolean) 0 := ⟨TT_2 196 rfl rfl, TT_1 10 rfl rfl, by decide +kernel, by decide +kernel⟩
theorem mX5_instruction : mMe TT yX5_instruction cX5_instruction 1 (some (.object "PipeForge$Instruction")) 0 := ⟨TT_2 221 rfl rfl, TT_1 10 rfl rfl, by decide +kernel, by decide +kernel⟩
theorem mX5_readLeft : mMe TT yX5_readLeft cX5_readLeft 2 none 1 := ⟨TT_3 76 rfl rfl, TT_1 10 rfl rfl, by decide +kernel, by decide +kernel⟩
theorem mX5_readRight : mMe TT yX5_readRight cX5_readRight 2 none 1 := ⟨TT_3 80 rfl rfl, TT_1 10 rfl rfl, by decide +kernel, by decide +kernel⟩
theorem mX5_workOut : mMe TT yX5_workOut cX5_workOut 1 none 0 := ⟨TT_3 84 rfl rfl, TT_1 10 rfl rfl, by decide +kernel, by decide +kernel⟩
theorem mX5_goesOn : mMe TT yX5_goesOn cX5_goesOn 1 (some .boolean) 0 := ⟨TT_3 92 rfl rfl, TT_1 10 rfl rfl, by decide +kernel, by decide +kernel⟩
theorem mX5_asksPlace : mMe TT yX5_asksPlace cX5_asksPlace 1 (some .int) 0 := ⟨TT_3 35 rfl rfl, TT_1 10 rfl rfl, by decide +kernel, by decide +kernel⟩
theorem mX5_ask : mMe TT yX5_ask cX5_ask 3 none 2 := ⟨TT_3 109 rfl rfl, TT_1 10 rfl rfl, by decide +kernel, by decide +kernel⟩
theorem mX5_isAnswered : mMe TT yX5_isAnswered cX5_isAnswered 3 (some .boolean) 2 := ⟨TT_3 51 rfl rfl, TT_1 10 rfl rfl, by decide +kernel, by decide +kernel⟩
theorem mX5_give : mMe TT yX5_give cX5_give 2 none 1 := ⟨TT_3 120 rfl rfl, TT_1 10 rfl rfl, by decide +kernel, by decide +kernel⟩
theorem mX5_gaveBefore : mMe TT yX5_gaveBefore cX5_gaveBefore 2 (some .boolean) 1 := ⟨TT_3 13 rfl rfl, TT_1 10 rfl rfl, by decide +kernel, by decide +kernel⟩
theorem mX5_worth : mMe TT yX5_worth cX5_worth 1 (some .int) 0 := ⟨TT_3 72 rfl rfl, TT_1 10 rfl rfl, by decide +kernel, by decide +kernel⟩
theorem mX5_commitsWhere : mMe TT yX5_commitsWhere cX5_commitsWhere 1 (some .int) 0 := ⟨TT_3 132 rfl rfl, TT_1 10 rfl rfl, by decide +kernel, by decide +kernel⟩
theorem mX6_init : mMe TT yX6_init cX6_init 3 none 2 := ⟨TT_1 222 rfl rfl, TT_1 11 rfl rfl, by decide +kernel, by decide +kernel⟩
theorem mX6_agreesWith : mMe TT yX6_agreesWith cX6_agreesWith 8 (some .boolean) 1 := ⟨TT_3 218 rfl rfl, TT_1 11 rfl rfl, by decide +kernel, by decide +kernel⟩
theorem mX6_commitsAs : mMe TT yX6_commitsAs cX6_commitsAs 8 (some .boolean) 5 := ⟨TT_3 234 rfl rfl, TT_1 11 rfl rfl, by decide +kernel, by decide +kernel⟩
theorem mX7_init : mMe TT yX7_init cX7_init 6 none 4 := ⟨TT_1 133 rfl rfl, TT_1 8 rfl rfl, by decide +kernel, by decide +kernel⟩
theorem mX7_beginAnew : mMe TT yX7_beginAnew cX7_beginAnew 1 none 0 := ⟨TT_2 114 rfl rfl, TT_1 8 rfl rfl, by decide +kernel, by decide +kernel⟩
theorem mX7_advance : mMe TT yX7_advance cX7_advance 3 none 1 := ⟨TT_2 188 rfl rfl, TT_1 8 rfl rfl, by decide +kernel, by decide +kernel⟩
theorem mX7_reached : mMe TT yX7_reached cX7_reached 1 (some .int) 0 := ⟨TT_3 160 rfl rfl, TT_1 8 rfl rfl, by decide +kernel, by decide +kernel⟩
theorem mX7_isEnded : mMe TT yX7_isEnded cX7_isEnded 1 (some .boolean) 0 := ⟨TT_3 172 rfl rfl, TT_1 8 rfl rfl, by decide +kernel, by decide +kernel⟩
theorem mX7_gone : mMe TT yX7_gone cX7_gone 1 (some .int) 0 := ⟨TT_3 210 rfl rfl, TT_1 8 rfl rfl, by decide +kernel, by decide +kernel⟩
theorem mX7_holdings : mMe TT yX7_holdings cX7_holdings 1 (some (.object "PipeForge$Holdings")) 0 := ⟨TT_3 196 rfl rfl, TT_1 8 rfl rfl, by decide +kernel, by decide +kernel⟩
theorem mX7_step : mMe TT yX7_step cX7_step 2 none 0 := ⟨TT_2 192 rfl rfl, TT_1 8 rfl rfl, by decide +kernel, by decide +kernel⟩
theorem mX7_isLast : mMe TT yX7_isLast cX7_isLast 2 (some .boolean) 1 := ⟨TT_2 209 rfl rfl, TT_1 8 rfl rfl, by decide +kernel, by decide +kernel⟩
theorem mX7_mayFire : mMe TT yX7_mayFire cX7_mayFire 3 (some .boolean) 1 := ⟨TT_2 205 rfl rfl, TT_1 8 rfl rfl, by decide +kernel, by decide +kernel⟩
theorem mX7_mayRead : mMe TT yX7_mayRead cX7_mayRead 3 (some .boolean) 2 := ⟨TT_2 225 rfl rfl, TT_1 8 rfl rfl, by decide +kernel, by decide +kernel⟩
theorem mX7_isReady : mMe TT yX7_isReady cX7_isReady 4 (some .boolean) 2 := ⟨TT_2 237 rfl rfl, TT_1 8 rfl rfl, by decide +kernel, by decide +kernel⟩
theorem mX7_writerAhead : mMe TT yX7_writerAhead cX7_writerAhead 4 (some .int) 2 := ⟨TT_3 1 rfl rfl, TT_1 8 rfl rfl, by decide +kernel, by decide +kernel⟩
theorem mX7_isStoreAhead : mMe TT yX7_isStoreAhead cX7_isStoreAhead 3 (some .boolean) 1 := ⟨TT_3 31 rfl rfl, TT_1 8 rfl rfl, by decide +kernel, by decide +kernel⟩
theorem mX7_fire : mMe TT yX7_fire cX7_fire 4 none 1 := ⟨TT_3 55 rfl rfl, TT_1 8 rfl rfl, by decide +kernel, by decide +kernel⟩
theorem mX7_read : mMe TT yX7_read cX7_read 4 none 2 := ⟨TT_3 59 rfl rfl, TT_1 8 rfl rfl, by decide +kernel, by decide +kernel⟩
theorem mX7_valueFor : mMe TT yX7_valueFor cX7_valueFor 4 (some .int) 2 := ⟨TT_3 63 rfl rfl, TT_1 8 rfl rfl, by decide +kernel, by decide +kernel⟩
theorem mX7_throwOutBehind : mMe TT yX7_throwOutBehind cX7_throwOutBehind 3 none 1 := ⟨TT_2 118 rfl rfl, TT_1 8 rfl rfl, by decide +kernel, by decide +kernel⟩
theorem mX7_finish : mMe TT yX7_finish cX7_finish 4 none 1 := ⟨TT_3 124 rfl rfl, TT_1 8 rfl rfl, by decide +kernel, by decide +kernel⟩
theorem mX7_moveOn : mMe TT yX7_moveOn cX7_moveOn 3 none 1 := ⟨TT_3 156 rfl rfl, TT_1 8 rfl rfl, by decide +kernel, by decide +kernel⟩
theorem mX8_init : mMe TT yX8_init cX8_init 2 none 0 := ⟨TT_1 65 rfl rfl, TT_1 4 rfl rfl, by decide +kernel, by decide +kernel⟩
theorem mX8_isFull : mMe TT yX8_isFull cX8_isFull 1 (some .boolean) 0 := ⟨TT_2 150 rfl rfl, TT_1 4 rfl rfl, by decide +kernel, by decide +kernel⟩
theorem mX8_add : mMe TT yX8_add cX8_add 2 (some .int) 1 := ⟨TT_2 159 rfl rfl, TT_1 4 rfl rfl, by decide +kernel, by decide +kernel⟩
theorem mX8_size : mMe TT yX8_size cX8_size 1 (some .int) 0 := ⟨TT_4 14 rfl rfl, TT_1 4 rfl rfl, by decide +kernel, by decide +kernel⟩
theorem mX8_at : mMe TT yX8_at cX8_at 2 (some (.object "PipeForge$Instruction")) 1 := ⟨TT_1 154 rfl rfl, TT_1 4 rfl rfl, by decide +kernel, by decide +kernel⟩
theorem mX9_init : mMe TT yX9_init cX9_init 1 none 0 := ⟨TT_1 104 rfl rfl, TT_1 6 rfl rfl, by decide +kernel, by decide +kernel⟩
theorem mX9_tell : mMe TT yX9_tell cX9_tell 3 none 2 := ⟨TT_2 171 rfl rfl, TT_1 6 rfl rfl, by decide +kernel, by decide +kernel⟩
theorem mX9_delay : mMe TT yX9_delay cX9_delay 3 none 2 := ⟨TT_2 180 rfl rfl, TT_1 6 rfl rfl, by decide +kernel, by decide +kernel⟩
theorem mX9_delayOf : mMe TT yX9_delayOf cX9_delayOf 2 (some .int) 1 := ⟨TT_3 46 rfl rfl, TT_1 6 rfl rfl, by decide +kernel, by decide +kernel⟩
theorem mX9_fill : mMe TT yX9_fill cX9_fill 2 none 1 := ⟨TT_2 131 rfl rfl, TT_1 6 rfl rfl, by decide +kernel, by decide +kernel⟩
theorem mX10_init : mMe TT yX10_init cX10_init 1 none 0 := ⟨TT_1 24 rfl rfl, TT_1 1 rfl rfl, by decide +kernel, by decide +kernel⟩
theorem mX10_unit : mMe TT yX10_unit cX10_unit 2 (some .boolean) 1 := ⟨TT_2 27 rfl rfl, TT_1 1 rfl rfl, by decide +kernel, by decide +kernel⟩
theorem mX10_line : mMe TT yX10_line cX10_line 2 (some .int) 0 := ⟨TT_2 31 rfl rfl, TT_1 1 rfl rfl, by decide +kernel, by decide +kernel⟩
theorem mX10_code : mMe TT yX10_code cX10_code 7 (some .int) 5 := ⟨TT_2 146 rfl rfl, TT_1 1 rfl rfl, by decide +kernel, by decide +kernel⟩
theorem mX10_memory : mMe TT yX10_memory cX10_memory 3 (some .boolean) 2 := ⟨TT_2 164 rfl rfl, TT_1 1 rfl rfl, by decide +kernel, by decide +kernel⟩
theorem mX10_latency : mMe TT yX10_latency cX10_latency 3 (some .boolean) 2 := ⟨TT_2 176 rfl rfl, TT_1 1 rfl rfl, by decide +kernel, by decide +kernel⟩
theorem mX10_run : mMe TT yX10_run cX10_run 2 (some .int) 1 := ⟨TT_2 184 rfl rfl, TT_1 1 rfl rfl, by decide +kernel, by decide +kernel⟩
theorem mX10_cycle : mMe TT yX10_cycle cX10_cycle 1 (some .int) 0 := ⟨TT_3 164 rfl rfl, TT_1 1 rfl rfl, by decide +kernel, by decide +kernel⟩
theorem mX10_ended : mMe TT yX10_ended cX10_ended 1 (some .boolean) 0 := ⟨TT_3 168 rfl rfl, TT_1 1 rfl rfl, by decide +kernel, by decide +kernel⟩
theorem mX10_commits : mMe TT yX10_commits cX10_commits 1 (some .int) 0 := ⟨TT_3 176 rfl rfl, TT_1 1 rfl rfl, by decide +kernel, by decide +kernel⟩
theorem mX10_commit : mMe TT yX10_commit cX10_commit 3 (some .int) 2 := ⟨TT_3 184 rfl rfl, TT_1 1 rfl rfl, by decide +kernel, by decide +kernel⟩
theorem mX10_register : mMe TT yX10_register cX10_register 2 (some .int) 1 := ⟨TT_3 192 rfl rfl, TT_1 1 rfl rfl, by decide +kernel, by decide +kernel⟩
theorem mX10_place : mMe TT yX10_place cX10_place 2 (some .int) 1 := ⟨TT_3 201 rfl rfl, TT_1 1 rfl rfl, by decide +kernel, by decide +kernel⟩
theorem mX10_retired : mMe TT yX10_retired cX10_retired 1 (some .int) 0 := ⟨TT_3 206 rfl rfl, TT_1 1 rfl rfl, by decide +kernel, by decide +kernel⟩
theorem mX10_faithful : mMe TT yX10_faithful cX10_faithful 1 (some .boolean) 0 := ⟨TT_3 214 rfl rfl, TT_1 1 rfl rfl, by decide +kernel, by decide +kernel⟩
theorem mX10_told : mMe TT yX10_told cX10_told 2 (some .int) 1 := ⟨TT_4 10 rfl rfl, TT_1 1 rfl rfl, by decide +kernel, by decide +kernel⟩
theorem mX10_isRegister : mMe TT yX10_isRegister cX10_isRegister 1 (some .boolean) 1 := ⟨TT_2 153 rfl rfl, TT_1 1 rfl rfl, by decide +kernel, by decide +kernel⟩
theorem mX10_isPlace : mMe TT yX10_isPlace cX10_isPlace 1 (some .boolean) 1 := ⟨TT_2 167 rfl rfl, TT_1 1 rfl rfl, by decide +kernel, by decide +kernel⟩
theorem mX11_init : mMe TT yX11_init cX11_init 1 none 0 := ⟨TT_4 20 rfl rfl, TT_1 12 rfl rfl, by decide +kernel, by decide +kernel⟩
theorem mX11_anew : mMe TT yX11_anew cX11_anew 2 none 0 := ⟨TT_4 25 rfl rfl, TT_1 12 rfl rfl, by decide +kernel, by decide +kernel⟩
theorem mX11_isIn : mMe TT yX11_isIn cX11_isIn 3 (some .boolean) 3 := ⟨TT_4 142 rfl rfl, TT_1 12 rfl rfl, by decide +kernel, by decide +kernel⟩
theorem mX11_unit : mMe TT yX11_unit cX11_unit 2 (some .boolean) 1 := ⟨TT_4 139 rfl rfl, TT_1 12 rfl rfl, by decide +kernel, by decide +kernel⟩
theorem mX11_actionOf : mMe TT yX11_actionOf cX11_actionOf 1 (some .int) 1 := ⟨TT_4 149 rfl rfl, TT_1 12 rfl rfl, by decide +kernel, by decide +kernel⟩
theorem mX11_line : mMe TT yX11_line cX11_line 8 (some .int) 0 := ⟨TT_4 146 rfl rfl, TT_1 12 rfl rfl, by decide +kernel, by decide +kernel⟩
theorem mX11_code : mMe TT yX11_code cX11_code 6 (some .int) 5 := ⟨TT_4 153 rfl rfl, TT_1 12 rfl rfl, by decide +kernel, by decide +kernel⟩
theorem mX11_memory : mMe TT yX11_memory cX11_memory 3 (some .boolean) 2 := ⟨TT_4 157 rfl rfl, TT_1 12 rfl rfl, by decide +kernel, by decide +kernel⟩
theorem mX11_latency : mMe TT yX11_latency cX11_latency 3 (some .boolean) 2 := ⟨TT_4 161 rfl rfl, TT_1 12 rfl rfl, by decide +kernel, by decide +kernel⟩
theorem mX11_kindOf : mMe TT yX11_kindOf cX11_kindOf 2 (some .int) 1 := ⟨TT_4 177 rfl rfl, TT_1 12 rfl rfl, by decide +kernel, by decide +kernel⟩
theorem mX11_commitsRegister : mMe TT yX11_commitsRegister cX11_commitsRegister 3 (some .boolean) 2 := ⟨TT_4 192 rfl rfl, TT_1 12 rfl rfl, by decide +kernel, by decide +kernel⟩
theorem mX11_giver : mMe TT yX11_giver cX11_giver 4 (some .int) 2 := ⟨TT_4 188 rfl rfl, TT_1 12 rfl rfl, by decide +kernel, by decide +kernel⟩
theorem mX11_isReady : mMe TT yX11_isReady cX11_isReady 5 (some .boolean) 2 := ⟨TT_4 184 rfl rfl, TT_1 12 rfl rfl, by decide +kernel, by decide +kernel⟩
theorem mX11_read : mMe TT yX11_read cX11_read 4 (some .int) 2 := ⟨TT_4 211 rfl rfl, TT_1 12 rfl rfl, by decide +kernel, by decide +kernel⟩
theorem mX11_readsOne : mMe TT yX11_readsOne cX11_readsOne 1 (some .boolean) 1 := ⟨TT_4 180 rfl rfl, TT_1 12 rfl rfl, by decide +kernel, by decide +kernel⟩
theorem mX11_readsTwo : mMe TT yX11_readsTwo cX11_readsTwo 1 (some .boolean) 1 := ⟨TT_4 195 rfl rfl, TT_1 12 rfl rfl, by decide +kernel, by decide +kernel⟩
theorem mX11_hasOlderStore : mMe TT yX11_hasOlderStore cX11_hasOlderStore 4 (some .boolean) 1 := ⟨TT_4 199 rfl rfl, TT_1 12 rfl rfl, by decide +kernel, by decide +kernel⟩
theorem mX11_placeOf : mMe TT yX11_placeOf cX11_placeOf 2 (some .int) 1 := ⟨TT_4 203 rfl rfl, TT_1 12 rfl rfl, by decide +kernel, by decide +kernel⟩
theorem mX11_fires : mMe TT yX11_fires cX11_fires 4 (some .boolean) 1 := ⟨TT_4 173 rfl rfl, TT_1 12 rfl rfl, by decide +kernel, by decide +kernel⟩
theorem mX11_workOut : mMe TT yX11_workOut cX11_workOut 6 none 3 := ⟨TT_4 215 rfl rfl, TT_1 12 rfl rfl, by decide +kernel, by decide +kernel⟩
theorem mX11_commitOne : mMe TT yX11_commitOne cX11_commitOne 4 none 3 := ⟨TT_4 223 rfl rfl, TT_1 12 rfl rfl, by decide +kernel, by decide +kernel⟩
theorem mX11_commitAll : mMe TT yX11_commitAll cX11_commitAll 4 none 3 := ⟨TT_4 219 rfl rfl, TT_1 12 rfl rfl, by decide +kernel, by decide +kernel⟩
theorem mX11_fire : mMe TT yX11_fire cX11_fire 5 none 1 := ⟨TT_4 207 rfl rfl, TT_1 12 rfl rfl, by decide +kernel, by decide +kernel⟩
theorem mX11_oneCycle : mMe TT yX11_oneCycle cX11_oneCycle 2 none 0 := ⟨TT_4 169 rfl rfl, TT_1 12 rfl rfl, by decide +kernel, by decide +kernel⟩
theorem mX11_run : mMe TT yX11_run cX11_run 3 (some .int) 1 := ⟨TT_4 165 rfl rfl, TT_1 12 rfl rfl, by decide +kernel, by decide +kernel⟩
theorem mX11_cycle : mMe TT yX11_cycle cX11_cycle 1 (some .int) 0 := ⟨TT_4 227 rfl rfl, TT_1 12 rfl rfl, by decide +kernel, by decide +kernel⟩
theorem mX11_ended : mMe TT yX11_ended cX11_ended 1 (some .boolean) 0 := ⟨TT_4 231 rfl rfl, TT_1 12 rfl rfl, by decide +kernel, by decide +kernel⟩
theorem mX11_commits : mMe TT yX11_commits cX11_commits 1 (some .int) 0 := ⟨TT_4 235 rfl rfl, TT_1 12 rfl rfl, by decide +kernel, by decide +kernel⟩
theorem mX11_commit : mMe TT yX11_commit cX11_commit 3 (some .int) 2 := ⟨TT_4 239 rfl rfl, TT_1 12 rfl rfl, by decide +kernel, by decide +kernel⟩
theorem mX11_register : mMe TT yX11_register cX11_register 2 (some .int) 1 := ⟨TT_5 3 rfl rfl, TT_1 12 rfl rfl, by decide +kernel, by decide +kernel⟩
theorem mX11_place : mMe TT yX11_place cX11_place 2 (some .int) 1 := ⟨TT_5 7 rfl rfl, TT_1 12 rfl rfl, by decide +kernel, by decide +kernel⟩
theorem mX11_retired : mMe TT yX11_retired cX11_retired 1 (some .int) 0 := ⟨TT_5 11 rfl rfl, TT_1 12 rfl rfl, by decide +kernel, by decide +kernel⟩
theorem mX11_faithful : mMe TT yX11_faithful cX11_faithful 12 (some .boolean) 0 := ⟨TT_5 15 rfl rfl, TT_1 12 rfl rfl, by decide +kernel, by decide +kernel⟩
theorem mX11_told : mMe TT yX11_told cX11_told 2 (some .int) 1 := ⟨TT_5 19 rfl rfl, TT_1 12 rfl rfl, by decide +kernel, by decide +kernel⟩
theorem mJ9_floorMod_7cf53 : mMe TT yJ9_floorMod_7cf53 cJ9_floorMod_7cf53 3 (some .int) 2 := ⟨TT_3 42 rfl rfl, TT_1 19 rfl rfl, by decide +kernel, by decide +kernel⟩
theorem mJ9_max_7cf53 : mMe TT yJ9_max_7cf53 cJ9_max_7cf53 2 (some .int) 2 := ⟨TT_3 116 rfl rfl, TT_1 19 rfl rfl, by decide +kernel, by decide +kernel⟩
theorem mJ0_length_8abf5 : mMe TT yJ0_length_8abf5 cJ0_length_8abf5 1 (some .int) 0 := ⟨TT_2 55 rfl rfl, TT_1 14 rfl rfl, by decide +kernel, by decide +kernel⟩
theorem mJ0_charAt_5068e : mMe TT yJ0_charAt_5068e cJ0_charAt_5068e 2 (some .char) 1 := ⟨TT_2 65 rfl rfl, TT_1 14 rfl rfl, by decide +kernel, by decide +kernel⟩
theorem mJ0_coder_7d493 : mMe TT yJ0_coder_7d493 cJ0_coder_7d493 1 (some .byte) 0 := ⟨TT_2 59 rfl rfl, TT_1 14 rfl rfl, by decide +kernel, by decide +kernel⟩
theorem mJ0_isLatin1_aae02 : mMe TT yJ0_isLatin1_aae02 cJ0_isLatin1_aae02 1 (some .boolean) 0 := ⟨TT_2 69 rfl rfl, TT_1 14 rfl rfl, by decide +kernel, by decide +kernel⟩
theorem mJ0_checkIndex_df160 : mMe TT yJ0_checkIndex_df160 cJ0_checkIndex_df160 2 none 2 := ⟨TT_2 75 rfl rfl, TT_1 14 rfl rfl, by decide +kernel, by decide +kernel⟩
theorem mJ1_charAt_3b067 : mMe TT yJ1_charAt_3b067 cJ1_charAt_3b067 2 (some .char) 2 := ⟨TT_2 72 rfl rfl, TT_1 15 rfl rfl, by decide +kernel, by decide +kernel⟩
theorem mJ2_getChar_3b067 : mMe TT yJ2_getChar_3b067 cJ2_getChar_3b067 2 (some .char) 2 := ⟨TT_2 93 rfl rfl, TT_1 17 rfl rfl, by decide +kernel, by decide +kernel⟩
theorem mJ2_length_9d52b : mMe TT yJ2_length_9d52b cJ2_length_9d52b 1 (some .int) 1 := ⟨TT_2 89 rfl rfl, TT_1 17 rfl rfl, by decide +kernel, by decide +kernel⟩
theorem mJ2_charAt_3b067 : mMe TT yJ2_charAt_3b067 cJ2_charAt_3b067 2 (some .char) 2 := ⟨TT_2 83 rfl rfl, TT_1 17 rfl rfl, by decide +kernel, by decide +kernel⟩
theorem mJ2_checkIndex_2214a : mMe TT yJ2_checkIndex_2214a cJ2_checkIndex_2214a 2 none 2 := ⟨TT_2 86 rfl rfl, TT_1 17 rfl rfl, by decide +kernel, by decide +kernel⟩
theorem mJ7_fill_53178 : mMe TT yJ7_fill_53178 cJ7_fill_53178 4 none 2 := ⟨TT_2 38 rfl rfl, TT_1 13 rfl rfl, by decide +kernel, by decide +kernel⟩
theorem mJ3_checkIndex_8e157 : mMe TT yJ3_checkIndex_8e157 cJ3_checkIndex_8e157 3 (some .int) 3 := ⟨TT_2 80 rfl rfl, TT_1 16 rfl rfl, by decide +kernel, by decide +kernel⟩
theorem kL_9 : Cond.methodLink RL 9 yX10_init ∈ TT := TT_1 22 rfl rfl
theorem koX10_1 : Cond.methodLink RX10 1 Lib.objectInit ∈ TT := TT_1 25 rfl rfl
theorem koX4_3 : Cond.methodLink RX4 3 Lib.objectInit ∈ TT := TT_1 33 rfl rfl
theorem koX3_3 : Cond.methodLink RX3 3 Lib.objectInit ∈ TT := TT_1 53 rfl rfl
theorem kX10_29 : Cond.methodLink RX10 29 yX8_init ∈ TT := TT_1 63 rfl rfl
theorem koX8_3 : Cond.methodLink RX8 3 Lib.objectInit ∈ TT := TT_1 66 rfl rfl
theorem kX8_17 : Cond.methodLink RX8 17 yX2_init ∈ TT := TT_1 70 rfl rfl
theorem koX2_3 : Cond.methodLink RX2 3 Lib.objectInit ∈ TT := TT_1 73 rfl rfl
theorem koX9_3 : Cond.methodLink RX9 3 Lib.objectInit ∈ TT := TT_1 105 rfl rfl
theorem koX0_3 : Cond.methodLink RX0 3 Lib.objectInit ∈ TT := TT_1 118 rfl rfl
theorem kX10_50 : Cond.methodLink RX10 50 yX7_init ∈ TT := TT_1 131 rfl rfl
theorem koX7_3 : Cond.methodLink RX7 3 Lib.objectInit ∈ TT := TT_1 134 rfl rfl
theorem koX1_3 : Cond.methodLink RX1 3 Lib.objectInit ∈ TT := TT_1 140 rfl rfl
theorem gX7_44 : mG vwCl TT RX7 44 yX8_at cX8_at 2 (some (.object "PipeForge$Instruction")) 1 8 := ⟨mX8_at, ⟨TX8, 3, rfl⟩, TT_1 151 rfl rfl, TT_1 152 rfl rfl, TT_1 153 rfl rfl⟩
theorem kX7_50 : Cond.methodLink RX7 50 yX5_init ∈ TT := TT_1 155 rfl rfl
theorem koX5_1 : Cond.methodLink RX5 1 Lib.objectInit ∈ TT := TT_1 158 rfl rfl
theorem kX10_59 : Cond.methodLink RX10 59 yX6_init ∈ TT := TT_1 220 rfl rfl
theorem koX6_3 : Cond.methodLink RX6 3 Lib.objectInit ∈ TT := TT_1 223 rfl rfl
theorem gL_13 : mG vwCl TT RL 13 yX10_unit cX10_unit 2 (some .boolean) 1 10 := ⟨mX10_unit, ⟨TX10, 9, rfl⟩, TT_2 24 rfl rfl, TT_2 25 rfl rfl, TT_2 26 rfl rfl⟩
theorem gL_18 : mG vwCl TT RL 18 yX10_line cX10_line 2 (some .int) 0 10 := ⟨mX10_line, ⟨TX10, 9, rfl⟩, TT_2 28 rfl rfl, TT_2 29 rfl rfl, TT_2 30 rfl rfl⟩
theorem gX10_70 : mG vwCl TT RX10 70 yX4_firstWrong cX4_firstWrong 4 (some .int) 2 4 := ⟨mX4_firstWrong, ⟨TX4, 4, rfl⟩, TT_2 32 rfl rfl, TT_2 33 rfl rfl, TT_2 34 rfl rfl⟩
theorem gX4_15 : mGS TT RX4 15 yJ7_fill_53178 cJ7_fill_53178 4 none 2 := ⟨mJ7_fill_53178, TT_2 36 rfl rfl, TT_2 37 rfl rfl⟩
theorem gX4_32 : mG vwCl TT RX4 32 yX4_takes cX4_takes 2 (some .boolean) 1 4 := ⟨mX4_takes, ⟨TX4, 4, rfl⟩, TT_2 39 rfl rfl, TT_2 41 rfl rfl, TT_p (q := (yX4_takes, 4)) 0 rfl rfl⟩
theorem gX4_49 : mG vwCl TT RX4 49 yX4_takesBreak cX4_takesBreak 1 (some .boolean) 0 4 := ⟨mX4_takesBreak, ⟨TX4, 4, rfl⟩, TT_2 43 rfl rfl, TT_2 45 rfl rfl, TT_p (q := (yX4_takesBreak, 4)) 1 rfl rfl⟩
theorem gX4_53 : mG vwCl TT RX4 53 yX4_puts cX4_puts 2 (some .boolean) 1 4 := ⟨mX4_puts, ⟨TX4, 4, rfl⟩, TT_2 47 rfl rfl, TT_2 49 rfl rfl, TT_p (q := (yX4_puts, 4)) 2 rfl rfl⟩
theorem gJ0_495 : mGS TT RJ0 495 yJ1_charAt_3b067 cJ1_charAt_3b067 2 (some .char) 2 := ⟨mJ1_charAt_3b067, TT_2 70 rfl rfl, TT_2 71 rfl rfl⟩
theorem gJ1_9 : mGS TT RJ1 9 yJ0_checkIndex_df160 cJ0_checkIndex_df160 2 none 2 := ⟨mJ0_checkIndex_df160, TT_2 73 rfl rfl, TT_2 74 rfl rfl⟩
theorem gJ0_1059 : mGS TT RJ0 1059 yJ3_checkIndex_8e157 cJ3_checkIndex_8e157 3 (some .int) 3 := ⟨mJ3_checkIndex_8e157, TT_2 78 rfl rfl, TT_2 79 rfl rfl⟩
theorem gJ0_498 : mGS TT RJ0 498 yJ2_charAt_3b067 cJ2_charAt_3b067 2 (some .char) 2 := ⟨mJ2_charAt_3b067, TT_2 81 rfl rfl, TT_2 82 rfl rfl⟩
theorem gJ2_67 : mGS TT RJ2 67 yJ2_checkIndex_2214a cJ2_checkIndex_2214a 2 none 2 := ⟨mJ2_checkIndex_2214a, TT_2 84 rfl rfl, TT_2 85 rfl rfl⟩
theorem gJ2_48 : mGS TT RJ2 48 yJ2_length_9d52b cJ2_length_9d52b 1 (some .int) 1 := ⟨mJ2_length_9d52b, TT_2 87 rfl rfl, TT_2 88 rfl rfl⟩
theorem gJ2_414 : mGS TT RJ2 414 yJ0_checkIndex_df160 cJ0_checkIndex_df160 2 none 2 := ⟨mJ0_checkIndex_df160, TT_2 90 rfl rfl, TT_2 74 rfl rfl⟩
theorem gJ2_71 : mGS TT RJ2 71 yJ2_getChar_3b067 cJ2_getChar_3b067 2 (some .char) 2 := ⟨mJ2_getChar_3b067, TT_2 91 rfl rfl, TT_2 92 rfl rfl⟩
theorem gX10_74 : mG vwCl TT RX10 74 yX4_writeTo cX4_writeTo 2 none 1 4 := ⟨mX4_writeTo, ⟨TX4, 4, rfl⟩, TT_2 100 rfl rfl, TT_2 101 rfl rfl, TT_2 102 rfl rfl⟩
theorem gX4_44 : mG vwCl TT RX4 44 yX3_become cX3_become 3 none 2 3 := ⟨mX3_become, ⟨TX3, 2, rfl⟩, TT_2 104 rfl rfl, TT_2 105 rfl rfl, TT_2 106 rfl rfl⟩
theorem kaX3_19 : Cond.methodLink RX3 19 arraycopyName ∈ TT := TT_2 108 rfl rfl
theorem gX10_78 : mG vwCl TT RX10 78 yX7_beginAnew cX7_beginAnew 1 none 0 7 := ⟨mX7_beginAnew, ⟨TX7, 12, rfl⟩, TT_2 111 rfl rfl, TT_2 112 rfl rfl, TT_2 113 rfl rfl⟩
theorem gX7_53 : mG vwCl TT RX7 53 yX7_throwOutBehind cX7_throwOutBehind 3 none 1 7 := ⟨mX7_throwOutBehind, ⟨TX7, 12, rfl⟩, TT_2 115 rfl rfl, TT_2 117 rfl rfl, TT_p (q := (yX7_throwOutBehind, 12)) 3 rfl rfl⟩
theorem gX7_223 : mG vwCl TT RX7 223 yX5_leave cX5_leave 1 none 0 5 := ⟨mX5_leave, ⟨TX5, 7, rfl⟩, TT_2 119 rfl rfl, TT_2 120 rfl rfl, TT_2 121 rfl rfl⟩
theorem gX7_57 : mG vwCl TT RX7 57 yX1_reset cX1_reset 2 none 1 1 := ⟨mX1_reset, ⟨TX1, 2, rfl⟩, TT_2 123 rfl rfl, TT_2 124 rfl rfl, TT_2 125 rfl rfl⟩
theorem gX1_18 : mGS TT RX1 18 yJ7_fill_53178 cJ7_fill_53178 4 none 2 := ⟨mJ7_fill_53178, TT_2 127 rfl rfl, TT_2 37 rfl rfl⟩
theorem gX1_24 : mG vwCl TT RX1 24 yX9_fill cX9_fill 2 none 1 9 := ⟨mX9_fill, ⟨TX9, 2, rfl⟩, TT_2 128 rfl rfl, TT_2 129 rfl rfl, TT_2 130 rfl rfl⟩
theorem kaX9_28 : Cond.methodLink RX9 28 arraycopyName ∈ TT := TT_2 132 rfl rfl
theorem gX7_61 : mG vwCl TT RX7 61 yX0_clear cX0_clear 1 none 0 0 := ⟨mX0_clear, ⟨TX0, 3, rfl⟩, TT_2 133 rfl rfl, TT_2 134 rfl rfl, TT_2 135 rfl rfl⟩
theorem gX7_66 : mGS TT RX7 66 yJ7_fill_53178 cJ7_fill_53178 4 none 2 := ⟨mJ7_fill_53178, TT_2 137 rfl rfl, TT_2 37 rfl rfl⟩
theorem gX10_81 : mG vwCl TT RX10 81 yX3_stageCount cX3_stageCount 1 (some .int) 0 3 := ⟨mX3_stageCount, ⟨TX3, 2, rfl⟩, TT_2 138 rfl rfl, TT_2 139 rfl rfl, TT_2 140 rfl rfl⟩
theorem gL_23 : mG vwCl TT RL 23 yX10_code cX10_code 7 (some .int) 5 10 := ⟨mX10_code, ⟨TX10, 9, rfl⟩, TT_2 143 rfl rfl, TT_2 144 rfl rfl, TT_2 145 rfl rfl⟩
theorem gX10_85 : mG vwCl TT RX10 85 yX8_isFull cX8_isFull 1 (some .boolean) 0 8 := ⟨mX8_isFull, ⟨TX8, 3, rfl⟩, TT_2 147 rfl rfl, TT_2 148 rfl rfl, TT_2 149 rfl rfl⟩
theorem gX10_89 : mGS TT RX10 89 yX10_isRegister cX10_isRegister 1 (some .boolean) 1 := ⟨mX10_isRegister, TT_2 151 rfl rfl, TT_2 152 rfl rfl⟩
theorem kX10_95 : Cond.methodLink RX10 95 yX2_init ∈ TT := TT_2 155 rfl rfl
theorem gX10_98 : mG vwCl TT RX10 98 yX8_add cX8_add 2 (some .int) 1 8 := ⟨mX8_add, ⟨TX8, 3, rfl⟩, TT_2 156 rfl rfl, TT_2 157 rfl rfl, TT_2 158 rfl rfl⟩
theorem gX8_28 : mG vwCl TT RX8 28 yX8_isFull cX8_isFull 1 (some .boolean) 0 8 := ⟨mX8_isFull, ⟨TX8, 3, rfl⟩, TT_2 160 rfl rfl, TT_2 148 rfl rfl, TT_2 149 rfl rfl⟩
theorem gL_28 : mG vwCl TT RL 28 yX10_memory cX10_memory 3 (some .boolean) 2 10 := ⟨mX10_memory, ⟨TX10, 9, rfl⟩, TT_2 161 rfl rfl, TT_2 162 rfl rfl, TT_2 163 rfl rfl⟩
theorem gX10_102 : mGS TT RX10 102 yX10_isPlace cX10_isPlace 1 (some .boolean) 1 := ⟨mX10_isPlace, TT_2 165 rfl rfl, TT_2 166 rfl rfl⟩
theorem gX10_105 : mG vwCl TT RX10 105 yX9_tell cX9_tell 3 none 2 9 := ⟨mX9_tell, ⟨TX9, 2, rfl⟩, TT_2 168 rfl rfl, TT_2 169 rfl rfl, TT_2 170 rfl rfl⟩
theorem gL_33 : mG vwCl TT RL 33 yX10_latency cX10_latency 3 (some .boolean) 2 10 := ⟨mX10_latency, ⟨TX10, 9, rfl⟩, TT_2 173 rfl rfl, TT_2 174 rfl rfl, TT_2 175 rfl rfl⟩
theorem gX10_109 : mG vwCl TT RX10 109 yX9_delay cX9_delay 3 none 2 9 := ⟨mX9_delay, ⟨TX9, 2, rfl⟩, TT_2 177 rfl rfl, TT_2 178 rfl rfl, TT_2 179 rfl rfl⟩
theorem gL_37 : mG vwCl TT RL 37 yX10_run cX10_run 2 (some .int) 1 10 := ⟨mX10_run, ⟨TX10, 9, rfl⟩, TT_2 181 rfl rfl, TT_2 182 rfl rfl, TT_2 183 rfl rfl⟩
theorem gX10_112 : mG vwCl TT RX10 112 yX7_advance cX7_advance 3 none 1 7 := ⟨mX7_advance, ⟨TX7, 12, rfl⟩, TT_2 185 rfl rfl, TT_2 186 rfl rfl, TT_2 187 rfl rfl⟩
theorem gX7_89 : mG vwCl TT RX7 89 yX7_step cX7_step 2 none 0 7 := ⟨mX7_step, ⟨TX7, 12, rfl⟩, TT_2 189 rfl rfl, TT_2 191 rfl rfl, TT_p (q := (yX7_step, 12)) 4 rfl rfl⟩
theorem gX7_92 : mG vwCl TT RX7 92 yX5_isPresent cX5_isPresent 1 (some .boolean) 0 5 := ⟨mX5_isPresent, ⟨TX5, 7, rfl⟩, TT_2 193 rfl rfl, TT_2 194 rfl rfl, TT_2 195 rfl rfl⟩
theorem gX7_96 : mG vwCl TT RX7 96 yX5_come cX5_come 2 none 1 5 := ⟨mX5_come, ⟨TX5, 7, rfl⟩, TT_2 197 rfl rfl, TT_2 198 rfl rfl, TT_2 199 rfl rfl⟩
theorem gX7_99 : mG vwCl TT RX7 99 yX3_stageCount cX3_stageCount 1 (some .int) 0 3 := ⟨mX3_stageCount, ⟨TX3, 2, rfl⟩, TT_2 201 rfl rfl, TT_2 139 rfl rfl, TT_2 140 rfl rfl⟩
theorem gX7_105 : mG vwCl TT RX7 105 yX7_mayFire cX7_mayFire 3 (some .boolean) 1 7 := ⟨mX7_mayFire, ⟨TX7, 12, rfl⟩, TT_2 202 rfl rfl, TT_2 204 rfl rfl, TT_p (q := (yX7_mayFire, 12)) 5 rfl rfl⟩
theorem gX7_112 : mG vwCl TT RX7 112 yX7_isLast cX7_isLast 2 (some .boolean) 1 7 := ⟨mX7_isLast, ⟨TX7, 12, rfl⟩, TT_2 206 rfl rfl, TT_2 208 rfl rfl, TT_p (q := (yX7_isLast, 12)) 6 rfl rfl⟩
theorem gX7_115 : mG vwCl TT RX7 115 yX3_has cX3_has 3 (some .boolean) 2 3 := ⟨mX3_has, ⟨TX3, 2, rfl⟩, TT_2 210 rfl rfl, TT_2 211 rfl rfl, TT_2 212 rfl rfl⟩
theorem gX3_25 : mG vwCl TT RX3 25 yX3_stageOf cX3_stageOf 2 (some .int) 1 3 := ⟨mX3_stageOf, ⟨TX3, 2, rfl⟩, TT_2 214 rfl rfl, TT_2 215 rfl rfl, TT_2 216 rfl rfl⟩
theorem gX7_119 : mG vwCl TT RX7 119 yX5_instruction cX5_instruction 1 (some (.object "PipeForge$Instruction")) 0 5 := ⟨mX5_instruction, ⟨TX5, 7, rfl⟩, TT_2 218 rfl rfl, TT_2 219 rfl rfl, TT_2 220 rfl rfl⟩
theorem gX7_123 : mG vwCl TT RX7 123 yX7_mayRead cX7_mayRead 3 (some .boolean) 2 7 := ⟨mX7_mayRead, ⟨TX7, 12, rfl⟩, TT_2 222 rfl rfl, TT_2 224 rfl rfl, TT_p (q := (yX7_mayRead, 12)) 7 rfl rfl⟩
theorem gX7_147 : mG vwCl TT RX7 147 yX2_readsLeft cX2_readsLeft 1 (some .boolean) 0 2 := ⟨mX2_readsLeft, ⟨TX2, 5, rfl⟩, TT_2 226 rfl rfl, TT_2 227 rfl rfl, TT_2 228 rfl rfl⟩
theorem gX7_150 : mG vwCl TT RX7 150 yX2_left cX2_left 1 (some .int) 0 2 := ⟨mX2_left, ⟨TX2, 5, rfl⟩, TT_2 230 rfl rfl, TT_2 231 rfl rfl, TT_2 232 rfl rfl⟩
theorem gX7_153 : mG vwCl TT RX7 153 yX7_isReady cX7_isReady 4 (some .boolean) 2 7 := ⟨mX7_isReady, ⟨TX7, 12, rfl⟩, TT_2 234 rfl rfl, TT_2 236 rfl rfl, TT_p (q := (yX7_isReady, 12)) 8 rfl rfl⟩
theorem gX7_162 : mG vwCl TT RX7 162 yX7_writerAhead cX7_writerAhead 4 (some .int) 2 7 := ⟨mX7_writerAhead, ⟨TX7, 12, rfl⟩, TT_2 238 rfl rfl, TT_3 0 rfl rfl, TT_p (q := (yX7_writerAhead, 12)) 9 rfl rfl⟩
theorem gX7_172 : mG vwCl TT RX7 172 yX2_commitsTo cX2_commitsTo 2 (some .boolean) 1 2 := ⟨mX2_commitsTo, ⟨TX2, 5, rfl⟩, TT_3 2 rfl rfl, TT_3 3 rfl rfl, TT_3 4 rfl rfl⟩
theorem gX2_31 : mG vwCl TT RX2 31 yX2_commitsRegister cX2_commitsRegister 1 (some .boolean) 0 2 := ⟨mX2_commitsRegister, ⟨TX2, 5, rfl⟩, TT_3 6 rfl rfl, TT_3 7 rfl rfl, TT_3 8 rfl rfl⟩
theorem gX7_166 : mG vwCl TT RX7 166 yX5_gaveBefore cX5_gaveBefore 2 (some .boolean) 1 5 := ⟨mX5_gaveBefore, ⟨TX5, 7, rfl⟩, TT_3 10 rfl rfl, TT_3 11 rfl rfl, TT_3 12 rfl rfl⟩
theorem gX7_156 : mG vwCl TT RX7 156 yX2_readsRight cX2_readsRight 1 (some .boolean) 0 2 := ⟨mX2_readsRight, ⟨TX2, 5, rfl⟩, TT_3 15 rfl rfl, TT_3 16 rfl rfl, TT_3 17 rfl rfl⟩
theorem gX2_27 : mG vwCl TT RX2 27 yX2_readsLeft cX2_readsLeft 1 (some .boolean) 0 2 := ⟨mX2_readsLeft, ⟨TX2, 5, rfl⟩, TT_3 19 rfl rfl, TT_2 227 rfl rfl, TT_2 228 rfl rfl⟩
theorem gX7_159 : mG vwCl TT RX7 159 yX2_right cX2_right 1 (some .int) 0 2 := ⟨mX2_right, ⟨TX2, 5, rfl⟩, TT_3 20 rfl rfl, TT_3 21 rfl rfl, TT_3 22 rfl rfl⟩
theorem gX7_127 : mG vwCl TT RX7 127 yX2_kind cX2_kind 1 (some .int) 0 2 := ⟨mX2_kind, ⟨TX2, 5, rfl⟩, TT_3 24 rfl rfl, TT_3 25 rfl rfl, TT_3 26 rfl rfl⟩
theorem gX7_132 : mG vwCl TT RX7 132 yX7_isStoreAhead cX7_isStoreAhead 3 (some .boolean) 1 7 := ⟨mX7_isStoreAhead, ⟨TX7, 12, rfl⟩, TT_3 28 rfl rfl, TT_3 30 rfl rfl, TT_p (q := (yX7_isStoreAhead, 12)) 10 rfl rfl⟩
theorem gX7_135 : mG vwCl TT RX7 135 yX5_asksPlace cX5_asksPlace 1 (some .int) 0 5 := ⟨mX5_asksPlace, ⟨TX5, 7, rfl⟩, TT_3 32 rfl rfl, TT_3 33 rfl rfl, TT_3 34 rfl rfl⟩
theorem gX5_43 : mG vwCl TT RX5 43 yX2_placeFrom cX2_placeFrom 2 (some .int) 1 2 := ⟨mX2_placeFrom, ⟨TX2, 5, rfl⟩, TT_3 36 rfl rfl, TT_3 37 rfl rfl, TT_3 38 rfl rfl⟩
theorem gX2_38 : mGS TT RX2 38 yJ9_floorMod_7cf53 cJ9_floorMod_7cf53 3 (some .int) 2 := ⟨mJ9_floorMod_7cf53, TT_3 40 rfl rfl, TT_3 41 rfl rfl⟩
theorem gX7_138 : mG vwCl TT RX7 138 yX9_delayOf cX9_delayOf 2 (some .int) 1 9 := ⟨mX9_delayOf, ⟨TX9, 2, rfl⟩, TT_3 43 rfl rfl, TT_3 44 rfl rfl, TT_3 45 rfl rfl⟩
theorem gX9_22 : mGS TT RX9 22 yJ9_floorMod_7cf53 cJ9_floorMod_7cf53 3 (some .int) 2 := ⟨mJ9_floorMod_7cf53, TT_3 47 rfl rfl, TT_3 41 rfl rfl⟩
theorem gX7_144 : mG vwCl TT RX7 144 yX5_isAnswered cX5_isAnswered 3 (some .boolean) 2 5 := ⟨mX5_isAnswered, ⟨TX5, 7, rfl⟩, TT_3 48 rfl rfl, TT_3 49 rfl rfl, TT_3 50 rfl rfl⟩
theorem gX7_109 : mG vwCl TT RX7 109 yX7_fire cX7_fire 4 none 1 7 := ⟨mX7_fire, ⟨TX7, 12, rfl⟩, TT_3 52 rfl rfl, TT_3 54 rfl rfl, TT_p (q := (yX7_fire, 12)) 11 rfl rfl⟩
theorem gX7_175 : mG vwCl TT RX7 175 yX7_read cX7_read 4 none 2 7 := ⟨mX7_read, ⟨TX7, 12, rfl⟩, TT_3 56 rfl rfl, TT_3 58 rfl rfl, TT_p (q := (yX7_read, 12)) 12 rfl rfl⟩
theorem gX7_208 : mG vwCl TT RX7 208 yX7_valueFor cX7_valueFor 4 (some .int) 2 7 := ⟨mX7_valueFor, ⟨TX7, 12, rfl⟩, TT_3 60 rfl rfl, TT_3 62 rfl rfl, TT_p (q := (yX7_valueFor, 12)) 13 rfl rfl⟩
theorem gX7_217 : mG vwCl TT RX7 217 yX1_inRegister cX1_inRegister 2 (some .int) 1 1 := ⟨mX1_inRegister, ⟨TX1, 2, rfl⟩, TT_3 64 rfl rfl, TT_3 65 rfl rfl, TT_3 66 rfl rfl⟩
theorem gX7_220 : mG vwCl TT RX7 220 yX5_worth cX5_worth 1 (some .int) 0 5 := ⟨mX5_worth, ⟨TX5, 7, rfl⟩, TT_3 69 rfl rfl, TT_3 70 rfl rfl, TT_3 71 rfl rfl⟩
theorem gX7_211 : mG vwCl TT RX7 211 yX5_readLeft cX5_readLeft 2 none 1 5 := ⟨mX5_readLeft, ⟨TX5, 7, rfl⟩, TT_3 73 rfl rfl, TT_3 74 rfl rfl, TT_3 75 rfl rfl⟩
theorem gX7_214 : mG vwCl TT RX7 214 yX5_readRight cX5_readRight 2 none 1 5 := ⟨mX5_readRight, ⟨TX5, 7, rfl⟩, TT_3 77 rfl rfl, TT_3 78 rfl rfl, TT_3 79 rfl rfl⟩
theorem gX7_179 : mG vwCl TT RX7 179 yX5_workOut cX5_workOut 1 none 0 5 := ⟨mX5_workOut, ⟨TX5, 7, rfl⟩, TT_3 81 rfl rfl, TT_3 82 rfl rfl, TT_3 83 rfl rfl⟩
theorem gX5_33 : mG vwCl TT RX5 33 yX2_workedOut cX2_workedOut 3 (some .int) 2 2 := ⟨mX2_workedOut, ⟨TX2, 5, rfl⟩, TT_3 85 rfl rfl, TT_3 86 rfl rfl, TT_3 87 rfl rfl⟩
theorem gX7_182 : mG vwCl TT RX7 182 yX5_goesOn cX5_goesOn 1 (some .boolean) 0 5 := ⟨mX5_goesOn, ⟨TX5, 7, rfl⟩, TT_3 89 rfl rfl, TT_3 90 rfl rfl, TT_3 91 rfl rfl⟩
theorem gX5_39 : mG vwCl TT RX5 39 yX2_goesOn cX2_goesOn 3 (some .boolean) 2 2 := ⟨mX2_goesOn, ⟨TX2, 5, rfl⟩, TT_3 93 rfl rfl, TT_3 94 rfl rfl, TT_3 95 rfl rfl⟩
theorem gX7_185 : mG vwCl TT RX7 185 yX2_goal cX2_goal 1 (some .int) 0 2 := ⟨mX2_goal, ⟨TX2, 5, rfl⟩, TT_3 97 rfl rfl, TT_3 98 rfl rfl, TT_3 99 rfl rfl⟩
theorem gX7_188 : mG vwCl TT RX7 188 yX1_atPlace cX1_atPlace 2 (some .int) 1 1 := ⟨mX1_atPlace, ⟨TX1, 2, rfl⟩, TT_3 101 rfl rfl, TT_3 102 rfl rfl, TT_3 103 rfl rfl⟩
theorem gX7_191 : mG vwCl TT RX7 191 yX5_ask cX5_ask 3 none 2 5 := ⟨mX5_ask, ⟨TX5, 7, rfl⟩, TT_3 106 rfl rfl, TT_3 107 rfl rfl, TT_3 108 rfl rfl⟩
theorem gX7_195 : mG vwCl TT RX7 195 yX3_givingStage cX3_givingStage 3 (some .int) 1 3 := ⟨mX3_givingStage, ⟨TX3, 2, rfl⟩, TT_3 110 rfl rfl, TT_3 111 rfl rfl, TT_3 112 rfl rfl⟩
theorem gX3_29 : mGS TT RX3 29 yJ9_max_7cf53 cJ9_max_7cf53 2 (some .int) 2 := ⟨mJ9_max_7cf53, TT_3 114 rfl rfl, TT_3 115 rfl rfl⟩
theorem gX7_198 : mG vwCl TT RX7 198 yX5_give cX5_give 2 none 1 5 := ⟨mX5_give, ⟨TX5, 7, rfl⟩, TT_3 117 rfl rfl, TT_3 118 rfl rfl, TT_3 119 rfl rfl⟩
theorem gX7_201 : mG vwCl TT RX7 201 yX7_finish cX7_finish 4 none 1 7 := ⟨mX7_finish, ⟨TX7, 12, rfl⟩, TT_3 121 rfl rfl, TT_3 123 rfl rfl, TT_p (q := (yX7_finish, 12)) 14 rfl rfl⟩
theorem gX7_226 : mG vwCl TT RX7 226 yX2_commitsAnything cX2_commitsAnything 1 (some .boolean) 0 2 := ⟨mX2_commitsAnything, ⟨TX2, 5, rfl⟩, TT_3 125 rfl rfl, TT_3 126 rfl rfl, TT_3 127 rfl rfl⟩
theorem gX7_229 : mG vwCl TT RX7 229 yX5_commitsWhere cX5_commitsWhere 1 (some .int) 0 5 := ⟨mX5_commitsWhere, ⟨TX5, 7, rfl⟩, TT_3 129 rfl rfl, TT_3 130 rfl rfl, TT_3 131 rfl rfl⟩
theorem gX5_47 : mG vwCl TT RX5 47 yX2_commitsWhere cX2_commitsWhere 2 (some .int) 1 2 := ⟨mX2_commitsWhere, ⟨TX2, 5, rfl⟩, TT_3 133 rfl rfl, TT_3 134 rfl rfl, TT_3 135 rfl rfl⟩
theorem gX2_34 : mG vwCl TT RX2 34 yX2_placeFrom cX2_placeFrom 2 (some .int) 1 2 := ⟨mX2_placeFrom, ⟨TX2, 5, rfl⟩, TT_3 137 rfl rfl, TT_3 37 rfl rfl, TT_3 38 rfl rfl⟩
theorem gX7_232 : mG vwCl TT RX7 232 yX1_take cX1_take 4 none 3 1 := ⟨mX1_take, ⟨TX1, 2, rfl⟩, TT_3 138 rfl rfl, TT_3 139 rfl rfl, TT_3 140 rfl rfl⟩
theorem gX1_36 : mG vwCl TT RX1 36 yX2_commitsRegister cX2_commitsRegister 1 (some .boolean) 0 2 := ⟨mX2_commitsRegister, ⟨TX2, 5, rfl⟩, TT_3 142 rfl rfl, TT_3 7 rfl rfl, TT_3 8 rfl rfl⟩
theorem gX1_42 : mG vwCl TT RX1 42 yX2_kind cX2_kind 1 (some .int) 0 2 := ⟨mX2_kind, ⟨TX2, 5, rfl⟩, TT_3 143 rfl rfl, TT_3 25 rfl rfl, TT_3 26 rfl rfl⟩
theorem gX7_236 : mG vwCl TT RX7 236 yX2_commitKind cX2_commitKind 1 (some .int) 0 2 := ⟨mX2_commitKind, ⟨TX2, 5, rfl⟩, TT_3 144 rfl rfl, TT_3 145 rfl rfl, TT_3 146 rfl rfl⟩
theorem gX7_239 : mG vwCl TT RX7 239 yX0_add cX0_add 6 none 4 0 := ⟨mX0_add, ⟨TX0, 3, rfl⟩, TT_3 148 rfl rfl, TT_3 149 rfl rfl, TT_3 150 rfl rfl⟩
theorem gX7_243 : mG vwCl TT RX7 243 yX2_commitsRegister cX2_commitsRegister 1 (some .boolean) 0 2 := ⟨mX2_commitsRegister, ⟨TX2, 5, rfl⟩, TT_3 152 rfl rfl, TT_3 7 rfl rfl, TT_3 8 rfl rfl⟩
theorem gX7_205 : mG vwCl TT RX7 205 yX7_moveOn cX7_moveOn 3 none 1 7 := ⟨mX7_moveOn, ⟨TX7, 12, rfl⟩, TT_3 153 rfl rfl, TT_3 155 rfl rfl, TT_p (q := (yX7_moveOn, 12)) 15 rfl rfl⟩
theorem gX10_116 : mG vwCl TT RX10 116 yX7_reached cX7_reached 1 (some .int) 0 7 := ⟨mX7_reached, ⟨TX7, 12, rfl⟩, TT_3 157 rfl rfl, TT_3 158 rfl rfl, TT_3 159 rfl rfl⟩
theorem gL_42 : mG vwCl TT RL 42 yX10_cycle cX10_cycle 1 (some .int) 0 10 := ⟨mX10_cycle, ⟨TX10, 9, rfl⟩, TT_3 161 rfl rfl, TT_3 162 rfl rfl, TT_3 163 rfl rfl⟩
theorem gL_46 : mG vwCl TT RL 46 yX10_ended cX10_ended 1 (some .boolean) 0 10 := ⟨mX10_ended, ⟨TX10, 9, rfl⟩, TT_3 165 rfl rfl, TT_3 166 rfl rfl, TT_3 167 rfl rfl⟩
theorem gX10_119 : mG vwCl TT RX10 119 yX7_isEnded cX7_isEnded 1 (some .boolean) 0 7 := ⟨mX7_isEnded, ⟨TX7, 12, rfl⟩, TT_3 169 rfl rfl, TT_3 170 rfl rfl, TT_3 171 rfl rfl⟩
theorem gL_51 : mG vwCl TT RL 51 yX10_commits cX10_commits 1 (some .int) 0 10 := ⟨mX10_commits, ⟨TX10, 9, rfl⟩, TT_3 173 rfl rfl, TT_3 174 rfl rfl, TT_3 175 rfl rfl⟩
theorem gX10_122 : mG vwCl TT RX10 122 yX0_total cX0_total 1 (some .int) 0 0 := ⟨mX0_total, ⟨TX0, 3, rfl⟩, TT_3 177 rfl rfl, TT_3 178 rfl rfl, TT_3 179 rfl rfl⟩
theorem gL_55 : mG vwCl TT RL 55 yX10_commit cX10_commit 3 (some .int) 2 10 := ⟨mX10_commit, ⟨TX10, 9, rfl⟩, TT_3 181 rfl rfl, TT_3 182 rfl rfl, TT_3 183 rfl rfl⟩
theorem gX10_125 : mG vwCl TT RX10 125 yX0_part cX0_part 3 (some .int) 2 0 := ⟨mX0_part, ⟨TX0, 3, rfl⟩, TT_3 185 rfl rfl, TT_3 186 rfl rfl, TT_3 187 rfl rfl⟩
theorem gL_60 : mG vwCl TT RL 60 yX10_register cX10_register 2 (some .int) 1 10 := ⟨mX10_register, ⟨TX10, 9, rfl⟩, TT_3 189 rfl rfl, TT_3 190 rfl rfl, TT_3 191 rfl rfl⟩
theorem gX10_129 : mG vwCl TT RX10 129 yX7_holdings cX7_holdings 1 (some (.object "PipeForge$Holdings")) 0 7 := ⟨mX7_holdings, ⟨TX7, 12, rfl⟩, TT_3 193 rfl rfl, TT_3 194 rfl rfl, TT_3 195 rfl rfl⟩
theorem gX10_133 : mG vwCl TT RX10 133 yX1_inRegister cX1_inRegister 2 (some .int) 1 1 := ⟨mX1_inRegister, ⟨TX1, 2, rfl⟩, TT_3 197 rfl rfl, TT_3 65 rfl rfl, TT_3 66 rfl rfl⟩
theorem gL_64 : mG vwCl TT RL 64 yX10_place cX10_place 2 (some .int) 1 10 := ⟨mX10_place, ⟨TX10, 9, rfl⟩, TT_3 198 rfl rfl, TT_3 199 rfl rfl, TT_3 200 rfl rfl⟩
theorem gX10_139 : mG vwCl TT RX10 139 yX1_atPlace cX1_atPlace 2 (some .int) 1 1 := ⟨mX1_atPlace, ⟨TX1, 2, rfl⟩, TT_3 202 rfl rfl, TT_3 102 rfl rfl, TT_3 103 rfl rfl⟩
theorem gL_68 : mG vwCl TT RL 68 yX10_retired cX10_retired 1 (some .int) 0 10 := ⟨mX10_retired, ⟨TX10, 9, rfl⟩, TT_3 203 rfl rfl, TT_3 204 rfl rfl, TT_3 205 rfl rfl⟩
theorem gX10_142 : mG vwCl TT RX10 142 yX7_gone cX7_gone 1 (some .int) 0 7 := ⟨mX7_gone, ⟨TX7, 12, rfl⟩, TT_3 207 rfl rfl, TT_3 208 rfl rfl, TT_3 209 rfl rfl⟩
theorem gL_72 : mG vwCl TT RL 72 yX10_faithful cX10_faithful 1 (some .boolean) 0 10 := ⟨mX10_faithful, ⟨TX10, 9, rfl⟩, TT_3 211 rfl rfl, TT_3 212 rfl rfl, TT_3 213 rfl rfl⟩
theorem gX10_145 : mG vwCl TT RX10 145 yX6_agreesWith cX6_agreesWith 8 (some .boolean) 1 6 := ⟨mX6_agreesWith, ⟨TX6, 3, rfl⟩, TT_3 215 rfl rfl, TT_3 216 rfl rfl, TT_3 217 rfl rfl⟩
theorem gX6_26 : mG vwCl TT RX6 26 yX1_reset cX1_reset 2 none 1 1 := ⟨mX1_reset, ⟨TX1, 2, rfl⟩, TT_3 219 rfl rfl, TT_2 124 rfl rfl, TT_2 125 rfl rfl⟩
theorem gX6_31 : mG vwCl TT RX6 31 yX0_size cX0_size 1 (some .int) 0 0 := ⟨mX0_size, ⟨TX0, 3, rfl⟩, TT_3 221 rfl rfl, TT_3 222 rfl rfl, TT_3 223 rfl rfl⟩
theorem gX6_37 : mG vwCl TT RX6 37 yX8_at cX8_at 2 (some (.object "PipeForge$Instruction")) 1 8 := ⟨mX8_at, ⟨TX8, 3, rfl⟩, TT_3 225 rfl rfl, TT_1 152 rfl rfl, TT_1 153 rfl rfl⟩
theorem gX6_43 : mG vwCl TT RX6 43 yX2_kind cX2_kind 1 (some .int) 0 2 := ⟨mX2_kind, ⟨TX2, 5, rfl⟩, TT_3 226 rfl rfl, TT_3 25 rfl rfl, TT_3 26 rfl rfl⟩
theorem gX6_48 : mG vwCl TT RX6 48 yX2_left cX2_left 1 (some .int) 0 2 := ⟨mX2_left, ⟨TX2, 5, rfl⟩, TT_3 227 rfl rfl, TT_2 231 rfl rfl, TT_2 232 rfl rfl⟩
theorem gX6_51 : mG vwCl TT RX6 51 yX1_inRegister cX1_inRegister 2 (some .int) 1 1 := ⟨mX1_inRegister, ⟨TX1, 2, rfl⟩, TT_3 228 rfl rfl, TT_3 65 rfl rfl, TT_3 66 rfl rfl⟩
theorem gX6_55 : mG vwCl TT RX6 55 yX2_right cX2_right 1 (some .int) 0 2 := ⟨mX2_right, ⟨TX2, 5, rfl⟩, TT_3 229 rfl rfl, TT_3 21 rfl rfl, TT_3 22 rfl rfl⟩
theorem gX6_58 : mG vwCl TT RX6 58 yX2_commitsAnything cX2_commitsAnything 1 (some .boolean) 0 2 := ⟨mX2_commitsAnything, ⟨TX2, 5, rfl⟩, TT_3 230 rfl rfl, TT_3 126 rfl rfl, TT_3 127 rfl rfl⟩
theorem gX6_62 : mG vwCl TT RX6 62 yX6_commitsAs cX6_commitsAs 8 (some .boolean) 5 6 := ⟨mX6_commitsAs, ⟨TX6, 3, rfl⟩, TT_3 231 rfl rfl, TT_3 233 rfl rfl, TT_p (q := (yX6_commitsAs, 3)) 16 rfl rfl⟩
theorem gX6_73 : mG vwCl TT RX6 73 yX2_commitsWhere cX2_commitsWhere 2 (some .int) 1 2 := ⟨mX2_commitsWhere, ⟨TX2, 5, rfl⟩, TT_3 235 rfl rfl, TT_3 134 rfl rfl, TT_3 135 rfl rfl⟩
theorem gX6_76 : mG vwCl TT RX6 76 yX2_placeFrom cX2_placeFrom 2 (some .int) 1 2 := ⟨mX2_placeFrom, ⟨TX2, 5, rfl⟩, TT_3 236 rfl rfl, TT_3 37 rfl rfl, TT_3 38 rfl rfl⟩
theorem gX6_79 : mG vwCl TT RX6 79 yX1_atPlace cX1_atPlace 2 (some .int) 1 1 := ⟨mX1_atPlace, ⟨TX1, 2, rfl⟩, TT_3 237 rfl rfl, TT_3 102 rfl rfl, TT_3 103 rfl rfl⟩
theorem gX6_82 : mG vwCl TT RX6 82 yX2_workedOut cX2_workedOut 3 (some .int) 2 2 := ⟨mX2_workedOut, ⟨TX2, 5, rfl⟩, TT_3 238 rfl rfl, TT_3 86 rfl rfl, TT_3 87 rfl rfl⟩
theorem gX6_86 : mG vwCl TT RX6 86 yX1_take cX1_take 4 none 3 1 := ⟨mX1_take, ⟨TX1, 2, rfl⟩, TT_3 239 rfl rfl, TT_3 139 rfl rfl, TT_3 140 rfl rfl⟩
theorem gX6_90 : mG vwCl TT RX6 90 yX2_commitKind cX2_commitKind 1 (some .int) 0 2 := ⟨mX2_commitKind, ⟨TX2, 5, rfl⟩, TT_4 0 rfl rfl, TT_3 145 rfl rfl, TT_3 146 rfl rfl⟩
theorem gX6_93 : mG vwCl TT RX6 93 yX0_holds cX0_holds 6 (some .boolean) 4 0 := ⟨mX0_holds, ⟨TX0, 3, rfl⟩, TT_4 1 rfl rfl, TT_4 2 rfl rfl, TT_4 3 rfl rfl⟩
theorem gX6_66 : mG vwCl TT RX6 66 yX2_goesOn cX2_goesOn 3 (some .boolean) 2 2 := ⟨mX2_goesOn, ⟨TX2, 5, rfl⟩, TT_4 5 rfl rfl, TT_3 94 rfl rfl, TT_3 95 rfl rfl⟩
theorem gX6_70 : mG vwCl TT RX6 70 yX2_goal cX2_goal 1 (some .int) 0 2 := ⟨mX2_goal, ⟨TX2, 5, rfl⟩, TT_4 6 rfl rfl, TT_3 98 rfl rfl, TT_3 99 rfl rfl⟩
theorem gL_76 : mG vwCl TT RL 76 yX10_told cX10_told 2 (some .int) 1 10 := ⟨mX10_told, ⟨TX10, 9, rfl⟩, TT_4 7 rfl rfl, TT_4 8 rfl rfl, TT_4 9 rfl rfl⟩
theorem gX10_149 : mG vwCl TT RX10 149 yX8_size cX8_size 1 (some .int) 0 8 := ⟨mX8_size, ⟨TX8, 3, rfl⟩, TT_4 11 rfl rfl, TT_4 12 rfl rfl, TT_4 13 rfl rfl⟩
theorem gX10_152 : mG vwCl TT RX10 152 yX3_stageOf cX3_stageOf 2 (some .int) 1 3 := ⟨mX3_stageOf, ⟨TX3, 2, rfl⟩, TT_4 15 rfl rfl, TT_2 215 rfl rfl, TT_2 216 rfl rfl⟩
theorem kL_12 : Cond.methodLink RL 12 yX11_init ∈ TT := TT_4 18 rfl rfl
theorem koX11_1 : Cond.methodLink RX11 1 Lib.objectInit ∈ TT := TT_4 21 rfl rfl
theorem gX11_96 : mG vwCl TT RX11 96 yX11_anew cX11_anew 2 none 0 11 := ⟨mX11_anew, ⟨TX11, 36, rfl⟩, TT_4 22 rfl rfl, TT_4 24 rfl rfl, TT_p (q := (yX11_anew, 36)) 17 rfl rfl⟩
theorem gL_17 : mG vwCl TT RL 17 yX11_unit cX11_unit 2 (some .boolean) 1 11 := ⟨mX11_unit, ⟨TX11, 36, rfl⟩, TT_4 136 rfl rfl, TT_4 137 rfl rfl, TT_4 138 rfl rfl⟩
theorem gX11_115 : mGS TT RX11 115 yX11_isIn cX11_isIn 3 (some .boolean) 3 := ⟨mX11_isIn, TT_4 140 rfl rfl, TT_4 141 rfl rfl⟩
theorem gL_22 : mG vwCl TT RL 22 yX11_line cX11_line 8 (some .int) 0 11 := ⟨mX11_line, ⟨TX11, 36, rfl⟩, TT_4 143 rfl rfl, TT_4 144 rfl rfl, TT_4 145 rfl rfl⟩
theorem gX11_122 : mGS TT RX11 122 yX11_actionOf cX11_actionOf 1 (some .int) 1 := ⟨mX11_actionOf, TT_4 147 rfl rfl, TT_4 148 rfl rfl⟩
theorem gL_27 : mG vwCl TT RL 27 yX11_code cX11_code 6 (some .int) 5 11 := ⟨mX11_code, ⟨TX11, 36, rfl⟩, TT_4 150 rfl rfl, TT_4 151 rfl rfl, TT_4 152 rfl rfl⟩
theorem gL_32 : mG vwCl TT RL 32 yX11_memory cX11_memory 3 (some .boolean) 2 11 := ⟨mX11_memory, ⟨TX11, 36, rfl⟩, TT_4 154 rfl rfl, TT_4 155 rfl rfl, TT_4 156 rfl rfl⟩
theorem gL_36 : mG vwCl TT RL 36 yX11_latency cX11_latency 3 (some .boolean) 2 11 := ⟨mX11_latency, ⟨TX11, 36, rfl⟩, TT_4 158 rfl rfl, TT_4 159 rfl rfl, TT_4 160 rfl rfl⟩
theorem gL_41 : mG vwCl TT RL 41 yX11_run cX11_run 3 (some .int) 1 11 := ⟨mX11_run, ⟨TX11, 36, rfl⟩, TT_4 162 rfl rfl, TT_4 163 rfl rfl, TT_4 164 rfl rfl⟩
theorem gX11_179 : mG vwCl TT RX11 179 yX11_oneCycle cX11_oneCycle 2 none 0 11 := ⟨mX11_oneCycle, ⟨TX11, 36, rfl⟩, TT_4 166 rfl rfl, TT_4 168 rfl rfl, TT_p (q := (yX11_oneCycle, 36)) 18 rfl rfl⟩
theorem gX11_172 : mG vwCl TT RX11 172 yX11_fires cX11_fires 4 (some .boolean) 1 11 := ⟨mX11_fires, ⟨TX11, 36, rfl⟩, TT_4 170 rfl rfl, TT_4 172 rfl rfl, TT_p (q := (yX11_fires, 36)) 19 rfl rfl⟩
theorem gX11_129 : mG vwCl TT RX11 129 yX11_kindOf cX11_kindOf 2 (some .int) 1 11 := ⟨mX11_kindOf, ⟨TX11, 36, rfl⟩, TT_4 174 rfl rfl, TT_4 176 rfl rfl, TT_p (q := (yX11_kindOf, 36)) 20 rfl rfl⟩
theorem gX11_143 : mGS TT RX11 143 yX11_readsOne cX11_readsOne 1 (some .boolean) 1 := ⟨mX11_readsOne, TT_4 178 rfl rfl, TT_4 179 rfl rfl⟩
theorem gX11_147 : mG vwCl TT RX11 147 yX11_isReady cX11_isReady 5 (some .boolean) 2 11 := ⟨mX11_isReady, ⟨TX11, 36, rfl⟩, TT_4 181 rfl rfl, TT_4 183 rfl rfl, TT_p (q := (yX11_isReady, 36)) 21 rfl rfl⟩
theorem gX11_136 : mG vwCl TT RX11 136 yX11_giver cX11_giver 4 (some .int) 2 11 := ⟨mX11_giver, ⟨TX11, 36, rfl⟩, TT_4 185 rfl rfl, TT_4 187 rfl rfl, TT_p (q := (yX11_giver, 36)) 22 rfl rfl⟩
theorem gX11_132 : mG vwCl TT RX11 132 yX11_commitsRegister cX11_commitsRegister 3 (some .boolean) 2 11 := ⟨mX11_commitsRegister, ⟨TX11, 36, rfl⟩, TT_4 189 rfl rfl, TT_4 191 rfl rfl, TT_p (q := (yX11_commitsRegister, 36)) 23 rfl rfl⟩
theorem gX11_150 : mGS TT RX11 150 yX11_readsTwo cX11_readsTwo 1 (some .boolean) 1 := ⟨mX11_readsTwo, TT_4 193 rfl rfl, TT_4 194 rfl rfl⟩
theorem gX11_153 : mG vwCl TT RX11 153 yX11_hasOlderStore cX11_hasOlderStore 4 (some .boolean) 1 11 := ⟨mX11_hasOlderStore, ⟨TX11, 36, rfl⟩, TT_4 196 rfl rfl, TT_4 198 rfl rfl, TT_p (q := (yX11_hasOlderStore, 36)) 24 rfl rfl⟩
theorem gX11_156 : mG vwCl TT RX11 156 yX11_placeOf cX11_placeOf 2 (some .int) 1 11 := ⟨mX11_placeOf, ⟨TX11, 36, rfl⟩, TT_4 200 rfl rfl, TT_4 202 rfl rfl, TT_p (q := (yX11_placeOf, 36)) 25 rfl rfl⟩
theorem gX11_175 : mG vwCl TT RX11 175 yX11_fire cX11_fire 5 none 1 11 := ⟨mX11_fire, ⟨TX11, 36, rfl⟩, TT_4 204 rfl rfl, TT_4 206 rfl rfl, TT_p (q := (yX11_fire, 36)) 26 rfl rfl⟩
theorem gX11_163 : mG vwCl TT RX11 163 yX11_read cX11_read 4 (some .int) 2 11 := ⟨mX11_read, ⟨TX11, 36, rfl⟩, TT_4 208 rfl rfl, TT_4 210 rfl rfl, TT_p (q := (yX11_read, 36)) 27 rfl rfl⟩
theorem gX11_166 : mG vwCl TT RX11 166 yX11_workOut cX11_workOut 6 none 3 11 := ⟨mX11_workOut, ⟨TX11, 36, rfl⟩, TT_4 212 rfl rfl, TT_4 214 rfl rfl, TT_p (q := (yX11_workOut, 36)) 28 rfl rfl⟩
theorem gX11_169 : mG vwCl TT RX11 169 yX11_commitAll cX11_commitAll 4 none 3 11 := ⟨mX11_commitAll, ⟨TX11, 36, rfl⟩, TT_4 216 rfl rfl, TT_4 218 rfl rfl, TT_p (q := (yX11_commitAll, 36)) 29 rfl rfl⟩
theorem gX11_159 : mG vwCl TT RX11 159 yX11_commitOne cX11_commitOne 4 none 3 11 := ⟨mX11_commitOne, ⟨TX11, 36, rfl⟩, TT_4 220 rfl rfl, TT_4 222 rfl rfl, TT_p (q := (yX11_commitOne, 36)) 30 rfl rfl⟩
theorem gL_45 : mG vwCl TT RL 45 yX11_cycle cX11_cycle 1 (some .int) 0 11 := ⟨mX11_cycle, ⟨TX11, 36, rfl⟩, TT_4 224 rfl rfl, TT_4 225 rfl rfl, TT_4 226 rfl rfl⟩
theorem gL_50 : mG vwCl TT RL 50 yX11_ended cX11_ended 1 (some .boolean) 0 11 := ⟨mX11_ended, ⟨TX11, 36, rfl⟩, TT_4 228 rfl rfl, TT_4 229 rfl rfl, TT_4 230 rfl rfl⟩
theorem gL_54 : mG vwCl TT RL 54 yX11_commits cX11_commits 1 (some .int) 0 11 := ⟨mX11_commits, ⟨TX11, 36, rfl⟩, TT_4 232 rfl rfl, TT_4 233 rfl rfl, TT_4 234 rfl rfl⟩
theorem gL_59 : mG vwCl TT RL 59 yX11_commit cX11_commit 3 (some .int) 2 11 := ⟨mX11_commit, ⟨TX11, 36, rfl⟩, TT_4 236 rfl rfl, TT_4 237 rfl rfl, TT_4 238 rfl rfl⟩
theorem gL_63 : mG vwCl TT RL 63 yX11_register cX11_register 2 (some .int) 1 11 := ⟨mX11_register, ⟨TX11, 36, rfl⟩, TT_5 0 rfl rfl, TT_5 1 rfl rfl, TT_5 2 rfl rfl⟩
theorem gL_67 : mG vwCl TT RL 67 yX11_place cX11_place 2 (some .int) 1 11 := ⟨mX11_place, ⟨TX11, 36, rfl⟩, TT_5 4 rfl rfl, TT_5 5 rfl rfl, TT_5 6 rfl rfl⟩
theorem gL_71 : mG vwCl TT RL 71 yX11_retired cX11_retired 1 (some .int) 0 11 := ⟨mX11_retired, ⟨TX11, 36, rfl⟩, TT_5 8 rfl rfl, TT_5 9 rfl rfl, TT_5 10 rfl rfl⟩
theorem gL_75 : mG vwCl TT RL 75 yX11_faithful cX11_faithful 12 (some .boolean) 0 11 := ⟨mX11_faithful, ⟨TX11, 36, rfl⟩, TT_5 12 rfl rfl, TT_5 13 rfl rfl, TT_5 14 rfl rfl⟩
theorem gL_79 : mG vwCl TT RL 79 yX11_told cX11_told 2 (some .int) 1 11 := ⟨mX11_told, ⟨TX11, 36, rfl⟩, TT_5 16 rfl rfl, TT_5 17 rfl rfl, TT_5 18 rfl rfl⟩
theorem kiX0_init : Cond.instanceMethod yX0_init ∈ TT := TT_1 116 rfl rfl
theorem kiX1_init : Cond.instanceMethod yX1_init ∈ TT := TT_1 138 rfl rfl
theorem kiX2_init : Cond.instanceMethod yX2_init ∈ TT := TT_1 71 rfl rfl
theorem kiX3_init : Cond.instanceMethod yX3_init ∈ TT := TT_1 51 rfl rfl
theorem kiX4_init : Cond.instanceMethod yX4_init ∈ TT := TT_1 31 rfl rfl
theorem kiX5_init : Cond.instanceMethod yX5_init ∈ TT := TT_1 156 rfl rfl
theorem kiX6_init : Cond.instanceMethod yX6_init ∈ TT := TT_1 221 rfl rfl
theorem kiX7_init : Cond.instanceMethod yX7_init ∈ TT := TT_1 132 rfl rfl
theorem kiX8_init : Cond.instanceMethod yX8_init ∈ TT := TT_1 64 rfl rfl
theorem kiX9_init : Cond.instanceMethod yX9_init ∈ TT := TT_1 103 rfl rfl
theorem kiX10_init : Cond.instanceMethod yX10_init ∈ TT := TT_1 23 rfl rfl
theorem kiX11_init : Cond.instanceMethod yX11_init ∈ TT := TT_4 19 rfl rfl
theorem koC : Cond.code Lib.objectInit ⟨#[0xb1]⟩ 1 none ∈ TT := TT_1 27 rfl rfl
theorem koI : Cond.instanceMethod Lib.objectInit ∈ TT := TT_1 26 rfl rfl
theorem kaN : Cond.native arraycopyName ∈ TT := TT_2 110 rfl rfl
theorem kaS : Cond.static arraycopyName ∈ TT := TT_2 109 rfl rfl
theorem kaI : Cond.initialized "java/lang/System" ∈ TT := TT_1 18 rfl rfl
theorem kAI : Cond.arrayClass .int ∈ TT := TT_1 47 rfl rfl
theorem kAZ : Cond.arrayClass .boolean ∈ TT := TT_4 135 rfl rfl
theorem klL_7 : Cond.classLink RL 7 RX10 ∈ TT := TT_1 20 rfl rfl
theorem klX10_13 : Cond.classLink RX10 13 RX4 ∈ TT := TT_1 28 rfl rfl
theorem klX10_20 : Cond.classLink RX10 20 RX3 ∈ TT := TT_1 48 rfl rfl
theorem klX10_27 : Cond.classLink RX10 27 RX8 ∈ TT := TT_1 61 rfl rfl
theorem klX8_9 : Cond.classLink RX8 9 RX2 ∈ TT := TT_1 67 rfl rfl
theorem klX10_34 : Cond.classLink RX10 34 RX9 ∈ TT := TT_1 100 rfl rfl
theorem klX10_41 : Cond.classLink RX10 41 RX0 ∈ TT := TT_1 113 rfl rfl
theorem klX10_48 : Cond.classLink RX10 48 RX7 ∈ TT := TT_1 129 rfl rfl
theorem klX7_9 : Cond.classLink RX7 9 RX1 ∈ TT := TT_1 135 rfl rfl
theorem klX7_18 : Cond.classLink RX7 18 RX5 ∈ TT := TT_1 148 rfl rfl
theorem klX10_57 : Cond.classLink RX10 57 RX6 ∈ TT := TT_1 218 rfl rfl
theorem klX6_9 : Cond.classLink RX6 9 RX1 ∈ TT := TT_1 224 rfl rfl
theorem klX10_93 : Cond.classLink RX10 93 RX2 ∈ TT := TT_2 154 rfl rfl
theorem klL_10 : Cond.classLink RL 10 RX11 ∈ TT := TT_4 16 rfl rfl
theorem knX10 : Cond.instantiable RX10 9 ∈ TT := TT_1 21 rfl rfl
theorem knX4 : Cond.instantiable RX4 4 ∈ TT := TT_1 29 rfl rfl
theorem knX3 : Cond.instantiable RX3 2 ∈ TT := TT_1 49 rfl rfl
theorem knX8 : Cond.instantiable RX8 3 ∈ TT := TT_1 62 rfl rfl
theorem knX2 : Cond.instantiable RX2 5 ∈ TT := TT_1 69 rfl rfl
theorem knX9 : Cond.instantiable RX9 2 ∈ TT := TT_1 101 rfl rfl
theorem knX0 : Cond.instantiable RX0 3 ∈ TT := TT_1 114 rfl rfl
theorem knX7 : Cond.instantiable RX7 12 ∈ TT := TT_1 130 rfl rfl
theorem knX1 : Cond.instantiable RX1 2 ∈ TT := TT_1 136 rfl rfl
theorem knX5 : Cond.instantiable RX5 7 ∈ TT := TT_1 150 rfl rfl
theorem knX6 : Cond.instantiable RX6 3 ∈ TT := TT_1 219 rfl rfl
theorem knX11 : Cond.instantiable RX11 36 ∈ TT := TT_4 17 rfl rfl
theorem kzX0 : Cond.initialized RX0 ∈ TT := TT_1 7 rfl rfl
theorem kzX1 : Cond.initialized RX1 ∈ TT := TT_1 9 rfl rfl
theorem kzX2 : Cond.initialized RX2 ∈ TT := TT_1 5 rfl rfl
theorem kzX3 : Cond.initialized RX3 ∈ TT := TT_1 3 rfl rfl
theorem kzX4 : Cond.initialized RX4 ∈ TT := TT_1 2 rfl rfl
theorem kzX5 : Cond.initialized RX5 ∈ TT := TT_1 10 rfl rfl
theorem kzX6 : Cond.initialized RX6 ∈ TT := TT_1 11 rfl rfl
theorem kzX7 : Cond.initialized RX7 ∈ TT := TT_1 8 rfl rfl
theorem kzX8 : Cond.initialized RX8 ∈ TT := TT_1 4 rfl rfl
theorem kzX9 : Cond.initialized RX9 ∈ TT := TT_1 6 rfl rfl
theorem kzX10 : Cond.initialized RX10 ∈ TT := TT_1 1 rfl rfl
theorem kzX11 : Cond.initialized RX11 ∈ TT := TT_1 12 rfl rfl
theorem kzJ9 : Cond.initialized RJ9 ∈ TT := TT_1 19 rfl rfl
theorem kzJ0 : Cond.initialized RJ0 ∈ TT := TT_1 14 rfl rfl
theorem kzJ1 : Cond.initialized RJ1 ∈ TT := TT_1 15 rfl rfl
theorem kzJ2 : Cond.initialized RJ2 ∈ TT := TT_1 17 rfl rfl
theorem kzJ10 : Cond.initialized RJ10 ∈ TT := TT_1 18 rfl rfl
theorem kzJ7 : Cond.initialized RJ7 ∈ TT := TT_1 13 rfl rfl
theorem kzJ3 : Cond.initialized RJ3 ∈ TT := TT_1 16 rfl rfl
def nests : List (String × Nat × MethodName × String) := [(RX10, 15, yX4_init, "PipeForge"), (RX10, 22, yX3_init, "PipeForge"), (RX10, 36, yX9_init, "PipeForge"), (RX10, 43, yX0_init, "PipeForge"), (RX7, 11, yX1_init, "PipeForge"), (RX6, 11, yX1_init, "PipeForge"), (RX9, 18, yX10_isPlace, "PipeForge"), (RX7, 169, yX10_isRegister, "PipeForge"), (RX1, 29, yX10_isRegister, "PipeForge"), (RX1, 33, yX10_isPlace, "PipeForge")]
def NN (U : State) : Prop := (∀ q ∈ nests, va_Nw (.methodLinkNest q.1 q.2.1 q.2.2.1 q.2.2.2) U) ∧ va_AO RX2 U ∧ va_AO RX5 U
theorem NN_w (u U : State) (hW : u.WarmedH U.vm) (h : NN u) : NN U := ⟨fun q hq => va_Nw.warmM hW (h.1 q hq), h.2.1.moved hW.alike, h.2.2.moved hW.alike⟩
theorem kNX10_15 (U : State) (h : NN U) : va_Nw (.methodLinkNest RX10 15 yX4_init "PipeForge") U := h.1 (RX10, 15, yX4_init, "PipeForge") (List.mem_of_getElem? (i := 0) rfl)
theorem kNX10_22 (U : State) (h : NN U) : va_Nw (.methodLinkNest RX10 22 yX3_init "PipeForge") U := h.1 (RX10, 22, yX3_init, "PipeForge") (List.mem_of_getElem? (i := 1) rfl)
theorem kNX10_36 (U : State) (h : NN U) : va_Nw (.methodLinkNest RX10 36 yX9_init "PipeForge") U := h.1 (RX10, 36, yX9_init, "PipeForge") (List.mem_of_getElem? (i := 2) rfl)
theorem kNX10_43 (U : State) (h : NN U) : va_Nw (.methodLinkNest RX10 43 yX0_init "PipeForge") U := h.1 (RX10, 43, yX0_init, "PipeForge") (List.mem_of_getElem? (i := 3) rfl)
theorem kNX7_11 (U : State) (h : NN U) : va_Nw (.methodLinkNest RX7 11 yX1_init "PipeForge") U := h.1 (RX7, 11, yX1_init, "PipeForge") (List.mem_of_getElem? (i := 4) rfl)
theorem kNX6_11 (U : State) (h : NN U) : va_Nw (.methodLinkNest RX6 11 yX1_init "PipeForge") U := h.1 (RX6, 11, yX1_init, "PipeForge") (List.mem_of_getElem? (i := 5) rfl)
theorem gX9_18 : mGN TT NN RX9 18 yX10_isPlace "PipeForge" cX10_isPlace 1 (some .boolean) 1 := ⟨mX10_isPlace, fun U h => h.1 (RX9, 18, yX10_isPlace, "PipeForge") (List.mem_of_getElem? (i := 6) rfl), TT_2 166 rfl rfl⟩
theorem gX7_169 : mGN TT NN RX7 169 yX10_isRegister "PipeForge" cX10_isRegister 1 (some .boolean) 1 := ⟨mX10_isRegister, fun U h => h.1 (RX7, 169, yX10_isRegister, "PipeForge") (List.mem_of_getElem? (i := 7) rfl), TT_2 152 rfl rfl⟩
theorem gX1_29 : mGN TT NN RX1 29 yX10_isRegister "PipeForge" cX10_isRegister 1 (some .boolean) 1 := ⟨mX10_isRegister, fun U h => h.1 (RX1, 29, yX10_isRegister, "PipeForge") (List.mem_of_getElem? (i := 8) rfl), TT_2 152 rfl rfl⟩
theorem gX1_33 : mGN TT NN RX1 33 yX10_isPlace "PipeForge" cX10_isPlace 1 (some .boolean) 1 := ⟨mX10_isPlace, fun U h => h.1 (RX1, 33, yX10_isPlace, "PipeForge") (List.mem_of_getElem? (i := 9) rfl), TT_2 166 rfl rfl⟩
end
section
/-! LABELS: a cell is spoken of by a number that we choose -/
abbrev mS : Type := Nat → Option (Nat × Nat × Nat)
def rl (A : Nat → Nat) (Sh : mS) (S : mI) (G : mP) (T : mT) (I : mI) (P : mP) : Prop := (∀ r sh, Sh r = some sh → T (A r) = some sh ∧ I (A r) = S r ∧ ∀ k, P (A r) k = (G r k).map A) ∧ (∀ r r' sh sh', Sh r = some sh → Sh r' = some sh' → A r = A r' → r = r')
theorem rl.sh {A : Nat → Nat} {Sh : mS} {S : mI} {G : mP} {T : mT} {I : mI} {P : mP} (h : rl A Sh S G T I P) {r : Nat} {sh : Nat × Nat × Nat} (hr : Sh r = some sh) : T (A r) = some sh := (h.1 r sh hr).1
theorem rl.num {A : Nat → Nat} {Sh : mS} {S : mI} {G : mP} {T : mT} {I : mI} {P : mP} (h : rl A Sh S G T I P) {r : Nat} {sh : Nat × Nat × Nat} (hr : Sh r = some sh) (k : Nat) : I (A r) k = S r k := by rw [(h.1 r sh hr).2.1]
theorem rl.ptr {A : Nat → Nat} {Sh : mS} {S : mI} {G : mP} {T : mT} {I : mI} {P : mP} (h : rl A Sh S G T I P) {r k q : Nat} {sh : Nat × Nat × Nat} (hr : Sh r = some sh) (hg : G r k = some q) : P (A r) k = some (A q) := by rw [(h.1 r sh hr).2.2 k, hg]; rfl
theorem rl.set {A : Nat → Nat} {Sh : mS} {S : mI} {G : mP} {T : mT} {I : mI} {P : mP} (h : rl A Sh S G T I P) {r : Nat} {sh : Nat × Nat × Nat} (hr : Sh r = some sh) (k : Nat) (v : Int32) : rl A Sh (mu S r k v) G T (mu I (A r) k v) P := by
  refine ⟨fun q sq hq => ⟨h.sh hq, ?_, (h.1 q sq hq).2.2⟩, h.2⟩
  by_cases he : q = r
  · subst he
    funext y
    by_cases hy : y = k
    · subst hy
      simp [mu]
    · simp [mu, hy, h.num hq y]
  · have hn : A q ≠ A r := fun e => he (h.2 q r sq sh hq hr e)
    rw [mu_row _ _ _ hn, mu_row _ _ _ he]
    exact (h.1 q sq hq).2.1
theorem rl.row {A : Nat → Nat} {Sh : mS} {S : mI} {G : mP} {T : mT} {I : mI} {P : mP} (h : rl A Sh S G T I P) {r : Nat} {sh : Nat × Nat × Nat} (hr : Sh r = some sh) (f : Nat → Int32) : rl A Sh (fun x => if x = r then f else S x) G T (fun x => if x = A r then f else I x) P := by
  refine ⟨fun q sq hq => ⟨h.sh hq, ?_, (h.1 q sq hq).2.2⟩, h.2⟩
  by_cases he : q = r
  · subst he
    simp
  · have hn : A q ≠ A r := fun e => he (h.2 q r sq sh hq hr e)
    simp [he, hn]
    exact (h.1 q sq hq).2.1
theorem rl.setP {A : Nat → Nat} {Sh : mS} {S : mI} {G : mP} {T : mT} {I : mI} {P : mP} (h : rl A Sh S G T I P) {r : Nat} {sh : Nat × Nat × Nat} (hr : Sh r = some sh) (k q : Nat) : rl A Sh S (mu G r k (some q)) T I (mu P (A r) k (some (A q))) := by
  refine ⟨fun z sz hz => ⟨h.sh hz, (h.1 z sz hz).2.1, fun y => ?_⟩, h.2⟩
  by_cases he : z = r
  · subst he
    by_cases hy : y = k
    · subst hy
      simp [mu]
    · simp [mu, hy, (h.1 z sz hz).2.2 y]
  · have hn : A z ≠ A r := fun e => he (h.2 z r sz sh hz hr e)
    rw [mu_na _ _ _ hn, mu_na _ _ _ he]
    exact (h.1 z sz hz).2.2 y
/-- a label for a new cell -/
theorem rl.new {A : Nat → Nat} {Sh : mS} {S : mI} {G : mP} {T : mT} {I : mI} {P : mP} (h : rl A Sh S G T I P) (r a : Nat) (sh : Nat × Nat × Nat) (hr : Sh r = none) (ha : T a = none) (hG : ∀ z k, (Sh z).isSome = true → G z k ≠ some r) : rl (fun x => if x = r then a else A x) (mTn Sh r sh) (mIn S r) (mPn G r) (mTn T a sh) (mIn I a) (mPn P a) := by
  have ne : ∀ z sz, Sh z = some sz → A z ≠ a := fun z sz hz e => by
    have := h.sh hz
    rw [e, ha] at this
    cases this
  refine ⟨fun z sz hz => ?_, fun z z' sz sz' hz hz' => ?_⟩
  · by_cases he : z = r
    · subst he
      simp [mTn] at hz
      subst hz
      refine ⟨by simp [mTn], by funext y; simp [mIn], fun k => by simp [mPn]⟩
    · have hz2 : Sh z = some sz := by simpa [mTn, he] using hz
      have hn := ne z sz hz2
      refine ⟨by simp [mTn, he, hn]; exact h.sh hz2, by funext y; simp [mIn, he, hn]; exact h.num hz2 y, fun k => ?_⟩
      simp only [mPn, he, hn, if_false]
      rw [(h.1 z sz hz2).2.2 k]
      cases hg : G z k with
      | none => rfl
      | some q =>
        have hq : q ≠ r := fun e => hG z k (by rw [hz2]; rfl) (by rw [hg, e])
        simp [hq]
  · by_cases he : z = r <;> by_cases he' : z' = r
    · intro _; rw [he, he']
    · have hz2 : Sh z' = some sz' := by simpa [mTn, he'] using hz'
      intro e
      simp [he, he'] at e
      exact absurd e.symm (ne z' sz' hz2)
    · have hz2 : Sh z = some sz := by simpa [mTn, he] using hz
      intro e
      simp [he, he'] at e
      exact absurd e (ne z sz hz2)
    · have hz2 : Sh z = some sz := by simpa [mTn, he] using hz
      have hz3 : Sh z' = some sz' := by simpa [mTn, he'] using hz'
      intro e
      simp [he, he'] at e
      exact h.2 z z' sz sz' hz2 hz3 e
def rJ (p : Program) (l : Launch) (e : Env) (R : Room) (s : State) (m : MethodId) (args : Array Value) (below : List Frame) (meth : Method) (c : Code) (D : va_G) (cl : List vw_C) (ty : Nat → Nat → FieldType) (b nL : Nat) (Z : State → Prop) (cells slots : Nat) (A : Nat → Nat) (Sh : mS) (S : mI) (G : mP) (lv : List (Nat × Value)) (pc : Nat) (st : List Value) : Prop :=
  ∀ (T : mT) (I : mI) (P : mP), rl A Sh S G T I P → mJ p l e R s m args below meth c D cl ty b nL Z cells slots T I P lv pc st
section RJ
variable {p : Program} {l : Launch} {e : Env} {R : Room} {s : State} {m : MethodId} {args : Array Value} {below : List Frame} {meth : Method} {c : Code}
variable {D : va_G} {cl : List vw_C} {ty : Nat → Nat → FieldType} {b nL : Nat} {Z : State → Prop} {cells slots : Nat} {A : Nat → Nat} {Sh : mS} {S : mI} {G : mP} {lv : List (Nat × Value)} {pc : Nat} {rest : List Value}
variable {cc : ByteArray} {own : String} {ret : Option FieldType} {TT : List Cond} {NN : State → Prop}
theorem rJ_lv {st : List Value} (lv' : List (Nat × Value)) (hs : lv'.map (fun q => lvg lv q.1) = lv'.map (fun q => some q.2)) (k : rJ p l e R s m args below meth c D cl ty b nL Z cells slots A Sh S G lv' pc st) : rJ p l e R s m args below meth c D cl ty b nL Z cells slots A Sh S G lv pc st := fun T I P h => mJ_lv lv' hs (k T I P h)
theorem rJ_wide {st : List Value} {k n : Nat} (h1 : cells ≤ k) (h2 : slots ≤ n) (kk : rJ p l e R s m args below meth c D cl ty b nL Z k n A Sh S G lv pc st) : rJ p l e R s m args below meth c D cl ty b nL Z cells slots A Sh S G lv pc st := fun T I P h => mJ_wide h1 h2 (kk T I P h)
theorem rJ_nS {st : List Value} (k : ∀ S' : mI, S' = S → rJ p l e R s m args below meth c D cl ty b nL Z cells slots A Sh S' G lv pc st) : rJ p l e R s m args below meth c D cl ty b nL Z cells slots A Sh S G lv pc st := k S rfl
theorem rJ_nG {st : List Value} (k : ∀ G' : mP, G' = G → rJ p l e R s m args below meth c D cl ty b nL Z cells slots A Sh S G' lv pc st) : rJ p l e R s m args below meth c D cl ty b nL Z cells slots A Sh S G lv pc st := k G rfl
theorem rJ_top {x : Int32} (k : ∀ y : Int32, y = x → rJ p l e R s m args below meth c D cl ty b nL Z cells slots A Sh S G lv pc (.int y :: rest)) : rJ p l e R s m args below meth c D cl ty b nL Z cells slots A Sh S G lv pc (.int x :: rest) := k x rfl
theorem rJ_as {x : Int32} (y : Int32) (hxy : x = y) (k : rJ p l e R s m args below meth c D cl ty b nL Z cells slots A Sh S G lv pc (.int y :: rest)) : rJ p l e R s m args below meth c D cl ty b nL Z cells slots A Sh S G lv pc (.int x :: rest) := hxy ▸ k
theorem rJ_iconst (X : mX p s m meth c args cc nL own ret TT NN D cl b) {n : Int} {v : Int32} (hd : decode cc pc = .ok (.iconst n, 1)) (hv : Int32.ofInt n = v) (k : rJ p l e R s m args below meth c D cl ty b nL Z cells slots A Sh S G lv (pc + 1) (.int v :: rest)) : rJ p l e R s m args below meth c D cl ty b nL Z cells slots A Sh S G lv pc (rest) := fun T I P h => mJ_iconst X hd hv (k T I P h)
theorem rJ_bipush (X : mX p s m meth c args cc nL own ret TT NN D cl b) {n : Int} {v : Int32} (hd : decode cc pc = .ok (.bipush n, 2)) (hv : (Int8.ofInt n).toInt32 = v) (k : rJ p l e R s m args below meth c D cl ty b nL Z cells slots A Sh S G lv (pc + 2) (.int v :: rest)) : rJ p l e R s m args below meth c D cl ty b nL Z cells slots A Sh S G lv pc (rest) := fun T I P h => mJ_bipush X hd hv (k T I P h)
theorem rJ_sipush (X : mX p s m meth c args cc nL own ret TT NN D cl b) {n : Int} {v : Int32} (hd : decode cc pc = .ok (.sipush n, 3)) (hv : (Int16.ofInt n).toInt32 = v) (k : rJ p l e R s m args below meth c D cl ty b nL Z cells slots A Sh S G lv (pc + 3) (.int v :: rest)) : rJ p l e R s m args below meth c D cl ty b nL Z cells slots A Sh S G lv pc (rest) := fun T I P h => mJ_sipush X hd hv (k T I P h)
theorem rJ_iload_n (X : mX p s m meth c args cc nL own ret TT NN D cl b) {k : Fin 4} {i : Nat} {x : Int32} (hd : decode cc pc = .ok (.iload_n k, 1)) (hi : (k : Nat) = i) (hl : lvg lv i = some (.int x)) (k : rJ p l e R s m args below meth c D cl ty b nL Z cells slots A Sh S G lv (pc + 1) (.int x :: rest)) : rJ p l e R s m args below meth c D cl ty b nL Z cells slots A Sh S G lv pc (rest) := fun T I P h => mJ_iload_n X hd hi hl (k T I P h)
theorem rJ_iload (X : mX p s m meth c args cc nL own ret TT NN D cl b) {i : Nat} {x : Int32} (hd : decode cc pc = .ok (.iload i, 2)) (hl : lvg lv i = some (.int x)) (k : rJ p l e R s m args below meth c D cl ty b nL Z cells slots A Sh S G lv (pc + 2) (.int x :: rest)) : rJ p l e R s m args below meth c D cl ty b nL Z cells slots A Sh S G lv pc (rest) := fun T I P h => mJ_iload X hd hl (k T I P h)
theorem rJ_aload_n (X : mX p s m meth c args cc nL own ret TT NN D cl b) {k : Fin 4} {i : Nat} {x : Nat} (hd : decode cc pc = .ok (.aload_n k, 1)) (hi : (k : Nat) = i) (hl : lvg lv i = some (.ref x)) (k : rJ p l e R s m args below meth c D cl ty b nL Z cells slots A Sh S G lv (pc + 1) (.ref x :: rest)) : rJ p l e R s m args below meth c D cl ty b nL Z cells slots A Sh S G lv pc (rest) := fun T I P h => mJ_aload_n X hd hi hl (k T I P h)
theorem rJ_aload (X : mX p s m meth c args cc nL own ret TT NN D cl b) {i : Nat} {x : Nat} (hd : decode cc pc = .ok (.aload i, 2)) (hl : lvg lv i = some (.ref x)) (k : rJ p l e R s m args below meth c D cl ty b nL Z cells slots A Sh S G lv (pc + 2) (.ref x :: rest)) : rJ p l e R s m args below meth c D cl ty b nL Z cells slots A Sh S G lv pc (rest) := fun T I P h => mJ_aload X hd hl (k T I P h)
theorem rJ_iadd (X : mX p s m meth c args cc nL own ret TT NN D cl b) {x y : Int32} (hd : decode cc pc = .ok (.iadd, 1))  (k : rJ p l e R s m args below meth c D cl ty b nL Z cells slots A Sh S G lv (pc + 1) (.int (x + y) :: rest)) : rJ p l e R s m args below meth c D cl ty b nL Z cells slots A Sh S G lv pc (.int y :: .int x :: rest) := fun T I P h => mJ_iadd X hd  (k T I P h)
theorem rJ_isub (X : mX p s m meth c args cc nL own ret TT NN D cl b) {x y : Int32} (hd : decode cc pc = .ok (.isub, 1))  (k : rJ p l e R s m args below meth c D cl ty b nL Z cells slots A Sh S G lv (pc + 1) (.int (x - y) :: rest)) : rJ p l e R s m args below meth c D cl ty b nL Z cells slots A Sh S G lv pc (.int y :: .int x :: rest) := fun T I P h => mJ_isub X hd  (k T I P h)
theorem rJ_imul (X : mX p s m meth c args cc nL own ret TT NN D cl b) {x y : Int32} (hd : decode cc pc = .ok (.imul, 1))  (k : rJ p l e R s m args below meth c D cl ty b nL Z cells slots A Sh S G lv (pc + 1) (.int (x * y) :: rest)) : rJ p l e R s m args below meth c D cl ty b nL Z cells slots A Sh S G lv pc (.int y :: .int x :: rest) := fun T I P h => mJ_imul X hd  (k T I P h)
theorem rJ_iand (X : mX p s m meth c args cc nL own ret TT NN D cl b) {x y : Int32} (hd : decode cc pc = .ok (.iand, 1))  (k : rJ p l e R s m args below meth c D cl ty b nL Z cells slots A Sh S G lv (pc + 1) (.int (x &&& y) :: rest)) : rJ p l e R s m args below meth c D cl ty b nL Z cells slots A Sh S G lv pc (.int y :: .int x :: rest) := fun T I P h => mJ_iand X hd  (k T I P h)
theorem rJ_ior (X : mX p s m meth c args cc nL own ret TT NN D cl b) {x y : Int32} (hd : decode cc pc = .ok (.ior, 1))  (k : rJ p l e R s m args below meth c D cl ty b nL Z cells slots A Sh S G lv (pc + 1) (.int (x ||| y) :: rest)) : rJ p l e R s m args below meth c D cl ty b nL Z cells slots A Sh S G lv pc (.int y :: .int x :: rest) := fun T I P h => mJ_ior X hd  (k T I P h)
theorem rJ_ixor (X : mX p s m meth c args cc nL own ret TT NN D cl b) {x y : Int32} (hd : decode cc pc = .ok (.ixor, 1))  (k : rJ p l e R s m args below meth c D cl ty b nL Z cells slots A Sh S G lv (pc + 1) (.int (x ^^^ y) :: rest)) : rJ p l e R s m args below meth c D cl ty b nL Z cells slots A Sh S G lv pc (.int y :: .int x :: rest) := fun T I P h => mJ_ixor X hd  (k T I P h)
theorem rJ_idiv (X : mX p s m meth c args cc nL own ret TT NN D cl b) {x y : Int32} (hd : decode cc pc = .ok (.idiv, 1)) (hne : ¬ y = 0) (k : rJ p l e R s m args below meth c D cl ty b nL Z cells slots A Sh S G lv (pc + 1) (.int (x / y) :: rest)) : rJ p l e R s m args below meth c D cl ty b nL Z cells slots A Sh S G lv pc (.int y :: .int x :: rest) := fun T I P h => mJ_idiv X hd hne (k T I P h)
theorem rJ_irem (X : mX p s m meth c args cc nL own ret TT NN D cl b) {x y : Int32} (hd : decode cc pc = .ok (.irem, 1)) (hne : ¬ y = 0) (k : rJ p l e R s m args below meth c D cl ty b nL Z cells slots A Sh S G lv (pc + 1) (.int (x - x / y * y) :: rest)) : rJ p l e R s m args below meth c D cl ty b nL Z cells slots A Sh S G lv pc (.int y :: .int x :: rest) := fun T I P h => mJ_irem X hd hne (k T I P h)
theorem rJ_ineg (X : mX p s m meth c args cc nL own ret TT NN D cl b) {x : Int32} (hd : decode cc pc = .ok (.ineg, 1))  (k : rJ p l e R s m args below meth c D cl ty b nL Z cells slots A Sh S G lv (pc + 1) (.int (-x) :: rest)) : rJ p l e R s m args below meth c D cl ty b nL Z cells slots A Sh S G lv pc (.int x :: rest) := fun T I P h => mJ_ineg X hd  (k T I P h)
theorem rJ_dup (X : mX p s m meth c args cc nL own ret TT NN D cl b) {va : Value} (hd : decode cc pc = .ok (.dup, 1)) (hva : va.category = 1) (k : rJ p l e R s m args below meth c D cl ty b nL Z cells slots A Sh S G lv (pc + 1) (va :: va :: rest)) : rJ p l e R s m args below meth c D cl ty b nL Z cells slots A Sh S G lv pc (va :: rest) := fun T I P h => mJ_dup X hd hva (k T I P h)
theorem rJ_pop (X : mX p s m meth c args cc nL own ret TT NN D cl b) {va : Value} (hd : decode cc pc = .ok (.pop, 1)) (hva : va.category = 1) (k : rJ p l e R s m args below meth c D cl ty b nL Z cells slots A Sh S G lv (pc + 1) (rest)) : rJ p l e R s m args below meth c D cl ty b nL Z cells slots A Sh S G lv pc (va :: rest) := fun T I P h => mJ_pop X hd hva (k T I P h)
theorem rJ_dup_x1 (X : mX p s m meth c args cc nL own ret TT NN D cl b) {va vb : Value} (hd : decode cc pc = .ok (.dup_x1, 1)) (hva : va.category = 1) (hvb : vb.category = 1) (k : rJ p l e R s m args below meth c D cl ty b nL Z cells slots A Sh S G lv (pc + 1) (va :: vb :: va :: rest)) : rJ p l e R s m args below meth c D cl ty b nL Z cells slots A Sh S G lv pc (va :: vb :: rest) := fun T I P h => mJ_dup_x1 X hd hva hvb (k T I P h)
theorem rJ_dup2 (X : mX p s m meth c args cc nL own ret TT NN D cl b) {va vb : Value} (hd : decode cc pc = .ok (.dup2, 1)) (hva : va.category = 1) (hvb : vb.category = 1) (k : rJ p l e R s m args below meth c D cl ty b nL Z cells slots A Sh S G lv (pc + 1) (va :: vb :: va :: vb :: rest)) : rJ p l e R s m args below meth c D cl ty b nL Z cells slots A Sh S G lv pc (va :: vb :: rest) := fun T I P h => mJ_dup2 X hd hva hvb (k T I P h)
theorem rJ_ldc (X : mX p s m meth c args cc nL own ret TT NN D cl b) {index : Nat} {v : Int32} (hd : decode cc pc = .ok (.ldc index, 2)) (hc : Jvm.Cond.constant own index v ∈ TT) (k : rJ p l e R s m args below meth c D cl ty b nL Z cells slots A Sh S G lv (pc + 2) (.int v :: rest)) : rJ p l e R s m args below meth c D cl ty b nL Z cells slots A Sh S G lv pc (rest) := fun T I P h => mJ_ldc X hd hc (k T I P h)
theorem rJ_istore_n (X : mX p s m meth c args cc nL own ret TT NN D cl b) {k : Fin 4} {i : Nat} {x : Int32} (hd : decode cc pc = .ok (.istore_n k, 1)) (hi : (k : Nat) = i) (hn : i < nL) (k : rJ p l e R s m args below meth c D cl ty b nL Z cells slots A Sh S G (lvs lv i (.int x)) (pc + 1) rest) : rJ p l e R s m args below meth c D cl ty b nL Z cells slots A Sh S G lv pc (.int x :: rest) := fun T I P h => mJ_istore_n X hd hi hn (k T I P h)
theorem rJ_istore (X : mX p s m meth c args cc nL own ret TT NN D cl b) {i : Nat} {x : Int32} (hd : decode cc pc = .ok (.istore i, 2)) (hn : i < nL) (k : rJ p l e R s m args below meth c D cl ty b nL Z cells slots A Sh S G (lvs lv i (.int x)) (pc + 2) rest) : rJ p l e R s m args below meth c D cl ty b nL Z cells slots A Sh S G lv pc (.int x :: rest) := fun T I P h => mJ_istore X hd hn (k T I P h)
theorem rJ_astore_n (X : mX p s m meth c args cc nL own ret TT NN D cl b) {k : Fin 4} {i : Nat} {x : Nat} (hd : decode cc pc = .ok (.astore_n k, 1)) (hi : (k : Nat) = i) (hn : i < nL) (k : rJ p l e R s m args below meth c D cl ty b nL Z cells slots A Sh S G (lvs lv i (.ref x)) (pc + 1) rest) : rJ p l e R s m args below meth c D cl ty b nL Z cells slots A Sh S G lv pc (.ref x :: rest) := fun T I P h => mJ_astore_n X hd hi hn (k T I P h)
theorem rJ_astore (X : mX p s m meth c args cc nL own ret TT NN D cl b) {i : Nat} {x : Nat} (hd : decode cc pc = .ok (.astore i, 2)) (hn : i < nL) (k : rJ p l e R s m args below meth c D cl ty b nL Z cells slots A Sh S G (lvs lv i (.ref x)) (pc + 2) rest) : rJ p l e R s m args below meth c D cl ty b nL Z cells slots A Sh S G lv pc (.ref x :: rest) := fun T I P h => mJ_astore X hd hn (k T I P h)
theorem rJ_iinc (X : mX p s m meth c args cc nL own ret TT NN D cl b) {i : Nat} {n : Int} {x v : Int32} (hd : decode cc pc = .ok (.iinc i n, 3)) (hl : lvg lv i = some (.int x)) (hv : x + Int32.ofInt n = v) (hn : i < nL) (k : rJ p l e R s m args below meth c D cl ty b nL Z cells slots A Sh S G (lvs lv i (.int v)) (pc + 3) rest) : rJ p l e R s m args below meth c D cl ty b nL Z cells slots A Sh S G lv pc rest := fun T I P h => mJ_iinc X hd hl hv hn (k T I P h)
theorem rJ_icmp_eq (X : mX p s m meth c args cc nL own ret TT NN D cl b) {x y : Int32} {off : Int} {tgt : Nat} (hd : decode cc pc = .ok (.if_icmp .eq off, 3)) (ht : (pc : Int) + off = (tgt : Int)) (kt : x = y → rJ p l e R s m args below meth c D cl ty b nL Z cells slots A Sh S G lv tgt rest) (kf : ¬ x = y → rJ p l e R s m args below meth c D cl ty b nL Z cells slots A Sh S G lv (pc + 3) rest) : rJ p l e R s m args below meth c D cl ty b nL Z cells slots A Sh S G lv pc (.int y :: .int x :: rest) := fun T I P h => mJ_icmp_eq X hd ht (fun q => kt q T I P h) (fun q => kf q T I P h)
theorem rJ_if_eq (X : mX p s m meth c args cc nL own ret TT NN D cl b) {x : Int32} {off : Int} {tgt : Nat} (hd : decode cc pc = .ok (.ifCond .eq off, 3)) (ht : (pc : Int) + off = (tgt : Int)) (kt : x = 0 → rJ p l e R s m args below meth c D cl ty b nL Z cells slots A Sh S G lv tgt rest) (kf : ¬ x = 0 → rJ p l e R s m args below meth c D cl ty b nL Z cells slots A Sh S G lv (pc + 3) rest) : rJ p l e R s m args below meth c D cl ty b nL Z cells slots A Sh S G lv pc (.int x :: rest) := fun T I P h => mJ_if_eq X hd ht (fun q => kt q T I P h) (fun q => kf q T I P h)
theorem rJ_icmp_ne (X : mX p s m meth c args cc nL own ret TT NN D cl b) {x y : Int32} {off : Int} {tgt : Nat} (hd : decode cc pc = .ok (.if_icmp .ne off, 3)) (ht : (pc : Int) + off = (tgt : Int)) (kt : ¬ x = y → rJ p l e R s m args below meth c D cl ty b nL Z cells slots A Sh S G lv tgt rest) (kf : x = y → rJ p l e R s m args below meth c D cl ty b nL Z cells slots A Sh S G lv (pc + 3) rest) : rJ p l e R s m args below meth c D cl ty b nL Z cells slots A Sh S G lv pc (.int y :: .int x :: rest) := fun T I P h => mJ_icmp_ne X hd ht (fun q => kt q T I P h) (fun q => kf q T I P h)
theorem rJ_if_ne (X : mX p s m meth c args cc nL own ret TT NN D cl b) {x : Int32} {off : Int} {tgt : Nat} (hd : decode cc pc = .ok (.ifCond .ne off, 3)) (ht : (pc : Int) + off = (tgt : Int)) (kt : ¬ x = 0 → rJ p l e R s m args below meth c D cl ty b nL Z cells slots A Sh S G lv tgt rest) (kf : x = 0 → rJ p l e R s m args below meth c D cl ty b nL Z cells slots A Sh S G lv (pc + 3) rest) : rJ p l e R s m args below meth c D cl ty b nL Z cells slots A Sh S G lv pc (.int x :: rest) := fun T I P h => mJ_if_ne X hd ht (fun q => kt q T I P h) (fun q => kf q T I P h)
theorem rJ_icmp_lt (X : mX p s m meth c args cc nL own ret TT NN D cl b) {x y : Int32} {off : Int} {tgt : Nat} (hd : decode cc pc = .ok (.if_icmp .lt off, 3)) (ht : (pc : Int) + off = (tgt : Int)) (kt : x < y → rJ p l e R s m args below meth c D cl ty b nL Z cells slots A Sh S G lv tgt rest) (kf : ¬ x < y → rJ p l e R s m args below meth c D cl ty b nL Z cells slots A Sh S G lv (pc + 3) rest) : rJ p l e R s m args below meth c D cl ty b nL Z cells slots A Sh S G lv pc (.int y :: .int x :: rest) := fun T I P h => mJ_icmp_lt X hd ht (fun q => kt q T I P h) (fun q => kf q T I P h)
theorem rJ_if_lt (X : mX p s m meth c args cc nL own ret TT NN D cl b) {x : Int32} {off : Int} {tgt : Nat} (hd : decode cc pc = .ok (.ifCond .lt off, 3)) (ht : (pc : Int) + off = (tgt : Int)) (kt : x < 0 → rJ p l e R s m args below meth c D cl ty b nL Z cells slots A Sh S G lv tgt rest) (kf : ¬ x < 0 → rJ p l e R s m args below meth c D cl ty b nL Z cells slots A Sh S G lv (pc + 3) rest) : rJ p l e R s m args below meth c D cl ty b nL Z cells slots A Sh S G lv pc (.int x :: rest) := fun T I P h => mJ_if_lt X hd ht (fun q => kt q T I P h) (fun q => kf q T I P h)
theorem rJ_icmp_ge (X : mX p s m meth c args cc nL own ret TT NN D cl b) {x y : Int32} {off : Int} {tgt : Nat} (hd : decode cc pc = .ok (.if_icmp .ge off, 3)) (ht : (pc : Int) + off = (tgt : Int)) (kt : y ≤ x → rJ p l e R s m args below meth c D cl ty b nL Z cells slots A Sh S G lv tgt rest) (kf : ¬ y ≤ x → rJ p l e R s m args below meth c D cl ty b nL Z cells slots A Sh S G lv (pc + 3) rest) : rJ p l e R s m args below meth c D cl ty b nL Z cells slots A Sh S G lv pc (.int y :: .int x :: rest) := fun T I P h => mJ_icmp_ge X hd ht (fun q => kt q T I P h) (fun q => kf q T I P h)
theorem rJ_if_ge (X : mX p s m meth c args cc nL own ret TT NN D cl b) {x : Int32} {off : Int} {tgt : Nat} (hd : decode cc pc = .ok (.ifCond .ge off, 3)) (ht : (pc : Int) + off = (tgt : Int)) (kt : 0 ≤ x → rJ p l e R s m args below meth c D cl ty b nL Z cells slots A Sh S G lv tgt rest) (kf : ¬ 0 ≤ x → rJ p l e R s m args below meth c D cl ty b nL Z cells slots A Sh S G lv (pc + 3) rest) : rJ p l e R s m args below meth c D cl ty b nL Z cells slots A Sh S G lv pc (.int x :: rest) := fun T I P h => mJ_if_ge X hd ht (fun q => kt q T I P h) (fun q => kf q T I P h)
theorem rJ_icmp_gt (X : mX p s m meth c args cc nL own ret TT NN D cl b) {x y : Int32} {off : Int} {tgt : Nat} (hd : decode cc pc = .ok (.if_icmp .gt off, 3)) (ht : (pc : Int) + off = (tgt : Int)) (kt : y < x → rJ p l e R s m args below meth c D cl ty b nL Z cells slots A Sh S G lv tgt rest) (kf : ¬ y < x → rJ p l e R s m args below meth c D cl ty b nL Z cells slots A Sh S G lv (pc + 3) rest) : rJ p l e R s m args below meth c D cl ty b nL Z cells slots A Sh S G lv pc (.int y :: .int x :: rest) := fun T I P h => mJ_icmp_gt X hd ht (fun q => kt q T I P h) (fun q => kf q T I P h)
theorem rJ_if_gt (X : mX p s m meth c args cc nL own ret TT NN D cl b) {x : Int32} {off : Int} {tgt : Nat} (hd : decode cc pc = .ok (.ifCond .gt off, 3)) (ht : (pc : Int) + off = (tgt : Int)) (kt : 0 < x → rJ p l e R s m args below meth c D cl ty b nL Z cells slots A Sh S G lv tgt rest) (kf : ¬ 0 < x → rJ p l e R s m args below meth c D cl ty b nL Z cells slots A Sh S G lv (pc + 3) rest) : rJ p l e R s m args below meth c D cl ty b nL Z cells slots A Sh S G lv pc (.int x :: rest) := fun T I P h => mJ_if_gt X hd ht (fun q => kt q T I P h) (fun q => kf q T I P h)
theorem rJ_icmp_le (X : mX p s m meth c args cc nL own ret TT NN D cl b) {x y : Int32} {off : Int} {tgt : Nat} (hd : decode cc pc = .ok (.if_icmp .le off, 3)) (ht : (pc : Int) + off = (tgt : Int)) (kt : x ≤ y → rJ p l e R s m args below meth c D cl ty b nL Z cells slots A Sh S G lv tgt rest) (kf : ¬ x ≤ y → rJ p l e R s m args below meth c D cl ty b nL Z cells slots A Sh S G lv (pc + 3) rest) : rJ p l e R s m args below meth c D cl ty b nL Z cells slots A Sh S G lv pc (.int y :: .int x :: rest) := fun T I P h => mJ_icmp_le X hd ht (fun q => kt q T I P h) (fun q => kf q T I P h)
theorem rJ_if_le (X : mX p s m meth c args cc nL own ret TT NN D cl b) {x : Int32} {off : Int} {tgt : Nat} (hd : decode cc pc = .ok (.ifCond .le off, 3)) (ht : (pc : Int) + off = (tgt : Int)) (kt : x ≤ 0 → rJ p l e R s m args below meth c D cl ty b nL Z cells slots A Sh S G lv tgt rest) (kf : ¬ x ≤ 0 → rJ p l e R s m args below meth c D cl ty b nL Z cells slots A Sh S G lv (pc + 3) rest) : rJ p l e R s m args below meth c D cl ty b nL Z cells slots A Sh S G lv pc (.int x :: rest) := fun T I P h => mJ_if_le X hd ht (fun q => kt q T I P h) (fun q => kf q T I P h)
theorem rJ_goto (X : mX p s m meth c args cc nL own ret TT NN D cl b) {off : Int} {tgt : Nat} (hd : decode cc pc = .ok (.goto off, 3)) (ht : (pc : Int) + off = (tgt : Int)) (k : rJ p l e R s m args below meth c D cl ty b nL Z cells slots A Sh S G lv tgt rest) : rJ p l e R s m args below meth c D cl ty b nL Z cells slots A Sh S G lv pc rest := fun T I P h => mJ_goto X hd ht (k T I P h)
theorem rJ_tabOut (X : mX p s m meth c args cc nL own ret TT NN D cl b) {dflt lo hi : Int} {offs : Array Int} {len : Nat} {x : Int32} {tgt : Nat} (hd : decode cc pc = .ok (.tableswitch dflt lo hi offs, len)) (hh : x.toInt < lo ∨ hi < x.toInt) (ht : (pc : Int) + dflt = (tgt : Int)) (k : rJ p l e R s m args below meth c D cl ty b nL Z cells slots A Sh S G lv tgt rest) : rJ p l e R s m args below meth c D cl ty b nL Z cells slots A Sh S G lv pc (.int x :: rest) := fun T I P h => mJ_tabOut X hd hh ht (k T I P h)
theorem rJ_tabIn (X : mX p s m meth c args cc nL own ret TT NN D cl b) {dflt lo hi : Int} {offs : Array Int} {len : Nat} {x : Int32} {off : Int} {tgt : Nat} (hd : decode cc pc = .ok (.tableswitch dflt lo hi offs, len)) (g1 : ¬ x.toInt < lo) (g2 : ¬ hi < x.toInt) (ho : offs[(x.toInt - lo).toNat]? = some off) (ht : (pc : Int) + off = (tgt : Int)) (k : rJ p l e R s m args below meth c D cl ty b nL Z cells slots A Sh S G lv tgt rest) : rJ p l e R s m args below meth c D cl ty b nL Z cells slots A Sh S G lv pc (.int x :: rest) := fun T I P h => mJ_tabIn X hd g1 g2 ho ht (k T I P h)
theorem rJ_lookup (X : mX p s m meth c args cc nL own ret TT NN D cl b) {dflt : Int} {ps : Array (Int × Int)} {len : Nat} {x : Int32} {off : Int} {tgt : Nat} (hd : decode cc pc = .ok (.lookupswitch dflt ps, len)) (hp : (ps.toList.zip (ps.toList.drop 1)).all (fun (a, next) => a.1 < next.1) = true) (ho : Op.lookupswitch.offset ps.toList dflt x.toInt = off) (ht : (pc : Int) + off = (tgt : Int)) (k : rJ p l e R s m args below meth c D cl ty b nL Z cells slots A Sh S G lv tgt rest) : rJ p l e R s m args below meth c D cl ty b nL Z cells slots A Sh S G lv pc (.int x :: rest) := fun T I P h => mJ_lookup X hd hp ho ht (k T I P h)
theorem rJ_getI (X : mX p s m meth c args cc nL own ret TT NN D cl b) {r ci k idx : Nat} (hf : mF cl ty TT own idx ci k 0) (hr : Sh r = some (0, ci, 0)) (hd : decode cc pc = .ok (.getfield idx, 3)) (kk : rJ p l e R s m args below meth c D cl ty b nL Z cells slots A Sh S G lv (pc + 3) (.int (S r k) :: rest)) : rJ p l e R s m args below meth c D cl ty b nL Z cells slots A Sh S G lv pc (.ref (A r) :: rest) := fun T I P h => mJ_getI X hf (h.sh hr) hd (by rw [h.num hr k]; exact kk T I P h)
theorem rJ_getR (X : mX p s m meth c args cc nL own ret TT NN D cl b) {r q ci k idx : Nat} (hf : mF cl ty TT own idx ci k 1) (hr : Sh r = some (0, ci, 0)) (hg : G r k = some q) (hd : decode cc pc = .ok (.getfield idx, 3)) (kk : rJ p l e R s m args below meth c D cl ty b nL Z cells slots A Sh S G lv (pc + 3) (.ref (A q) :: rest)) : rJ p l e R s m args below meth c D cl ty b nL Z cells slots A Sh S G lv pc (.ref (A r) :: rest) := fun T I P h => mJ_getR X hf (h.sh hr) (h.ptr hr hg) hd (kk T I P h)
theorem rJ_setI (X : mX p s m meth c args cc nL own ret TT NN D cl b) {r ci k idx : Nat} {v : Int32} (hf : mF cl ty TT own idx ci k 0) (hw : mFw cl own ci k ∨ meth.name = "<init>") (hr : Sh r = some (0, ci, 0)) (hn : narrow (ty ci k) (.int v) = .int v ∧ fits (ty ci k) (.int v) = true) (hd : decode cc pc = .ok (.putfield idx, 3)) (kk : ∀ S' : mI, S' = mu S r k v → rJ p l e R s m args below meth c D cl ty b nL Z cells slots A Sh S' G lv (pc + 3) rest) : rJ p l e R s m args below meth c D cl ty b nL Z cells slots A Sh S G lv pc (.int v :: .ref (A r) :: rest) := fun T I P h => mJ_setI X hf hw (h.sh hr) hn hd (fun I' e => by rw [e]; exact kk _ rfl T _ P (h.set hr k v))
theorem rJ_setR (X : mX p s m meth c args cc nL own ret TT NN D cl b) {r q ci k idx : Nat} (hf : mF cl ty TT own idx ci k 1) (hw : mFw cl own ci k ∨ meth.name = "<init>") (hr : Sh r = some (0, ci, 0)) (hd : decode cc pc = .ok (.putfield idx, 3)) (kk : ∀ G' : mP, G' = mu G r k (some q) → rJ p l e R s m args below meth c D cl ty b nL Z cells slots A Sh S G' lv (pc + 3) rest) : rJ p l e R s m args below meth c D cl ty b nL Z cells slots A Sh S G lv pc (.ref (A q) :: .ref (A r) :: rest) := fun T I P h => mJ_setR X hf hw (h.sh hr) hd (fun P' e => by rw [e]; exact kk _ rfl T I _ (h.setP hr k q))
theorem rJ_iald (X : mX p s m meth c args cc nL own ret TT NN D cl b) {r n : Nat} {i : Int32} (hr : Sh r = some (1, 0, n)) (hin : vp_in i n) (hd : decode cc pc = .ok (.iaload, 1)) (kk : rJ p l e R s m args below meth c D cl ty b nL Z cells slots A Sh S G lv (pc + 1) (.int (S r i.toNatClampNeg) :: rest)) : rJ p l e R s m args below meth c D cl ty b nL Z cells slots A Sh S G lv pc (.int i :: .ref (A r) :: rest) := fun T I P h => mJ_iald X (h.sh hr) hin hd (by rw [h.num hr]; exact kk T I P h)
theorem rJ_zald (X : mX p s m meth c args cc nL own ret TT NN D cl b) {r n : Nat} {i : Int32} (hr : Sh r = some (2, 0, n)) (hin : vp_in i n) (hd : decode cc pc = .ok (.baload, 1)) (kk : rJ p l e R s m args below meth c D cl ty b nL Z cells slots A Sh S G lv (pc + 1) (.int (S r i.toNatClampNeg) :: rest)) : rJ p l e R s m args below meth c D cl ty b nL Z cells slots A Sh S G lv pc (.int i :: .ref (A r) :: rest) := fun T I P h => mJ_zald X (h.sh hr) hin hd (by rw [h.num hr]; exact kk T I P h)
theorem rJ_iast (X : mX p s m meth c args cc nL own ret TT NN D cl b) {r n : Nat} {i x : Int32} (hr : Sh r = some (1, 0, n)) (hin : vp_in i n) (hd : decode cc pc = .ok (.iastore, 1)) (kk : ∀ S' : mI, S' = mu S r i.toNatClampNeg x → rJ p l e R s m args below meth c D cl ty b nL Z cells slots A Sh S' G lv (pc + 1) rest) : rJ p l e R s m args below meth c D cl ty b nL Z cells slots A Sh S G lv pc (.int x :: .int i :: .ref (A r) :: rest) := fun T I P h => mJ_iast X (h.sh hr) hin hd (fun I' e => by rw [e]; exact kk _ rfl T _ P (h.set hr _ x))
theorem rJ_zast (X : mX p s m meth c args cc nL own ret TT NN D cl b) {r n : Nat} {i x : Int32} (hr : Sh r = some (2, 0, n)) (hin : vp_in i n) (hx : vp_nar .boolean x = x) (hd : decode cc pc = .ok (.bastore, 1)) (kk : ∀ S' : mI, S' = mu S r i.toNatClampNeg x → rJ p l e R s m args below meth c D cl ty b nL Z cells slots A Sh S' G lv (pc + 1) rest) : rJ p l e R s m args below meth c D cl ty b nL Z cells slots A Sh S G lv pc (.int x :: .int i :: .ref (A r) :: rest) := fun T I P h => mJ_zast X (h.sh hr) hin hx hd (fun I' e => by rw [e]; exact kk _ rfl T _ P (h.set hr _ x))
theorem rJ_aald (X : mX p s m meth c args cc nL own ret TT NN D cl b) {r j n q : Nat} {i : Int32} (hr : Sh r = some (j + 3, 0, n)) (hin : vp_in i n) (hg : G r i.toNatClampNeg = some q) (hd : decode cc pc = .ok (.aaload, 1)) (kk : rJ p l e R s m args below meth c D cl ty b nL Z cells slots A Sh S G lv (pc + 1) (.ref (A q) :: rest)) : rJ p l e R s m args below meth c D cl ty b nL Z cells slots A Sh S G lv pc (.int i :: .ref (A r) :: rest) := fun T I P h => mJ_aald X (h.sh hr) hin (h.ptr hr hg) hd (kk T I P h)
theorem rJ_aast (X : mX p s m meth c args cc nL own ret TT NN D cl b) {r j n q : Nat} {i : Int32} (hr : Sh r = some (j + 3, 0, n)) (hq : Sh q = some (0, j, 0)) (hin : vp_in i n) (hd : decode cc pc = .ok (.aastore, 1)) (kk : ∀ G' : mP, G' = mu G r i.toNatClampNeg (some q) → rJ p l e R s m args below meth c D cl ty b nL Z cells slots A Sh S G' lv (pc + 1) rest) : rJ p l e R s m args below meth c D cl ty b nL Z cells slots A Sh S G lv pc (.ref (A q) :: .int i :: .ref (A r) :: rest) := fun T I P h => mJ_aast X (h.sh hr) (h.sh hq) hin hd (fun P' e => by rw [e]; exact kk _ rfl T I _ (h.setP hr _ q))
theorem rJ_alen (X : mX p s m meth c args cc nL own ret TT NN D cl b) {r n : Nat} {v : Int32} (hr : Sh r = some (1, 0, n)) (hv : Int32.ofNat n = v) (hd : decode cc pc = .ok (.arraylength, 1)) (kk : rJ p l e R s m args below meth c D cl ty b nL Z cells slots A Sh S G lv (pc + 1) (.int v :: rest)) : rJ p l e R s m args below meth c D cl ty b nL Z cells slots A Sh S G lv pc (.ref (A r) :: rest) := fun T I P h => mJ_alen X (h.sh hr) hv hd (kk T I P h)
theorem rJ_copy (X : mX p s m meth c args cc nL own ret TT NN D cl b) {idx r0 r n0 n1 : Nat} (hl : Cond.methodLink own idx arraycopyName ∈ TT) (hnat : Cond.native arraycopyName ∈ TT) (hstat : Cond.static arraycopyName ∈ TT) (hini : Cond.initialized "java/lang/System" ∈ TT) (hr0 : Sh r0 = some (1, 0, n0)) (hr : Sh r = some (1, 0, n1)) {sp dp n : Int32} (h1 : ¬ sp < 0) (h2 : ¬ dp < 0) (h3 : ¬ n < 0) (h4 : sp.toNatClampNeg + n.toNatClampNeg ≤ n0) (h5 : dp.toNatClampNeg + n.toNatClampNeg ≤ n1) (hframes : 1 ≤ R.frames) (hlocals : (rest.map fun v => v.category).sum + (nativeFrameWords "java/lang/System" "arraycopy" 5 + 11) ≤ R.locals) (hd : decode cc pc = .ok (.invokestatic idx, 3))
    (kk : ∀ S' : mI, S' = (fun x => if x = r then va_cpy (S r0) (S r) sp.toNatClampNeg dp.toNatClampNeg n.toNatClampNeg else S x) → rJ p l e R s m args below meth c D cl ty b nL Z cells slots A Sh S' G lv (pc + 3) rest) : rJ p l e R s m args below meth c D cl ty b nL Z cells slots A Sh S G lv pc (.int n :: .int dp :: .ref (A r) :: .int sp :: .ref (A r0) :: rest) := fun T I P h => mJ_copy X hl hnat hstat hini (h.sh hr0) (h.sh hr) h1 h2 h3 h4 h5 hframes hlocals hd (fun I' e => by
      have e0 : I (A r0) = S r0 := (h.1 r0 _ hr0).2.1
      have e1 : I (A r) = S r := (h.1 r _ hr).2.1
      rw [e, e0, e1]
      exact kk _ rfl T _ P (h.row hr _))
theorem rJ_objInit (X : mX p s m meth c args cc nL own ret TT NN D cl b) {idx a : Nat} (hl : Cond.methodLink own idx Lib.objectInit ∈ TT) (hin : Cond.instanceMethod Lib.objectInit ∈ TT) (hco : Cond.code Lib.objectInit ⟨#[0xb1]⟩ 1 none ∈ TT) (hd : decode cc pc = .ok (.invokespecial idx, 3)) (hfr : 1 ≤ R.frames) (hlo : (rest.map fun v => v.category).sum + 12 ≤ R.locals) (k : rJ p l e R s m args below meth c D cl ty b nL Z cells slots A Sh S G lv (pc + 3) rest) : rJ p l e R s m args below meth c D cl ty b nL Z cells slots A Sh S G lv pc (.ref a :: rest) := fun T I P h => mJ_objInit X hl hin hco hd hfr hlo (k T I P h)
end RJ
/-- a contract over labels -/
abbrev rP : Type := Option Value → (Nat → Nat) → mS → mI → mP → Prop
def rPost (post : rP) : Option Value → mT → mI → mP → Prop := fun v T' I' P' => ∃ A' Sh' S' G', post v A' Sh' S' G' ∧ rl A' Sh' S' G' T' I' P'
def rMet (l : Launch) (D : va_G) (b : Nat) (y : MethodName) (bytes : ByteArray) (maxL : Nat) (ret : Option FieldType) (rm : Room) (A : Nat → Nat) (Sh : mS) (S : mI) (G : mP) (av : List Value) (post : rP) : Prop :=
  ∀ (T : mT) (I : mI) (P : mP), rl A Sh S G T I P → mMet l D vwCl mty b TT NN y bytes maxL ret rm T I P av (rPost post)
abbrev rPi (A : Nat → Nat) (Sh : mS) (r : Int32) (S2 : mI) (G2 : mP) : rP := fun v A' Sh' S' G' => v = some (.int r) ∧ A' = A ∧ Sh' = Sh ∧ S' = S2 ∧ G' = G2
abbrev rPr (A : Nat → Nat) (Sh : mS) (r : Nat) (S2 : mI) (G2 : mP) : rP := fun v A' Sh' S' G' => v = some (.ref (A r)) ∧ A' = A ∧ Sh' = Sh ∧ S' = S2 ∧ G' = G2
abbrev rPv (A : Nat → Nat) (Sh : mS) (S2 : mI) (G2 : mP) : rP := fun v A' Sh' S' G' => v = none ∧ A' = A ∧ Sh' = Sh ∧ S' = S2 ∧ G' = G2
section RK
variable {p : Program} {l : Launch} {e : Env} {R : Room} {s : State} {m : MethodId} {args : Array Value} {below : List Frame} {meth : Method} {c : Code}
variable {D : va_G} {b nL : Nat} {Z : State → Prop} {cells slots : Nat} {A : Nat → Nat} {Sh : mS} {S : mI} {G : mP} {lv : List (Nat × Value)} {pc : Nat} {rest : List Value}
variable {cc : ByteArray} {own : String} {ret : Option FieldType}
theorem rMet_of {y : MethodName} {bytes : ByteArray} {maxL : Nat} {ret : Option FieldType} {rm : Room} {av : List Value} {post : rP} (own : String) (hown : y.cls = own) (hy : plainName y.cls = true) (hav : (lg_sl av).length ≤ maxL)
    (body : ∀ p e s m args below meth c, mX p s m meth c args bytes maxL own ret TT NN D vwCl b → meth.name = y.name → rJ p l e rm s m args below meth c D vwCl mty b maxL (MQ below (mPost D vwCl mty b (rPost post)) args s rm.cells rm.slots (fun q => b ≤ q)) 0 0 A Sh S G (lv_args 0 av) 0 []) : rMet l D b y bytes maxL ret rm A Sh S G av post :=
  fun T I P h => mMet_of own hown hy TT_good NN_w hav (fun p e s m args below meth c X hn => body p e s m args below meth c X hn T I P h)
theorem rJ_iret (X : mX p s m meth c args cc nL own (some .int) TT NN D vwCl b) {post : rP} {v : Int32} (hd : decode cc pc = .ok (.ireturn, 1)) (hp : post (some (.int v)) A Sh S G) : rJ p l e R s m args below meth c D vwCl mty b nL (MQ below (mPost D vwCl mty b (rPost post)) args s cells slots (fun q => b ≤ q)) cells slots A Sh S G lv pc [.int v] := fun T I P h => mJ_iret X hd ⟨A, Sh, S, G, hp, h⟩
theorem rJ_zret (X : mX p s m meth c args cc nL own (some .boolean) TT NN D vwCl b) {post : rP} {v : Int32} (hd : decode cc pc = .ok (.ireturn, 1)) (hn : narrow .boolean (.int v) = .int v) (hp : post (some (.int v)) A Sh S G) : rJ p l e R s m args below meth c D vwCl mty b nL (MQ below (mPost D vwCl mty b (rPost post)) args s cells slots (fun q => b ≤ q)) cells slots A Sh S G lv pc [.int v] := fun T I P h => mJ_zret X hd hn ⟨A, Sh, S, G, hp, h⟩
theorem rJ_cret (X : mX p s m meth c args cc nL own (some .char) TT NN D vwCl b) {post : rP} {v : Int32} (hd : decode cc pc = .ok (.ireturn, 1)) (hn : narrow .char (.int v) = .int v) (hp : post (some (.int v)) A Sh S G) : rJ p l e R s m args below meth c D vwCl mty b nL (MQ below (mPost D vwCl mty b (rPost post)) args s cells slots (fun q => b ≤ q)) cells slots A Sh S G lv pc [.int v] := fun T I P h => mJ_cret X hd hn ⟨A, Sh, S, G, hp, h⟩
theorem rJ_vret (X : mX p s m meth c args cc nL own none TT NN D vwCl b) {post : rP} (hd : decode cc pc = .ok (.return_, 1)) (hp : post none A Sh S G) : rJ p l e R s m args below meth c D vwCl mty b nL (MQ below (mPost D vwCl mty b (rPost post)) args s cells slots (fun q => b ≤ q)) cells slots A Sh S G lv pc [] := fun T I P h => mJ_vret X hd ⟨A, Sh, S, G, hp, h⟩
theorem rJ_aret {rt : FieldType} (X : mX p s m meth c args cc nL own (some rt) TT NN D vwCl b) (hrt : (∃ n, rt = .object n) ∨ ∃ t, rt = .array t) {post : rP} {r : Nat} (hd : decode cc pc = .ok (.areturn, 1)) (hp : post (some (.ref (A r))) A Sh S G) : rJ p l e R s m args below meth c D vwCl mty b nL (MQ below (mPost D vwCl mty b (rPost post)) args s cells slots (fun q => b ≤ q)) cells slots A Sh S G lv pc [.ref (A r)] := fun T I P h => mJ_aret X hrt hd ⟨A, Sh, S, G, hp, h⟩
theorem rJ_callV (X : mX p s m meth c args cc nL own ret TT NN D vwCl b) {y : MethodName} {bytes : ByteArray} {maxL n idx r ci : Nat} {ry : Option FieldType} {rm : Room} {As : List Value} {post : rP} (hg : mG vwCl TT own idx y bytes maxL ry n ci) (hM : rMet l D b y bytes maxL ry rm A Sh S G (.ref (A r) :: As) post) (hr : Sh r = some (0, ci, 0)) (hn : As.length = n) {st0 : List Value} (hst : st0 = As.reverse ++ .ref (A r) :: rest) (hW : (rest.map fun v => v.category).sum ≤ 8) (hR : rm.frames + 1 ≤ R.frames ∧ 8 + (maxL + 11) + rm.locals ≤ R.locals) (hf : cells + rm.cells ≤ R.cells ∧ slots + rm.slots ≤ R.slots) (hd : decode cc pc = .ok (.invokevirtual idx, 3)) (kk : ∀ (v : Option Value) (A' : Nat → Nat) (Sh' : mS) (S' : mI) (G' : mP), post v A' Sh' S' G' → rJ p l e R s m args below meth c D vwCl mty b nL Z (cells + rm.cells) (slots + rm.slots) A' Sh' S' G' lv (pc + 3) (v.toList ++ rest)) : rJ p l e R s m args below meth c D vwCl mty b nL Z cells slots A Sh S G lv pc st0 := fun T I P h => by
  obtain ⟨h1, ⟨F, N, h2⟩, h3, h4, h5⟩ := hg
  exact mJ_callV X (hM T I P h) h1 h2 (h.sh hr) h3 h4 h5 hn hst hW hR hf hd (fun v T' I' P' hp => by obtain ⟨A', Sh', S', G', hp, hl⟩ := hp; exact kk v A' Sh' S' G' hp T' I' P' hl)
theorem rJ_callI (X : mX p s m meth c args cc nL own ret TT NN D vwCl b) {y : MethodName} {bytes : ByteArray} {maxL n idx a : Nat} {rm : Room} {As : List Value} {post : rP} (hy : mMe TT y bytes maxL none n) (hl : Cond.methodLink own idx y ∈ TT) (hin : Cond.instanceMethod y ∈ TT) (hnm : y.name = "<init>") (hM : rMet l D b y bytes maxL none rm A Sh S G (.ref a :: As) post) (hn : As.length = n) {st0 : List Value} (hst : st0 = As.reverse ++ .ref a :: rest) (hW : (rest.map fun v => v.category).sum ≤ 8) (hR : rm.frames + 1 ≤ R.frames ∧ 8 + (maxL + 11) + rm.locals ≤ R.locals) (hf : cells + rm.cells ≤ R.cells ∧ slots + rm.slots ≤ R.slots) (hd : decode cc pc = .ok (.invokespecial idx, 3)) (kk : ∀ (v : Option Value) (A' : Nat → Nat) (Sh' : mS) (S' : mI) (G' : mP), post v A' Sh' S' G' → rJ p l e R s m args below meth c D vwCl mty b nL Z (cells + rm.cells) (slots + rm.slots) A' Sh' S' G' lv (pc + 3) (v.toList ++ rest)) : rJ p l e R s m args below meth c D vwCl mty b nL Z cells slots A Sh S G lv pc st0 := fun T I P h =>
  mJ_callI X (hM T I P h) hy hl hin hnm hn hst hW hR hf hd (fun v T' I' P' hp => by obtain ⟨A', Sh', S', G', hp, hl⟩ := hp; exact kk v A' Sh' S' G' hp T' I' P' hl)
theorem rJ_callIN (X : mX p s m meth c args cc nL own ret TT NN D vwCl b) {y : MethodName} {bytes : ByteArray} {maxL n idx a : Nat} {host : String} {rm : Room} {As : List Value} {post : rP} (hy : mMe TT y bytes maxL none n) (hl : ∀ U : State, NN U → va_Nw (.methodLinkNest own idx y host) U) (hin : Cond.instanceMethod y ∈ TT) (hnm : y.name = "<init>") (hM : rMet l D b y bytes maxL none rm A Sh S G (.ref a :: As) post) (hn : As.length = n) {st0 : List Value} (hst : st0 = As.reverse ++ .ref a :: rest) (hW : (rest.map fun v => v.category).sum ≤ 8) (hR : rm.frames + 1 ≤ R.frames ∧ 8 + (maxL + 11) + rm.locals ≤ R.locals) (hf : cells + rm.cells ≤ R.cells ∧ slots + rm.slots ≤ R.slots) (hd : decode cc pc = .ok (.invokespecial idx, 3)) (kk : ∀ (v : Option Value) (A' : Nat → Nat) (Sh' : mS) (S' : mI) (G' : mP), post v A' Sh' S' G' → rJ p l e R s m args below meth c D vwCl mty b nL Z (cells + rm.cells) (slots + rm.slots) A' Sh' S' G' lv (pc + 3) (v.toList ++ rest)) : rJ p l e R s m args below meth c D vwCl mty b nL Z cells slots A Sh S G lv pc st0 := fun T I P h =>
  mJ_callIN X (hM T I P h) hy (hl s X.2.2.2.2.2.2.2.2.2.1) hin hnm hn hst hW hR hf hd (fun v T' I' P' hp => by obtain ⟨A', Sh', S', G', hp, hl⟩ := hp; exact kk v A' Sh' S' G' hp T' I' P' hl)
theorem rJ_new (X : mX p s m meth c args cc nL own ret TT NN D vwCl b) {ci idx : Nat} {C : String} {F : u_T} {N : Nat} (r : Nat) (hC : mCl vwCl mty TT ci C F N) (hcl : Cond.classLink own idx C ∈ TT) (hinst : Cond.instantiable C N ∈ TT) (hini : Cond.initialized C ∈ TT) (hdef : ∀ j, j < N → defaultValue (mty ci j) = mv (mty ci j) 0 none) (hcells : cells + 1 ≤ R.cells) (hslots : slots + N ≤ R.slots) (hd : decode cc pc = .ok (.new idx, 3)) (hr : Sh r = none) (hG : ∀ z k, (Sh z).isSome = true → G z k ≠ some r)
    (kk : ∀ (a : Nat) (A' : Nat → Nat), A' = (fun x => if x = r then a else A x) → b ≤ a → rJ p l e R s m args below meth c D vwCl mty b nL Z (cells + 1) (slots + N) A' (mTn Sh r (0, ci, 0)) (mIn S r) (mPn G r) lv (pc + 3) (.ref (A' r) :: rest)) : rJ p l e R s m args below meth c D vwCl mty b nL Z cells slots A Sh S G lv pc rest := fun T I P h => by
  refine mJ_new X hC hcl hinst hini hdef hcells hslots hd (fun q hq hb => ?_)
  have := kk q _ rfl hb _ _ _ (h.new r q (0, ci, 0) hr hq hG)
  simpa using this
theorem rJ_newa (X : mX p s m meth c args cc nL own ret TT NN D vwCl b) {n : Int32} {N : Nat} (r : Nat) (hn : ¬ n < 0) (hN : n.toNatClampNeg = N) (hbytes : N * componentBytes .int ≤ 536870912) (hcells : cells + 1 ≤ R.cells) (hslots : slots + N ≤ R.slots) (hd : decode cc pc = .ok (.newarray .int, 2)) (hr : Sh r = none) (hG : ∀ z k, (Sh z).isSome = true → G z k ≠ some r)
    (kk : ∀ (a : Nat) (A' : Nat → Nat), A' = (fun x => if x = r then a else A x) → b ≤ a → rJ p l e R s m args below meth c D vwCl mty b nL Z (cells + 1) (slots + N) A' (mTn Sh r (1, 0, N)) (mIn S r) (mPn G r) lv (pc + 2) (.ref (A' r) :: rest)) : rJ p l e R s m args below meth c D vwCl mty b nL Z cells slots A Sh S G lv pc (.int n :: rest) := fun T I P h => by
  refine mJ_newa X rfl kAI hn hN hbytes hcells hslots hd (fun q hq hb => ?_)
  have := kk q _ rfl hb _ _ _ (h.new r q (1, 0, N) hr hq hG)
  simpa using this
theorem rJ_newz (X : mX p s m meth c args cc nL own ret TT NN D vwCl b) {n : Int32} {N : Nat} (r : Nat) (hn : ¬ n < 0) (hN : n.toNatClampNeg = N) (hbytes : N * componentBytes .boolean ≤ 536870912) (hcells : cells + 1 ≤ R.cells) (hslots : slots + N ≤ R.slots) (hd : decode cc pc = .ok (.newarray .boolean, 2)) (hr : Sh r = none) (hG : ∀ z k, (Sh z).isSome = true → G z k ≠ some r)
    (kk : ∀ (a : Nat) (A' : Nat → Nat), A' = (fun x => if x = r then a else A x) → b ≤ a → rJ p l e R s m args below meth c D vwCl mty b nL Z (cells + 1) (slots + N) A' (mTn Sh r (2, 0, N)) (mIn S r) (mPn G r) lv (pc + 2) (.ref (A' r) :: rest)) : rJ p l e R s m args below meth c D vwCl mty b nL Z cells slots A Sh S G lv pc (.int n :: rest) := fun T I P h => by
  refine mJ_newz X rfl kAZ hn hN hbytes hcells hslots hd (fun q hq hb => ?_)
  have := kk q _ rfl hb _ _ _ (h.new r q (2, 0, N) hr hq hG)
  simpa using this
theorem rJ_newq (X : mX p s m meth c args cc nL own ret TT NN D vwCl b) {n : Int32} {N j idx : Nat} {q0 : vw_C} (r : Nat) (hc : vwCl[j]? = some q0) (hcl : Cond.classLink own idx q0.1 ∈ TT) (hov : ∀ U : State, NN U → va_AO q0.1 U) (hn : ¬ n < 0) (hN : n.toNatClampNeg = N) (hbytes : N * 4 ≤ 536870912) (hcells : cells + 1 ≤ R.cells) (hslots : slots + N ≤ R.slots) (hd : decode cc pc = .ok (.anewarray idx, 3)) (hr : Sh r = none) (hG : ∀ z k, (Sh z).isSome = true → G z k ≠ some r)
    (kk : ∀ (a : Nat) (A' : Nat → Nat), A' = (fun x => if x = r then a else A x) → b ≤ a → rJ p l e R s m args below meth c D vwCl mty b nL Z (cells + 1) (slots + N) A' (mTn Sh r (j + 3, 0, N)) (mIn S r) (mPn G r) lv (pc + 3) (.ref (A' r) :: rest)) : rJ p l e R s m args below meth c D vwCl mty b nL Z cells slots A Sh S G lv pc (.int n :: rest) := fun T I P h => by
  refine mJ_newq X hc hcl (va_AO.use (hov s X.2.2.2.2.2.2.2.2.2.1)) hn hN hbytes hcells hslots hd (fun q hq hb => ?_)
  have := kk q _ rfl hb _ _ _ (h.new r q (j + 3, 0, N) hr hq hG)
  simpa using this
theorem rJ_Vi0 (X : mX p s m meth c args cc nL own ret TT NN D vwCl b) {y : MethodName} {bytes : ByteArray} {maxL idx r ci k : Nat} {ry : Option FieldType} {w : Int32} {S2 : mI} {G2 : mP} (hg : mG vwCl TT own idx y bytes maxL ry 0 ci) (hM : rMet l D b y bytes maxL ry (mR k) A Sh S G [.ref (A r)] (rPi A Sh w S2 G2)) (hr : Sh r = some (0, ci, 0)) (hd : decode cc pc = .ok (.invokevirtual idx, 3)) (hR : k + 1 ≤ R.frames ∧ 8 + (maxL + 11) + 33 * k ≤ R.locals) (hW : (rest.map fun v => v.category).sum ≤ 8) (hcs : cells ≤ R.cells ∧ slots ≤ R.slots) (kk : rJ p l e R s m args below meth c D vwCl mty b nL Z cells slots A Sh S2 G2 lv (pc + 3) (.int w :: rest)) : rJ p l e R s m args below meth c D vwCl mty b nL Z cells slots A Sh S G lv pc (.ref (A r) :: rest) := fun T I P h => by
  obtain ⟨h1, ⟨F, N, h2⟩, h3, h4, h5⟩ := hg
  exact mJ_callV X (As := []) (hM T I P h) h1 h2 (h.sh hr) h3 h4 h5 rfl rfl hW hR hcs hd (fun v T' I' P' hp => by obtain ⟨A', Sh', S', G', ⟨rfl, rfl, rfl, rfl, rfl⟩, hl⟩ := hp; exact kk T' I' P' hl)
theorem rJ_Si0 (X : mX p s m meth c args cc nL own ret TT NN D vwCl b) {y : MethodName} {bytes : ByteArray} {maxL idx k : Nat} {ry : Option FieldType} {w : Int32} {S2 : mI} {G2 : mP} (hg : mGS TT own idx y bytes maxL ry 0) (hM : rMet l D b y bytes maxL ry (mR k) A Sh S G [] (rPi A Sh w S2 G2)) (hd : decode cc pc = .ok (.invokestatic idx, 3)) (hR : k + 1 ≤ R.frames ∧ 8 + (maxL + 11) + 33 * k ≤ R.locals) (hW : (rest.map fun v => v.category).sum ≤ 8) (hcs : cells ≤ R.cells ∧ slots ≤ R.slots) (kk : rJ p l e R s m args below meth c D vwCl mty b nL Z cells slots A Sh S2 G2 lv (pc + 3) (.int w :: rest)) : rJ p l e R s m args below meth c D vwCl mty b nL Z cells slots A Sh S G lv pc (rest) := fun T I P h => by
  obtain ⟨h1, h3, h4⟩ := hg
  exact mJ_callS X (As := []) (hM T I P h) h1 h3 h4 rfl rfl hW hR hcs hd (fun v T' I' P' hp => by obtain ⟨A', Sh', S', G', ⟨rfl, rfl, rfl, rfl, rfl⟩, hl⟩ := hp; exact kk T' I' P' hl)
theorem rJ_Ni0 (X : mX p s m meth c args cc nL own ret TT NN D vwCl b) {y : MethodName} {bytes : ByteArray} {maxL idx k : Nat} {host : String} {ry : Option FieldType} {w : Int32} {S2 : mI} {G2 : mP} (hg : mGN TT NN own idx y host bytes maxL ry 0) (hM : rMet l D b y bytes maxL ry (mR k) A Sh S G [] (rPi A Sh w S2 G2)) (hd : decode cc pc = .ok (.invokestatic idx, 3)) (hR : k + 1 ≤ R.frames ∧ 8 + (maxL + 11) + 33 * k ≤ R.locals) (hW : (rest.map fun v => v.category).sum ≤ 8) (hcs : cells ≤ R.cells ∧ slots ≤ R.slots) (kk : rJ p l e R s m args below meth c D vwCl mty b nL Z cells slots A Sh S2 G2 lv (pc + 3) (.int w :: rest)) : rJ p l e R s m args below meth c D vwCl mty b nL Z cells slots A Sh S G lv pc (rest) := fun T I P h => by
  obtain ⟨h1, h3, h4⟩ := hg
  exact mJ_callSN X (As := []) (hM T I P h) h1 (h3 s X.2.2.2.2.2.2.2.2.2.1) h4 rfl rfl hW hR hcs hd (fun v T' I' P' hp => by obtain ⟨A', Sh', S', G', ⟨rfl, rfl, rfl, rfl, rfl⟩, hl⟩ := hp; exact kk T' I' P' hl)
theorem rJ_Vr0 (X : mX p s m meth c args cc nL own ret TT NN D vwCl b) {y : MethodName} {bytes : ByteArray} {maxL idx r ci k : Nat} {ry : Option FieldType} {w : Nat} {S2 : mI} {G2 : mP} (hg : mG vwCl TT own idx y bytes maxL ry 0 ci) (hM : rMet l D b y bytes maxL ry (mR k) A Sh S G [.ref (A r)] (rPr A Sh w S2 G2)) (hr : Sh r = some (0, ci, 0)) (hd : decode cc pc = .ok (.invokevirtual idx, 3)) (hR : k + 1 ≤ R.frames ∧ 8 + (maxL + 11) + 33 * k ≤ R.locals) (hW : (rest.map fun v => v.category).sum ≤ 8) (hcs : cells ≤ R.cells ∧ slots ≤ R.slots) (kk : rJ p l e R s m args below meth c D vwCl mty b nL Z cells slots A Sh S2 G2 lv (pc + 3) (.ref (A w) :: rest)) : rJ p l e R s m args below meth c D vwCl mty b nL Z cells slots A Sh S G lv pc (.ref (A r) :: rest) := fun T I P h => by
  obtain ⟨h1, ⟨F, N, h2⟩, h3, h4, h5⟩ := hg
  exact mJ_callV X (As := []) (hM T I P h) h1 h2 (h.sh hr) h3 h4 h5 rfl rfl hW hR hcs hd (fun v T' I' P' hp => by obtain ⟨A', Sh', S', G', ⟨rfl, rfl, rfl, rfl, rfl⟩, hl⟩ := hp; exact kk T' I' P' hl)
theorem rJ_Vv0 (X : mX p s m meth c args cc nL own ret TT NN D vwCl b) {y : MethodName} {bytes : ByteArray} {maxL idx r ci k : Nat} {ry : Option FieldType} {S2 : mI} {G2 : mP} (hg : mG vwCl TT own idx y bytes maxL ry 0 ci) (hM : rMet l D b y bytes maxL ry (mR k) A Sh S G [.ref (A r)] (rPv A Sh S2 G2)) (hr : Sh r = some (0, ci, 0)) (hd : decode cc pc = .ok (.invokevirtual idx, 3)) (hR : k + 1 ≤ R.frames ∧ 8 + (maxL + 11) + 33 * k ≤ R.locals) (hW : (rest.map fun v => v.category).sum ≤ 8) (hcs : cells ≤ R.cells ∧ slots ≤ R.slots) (kk : rJ p l e R s m args below meth c D vwCl mty b nL Z cells slots A Sh S2 G2 lv (pc + 3) (rest)) : rJ p l e R s m args below meth c D vwCl mty b nL Z cells slots A Sh S G lv pc (.ref (A r) :: rest) := fun T I P h => by
  obtain ⟨h1, ⟨F, N, h2⟩, h3, h4, h5⟩ := hg
  exact mJ_callV X (As := []) (hM T I P h) h1 h2 (h.sh hr) h3 h4 h5 rfl rfl hW hR hcs hd (fun v T' I' P' hp => by obtain ⟨A', Sh', S', G', ⟨rfl, rfl, rfl, rfl, rfl⟩, hl⟩ := hp; exact kk T' I' P' hl)
theorem rJ_Sv0 (X : mX p s m meth c args cc nL own ret TT NN D vwCl b) {y : MethodName} {bytes : ByteArray} {maxL idx k : Nat} {ry : Option FieldType} {S2 : mI} {G2 : mP} (hg : mGS TT own idx y bytes maxL ry 0) (hM : rMet l D b y bytes maxL ry (mR k) A Sh S G [] (rPv A Sh S2 G2)) (hd : decode cc pc = .ok (.invokestatic idx, 3)) (hR : k + 1 ≤ R.frames ∧ 8 + (maxL + 11) + 33 * k ≤ R.locals) (hW : (rest.map fun v => v.category).sum ≤ 8) (hcs : cells ≤ R.cells ∧ slots ≤ R.slots) (kk : rJ p l e R s m args below meth c D vwCl mty b nL Z cells slots A Sh S2 G2 lv (pc + 3) (rest)) : rJ p l e R s m args below meth c D vwCl mty b nL Z cells slots A Sh S G lv pc (rest) := fun T I P h => by
  obtain ⟨h1, h3, h4⟩ := hg
  exact mJ_callS X (As := []) (hM T I P h) h1 h3 h4 rfl rfl hW hR hcs hd (fun v T' I' P' hp => by obtain ⟨A', Sh', S', G', ⟨rfl, rfl, rfl, rfl, rfl⟩, hl⟩ := hp; exact kk T' I' P' hl)
theorem rJ_Nv0 (X : mX p s m meth c args cc nL own ret TT NN D vwCl b) {y : MethodName} {bytes : ByteArray} {maxL idx k : Nat} {host : String} {ry : Option FieldType} {S2 : mI} {G2 : mP} (hg : mGN TT NN own idx y host bytes maxL ry 0) (hM : rMet l D b y bytes maxL ry (mR k) A Sh S G [] (rPv A Sh S2 G2)) (hd : decode cc pc = .ok (.invokestatic idx, 3)) (hR : k + 1 ≤ R.frames ∧ 8 + (maxL + 11) + 33 * k ≤ R.locals) (hW : (rest.map fun v => v.category).sum ≤ 8) (hcs : cells ≤ R.cells ∧ slots ≤ R.slots) (kk : rJ p l e R s m args below meth c D vwCl mty b nL Z cells slots A Sh S2 G2 lv (pc + 3) (rest)) : rJ p l e R s m args below meth c D vwCl mty b nL Z cells slots A Sh S G lv pc (rest) := fun T I P h => by
  obtain ⟨h1, h3, h4⟩ := hg
  exact mJ_callSN X (As := []) (hM T I P h) h1 (h3 s X.2.2.2.2.2.2.2.2.2.1) h4 rfl rfl hW hR hcs hd (fun v T' I' P' hp => by obtain ⟨A', Sh', S', G', ⟨rfl, rfl, rfl, rfl, rfl⟩, hl⟩ := hp; exact kk T' I' P' hl)
theorem rJ_Vi1 (X : mX p s m meth c args cc nL own ret TT NN D vwCl b) {y : MethodName} {bytes : ByteArray} {maxL idx r ci k : Nat} {ry : Option FieldType} {v1 : Value} {w : Int32} {S2 : mI} {G2 : mP} (hg : mG vwCl TT own idx y bytes maxL ry 1 ci) (hM : rMet l D b y bytes maxL ry (mR k) A Sh S G [.ref (A r), v1] (rPi A Sh w S2 G2)) (hr : Sh r = some (0, ci, 0)) (hd : decode cc pc = .ok (.invokevirtual idx, 3)) (hR : k + 1 ≤ R.frames ∧ 8 + (maxL + 11) + 33 * k ≤ R.locals) (hW : (rest.map fun v => v.category).sum ≤ 8) (hcs : cells ≤ R.cells ∧ slots ≤ R.slots) (kk : rJ p l e R s m args below meth c D vwCl mty b nL Z cells slots A Sh S2 G2 lv (pc + 3) (.int w :: rest)) : rJ p l e R s m args below meth c D vwCl mty b nL Z cells slots A Sh S G lv pc (v1 :: .ref (A r) :: rest) := fun T I P h => by
  obtain ⟨h1, ⟨F, N, h2⟩, h3, h4, h5⟩ := hg
  exact mJ_callV X (As := [v1]) (hM T I P h) h1 h2 (h.sh hr) h3 h4 h5 rfl rfl hW hR hcs hd (fun v T' I' P' hp => by obtain ⟨A', Sh', S', G', ⟨rfl, rfl, rfl, rfl, rfl⟩, hl⟩ := hp; exact kk T' I' P' hl)
theorem rJ_Si1 (X : mX p s m meth c args cc nL own ret TT NN D vwCl b) {y : MethodName} {bytes : ByteArray} {maxL idx k : Nat} {ry : Option FieldType} {v1 : Value} {w : Int32} {S2 : mI} {G2 : mP} (hg : mGS TT own idx y bytes maxL ry 1) (hM : rMet l D b y bytes maxL ry (mR k) A Sh S G [v1] (rPi A Sh w S2 G2)) (hd : decode cc pc = .ok (.invokestatic idx, 3)) (hR : k + 1 ≤ R.frames ∧ 8 + (maxL + 11) + 33 * k ≤ R.locals) (hW : (rest.map fun v => v.category).sum ≤ 8) (hcs : cells ≤ R.cells ∧ slots ≤ R.slots) (kk : rJ p l e R s m args below meth c D vwCl mty b nL Z cells slots A Sh S2 G2 lv (pc + 3) (.int w :: rest)) : rJ p l e R s m args below meth c D vwCl mty b nL Z cells slots A Sh S G lv pc (v1 :: rest) := fun T I P h => by
  obtain ⟨h1, h3, h4⟩ := hg
  exact mJ_callS X (As := [v1]) (hM T I P h) h1 h3 h4 rfl rfl hW hR hcs hd (fun v T' I' P' hp => by obtain ⟨A', Sh', S', G', ⟨rfl, rfl, rfl, rfl, rfl⟩, hl⟩ := hp; exact kk T' I' P' hl)
theorem rJ_Ni1 (X : mX p s m meth c args cc nL own ret TT NN D vwCl b) {y : MethodName} {bytes : ByteArray} {maxL idx k : Nat} {host : String} {ry : Option FieldType} {v1 : Value} {w : Int32} {S2 : mI} {G2 : mP} (hg : mGN TT NN own idx y host bytes maxL ry 1) (hM : rMet l D b y bytes maxL ry (mR k) A Sh S G [v1] (rPi A Sh w S2 G2)) (hd : decode cc pc = .ok (.invokestatic idx, 3)) (hR : k + 1 ≤ R.frames ∧ 8 + (maxL + 11) + 33 * k ≤ R.locals) (hW : (rest.map fun v => v.category).sum ≤ 8) (hcs : cells ≤ R.cells ∧ slots ≤ R.slots) (kk : rJ p l e R s m args below meth c D vwCl mty b nL Z cells slots A Sh S2 G2 lv (pc + 3) (.int w :: rest)) : rJ p l e R s m args below meth c D vwCl mty b nL Z cells slots A Sh S G lv pc (v1 :: rest) := fun T I P h => by
  obtain ⟨h1, h3, h4⟩ := hg
  exact mJ_callSN X (As := [v1]) (hM T I P h) h1 (h3 s X.2.2.2.2.2.2.2.2.2.1) h4 rfl rfl hW hR hcs hd (fun v T' I' P' hp => by obtain ⟨A', Sh', S', G', ⟨rfl, rfl, rfl, rfl, rfl⟩, hl⟩ := hp; exact kk T' I' P' hl)
theorem rJ_Vr1 (X : mX p s m meth c args cc nL own ret TT NN D vwCl b) {y : MethodName} {bytes : ByteArray} {maxL idx r ci k : Nat} {ry : Option FieldType} {v1 : Value} {w : Nat} {S2 : mI} {G2 : mP} (hg : mG vwCl TT own idx y bytes maxL ry 1 ci) (hM : rMet l D b y bytes maxL ry (mR k) A Sh S G [.ref (A r), v1] (rPr A Sh w S2 G2)) (hr : Sh r = some (0, ci, 0)) (hd : decode cc pc = .ok (.invokevirtual idx, 3)) (hR : k + 1 ≤ R.frames ∧ 8 + (maxL + 11) + 33 * k ≤ R.locals) (hW : (rest.map fun v => v.category).sum ≤ 8) (hcs : cells ≤ R.cells ∧ slots ≤ R.slots) (kk : rJ p l e R s m args below meth c D vwCl mty b nL Z cells slots A Sh S2 G2 lv (pc + 3) (.ref (A w) :: rest)) : rJ p l e R s m args below meth c D vwCl mty b nL Z cells slots A Sh S G lv pc (v1 :: .ref (A r) :: rest) := fun T I P h => by
  obtain ⟨h1, ⟨F, N, h2⟩, h3, h4, h5⟩ := hg
  exact mJ_callV X (As := [v1]) (hM T I P h) h1 h2 (h.sh hr) h3 h4 h5 rfl rfl hW hR hcs hd (fun v T' I' P' hp => by obtain ⟨A', Sh', S', G', ⟨rfl, rfl, rfl, rfl, rfl⟩, hl⟩ := hp; exact kk T' I' P' hl)
theorem rJ_Vv1 (X : mX p s m meth c args cc nL own ret TT NN D vwCl b) {y : MethodName} {bytes : ByteArray} {maxL idx r ci k : Nat} {ry : Option FieldType} {v1 : Value} {S2 : mI} {G2 : mP} (hg : mG vwCl TT own idx y bytes maxL ry 1 ci) (hM : rMet l D b y bytes maxL ry (mR k) A Sh S G [.ref (A r), v1] (rPv A Sh S2 G2)) (hr : Sh r = some (0, ci, 0)) (hd : decode cc pc = .ok (.invokevirtual idx, 3)) (hR : k + 1 ≤ R.frames ∧ 8 + (maxL + 11) + 33 * k ≤ R.locals) (hW : (rest.map fun v => v.category).sum ≤ 8) (hcs : cells ≤ R.cells ∧ slots ≤ R.slots) (kk : rJ p l e R s m args below meth c D vwCl mty b nL Z cells slots A Sh S2 G2 lv (pc + 3) (rest)) : rJ p l e R s m args below meth c D vwCl mty b nL Z cells slots A Sh S G lv pc (v1 :: .ref (A r) :: rest) := fun T I P h => by
  obtain ⟨h1, ⟨F, N, h2⟩, h3, h4, h5⟩ := hg
  exact mJ_callV X (As := [v1]) (hM T I P h) h1 h2 (h.sh hr) h3 h4 h5 rfl rfl hW hR hcs hd (fun v T' I' P' hp => by obtain ⟨A', Sh', S', G', ⟨rfl, rfl, rfl, rfl, rfl⟩, hl⟩ := hp; exact kk T' I' P' hl)
theorem rJ_Sv1 (X : mX p s m meth c args cc nL own ret TT NN D vwCl b) {y : MethodName} {bytes : ByteArray} {maxL idx k : Nat} {ry : Option FieldType} {v1 : Value} {S2 : mI} {G2 : mP} (hg : mGS TT own idx y bytes maxL ry 1) (hM : rMet l D b y bytes maxL ry (mR k) A Sh S G [v1] (rPv A Sh S2 G2)) (hd : decode cc pc = .ok (.invokestatic idx, 3)) (hR : k + 1 ≤ R.frames ∧ 8 + (maxL + 11) + 33 * k ≤ R.locals) (hW : (rest.map fun v => v.category).sum ≤ 8) (hcs : cells ≤ R.cells ∧ slots ≤ R.slots) (kk : rJ p l e R s m args below meth c D vwCl mty b nL Z cells slots A Sh S2 G2 lv (pc + 3) (rest)) : rJ p l e R s m args below meth c D vwCl mty b nL Z cells slots A Sh S G lv pc (v1 :: rest) := fun T I P h => by
  obtain ⟨h1, h3, h4⟩ := hg
  exact mJ_callS X (As := [v1]) (hM T I P h) h1 h3 h4 rfl rfl hW hR hcs hd (fun v T' I' P' hp => by obtain ⟨A', Sh', S', G', ⟨rfl, rfl, rfl, rfl, rfl⟩, hl⟩ := hp; exact kk T' I' P' hl)
theorem rJ_Nv1 (X : mX p s m meth c args cc nL own ret TT NN D vwCl b) {y : MethodName} {bytes : ByteArray} {maxL idx k : Nat} {host : String} {ry : Option FieldType} {v1 : Value} {S2 : mI} {G2 : mP} (hg : mGN TT NN own idx y host bytes maxL ry 1) (hM : rMet l D b y bytes maxL ry (mR k) A Sh S G [v1] (rPv A Sh S2 G2)) (hd : decode cc pc = .ok (.invokestatic idx, 3)) (hR : k + 1 ≤ R.frames ∧ 8 + (maxL + 11) + 33 * k ≤ R.locals) (hW : (rest.map fun v => v.category).sum ≤ 8) (hcs : cells ≤ R.cells ∧ slots ≤ R.slots) (kk : rJ p l e R s m args below meth c D vwCl mty b nL Z cells slots A Sh S2 G2 lv (pc + 3) (rest)) : rJ p l e R s m args below meth c D vwCl mty b nL Z cells slots A Sh S G lv pc (v1 :: rest) := fun T I P h => by
  obtain ⟨h1, h3, h4⟩ := hg
  exact mJ_callSN X (As := [v1]) (hM T I P h) h1 (h3 s X.2.2.2.2.2.2.2.2.2.1) h4 rfl rfl hW hR hcs hd (fun v T' I' P' hp => by obtain ⟨A', Sh', S', G', ⟨rfl, rfl, rfl, rfl, rfl⟩, hl⟩ := hp; exact kk T' I' P' hl)
theorem rJ_Vi2 (X : mX p s m meth c args cc nL own ret TT NN D vwCl b) {y : MethodName} {bytes : ByteArray} {maxL idx r ci k : Nat} {ry : Option FieldType} {v1 v2 : Value} {w : Int32} {S2 : mI} {G2 : mP} (hg : mG vwCl TT own idx y bytes maxL ry 2 ci) (hM : rMet l D b y bytes maxL ry (mR k) A Sh S G [.ref (A r), v1, v2] (rPi A Sh w S2 G2)) (hr : Sh r = some (0, ci, 0)) (hd : decode cc pc = .ok (.invokevirtual idx, 3)) (hR : k + 1 ≤ R.frames ∧ 8 + (maxL + 11) + 33 * k ≤ R.locals) (hW : (rest.map fun v => v.category).sum ≤ 8) (hcs : cells ≤ R.cells ∧ slots ≤ R.slots) (kk : rJ p l e R s m args below meth c D vwCl mty b nL Z cells slots A Sh S2 G2 lv (pc + 3) (.int w :: rest)) : rJ p l e R s m args below meth c D vwCl mty b nL Z cells slots A Sh S G lv pc (v2 :: v1 :: .ref (A r) :: rest) := fun T I P h => by
  obtain ⟨h1, ⟨F, N, h2⟩, h3, h4, h5⟩ := hg
  exact mJ_callV X (As := [v1, v2]) (hM T I P h) h1 h2 (h.sh hr) h3 h4 h5 rfl rfl hW hR hcs hd (fun v T' I' P' hp => by obtain ⟨A', Sh', S', G', ⟨rfl, rfl, rfl, rfl, rfl⟩, hl⟩ := hp; exact kk T' I' P' hl)
theorem rJ_Si2 (X : mX p s m meth c args cc nL own ret TT NN D vwCl b) {y : MethodName} {bytes : ByteArray} {maxL idx k : Nat} {ry : Option FieldType} {v1 v2 : Value} {w : Int32} {S2 : mI} {G2 : mP} (hg : mGS TT own idx y bytes maxL ry 2) (hM : rMet l D b y bytes maxL ry (mR k) A Sh S G [v1, v2] (rPi A Sh w S2 G2)) (hd : decode cc pc = .ok (.invokestatic idx, 3)) (hR : k + 1 ≤ R.frames ∧ 8 + (maxL + 11) + 33 * k ≤ R.locals) (hW : (rest.map fun v => v.category).sum ≤ 8) (hcs : cells ≤ R.cells ∧ slots ≤ R.slots) (kk : rJ p l e R s m args below meth c D vwCl mty b nL Z cells slots A Sh S2 G2 lv (pc + 3) (.int w :: rest)) : rJ p l e R s m args below meth c D vwCl mty b nL Z cells slots A Sh S G lv pc (v2 :: v1 :: rest) := fun T I P h => by
  obtain ⟨h1, h3, h4⟩ := hg
  exact mJ_callS X (As := [v1, v2]) (hM T I P h) h1 h3 h4 rfl rfl hW hR hcs hd (fun v T' I' P' hp => by obtain ⟨A', Sh', S', G', ⟨rfl, rfl, rfl, rfl, rfl⟩, hl⟩ := hp; exact kk T' I' P' hl)
theorem rJ_Ni2 (X : mX p s m meth c args cc nL own ret TT NN D vwCl b) {y : MethodName} {bytes : ByteArray} {maxL idx k : Nat} {host : String} {ry : Option FieldType} {v1 v2 : Value} {w : Int32} {S2 : mI} {G2 : mP} (hg : mGN TT NN own idx y host bytes maxL ry 2) (hM : rMet l D b y bytes maxL ry (mR k) A Sh S G [v1, v2] (rPi A Sh w S2 G2)) (hd : decode cc pc = .ok (.invokestatic idx, 3)) (hR : k + 1 ≤ R.frames ∧ 8 + (maxL + 11) + 33 * k ≤ R.locals) (hW : (rest.map fun v => v.category).sum ≤ 8) (hcs : cells ≤ R.cells ∧ slots ≤ R.slots) (kk : rJ p l e R s m args below meth c D vwCl mty b nL Z cells slots A Sh S2 G2 lv (pc + 3) (.int w :: rest)) : rJ p l e R s m args below meth c D vwCl mty b nL Z cells slots A Sh S G lv pc (v2 :: v1 :: rest) := fun T I P h => by
  obtain ⟨h1, h3, h4⟩ := hg
  exact mJ_callSN X (As := [v1, v2]) (hM T I P h) h1 (h3 s X.2.2.2.2.2.2.2.2.2.1) h4 rfl rfl hW hR hcs hd (fun v T' I' P' hp => by obtain ⟨A', Sh', S', G', ⟨rfl, rfl, rfl, rfl, rfl⟩, hl⟩ := hp; exact kk T' I' P' hl)
theorem rJ_Vr2 (X : mX p s m meth c args cc nL own ret TT NN D vwCl b) {y : MethodName} {bytes : ByteArray} {maxL idx r ci k : Nat} {ry : Option FieldType} {v1 v2 : Value} {w : Nat} {S2 : mI} {G2 : mP} (hg : mG vwCl TT own idx y bytes maxL ry 2 ci) (hM : rMet l D b y bytes maxL ry (mR k) A Sh S G [.ref (A r), v1, v2] (rPr A Sh w S2 G2)) (hr : Sh r = some (0, ci, 0)) (hd : decode cc pc = .ok (.invokevirtual idx, 3)) (hR : k + 1 ≤ R.frames ∧ 8 + (maxL + 11) + 33 * k ≤ R.locals) (hW : (rest.map fun v => v.category).sum ≤ 8) (hcs : cells ≤ R.cells ∧ slots ≤ R.slots) (kk : rJ p l e R s m args below meth c D vwCl mty b nL Z cells slots A Sh S2 G2 lv (pc + 3) (.ref (A w) :: rest)) : rJ p l e R s m args below meth c D vwCl mty b nL Z cells slots A Sh S G lv pc (v2 :: v1 :: .ref (A r) :: rest) := fun T I P h => by
  obtain ⟨h1, ⟨F, N, h2⟩, h3, h4, h5⟩ := hg
  exact mJ_callV X (As := [v1, v2]) (hM T I P h) h1 h2 (h.sh hr) h3 h4 h5 rfl rfl hW hR hcs hd (fun v T' I' P' hp => by obtain ⟨A', Sh', S', G', ⟨rfl, rfl, rfl, rfl, rfl⟩, hl⟩ := hp; exact kk T' I' P' hl)
theorem rJ_Vv2 (X : mX p s m meth c args cc nL own ret TT NN D vwCl b) {y : MethodName} {bytes : ByteArray} {maxL idx r ci k : Nat} {ry : Option FieldType} {v1 v2 : Value} {S2 : mI} {G2 : mP} (hg : mG vwCl TT own idx y bytes maxL ry 2 ci) (hM : rMet l D b y bytes maxL ry (mR k) A Sh S G [.ref (A r), v1, v2] (rPv A Sh S2 G2)) (hr : Sh r = some (0, ci, 0)) (hd : decode cc pc = .ok (.invokevirtual idx, 3)) (hR : k + 1 ≤ R.frames ∧ 8 + (maxL + 11) + 33 * k ≤ R.locals) (hW : (rest.map fun v => v.category).sum ≤ 8) (hcs : cells ≤ R.cells ∧ slots ≤ R.slots) (kk : rJ p l e R s m args below meth c D vwCl mty b nL Z cells slots A Sh S2 G2 lv (pc + 3) (rest)) : rJ p l e R s m args below meth c D vwCl mty b nL Z cells slots A Sh S G lv pc (v2 :: v1 :: .ref (A r) :: rest) := fun T I P h => by
  obtain ⟨h1, ⟨F, N, h2⟩, h3, h4, h5⟩ := hg
  exact mJ_callV X (As := [v1, v2]) (hM T I P h) h1 h2 (h.sh hr) h3 h4 h5 rfl rfl hW hR hcs hd (fun v T' I' P' hp => by obtain ⟨A', Sh', S', G', ⟨rfl, rfl, rfl, rfl, rfl⟩, hl⟩ := hp; exact kk T' I' P' hl)
theorem rJ_Sv2 (X : mX p s m meth c args cc nL own ret TT NN D vwCl b) {y : MethodName} {bytes : ByteArray} {maxL idx k : Nat} {ry : Option FieldType} {v1 v2 : Value} {S2 : mI} {G2 : mP} (hg : mGS TT own idx y bytes maxL ry 2) (hM : rMet l D b y bytes maxL ry (mR k) A Sh S G [v1, v2] (rPv A Sh S2 G2)) (hd : decode cc pc = .ok (.invokestatic idx, 3)) (hR : k + 1 ≤ R.frames ∧ 8 + (maxL + 11) + 33 * k ≤ R.locals) (hW : (rest.map fun v => v.category).sum ≤ 8) (hcs : cells ≤ R.cells ∧ slots ≤ R.slots) (kk : rJ p l e R s m args below meth c D vwCl mty b nL Z cells slots A Sh S2 G2 lv (pc + 3) (rest)) : rJ p l e R s m args below meth c D vwCl mty b nL Z cells slots A Sh S G lv pc (v2 :: v1 :: rest) := fun T I P h => by
  obtain ⟨h1, h3, h4⟩ := hg
  exact mJ_callS X (As := [v1, v2]) (hM T I P h) h1 h3 h4 rfl rfl hW hR hcs hd (fun v T' I' P' hp => by obtain ⟨A', Sh', S', G', ⟨rfl, rfl, rfl, rfl, rfl⟩, hl⟩ := hp; exact kk T' I' P' hl)
theorem rJ_Nv2 (X : mX p s m meth c args cc nL own ret TT NN D vwCl b) {y : MethodName} {bytes : ByteArray} {maxL idx k : Nat} {host : String} {ry : Option FieldType} {v1 v2 : Value} {S2 : mI} {G2 : mP} (hg : mGN TT NN own idx y host bytes maxL ry 2) (hM : rMet l D b y bytes maxL ry (mR k) A Sh S G [v1, v2] (rPv A Sh S2 G2)) (hd : decode cc pc = .ok (.invokestatic idx, 3)) (hR : k + 1 ≤ R.frames ∧ 8 + (maxL + 11) + 33 * k ≤ R.locals) (hW : (rest.map fun v => v.category).sum ≤ 8) (hcs : cells ≤ R.cells ∧ slots ≤ R.slots) (kk : rJ p l e R s m args below meth c D vwCl mty b nL Z cells slots A Sh S2 G2 lv (pc + 3) (rest)) : rJ p l e R s m args below meth c D vwCl mty b nL Z cells slots A Sh S G lv pc (v2 :: v1 :: rest) := fun T I P h => by
  obtain ⟨h1, h3, h4⟩ := hg
  exact mJ_callSN X (As := [v1, v2]) (hM T I P h) h1 (h3 s X.2.2.2.2.2.2.2.2.2.1) h4 rfl rfl hW hR hcs hd (fun v T' I' P' hp => by obtain ⟨A', Sh', S', G', ⟨rfl, rfl, rfl, rfl, rfl⟩, hl⟩ := hp; exact kk T' I' P' hl)
theorem rJ_Vi3 (X : mX p s m meth c args cc nL own ret TT NN D vwCl b) {y : MethodName} {bytes : ByteArray} {maxL idx r ci k : Nat} {ry : Option FieldType} {v1 v2 v3 : Value} {w : Int32} {S2 : mI} {G2 : mP} (hg : mG vwCl TT own idx y bytes maxL ry 3 ci) (hM : rMet l D b y bytes maxL ry (mR k) A Sh S G [.ref (A r), v1, v2, v3] (rPi A Sh w S2 G2)) (hr : Sh r = some (0, ci, 0)) (hd : decode cc pc = .ok (.invokevirtual idx, 3)) (hR : k + 1 ≤ R.frames ∧ 8 + (maxL + 11) + 33 * k ≤ R.locals) (hW : (rest.map fun v => v.category).sum ≤ 8) (hcs : cells ≤ R.cells ∧ slots ≤ R.slots) (kk : rJ p l e R s m args below meth c D vwCl mty b nL Z cells slots A Sh S2 G2 lv (pc + 3) (.int w :: rest)) : rJ p l e R s m args below meth c D vwCl mty b nL Z cells slots A Sh S G lv pc (v3 :: v2 :: v1 :: .ref (A r) :: rest) := fun T I P h => by
  obtain ⟨h1, ⟨F, N, h2⟩, h3, h4, h5⟩ := hg
  exact mJ_callV X (As := [v1, v2, v3]) (hM T I P h) h1 h2 (h.sh hr) h3 h4 h5 rfl rfl hW hR hcs hd (fun v T' I' P' hp => by obtain ⟨A', Sh', S', G', ⟨rfl, rfl, rfl, rfl, rfl⟩, hl⟩ := hp; exact kk T' I' P' hl)
theorem rJ_Si3 (X : mX p s m meth c args cc nL own ret TT NN D vwCl b) {y : MethodName} {bytes : ByteArray} {maxL idx k : Nat} {ry : Option FieldType} {v1 v2 v3 : Value} {w : Int32} {S2 : mI} {G2 : mP} (hg : mGS TT own idx y bytes maxL ry 3) (hM : rMet l D b y bytes maxL ry (mR k) A Sh S G [v1, v2, v3] (rPi A Sh w S2 G2)) (hd : decode cc pc = .ok (.invokestatic idx, 3)) (hR : k + 1 ≤ R.frames ∧ 8 + (maxL + 11) + 33 * k ≤ R.locals) (hW : (rest.map fun v => v.category).sum ≤ 8) (hcs : cells ≤ R.cells ∧ slots ≤ R.slots) (kk : rJ p l e R s m args below meth c D vwCl mty b nL Z cells slots A Sh S2 G2 lv (pc + 3) (.int w :: rest)) : rJ p l e R s m args below meth c D vwCl mty b nL Z cells slots A Sh S G lv pc (v3 :: v2 :: v1 :: rest) := fun T I P h => by
  obtain ⟨h1, h3, h4⟩ := hg
  exact mJ_callS X (As := [v1, v2, v3]) (hM T I P h) h1 h3 h4 rfl rfl hW hR hcs hd (fun v T' I' P' hp => by obtain ⟨A', Sh', S', G', ⟨rfl, rfl, rfl, rfl, rfl⟩, hl⟩ := hp; exact kk T' I' P' hl)
theorem rJ_Ni3 (X : mX p s m meth c args cc nL own ret TT NN D vwCl b) {y : MethodName} {bytes : ByteArray} {maxL idx k : Nat} {host : String} {ry : Option FieldType} {v1 v2 v3 : Value} {w : Int32} {S2 : mI} {G2 : mP} (hg : mGN TT NN own idx y host bytes maxL ry 3) (hM : rMet l D b y bytes maxL ry (mR k) A Sh S G [v1, v2, v3] (rPi A Sh w S2 G2)) (hd : decode cc pc = .ok (.invokestatic idx, 3)) (hR : k + 1 ≤ R.frames ∧ 8 + (maxL + 11) + 33 * k ≤ R.locals) (hW : (rest.map fun v => v.category).sum ≤ 8) (hcs : cells ≤ R.cells ∧ slots ≤ R.slots) (kk : rJ p l e R s m args below meth c D vwCl mty b nL Z cells slots A Sh S2 G2 lv (pc + 3) (.int w :: rest)) : rJ p l e R s m args below meth c D vwCl mty b nL Z cells slots A Sh S G lv pc (v3 :: v2 :: v1 :: rest) := fun T I P h => by
  obtain ⟨h1, h3, h4⟩ := hg
  exact mJ_callSN X (As := [v1, v2, v3]) (hM T I P h) h1 (h3 s X.2.2.2.2.2.2.2.2.2.1) h4 rfl rfl hW hR hcs hd (fun v T' I' P' hp => by obtain ⟨A', Sh', S', G', ⟨rfl, rfl, rfl, rfl, rfl⟩, hl⟩ := hp; exact kk T' I' P' hl)
theorem rJ_Vr3 (X : mX p s m meth c args cc nL own ret TT NN D vwCl b) {y : MethodName} {bytes : ByteArray} {maxL idx r ci k : Nat} {ry : Option FieldType} {v1 v2 v3 : Value} {w : Nat} {S2 : mI} {G2 : mP} (hg : mG vwCl TT own idx y bytes maxL ry 3 ci) (hM : rMet l D b y bytes maxL ry (mR k) A Sh S G [.ref (A r), v1, v2, v3] (rPr A Sh w S2 G2)) (hr : Sh r = some (0, ci, 0)) (hd : decode cc pc = .ok (.invokevirtual idx, 3)) (hR : k + 1 ≤ R.frames ∧ 8 + (maxL + 11) + 33 * k ≤ R.locals) (hW : (rest.map fun v => v.category).sum ≤ 8) (hcs : cells ≤ R.cells ∧ slots ≤ R.slots) (kk : rJ p l e R s m args below meth c D vwCl mty b nL Z cells slots A Sh S2 G2 lv (pc + 3) (.ref (A w) :: rest)) : rJ p l e R s m args below meth c D vwCl mty b nL Z cells slots A Sh S G lv pc (v3 :: v2 :: v1 :: .ref (A r) :: rest) := fun T I P h => by
  obtain ⟨h1, ⟨F, N, h2⟩, h3, h4, h5⟩ := hg
  exact mJ_callV X (As := [v1, v2, v3]) (hM T I P h) h1 h2 (h.sh hr) h3 h4 h5 rfl rfl hW hR hcs hd (fun v T' I' P' hp => by obtain ⟨A', Sh', S', G', ⟨rfl, rfl, rfl, rfl, rfl⟩, hl⟩ := hp; exact kk T' I' P' hl)
theorem rJ_Vv3 (X : mX p s m meth c args cc nL own ret TT NN D vwCl b) {y : MethodName} {bytes : ByteArray} {maxL idx r ci k : Nat} {ry : Option FieldType} {v1 v2 v3 : Value} {S2 : mI} {G2 : mP} (hg : mG vwCl TT own idx y bytes maxL ry 3 ci) (hM : rMet l D b y bytes maxL ry (mR k) A Sh S G [.ref (A r), v1, v2, v3] (rPv A Sh S2 G2)) (hr : Sh r = some (0, ci, 0)) (hd : decode cc pc = .ok (.invokevirtual idx, 3)) (hR : k + 1 ≤ R.frames ∧ 8 + (maxL + 11) + 33 * k ≤ R.locals) (hW : (rest.map fun v => v.category).sum ≤ 8) (hcs : cells ≤ R.cells ∧ slots ≤ R.slots) (kk : rJ p l e R s m args below meth c D vwCl mty b nL Z cells slots A Sh S2 G2 lv (pc + 3) (rest)) : rJ p l e R s m args below meth c D vwCl mty b nL Z cells slots A Sh S G lv pc (v3 :: v2 :: v1 :: .ref (A r) :: rest) := fun T I P h => by
  obtain ⟨h1, ⟨F, N, h2⟩, h3, h4, h5⟩ := hg
  exact mJ_callV X (As := [v1, v2, v3]) (hM T I P h) h1 h2 (h.sh hr) h3 h4 h5 rfl rfl hW hR hcs hd (fun v T' I' P' hp => by obtain ⟨A', Sh', S', G', ⟨rfl, rfl, rfl, rfl, rfl⟩, hl⟩ := hp; exact kk T' I' P' hl)
theorem rJ_Sv3 (X : mX p s m meth c args cc nL own ret TT NN D vwCl b) {y : MethodName} {bytes : ByteArray} {maxL idx k : Nat} {ry : Option FieldType} {v1 v2 v3 : Value} {S2 : mI} {G2 : mP} (hg : mGS TT own idx y bytes maxL ry 3) (hM : rMet l D b y bytes maxL ry (mR k) A Sh S G [v1, v2, v3] (rPv A Sh S2 G2)) (hd : decode cc pc = .ok (.invokestatic idx, 3)) (hR : k + 1 ≤ R.frames ∧ 8 + (maxL + 11) + 33 * k ≤ R.locals) (hW : (rest.map fun v => v.category).sum ≤ 8) (hcs : cells ≤ R.cells ∧ slots ≤ R.slots) (kk : rJ p l e R s m args below meth c D vwCl mty b nL Z cells slots A Sh S2 G2 lv (pc + 3) (rest)) : rJ p l e R s m args below meth c D vwCl mty b nL Z cells slots A Sh S G lv pc (v3 :: v2 :: v1 :: rest) := fun T I P h => by
  obtain ⟨h1, h3, h4⟩ := hg
  exact mJ_callS X (As := [v1, v2, v3]) (hM T I P h) h1 h3 h4 rfl rfl hW hR hcs hd (fun v T' I' P' hp => by obtain ⟨A', Sh', S', G', ⟨rfl, rfl, rfl, rfl, rfl⟩, hl⟩ := hp; exact kk T' I' P' hl)
theorem rJ_Nv3 (X : mX p s m meth c args cc nL own ret TT NN D vwCl b) {y : MethodName} {bytes : ByteArray} {maxL idx k : Nat} {host : String} {ry : Option FieldType} {v1 v2 v3 : Value} {S2 : mI} {G2 : mP} (hg : mGN TT NN own idx y host bytes maxL ry 3) (hM : rMet l D b y bytes maxL ry (mR k) A Sh S G [v1, v2, v3] (rPv A Sh S2 G2)) (hd : decode cc pc = .ok (.invokestatic idx, 3)) (hR : k + 1 ≤ R.frames ∧ 8 + (maxL + 11) + 33 * k ≤ R.locals) (hW : (rest.map fun v => v.category).sum ≤ 8) (hcs : cells ≤ R.cells ∧ slots ≤ R.slots) (kk : rJ p l e R s m args below meth c D vwCl mty b nL Z cells slots A Sh S2 G2 lv (pc + 3) (rest)) : rJ p l e R s m args below meth c D vwCl mty b nL Z cells slots A Sh S G lv pc (v3 :: v2 :: v1 :: rest) := fun T I P h => by
  obtain ⟨h1, h3, h4⟩ := hg
  exact mJ_callSN X (As := [v1, v2, v3]) (hM T I P h) h1 (h3 s X.2.2.2.2.2.2.2.2.2.1) h4 rfl rfl hW hR hcs hd (fun v T' I' P' hp => by obtain ⟨A', Sh', S', G', ⟨rfl, rfl, rfl, rfl, rfl⟩, hl⟩ := hp; exact kk T' I' P' hl)
theorem rJ_Vi4 (X : mX p s m meth c args cc nL own ret TT NN D vwCl b) {y : MethodName} {bytes : ByteArray} {maxL idx r ci k : Nat} {ry : Option FieldType} {v1 v2 v3 v4 : Value} {w : Int32} {S2 : mI} {G2 : mP} (hg : mG vwCl TT own idx y bytes maxL ry 4 ci) (hM : rMet l D b y bytes maxL ry (mR k) A Sh S G [.ref (A r), v1, v2, v3, v4] (rPi A Sh w S2 G2)) (hr : Sh r = some (0, ci, 0)) (hd : decode cc pc = .ok (.invokevirtual idx, 3)) (hR : k + 1 ≤ R.frames ∧ 8 + (maxL + 11) + 33 * k ≤ R.locals) (hW : (rest.map fun v => v.category).sum ≤ 8) (hcs : cells ≤ R.cells ∧ slots ≤ R.slots) (kk : rJ p l e R s m args below meth c D vwCl mty b nL Z cells slots A Sh S2 G2 lv (pc + 3) (.int w :: rest)) : rJ p l e R s m args below meth c D vwCl mty b nL Z cells slots A Sh S G lv pc (v4 :: v3 :: v2 :: v1 :: .ref (A r) :: rest) := fun T I P h => by
  obtain ⟨h1, ⟨F, N, h2⟩, h3, h4, h5⟩ := hg
  exact mJ_callV X (As := [v1, v2, v3, v4]) (hM T I P h) h1 h2 (h.sh hr) h3 h4 h5 rfl rfl hW hR hcs hd (fun v T' I' P' hp => by obtain ⟨A', Sh', S', G', ⟨rfl, rfl, rfl, rfl, rfl⟩, hl⟩ := hp; exact kk T' I' P' hl)
theorem rJ_Vr4 (X : mX p s m meth c args cc nL own ret TT NN D vwCl b) {y : MethodName} {bytes : ByteArray} {maxL idx r ci k : Nat} {ry : Option FieldType} {v1 v2 v3 v4 : Value} {w : Nat} {S2 : mI} {G2 : mP} (hg : mG vwCl TT own idx y bytes maxL ry 4 ci) (hM : rMet l D b y bytes maxL ry (mR k) A Sh S G [.ref (A r), v1, v2, v3, v4] (rPr A Sh w S2 G2)) (hr : Sh r = some (0, ci, 0)) (hd : decode cc pc = .ok (.invokevirtual idx, 3)) (hR : k + 1 ≤ R.frames ∧ 8 + (maxL + 11) + 33 * k ≤ R.locals) (hW : (rest.map fun v => v.category).sum ≤ 8) (hcs : cells ≤ R.cells ∧ slots ≤ R.slots) (kk : rJ p l e R s m args below meth c D vwCl mty b nL Z cells slots A Sh S2 G2 lv (pc + 3) (.ref (A w) :: rest)) : rJ p l e R s m args below meth c D vwCl mty b nL Z cells slots A Sh S G lv pc (v4 :: v3 :: v2 :: v1 :: .ref (A r) :: rest) := fun T I P h => by
  obtain ⟨h1, ⟨F, N, h2⟩, h3, h4, h5⟩ := hg
  exact mJ_callV X (As := [v1, v2, v3, v4]) (hM T I P h) h1 h2 (h.sh hr) h3 h4 h5 rfl rfl hW hR hcs hd (fun v T' I' P' hp => by obtain ⟨A', Sh', S', G', ⟨rfl, rfl, rfl, rfl, rfl⟩, hl⟩ := hp; exact kk T' I' P' hl)
theorem rJ_Vv4 (X : mX p s m meth c args cc nL own ret TT NN D vwCl b) {y : MethodName} {bytes : ByteArray} {maxL idx r ci k : Nat} {ry : Option FieldType} {v1 v2 v3 v4 : Value} {S2 : mI} {G2 : mP} (hg : mG vwCl TT own idx y bytes maxL ry 4 ci) (hM : rMet l D b y bytes maxL ry (mR k) A Sh S G [.ref (A r), v1, v2, v3, v4] (rPv A Sh S2 G2)) (hr : Sh r = some (0, ci, 0)) (hd : decode cc pc = .ok (.invokevirtual idx, 3)) (hR : k + 1 ≤ R.frames ∧ 8 + (maxL + 11) + 33 * k ≤ R.locals) (hW : (rest.map fun v => v.category).sum ≤ 8) (hcs : cells ≤ R.cells ∧ slots ≤ R.slots) (kk : rJ p l e R s m args below meth c D vwCl mty b nL Z cells slots A Sh S2 G2 lv (pc + 3) (rest)) : rJ p l e R s m args below meth c D vwCl mty b nL Z cells slots A Sh S G lv pc (v4 :: v3 :: v2 :: v1 :: .ref (A r) :: rest) := fun T I P h => by
  obtain ⟨h1, ⟨F, N, h2⟩, h3, h4, h5⟩ := hg
  exact mJ_callV X (As := [v1, v2, v3, v4]) (hM T I P h) h1 h2 (h.sh hr) h3 h4 h5 rfl rfl hW hR hcs hd (fun v T' I' P' hp => by obtain ⟨A', Sh', S', G', ⟨rfl, rfl, rfl, rfl, rfl⟩, hl⟩ := hp; exact kk T' I' P' hl)
theorem rJ_Vi5 (X : mX p s m meth c args cc nL own ret TT NN D vwCl b) {y : MethodName} {bytes : ByteArray} {maxL idx r ci k : Nat} {ry : Option FieldType} {v1 v2 v3 v4 v5 : Value} {w : Int32} {S2 : mI} {G2 : mP} (hg : mG vwCl TT own idx y bytes maxL ry 5 ci) (hM : rMet l D b y bytes maxL ry (mR k) A Sh S G [.ref (A r), v1, v2, v3, v4, v5] (rPi A Sh w S2 G2)) (hr : Sh r = some (0, ci, 0)) (hd : decode cc pc = .ok (.invokevirtual idx, 3)) (hR : k + 1 ≤ R.frames ∧ 8 + (maxL + 11) + 33 * k ≤ R.locals) (hW : (rest.map fun v => v.category).sum ≤ 8) (hcs : cells ≤ R.cells ∧ slots ≤ R.slots) (kk : rJ p l e R s m args below meth c D vwCl mty b nL Z cells slots A Sh S2 G2 lv (pc + 3) (.int w :: rest)) : rJ p l e R s m args below meth c D vwCl mty b nL Z cells slots A Sh S G lv pc (v5 :: v4 :: v3 :: v2 :: v1 :: .ref (A r) :: rest) := fun T I P h => by
  obtain ⟨h1, ⟨F, N, h2⟩, h3, h4, h5⟩ := hg
  exact mJ_callV X (As := [v1, v2, v3, v4, v5]) (hM T I P h) h1 h2 (h.sh hr) h3 h4 h5 rfl rfl hW hR hcs hd (fun v T' I' P' hp => by obtain ⟨A', Sh', S', G', ⟨rfl, rfl, rfl, rfl, rfl⟩, hl⟩ := hp; exact kk T' I' P' hl)
theorem rJ_Vr5 (X : mX p s m meth c args cc nL own ret TT NN D vwCl b) {y : MethodName} {bytes : ByteArray} {maxL idx r ci k : Nat} {ry : Option FieldType} {v1 v2 v3 v4 v5 : Value} {w : Nat} {S2 : mI} {G2 : mP} (hg : mG vwCl TT own idx y bytes maxL ry 5 ci) (hM : rMet l D b y bytes maxL ry (mR k) A Sh S G [.ref (A r), v1, v2, v3, v4, v5] (rPr A Sh w S2 G2)) (hr : Sh r = some (0, ci, 0)) (hd : decode cc pc = .ok (.invokevirtual idx, 3)) (hR : k + 1 ≤ R.frames ∧ 8 + (maxL + 11) + 33 * k ≤ R.locals) (hW : (rest.map fun v => v.category).sum ≤ 8) (hcs : cells ≤ R.cells ∧ slots ≤ R.slots) (kk : rJ p l e R s m args below meth c D vwCl mty b nL Z cells slots A Sh S2 G2 lv (pc + 3) (.ref (A w) :: rest)) : rJ p l e R s m args below meth c D vwCl mty b nL Z cells slots A Sh S G lv pc (v5 :: v4 :: v3 :: v2 :: v1 :: .ref (A r) :: rest) := fun T I P h => by
  obtain ⟨h1, ⟨F, N, h2⟩, h3, h4, h5⟩ := hg
  exact mJ_callV X (As := [v1, v2, v3, v4, v5]) (hM T I P h) h1 h2 (h.sh hr) h3 h4 h5 rfl rfl hW hR hcs hd (fun v T' I' P' hp => by obtain ⟨A', Sh', S', G', ⟨rfl, rfl, rfl, rfl, rfl⟩, hl⟩ := hp; exact kk T' I' P' hl)
theorem rJ_Vv5 (X : mX p s m meth c args cc nL own ret TT NN D vwCl b) {y : MethodName} {bytes : ByteArray} {maxL idx r ci k : Nat} {ry : Option FieldType} {v1 v2 v3 v4 v5 : Value} {S2 : mI} {G2 : mP} (hg : mG vwCl TT own idx y bytes maxL ry 5 ci) (hM : rMet l D b y bytes maxL ry (mR k) A Sh S G [.ref (A r), v1, v2, v3, v4, v5] (rPv A Sh S2 G2)) (hr : Sh r = some (0, ci, 0)) (hd : decode cc pc = .ok (.invokevirtual idx, 3)) (hR : k + 1 ≤ R.frames ∧ 8 + (maxL + 11) + 33 * k ≤ R.locals) (hW : (rest.map fun v => v.category).sum ≤ 8) (hcs : cells ≤ R.cells ∧ slots ≤ R.slots) (kk : rJ p l e R s m args below meth c D vwCl mty b nL Z cells slots A Sh S2 G2 lv (pc + 3) (rest)) : rJ p l e R s m args below meth c D vwCl mty b nL Z cells slots A Sh S G lv pc (v5 :: v4 :: v3 :: v2 :: v1 :: .ref (A r) :: rest) := fun T I P h => by
  obtain ⟨h1, ⟨F, N, h2⟩, h3, h4, h5⟩ := hg
  exact mJ_callV X (As := [v1, v2, v3, v4, v5]) (hM T I P h) h1 h2 (h.sh hr) h3 h4 h5 rfl rfl hW hR hcs hd (fun v T' I' P' hp => by obtain ⟨A', Sh', S', G', ⟨rfl, rfl, rfl, rfl, rfl⟩, hl⟩ := hp; exact kk T' I' P' hl)
end RK
end
