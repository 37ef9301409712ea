section
-- ===== PART A: goes FIRST, ahead of the names: the tables' words, and 'selects' of the private methods out of them =====
/-- a private method of a class that the tables say can be made, by its rows of tables_1 -/
def lw_okq (q : MethodName × Nat) : Prop := (q.1.cls ≠ "java/lang/invoke/MethodHandle" ∧ q.1.cls ≠ "java/lang/invoke/VarHandle") ∧ Cond.instantiable q.1.cls q.2 ∈ tables_1 ∧ Cond.privateMethod q.1 ∈ tables_1 ∧ Cond.instanceMethod q.1 ∈ tables_1
theorem lw_p0 : lw_okq (⟨"PipeForge$LineReader", "takes", "(I)Z"⟩, 4) := ⟨⟨by decide +kernel, by decide +kernel⟩, List.mem_of_getElem? (i := 29) (by decide +kernel), List.mem_of_getElem? (i := 280) (by decide +kernel), List.mem_of_getElem? (i := 281) (by decide +kernel)⟩
theorem lw_p1 : lw_okq (⟨"PipeForge$LineReader", "takesBreak", "()Z"⟩, 4) := ⟨⟨by decide +kernel, by decide +kernel⟩, List.mem_of_getElem? (i := 29) (by decide +kernel), List.mem_of_getElem? (i := 284) (by decide +kernel), List.mem_of_getElem? (i := 285) (by decide +kernel)⟩
theorem lw_p2 : lw_okq (⟨"PipeForge$LineReader", "puts", "(I)Z"⟩, 4) := ⟨⟨by decide +kernel, by decide +kernel⟩, List.mem_of_getElem? (i := 29) (by decide +kernel), List.mem_of_getElem? (i := 288) (by decide +kernel), List.mem_of_getElem? (i := 289) (by decide +kernel)⟩
theorem lw_p3 : lw_okq (⟨"PipeForge$Pipeline", "throwOutBehind", "(I)V"⟩, 12) := ⟨⟨by decide +kernel, by decide +kernel⟩, List.mem_of_getElem? (i := 130) (by decide +kernel), List.mem_of_getElem? (i := 356) (by decide +kernel), List.mem_of_getElem? (i := 357) (by decide +kernel)⟩
theorem lw_p4 : lw_okq (⟨"PipeForge$Pipeline", "step", "()V"⟩, 12) := ⟨⟨by decide +kernel, by decide +kernel⟩, List.mem_of_getElem? (i := 130) (by decide +kernel), List.mem_of_getElem? (i := 430) (by decide +kernel), List.mem_of_getElem? (i := 431) (by decide +kernel)⟩
theorem lw_p5 : lw_okq (⟨"PipeForge$Pipeline", "mayFire", "(I)Z"⟩, 12) := ⟨⟨by decide +kernel, by decide +kernel⟩, List.mem_of_getElem? (i := 130) (by decide +kernel), List.mem_of_getElem? (i := 443) (by decide +kernel), List.mem_of_getElem? (i := 444) (by decide +kernel)⟩
theorem lw_p6 : lw_okq (⟨"PipeForge$Pipeline", "isLast", "(I)Z"⟩, 12) := ⟨⟨by decide +kernel, by decide +kernel⟩, List.mem_of_getElem? (i := 130) (by decide +kernel), List.mem_of_getElem? (i := 447) (by decide +kernel), List.mem_of_getElem? (i := 448) (by decide +kernel)⟩
theorem lw_p7 : lw_okq (⟨"PipeForge$Pipeline", "mayRead", "(ILPipeForge$Instruction;)Z"⟩, 12) := ⟨⟨by decide +kernel, by decide +kernel⟩, List.mem_of_getElem? (i := 130) (by decide +kernel), List.mem_of_getElem? (i := 463) (by decide +kernel), List.mem_of_getElem? (i := 464) (by decide +kernel)⟩
theorem lw_p8 : lw_okq (⟨"PipeForge$Pipeline", "isReady", "(II)Z"⟩, 12) := ⟨⟨by decide +kernel, by decide +kernel⟩, List.mem_of_getElem? (i := 130) (by decide +kernel), List.mem_of_getElem? (i := 475) (by decide +kernel), List.mem_of_getElem? (i := 476) (by decide +kernel)⟩
theorem lw_p9 : lw_okq (⟨"PipeForge$Pipeline", "writerAhead", "(II)I"⟩, 12) := ⟨⟨by decide +kernel, by decide +kernel⟩, List.mem_of_getElem? (i := 130) (by decide +kernel), List.mem_of_getElem? (i := 479) (by decide +kernel), List.mem_of_getElem? (i := 480) (by decide +kernel)⟩
theorem lw_p10 : lw_okq (⟨"PipeForge$Pipeline", "isStoreAhead", "(I)Z"⟩, 12) := ⟨⟨by decide +kernel, by decide +kernel⟩, List.mem_of_getElem? (i := 130) (by decide +kernel), List.mem_of_getElem? (i := 509) (by decide +kernel), List.mem_of_getElem? (i := 510) (by decide +kernel)⟩
theorem lw_p11 : lw_okq (⟨"PipeForge$Pipeline", "fire", "(I)V"⟩, 12) := ⟨⟨by decide +kernel, by decide +kernel⟩, List.mem_of_getElem? (i := 130) (by decide +kernel), List.mem_of_getElem? (i := 533) (by decide +kernel), List.mem_of_getElem? (i := 534) (by decide +kernel)⟩
theorem lw_p12 : lw_okq (⟨"PipeForge$Pipeline", "read", "(ILPipeForge$LineThread;)V"⟩, 12) := ⟨⟨by decide +kernel, by decide +kernel⟩, List.mem_of_getElem? (i := 130) (by decide +kernel), List.mem_of_getElem? (i := 537) (by decide +kernel), List.mem_of_getElem? (i := 538) (by decide +kernel)⟩
theorem lw_p13 : lw_okq (⟨"PipeForge$Pipeline", "valueFor", "(II)I"⟩, 12) := ⟨⟨by decide +kernel, by decide +kernel⟩, List.mem_of_getElem? (i := 130) (by decide +kernel), List.mem_of_getElem? (i := 541) (by decide +kernel), List.mem_of_getElem? (i := 542) (by decide +kernel)⟩
theorem lw_p14 : lw_okq (⟨"PipeForge$Pipeline", "finish", "(LPipeForge$LineThread;)V"⟩, 12) := ⟨⟨by decide +kernel, by decide +kernel⟩, List.mem_of_getElem? (i := 130) (by decide +kernel), List.mem_of_getElem? (i := 602) (by decide +kernel), List.mem_of_getElem? (i := 603) (by decide +kernel)⟩
theorem lw_p15 : lw_okq (⟨"PipeForge$Pipeline", "moveOn", "(I)V"⟩, 12) := ⟨⟨by decide +kernel, by decide +kernel⟩, List.mem_of_getElem? (i := 130) (by decide +kernel), List.mem_of_getElem? (i := 634) (by decide +kernel), List.mem_of_getElem? (i := 635) (by decide +kernel)⟩
def lw_privs_1 : List (MethodName × Nat) := [(⟨"PipeForge$LineReader", "takes", "(I)Z"⟩, 4), (⟨"PipeForge$LineReader", "takesBreak", "()Z"⟩, 4), (⟨"PipeForge$LineReader", "puts", "(I)Z"⟩, 4), (⟨"PipeForge$Pipeline", "throwOutBehind", "(I)V"⟩, 12), (⟨"PipeForge$Pipeline", "step", "()V"⟩, 12), (⟨"PipeForge$Pipeline", "mayFire", "(I)Z"⟩, 12), (⟨"PipeForge$Pipeline", "isLast", "(I)Z"⟩, 12), (⟨"PipeForge$Pipeline", "mayRead", "(ILPipeForge$Instruction;)Z"⟩, 12), (⟨"PipeForge$Pipeline", "isReady", "(II)Z"⟩, 12), (⟨"PipeForge$Pipeline", "writerAhead", "(II)I"⟩, 12), (⟨"PipeForge$Pipeline", "isStoreAhead", "(I)Z"⟩, 12), (⟨"PipeForge$Pipeline", "fire", "(I)V"⟩, 12), (⟨"PipeForge$Pipeline", "read", "(ILPipeForge$LineThread;)V"⟩, 12), (⟨"PipeForge$Pipeline", "valueFor", "(II)I"⟩, 12), (⟨"PipeForge$Pipeline", "finish", "(LPipeForge$LineThread;)V"⟩, 12), (⟨"PipeForge$Pipeline", "moveOn", "(I)V"⟩, 12)]
theorem lw_r1 : ∀ q ∈ lw_privs_1, lw_okq q := List.forall_mem_cons.mpr ⟨lw_p0, List.forall_mem_cons.mpr ⟨lw_p1, List.forall_mem_cons.mpr ⟨lw_p2, List.forall_mem_cons.mpr ⟨lw_p3, List.forall_mem_cons.mpr ⟨lw_p4, List.forall_mem_cons.mpr ⟨lw_p5, List.forall_mem_cons.mpr ⟨lw_p6, List.forall_mem_cons.mpr ⟨lw_p7, List.forall_mem_cons.mpr ⟨lw_p8, List.forall_mem_cons.mpr ⟨lw_p9, List.forall_mem_cons.mpr ⟨lw_p10, List.forall_mem_cons.mpr ⟨lw_p11, List.forall_mem_cons.mpr ⟨lw_p12, List.forall_mem_cons.mpr ⟨lw_p13, List.forall_mem_cons.mpr ⟨lw_p14, List.forall_mem_cons.mpr ⟨lw_p15, fun _ h => absurd h List.not_mem_nil⟩⟩⟩⟩⟩⟩⟩⟩⟩⟩⟩⟩⟩⟩⟩⟩
theorem lw_p16 : lw_okq (⟨"PipeForge$OneByOne", "commitsAs", "(LPipeForge$CommitLog;ILPipeForge$Instruction;II)Z"⟩, 3) := ⟨⟨by decide +kernel, by decide +kernel⟩, List.mem_of_getElem? (i := 219) (by decide +kernel), List.mem_of_getElem? (i := 712) (by decide +kernel), List.mem_of_getElem? (i := 713) (by decide +kernel)⟩
theorem lw_p17 : lw_okq (⟨"PipeForgeModel", "anew", "()V"⟩, 36) := ⟨⟨by decide +kernel, by decide +kernel⟩, List.mem_of_getElem? (i := 737) (by decide +kernel), List.mem_of_getElem? (i := 743) (by decide +kernel), List.mem_of_getElem? (i := 744) (by decide +kernel)⟩
theorem lw_p18 : lw_okq (⟨"PipeForgeModel", "oneCycle", "()V"⟩, 36) := ⟨⟨by decide +kernel, by decide +kernel⟩, List.mem_of_getElem? (i := 737) (by decide +kernel), List.mem_of_getElem? (i := 887) (by decide +kernel), List.mem_of_getElem? (i := 888) (by decide +kernel)⟩
theorem lw_p19 : lw_okq (⟨"PipeForgeModel", "fires", "(I)Z"⟩, 36) := ⟨⟨by decide +kernel, by decide +kernel⟩, List.mem_of_getElem? (i := 737) (by decide +kernel), List.mem_of_getElem? (i := 891) (by decide +kernel), List.mem_of_getElem? (i := 892) (by decide +kernel)⟩
theorem lw_p20 : lw_okq (⟨"PipeForgeModel", "kindOf", "(I)I"⟩, 36) := ⟨⟨by decide +kernel, by decide +kernel⟩, List.mem_of_getElem? (i := 737) (by decide +kernel), List.mem_of_getElem? (i := 895) (by decide +kernel), List.mem_of_getElem? (i := 896) (by decide +kernel)⟩
theorem lw_p21 : lw_okq (⟨"PipeForgeModel", "isReady", "(II)Z"⟩, 36) := ⟨⟨by decide +kernel, by decide +kernel⟩, List.mem_of_getElem? (i := 737) (by decide +kernel), List.mem_of_getElem? (i := 902) (by decide +kernel), List.mem_of_getElem? (i := 903) (by decide +kernel)⟩
theorem lw_p22 : lw_okq (⟨"PipeForgeModel", "giver", "(II)I"⟩, 36) := ⟨⟨by decide +kernel, by decide +kernel⟩, List.mem_of_getElem? (i := 737) (by decide +kernel), List.mem_of_getElem? (i := 906) (by decide +kernel), List.mem_of_getElem? (i := 907) (by decide +kernel)⟩
theorem lw_p23 : lw_okq (⟨"PipeForgeModel", "commitsRegister", "(II)Z"⟩, 36) := ⟨⟨by decide +kernel, by decide +kernel⟩, List.mem_of_getElem? (i := 737) (by decide +kernel), List.mem_of_getElem? (i := 910) (by decide +kernel), List.mem_of_getElem? (i := 911) (by decide +kernel)⟩
theorem lw_p24 : lw_okq (⟨"PipeForgeModel", "hasOlderStore", "(I)Z"⟩, 36) := ⟨⟨by decide +kernel, by decide +kernel⟩, List.mem_of_getElem? (i := 737) (by decide +kernel), List.mem_of_getElem? (i := 917) (by decide +kernel), List.mem_of_getElem? (i := 918) (by decide +kernel)⟩
theorem lw_p25 : lw_okq (⟨"PipeForgeModel", "placeOf", "(I)I"⟩, 36) := ⟨⟨by decide +kernel, by decide +kernel⟩, List.mem_of_getElem? (i := 737) (by decide +kernel), List.mem_of_getElem? (i := 921) (by decide +kernel), List.mem_of_getElem? (i := 922) (by decide +kernel)⟩
theorem lw_p26 : lw_okq (⟨"PipeForgeModel", "fire", "(I)V"⟩, 36) := ⟨⟨by decide +kernel, by decide +kernel⟩, List.mem_of_getElem? (i := 737) (by decide +kernel), List.mem_of_getElem? (i := 925) (by decide +kernel), List.mem_of_getElem? (i := 926) (by decide +kernel)⟩
theorem lw_p27 : lw_okq (⟨"PipeForgeModel", "read", "(II)I"⟩, 36) := ⟨⟨by decide +kernel, by decide +kernel⟩, List.mem_of_getElem? (i := 737) (by decide +kernel), List.mem_of_getElem? (i := 929) (by decide +kernel), List.mem_of_getElem? (i := 930) (by decide +kernel)⟩
theorem lw_p28 : lw_okq (⟨"PipeForgeModel", "workOut", "(III)V"⟩, 36) := ⟨⟨by decide +kernel, by decide +kernel⟩, List.mem_of_getElem? (i := 737) (by decide +kernel), List.mem_of_getElem? (i := 933) (by decide +kernel), List.mem_of_getElem? (i := 934) (by decide +kernel)⟩
theorem lw_p29 : lw_okq (⟨"PipeForgeModel", "commitAll", "(III)V"⟩, 36) := ⟨⟨by decide +kernel, by decide +kernel⟩, List.mem_of_getElem? (i := 737) (by decide +kernel), List.mem_of_getElem? (i := 937) (by decide +kernel), List.mem_of_getElem? (i := 938) (by decide +kernel)⟩
theorem lw_p30 : lw_okq (⟨"PipeForgeModel", "commitOne", "(III)V"⟩, 36) := ⟨⟨by decide +kernel, by decide +kernel⟩, List.mem_of_getElem? (i := 737) (by decide +kernel), List.mem_of_getElem? (i := 941) (by decide +kernel), List.mem_of_getElem? (i := 942) (by decide +kernel)⟩
def lw_privs_2 : List (MethodName × Nat) := [(⟨"PipeForge$OneByOne", "commitsAs", "(LPipeForge$CommitLog;ILPipeForge$Instruction;II)Z"⟩, 3), (⟨"PipeForgeModel", "anew", "()V"⟩, 36), (⟨"PipeForgeModel", "oneCycle", "()V"⟩, 36), (⟨"PipeForgeModel", "fires", "(I)Z"⟩, 36), (⟨"PipeForgeModel", "kindOf", "(I)I"⟩, 36), (⟨"PipeForgeModel", "isReady", "(II)Z"⟩, 36), (⟨"PipeForgeModel", "giver", "(II)I"⟩, 36), (⟨"PipeForgeModel", "commitsRegister", "(II)Z"⟩, 36), (⟨"PipeForgeModel", "hasOlderStore", "(I)Z"⟩, 36), (⟨"PipeForgeModel", "placeOf", "(I)I"⟩, 36), (⟨"PipeForgeModel", "fire", "(I)V"⟩, 36), (⟨"PipeForgeModel", "read", "(II)I"⟩, 36), (⟨"PipeForgeModel", "workOut", "(III)V"⟩, 36), (⟨"PipeForgeModel", "commitAll", "(III)V"⟩, 36), (⟨"PipeForgeModel", "commitOne", "(III)V"⟩, 36)]
theorem lw_r2 : ∀ q ∈ lw_privs_2, lw_okq q := List.forall_mem_cons.mpr ⟨lw_p16, List.forall_mem_cons.mpr ⟨lw_p17, List.forall_mem_cons.mpr ⟨lw_p18, List.forall_mem_cons.mpr ⟨lw_p19, List.forall_mem_cons.mpr ⟨lw_p20, List.forall_mem_cons.mpr ⟨lw_p21, List.forall_mem_cons.mpr ⟨lw_p22, List.forall_mem_cons.mpr ⟨lw_p23, List.forall_mem_cons.mpr ⟨lw_p24, List.forall_mem_cons.mpr ⟨lw_p25, List.forall_mem_cons.mpr ⟨lw_p26, List.forall_mem_cons.mpr ⟨lw_p27, List.forall_mem_cons.mpr ⟨lw_p28, List.forall_mem_cons.mpr ⟨lw_p29, List.forall_mem_cons.mpr ⟨lw_p30, fun _ h => absurd h List.not_mem_nil⟩⟩⟩⟩⟩⟩⟩⟩⟩⟩⟩⟩⟩⟩⟩
def lw_privs : List (MethodName × Nat) := lw_privs_1 ++ (lw_privs_2)
def lw_tbl : List Cond := k2_sels lw_privs ++ tables_1
theorem lw_privs_ok : ∀ q ∈ lw_privs, lw_okq q := by
  show ∀ q ∈ lw_privs_1 ++ (lw_privs_2), lw_okq q
  exact List.forall_mem_append.mpr ⟨lw_r1, lw_r2⟩
end
section
def RX0 : String := "PipeForge$CommitLog"
def TX0 : u_T := fun k => match k with
  | 0 => ("PipeForge$CommitLog", "parts", "[I", true)
  | 1 => ("PipeForge$CommitLog", "kept", "I", false)
  | _ => ("PipeForge$CommitLog", "count", "I", false)
def tyX0 : Nat → FieldType := fun k => match k with
  | 0 => .array .int
  | 1 => .int
  | _ => .int
theorem nmX0 : ∀ a, a < 3 → ∀ b, b < 3 → a ≠ b → (TX0 a).2.1 ≠ (TX0 b).2.1 := by decide +kernel
theorem tyX0_ok : ∀ k, k < 3 → parseFieldDescriptor (TX0 k).2.2.1 = some (tyX0 k) := by decide +kernel
abbrev cX0_init : ByteArray := prog_2_method_1_code
def yX0_init : MethodName := ⟨RX0, "<init>", "()V"⟩
abbrev cX0_clear : ByteArray := prog_2_method_2_code
def yX0_clear : MethodName := ⟨RX0, "clear", "()V"⟩
abbrev cX0_add : ByteArray := prog_2_method_3_code
def yX0_add : MethodName := ⟨RX0, "add", "(IIII)V"⟩
abbrev cX0_total : ByteArray := prog_2_method_4_code
def yX0_total : MethodName := ⟨RX0, "total", "()I"⟩
abbrev cX0_size : ByteArray := prog_2_method_5_code
def yX0_size : MethodName := ⟨RX0, "size", "()I"⟩
abbrev cX0_part : ByteArray := prog_2_method_6_code
def yX0_part : MethodName := ⟨RX0, "part", "(II)I"⟩
abbrev cX0_holds : ByteArray := prog_2_method_7_code
def yX0_holds : MethodName := ⟨RX0, "holds", "(IIII)Z"⟩
def RX1 : String := "PipeForge$Holdings"
def TX1 : u_T := fun k => match k with
  | 0 => ("PipeForge$Holdings", "registers", "[I", true)
  | _ => ("PipeForge$Holdings", "places", "[I", true)
def tyX1 : Nat → FieldType := fun k => match k with
  | 0 => .array .int
  | _ => .array .int
theorem nmX1 : ∀ a, a < 2 → ∀ b, b < 2 → a ≠ b → (TX1 a).2.1 ≠ (TX1 b).2.1 := by decide +kernel
theorem tyX1_ok : ∀ k, k < 2 → parseFieldDescriptor (TX1 k).2.2.1 = some (tyX1 k) := by decide +kernel
abbrev cX1_init : ByteArray := prog_3_method_1_code
def yX1_init : MethodName := ⟨RX1, "<init>", "()V"⟩
abbrev cX1_reset : ByteArray := prog_3_method_2_code
def yX1_reset : MethodName := ⟨RX1, "reset", "(LPipeForge$Start;)V"⟩
abbrev cX1_inRegister : ByteArray := prog_3_method_3_code
def yX1_inRegister : MethodName := ⟨RX1, "inRegister", "(I)I"⟩
abbrev cX1_atPlace : ByteArray := prog_3_method_4_code
def yX1_atPlace : MethodName := ⟨RX1, "atPlace", "(I)I"⟩
abbrev cX1_take : ByteArray := prog_3_method_5_code
def yX1_take : MethodName := ⟨RX1, "take", "(LPipeForge$Instruction;II)V"⟩
def RX2 : String := "PipeForge$Instruction"
def TX2 : u_T := fun k => match k with
  | 0 => ("PipeForge$Instruction", "kind", "I", true)
  | 1 => ("PipeForge$Instruction", "d", "I", true)
  | 2 => ("PipeForge$Instruction", "a", "I", true)
  | 3 => ("PipeForge$Instruction", "b", "I", true)
  | _ => ("PipeForge$Instruction", "i", "I", true)
def tyX2 : Nat → FieldType := fun k => match k with
  | 0 => .int
  | 1 => .int
  | 2 => .int
  | 3 => .int
  | _ => .int
theorem nmX2 : ∀ a, a < 5 → ∀ b, b < 5 → a ≠ b → (TX2 a).2.1 ≠ (TX2 b).2.1 := by decide +kernel
theorem tyX2_ok : ∀ k, k < 5 → parseFieldDescriptor (TX2 k).2.2.1 = some (tyX2 k) := by decide +kernel
abbrev cX2_init : ByteArray := prog_4_method_1_code
def yX2_init : MethodName := ⟨RX2, "<init>", "(IIIII)V"⟩
abbrev cX2_kind : ByteArray := prog_4_method_2_code
def yX2_kind : MethodName := ⟨RX2, "kind", "()I"⟩
abbrev cX2_left : ByteArray := prog_4_method_3_code
def yX2_left : MethodName := ⟨RX2, "left", "()I"⟩
abbrev cX2_right : ByteArray := prog_4_method_4_code
def yX2_right : MethodName := ⟨RX2, "right", "()I"⟩
abbrev cX2_goal : ByteArray := prog_4_method_5_code
def yX2_goal : MethodName := ⟨RX2, "goal", "()I"⟩
abbrev cX2_readsLeft : ByteArray := prog_4_method_6_code
def yX2_readsLeft : MethodName := ⟨RX2, "readsLeft", "()Z"⟩
abbrev cX2_readsRight : ByteArray := prog_4_method_7_code
def yX2_readsRight : MethodName := ⟨RX2, "readsRight", "()Z"⟩
abbrev cX2_commitsRegister : ByteArray := prog_4_method_8_code
def yX2_commitsRegister : MethodName := ⟨RX2, "commitsRegister", "()Z"⟩
abbrev cX2_commitsTo : ByteArray := prog_4_method_9_code
def yX2_commitsTo : MethodName := ⟨RX2, "commitsTo", "(I)Z"⟩
abbrev cX2_commitsAnything : ByteArray := prog_4_method_10_code
def yX2_commitsAnything : MethodName := ⟨RX2, "commitsAnything", "()Z"⟩
abbrev cX2_commitKind : ByteArray := prog_4_method_11_code
def yX2_commitKind : MethodName := ⟨RX2, "commitKind", "()I"⟩
abbrev cX2_commitsWhere : ByteArray := prog_4_method_12_code
def yX2_commitsWhere : MethodName := ⟨RX2, "commitsWhere", "(I)I"⟩
abbrev cX2_placeFrom : ByteArray := prog_4_method_13_code
def yX2_placeFrom : MethodName := ⟨RX2, "placeFrom", "(I)I"⟩
abbrev cX2_workedOut : ByteArray := prog_4_method_14_code
def yX2_workedOut : MethodName := ⟨RX2, "workedOut", "(II)I"⟩
abbrev cX2_goesOn : ByteArray := prog_4_method_15_code
def yX2_goesOn : MethodName := ⟨RX2, "goesOn", "(II)Z"⟩
def RX3 : String := "PipeForge$Layout"
def TX3 : u_T := fun k => match k with
  | 0 => ("PipeForge$Layout", "stages", "[I", true)
  | _ => ("PipeForge$Layout", "count", "I", false)
def tyX3 : Nat → FieldType := fun k => match k with
  | 0 => .array .int
  | _ => .int
theorem nmX3 : ∀ a, a < 2 → ∀ b, b < 2 → a ≠ b → (TX3 a).2.1 ≠ (TX3 b).2.1 := by decide +kernel
theorem tyX3_ok : ∀ k, k < 2 → parseFieldDescriptor (TX3 k).2.2.1 = some (tyX3 k) := by decide +kernel
abbrev cX3_init : ByteArray := prog_5_method_1_code
def yX3_init : MethodName := ⟨RX3, "<init>", "()V"⟩
abbrev cX3_become : ByteArray := prog_5_method_2_code
def yX3_become : MethodName := ⟨RX3, "become", "([II)V"⟩
abbrev cX3_stageCount : ByteArray := prog_5_method_3_code
def yX3_stageCount : MethodName := ⟨RX3, "stageCount", "()I"⟩
abbrev cX3_stageOf : ByteArray := prog_5_method_4_code
def yX3_stageOf : MethodName := ⟨RX3, "stageOf", "(I)I"⟩
abbrev cX3_has : ByteArray := prog_5_method_5_code
def yX3_has : MethodName := ⟨RX3, "has", "(II)Z"⟩
abbrev cX3_givingStage : ByteArray := prog_5_method_6_code
def yX3_givingStage : MethodName := ⟨RX3, "givingStage", "(I)I"⟩
def RX4 : String := "PipeForge$LineReader"
def TX4 : u_T := fun k => match k with
  | 0 => ("PipeForge$LineReader", "found", "[I", true)
  | 1 => ("PipeForge$LineReader", "next", "I", false)
  | 2 => ("PipeForge$LineReader", "stage", "I", false)
  | _ => ("PipeForge$LineReader", "filled", "Z", false)
def tyX4 : Nat → FieldType := fun k => match k with
  | 0 => .array .int
  | 1 => .int
  | 2 => .int
  | _ => .boolean
theorem nmX4 : ∀ a, a < 4 → ∀ b, b < 4 → a ≠ b → (TX4 a).2.1 ≠ (TX4 b).2.1 := by decide +kernel
theorem tyX4_ok : ∀ k, k < 4 → parseFieldDescriptor (TX4 k).2.2.1 = some (tyX4 k) := by decide +kernel
abbrev cX4_init : ByteArray := prog_6_method_1_code
def yX4_init : MethodName := ⟨RX4, "<init>", "()V"⟩
abbrev cX4_firstWrong : ByteArray := prog_6_method_2_code
def yX4_firstWrong : MethodName := ⟨RX4, "firstWrong", "([II)I"⟩
abbrev cX4_writeTo : ByteArray := prog_6_method_3_code
def yX4_writeTo : MethodName := ⟨RX4, "writeTo", "(LPipeForge$Layout;)V"⟩
abbrev cX4_takes : ByteArray := prog_6_method_4_code
def yX4_takes : MethodName := ⟨RX4, "takes", "(I)Z"⟩
abbrev cX4_puts : ByteArray := prog_6_method_5_code
def yX4_puts : MethodName := ⟨RX4, "puts", "(I)Z"⟩
abbrev cX4_takesBreak : ByteArray := prog_6_method_6_code
def yX4_takesBreak : MethodName := ⟨RX4, "takesBreak", "()Z"⟩
def RX5 : String := "PipeForge$LineThread"
def TX5 : u_T := fun k => match k with
  | 0 => ("PipeForge$LineThread", "present", "Z", false)
  | 1 => ("PipeForge$LineThread", "row", "LPipeForge$Instruction;", false)
  | 2 => ("PipeForge$LineThread", "leftValue", "I", false)
  | 3 => ("PipeForge$LineThread", "rightValue", "I", false)
  | 4 => ("PipeForge$LineThread", "value", "I", false)
  | 5 => ("PipeForge$LineThread", "askedAt", "I", false)
  | _ => ("PipeForge$LineThread", "gaveAt", "I", false)
def tyX5 : Nat → FieldType := fun k => match k with
  | 0 => .boolean
  | 1 => .object "PipeForge$Instruction"
  | 2 => .int
  | 3 => .int
  | 4 => .int
  | 5 => .int
  | _ => .int
theorem nmX5 : ∀ a, a < 7 → ∀ b, b < 7 → a ≠ b → (TX5 a).2.1 ≠ (TX5 b).2.1 := by decide +kernel
theorem tyX5_ok : ∀ k, k < 7 → parseFieldDescriptor (TX5 k).2.2.1 = some (tyX5 k) := by decide +kernel
abbrev cX5_init : ByteArray := prog_7_method_1_code
def yX5_init : MethodName := ⟨RX5, "<init>", "(LPipeForge$Instruction;)V"⟩
abbrev cX5_come : ByteArray := prog_7_method_2_code
def yX5_come : MethodName := ⟨RX5, "come", "(LPipeForge$Instruction;)V"⟩
abbrev cX5_leave : ByteArray := prog_7_method_3_code
def yX5_leave : MethodName := ⟨RX5, "leave", "()V"⟩
abbrev cX5_isPresent : ByteArray := prog_7_method_4_code
def yX5_isPresent : MethodName := ⟨RX5, "isPresent", "()Z"⟩
abbrev cX5_instruction : ByteArray := prog_7_method_5_code
def yX5_instruction : MethodName := ⟨RX5, "instruction", "()LPipeForge$Instruction;"⟩
abbrev cX5_readLeft : ByteArray := prog_7_method_6_code
def yX5_readLeft : MethodName := ⟨RX5, "readLeft", "(I)V"⟩
abbrev cX5_readRight : ByteArray := prog_7_method_7_code
def yX5_readRight : MethodName := ⟨RX5, "readRight", "(I)V"⟩
abbrev cX5_workOut : ByteArray := prog_7_method_8_code
def yX5_workOut : MethodName := ⟨RX5, "workOut", "()V"⟩
abbrev cX5_goesOn : ByteArray := prog_7_method_9_code
def yX5_goesOn : MethodName := ⟨RX5, "goesOn", "()Z"⟩
abbrev cX5_asksPlace : ByteArray := prog_7_method_10_code
def yX5_asksPlace : MethodName := ⟨RX5, "asksPlace", "()I"⟩
abbrev cX5_ask : ByteArray := prog_7_method_11_code
def yX5_ask : MethodName := ⟨RX5, "ask", "(II)V"⟩
abbrev cX5_isAnswered : ByteArray := prog_7_method_12_code
def yX5_isAnswered : MethodName := ⟨RX5, "isAnswered", "(II)Z"⟩
abbrev cX5_give : ByteArray := prog_7_method_13_code
def yX5_give : MethodName := ⟨RX5, "give", "(I)V"⟩
abbrev cX5_gaveBefore : ByteArray := prog_7_method_14_code
def yX5_gaveBefore : MethodName := ⟨RX5, "gaveBefore", "(I)Z"⟩
abbrev cX5_worth : ByteArray := prog_7_method_15_code
def yX5_worth : MethodName := ⟨RX5, "worth", "()I"⟩
abbrev cX5_commitsWhere : ByteArray := prog_7_method_16_code
def yX5_commitsWhere : MethodName := ⟨RX5, "commitsWhere", "()I"⟩
def RX6 : String := "PipeForge$OneByOne"
def TX6 : u_T := fun k => match k with
  | 0 => ("PipeForge$OneByOne", "program", "LPipeForge$Program;", true)
  | 1 => ("PipeForge$OneByOne", "start", "LPipeForge$Start;", true)
  | _ => ("PipeForge$OneByOne", "holdings", "LPipeForge$Holdings;", true)
def tyX6 : Nat → FieldType := fun k => match k with
  | 0 => .object "PipeForge$Program"
  | 1 => .object "PipeForge$Start"
  | _ => .object "PipeForge$Holdings"
theorem nmX6 : ∀ a, a < 3 → ∀ b, b < 3 → a ≠ b → (TX6 a).2.1 ≠ (TX6 b).2.1 := by decide +kernel
theorem tyX6_ok : ∀ k, k < 3 → parseFieldDescriptor (TX6 k).2.2.1 = some (tyX6 k) := by decide +kernel
abbrev cX6_init : ByteArray := prog_8_method_1_code
def yX6_init : MethodName := ⟨RX6, "<init>", "(LPipeForge$Program;LPipeForge$Start;)V"⟩
abbrev cX6_agreesWith : ByteArray := prog_8_method_2_code
def yX6_agreesWith : MethodName := ⟨RX6, "agreesWith", "(LPipeForge$CommitLog;)Z"⟩
abbrev cX6_commitsAs : ByteArray := prog_8_method_3_code
def yX6_commitsAs : MethodName := ⟨RX6, "commitsAs", "(LPipeForge$CommitLog;ILPipeForge$Instruction;II)Z"⟩
def RX7 : String := "PipeForge$Pipeline"
def TX7 : u_T := fun k => match k with
  | 0 => ("PipeForge$Pipeline", "layout", "LPipeForge$Layout;", true)
  | 1 => ("PipeForge$Pipeline", "program", "LPipeForge$Program;", true)
  | 2 => ("PipeForge$Pipeline", "start", "LPipeForge$Start;", true)
  | 3 => ("PipeForge$Pipeline", "log", "LPipeForge$CommitLog;", true)
  | 4 => ("PipeForge$Pipeline", "holdings", "LPipeForge$Holdings;", true)
  | 5 => ("PipeForge$Pipeline", "threads", "[LPipeForge$LineThread;", true)
  | 6 => ("PipeForge$Pipeline", "committedAt", "[I", true)
  | 7 => ("PipeForge$Pipeline", "storedAt", "I", false)
  | 8 => ("PipeForge$Pipeline", "nextNumber", "I", false)
  | 9 => ("PipeForge$Pipeline", "cycle", "I", false)
  | 10 => ("PipeForge$Pipeline", "wentThrough", "I", false)
  | _ => ("PipeForge$Pipeline", "stopped", "Z", false)
def tyX7 : Nat → FieldType := fun k => match k with
  | 0 => .object "PipeForge$Layout"
  | 1 => .object "PipeForge$Program"
  | 2 => .object "PipeForge$Start"
  | 3 => .object "PipeForge$CommitLog"
  | 4 => .object "PipeForge$Holdings"
  | 5 => .array (.object "PipeForge$LineThread")
  | 6 => .array .int
  | 7 => .int
  | 8 => .int
  | 9 => .int
  | 10 => .int
  | _ => .boolean
theorem nmX7 : ∀ a, a < 12 → ∀ b, b < 12 → a ≠ b → (TX7 a).2.1 ≠ (TX7 b).2.1 := by decide +kernel
theorem tyX7_ok : ∀ k, k < 12 → parseFieldDescriptor (TX7 k).2.2.1 = some (tyX7 k) := by decide +kernel
abbrev cX7_init : ByteArray := prog_9_method_1_code
def yX7_init : MethodName := ⟨RX7, "<init>", "(LPipeForge$Layout;LPipeForge$Program;LPipeForge$Start;LPipeForge$CommitLog;)V"⟩
abbrev cX7_beginAnew : ByteArray := prog_9_method_2_code
def yX7_beginAnew : MethodName := ⟨RX7, "beginAnew", "()V"⟩
abbrev cX7_advance : ByteArray := prog_9_method_3_code
def yX7_advance : MethodName := ⟨RX7, "advance", "(I)V"⟩
abbrev cX7_reached : ByteArray := prog_9_method_4_code
def yX7_reached : MethodName := ⟨RX7, "reached", "()I"⟩
abbrev cX7_isEnded : ByteArray := prog_9_method_5_code
def yX7_isEnded : MethodName := ⟨RX7, "isEnded", "()Z"⟩
abbrev cX7_gone : ByteArray := prog_9_method_6_code
def yX7_gone : MethodName := ⟨RX7, "gone", "()I"⟩
abbrev cX7_holdings : ByteArray := prog_9_method_7_code
def yX7_holdings : MethodName := ⟨RX7, "holdings", "()LPipeForge$Holdings;"⟩
abbrev cX7_step : ByteArray := prog_9_method_8_code
def yX7_step : MethodName := ⟨RX7, "step", "()V"⟩
abbrev cX7_isLast : ByteArray := prog_9_method_9_code
def yX7_isLast : MethodName := ⟨RX7, "isLast", "(I)Z"⟩
abbrev cX7_mayFire : ByteArray := prog_9_method_10_code
def yX7_mayFire : MethodName := ⟨RX7, "mayFire", "(I)Z"⟩
abbrev cX7_mayRead : ByteArray := prog_9_method_11_code
def yX7_mayRead : MethodName := ⟨RX7, "mayRead", "(ILPipeForge$Instruction;)Z"⟩
abbrev cX7_isReady : ByteArray := prog_9_method_12_code
def yX7_isReady : MethodName := ⟨RX7, "isReady", "(II)Z"⟩
abbrev cX7_writerAhead : ByteArray := prog_9_method_13_code
def yX7_writerAhead : MethodName := ⟨RX7, "writerAhead", "(II)I"⟩
abbrev cX7_isStoreAhead : ByteArray := prog_9_method_14_code
def yX7_isStoreAhead : MethodName := ⟨RX7, "isStoreAhead", "(I)Z"⟩
abbrev cX7_fire : ByteArray := prog_9_method_15_code
def yX7_fire : MethodName := ⟨RX7, "fire", "(I)V"⟩
abbrev cX7_read : ByteArray := prog_9_method_16_code
def yX7_read : MethodName := ⟨RX7, "read", "(ILPipeForge$LineThread;)V"⟩
abbrev cX7_valueFor : ByteArray := prog_9_method_17_code
def yX7_valueFor : MethodName := ⟨RX7, "valueFor", "(II)I"⟩
abbrev cX7_throwOutBehind : ByteArray := prog_9_method_18_code
def yX7_throwOutBehind : MethodName := ⟨RX7, "throwOutBehind", "(I)V"⟩
abbrev cX7_finish : ByteArray := prog_9_method_19_code
def yX7_finish : MethodName := ⟨RX7, "finish", "(LPipeForge$LineThread;)V"⟩
abbrev cX7_moveOn : ByteArray := prog_9_method_20_code
def yX7_moveOn : MethodName := ⟨RX7, "moveOn", "(I)V"⟩
def RX8 : String := "PipeForge$Program"
def TX8 : u_T := fun k => match k with
  | 0 => ("PipeForge$Program", "rows", "[LPipeForge$Instruction;", true)
  | 1 => ("PipeForge$Program", "stop", "LPipeForge$Instruction;", true)
  | _ => ("PipeForge$Program", "count", "I", false)
def tyX8 : Nat → FieldType := fun k => match k with
  | 0 => .array (.object "PipeForge$Instruction")
  | 1 => .object "PipeForge$Instruction"
  | _ => .int
theorem nmX8 : ∀ a, a < 3 → ∀ b, b < 3 → a ≠ b → (TX8 a).2.1 ≠ (TX8 b).2.1 := by decide +kernel
theorem tyX8_ok : ∀ k, k < 3 → parseFieldDescriptor (TX8 k).2.2.1 = some (tyX8 k) := by decide +kernel
abbrev cX8_init : ByteArray := prog_10_method_1_code
def yX8_init : MethodName := ⟨RX8, "<init>", "()V"⟩
abbrev cX8_isFull : ByteArray := prog_10_method_2_code
def yX8_isFull : MethodName := ⟨RX8, "isFull", "()Z"⟩
abbrev cX8_add : ByteArray := prog_10_method_3_code
def yX8_add : MethodName := ⟨RX8, "add", "(LPipeForge$Instruction;)I"⟩
abbrev cX8_size : ByteArray := prog_10_method_4_code
def yX8_size : MethodName := ⟨RX8, "size", "()I"⟩
abbrev cX8_at : ByteArray := prog_10_method_5_code
def yX8_at : MethodName := ⟨RX8, "at", "(I)LPipeForge$Instruction;"⟩
def RX9 : String := "PipeForge$Start"
def TX9 : u_T := fun k => match k with
  | 0 => ("PipeForge$Start", "values", "[I", true)
  | _ => ("PipeForge$Start", "delays", "[I", true)
def tyX9 : Nat → FieldType := fun k => match k with
  | 0 => .array .int
  | _ => .array .int
theorem nmX9 : ∀ a, a < 2 → ∀ b, b < 2 → a ≠ b → (TX9 a).2.1 ≠ (TX9 b).2.1 := by decide +kernel
theorem tyX9_ok : ∀ k, k < 2 → parseFieldDescriptor (TX9 k).2.2.1 = some (tyX9 k) := by decide +kernel
abbrev cX9_init : ByteArray := prog_11_method_1_code
def yX9_init : MethodName := ⟨RX9, "<init>", "()V"⟩
abbrev cX9_tell : ByteArray := prog_11_method_2_code
def yX9_tell : MethodName := ⟨RX9, "tell", "(II)V"⟩
abbrev cX9_delay : ByteArray := prog_11_method_3_code
def yX9_delay : MethodName := ⟨RX9, "delay", "(II)V"⟩
abbrev cX9_delayOf : ByteArray := prog_11_method_4_code
def yX9_delayOf : MethodName := ⟨RX9, "delayOf", "(I)I"⟩
abbrev cX9_fill : ByteArray := prog_11_method_5_code
def yX9_fill : MethodName := ⟨RX9, "fill", "([I)V"⟩
def RX10 : String := "PipeForge"
def TX10 : u_T := fun k => match k with
  | 0 => ("PipeForge", "signs", "[I", true)
  | 1 => ("PipeForge", "signCount", "I", false)
  | 2 => ("PipeForge", "reader", "LPipeForge$LineReader;", true)
  | 3 => ("PipeForge", "layout", "LPipeForge$Layout;", true)
  | 4 => ("PipeForge", "program", "LPipeForge$Program;", true)
  | 5 => ("PipeForge", "start", "LPipeForge$Start;", true)
  | 6 => ("PipeForge", "log", "LPipeForge$CommitLog;", true)
  | 7 => ("PipeForge", "pipeline", "LPipeForge$Pipeline;", true)
  | _ => ("PipeForge", "oneByOne", "LPipeForge$OneByOne;", true)
def tyX10 : Nat → FieldType := fun k => match k with
  | 0 => .array .int
  | 1 => .int
  | 2 => .object "PipeForge$LineReader"
  | 3 => .object "PipeForge$Layout"
  | 4 => .object "PipeForge$Program"
  | 5 => .object "PipeForge$Start"
  | 6 => .object "PipeForge$CommitLog"
  | 7 => .object "PipeForge$Pipeline"
  | _ => .object "PipeForge$OneByOne"
theorem nmX10 : ∀ a, a < 9 → ∀ b, b < 9 → a ≠ b → (TX10 a).2.1 ≠ (TX10 b).2.1 := by decide +kernel
theorem tyX10_ok : ∀ k, k < 9 → parseFieldDescriptor (TX10 k).2.2.1 = some (tyX10 k) := by decide +kernel
abbrev cX10_init : ByteArray := prog_1_method_1_code
def yX10_init : MethodName := ⟨RX10, "<init>", "()V"⟩
abbrev cX10_unit : ByteArray := prog_1_method_2_code
def yX10_unit : MethodName := ⟨RX10, "unit", "(I)Z"⟩
abbrev cX10_line : ByteArray := prog_1_method_3_code
def yX10_line : MethodName := ⟨RX10, "line", "()I"⟩
abbrev cX10_code : ByteArray := prog_1_method_4_code
def yX10_code : MethodName := ⟨RX10, "code", "(IIIII)I"⟩
abbrev cX10_memory : ByteArray := prog_1_method_5_code
def yX10_memory : MethodName := ⟨RX10, "memory", "(II)Z"⟩
abbrev cX10_latency : ByteArray := prog_1_method_6_code
def yX10_latency : MethodName := ⟨RX10, "latency", "(II)Z"⟩
abbrev cX10_run : ByteArray := prog_1_method_7_code
def yX10_run : MethodName := ⟨RX10, "run", "(I)I"⟩
abbrev cX10_cycle : ByteArray := prog_1_method_8_code
def yX10_cycle : MethodName := ⟨RX10, "cycle", "()I"⟩
abbrev cX10_ended : ByteArray := prog_1_method_9_code
def yX10_ended : MethodName := ⟨RX10, "ended", "()Z"⟩
abbrev cX10_commits : ByteArray := prog_1_method_10_code
def yX10_commits : MethodName := ⟨RX10, "commits", "()I"⟩
abbrev cX10_commit : ByteArray := prog_1_method_11_code
def yX10_commit : MethodName := ⟨RX10, "commit", "(II)I"⟩
abbrev cX10_register : ByteArray := prog_1_method_12_code
def yX10_register : MethodName := ⟨RX10, "register", "(I)I"⟩
abbrev cX10_place : ByteArray := prog_1_method_13_code
def yX10_place : MethodName := ⟨RX10, "place", "(I)I"⟩
abbrev cX10_retired : ByteArray := prog_1_method_14_code
def yX10_retired : MethodName := ⟨RX10, "retired", "()I"⟩
abbrev cX10_faithful : ByteArray := prog_1_method_15_code
def yX10_faithful : MethodName := ⟨RX10, "faithful", "()Z"⟩
abbrev cX10_told : ByteArray := prog_1_method_16_code
def yX10_told : MethodName := ⟨RX10, "told", "(I)I"⟩
abbrev cX10_isRegister : ByteArray := prog_1_method_17_code
def yX10_isRegister : MethodName := ⟨RX10, "isRegister", "(I)Z"⟩
abbrev cX10_isPlace : ByteArray := prog_1_method_18_code
def yX10_isPlace : MethodName := ⟨RX10, "isPlace", "(I)Z"⟩
def RX11 : String := "PipeForgeModel"
def TX11 : u_T := fun k => match k with
  | 0 => ("PipeForgeModel", "text", "[I", true)
  | 1 => ("PipeForgeModel", "signs", "I", false)
  | 2 => ("PipeForgeModel", "stages", "I", false)
  | 3 => ("PipeForgeModel", "stageOf", "[I", true)
  | 4 => ("PipeForgeModel", "given", "I", false)
  | 5 => ("PipeForgeModel", "kinds", "[I", true)
  | 6 => ("PipeForgeModel", "ds", "[I", true)
  | 7 => ("PipeForgeModel", "as", "[I", true)
  | 8 => ("PipeForgeModel", "bs", "[I", true)
  | 9 => ("PipeForgeModel", "is", "[I", true)
  | 10 => ("PipeForgeModel", "size", "I", false)
  | 11 => ("PipeForgeModel", "base", "[I", true)
  | 12 => ("PipeForgeModel", "latencies", "[I", true)
  | 13 => ("PipeForgeModel", "threads", "[I", true)
  | 14 => ("PipeForgeModel", "has", "[Z", true)
  | 15 => ("PipeForgeModel", "oneValues", "[I", true)
  | 16 => ("PipeForgeModel", "twoValues", "[I", true)
  | 17 => ("PipeForgeModel", "results", "[I", true)
  | 18 => ("PipeForgeModel", "asked", "[I", true)
  | 19 => ("PipeForgeModel", "fired", "[I", true)
  | 20 => ("PipeForgeModel", "now", "I", false)
  | 21 => ("PipeForgeModel", "over", "Z", false)
  | 22 => ("PipeForgeModel", "next", "I", false)
  | 23 => ("PipeForgeModel", "gone", "I", false)
  | 24 => ("PipeForgeModel", "registers", "[I", true)
  | 25 => ("PipeForgeModel", "when", "[I", true)
  | 26 => ("PipeForgeModel", "cells", "[I", true)
  | 27 => ("PipeForgeModel", "stored", "Z", false)
  | 28 => ("PipeForgeModel", "commitKinds", "[I", true)
  | 29 => ("PipeForgeModel", "commitPlaces", "[I", true)
  | 30 => ("PipeForgeModel", "commitValues", "[I", true)
  | 31 => ("PipeForgeModel", "commitCycles", "[I", true)
  | 32 => ("PipeForgeModel", "commitCount", "I", false)
  | 33 => ("PipeForgeModel", "found", "[I", true)
  | 34 => ("PipeForgeModel", "plainRegisters", "[I", true)
  | _ => ("PipeForgeModel", "plainCells", "[I", true)
def tyX11 : Nat → FieldType := fun k => match k with
  | 0 => .array .int
  | 1 => .int
  | 2 => .int
  | 3 => .array .int
  | 4 => .int
  | 5 => .array .int
  | 6 => .array .int
  | 7 => .array .int
  | 8 => .array .int
  | 9 => .array .int
  | 10 => .int
  | 11 => .array .int
  | 12 => .array .int
  | 13 => .array .int
  | 14 => .array .boolean
  | 15 => .array .int
  | 16 => .array .int
  | 17 => .array .int
  | 18 => .array .int
  | 19 => .array .int
  | 20 => .int
  | 21 => .boolean
  | 22 => .int
  | 23 => .int
  | 24 => .array .int
  | 25 => .array .int
  | 26 => .array .int
  | 27 => .boolean
  | 28 => .array .int
  | 29 => .array .int
  | 30 => .array .int
  | 31 => .array .int
  | 32 => .int
  | 33 => .array .int
  | 34 => .array .int
  | _ => .array .int
theorem nmX11 : ∀ a, a < 36 → ∀ b, b < 36 → a ≠ b → (TX11 a).2.1 ≠ (TX11 b).2.1 := by decide +kernel
theorem tyX11_ok : ∀ k, k < 36 → parseFieldDescriptor (TX11 k).2.2.1 = some (tyX11 k) := by decide +kernel
abbrev cX11_init : ByteArray := prog_13_method_1_code
def yX11_init : MethodName := ⟨RX11, "<init>", "()V"⟩
abbrev cX11_anew : ByteArray := prog_13_method_2_code
def yX11_anew : MethodName := ⟨RX11, "anew", "()V"⟩
abbrev cX11_isIn : ByteArray := prog_13_method_3_code
def yX11_isIn : MethodName := ⟨RX11, "isIn", "(III)Z"⟩
abbrev cX11_unit : ByteArray := prog_13_method_4_code
def yX11_unit : MethodName := ⟨RX11, "unit", "(I)Z"⟩
abbrev cX11_actionOf : ByteArray := prog_13_method_5_code
def yX11_actionOf : MethodName := ⟨RX11, "actionOf", "(I)I"⟩
abbrev cX11_line : ByteArray := prog_13_method_6_code
def yX11_line : MethodName := ⟨RX11, "line", "()I"⟩
abbrev cX11_code : ByteArray := prog_13_method_7_code
def yX11_code : MethodName := ⟨RX11, "code", "(IIIII)I"⟩
abbrev cX11_memory : ByteArray := prog_13_method_8_code
def yX11_memory : MethodName := ⟨RX11, "memory", "(II)Z"⟩
abbrev cX11_latency : ByteArray := prog_13_method_9_code
def yX11_latency : MethodName := ⟨RX11, "latency", "(II)Z"⟩
abbrev cX11_kindOf : ByteArray := prog_13_method_10_code
def yX11_kindOf : MethodName := ⟨RX11, "kindOf", "(I)I"⟩
abbrev cX11_commitsRegister : ByteArray := prog_13_method_11_code
def yX11_commitsRegister : MethodName := ⟨RX11, "commitsRegister", "(II)Z"⟩
abbrev cX11_giver : ByteArray := prog_13_method_12_code
def yX11_giver : MethodName := ⟨RX11, "giver", "(II)I"⟩
abbrev cX11_isReady : ByteArray := prog_13_method_13_code
def yX11_isReady : MethodName := ⟨RX11, "isReady", "(II)Z"⟩
abbrev cX11_read : ByteArray := prog_13_method_14_code
def yX11_read : MethodName := ⟨RX11, "read", "(II)I"⟩
abbrev cX11_readsOne : ByteArray := prog_13_method_15_code
def yX11_readsOne : MethodName := ⟨RX11, "readsOne", "(I)Z"⟩
abbrev cX11_readsTwo : ByteArray := prog_13_method_16_code
def yX11_readsTwo : MethodName := ⟨RX11, "readsTwo", "(I)Z"⟩
abbrev cX11_hasOlderStore : ByteArray := prog_13_method_17_code
def yX11_hasOlderStore : MethodName := ⟨RX11, "hasOlderStore", "(I)Z"⟩
abbrev cX11_placeOf : ByteArray := prog_13_method_18_code
def yX11_placeOf : MethodName := ⟨RX11, "placeOf", "(I)I"⟩
abbrev cX11_fires : ByteArray := prog_13_method_19_code
def yX11_fires : MethodName := ⟨RX11, "fires", "(I)Z"⟩
abbrev cX11_workOut : ByteArray := prog_13_method_20_code
def yX11_workOut : MethodName := ⟨RX11, "workOut", "(III)V"⟩
abbrev cX11_commitOne : ByteArray := prog_13_method_21_code
def yX11_commitOne : MethodName := ⟨RX11, "commitOne", "(III)V"⟩
abbrev cX11_commitAll : ByteArray := prog_13_method_22_code
def yX11_commitAll : MethodName := ⟨RX11, "commitAll", "(III)V"⟩
abbrev cX11_fire : ByteArray := prog_13_method_23_code
def yX11_fire : MethodName := ⟨RX11, "fire", "(I)V"⟩
abbrev cX11_oneCycle : ByteArray := prog_13_method_24_code
def yX11_oneCycle : MethodName := ⟨RX11, "oneCycle", "()V"⟩
abbrev cX11_run : ByteArray := prog_13_method_25_code
def yX11_run : MethodName := ⟨RX11, "run", "(I)I"⟩
abbrev cX11_cycle : ByteArray := prog_13_method_26_code
def yX11_cycle : MethodName := ⟨RX11, "cycle", "()I"⟩
abbrev cX11_ended : ByteArray := prog_13_method_27_code
def yX11_ended : MethodName := ⟨RX11, "ended", "()Z"⟩
abbrev cX11_commits : ByteArray := prog_13_method_28_code
def yX11_commits : MethodName := ⟨RX11, "commits", "()I"⟩
abbrev cX11_commit : ByteArray := prog_13_method_29_code
def yX11_commit : MethodName := ⟨RX11, "commit", "(II)I"⟩
abbrev cX11_register : ByteArray := prog_13_method_30_code
def yX11_register : MethodName := ⟨RX11, "register", "(I)I"⟩
abbrev cX11_place : ByteArray := prog_13_method_31_code
def yX11_place : MethodName := ⟨RX11, "place", "(I)I"⟩
abbrev cX11_retired : ByteArray := prog_13_method_32_code
def yX11_retired : MethodName := ⟨RX11, "retired", "()I"⟩
abbrev cX11_faithful : ByteArray := prog_13_method_33_code
def yX11_faithful : MethodName := ⟨RX11, "faithful", "()Z"⟩
abbrev cX11_told : ByteArray := prog_13_method_34_code
def yX11_told : MethodName := ⟨RX11, "told", "(I)I"⟩
def RJ9 : String := "java/lang/Math"
def TJ9 : u_T := fun k => match k with
  | _ => ("", "", "", false)
def tyJ9 : Nat → FieldType := fun k => match k with
  | _ => .int
theorem nmJ9 : ∀ a, a < 0 → ∀ b, b < 0 → a ≠ b → (TJ9 a).2.1 ≠ (TJ9 b).2.1 := by decide +kernel
theorem tyJ9_ok : ∀ k, k < 0 → parseFieldDescriptor (TJ9 k).2.2.1 = some (tyJ9 k) := by decide +kernel
abbrev cJ9_floorMod_7cf53 : ByteArray := prog_14_method_50_code
def yJ9_floorMod_7cf53 : MethodName := ⟨RJ9, "floorMod", "(II)I"⟩
abbrev cJ9_max_7cf53 : ByteArray := prog_14_method_65_code
def yJ9_max_7cf53 : MethodName := ⟨RJ9, "max", "(II)I"⟩
def RJ0 : String := "java/lang/String"
def TJ0 : u_T := fun k => match k with
  | _ => ("", "", "", false)
def tyJ0 : Nat → FieldType := fun k => match k with
  | _ => .int
theorem nmJ0 : ∀ a, a < 0 → ∀ b, b < 0 → a ≠ b → (TJ0 a).2.1 ≠ (TJ0 b).2.1 := by decide +kernel
theorem tyJ0_ok : ∀ k, k < 0 → parseFieldDescriptor (TJ0 k).2.2.1 = some (tyJ0 k) := by decide +kernel
abbrev cJ0_length_8abf5 : ByteArray := prog_15_method_54_code
def yJ0_length_8abf5 : MethodName := ⟨RJ0, "length", "()I"⟩
abbrev cJ0_charAt_5068e : ByteArray := prog_15_method_56_code
def yJ0_charAt_5068e : MethodName := ⟨RJ0, "charAt", "(I)C"⟩
abbrev cJ0_coder_7d493 : ByteArray := prog_15_method_152_code
def yJ0_coder_7d493 : MethodName := ⟨RJ0, "coder", "()B"⟩
abbrev cJ0_isLatin1_aae02 : ByteArray := prog_15_method_154_code
def yJ0_isLatin1_aae02 : MethodName := ⟨RJ0, "isLatin1", "()Z"⟩
abbrev cJ0_checkIndex_df160 : ByteArray := prog_15_method_155_code
def yJ0_checkIndex_df160 : MethodName := ⟨RJ0, "checkIndex", "(II)V"⟩
def RJ1 : String := "java/lang/StringLatin1"
def TJ1 : u_T := fun k => match k with
  | _ => ("", "", "", false)
def tyJ1 : Nat → FieldType := fun k => match k with
  | _ => .int
theorem nmJ1 : ∀ a, a < 0 → ∀ b, b < 0 → a ≠ b → (TJ1 a).2.1 ≠ (TJ1 b).2.1 := by decide +kernel
theorem tyJ1_ok : ∀ k, k < 0 → parseFieldDescriptor (TJ1 k).2.2.1 = some (tyJ1 k) := by decide +kernel
abbrev cJ1_charAt_3b067 : ByteArray := prog_16_method_2_code
def yJ1_charAt_3b067 : MethodName := ⟨RJ1, "charAt", "([BI)C"⟩
def RJ2 : String := "java/lang/StringUTF16"
def TJ2 : u_T := fun k => match k with
  | _ => ("", "", "", false)
def tyJ2 : Nat → FieldType := fun k => match k with
  | _ => .int
theorem nmJ2 : ∀ a, a < 0 → ∀ b, b < 0 → a ≠ b → (TJ2 a).2.1 ≠ (TJ2 b).2.1 := by decide +kernel
theorem tyJ2_ok : ∀ k, k < 0 → parseFieldDescriptor (TJ2 k).2.2.1 = some (tyJ2 k) := by decide +kernel
abbrev cJ2_getChar_3b067 : ByteArray := prog_17_method_5_code
def yJ2_getChar_3b067 : MethodName := ⟨RJ2, "getChar", "([BI)C"⟩
abbrev cJ2_length_9d52b : ByteArray := prog_17_method_6_code
def yJ2_length_9d52b : MethodName := ⟨RJ2, "length", "([B)I"⟩
abbrev cJ2_charAt_3b067 : ByteArray := prog_17_method_83_code
def yJ2_charAt_3b067 : MethodName := ⟨RJ2, "charAt", "([BI)C"⟩
abbrev cJ2_checkIndex_2214a : ByteArray := prog_17_method_91_code
def yJ2_checkIndex_2214a : MethodName := ⟨RJ2, "checkIndex", "(I[B)V"⟩
def RJ10 : String := "java/lang/System"
def TJ10 : u_T := fun k => match k with
  | _ => ("", "", "", false)
def tyJ10 : Nat → FieldType := fun k => match k with
  | _ => .int
theorem nmJ10 : ∀ a, a < 0 → ∀ b, b < 0 → a ≠ b → (TJ10 a).2.1 ≠ (TJ10 b).2.1 := by decide +kernel
theorem tyJ10_ok : ∀ k, k < 0 → parseFieldDescriptor (TJ10 k).2.2.1 = some (tyJ10 k) := by decide +kernel
def RJ7 : String := "java/util/Arrays"
def TJ7 : u_T := fun k => match k with
  | _ => ("", "", "", false)
def tyJ7 : Nat → FieldType := fun k => match k with
  | _ => .int
theorem nmJ7 : ∀ a, a < 0 → ∀ b, b < 0 → a ≠ b → (TJ7 a).2.1 ≠ (TJ7 b).2.1 := by decide +kernel
theorem tyJ7_ok : ∀ k, k < 0 → parseFieldDescriptor (TJ7 k).2.2.1 = some (tyJ7 k) := by decide +kernel
abbrev cJ7_fill_53178 : ByteArray := prog_19_method_103_code
def yJ7_fill_53178 : MethodName := ⟨RJ7, "fill", "([II)V"⟩
def RJ3 : String := "jdk/internal/util/Preconditions"
def TJ3 : u_T := fun k => match k with
  | _ => ("", "", "", false)
def tyJ3 : Nat → FieldType := fun k => match k with
  | _ => .int
theorem nmJ3 : ∀ a, a < 0 → ∀ b, b < 0 → a ≠ b → (TJ3 a).2.1 ≠ (TJ3 b).2.1 := by decide +kernel
theorem tyJ3_ok : ∀ k, k < 0 → parseFieldDescriptor (TJ3 k).2.2.1 = some (tyJ3 k) := by decide +kernel
abbrev cJ3_checkIndex_8e157 : ByteArray := prog_20_method_11_code
def yJ3_checkIndex_8e157 : MethodName := ⟨RJ3, "checkIndex", "(IILjava/util/function/BiFunction;)I"⟩
def RL : String := "PipeForgeLaw"
abbrev cL_law : ByteArray := code
def yL_law : MethodName := ⟨RL, "law", "([I)Z"⟩
abbrev vwCl : List vw_C := [(RX0, TX0, 3), (RX1, TX1, 2), (RX2, TX2, 5), (RX3, TX3, 2), (RX4, TX4, 4), (RX5, TX5, 7), (RX6, TX6, 3), (RX7, TX7, 12), (RX8, TX8, 3), (RX9, TX9, 2), (RX10, TX10, 9), (RX11, TX11, 36)]
end
section
/-! THE MEMORY: shapes T, numbers I, references P over the addresses from b on; a walk over it (mJ), a contract over it (mMet) -/
abbrev mT : Type := Nat → Option (Nat × Nat × Nat)
abbrev mI : Type := Nat → Nat → Int32
abbrev mP : Type := Nat → Nat → Option Nat
def mu {α : Type} (f : Nat → Nat → α) (a k : Nat) (v : α) : Nat → Nat → α := fun x y => if x = a ∧ y = k then v else f x y
theorem mu_eq {α : Type} (f : Nat → Nat → α) (a k : Nat) (v : α) : mu f a k v a k = v := by simp [mu]
theorem mu_na {α : Type} (f : Nat → Nat → α) {a x : Nat} (k : Nat) (v : α) (h : x ≠ a) (y : Nat) : mu f a k v x y = f x y := by simp [mu, h]
theorem mu_ns {α : Type} (f : Nat → Nat → α) (a : Nat) {k y : Nat} (v : α) (h : y ≠ k) (x : Nat) : mu f a k v x y = f x y := by simp [mu, h]
theorem mu_row {α : Type} (f : Nat → Nat → α) {a x : Nat} (k : Nat) (v : α) (h : x ≠ a) : mu f a k v x = f x := by funext y; exact mu_na f k v h y
def mv (ty : FieldType) (x : Int32) (r : Option Nat) : Value := match ty with
  | .object _ => va_rf r
  | .array _ => va_rf r
  | _ => .int x
/-- a cell of a shape: 0 an object of class number sh.2.1; 1 a row of ints; 2 a row of booleans; j + 3 a row of references to objects of class number j -/
def mC (D : va_G) (cl : List vw_C) (ty : Nat → Nat → FieldType) (s : State) (sh : Nat × Nat × Nat) (f : Nat → Int32) (r : Nat → Option Nat) (a : Nat) (H : Heap) : Prop :=
  match sh.1 with
  | 0 => ∃ q : vw_C, cl[sh.2.1]? = some q ∧ t_OB a (D.1 sh.2.1) q.2.2 (D.2 sh.2.1) H (fun k => mv (ty sh.2.1 k) (f k) (r k))
  | 1 => ∃ cA : ClassId, (ArrOfT s cA .int ∧ va_RA s cA .int) ∧ H[a]? = some (arrV cA sh.2.2 (fun j => .int (f j)))
  | 2 => ∃ cA : ClassId, (ArrOfT s cA .boolean ∧ va_RA s cA .boolean) ∧ H[a]? = some (arrV cA sh.2.2 (fun j => .int (f j)))
  | j + 3 => ∃ cA : ClassId, (∃ q : vw_C, cl[j]? = some q ∧ ArrOfT s cA (.object q.1) ∧ va_RA s cA (.object q.1)) ∧ H[a]? = some (arrV cA sh.2.2 (fun j => va_rf (r j)))
theorem mC.kept {D : va_G} {cl : List vw_C} {ty : Nat → Nat → FieldType} {s : State} {sh : Nat × Nat × Nat} {f : Nat → Int32} {r : Nat → Option Nat} {a : Nat} {H H1 : Heap} (h : mC D cl ty s sh f r a H) (hq : H1[a]? = H[a]?) : mC D cl ty s sh f r a H1 := by
  obtain ⟨k, c, n⟩ := sh
  match k, h with
  | 0, h => obtain ⟨q, h1, h2⟩ := h; exact ⟨q, h1, h2.kept hq⟩
  | 1, h => obtain ⟨cA, h1, h2⟩ := h; exact ⟨cA, h1, hq.trans h2⟩
  | 2, h => obtain ⟨cA, h1, h2⟩ := h; exact ⟨cA, h1, hq.trans h2⟩
  | k + 3, h => obtain ⟨cA, h1, h2⟩ := h; exact ⟨cA, h1, hq.trans h2⟩
theorem mC.lt {D : va_G} {cl : List vw_C} {ty : Nat → Nat → FieldType} {s : State} {sh : Nat × Nat × Nat} {f : Nat → Int32} {r : Nat → Option Nat} {a : Nat} {H : Heap} (h : mC D cl ty s sh f r a H) : a < H.size := by
  obtain ⟨k, c, n⟩ := sh
  match k, h with
  | 0, h => obtain ⟨q, h1, cell, h2, -⟩ := h; exact (Array.getElem?_eq_some_iff.mp h2).1
  | 1, h => obtain ⟨cA, h1, h2⟩ := h; exact (Array.getElem?_eq_some_iff.mp h2).1
  | 2, h => obtain ⟨cA, h1, h2⟩ := h; exact (Array.getElem?_eq_some_iff.mp h2).1
  | k + 3, h => obtain ⟨cA, h1, h2⟩ := h; exact (Array.getElem?_eq_some_iff.mp h2).1
theorem mC.moved {D : va_G} {cl : List vw_C} {ty : Nat → Nat → FieldType} {s U : State} {sh : Nat × Nat × Nat} {f : Nat → Int32} {r : Nat → Option Nat} {a : Nat} {H : Heap} (hvm : s.vm.Alike U.vm) (h : mC D cl ty s sh f r a H) : mC D cl ty U sh f r a H := by
  obtain ⟨k, c, n⟩ := sh
  match k, h with
  | 0, h => exact h
  | 1, h => obtain ⟨cA, h1, h2⟩ := h; exact ⟨cA, ⟨arrOfT_moved hvm h1.1, h1.2.moved hvm⟩, h2⟩
  | 2, h => obtain ⟨cA, h1, h2⟩ := h; exact ⟨cA, ⟨arrOfT_moved hvm h1.1, h1.2.moved hvm⟩, h2⟩
  | k + 3, h => obtain ⟨cA, ⟨q, g1, g2, g3⟩, h2⟩ := h; exact ⟨cA, ⟨q, g1, arrOfT_moved hvm g2, g3.moved hvm⟩, h2⟩
/-- the memory (T, I, P) is what the heap holds from b on -/
def mW (D : va_G) (cl : List vw_C) (ty : Nat → Nat → FieldType) (b : Nat) (T : mT) (I : mI) (P : mP) (s : State) (H : Heap) : Prop := ∀ (a : Nat) (sh : Nat × Nat × Nat), T a = some sh → b ≤ a ∧ mC D cl ty s sh (I a) (P a) a H
theorem mW.moved {D : va_G} {cl : List vw_C} {ty : Nat → Nat → FieldType} {b : Nat} {T : mT} {I : mI} {P : mP} {s U : State} {H : Heap} (hvm : s.vm.Alike U.vm) (h : mW D cl ty b T I P s H) : mW D cl ty b T I P U H := fun a sh ha => ⟨(h a sh ha).1, (h a sh ha).2.moved hvm⟩
/-- one cell has changed -/
theorem mW.put {D : va_G} {cl : List vw_C} {ty : Nat → Nat → FieldType} {b : Nat} {T : mT} {I I' : mI} {P P' : mP} {s : State} {H H1 : Heap} {a : Nat} {sh : Nat × Nat × Nat} (h : mW D cl ty b T I P s H) (ha : T a = some sh) (hI : ∀ x, x ≠ a → I' x = I x) (hP : ∀ x, x ≠ a → P' x = P x) (ho : ∀ q : Nat, q ≠ a → H1[q]? = H[q]?) (hc : mC D cl ty s sh (I' a) (P' a) a H1) : mW D cl ty b T I' P' s H1 := by
  intro x sx hx
  by_cases he : x = a
  · subst he
    obtain rfl : sh = sx := Option.some.inj (ha.symm.trans hx)
    exact ⟨(h x sh hx).1, hc⟩
  · rw [hI x he, hP x he]
    exact ⟨(h x sx hx).1, (h x sx hx).2.kept (ho x he)⟩
/-- one cell has come -/
theorem mW.new {D : va_G} {cl : List vw_C} {ty : Nat → Nat → FieldType} {b : Nat} {T : mT} {I I' : mI} {P P' : mP} {s : State} {H H1 : Heap} {sh : Nat × Nat × Nat} (h : mW D cl ty b T I P s H) (hb : b ≤ H.size) (hI : ∀ x, x ≠ H.size → I' x = I x) (hP : ∀ x, x ≠ H.size → P' x = P x) (ho : ∀ q : Nat, q < H.size → H1[q]? = H[q]?) (hc : mC D cl ty s sh (I' H.size) (P' H.size) H.size H1) : mW D cl ty b (fun x => if x = H.size then some sh else T x) I' P' s H1 := by
  intro x sx hx
  by_cases he : x = H.size
  · subst he
    simp at hx
    subst hx
    exact ⟨hb, hc⟩
  · simp [he] at hx
    rw [hI x he, hP x he]
    exact ⟨(h x sx hx).1, (h x sx hx).2.kept (ho x (h x sx hx).2.lt)⟩
def lvg : List (Nat × Value) → Nat → Option Value
  | [], _ => none
  | (j, v) :: r, i => bif Nat.beq j i then some v else lvg r i
theorem lvg_mem : ∀ {lv : List (Nat × Value)} {i : Nat} {v : Value}, lvg lv i = some v → (i, v) ∈ lv
  | [], _, _, h => by cases h
  | (j, w) :: r, i, v, h => by
    unfold lvg at h
    cases hb : Nat.beq j i with
    | true =>
      rw [hb] at h
      obtain rfl : j = i := Nat.eq_of_beq_eq_true hb
      obtain rfl : w = v := Option.some.inj h
      exact List.mem_cons_self
    | false =>
      rw [hb] at h
      exact List.mem_cons_of_mem _ (lvg_mem h)
theorem lvg_has {ls : Array Slot} {nL : Nat} {lv : List (Nat × Value)} (h : lv_has ls nL lv) {i : Nat} {v : Value} (hg : lvg lv i = some v) : ls[i]? = some (.val v) := h.2.2 (i, v) (lvg_mem hg)
abbrev lvs (lv : List (Nat × Value)) (i : Nat) (v : Value) : List (Nat × Value) := (i, v) :: lv.filter (fun q => !(q.1 == i) && !(q.1 + 1 == i && q.2.category == 2))
theorem lvg_sub {ls : Array Slot} {nL : Nat} {lv lv' : List (Nat × Value)} (h : lv_has ls nL lv) (hs : lv'.map (fun q => lvg lv q.1) = lv'.map (fun q => some q.2)) : lv_has ls nL lv' := by
  refine ⟨h.1, h.2.1, fun q hq => ?_⟩
  have h1 : lvg lv q.1 = some q.2 := by
    obtain ⟨i, hi⟩ := List.getElem?_of_mem hq
    have e := congrArg (fun l => l[i]?) hs
    simp only [List.getElem?_map, hi, Option.map_some] at e
    exact Option.some.inj e
  exact lvg_has h h1
/-- what is fixed in a method's walk -/
def mX (p : Program) (s : State) (m : MethodId) (meth : Method) (c : Code) (args : Array Value) (cc : ByteArray) (nL : Nat) (own : String) (ret : Option FieldType) (TT : List Cond) (NN : State → Prop) (D : va_G) (cl : List vw_C) (b : Nat) : Prop :=
  p.tables.exec = Jvm.exec ∧ c.code = cc ∧ c.maxLocals = nL ∧ s.vm.findClass own = some m.cls ∧ (∀ w ∈ TT, w.before args s = true) ∧ va_K D cl [] s ∧ b ≤ s.heap.size ∧ meth.sig.returnType = ret ∧ meth.locks = false ∧ NN s ∧ GoodIn TT TT ∧ (∀ u U : State, u.WarmedH U.vm → NN u → NN U)
/-- a class by its number: its fields, their types, its words -/
def mCl (cl : List vw_C) (ty : Nat → Nat → FieldType) (TT : List Cond) (ci : Nat) (C : String) (F : u_T) (N : Nat) : Prop :=
  cl[ci]? = some (C, F, N) ∧ (∀ w ∈ u_ws C F N, w ∈ TT) ∧ (∀ k, k < N → parseFieldDescriptor (F k).2.2.1 = some (ty ci k)) ∧ (∀ a, a < N → ∀ b, b < N → a ≠ b → (F a).2.1 ≠ (F b).2.1)
section MJ
variable {p : Program} {l : Launch} {e : Env} {R : Room} {s : State} {m : MethodId} {args : Array Value} {below : List Frame} {meth : Method} {c : Code}
variable {D : va_G} {cl : List vw_C} {ty : Nat → Nat → FieldType} {b nL : Nat} {Q : State → Prop} {cells slots : Nat} {T : mT} {I : mI} {P : mP} {lv : List (Nat × Value)} {pc : Nat} {rest : List Value}
variable {cc : ByteArray} {own : String} {ret : Option FieldType} {TT : List Cond} {NN : State → Prop}
/-- THE WALK: at pc, with these locals and this stack, over any heap that holds the memory, the machine comes to Q -/
def mJ (p : Program) (l : Launch) (e : Env) (R : Room) (s : State) (m : MethodId) (args : Array Value) (below : List Frame) (meth : Method) (c : Code) (D : va_G) (cl : List vw_C) (ty : Nat → Nat → FieldType) (b nL : Nat) (Q : State → Prop) (cells slots : Nat) (T : mT) (I : mI) (P : mP) (lv : List (Nat × Value)) (pc : Nat) (st : List Value) : Prop :=
  ∀ (H : Heap) (locs : List Loc) (ls : Array Slot), mW D cl ty b T I P s H → va_S (fun q => b ≤ q) s.heap H locs → lv_has ls nL lv → W p l e R s m args below meth c H locs cells slots Q (F0 m pc ls st)
theorem mJ_lv {st : List Value} (lv' : List (Nat × Value)) (hs : lv'.map (fun q => lvg lv q.1) = lv'.map (fun q => some q.2)) (k : mJ p l e R s m args below meth c D cl ty b nL Q cells slots T I P lv' pc st) : mJ p l e R s m args below meth c D cl ty b nL Q cells slots T I P lv pc st :=
  fun H locs ls h1 h2 h3 => k H locs ls h1 h2 (lvg_sub h3 hs)
theorem mJ_wide {st : List Value} {k n : Nat} (h1 : cells ≤ k) (h2 : slots ≤ n) (kk : mJ p l e R s m args below meth c D cl ty b nL Q k n T I P lv pc st) : mJ p l e R s m args below meth c D cl ty b nL Q cells slots T I P lv pc st :=
  fun H locs ls g1 g2 g3 => W.widen h1 h2 (kk H locs ls g1 g2 g3)
theorem mJ_iconst (X : mX p s m meth c args cc nL own ret TT NN D cl b) {n : Int} {v : Int32} (hd : decode cc pc = .ok (.iconst n, 1)) (hv : Int32.ofInt n = v) (k : mJ p l e R s m args below meth c D cl ty b nL Q cells slots T I P lv (pc + 1) (.int v :: rest)) : mJ p l e R s m args below meth c D cl ty b nL Q cells slots T I P lv pc (rest) := fun H locs ls h1 h2 h3 => lv_iconst X.1 X.2.1 hd hv (k H locs ls h1 h2 h3)
theorem mJ_bipush (X : mX p s m meth c args cc nL own ret TT NN D cl b) {n : Int} {v : Int32} (hd : decode cc pc = .ok (.bipush n, 2)) (hv : (Int8.ofInt n).toInt32 = v) (k : mJ p l e R s m args below meth c D cl ty b nL Q cells slots T I P lv (pc + 2) (.int v :: rest)) : mJ p l e R s m args below meth c D cl ty b nL Q cells slots T I P lv pc (rest) := fun H locs ls h1 h2 h3 => lv_bipush X.1 X.2.1 hd hv (k H locs ls h1 h2 h3)
theorem mJ_sipush (X : mX p s m meth c args cc nL own ret TT NN D cl b) {n : Int} {v : Int32} (hd : decode cc pc = .ok (.sipush n, 3)) (hv : (Int16.ofInt n).toInt32 = v) (k : mJ p l e R s m args below meth c D cl ty b nL Q cells slots T I P lv (pc + 3) (.int v :: rest)) : mJ p l e R s m args below meth c D cl ty b nL Q cells slots T I P lv pc (rest) := fun H locs ls h1 h2 h3 => lv_sipush X.1 X.2.1 hd hv (k H locs ls h1 h2 h3)
theorem mJ_iload_n (X : mX p s m meth c args cc nL own ret TT NN D cl b) {k : Fin 4} {i : Nat} {x : Int32} (hd : decode cc pc = .ok (.iload_n k, 1)) (hi : (k : Nat) = i) (hl : lvg lv i = some (.int x)) (k : mJ p l e R s m args below meth c D cl ty b nL Q cells slots T I P lv (pc + 1) (.int x :: rest)) : mJ p l e R s m args below meth c D cl ty b nL Q cells slots T I P lv pc (rest) := fun H locs ls h1 h2 h3 => lv_iload_n X.1 X.2.1 hd hi (lvg_has h3 hl) (k H locs ls h1 h2 h3)
theorem mJ_iload (X : mX p s m meth c args cc nL own ret TT NN D cl b) {i : Nat} {x : Int32} (hd : decode cc pc = .ok (.iload i, 2)) (hl : lvg lv i = some (.int x)) (k : mJ p l e R s m args below meth c D cl ty b nL Q cells slots T I P lv (pc + 2) (.int x :: rest)) : mJ p l e R s m args below meth c D cl ty b nL Q cells slots T I P lv pc (rest) := fun H locs ls h1 h2 h3 => lv_iload X.1 X.2.1 hd (lvg_has h3 hl) (k H locs ls h1 h2 h3)
theorem mJ_aload_n (X : mX p s m meth c args cc nL own ret TT NN D cl b) {k : Fin 4} {i : Nat} {x : Nat} (hd : decode cc pc = .ok (.aload_n k, 1)) (hi : (k : Nat) = i) (hl : lvg lv i = some (.ref x)) (k : mJ p l e R s m args below meth c D cl ty b nL Q cells slots T I P lv (pc + 1) (.ref x :: rest)) : mJ p l e R s m args below meth c D cl ty b nL Q cells slots T I P lv pc (rest) := fun H locs ls h1 h2 h3 => lv_aload_n X.1 X.2.1 hd hi (lvg_has h3 hl) (k H locs ls h1 h2 h3)
theorem mJ_aload (X : mX p s m meth c args cc nL own ret TT NN D cl b) {i : Nat} {x : Nat} (hd : decode cc pc = .ok (.aload i, 2)) (hl : lvg lv i = some (.ref x)) (k : mJ p l e R s m args below meth c D cl ty b nL Q cells slots T I P lv (pc + 2) (.ref x :: rest)) : mJ p l e R s m args below meth c D cl ty b nL Q cells slots T I P lv pc (rest) := fun H locs ls h1 h2 h3 => lv_aload X.1 X.2.1 hd (lvg_has h3 hl) (k H locs ls h1 h2 h3)
theorem mJ_iadd (X : mX p s m meth c args cc nL own ret TT NN D cl b) {x y : Int32} (hd : decode cc pc = .ok (.iadd, 1))  (k : mJ p l e R s m args below meth c D cl ty b nL Q cells slots T I P lv (pc + 1) (.int (x + y) :: rest)) : mJ p l e R s m args below meth c D cl ty b nL Q cells slots T I P lv pc (.int y :: .int x :: rest) := fun H locs ls h1 h2 h3 => lv_iadd X.1 X.2.1 hd (k H locs ls h1 h2 h3)
theorem mJ_isub (X : mX p s m meth c args cc nL own ret TT NN D cl b) {x y : Int32} (hd : decode cc pc = .ok (.isub, 1))  (k : mJ p l e R s m args below meth c D cl ty b nL Q cells slots T I P lv (pc + 1) (.int (x - y) :: rest)) : mJ p l e R s m args below meth c D cl ty b nL Q cells slots T I P lv pc (.int y :: .int x :: rest) := fun H locs ls h1 h2 h3 => lv_isub X.1 X.2.1 hd (k H locs ls h1 h2 h3)
theorem mJ_imul (X : mX p s m meth c args cc nL own ret TT NN D cl b) {x y : Int32} (hd : decode cc pc = .ok (.imul, 1))  (k : mJ p l e R s m args below meth c D cl ty b nL Q cells slots T I P lv (pc + 1) (.int (x * y) :: rest)) : mJ p l e R s m args below meth c D cl ty b nL Q cells slots T I P lv pc (.int y :: .int x :: rest) := fun H locs ls h1 h2 h3 => lv_imul X.1 X.2.1 hd (k H locs ls h1 h2 h3)
theorem mJ_iand (X : mX p s m meth c args cc nL own ret TT NN D cl b) {x y : Int32} (hd : decode cc pc = .ok (.iand, 1))  (k : mJ p l e R s m args below meth c D cl ty b nL Q cells slots T I P lv (pc + 1) (.int (x &&& y) :: rest)) : mJ p l e R s m args below meth c D cl ty b nL Q cells slots T I P lv pc (.int y :: .int x :: rest) := fun H locs ls h1 h2 h3 => lv_iand X.1 X.2.1 hd (k H locs ls h1 h2 h3)
theorem mJ_ior (X : mX p s m meth c args cc nL own ret TT NN D cl b) {x y : Int32} (hd : decode cc pc = .ok (.ior, 1))  (k : mJ p l e R s m args below meth c D cl ty b nL Q cells slots T I P lv (pc + 1) (.int (x ||| y) :: rest)) : mJ p l e R s m args below meth c D cl ty b nL Q cells slots T I P lv pc (.int y :: .int x :: rest) := fun H locs ls h1 h2 h3 => lv_ior X.1 X.2.1 hd (k H locs ls h1 h2 h3)
theorem mJ_ixor (X : mX p s m meth c args cc nL own ret TT NN D cl b) {x y : Int32} (hd : decode cc pc = .ok (.ixor, 1))  (k : mJ p l e R s m args below meth c D cl ty b nL Q cells slots T I P lv (pc + 1) (.int (x ^^^ y) :: rest)) : mJ p l e R s m args below meth c D cl ty b nL Q cells slots T I P lv pc (.int y :: .int x :: rest) := fun H locs ls h1 h2 h3 => lv_ixor X.1 X.2.1 hd (k H locs ls h1 h2 h3)
theorem mJ_idiv (X : mX p s m meth c args cc nL own ret TT NN D cl b) {x y : Int32} (hd : decode cc pc = .ok (.idiv, 1)) (hne : ¬ y = 0) (k : mJ p l e R s m args below meth c D cl ty b nL Q cells slots T I P lv (pc + 1) (.int (x / y) :: rest)) : mJ p l e R s m args below meth c D cl ty b nL Q cells slots T I P lv pc (.int y :: .int x :: rest) := fun H locs ls h1 h2 h3 => lv_idiv X.1 X.2.1 hd hne (k H locs ls h1 h2 h3)
theorem mJ_irem (X : mX p s m meth c args cc nL own ret TT NN D cl b) {x y : Int32} (hd : decode cc pc = .ok (.irem, 1)) (hne : ¬ y = 0) (k : mJ p l e R s m args below meth c D cl ty b nL Q cells slots T I P lv (pc + 1) (.int (x - x / y * y) :: rest)) : mJ p l e R s m args below meth c D cl ty b nL Q cells slots T I P lv pc (.int y :: .int x :: rest) := fun H locs ls h1 h2 h3 => lv_irem X.1 X.2.1 hd hne (k H locs ls h1 h2 h3)
theorem mJ_ineg (X : mX p s m meth c args cc nL own ret TT NN D cl b) {x : Int32} (hd : decode cc pc = .ok (.ineg, 1))  (k : mJ p l e R s m args below meth c D cl ty b nL Q cells slots T I P lv (pc + 1) (.int (-x) :: rest)) : mJ p l e R s m args below meth c D cl ty b nL Q cells slots T I P lv pc (.int x :: rest) := fun H locs ls h1 h2 h3 => lv_ineg X.1 X.2.1 hd (k H locs ls h1 h2 h3)
theorem mJ_dup (X : mX p s m meth c args cc nL own ret TT NN D cl b) {va : Value} (hd : decode cc pc = .ok (.dup, 1)) (hva : va.category = 1) (k : mJ p l e R s m args below meth c D cl ty b nL Q cells slots T I P lv (pc + 1) (va :: va :: rest)) : mJ p l e R s m args below meth c D cl ty b nL Q cells slots T I P lv pc (va :: rest) := fun H locs ls h1 h2 h3 => lv_dup X.1 X.2.1 hd hva (k H locs ls h1 h2 h3)
theorem mJ_pop (X : mX p s m meth c args cc nL own ret TT NN D cl b) {va : Value} (hd : decode cc pc = .ok (.pop, 1)) (hva : va.category = 1) (k : mJ p l e R s m args below meth c D cl ty b nL Q cells slots T I P lv (pc + 1) (rest)) : mJ p l e R s m args below meth c D cl ty b nL Q cells slots T I P lv pc (va :: rest) := fun H locs ls h1 h2 h3 => lv_pop X.1 X.2.1 hd hva (k H locs ls h1 h2 h3)
theorem mJ_dup_x1 (X : mX p s m meth c args cc nL own ret TT NN D cl b) {va vb : Value} (hd : decode cc pc = .ok (.dup_x1, 1)) (hva : va.category = 1) (hvb : vb.category = 1) (k : mJ p l e R s m args below meth c D cl ty b nL Q cells slots T I P lv (pc + 1) (va :: vb :: va :: rest)) : mJ p l e R s m args below meth c D cl ty b nL Q cells slots T I P lv pc (va :: vb :: rest) := fun H locs ls h1 h2 h3 => lv_dup_x1 X.1 X.2.1 hd hva hvb (k H locs ls h1 h2 h3)
theorem mJ_dup2 (X : mX p s m meth c args cc nL own ret TT NN D cl b) {va vb : Value} (hd : decode cc pc = .ok (.dup2, 1)) (hva : va.category = 1) (hvb : vb.category = 1) (k : mJ p l e R s m args below meth c D cl ty b nL Q cells slots T I P lv (pc + 1) (va :: vb :: va :: vb :: rest)) : mJ p l e R s m args below meth c D cl ty b nL Q cells slots T I P lv pc (va :: vb :: rest) := fun H locs ls h1 h2 h3 => lv_dup2_11 X.1 X.2.1 hd hva hvb (k H locs ls h1 h2 h3)
theorem mJ_ldc (X : mX p s m meth c args cc nL own ret TT NN D cl b) {index : Nat} {v : Int32} (hd : decode cc pc = .ok (.ldc index, 2)) (hc : Jvm.Cond.constant own index v ∈ TT) (k : mJ p l e R s m args below meth c D cl ty b nL Q cells slots T I P lv (pc + 2) (.int v :: rest)) : mJ p l e R s m args below meth c D cl ty b nL Q cells slots T I P lv pc (rest) := fun H locs ls h1 h2 h3 => lv_ldc X.1 X.2.1 X.2.2.2.1 (X.2.2.2.2.1 _ hc) hd (k H locs ls h1 h2 h3)
theorem mJ_istore_n (X : mX p s m meth c args cc nL own ret TT NN D cl b) {k : Fin 4} {i : Nat} {x : Int32} (hd : decode cc pc = .ok (.istore_n k, 1)) (hi : (k : Nat) = i) (hn : i < nL) (k : mJ p l e R s m args below meth c D cl ty b nL Q cells slots T I P (lvs lv i (.int x)) (pc + 1) rest) : mJ p l e R s m args below meth c D cl ty b nL Q cells slots T I P lv pc (.int x :: rest) := fun H locs ls h1 h2 h3 => lv_istore_n X.1 X.2.1 hd hi h3 hn rfl (fun ls' h4 => k H locs ls' h1 h2 h4)
theorem mJ_istore (X : mX p s m meth c args cc nL own ret TT NN D cl b) {i : Nat} {x : Int32} (hd : decode cc pc = .ok (.istore i, 2)) (hn : i < nL) (k : mJ p l e R s m args below meth c D cl ty b nL Q cells slots T I P (lvs lv i (.int x)) (pc + 2) rest) : mJ p l e R s m args below meth c D cl ty b nL Q cells slots T I P lv pc (.int x :: rest) := fun H locs ls h1 h2 h3 => lv_istore X.1 X.2.1 hd h3 hn rfl (fun ls' h4 => k H locs ls' h1 h2 h4)
theorem mJ_astore_n (X : mX p s m meth c args cc nL own ret TT NN D cl b) {k : Fin 4} {i : Nat} {x : Nat} (hd : decode cc pc = .ok (.astore_n k, 1)) (hi : (k : Nat) = i) (hn : i < nL) (k : mJ p l e R s m args below meth c D cl ty b nL Q cells slots T I P (lvs lv i (.ref x)) (pc + 1) rest) : mJ p l e R s m args below meth c D cl ty b nL Q cells slots T I P lv pc (.ref x :: rest) := fun H locs ls h1 h2 h3 => lv_astore_n X.1 X.2.1 hd hi h3 hn rfl (fun ls' h4 => k H locs ls' h1 h2 h4)
theorem mJ_astore (X : mX p s m meth c args cc nL own ret TT NN D cl b) {i : Nat} {x : Nat} (hd : decode cc pc = .ok (.astore i, 2)) (hn : i < nL) (k : mJ p l e R s m args below meth c D cl ty b nL Q cells slots T I P (lvs lv i (.ref x)) (pc + 2) rest) : mJ p l e R s m args below meth c D cl ty b nL Q cells slots T I P lv pc (.ref x :: rest) := fun H locs ls h1 h2 h3 => lv_astore X.1 X.2.1 hd h3 hn rfl (fun ls' h4 => k H locs ls' h1 h2 h4)
theorem lvg_at : ∀ {lv : List (Nat × Value)} {i : Nat} {v : Value}, lvg lv i = some v → ∃ k : Nat, lv[k]? = some (i, v) := fun h => List.getElem?_of_mem (lvg_mem h)
theorem mJ_iinc (X : mX p s m meth c args cc nL own ret TT NN D cl b) {i : Nat} {n : Int} {x v : Int32} (hd : decode cc pc = .ok (.iinc i n, 3)) (hl : lvg lv i = some (.int x)) (hv : x + Int32.ofInt n = v) (hn : i < nL) (k : mJ p l e R s m args below meth c D cl ty b nL Q cells slots T I P (lvs lv i (.int v)) (pc + 3) rest) : mJ p l e R s m args below meth c D cl ty b nL Q cells slots T I P lv pc rest := fun H locs ls h1 h2 h3 => by
  obtain ⟨q, hq⟩ := lvg_at hl
  exact lv_iinc X.1 X.2.1 hd h3 hq hv hn rfl (fun ls' h4 => k H locs ls' h1 h2 h4)
theorem mJ_icmp_eq (X : mX p s m meth c args cc nL own ret TT NN D cl b) {x y : Int32} {off : Int} {tgt : Nat} (hd : decode cc pc = .ok (.if_icmp .eq off, 3)) (ht : (pc : Int) + off = (tgt : Int)) (kt : x = y → mJ p l e R s m args below meth c D cl ty b nL Q cells slots T I P lv tgt rest) (kf : ¬ x = y → mJ p l e R s m args below meth c D cl ty b nL Q cells slots T I P lv (pc + 3) rest) : mJ p l e R s m args below meth c D cl ty b nL Q cells slots T I P lv pc (.int y :: .int x :: rest) := fun H locs ls h1 h2 h3 => lv_icmp_eq X.1 X.2.1 hd ht (fun q => kt q H locs ls h1 h2 h3) (fun q => kf q H locs ls h1 h2 h3)
theorem mJ_if_eq (X : mX p s m meth c args cc nL own ret TT NN D cl b) {x : Int32} {off : Int} {tgt : Nat} (hd : decode cc pc = .ok (.ifCond .eq off, 3)) (ht : (pc : Int) + off = (tgt : Int)) (kt : x = 0 → mJ p l e R s m args below meth c D cl ty b nL Q cells slots T I P lv tgt rest) (kf : ¬ x = 0 → mJ p l e R s m args below meth c D cl ty b nL Q cells slots T I P lv (pc + 3) rest) : mJ p l e R s m args below meth c D cl ty b nL Q cells slots T I P lv pc (.int x :: rest) := fun H locs ls h1 h2 h3 => lv_if_eq X.1 X.2.1 hd ht (fun q => kt q H locs ls h1 h2 h3) (fun q => kf q H locs ls h1 h2 h3)
theorem mJ_icmp_ne (X : mX p s m meth c args cc nL own ret TT NN D cl b) {x y : Int32} {off : Int} {tgt : Nat} (hd : decode cc pc = .ok (.if_icmp .ne off, 3)) (ht : (pc : Int) + off = (tgt : Int)) (kt : ¬ x = y → mJ p l e R s m args below meth c D cl ty b nL Q cells slots T I P lv tgt rest) (kf : x = y → mJ p l e R s m args below meth c D cl ty b nL Q cells slots T I P lv (pc + 3) rest) : mJ p l e R s m args below meth c D cl ty b nL Q cells slots T I P lv pc (.int y :: .int x :: rest) := fun H locs ls h1 h2 h3 => lv_icmp_ne X.1 X.2.1 hd ht (fun q => kt q H locs ls h1 h2 h3) (fun q => kf q H locs ls h1 h2 h3)
theorem mJ_if_ne (X : mX p s m meth c args cc nL own ret TT NN D cl b) {x : Int32} {off : Int} {tgt : Nat} (hd : decode cc pc = .ok (.ifCond .ne off, 3)) (ht : (pc : Int) + off = (tgt : Int)) (kt : ¬ x = 0 → mJ p l e R s m args below meth c D cl ty b nL Q cells slots T I P lv tgt rest) (kf : x = 0 → mJ p l e R s m args below meth c D cl ty b nL Q cells slots T I P lv (pc + 3) rest) : mJ p l e R s m args below meth c D cl ty b nL Q cells slots T I P lv pc (.int x :: rest) := fun H locs ls h1 h2 h3 => lv_if_ne X.1 X.2.1 hd ht (fun q => kt q H locs ls h1 h2 h3) (fun q => kf q H locs ls h1 h2 h3)
theorem mJ_icmp_lt (X : mX p s m meth c args cc nL own ret TT NN D cl b) {x y : Int32} {off : Int} {tgt : Nat} (hd : decode cc pc = .ok (.if_icmp .lt off, 3)) (ht : (pc : Int) + off = (tgt : Int)) (kt : x < y → mJ p l e R s m args below meth c D cl ty b nL Q cells slots T I P lv tgt rest) (kf : ¬ x < y → mJ p l e R s m args below meth c D cl ty b nL Q cells slots T I P lv (pc + 3) rest) : mJ p l e R s m args below meth c D cl ty b nL Q cells slots T I P lv pc (.int y :: .int x :: rest) := fun H locs ls h1 h2 h3 => lv_icmp_lt X.1 X.2.1 hd ht (fun q => kt q H locs ls h1 h2 h3) (fun q => kf q H locs ls h1 h2 h3)
theorem mJ_if_lt (X : mX p s m meth c args cc nL own ret TT NN D cl b) {x : Int32} {off : Int} {tgt : Nat} (hd : decode cc pc = .ok (.ifCond .lt off, 3)) (ht : (pc : Int) + off = (tgt : Int)) (kt : x < 0 → mJ p l e R s m args below meth c D cl ty b nL Q cells slots T I P lv tgt rest) (kf : ¬ x < 0 → mJ p l e R s m args below meth c D cl ty b nL Q cells slots T I P lv (pc + 3) rest) : mJ p l e R s m args below meth c D cl ty b nL Q cells slots T I P lv pc (.int x :: rest) := fun H locs ls h1 h2 h3 => lv_if_lt X.1 X.2.1 hd ht (fun q => kt q H locs ls h1 h2 h3) (fun q => kf q H locs ls h1 h2 h3)
theorem mJ_icmp_ge (X : mX p s m meth c args cc nL own ret TT NN D cl b) {x y : Int32} {off : Int} {tgt : Nat} (hd : decode cc pc = .ok (.if_icmp .ge off, 3)) (ht : (pc : Int) + off = (tgt : Int)) (kt : y ≤ x → mJ p l e R s m args below meth c D cl ty b nL Q cells slots T I P lv tgt rest) (kf : ¬ y ≤ x → mJ p l e R s m args below meth c D cl ty b nL Q cells slots T I P lv (pc + 3) rest) : mJ p l e R s m args below meth c D cl ty b nL Q cells slots T I P lv pc (.int y :: .int x :: rest) := fun H locs ls h1 h2 h3 => lv_icmp_ge X.1 X.2.1 hd ht (fun q => kt q H locs ls h1 h2 h3) (fun q => kf q H locs ls h1 h2 h3)
theorem mJ_if_ge (X : mX p s m meth c args cc nL own ret TT NN D cl b) {x : Int32} {off : Int} {tgt : Nat} (hd : decode cc pc = .ok (.ifCond .ge off, 3)) (ht : (pc : Int) + off = (tgt : Int)) (kt : 0 ≤ x → mJ p l e R s m args below meth c D cl ty b nL Q cells slots T I P lv tgt rest) (kf : ¬ 0 ≤ x → mJ p l e R s m args below meth c D cl ty b nL Q cells slots T I P lv (pc + 3) rest) : mJ p l e R s m args below meth c D cl ty b nL Q cells slots T I P lv pc (.int x :: rest) := fun H locs ls h1 h2 h3 => lv_if_ge X.1 X.2.1 hd ht (fun q => kt q H locs ls h1 h2 h3) (fun q => kf q H locs ls h1 h2 h3)
theorem mJ_icmp_gt (X : mX p s m meth c args cc nL own ret TT NN D cl b) {x y : Int32} {off : Int} {tgt : Nat} (hd : decode cc pc = .ok (.if_icmp .gt off, 3)) (ht : (pc : Int) + off = (tgt : Int)) (kt : y < x → mJ p l e R s m args below meth c D cl ty b nL Q cells slots T I P lv tgt rest) (kf : ¬ y < x → mJ p l e R s m args below meth c D cl ty b nL Q cells slots T I P lv (pc + 3) rest) : mJ p l e R s m args below meth c D cl ty b nL Q cells slots T I P lv pc (.int y :: .int x :: rest) := fun H locs ls h1 h2 h3 => lv_icmp_gt X.1 X.2.1 hd ht (fun q => kt q H locs ls h1 h2 h3) (fun q => kf q H locs ls h1 h2 h3)
theorem mJ_if_gt (X : mX p s m meth c args cc nL own ret TT NN D cl b) {x : Int32} {off : Int} {tgt : Nat} (hd : decode cc pc = .ok (.ifCond .gt off, 3)) (ht : (pc : Int) + off = (tgt : Int)) (kt : 0 < x → mJ p l e R s m args below meth c D cl ty b nL Q cells slots T I P lv tgt rest) (kf : ¬ 0 < x → mJ p l e R s m args below meth c D cl ty b nL Q cells slots T I P lv (pc + 3) rest) : mJ p l e R s m args below meth c D cl ty b nL Q cells slots T I P lv pc (.int x :: rest) := fun H locs ls h1 h2 h3 => lv_if_gt X.1 X.2.1 hd ht (fun q => kt q H locs ls h1 h2 h3) (fun q => kf q H locs ls h1 h2 h3)
theorem mJ_icmp_le (X : mX p s m meth c args cc nL own ret TT NN D cl b) {x y : Int32} {off : Int} {tgt : Nat} (hd : decode cc pc = .ok (.if_icmp .le off, 3)) (ht : (pc : Int) + off = (tgt : Int)) (kt : x ≤ y → mJ p l e R s m args below meth c D cl ty b nL Q cells slots T I P lv tgt rest) (kf : ¬ x ≤ y → mJ p l e R s m args below meth c D cl ty b nL Q cells slots T I P lv (pc + 3) rest) : mJ p l e R s m args below meth c D cl ty b nL Q cells slots T I P lv pc (.int y :: .int x :: rest) := fun H locs ls h1 h2 h3 => lv_icmp_le X.1 X.2.1 hd ht (fun q => kt q H locs ls h1 h2 h3) (fun q => kf q H locs ls h1 h2 h3)
theorem mJ_if_le (X : mX p s m meth c args cc nL own ret TT NN D cl b) {x : Int32} {off : Int} {tgt : Nat} (hd : decode cc pc = .ok (.ifCond .le off, 3)) (ht : (pc : Int) + off = (tgt : Int)) (kt : x ≤ 0 → mJ p l e R s m args below meth c D cl ty b nL Q cells slots T I P lv tgt rest) (kf : ¬ x ≤ 0 → mJ p l e R s m args below meth c D cl ty b nL Q cells slots T I P lv (pc + 3) rest) : mJ p l e R s m args below meth c D cl ty b nL Q cells slots T I P lv pc (.int x :: rest) := fun H locs ls h1 h2 h3 => lv_if_le X.1 X.2.1 hd ht (fun q => kt q H locs ls h1 h2 h3) (fun q => kf q H locs ls h1 h2 h3)
theorem mJ_goto (X : mX p s m meth c args cc nL own ret TT NN D cl b) {off : Int} {tgt : Nat} (hd : decode cc pc = .ok (.goto off, 3)) (ht : (pc : Int) + off = (tgt : Int)) (k : mJ p l e R s m args below meth c D cl ty b nL Q cells slots T I P lv tgt rest) : mJ p l e R s m args below meth c D cl ty b nL Q cells slots T I P lv pc rest := fun H locs ls h1 h2 h3 => lv_goto X.1 X.2.1 hd ht (k H locs ls h1 h2 h3)
theorem mJ_tabOut (X : mX p s m meth c args cc nL own ret TT NN D cl b) {dflt lo hi : Int} {offs : Array Int} {len : Nat} {x : Int32} {tgt : Nat} (hd : decode cc pc = .ok (.tableswitch dflt lo hi offs, len)) (h : x.toInt < lo ∨ hi < x.toInt) (ht : (pc : Int) + dflt = (tgt : Int)) (k : mJ p l e R s m args below meth c D cl ty b nL Q cells slots T I P lv tgt rest) : mJ p l e R s m args below meth c D cl ty b nL Q cells slots T I P lv pc (.int x :: rest) := fun H locs ls h1 h2 h3 => lv_tableOut X.1 X.2.1 hd h ht (k H locs ls h1 h2 h3)
theorem mJ_tabIn (X : mX p s m meth c args cc nL own ret TT NN D cl b) {dflt lo hi : Int} {offs : Array Int} {len : Nat} {x : Int32} {off : Int} {tgt : Nat} (hd : decode cc pc = .ok (.tableswitch dflt lo hi offs, len)) (g1 : ¬ x.toInt < lo) (g2 : ¬ hi < x.toInt) (ho : offs[(x.toInt - lo).toNat]? = some off) (ht : (pc : Int) + off = (tgt : Int)) (k : mJ p l e R s m args below meth c D cl ty b nL Q cells slots T I P lv tgt rest) : mJ p l e R s m args below meth c D cl ty b nL Q cells slots T I P lv pc (.int x :: rest) := fun H locs ls h1 h2 h3 => lv_tableIn X.1 X.2.1 hd g1 g2 ho ht (k H locs ls h1 h2 h3)
theorem mJ_lookup (X : mX p s m meth c args cc nL own ret TT NN D cl b) {dflt : Int} {ps : Array (Int × Int)} {len : Nat} {x : Int32} {off : Int} {tgt : Nat} (hd : decode cc pc = .ok (.lookupswitch dflt ps, len)) (hp : (ps.toList.zip (ps.toList.drop 1)).all (fun (a, next) => a.1 < next.1) = true) (ho : Op.lookupswitch.offset ps.toList dflt x.toInt = off) (ht : (pc : Int) + off = (tgt : Int)) (k : mJ p l e R s m args below meth c D cl ty b nL Q cells slots T I P lv tgt rest) : mJ p l e R s m args below meth c D cl ty b nL Q cells slots T I P lv pc (.int x :: rest) := fun H locs ls h1 h2 h3 => lv_lookup X.1 X.2.1 hd hp ho ht (k H locs ls h1 h2 h3)
theorem mJ_get (X : mX p s m meth c args cc nL own ret TT NN D cl b) {a ci k idx : Nat} {C : String} {F : u_T} {N : Nat} (hC : mCl cl ty TT ci C F N) (hT : T a = some (0, ci, 0)) (hk : k < N) (hlink : Cond.fieldLink own idx (F k).1 (F k).2.1 (F k).2.2.1 ∈ TT) {v : Value} (hv : mv (ty ci k) (I a k) (P a k) = v) (hd : decode cc pc = .ok (.getfield idx, 3))
    (kk : mJ p l e R s m args below meth c D cl ty b nL Q cells slots T I P lv (pc + 3) (v :: rest)) : mJ p l e R s m args below meth c D cl ty b nL Q cells slots T I P lv pc (.ref a :: rest) := by
  intro H locs ls h1 h2 h3
  obtain ⟨hx, hb, hml, hown, hts, hK, hbs, hret, hlk, hNs, hG, hNw⟩ := X
  obtain ⟨hba, q, hq, cell, q1, q2, q3, q4⟩ := h1 a _ hT
  obtain rfl : q = (C, F, N) := Option.some.inj (hq.symm.trans hC.1)
  obtain ⟨hS, hfc, kC, hkC, hkind⟩ := hK.1 ci _ hC.1
  obtain ⟨cf, kf, fi, f, hi, hsl⟩ := hS k hk
  refine W.getf hx hb hown (hts _ hlink) hi (u_facts hfc hkC (u_lays hts hC.2.1 hk) hi).1 q1 (by rw [q3]; exact fun h => by cases h) (v := v) ?_ rfl rfl hd (kk H locs ls h1 h2 h3)
  rw [hsl]
  exact (q4 k hk).trans (congrArg some hv)
theorem mJ_putA (X : mX p s m meth c args cc nL own ret TT NN D cl b) {a ci k idx : Nat} {C : String} {F : u_T} {N : Nat} (hC : mCl cl ty TT ci C F N) (hT : T a = some (0, ci, 0)) (hk : k < N) (hlink : Cond.fieldLink own idx (F k).1 (F k).2.1 (F k).2.2.1 ∈ TT) {v : Value} {I' : mI} {P' : mP} (hfin : (F k).2.2.2 = false ∨ ((F k).2.2.2 = true ∧ meth.name = "<init>" ∧ (F k).1 = own)) (hn : narrow (ty ci k) v = v) (hfit : fits (ty ci k) v = true)
    (hIo : ∀ x, x ≠ a → I' x = I x) (hPo : ∀ x, x ≠ a → P' x = P x) (hv : ∀ j, updV (fun j => mv (ty ci j) (I a j) (P a j)) k v j = mv (ty ci j) (I' a j) (P' a j)) (hd : decode cc pc = .ok (.putfield idx, 3))
    (kk : mJ p l e R s m args below meth c D cl ty b nL Q cells slots T I' P' lv (pc + 3) rest) : mJ p l e R s m args below meth c D cl ty b nL Q cells slots T I P lv pc (v :: .ref a :: rest) := by
  intro H locs ls h1 h2 h3
  obtain ⟨hx, hb, hml, hown, hts, hK, hbs, hret, hlk, hNs, hG, hNw⟩ := X
  have hap := va_apart (own := own) hts hC.2.1 (ty ci) hC.2.2.1 hC.2.2.2 hK hC.1
  obtain ⟨hba, q, hq, cell, q1, q2, q3, q4⟩ := h1 a _ hT
  obtain rfl : q = (C, F, N) := Option.some.inj (hq.symm.trans hC.1)
  obtain ⟨hS, hfc, kC, hkC, hkind⟩ := hK.1 ci _ hC.1
  obtain ⟨cf, kf, fi, f, hi, hsl⟩ := hS k hk
  have hlay := hts _ (hC.2.1 _ (u_in_lay hk))
  have hst := (u_facts hfc hkC (u_lays hts hC.2.1 hk) hi).1
  unfold u_lay at hlay
  have fin : ∀ H1 : Heap, H1[a]? = some (cell.setSlot f.slot v) → H1.size = H.size → (∀ q : Nat, q ≠ a → H1[q]? = H[q]?) → W p l e R s m args below meth c H1 (locs ++ [⟨a, f.slot⟩]) cells slots Q (F0 m (pc + 3) ls rest) := by
    intro H1 e1 e2 e3
    refine kk H1 _ ls (h1.put hT hIo hPo e3 ⟨_, hC.1, ?_⟩) (h2.put e2 e3 hba) h3
    rw [hsl] at e1
    exact t_OB.to ⟨_, e1, q2, q3, t_set q4 hap hk v⟩ (fun j _ => hv j)
  rcases hfin with hfin | ⟨hfin, hin2, hdecl⟩
  · rw [if_neg (by rw [hfin]; decide)] at hlay
    have h6 := u_store hfc hkC hkind hlay hi (hC.2.2.1 k hk) hn hfit
    exact W.putK hx hb (f := f) ⟨hown, hts _ hlink, ⟨_, _, _, hi⟩, hst⟩ (by rw [q2]; exact h6) q1 q3 (by rw [hsl]; exact k2_hasslot (q4 k hk)) rfl rfl hd fin
  · rw [if_pos hfin] at hlay
    have hcf : m.cls = cf := by
      obtain ⟨_, _, c', _, _, _, -, -, hf', -, -, -, hown2, -⟩ := Cond.laysFinal_spec hlay
      have e1 : c' = cf := by have := hi.symm.trans hf'; simp at this; exact this.1.symm
      rw [hdecl] at hown2
      rw [← e1]; exact Option.some.inj (hown.symm.trans hown2)
    have h6 := u_fits hfc hkC hkind (Or.inr hlay) hi (hC.2.2.1 k hk) hn hfit
    exact W.putFinK hx hb hown (hts _ hlink) hi hst hcf hin2 (by rw [q2]; exact h6) q1 q3 (by rw [hsl]; exact k2_hasslot (q4 k hk)) rfl rfl hd fin
/-- a number into a field -/
theorem mJ_putI (X : mX p s m meth c args cc nL own ret TT NN D cl b) {a ci k idx : Nat} {C : String} {F : u_T} {N : Nat} (hC : mCl cl ty TT ci C F N) (hT : T a = some (0, ci, 0)) (hk : k < N) (hlink : Cond.fieldLink own idx (F k).1 (F k).2.1 (F k).2.2.1 ∈ TT) {v : Int32} (hfin : (F k).2.2.2 = false ∨ ((F k).2.2.2 = true ∧ meth.name = "<init>" ∧ (F k).1 = own)) (hn : narrow (ty ci k) (.int v) = .int v) (hfit : fits (ty ci k) (.int v) = true) (hty : ∀ x r, mv (ty ci k) x r = .int x) (hd : decode cc pc = .ok (.putfield idx, 3))
    (kk : ∀ I' : mI, I' = mu I a k v → mJ p l e R s m args below meth c D cl ty b nL Q cells slots T I' P lv (pc + 3) rest) : mJ p l e R s m args below meth c D cl ty b nL Q cells slots T I P lv pc (.int v :: .ref a :: rest) := by
  refine mJ_putA X hC hT hk hlink hfin hn hfit (I' := mu I a k v) (P' := P) (fun x hx => mu_row I k v hx) (fun _ _ => rfl) (fun j => ?_) hd (kk _ rfl)
  by_cases hj : j = k
  · subst hj
    simp [updV, mu_eq, hty]
  · simp [updV, hj, mu_ns I a v hj]
/-- a reference into a field -/
theorem mJ_putR (X : mX p s m meth c args cc nL own ret TT NN D cl b) {a ci k idx : Nat} {C : String} {F : u_T} {N : Nat} (hC : mCl cl ty TT ci C F N) (hT : T a = some (0, ci, 0)) (hk : k < N) (hlink : Cond.fieldLink own idx (F k).1 (F k).2.1 (F k).2.2.1 ∈ TT) {v : Nat} (hfin : (F k).2.2.2 = false ∨ ((F k).2.2.2 = true ∧ meth.name = "<init>" ∧ (F k).1 = own)) (hn : narrow (ty ci k) (.ref v) = .ref v) (hfit : fits (ty ci k) (.ref v) = true) (hty : ∀ x r, mv (ty ci k) x r = va_rf r) (hd : decode cc pc = .ok (.putfield idx, 3))
    (kk : ∀ P' : mP, P' = mu P a k (some v) → mJ p l e R s m args below meth c D cl ty b nL Q cells slots T I P' lv (pc + 3) rest) : mJ p l e R s m args below meth c D cl ty b nL Q cells slots T I P lv pc (.ref v :: .ref a :: rest) := by
  refine mJ_putA X hC hT hk hlink hfin hn hfit (I' := I) (P' := mu P a k (some v)) (fun _ _ => rfl) (fun x hx => mu_row P k (some v) hx) (fun j => ?_) hd (kk _ rfl)
  by_cases hj : j = k
  · subst hj
    simp [updV, mu_eq, hty, va_rf]
  · simp [updV, hj, mu_ns P a (some v) hj]
theorem mJ_iald (X : mX p s m meth c args cc nL own ret TT NN D cl b) {a n : Nat} {i : Int32} (hT : T a = some (1, 0, n)) (hin : vp_in i n) (hd : decode cc pc = .ok (.iaload, 1))
    (kk : mJ p l e R s m args below meth c D cl ty b nL Q cells slots T I P lv (pc + 1) (.int (I a i.toNatClampNeg) :: rest)) : mJ p l e R s m args below meth c D cl ty b nL Q cells slots T I P lv pc (.int i :: .ref a :: rest) := by
  intro H locs ls h1 h2 h3
  obtain ⟨hba, cA, ⟨g1, g2⟩, g3⟩ := h1 a _ hT
  have hlt : i.toNatClampNeg < n := Nat.not_le.mp fun q => hin (Or.inr q)
  exact W.iald (v := .int (I a i.toNatClampNeg)) X.1 X.2.1 g3 (g1 n (fun j => .int (I a j))) (fun q => by cases q) (by show ¬ (i < 0 ∨ (arrV _ _ _).slots.size ≤ _); rw [arrV_size]; exact hin) (by show (arrV _ _ _).slots[_]? = _; rw [arrV_read _ _ hlt]) rfl rfl hd (kk H locs ls h1 h2 h3)
theorem mJ_iast (X : mX p s m meth c args cc nL own ret TT NN D cl b) {a n : Nat} {i x : Int32} (hT : T a = some (1, 0, n)) (hin : vp_in i n) (hd : decode cc pc = .ok (.iastore, 1))
    (kk : ∀ I' : mI, I' = mu I a i.toNatClampNeg x → mJ p l e R s m args below meth c D cl ty b nL Q cells slots T I' P lv (pc + 1) rest) : mJ p l e R s m args below meth c D cl ty b nL Q cells slots T I P lv pc (.int x :: .int i :: .ref a :: rest) := by
  intro H locs ls h1 h2 h3
  obtain ⟨hba, cA, ⟨g1, g2⟩, g3⟩ := h1 a _ hT
  refine W.iast X.1 X.2.1 g3 (g1 n (fun j => .int (I a j))) (fun q => by cases q) (by show ¬ (i < 0 ∨ (arrV _ _ _).slots.size ≤ _); rw [arrV_size]; exact hin) rfl rfl hd fun H1 e z oq => ?_
  refine kk _ rfl H1 _ ls (h1.put hT (fun y hy => mu_row I _ x hy) (fun _ _ => rfl) oq ⟨cA, ⟨g1, g2⟩, ?_⟩) (h2.put z oq hba) h3
  show H1[a]? = some (arrV cA n _)
  rw [e, arrV_store]
  congr 2
  funext q
  by_cases hq : q = i.toNatClampNeg
  · subst hq
    simp [updV, mu_eq]
  · simp [updV, hq, mu_ns I a x hq]
theorem mJ_zald (X : mX p s m meth c args cc nL own ret TT NN D cl b) {a n : Nat} {i : Int32} (hT : T a = some (2, 0, n)) (hin : vp_in i n) (hd : decode cc pc = .ok (.baload, 1))
    (kk : mJ p l e R s m args below meth c D cl ty b nL Q cells slots T I P lv (pc + 1) (.int (I a i.toNatClampNeg) :: rest)) : mJ p l e R s m args below meth c D cl ty b nL Q cells slots T I P lv pc (.int i :: .ref a :: rest) := by
  intro H locs ls h1 h2 h3
  obtain ⟨hba, cA, ⟨g1, g2⟩, g3⟩ := h1 a _ hT
  have hlt : i.toNatClampNeg < n := Nat.not_le.mp fun q => hin (Or.inr q)
  exact W.zald (v := .int (I a i.toNatClampNeg)) X.1 X.2.1 g3 (g1 n (fun j => .int (I a j))) (fun q => by cases q) (by show ¬ (i < 0 ∨ (arrV _ _ _).slots.size ≤ _); rw [arrV_size]; exact hin) (by show (arrV _ _ _).slots[_]? = _; rw [arrV_read _ _ hlt]) rfl rfl hd (kk H locs ls h1 h2 h3)
theorem mJ_zast (X : mX p s m meth c args cc nL own ret TT NN D cl b) {a n : Nat} {i x : Int32} (hT : T a = some (2, 0, n)) (hin : vp_in i n) (hx : vp_nar .boolean x = x) (hd : decode cc pc = .ok (.bastore, 1))
    (kk : ∀ I' : mI, I' = mu I a i.toNatClampNeg x → mJ p l e R s m args below meth c D cl ty b nL Q cells slots T I' P lv (pc + 1) rest) : mJ p l e R s m args below meth c D cl ty b nL Q cells slots T I P lv pc (.int x :: .int i :: .ref a :: rest) := by
  intro H locs ls h1 h2 h3
  obtain ⟨hba, cA, ⟨g1, g2⟩, g3⟩ := h1 a _ hT
  refine W.zast X.1 X.2.1 g3 (g1 n (fun j => .int (I a j))) (fun q => by cases q) (by show ¬ (i < 0 ∨ (arrV _ _ _).slots.size ≤ _); rw [arrV_size]; exact hin) rfl rfl hd fun H1 e z oq => ?_
  refine kk _ rfl H1 _ ls (h1.put hT (fun y hy => mu_row I _ x hy) (fun _ _ => rfl) oq ⟨cA, ⟨g1, g2⟩, ?_⟩) (h2.put z oq hba) h3
  show H1[a]? = some (arrV cA n _)
  rw [e, arrV_store]
  congr 2
  funext q
  by_cases hq : q = i.toNatClampNeg
  · subst hq
    have hx' : narrow .boolean (.int x) = .int x := by
      have h9 : narrow .boolean (.int x) = .int (vp_nar .boolean x) := rfl
      rw [h9, hx]
    simp [updV, mu_eq, hx']
  · simp [updV, hq, mu_ns I a x hq]
theorem mJ_aald (X : mX p s m meth c args cc nL own ret TT NN D cl b) {a j n y : Nat} {i : Int32} (hT : T a = some (j + 3, 0, n)) (hin : vp_in i n) (hr : P a i.toNatClampNeg = some y) (hd : decode cc pc = .ok (.aaload, 1))
    (kk : mJ p l e R s m args below meth c D cl ty b nL Q cells slots T I P lv (pc + 1) (.ref y :: rest)) : mJ p l e R s m args below meth c D cl ty b nL Q cells slots T I P lv pc (.int i :: .ref a :: rest) := by
  intro H locs ls h1 h2 h3
  obtain ⟨hba, cA, ⟨q0, g0, g1, g2⟩, g3⟩ := h1 a _ hT
  have hlt : i.toNatClampNeg < n := Nat.not_le.mp fun q => hin (Or.inr q)
  exact W.aald (v := .ref y) (ty := .object q0.1) X.1 X.2.1 g3 (g1 n (fun j => va_rf (P a j))) rfl (fun q => by cases q) (by show ¬ (i < 0 ∨ (arrV _ _ _).slots.size ≤ _); rw [arrV_size]; exact hin) (by show (arrV _ _ _).slots[_]? = _; rw [arrV_read _ _ hlt, hr]; rfl) rfl rfl hd (kk H locs ls h1 h2 h3)
theorem mJ_aast (X : mX p s m meth c args cc nL own ret TT NN D cl b) {a j n v : Nat} {i : Int32} (hT : T a = some (j + 3, 0, n)) (hv : T v = some (0, j, 0)) (hin : vp_in i n) (hd : decode cc pc = .ok (.aastore, 1))
    (kk : ∀ P' : mP, P' = mu P a i.toNatClampNeg (some v) → mJ p l e R s m args below meth c D cl ty b nL Q cells slots T I P' lv (pc + 1) rest) : mJ p l e R s m args below meth c D cl ty b nL Q cells slots T I P lv pc (.ref v :: .int i :: .ref a :: rest) := by
  intro H locs ls h1 h2 h3
  obtain ⟨hba, cA, ⟨q0, g0, g1, kA, comp, k1, k2, k3, k4⟩, g3⟩ := h1 a _ hT
  obtain ⟨hbv, q', hq', cellV, w1, w2, w3, -⟩ := h1 v _ hv
  have hlt : i.toNatClampNeg < n := Nat.not_le.mp fun q => hin (Or.inr q)
  have h0 : ¬ i < 0 := fun q => hin (Or.inl q)
  have hcls := (X.2.2.2.2.2.1.1 j q0 g0).2
  obtain rfl : comp = D.1 j := Option.some.inj (k3.symm.trans hcls.1)
  obtain ⟨kC, hkC, -⟩ := hcls.2
  refine W.aast X.1 X.2.1 g3 (fun q h => by cases h) (fun h => by cases h) k1 k2 rfl hkC ⟨h0, by show _ < (arrV _ _ _).slots.size; rw [arrV_size]; exact hlt⟩ w1 (fun q h => by rw [w3] at h; cases h) (by rw [w2]; exact hkC) (by rw [w2]; exact va_assign hcls) rfl rfl hd fun H1 e z oq => ?_
  refine kk _ rfl H1 _ ls (h1.put hT (fun _ _ => rfl) (fun y hy => mu_row P _ (some v) hy) oq ⟨cA, ⟨q0, g0, g1, kA, _, k1, k2, k3, k4⟩, ?_⟩) (h2.put z oq hba) h3
  show H1[a]? = some (arrV cA n _)
  rw [e, arrV_store]
  congr 2
  funext q
  by_cases hq : q = i.toNatClampNeg
  · subst hq
    simp [updV, mu_eq, va_rf]
  · simp [updV, hq, mu_ns P a (some v) hq]
theorem mJ_alen (X : mX p s m meth c args cc nL own ret TT NN D cl b) {a n : Nat} {v : Int32} (hT : T a = some (1, 0, n)) (hv : Int32.ofNat n = v) (hd : decode cc pc = .ok (.arraylength, 1))
    (kk : mJ p l e R s m args below meth c D cl ty b nL Q cells slots T I P lv (pc + 1) (.int v :: rest)) : mJ p l e R s m args below meth c D cl ty b nL Q cells slots T I P lv pc (.ref a :: rest) := by
  intro H locs ls h1 h2 h3
  subst hv
  obtain ⟨hba, cA, ⟨g1, g2⟩, g3⟩ := h1 a _ hT
  exact W.alen (n := Int32.ofNat n) X.1 X.2.1 g3 (g1 n (fun j => .int (I a j))) (by rw [arrV_size] <;> rfl) rfl rfl hd (kk H locs ls h1 h2 h3)
theorem mJ_alenR (X : mX p s m meth c args cc nL own ret TT NN D cl b) {a j n : Nat} {v : Int32} (hT : T a = some (j + 3, 0, n)) (hv : Int32.ofNat n = v) (hd : decode cc pc = .ok (.arraylength, 1))
    (kk : mJ p l e R s m args below meth c D cl ty b nL Q cells slots T I P lv (pc + 1) (.int v :: rest)) : mJ p l e R s m args below meth c D cl ty b nL Q cells slots T I P lv pc (.ref a :: rest) := by
  intro H locs ls h1 h2 h3
  subst hv
  obtain ⟨hba, cA, ⟨q0, g0, g1, g2⟩, g3⟩ := h1 a _ hT
  exact W.alen (n := Int32.ofNat n) X.1 X.2.1 g3 (g1 n (fun j => va_rf (P a j))) (by rw [arrV_size] <;> rfl) rfl rfl hd (kk H locs ls h1 h2 h3)
/-- the memory with one more cell of zeros -/
abbrev mTn (T : mT) (q : Nat) (sh : Nat × Nat × Nat) : mT := fun x => if x = q then some sh else T x
abbrev mIn (I : mI) (q : Nat) : mI := fun x y => if x = q then 0 else I x y
abbrev mPn (P : mP) (q : Nat) : mP := fun x y => if x = q then none else P x y
theorem mJ_new (X : mX p s m meth c args cc nL own ret TT NN D cl b) {ci idx : Nat} {C : String} {F : u_T} {N : Nat} (hC : mCl cl ty TT ci C F N) (hcl : Cond.classLink own idx C ∈ TT) (hinst : Cond.instantiable C N ∈ TT) (hini : Cond.initialized C ∈ TT) (hdef : ∀ j, j < N → defaultValue (ty ci j) = mv (ty ci j) 0 none) (hcells : cells + 1 ≤ R.cells) (hslots : slots + N ≤ R.slots) (hd : decode cc pc = .ok (.new idx, 3))
    (kk : ∀ q : Nat, T q = none → b ≤ q → mJ p l e R s m args below meth c D cl ty b nL Q (cells + 1) (slots + N) (mTn T q (0, ci, 0)) (mIn I q) (mPn P q) lv (pc + 3) (.ref q :: rest)) : mJ p l e R s m args below meth c D cl ty b nL Q cells slots T I P lv pc rest := by
  intro H locs ls h1 h2 h3
  obtain ⟨hx, hb, hml, hown, hts, hK, hbs, hret, hlk, hNs, hG, hNw⟩ := X
  have hKn := hK.1 ci _ hC.1
  have hbH : b ≤ H.size := Nat.le_trans hbs h2.1
  refine W.newcK hx hb hown (hts _ hcl) (hts _ hinst) (hts _ hini) rfl hd hcells hslots hKn.2.1 rfl fun H1 kC hkC e1 z1 o1 => ?_
  refine kk H.size ?_ hbH H1 _ ls (h1.new hbH (fun x hx => by funext y; simp [hx]) (fun x hx => by funext y; simp [hx]) o1 ⟨_, hC.1, ?_⟩) ⟨Nat.le_trans h2.1 (by omega), fun x g1 g2 => (o1 x (Nat.lt_of_lt_of_le g1 h2.1)).trans (h2.2.1 x g1 g2), h2.2.2⟩ h3
  · cases hq : T H.size with
    | none => rfl
    | some sh => exact absurd (h1 _ _ hq).2.lt (Nat.lt_irrefl _)
  · refine (u_born (ty ci) hts hC.2.1 hKn hkC e1 hC.2.2.1).to (fun j hj => ?_)
    simp [hdef j hj, mIn, mPn]
theorem mJ_newa (X : mX p s m meth c args cc nL own ret TT NN D cl b) {n : Int32} {N : Nat} {atype : ArrayType} (hat : newarray.typeOf atype = .int) (harr : Cond.arrayClass .int ∈ TT) (hn : ¬ n < 0) (hN : n.toNatClampNeg = N) (hbytes : N * componentBytes .int ≤ 536870912) (hcells : cells + 1 ≤ R.cells) (hslots : slots + N ≤ R.slots) (hd : decode cc pc = .ok (.newarray atype, 2))
    (kk : ∀ q : Nat, T q = none → b ≤ q → mJ p l e R s m args below meth c D cl ty b nL Q (cells + 1) (slots + N) (mTn T q (1, 0, N)) (mIn I q) (mPn P q) lv (pc + 2) (.ref q :: rest)) : mJ p l e R s m args below meth c D cl ty b nL Q cells slots T I P lv pc (.int n :: rest) := by
  intro H locs ls h1 h2 h3
  obtain ⟨hx, hb, hml, hown, hts, hK, hbs, hret, hlk, hNs, hG, hNw⟩ := X
  have hbH : b ≤ H.size := Nat.le_trans hbs h2.1
  refine va_newaK hx hb (by rw [hat]; exact hts _ harr) rfl hd rfl hn hN (by rw [hat]; exact hbytes) hcells hslots rfl fun H1 cA e1 z1 o1 hAr hNm => ?_
  rw [hat] at e1 hAr hNm
  refine kk H.size ?_ hbH H1 _ ls (h1.new hbH (fun x hx => by funext y; simp [hx]) (fun x hx => by funext y; simp [hx]) o1 ⟨cA, ⟨hAr, hNm⟩, ?_⟩) ⟨Nat.le_trans h2.1 (by omega), fun x g1 g2 => (o1 x (Nat.lt_of_lt_of_le g1 h2.1)).trans (h2.2.1 x g1 g2), h2.2.2⟩ h3
  · cases hq : T H.size with
    | none => rfl
    | some sh => exact absurd (h1 _ _ hq).2.lt (Nat.lt_irrefl _)
  · simpa [defaultValue, mIn] using e1
theorem mJ_newz (X : mX p s m meth c args cc nL own ret TT NN D cl b) {n : Int32} {N : Nat} {atype : ArrayType} (hat : newarray.typeOf atype = .boolean) (harr : Cond.arrayClass .boolean ∈ TT) (hn : ¬ n < 0) (hN : n.toNatClampNeg = N) (hbytes : N * componentBytes .boolean ≤ 536870912) (hcells : cells + 1 ≤ R.cells) (hslots : slots + N ≤ R.slots) (hd : decode cc pc = .ok (.newarray atype, 2))
    (kk : ∀ q : Nat, T q = none → b ≤ q → mJ p l e R s m args below meth c D cl ty b nL Q (cells + 1) (slots + N) (mTn T q (2, 0, N)) (mIn I q) (mPn P q) lv (pc + 2) (.ref q :: rest)) : mJ p l e R s m args below meth c D cl ty b nL Q cells slots T I P lv pc (.int n :: rest) := by
  intro H locs ls h1 h2 h3
  obtain ⟨hx, hb, hml, hown, hts, hK, hbs, hret, hlk, hNs, hG, hNw⟩ := X
  have hbH : b ≤ H.size := Nat.le_trans hbs h2.1
  refine va_newaK hx hb (by rw [hat]; exact hts _ harr) rfl hd rfl hn hN (by rw [hat]; exact hbytes) hcells hslots rfl fun H1 cA e1 z1 o1 hAr hNm => ?_
  rw [hat] at e1 hAr hNm
  refine kk H.size ?_ hbH H1 _ ls (h1.new hbH (fun x hx => by funext y; simp [hx]) (fun x hx => by funext y; simp [hx]) o1 ⟨cA, ⟨hAr, hNm⟩, ?_⟩) ⟨Nat.le_trans h2.1 (by omega), fun x g1 g2 => (o1 x (Nat.lt_of_lt_of_le g1 h2.1)).trans (h2.2.1 x g1 g2), h2.2.2⟩ h3
  · cases hq : T H.size with
    | none => rfl
    | some sh => exact absurd (h1 _ _ hq).2.lt (Nat.lt_irrefl _)
  · simpa [defaultValue, mIn] using e1
theorem mJ_newq (X : mX p s m meth c args cc nL own ret TT NN D cl b) {n : Int32} {N j idx : Nat} {q0 : vw_C} (hc : cl[j]? = some q0) (hcl : Cond.classLink own idx q0.1 ∈ TT) (hov : (Cond.arrayOver (.object q0.1)).before args s = true) (hn : ¬ n < 0) (hN : n.toNatClampNeg = N) (hbytes : N * 4 ≤ 536870912) (hcells : cells + 1 ≤ R.cells) (hslots : slots + N ≤ R.slots) (hd : decode cc pc = .ok (.anewarray idx, 3))
    (kk : ∀ q : Nat, T q = none → b ≤ q → mJ p l e R s m args below meth c D cl ty b nL Q (cells + 1) (slots + N) (mTn T q (j + 3, 0, N)) (mIn I q) (mPn P q) lv (pc + 3) (.ref q :: rest)) : mJ p l e R s m args below meth c D cl ty b nL Q cells slots T I P lv pc (.int n :: rest) := by
  intro H locs ls h1 h2 h3
  obtain ⟨hx, hb, hml, hown, hts, hK, hbs, hret, hlk, hNs, hG, hNw⟩ := X
  have hbH : b ≤ H.size := Nat.le_trans hbs h2.1
  subst hN
  refine W.anew hx hb hown (hts _ hcl) hov rfl hd rfl hn hbytes hcells hslots fun cA kA comp f1 f2 f3 f4 => ?_
  generalize hH1 : H.push ({ cls := cA, slots := Array.replicate n.toNatClampNeg .null, vm := .none } : Cell) = H1
  have z1 : H1.size = H.size + 1 := by rw [← hH1, Array.size_push]
  have e1 : H1[H.size]? = some (arrV cA n.toNatClampNeg (fun _ => .null)) := by rw [← hH1, Array.getElem?_push_size, ← arrV_new]
  have o1 : ∀ q : Nat, q < H.size → H1[q]? = H[q]? := fun q hq => by rw [← hH1, Array.getElem?_push, if_neg (Nat.ne_of_lt hq)]
  have hAr : ArrOfT s cA (.object q0.1) := fun N z => ⟨(fun k h => by cases h), kA, f2, comp, f3⟩
  refine kk H.size ?_ hbH H1 _ ls (h1.new hbH (fun x hx => by funext y; simp [hx]) (fun x hx => by funext y; simp [hx]) o1 ⟨cA, ⟨q0, hc, hAr, kA, comp, f2, f3, f4, f1⟩, ?_⟩) ⟨Nat.le_trans h2.1 (by omega), fun x g1 g2 => (o1 x (Nat.lt_of_lt_of_le g1 h2.1)).trans (h2.2.1 x g1 g2), h2.2.2⟩ h3
  · cases hq : T H.size with
    | none => rfl
    | some sh => exact absurd (h1 _ _ hq).2.lt (Nat.lt_irrefl _)
  · simpa [va_rf, mPn] using e1
end MJ
/-- a contract's start and end over the memory -/
def mPre (D : va_G) (cl : List vw_C) (ty : Nat → Nat → FieldType) (b : Nat) (NN : State → Prop) (T : mT) (I : mI) (P : mP) (av : List Value) : Array Value → State → Prop := fun v U => v = av.toArray ∧ b ≤ U.heap.size ∧ va_K D cl [] U ∧ mW D cl ty b T I P U U.heap ∧ NN U
def mPost (D : va_G) (cl : List vw_C) (ty : Nat → Nat → FieldType) (b : Nat) (post : Option Value → mT → mI → mP → Prop) : Array Value → State → Outcome → State → Prop := fun _ st o t => (∃ (v : Option Value) (T' : mT) (I' : mI) (P' : mP), o = .returned v ∧ post v T' I' P' ∧ mW D cl ty b T' I' P' t t.heap) ∧ va_F (fun q => b ≤ q) st t
def mMet (l : Launch) (D : va_G) (cl : List vw_C) (ty : Nat → Nat → FieldType) (b : Nat) (TT : List Cond) (NN : State → Prop) (y : MethodName) (bytes : ByteArray) (maxL : Nat) (ret : Option FieldType) (rm : Room) (T : mT) (I : mI) (P : mP) (av : List Value) (post : Option Value → mT → mI → mP → Prop) : Prop :=
  Met l y (.code y bytes maxL ret :: TT) rm (mPre D cl ty b NN T I P av) (mPost D cl ty b post) rm.cells rm.slots (fun q => b ≤ q)
/-- a method by its name: its code and words -/
def mMe (TT : List Cond) (y : MethodName) (bytes : ByteArray) (maxL : Nat) (ret : Option FieldType) (n : Nat) : Prop :=
  Cond.code y bytes maxL ret ∈ TT ∧ Cond.initialized y.cls ∈ TT ∧ (y.cls ≠ "java/lang/invoke/MethodHandle" ∧ y.cls ≠ "java/lang/invoke/VarHandle") ∧ (parseMethodDescriptor y.desc).map (fun d => d.parameters.length) = some n
section MK
variable {p : Program} {l : Launch} {e : Env} {R : Room} {s : State} {m : MethodId} {args : Array Value} {below : List Frame} {meth : Method} {c : Code}
variable {D : va_G} {cl : List vw_C} {ty : Nat → Nat → FieldType} {b nL : Nat} {Q : State → Prop} {cells slots : Nat} {T : mT} {I : mI} {P : mP} {lv : List (Nat × Value)} {pc : Nat} {rest : List Value}
variable {cc : ByteArray} {own : String} {ret : Option FieldType} {TT : List Cond} {NN : State → Prop}
theorem mMet_of {y : MethodName} {bytes : ByteArray} {maxL : Nat} {ret : Option FieldType} {rm : Room} {av : List Value} {post : Option Value → mT → mI → mP → Prop} (own : String) (hown : y.cls = own) (hy : plainName y.cls = true) (hG : GoodIn TT TT) (hN : ∀ u U : State, u.WarmedH U.vm → NN u → NN U) (hav : (lg_sl av).length ≤ maxL)
    (body : ∀ p e s m args below meth c, mX p s m meth c args bytes maxL own ret TT NN D cl b → meth.name = y.name → mJ p l e rm s m args below meth c D cl ty b maxL (MQ below (mPost D cl ty b post) args s rm.cells rm.slots (fun q => b ≤ q)) 0 0 T I P (lv_args 0 av) 0 []) : mMet l D cl ty b TT NN y bytes maxL ret rm T I P av post := by
  refine Met.ofW (cc := bytes) (maxL := maxL) (ret := ret) hy rfl ?_
  intro p e s m args below meth c s₁ B hml hv
  obtain ⟨rfl, hb, hK, hW, hNs⟩ := hv
  have hts := atoms_spec (ws := .code y bytes maxL ret :: TT) B.pre
  have ho : s.vm.findClass own = some m.cls := by rw [← hown]; exact findClass_of_methodNamed B.named
  rw [lg_entry_eq]
  exact body p e s m _ below meth c ⟨B.exec, B.bytes, hml, ho, fun w hw => hts w (List.mem_cons_of_mem _ hw), hK, hb, B.returns, B.notSynchronized, hNs, hG, hN⟩ (name_of_methodNamed B.named B.method).1 s.heap [] _ hW va_S.rf (lv_entry av hav)
theorem mJ_iret (X : mX p s m meth c args cc nL own (some .int) TT NN D cl b) {post : Option Value → mT → mI → mP → Prop} {v : Int32} (hd : decode cc pc = .ok (.ireturn, 1)) (hp : post (some (.int v)) T I P) : mJ p l e R s m args below meth c D cl ty b nL (MQ below (mPost D cl ty b post) args s cells slots (fun q => b ≤ q)) cells slots T I P lv pc [.int v] :=
  fun H locs ls h1 h2 h3 => W.iret X.1 X.2.1 X.2.2.2.2.2.2.2.1 (fun t ht hW => ⟨⟨_, T, I, P, rfl, hp, by rw [ht]; exact h1.moved hW.alike⟩, h2.F ht⟩) h2.2.2 hd X.2.2.2.2.2.2.2.2.1
theorem mJ_zret (X : mX p s m meth c args cc nL own (some .boolean) TT NN D cl b) {post : Option Value → mT → mI → mP → Prop} {v : Int32} (hd : decode cc pc = .ok (.ireturn, 1)) (hn : narrow .boolean (.int v) = .int v) (hp : post (some (.int v)) T I P) : mJ p l e R s m args below meth c D cl ty b nL (MQ below (mPost D cl ty b post) args s cells slots (fun q => b ≤ q)) cells slots T I P lv pc [.int v] :=
  fun H locs ls h1 h2 h3 => W.zret X.1 X.2.1 X.2.2.2.2.2.2.2.1 hn (fun t ht hW => ⟨⟨_, T, I, P, rfl, hp, by rw [ht]; exact h1.moved hW.alike⟩, h2.F ht⟩) h2.2.2 hd X.2.2.2.2.2.2.2.2.1
theorem mJ_cret (X : mX p s m meth c args cc nL own (some .char) TT NN D cl b) {post : Option Value → mT → mI → mP → Prop} {v : Int32} (hd : decode cc pc = .ok (.ireturn, 1)) (hn : narrow .char (.int v) = .int v) (hp : post (some (.int v)) T I P) : mJ p l e R s m args below meth c D cl ty b nL (MQ below (mPost D cl ty b post) args s cells slots (fun q => b ≤ q)) cells slots T I P lv pc [.int v] :=
  fun H locs ls h1 h2 h3 => W.zret X.1 X.2.1 X.2.2.2.2.2.2.2.1 hn (fun t ht hW => ⟨⟨_, T, I, P, rfl, hp, by rw [ht]; exact h1.moved hW.alike⟩, h2.F ht⟩) h2.2.2 hd X.2.2.2.2.2.2.2.2.1
theorem mJ_vret (X : mX p s m meth c args cc nL own none TT NN D cl b) {post : Option Value → mT → mI → mP → Prop} (hd : decode cc pc = .ok (.return_, 1)) (hp : post none T I P) : mJ p l e R s m args below meth c D cl ty b nL (MQ below (mPost D cl ty b post) args s cells slots (fun q => b ≤ q)) cells slots T I P lv pc [] :=
  fun H locs ls h1 h2 h3 => W.vret X.1 X.2.1 X.2.2.2.2.2.2.2.1 (fun t ht hW => ⟨⟨_, T, I, P, rfl, hp, by rw [ht]; exact h1.moved hW.alike⟩, h2.F ht⟩) h2.2.2 hd X.2.2.2.2.2.2.2.2.1
theorem mJ_aret {rt : FieldType} (X : mX p s m meth c args cc nL own (some rt) TT NN D cl b) (hrt : (∃ n, rt = .object n) ∨ ∃ t, rt = .array t) {post : Option Value → mT → mI → mP → Prop} {v : Nat} (hd : decode cc pc = .ok (.areturn, 1)) (hp : post (some (.ref v)) T I P) : mJ p l e R s m args below meth c D cl ty b nL (MQ below (mPost D cl ty b post) args s cells slots (fun q => b ≤ q)) cells slots T I P lv pc [.ref v] :=
  fun H locs ls h1 h2 h3 => W.aret X.1 X.2.1 X.2.2.2.2.2.2.2.1 hrt (Or.inr ⟨_, rfl⟩) (fun t ht hW => ⟨⟨_, T, I, P, rfl, hp, by rw [ht]; exact h1.moved hW.alike⟩, h2.F ht⟩) h2.2.2 hd X.2.2.2.2.2.2.2.2.1
theorem mPre_blind (hN : ∀ u U : State, u.WarmedH U.vm → NN u → NN U) {av : List Value} : FrameBlind (mPre D cl ty b NN T I P av) := by
  intro a U g mk h
  obtain ⟨h0, h1, h2, h3, h4⟩ := h
  exact ⟨h0, h1, va_K.moved (u := U) (U := U.calling g mk a) (Vm.Alike.refl U.vm) h2, h3.moved (Vm.Alike.refl U.vm), hN U _ (State.WarmedH.refl U) h4⟩
theorem mPre_at (X : mX p s m meth c args cc nL own ret TT NN D cl b) {H : Heap} {locs : List Loc} (h1 : mW D cl ty b T I P s H) (h2 : va_S (fun q => b ≤ q) s.heap H locs) (av : List Value) : ∀ U : State, U.heap = H → s.WarmedH U.vm → mPre D cl ty b NN T I P av av.toArray U := by
  intro U hU hW
  obtain ⟨hx, hb, hml, hown, hts, hK, hbs, hret, hlk, hNs, hG, hNw⟩ := X
  exact ⟨rfl, by rw [hU]; exact Nat.le_trans hbs h2.1, va_K.moved hW.alike hK, by rw [hU]; exact h1.moved hW.alike, hNw s U hW hNs⟩
theorem mJ_run {st0 : List Value} {post : Option Value → mT → mI → mP → Prop} {a : Array Value} {mc ms : Nat} (hr : ∀ (H : Heap) (locs : List Loc) (ls : Array Slot), mW D cl ty b T I P s H → va_S (fun q => b ≤ q) s.heap H locs → lv_has ls nL lv → va_Run p l e R s m args below meth c H locs cells slots mc ms (F0 m pc ls st0) rest (mPost D cl ty b post a) (fun q => b ≤ q))
    (kk : ∀ (v : Option Value) (T' : mT) (I' : mI) (P' : mP), post v T' I' P' → mJ p l e R s m args below meth c D cl ty b nL Q (cells + mc) (slots + ms) T' I' P' lv (pc + 3) (v.toList ++ rest)) : mJ p l e R s m args below meth c D cl ty b nL Q cells slots T I P lv pc st0 := by
  intro H locs ls h1 h2 h3 Tt hT Xs
  obtain ⟨v, st₀, t, T', L, h0, X', hL, e1, e2, ⟨⟨v', T2, I2, P2, hv, hp, hw⟩, hz, hk⟩, st⟩ := hr H locs ls h1 h2 h3 Tt hT Xs
  cases hv
  rw [h0] at hz hk
  have hal : t.vm.Alike s.vm := by rw [← e2]; exact X'.warmed.alike.symm
  obtain ⟨t2, a1, b1⟩ := kk v T2 I2 P2 hp T'.heap (locs ++ L) ls (by rw [e1]; exact hw.moved hal) ⟨Nat.le_trans h2.1 (by rw [e1]; exact hz), fun q g1 g2 => by rw [e1, hk q (Nat.lt_of_lt_of_le g1 h2.1) g2]; exact h2.2.1 q g1 g2, fun q hq => by
      rcases List.mem_append.mp hq with h | h
      · exact h2.2.2 q h
      · exact hL q h⟩ h3 T' rfl X'
  exact ⟨t2, st t2 a1, b1⟩
theorem mCallB (X : mX p s m meth c args cc nL own ret TT NN D cl b) {y : MethodName} {bytes : ByteArray} {maxL n idx : Nat} {ry : Option FieldType} {rm : Room} (hy : mMe TT y bytes maxL ry n) (hR : rm.frames + 1 ≤ R.frames ∧ 8 + (maxL + 11) + rm.locals ≤ R.locals) (hl : Cond.methodLink own idx y ∈ TT) : CallB R s args own idx y bytes maxL ry (.code y bytes maxL ry :: TT) rm rm.cells rm.slots n := by
  obtain ⟨hx, hb, hml, hown, hts, hK, hbs, hret, hlk, hNs, hG, hNw⟩ := X
  have hG2 : GoodIn TT (.code y bytes maxL ry :: TT) := fun w hw => by
    rcases List.mem_cons.mp hw with h | h
    · rw [h]; exact hG _ hy.1
    · exact hG w h
  refine ⟨rfl, rfl, hR.1, hR.2, pay_in hts hG2, List.mem_cons_self, hts _ hy.1, hts _ hy.2.1, hy.2.2.1, fun sig h => ?_, hts _ hl⟩
  have h2 := hy.2.2.2
  rw [h] at h2
  exact (Option.some.inj h2).symm
/-- a call of a method of an object -/
theorem mJ_callV (X : mX p s m meth c args cc nL own ret TT NN D cl b) {y : MethodName} {bytes : ByteArray} {maxL n idx a ci : Nat} {ry : Option FieldType} {rm : Room} {F : u_T} {N : Nat} {As : List Value} {post : Option Value → mT → mI → mP → Prop} (hM : mMet l D cl ty b TT NN y bytes maxL ry rm T I P (.ref a :: As) post) (hy : mMe TT y bytes maxL ry n) (hc : cl[ci]? = some (y.cls, F, N)) (hT : T a = some (0, ci, 0)) (hl : Cond.methodLink own idx y ∈ TT) (hin : Cond.instanceMethod y ∈ TT) (hsel : Cond.selects y.cls y y ∈ TT)
    (hn : As.length = n) {st0 : List Value} (hst : st0 = As.reverse ++ .ref a :: rest) (hW : (rest.map fun v => v.category).sum ≤ 8) (hR : rm.frames + 1 ≤ R.frames ∧ 8 + (maxL + 11) + rm.locals ≤ R.locals) (hf : cells + rm.cells ≤ R.cells ∧ slots + rm.slots ≤ R.slots) (hd : decode cc pc = .ok (.invokevirtual idx, 3))
    (kk : ∀ (v : Option Value) (T' : mT) (I' : mI) (P' : mP), post v T' I' P' → mJ p l e R s m args below meth c D cl ty b nL Q (cells + rm.cells) (slots + rm.slots) T' I' P' lv (pc + 3) (v.toList ++ rest)) : mJ p l e R s m args below meth c D cl ty b nL Q cells slots T I P lv pc st0 := by
  refine mJ_run (a := (Value.ref a :: As).toArray) (fun H locs ls h1 h2 h3 => ?_) kk
  obtain ⟨hba, q, hq, cell, q1, q2, q3, q4⟩ := h1 a _ hT
  have hK := X.2.2.2.2.2.1
  refine va_runV (C := y.cls) (b := a) (As := As) ⟨X.1, X.2.1, X.2.2.1, X.2.2.2.1, X.2.2.2.2.1⟩ hM ⟨mCallB X hy hR hl, X.2.2.2.2.1 _ hin, X.2.2.2.2.1 _ hsel⟩ ⟨mPre_blind X.2.2.2.2.2.2.2.2.2.2.2, ⟨cell, q1, by rw [q3]; rfl, by rw [q2]; exact (hK.1 ci _ hc).2.1⟩, mPre_at X h1 h2 _⟩ rfl hn h3.1 hst (lv_room hW) hd hf
theorem mJ_callS (X : mX p s m meth c args cc nL own ret TT NN D cl b) {y : MethodName} {bytes : ByteArray} {maxL n idx : Nat} {ry : Option FieldType} {rm : Room} {As : List Value} {post : Option Value → mT → mI → mP → Prop} (hM : mMet l D cl ty b TT NN y bytes maxL ry rm T I P As post) (hy : mMe TT y bytes maxL ry n) (hl : Cond.methodLink own idx y ∈ TT) (hss : Cond.static y ∈ TT)
    (hn : As.length = n) {st0 : List Value} (hst : st0 = As.reverse ++ rest) (hW : (rest.map fun v => v.category).sum ≤ 8) (hR : rm.frames + 1 ≤ R.frames ∧ 8 + (maxL + 11) + rm.locals ≤ R.locals) (hf : cells + rm.cells ≤ R.cells ∧ slots + rm.slots ≤ R.slots) (hd : decode cc pc = .ok (.invokestatic idx, 3))
    (kk : ∀ (v : Option Value) (T' : mT) (I' : mI) (P' : mP), post v T' I' P' → mJ p l e R s m args below meth c D cl ty b nL Q (cells + rm.cells) (slots + rm.slots) T' I' P' lv (pc + 3) (v.toList ++ rest)) : mJ p l e R s m args below meth c D cl ty b nL Q cells slots T I P lv pc st0 := by
  refine mJ_run (a := As.toArray) (fun H locs ls h1 h2 h3 => ?_) kk
  exact va_runS (As := As) ⟨X.1, X.2.1, X.2.2.1, X.2.2.2.1, X.2.2.2.2.1⟩ hM ⟨mCallB X hy hR hl, X.2.2.2.2.1 _ hss⟩ ⟨mPre_blind X.2.2.2.2.2.2.2.2.2.2.2, mPre_at X h1 h2 _⟩ rfl hn h3.1 hst (lv_room hW) hd hf
theorem mJ_callI (X : mX p s m meth c args cc nL own ret TT NN D cl b) {y : MethodName} {bytes : ByteArray} {maxL n idx a : Nat} {rm : Room} {As : List Value} {post : Option Value → mT → mI → mP → Prop} (hM : mMet l D cl ty b TT NN y bytes maxL none rm T I P (.ref a :: As) post) (hy : mMe TT y bytes maxL none n) (hl : Cond.methodLink own idx y ∈ TT) (hin : Cond.instanceMethod y ∈ TT) (hnm : y.name = "<init>")
    (hn : As.length = n) {st0 : List Value} (hst : st0 = As.reverse ++ .ref a :: rest) (hW : (rest.map fun v => v.category).sum ≤ 8) (hR : rm.frames + 1 ≤ R.frames ∧ 8 + (maxL + 11) + rm.locals ≤ R.locals) (hf : cells + rm.cells ≤ R.cells ∧ slots + rm.slots ≤ R.slots) (hd : decode cc pc = .ok (.invokespecial idx, 3))
    (kk : ∀ (v : Option Value) (T' : mT) (I' : mI) (P' : mP), post v T' I' P' → mJ p l e R s m args below meth c D cl ty b nL Q (cells + rm.cells) (slots + rm.slots) T' I' P' lv (pc + 3) (v.toList ++ rest)) : mJ p l e R s m args below meth c D cl ty b nL Q cells slots T I P lv pc st0 := by
  refine mJ_run (a := (Value.ref a :: As).toArray) (fun H locs ls h1 h2 h3 => ?_) kk
  exact va_runI (b := a) (As := As) ⟨X.1, X.2.1, X.2.2.1, X.2.2.2.1, X.2.2.2.2.1⟩ hM ⟨mCallB X hy hR hl, hnm, X.2.2.2.2.1 _ hin⟩ ⟨mPre_blind X.2.2.2.2.2.2.2.2.2.2.2, mPre_at X h1 h2 _⟩ rfl hn h3.1 hst (lv_room hW) hd hf
theorem mCallN (X : mX p s m meth c args cc nL own ret TT NN D cl b) {y : MethodName} {bytes : ByteArray} {maxL n idx : Nat} {host : String} {ry : Option FieldType} {rm : Room} (hy : mMe TT y bytes maxL ry n) (hR : rm.frames + 1 ≤ R.frames ∧ 8 + (maxL + 11) + rm.locals ≤ R.locals) (hl : va_Nw (.methodLinkNest own idx y host) s) : va_CN R s args own idx y host bytes maxL ry (.code y bytes maxL ry :: TT) rm rm.cells rm.slots n := by
  obtain ⟨hx, hb, hml, hown, hts, hK, hbs, hret, hlk, hNs, hG, hNw⟩ := X
  have hG2 : GoodIn TT (.code y bytes maxL ry :: TT) := fun w hw => by
    rcases List.mem_cons.mp hw with h | h
    · rw [h]; exact hG _ hy.1
    · exact hG w h
  exact va_cnB n hts hG2 rfl rfl rfl hl (hts _ hy.2.1) ⟨hy.2.2.1.1, hy.2.2.1.2, hy.2.2.2⟩ hR
/-- calls of nest mates' private methods -/
theorem mJ_callSN (X : mX p s m meth c args cc nL own ret TT NN D cl b) {y : MethodName} {bytes : ByteArray} {maxL n idx : Nat} {host : String} {ry : Option FieldType} {rm : Room} {As : List Value} {post : Option Value → mT → mI → mP → Prop} (hM : mMet l D cl ty b TT NN y bytes maxL ry rm T I P As post) (hy : mMe TT y bytes maxL ry n) (hl : va_Nw (.methodLinkNest own idx y host) s) (hss : Cond.static y ∈ TT)
    (hn : As.length = n) {st0 : List Value} (hst : st0 = As.reverse ++ rest) (hW : (rest.map fun v => v.category).sum ≤ 8) (hR : rm.frames + 1 ≤ R.frames ∧ 8 + (maxL + 11) + rm.locals ≤ R.locals) (hf : cells + rm.cells ≤ R.cells ∧ slots + rm.slots ≤ R.slots) (hd : decode cc pc = .ok (.invokestatic idx, 3))
    (kk : ∀ (v : Option Value) (T' : mT) (I' : mI) (P' : mP), post v T' I' P' → mJ p l e R s m args below meth c D cl ty b nL Q (cells + rm.cells) (slots + rm.slots) T' I' P' lv (pc + 3) (v.toList ++ rest)) : mJ p l e R s m args below meth c D cl ty b nL Q cells slots T I P lv pc st0 := by
  refine mJ_run (a := As.toArray) (fun H locs ls h1 h2 h3 => ?_) kk
  exact va_runSN (As := As) ⟨X.1, X.2.1, X.2.2.1, X.2.2.2.1, X.2.2.2.2.1⟩ hM ⟨mCallN X hy hR hl, X.2.2.2.2.1 _ hss, trivial⟩ ⟨mPre_blind X.2.2.2.2.2.2.2.2.2.2.2, mPre_at X h1 h2 _⟩ rfl hn h3.1 hst (lv_room hW) hd hf
theorem mJ_callIN (X : mX p s m meth c args cc nL own ret TT NN D cl b) {y : MethodName} {bytes : ByteArray} {maxL n idx a : Nat} {host : String} {rm : Room} {As : List Value} {post : Option Value → mT → mI → mP → Prop} (hM : mMet l D cl ty b TT NN y bytes maxL none rm T I P (.ref a :: As) post) (hy : mMe TT y bytes maxL none n) (hl : va_Nw (.methodLinkNest own idx y host) s) (hin : Cond.instanceMethod y ∈ TT) (hnm : y.name = "<init>")
    (hn : As.length = n) {st0 : List Value} (hst : st0 = As.reverse ++ .ref a :: rest) (hW : (rest.map fun v => v.category).sum ≤ 8) (hR : rm.frames + 1 ≤ R.frames ∧ 8 + (maxL + 11) + rm.locals ≤ R.locals) (hf : cells + rm.cells ≤ R.cells ∧ slots + rm.slots ≤ R.slots) (hd : decode cc pc = .ok (.invokespecial idx, 3))
    (kk : ∀ (v : Option Value) (T' : mT) (I' : mI) (P' : mP), post v T' I' P' → mJ p l e R s m args below meth c D cl ty b nL Q (cells + rm.cells) (slots + rm.slots) T' I' P' lv (pc + 3) (v.toList ++ rest)) : mJ p l e R s m args below meth c D cl ty b nL Q cells slots T I P lv pc st0 := by
  refine mJ_run (a := (Value.ref a :: As).toArray) (fun H locs ls h1 h2 h3 => ?_) kk
  exact va_runIN (b := a) (As := As) ⟨X.1, X.2.1, X.2.2.1, X.2.2.2.1, X.2.2.2.2.1⟩ hM ⟨mCallN X hy hR hl, hnm, X.2.2.2.2.1 _ hin⟩ ⟨mPre_blind X.2.2.2.2.2.2.2.2.2.2.2, mPre_at X h1 h2 _⟩ rfl hn h3.1 hst (lv_room hW) hd hf
theorem mJ_objInit (X : mX p s m meth c args cc nL own ret TT NN D cl b) {idx a : Nat} (hl : Cond.methodLink own idx Lib.objectInit ∈ TT) (hin : Cond.instanceMethod Lib.objectInit ∈ TT) (hco : Cond.code Lib.objectInit ⟨#[0xb1]⟩ 1 none ∈ TT) (hd : decode cc pc = .ok (.invokespecial idx, 3)) (hfr : 1 ≤ R.frames) (hlo : (rest.map fun v => v.category).sum + 12 ≤ R.locals)
    (k : mJ p l e R s m args below meth c D cl ty b nL Q cells slots T I P lv (pc + 3) rest) : mJ p l e R s m args below meth c D cl ty b nL Q cells slots T I P lv pc (.ref a :: rest) := by
  intro H locs ls h1 h2 h3
  refine W.objInit X.1 X.2.1 X.2.2.2.1 (X.2.2.2.2.1 _ hl) (X.2.2.2.2.1 _ hin) (X.2.2.2.2.1 _ hco) rfl (by rw [X.2.2.1]; exact h3.1) rfl hd hfr ?_ (k H locs ls h1 h2 h3)
  show 2 * 0 + _ + 12 ≤ _
  omega
end MK
section MCP
variable {p : Program} {l : Launch} {e : Env} {R : Room} {s : State} {m : MethodId} {args : Array Value} {below : List Frame} {meth : Method} {c : Code}
variable {D : va_G} {cl : List vw_C} {ty : Nat → Nat → FieldType} {b nL : Nat} {Q : State → Prop} {cells slots : Nat} {T : mT} {I : mI} {P : mP} {lv : List (Nat × Value)} {pc : Nat} {rest : List Value}
variable {cc : ByteArray} {own : String} {ret : Option FieldType} {TT : List Cond} {NN : State → Prop}
/-- System.arraycopy between rows of ints -/
theorem mJ_copy (X : mX p s m meth c args cc nL own ret TT NN D cl b) {idx a0 a n0 n1 : Nat} (hl : Cond.methodLink own idx arraycopyName ∈ TT) (hnat : Cond.native arraycopyName ∈ TT) (hstat : Cond.static arraycopyName ∈ TT) (hini : Cond.initialized "java/lang/System" ∈ TT) (hT0 : T a0 = some (1, 0, n0)) (hT1 : T a = some (1, 0, n1))
    {sp dp n : Int32} (h1 : ¬ sp < 0) (h2 : ¬ dp < 0) (h3 : ¬ n < 0) (h4 : sp.toNatClampNeg + n.toNatClampNeg ≤ n0) (h5 : dp.toNatClampNeg + n.toNatClampNeg ≤ n1) (hframes : 1 ≤ R.frames) (hlocals : (rest.map fun v => v.category).sum + (nativeFrameWords "java/lang/System" "arraycopy" 5 + 11) ≤ R.locals) (hd : decode cc pc = .ok (.invokestatic idx, 3))
    (kk : ∀ I' : mI, I' = (fun x => if x = a then va_cpy (I a0) (I a) sp.toNatClampNeg dp.toNatClampNeg n.toNatClampNeg else I x) → mJ p l e R s m args below meth c D cl ty b nL Q cells slots T I' P lv (pc + 3) rest) : mJ p l e R s m args below meth c D cl ty b nL Q cells slots T I P lv pc (.int n :: .int dp :: .ref a :: .int sp :: .ref a0 :: rest) := by
  have nn : ∀ z : Int32, ¬ z < 0 → z.toInt = (z.toNatClampNeg : Int) := by
    intro z hz
    have hz0 : (0 : Int) ≤ z.toInt := by
      have := Int32.not_lt.mp hz
      simpa using Int32.le_iff_toInt_le.mp this
    show z.toInt = ((z.toInt.toNat : Nat) : Int)
    omega
  intro H locs ls w1 w2 w3 Ts hT X9
  obtain ⟨hx, hb, hml, hown, hts, hK, hbs, hret, hlk, hNs, hG, hNw⟩ := X
  obtain ⟨hba0, c0, ⟨r0, r0'⟩, hc0⟩ := w1 a0 _ hT0
  obtain ⟨hba, c1, ⟨r1, r1'⟩, hc1⟩ := w1 a _ hT1
  obtain ⟨-, k0, hk0, cm0, hkk0⟩ := r0 n0 (fun j => .int (I a0 j))
  obtain ⟨-, k1, hk1, cm1, hkk1⟩ := r1 n1 (fun j => .int (I a j))
  obtain ⟨vm', X', step⟩ := X9.arraycopy hx hown (hts _ hl) (hts _ hnat) (hts _ hstat) (hts _ hini) (src := a0) (dst := a) (cs := vp_cell c0 (n0, .inl (I a0))) (cd := vp_cell c1 (n1, .inl (I a))) (srcPos := sp) (destPos := dp) (n := n) (by rw [hT]; exact hc0) (by rw [hT]; exact hc1)
    (fun _ h => by cases h) (fun _ h => by cases h) (fun h => by cases h) (fun h => by cases h) hk0 hk1 hkk0 hkk1 (by simp [refKind]) h1 h2 h3
    (by rw [nn sp h1, nn n h3]; show ¬ _ > ((arrV c0 n0 (fun j => .int (I a0 j))).slots.size : Int); rw [arrV_size]; omega)
    (by rw [nn dp h2, nn n h3]; show ¬ _ > ((arrV c1 n1 (fun j => .int (I a j))).slots.size : Int); rw [arrV_size]; omega)
    (fun vm₁ _ i hi => by
      have e : (vp_cell c0 (n0, .inl (I a0))).slots.getD (sp.toNatClampNeg + i) .null = .int (I a0 (sp.toNatClampNeg + i)) := by
        show (arrV c0 n0 (fun j => .int (I a0 j))).slots.getD _ _ = _
        rw [Array.getD_eq_getD_getElem?, arrV_read _ _ (by omega)]
        rfl
      refine ⟨?_, ?_⟩
      · rw [e]
        rfl
      · rw [e]
        exact trivial)
    (g := F0 m pc ls (.int n :: .int dp :: .ref a :: .int sp :: .ref a0 :: rest)) rfl (by rw [hml]; exact w3.1) (rest := rest) rfl (by rw [hb]; exact hd) hframes (by show 2 * 0 + _ + _ ≤ _; omega)
  have e1 : copied (vp_cell c0 (n0, .inl (I a0))) (vp_cell c1 (n1, .inl (I a))) sp dp n = vp_cell c1 (n1, .inl (va_cpy (I a0) (I a) sp.toNatClampNeg dp.toNatClampNeg n.toNatClampNeg)) := va_copied (fun z => .int z) c0 c1 (I a0) (I a) h4
  rw [e1] at X' step
  have hl9 : a < H.size := (Array.getElem?_eq_some_iff.mp hc1).1
  have hheap : ((Ts.setVm vm').setCell a (vp_cell c1 (n1, .inl (va_cpy (I a0) (I a) sp.toNatClampNeg dp.toNatClampNeg n.toNatClampNeg)))).heap = H.setIfInBounds a (vp_cell c1 (n1, .inl (va_cpy (I a0) (I a) sp.toNatClampNeg dp.toNatClampNeg n.toNatClampNeg))) := by rw [← hT]; rfl
  have oq : ∀ q : Nat, q ≠ a → (H.setIfInBounds a (vp_cell c1 (n1, .inl (va_cpy (I a0) (I a) sp.toNatClampNeg dp.toNatClampNeg n.toNatClampNeg))))[q]? = H[q]? := fun q hq => by simp [Array.getElem?_setIfInBounds, Ne.symm hq]
  obtain ⟨t, a1, b1⟩ := kk _ rfl _ _ ls (w1.put hT1 (I' := fun x => if x = a then va_cpy (I a0) (I a) sp.toNatClampNeg dp.toNatClampNeg n.toNatClampNeg else I x) (P' := P) (fun x hx => by simp [hx]) (fun _ _ => rfl) oq ⟨c1, ⟨r1, r1'⟩, (show (H.setIfInBounds a _)[a]? = some _ by simp [Array.getElem?_setIfInBounds, hl9, vp_cell])⟩) ⟨by simp; exact w2.1, fun q g1 g2 => by
      rw [oq q (fun e => g2 (by rw [e]; exact hba))]
      exact w2.2.1 q g1 g2, fun q hq => by
      rcases List.mem_append.mp hq with h | h
      · exact w2.2.2 q h
      · obtain ⟨z, -, hz⟩ := List.mem_map.mp h
        rw [← hz]
        exact hba⟩ w3 _ hheap X'
  exact ⟨t, step t a1, b1⟩
end MCP
end
section
/-! rows over the memory, by bundles: a field (mF), a method (mM), a call by its number of arguments -/
/-- a field that the class 'own' names at the pool's place idx: field k of class number ci, of numbers (t = 0) or of references (t = 1) -/
def mF (cl : List vw_C) (ty : Nat → Nat → FieldType) (TT : List Cond) (own : String) (idx ci k t : Nat) : Prop := ∃ (C : String) (F : u_T) (N : Nat), mCl cl ty TT ci C F N ∧ k < N ∧ Cond.fieldLink own idx (F k).1 (F k).2.1 (F k).2.2.1 ∈ TT ∧ ((F k).2.2.2 = false ∨ ((F k).2.2.2 = true ∧ (F k).1 = own)) ∧ (t = 0 → ∀ x r, mv (ty ci k) x r = .int x) ∧ (t = 1 → (∀ x r, mv (ty ci k) x r = va_rf r) ∧ ∀ v : Nat, narrow (ty ci k) (.ref v) = .ref v ∧ fits (ty ci k) (.ref v) = true)
/-- the field may be written outside a constructor -/
def mFw (cl : List vw_C) (own : String) (ci k : Nat) : Prop := ∃ (C : String) (F : u_T) (N : Nat), cl[ci]? = some (C, F, N) ∧ (F k).2.2.2 = false
abbrev mR (k : Nat) : Room := { frames := k, cells := 0, slots := 0, locals := 33 * k }
abbrev mPi (T : mT) (r : Int32) (I2 : mI) (P2 : mP) : Option Value → mT → mI → mP → Prop := fun v T' I' P' => v = some (.int r) ∧ T' = T ∧ I' = I2 ∧ P' = P2
abbrev mPr (T : mT) (r : Nat) (I2 : mI) (P2 : mP) : Option Value → mT → mI → mP → Prop := fun v T' I' P' => v = some (.ref r) ∧ T' = T ∧ I' = I2 ∧ P' = P2
abbrev mPv (T : mT) (I2 : mI) (P2 : mP) : Option Value → mT → mI → mP → Prop := fun v T' I' P' => v = none ∧ T' = T ∧ I' = I2 ∧ P' = P2
/-- a call's words: of an object's method, of a static one -/
def mG (cl : List vw_C) (TT : List Cond) (own : String) (idx : Nat) (y : MethodName) (bytes : ByteArray) (maxL : Nat) (ret : Option FieldType) (n ci : Nat) : Prop := mMe TT y bytes maxL ret n ∧ (∃ (F : u_T) (N : Nat), cl[ci]? = some (y.cls, F, N)) ∧ Cond.methodLink own idx y ∈ TT ∧ Cond.instanceMethod y ∈ TT ∧ Cond.selects y.cls y y ∈ TT
def mGS (TT : List Cond) (own : String) (idx : Nat) (y : MethodName) (bytes : ByteArray) (maxL : Nat) (ret : Option FieldType) (n : Nat) : Prop := mMe TT y bytes maxL ret n ∧ Cond.methodLink own idx y ∈ TT ∧ Cond.static y ∈ TT
def mGN (TT : List Cond) (NN : State → Prop) (own : String) (idx : Nat) (y : MethodName) (host : String) (bytes : ByteArray) (maxL : Nat) (ret : Option FieldType) (n : Nat) : Prop := mMe TT y bytes maxL ret n ∧ (∀ U : State, NN U → va_Nw (.methodLinkNest own idx y host) U) ∧ Cond.static y ∈ TT
section MR
variable {p : Program} {l : Launch} {e : Env} {R : Room} {s : State} {m : MethodId} {args : Array Value} {below : List Frame} {meth : Method} {c : Code}
variable {D : va_G} {cl : List vw_C} {ty : Nat → Nat → FieldType} {b nL : Nat} {Q : State → Prop} {cells slots : Nat} {T : mT} {I : mI} {P : mP} {lv : List (Nat × Value)} {pc : Nat} {rest : List Value}
variable {cc : ByteArray} {own : String} {ret : Option FieldType} {TT : List Cond} {NN : State → Prop}
theorem mJ_nI {st : List Value} (k : ∀ I' : mI, I' = I → mJ p l e R s m args below meth c D cl ty b nL Q cells slots T I' P lv pc st) : mJ p l e R s m args below meth c D cl ty b nL Q cells slots T I P lv pc st := k I rfl
theorem mJ_nP {st : List Value} (k : ∀ P' : mP, P' = P → mJ p l e R s m args below meth c D cl ty b nL Q cells slots T I P' lv pc st) : mJ p l e R s m args below meth c D cl ty b nL Q cells slots T I P lv pc st := k P rfl
theorem mJ_top {x : Int32} (k : ∀ y : Int32, y = x → mJ p l e R s m args below meth c D cl ty b nL Q cells slots T I P lv pc (.int y :: rest)) : mJ p l e R s m args below meth c D cl ty b nL Q cells slots T I P lv pc (.int x :: rest) := k x rfl
theorem mJ_getI (X : mX p s m meth c args cc nL own ret TT NN D cl b) {a ci k idx : Nat} (hf : mF cl ty TT own idx ci k 0) (hT : T a = some (0, ci, 0)) (hd : decode cc pc = .ok (.getfield idx, 3)) (kk : mJ p l e R s m args below meth c D cl ty b nL Q cells slots T I P lv (pc + 3) (.int (I a k) :: rest)) : mJ p l e R s m args below meth c D cl ty b nL Q cells slots T I P lv pc (.ref a :: rest) := by
  obtain ⟨C, F, N, h1, h2, h3, h4, h5, h6⟩ := hf
  exact mJ_get X h1 hT h2 h3 (h5 rfl _ _) hd kk
theorem mJ_getR (X : mX p s m meth c args cc nL own ret TT NN D cl b) {a ci k idx y : Nat} (hf : mF cl ty TT own idx ci k 1) (hT : T a = some (0, ci, 0)) (hr : P a k = some y) (hd : decode cc pc = .ok (.getfield idx, 3)) (kk : mJ p l e R s m args below meth c D cl ty b nL Q cells slots T I P lv (pc + 3) (.ref y :: rest)) : mJ p l e R s m args below meth c D cl ty b nL Q cells slots T I P lv pc (.ref a :: rest) := by
  obtain ⟨C, F, N, h1, h2, h3, h4, h5, h6⟩ := hf
  exact mJ_get X h1 hT h2 h3 (by rw [(h6 rfl).1, hr]; rfl) hd kk
theorem mF_fin {own : String} {idx ci k t : Nat} (hf : mF cl ty TT own idx ci k t) (hw : mFw cl own ci k ∨ meth.name = "<init>") : ∃ (C : String) (F : u_T) (N : Nat), mCl cl ty TT ci C F N ∧ k < N ∧ Cond.fieldLink own idx (F k).1 (F k).2.1 (F k).2.2.1 ∈ TT ∧ ((F k).2.2.2 = false ∨ ((F k).2.2.2 = true ∧ meth.name = "<init>" ∧ (F k).1 = own)) ∧ (t = 0 → ∀ x r, mv (ty ci k) x r = .int x) ∧ (t = 1 → (∀ x r, mv (ty ci k) x r = va_rf r) ∧ ∀ v : Nat, narrow (ty ci k) (.ref v) = .ref v ∧ fits (ty ci k) (.ref v) = true) := by
  obtain ⟨C, F, N, h1, h2, h3, h4, h5, h6⟩ := hf
  refine ⟨C, F, N, h1, h2, h3, ?_, h5, h6⟩
  rcases hw with ⟨C', F', N', hc, hfi⟩ | hw
  · left
    have := Option.some.inj (h1.1.symm.trans hc)
    simp at this
    rw [this.2.1]; exact hfi
  · rcases h4 with h | h
    · exact Or.inl h
    · exact Or.inr ⟨h.1, hw, h.2⟩
theorem mJ_setI (X : mX p s m meth c args cc nL own ret TT NN D cl b) {a ci k idx : Nat} {v : Int32} (hf : mF cl ty TT own idx ci k 0) (hw : mFw cl own ci k ∨ meth.name = "<init>") (hT : T a = some (0, ci, 0)) (hn : narrow (ty ci k) (.int v) = .int v ∧ fits (ty ci k) (.int v) = true) (hd : decode cc pc = .ok (.putfield idx, 3)) (kk : ∀ I' : mI, I' = mu I a k v → mJ p l e R s m args below meth c D cl ty b nL Q cells slots T I' P lv (pc + 3) rest) : mJ p l e R s m args below meth c D cl ty b nL Q cells slots T I P lv pc (.int v :: .ref a :: rest) := by
  obtain ⟨C, F, N, h1, h2, h3, h4, h5, h6⟩ := mF_fin hf hw
  exact mJ_putI X h1 hT h2 h3 h4 hn.1 hn.2 (h5 rfl) hd kk
theorem mJ_setR (X : mX p s m meth c args cc nL own ret TT NN D cl b) {a ci k idx v : Nat} (hf : mF cl ty TT own idx ci k 1) (hw : mFw cl own ci k ∨ meth.name = "<init>") (hT : T a = some (0, ci, 0)) (hd : decode cc pc = .ok (.putfield idx, 3)) (kk : ∀ P' : mP, P' = mu P a k (some v) → mJ p l e R s m args below meth c D cl ty b nL Q cells slots T I P' lv (pc + 3) rest) : mJ p l e R s m args below meth c D cl ty b nL Q cells slots T I P lv pc (.ref v :: .ref a :: rest) := by
  obtain ⟨C, F, N, h1, h2, h3, h4, h5, h6⟩ := mF_fin hf hw
  exact mJ_putR X h1 hT h2 h3 h4 ((h6 rfl).2 v).1 ((h6 rfl).2 v).2 (h6 rfl).1 hd kk
theorem mJ_Vi0 (X : mX p s m meth c args cc nL own ret TT NN D cl b) {y : MethodName} {bytes : ByteArray} {maxL idx a ci k : Nat} {ry : Option FieldType} {r : Int32} {I2 : mI} {P2 : mP} (hg : mG cl TT own idx y bytes maxL ry 0 ci) (hM : mMet l D cl ty b TT NN y bytes maxL ry (mR k) T I P [.ref a] (mPi T r I2 P2)) (hT : T a = some (0, ci, 0)) (hd : decode cc pc = .ok (.invokevirtual idx, 3)) (hR : k + 1 ≤ R.frames ∧ 8 + (maxL + 11) + 33 * k ≤ R.locals) (hW : (rest.map fun v => v.category).sum ≤ 8) (hcs : cells ≤ R.cells ∧ slots ≤ R.slots) (kk : mJ p l e R s m args below meth c D cl ty b nL Q cells slots T I2 P2 lv (pc + 3) (.int r :: rest)) : mJ p l e R s m args below meth c D cl ty b nL Q cells slots T I P lv pc (.ref a :: rest) := by
  obtain ⟨h1, ⟨F, N, h2⟩, h3, h4, h5⟩ := hg
  exact mJ_callV X (As := []) hM h1 h2 hT h3 h4 h5 rfl rfl hW hR hcs hd (fun v T' I' P' hp => by obtain ⟨rfl, rfl, rfl, rfl⟩ := hp; exact kk)
theorem mJ_Si0 (X : mX p s m meth c args cc nL own ret TT NN D cl b) {y : MethodName} {bytes : ByteArray} {maxL idx k : Nat} {ry : Option FieldType} {r : Int32} {I2 : mI} {P2 : mP} (hg : mGS TT own idx y bytes maxL ry 0) (hM : mMet l D cl ty b TT NN y bytes maxL ry (mR k) T I P [] (mPi T r I2 P2)) (hd : decode cc pc = .ok (.invokestatic idx, 3)) (hR : k + 1 ≤ R.frames ∧ 8 + (maxL + 11) + 33 * k ≤ R.locals) (hW : (rest.map fun v => v.category).sum ≤ 8) (hcs : cells ≤ R.cells ∧ slots ≤ R.slots) (kk : mJ p l e R s m args below meth c D cl ty b nL Q cells slots T I2 P2 lv (pc + 3) (.int r :: rest)) : mJ p l e R s m args below meth c D cl ty b nL Q cells slots T I P lv pc (rest) := by
  obtain ⟨h1, h3, h4⟩ := hg
  exact mJ_callS X (As := []) hM h1 h3 h4 rfl rfl hW hR hcs hd (fun v T' I' P' hp => by obtain ⟨rfl, rfl, rfl, rfl⟩ := hp; exact kk)
theorem mJ_Ni0 (X : mX p s m meth c args cc nL own ret TT NN D cl b) {y : MethodName} {bytes : ByteArray} {maxL idx k : Nat} {host : String} {ry : Option FieldType} {r : Int32} {I2 : mI} {P2 : mP} (hg : mGN TT NN own idx y host bytes maxL ry 0) (hM : mMet l D cl ty b TT NN y bytes maxL ry (mR k) T I P [] (mPi T r I2 P2)) (hd : decode cc pc = .ok (.invokestatic idx, 3)) (hR : k + 1 ≤ R.frames ∧ 8 + (maxL + 11) + 33 * k ≤ R.locals) (hW : (rest.map fun v => v.category).sum ≤ 8) (hcs : cells ≤ R.cells ∧ slots ≤ R.slots) (kk : mJ p l e R s m args below meth c D cl ty b nL Q cells slots T I2 P2 lv (pc + 3) (.int r :: rest)) : mJ p l e R s m args below meth c D cl ty b nL Q cells slots T I P lv pc (rest) := by
  obtain ⟨h1, h3, h4⟩ := hg
  exact mJ_callSN X (As := []) hM h1 (h3 s X.2.2.2.2.2.2.2.2.2.1) h4 rfl rfl hW hR hcs hd (fun v T' I' P' hp => by obtain ⟨rfl, rfl, rfl, rfl⟩ := hp; exact kk)
theorem mJ_Vr0 (X : mX p s m meth c args cc nL own ret TT NN D cl b) {y : MethodName} {bytes : ByteArray} {maxL idx a ci k : Nat} {ry : Option FieldType} {r : Nat} {I2 : mI} {P2 : mP} (hg : mG cl TT own idx y bytes maxL ry 0 ci) (hM : mMet l D cl ty b TT NN y bytes maxL ry (mR k) T I P [.ref a] (mPr T r I2 P2)) (hT : T a = some (0, ci, 0)) (hd : decode cc pc = .ok (.invokevirtual idx, 3)) (hR : k + 1 ≤ R.frames ∧ 8 + (maxL + 11) + 33 * k ≤ R.locals) (hW : (rest.map fun v => v.category).sum ≤ 8) (hcs : cells ≤ R.cells ∧ slots ≤ R.slots) (kk : mJ p l e R s m args below meth c D cl ty b nL Q cells slots T I2 P2 lv (pc + 3) (.ref r :: rest)) : mJ p l e R s m args below meth c D cl ty b nL Q cells slots T I P lv pc (.ref a :: rest) := by
  obtain ⟨h1, ⟨F, N, h2⟩, h3, h4, h5⟩ := hg
  exact mJ_callV X (As := []) hM h1 h2 hT h3 h4 h5 rfl rfl hW hR hcs hd (fun v T' I' P' hp => by obtain ⟨rfl, rfl, rfl, rfl⟩ := hp; exact kk)
theorem mJ_Sr0 (X : mX p s m meth c args cc nL own ret TT NN D cl b) {y : MethodName} {bytes : ByteArray} {maxL idx k : Nat} {ry : Option FieldType} {r : Nat} {I2 : mI} {P2 : mP} (hg : mGS TT own idx y bytes maxL ry 0) (hM : mMet l D cl ty b TT NN y bytes maxL ry (mR k) T I P [] (mPr T r I2 P2)) (hd : decode cc pc = .ok (.invokestatic idx, 3)) (hR : k + 1 ≤ R.frames ∧ 8 + (maxL + 11) + 33 * k ≤ R.locals) (hW : (rest.map fun v => v.category).sum ≤ 8) (hcs : cells ≤ R.cells ∧ slots ≤ R.slots) (kk : mJ p l e R s m args below meth c D cl ty b nL Q cells slots T I2 P2 lv (pc + 3) (.ref r :: rest)) : mJ p l e R s m args below meth c D cl ty b nL Q cells slots T I P lv pc (rest) := by
  obtain ⟨h1, h3, h4⟩ := hg
  exact mJ_callS X (As := []) hM h1 h3 h4 rfl rfl hW hR hcs hd (fun v T' I' P' hp => by obtain ⟨rfl, rfl, rfl, rfl⟩ := hp; exact kk)
theorem mJ_Nr0 (X : mX p s m meth c args cc nL own ret TT NN D cl b) {y : MethodName} {bytes : ByteArray} {maxL idx k : Nat} {host : String} {ry : Option FieldType} {r : Nat} {I2 : mI} {P2 : mP} (hg : mGN TT NN own idx y host bytes maxL ry 0) (hM : mMet l D cl ty b TT NN y bytes maxL ry (mR k) T I P [] (mPr T r I2 P2)) (hd : decode cc pc = .ok (.invokestatic idx, 3)) (hR : k + 1 ≤ R.frames ∧ 8 + (maxL + 11) + 33 * k ≤ R.locals) (hW : (rest.map fun v => v.category).sum ≤ 8) (hcs : cells ≤ R.cells ∧ slots ≤ R.slots) (kk : mJ p l e R s m args below meth c D cl ty b nL Q cells slots T I2 P2 lv (pc + 3) (.ref r :: rest)) : mJ p l e R s m args below meth c D cl ty b nL Q cells slots T I P lv pc (rest) := by
  obtain ⟨h1, h3, h4⟩ := hg
  exact mJ_callSN X (As := []) hM h1 (h3 s X.2.2.2.2.2.2.2.2.2.1) h4 rfl rfl hW hR hcs hd (fun v T' I' P' hp => by obtain ⟨rfl, rfl, rfl, rfl⟩ := hp; exact kk)
theorem mJ_Vv0 (X : mX p s m meth c args cc nL own ret TT NN D cl b) {y : MethodName} {bytes : ByteArray} {maxL idx a ci k : Nat} {ry : Option FieldType} {I2 : mI} {P2 : mP} (hg : mG cl TT own idx y bytes maxL ry 0 ci) (hM : mMet l D cl ty b TT NN y bytes maxL ry (mR k) T I P [.ref a] (mPv T I2 P2)) (hT : T a = some (0, ci, 0)) (hd : decode cc pc = .ok (.invokevirtual idx, 3)) (hR : k + 1 ≤ R.frames ∧ 8 + (maxL + 11) + 33 * k ≤ R.locals) (hW : (rest.map fun v => v.category).sum ≤ 8) (hcs : cells ≤ R.cells ∧ slots ≤ R.slots) (kk : mJ p l e R s m args below meth c D cl ty b nL Q cells slots T I2 P2 lv (pc + 3) (rest)) : mJ p l e R s m args below meth c D cl ty b nL Q cells slots T I P lv pc (.ref a :: rest) := by
  obtain ⟨h1, ⟨F, N, h2⟩, h3, h4, h5⟩ := hg
  exact mJ_callV X (As := []) hM h1 h2 hT h3 h4 h5 rfl rfl hW hR hcs hd (fun v T' I' P' hp => by obtain ⟨rfl, rfl, rfl, rfl⟩ := hp; exact kk)
theorem mJ_Sv0 (X : mX p s m meth c args cc nL own ret TT NN D cl b) {y : MethodName} {bytes : ByteArray} {maxL idx k : Nat} {ry : Option FieldType} {I2 : mI} {P2 : mP} (hg : mGS TT own idx y bytes maxL ry 0) (hM : mMet l D cl ty b TT NN y bytes maxL ry (mR k) T I P [] (mPv T I2 P2)) (hd : decode cc pc = .ok (.invokestatic idx, 3)) (hR : k + 1 ≤ R.frames ∧ 8 + (maxL + 11) + 33 * k ≤ R.locals) (hW : (rest.map fun v => v.category).sum ≤ 8) (hcs : cells ≤ R.cells ∧ slots ≤ R.slots) (kk : mJ p l e R s m args below meth c D cl ty b nL Q cells slots T I2 P2 lv (pc + 3) (rest)) : mJ p l e R s m args below meth c D cl ty b nL Q cells slots T I P lv pc (rest) := by
  obtain ⟨h1, h3, h4⟩ := hg
  exact mJ_callS X (As := []) hM h1 h3 h4 rfl rfl hW hR hcs hd (fun v T' I' P' hp => by obtain ⟨rfl, rfl, rfl, rfl⟩ := hp; exact kk)
theorem mJ_Nv0 (X : mX p s m meth c args cc nL own ret TT NN D cl b) {y : MethodName} {bytes : ByteArray} {maxL idx k : Nat} {host : String} {ry : Option FieldType} {I2 : mI} {P2 : mP} (hg : mGN TT NN own idx y host bytes maxL ry 0) (hM : mMet l D cl ty b TT NN y bytes maxL ry (mR k) T I P [] (mPv T I2 P2)) (hd : decode cc pc = .ok (.invokestatic idx, 3)) (hR : k + 1 ≤ R.frames ∧ 8 + (maxL + 11) + 33 * k ≤ R.locals) (hW : (rest.map fun v => v.category).sum ≤ 8) (hcs : cells ≤ R.cells ∧ slots ≤ R.slots) (kk : mJ p l e R s m args below meth c D cl ty b nL Q cells slots T I2 P2 lv (pc + 3) (rest)) : mJ p l e R s m args below meth c D cl ty b nL Q cells slots T I P lv pc (rest) := by
  obtain ⟨h1, h3, h4⟩ := hg
  exact mJ_callSN X (As := []) hM h1 (h3 s X.2.2.2.2.2.2.2.2.2.1) h4 rfl rfl hW hR hcs hd (fun v T' I' P' hp => by obtain ⟨rfl, rfl, rfl, rfl⟩ := hp; exact kk)
theorem mJ_Vi1 (X : mX p s m meth c args cc nL own ret TT NN D cl b) {y : MethodName} {bytes : ByteArray} {maxL idx a ci k : Nat} {ry : Option FieldType} {v1 : Value} {r : Int32} {I2 : mI} {P2 : mP} (hg : mG cl TT own idx y bytes maxL ry 1 ci) (hM : mMet l D cl ty b TT NN y bytes maxL ry (mR k) T I P [.ref a, v1] (mPi T r I2 P2)) (hT : T a = some (0, ci, 0)) (hd : decode cc pc = .ok (.invokevirtual idx, 3)) (hR : k + 1 ≤ R.frames ∧ 8 + (maxL + 11) + 33 * k ≤ R.locals) (hW : (rest.map fun v => v.category).sum ≤ 8) (hcs : cells ≤ R.cells ∧ slots ≤ R.slots) (kk : mJ p l e R s m args below meth c D cl ty b nL Q cells slots T I2 P2 lv (pc + 3) (.int r :: rest)) : mJ p l e R s m args below meth c D cl ty b nL Q cells slots T I P lv pc (v1 :: .ref a :: rest) := by
  obtain ⟨h1, ⟨F, N, h2⟩, h3, h4, h5⟩ := hg
  exact mJ_callV X (As := [v1]) hM h1 h2 hT h3 h4 h5 rfl rfl hW hR hcs hd (fun v T' I' P' hp => by obtain ⟨rfl, rfl, rfl, rfl⟩ := hp; exact kk)
theorem mJ_Si1 (X : mX p s m meth c args cc nL own ret TT NN D cl b) {y : MethodName} {bytes : ByteArray} {maxL idx k : Nat} {ry : Option FieldType} {v1 : Value} {r : Int32} {I2 : mI} {P2 : mP} (hg : mGS TT own idx y bytes maxL ry 1) (hM : mMet l D cl ty b TT NN y bytes maxL ry (mR k) T I P [v1] (mPi T r I2 P2)) (hd : decode cc pc = .ok (.invokestatic idx, 3)) (hR : k + 1 ≤ R.frames ∧ 8 + (maxL + 11) + 33 * k ≤ R.locals) (hW : (rest.map fun v => v.category).sum ≤ 8) (hcs : cells ≤ R.cells ∧ slots ≤ R.slots) (kk : mJ p l e R s m args below meth c D cl ty b nL Q cells slots T I2 P2 lv (pc + 3) (.int r :: rest)) : mJ p l e R s m args below meth c D cl ty b nL Q cells slots T I P lv pc (v1 :: rest) := by
  obtain ⟨h1, h3, h4⟩ := hg
  exact mJ_callS X (As := [v1]) hM h1 h3 h4 rfl rfl hW hR hcs hd (fun v T' I' P' hp => by obtain ⟨rfl, rfl, rfl, rfl⟩ := hp; exact kk)
theorem mJ_Ni1 (X : mX p s m meth c args cc nL own ret TT NN D cl b) {y : MethodName} {bytes : ByteArray} {maxL idx k : Nat} {host : String} {ry : Option FieldType} {v1 : Value} {r : Int32} {I2 : mI} {P2 : mP} (hg : mGN TT NN own idx y host bytes maxL ry 1) (hM : mMet l D cl ty b TT NN y bytes maxL ry (mR k) T I P [v1] (mPi T r I2 P2)) (hd : decode cc pc = .ok (.invokestatic idx, 3)) (hR : k + 1 ≤ R.frames ∧ 8 + (maxL + 11) + 33 * k ≤ R.locals) (hW : (rest.map fun v => v.category).sum ≤ 8) (hcs : cells ≤ R.cells ∧ slots ≤ R.slots) (kk : mJ p l e R s m args below meth c D cl ty b nL Q cells slots T I2 P2 lv (pc + 3) (.int r :: rest)) : mJ p l e R s m args below meth c D cl ty b nL Q cells slots T I P lv pc (v1 :: rest) := by
  obtain ⟨h1, h3, h4⟩ := hg
  exact mJ_callSN X (As := [v1]) hM h1 (h3 s X.2.2.2.2.2.2.2.2.2.1) h4 rfl rfl hW hR hcs hd (fun v T' I' P' hp => by obtain ⟨rfl, rfl, rfl, rfl⟩ := hp; exact kk)
theorem mJ_Vr1 (X : mX p s m meth c args cc nL own ret TT NN D cl b) {y : MethodName} {bytes : ByteArray} {maxL idx a ci k : Nat} {ry : Option FieldType} {v1 : Value} {r : Nat} {I2 : mI} {P2 : mP} (hg : mG cl TT own idx y bytes maxL ry 1 ci) (hM : mMet l D cl ty b TT NN y bytes maxL ry (mR k) T I P [.ref a, v1] (mPr T r I2 P2)) (hT : T a = some (0, ci, 0)) (hd : decode cc pc = .ok (.invokevirtual idx, 3)) (hR : k + 1 ≤ R.frames ∧ 8 + (maxL + 11) + 33 * k ≤ R.locals) (hW : (rest.map fun v => v.category).sum ≤ 8) (hcs : cells ≤ R.cells ∧ slots ≤ R.slots) (kk : mJ p l e R s m args below meth c D cl ty b nL Q cells slots T I2 P2 lv (pc + 3) (.ref r :: rest)) : mJ p l e R s m args below meth c D cl ty b nL Q cells slots T I P lv pc (v1 :: .ref a :: rest) := by
  obtain ⟨h1, ⟨F, N, h2⟩, h3, h4, h5⟩ := hg
  exact mJ_callV X (As := [v1]) hM h1 h2 hT h3 h4 h5 rfl rfl hW hR hcs hd (fun v T' I' P' hp => by obtain ⟨rfl, rfl, rfl, rfl⟩ := hp; exact kk)
theorem mJ_Sr1 (X : mX p s m meth c args cc nL own ret TT NN D cl b) {y : MethodName} {bytes : ByteArray} {maxL idx k : Nat} {ry : Option FieldType} {v1 : Value} {r : Nat} {I2 : mI} {P2 : mP} (hg : mGS TT own idx y bytes maxL ry 1) (hM : mMet l D cl ty b TT NN y bytes maxL ry (mR k) T I P [v1] (mPr T r I2 P2)) (hd : decode cc pc = .ok (.invokestatic idx, 3)) (hR : k + 1 ≤ R.frames ∧ 8 + (maxL + 11) + 33 * k ≤ R.locals) (hW : (rest.map fun v => v.category).sum ≤ 8) (hcs : cells ≤ R.cells ∧ slots ≤ R.slots) (kk : mJ p l e R s m args below meth c D cl ty b nL Q cells slots T I2 P2 lv (pc + 3) (.ref r :: rest)) : mJ p l e R s m args below meth c D cl ty b nL Q cells slots T I P lv pc (v1 :: rest) := by
  obtain ⟨h1, h3, h4⟩ := hg
  exact mJ_callS X (As := [v1]) hM h1 h3 h4 rfl rfl hW hR hcs hd (fun v T' I' P' hp => by obtain ⟨rfl, rfl, rfl, rfl⟩ := hp; exact kk)
theorem mJ_Nr1 (X : mX p s m meth c args cc nL own ret TT NN D cl b) {y : MethodName} {bytes : ByteArray} {maxL idx k : Nat} {host : String} {ry : Option FieldType} {v1 : Value} {r : Nat} {I2 : mI} {P2 : mP} (hg : mGN TT NN own idx y host bytes maxL ry 1) (hM : mMet l D cl ty b TT NN y bytes maxL ry (mR k) T I P [v1] (mPr T r I2 P2)) (hd : decode cc pc = .ok (.invokestatic idx, 3)) (hR : k + 1 ≤ R.frames ∧ 8 + (maxL + 11) + 33 * k ≤ R.locals) (hW : (rest.map fun v => v.category).sum ≤ 8) (hcs : cells ≤ R.cells ∧ slots ≤ R.slots) (kk : mJ p l e R s m args below meth c D cl ty b nL Q cells slots T I2 P2 lv (pc + 3) (.ref r :: rest)) : mJ p l e R s m args below meth c D cl ty b nL Q cells slots T I P lv pc (v1 :: rest) := by
  obtain ⟨h1, h3, h4⟩ := hg
  exact mJ_callSN X (As := [v1]) hM h1 (h3 s X.2.2.2.2.2.2.2.2.2.1) h4 rfl rfl hW hR hcs hd (fun v T' I' P' hp => by obtain ⟨rfl, rfl, rfl, rfl⟩ := hp; exact kk)
theorem mJ_Vv1 (X : mX p s m meth c args cc nL own ret TT NN D cl b) {y : MethodName} {bytes : ByteArray} {maxL idx a ci k : Nat} {ry : Option FieldType} {v1 : Value} {I2 : mI} {P2 : mP} (hg : mG cl TT own idx y bytes maxL ry 1 ci) (hM : mMet l D cl ty b TT NN y bytes maxL ry (mR k) T I P [.ref a, v1] (mPv T I2 P2)) (hT : T a = some (0, ci, 0)) (hd : decode cc pc = .ok (.invokevirtual idx, 3)) (hR : k + 1 ≤ R.frames ∧ 8 + (maxL + 11) + 33 * k ≤ R.locals) (hW : (rest.map fun v => v.category).sum ≤ 8) (hcs : cells ≤ R.cells ∧ slots ≤ R.slots) (kk : mJ p l e R s m args below meth c D cl ty b nL Q cells slots T I2 P2 lv (pc + 3) (rest)) : mJ p l e R s m args below meth c D cl ty b nL Q cells slots T I P lv pc (v1 :: .ref a :: rest) := by
  obtain ⟨h1, ⟨F, N, h2⟩, h3, h4, h5⟩ := hg
  exact mJ_callV X (As := [v1]) hM h1 h2 hT h3 h4 h5 rfl rfl hW hR hcs hd (fun v T' I' P' hp => by obtain ⟨rfl, rfl, rfl, rfl⟩ := hp; exact kk)
theorem mJ_Sv1 (X : mX p s m meth c args cc nL own ret TT NN D cl b) {y : MethodName} {bytes : ByteArray} {maxL idx k : Nat} {ry : Option FieldType} {v1 : Value} {I2 : mI} {P2 : mP} (hg : mGS TT own idx y bytes maxL ry 1) (hM : mMet l D cl ty b TT NN y bytes maxL ry (mR k) T I P [v1] (mPv T I2 P2)) (hd : decode cc pc = .ok (.invokestatic idx, 3)) (hR : k + 1 ≤ R.frames ∧ 8 + (maxL + 11) + 33 * k ≤ R.locals) (hW : (rest.map fun v => v.category).sum ≤ 8) (hcs : cells ≤ R.cells ∧ slots ≤ R.slots) (kk : mJ p l e R s m args below meth c D cl ty b nL Q cells slots T I2 P2 lv (pc + 3) (rest)) : mJ p l e R s m args below meth c D cl ty b nL Q cells slots T I P lv pc (v1 :: rest) := by
  obtain ⟨h1, h3, h4⟩ := hg
  exact mJ_callS X (As := [v1]) hM h1 h3 h4 rfl rfl hW hR hcs hd (fun v T' I' P' hp => by obtain ⟨rfl, rfl, rfl, rfl⟩ := hp; exact kk)
theorem mJ_Nv1 (X : mX p s m meth c args cc nL own ret TT NN D cl b) {y : MethodName} {bytes : ByteArray} {maxL idx k : Nat} {host : String} {ry : Option FieldType} {v1 : Value} {I2 : mI} {P2 : mP} (hg : mGN TT NN own idx y host bytes maxL ry 1) (hM : mMet l D cl ty b TT NN y bytes maxL ry (mR k) T I P [v1] (mPv T I2 P2)) (hd : decode cc pc = .ok (.invokestatic idx, 3)) (hR : k + 1 ≤ R.frames ∧ 8 + (maxL + 11) + 33 * k ≤ R.locals) (hW : (rest.map fun v => v.category).sum ≤ 8) (hcs : cells ≤ R.cells ∧ slots ≤ R.slots) (kk : mJ p l e R s m args below meth c D cl ty b nL Q cells slots T I2 P2 lv (pc + 3) (rest)) : mJ p l e R s m args below meth c D cl ty b nL Q cells slots T I P lv pc (v1 :: rest) := by
  obtain ⟨h1, h3, h4⟩ := hg
  exact mJ_callSN X (As := [v1]) hM h1 (h3 s X.2.2.2.2.2.2.2.2.2.1) h4 rfl rfl hW hR hcs hd (fun v T' I' P' hp => by obtain ⟨rfl, rfl, rfl, rfl⟩ := hp; exact kk)
theorem mJ_Vi2 (X : mX p s m meth c args cc nL own ret TT NN D cl b) {y : MethodName} {bytes : ByteArray} {maxL idx a ci k : Nat} {ry : Option FieldType} {v1 v2 : Value} {r : Int32} {I2 : mI} {P2 : mP} (hg : mG cl TT own idx y bytes maxL ry 2 ci) (hM : mMet l D cl ty b TT NN y bytes maxL ry (mR k) T I P [.ref a, v1, v2] (mPi T r I2 P2)) (hT : T a = some (0, ci, 0)) (hd : decode cc pc = .ok (.invokevirtual idx, 3)) (hR : k + 1 ≤ R.frames ∧ 8 + (maxL + 11) + 33 * k ≤ R.locals) (hW : (rest.map fun v => v.category).sum ≤ 8) (hcs : cells ≤ R.cells ∧ slots ≤ R.slots) (kk : mJ p l e R s m args below meth c D cl ty b nL Q cells slots T I2 P2 lv (pc + 3) (.int r :: rest)) : mJ p l e R s m args below meth c D cl ty b nL Q cells slots T I P lv pc (v2 :: v1 :: .ref a :: rest) := by
  obtain ⟨h1, ⟨F, N, h2⟩, h3, h4, h5⟩ := hg
  exact mJ_callV X (As := [v1, v2]) hM h1 h2 hT h3 h4 h5 rfl rfl hW hR hcs hd (fun v T' I' P' hp => by obtain ⟨rfl, rfl, rfl, rfl⟩ := hp; exact kk)
theorem mJ_Si2 (X : mX p s m meth c args cc nL own ret TT NN D cl b) {y : MethodName} {bytes : ByteArray} {maxL idx k : Nat} {ry : Option FieldType} {v1 v2 : Value} {r : Int32} {I2 : mI} {P2 : mP} (hg : mGS TT own idx y bytes maxL ry 2) (hM : mMet l D cl ty b TT NN y bytes maxL ry (mR k) T I P [v1, v2] (mPi T r I2 P2)) (hd : decode cc pc = .ok (.invokestatic idx, 3)) (hR : k + 1 ≤ R.frames ∧ 8 + (maxL + 11) + 33 * k ≤ R.locals) (hW : (rest.map fun v => v.category).sum ≤ 8) (hcs : cells ≤ R.cells ∧ slots ≤ R.slots) (kk : mJ p l e R s m args below meth c D cl ty b nL Q cells slots T I2 P2 lv (pc + 3) (.int r :: rest)) : mJ p l e R s m args below meth c D cl ty b nL Q cells slots T I P lv pc (v2 :: v1 :: rest) := by
  obtain ⟨h1, h3, h4⟩ := hg
  exact mJ_callS X (As := [v1, v2]) hM h1 h3 h4 rfl rfl hW hR hcs hd (fun v T' I' P' hp => by obtain ⟨rfl, rfl, rfl, rfl⟩ := hp; exact kk)
theorem mJ_Ni2 (X : mX p s m meth c args cc nL own ret TT NN D cl b) {y : MethodName} {bytes : ByteArray} {maxL idx k : Nat} {host : String} {ry : Option FieldType} {v1 v2 : Value} {r : Int32} {I2 : mI} {P2 : mP} (hg : mGN TT NN own idx y host bytes maxL ry 2) (hM : mMet l D cl ty b TT NN y bytes maxL ry (mR k) T I P [v1, v2] (mPi T r I2 P2)) (hd : decode cc pc = .ok (.invokestatic idx, 3)) (hR : k + 1 ≤ R.frames ∧ 8 + (maxL + 11) + 33 * k ≤ R.locals) (hW : (rest.map fun v => v.category).sum ≤ 8) (hcs : cells ≤ R.cells ∧ slots ≤ R.slots) (kk : mJ p l e R s m args below meth c D cl ty b nL Q cells slots T I2 P2 lv (pc + 3) (.int r :: rest)) : mJ p l e R s m args below meth c D cl ty b nL Q cells slots T I P lv pc (v2 :: v1 :: rest) := by
  obtain ⟨h1, h3, h4⟩ := hg
  exact mJ_callSN X (As := [v1, v2]) hM h1 (h3 s X.2.2.2.2.2.2.2.2.2.1) h4 rfl rfl hW hR hcs hd (fun v T' I' P' hp => by obtain ⟨rfl, rfl, rfl, rfl⟩ := hp; exact kk)
theorem mJ_Vr2 (X : mX p s m meth c args cc nL own ret TT NN D cl b) {y : MethodName} {bytes : ByteArray} {maxL idx a ci k : Nat} {ry : Option FieldType} {v1 v2 : Value} {r : Nat} {I2 : mI} {P2 : mP} (hg : mG cl TT own idx y bytes maxL ry 2 ci) (hM : mMet l D cl ty b TT NN y bytes maxL ry (mR k) T I P [.ref a, v1, v2] (mPr T r I2 P2)) (hT : T a = some (0, ci, 0)) (hd : decode cc pc = .ok (.invokevirtual idx, 3)) (hR : k + 1 ≤ R.frames ∧ 8 + (maxL + 11) + 33 * k ≤ R.locals) (hW : (rest.map fun v => v.category).sum ≤ 8) (hcs : cells ≤ R.cells ∧ slots ≤ R.slots) (kk : mJ p l e R s m args below meth c D cl ty b nL Q cells slots T I2 P2 lv (pc + 3) (.ref r :: rest)) : mJ p l e R s m args below meth c D cl ty b nL Q cells slots T I P lv pc (v2 :: v1 :: .ref a :: rest) := by
  obtain ⟨h1, ⟨F, N, h2⟩, h3, h4, h5⟩ := hg
  exact mJ_callV X (As := [v1, v2]) hM h1 h2 hT h3 h4 h5 rfl rfl hW hR hcs hd (fun v T' I' P' hp => by obtain ⟨rfl, rfl, rfl, rfl⟩ := hp; exact kk)
theorem mJ_Sr2 (X : mX p s m meth c args cc nL own ret TT NN D cl b) {y : MethodName} {bytes : ByteArray} {maxL idx k : Nat} {ry : Option FieldType} {v1 v2 : Value} {r : Nat} {I2 : mI} {P2 : mP} (hg : mGS TT own idx y bytes maxL ry 2) (hM : mMet l D cl ty b TT NN y bytes maxL ry (mR k) T I P [v1, v2] (mPr T r I2 P2)) (hd : decode cc pc = .ok (.invokestatic idx, 3)) (hR : k + 1 ≤ R.frames ∧ 8 + (maxL + 11) + 33 * k ≤ R.locals) (hW : (rest.map fun v => v.category).sum ≤ 8) (hcs : cells ≤ R.cells ∧ slots ≤ R.slots) (kk : mJ p l e R s m args below meth c D cl ty b nL Q cells slots T I2 P2 lv (pc + 3) (.ref r :: rest)) : mJ p l e R s m args below meth c D cl ty b nL Q cells slots T I P lv pc (v2 :: v1 :: rest) := by
  obtain ⟨h1, h3, h4⟩ := hg
  exact mJ_callS X (As := [v1, v2]) hM h1 h3 h4 rfl rfl hW hR hcs hd (fun v T' I' P' hp => by obtain ⟨rfl, rfl, rfl, rfl⟩ := hp; exact kk)
theorem mJ_Nr2 (X : mX p s m meth c args cc nL own ret TT NN D cl b) {y : MethodName} {bytes : ByteArray} {maxL idx k : Nat} {host : String} {ry : Option FieldType} {v1 v2 : Value} {r : Nat} {I2 : mI} {P2 : mP} (hg : mGN TT NN own idx y host bytes maxL ry 2) (hM : mMet l D cl ty b TT NN y bytes maxL ry (mR k) T I P [v1, v2] (mPr T r I2 P2)) (hd : decode cc pc = .ok (.invokestatic idx, 3)) (hR : k + 1 ≤ R.frames ∧ 8 + (maxL + 11) + 33 * k ≤ R.locals) (hW : (rest.map fun v => v.category).sum ≤ 8) (hcs : cells ≤ R.cells ∧ slots ≤ R.slots) (kk : mJ p l e R s m args below meth c D cl ty b nL Q cells slots T I2 P2 lv (pc + 3) (.ref r :: rest)) : mJ p l e R s m args below meth c D cl ty b nL Q cells slots T I P lv pc (v2 :: v1 :: rest) := by
  obtain ⟨h1, h3, h4⟩ := hg
  exact mJ_callSN X (As := [v1, v2]) hM h1 (h3 s X.2.2.2.2.2.2.2.2.2.1) h4 rfl rfl hW hR hcs hd (fun v T' I' P' hp => by obtain ⟨rfl, rfl, rfl, rfl⟩ := hp; exact kk)
theorem mJ_Vv2 (X : mX p s m meth c args cc nL own ret TT NN D cl b) {y : MethodName} {bytes : ByteArray} {maxL idx a ci k : Nat} {ry : Option FieldType} {v1 v2 : Value} {I2 : mI} {P2 : mP} (hg : mG cl TT own idx y bytes maxL ry 2 ci) (hM : mMet l D cl ty b TT NN y bytes maxL ry (mR k) T I P [.ref a, v1, v2] (mPv T I2 P2)) (hT : T a = some (0, ci, 0)) (hd : decode cc pc = .ok (.invokevirtual idx, 3)) (hR : k + 1 ≤ R.frames ∧ 8 + (maxL + 11) + 33 * k ≤ R.locals) (hW : (rest.map fun v => v.category).sum ≤ 8) (hcs : cells ≤ R.cells ∧ slots ≤ R.slots) (kk : mJ p l e R s m args below meth c D cl ty b nL Q cells slots T I2 P2 lv (pc + 3) (rest)) : mJ p l e R s m args below meth c D cl ty b nL Q cells slots T I P lv pc (v2 :: v1 :: .ref a :: rest) := by
  obtain ⟨h1, ⟨F, N, h2⟩, h3, h4, h5⟩ := hg
  exact mJ_callV X (As := [v1, v2]) hM h1 h2 hT h3 h4 h5 rfl rfl hW hR hcs hd (fun v T' I' P' hp => by obtain ⟨rfl, rfl, rfl, rfl⟩ := hp; exact kk)
theorem mJ_Sv2 (X : mX p s m meth c args cc nL own ret TT NN D cl b) {y : MethodName} {bytes : ByteArray} {maxL idx k : Nat} {ry : Option FieldType} {v1 v2 : Value} {I2 : mI} {P2 : mP} (hg : mGS TT own idx y bytes maxL ry 2) (hM : mMet l D cl ty b TT NN y bytes maxL ry (mR k) T I P [v1, v2] (mPv T I2 P2)) (hd : decode cc pc = .ok (.invokestatic idx, 3)) (hR : k + 1 ≤ R.frames ∧ 8 + (maxL + 11) + 33 * k ≤ R.locals) (hW : (rest.map fun v => v.category).sum ≤ 8) (hcs : cells ≤ R.cells ∧ slots ≤ R.slots) (kk : mJ p l e R s m args below meth c D cl ty b nL Q cells slots T I2 P2 lv (pc + 3) (rest)) : mJ p l e R s m args below meth c D cl ty b nL Q cells slots T I P lv pc (v2 :: v1 :: rest) := by
  obtain ⟨h1, h3, h4⟩ := hg
  exact mJ_callS X (As := [v1, v2]) hM h1 h3 h4 rfl rfl hW hR hcs hd (fun v T' I' P' hp => by obtain ⟨rfl, rfl, rfl, rfl⟩ := hp; exact kk)
theorem mJ_Nv2 (X : mX p s m meth c args cc nL own ret TT NN D cl b) {y : MethodName} {bytes : ByteArray} {maxL idx k : Nat} {host : String} {ry : Option FieldType} {v1 v2 : Value} {I2 : mI} {P2 : mP} (hg : mGN TT NN own idx y host bytes maxL ry 2) (hM : mMet l D cl ty b TT NN y bytes maxL ry (mR k) T I P [v1, v2] (mPv T I2 P2)) (hd : decode cc pc = .ok (.invokestatic idx, 3)) (hR : k + 1 ≤ R.frames ∧ 8 + (maxL + 11) + 33 * k ≤ R.locals) (hW : (rest.map fun v => v.category).sum ≤ 8) (hcs : cells ≤ R.cells ∧ slots ≤ R.slots) (kk : mJ p l e R s m args below meth c D cl ty b nL Q cells slots T I2 P2 lv (pc + 3) (rest)) : mJ p l e R s m args below meth c D cl ty b nL Q cells slots T I P lv pc (v2 :: v1 :: rest) := by
  obtain ⟨h1, h3, h4⟩ := hg
  exact mJ_callSN X (As := [v1, v2]) hM h1 (h3 s X.2.2.2.2.2.2.2.2.2.1) h4 rfl rfl hW hR hcs hd (fun v T' I' P' hp => by obtain ⟨rfl, rfl, rfl, rfl⟩ := hp; exact kk)
theorem mJ_Vi3 (X : mX p s m meth c args cc nL own ret TT NN D cl b) {y : MethodName} {bytes : ByteArray} {maxL idx a ci k : Nat} {ry : Option FieldType} {v1 v2 v3 : Value} {r : Int32} {I2 : mI} {P2 : mP} (hg : mG cl TT own idx y bytes maxL ry 3 ci) (hM : mMet l D cl ty b TT NN y bytes maxL ry (mR k) T I P [.ref a, v1, v2, v3] (mPi T r I2 P2)) (hT : T a = some (0, ci, 0)) (hd : decode cc pc = .ok (.invokevirtual idx, 3)) (hR : k + 1 ≤ R.frames ∧ 8 + (maxL + 11) + 33 * k ≤ R.locals) (hW : (rest.map fun v => v.category).sum ≤ 8) (hcs : cells ≤ R.cells ∧ slots ≤ R.slots) (kk : mJ p l e R s m args below meth c D cl ty b nL Q cells slots T I2 P2 lv (pc + 3) (.int r :: rest)) : mJ p l e R s m args below meth c D cl ty b nL Q cells slots T I P lv pc (v3 :: v2 :: v1 :: .ref a :: rest) := by
  obtain ⟨h1, ⟨F, N, h2⟩, h3, h4, h5⟩ := hg
  exact mJ_callV X (As := [v1, v2, v3]) hM h1 h2 hT h3 h4 h5 rfl rfl hW hR hcs hd (fun v T' I' P' hp => by obtain ⟨rfl, rfl, rfl, rfl⟩ := hp; exact kk)
theorem mJ_Si3 (X : mX p s m meth c args cc nL own ret TT NN D cl b) {y : MethodName} {bytes : ByteArray} {maxL idx k : Nat} {ry : Option FieldType} {v1 v2 v3 : Value} {r : Int32} {I2 : mI} {P2 : mP} (hg : mGS TT own idx y bytes maxL ry 3) (hM : mMet l D cl ty b TT NN y bytes maxL ry (mR k) T I P [v1, v2, v3] (mPi T r I2 P2)) (hd : decode cc pc = .ok (.invokestatic idx, 3)) (hR : k + 1 ≤ R.frames ∧ 8 + (maxL + 11) + 33 * k ≤ R.locals) (hW : (rest.map fun v => v.category).sum ≤ 8) (hcs : cells ≤ R.cells ∧ slots ≤ R.slots) (kk : mJ p l e R s m args below meth c D cl ty b nL Q cells slots T I2 P2 lv (pc + 3) (.int r :: rest)) : mJ p l e R s m args below meth c D cl ty b nL Q cells slots T I P lv pc (v3 :: v2 :: v1 :: rest) := by
  obtain ⟨h1, h3, h4⟩ := hg
  exact mJ_callS X (As := [v1, v2, v3]) hM h1 h3 h4 rfl rfl hW hR hcs hd (fun v T' I' P' hp => by obtain ⟨rfl, rfl, rfl, rfl⟩ := hp; exact kk)
theorem mJ_Ni3 (X : mX p s m meth c args cc nL own ret TT NN D cl b) {y : MethodName} {bytes : ByteArray} {maxL idx k : Nat} {host : String} {ry : Option FieldType} {v1 v2 v3 : Value} {r : Int32} {I2 : mI} {P2 : mP} (hg : mGN TT NN own idx y host bytes maxL ry 3) (hM : mMet l D cl ty b TT NN y bytes maxL ry (mR k) T I P [v1, v2, v3] (mPi T r I2 P2)) (hd : decode cc pc = .ok (.invokestatic idx, 3)) (hR : k + 1 ≤ R.frames ∧ 8 + (maxL + 11) + 33 * k ≤ R.locals) (hW : (rest.map fun v => v.category).sum ≤ 8) (hcs : cells ≤ R.cells ∧ slots ≤ R.slots) (kk : mJ p l e R s m args below meth c D cl ty b nL Q cells slots T I2 P2 lv (pc + 3) (.int r :: rest)) : mJ p l e R s m args below meth c D cl ty b nL Q cells slots T I P lv pc (v3 :: v2 :: v1 :: rest) := by
  obtain ⟨h1, h3, h4⟩ := hg
  exact mJ_callSN X (As := [v1, v2, v3]) hM h1 (h3 s X.2.2.2.2.2.2.2.2.2.1) h4 rfl rfl hW hR hcs hd (fun v T' I' P' hp => by obtain ⟨rfl, rfl, rfl, rfl⟩ := hp; exact kk)
theorem mJ_Vr3 (X : mX p s m meth c args cc nL own ret TT NN D cl b) {y : MethodName} {bytes : ByteArray} {maxL idx a ci k : Nat} {ry : Option FieldType} {v1 v2 v3 : Value} {r : Nat} {I2 : mI} {P2 : mP} (hg : mG cl TT own idx y bytes maxL ry 3 ci) (hM : mMet l D cl ty b TT NN y bytes maxL ry (mR k) T I P [.ref a, v1, v2, v3] (mPr T r I2 P2)) (hT : T a = some (0, ci, 0)) (hd : decode cc pc = .ok (.invokevirtual idx, 3)) (hR : k + 1 ≤ R.frames ∧ 8 + (maxL + 11) + 33 * k ≤ R.locals) (hW : (rest.map fun v => v.category).sum ≤ 8) (hcs : cells ≤ R.cells ∧ slots ≤ R.slots) (kk : mJ p l e R s m args below meth c D cl ty b nL Q cells slots T I2 P2 lv (pc + 3) (.ref r :: rest)) : mJ p l e R s m args below meth c D cl ty b nL Q cells slots T I P lv pc (v3 :: v2 :: v1 :: .ref a :: rest) := by
  obtain ⟨h1, ⟨F, N, h2⟩, h3, h4, h5⟩ := hg
  exact mJ_callV X (As := [v1, v2, v3]) hM h1 h2 hT h3 h4 h5 rfl rfl hW hR hcs hd (fun v T' I' P' hp => by obtain ⟨rfl, rfl, rfl, rfl⟩ := hp; exact kk)
theorem mJ_Sr3 (X : mX p s m meth c args cc nL own ret TT NN D cl b) {y : MethodName} {bytes : ByteArray} {maxL idx k : Nat} {ry : Option FieldType} {v1 v2 v3 : Value} {r : Nat} {I2 : mI} {P2 : mP} (hg : mGS TT own idx y bytes maxL ry 3) (hM : mMet l D cl ty b TT NN y bytes maxL ry (mR k) T I P [v1, v2, v3] (mPr T r I2 P2)) (hd : decode cc pc = .ok (.invokestatic idx, 3)) (hR : k + 1 ≤ R.frames ∧ 8 + (maxL + 11) + 33 * k ≤ R.locals) (hW : (rest.map fun v => v.category).sum ≤ 8) (hcs : cells ≤ R.cells ∧ slots ≤ R.slots) (kk : mJ p l e R s m args below meth c D cl ty b nL Q cells slots T I2 P2 lv (pc + 3) (.ref r :: rest)) : mJ p l e R s m args below meth c D cl ty b nL Q cells slots T I P lv pc (v3 :: v2 :: v1 :: rest) := by
  obtain ⟨h1, h3, h4⟩ := hg
  exact mJ_callS X (As := [v1, v2, v3]) hM h1 h3 h4 rfl rfl hW hR hcs hd (fun v T' I' P' hp => by obtain ⟨rfl, rfl, rfl, rfl⟩ := hp; exact kk)
theorem mJ_Nr3 (X : mX p s m meth c args cc nL own ret TT NN D cl b) {y : MethodName} {bytes : ByteArray} {maxL idx k : Nat} {host : String} {ry : Option FieldType} {v1 v2 v3 : Value} {r : Nat} {I2 : mI} {P2 : mP} (hg : mGN TT NN own idx y host bytes maxL ry 3) (hM : mMet l D cl ty b TT NN y bytes maxL ry (mR k) T I P [v1, v2, v3] (mPr T r I2 P2)) (hd : decode cc pc = .ok (.invokestatic idx, 3)) (hR : k + 1 ≤ R.frames ∧ 8 + (maxL + 11) + 33 * k ≤ R.locals) (hW : (rest.map fun v => v.category).sum ≤ 8) (hcs : cells ≤ R.cells ∧ slots ≤ R.slots) (kk : mJ p l e R s m args below meth c D cl ty b nL Q cells slots T I2 P2 lv (pc + 3) (.ref r :: rest)) : mJ p l e R s m args below meth c D cl ty b nL Q cells slots T I P lv pc (v3 :: v2 :: v1 :: rest) := by
  obtain ⟨h1, h3, h4⟩ := hg
  exact mJ_callSN X (As := [v1, v2, v3]) hM h1 (h3 s X.2.2.2.2.2.2.2.2.2.1) h4 rfl rfl hW hR hcs hd (fun v T' I' P' hp => by obtain ⟨rfl, rfl, rfl, rfl⟩ := hp; exact kk)
theorem mJ_Vv3 (X : mX p s m meth c args cc nL own ret TT NN D cl b) {y : MethodName} {bytes : ByteArray} {maxL idx a ci k : Nat} {ry : Option FieldType} {v1 v2 v3 : Value} {I2 : mI} {P2 : mP} (hg : mG cl TT own idx y bytes maxL ry 3 ci) (hM : mMet l D cl ty b TT NN y bytes maxL ry (mR k) T I P [.ref a, v1, v2, v3] (mPv T I2 P2)) (hT : T a = some (0, ci, 0)) (hd : decode cc pc = .ok (.invokevirtual idx, 3)) (hR : k + 1 ≤ R.frames ∧ 8 + (maxL + 11) + 33 * k ≤ R.locals) (hW : (rest.map fun v => v.category).sum ≤ 8) (hcs : cells ≤ R.cells ∧ slots ≤ R.slots) (kk : mJ p l e R s m args below meth c D cl ty b nL Q cells slots T I2 P2 lv (pc + 3) (rest)) : mJ p l e R s m args below meth c D cl ty b nL Q cells slots T I P lv pc (v3 :: v2 :: v1 :: .ref a :: rest) := by
  obtain ⟨h1, ⟨F, N, h2⟩, h3, h4, h5⟩ := hg
  exact mJ_callV X (As := [v1, v2, v3]) hM h1 h2 hT h3 h4 h5 rfl rfl hW hR hcs hd (fun v T' I' P' hp => by obtain ⟨rfl, rfl, rfl, rfl⟩ := hp; exact kk)
theorem mJ_Sv3 (X : mX p s m meth c args cc nL own ret TT NN D cl b) {y : MethodName} {bytes : ByteArray} {maxL idx k : Nat} {ry : Option FieldType} {v1 v2 v3 : Value} {I2 : mI} {P2 : mP} (hg : mGS TT own idx y bytes maxL ry 3) (hM : mMet l D cl ty b TT NN y bytes maxL ry (mR k) T I P [v1, v2, v3] (mPv T I2 P2)) (hd : decode cc pc = .ok (.invokestatic idx, 3)) (hR : k + 1 ≤ R.frames ∧ 8 + (maxL + 11) + 33 * k ≤ R.locals) (hW : (rest.map fun v => v.category).sum ≤ 8) (hcs : cells ≤ R.cells ∧ slots ≤ R.slots) (kk : mJ p l e R s m args below meth c D cl ty b nL Q cells slots T I2 P2 lv (pc + 3) (rest)) : mJ p l e R s m args below meth c D cl ty b nL Q cells slots T I P lv pc (v3 :: v2 :: v1 :: rest) := by
  obtain ⟨h1, h3, h4⟩ := hg
  exact mJ_callS X (As := [v1, v2, v3]) hM h1 h3 h4 rfl rfl hW hR hcs hd (fun v T' I' P' hp => by obtain ⟨rfl, rfl, rfl, rfl⟩ := hp; exact kk)
theorem mJ_Nv3 (X : mX p s m meth c args cc nL own ret TT NN D cl b) {y : MethodName} {bytes : ByteArray} {maxL idx k : Nat} {host : String} {ry : Option FieldType} {v1 v2 v3 : Value} {I2 : mI} {P2 : mP} (hg : mGN TT NN own idx y host bytes maxL ry 3) (hM : mMet l D cl ty b TT NN y bytes maxL ry (mR k) T I P [v1, v2, v3] (mPv T I2 P2)) (hd : decode cc pc = .ok (.invokestatic idx, 3)) (hR : k + 1 ≤ R.frames ∧ 8 + (maxL + 11) + 33 * k ≤ R.locals) (hW : (rest.map fun v => v.category).sum ≤ 8) (hcs : cells ≤ R.cells ∧ slots ≤ R.slots) (kk : mJ p l e R s m args below meth c D cl ty b nL Q cells slots T I2 P2 lv (pc + 3) (rest)) : mJ p l e R s m args below meth c D cl ty b nL Q cells slots T I P lv pc (v3 :: v2 :: v1 :: rest) := by
  obtain ⟨h1, h3, h4⟩ := hg
  exact mJ_callSN X (As := [v1, v2, v3]) hM h1 (h3 s X.2.2.2.2.2.2.2.2.2.1) h4 rfl rfl hW hR hcs hd (fun v T' I' P' hp => by obtain ⟨rfl, rfl, rfl, rfl⟩ := hp; exact kk)
theorem mJ_Vi4 (X : mX p s m meth c args cc nL own ret TT NN D cl b) {y : MethodName} {bytes : ByteArray} {maxL idx a ci k : Nat} {ry : Option FieldType} {v1 v2 v3 v4 : Value} {r : Int32} {I2 : mI} {P2 : mP} (hg : mG cl TT own idx y bytes maxL ry 4 ci) (hM : mMet l D cl ty b TT NN y bytes maxL ry (mR k) T I P [.ref a, v1, v2, v3, v4] (mPi T r I2 P2)) (hT : T a = some (0, ci, 0)) (hd : decode cc pc = .ok (.invokevirtual idx, 3)) (hR : k + 1 ≤ R.frames ∧ 8 + (maxL + 11) + 33 * k ≤ R.locals) (hW : (rest.map fun v => v.category).sum ≤ 8) (hcs : cells ≤ R.cells ∧ slots ≤ R.slots) (kk : mJ p l e R s m args below meth c D cl ty b nL Q cells slots T I2 P2 lv (pc + 3) (.int r :: rest)) : mJ p l e R s m args below meth c D cl ty b nL Q cells slots T I P lv pc (v4 :: v3 :: v2 :: v1 :: .ref a :: rest) := by
  obtain ⟨h1, ⟨F, N, h2⟩, h3, h4, h5⟩ := hg
  exact mJ_callV X (As := [v1, v2, v3, v4]) hM h1 h2 hT h3 h4 h5 rfl rfl hW hR hcs hd (fun v T' I' P' hp => by obtain ⟨rfl, rfl, rfl, rfl⟩ := hp; exact kk)
theorem mJ_Vr4 (X : mX p s m meth c args cc nL own ret TT NN D cl b) {y : MethodName} {bytes : ByteArray} {maxL idx a ci k : Nat} {ry : Option FieldType} {v1 v2 v3 v4 : Value} {r : Nat} {I2 : mI} {P2 : mP} (hg : mG cl TT own idx y bytes maxL ry 4 ci) (hM : mMet l D cl ty b TT NN y bytes maxL ry (mR k) T I P [.ref a, v1, v2, v3, v4] (mPr T r I2 P2)) (hT : T a = some (0, ci, 0)) (hd : decode cc pc = .ok (.invokevirtual idx, 3)) (hR : k + 1 ≤ R.frames ∧ 8 + (maxL + 11) + 33 * k ≤ R.locals) (hW : (rest.map fun v => v.category).sum ≤ 8) (hcs : cells ≤ R.cells ∧ slots ≤ R.slots) (kk : mJ p l e R s m args below meth c D cl ty b nL Q cells slots T I2 P2 lv (pc + 3) (.ref r :: rest)) : mJ p l e R s m args below meth c D cl ty b nL Q cells slots T I P lv pc (v4 :: v3 :: v2 :: v1 :: .ref a :: rest) := by
  obtain ⟨h1, ⟨F, N, h2⟩, h3, h4, h5⟩ := hg
  exact mJ_callV X (As := [v1, v2, v3, v4]) hM h1 h2 hT h3 h4 h5 rfl rfl hW hR hcs hd (fun v T' I' P' hp => by obtain ⟨rfl, rfl, rfl, rfl⟩ := hp; exact kk)
theorem mJ_Vv4 (X : mX p s m meth c args cc nL own ret TT NN D cl b) {y : MethodName} {bytes : ByteArray} {maxL idx a ci k : Nat} {ry : Option FieldType} {v1 v2 v3 v4 : Value} {I2 : mI} {P2 : mP} (hg : mG cl TT own idx y bytes maxL ry 4 ci) (hM : mMet l D cl ty b TT NN y bytes maxL ry (mR k) T I P [.ref a, v1, v2, v3, v4] (mPv T I2 P2)) (hT : T a = some (0, ci, 0)) (hd : decode cc pc = .ok (.invokevirtual idx, 3)) (hR : k + 1 ≤ R.frames ∧ 8 + (maxL + 11) + 33 * k ≤ R.locals) (hW : (rest.map fun v => v.category).sum ≤ 8) (hcs : cells ≤ R.cells ∧ slots ≤ R.slots) (kk : mJ p l e R s m args below meth c D cl ty b nL Q cells slots T I2 P2 lv (pc + 3) (rest)) : mJ p l e R s m args below meth c D cl ty b nL Q cells slots T I P lv pc (v4 :: v3 :: v2 :: v1 :: .ref a :: rest) := by
  obtain ⟨h1, ⟨F, N, h2⟩, h3, h4, h5⟩ := hg
  exact mJ_callV X (As := [v1, v2, v3, v4]) hM h1 h2 hT h3 h4 h5 rfl rfl hW hR hcs hd (fun v T' I' P' hp => by obtain ⟨rfl, rfl, rfl, rfl⟩ := hp; exact kk)
theorem mJ_Vi5 (X : mX p s m meth c args cc nL own ret TT NN D cl b) {y : MethodName} {bytes : ByteArray} {maxL idx a ci k : Nat} {ry : Option FieldType} {v1 v2 v3 v4 v5 : Value} {r : Int32} {I2 : mI} {P2 : mP} (hg : mG cl TT own idx y bytes maxL ry 5 ci) (hM : mMet l D cl ty b TT NN y bytes maxL ry (mR k) T I P [.ref a, v1, v2, v3, v4, v5] (mPi T r I2 P2)) (hT : T a = some (0, ci, 0)) (hd : decode cc pc = .ok (.invokevirtual idx, 3)) (hR : k + 1 ≤ R.frames ∧ 8 + (maxL + 11) + 33 * k ≤ R.locals) (hW : (rest.map fun v => v.category).sum ≤ 8) (hcs : cells ≤ R.cells ∧ slots ≤ R.slots) (kk : mJ p l e R s m args below meth c D cl ty b nL Q cells slots T I2 P2 lv (pc + 3) (.int r :: rest)) : mJ p l e R s m args below meth c D cl ty b nL Q cells slots T I P lv pc (v5 :: v4 :: v3 :: v2 :: v1 :: .ref a :: rest) := by
  obtain ⟨h1, ⟨F, N, h2⟩, h3, h4, h5⟩ := hg
  exact mJ_callV X (As := [v1, v2, v3, v4, v5]) hM h1 h2 hT h3 h4 h5 rfl rfl hW hR hcs hd (fun v T' I' P' hp => by obtain ⟨rfl, rfl, rfl, rfl⟩ := hp; exact kk)
theorem mJ_Vr5 (X : mX p s m meth c args cc nL own ret TT NN D cl b) {y : MethodName} {bytes : ByteArray} {maxL idx a ci k : Nat} {ry : Option FieldType} {v1 v2 v3 v4 v5 : Value} {r : Nat} {I2 : mI} {P2 : mP} (hg : mG cl TT own idx y bytes maxL ry 5 ci) (hM : mMet l D cl ty b TT NN y bytes maxL ry (mR k) T I P [.ref a, v1, v2, v3, v4, v5] (mPr T r I2 P2)) (hT : T a = some (0, ci, 0)) (hd : decode cc pc = .ok (.invokevirtual idx, 3)) (hR : k + 1 ≤ R.frames ∧ 8 + (maxL + 11) + 33 * k ≤ R.locals) (hW : (rest.map fun v => v.category).sum ≤ 8) (hcs : cells ≤ R.cells ∧ slots ≤ R.slots) (kk : mJ p l e R s m args below meth c D cl ty b nL Q cells slots T I2 P2 lv (pc + 3) (.ref r :: rest)) : mJ p l e R s m args below meth c D cl ty b nL Q cells slots T I P lv pc (v5 :: v4 :: v3 :: v2 :: v1 :: .ref a :: rest) := by
  obtain ⟨h1, ⟨F, N, h2⟩, h3, h4, h5⟩ := hg
  exact mJ_callV X (As := [v1, v2, v3, v4, v5]) hM h1 h2 hT h3 h4 h5 rfl rfl hW hR hcs hd (fun v T' I' P' hp => by obtain ⟨rfl, rfl, rfl, rfl⟩ := hp; exact kk)
theorem mJ_Vv5 (X : mX p s m meth c args cc nL own ret TT NN D cl b) {y : MethodName} {bytes : ByteArray} {maxL idx a ci k : Nat} {ry : Option FieldType} {v1 v2 v3 v4 v5 : Value} {I2 : mI} {P2 : mP} (hg : mG cl TT own idx y bytes maxL ry 5 ci) (hM : mMet l D cl ty b TT NN y bytes maxL ry (mR k) T I P [.ref a, v1, v2, v3, v4, v5] (mPv T I2 P2)) (hT : T a = some (0, ci, 0)) (hd : decode cc pc = .ok (.invokevirtual idx, 3)) (hR : k + 1 ≤ R.frames ∧ 8 + (maxL + 11) + 33 * k ≤ R.locals) (hW : (rest.map fun v => v.category).sum ≤ 8) (hcs : cells ≤ R.cells ∧ slots ≤ R.slots) (kk : mJ p l e R s m args below meth c D cl ty b nL Q cells slots T I2 P2 lv (pc + 3) (rest)) : mJ p l e R s m args below meth c D cl ty b nL Q cells slots T I P lv pc (v5 :: v4 :: v3 :: v2 :: v1 :: .ref a :: rest) := by
  obtain ⟨h1, ⟨F, N, h2⟩, h3, h4, h5⟩ := hg
  exact mJ_callV X (As := [v1, v2, v3, v4, v5]) hM h1 h2 hT h3 h4 h5 rfl rfl hW hR hcs hd (fun v T' I' P' hp => by obtain ⟨rfl, rfl, rfl, rfl⟩ := hp; exact kk)
end MR
end
section
/-! the words: TT the good ones of lw_tbl, NN what else of the tables is carried; bundles by field and by call (printed by a program) -/
def TT : List Cond := lw_tbl.filter goodWord
theorem TT_good : GoodIn TT TT := fun w hw => ⟨hw, good_of_word (List.mem_filter.mp hw).2⟩
theorem TT_in {w : Cond} (i : Nat) (h : lw_tbl[i]? = some w) (hg : goodWord w = true) : w ∈ TT := List.mem_filter.mpr ⟨List.mem_of_getElem? h, hg⟩
theorem TT_t {w : Cond} (i : Nat) (h : tables_1[i]? = some w) (hg : goodWord w = true) : w ∈ TT := List.mem_filter.mpr ⟨List.mem_append_right _ (List.mem_of_getElem? h), hg⟩
theorem TT_1 {w : Cond} (i : Nat) (h : tables_1_1[i]? = some w) (hg : goodWord w = true) : w ∈ TT := List.mem_filter.mpr ⟨List.mem_append_right _ (List.mem_append_left _ (List.mem_of_getElem? h)), hg⟩
theorem TT_2 {w : Cond} (i : Nat) (h : tables_1_2[i]? = some w) (hg : goodWord w = true) : w ∈ TT := List.mem_filter.mpr ⟨List.mem_append_right _ (List.mem_append_right _ (List.mem_append_left _ (List.mem_of_getElem? h))), hg⟩
theorem TT_3 {w : Cond} (i : Nat) (h : tables_1_3[i]? = some w) (hg : goodWord w = true) : w ∈ TT := List.mem_filter.mpr ⟨List.mem_append_right _ (List.mem_append_right _ (List.mem_append_right _ (List.mem_append_left _ (List.mem_of_getElem? h)))), hg⟩
theorem TT_4 {w : Cond} (i : Nat) (h : tables_1_4[i]? = some w) (hg : goodWord w = true) : w ∈ TT := List.mem_filter.mpr ⟨List.mem_append_right _ (List.mem_append_right _ (List.mem_append_right _ (List.mem_append_right _ (List.mem_append_left _ (List.mem_of_getElem? h))))), hg⟩
theorem TT_5 {w : Cond} (i : Nat) (h : tables_1_5[i]? = some w) (hg : goodWord w = true) : w ∈ TT := List.mem_filter.mpr ⟨List.mem_append_right _ (List.mem_append_right _ (List.mem_append_right _ (List.mem_append_right _ (List.mem_append_right _ (List.mem_of_getElem? h))))), hg⟩
theorem TT_p {q : MethodName × Nat} (i : Nat) (h : lw_privs[i]? = some q) (hg : goodWord (Cond.selects q.1.cls q.1 q.1) = true) : Cond.selects q.1.cls q.1 q.1 ∈ TT := List.mem_filter.mpr ⟨List.mem_append_left _ (List.mem_map.mpr ⟨q, List.mem_of_getElem? h, rfl⟩), hg⟩
def mty (ci : Nat) : Nat → FieldType := match ci with
  | 0 => tyX0
  | 1 => tyX1
  | 2 => tyX2
  | 3 => tyX3
  | 4 => tyX4
  | 5 => tyX5
  | 6 => tyX6
  | 7 => tyX7
  | 8 => tyX8
  | 9 => tyX9
  | 10 => tyX10
  | _ => tyX11
theorem wiX0 : ∀ w ∈ u_ws RX0 TX0 3, w ∈ TT := by
  have h : u_ws RX0 TX0 3 = [122, 124, 126].filterMap (fun i => tables_1[i]?) := by decide +kernel
  have hg : (u_ws RX0 TX0 3).all goodWord = true := by decide +kernel
  intro w hw
  have h1 := List.all_eq_true.mp hg w hw
  rw [h] at hw
  obtain ⟨i, -, hi⟩ := List.mem_filterMap.mp hw
  exact TT_t i hi h1
theorem clX0 : mCl vwCl mty TT 0 RX0 TX0 3 := ⟨rfl, wiX0, tyX0_ok, nmX0⟩
theorem dfX0 : ∀ j, j < 3 → defaultValue (mty 0 j) = mv (mty 0 j) 0 none := by decide +kernel
theorem wiX1 : ∀ w ∈ u_ws RX1 TX1 2, w ∈ TT := by
  have h : u_ws RX1 TX1 2 = [143, 145].filterMap (fun i => tables_1[i]?) := by decide +kernel
  have hg : (u_ws RX1 TX1 2).all goodWord = true := by decide +kernel
  intro w hw
  have h1 := List.all_eq_true.mp hg w hw
  rw [h] at hw
  obtain ⟨i, -, hi⟩ := List.mem_filterMap.mp hw
  exact TT_t i hi h1
theorem clX1 : mCl vwCl mty TT 1 RX1 TX1 2 := ⟨rfl, wiX1, tyX1_ok, nmX1⟩
theorem dfX1 : ∀ j, j < 2 → defaultValue (mty 1 j) = mv (mty 1 j) 0 none := by decide +kernel
theorem wiX2 : ∀ w ∈ u_ws RX2 TX2 5, w ∈ TT := by
  have h : u_ws RX2 TX2 5 = [79, 81, 83, 85, 87].filterMap (fun i => tables_1[i]?) := by decide +kernel
  have hg : (u_ws RX2 TX2 5).all goodWord = true := by decide +kernel
  intro w hw
  have h1 := List.all_eq_true.mp hg w hw
  rw [h] at hw
  obtain ⟨i, -, hi⟩ := List.mem_filterMap.mp hw
  exact TT_t i hi h1
theorem clX2 : mCl vwCl mty TT 2 RX2 TX2 5 := ⟨rfl, wiX2, tyX2_ok, nmX2⟩
theorem dfX2 : ∀ j, j < 5 → defaultValue (mty 2 j) = mv (mty 2 j) 0 none := by decide +kernel
theorem wiX3 : ∀ w ∈ u_ws RX3 TX3 2, w ∈ TT := by
  have h : u_ws RX3 TX3 2 = [56, 58].filterMap (fun i => tables_1[i]?) := by decide +kernel
  have hg : (u_ws RX3 TX3 2).all goodWord = true := by decide +kernel
  intro w hw
  have h1 := List.all_eq_true.mp hg w hw
  rw [h] at hw
  obtain ⟨i, -, hi⟩ := List.mem_filterMap.mp hw
  exact TT_t i hi h1
theorem clX3 : mCl vwCl mty TT 3 RX3 TX3 2 := ⟨rfl, wiX3, tyX3_ok, nmX3⟩
theorem dfX3 : ∀ j, j < 2 → defaultValue (mty 3 j) = mv (mty 3 j) 0 none := by decide +kernel
theorem wiX4 : ∀ w ∈ u_ws RX4 TX4 4, w ∈ TT := by
  have h : u_ws RX4 TX4 4 = [38, 40, 42, 44].filterMap (fun i => tables_1[i]?) := by decide +kernel
  have hg : (u_ws RX4 TX4 4).all goodWord = true := by decide +kernel
  intro w hw
  have h1 := List.all_eq_true.mp hg w hw
  rw [h] at hw
  obtain ⟨i, -, hi⟩ := List.mem_filterMap.mp hw
  exact TT_t i hi h1
theorem clX4 : mCl vwCl mty TT 4 RX4 TX4 4 := ⟨rfl, wiX4, tyX4_ok, nmX4⟩
theorem dfX4 : ∀ j, j < 4 → defaultValue (mty 4 j) = mv (mty 4 j) 0 none := by decide +kernel
theorem wiX5 : ∀ w ∈ u_ws RX5 TX5 7, w ∈ TT := by
  have h : u_ws RX5 TX5 7 = [166, 168, 170, 172, 174, 176, 178].filterMap (fun i => tables_1[i]?) := by decide +kernel
  have hg : (u_ws RX5 TX5 7).all goodWord = true := by decide +kernel
  intro w hw
  have h1 := List.all_eq_true.mp hg w hw
  rw [h] at hw
  obtain ⟨i, -, hi⟩ := List.mem_filterMap.mp hw
  exact TT_t i hi h1
theorem clX5 : mCl vwCl mty TT 5 RX5 TX5 7 := ⟨rfl, wiX5, tyX5_ok, nmX5⟩
theorem dfX5 : ∀ j, j < 7 → defaultValue (mty 5 j) = mv (mty 5 j) 0 none := by decide +kernel
theorem wiX6 : ∀ w ∈ u_ws RX6 TX6 3, w ∈ TT := by
  have h : u_ws RX6 TX6 3 = [229, 231, 233].filterMap (fun i => tables_1[i]?) := by decide +kernel
  have hg : (u_ws RX6 TX6 3).all goodWord = true := by decide +kernel
  intro w hw
  have h1 := List.all_eq_true.mp hg w hw
  rw [h] at hw
  obtain ⟨i, -, hi⟩ := List.mem_filterMap.mp hw
  exact TT_t i hi h1
theorem clX6 : mCl vwCl mty TT 6 RX6 TX6 3 := ⟨rfl, wiX6, tyX6_ok, nmX6⟩
theorem dfX6 : ∀ j, j < 3 → defaultValue (mty 6 j) = mv (mty 6 j) 0 none := by decide +kernel
theorem wiX7 : ∀ w ∈ u_ws RX7 TX7 12, w ∈ TT := by
  have h : u_ws RX7 TX7 12 = [193, 195, 197, 199, 201, 203, 205, 207, 209, 211, 213, 215].filterMap (fun i => tables_1[i]?) := by decide +kernel
  have hg : (u_ws RX7 TX7 12).all goodWord = true := by decide +kernel
  intro w hw
  have h1 := List.all_eq_true.mp hg w hw
  rw [h] at hw
  obtain ⟨i, -, hi⟩ := List.mem_filterMap.mp hw
  exact TT_t i hi h1
theorem clX7 : mCl vwCl mty TT 7 RX7 TX7 12 := ⟨rfl, wiX7, tyX7_ok, nmX7⟩
theorem dfX7 : ∀ j, j < 12 → defaultValue (mty 7 j) = mv (mty 7 j) 0 none := by decide +kernel
theorem wiX8 : ∀ w ∈ u_ws RX8 TX8 3, w ∈ TT := by
  have h : u_ws RX8 TX8 3 = [93, 95, 97].filterMap (fun i => tables_1[i]?) := by decide +kernel
  have hg : (u_ws RX8 TX8 3).all goodWord = true := by decide +kernel
  intro w hw
  have h1 := List.all_eq_true.mp hg w hw
  rw [h] at hw
  obtain ⟨i, -, hi⟩ := List.mem_filterMap.mp hw
  exact TT_t i hi h1
theorem clX8 : mCl vwCl mty TT 8 RX8 TX8 3 := ⟨rfl, wiX8, tyX8_ok, nmX8⟩
theorem dfX8 : ∀ j, j < 3 → defaultValue (mty 8 j) = mv (mty 8 j) 0 none := by decide +kernel
theorem wiX9 : ∀ w ∈ u_ws RX9 TX9 2, w ∈ TT := by
  have h : u_ws RX9 TX9 2 = [108, 110].filterMap (fun i => tables_1[i]?) := by decide +kernel
  have hg : (u_ws RX9 TX9 2).all goodWord = true := by decide +kernel
  intro w hw
  have h1 := List.all_eq_true.mp hg w hw
  rw [h] at hw
  obtain ⟨i, -, hi⟩ := List.mem_filterMap.mp hw
  exact TT_t i hi h1
theorem clX9 : mCl vwCl mty TT 9 RX9 TX9 2 := ⟨rfl, wiX9, tyX9_ok, nmX9⟩
theorem dfX9 : ∀ j, j < 2 → defaultValue (mty 9 j) = mv (mty 9 j) 0 none := by decide +kernel
theorem wiX10 : ∀ w ∈ u_ws RX10 TX10 9, w ∈ TT := by
  have h : u_ws RX10 TX10 9 = [245, 247, 249, 251, 253, 255, 257, 259, 261].filterMap (fun i => tables_1[i]?) := by decide +kernel
  have hg : (u_ws RX10 TX10 9).all goodWord = true := by decide +kernel
  intro w hw
  have h1 := List.all_eq_true.mp hg w hw
  rw [h] at hw
  obtain ⟨i, -, hi⟩ := List.mem_filterMap.mp hw
  exact TT_t i hi h1
theorem clX10 : mCl vwCl mty TT 10 RX10 TX10 9 := ⟨rfl, wiX10, tyX10_ok, nmX10⟩
theorem dfX10 : ∀ j, j < 9 → defaultValue (mty 10 j) = mv (mty 10 j) 0 none := by decide +kernel
theorem wiX11 : ∀ w ∈ u_ws RX11 TX11 36, w ∈ TT := by
  have h : u_ws RX11 TX11 36 = [782, 784, 786, 788, 790, 792, 794, 796, 798, 800, 802, 804, 806, 808, 810, 812, 814, 816, 818, 820, 822, 824, 826, 828, 830, 832, 834, 836, 838, 840, 842, 844, 846, 848, 850, 852].filterMap (fun i => tables_1[i]?) := by decide +kernel
  have hg : (u_ws RX11 TX11 36).all goodWord = true := by decide +kernel
  intro w hw
  have h1 := List.all_eq_true.mp hg w hw
  rw [h] at hw
  obtain ⟨i, -, hi⟩ := List.mem_filterMap.mp hw
  exact TT_t i hi h1
theorem clX11 : mCl vwCl mty TT 11 RX11 TX11 36 := ⟨rfl, wiX11, tyX11_ok, nmX11⟩
theorem dfX11 : ∀ j, j < 36 → defaultValue (mty 11 j) = mv (mty 11 j) 0 none := by decide +kernel
theorem fX4_9 : mF vwCl mty TT RX4 9 4 0 1 := ⟨RX4, TX4, 4, clX4, by decide, TT_1 34 rfl rfl, Or.inr ⟨rfl, rfl⟩, (fun h => absurd h (by decide)), (fun _ => ⟨fun _ _ => rfl, fun _ => ⟨rfl, rfl⟩⟩)⟩
theorem fX4_21 : mF vwCl mty TT RX4 21 4 1 0 := ⟨RX4, TX4, 4, clX4, by decide, TT_1 35 rfl rfl, Or.inl rfl, (fun _ _ _ => rfl), (fun h => absurd h (by decide))⟩
theorem fwX4_21 : mFw vwCl RX4 4 1 := ⟨RX4, TX4, 4, rfl, rfl⟩
theorem fX4_25 : mF vwCl mty TT RX4 25 4 2 0 := ⟨RX4, TX4, 4, clX4, by decide, TT_1 36 rfl rfl, Or.inl rfl, (fun _ _ _ => rfl), (fun h => absurd h (by decide))⟩
theorem fwX4_25 : mFw vwCl RX4 4 2 := ⟨RX4, TX4, 4, rfl, rfl⟩
theorem fX4_28 : mF vwCl mty TT RX4 28 4 3 0 := ⟨RX4, TX4, 4, clX4, by decide, TT_1 37 rfl rfl, Or.inl rfl, (fun _ _ _ => rfl), (fun h => absurd h (by decide))⟩
theorem fwX4_28 : mFw vwCl RX4 4 3 := ⟨RX4, TX4, 4, rfl, rfl⟩
theorem fX3_9 : mF vwCl mty TT RX3 9 3 0 1 := ⟨RX3, TX3, 2, clX3, by decide, TT_1 54 rfl rfl, Or.inr ⟨rfl, rfl⟩, (fun h => absurd h (by decide)), (fun _ => ⟨fun _ _ => rfl, fun _ => ⟨rfl, rfl⟩⟩)⟩
theorem fX3_15 : mF vwCl mty TT RX3 15 3 1 0 := ⟨RX3, TX3, 2, clX3, by decide, TT_1 55 rfl rfl, Or.inl rfl, (fun _ _ _ => rfl), (fun h => absurd h (by decide))⟩
theorem fwX3_15 : mFw vwCl RX3 3 1 := ⟨RX3, TX3, 2, rfl, rfl⟩
theorem fX2_9 : mF vwCl mty TT RX2 9 2 0 0 := ⟨RX2, TX2, 5, clX2, by decide, TT_1 74 rfl rfl, Or.inr ⟨rfl, rfl⟩, (fun _ _ _ => rfl), (fun h => absurd h (by decide))⟩
theorem fX2_15 : mF vwCl mty TT RX2 15 2 1 0 := ⟨RX2, TX2, 5, clX2, by decide, TT_1 75 rfl rfl, Or.inr ⟨rfl, rfl⟩, (fun _ _ _ => rfl), (fun h => absurd h (by decide))⟩
theorem fX2_18 : mF vwCl mty TT RX2 18 2 2 0 := ⟨RX2, TX2, 5, clX2, by decide, TT_1 76 rfl rfl, Or.inr ⟨rfl, rfl⟩, (fun _ _ _ => rfl), (fun h => absurd h (by decide))⟩
theorem fX2_21 : mF vwCl mty TT RX2 21 2 3 0 := ⟨RX2, TX2, 5, clX2, by decide, TT_1 77 rfl rfl, Or.inr ⟨rfl, rfl⟩, (fun _ _ _ => rfl), (fun h => absurd h (by decide))⟩
theorem fX2_24 : mF vwCl mty TT RX2 24 2 4 0 := ⟨RX2, TX2, 5, clX2, by decide, TT_1 78 rfl rfl, Or.inr ⟨rfl, rfl⟩, (fun _ _ _ => rfl), (fun h => absurd h (by decide))⟩
theorem fX8_11 : mF vwCl mty TT RX8 11 8 0 1 := ⟨RX8, TX8, 3, clX8, by decide, TT_1 90 rfl rfl, Or.inr ⟨rfl, rfl⟩, (fun h => absurd h (by decide)), (fun _ => ⟨fun _ _ => rfl, fun _ => ⟨rfl, rfl⟩⟩)⟩
theorem fX8_20 : mF vwCl mty TT RX8 20 8 1 1 := ⟨RX8, TX8, 3, clX8, by decide, TT_1 91 rfl rfl, Or.inr ⟨rfl, rfl⟩, (fun h => absurd h (by decide)), (fun _ => ⟨fun _ _ => rfl, fun _ => ⟨rfl, rfl⟩⟩)⟩
theorem fX8_24 : mF vwCl mty TT RX8 24 8 2 0 := ⟨RX8, TX8, 3, clX8, by decide, TT_1 92 rfl rfl, Or.inl rfl, (fun _ _ _ => rfl), (fun h => absurd h (by decide))⟩
theorem fwX8_24 : mFw vwCl RX8 8 2 := ⟨RX8, TX8, 3, rfl, rfl⟩
theorem fX9_9 : mF vwCl mty TT RX9 9 9 0 1 := ⟨RX9, TX9, 2, clX9, by decide, TT_1 106 rfl rfl, Or.inr ⟨rfl, rfl⟩, (fun h => absurd h (by decide)), (fun _ => ⟨fun _ _ => rfl, fun _ => ⟨rfl, rfl⟩⟩)⟩
theorem fX9_15 : mF vwCl mty TT RX9 15 9 1 1 := ⟨RX9, TX9, 2, clX9, by decide, TT_1 107 rfl rfl, Or.inr ⟨rfl, rfl⟩, (fun h => absurd h (by decide)), (fun _ => ⟨fun _ _ => rfl, fun _ => ⟨rfl, rfl⟩⟩)⟩
theorem fX0_11 : mF vwCl mty TT RX0 11 0 0 1 := ⟨RX0, TX0, 3, clX0, by decide, TT_1 119 rfl rfl, Or.inr ⟨rfl, rfl⟩, (fun h => absurd h (by decide)), (fun _ => ⟨fun _ _ => rfl, fun _ => ⟨rfl, rfl⟩⟩)⟩
theorem fX0_15 : mF vwCl mty TT RX0 15 0 1 0 := ⟨RX0, TX0, 3, clX0, by decide, TT_1 120 rfl rfl, Or.inl rfl, (fun _ _ _ => rfl), (fun h => absurd h (by decide))⟩
theorem fwX0_15 : mFw vwCl RX0 0 1 := ⟨RX0, TX0, 3, rfl, rfl⟩
theorem fX0_19 : mF vwCl mty TT RX0 19 0 2 0 := ⟨RX0, TX0, 3, clX0, by decide, TT_1 121 rfl rfl, Or.inl rfl, (fun _ _ _ => rfl), (fun h => absurd h (by decide))⟩
theorem fwX0_19 : mFw vwCl RX0 0 2 := ⟨RX0, TX0, 3, rfl, rfl⟩
theorem fX1_9 : mF vwCl mty TT RX1 9 1 0 1 := ⟨RX1, TX1, 2, clX1, by decide, TT_1 141 rfl rfl, Or.inr ⟨rfl, rfl⟩, (fun h => absurd h (by decide)), (fun _ => ⟨fun _ _ => rfl, fun _ => ⟨rfl, rfl⟩⟩)⟩
theorem fX1_15 : mF vwCl mty TT RX1 15 1 1 1 := ⟨RX1, TX1, 2, clX1, by decide, TT_1 142 rfl rfl, Or.inr ⟨rfl, rfl⟩, (fun h => absurd h (by decide)), (fun _ => ⟨fun _ _ => rfl, fun _ => ⟨rfl, rfl⟩⟩)⟩
theorem fX5_13 : mF vwCl mty TT RX5 13 5 0 0 := ⟨RX5, TX5, 7, clX5, by decide, TT_1 159 rfl rfl, Or.inl rfl, (fun _ _ _ => rfl), (fun h => absurd h (by decide))⟩
theorem fwX5_13 : mFw vwCl RX5 5 0 := ⟨RX5, TX5, 7, rfl, rfl⟩
theorem fX5_7 : mF vwCl mty TT RX5 7 5 1 1 := ⟨RX5, TX5, 7, clX5, by decide, TT_1 160 rfl rfl, Or.inl rfl, (fun h => absurd h (by decide)), (fun _ => ⟨fun _ _ => rfl, fun _ => ⟨rfl, rfl⟩⟩)⟩
theorem fwX5_7 : mFw vwCl RX5 5 1 := ⟨RX5, TX5, 7, rfl, rfl⟩
theorem fX5_17 : mF vwCl mty TT RX5 17 5 2 0 := ⟨RX5, TX5, 7, clX5, by decide, TT_1 161 rfl rfl, Or.inl rfl, (fun _ _ _ => rfl), (fun h => absurd h (by decide))⟩
theorem fwX5_17 : mFw vwCl RX5 5 2 := ⟨RX5, TX5, 7, rfl, rfl⟩
theorem fX5_21 : mF vwCl mty TT RX5 21 5 3 0 := ⟨RX5, TX5, 7, clX5, by decide, TT_1 162 rfl rfl, Or.inl rfl, (fun _ _ _ => rfl), (fun h => absurd h (by decide))⟩
theorem fwX5_21 : mFw vwCl RX5 5 3 := ⟨RX5, TX5, 7, rfl, rfl⟩
theorem fX5_24 : mF vwCl mty TT RX5 24 5 4 0 := ⟨RX5, TX5, 7, clX5, by decide, TT_1 163 rfl rfl, Or.inl rfl, (fun _ _ _ => rfl), (fun h => absurd h (by decide))⟩
theorem fwX5_24 : mFw vwCl RX5 5 4 := ⟨RX5, TX5, 7, rfl, rfl⟩
theorem fX5_27 : mF vwCl mty TT RX5 27 5 5 0 := ⟨RX5, TX5, 7, clX5, by decide, TT_1 164 rfl rfl, Or.inl rfl, (fun _ _ _ => rfl), (fun h => absurd h (by decide))⟩
theorem fwX5_27 : mFw vwCl RX5 5 5 := ⟨RX5, TX5, 7, rfl, rfl⟩
theorem fX5_30 : mF vwCl mty TT RX5 30 5 6 0 := ⟨RX5, TX5, 7, clX5, by decide, TT_1 165 rfl rfl, Or.inl rfl, (fun _ _ _ => rfl), (fun h => absurd h (by decide))⟩
theorem fwX5_30 : mFw vwCl RX5 5 6 := ⟨RX5, TX5, 7, rfl, rfl⟩
theorem fX7_28 : mF vwCl mty TT RX7 28 7 0 1 := ⟨RX7, TX7, 12, clX7, by decide, TT_1 181 rfl rfl, Or.inr ⟨rfl, rfl⟩, (fun h => absurd h (by decide)), (fun _ => ⟨fun _ _ => rfl, fun _ => ⟨rfl, rfl⟩⟩)⟩
theorem fX7_32 : mF vwCl mty TT RX7 32 7 1 1 := ⟨RX7, TX7, 12, clX7, by decide, TT_1 182 rfl rfl, Or.inr ⟨rfl, rfl⟩, (fun h => absurd h (by decide)), (fun _ => ⟨fun _ _ => rfl, fun _ => ⟨rfl, rfl⟩⟩)⟩
theorem fX7_36 : mF vwCl mty TT RX7 36 7 2 1 := ⟨RX7, TX7, 12, clX7, by decide, TT_1 183 rfl rfl, Or.inr ⟨rfl, rfl⟩, (fun h => absurd h (by decide)), (fun _ => ⟨fun _ _ => rfl, fun _ => ⟨rfl, rfl⟩⟩)⟩
theorem fX7_40 : mF vwCl mty TT RX7 40 7 3 1 := ⟨RX7, TX7, 12, clX7, by decide, TT_1 184 rfl rfl, Or.inr ⟨rfl, rfl⟩, (fun h => absurd h (by decide)), (fun _ => ⟨fun _ _ => rfl, fun _ => ⟨rfl, rfl⟩⟩)⟩
theorem fX7_12 : mF vwCl mty TT RX7 12 7 4 1 := ⟨RX7, TX7, 12, clX7, by decide, TT_1 185 rfl rfl, Or.inr ⟨rfl, rfl⟩, (fun h => absurd h (by decide)), (fun _ => ⟨fun _ _ => rfl, fun _ => ⟨rfl, rfl⟩⟩)⟩
theorem fX7_20 : mF vwCl mty TT RX7 20 7 5 1 := ⟨RX7, TX7, 12, clX7, by decide, TT_1 186 rfl rfl, Or.inr ⟨rfl, rfl⟩, (fun h => absurd h (by decide)), (fun _ => ⟨fun _ _ => rfl, fun _ => ⟨rfl, rfl⟩⟩)⟩
theorem fX7_24 : mF vwCl mty TT RX7 24 7 6 1 := ⟨RX7, TX7, 12, clX7, by decide, TT_1 187 rfl rfl, Or.inr ⟨rfl, rfl⟩, (fun h => absurd h (by decide)), (fun _ => ⟨fun _ _ => rfl, fun _ => ⟨rfl, rfl⟩⟩)⟩
theorem fX7_72 : mF vwCl mty TT RX7 72 7 7 0 := ⟨RX7, TX7, 12, clX7, by decide, TT_1 188 rfl rfl, Or.inl rfl, (fun _ _ _ => rfl), (fun h => absurd h (by decide))⟩
theorem fwX7_72 : mFw vwCl RX7 7 7 := ⟨RX7, TX7, 12, rfl, rfl⟩
theorem fX7_76 : mF vwCl mty TT RX7 76 7 8 0 := ⟨RX7, TX7, 12, clX7, by decide, TT_1 189 rfl rfl, Or.inl rfl, (fun _ _ _ => rfl), (fun h => absurd h (by decide))⟩
theorem fwX7_76 : mFw vwCl RX7 7 8 := ⟨RX7, TX7, 12, rfl, rfl⟩
theorem fX7_79 : mF vwCl mty TT RX7 79 7 9 0 := ⟨RX7, TX7, 12, clX7, by decide, TT_1 190 rfl rfl, Or.inl rfl, (fun _ _ _ => rfl), (fun h => absurd h (by decide))⟩
theorem fwX7_79 : mFw vwCl RX7 7 9 := ⟨RX7, TX7, 12, rfl, rfl⟩
theorem fX7_82 : mF vwCl mty TT RX7 82 7 10 0 := ⟨RX7, TX7, 12, clX7, by decide, TT_1 191 rfl rfl, Or.inl rfl, (fun _ _ _ => rfl), (fun h => absurd h (by decide))⟩
theorem fwX7_82 : mFw vwCl RX7 7 10 := ⟨RX7, TX7, 12, rfl, rfl⟩
theorem fX7_85 : mF vwCl mty TT RX7 85 7 11 0 := ⟨RX7, TX7, 12, clX7, by decide, TT_1 192 rfl rfl, Or.inl rfl, (fun _ _ _ => rfl), (fun h => absurd h (by decide))⟩
theorem fwX7_85 : mFw vwCl RX7 7 11 := ⟨RX7, TX7, 12, rfl, rfl⟩
theorem fX6_18 : mF vwCl mty TT RX6 18 6 0 1 := ⟨RX6, TX6, 3, clX6, by decide, TT_1 226 rfl rfl, Or.inr ⟨rfl, rfl⟩, (fun h => absurd h (by decide)), (fun _ => ⟨fun _ _ => rfl, fun _ => ⟨rfl, rfl⟩⟩)⟩
theorem fX6_22 : mF vwCl mty TT RX6 22 6 1 1 := ⟨RX6, TX6, 3, clX6, by decide, TT_1 227 rfl rfl, Or.inr ⟨rfl, rfl⟩, (fun h => absurd h (by decide)), (fun _ => ⟨fun _ _ => rfl, fun _ => ⟨rfl, rfl⟩⟩)⟩
theorem fX6_12 : mF vwCl mty TT RX6 12 6 2 1 := ⟨RX6, TX6, 3, clX6, by decide, TT_1 228 rfl rfl, Or.inr ⟨rfl, rfl⟩, (fun h => absurd h (by decide)), (fun _ => ⟨fun _ _ => rfl, fun _ => ⟨rfl, rfl⟩⟩)⟩
theorem fX10_9 : mF vwCl mty TT RX10 9 10 0 1 := ⟨RX10, TX10, 9, clX10, by decide, TT_1 236 rfl rfl, Or.inr ⟨rfl, rfl⟩, (fun h => absurd h (by decide)), (fun _ => ⟨fun _ _ => rfl, fun _ => ⟨rfl, rfl⟩⟩)⟩
theorem fX10_66 : mF vwCl mty TT RX10 66 10 1 0 := ⟨RX10, TX10, 9, clX10, by decide, TT_1 237 rfl rfl, Or.inl rfl, (fun _ _ _ => rfl), (fun h => absurd h (by decide))⟩
theorem fwX10_66 : mFw vwCl RX10 10 1 := ⟨RX10, TX10, 9, rfl, rfl⟩
theorem fX10_16 : mF vwCl mty TT RX10 16 10 2 1 := ⟨RX10, TX10, 9, clX10, by decide, TT_1 238 rfl rfl, Or.inr ⟨rfl, rfl⟩, (fun h => absurd h (by decide)), (fun _ => ⟨fun _ _ => rfl, fun _ => ⟨rfl, rfl⟩⟩)⟩
theorem fX10_23 : mF vwCl mty TT RX10 23 10 3 1 := ⟨RX10, TX10, 9, clX10, by decide, TT_1 239 rfl rfl, Or.inr ⟨rfl, rfl⟩, (fun h => absurd h (by decide)), (fun _ => ⟨fun _ _ => rfl, fun _ => ⟨rfl, rfl⟩⟩)⟩
theorem fX10_30 : mF vwCl mty TT RX10 30 10 4 1 := ⟨RX10, TX10, 9, clX10, by decide, TT_2 0 rfl rfl, Or.inr ⟨rfl, rfl⟩, (fun h => absurd h (by decide)), (fun _ => ⟨fun _ _ => rfl, fun _ => ⟨rfl, rfl⟩⟩)⟩
theorem fX10_37 : mF vwCl mty TT RX10 37 10 5 1 := ⟨RX10, TX10, 9, clX10, by decide, TT_2 1 rfl rfl, Or.inr ⟨rfl, rfl⟩, (fun h => absurd h (by decide)), (fun _ => ⟨fun _ _ => rfl, fun _ => ⟨rfl, rfl⟩⟩)⟩
theorem fX10_44 : mF vwCl mty TT RX10 44 10 6 1 := ⟨RX10, TX10, 9, clX10, by decide, TT_2 2 rfl rfl, Or.inr ⟨rfl, rfl⟩, (fun h => absurd h (by decide)), (fun _ => ⟨fun _ _ => rfl, fun _ => ⟨rfl, rfl⟩⟩)⟩
theorem fX10_53 : mF vwCl mty TT RX10 53 10 7 1 := ⟨RX10, TX10, 9, clX10, by decide, TT_2 3 rfl rfl, Or.inr ⟨rfl, rfl⟩, (fun h => absurd h (by decide)), (fun _ => ⟨fun _ _ => rfl, fun _ => ⟨rfl, rfl⟩⟩)⟩
theorem fX10_62 : mF vwCl mty TT RX10 62 10 8 1 := ⟨RX10, TX10, 9, clX10, by decide, TT_2 4 rfl rfl, Or.inr ⟨rfl, rfl⟩, (fun h => absurd h (by decide)), (fun _ => ⟨fun _ _ => rfl, fun _ => ⟨rfl, rfl⟩⟩)⟩
theorem fX11_7 : mF vwCl mty TT RX11 7 11 0 1 := ⟨RX11, TX11, 36, clX11, by decide, TT_4 26 rfl rfl, Or.inr ⟨rfl, rfl⟩, (fun h => absurd h (by decide)), (fun _ => ⟨fun _ _ => rfl, fun _ => ⟨rfl, rfl⟩⟩)⟩
theorem fX11_119 : mF vwCl mty TT RX11 119 11 1 0 := ⟨RX11, TX11, 36, clX11, by decide, TT_4 27 rfl rfl, Or.inl rfl, (fun _ _ _ => rfl), (fun h => absurd h (by decide))⟩
theorem fwX11_119 : mFw vwCl RX11 11 1 := ⟨RX11, TX11, 36, rfl, rfl⟩
theorem fX11_13 : mF vwCl mty TT RX11 13 11 2 0 := ⟨RX11, TX11, 36, clX11, by decide, TT_4 28 rfl rfl, Or.inl rfl, (fun _ _ _ => rfl), (fun h => absurd h (by decide))⟩
theorem fwX11_13 : mFw vwCl RX11 11 2 := ⟨RX11, TX11, 36, rfl, rfl⟩
theorem fX11_17 : mF vwCl mty TT RX11 17 11 3 1 := ⟨RX11, TX11, 36, clX11, by decide, TT_4 29 rfl rfl, Or.inr ⟨rfl, rfl⟩, (fun h => absurd h (by decide)), (fun _ => ⟨fun _ _ => rfl, fun _ => ⟨rfl, rfl⟩⟩)⟩
theorem fX11_20 : mF vwCl mty TT RX11 20 11 4 0 := ⟨RX11, TX11, 36, clX11, by decide, TT_4 30 rfl rfl, Or.inl rfl, (fun _ _ _ => rfl), (fun h => absurd h (by decide))⟩
theorem fwX11_20 : mFw vwCl RX11 11 4 := ⟨RX11, TX11, 36, rfl, rfl⟩
theorem fX11_23 : mF vwCl mty TT RX11 23 11 5 1 := ⟨RX11, TX11, 36, clX11, by decide, TT_4 31 rfl rfl, Or.inr ⟨rfl, rfl⟩, (fun h => absurd h (by decide)), (fun _ => ⟨fun _ _ => rfl, fun _ => ⟨rfl, rfl⟩⟩)⟩
theorem fX11_26 : mF vwCl mty TT RX11 26 11 6 1 := ⟨RX11, TX11, 36, clX11, by decide, TT_4 32 rfl rfl, Or.inr ⟨rfl, rfl⟩, (fun h => absurd h (by decide)), (fun _ => ⟨fun _ _ => rfl, fun _ => ⟨rfl, rfl⟩⟩)⟩
theorem fX11_29 : mF vwCl mty TT RX11 29 11 7 1 := ⟨RX11, TX11, 36, clX11, by decide, TT_4 33 rfl rfl, Or.inr ⟨rfl, rfl⟩, (fun h => absurd h (by decide)), (fun _ => ⟨fun _ _ => rfl, fun _ => ⟨rfl, rfl⟩⟩)⟩
theorem fX11_32 : mF vwCl mty TT RX11 32 11 8 1 := ⟨RX11, TX11, 36, clX11, by decide, TT_4 34 rfl rfl, Or.inr ⟨rfl, rfl⟩, (fun h => absurd h (by decide)), (fun _ => ⟨fun _ _ => rfl, fun _ => ⟨rfl, rfl⟩⟩)⟩
theorem fX11_35 : mF vwCl mty TT RX11 35 11 9 1 := ⟨RX11, TX11, 36, clX11, by decide, TT_4 35 rfl rfl, Or.inr ⟨rfl, rfl⟩, (fun h => absurd h (by decide)), (fun _ => ⟨fun _ _ => rfl, fun _ => ⟨rfl, rfl⟩⟩)⟩
theorem fX11_126 : mF vwCl mty TT RX11 126 11 10 0 := ⟨RX11, TX11, 36, clX11, by decide, TT_4 36 rfl rfl, Or.inl rfl, (fun _ _ _ => rfl), (fun h => absurd h (by decide))⟩
theorem fwX11_126 : mFw vwCl RX11 11 10 := ⟨RX11, TX11, 36, rfl, rfl⟩
theorem fX11_38 : mF vwCl mty TT RX11 38 11 11 1 := ⟨RX11, TX11, 36, clX11, by decide, TT_4 37 rfl rfl, Or.inr ⟨rfl, rfl⟩, (fun h => absurd h (by decide)), (fun _ => ⟨fun _ _ => rfl, fun _ => ⟨rfl, rfl⟩⟩)⟩
theorem fX11_41 : mF vwCl mty TT RX11 41 11 12 1 := ⟨RX11, TX11, 36, clX11, by decide, TT_4 38 rfl rfl, Or.inr ⟨rfl, rfl⟩, (fun h => absurd h (by decide)), (fun _ => ⟨fun _ _ => rfl, fun _ => ⟨rfl, rfl⟩⟩)⟩
theorem fX11_44 : mF vwCl mty TT RX11 44 11 13 1 := ⟨RX11, TX11, 36, clX11, by decide, TT_4 39 rfl rfl, Or.inr ⟨rfl, rfl⟩, (fun h => absurd h (by decide)), (fun _ => ⟨fun _ _ => rfl, fun _ => ⟨rfl, rfl⟩⟩)⟩
theorem fX11_47 : mF vwCl mty TT RX11 47 11 14 1 := ⟨RX11, TX11, 36, clX11, by decide, TT_4 40 rfl rfl, Or.inr ⟨rfl, rfl⟩, (fun h => absurd h (by decide)), (fun _ => ⟨fun _ _ => rfl, fun _ => ⟨rfl, rfl⟩⟩)⟩
theorem fX11_51 : mF vwCl mty TT RX11 51 11 15 1 := ⟨RX11, TX11, 36, clX11, by decide, TT_4 41 rfl rfl, Or.inr ⟨rfl, rfl⟩, (fun h => absurd h (by decide)), (fun _ => ⟨fun _ _ => rfl, fun _ => ⟨rfl, rfl⟩⟩)⟩
theorem fX11_54 : mF vwCl mty TT RX11 54 11 16 1 := ⟨RX11, TX11, 36, clX11, by decide, TT_4 42 rfl rfl, Or.inr ⟨rfl, rfl⟩, (fun h => absurd h (by decide)), (fun _ => ⟨fun _ _ => rfl, fun _ => ⟨rfl, rfl⟩⟩)⟩
theorem fX11_57 : mF vwCl mty TT RX11 57 11 17 1 := ⟨RX11, TX11, 36, clX11, by decide, TT_4 43 rfl rfl, Or.inr ⟨rfl, rfl⟩, (fun h => absurd h (by decide)), (fun _ => ⟨fun _ _ => rfl, fun _ => ⟨rfl, rfl⟩⟩)⟩
theorem fX11_60 : mF vwCl mty TT RX11 60 11 18 1 := ⟨RX11, TX11, 36, clX11, by decide, TT_4 44 rfl rfl, Or.inr ⟨rfl, rfl⟩, (fun h => absurd h (by decide)), (fun _ => ⟨fun _ _ => rfl, fun _ => ⟨rfl, rfl⟩⟩)⟩
theorem fX11_63 : mF vwCl mty TT RX11 63 11 19 1 := ⟨RX11, TX11, 36, clX11, by decide, TT_4 45 rfl rfl, Or.inr ⟨rfl, rfl⟩, (fun h => absurd h (by decide)), (fun _ => ⟨fun _ _ => rfl, fun _ => ⟨rfl, rfl⟩⟩)⟩
theorem fX11_99 : mF vwCl mty TT RX11 99 11 20 0 := ⟨RX11, TX11, 36, clX11, by decide, TT_4 46 rfl rfl, Or.inl rfl, (fun _ _ _ => rfl), (fun h => absurd h (by decide))⟩
theorem fwX11_99 : mFw vwCl RX11 11 20 := ⟨RX11, TX11, 36, rfl, rfl⟩
theorem fX11_102 : mF vwCl mty TT RX11 102 11 21 0 := ⟨RX11, TX11, 36, clX11, by decide, TT_4 47 rfl rfl, Or.inl rfl, (fun _ _ _ => rfl), (fun h => absurd h (by decide))⟩
theorem fwX11_102 : mFw vwCl RX11 11 21 := ⟨RX11, TX11, 36, rfl, rfl⟩
theorem fX11_106 : mF vwCl mty TT RX11 106 11 22 0 := ⟨RX11, TX11, 36, clX11, by decide, TT_4 48 rfl rfl, Or.inl rfl, (fun _ _ _ => rfl), (fun h => absurd h (by decide))⟩
theorem fwX11_106 : mFw vwCl RX11 11 22 := ⟨RX11, TX11, 36, rfl, rfl⟩
theorem fX11_109 : mF vwCl mty TT RX11 109 11 23 0 := ⟨RX11, TX11, 36, clX11, by decide, TT_4 49 rfl rfl, Or.inl rfl, (fun _ _ _ => rfl), (fun h => absurd h (by decide))⟩
theorem fwX11_109 : mFw vwCl RX11 11 23 := ⟨RX11, TX11, 36, rfl, rfl⟩
theorem fX11_66 : mF vwCl mty TT RX11 66 11 24 1 := ⟨RX11, TX11, 36, clX11, by decide, TT_4 50 rfl rfl, Or.inr ⟨rfl, rfl⟩, (fun h => absurd h (by decide)), (fun _ => ⟨fun _ _ => rfl, fun _ => ⟨rfl, rfl⟩⟩)⟩
theorem fX11_69 : mF vwCl mty TT RX11 69 11 25 1 := ⟨RX11, TX11, 36, clX11, by decide, TT_4 51 rfl rfl, Or.inr ⟨rfl, rfl⟩, (fun h => absurd h (by decide)), (fun _ => ⟨fun _ _ => rfl, fun _ => ⟨rfl, rfl⟩⟩)⟩
theorem fX11_72 : mF vwCl mty TT RX11 72 11 26 1 := ⟨RX11, TX11, 36, clX11, by decide, TT_4 52 rfl rfl, Or.inr ⟨rfl, rfl⟩, (fun h => absurd h (by decide)), (fun _ => ⟨fun _ _ => rfl, fun _ => ⟨rfl, rfl⟩⟩)⟩
theorem fX11_140 : mF vwCl mty TT RX11 140 11 27 0 := ⟨RX11, TX11, 36, clX11, by decide, TT_4 53 rfl rfl, Or.inl rfl, (fun _ _ _ => rfl), (fun h => absurd h (by decide))⟩
theorem fwX11_140 : mFw vwCl RX11 11 27 := ⟨RX11, TX11, 36, rfl, rfl⟩
theorem fX11_75 : mF vwCl mty TT RX11 75 11 28 1 := ⟨RX11, TX11, 36, clX11, by decide, TT_4 54 rfl rfl, Or.inr ⟨rfl, rfl⟩, (fun h => absurd h (by decide)), (fun _ => ⟨fun _ _ => rfl, fun _ => ⟨rfl, rfl⟩⟩)⟩
theorem fX11_78 : mF vwCl mty TT RX11 78 11 29 1 := ⟨RX11, TX11, 36, clX11, by decide, TT_4 55 rfl rfl, Or.inr ⟨rfl, rfl⟩, (fun h => absurd h (by decide)), (fun _ => ⟨fun _ _ => rfl, fun _ => ⟨rfl, rfl⟩⟩)⟩
theorem fX11_81 : mF vwCl mty TT RX11 81 11 30 1 := ⟨RX11, TX11, 36, clX11, by decide, TT_4 56 rfl rfl, Or.inr ⟨rfl, rfl⟩, (fun h => absurd h (by decide)), (fun _ => ⟨fun _ _ => rfl, fun _ => ⟨rfl, rfl⟩⟩)⟩
theorem fX11_84 : mF vwCl mty TT RX11 84 11 31 1 := ⟨RX11, TX11, 36, clX11, by decide, TT_4 57 rfl rfl, Or.inr ⟨rfl, rfl⟩, (fun h => absurd h (by decide)), (fun _ => ⟨fun _ _ => rfl, fun _ => ⟨rfl, rfl⟩⟩)⟩
theorem fX11_112 : mF vwCl mty TT RX11 112 11 32 0 := ⟨RX11, TX11, 36, clX11, by decide, TT_4 58 rfl rfl, Or.inl rfl, (fun _ _ _ => rfl), (fun h => absurd h (by decide))⟩
theorem fwX11_112 : mFw vwCl RX11 11 32 := ⟨RX11, TX11, 36, rfl, rfl⟩
theorem fX11_87 : mF vwCl mty TT RX11 87 11 33 1 := ⟨RX11, TX11, 36, clX11, by decide, TT_4 59 rfl rfl, Or.inr ⟨rfl, rfl⟩, (fun h => absurd h (by decide)), (fun _ => ⟨fun _ _ => rfl, fun _ => ⟨rfl, rfl⟩⟩)⟩
theorem fX11_90 : mF vwCl mty TT RX11 90 11 34 1 := ⟨RX11, TX11, 36, clX11, by decide, TT_4 60 rfl rfl, Or.inr ⟨rfl, rfl⟩, (fun h => absurd h (by decide)), (fun _ => ⟨fun _ _ => rfl, fun _ => ⟨rfl, rfl⟩⟩)⟩
theorem fX11_93 : mF vwCl mty TT RX11 93 11 35 1 := ⟨RX11, TX11, 36, clX11, by decide, TT_4 61 rfl rfl, Or.inr ⟨rfl, rfl⟩, (fun h => absurd h (by decide)), (fun _ => ⟨fun _ _ => rfl, fun _ => ⟨rfl, rfl⟩⟩)⟩
theorem mX0_init : mMe TT yX0_init cX0_init 1 none 0 := ⟨TT_1 117 rfl rfl, TT_1 7 rfl rfl, by decide +kernel, by decide +kernel⟩
theorem mX0_clear : mMe TT yX0_clear cX0_clear 1 none 0 := ⟨TT_2 136 rfl rfl, TT_1 7 rfl rfl, by decide +kernel, by decide +kernel⟩
theorem mX0_add : mMe TT yX0_add cX0_add 6 none 4 := ⟨TT_3 151 rfl rfl, TT_1 7 rfl rfl, by decide +kernel, by decide +kernel⟩
theorem mX0_total : mMe TT yX0_total cX0_total 1 (some .int) 0 := ⟨TT_3 180 rfl rfl, TT_1 7 rfl rfl, by decide +kernel, by decide +kernel⟩
theorem mX0_size : mMe TT yX0_size cX0_size 1 (some .int) 0 := ⟨TT_3 224 rfl rfl, TT_1 7 rfl rfl, by decide +kernel, by decide +kernel⟩
theorem mX0_part : mMe TT yX0_part cX0_part 3 (some .int) 2 := ⟨TT_3 188 rfl rfl, TT_1 7 rfl rfl, by decide +kernel, by decide +kernel⟩
theorem mX0_holds : mMe TT yX0_holds cX0_holds 6 (some .boolean) 4 := ⟨TT_4 4 rfl rfl, TT_1 7 rfl rfl, by decide +kernel, by decide +kernel⟩
theorem mX1_init : mMe TT yX1_init cX1_init 1 none 0 := ⟨TT_1 139 rfl rfl, TT_1 9 rfl rfl, by decide +kernel, by decide +kernel⟩
theorem mX1_reset : mMe TT yX1_reset cX1_reset 2 none 1 := ⟨TT_2 126 rfl rfl, TT_1 9 rfl rfl, by decide +kernel, by decide +kernel⟩
theorem mX1_inRegister : mMe TT yX1_inRegister cX1_inRegister 2 (some .int) 1 := ⟨TT_3 67 rfl rfl, TT_1 9 rfl rfl, by decide +kernel, by decide +kernel⟩
theorem mX1_atPlace : mMe TT yX1_atPlace cX1_atPlace 2 (some .int) 1 := ⟨TT_3 104 rfl rfl, TT_1 9 rfl rfl, by decide +kernel, by decide +kernel⟩
theorem mX1_take : mMe TT yX1_take cX1_take 4 none 3 := ⟨TT_3 141 rfl rfl, TT_1 9 rfl rfl, by decide +kernel, by decide +kernel⟩
theorem mX2_init : mMe TT yX2_init cX2_init 6 none 5 := ⟨TT_1 72 rfl rfl, TT_1 5 rfl rfl, by decide +kernel, by decide +kernel⟩
theorem mX2_kind : mMe TT yX2_kind cX2_kind 1 (some .int) 0 := ⟨TT_3 27 rfl rfl, TT_1 5 rfl rfl, by decide +kernel, by decide +kernel⟩
theorem mX2_left : mMe TT yX2_left cX2_left 1 (some .int) 0 := ⟨TT_2 233 rfl rfl, TT_1 5 rfl rfl, by decide +kernel, by decide +kernel⟩
theorem mX2_right : mMe TT yX2_right cX2_right 1 (some .int) 0 := ⟨TT_3 23 rfl rfl, TT_1 5 rfl rfl, by decide +kernel, by decide +kernel⟩
theorem mX2_goal : mMe TT yX2_goal cX2_goal 1 (some .int) 0 := ⟨TT_3 100 rfl rfl, TT_1 5 rfl rfl, by decide +kernel, by decide +kernel⟩
theorem mX2_readsLeft : mMe TT yX2_readsLeft cX2_readsLeft 1 (some .boolean) 0 := ⟨TT_2 229 rfl rfl, TT_1 5 rfl rfl, by decide +kernel, by decide +kernel⟩
theorem mX2_readsRight : mMe TT yX2_readsRight cX2_readsRight 1 (some .boolean) 0 := ⟨TT_3 18 rfl rfl, TT_1 5 rfl rfl, by decide +kernel, by decide +kernel⟩
theorem mX2_commitsRegister : mMe TT yX2_commitsRegister cX2_commitsRegister 1 (some .boolean) 0 := ⟨TT_3 9 rfl rfl, TT_1 5 rfl rfl, by decide +kernel, by decide +kernel⟩
theorem mX2_commitsTo : mMe TT yX2_commitsTo cX2_commitsTo 2 (some .boolean) 1 := ⟨TT_3 5 rfl rfl, TT_1 5 rfl rfl, by decide +kernel, by decide +kernel⟩
theorem mX2_commitsAnything : mMe TT yX2_commitsAnything cX2_commitsAnything 1 (some .boolean) 0 := ⟨TT_3 128 rfl rfl, TT_1 5 rfl rfl, by decide +kernel, by decide +kernel⟩
theorem mX2_commitKind : mMe TT yX2_commitKind cX2_commitKind 1 (some .int) 0 := ⟨TT_3 147 rfl rfl, TT_1 5 rfl rfl, by decide +kernel, by decide +kernel⟩
theorem mX2_commitsWhere : mMe TT yX2_commitsWhere cX2_commitsWhere 2 (some .int) 1 := ⟨TT_3 136 rfl rfl, TT_1 5 rfl rfl, by decide +kernel, by decide +kernel⟩
theorem mX2_placeFrom : mMe TT yX2_placeFrom cX2_placeFrom 2 (some .int) 1 := ⟨TT_3 39 rfl rfl, TT_1 5 rfl rfl, by decide +kernel, by decide +kernel⟩
theorem mX2_workedOut : mMe TT yX2_workedOut cX2_workedOut 3 (some .int) 2 := ⟨TT_3 88 rfl rfl, TT_1 5 rfl rfl, by decide +kernel, by decide +kernel⟩
theorem mX2_goesOn : mMe TT yX2_goesOn cX2_goesOn 3 (some .boolean) 2 := ⟨TT_3 96 rfl rfl, TT_1 5 rfl rfl, by decide +kernel, by decide +kernel⟩
theorem mX3_init : mMe TT yX3_init cX3_init 1 none 0 := ⟨TT_1 52 rfl rfl, TT_1 3 rfl rfl, by decide +kernel, by decide +kernel⟩
theorem mX3_become : mMe TT yX3_become cX3_become 3 none 2 := ⟨TT_2 107 rfl rfl, TT_1 3 rfl rfl, by decide +kernel, by decide +kernel⟩
theorem mX3_stageCount : mMe TT yX3_stageCount cX3_stageCount 1 (some .int) 0 := ⟨TT_2 141 rfl rfl, TT_1 3 rfl rfl, by decide +kernel, by decide +kernel⟩
theorem mX3_stageOf : mMe TT yX3_stageOf cX3_stageOf 2 (some .int) 1 := ⟨TT_2 217 rfl rfl, TT_1 3 rfl rfl, by decide +kernel, by decide +kernel⟩
theorem mX3_has : mMe TT yX3_has cX3_has 3 (some .boolean) 2 := ⟨TT_2 213 rfl rfl, TT_1 3 rfl rfl, by decide +kernel, by decide +kernel⟩
theorem mX3_givingStage : mMe TT yX3_givingStage cX3_givingStage 3 (some .int) 1 := ⟨TT_3 113 rfl rfl, TT_1 3 rfl rfl, by decide +kernel, by decide +kernel⟩
theorem mX4_init : mMe TT yX4_init cX4_init 1 none 0 := ⟨TT_1 32 rfl rfl, TT_1 2 rfl rfl, by decide +kernel, by decide +kernel⟩
theorem mX4_firstWrong : mMe TT yX4_firstWrong cX4_firstWrong 4 (some .int) 2 := ⟨TT_2 35 rfl rfl, TT_1 2 rfl rfl, by decide +kernel, by decide +kernel⟩
theorem mX4_writeTo : mMe TT yX4_writeTo cX4_writeTo 2 none 1 := ⟨TT_2 103 rfl rfl, TT_1 2 rfl rfl, by decide +kernel, by decide +kernel⟩
theorem mX4_takes : mMe TT yX4_takes cX4_takes 2 (some .boolean) 1 := ⟨TT_2 42 rfl rfl, TT_1 2 rfl rfl, by decide +kernel, by decide +kernel⟩
theorem mX4_puts : mMe TT yX4_puts cX4_puts 2 (some .boolean) 1 := ⟨TT_2 50 rfl rfl, TT_1 2 rfl rfl, by decide +kernel, by decide +kernel⟩
theorem mX4_takesBreak : mMe TT yX4_takesBreak cX4_takesBreak 1 (some .boolean) 0 := ⟨TT_2 46 rfl rfl, TT_1 2 rfl rfl, by decide +kernel, by decide +kernel⟩
theorem mX5_init : mMe TT yX5_init cX5_init 2 none 1 := ⟨TT_1 157 rfl rfl, TT_1 10 rfl rfl, by decide +kernel, by decide +kernel⟩
theorem mX5_come : mMe TT yX5_come cX5_come 2 none 1 := ⟨TT_2 200 rfl rfl, TT_1 10 rfl rfl, by decide +kernel, by decide +kernel⟩
theorem mX5_leave : mMe TT yX5_leave cX5_leave 1 none 0 := ⟨TT_2 122 rfl rfl, TT_1 10 rfl rfl, by decide +kernel, by decide +kernel⟩
theorem mX5_isPresent : mMe TT yX5_isPresent cX5_isPresent 1 (some .boolean) 0 := ⟨TT_2 196 rfl rfl, TT_1 10 rfl rfl, by decide +kernel, by decide +kernel⟩
theorem mX5_instruction : mMe TT yX5_instruction cX5_instruction 1 (some (.object "PipeForge$Instruction")) 0 := ⟨TT_2 221 rfl rfl, TT_1 10 rfl rfl, by decide +kernel, by decide +kernel⟩
theorem mX5_readLeft : mMe TT yX5_readLeft cX5_readLeft 2 none 1 := ⟨TT_3 76 rfl rfl, TT_1 10 rfl rfl, by decide +kernel, by decide +kernel⟩
theorem mX5_readRight : mMe TT yX5_readRight cX5_readRight 2 none 1 := ⟨TT_3 80 rfl rfl, TT_1 10 rfl rfl, by decide +kernel, by decide +kernel⟩
theorem mX5_workOut : mMe TT yX5_workOut cX5_workOut 1 none 0 := ⟨TT_3 84 rfl rfl, TT_1 10 rfl rfl, by decide +kernel, by decide +kernel⟩
theorem mX5_goesOn : mMe TT yX5_goesOn cX5_goesOn 1 (some .boolean) 0 := ⟨TT_3 92 rfl rfl, TT_1 10 rfl rfl, by decide +kernel, by decide +kernel⟩
theorem mX5_asksPlace : mMe TT yX5_asksPlace cX5_asksPlace 1 (some .int) 0 := ⟨TT_3 35 rfl rfl, TT_1 10 rfl rfl, by decide +kernel, by decide +kernel⟩
theorem mX5_ask : mMe TT yX5_ask cX5_ask 3 none 2 := ⟨TT_3 109 rfl rfl, TT_1 10 rfl rfl, by decide +kernel, by decide +kernel⟩
theorem mX5_isAnswered : mMe TT yX5_isAnswered cX5_isAnswered 3 (some .boolean) 2 := ⟨TT_3 51 rfl rfl, TT_1 10 rfl rfl, by decide +kernel, by decide +kernel⟩
theorem mX5_give : mMe TT yX5_give cX5_give 2 none 1 := ⟨TT_3 120 rfl rfl, TT_1 10 rfl rfl, by decide +kernel, by decide +kernel⟩
theorem mX5_gaveBefore : mMe TT yX5_gaveBefore cX5_gaveBefore 2 (some .boolean) 1 := ⟨TT_3 13 rfl rfl, TT_1 10 rfl rfl, by decide +kernel, by decide +kernel⟩
theorem mX5_worth : mMe TT yX5_worth cX5_worth 1 (some .int) 0 := ⟨TT_3 72 rfl rfl, TT_1 10 rfl rfl, by decide +kernel, by decide +kernel⟩
theorem mX5_commitsWhere : mMe TT yX5_commitsWhere cX5_commitsWhere 1 (some .int) 0 := ⟨TT_3 132 rfl rfl, TT_1 10 rfl rfl, by decide +kernel, by decide +kernel⟩
theorem mX6_init : mMe TT yX6_init cX6_init 3 none 2 := ⟨TT_1 222 rfl rfl, TT_1 11 rfl rfl, by decide +kernel, by decide +kernel⟩
theorem mX6_agreesWith : mMe TT yX6_agreesWith cX6_agreesWith 8 (some .boolean) 1 := ⟨TT_3 218 rfl rfl, TT_1 11 rfl rfl, by decide +kernel, by decide +kernel⟩
theorem mX6_commitsAs : mMe TT yX6_commitsAs cX6_commitsAs 8 (some .boolean) 5 := ⟨TT_3 234 rfl rfl, TT_1 11 rfl rfl, by decide +kernel, by decide +kernel⟩
theorem mX7_init : mMe TT yX7_init cX7_init 6 none 4 := ⟨TT_1 133 rfl rfl, TT_1 8 rfl rfl, by decide +kernel, by decide +kernel⟩
theorem mX7_beginAnew : mMe TT yX7_beginAnew cX7_beginAnew 1 none 0 := ⟨TT_2 114 rfl rfl, TT_1 8 rfl rfl, by decide +kernel, by decide +kernel⟩
theorem mX7_advance : mMe TT yX7_advance cX7_advance 3 none 1 := ⟨TT_2 188 rfl rfl, TT_1 8 rfl rfl, by decide +kernel, by decide +kernel⟩
theorem mX7_reached : mMe TT yX7_reached cX7_reached 1 (some .int) 0 := ⟨TT_3 160 rfl rfl, TT_1 8 rfl rfl, by decide +kernel, by decide +kernel⟩
theorem mX7_isEnded : mMe TT yX7_isEnded cX7_isEnded 1 (some .boolean) 0 := ⟨TT_3 172 rfl rfl, TT_1 8 rfl rfl, by decide +kernel, by decide +kernel⟩
theorem mX7_gone : mMe TT yX7_gone cX7_gone 1 (some .int) 0 := ⟨TT_3 210 rfl rfl, TT_1 8 rfl rfl, by decide +kernel, by decide +kernel⟩
theorem mX7_holdings : mMe TT yX7_holdings cX7_holdings 1 (some (.object "PipeForge$Holdings")) 0 := ⟨TT_3 196 rfl rfl, TT_1 8 rfl rfl, by decide +kernel, by decide +kernel⟩
theorem mX7_step : mMe TT yX7_step cX7_step 2 none 0 := ⟨TT_2 192 rfl rfl, TT_1 8 rfl rfl, by decide +kernel, by decide +kernel⟩
theorem mX7_isLast : mMe TT yX7_isLast cX7_isLast 2 (some .boolean) 1 := ⟨TT_2 209 rfl rfl, TT_1 8 rfl rfl, by decide +kernel, by decide +kernel⟩
theorem mX7_mayFire : mMe TT yX7_mayFire cX7_mayFire 3 (some .boolean) 1 := ⟨TT_2 205 rfl rfl, TT_1 8 rfl rfl, by decide +kernel, by decide +kernel⟩
theorem mX7_mayRead : mMe TT yX7_mayRead cX7_mayRead 3 (some .boolean) 2 := ⟨TT_2 225 rfl rfl, TT_1 8 rfl rfl, by decide +kernel, by decide +kernel⟩
theorem mX7_isReady : mMe TT yX7_isReady cX7_isReady 4 (some .boolean) 2 := ⟨TT_2 237 rfl rfl, TT_1 8 rfl rfl, by decide +kernel, by decide +kernel⟩
theorem mX7_writerAhead : mMe TT yX7_writerAhead cX7_writerAhead 4 (some .int) 2 := ⟨TT_3 1 rfl rfl, TT_1 8 rfl rfl, by decide +kernel, by decide +kernel⟩
theorem mX7_isStoreAhead : mMe TT yX7_isStoreAhead cX7_isStoreAhead 3 (some .boolean) 1 := ⟨TT_3 31 rfl rfl, TT_1 8 rfl rfl, by decide +kernel, by decide +kernel⟩
theorem mX7_fire : mMe TT yX7_fire cX7_fire 4 none 1 := ⟨TT_3 55 rfl rfl, TT_1 8 rfl rfl, by decide +kernel, by decide +kernel⟩
theorem mX7_read : mMe TT yX7_read cX7_read 4 none 2 := ⟨TT_3 59 rfl rfl, TT_1 8 rfl rfl, by decide +kernel, by decide +kernel⟩
theorem mX7_valueFor : mMe TT yX7_valueFor cX7_valueFor 4 (some .int) 2 := ⟨TT_3 63 rfl rfl, TT_1 8 rfl rfl, by decide +kernel, by decide +kernel⟩
theorem mX7_throwOutBehind : mMe TT yX7_throwOutBehind cX7_throwOutBehind 3 none 1 := ⟨TT_2 118 rfl rfl, TT_1 8 rfl rfl, by decide +kernel, by decide +kernel⟩
theorem mX7_finish : mMe TT yX7_finish cX7_finish 4 none 1 := ⟨TT_3 124 rfl rfl, TT_1 8 rfl rfl, by decide +kernel, by decide +kernel⟩
theorem mX7_moveOn : mMe TT yX7_moveOn cX7_moveOn 3 none 1 := ⟨TT_3 156 rfl rfl, TT_1 8 rfl rfl, by decide +kernel, by decide +kernel⟩
theorem mX8_init : mMe TT yX8_init cX8_init 2 none 0 := ⟨TT_1 65 rfl rfl, TT_1 4 rfl rfl, by decide +kernel, by decide +kernel⟩
theorem mX8_isFull : mMe TT yX8_isFull cX8_isFull 1 (some .boolean) 0 := ⟨TT_2 150 rfl rfl, TT_1 4 rfl rfl, by decide +kernel, by decide +kernel⟩
theorem mX8_add : mMe TT yX8_add cX8_add 2 (some .int) 1 := ⟨TT_2 159 rfl rfl, TT_1 4 rfl rfl, by decide +kernel, by decide +kernel⟩
theorem mX8_size : mMe TT yX8_size cX8_size 1 (some .int) 0 := ⟨TT_4 14 rfl rfl, TT_1 4 rfl rfl, by decide +kernel, by decide +kernel⟩
theorem mX8_at : mMe TT yX8_at cX8_at 2 (some (.object "PipeForge$Instruction")) 1 := ⟨TT_1 154 rfl rfl, TT_1 4 rfl rfl, by decide +kernel, by decide +kernel⟩
theorem mX9_init : mMe TT yX9_init cX9_init 1 none 0 := ⟨TT_1 104 rfl rfl, TT_1 6 rfl rfl, by decide +kernel, by decide +kernel⟩
theorem mX9_tell : mMe TT yX9_tell cX9_tell 3 none 2 := ⟨TT_2 171 rfl rfl, TT_1 6 rfl rfl, by decide +kernel, by decide +kernel⟩
theorem mX9_delay : mMe TT yX9_delay cX9_delay 3 none 2 := ⟨TT_2 180 rfl rfl, TT_1 6 rfl rfl, by decide +kernel, by decide +kernel⟩
theorem mX9_delayOf : mMe TT yX9_delayOf cX9_delayOf 2 (some .int) 1 := ⟨TT_3 46 rfl rfl, TT_1 6 rfl rfl, by decide +kernel, by decide +kernel⟩
theorem mX9_fill : mMe TT yX9_fill cX9_fill 2 none 1 := ⟨TT_2 131 rfl rfl, TT_1 6 rfl rfl, by decide +kernel, by decide +kernel⟩
theorem mX10_init : mMe TT yX10_init cX10_init 1 none 0 := ⟨TT_1 24 rfl rfl, TT_1 1 rfl rfl, by decide +kernel, by decide +kernel⟩
theorem mX10_unit : mMe TT yX10_unit cX10_unit 2 (some .boolean) 1 := ⟨TT_2 27 rfl rfl, TT_1 1 rfl rfl, by decide +kernel, by decide +kernel⟩
theorem mX10_line : mMe TT yX10_line cX10_line 2 (some .int) 0 := ⟨TT_2 31 rfl rfl, TT_1 1 rfl rfl, by decide +kernel, by decide +kernel⟩
theorem mX10_code : mMe TT yX10_code cX10_code 7 (some .int) 5 := ⟨TT_2 146 rfl rfl, TT_1 1 rfl rfl, by decide +kernel, by decide +kernel⟩
theorem mX10_memory : mMe TT yX10_memory cX10_memory 3 (some .boolean) 2 := ⟨TT_2 164 rfl rfl, TT_1 1 rfl rfl, by decide +kernel, by decide +kernel⟩
theorem mX10_latency : mMe TT yX10_latency cX10_latency 3 (some .boolean) 2 := ⟨TT_2 176 rfl rfl, TT_1 1 rfl rfl, by decide +kernel, by decide +kernel⟩
theorem mX10_run : mMe TT yX10_run cX10_run 2 (some .int) 1 := ⟨TT_2 184 rfl rfl, TT_1 1 rfl rfl, by decide +kernel, by decide +kernel⟩
theorem mX10_cycle : mMe TT yX10_cycle cX10_cycle 1 (some .int) 0 := ⟨TT_3 164 rfl rfl, TT_1 1 rfl rfl, by decide +kernel, by decide +kernel⟩
theorem mX10_ended : mMe TT yX10_ended cX10_ended 1 (some .boolean) 0 := ⟨TT_3 168 rfl rfl, TT_1 1 rfl rfl, by decide +kernel, by decide +kernel⟩
theorem mX10_commits : mMe TT yX10_commits cX10_commits 1 (some .int) 0 := ⟨TT_3 176 rfl rfl, TT_1 1 rfl rfl, by decide +kernel, by decide +kernel⟩
theorem mX10_commit : mMe TT yX10_commit cX10_commit 3 (some .int) 2 := ⟨TT_3 184 rfl rfl, TT_1 1 rfl rfl, by decide +kernel, by decide +kernel⟩
theorem mX10_register : mMe TT yX10_register cX10_register 2 (some .int) 1 := ⟨TT_3 192 rfl rfl, TT_1 1 rfl rfl, by decide +kernel, by decide +kernel⟩
theorem mX10_place : mMe TT yX10_place cX10_place 2 (some .int) 1 := ⟨TT_3 201 rfl rfl, TT_1 1 rfl rfl, by decide +kernel, by decide +kernel⟩
theorem mX10_retired : mMe TT yX10_retired cX10_retired 1 (some .int) 0 := ⟨TT_3 206 rfl rfl, TT_1 1 rfl rfl, by decide +kernel, by decide +kernel⟩
theorem mX10_faithful : mMe TT yX10_faithful cX10_faithful 1 (some .boolean) 0 := ⟨TT_3 214 rfl rfl, TT_1 1 rfl rfl, by decide +kernel, by decide +kernel⟩
theorem mX10_told : mMe TT yX10_told cX10_told 2 (some .int) 1 := ⟨TT_4 10 rfl rfl, TT_1 1 rfl rfl, by decide +kernel, by decide +kernel⟩
theorem mX10_isRegister : mMe TT yX10_isRegister cX10_isRegister 1 (some .boolean) 1 := ⟨TT_2 153 rfl rfl, TT_1 1 rfl rfl, by decide +kernel, by decide +kernel⟩
theorem mX10_isPlace : mMe TT yX10_isPlace cX10_isPlace 1 (some .boolean) 1 := ⟨TT_2 167 rfl rfl, TT_1 1 rfl rfl, by decide +kernel, by decide +kernel⟩
theorem mX11_init : mMe TT yX11_init cX11_init 1 none 0 := ⟨TT_4 20 rfl rfl, TT_1 12 rfl rfl, by decide +kernel, by decide +kernel⟩
theorem mX11_anew : mMe TT yX11_anew cX11_anew 2 none 0 := ⟨TT_4 25 rfl rfl, TT_1 12 rfl rfl, by decide +kernel, by decide +kernel⟩
theorem mX11_isIn : mMe TT yX11_isIn cX11_isIn 3 (some .boolean) 3 := ⟨TT_4 142 rfl rfl, TT_1 12 rfl rfl, by decide +kernel, by decide +kernel⟩
theorem mX11_unit : mMe TT yX11_unit cX11_unit 2 (some .boolean) 1 := ⟨TT_4 139 rfl rfl, TT_1 12 rfl rfl, by decide +kernel, by decide +kernel⟩
theorem mX11_actionOf : mMe TT yX11_actionOf cX11_actionOf 1 (some .int) 1 := ⟨TT_4 149 rfl rfl, TT_1 12 rfl rfl, by decide +kernel, by decide +kernel⟩
theorem mX11_line : mMe TT yX11_line cX11_line 8 (some .int) 0 := ⟨TT_4 146 rfl rfl, TT_1 12 rfl rfl, by decide +kernel, by decide +kernel⟩
theorem mX11_code : mMe TT yX11_code cX11_code 6 (some .int) 5 := ⟨TT_4 153 rfl rfl, TT_1 12 rfl rfl, by decide +kernel, by decide +kernel⟩
theorem mX11_memory : mMe TT yX11_memory cX11_memory 3 (some .boolean) 2 := ⟨TT_4 157 rfl rfl, TT_1 12 rfl rfl, by decide +kernel, by decide +kernel⟩
theorem mX11_latency : mMe TT yX11_latency cX11_latency 3 (some .boolean) 2 := ⟨TT_4 161 rfl rfl, TT_1 12 rfl rfl, by decide +kernel, by decide +kernel⟩
theorem mX11_kindOf : mMe TT yX11_kindOf cX11_kindOf 2 (some .int) 1 := ⟨TT_4 177 rfl rfl, TT_1 12 rfl rfl, by decide +kernel, by decide +kernel⟩
theorem mX11_commitsRegister : mMe TT yX11_commitsRegister cX11_commitsRegister 3 (some .boolean) 2 := ⟨TT_4 192 rfl rfl, TT_1 12 rfl rfl, by decide +kernel, by decide +kernel⟩
theorem mX11_giver : mMe TT yX11_giver cX11_giver 4 (some .int) 2 := ⟨TT_4 188 rfl rfl, TT_1 12 rfl rfl, by decide +kernel, by decide +kernel⟩
theorem mX11_isReady : mMe TT yX11_isReady cX11_isReady 5 (some .boolean) 2 := ⟨TT_4 184 rfl rfl, TT_1 12 rfl rfl, by decide +kernel, by decide +kernel⟩
theorem mX11_read : mMe TT yX11_read cX11_read 4 (some .int) 2 := ⟨TT_4 211 rfl rfl, TT_1 12 rfl rfl, by decide +kernel, by decide +kernel⟩
theorem mX11_readsOne : mMe TT yX11_readsOne cX11_readsOne 1 (some .boolean) 1 := ⟨TT_4 180 rfl rfl, TT_1 12 rfl rfl, by decide +kernel, by decide +kernel⟩
theorem mX11_readsTwo : mMe TT yX11_readsTwo cX11_readsTwo 1 (some .boolean) 1 := ⟨TT_4 195 rfl rfl, TT_1 12 rfl rfl, by decide +kernel, by decide +kernel⟩
theorem mX11_hasOlderStore : mMe TT yX11_hasOlderStore cX11_hasOlderStore 4 (some .boolean) 1 := ⟨TT_4 199 rfl rfl, TT_1 12 rfl rfl, by decide +kernel, by decide +kernel⟩
theorem mX11_placeOf : mMe TT yX11_placeOf cX11_placeOf 2 (some .int) 1 := ⟨TT_4 203 rfl rfl, TT_1 12 rfl rfl, by decide +kernel, by decide +kernel⟩
theorem mX11_fires : mMe TT yX11_fires cX11_fires 4 (some .boolean) 1 := ⟨TT_4 173 rfl rfl, TT_1 12 rfl rfl, by decide +kernel, by decide +kernel⟩
theorem mX11_workOut : mMe TT yX11_workOut cX11_workOut 6 none 3 := ⟨TT_4 215 rfl rfl, TT_1 12 rfl rfl, by decide +kernel, by decide +kernel⟩
theorem mX11_commitOne : mMe TT yX11_commitOne cX11_commitOne 4 none 3 := ⟨TT_4 223 rfl rfl, TT_1 12 rfl rfl, by decide +kernel, by decide +kernel⟩
theorem mX11_commitAll : mMe TT yX11_commitAll cX11_commitAll 4 none 3 := ⟨TT_4 219 rfl rfl, TT_1 12 rfl rfl, by decide +kernel, by decide +kernel⟩
theorem mX11_fire : mMe TT yX11_fire cX11_fire 5 none 1 := ⟨TT_4 207 rfl rfl, TT_1 12 rfl rfl, by decide +kernel, by decide +kernel⟩
theorem mX11_oneCycle : mMe TT yX11_oneCycle cX11_oneCycle 2 none 0 := ⟨TT_4 169 rfl rfl, TT_1 12 rfl rfl, by decide +kernel, by decide +kernel⟩
theorem mX11_run : mMe TT yX11_run cX11_run 3 (some .int) 1 := ⟨TT_4 165 rfl rfl, TT_1 12 rfl rfl, by decide +kernel, by decide +kernel⟩
theorem mX11_cycle : mMe TT yX11_cycle cX11_cycle 1 (some .int) 0 := ⟨TT_4 227 rfl rfl, TT_1 12 rfl rfl, by decide +kernel, by decide +kernel⟩
theorem mX11_ended : mMe TT yX11_ended cX11_ended 1 (some .boolean) 0 := ⟨TT_4 231 rfl rfl, TT_1 12 rfl rfl, by decide +kernel, by decide +kernel⟩
theorem mX11_commits : mMe TT yX11_commits cX11_commits 1 (some .int) 0 := ⟨TT_4 235 rfl rfl, TT_1 12 rfl rfl, by decide +kernel, by decide +kernel⟩
theorem mX11_commit : mMe TT yX11_commit cX11_commit 3 (some .int) 2 := ⟨TT_4 239 rfl rfl, TT_1 12 rfl rfl, by decide +kernel, by decide +kernel⟩
theorem mX11_register : mMe TT yX11_register cX11_register 2 (some .int) 1 := ⟨TT_5 3 rfl rfl, TT_1 12 rfl rfl, by decide +kernel, by decide +kernel⟩
theorem mX11_place : mMe TT yX11_place cX11_place 2 (some .int) 1 := ⟨TT_5 7 rfl rfl, TT_1 12 rfl rfl, by decide +kernel, by decide +kernel⟩
theorem mX11_retired : mMe TT yX11_retired cX11_retired 1 (some .int) 0 := ⟨TT_5 11 rfl rfl, TT_1 12 rfl rfl, by decide +kernel, by decide +kernel⟩
theorem mX11_faithful : mMe TT yX11_faithful cX11_faithful 12 (some .boolean) 0 := ⟨TT_5 15 rfl rfl, TT_1 12 rfl rfl, by decide +kernel, by decide +kernel⟩
theorem mX11_told : mMe TT yX11_told cX11_told 2 (some .int) 1 := ⟨TT_5 19 rfl rfl, TT_1 12 rfl rfl, by decide +kernel, by decide +kernel⟩
theorem mJ9_floorMod_7cf53 : mMe TT yJ9_floorMod_7cf53 cJ9_floorMod_7cf53 3 (some .int) 2 := ⟨TT_3 42 rfl rfl, TT_1 19 rfl rfl, by decide +kernel, by decide +kernel⟩
theorem mJ9_max_7cf53 : mMe TT yJ9_max_7cf53 cJ9_max_7cf53 2 (some .int) 2 := ⟨TT_3 116 rfl rfl, TT_1 19 rfl rfl, by decide +kernel, by decide +kernel⟩
theorem mJ0_length_8abf5 : mMe TT yJ0_length_8abf5 cJ0_length_8abf5 1 (some .int) 0 := ⟨TT_2 55 rfl rfl, TT_1 14 rfl rfl, by decide +kernel, by decide +kernel⟩
theorem mJ0_charAt_5068e : mMe TT yJ0_charAt_5068e cJ0_charAt_5068e 2 (some .char) 1 := ⟨TT_2 65 rfl rfl, TT_1 14 rfl rfl, by decide +kernel, by decide +kernel⟩
theorem mJ0_coder_7d493 : mMe TT yJ0_coder_7d493 cJ0_coder_7d493 1 (some .byte) 0 := ⟨TT_2 59 rfl rfl, TT_1 14 rfl rfl, by decide +kernel, by decide +kernel⟩
theorem mJ0_isLatin1_aae02 : mMe TT yJ0_isLatin1_aae02 cJ0_isLatin1_aae02 1 (some .boolean) 0 := ⟨TT_2 69 rfl rfl, TT_1 14 rfl rfl, by decide +kernel, by decide +kernel⟩
theorem mJ0_checkIndex_df160 : mMe TT yJ0_checkIndex_df160 cJ0_checkIndex_df160 2 none 2 := ⟨TT_2 75 rfl rfl, TT_1 14 rfl rfl, by decide +kernel, by decide +kernel⟩
theorem mJ1_charAt_3b067 : mMe TT yJ1_charAt_3b067 cJ1_charAt_3b067 2 (some .char) 2 := ⟨TT_2 72 rfl rfl, TT_1 15 rfl rfl, by decide +kernel, by decide +kernel⟩
theorem mJ2_getChar_3b067 : mMe TT yJ2_getChar_3b067 cJ2_getChar_3b067 2 (some .char) 2 := ⟨TT_2 93 rfl rfl, TT_1 17 rfl rfl, by decide +kernel, by decide +kernel⟩
theorem mJ2_length_9d52b : mMe TT yJ2_length_9d52b cJ2_length_9d52b 1 (some .int) 1 := ⟨TT_2 89 rfl rfl, TT_1 17 rfl rfl, by decide +kernel, by decide +kernel⟩
theorem mJ2_charAt_3b067 : mMe TT yJ2_charAt_3b067 cJ2_charAt_3b067 2 (some .char) 2 := ⟨TT_2 83 rfl rfl, TT_1 17 rfl rfl, by decide +kernel, by decide +kernel⟩
theorem mJ2_checkIndex_2214a : mMe TT yJ2_checkIndex_2214a cJ2_checkIndex_2214a 2 none 2 := ⟨TT_2 86 rfl rfl, TT_1 17 rfl rfl, by decide +kernel, by decide +kernel⟩
theorem mJ7_fill_53178 : mMe TT yJ7_fill_53178 cJ7_fill_53178 4 none 2 := ⟨TT_2 38 rfl rfl, TT_1 13 rfl rfl, by decide +kernel, by decide +kernel⟩
theorem mJ3_checkIndex_8e157 : mMe TT yJ3_checkIndex_8e157 cJ3_checkIndex_8e157 3 (some .int) 3 := ⟨TT_2 80 rfl rfl, TT_1 16 rfl rfl, by decide +kernel, by decide +kernel⟩
theorem kL_9 : Cond.methodLink RL 9 yX10_init ∈ TT := TT_1 22 rfl rfl
theorem koX10_1 : Cond.methodLink RX10 1 Lib.objectInit ∈ TT := TT_1 25 rfl rfl
theorem koX4_3 : Cond.methodLink RX4 3 Lib.objectInit ∈ TT := TT_1 33 rfl rfl
theorem koX3_3 : Cond.methodLink RX3 3 Lib.objectInit ∈ TT := TT_1 53 rfl rfl
theorem kX10_29 : Cond.methodLink RX10 29 yX8_init ∈ TT := TT_1 63 rfl rfl
theorem koX8_3 : Cond.methodLink RX8 3 Lib.objectInit ∈ TT := TT_1 66 rfl rfl
theorem kX8_17 : Cond.methodLink RX8 17 yX2_init ∈ TT := TT_1 70 rfl rfl
theorem koX2_3 : Cond.methodLink RX2 3 Lib.objectInit ∈ TT := TT_1 73 rfl rfl
theorem koX9_3 : Cond.methodLink RX9 3 Lib.objectInit ∈ TT := TT_1 105 rfl rfl
theorem koX0_3 : Cond.methodLink RX0 3 Lib.objectInit ∈ TT := TT_1 118 rfl rfl
theorem kX10_50 : Cond.methodLink RX10 50 yX7_init ∈ TT := TT_1 131 rfl rfl
theorem koX7_3 : Cond.methodLink RX7 3 Lib.objectInit ∈ TT := TT_1 134 rfl rfl
theorem koX1_3 : Cond.methodLink RX1 3 Lib.objectInit ∈ TT := TT_1 140 rfl rfl
theorem gX7_44 : mG vwCl TT RX7 44 yX8_at cX8_at 2 (some (.object "PipeForge$Instruction")) 1 8 := ⟨mX8_at, ⟨TX8, 3, rfl⟩, TT_1 151 rfl rfl, TT_1 152 rfl rfl, TT_1 153 rfl rfl⟩
theorem kX7_50 : Cond.methodLink RX7 50 yX5_init ∈ TT := TT_1 155 rfl rfl
theorem koX5_1 : Cond.methodLink RX5 1 Lib.objectInit ∈ TT := TT_1 158 rfl rfl
theorem kX10_59 : Cond.methodLink RX10 59 yX6_init ∈ TT := TT_1 220 rfl rfl
theorem koX6_3 : Cond.methodLink RX6 3 Lib.objectInit ∈ TT := TT_1 223 rfl rfl
theorem gL_13 : mG vwCl TT RL 13 yX10_unit cX10_unit 2 (some .boolean) 1 10 := ⟨mX10_unit, ⟨TX10, 9, rfl⟩, TT_2 24 rfl rfl, TT_2 25 rfl rfl, TT_2 26 rfl rfl⟩
theorem gL_18 : mG vwCl TT RL 18 yX10_line cX10_line 2 (some .int) 0 10 := ⟨mX10_line, ⟨TX10, 9, rfl⟩, TT_2 28 rfl rfl, TT_2 29 rfl rfl, TT_2 30 rfl rfl⟩
theorem gX10_70 : mG vwCl TT RX10 70 yX4_firstWrong cX4_firstWrong 4 (some .int) 2 4 := ⟨mX4_firstWrong, ⟨TX4, 4, rfl⟩, TT_2 32 rfl rfl, TT_2 33 rfl rfl, TT_2 34 rfl rfl⟩
theorem gX4_15 : mGS TT RX4 15 yJ7_fill_53178 cJ7_fill_53178 4 none 2 := ⟨mJ7_fill_53178, TT_2 36 rfl rfl, TT_2 37 rfl rfl⟩
theorem gX4_32 : mG vwCl TT RX4 32 yX4_takes cX4_takes 2 (some .boolean) 1 4 := ⟨mX4_takes, ⟨TX4, 4, rfl⟩, TT_2 39 rfl rfl, TT_2 41 rfl rfl, TT_p (q := (yX4_takes, 4)) 0 rfl rfl⟩
theorem gX4_49 : mG vwCl TT RX4 49 yX4_takesBreak cX4_takesBreak 1 (some .boolean) 0 4 := ⟨mX4_takesBreak, ⟨TX4, 4, rfl⟩, TT_2 43 rfl rfl, TT_2 45 rfl rfl, TT_p (q := (yX4_takesBreak, 4)) 1 rfl rfl⟩
theorem gX4_53 : mG vwCl TT RX4 53 yX4_puts cX4_puts 2 (some .boolean) 1 4 := ⟨mX4_puts, ⟨TX4, 4, rfl⟩, TT_2 47 rfl rfl, TT_2 49 rfl rfl, TT_p (q := (yX4_puts, 4)) 2 rfl rfl⟩
theorem gJ0_495 : mGS TT RJ0 495 yJ1_charAt_3b067 cJ1_charAt_3b067 2 (some .char) 2 := ⟨mJ1_charAt_3b067, TT_2 70 rfl rfl, TT_2 71 rfl rfl⟩
theorem gJ1_9 : mGS TT RJ1 9 yJ0_checkIndex_df160 cJ0_checkIndex_df160 2 none 2 := ⟨mJ0_checkIndex_df160, TT_2 73 rfl rfl, TT_2 74 rfl rfl⟩
theorem gJ0_1059 : mGS TT RJ0 1059 yJ3_checkIndex_8e157 cJ3_checkIndex_8e157 3 (some .int) 3 := ⟨mJ3_checkIndex_8e157, TT_2 78 rfl rfl, TT_2 79 rfl rfl⟩
theorem gJ0_498 : mGS TT RJ0 498 yJ2_charAt_3b067 cJ2_charAt_3b067 2 (some .char) 2 := ⟨mJ2_charAt_3b067, TT_2 81 rfl rfl, TT_2 82 rfl rfl⟩
theorem gJ2_67 : mGS TT RJ2 67 yJ2_checkIndex_2214a cJ2_checkIndex_2214a 2 none 2 := ⟨mJ2_checkIndex_2214a, TT_2 84 rfl rfl, TT_2 85 rfl rfl⟩
theorem gJ2_48 : mGS TT RJ2 48 yJ2_length_9d52b cJ2_length_9d52b 1 (some .int) 1 := ⟨mJ2_length_9d52b, TT_2 87 rfl rfl, TT_2 88 rfl rfl⟩
theorem gJ2_414 : mGS TT RJ2 414 yJ0_checkIndex_df160 cJ0_checkIndex_df160 2 none 2 := ⟨mJ0_checkIndex_df160, TT_2 90 rfl rfl, TT_2 74 rfl rfl⟩
theorem gJ2_71 : mGS TT RJ2 71 yJ2_getChar_3b067 cJ2_getChar_3b067 2 (some .char) 2 := ⟨mJ2_getChar_3b067, TT_2 91 rfl rfl, TT_2 92 rfl rfl⟩
theorem gX10_74 : mG vwCl TT RX10 74 yX4_writeTo cX4_writeTo 2 none 1 4 := ⟨mX4_writeTo, ⟨TX4, 4, rfl⟩, TT_2 100 rfl rfl, TT_2 101 rfl rfl, TT_2 102 rfl rfl⟩
theorem gX4_44 : mG vwCl TT RX4 44 yX3_become cX3_become 3 none 2 3 := ⟨mX3_become, ⟨TX3, 2, rfl⟩, TT_2 104 rfl rfl, TT_2 105 rfl rfl, TT_2 106 rfl rfl⟩
theorem kaX3_19 : Cond.methodLink RX3 19 arraycopyName ∈ TT := TT_2 108 rfl rfl
theorem gX10_78 : mG vwCl TT RX10 78 yX7_beginAnew cX7_beginAnew 1 none 0 7 := ⟨mX7_beginAnew, ⟨TX7, 12, rfl⟩, TT_2 111 rfl rfl, TT_2 112 rfl rfl, TT_2 113 rfl rfl⟩
theorem gX7_53 : mG vwCl TT RX7 53 yX7_throwOutBehind cX7_throwOutBehind 3 none 1 7 := ⟨mX7_throwOutBehind, ⟨TX7, 12, rfl⟩, TT_2 115 rfl rfl, TT_2 117 rfl rfl, TT_p (q := (yX7_throwOutBehind, 12)) 3 rfl rfl⟩
theorem gX7_223 : mG vwCl TT RX7 223 yX5_leave cX5_leave 1 none 0 5 := ⟨mX5_leave, ⟨TX5, 7, rfl⟩, TT_2 119 rfl rfl, TT_2 120 rfl rfl, TT_2 121 rfl rfl⟩
theorem gX7_57 : mG vwCl TT RX7 57 yX1_reset cX1_reset 2 none 1 1 := ⟨mX1_reset, ⟨TX1, 2, rfl⟩, TT_2 123 rfl rfl, TT_2 124 rfl rfl, TT_2 125 rfl rfl⟩
theorem gX1_18 : mGS TT RX1 18 yJ7_fill_53178 cJ7_fill_53178 4 none 2 := ⟨mJ7_fill_53178, TT_2 127 rfl rfl, TT_2 37 rfl rfl⟩
theorem gX1_24 : mG vwCl TT RX1 24 yX9_fill cX9_fill 2 none 1 9 := ⟨mX9_fill, ⟨TX9, 2, rfl⟩, TT_2 128 rfl rfl, TT_2 129 rfl rfl, TT_2 130 rfl rfl⟩
theorem kaX9_28 : Cond.methodLink RX9 28 arraycopyName ∈ TT := TT_2 132 rfl rfl
theorem gX7_61 : mG vwCl TT RX7 61 yX0_clear cX0_clear 1 none 0 0 := ⟨mX0_clear, ⟨TX0, 3, rfl⟩, TT_2 133 rfl rfl, TT_2 134 rfl rfl, TT_2 135 rfl rfl⟩
theorem gX7_66 : mGS TT RX7 66 yJ7_fill_53178 cJ7_fill_53178 4 none 2 := ⟨mJ7_fill_53178, TT_2 137 rfl rfl, TT_2 37 rfl rfl⟩
theorem gX10_81 : mG vwCl TT RX10 81 yX3_stageCount cX3_stageCount 1 (some .int) 0 3 := ⟨mX3_stageCount, ⟨TX3, 2, rfl⟩, TT_2 138 rfl rfl, TT_2 139 rfl rfl, TT_2 140 rfl rfl⟩
theorem gL_23 : mG vwCl TT RL 23 yX10_code cX10_code 7 (some .int) 5 10 := ⟨mX10_code, ⟨TX10, 9, rfl⟩, TT_2 143 rfl rfl, TT_2 144 rfl rfl, TT_2 145 rfl rfl⟩
theorem gX10_85 : mG vwCl TT RX10 85 yX8_isFull cX8_isFull 1 (some .boolean) 0 8 := ⟨mX8_isFull, ⟨TX8, 3, rfl⟩, TT_2 147 rfl rfl, TT_2 148 rfl rfl, TT_2 149 rfl rfl⟩
theorem gX10_89 : mGS TT RX10 89 yX10_isRegister cX10_isRegister 1 (some .boolean) 1 := ⟨mX10_isRegister, TT_2 151 rfl rfl, TT_2 152 rfl rfl⟩
theorem kX10_95 : Cond.methodLink RX10 95 yX2_init ∈ TT := TT_2 155 rfl rfl
theorem gX10_98 : mG vwCl TT RX10 98 yX8_add cX8_add 2 (some .int) 1 8 := ⟨mX8_add, ⟨TX8, 3, rfl⟩, TT_2 156 rfl rfl, TT_2 157 rfl rfl, TT_2 158 rfl rfl⟩
theorem gX8_28 : mG vwCl TT RX8 28 yX8_isFull cX8_isFull 1 (some .boolean) 0 8 := ⟨mX8_isFull, ⟨TX8, 3, rfl⟩, TT_2 160 rfl rfl, TT_2 148 rfl rfl, TT_2 149 rfl rfl⟩
theorem gL_28 : mG vwCl TT RL 28 yX10_memory cX10_memory 3 (some .boolean) 2 10 := ⟨mX10_memory, ⟨TX10, 9, rfl⟩, TT_2 161 rfl rfl, TT_2 162 rfl rfl, TT_2 163 rfl rfl⟩
theorem gX10_102 : mGS TT RX10 102 yX10_isPlace cX10_isPlace 1 (some .boolean) 1 := ⟨mX10_isPlace, TT_2 165 rfl rfl, TT_2 166 rfl rfl⟩
theorem gX10_105 : mG vwCl TT RX10 105 yX9_tell cX9_tell 3 none 2 9 := ⟨mX9_tell, ⟨TX9, 2, rfl⟩, TT_2 168 rfl rfl, TT_2 169 rfl rfl, TT_2 170 rfl rfl⟩
theorem gL_33 : mG vwCl TT RL 33 yX10_latency cX10_latency 3 (some .boolean) 2 10 := ⟨mX10_latency, ⟨TX10, 9, rfl⟩, TT_2 173 rfl rfl, TT_2 174 rfl rfl, TT_2 175 rfl rfl⟩
theorem gX10_109 : mG vwCl TT RX10 109 yX9_delay cX9_delay 3 none 2 9 := ⟨mX9_delay, ⟨TX9, 2, rfl⟩, TT_2 177 rfl rfl, TT_2 178 rfl rfl, TT_2 179 rfl rfl⟩
theorem gL_37 : mG vwCl TT RL 37 yX10_run cX10_run 2 (some .int) 1 10 := ⟨mX10_run, ⟨TX10, 9, rfl⟩, TT_2 181 rfl rfl, TT_2 182 rfl rfl, TT_2 183 rfl rfl⟩
theorem gX10_112 : mG vwCl TT RX10 112 yX7_advance cX7_advance 3 none 1 7 := ⟨mX7_advance, ⟨TX7, 12, rfl⟩, TT_2 185 rfl rfl, TT_2 186 rfl rfl, TT_2 187 rfl rfl⟩
theorem gX7_89 : mG vwCl TT RX7 89 yX7_step cX7_step 2 none 0 7 := ⟨mX7_step, ⟨TX7, 12, rfl⟩, TT_2 189 rfl rfl, TT_2 191 rfl rfl, TT_p (q := (yX7_step, 12)) 4 rfl rfl⟩
theorem gX7_92 : mG vwCl TT RX7 92 yX5_isPresent cX5_isPresent 1 (some .boolean) 0 5 := ⟨mX5_isPresent, ⟨TX5, 7, rfl⟩, TT_2 193 rfl rfl, TT_2 194 rfl rfl, TT_2 195 rfl rfl⟩
theorem gX7_96 : mG vwCl TT RX7 96 yX5_come cX5_come 2 none 1 5 := ⟨mX5_come, ⟨TX5, 7, rfl⟩, TT_2 197 rfl rfl, TT_2 198 rfl rfl, TT_2 199 rfl rfl⟩
theorem gX7_99 : mG vwCl TT RX7 99 yX3_stageCount cX3_stageCount 1 (some .int) 0 3 := ⟨mX3_stageCount, ⟨TX3, 2, rfl⟩, TT_2 201 rfl rfl, TT_2 139 rfl rfl, TT_2 140 rfl rfl⟩
theorem gX7_105 : mG vwCl TT RX7 105 yX7_mayFire cX7_mayFire 3 (some .boolean) 1 7 := ⟨mX7_mayFire, ⟨TX7, 12, rfl⟩, TT_2 202 rfl rfl, TT_2 204 rfl rfl, TT_p (q := (yX7_mayFire, 12)) 5 rfl rfl⟩
theorem gX7_112 : mG vwCl TT RX7 112 yX7_isLast cX7_isLast 2 (some .boolean) 1 7 := ⟨mX7_isLast, ⟨TX7, 12, rfl⟩, TT_2 206 rfl rfl, TT_2 208 rfl rfl, TT_p (q := (yX7_isLast, 12)) 6 rfl rfl⟩
theorem gX7_115 : mG vwCl TT RX7 115 yX3_has cX3_has 3 (some .boolean) 2 3 := ⟨mX3_has, ⟨TX3, 2, rfl⟩, TT_2 210 rfl rfl, TT_2 211 rfl rfl, TT_2 212 rfl rfl⟩
theorem gX3_25 : mG vwCl TT RX3 25 yX3_stageOf cX3_stageOf 2 (some .int) 1 3 := ⟨mX3_stageOf, ⟨TX3, 2, rfl⟩, TT_2 214 rfl rfl, TT_2 215 rfl rfl, TT_2 216 rfl rfl⟩
theorem gX7_119 : mG vwCl TT RX7 119 yX5_instruction cX5_instruction 1 (some (.object "PipeForge$Instruction")) 0 5 := ⟨mX5_instruction, ⟨TX5, 7, rfl⟩, TT_2 218 rfl rfl, TT_2 219 rfl rfl, TT_2 220 rfl rfl⟩
theorem gX7_123 : mG vwCl TT RX7 123 yX7_mayRead cX7_mayRead 3 (some .boolean) 2 7 := ⟨mX7_mayRead, ⟨TX7, 12, rfl⟩, TT_2 222 rfl rfl, TT_2 224 rfl rfl, TT_p (q := (yX7_mayRead, 12)) 7 rfl rfl⟩
theorem gX7_147 : mG vwCl TT RX7 147 yX2_readsLeft cX2_readsLeft 1 (some .boolean) 0 2 := ⟨mX2_readsLeft, ⟨TX2, 5, rfl⟩, TT_2 226 rfl rfl, TT_2 227 rfl rfl, TT_2 228 rfl rfl⟩
theorem gX7_150 : mG vwCl TT RX7 150 yX2_left cX2_left 1 (some .int) 0 2 := ⟨mX2_left, ⟨TX2, 5, rfl⟩, TT_2 230 rfl rfl, TT_2 231 rfl rfl, TT_2 232 rfl rfl⟩
theorem gX7_153 : mG vwCl TT RX7 153 yX7_isReady cX7_isReady 4 (some .boolean) 2 7 := ⟨mX7_isReady, ⟨TX7, 12, rfl⟩, TT_2 234 rfl rfl, TT_2 236 rfl rfl, TT_p (q := (yX7_isReady, 12)) 8 rfl rfl⟩
theorem gX7_162 : mG vwCl TT RX7 162 yX7_writerAhead cX7_writerAhead 4 (some .int) 2 7 := ⟨mX7_writerAhead, ⟨TX7, 12, rfl⟩, TT_2 238 rfl rfl, TT_3 0 rfl rfl, TT_p (q := (yX7_writerAhead, 12)) 9 rfl rfl⟩
theorem gX7_172 : mG vwCl TT RX7 172 yX2_commitsTo cX2_commitsTo 2 (some .boolean) 1 2 := ⟨mX2_commitsTo, ⟨TX2, 5, rfl⟩, TT_3 2 rfl rfl, TT_3 3 rfl rfl, TT_3 4 rfl rfl⟩
theorem gX2_31 : mG vwCl TT RX2 31 yX2_commitsRegister cX2_commitsRegister 1 (some .boolean) 0 2 := ⟨mX2_commitsRegister, ⟨TX2, 5, rfl⟩, TT_3 6 rfl rfl, TT_3 7 rfl rfl, TT_3 8 rfl rfl⟩
theorem gX7_166 : mG vwCl TT RX7 166 yX5_gaveBefore cX5_gaveBefore 2 (some .boolean) 1 5 := ⟨mX5_gaveBefore, ⟨TX5, 7, rfl⟩, TT_3 10 rfl rfl, TT_3 11 rfl rfl, TT_3 12 rfl rfl⟩
theorem gX7_156 : mG vwCl TT RX7 156 yX2_readsRight cX2_readsRight 1 (some .boolean) 0 2 := ⟨mX2_readsRight, ⟨TX2, 5, rfl⟩, TT_3 15 rfl rfl, TT_3 16 rfl rfl, TT_3 17 rfl rfl⟩
theorem gX2_27 : mG vwCl TT RX2 27 yX2_readsLeft cX2_readsLeft 1 (some .boolean) 0 2 := ⟨mX2_readsLeft, ⟨TX2, 5, rfl⟩, TT_3 19 rfl rfl, TT_2 227 rfl rfl, TT_2 228 rfl rfl⟩
theorem gX7_159 : mG vwCl TT RX7 159 yX2_right cX2_right 1 (some .int) 0 2 := ⟨mX2_right, ⟨TX2, 5, rfl⟩, TT_3 20 rfl rfl, TT_3 21 rfl rfl, TT_3 22 rfl rfl⟩
theorem gX7_127 : mG vwCl TT RX7 127 yX2_kind cX2_kind 1 (some .int) 0 2 := ⟨mX2_kind, ⟨TX2, 5, rfl⟩, TT_3 24 rfl rfl, TT_3 25 rfl rfl, TT_3 26 rfl rfl⟩
theorem gX7_132 : mG vwCl TT RX7 132 yX7_isStoreAhead cX7_isStoreAhead 3 (some .boolean) 1 7 := ⟨mX7_isStoreAhead, ⟨TX7, 12, rfl⟩, TT_3 28 rfl rfl, TT_3 30 rfl rfl, TT_p (q := (yX7_isStoreAhead, 12)) 10 rfl rfl⟩
theorem gX7_135 : mG vwCl TT RX7 135 yX5_asksPlace cX5_asksPlace 1 (some .int) 0 5 := ⟨mX5_asksPlace, ⟨TX5, 7, rfl⟩, TT_3 32 rfl rfl, TT_3 33 rfl rfl, TT_3 34 rfl rfl⟩
theorem gX5_43 : mG vwCl TT RX5 43 yX2_placeFrom cX2_placeFrom 2 (some .int) 1 2 := ⟨mX2_placeFrom, ⟨TX2, 5, rfl⟩, TT_3 36 rfl rfl, TT_3 37 rfl rfl, TT_3 38 rfl rfl⟩
theorem gX2_38 : mGS TT RX2 38 yJ9_floorMod_7cf53 cJ9_floorMod_7cf53 3 (some .int) 2 := ⟨mJ9_floorMod_7cf53, TT_3 40 rfl rfl, TT_3 41 rfl rfl⟩
theorem gX7_138 : mG vwCl TT RX7 138 yX9_delayOf cX9_delayOf 2 (some .int) 1 9 := ⟨mX9_delayOf, ⟨TX9, 2, rfl⟩, TT_3 43 rfl rfl, TT_3 44 rfl rfl, TT_3 45 rfl rfl⟩
theorem gX9_22 : mGS TT RX9 22 yJ9_floorMod_7cf53 cJ9_floorMod_7cf53 3 (some .int) 2 := ⟨mJ9_floorMod_7cf53, TT_3 47 rfl rfl, TT_3 41 rfl rfl⟩
theorem gX7_144 : mG vwCl TT RX7 144 yX5_isAnswered cX5_isAnswered 3 (some .boolean) 2 5 := ⟨mX5_isAnswered, ⟨TX5, 7, rfl⟩, TT_3 48 rfl rfl, TT_3 49 rfl rfl, TT_3 50 rfl rfl⟩
theorem gX7_109 : mG vwCl TT RX7 109 yX7_fire cX7_fire 4 none 1 7 := ⟨mX7_fire, ⟨TX7, 12, rfl⟩, TT_3 52 rfl rfl, TT_3 54 rfl rfl, TT_p (q := (yX7_fire, 12)) 11 rfl rfl⟩
theorem gX7_175 : mG vwCl TT RX7 175 yX7_read cX7_read 4 none 2 7 := ⟨mX7_read, ⟨TX7, 12, rfl⟩, TT_3 56 rfl rfl, TT_3 58 rfl rfl, TT_p (q := (yX7_read, 12)) 12 rfl rfl⟩
theorem gX7_208 : mG vwCl TT RX7 208 yX7_valueFor cX7_valueFor 4 (some .int) 2 7 := ⟨mX7_valueFor, ⟨TX7, 12, rfl⟩, TT_3 60 rfl rfl, TT_3 62 rfl rfl, TT_p (q := (yX7_valueFor, 12)) 13 rfl rfl⟩
theorem gX7_217 : mG vwCl TT RX7 217 yX1_inRegister cX1_inRegister 2 (some .int) 1 1 := ⟨mX1_inRegister, ⟨TX1, 2, rfl⟩, TT_3 64 rfl rfl, TT_3 65 rfl rfl, TT_3 66 rfl rfl⟩
theorem gX7_220 : mG vwCl TT RX7 220 yX5_worth cX5_worth 1 (some .int) 0 5 := ⟨mX5_worth, ⟨TX5, 7, rfl⟩, TT_3 69 rfl rfl, TT_3 70 rfl rfl, TT_3 71 rfl rfl⟩
theorem gX7_211 : mG vwCl TT RX7 211 yX5_readLeft cX5_readLeft 2 none 1 5 := ⟨mX5_readLeft, ⟨TX5, 7, rfl⟩, TT_3 73 rfl rfl, TT_3 74 rfl rfl, TT_3 75 rfl rfl⟩
theorem gX7_214 : mG vwCl TT RX7 214 yX5_readRight cX5_readRight 2 none 1 5 := ⟨mX5_readRight, ⟨TX5, 7, rfl⟩, TT_3 77 rfl rfl, TT_3 78 rfl rfl, TT_3 79 rfl rfl⟩
theorem gX7_179 : mG vwCl TT RX7 179 yX5_workOut cX5_workOut 1 none 0 5 := ⟨mX5_workOut, ⟨TX5, 7, rfl⟩, TT_3 81 rfl rfl, TT_3 82 rfl rfl, TT_3 83 rfl rfl⟩
theorem gX5_33 : mG vwCl TT RX5 33 yX2_workedOut cX2_workedOut 3 (some .int) 2 2 := ⟨mX2_workedOut, ⟨TX2, 5, rfl⟩, TT_3 85 rfl rfl, TT_3 86 rfl rfl, TT_3 87 rfl rfl⟩
theorem gX7_182 : mG vwCl TT RX7 182 yX5_goesOn cX5_goesOn 1 (some .boolean) 0 5 := ⟨mX5_goesOn, ⟨TX5, 7, rfl⟩, TT_3 89 rfl rfl, TT_3 90 rfl rfl, TT_3 91 rfl rfl⟩
theorem gX5_39 : mG vwCl TT RX5 39 yX2_goesOn cX2_goesOn 3 (some .boolean) 2 2 := ⟨mX2_goesOn, ⟨TX2, 5, rfl⟩, TT_3 93 rfl rfl, TT_3 94 rfl rfl, TT_3 95 rfl rfl⟩
theorem gX7_185 : mG vwCl TT RX7 185 yX2_goal cX2_goal 1 (some .int) 0 2 := ⟨mX2_goal, ⟨TX2, 5, rfl⟩, TT_3 97 rfl rfl, TT_3 98 rfl rfl, TT_3 99 rfl rfl⟩
theorem gX7_188 : mG vwCl TT RX7 188 yX1_atPlace cX1_atPlace 2 (some .int) 1 1 := ⟨mX1_atPlace, ⟨TX1, 2, rfl⟩, TT_3 101 rfl rfl, TT_3 102 rfl rfl, TT_3 103 rfl rfl⟩
theorem gX7_191 : mG vwCl TT RX7 191 yX5_ask cX5_ask 3 none 2 5 := ⟨mX5_ask, ⟨TX5, 7, rfl⟩, TT_3 106 rfl rfl, TT_3 107 rfl rfl, TT_3 108 rfl rfl⟩
theorem gX7_195 : mG vwCl TT RX7 195 yX3_givingStage cX3_givingStage 3 (some .int) 1 3 := ⟨mX3_givingStage, ⟨TX3, 2, rfl⟩, TT_3 110 rfl rfl, TT_3 111 rfl rfl, TT_3 112 rfl rfl⟩
theorem gX3_29 : mGS TT RX3 29 yJ9_max_7cf53 cJ9_max_7cf53 2 (some .int) 2 := ⟨mJ9_max_7cf53, TT_3 114 rfl rfl, TT_3 115 rfl rfl⟩
theorem gX7_198 : mG vwCl TT RX7 198 yX5_give cX5_give 2 none 1 5 := ⟨mX5_give, ⟨TX5, 7, rfl⟩, TT_3 117 rfl rfl, TT_3 118 rfl rfl, TT_3 119 rfl rfl⟩
theorem gX7_201 : mG vwCl TT RX7 201 yX7_finish cX7_finish 4 none 1 7 := ⟨mX7_finish, ⟨TX7, 12, rfl⟩, TT_3 121 rfl rfl, TT_3 123 rfl rfl, TT_p (q := (yX7_finish, 12)) 14 rfl rfl⟩
theorem gX7_226 : mG vwCl TT RX7 226 yX2_commitsAnything cX2_commitsAnything 1 (some .boolean) 0 2 := ⟨mX2_commitsAnything, ⟨TX2, 5, rfl⟩, TT_3 125 rfl rfl, TT_3 126 rfl rfl, TT_3 127 rfl rfl⟩
theorem gX7_229 : mG vwCl TT RX7 229 yX5_commitsWhere cX5_commitsWhere 1 (some .int) 0 5 := ⟨mX5_commitsWhere, ⟨TX5, 7, rfl⟩, TT_3 129 rfl rfl, TT_3 130 rfl rfl, TT_3 131 rfl rfl⟩
theorem gX5_47 : mG vwCl TT RX5 47 yX2_commitsWhere cX2_commitsWhere 2 (some .int) 1 2 := ⟨mX2_commitsWhere, ⟨TX2, 5, rfl⟩, TT_3 133 rfl rfl, TT_3 134 rfl rfl, TT_3 135 rfl rfl⟩
theorem gX2_34 : mG vwCl TT RX2 34 yX2_placeFrom cX2_placeFrom 2 (some .int) 1 2 := ⟨mX2_placeFrom, ⟨TX2, 5, rfl⟩, TT_3 137 rfl rfl, TT_3 37 rfl rfl, TT_3 38 rfl rfl⟩
theorem gX7_232 : mG vwCl TT RX7 232 yX1_take cX1_take 4 none 3 1 := ⟨mX1_take, ⟨TX1, 2, rfl⟩, TT_3 138 rfl rfl, TT_3 139 rfl rfl, TT_3 140 rfl rfl⟩
theorem gX1_36 : mG vwCl TT RX1 36 yX2_commitsRegister cX2_commitsRegister 1 (some .boolean) 0 2 := ⟨mX2_commitsRegister, ⟨TX2, 5, rfl⟩, TT_3 142 rfl rfl, TT_3 7 rfl rfl, TT_3 8 rfl rfl⟩
theorem gX1_42 : mG vwCl TT RX1 42 yX2_kind cX2_kind 1 (some .int) 0 2 := ⟨mX2_kind, ⟨TX2, 5, rfl⟩, TT_3 143 rfl rfl, TT_3 25 rfl rfl, TT_3 26 rfl rfl⟩
theorem gX7_236 : mG vwCl TT RX7 236 yX2_commitKind cX2_commitKind 1 (some .int) 0 2 := ⟨mX2_commitKind, ⟨TX2, 5, rfl⟩, TT_3 144 rfl rfl, TT_3 145 rfl rfl, TT_3 146 rfl rfl⟩
theorem gX7_239 : mG vwCl TT RX7 239 yX0_add cX0_add 6 none 4 0 := ⟨mX0_add, ⟨TX0, 3, rfl⟩, TT_3 148 rfl rfl, TT_3 149 rfl rfl, TT_3 150 rfl rfl⟩
theorem gX7_243 : mG vwCl TT RX7 243 yX2_commitsRegister cX2_commitsRegister 1 (some .boolean) 0 2 := ⟨mX2_commitsRegister, ⟨TX2, 5, rfl⟩, TT_3 152 rfl rfl, TT_3 7 rfl rfl, TT_3 8 rfl rfl⟩
theorem gX7_205 : mG vwCl TT RX7 205 yX7_moveOn cX7_moveOn 3 none 1 7 := ⟨mX7_moveOn, ⟨TX7, 12, rfl⟩, TT_3 153 rfl rfl, TT_3 155 rfl rfl, TT_p (q := (yX7_moveOn, 12)) 15 rfl rfl⟩
theorem gX10_116 : mG vwCl TT RX10 116 yX7_reached cX7_reached 1 (some .int) 0 7 := ⟨mX7_reached, ⟨TX7, 12, rfl⟩, TT_3 157 rfl rfl, TT_3 158 rfl rfl, TT_3 159 rfl rfl⟩
theorem gL_42 : mG vwCl TT RL 42 yX10_cycle cX10_cycle 1 (some .int) 0 10 := ⟨mX10_cycle, ⟨TX10, 9, rfl⟩, TT_3 161 rfl rfl, TT_3 162 rfl rfl, TT_3 163 rfl rfl⟩
theorem gL_46 : mG vwCl TT RL 46 yX10_ended cX10_ended 1 (some .boolean) 0 10 := ⟨mX10_ended, ⟨TX10, 9, rfl⟩, TT_3 165 rfl rfl, TT_3 166 rfl rfl, TT_3 167 rfl rfl⟩
theorem gX10_119 : mG vwCl TT RX10 119 yX7_isEnded cX7_isEnded 1 (some .boolean) 0 7 := ⟨mX7_isEnded, ⟨TX7, 12, rfl⟩, TT_3 169 rfl rfl, TT_3 170 rfl rfl, TT_3 171 rfl rfl⟩
theorem gL_51 : mG vwCl TT RL 51 yX10_commits cX10_commits 1 (some .int) 0 10 := ⟨mX10_commits, ⟨TX10, 9, rfl⟩, TT_3 173 rfl rfl, TT_3 174 rfl rfl, TT_3 175 rfl rfl⟩
theorem gX10_122 : mG vwCl TT RX10 122 yX0_total cX0_total 1 (some .int) 0 0 := ⟨mX0_total, ⟨TX0, 3, rfl⟩, TT_3 177 rfl rfl, TT_3 178 rfl rfl, TT_3 179 rfl rfl⟩
theorem gL_55 : mG vwCl TT RL 55 yX10_commit cX10_commit 3 (some .int) 2 10 := ⟨mX10_commit, ⟨TX10, 9, rfl⟩, TT_3 181 rfl rfl, TT_3 182 rfl rfl, TT_3 183 rfl rfl⟩
theorem gX10_125 : mG vwCl TT RX10 125 yX0_part cX0_part 3 (some .int) 2 0 := ⟨mX0_part, ⟨TX0, 3, rfl⟩, TT_3 185 rfl rfl, TT_3 186 rfl rfl, TT_3 187 rfl rfl⟩
theorem gL_60 : mG vwCl TT RL 60 yX10_register cX10_register 2 (some .int) 1 10 := ⟨mX10_register, ⟨TX10, 9, rfl⟩, TT_3 189 rfl rfl, TT_3 190 rfl rfl, TT_3 191 rfl rfl⟩
theorem gX10_129 : mG vwCl TT RX10 129 yX7_holdings cX7_holdings 1 (some (.object "PipeForge$Holdings")) 0 7 := ⟨mX7_holdings, ⟨TX7, 12, rfl⟩, TT_3 193 rfl rfl, TT_3 194 rfl rfl, TT_3 195 rfl rfl⟩
theorem gX10_133 : mG vwCl TT RX10 133 yX1_inRegister cX1_inRegister 2 (some .int) 1 1 := ⟨mX1_inRegister, ⟨TX1, 2, rfl⟩, TT_3 197 rfl rfl, TT_3 65 rfl rfl, TT_3 66 rfl rfl⟩
theorem gL_64 : mG vwCl TT RL 64 yX10_place cX10_place 2 (some .int) 1 10 := ⟨mX10_place, ⟨TX10, 9, rfl⟩, TT_3 198 rfl rfl, TT_3 199 rfl rfl, TT_3 200 rfl rfl⟩
theorem gX10_139 : mG vwCl TT RX10 139 yX1_atPlace cX1_atPlace 2 (some .int) 1 1 := ⟨mX1_atPlace, ⟨TX1, 2, rfl⟩, TT_3 202 rfl rfl, TT_3 102 rfl rfl, TT_3 103 rfl rfl⟩
theorem gL_68 : mG vwCl TT RL 68 yX10_retired cX10_retired 1 (some .int) 0 10 := ⟨mX10_retired, ⟨TX10, 9, rfl⟩, TT_3 203 rfl rfl, TT_3 204 rfl rfl, TT_3 205 rfl rfl⟩
theorem gX10_142 : mG vwCl TT RX10 142 yX7_gone cX7_gone 1 (some .int) 0 7 := ⟨mX7_gone, ⟨TX7, 12, rfl⟩, TT_3 207 rfl rfl, TT_3 208 rfl rfl, TT_3 209 rfl rfl⟩
theorem gL_72 : mG vwCl TT RL 72 yX10_faithful cX10_faithful 1 (some .boolean) 0 10 := ⟨mX10_faithful, ⟨TX10, 9, rfl⟩, TT_3 211 rfl rfl, TT_3 212 rfl rfl, TT_3 213 rfl rfl⟩
theorem gX10_145 : mG vwCl TT RX10 145 yX6_agreesWith cX6_agreesWith 8 (some .boolean) 1 6 := ⟨mX6_agreesWith, ⟨TX6, 3, rfl⟩, TT_3 215 rfl rfl, TT_3 216 rfl rfl, TT_3 217 rfl rfl⟩
theorem gX6_26 : mG vwCl TT RX6 26 yX1_reset cX1_reset 2 none 1 1 := ⟨mX1_reset, ⟨TX1, 2, rfl⟩, TT_3 219 rfl rfl, TT_2 124 rfl rfl, TT_2 125 rfl rfl⟩
theorem gX6_31 : mG vwCl TT RX6 31 yX0_size cX0_size 1 (some .int) 0 0 := ⟨mX0_size, ⟨TX0, 3, rfl⟩, TT_3 221 rfl rfl, TT_3 222 rfl rfl, TT_3 223 rfl rfl⟩
theorem gX6_37 : mG vwCl TT RX6 37 yX8_at cX8_at 2 (some (.object "PipeForge$Instruction")) 1 8 := ⟨mX8_at, ⟨TX8, 3, rfl⟩, TT_3 225 rfl rfl, TT_1 152 rfl rfl, TT_1 153 rfl rfl⟩
theorem gX6_43 : mG vwCl TT RX6 43 yX2_kind cX2_kind 1 (some .int) 0 2 := ⟨mX2_kind, ⟨TX2, 5, rfl⟩, TT_3 226 rfl rfl, TT_3 25 rfl rfl, TT_3 26 rfl rfl⟩
theorem gX6_48 : mG vwCl TT RX6 48 yX2_left cX2_left 1 (some .int) 0 2 := ⟨mX2_left, ⟨TX2, 5, rfl⟩, TT_3 227 rfl rfl, TT_2 231 rfl rfl, TT_2 232 rfl rfl⟩
theorem gX6_51 : mG vwCl TT RX6 51 yX1_inRegister cX1_inRegister 2 (some .int) 1 1 := ⟨mX1_inRegister, ⟨TX1, 2, rfl⟩, TT_3 228 rfl rfl, TT_3 65 rfl rfl, TT_3 66 rfl rfl⟩
theorem gX6_55 : mG vwCl TT RX6 55 yX2_right cX2_right 1 (some .int) 0 2 := ⟨mX2_right, ⟨TX2, 5, rfl⟩, TT_3 229 rfl rfl, TT_3 21 rfl rfl, TT_3 22 rfl rfl⟩
theorem gX6_58 : mG vwCl TT RX6 58 yX2_commitsAnything cX2_commitsAnything 1 (some .boolean) 0 2 := ⟨mX2_commitsAnything, ⟨TX2, 5, rfl⟩, TT_3 230 rfl rfl, TT_3 126 rfl rfl, TT_3 127 rfl rfl⟩
theorem gX6_62 : mG vwCl TT RX6 62 yX6_commitsAs cX6_commitsAs 8 (some .boolean) 5 6 := ⟨mX6_commitsAs, ⟨TX6, 3, rfl⟩, TT_3 231 rfl rfl, TT_3 233 rfl rfl, TT_p (q := (yX6_commitsAs, 3)) 16 rfl rfl⟩
theorem gX6_73 : mG vwCl TT RX6 73 yX2_commitsWhere cX2_commitsWhere 2 (some .int) 1 2 := ⟨mX2_commitsWhere, ⟨TX2, 5, rfl⟩, TT_3 235 rfl rfl, TT_3 134 rfl rfl, TT_3 135 rfl rfl⟩
theorem gX6_76 : mG vwCl TT RX6 76 yX2_placeFrom cX2_placeFrom 2 (some .int) 1 2 := ⟨mX2_placeFrom, ⟨TX2, 5, rfl⟩, TT_3 236 rfl rfl, TT_3 37 rfl rfl, TT_3 38 rfl rfl⟩
theorem gX6_79 : mG vwCl TT RX6 79 yX1_atPlace cX1_atPlace 2 (some .int) 1 1 := ⟨mX1_atPlace, ⟨TX1, 2, rfl⟩, TT_3 237 rfl rfl, TT_3 102 rfl rfl, TT_3 103 rfl rfl⟩
theorem gX6_82 : mG vwCl TT RX6 82 yX2_workedOut cX2_workedOut 3 (some .int) 2 2 := ⟨mX2_workedOut, ⟨TX2, 5, rfl⟩, TT_3 238 rfl rfl, TT_3 86 rfl rfl, TT_3 87 rfl rfl⟩
theorem gX6_86 : mG vwCl TT RX6 86 yX1_take cX1_take 4 none 3 1 := ⟨mX1_take, ⟨TX1, 2, rfl⟩, TT_3 239 rfl rfl, TT_3 139 rfl rfl, TT_3 140 rfl rfl⟩
theorem gX6_90 : mG vwCl TT RX6 90 yX2_commitKind cX2_commitKind 1 (some .int) 0 2 := ⟨mX2_commitKind, ⟨TX2, 5, rfl⟩, TT_4 0 rfl rfl, TT_3 145 rfl rfl, TT_3 146 rfl rfl⟩
theorem gX6_93 : mG vwCl TT RX6 93 yX0_holds cX0_holds 6 (some .boolean) 4 0 := ⟨mX0_holds, ⟨TX0, 3, rfl⟩, TT_4 1 rfl rfl, TT_4 2 rfl rfl, TT_4 3 rfl rfl⟩
theorem gX6_66 : mG vwCl TT RX6 66 yX2_goesOn cX2_goesOn 3 (some .boolean) 2 2 := ⟨mX2_goesOn, ⟨TX2, 5, rfl⟩, TT_4 5 rfl rfl, TT_3 94 rfl rfl, TT_3 95 rfl rfl⟩
theorem gX6_70 : mG vwCl TT RX6 70 yX2_goal cX2_goal 1 (some .int) 0 2 := ⟨mX2_goal, ⟨TX2, 5, rfl⟩, TT_4 6 rfl rfl, TT_3 98 rfl rfl, TT_3 99 rfl rfl⟩
theorem gL_76 : mG vwCl TT RL 76 yX10_told cX10_told 2 (some .int) 1 10 := ⟨mX10_told, ⟨TX10, 9, rfl⟩, TT_4 7 rfl rfl, TT_4 8 rfl rfl, TT_4 9 rfl rfl⟩
theorem gX10_149 : mG vwCl TT RX10 149 yX8_size cX8_size 1 (some .int) 0 8 := ⟨mX8_size, ⟨TX8, 3, rfl⟩, TT_4 11 rfl rfl, TT_4 12 rfl rfl, TT_4 13 rfl rfl⟩
theorem gX10_152 : mG vwCl TT RX10 152 yX3_stageOf cX3_stageOf 2 (some .int) 1 3 := ⟨mX3_stageOf, ⟨TX3, 2, rfl⟩, TT_4 15 rfl rfl, TT_2 215 rfl rfl, TT_2 216 rfl rfl⟩
theorem kL_12 : Cond.methodLink RL 12 yX11_init ∈ TT := TT_4 18 rfl rfl
theorem koX11_1 : Cond.methodLink RX11 1 Lib.objectInit ∈ TT := TT_4 21 rfl rfl
theorem gX11_96 : mG vwCl TT RX11 96 yX11_anew cX11_anew 2 none 0 11 := ⟨mX11_anew, ⟨TX11, 36, rfl⟩, TT_4 22 rfl rfl, TT_4 24 rfl rfl, TT_p (q := (yX11_anew, 36)) 17 rfl rfl⟩
theorem gL_17 : mG vwCl TT RL 17 yX11_unit cX11_unit 2 (some .boolean) 1 11 := ⟨mX11_unit, ⟨TX11, 36, rfl⟩, TT_4 136 rfl rfl, TT_4 137 rfl rfl, TT_4 138 rfl rfl⟩
theorem gX11_115 : mGS TT RX11 115 yX11_isIn cX11_isIn 3 (some .boolean) 3 := ⟨mX11_isIn, TT_4 140 rfl rfl, TT_4 141 rfl rfl⟩
theorem gL_22 : mG vwCl TT RL 22 yX11_line cX11_line 8 (some .int) 0 11 := ⟨mX11_line, ⟨TX11, 36, rfl⟩, TT_4 143 rfl rfl, TT_4 144 rfl rfl, TT_4 145 rfl rfl⟩
theorem gX11_122 : mGS TT RX11 122 yX11_actionOf cX11_actionOf 1 (some .int) 1 := ⟨mX11_actionOf, TT_4 147 rfl rfl, TT_4 148 rfl rfl⟩
theorem gL_27 : mG vwCl TT RL 27 yX11_code cX11_code 6 (some .int) 5 11 := ⟨mX11_code, ⟨TX11, 36, rfl⟩, TT_4 150 rfl rfl, TT_4 151 rfl rfl, TT_4 152 rfl rfl⟩
theorem gL_32 : mG vwCl TT RL 32 yX11_memory cX11_memory 3 (some .boolean) 2 11 := ⟨mX11_memory, ⟨TX11, 36, rfl⟩, TT_4 154 rfl rfl, TT_4 155 rfl rfl, TT_4 156 rfl rfl⟩
theorem gL_36 : mG vwCl TT RL 36 yX11_latency cX11_latency 3 (some .boolean) 2 11 := ⟨mX11_latency, ⟨TX11, 36, rfl⟩, TT_4 158 rfl rfl, TT_4 159 rfl rfl, TT_4 160 rfl rfl⟩
theorem gL_41 : mG vwCl TT RL 41 yX11_run cX11_run 3 (some .int) 1 11 := ⟨mX11_run, ⟨TX11, 36, rfl⟩, TT_4 162 rfl rfl, TT_4 163 rfl rfl, TT_4 164 rfl rfl⟩
theorem gX11_179 : mG vwCl TT RX11 179 yX11_oneCycle cX11_oneCycle 2 none 0 11 := ⟨mX11_oneCycle, ⟨TX11, 36, rfl⟩, TT_4 166 rfl rfl, TT_4 168 rfl rfl, TT_p (q := (yX11_oneCycle, 36)) 18 rfl rfl⟩
theorem gX11_172 : mG vwCl TT RX11 172 yX11_fires cX11_fires 4 (some .boolean) 1 11 := ⟨mX11_fires, ⟨TX11, 36, rfl⟩, TT_4 170 rfl rfl, TT_4 172 rfl rfl, TT_p (q := (yX11_fires, 36)) 19 rfl rfl⟩
theorem gX11_129 : mG vwCl TT RX11 129 yX11_kindOf cX11_kindOf 2 (some .int) 1 11 := ⟨mX11_kindOf, ⟨TX11, 36, rfl⟩, TT_4 174 rfl rfl, TT_4 176 rfl rfl, TT_p (q := (yX11_kindOf, 36)) 20 rfl rfl⟩
theorem gX11_143 : mGS TT RX11 143 yX11_readsOne cX11_readsOne 1 (some .boolean) 1 := ⟨mX11_readsOne, TT_4 178 rfl rfl, TT_4 179 rfl rfl⟩
theorem gX11_147 : mG vwCl TT RX11 147 yX11_isReady cX11_isReady 5 (some .boolean) 2 11 := ⟨mX11_isReady, ⟨TX11, 36, rfl⟩, TT_4 181 rfl rfl, TT_4 183 rfl rfl, TT_p (q := (yX11_isReady, 36)) 21 rfl rfl⟩
theorem gX11_136 : mG vwCl TT RX11 136 yX11_giver cX11_giver 4 (some .int) 2 11 := ⟨mX11_giver, ⟨TX11, 36, rfl⟩, TT_4 185 rfl rfl, TT_4 187 rfl rfl, TT_p (q := (yX11_giver, 36)) 22 rfl rfl⟩
theorem gX11_132 : mG vwCl TT RX11 132 yX11_commitsRegister cX11_commitsRegister 3 (some .boolean) 2 11 := ⟨mX11_commitsRegister, ⟨TX11, 36, rfl⟩, TT_4 189 rfl rfl, TT_4 191 rfl rfl, TT_p (q := (yX11_commitsRegister, 36)) 23 rfl rfl⟩
theorem gX11_150 : mGS TT RX11 150 yX11_readsTwo cX11_readsTwo 1 (some .boolean) 1 := ⟨mX11_readsTwo, TT_4 193 rfl rfl, TT_4 194 rfl rfl⟩
theorem gX11_153 : mG vwCl TT RX11 153 yX11_hasOlderStore cX11_hasOlderStore 4 (some .boolean) 1 11 := ⟨mX11_hasOlderStore, ⟨TX11, 36, rfl⟩, TT_4 196 rfl rfl, TT_4 198 rfl rfl, TT_p (q := (yX11_hasOlderStore, 36)) 24 rfl rfl⟩
theorem gX11_156 : mG vwCl TT RX11 156 yX11_placeOf cX11_placeOf 2 (some .int) 1 11 := ⟨mX11_placeOf, ⟨TX11, 36, rfl⟩, TT_4 200 rfl rfl, TT_4 202 rfl rfl, TT_p (q := (yX11_placeOf, 36)) 25 rfl rfl⟩
theorem gX11_175 : mG vwCl TT RX11 175 yX11_fire cX11_fire 5 none 1 11 := ⟨mX11_fire, ⟨TX11, 36, rfl⟩, TT_4 204 rfl rfl, TT_4 206 rfl rfl, TT_p (q := (yX11_fire, 36)) 26 rfl rfl⟩
theorem gX11_163 : mG vwCl TT RX11 163 yX11_read cX11_read 4 (some .int) 2 11 := ⟨mX11_read, ⟨TX11, 36, rfl⟩, TT_4 208 rfl rfl, TT_4 210 rfl rfl, TT_p (q := (yX11_read, 36)) 27 rfl rfl⟩
theorem gX11_166 : mG vwCl TT RX11 166 yX11_workOut cX11_workOut 6 none 3 11 := ⟨mX11_workOut, ⟨TX11, 36, rfl⟩, TT_4 212 rfl rfl, TT_4 214 rfl rfl, TT_p (q := (yX11_workOut, 36)) 28 rfl rfl⟩
theorem gX11_169 : mG vwCl TT RX11 169 yX11_commitAll cX11_commitAll 4 none 3 11 := ⟨mX11_commitAll, ⟨TX11, 36, rfl⟩, TT_4 216 rfl rfl, TT_4 218 rfl rfl, TT_p (q := (yX11_commitAll, 36)) 29 rfl rfl⟩
theorem gX11_159 : mG vwCl TT RX11 159 yX11_commitOne cX11_commitOne 4 none 3 11 := ⟨mX11_commitOne, ⟨TX11, 36, rfl⟩, TT_4 220 rfl rfl, TT_4 222 rfl rfl, TT_p (q := (yX11_commitOne, 36)) 30 rfl rfl⟩
theorem gL_45 : mG vwCl TT RL 45 yX11_cycle cX11_cycle 1 (some .int) 0 11 := ⟨mX11_cycle, ⟨TX11, 36, rfl⟩, TT_4 224 rfl rfl, TT_4 225 rfl rfl, TT_4 226 rfl rfl⟩
theorem gL_50 : mG vwCl TT RL 50 yX11_ended cX11_ended 1 (some .boolean) 0 11 := ⟨mX11_ended, ⟨TX11, 36, rfl⟩, TT_4 228 rfl rfl, TT_4 229 rfl rfl, TT_4 230 rfl rfl⟩
theorem gL_54 : mG vwCl TT RL 54 yX11_commits cX11_commits 1 (some .int) 0 11 := ⟨mX11_commits, ⟨TX11, 36, rfl⟩, TT_4 232 rfl rfl, TT_4 233 rfl rfl, TT_4 234 rfl rfl⟩
theorem gL_59 : mG vwCl TT RL 59 yX11_commit cX11_commit 3 (some .int) 2 11 := ⟨mX11_commit, ⟨TX11, 36, rfl⟩, TT_4 236 rfl rfl, TT_4 237 rfl rfl, TT_4 238 rfl rfl⟩
theorem gL_63 : mG vwCl TT RL 63 yX11_register cX11_register 2 (some .int) 1 11 := ⟨mX11_register, ⟨TX11, 36, rfl⟩, TT_5 0 rfl rfl, TT_5 1 rfl rfl, TT_5 2 rfl rfl⟩
theorem gL_67 : mG vwCl TT RL 67 yX11_place cX11_place 2 (some .int) 1 11 := ⟨mX11_place, ⟨TX11, 36, rfl⟩, TT_5 4 rfl rfl, TT_5 5 rfl rfl, TT_5 6 rfl rfl⟩
theorem gL_71 : mG vwCl TT RL 71 yX11_retired cX11_retired 1 (some .int) 0 11 := ⟨mX11_retired, ⟨TX11, 36, rfl⟩, TT_5 8 rfl rfl, TT_5 9 rfl rfl, TT_5 10 rfl rfl⟩
theorem gL_75 : mG vwCl TT RL 75 yX11_faithful cX11_faithful 12 (some .boolean) 0 11 := ⟨mX11_faithful, ⟨TX11, 36, rfl⟩, TT_5 12 rfl rfl, TT_5 13 rfl rfl, TT_5 14 rfl rfl⟩
theorem gL_79 : mG vwCl TT RL 79 yX11_told cX11_told 2 (some .int) 1 11 := ⟨mX11_told, ⟨TX11, 36, rfl⟩, TT_5 16 rfl rfl, TT_5 17 rfl rfl, TT_5 18 rfl rfl⟩
theorem kiX0_init : Cond.instanceMethod yX0_init ∈ TT := TT_1 116 rfl rfl
theorem kiX1_init : Cond.instanceMethod yX1_init ∈ TT := TT_1 138 rfl rfl
theorem kiX2_init : Cond.instanceMethod yX2_init ∈ TT := TT_1 71 rfl rfl
theorem kiX3_init : Cond.instanceMethod yX3_init ∈ TT := TT_1 51 rfl rfl
theorem kiX4_init : Cond.instanceMethod yX4_init ∈ TT := TT_1 31 rfl rfl
theorem kiX5_init : Cond.instanceMethod yX5_init ∈ TT := TT_1 156 rfl rfl
theorem kiX6_init : Cond.instanceMethod yX6_init ∈ TT := TT_1 221 rfl rfl
theorem kiX7_init : Cond.instanceMethod yX7_init ∈ TT := TT_1 132 rfl rfl
theorem kiX8_init : Cond.instanceMethod yX8_init ∈ TT := TT_1 64 rfl rfl
theorem kiX9_init : Cond.instanceMethod yX9_init ∈ TT := TT_1 103 rfl rfl
theorem kiX10_init : Cond.instanceMethod yX10_init ∈ TT := TT_1 23 rfl rfl
theorem kiX11_init : Cond.instanceMethod yX11_init ∈ TT := TT_4 19 rfl rfl
theorem koC : Cond.code Lib.objectInit ⟨#[0xb1]⟩ 1 none ∈ TT := TT_1 27 rfl rfl
theorem koI : Cond.instanceMethod Lib.objectInit ∈ TT := TT_1 26 rfl rfl
theorem kaN : Cond.native arraycopyName ∈ TT := TT_2 110 rfl rfl
theorem kaS : Cond.static arraycopyName ∈ TT := TT_2 109 rfl rfl
theorem kaI : Cond.initialized "java/lang/System" ∈ TT := TT_1 18 rfl rfl
theorem kAI : Cond.arrayClass .int ∈ TT := TT_1 47 rfl rfl
theorem kAZ : Cond.arrayClass .boolean ∈ TT := TT_4 135 rfl rfl
theorem klL_7 : Cond.classLink RL 7 RX10 ∈ TT := TT_1 20 rfl rfl
theorem klX10_13 : Cond.classLink RX10 13 RX4 ∈ TT := TT_1 28 rfl rfl
theorem klX10_20 : Cond.classLink RX10 20 RX3 ∈ TT := TT_1 48 rfl rfl
theorem klX10_27 : Cond.classLink RX10 27 RX8 ∈ TT := TT_1 61 rfl rfl
theorem klX8_9 : Cond.classLink RX8 9 RX2 ∈ TT := TT_1 67 rfl rfl
theorem klX10_34 : Cond.classLink RX10 34 RX9 ∈ TT := TT_1 100 rfl rfl
theorem klX10_41 : Cond.classLink RX10 41 RX0 ∈ TT := TT_1 113 rfl rfl
theorem klX10_48 : Cond.classLink RX10 48 RX7 ∈ TT := TT_1 129 rfl rfl
theorem klX7_9 : Cond.classLink RX7 9 RX1 ∈ TT := TT_1 135 rfl rfl
theorem klX7_18 : Cond.classLink RX7 18 RX5 ∈ TT := TT_1 148 rfl rfl
theorem klX10_57 : Cond.classLink RX10 57 RX6 ∈ TT := TT_1 218 rfl rfl
theorem klX6_9 : Cond.classLink RX6 9 RX1 ∈ TT := TT_1 224 rfl rfl
theorem klX10_93 : Cond.classLink RX10 93 RX2 ∈ TT := TT_2 154 rfl rfl
theorem klL_10 : Cond.classLink RL 10 RX11 ∈ TT := TT_4 16 rfl rfl
theorem knX10 : Cond.instantiable RX10 9 ∈ TT := TT_1 21 rfl rfl
theorem knX4 : Cond.instantiable RX4 4 ∈ TT := TT_1 29 rfl rfl
theorem knX3 : Cond.instantiable RX3 2 ∈ TT := TT_1 49 rfl rfl
theorem knX8 : Cond.instantiable RX8 3 ∈ TT := TT_1 62 rfl rfl
theorem knX2 : Cond.instantiable RX2 5 ∈ TT := TT_1 69 rfl rfl
theorem knX9 : Cond.instantiable RX9 2 ∈ TT := TT_1 101 rfl rfl
theorem knX0 : Cond.instantiable RX0 3 ∈ TT := TT_1 114 rfl rfl
theorem knX7 : Cond.instantiable RX7 12 ∈ TT := TT_1 130 rfl rfl
theorem knX1 : Cond.instantiable RX1 2 ∈ TT := TT_1 136 rfl rfl
theorem knX5 : Cond.instantiable RX5 7 ∈ TT := TT_1 150 rfl rfl
theorem knX6 : Cond.instantiable RX6 3 ∈ TT := TT_1 219 rfl rfl
theorem knX11 : Cond.instantiable RX11 36 ∈ TT := TT_4 17 rfl rfl
theorem kzX0 : Cond.initialized RX0 ∈ TT := TT_1 7 rfl rfl
theorem kzX1 : Cond.initialized RX1 ∈ TT := TT_1 9 rfl rfl
theorem kzX2 : Cond.initialized RX2 ∈ TT := TT_1 5 rfl rfl
theorem kzX3 : Cond.initialized RX3 ∈ TT := TT_1 3 rfl rfl
theorem kzX4 : Cond.initialized RX4 ∈ TT := TT_1 2 rfl rfl
theorem kzX5 : Cond.initialized RX5 ∈ TT := TT_1 10 rfl rfl
theorem kzX6 : Cond.initialized RX6 ∈ TT := TT_1 11 rfl rfl
theorem kzX7 : Cond.initialized RX7 ∈ TT := TT_1 8 rfl rfl
theorem kzX8 : Cond.initialized RX8 ∈ TT := TT_1 4 rfl rfl
theorem kzX9 : Cond.initialized RX9 ∈ TT := TT_1 6 rfl rfl
theorem kzX10 : Cond.initialized RX10 ∈ TT := TT_1 1 rfl rfl
theorem kzX11 : Cond.initialized RX11 ∈ TT := TT_1 12 rfl rfl
theorem kzJ9 : Cond.initialized RJ9 ∈ TT := TT_1 19 rfl rfl
theorem kzJ0 : Cond.initialized RJ0 ∈ TT := TT_1 14 rfl rfl
theorem kzJ1 : Cond.initialized RJ1 ∈ TT := TT_1 15 rfl rfl
theorem kzJ2 : Cond.initialized RJ2 ∈ TT := TT_1 17 rfl rfl
theorem kzJ10 : Cond.initialized RJ10 ∈ TT := TT_1 18 rfl rfl
theorem kzJ7 : Cond.initialized RJ7 ∈ TT := TT_1 13 rfl rfl
theorem kzJ3 : Cond.initialized RJ3 ∈ TT := TT_1 16 rfl rfl
def nests : List (String × Nat × MethodName × String) := [(RX10, 15, yX4_init, "PipeForge"), (RX10, 22, yX3_init, "PipeForge"), (RX10, 36, yX9_init, "PipeForge"), (RX10, 43, yX0_init, "PipeForge"), (RX7, 11, yX1_init, "PipeForge"), (RX6, 11, yX1_init, "PipeForge"), (RX9, 18, yX10_isPlace, "PipeForge"), (RX7, 169, yX10_isRegister, "PipeForge"), (RX1, 29, yX10_isRegister, "PipeForge"), (RX1, 33, yX10_isPlace, "PipeForge")]
def NN (U : State) : Prop := (∀ q ∈ nests, va_Nw (.methodLinkNest q.1 q.2.1 q.2.2.1 q.2.2.2) U) ∧ va_AO RX2 U ∧ va_AO RX5 U
theorem NN_w (u U : State) (hW : u.WarmedH U.vm) (h : NN u) : NN U := ⟨fun q hq => va_Nw.warmM hW (h.1 q hq), h.2.1.moved hW.alike, h.2.2.moved hW.alike⟩
theorem kNX10_15 (U : State) (h : NN U) : va_Nw (.methodLinkNest RX10 15 yX4_init "PipeForge") U := h.1 (RX10, 15, yX4_init, "PipeForge") (List.mem_of_getElem? (i := 0) rfl)
theorem kNX10_22 (U : State) (h : NN U) : va_Nw (.methodLinkNest RX10 22 yX3_init "PipeForge") U := h.1 (RX10, 22, yX3_init, "PipeForge") (List.mem_of_getElem? (i := 1) rfl)
theorem kNX10_36 (U : State) (h : NN U) : va_Nw (.methodLinkNest RX10 36 yX9_init "PipeForge") U := h.1 (RX10, 36, yX9_init, "PipeForge") (List.mem_of_getElem? (i := 2) rfl)
theorem kNX10_43 (U : State) (h : NN U) : va_Nw (.methodLinkNest RX10 43 yX0_init "PipeForge") U := h.1 (RX10, 43, yX0_init, "PipeForge") (List.mem_of_getElem? (i := 3) rfl)
theorem kNX7_11 (U : State) (h : NN U) : va_Nw (.methodLinkNest RX7 11 yX1_init "PipeForge") U := h.1 (RX7, 11, yX1_init, "PipeForge") (List.mem_of_getElem? (i := 4) rfl)
theorem kNX6_11 (U : State) (h : NN U) : va_Nw (.methodLinkNest RX6 11 yX1_init "PipeForge") U := h.1 (RX6, 11, yX1_init, "PipeForge") (List.mem_of_getElem? (i := 5) rfl)
theorem gX9_18 : mGN TT NN RX9 18 yX10_isPlace "PipeForge" cX10_isPlace 1 (some .boolean) 1 := ⟨mX10_isPlace, fun U h => h.1 (RX9, 18, yX10_isPlace, "PipeForge") (List.mem_of_getElem? (i := 6) rfl), TT_2 166 rfl rfl⟩
theorem gX7_169 : mGN TT NN RX7 169 yX10_isRegister "PipeForge" cX10_isRegister 1 (some .boolean) 1 := ⟨mX10_isRegister, fun U h => h.1 (RX7, 169, yX10_isRegister, "PipeForge") (List.mem_of_getElem? (i := 7) rfl), TT_2 152 rfl rfl⟩
theorem gX1_29 : mGN TT NN RX1 29 yX10_isRegister "PipeForge" cX10_isRegister 1 (some .boolean) 1 := ⟨mX10_isRegister, fun U h => h.1 (RX1, 29, yX10_isRegister, "PipeForge") (List.mem_of_getElem? (i := 8) rfl), TT_2 152 rfl rfl⟩
theorem gX1_33 : mGN TT NN RX1 33 yX10_isPlace "PipeForge" cX10_isPlace 1 (some .boolean) 1 := ⟨mX10_isPlace, fun U h => h.1 (RX1, 33, yX10_isPlace, "PipeForge") (List.mem_of_getElem? (i := 9) rfl), TT_2 166 rfl rfl⟩
end
section
theorem dX0_init_0 : decode cX0_init 0 = .ok (.aload_n 0, 1) := by decide +kernel
theorem dX0_init_1 : decode cX0_init 1 = .ok (.invokespecial 3, 3) := by decide +kernel
theorem dX0_init_4 : decode cX0_init 4 = .ok (.aload_n 0, 1) := by decide +kernel
theorem dX0_init_5 : decode cX0_init 5 = .ok (.sipush 4000, 3) := by decide +kernel
theorem dX0_init_8 : decode cX0_init 8 = .ok (.newarray .int, 2) := by decide +kernel
theorem dX0_init_10 : decode cX0_init 10 = .ok (.putfield 11, 3) := by decide +kernel
theorem dX0_init_13 : decode cX0_init 13 = .ok (.return_, 1) := by decide +kernel
theorem dX0_clear_0 : decode cX0_clear 0 = .ok (.aload_n 0, 1) := by decide +kernel
theorem dX0_clear_1 : decode cX0_clear 1 = .ok (.iconst 0, 1) := by decide +kernel
theorem dX0_clear_2 : decode cX0_clear 2 = .ok (.putfield 15, 3) := by decide +kernel
theorem dX0_clear_5 : decode cX0_clear 5 = .ok (.aload_n 0, 1) := by decide +kernel
theorem dX0_clear_6 : decode cX0_clear 6 = .ok (.iconst 0, 1) := by decide +kernel
theorem dX0_clear_7 : decode cX0_clear 7 = .ok (.putfield 19, 3) := by decide +kernel
theorem dX0_clear_10 : decode cX0_clear 10 = .ok (.return_, 1) := by decide +kernel
theorem dX0_add_0 : decode cX0_add 0 = .ok (.aload_n 0, 1) := by decide +kernel
theorem dX0_add_1 : decode cX0_add 1 = .ok (.dup, 1) := by decide +kernel
theorem dX0_add_2 : decode cX0_add 2 = .ok (.getfield 19, 3) := by decide +kernel
theorem dX0_add_5 : decode cX0_add 5 = .ok (.iconst 1, 1) := by decide +kernel
theorem dX0_add_6 : decode cX0_add 6 = .ok (.iadd, 1) := by decide +kernel
theorem dX0_add_7 : decode cX0_add 7 = .ok (.putfield 19, 3) := by decide +kernel
theorem dX0_add_10 : decode cX0_add 10 = .ok (.aload_n 0, 1) := by decide +kernel
theorem dX0_add_11 : decode cX0_add 11 = .ok (.getfield 15, 3) := by decide +kernel
theorem dX0_add_14 : decode cX0_add 14 = .ok (.sipush 1000, 3) := by decide +kernel
theorem dX0_add_17 : decode cX0_add 17 = .ok (.if_icmp .lt 4, 3) := by decide +kernel
theorem dX0_add_20 : decode cX0_add 20 = .ok (.return_, 1) := by decide +kernel
theorem dX0_add_21 : decode cX0_add 21 = .ok (.aload_n 0, 1) := by decide +kernel
theorem dX0_add_22 : decode cX0_add 22 = .ok (.getfield 15, 3) := by decide +kernel
theorem dX0_add_25 : decode cX0_add 25 = .ok (.iconst 4, 1) := by decide +kernel
theorem dX0_add_26 : decode cX0_add 26 = .ok (.imul, 1) := by decide +kernel
theorem dX0_add_27 : decode cX0_add 27 = .ok (.istore 5, 2) := by decide +kernel
theorem dX0_add_29 : decode cX0_add 29 = .ok (.aload_n 0, 1) := by decide +kernel
theorem dX0_add_30 : decode cX0_add 30 = .ok (.getfield 11, 3) := by decide +kernel
theorem dX0_add_33 : decode cX0_add 33 = .ok (.iload 5, 2) := by decide +kernel
theorem dX0_add_35 : decode cX0_add 35 = .ok (.iload_n 1, 1) := by decide +kernel
theorem dX0_add_36 : decode cX0_add 36 = .ok (.iastore, 1) := by decide +kernel
theorem dX0_add_37 : decode cX0_add 37 = .ok (.aload_n 0, 1) := by decide +kernel
theorem dX0_add_38 : decode cX0_add 38 = .ok (.getfield 11, 3) := by decide +kernel
theorem dX0_add_41 : decode cX0_add 41 = .ok (.iload 5, 2) := by decide +kernel
theorem dX0_add_43 : decode cX0_add 43 = .ok (.iconst 1, 1) := by decide +kernel
theorem dX0_add_44 : decode cX0_add 44 = .ok (.iadd, 1) := by decide +kernel
theorem dX0_add_45 : decode cX0_add 45 = .ok (.iload_n 2, 1) := by decide +kernel
theorem dX0_add_46 : decode cX0_add 46 = .ok (.iastore, 1) := by decide +kernel
theorem dX0_add_47 : decode cX0_add 47 = .ok (.aload_n 0, 1) := by decide +kernel
theorem dX0_add_48 : decode cX0_add 48 = .ok (.getfield 11, 3) := by decide +kernel
theorem dX0_add_51 : decode cX0_add 51 = .ok (.iload 5, 2) := by decide +kernel
theorem dX0_add_53 : decode cX0_add 53 = .ok (.iconst 2, 1) := by decide +kernel
theorem dX0_add_54 : decode cX0_add 54 = .ok (.iadd, 1) := by decide +kernel
theorem dX0_add_55 : decode cX0_add 55 = .ok (.iload_n 3, 1) := by decide +kernel
theorem dX0_add_56 : decode cX0_add 56 = .ok (.iastore, 1) := by decide +kernel
theorem dX0_add_57 : decode cX0_add 57 = .ok (.aload_n 0, 1) := by decide +kernel
theorem dX0_add_58 : decode cX0_add 58 = .ok (.getfield 11, 3) := by decide +kernel
theorem dX0_add_61 : decode cX0_add 61 = .ok (.iload 5, 2) := by decide +kernel
theorem dX0_add_63 : decode cX0_add 63 = .ok (.iconst 3, 1) := by decide +kernel
theorem dX0_add_64 : decode cX0_add 64 = .ok (.iadd, 1) := by decide +kernel
theorem dX0_add_65 : decode cX0_add 65 = .ok (.iload 4, 2) := by decide +kernel
theorem dX0_add_67 : decode cX0_add 67 = .ok (.iastore, 1) := by decide +kernel
theorem dX0_add_68 : decode cX0_add 68 = .ok (.aload_n 0, 1) := by decide +kernel
theorem dX0_add_69 : decode cX0_add 69 = .ok (.dup, 1) := by decide +kernel
theorem dX0_add_70 : decode cX0_add 70 = .ok (.getfield 15, 3) := by decide +kernel
theorem dX0_add_73 : decode cX0_add 73 = .ok (.iconst 1, 1) := by decide +kernel
theorem dX0_add_74 : decode cX0_add 74 = .ok (.iadd, 1) := by decide +kernel
theorem dX0_add_75 : decode cX0_add 75 = .ok (.putfield 15, 3) := by decide +kernel
theorem dX0_add_78 : decode cX0_add 78 = .ok (.return_, 1) := by decide +kernel
theorem dX0_total_0 : decode cX0_total 0 = .ok (.aload_n 0, 1) := by decide +kernel
theorem dX0_total_1 : decode cX0_total 1 = .ok (.getfield 19, 3) := by decide +kernel
theorem dX0_total_4 : decode cX0_total 4 = .ok (.ireturn, 1) := by decide +kernel
theorem dX0_size_0 : decode cX0_size 0 = .ok (.aload_n 0, 1) := by decide +kernel
theorem dX0_size_1 : decode cX0_size 1 = .ok (.getfield 15, 3) := by decide +kernel
theorem dX0_size_4 : decode cX0_size 4 = .ok (.ireturn, 1) := by decide +kernel
theorem dX0_part_0 : decode cX0_part 0 = .ok (.iload_n 1, 1) := by decide +kernel
theorem dX0_part_1 : decode cX0_part 1 = .ok (.ifCond .lt 20, 3) := by decide +kernel
theorem dX0_part_4 : decode cX0_part 4 = .ok (.iload_n 1, 1) := by decide +kernel
theorem dX0_part_5 : decode cX0_part 5 = .ok (.aload_n 0, 1) := by decide +kernel
theorem dX0_part_6 : decode cX0_part 6 = .ok (.getfield 15, 3) := by decide +kernel
theorem dX0_part_9 : decode cX0_part 9 = .ok (.if_icmp .ge 12, 3) := by decide +kernel
theorem dX0_part_12 : decode cX0_part 12 = .ok (.iload_n 2, 1) := by decide +kernel
theorem dX0_part_13 : decode cX0_part 13 = .ok (.ifCond .lt 8, 3) := by decide +kernel
theorem dX0_part_16 : decode cX0_part 16 = .ok (.iload_n 2, 1) := by decide +kernel
theorem dX0_part_17 : decode cX0_part 17 = .ok (.iconst 4, 1) := by decide +kernel
theorem dX0_part_18 : decode cX0_part 18 = .ok (.if_icmp .lt 6, 3) := by decide +kernel
theorem dX0_part_21 : decode cX0_part 21 = .ok (.bipush (-2), 2) := by decide +kernel
theorem dX0_part_23 : decode cX0_part 23 = .ok (.ireturn, 1) := by decide +kernel
theorem dX0_part_24 : decode cX0_part 24 = .ok (.aload_n 0, 1) := by decide +kernel
theorem dX0_part_25 : decode cX0_part 25 = .ok (.getfield 11, 3) := by decide +kernel
theorem dX0_part_28 : decode cX0_part 28 = .ok (.iload_n 1, 1) := by decide +kernel
theorem dX0_part_29 : decode cX0_part 29 = .ok (.iconst 4, 1) := by decide +kernel
theorem dX0_part_30 : decode cX0_part 30 = .ok (.imul, 1) := by decide +kernel
theorem dX0_part_31 : decode cX0_part 31 = .ok (.iload_n 2, 1) := by decide +kernel
theorem dX0_part_32 : decode cX0_part 32 = .ok (.iadd, 1) := by decide +kernel
theorem dX0_part_33 : decode cX0_part 33 = .ok (.iaload, 1) := by decide +kernel
theorem dX0_part_34 : decode cX0_part 34 = .ok (.ireturn, 1) := by decide +kernel
theorem dX0_holds_0 : decode cX0_holds 0 = .ok (.iload_n 1, 1) := by decide +kernel
theorem dX0_holds_1 : decode cX0_holds 1 = .ok (.ifCond .lt 11, 3) := by decide +kernel
theorem dX0_holds_4 : decode cX0_holds 4 = .ok (.iload_n 1, 1) := by decide +kernel
theorem dX0_holds_5 : decode cX0_holds 5 = .ok (.aload_n 0, 1) := by decide +kernel
theorem dX0_holds_6 : decode cX0_holds 6 = .ok (.getfield 15, 3) := by decide +kernel
theorem dX0_holds_9 : decode cX0_holds 9 = .ok (.if_icmp .lt 5, 3) := by decide +kernel
theorem dX0_holds_12 : decode cX0_holds 12 = .ok (.iconst 0, 1) := by decide +kernel
theorem dX0_holds_13 : decode cX0_holds 13 = .ok (.ireturn, 1) := by decide +kernel
theorem dX0_holds_14 : decode cX0_holds 14 = .ok (.iload_n 1, 1) := by decide +kernel
theorem dX0_holds_15 : decode cX0_holds 15 = .ok (.iconst 4, 1) := by decide +kernel
theorem dX0_holds_16 : decode cX0_holds 16 = .ok (.imul, 1) := by decide +kernel
theorem dX0_holds_17 : decode cX0_holds 17 = .ok (.istore 5, 2) := by decide +kernel
theorem dX0_holds_19 : decode cX0_holds 19 = .ok (.aload_n 0, 1) := by decide +kernel
theorem dX0_holds_20 : decode cX0_holds 20 = .ok (.getfield 11, 3) := by decide +kernel
theorem dX0_holds_23 : decode cX0_holds 23 = .ok (.iload 5, 2) := by decide +kernel
theorem dX0_holds_25 : decode cX0_holds 25 = .ok (.iaload, 1) := by decide +kernel
theorem dX0_holds_26 : decode cX0_holds 26 = .ok (.iload_n 2, 1) := by decide +kernel
theorem dX0_holds_27 : decode cX0_holds 27 = .ok (.if_icmp .ne 34, 3) := by decide +kernel
theorem dX0_holds_30 : decode cX0_holds 30 = .ok (.aload_n 0, 1) := by decide +kernel
theorem dX0_holds_31 : decode cX0_holds 31 = .ok (.getfield 11, 3) := by decide +kernel
theorem dX0_holds_34 : decode cX0_holds 34 = .ok (.iload 5, 2) := by decide +kernel
theorem dX0_holds_36 : decode cX0_holds 36 = .ok (.iconst 1, 1) := by decide +kernel
theorem dX0_holds_37 : decode cX0_holds 37 = .ok (.iadd, 1) := by decide +kernel
theorem dX0_holds_38 : decode cX0_holds 38 = .ok (.iaload, 1) := by decide +kernel
theorem dX0_holds_39 : decode cX0_holds 39 = .ok (.iload_n 3, 1) := by decide +kernel
theorem dX0_holds_40 : decode cX0_holds 40 = .ok (.if_icmp .ne 21, 3) := by decide +kernel
theorem dX0_holds_43 : decode cX0_holds 43 = .ok (.aload_n 0, 1) := by decide +kernel
theorem dX0_holds_44 : decode cX0_holds 44 = .ok (.getfield 11, 3) := by decide +kernel
theorem dX0_holds_47 : decode cX0_holds 47 = .ok (.iload 5, 2) := by decide +kernel
theorem dX0_holds_49 : decode cX0_holds 49 = .ok (.iconst 2, 1) := by decide +kernel
theorem dX0_holds_50 : decode cX0_holds 50 = .ok (.iadd, 1) := by decide +kernel
theorem dX0_holds_51 : decode cX0_holds 51 = .ok (.iaload, 1) := by decide +kernel
theorem dX0_holds_52 : decode cX0_holds 52 = .ok (.iload 4, 2) := by decide +kernel
theorem dX0_holds_54 : decode cX0_holds 54 = .ok (.if_icmp .ne 7, 3) := by decide +kernel
theorem dX0_holds_57 : decode cX0_holds 57 = .ok (.iconst 1, 1) := by decide +kernel
theorem dX0_holds_58 : decode cX0_holds 58 = .ok (.goto 4, 3) := by decide +kernel
theorem dX0_holds_61 : decode cX0_holds 61 = .ok (.iconst 0, 1) := by decide +kernel
theorem dX0_holds_62 : decode cX0_holds 62 = .ok (.ireturn, 1) := by decide +kernel
theorem dX1_init_0 : decode cX1_init 0 = .ok (.aload_n 0, 1) := by decide +kernel
theorem dX1_init_1 : decode cX1_init 1 = .ok (.invokespecial 3, 3) := by decide +kernel
theorem dX1_init_4 : decode cX1_init 4 = .ok (.aload_n 0, 1) := by decide +kernel
theorem dX1_init_5 : decode cX1_init 5 = .ok (.bipush 8, 2) := by decide +kernel
theorem dX1_init_7 : decode cX1_init 7 = .ok (.newarray .int, 2) := by decide +kernel
theorem dX1_init_9 : decode cX1_init 9 = .ok (.putfield 9, 3) := by decide +kernel
theorem dX1_init_12 : decode cX1_init 12 = .ok (.aload_n 0, 1) := by decide +kernel
theorem dX1_init_13 : decode cX1_init 13 = .ok (.bipush 64, 2) := by decide +kernel
theorem dX1_init_15 : decode cX1_init 15 = .ok (.newarray .int, 2) := by decide +kernel
theorem dX1_init_17 : decode cX1_init 17 = .ok (.putfield 15, 3) := by decide +kernel
theorem dX1_init_20 : decode cX1_init 20 = .ok (.return_, 1) := by decide +kernel
theorem dX1_reset_0 : decode cX1_reset 0 = .ok (.aload_n 0, 1) := by decide +kernel
theorem dX1_reset_1 : decode cX1_reset 1 = .ok (.getfield 9, 3) := by decide +kernel
theorem dX1_reset_4 : decode cX1_reset 4 = .ok (.iconst 0, 1) := by decide +kernel
theorem dX1_reset_5 : decode cX1_reset 5 = .ok (.invokestatic 18, 3) := by decide +kernel
theorem dX1_reset_8 : decode cX1_reset 8 = .ok (.aload_n 1, 1) := by decide +kernel
theorem dX1_reset_9 : decode cX1_reset 9 = .ok (.aload_n 0, 1) := by decide +kernel
theorem dX1_reset_10 : decode cX1_reset 10 = .ok (.getfield 15, 3) := by decide +kernel
theorem dX1_reset_13 : decode cX1_reset 13 = .ok (.invokevirtual 24, 3) := by decide +kernel
theorem dX1_reset_16 : decode cX1_reset 16 = .ok (.return_, 1) := by decide +kernel
theorem dX1_inRegister_0 : decode cX1_inRegister 0 = .ok (.iload_n 1, 1) := by decide +kernel
theorem dX1_inRegister_1 : decode cX1_inRegister 1 = .ok (.invokestatic 29, 3) := by decide +kernel
theorem dX1_inRegister_4 : decode cX1_inRegister 4 = .ok (.ifCond .eq 12, 3) := by decide +kernel
theorem dX1_inRegister_7 : decode cX1_inRegister 7 = .ok (.aload_n 0, 1) := by decide +kernel
theorem dX1_inRegister_8 : decode cX1_inRegister 8 = .ok (.getfield 9, 3) := by decide +kernel
theorem dX1_inRegister_11 : decode cX1_inRegister 11 = .ok (.iload_n 1, 1) := by decide +kernel
theorem dX1_inRegister_12 : decode cX1_inRegister 12 = .ok (.iaload, 1) := by decide +kernel
theorem dX1_inRegister_13 : decode cX1_inRegister 13 = .ok (.goto 4, 3) := by decide +kernel
theorem dX1_inRegister_16 : decode cX1_inRegister 16 = .ok (.iconst (-1), 1) := by decide +kernel
theorem dX1_inRegister_17 : decode cX1_inRegister 17 = .ok (.ireturn, 1) := by decide +kernel
theorem dX1_atPlace_0 : decode cX1_atPlace 0 = .ok (.iload_n 1, 1) := by decide +kernel
theorem dX1_atPlace_1 : decode cX1_atPlace 1 = .ok (.invokestatic 33, 3) := by decide +kernel
theorem dX1_atPlace_4 : decode cX1_atPlace 4 = .ok (.ifCond .eq 12, 3) := by decide +kernel
theorem dX1_atPlace_7 : decode cX1_atPlace 7 = .ok (.aload_n 0, 1) := by decide +kernel
theorem dX1_atPlace_8 : decode cX1_atPlace 8 = .ok (.getfield 15, 3) := by decide +kernel
theorem dX1_atPlace_11 : decode cX1_atPlace 11 = .ok (.iload_n 1, 1) := by decide +kernel
theorem dX1_atPlace_12 : decode cX1_atPlace 12 = .ok (.iaload, 1) := by decide +kernel
theorem dX1_atPlace_13 : decode cX1_atPlace 13 = .ok (.goto 4, 3) := by decide +kernel
theorem dX1_atPlace_16 : decode cX1_atPlace 16 = .ok (.iconst (-1), 1) := by decide +kernel
theorem dX1_atPlace_17 : decode cX1_atPlace 17 = .ok (.ireturn, 1) := by decide +kernel
theorem dX1_take_0 : decode cX1_take 0 = .ok (.aload_n 1, 1) := by decide +kernel
theorem dX1_take_1 : decode cX1_take 1 = .ok (.invokevirtual 36, 3) := by decide +kernel
theorem dX1_take_4 : decode cX1_take 4 = .ok (.ifCond .eq 17, 3) := by decide +kernel
theorem dX1_take_7 : decode cX1_take 7 = .ok (.iload_n 2, 1) := by decide +kernel
theorem dX1_take_8 : decode cX1_take 8 = .ok (.invokestatic 29, 3) := by decide +kernel
theorem dX1_take_11 : decode cX1_take 11 = .ok (.ifCond .eq 10, 3) := by decide +kernel
theorem dX1_take_14 : decode cX1_take 14 = .ok (.aload_n 0, 1) := by decide +kernel
theorem dX1_take_15 : decode cX1_take 15 = .ok (.getfield 9, 3) := by decide +kernel
theorem dX1_take_18 : decode cX1_take 18 = .ok (.iload_n 2, 1) := by decide +kernel
theorem dX1_take_19 : decode cX1_take 19 = .ok (.iload_n 3, 1) := by decide +kernel
theorem dX1_take_20 : decode cX1_take 20 = .ok (.iastore, 1) := by decide +kernel
theorem dX1_take_21 : decode cX1_take 21 = .ok (.aload_n 1, 1) := by decide +kernel
theorem dX1_take_22 : decode cX1_take 22 = .ok (.invokevirtual 42, 3) := by decide +kernel
theorem dX1_take_25 : decode cX1_take 25 = .ok (.bipush 6, 2) := by decide +kernel
theorem dX1_take_27 : decode cX1_take 27 = .ok (.if_icmp .ne 17, 3) := by decide +kernel
theorem dX1_take_30 : decode cX1_take 30 = .ok (.iload_n 2, 1) := by decide +kernel
theorem dX1_take_31 : decode cX1_take 31 = .ok (.invokestatic 33, 3) := by decide +kernel
theorem dX1_take_34 : decode cX1_take 34 = .ok (.ifCond .eq 10, 3) := by decide +kernel
theorem dX1_take_37 : decode cX1_take 37 = .ok (.aload_n 0, 1) := by decide +kernel
theorem dX1_take_38 : decode cX1_take 38 = .ok (.getfield 15, 3) := by decide +kernel
theorem dX1_take_41 : decode cX1_take 41 = .ok (.iload_n 2, 1) := by decide +kernel
theorem dX1_take_42 : decode cX1_take 42 = .ok (.iload_n 3, 1) := by decide +kernel
theorem dX1_take_43 : decode cX1_take 43 = .ok (.iastore, 1) := by decide +kernel
theorem dX1_take_44 : decode cX1_take 44 = .ok (.return_, 1) := by decide +kernel
theorem dX2_init_0 : decode cX2_init 0 = .ok (.aload_n 0, 1) := by decide +kernel
theorem dX2_init_1 : decode cX2_init 1 = .ok (.invokespecial 3, 3) := by decide +kernel
theorem dX2_init_4 : decode cX2_init 4 = .ok (.aload_n 0, 1) := by decide +kernel
theorem dX2_init_5 : decode cX2_init 5 = .ok (.iload_n 1, 1) := by decide +kernel
theorem dX2_init_6 : decode cX2_init 6 = .ok (.putfield 9, 3) := by decide +kernel
theorem dX2_init_9 : decode cX2_init 9 = .ok (.aload_n 0, 1) := by decide +kernel
theorem dX2_init_10 : decode cX2_init 10 = .ok (.iload_n 2, 1) := by decide +kernel
theorem dX2_init_11 : decode cX2_init 11 = .ok (.putfield 15, 3) := by decide +kernel
theorem dX2_init_14 : decode cX2_init 14 = .ok (.aload_n 0, 1) := by decide +kernel
theorem dX2_init_15 : decode cX2_init 15 = .ok (.iload_n 3, 1) := by decide +kernel
theorem dX2_init_16 : decode cX2_init 16 = .ok (.putfield 18, 3) := by decide +kernel
theorem dX2_init_19 : decode cX2_init 19 = .ok (.aload_n 0, 1) := by decide +kernel
theorem dX2_init_20 : decode cX2_init 20 = .ok (.iload 4, 2) := by decide +kernel
theorem dX2_init_22 : decode cX2_init 22 = .ok (.putfield 21, 3) := by decide +kernel
theorem dX2_init_25 : decode cX2_init 25 = .ok (.aload_n 0, 1) := by decide +kernel
theorem dX2_init_26 : decode cX2_init 26 = .ok (.iload 5, 2) := by decide +kernel
theorem dX2_init_28 : decode cX2_init 28 = .ok (.putfield 24, 3) := by decide +kernel
theorem dX2_init_31 : decode cX2_init 31 = .ok (.return_, 1) := by decide +kernel
theorem dX2_kind_0 : decode cX2_kind 0 = .ok (.aload_n 0, 1) := by decide +kernel
theorem dX2_kind_1 : decode cX2_kind 1 = .ok (.getfield 9, 3) := by decide +kernel
theorem dX2_kind_4 : decode cX2_kind 4 = .ok (.ireturn, 1) := by decide +kernel
theorem dX2_left_0 : decode cX2_left 0 = .ok (.aload_n 0, 1) := by decide +kernel
theorem dX2_left_1 : decode cX2_left 1 = .ok (.getfield 18, 3) := by decide +kernel
theorem dX2_left_4 : decode cX2_left 4 = .ok (.ireturn, 1) := by decide +kernel
theorem dX2_right_0 : decode cX2_right 0 = .ok (.aload_n 0, 1) := by decide +kernel
theorem dX2_right_1 : decode cX2_right 1 = .ok (.getfield 21, 3) := by decide +kernel
theorem dX2_right_4 : decode cX2_right 4 = .ok (.ireturn, 1) := by decide +kernel
theorem dX2_goal_0 : decode cX2_goal 0 = .ok (.aload_n 0, 1) := by decide +kernel
theorem dX2_goal_1 : decode cX2_goal 1 = .ok (.getfield 24, 3) := by decide +kernel
theorem dX2_goal_4 : decode cX2_goal 4 = .ok (.ireturn, 1) := by decide +kernel
theorem dX2_readsLeft_0 : decode cX2_readsLeft 0 = .ok (.aload_n 0, 1) := by decide +kernel
theorem dX2_readsLeft_1 : decode cX2_readsLeft 1 = .ok (.getfield 9, 3) := by decide +kernel
theorem dX2_readsLeft_4 : decode cX2_readsLeft 4 = .ok (.iconst 2, 1) := by decide +kernel
theorem dX2_readsLeft_5 : decode cX2_readsLeft 5 = .ok (.if_icmp .lt 16, 3) := by decide +kernel
theorem dX2_readsLeft_8 : decode cX2_readsLeft 8 = .ok (.aload_n 0, 1) := by decide +kernel
theorem dX2_readsLeft_9 : decode cX2_readsLeft 9 = .ok (.getfield 9, 3) := by decide +kernel
theorem dX2_readsLeft_12 : decode cX2_readsLeft 12 = .ok (.bipush 8, 2) := by decide +kernel
theorem dX2_readsLeft_14 : decode cX2_readsLeft 14 = .ok (.if_icmp .gt 7, 3) := by decide +kernel
theorem dX2_readsLeft_17 : decode cX2_readsLeft 17 = .ok (.iconst 1, 1) := by decide +kernel
theorem dX2_readsLeft_18 : decode cX2_readsLeft 18 = .ok (.goto 4, 3) := by decide +kernel
theorem dX2_readsLeft_21 : decode cX2_readsLeft 21 = .ok (.iconst 0, 1) := by decide +kernel
theorem dX2_readsLeft_22 : decode cX2_readsLeft 22 = .ok (.ireturn, 1) := by decide +kernel
theorem dX2_readsRight_0 : decode cX2_readsRight 0 = .ok (.aload_n 0, 1) := by decide +kernel
theorem dX2_readsRight_1 : decode cX2_readsRight 1 = .ok (.invokevirtual 27, 3) := by decide +kernel
theorem dX2_readsRight_4 : decode cX2_readsRight 4 = .ok (.ifCond .eq 24, 3) := by decide +kernel
theorem dX2_readsRight_7 : decode cX2_readsRight 7 = .ok (.aload_n 0, 1) := by decide +kernel
theorem dX2_readsRight_8 : decode cX2_readsRight 8 = .ok (.getfield 9, 3) := by decide +kernel
theorem dX2_readsRight_11 : decode cX2_readsRight 11 = .ok (.iconst 5, 1) := by decide +kernel
theorem dX2_readsRight_12 : decode cX2_readsRight 12 = .ok (.if_icmp .eq 16, 3) := by decide +kernel
theorem dX2_readsRight_15 : decode cX2_readsRight 15 = .ok (.aload_n 0, 1) := by decide +kernel
theorem dX2_readsRight_16 : decode cX2_readsRight 16 = .ok (.getfield 9, 3) := by decide +kernel
theorem dX2_readsRight_19 : decode cX2_readsRight 19 = .ok (.bipush 8, 2) := by decide +kernel
theorem dX2_readsRight_21 : decode cX2_readsRight 21 = .ok (.if_icmp .eq 7, 3) := by decide +kernel
theorem dX2_readsRight_24 : decode cX2_readsRight 24 = .ok (.iconst 1, 1) := by decide +kernel
theorem dX2_readsRight_25 : decode cX2_readsRight 25 = .ok (.goto 4, 3) := by decide +kernel
theorem dX2_readsRight_28 : decode cX2_readsRight 28 = .ok (.iconst 0, 1) := by decide +kernel
theorem dX2_readsRight_29 : decode cX2_readsRight 29 = .ok (.ireturn, 1) := by decide +kernel
theorem dX2_commitsRegister_0 : decode cX2_commitsRegister 0 = .ok (.aload_n 0, 1) := by decide +kernel
theorem dX2_commitsRegister_1 : decode cX2_commitsRegister 1 = .ok (.getfield 9, 3) := by decide +kernel
theorem dX2_commitsRegister_4 : decode cX2_commitsRegister 4 = .ok (.iconst 1, 1) := by decide +kernel
theorem dX2_commitsRegister_5 : decode cX2_commitsRegister 5 = .ok (.if_icmp .lt 15, 3) := by decide +kernel
theorem dX2_commitsRegister_8 : decode cX2_commitsRegister 8 = .ok (.aload_n 0, 1) := by decide +kernel
theorem dX2_commitsRegister_9 : decode cX2_commitsRegister 9 = .ok (.getfield 9, 3) := by decide +kernel
theorem dX2_commitsRegister_12 : decode cX2_commitsRegister 12 = .ok (.iconst 5, 1) := by decide +kernel
theorem dX2_commitsRegister_13 : decode cX2_commitsRegister 13 = .ok (.if_icmp .gt 7, 3) := by decide +kernel
theorem dX2_commitsRegister_16 : decode cX2_commitsRegister 16 = .ok (.iconst 1, 1) := by decide +kernel
theorem dX2_commitsRegister_17 : decode cX2_commitsRegister 17 = .ok (.goto 4, 3) := by decide +kernel
theorem dX2_commitsRegister_20 : decode cX2_commitsRegister 20 = .ok (.iconst 0, 1) := by decide +kernel
theorem dX2_commitsRegister_21 : decode cX2_commitsRegister 21 = .ok (.ireturn, 1) := by decide +kernel
theorem dX2_commitsTo_0 : decode cX2_commitsTo 0 = .ok (.aload_n 0, 1) := by decide +kernel
theorem dX2_commitsTo_1 : decode cX2_commitsTo 1 = .ok (.invokevirtual 31, 3) := by decide +kernel
theorem dX2_commitsTo_4 : decode cX2_commitsTo 4 = .ok (.ifCond .eq 15, 3) := by decide +kernel
theorem dX2_commitsTo_7 : decode cX2_commitsTo 7 = .ok (.aload_n 0, 1) := by decide +kernel
theorem dX2_commitsTo_8 : decode cX2_commitsTo 8 = .ok (.getfield 15, 3) := by decide +kernel
theorem dX2_commitsTo_11 : decode cX2_commitsTo 11 = .ok (.iload_n 1, 1) := by decide +kernel
theorem dX2_commitsTo_12 : decode cX2_commitsTo 12 = .ok (.if_icmp .ne 7, 3) := by decide +kernel
theorem dX2_commitsTo_15 : decode cX2_commitsTo 15 = .ok (.iconst 1, 1) := by decide +kernel
theorem dX2_commitsTo_16 : decode cX2_commitsTo 16 = .ok (.goto 4, 3) := by decide +kernel
theorem dX2_commitsTo_19 : decode cX2_commitsTo 19 = .ok (.iconst 0, 1) := by decide +kernel
theorem dX2_commitsTo_20 : decode cX2_commitsTo 20 = .ok (.ireturn, 1) := by decide +kernel
theorem dX2_commitsAnything_0 : decode cX2_commitsAnything 0 = .ok (.aload_n 0, 1) := by decide +kernel
theorem dX2_commitsAnything_1 : decode cX2_commitsAnything 1 = .ok (.invokevirtual 31, 3) := by decide +kernel
theorem dX2_commitsAnything_4 : decode cX2_commitsAnything 4 = .ok (.ifCond .ne 21, 3) := by decide +kernel
theorem dX2_commitsAnything_7 : decode cX2_commitsAnything 7 = .ok (.aload_n 0, 1) := by decide +kernel
theorem dX2_commitsAnything_8 : decode cX2_commitsAnything 8 = .ok (.getfield 9, 3) := by decide +kernel
theorem dX2_commitsAnything_11 : decode cX2_commitsAnything 11 = .ok (.bipush 6, 2) := by decide +kernel
theorem dX2_commitsAnything_13 : decode cX2_commitsAnything 13 = .ok (.if_icmp .eq 12, 3) := by decide +kernel
theorem dX2_commitsAnything_16 : decode cX2_commitsAnything 16 = .ok (.aload_n 0, 1) := by decide +kernel
theorem dX2_commitsAnything_17 : decode cX2_commitsAnything 17 = .ok (.getfield 9, 3) := by decide +kernel
theorem dX2_commitsAnything_20 : decode cX2_commitsAnything 20 = .ok (.bipush 8, 2) := by decide +kernel
theorem dX2_commitsAnything_22 : decode cX2_commitsAnything 22 = .ok (.if_icmp .ne 7, 3) := by decide +kernel
theorem dX2_commitsAnything_25 : decode cX2_commitsAnything 25 = .ok (.iconst 1, 1) := by decide +kernel
theorem dX2_commitsAnything_26 : decode cX2_commitsAnything 26 = .ok (.goto 4, 3) := by decide +kernel
theorem dX2_commitsAnything_29 : decode cX2_commitsAnything 29 = .ok (.iconst 0, 1) := by decide +kernel
theorem dX2_commitsAnything_30 : decode cX2_commitsAnything 30 = .ok (.ireturn, 1) := by decide +kernel
theorem dX2_commitKind_0 : decode cX2_commitKind 0 = .ok (.aload_n 0, 1) := by decide +kernel
theorem dX2_commitKind_1 : decode cX2_commitKind 1 = .ok (.getfield 9, 3) := by decide +kernel
theorem dX2_commitKind_4 : decode cX2_commitKind 4 = .ok (.bipush 6, 2) := by decide +kernel
theorem dX2_commitKind_6 : decode cX2_commitKind 6 = .ok (.if_icmp .ne 5, 3) := by decide +kernel
theorem dX2_commitKind_9 : decode cX2_commitKind 9 = .ok (.iconst 1, 1) := by decide +kernel
theorem dX2_commitKind_10 : decode cX2_commitKind 10 = .ok (.ireturn, 1) := by decide +kernel
theorem dX2_commitKind_11 : decode cX2_commitKind 11 = .ok (.aload_n 0, 1) := by decide +kernel
theorem dX2_commitKind_12 : decode cX2_commitKind 12 = .ok (.getfield 9, 3) := by decide +kernel
theorem dX2_commitKind_15 : decode cX2_commitKind 15 = .ok (.bipush 8, 2) := by decide +kernel
theorem dX2_commitKind_17 : decode cX2_commitKind 17 = .ok (.if_icmp .ne 7, 3) := by decide +kernel
theorem dX2_commitKind_20 : decode cX2_commitKind 20 = .ok (.iconst 2, 1) := by decide +kernel
theorem dX2_commitKind_21 : decode cX2_commitKind 21 = .ok (.goto 4, 3) := by decide +kernel
theorem dX2_commitKind_24 : decode cX2_commitKind 24 = .ok (.iconst 0, 1) := by decide +kernel
theorem dX2_commitKind_25 : decode cX2_commitKind 25 = .ok (.ireturn, 1) := by decide +kernel
theorem dX2_commitsWhere_0 : decode cX2_commitsWhere 0 = .ok (.aload_n 0, 1) := by decide +kernel
theorem dX2_commitsWhere_1 : decode cX2_commitsWhere 1 = .ok (.getfield 9, 3) := by decide +kernel
theorem dX2_commitsWhere_4 : decode cX2_commitsWhere 4 = .ok (.bipush 6, 2) := by decide +kernel
theorem dX2_commitsWhere_6 : decode cX2_commitsWhere 6 = .ok (.if_icmp .ne 9, 3) := by decide +kernel
theorem dX2_commitsWhere_9 : decode cX2_commitsWhere 9 = .ok (.aload_n 0, 1) := by decide +kernel
theorem dX2_commitsWhere_10 : decode cX2_commitsWhere 10 = .ok (.iload_n 1, 1) := by decide +kernel
theorem dX2_commitsWhere_11 : decode cX2_commitsWhere 11 = .ok (.invokevirtual 34, 3) := by decide +kernel
theorem dX2_commitsWhere_14 : decode cX2_commitsWhere 14 = .ok (.ireturn, 1) := by decide +kernel
theorem dX2_commitsWhere_15 : decode cX2_commitsWhere 15 = .ok (.aload_n 0, 1) := by decide +kernel
theorem dX2_commitsWhere_16 : decode cX2_commitsWhere 16 = .ok (.getfield 9, 3) := by decide +kernel
theorem dX2_commitsWhere_19 : decode cX2_commitsWhere 19 = .ok (.bipush 8, 2) := by decide +kernel
theorem dX2_commitsWhere_21 : decode cX2_commitsWhere 21 = .ok (.if_icmp .ne 7, 3) := by decide +kernel
theorem dX2_commitsWhere_24 : decode cX2_commitsWhere 24 = .ok (.iconst 0, 1) := by decide +kernel
theorem dX2_commitsWhere_25 : decode cX2_commitsWhere 25 = .ok (.goto 7, 3) := by decide +kernel
theorem dX2_commitsWhere_28 : decode cX2_commitsWhere 28 = .ok (.aload_n 0, 1) := by decide +kernel
theorem dX2_commitsWhere_29 : decode cX2_commitsWhere 29 = .ok (.getfield 15, 3) := by decide +kernel
theorem dX2_commitsWhere_32 : decode cX2_commitsWhere 32 = .ok (.ireturn, 1) := by decide +kernel
theorem dX2_placeFrom_0 : decode cX2_placeFrom 0 = .ok (.iload_n 1, 1) := by decide +kernel
theorem dX2_placeFrom_1 : decode cX2_placeFrom 1 = .ok (.aload_n 0, 1) := by decide +kernel
theorem dX2_placeFrom_2 : decode cX2_placeFrom 2 = .ok (.getfield 24, 3) := by decide +kernel
theorem dX2_placeFrom_5 : decode cX2_placeFrom 5 = .ok (.iadd, 1) := by decide +kernel
theorem dX2_placeFrom_6 : decode cX2_placeFrom 6 = .ok (.bipush 64, 2) := by decide +kernel
theorem dX2_placeFrom_8 : decode cX2_placeFrom 8 = .ok (.invokestatic 38, 3) := by decide +kernel
theorem dX2_placeFrom_11 : decode cX2_placeFrom 11 = .ok (.ireturn, 1) := by decide +kernel
theorem dX2_workedOut_0 : decode cX2_workedOut 0 = .ok (.aload_n 0, 1) := by decide +kernel
theorem dX2_workedOut_1 : decode cX2_workedOut 1 = .ok (.getfield 9, 3) := by decide +kernel
theorem dX2_workedOut_4 : decode cX2_workedOut 4 = .ok (.tableswitch 69 1 8 #[48, 53, 57, 61, 69, 65, 69, 67], 48) := by decide +kernel
theorem dX2_workedOut_52 : decode cX2_workedOut 52 = .ok (.aload_n 0, 1) := by decide +kernel
theorem dX2_workedOut_53 : decode cX2_workedOut 53 = .ok (.getfield 24, 3) := by decide +kernel
theorem dX2_workedOut_56 : decode cX2_workedOut 56 = .ok (.ireturn, 1) := by decide +kernel
theorem dX2_workedOut_57 : decode cX2_workedOut 57 = .ok (.iload_n 1, 1) := by decide +kernel
theorem dX2_workedOut_58 : decode cX2_workedOut 58 = .ok (.iload_n 2, 1) := by decide +kernel
theorem dX2_workedOut_59 : decode cX2_workedOut 59 = .ok (.iadd, 1) := by decide +kernel
theorem dX2_workedOut_60 : decode cX2_workedOut 60 = .ok (.ireturn, 1) := by decide +kernel
theorem dX2_workedOut_61 : decode cX2_workedOut 61 = .ok (.iload_n 1, 1) := by decide +kernel
theorem dX2_workedOut_62 : decode cX2_workedOut 62 = .ok (.iload_n 2, 1) := by decide +kernel
theorem dX2_workedOut_63 : decode cX2_workedOut 63 = .ok (.isub, 1) := by decide +kernel
theorem dX2_workedOut_64 : decode cX2_workedOut 64 = .ok (.ireturn, 1) := by decide +kernel
theorem dX2_workedOut_65 : decode cX2_workedOut 65 = .ok (.iload_n 1, 1) := by decide +kernel
theorem dX2_workedOut_66 : decode cX2_workedOut 66 = .ok (.iload_n 2, 1) := by decide +kernel
theorem dX2_workedOut_67 : decode cX2_workedOut 67 = .ok (.imul, 1) := by decide +kernel
theorem dX2_workedOut_68 : decode cX2_workedOut 68 = .ok (.ireturn, 1) := by decide +kernel
theorem dX2_workedOut_69 : decode cX2_workedOut 69 = .ok (.iload_n 2, 1) := by decide +kernel
theorem dX2_workedOut_70 : decode cX2_workedOut 70 = .ok (.ireturn, 1) := by decide +kernel
theorem dX2_workedOut_71 : decode cX2_workedOut 71 = .ok (.iload_n 1, 1) := by decide +kernel
theorem dX2_workedOut_72 : decode cX2_workedOut 72 = .ok (.ireturn, 1) := by decide +kernel
theorem dX2_workedOut_73 : decode cX2_workedOut 73 = .ok (.iconst 0, 1) := by decide +kernel
theorem dX2_workedOut_74 : decode cX2_workedOut 74 = .ok (.ireturn, 1) := by decide +kernel
theorem dX2_goesOn_0 : decode cX2_goesOn 0 = .ok (.aload_n 0, 1) := by decide +kernel
theorem dX2_goesOn_1 : decode cX2_goesOn 1 = .ok (.getfield 9, 3) := by decide +kernel
theorem dX2_goesOn_4 : decode cX2_goesOn 4 = .ok (.bipush 9, 2) := by decide +kernel
theorem dX2_goesOn_6 : decode cX2_goesOn 6 = .ok (.if_icmp .eq 17, 3) := by decide +kernel
theorem dX2_goesOn_9 : decode cX2_goesOn 9 = .ok (.aload_n 0, 1) := by decide +kernel
theorem dX2_goesOn_10 : decode cX2_goesOn 10 = .ok (.getfield 9, 3) := by decide +kernel
theorem dX2_goesOn_13 : decode cX2_goesOn 13 = .ok (.bipush 7, 2) := by decide +kernel
theorem dX2_goesOn_15 : decode cX2_goesOn 15 = .ok (.if_icmp .ne 12, 3) := by decide +kernel
theorem dX2_goesOn_18 : decode cX2_goesOn 18 = .ok (.iload_n 1, 1) := by decide +kernel
theorem dX2_goesOn_19 : decode cX2_goesOn 19 = .ok (.iload_n 2, 1) := by decide +kernel
theorem dX2_goesOn_20 : decode cX2_goesOn 20 = .ok (.if_icmp .ne 7, 3) := by decide +kernel
theorem dX2_goesOn_23 : decode cX2_goesOn 23 = .ok (.iconst 1, 1) := by decide +kernel
theorem dX2_goesOn_24 : decode cX2_goesOn 24 = .ok (.goto 4, 3) := by decide +kernel
theorem dX2_goesOn_27 : decode cX2_goesOn 27 = .ok (.iconst 0, 1) := by decide +kernel
theorem dX2_goesOn_28 : decode cX2_goesOn 28 = .ok (.ireturn, 1) := by decide +kernel
theorem dX3_init_0 : decode cX3_init 0 = .ok (.aload_n 0, 1) := by decide +kernel
theorem dX3_init_1 : decode cX3_init 1 = .ok (.invokespecial 3, 3) := by decide +kernel
theorem dX3_init_4 : decode cX3_init 4 = .ok (.aload_n 0, 1) := by decide +kernel
theorem dX3_init_5 : decode cX3_init 5 = .ok (.bipush 8, 2) := by decide +kernel
theorem dX3_init_7 : decode cX3_init 7 = .ok (.newarray .int, 2) := by decide +kernel
theorem dX3_init_9 : decode cX3_init 9 = .ok (.dup, 1) := by decide +kernel
theorem dX3_init_10 : decode cX3_init 10 = .ok (.iconst 0, 1) := by decide +kernel
theorem dX3_init_11 : decode cX3_init 11 = .ok (.iconst 0, 1) := by decide +kernel
theorem dX3_init_12 : decode cX3_init 12 = .ok (.iastore, 1) := by decide +kernel
theorem dX3_init_13 : decode cX3_init 13 = .ok (.dup, 1) := by decide +kernel
theorem dX3_init_14 : decode cX3_init 14 = .ok (.iconst 1, 1) := by decide +kernel
theorem dX3_init_15 : decode cX3_init 15 = .ok (.iconst 0, 1) := by decide +kernel
theorem dX3_init_16 : decode cX3_init 16 = .ok (.iastore, 1) := by decide +kernel
theorem dX3_init_17 : decode cX3_init 17 = .ok (.dup, 1) := by decide +kernel
theorem dX3_init_18 : decode cX3_init 18 = .ok (.iconst 2, 1) := by decide +kernel
theorem dX3_init_19 : decode cX3_init 19 = .ok (.iconst 1, 1) := by decide +kernel
theorem dX3_init_20 : decode cX3_init 20 = .ok (.iastore, 1) := by decide +kernel
theorem dX3_init_21 : decode cX3_init 21 = .ok (.dup, 1) := by decide +kernel
theorem dX3_init_22 : decode cX3_init 22 = .ok (.iconst 3, 1) := by decide +kernel
theorem dX3_init_23 : decode cX3_init 23 = .ok (.iconst 1, 1) := by decide +kernel
theorem dX3_init_24 : decode cX3_init 24 = .ok (.iastore, 1) := by decide +kernel
theorem dX3_init_25 : decode cX3_init 25 = .ok (.dup, 1) := by decide +kernel
theorem dX3_init_26 : decode cX3_init 26 = .ok (.iconst 4, 1) := by decide +kernel
theorem dX3_init_27 : decode cX3_init 27 = .ok (.iconst 1, 1) := by decide +kernel
theorem dX3_init_28 : decode cX3_init 28 = .ok (.iastore, 1) := by decide +kernel
theorem dX3_init_29 : decode cX3_init 29 = .ok (.dup, 1) := by decide +kernel
theorem dX3_init_30 : decode cX3_init 30 = .ok (.iconst 5, 1) := by decide +kernel
theorem dX3_init_31 : decode cX3_init 31 = .ok (.iconst 2, 1) := by decide +kernel
theorem dX3_init_32 : decode cX3_init 32 = .ok (.iastore, 1) := by decide +kernel
theorem dX3_init_33 : decode cX3_init 33 = .ok (.dup, 1) := by decide +kernel
theorem dX3_init_34 : decode cX3_init 34 = .ok (.bipush 6, 2) := by decide +kernel
theorem dX3_init_36 : decode cX3_init 36 = .ok (.iconst 3, 1) := by decide +kernel
theorem dX3_init_37 : decode cX3_init 37 = .ok (.iastore, 1) := by decide +kernel
theorem dX3_init_38 : decode cX3_init 38 = .ok (.dup, 1) := by decide +kernel
theorem dX3_init_39 : decode cX3_init 39 = .ok (.bipush 7, 2) := by decide +kernel
theorem dX3_init_41 : decode cX3_init 41 = .ok (.iconst (-1), 1) := by decide +kernel
theorem dX3_init_42 : decode cX3_init 42 = .ok (.iastore, 1) := by decide +kernel
theorem dX3_init_43 : decode cX3_init 43 = .ok (.putfield 9, 3) := by decide +kernel
theorem dX3_init_46 : decode cX3_init 46 = .ok (.aload_n 0, 1) := by decide +kernel
theorem dX3_init_47 : decode cX3_init 47 = .ok (.iconst 4, 1) := by decide +kernel
theorem dX3_init_48 : decode cX3_init 48 = .ok (.putfield 15, 3) := by decide +kernel
theorem dX3_init_51 : decode cX3_init 51 = .ok (.return_, 1) := by decide +kernel
theorem dX3_become_0 : decode cX3_become 0 = .ok (.aload_n 1, 1) := by decide +kernel
theorem dX3_become_1 : decode cX3_become 1 = .ok (.iconst 0, 1) := by decide +kernel
theorem dX3_become_2 : decode cX3_become 2 = .ok (.aload_n 0, 1) := by decide +kernel
theorem dX3_become_3 : decode cX3_become 3 = .ok (.getfield 9, 3) := by decide +kernel
theorem dX3_become_6 : decode cX3_become 6 = .ok (.iconst 0, 1) := by decide +kernel
theorem dX3_become_7 : decode cX3_become 7 = .ok (.bipush 8, 2) := by decide +kernel
theorem dX3_become_9 : decode cX3_become 9 = .ok (.invokestatic 19, 3) := by decide +kernel
theorem dX3_become_12 : decode cX3_become 12 = .ok (.aload_n 0, 1) := by decide +kernel
theorem dX3_become_13 : decode cX3_become 13 = .ok (.iload_n 2, 1) := by decide +kernel
theorem dX3_become_14 : decode cX3_become 14 = .ok (.putfield 15, 3) := by decide +kernel
theorem dX3_become_17 : decode cX3_become 17 = .ok (.return_, 1) := by decide +kernel
theorem dX3_stageCount_0 : decode cX3_stageCount 0 = .ok (.aload_n 0, 1) := by decide +kernel
theorem dX3_stageCount_1 : decode cX3_stageCount 1 = .ok (.getfield 15, 3) := by decide +kernel
theorem dX3_stageCount_4 : decode cX3_stageCount 4 = .ok (.ireturn, 1) := by decide +kernel
theorem dX3_stageOf_0 : decode cX3_stageOf 0 = .ok (.iload_n 1, 1) := by decide +kernel
theorem dX3_stageOf_1 : decode cX3_stageOf 1 = .ok (.ifCond .lt 9, 3) := by decide +kernel
theorem dX3_stageOf_4 : decode cX3_stageOf 4 = .ok (.iload_n 1, 1) := by decide +kernel
theorem dX3_stageOf_5 : decode cX3_stageOf 5 = .ok (.bipush 8, 2) := by decide +kernel
theorem dX3_stageOf_7 : decode cX3_stageOf 7 = .ok (.if_icmp .lt 7, 3) := by decide +kernel
theorem dX3_stageOf_10 : decode cX3_stageOf 10 = .ok (.iconst (-1), 1) := by decide +kernel
theorem dX3_stageOf_11 : decode cX3_stageOf 11 = .ok (.goto 9, 3) := by decide +kernel
theorem dX3_stageOf_14 : decode cX3_stageOf 14 = .ok (.aload_n 0, 1) := by decide +kernel
theorem dX3_stageOf_15 : decode cX3_stageOf 15 = .ok (.getfield 9, 3) := by decide +kernel
theorem dX3_stageOf_18 : decode cX3_stageOf 18 = .ok (.iload_n 1, 1) := by decide +kernel
theorem dX3_stageOf_19 : decode cX3_stageOf 19 = .ok (.iaload, 1) := by decide +kernel
theorem dX3_stageOf_20 : decode cX3_stageOf 20 = .ok (.ireturn, 1) := by decide +kernel
theorem dX3_has_0 : decode cX3_has 0 = .ok (.aload_n 0, 1) := by decide +kernel
theorem dX3_has_1 : decode cX3_has 1 = .ok (.iload_n 1, 1) := by decide +kernel
theorem dX3_has_2 : decode cX3_has 2 = .ok (.invokevirtual 25, 3) := by decide +kernel
theorem dX3_has_5 : decode cX3_has 5 = .ok (.iload_n 2, 1) := by decide +kernel
theorem dX3_has_6 : decode cX3_has 6 = .ok (.if_icmp .ne 7, 3) := by decide +kernel
theorem dX3_has_9 : decode cX3_has 9 = .ok (.iconst 1, 1) := by decide +kernel
theorem dX3_has_10 : decode cX3_has 10 = .ok (.goto 4, 3) := by decide +kernel
theorem dX3_has_13 : decode cX3_has 13 = .ok (.iconst 0, 1) := by decide +kernel
theorem dX3_has_14 : decode cX3_has 14 = .ok (.ireturn, 1) := by decide +kernel
theorem dX3_givingStage_0 : decode cX3_givingStage 0 = .ok (.aload_n 0, 1) := by decide +kernel
theorem dX3_givingStage_1 : decode cX3_givingStage 1 = .ok (.getfield 9, 3) := by decide +kernel
theorem dX3_givingStage_4 : decode cX3_givingStage 4 = .ok (.bipush 7, 2) := by decide +kernel
theorem dX3_givingStage_6 : decode cX3_givingStage 6 = .ok (.iaload, 1) := by decide +kernel
theorem dX3_givingStage_7 : decode cX3_givingStage 7 = .ok (.istore_n 2, 1) := by decide +kernel
theorem dX3_givingStage_8 : decode cX3_givingStage 8 = .ok (.iload_n 2, 1) := by decide +kernel
theorem dX3_givingStage_9 : decode cX3_givingStage 9 = .ok (.iconst (-1), 1) := by decide +kernel
theorem dX3_givingStage_10 : decode cX3_givingStage 10 = .ok (.if_icmp .eq 8, 3) := by decide +kernel
theorem dX3_givingStage_13 : decode cX3_givingStage 13 = .ok (.iload_n 1, 1) := by decide +kernel
theorem dX3_givingStage_14 : decode cX3_givingStage 14 = .ok (.iconst 5, 1) := by decide +kernel
theorem dX3_givingStage_15 : decode cX3_givingStage 15 = .ok (.if_icmp .eq 5, 3) := by decide +kernel
theorem dX3_givingStage_18 : decode cX3_givingStage 18 = .ok (.iload_n 2, 1) := by decide +kernel
theorem dX3_givingStage_19 : decode cX3_givingStage 19 = .ok (.ireturn, 1) := by decide +kernel
theorem dX3_givingStage_20 : decode cX3_givingStage 20 = .ok (.iload_n 2, 1) := by decide +kernel
theorem dX3_givingStage_21 : decode cX3_givingStage 21 = .ok (.aload_n 0, 1) := by decide +kernel
theorem dX3_givingStage_22 : decode cX3_givingStage 22 = .ok (.getfield 9, 3) := by decide +kernel
theorem dX3_givingStage_25 : decode cX3_givingStage 25 = .ok (.iconst 5, 1) := by decide +kernel
theorem dX3_givingStage_26 : decode cX3_givingStage 26 = .ok (.iaload, 1) := by decide +kernel
theorem dX3_givingStage_27 : decode cX3_givingStage 27 = .ok (.invokestatic 29, 3) := by decide +kernel
theorem dX3_givingStage_30 : decode cX3_givingStage 30 = .ok (.ireturn, 1) := by decide +kernel
theorem dX4_init_0 : decode cX4_init 0 = .ok (.aload_n 0, 1) := by decide +kernel
theorem dX4_init_1 : decode cX4_init 1 = .ok (.invokespecial 3, 3) := by decide +kernel
theorem dX4_init_4 : decode cX4_init 4 = .ok (.aload_n 0, 1) := by decide +kernel
theorem dX4_init_5 : decode cX4_init 5 = .ok (.bipush 8, 2) := by decide +kernel
theorem dX4_init_7 : decode cX4_init 7 = .ok (.newarray .int, 2) := by decide +kernel
theorem dX4_init_9 : decode cX4_init 9 = .ok (.putfield 9, 3) := by decide +kernel
theorem dX4_init_12 : decode cX4_init 12 = .ok (.return_, 1) := by decide +kernel
theorem dX4_firstWrong_0 : decode cX4_firstWrong 0 = .ok (.aload_n 0, 1) := by decide +kernel
theorem dX4_firstWrong_1 : decode cX4_firstWrong 1 = .ok (.getfield 9, 3) := by decide +kernel
theorem dX4_firstWrong_4 : decode cX4_firstWrong 4 = .ok (.iconst (-1), 1) := by decide +kernel
theorem dX4_firstWrong_5 : decode cX4_firstWrong 5 = .ok (.invokestatic 15, 3) := by decide +kernel
theorem dX4_firstWrong_8 : decode cX4_firstWrong 8 = .ok (.aload_n 0, 1) := by decide +kernel
theorem dX4_firstWrong_9 : decode cX4_firstWrong 9 = .ok (.iconst 0, 1) := by decide +kernel
theorem dX4_firstWrong_10 : decode cX4_firstWrong 10 = .ok (.putfield 21, 3) := by decide +kernel
theorem dX4_firstWrong_13 : decode cX4_firstWrong 13 = .ok (.aload_n 0, 1) := by decide +kernel
theorem dX4_firstWrong_14 : decode cX4_firstWrong 14 = .ok (.iconst 0, 1) := by decide +kernel
theorem dX4_firstWrong_15 : decode cX4_firstWrong 15 = .ok (.putfield 25, 3) := by decide +kernel
theorem dX4_firstWrong_18 : decode cX4_firstWrong 18 = .ok (.aload_n 0, 1) := by decide +kernel
theorem dX4_firstWrong_19 : decode cX4_firstWrong 19 = .ok (.iconst 0, 1) := by decide +kernel
theorem dX4_firstWrong_20 : decode cX4_firstWrong 20 = .ok (.putfield 28, 3) := by decide +kernel
theorem dX4_firstWrong_23 : decode cX4_firstWrong 23 = .ok (.iconst 0, 1) := by decide +kernel
theorem dX4_firstWrong_24 : decode cX4_firstWrong 24 = .ok (.istore_n 3, 1) := by decide +kernel
theorem dX4_firstWrong_25 : decode cX4_firstWrong 25 = .ok (.iload_n 3, 1) := by decide +kernel
theorem dX4_firstWrong_26 : decode cX4_firstWrong 26 = .ok (.iload_n 2, 1) := by decide +kernel
theorem dX4_firstWrong_27 : decode cX4_firstWrong 27 = .ok (.if_icmp .ge 27, 3) := by decide +kernel
theorem dX4_firstWrong_30 : decode cX4_firstWrong 30 = .ok (.iload_n 3, 1) := by decide +kernel
theorem dX4_firstWrong_31 : decode cX4_firstWrong 31 = .ok (.aload_n 1, 1) := by decide +kernel
theorem dX4_firstWrong_32 : decode cX4_firstWrong 32 = .ok (.arraylength, 1) := by decide +kernel
theorem dX4_firstWrong_33 : decode cX4_firstWrong 33 = .ok (.if_icmp .ge 21, 3) := by decide +kernel
theorem dX4_firstWrong_36 : decode cX4_firstWrong 36 = .ok (.aload_n 0, 1) := by decide +kernel
theorem dX4_firstWrong_37 : decode cX4_firstWrong 37 = .ok (.aload_n 1, 1) := by decide +kernel
theorem dX4_firstWrong_38 : decode cX4_firstWrong 38 = .ok (.iload_n 3, 1) := by decide +kernel
theorem dX4_firstWrong_39 : decode cX4_firstWrong 39 = .ok (.iaload, 1) := by decide +kernel
theorem dX4_firstWrong_40 : decode cX4_firstWrong 40 = .ok (.invokevirtual 32, 3) := by decide +kernel
theorem dX4_firstWrong_43 : decode cX4_firstWrong 43 = .ok (.ifCond .ne 5, 3) := by decide +kernel
theorem dX4_firstWrong_46 : decode cX4_firstWrong 46 = .ok (.iload_n 3, 1) := by decide +kernel
theorem dX4_firstWrong_47 : decode cX4_firstWrong 47 = .ok (.ireturn, 1) := by decide +kernel
theorem dX4_firstWrong_48 : decode cX4_firstWrong 48 = .ok (.iinc 3 1, 3) := by decide +kernel
theorem dX4_firstWrong_51 : decode cX4_firstWrong 51 = .ok (.goto (-26), 3) := by decide +kernel
theorem dX4_firstWrong_54 : decode cX4_firstWrong 54 = .ok (.aload_n 0, 1) := by decide +kernel
theorem dX4_firstWrong_55 : decode cX4_firstWrong 55 = .ok (.getfield 21, 3) := by decide +kernel
theorem dX4_firstWrong_58 : decode cX4_firstWrong 58 = .ok (.ldc 36, 2) := by decide +kernel
theorem dX4_firstWrong_60 : decode cX4_firstWrong 60 = .ok (.invokevirtual 38, 3) := by decide +kernel
theorem dX4_firstWrong_63 : decode cX4_firstWrong 63 = .ok (.if_icmp .ne 14, 3) := by decide +kernel
theorem dX4_firstWrong_66 : decode cX4_firstWrong 66 = .ok (.aload_n 0, 1) := by decide +kernel
theorem dX4_firstWrong_67 : decode cX4_firstWrong 67 = .ok (.getfield 28, 3) := by decide +kernel
theorem dX4_firstWrong_70 : decode cX4_firstWrong 70 = .ok (.ifCond .eq 7, 3) := by decide +kernel
theorem dX4_firstWrong_73 : decode cX4_firstWrong 73 = .ok (.iconst (-1), 1) := by decide +kernel
theorem dX4_firstWrong_74 : decode cX4_firstWrong 74 = .ok (.goto 4, 3) := by decide +kernel
theorem dX4_firstWrong_77 : decode cX4_firstWrong 77 = .ok (.iload_n 2, 1) := by decide +kernel
theorem dX4_firstWrong_78 : decode cX4_firstWrong 78 = .ok (.ireturn, 1) := by decide +kernel
theorem dX4_writeTo_0 : decode cX4_writeTo 0 = .ok (.aload_n 1, 1) := by decide +kernel
theorem dX4_writeTo_1 : decode cX4_writeTo 1 = .ok (.aload_n 0, 1) := by decide +kernel
theorem dX4_writeTo_2 : decode cX4_writeTo 2 = .ok (.getfield 9, 3) := by decide +kernel
theorem dX4_writeTo_5 : decode cX4_writeTo 5 = .ok (.aload_n 0, 1) := by decide +kernel
theorem dX4_writeTo_6 : decode cX4_writeTo 6 = .ok (.getfield 25, 3) := by decide +kernel
theorem dX4_writeTo_9 : decode cX4_writeTo 9 = .ok (.iconst 1, 1) := by decide +kernel
theorem dX4_writeTo_10 : decode cX4_writeTo 10 = .ok (.iadd, 1) := by decide +kernel
theorem dX4_writeTo_11 : decode cX4_writeTo 11 = .ok (.invokevirtual 44, 3) := by decide +kernel
theorem dX4_writeTo_14 : decode cX4_writeTo 14 = .ok (.return_, 1) := by decide +kernel
theorem dX4_takes_0 : decode cX4_takes 0 = .ok (.iload_n 1, 1) := by decide +kernel
theorem dX4_takes_1 : decode cX4_takes 1 = .ok (.bipush 47, 2) := by decide +kernel
theorem dX4_takes_3 : decode cX4_takes 3 = .ok (.if_icmp .ne 8, 3) := by decide +kernel
theorem dX4_takes_6 : decode cX4_takes 6 = .ok (.aload_n 0, 1) := by decide +kernel
theorem dX4_takes_7 : decode cX4_takes 7 = .ok (.invokevirtual 49, 3) := by decide +kernel
theorem dX4_takes_10 : decode cX4_takes 10 = .ok (.ireturn, 1) := by decide +kernel
theorem dX4_takes_11 : decode cX4_takes 11 = .ok (.iload_n 1, 1) := by decide +kernel
theorem dX4_takes_12 : decode cX4_takes 12 = .ok (.bipush 121, 2) := by decide +kernel
theorem dX4_takes_14 : decode cX4_takes 14 = .ok (.if_icmp .ne 46, 3) := by decide +kernel
theorem dX4_takes_17 : decode cX4_takes 17 = .ok (.aload_n 0, 1) := by decide +kernel
theorem dX4_takes_18 : decode cX4_takes 18 = .ok (.getfield 21, 3) := by decide +kernel
theorem dX4_takes_21 : decode cX4_takes 21 = .ok (.iconst 2, 1) := by decide +kernel
theorem dX4_takes_22 : decode cX4_takes 22 = .ok (.if_icmp .le 36, 3) := by decide +kernel
theorem dX4_takes_25 : decode cX4_takes 25 = .ok (.aload_n 0, 1) := by decide +kernel
theorem dX4_takes_26 : decode cX4_takes 26 = .ok (.getfield 21, 3) := by decide +kernel
theorem dX4_takes_29 : decode cX4_takes 29 = .ok (.bipush 6, 2) := by decide +kernel
theorem dX4_takes_31 : decode cX4_takes 31 = .ok (.if_icmp .gt 27, 3) := by decide +kernel
theorem dX4_takes_34 : decode cX4_takes 34 = .ok (.aload_n 0, 1) := by decide +kernel
theorem dX4_takes_35 : decode cX4_takes 35 = .ok (.getfield 9, 3) := by decide +kernel
theorem dX4_takes_38 : decode cX4_takes 38 = .ok (.bipush 7, 2) := by decide +kernel
theorem dX4_takes_40 : decode cX4_takes 40 = .ok (.iaload, 1) := by decide +kernel
theorem dX4_takes_41 : decode cX4_takes 41 = .ok (.iconst (-1), 1) := by decide +kernel
theorem dX4_takes_42 : decode cX4_takes 42 = .ok (.if_icmp .ne 16, 3) := by decide +kernel
theorem dX4_takes_45 : decode cX4_takes 45 = .ok (.aload_n 0, 1) := by decide +kernel
theorem dX4_takes_46 : decode cX4_takes 46 = .ok (.bipush 7, 2) := by decide +kernel
theorem dX4_takes_48 : decode cX4_takes 48 = .ok (.invokevirtual 53, 3) := by decide +kernel
theorem dX4_takes_51 : decode cX4_takes 51 = .ok (.ifCond .eq 7, 3) := by decide +kernel
theorem dX4_takes_54 : decode cX4_takes 54 = .ok (.iconst 1, 1) := by decide +kernel
theorem dX4_takes_55 : decode cX4_takes 55 = .ok (.goto 4, 3) := by decide +kernel
theorem dX4_takes_58 : decode cX4_takes 58 = .ok (.iconst 0, 1) := by decide +kernel
theorem dX4_takes_59 : decode cX4_takes 59 = .ok (.ireturn, 1) := by decide +kernel
theorem dX4_takes_60 : decode cX4_takes 60 = .ok (.aload_n 0, 1) := by decide +kernel
theorem dX4_takes_61 : decode cX4_takes 61 = .ok (.getfield 21, 3) := by decide +kernel
theorem dX4_takes_64 : decode cX4_takes 64 = .ok (.ldc 36, 2) := by decide +kernel
theorem dX4_takes_66 : decode cX4_takes 66 = .ok (.invokevirtual 38, 3) := by decide +kernel
theorem dX4_takes_69 : decode cX4_takes 69 = .ok (.if_icmp .ge 16, 3) := by decide +kernel
theorem dX4_takes_72 : decode cX4_takes 72 = .ok (.iload_n 1, 1) := by decide +kernel
theorem dX4_takes_73 : decode cX4_takes 73 = .ok (.ldc 36, 2) := by decide +kernel
theorem dX4_takes_75 : decode cX4_takes 75 = .ok (.aload_n 0, 1) := by decide +kernel
theorem dX4_takes_76 : decode cX4_takes 76 = .ok (.getfield 21, 3) := by decide +kernel
theorem dX4_takes_79 : decode cX4_takes 79 = .ok (.invokevirtual 56, 3) := by decide +kernel
theorem dX4_takes_82 : decode cX4_takes 82 = .ok (.if_icmp .eq 5, 3) := by decide +kernel
theorem dX4_takes_85 : decode cX4_takes 85 = .ok (.iconst 0, 1) := by decide +kernel
theorem dX4_takes_86 : decode cX4_takes 86 = .ok (.ireturn, 1) := by decide +kernel
theorem dX4_takes_87 : decode cX4_takes 87 = .ok (.aload_n 0, 1) := by decide +kernel
theorem dX4_takes_88 : decode cX4_takes 88 = .ok (.getfield 21, 3) := by decide +kernel
theorem dX4_takes_91 : decode cX4_takes 91 = .ok (.iconst 5, 1) := by decide +kernel
theorem dX4_takes_92 : decode cX4_takes 92 = .ok (.if_icmp .ne 18, 3) := by decide +kernel
theorem dX4_takes_95 : decode cX4_takes 95 = .ok (.aload_n 0, 1) := by decide +kernel
theorem dX4_takes_96 : decode cX4_takes 96 = .ok (.getfield 9, 3) := by decide +kernel
theorem dX4_takes_99 : decode cX4_takes 99 = .ok (.iconst 4, 1) := by decide +kernel
theorem dX4_takes_100 : decode cX4_takes 100 = .ok (.iaload, 1) := by decide +kernel
theorem dX4_takes_101 : decode cX4_takes 101 = .ok (.aload_n 0, 1) := by decide +kernel
theorem dX4_takes_102 : decode cX4_takes 102 = .ok (.getfield 25, 3) := by decide +kernel
theorem dX4_takes_105 : decode cX4_takes 105 = .ok (.if_icmp .ne 5, 3) := by decide +kernel
theorem dX4_takes_108 : decode cX4_takes 108 = .ok (.iconst 0, 1) := by decide +kernel
theorem dX4_takes_109 : decode cX4_takes 109 = .ok (.ireturn, 1) := by decide +kernel
theorem dX4_takes_110 : decode cX4_takes 110 = .ok (.aload_n 0, 1) := by decide +kernel
theorem dX4_takes_111 : decode cX4_takes 111 = .ok (.dup, 1) := by decide +kernel
theorem dX4_takes_112 : decode cX4_takes 112 = .ok (.getfield 21, 3) := by decide +kernel
theorem dX4_takes_115 : decode cX4_takes 115 = .ok (.iconst 1, 1) := by decide +kernel
theorem dX4_takes_116 : decode cX4_takes 116 = .ok (.iadd, 1) := by decide +kernel
theorem dX4_takes_117 : decode cX4_takes 117 = .ok (.putfield 21, 3) := by decide +kernel
theorem dX4_takes_120 : decode cX4_takes 120 = .ok (.aload_n 0, 1) := by decide +kernel
theorem dX4_takes_121 : decode cX4_takes 121 = .ok (.aload_n 0, 1) := by decide +kernel
theorem dX4_takes_122 : decode cX4_takes 122 = .ok (.getfield 21, 3) := by decide +kernel
theorem dX4_takes_125 : decode cX4_takes 125 = .ok (.iconst 1, 1) := by decide +kernel
theorem dX4_takes_126 : decode cX4_takes 126 = .ok (.isub, 1) := by decide +kernel
theorem dX4_takes_127 : decode cX4_takes 127 = .ok (.invokevirtual 53, 3) := by decide +kernel
theorem dX4_takes_130 : decode cX4_takes 130 = .ok (.ireturn, 1) := by decide +kernel
theorem dX4_puts_0 : decode cX4_puts 0 = .ok (.aload_n 0, 1) := by decide +kernel
theorem dX4_puts_1 : decode cX4_puts 1 = .ok (.getfield 9, 3) := by decide +kernel
theorem dX4_puts_4 : decode cX4_puts 4 = .ok (.iload_n 1, 1) := by decide +kernel
theorem dX4_puts_5 : decode cX4_puts 5 = .ok (.aload_n 0, 1) := by decide +kernel
theorem dX4_puts_6 : decode cX4_puts 6 = .ok (.getfield 25, 3) := by decide +kernel
theorem dX4_puts_9 : decode cX4_puts 9 = .ok (.iastore, 1) := by decide +kernel
theorem dX4_puts_10 : decode cX4_puts 10 = .ok (.aload_n 0, 1) := by decide +kernel
theorem dX4_puts_11 : decode cX4_puts 11 = .ok (.iconst 1, 1) := by decide +kernel
theorem dX4_puts_12 : decode cX4_puts 12 = .ok (.putfield 28, 3) := by decide +kernel
theorem dX4_puts_15 : decode cX4_puts 15 = .ok (.iconst 1, 1) := by decide +kernel
theorem dX4_puts_16 : decode cX4_puts 16 = .ok (.ireturn, 1) := by decide +kernel
theorem dX4_takesBreak_0 : decode cX4_takesBreak 0 = .ok (.aload_n 0, 1) := by decide +kernel
theorem dX4_takesBreak_1 : decode cX4_takesBreak 1 = .ok (.getfield 28, 3) := by decide +kernel
theorem dX4_takesBreak_4 : decode cX4_takesBreak 4 = .ok (.ifCond .eq 14, 3) := by decide +kernel
theorem dX4_takesBreak_7 : decode cX4_takesBreak 7 = .ok (.aload_n 0, 1) := by decide +kernel
theorem dX4_takesBreak_8 : decode cX4_takesBreak 8 = .ok (.getfield 25, 3) := by decide +kernel
theorem dX4_takesBreak_11 : decode cX4_takesBreak 11 = .ok (.iconst 1, 1) := by decide +kernel
theorem dX4_takesBreak_12 : decode cX4_takesBreak 12 = .ok (.iadd, 1) := by decide +kernel
theorem dX4_takesBreak_13 : decode cX4_takesBreak 13 = .ok (.bipush 8, 2) := by decide +kernel
theorem dX4_takesBreak_15 : decode cX4_takesBreak 15 = .ok (.if_icmp .lt 5, 3) := by decide +kernel
theorem dX4_takesBreak_18 : decode cX4_takesBreak 18 = .ok (.iconst 0, 1) := by decide +kernel
theorem dX4_takesBreak_19 : decode cX4_takesBreak 19 = .ok (.ireturn, 1) := by decide +kernel
theorem dX4_takesBreak_20 : decode cX4_takesBreak 20 = .ok (.aload_n 0, 1) := by decide +kernel
theorem dX4_takesBreak_21 : decode cX4_takesBreak 21 = .ok (.dup, 1) := by decide +kernel
theorem dX4_takesBreak_22 : decode cX4_takesBreak 22 = .ok (.getfield 25, 3) := by decide +kernel
theorem dX4_takesBreak_25 : decode cX4_takesBreak 25 = .ok (.iconst 1, 1) := by decide +kernel
theorem dX4_takesBreak_26 : decode cX4_takesBreak 26 = .ok (.iadd, 1) := by decide +kernel
theorem dX4_takesBreak_27 : decode cX4_takesBreak 27 = .ok (.putfield 25, 3) := by decide +kernel
theorem dX4_takesBreak_30 : decode cX4_takesBreak 30 = .ok (.aload_n 0, 1) := by decide +kernel
theorem dX4_takesBreak_31 : decode cX4_takesBreak 31 = .ok (.iconst 0, 1) := by decide +kernel
theorem dX4_takesBreak_32 : decode cX4_takesBreak 32 = .ok (.putfield 28, 3) := by decide +kernel
theorem dX4_takesBreak_35 : decode cX4_takesBreak 35 = .ok (.iconst 1, 1) := by decide +kernel
theorem dX4_takesBreak_36 : decode cX4_takesBreak 36 = .ok (.ireturn, 1) := by decide +kernel
theorem dX5_init_0 : decode cX5_init 0 = .ok (.aload_n 0, 1) := by decide +kernel
theorem dX5_init_1 : decode cX5_init 1 = .ok (.invokespecial 1, 3) := by decide +kernel
theorem dX5_init_4 : decode cX5_init 4 = .ok (.aload_n 0, 1) := by decide +kernel
theorem dX5_init_5 : decode cX5_init 5 = .ok (.aload_n 1, 1) := by decide +kernel
theorem dX5_init_6 : decode cX5_init 6 = .ok (.putfield 7, 3) := by decide +kernel
theorem dX5_init_9 : decode cX5_init 9 = .ok (.return_, 1) := by decide +kernel
theorem dX5_come_0 : decode cX5_come 0 = .ok (.aload_n 0, 1) := by decide +kernel
theorem dX5_come_1 : decode cX5_come 1 = .ok (.iconst 1, 1) := by decide +kernel
theorem dX5_come_2 : decode cX5_come 2 = .ok (.putfield 13, 3) := by decide +kernel
theorem dX5_come_5 : decode cX5_come 5 = .ok (.aload_n 0, 1) := by decide +kernel
theorem dX5_come_6 : decode cX5_come 6 = .ok (.aload_n 1, 1) := by decide +kernel
theorem dX5_come_7 : decode cX5_come 7 = .ok (.putfield 7, 3) := by decide +kernel
theorem dX5_come_10 : decode cX5_come 10 = .ok (.aload_n 0, 1) := by decide +kernel
theorem dX5_come_11 : decode cX5_come 11 = .ok (.iconst 0, 1) := by decide +kernel
theorem dX5_come_12 : decode cX5_come 12 = .ok (.putfield 17, 3) := by decide +kernel
theorem dX5_come_15 : decode cX5_come 15 = .ok (.aload_n 0, 1) := by decide +kernel
theorem dX5_come_16 : decode cX5_come 16 = .ok (.iconst 0, 1) := by decide +kernel
theorem dX5_come_17 : decode cX5_come 17 = .ok (.putfield 21, 3) := by decide +kernel
theorem dX5_come_20 : decode cX5_come 20 = .ok (.aload_n 0, 1) := by decide +kernel
theorem dX5_come_21 : decode cX5_come 21 = .ok (.iconst 0, 1) := by decide +kernel
theorem dX5_come_22 : decode cX5_come 22 = .ok (.putfield 24, 3) := by decide +kernel
theorem dX5_come_25 : decode cX5_come 25 = .ok (.aload_n 0, 1) := by decide +kernel
theorem dX5_come_26 : decode cX5_come 26 = .ok (.iconst 0, 1) := by decide +kernel
theorem dX5_come_27 : decode cX5_come 27 = .ok (.putfield 27, 3) := by decide +kernel
theorem dX5_come_30 : decode cX5_come 30 = .ok (.aload_n 0, 1) := by decide +kernel
theorem dX5_come_31 : decode cX5_come 31 = .ok (.iconst 0, 1) := by decide +kernel
theorem dX5_come_32 : decode cX5_come 32 = .ok (.putfield 30, 3) := by decide +kernel
theorem dX5_come_35 : decode cX5_come 35 = .ok (.return_, 1) := by decide +kernel
theorem dX5_leave_0 : decode cX5_leave 0 = .ok (.aload_n 0, 1) := by decide +kernel
theorem dX5_leave_1 : decode cX5_leave 1 = .ok (.iconst 0, 1) := by decide +kernel
theorem dX5_leave_2 : decode cX5_leave 2 = .ok (.putfield 13, 3) := by decide +kernel
theorem dX5_leave_5 : decode cX5_leave 5 = .ok (.return_, 1) := by decide +kernel
theorem dX5_isPresent_0 : decode cX5_isPresent 0 = .ok (.aload_n 0, 1) := by decide +kernel
theorem dX5_isPresent_1 : decode cX5_isPresent 1 = .ok (.getfield 13, 3) := by decide +kernel
theorem dX5_isPresent_4 : decode cX5_isPresent 4 = .ok (.ireturn, 1) := by decide +kernel
theorem dX5_instruction_0 : decode cX5_instruction 0 = .ok (.aload_n 0, 1) := by decide +kernel
theorem dX5_instruction_1 : decode cX5_instruction 1 = .ok (.getfield 7, 3) := by decide +kernel
theorem dX5_instruction_4 : decode cX5_instruction 4 = .ok (.areturn, 1) := by decide +kernel
theorem dX5_readLeft_0 : decode cX5_readLeft 0 = .ok (.aload_n 0, 1) := by decide +kernel
theorem dX5_readLeft_1 : decode cX5_readLeft 1 = .ok (.iload_n 1, 1) := by decide +kernel
theorem dX5_readLeft_2 : decode cX5_readLeft 2 = .ok (.putfield 17, 3) := by decide +kernel
theorem dX5_readLeft_5 : decode cX5_readLeft 5 = .ok (.return_, 1) := by decide +kernel
theorem dX5_readRight_0 : decode cX5_readRight 0 = .ok (.aload_n 0, 1) := by decide +kernel
theorem dX5_readRight_1 : decode cX5_readRight 1 = .ok (.iload_n 1, 1) := by decide +kernel
theorem dX5_readRight_2 : decode cX5_readRight 2 = .ok (.putfield 21, 3) := by decide +kernel
theorem dX5_readRight_5 : decode cX5_readRight 5 = .ok (.return_, 1) := by decide +kernel
theorem dX5_workOut_0 : decode cX5_workOut 0 = .ok (.aload_n 0, 1) := by decide +kernel
theorem dX5_workOut_1 : decode cX5_workOut 1 = .ok (.aload_n 0, 1) := by decide +kernel
theorem dX5_workOut_2 : decode cX5_workOut 2 = .ok (.getfield 7, 3) := by decide +kernel
theorem dX5_workOut_5 : decode cX5_workOut 5 = .ok (.aload_n 0, 1) := by decide +kernel
theorem dX5_workOut_6 : decode cX5_workOut 6 = .ok (.getfield 17, 3) := by decide +kernel
theorem dX5_workOut_9 : decode cX5_workOut 9 = .ok (.aload_n 0, 1) := by decide +kernel
theorem dX5_workOut_10 : decode cX5_workOut 10 = .ok (.getfield 21, 3) := by decide +kernel
theorem dX5_workOut_13 : decode cX5_workOut 13 = .ok (.invokevirtual 33, 3) := by decide +kernel
theorem dX5_workOut_16 : decode cX5_workOut 16 = .ok (.putfield 24, 3) := by decide +kernel
theorem dX5_workOut_19 : decode cX5_workOut 19 = .ok (.return_, 1) := by decide +kernel
theorem dX5_goesOn_0 : decode cX5_goesOn 0 = .ok (.aload_n 0, 1) := by decide +kernel
theorem dX5_goesOn_1 : decode cX5_goesOn 1 = .ok (.getfield 7, 3) := by decide +kernel
theorem dX5_goesOn_4 : decode cX5_goesOn 4 = .ok (.aload_n 0, 1) := by decide +kernel
theorem dX5_goesOn_5 : decode cX5_goesOn 5 = .ok (.getfield 17, 3) := by decide +kernel
theorem dX5_goesOn_8 : decode cX5_goesOn 8 = .ok (.aload_n 0, 1) := by decide +kernel
theorem dX5_goesOn_9 : decode cX5_goesOn 9 = .ok (.getfield 21, 3) := by decide +kernel
theorem dX5_goesOn_12 : decode cX5_goesOn 12 = .ok (.invokevirtual 39, 3) := by decide +kernel
theorem dX5_goesOn_15 : decode cX5_goesOn 15 = .ok (.ireturn, 1) := by decide +kernel
theorem dX5_asksPlace_0 : decode cX5_asksPlace 0 = .ok (.aload_n 0, 1) := by decide +kernel
theorem dX5_asksPlace_1 : decode cX5_asksPlace 1 = .ok (.getfield 7, 3) := by decide +kernel
theorem dX5_asksPlace_4 : decode cX5_asksPlace 4 = .ok (.aload_n 0, 1) := by decide +kernel
theorem dX5_asksPlace_5 : decode cX5_asksPlace 5 = .ok (.getfield 17, 3) := by decide +kernel
theorem dX5_asksPlace_8 : decode cX5_asksPlace 8 = .ok (.invokevirtual 43, 3) := by decide +kernel
theorem dX5_asksPlace_11 : decode cX5_asksPlace 11 = .ok (.ireturn, 1) := by decide +kernel
theorem dX5_ask_0 : decode cX5_ask 0 = .ok (.aload_n 0, 1) := by decide +kernel
theorem dX5_ask_1 : decode cX5_ask 1 = .ok (.iload_n 1, 1) := by decide +kernel
theorem dX5_ask_2 : decode cX5_ask 2 = .ok (.putfield 24, 3) := by decide +kernel
theorem dX5_ask_5 : decode cX5_ask 5 = .ok (.aload_n 0, 1) := by decide +kernel
theorem dX5_ask_6 : decode cX5_ask 6 = .ok (.iload_n 2, 1) := by decide +kernel
theorem dX5_ask_7 : decode cX5_ask 7 = .ok (.putfield 27, 3) := by decide +kernel
theorem dX5_ask_10 : decode cX5_ask 10 = .ok (.return_, 1) := by decide +kernel
theorem dX5_isAnswered_0 : decode cX5_isAnswered 0 = .ok (.iload_n 1, 1) := by decide +kernel
theorem dX5_isAnswered_1 : decode cX5_isAnswered 1 = .ok (.aload_n 0, 1) := by decide +kernel
theorem dX5_isAnswered_2 : decode cX5_isAnswered 2 = .ok (.getfield 27, 3) := by decide +kernel
theorem dX5_isAnswered_5 : decode cX5_isAnswered 5 = .ok (.isub, 1) := by decide +kernel
theorem dX5_isAnswered_6 : decode cX5_isAnswered 6 = .ok (.iload_n 2, 1) := by decide +kernel
theorem dX5_isAnswered_7 : decode cX5_isAnswered 7 = .ok (.if_icmp .lt 7, 3) := by decide +kernel
theorem dX5_isAnswered_10 : decode cX5_isAnswered 10 = .ok (.iconst 1, 1) := by decide +kernel
theorem dX5_isAnswered_11 : decode cX5_isAnswered 11 = .ok (.goto 4, 3) := by decide +kernel
theorem dX5_isAnswered_14 : decode cX5_isAnswered 14 = .ok (.iconst 0, 1) := by decide +kernel
theorem dX5_isAnswered_15 : decode cX5_isAnswered 15 = .ok (.ireturn, 1) := by decide +kernel
theorem dX5_give_0 : decode cX5_give 0 = .ok (.aload_n 0, 1) := by decide +kernel
theorem dX5_give_1 : decode cX5_give 1 = .ok (.iload_n 1, 1) := by decide +kernel
theorem dX5_give_2 : decode cX5_give 2 = .ok (.putfield 30, 3) := by decide +kernel
theorem dX5_give_5 : decode cX5_give 5 = .ok (.return_, 1) := by decide +kernel
theorem dX5_gaveBefore_0 : decode cX5_gaveBefore 0 = .ok (.aload_n 0, 1) := by decide +kernel
theorem dX5_gaveBefore_1 : decode cX5_gaveBefore 1 = .ok (.getfield 30, 3) := by decide +kernel
theorem dX5_gaveBefore_4 : decode cX5_gaveBefore 4 = .ok (.ifCond .eq 15, 3) := by decide +kernel
theorem dX5_gaveBefore_7 : decode cX5_gaveBefore 7 = .ok (.aload_n 0, 1) := by decide +kernel
theorem dX5_gaveBefore_8 : decode cX5_gaveBefore 8 = .ok (.getfield 30, 3) := by decide +kernel
theorem dX5_gaveBefore_11 : decode cX5_gaveBefore 11 = .ok (.iload_n 1, 1) := by decide +kernel
theorem dX5_gaveBefore_12 : decode cX5_gaveBefore 12 = .ok (.if_icmp .ge 7, 3) := by decide +kernel
theorem dX5_gaveBefore_15 : decode cX5_gaveBefore 15 = .ok (.iconst 1, 1) := by decide +kernel
theorem dX5_gaveBefore_16 : decode cX5_gaveBefore 16 = .ok (.goto 4, 3) := by decide +kernel
theorem dX5_gaveBefore_19 : decode cX5_gaveBefore 19 = .ok (.iconst 0, 1) := by decide +kernel
theorem dX5_gaveBefore_20 : decode cX5_gaveBefore 20 = .ok (.ireturn, 1) := by decide +kernel
theorem dX5_worth_0 : decode cX5_worth 0 = .ok (.aload_n 0, 1) := by decide +kernel
theorem dX5_worth_1 : decode cX5_worth 1 = .ok (.getfield 24, 3) := by decide +kernel
theorem dX5_worth_4 : decode cX5_worth 4 = .ok (.ireturn, 1) := by decide +kernel
theorem dX5_commitsWhere_0 : decode cX5_commitsWhere 0 = .ok (.aload_n 0, 1) := by decide +kernel
theorem dX5_commitsWhere_1 : decode cX5_commitsWhere 1 = .ok (.getfield 7, 3) := by decide +kernel
theorem dX5_commitsWhere_4 : decode cX5_commitsWhere 4 = .ok (.aload_n 0, 1) := by decide +kernel
theorem dX5_commitsWhere_5 : decode cX5_commitsWhere 5 = .ok (.getfield 17, 3) := by decide +kernel
theorem dX5_commitsWhere_8 : decode cX5_commitsWhere 8 = .ok (.invokevirtual 47, 3) := by decide +kernel
theorem dX5_commitsWhere_11 : decode cX5_commitsWhere 11 = .ok (.ireturn, 1) := by decide +kernel
theorem dX6_init_0 : decode cX6_init 0 = .ok (.aload_n 0, 1) := by decide +kernel
theorem dX6_init_1 : decode cX6_init 1 = .ok (.invokespecial 3, 3) := by decide +kernel
theorem dX6_init_4 : decode cX6_init 4 = .ok (.aload_n 0, 1) := by decide +kernel
theorem dX6_init_5 : decode cX6_init 5 = .ok (.new 9, 3) := by decide +kernel
theorem dX6_init_8 : decode cX6_init 8 = .ok (.dup, 1) := by decide +kernel
theorem dX6_init_9 : decode cX6_init 9 = .ok (.invokespecial 11, 3) := by decide +kernel
theorem dX6_init_12 : decode cX6_init 12 = .ok (.putfield 12, 3) := by decide +kernel
theorem dX6_init_15 : decode cX6_init 15 = .ok (.aload_n 0, 1) := by decide +kernel
theorem dX6_init_16 : decode cX6_init 16 = .ok (.aload_n 1, 1) := by decide +kernel
theorem dX6_init_17 : decode cX6_init 17 = .ok (.putfield 18, 3) := by decide +kernel
theorem dX6_init_20 : decode cX6_init 20 = .ok (.aload_n 0, 1) := by decide +kernel
theorem dX6_init_21 : decode cX6_init 21 = .ok (.aload_n 2, 1) := by decide +kernel
theorem dX6_init_22 : decode cX6_init 22 = .ok (.putfield 22, 3) := by decide +kernel
theorem dX6_init_25 : decode cX6_init 25 = .ok (.return_, 1) := by decide +kernel
theorem dX6_agreesWith_0 : decode cX6_agreesWith 0 = .ok (.aload_n 0, 1) := by decide +kernel
theorem dX6_agreesWith_1 : decode cX6_agreesWith 1 = .ok (.getfield 12, 3) := by decide +kernel
theorem dX6_agreesWith_4 : decode cX6_agreesWith 4 = .ok (.aload_n 0, 1) := by decide +kernel
theorem dX6_agreesWith_5 : decode cX6_agreesWith 5 = .ok (.getfield 22, 3) := by decide +kernel
theorem dX6_agreesWith_8 : decode cX6_agreesWith 8 = .ok (.invokevirtual 26, 3) := by decide +kernel
theorem dX6_agreesWith_11 : decode cX6_agreesWith 11 = .ok (.iconst 0, 1) := by decide +kernel
theorem dX6_agreesWith_12 : decode cX6_agreesWith 12 = .ok (.istore_n 2, 1) := by decide +kernel
theorem dX6_agreesWith_13 : decode cX6_agreesWith 13 = .ok (.iconst 0, 1) := by decide +kernel
theorem dX6_agreesWith_14 : decode cX6_agreesWith 14 = .ok (.istore_n 3, 1) := by decide +kernel
theorem dX6_agreesWith_15 : decode cX6_agreesWith 15 = .ok (.iconst 0, 1) := by decide +kernel
theorem dX6_agreesWith_16 : decode cX6_agreesWith 16 = .ok (.istore 4, 2) := by decide +kernel
theorem dX6_agreesWith_18 : decode cX6_agreesWith 18 = .ok (.iload 4, 2) := by decide +kernel
theorem dX6_agreesWith_20 : decode cX6_agreesWith 20 = .ok (.ldc 30, 2) := by decide +kernel
theorem dX6_agreesWith_22 : decode cX6_agreesWith 22 = .ok (.if_icmp .ge 117, 3) := by decide +kernel
theorem dX6_agreesWith_25 : decode cX6_agreesWith 25 = .ok (.iload_n 3, 1) := by decide +kernel
theorem dX6_agreesWith_26 : decode cX6_agreesWith 26 = .ok (.aload_n 1, 1) := by decide +kernel
theorem dX6_agreesWith_27 : decode cX6_agreesWith 27 = .ok (.invokevirtual 31, 3) := by decide +kernel
theorem dX6_agreesWith_30 : decode cX6_agreesWith 30 = .ok (.if_icmp .ge 109, 3) := by decide +kernel
theorem dX6_agreesWith_33 : decode cX6_agreesWith 33 = .ok (.aload_n 0, 1) := by decide +kernel
theorem dX6_agreesWith_34 : decode cX6_agreesWith 34 = .ok (.getfield 18, 3) := by decide +kernel
theorem dX6_agreesWith_37 : decode cX6_agreesWith 37 = .ok (.iload_n 2, 1) := by decide +kernel
theorem dX6_agreesWith_38 : decode cX6_agreesWith 38 = .ok (.invokevirtual 37, 3) := by decide +kernel
theorem dX6_agreesWith_41 : decode cX6_agreesWith 41 = .ok (.astore 5, 2) := by decide +kernel
theorem dX6_agreesWith_43 : decode cX6_agreesWith 43 = .ok (.aload 5, 2) := by decide +kernel
theorem dX6_agreesWith_45 : decode cX6_agreesWith 45 = .ok (.invokevirtual 43, 3) := by decide +kernel
theorem dX6_agreesWith_48 : decode cX6_agreesWith 48 = .ok (.ifCond .ne 5, 3) := by decide +kernel
theorem dX6_agreesWith_51 : decode cX6_agreesWith 51 = .ok (.iconst 0, 1) := by decide +kernel
theorem dX6_agreesWith_52 : decode cX6_agreesWith 52 = .ok (.ireturn, 1) := by decide +kernel
theorem dX6_agreesWith_53 : decode cX6_agreesWith 53 = .ok (.aload_n 0, 1) := by decide +kernel
theorem dX6_agreesWith_54 : decode cX6_agreesWith 54 = .ok (.getfield 12, 3) := by decide +kernel
theorem dX6_agreesWith_57 : decode cX6_agreesWith 57 = .ok (.aload 5, 2) := by decide +kernel
theorem dX6_agreesWith_59 : decode cX6_agreesWith 59 = .ok (.invokevirtual 48, 3) := by decide +kernel
theorem dX6_agreesWith_62 : decode cX6_agreesWith 62 = .ok (.invokevirtual 51, 3) := by decide +kernel
theorem dX6_agreesWith_65 : decode cX6_agreesWith 65 = .ok (.istore 6, 2) := by decide +kernel
theorem dX6_agreesWith_67 : decode cX6_agreesWith 67 = .ok (.aload_n 0, 1) := by decide +kernel
theorem dX6_agreesWith_68 : decode cX6_agreesWith 68 = .ok (.getfield 12, 3) := by decide +kernel
theorem dX6_agreesWith_71 : decode cX6_agreesWith 71 = .ok (.aload 5, 2) := by decide +kernel
theorem dX6_agreesWith_73 : decode cX6_agreesWith 73 = .ok (.invokevirtual 55, 3) := by decide +kernel
theorem dX6_agreesWith_76 : decode cX6_agreesWith 76 = .ok (.invokevirtual 51, 3) := by decide +kernel
theorem dX6_agreesWith_79 : decode cX6_agreesWith 79 = .ok (.istore 7, 2) := by decide +kernel
theorem dX6_agreesWith_81 : decode cX6_agreesWith 81 = .ok (.aload 5, 2) := by decide +kernel
theorem dX6_agreesWith_83 : decode cX6_agreesWith 83 = .ok (.invokevirtual 58, 3) := by decide +kernel
theorem dX6_agreesWith_86 : decode cX6_agreesWith 86 = .ok (.ifCond .eq 23, 3) := by decide +kernel
theorem dX6_agreesWith_89 : decode cX6_agreesWith 89 = .ok (.aload_n 0, 1) := by decide +kernel
theorem dX6_agreesWith_90 : decode cX6_agreesWith 90 = .ok (.aload_n 1, 1) := by decide +kernel
theorem dX6_agreesWith_91 : decode cX6_agreesWith 91 = .ok (.iload_n 3, 1) := by decide +kernel
theorem dX6_agreesWith_92 : decode cX6_agreesWith 92 = .ok (.aload 5, 2) := by decide +kernel
theorem dX6_agreesWith_94 : decode cX6_agreesWith 94 = .ok (.iload 6, 2) := by decide +kernel
theorem dX6_agreesWith_96 : decode cX6_agreesWith 96 = .ok (.iload 7, 2) := by decide +kernel
theorem dX6_agreesWith_98 : decode cX6_agreesWith 98 = .ok (.invokevirtual 62, 3) := by decide +kernel
theorem dX6_agreesWith_101 : decode cX6_agreesWith 101 = .ok (.ifCond .ne 5, 3) := by decide +kernel
theorem dX6_agreesWith_104 : decode cX6_agreesWith 104 = .ok (.iconst 0, 1) := by decide +kernel
theorem dX6_agreesWith_105 : decode cX6_agreesWith 105 = .ok (.ireturn, 1) := by decide +kernel
theorem dX6_agreesWith_106 : decode cX6_agreesWith 106 = .ok (.iinc 3 1, 3) := by decide +kernel
theorem dX6_agreesWith_109 : decode cX6_agreesWith 109 = .ok (.aload 5, 2) := by decide +kernel
theorem dX6_agreesWith_111 : decode cX6_agreesWith 111 = .ok (.iload 6, 2) := by decide +kernel
theorem dX6_agreesWith_113 : decode cX6_agreesWith 113 = .ok (.iload 7, 2) := by decide +kernel
theorem dX6_agreesWith_115 : decode cX6_agreesWith 115 = .ok (.invokevirtual 66, 3) := by decide +kernel
theorem dX6_agreesWith_118 : decode cX6_agreesWith 118 = .ok (.ifCond .eq 11, 3) := by decide +kernel
theorem dX6_agreesWith_121 : decode cX6_agreesWith 121 = .ok (.aload 5, 2) := by decide +kernel
theorem dX6_agreesWith_123 : decode cX6_agreesWith 123 = .ok (.invokevirtual 70, 3) := by decide +kernel
theorem dX6_agreesWith_126 : decode cX6_agreesWith 126 = .ok (.goto 6, 3) := by decide +kernel
theorem dX6_agreesWith_129 : decode cX6_agreesWith 129 = .ok (.iload_n 2, 1) := by decide +kernel
theorem dX6_agreesWith_130 : decode cX6_agreesWith 130 = .ok (.iconst 1, 1) := by decide +kernel
theorem dX6_agreesWith_131 : decode cX6_agreesWith 131 = .ok (.iadd, 1) := by decide +kernel
theorem dX6_agreesWith_132 : decode cX6_agreesWith 132 = .ok (.istore_n 2, 1) := by decide +kernel
theorem dX6_agreesWith_133 : decode cX6_agreesWith 133 = .ok (.iinc 4 1, 3) := by decide +kernel
theorem dX6_agreesWith_136 : decode cX6_agreesWith 136 = .ok (.goto (-118), 3) := by decide +kernel
theorem dX6_agreesWith_139 : decode cX6_agreesWith 139 = .ok (.iload_n 3, 1) := by decide +kernel
theorem dX6_agreesWith_140 : decode cX6_agreesWith 140 = .ok (.aload_n 1, 1) := by decide +kernel
theorem dX6_agreesWith_141 : decode cX6_agreesWith 141 = .ok (.invokevirtual 31, 3) := by decide +kernel
theorem dX6_agreesWith_144 : decode cX6_agreesWith 144 = .ok (.if_icmp .ne 7, 3) := by decide +kernel
theorem dX6_agreesWith_147 : decode cX6_agreesWith 147 = .ok (.iconst 1, 1) := by decide +kernel
theorem dX6_agreesWith_148 : decode cX6_agreesWith 148 = .ok (.goto 4, 3) := by decide +kernel
theorem dX6_agreesWith_151 : decode cX6_agreesWith 151 = .ok (.iconst 0, 1) := by decide +kernel
theorem dX6_agreesWith_152 : decode cX6_agreesWith 152 = .ok (.ireturn, 1) := by decide +kernel
theorem dX6_commitsAs_0 : decode cX6_commitsAs 0 = .ok (.aload_n 3, 1) := by decide +kernel
theorem dX6_commitsAs_1 : decode cX6_commitsAs 1 = .ok (.iload 4, 2) := by decide +kernel
theorem dX6_commitsAs_3 : decode cX6_commitsAs 3 = .ok (.invokevirtual 73, 3) := by decide +kernel
theorem dX6_commitsAs_6 : decode cX6_commitsAs 6 = .ok (.istore 6, 2) := by decide +kernel
theorem dX6_commitsAs_8 : decode cX6_commitsAs 8 = .ok (.aload_n 3, 1) := by decide +kernel
theorem dX6_commitsAs_9 : decode cX6_commitsAs 9 = .ok (.invokevirtual 43, 3) := by decide +kernel
theorem dX6_commitsAs_12 : decode cX6_commitsAs 12 = .ok (.iconst 5, 1) := by decide +kernel
theorem dX6_commitsAs_13 : decode cX6_commitsAs 13 = .ok (.if_icmp .ne 19, 3) := by decide +kernel
theorem dX6_commitsAs_16 : decode cX6_commitsAs 16 = .ok (.aload_n 0, 1) := by decide +kernel
theorem dX6_commitsAs_17 : decode cX6_commitsAs 17 = .ok (.getfield 12, 3) := by decide +kernel
theorem dX6_commitsAs_20 : decode cX6_commitsAs 20 = .ok (.aload_n 3, 1) := by decide +kernel
theorem dX6_commitsAs_21 : decode cX6_commitsAs 21 = .ok (.iload 4, 2) := by decide +kernel
theorem dX6_commitsAs_23 : decode cX6_commitsAs 23 = .ok (.invokevirtual 76, 3) := by decide +kernel
theorem dX6_commitsAs_26 : decode cX6_commitsAs 26 = .ok (.invokevirtual 79, 3) := by decide +kernel
theorem dX6_commitsAs_29 : decode cX6_commitsAs 29 = .ok (.goto 11, 3) := by decide +kernel
theorem dX6_commitsAs_32 : decode cX6_commitsAs 32 = .ok (.aload_n 3, 1) := by decide +kernel
theorem dX6_commitsAs_33 : decode cX6_commitsAs 33 = .ok (.iload 4, 2) := by decide +kernel
theorem dX6_commitsAs_35 : decode cX6_commitsAs 35 = .ok (.iload 5, 2) := by decide +kernel
theorem dX6_commitsAs_37 : decode cX6_commitsAs 37 = .ok (.invokevirtual 82, 3) := by decide +kernel
theorem dX6_commitsAs_40 : decode cX6_commitsAs 40 = .ok (.istore 7, 2) := by decide +kernel
theorem dX6_commitsAs_42 : decode cX6_commitsAs 42 = .ok (.aload_n 0, 1) := by decide +kernel
theorem dX6_commitsAs_43 : decode cX6_commitsAs 43 = .ok (.getfield 12, 3) := by decide +kernel
theorem dX6_commitsAs_46 : decode cX6_commitsAs 46 = .ok (.aload_n 3, 1) := by decide +kernel
theorem dX6_commitsAs_47 : decode cX6_commitsAs 47 = .ok (.iload 6, 2) := by decide +kernel
theorem dX6_commitsAs_49 : decode cX6_commitsAs 49 = .ok (.iload 7, 2) := by decide +kernel
theorem dX6_commitsAs_51 : decode cX6_commitsAs 51 = .ok (.invokevirtual 86, 3) := by decide +kernel
theorem dX6_commitsAs_54 : decode cX6_commitsAs 54 = .ok (.aload_n 1, 1) := by decide +kernel
theorem dX6_commitsAs_55 : decode cX6_commitsAs 55 = .ok (.iload_n 2, 1) := by decide +kernel
theorem dX6_commitsAs_56 : decode cX6_commitsAs 56 = .ok (.aload_n 3, 1) := by decide +kernel
theorem dX6_commitsAs_57 : decode cX6_commitsAs 57 = .ok (.invokevirtual 90, 3) := by decide +kernel
theorem dX6_commitsAs_60 : decode cX6_commitsAs 60 = .ok (.iload 6, 2) := by decide +kernel
theorem dX6_commitsAs_62 : decode cX6_commitsAs 62 = .ok (.iload 7, 2) := by decide +kernel
theorem dX6_commitsAs_64 : decode cX6_commitsAs 64 = .ok (.invokevirtual 93, 3) := by decide +kernel
theorem dX6_commitsAs_67 : decode cX6_commitsAs 67 = .ok (.ireturn, 1) := by decide +kernel
theorem dX7_init_0 : decode cX7_init 0 = .ok (.aload_n 0, 1) := by decide +kernel
theorem dX7_init_1 : decode cX7_init 1 = .ok (.invokespecial 3, 3) := by decide +kernel
theorem dX7_init_4 : decode cX7_init 4 = .ok (.aload_n 0, 1) := by decide +kernel
theorem dX7_init_5 : decode cX7_init 5 = .ok (.new 9, 3) := by decide +kernel
theorem dX7_init_8 : decode cX7_init 8 = .ok (.dup, 1) := by decide +kernel
theorem dX7_init_9 : decode cX7_init 9 = .ok (.invokespecial 11, 3) := by decide +kernel
theorem dX7_init_12 : decode cX7_init 12 = .ok (.putfield 12, 3) := by decide +kernel
theorem dX7_init_15 : decode cX7_init 15 = .ok (.aload_n 0, 1) := by decide +kernel
theorem dX7_init_16 : decode cX7_init 16 = .ok (.bipush 8, 2) := by decide +kernel
theorem dX7_init_18 : decode cX7_init 18 = .ok (.anewarray 18, 3) := by decide +kernel
theorem dX7_init_21 : decode cX7_init 21 = .ok (.putfield 20, 3) := by decide +kernel
theorem dX7_init_24 : decode cX7_init 24 = .ok (.aload_n 0, 1) := by decide +kernel
theorem dX7_init_25 : decode cX7_init 25 = .ok (.bipush 8, 2) := by decide +kernel
theorem dX7_init_27 : decode cX7_init 27 = .ok (.newarray .int, 2) := by decide +kernel
theorem dX7_init_29 : decode cX7_init 29 = .ok (.putfield 24, 3) := by decide +kernel
theorem dX7_init_32 : decode cX7_init 32 = .ok (.aload_n 0, 1) := by decide +kernel
theorem dX7_init_33 : decode cX7_init 33 = .ok (.aload_n 1, 1) := by decide +kernel
theorem dX7_init_34 : decode cX7_init 34 = .ok (.putfield 28, 3) := by decide +kernel
theorem dX7_init_37 : decode cX7_init 37 = .ok (.aload_n 0, 1) := by decide +kernel
theorem dX7_init_38 : decode cX7_init 38 = .ok (.aload_n 2, 1) := by decide +kernel
theorem dX7_init_39 : decode cX7_init 39 = .ok (.putfield 32, 3) := by decide +kernel
theorem dX7_init_42 : decode cX7_init 42 = .ok (.aload_n 0, 1) := by decide +kernel
theorem dX7_init_43 : decode cX7_init 43 = .ok (.aload_n 3, 1) := by decide +kernel
theorem dX7_init_44 : decode cX7_init 44 = .ok (.putfield 36, 3) := by decide +kernel
theorem dX7_init_47 : decode cX7_init 47 = .ok (.aload_n 0, 1) := by decide +kernel
theorem dX7_init_48 : decode cX7_init 48 = .ok (.aload 4, 2) := by decide +kernel
theorem dX7_init_50 : decode cX7_init 50 = .ok (.putfield 40, 3) := by decide +kernel
theorem dX7_init_53 : decode cX7_init 53 = .ok (.iconst 0, 1) := by decide +kernel
theorem dX7_init_54 : decode cX7_init 54 = .ok (.istore 5, 2) := by decide +kernel
theorem dX7_init_56 : decode cX7_init 56 = .ok (.iload 5, 2) := by decide +kernel
theorem dX7_init_58 : decode cX7_init 58 = .ok (.bipush 8, 2) := by decide +kernel
theorem dX7_init_60 : decode cX7_init 60 = .ok (.if_icmp .ge 28, 3) := by decide +kernel
theorem dX7_init_63 : decode cX7_init 63 = .ok (.aload_n 0, 1) := by decide +kernel
theorem dX7_init_64 : decode cX7_init 64 = .ok (.getfield 20, 3) := by decide +kernel
theorem dX7_init_67 : decode cX7_init 67 = .ok (.iload 5, 2) := by decide +kernel
theorem dX7_init_69 : decode cX7_init 69 = .ok (.new 18, 3) := by decide +kernel
theorem dX7_init_72 : decode cX7_init 72 = .ok (.dup, 1) := by decide +kernel
theorem dX7_init_73 : decode cX7_init 73 = .ok (.aload_n 2, 1) := by decide +kernel
theorem dX7_init_74 : decode cX7_init 74 = .ok (.iconst (-1), 1) := by decide +kernel
theorem dX7_init_75 : decode cX7_init 75 = .ok (.invokevirtual 44, 3) := by decide +kernel
theorem dX7_init_78 : decode cX7_init 78 = .ok (.invokespecial 50, 3) := by decide +kernel
theorem dX7_init_81 : decode cX7_init 81 = .ok (.aastore, 1) := by decide +kernel
theorem dX7_init_82 : decode cX7_init 82 = .ok (.iinc 5 1, 3) := by decide +kernel
theorem dX7_init_85 : decode cX7_init 85 = .ok (.goto (-29), 3) := by decide +kernel
theorem dX7_init_88 : decode cX7_init 88 = .ok (.return_, 1) := by decide +kernel
theorem dX7_beginAnew_0 : decode cX7_beginAnew 0 = .ok (.aload_n 0, 1) := by decide +kernel
theorem dX7_beginAnew_1 : decode cX7_beginAnew 1 = .ok (.bipush 8, 2) := by decide +kernel
theorem dX7_beginAnew_3 : decode cX7_beginAnew 3 = .ok (.invokevirtual 53, 3) := by decide +kernel
theorem dX7_beginAnew_6 : decode cX7_beginAnew 6 = .ok (.aload_n 0, 1) := by decide +kernel
theorem dX7_beginAnew_7 : decode cX7_beginAnew 7 = .ok (.getfield 12, 3) := by decide +kernel
theorem dX7_beginAnew_10 : decode cX7_beginAnew 10 = .ok (.aload_n 0, 1) := by decide +kernel
theorem dX7_beginAnew_11 : decode cX7_beginAnew 11 = .ok (.getfield 36, 3) := by decide +kernel
theorem dX7_beginAnew_14 : decode cX7_beginAnew 14 = .ok (.invokevirtual 57, 3) := by decide +kernel
theorem dX7_beginAnew_17 : decode cX7_beginAnew 17 = .ok (.aload_n 0, 1) := by decide +kernel
theorem dX7_beginAnew_18 : decode cX7_beginAnew 18 = .ok (.getfield 40, 3) := by decide +kernel
theorem dX7_beginAnew_21 : decode cX7_beginAnew 21 = .ok (.invokevirtual 61, 3) := by decide +kernel
theorem dX7_beginAnew_24 : decode cX7_beginAnew 24 = .ok (.aload_n 0, 1) := by decide +kernel
theorem dX7_beginAnew_25 : decode cX7_beginAnew 25 = .ok (.getfield 24, 3) := by decide +kernel
theorem dX7_beginAnew_28 : decode cX7_beginAnew 28 = .ok (.iconst 0, 1) := by decide +kernel
theorem dX7_beginAnew_29 : decode cX7_beginAnew 29 = .ok (.invokestatic 66, 3) := by decide +kernel
theorem dX7_beginAnew_32 : decode cX7_beginAnew 32 = .ok (.aload_n 0, 1) := by decide +kernel
theorem dX7_beginAnew_33 : decode cX7_beginAnew 33 = .ok (.iconst 0, 1) := by decide +kernel
theorem dX7_beginAnew_34 : decode cX7_beginAnew 34 = .ok (.putfield 72, 3) := by decide +kernel
theorem dX7_beginAnew_37 : decode cX7_beginAnew 37 = .ok (.aload_n 0, 1) := by decide +kernel
theorem dX7_beginAnew_38 : decode cX7_beginAnew 38 = .ok (.iconst 0, 1) := by decide +kernel
theorem dX7_beginAnew_39 : decode cX7_beginAnew 39 = .ok (.putfield 76, 3) := by decide +kernel
theorem dX7_beginAnew_42 : decode cX7_beginAnew 42 = .ok (.aload_n 0, 1) := by decide +kernel
theorem dX7_beginAnew_43 : decode cX7_beginAnew 43 = .ok (.iconst 0, 1) := by decide +kernel
theorem dX7_beginAnew_44 : decode cX7_beginAnew 44 = .ok (.putfield 79, 3) := by decide +kernel
theorem dX7_beginAnew_47 : decode cX7_beginAnew 47 = .ok (.aload_n 0, 1) := by decide +kernel
theorem dX7_beginAnew_48 : decode cX7_beginAnew 48 = .ok (.iconst 0, 1) := by decide +kernel
theorem dX7_beginAnew_49 : decode cX7_beginAnew 49 = .ok (.putfield 82, 3) := by decide +kernel
theorem dX7_beginAnew_52 : decode cX7_beginAnew 52 = .ok (.aload_n 0, 1) := by decide +kernel
theorem dX7_beginAnew_53 : decode cX7_beginAnew 53 = .ok (.iconst 0, 1) := by decide +kernel
theorem dX7_beginAnew_54 : decode cX7_beginAnew 54 = .ok (.putfield 85, 3) := by decide +kernel
theorem dX7_beginAnew_57 : decode cX7_beginAnew 57 = .ok (.return_, 1) := by decide +kernel
theorem dX7_advance_0 : decode cX7_advance 0 = .ok (.iconst 0, 1) := by decide +kernel
theorem dX7_advance_1 : decode cX7_advance 1 = .ok (.istore_n 2, 1) := by decide +kernel
theorem dX7_advance_2 : decode cX7_advance 2 = .ok (.iload_n 2, 1) := by decide +kernel
theorem dX7_advance_3 : decode cX7_advance 3 = .ok (.iload_n 1, 1) := by decide +kernel
theorem dX7_advance_4 : decode cX7_advance 4 = .ok (.if_icmp .ge 20, 3) := by decide +kernel
theorem dX7_advance_7 : decode cX7_advance 7 = .ok (.aload_n 0, 1) := by decide +kernel
theorem dX7_advance_8 : decode cX7_advance 8 = .ok (.getfield 85, 3) := by decide +kernel
theorem dX7_advance_11 : decode cX7_advance 11 = .ok (.ifCond .ne 13, 3) := by decide +kernel
theorem dX7_advance_14 : decode cX7_advance 14 = .ok (.aload_n 0, 1) := by decide +kernel
theorem dX7_advance_15 : decode cX7_advance 15 = .ok (.invokevirtual 89, 3) := by decide +kernel
theorem dX7_advance_18 : decode cX7_advance 18 = .ok (.iinc 2 1, 3) := by decide +kernel
theorem dX7_advance_21 : decode cX7_advance 21 = .ok (.goto (-19), 3) := by decide +kernel
theorem dX7_advance_24 : decode cX7_advance 24 = .ok (.return_, 1) := by decide +kernel
theorem dX7_reached_0 : decode cX7_reached 0 = .ok (.aload_n 0, 1) := by decide +kernel
theorem dX7_reached_1 : decode cX7_reached 1 = .ok (.getfield 79, 3) := by decide +kernel
theorem dX7_reached_4 : decode cX7_reached 4 = .ok (.ireturn, 1) := by decide +kernel
theorem dX7_isEnded_0 : decode cX7_isEnded 0 = .ok (.aload_n 0, 1) := by decide +kernel
theorem dX7_isEnded_1 : decode cX7_isEnded 1 = .ok (.getfield 85, 3) := by decide +kernel
theorem dX7_isEnded_4 : decode cX7_isEnded 4 = .ok (.ireturn, 1) := by decide +kernel
theorem dX7_gone_0 : decode cX7_gone 0 = .ok (.aload_n 0, 1) := by decide +kernel
theorem dX7_gone_1 : decode cX7_gone 1 = .ok (.getfield 82, 3) := by decide +kernel
theorem dX7_gone_4 : decode cX7_gone 4 = .ok (.ireturn, 1) := by decide +kernel
theorem dX7_holdings_0 : decode cX7_holdings 0 = .ok (.aload_n 0, 1) := by decide +kernel
theorem dX7_holdings_1 : decode cX7_holdings 1 = .ok (.getfield 12, 3) := by decide +kernel
theorem dX7_holdings_4 : decode cX7_holdings 4 = .ok (.areturn, 1) := by decide +kernel
theorem dX7_step_0 : decode cX7_step 0 = .ok (.aload_n 0, 1) := by decide +kernel
theorem dX7_step_1 : decode cX7_step 1 = .ok (.dup, 1) := by decide +kernel
theorem dX7_step_2 : decode cX7_step 2 = .ok (.getfield 79, 3) := by decide +kernel
theorem dX7_step_5 : decode cX7_step 5 = .ok (.iconst 1, 1) := by decide +kernel
theorem dX7_step_6 : decode cX7_step 6 = .ok (.iadd, 1) := by decide +kernel
theorem dX7_step_7 : decode cX7_step 7 = .ok (.putfield 79, 3) := by decide +kernel
theorem dX7_step_10 : decode cX7_step 10 = .ok (.aload_n 0, 1) := by decide +kernel
theorem dX7_step_11 : decode cX7_step 11 = .ok (.getfield 20, 3) := by decide +kernel
theorem dX7_step_14 : decode cX7_step 14 = .ok (.iconst 0, 1) := by decide +kernel
theorem dX7_step_15 : decode cX7_step 15 = .ok (.aaload, 1) := by decide +kernel
theorem dX7_step_16 : decode cX7_step 16 = .ok (.invokevirtual 92, 3) := by decide +kernel
theorem dX7_step_19 : decode cX7_step 19 = .ok (.ifCond .ne 33, 3) := by decide +kernel
theorem dX7_step_22 : decode cX7_step 22 = .ok (.aload_n 0, 1) := by decide +kernel
theorem dX7_step_23 : decode cX7_step 23 = .ok (.getfield 20, 3) := by decide +kernel
theorem dX7_step_26 : decode cX7_step 26 = .ok (.iconst 0, 1) := by decide +kernel
theorem dX7_step_27 : decode cX7_step 27 = .ok (.aaload, 1) := by decide +kernel
theorem dX7_step_28 : decode cX7_step 28 = .ok (.aload_n 0, 1) := by decide +kernel
theorem dX7_step_29 : decode cX7_step 29 = .ok (.getfield 32, 3) := by decide +kernel
theorem dX7_step_32 : decode cX7_step 32 = .ok (.aload_n 0, 1) := by decide +kernel
theorem dX7_step_33 : decode cX7_step 33 = .ok (.getfield 76, 3) := by decide +kernel
theorem dX7_step_36 : decode cX7_step 36 = .ok (.invokevirtual 44, 3) := by decide +kernel
theorem dX7_step_39 : decode cX7_step 39 = .ok (.invokevirtual 96, 3) := by decide +kernel
theorem dX7_step_42 : decode cX7_step 42 = .ok (.aload_n 0, 1) := by decide +kernel
theorem dX7_step_43 : decode cX7_step 43 = .ok (.dup, 1) := by decide +kernel
theorem dX7_step_44 : decode cX7_step 44 = .ok (.getfield 76, 3) := by decide +kernel
theorem dX7_step_47 : decode cX7_step 47 = .ok (.iconst 1, 1) := by decide +kernel
theorem dX7_step_48 : decode cX7_step 48 = .ok (.iadd, 1) := by decide +kernel
theorem dX7_step_49 : decode cX7_step 49 = .ok (.putfield 76, 3) := by decide +kernel
theorem dX7_step_52 : decode cX7_step 52 = .ok (.aload_n 0, 1) := by decide +kernel
theorem dX7_step_53 : decode cX7_step 53 = .ok (.getfield 28, 3) := by decide +kernel
theorem dX7_step_56 : decode cX7_step 56 = .ok (.invokevirtual 99, 3) := by decide +kernel
theorem dX7_step_59 : decode cX7_step 59 = .ok (.iconst 1, 1) := by decide +kernel
theorem dX7_step_60 : decode cX7_step 60 = .ok (.isub, 1) := by decide +kernel
theorem dX7_step_61 : decode cX7_step 61 = .ok (.istore_n 1, 1) := by decide +kernel
theorem dX7_step_62 : decode cX7_step 62 = .ok (.iload_n 1, 1) := by decide +kernel
theorem dX7_step_63 : decode cX7_step 63 = .ok (.ifCond .lt 34, 3) := by decide +kernel
theorem dX7_step_66 : decode cX7_step 66 = .ok (.aload_n 0, 1) := by decide +kernel
theorem dX7_step_67 : decode cX7_step 67 = .ok (.getfield 20, 3) := by decide +kernel
theorem dX7_step_70 : decode cX7_step 70 = .ok (.iload_n 1, 1) := by decide +kernel
theorem dX7_step_71 : decode cX7_step 71 = .ok (.aaload, 1) := by decide +kernel
theorem dX7_step_72 : decode cX7_step 72 = .ok (.invokevirtual 92, 3) := by decide +kernel
theorem dX7_step_75 : decode cX7_step 75 = .ok (.ifCond .eq 16, 3) := by decide +kernel
theorem dX7_step_78 : decode cX7_step 78 = .ok (.aload_n 0, 1) := by decide +kernel
theorem dX7_step_79 : decode cX7_step 79 = .ok (.iload_n 1, 1) := by decide +kernel
theorem dX7_step_80 : decode cX7_step 80 = .ok (.invokevirtual 105, 3) := by decide +kernel
theorem dX7_step_83 : decode cX7_step 83 = .ok (.ifCond .eq 8, 3) := by decide +kernel
theorem dX7_step_86 : decode cX7_step 86 = .ok (.aload_n 0, 1) := by decide +kernel
theorem dX7_step_87 : decode cX7_step 87 = .ok (.iload_n 1, 1) := by decide +kernel
theorem dX7_step_88 : decode cX7_step 88 = .ok (.invokevirtual 109, 3) := by decide +kernel
theorem dX7_step_91 : decode cX7_step 91 = .ok (.iinc 1 (-1), 3) := by decide +kernel
theorem dX7_step_94 : decode cX7_step 94 = .ok (.goto (-32), 3) := by decide +kernel
theorem dX7_step_97 : decode cX7_step 97 = .ok (.return_, 1) := by decide +kernel
theorem dX7_isLast_0 : decode cX7_isLast 0 = .ok (.iload_n 1, 1) := by decide +kernel
theorem dX7_isLast_1 : decode cX7_isLast 1 = .ok (.iconst 1, 1) := by decide +kernel
theorem dX7_isLast_2 : decode cX7_isLast 2 = .ok (.iadd, 1) := by decide +kernel
theorem dX7_isLast_3 : decode cX7_isLast 3 = .ok (.aload_n 0, 1) := by decide +kernel
theorem dX7_isLast_4 : decode cX7_isLast 4 = .ok (.getfield 28, 3) := by decide +kernel
theorem dX7_isLast_7 : decode cX7_isLast 7 = .ok (.invokevirtual 99, 3) := by decide +kernel
theorem dX7_isLast_10 : decode cX7_isLast 10 = .ok (.if_icmp .lt 7, 3) := by decide +kernel
theorem dX7_isLast_13 : decode cX7_isLast 13 = .ok (.iconst 1, 1) := by decide +kernel
theorem dX7_isLast_14 : decode cX7_isLast 14 = .ok (.goto 4, 3) := by decide +kernel
theorem dX7_isLast_17 : decode cX7_isLast 17 = .ok (.iconst 0, 1) := by decide +kernel
theorem dX7_isLast_18 : decode cX7_isLast 18 = .ok (.ireturn, 1) := by decide +kernel
theorem dX7_mayFire_0 : decode cX7_mayFire 0 = .ok (.aload_n 0, 1) := by decide +kernel
theorem dX7_mayFire_1 : decode cX7_mayFire 1 = .ok (.iload_n 1, 1) := by decide +kernel
theorem dX7_mayFire_2 : decode cX7_mayFire 2 = .ok (.invokevirtual 112, 3) := by decide +kernel
theorem dX7_mayFire_5 : decode cX7_mayFire 5 = .ok (.ifCond .ne 19, 3) := by decide +kernel
theorem dX7_mayFire_8 : decode cX7_mayFire 8 = .ok (.aload_n 0, 1) := by decide +kernel
theorem dX7_mayFire_9 : decode cX7_mayFire 9 = .ok (.getfield 20, 3) := by decide +kernel
theorem dX7_mayFire_12 : decode cX7_mayFire 12 = .ok (.iload_n 1, 1) := by decide +kernel
theorem dX7_mayFire_13 : decode cX7_mayFire 13 = .ok (.iconst 1, 1) := by decide +kernel
theorem dX7_mayFire_14 : decode cX7_mayFire 14 = .ok (.iadd, 1) := by decide +kernel
theorem dX7_mayFire_15 : decode cX7_mayFire 15 = .ok (.aaload, 1) := by decide +kernel
theorem dX7_mayFire_16 : decode cX7_mayFire 16 = .ok (.invokevirtual 92, 3) := by decide +kernel
theorem dX7_mayFire_19 : decode cX7_mayFire 19 = .ok (.ifCond .eq 5, 3) := by decide +kernel
theorem dX7_mayFire_22 : decode cX7_mayFire 22 = .ok (.iconst 0, 1) := by decide +kernel
theorem dX7_mayFire_23 : decode cX7_mayFire 23 = .ok (.ireturn, 1) := by decide +kernel
theorem dX7_mayFire_24 : decode cX7_mayFire 24 = .ok (.aload_n 0, 1) := by decide +kernel
theorem dX7_mayFire_25 : decode cX7_mayFire 25 = .ok (.getfield 20, 3) := by decide +kernel
theorem dX7_mayFire_28 : decode cX7_mayFire 28 = .ok (.iload_n 1, 1) := by decide +kernel
theorem dX7_mayFire_29 : decode cX7_mayFire 29 = .ok (.aaload, 1) := by decide +kernel
theorem dX7_mayFire_30 : decode cX7_mayFire 30 = .ok (.astore_n 2, 1) := by decide +kernel
theorem dX7_mayFire_31 : decode cX7_mayFire 31 = .ok (.aload_n 0, 1) := by decide +kernel
theorem dX7_mayFire_32 : decode cX7_mayFire 32 = .ok (.getfield 28, 3) := by decide +kernel
theorem dX7_mayFire_35 : decode cX7_mayFire 35 = .ok (.iconst 1, 1) := by decide +kernel
theorem dX7_mayFire_36 : decode cX7_mayFire 36 = .ok (.iload_n 1, 1) := by decide +kernel
theorem dX7_mayFire_37 : decode cX7_mayFire 37 = .ok (.invokevirtual 115, 3) := by decide +kernel
theorem dX7_mayFire_40 : decode cX7_mayFire 40 = .ok (.ifCond .eq 17, 3) := by decide +kernel
theorem dX7_mayFire_43 : decode cX7_mayFire 43 = .ok (.aload_n 0, 1) := by decide +kernel
theorem dX7_mayFire_44 : decode cX7_mayFire 44 = .ok (.iload_n 1, 1) := by decide +kernel
theorem dX7_mayFire_45 : decode cX7_mayFire 45 = .ok (.aload_n 2, 1) := by decide +kernel
theorem dX7_mayFire_46 : decode cX7_mayFire 46 = .ok (.invokevirtual 119, 3) := by decide +kernel
theorem dX7_mayFire_49 : decode cX7_mayFire 49 = .ok (.invokevirtual 123, 3) := by decide +kernel
theorem dX7_mayFire_52 : decode cX7_mayFire 52 = .ok (.ifCond .ne 5, 3) := by decide +kernel
theorem dX7_mayFire_55 : decode cX7_mayFire 55 = .ok (.iconst 0, 1) := by decide +kernel
theorem dX7_mayFire_56 : decode cX7_mayFire 56 = .ok (.ireturn, 1) := by decide +kernel
theorem dX7_mayFire_57 : decode cX7_mayFire 57 = .ok (.aload_n 2, 1) := by decide +kernel
theorem dX7_mayFire_58 : decode cX7_mayFire 58 = .ok (.invokevirtual 119, 3) := by decide +kernel
theorem dX7_mayFire_61 : decode cX7_mayFire 61 = .ok (.invokevirtual 127, 3) := by decide +kernel
theorem dX7_mayFire_64 : decode cX7_mayFire 64 = .ok (.iconst 5, 1) := by decide +kernel
theorem dX7_mayFire_65 : decode cX7_mayFire 65 = .ok (.if_icmp .eq 5, 3) := by decide +kernel
theorem dX7_mayFire_68 : decode cX7_mayFire 68 = .ok (.iconst 1, 1) := by decide +kernel
theorem dX7_mayFire_69 : decode cX7_mayFire 69 = .ok (.ireturn, 1) := by decide +kernel
theorem dX7_mayFire_70 : decode cX7_mayFire 70 = .ok (.aload_n 0, 1) := by decide +kernel
theorem dX7_mayFire_71 : decode cX7_mayFire 71 = .ok (.getfield 28, 3) := by decide +kernel
theorem dX7_mayFire_74 : decode cX7_mayFire 74 = .ok (.iconst 4, 1) := by decide +kernel
theorem dX7_mayFire_75 : decode cX7_mayFire 75 = .ok (.iload_n 1, 1) := by decide +kernel
theorem dX7_mayFire_76 : decode cX7_mayFire 76 = .ok (.invokevirtual 115, 3) := by decide +kernel
theorem dX7_mayFire_79 : decode cX7_mayFire 79 = .ok (.ifCond .eq 13, 3) := by decide +kernel
theorem dX7_mayFire_82 : decode cX7_mayFire 82 = .ok (.aload_n 0, 1) := by decide +kernel
theorem dX7_mayFire_83 : decode cX7_mayFire 83 = .ok (.iload_n 1, 1) := by decide +kernel
theorem dX7_mayFire_84 : decode cX7_mayFire 84 = .ok (.invokevirtual 132, 3) := by decide +kernel
theorem dX7_mayFire_87 : decode cX7_mayFire 87 = .ok (.ifCond .eq 5, 3) := by decide +kernel
theorem dX7_mayFire_90 : decode cX7_mayFire 90 = .ok (.iconst 0, 1) := by decide +kernel
theorem dX7_mayFire_91 : decode cX7_mayFire 91 = .ok (.ireturn, 1) := by decide +kernel
theorem dX7_mayFire_92 : decode cX7_mayFire 92 = .ok (.aload_n 0, 1) := by decide +kernel
theorem dX7_mayFire_93 : decode cX7_mayFire 93 = .ok (.getfield 28, 3) := by decide +kernel
theorem dX7_mayFire_96 : decode cX7_mayFire 96 = .ok (.iconst 5, 1) := by decide +kernel
theorem dX7_mayFire_97 : decode cX7_mayFire 97 = .ok (.iload_n 1, 1) := by decide +kernel
theorem dX7_mayFire_98 : decode cX7_mayFire 98 = .ok (.invokevirtual 115, 3) := by decide +kernel
theorem dX7_mayFire_101 : decode cX7_mayFire 101 = .ok (.ifCond .eq 25, 3) := by decide +kernel
theorem dX7_mayFire_104 : decode cX7_mayFire 104 = .ok (.aload_n 2, 1) := by decide +kernel
theorem dX7_mayFire_105 : decode cX7_mayFire 105 = .ok (.aload_n 0, 1) := by decide +kernel
theorem dX7_mayFire_106 : decode cX7_mayFire 106 = .ok (.getfield 79, 3) := by decide +kernel
theorem dX7_mayFire_109 : decode cX7_mayFire 109 = .ok (.aload_n 0, 1) := by decide +kernel
theorem dX7_mayFire_110 : decode cX7_mayFire 110 = .ok (.getfield 36, 3) := by decide +kernel
theorem dX7_mayFire_113 : decode cX7_mayFire 113 = .ok (.aload_n 2, 1) := by decide +kernel
theorem dX7_mayFire_114 : decode cX7_mayFire 114 = .ok (.invokevirtual 135, 3) := by decide +kernel
theorem dX7_mayFire_117 : decode cX7_mayFire 117 = .ok (.invokevirtual 138, 3) := by decide +kernel
theorem dX7_mayFire_120 : decode cX7_mayFire 120 = .ok (.invokevirtual 144, 3) := by decide +kernel
theorem dX7_mayFire_123 : decode cX7_mayFire 123 = .ok (.ifCond .eq 7, 3) := by decide +kernel
theorem dX7_mayFire_126 : decode cX7_mayFire 126 = .ok (.iconst 1, 1) := by decide +kernel
theorem dX7_mayFire_127 : decode cX7_mayFire 127 = .ok (.goto 4, 3) := by decide +kernel
theorem dX7_mayFire_130 : decode cX7_mayFire 130 = .ok (.iconst 0, 1) := by decide +kernel
theorem dX7_mayFire_131 : decode cX7_mayFire 131 = .ok (.ireturn, 1) := by decide +kernel
theorem dX7_mayRead_0 : decode cX7_mayRead 0 = .ok (.aload_n 2, 1) := by decide +kernel
theorem dX7_mayRead_1 : decode cX7_mayRead 1 = .ok (.invokevirtual 147, 3) := by decide +kernel
theorem dX7_mayRead_4 : decode cX7_mayRead 4 = .ok (.ifCond .eq 17, 3) := by decide +kernel
theorem dX7_mayRead_7 : decode cX7_mayRead 7 = .ok (.aload_n 0, 1) := by decide +kernel
theorem dX7_mayRead_8 : decode cX7_mayRead 8 = .ok (.iload_n 1, 1) := by decide +kernel
theorem dX7_mayRead_9 : decode cX7_mayRead 9 = .ok (.aload_n 2, 1) := by decide +kernel
theorem dX7_mayRead_10 : decode cX7_mayRead 10 = .ok (.invokevirtual 150, 3) := by decide +kernel
theorem dX7_mayRead_13 : decode cX7_mayRead 13 = .ok (.invokevirtual 153, 3) := by decide +kernel
theorem dX7_mayRead_16 : decode cX7_mayRead 16 = .ok (.ifCond .ne 5, 3) := by decide +kernel
theorem dX7_mayRead_19 : decode cX7_mayRead 19 = .ok (.iconst 0, 1) := by decide +kernel
theorem dX7_mayRead_20 : decode cX7_mayRead 20 = .ok (.ireturn, 1) := by decide +kernel
theorem dX7_mayRead_21 : decode cX7_mayRead 21 = .ok (.aload_n 2, 1) := by decide +kernel
theorem dX7_mayRead_22 : decode cX7_mayRead 22 = .ok (.invokevirtual 156, 3) := by decide +kernel
theorem dX7_mayRead_25 : decode cX7_mayRead 25 = .ok (.ifCond .eq 15, 3) := by decide +kernel
theorem dX7_mayRead_28 : decode cX7_mayRead 28 = .ok (.aload_n 0, 1) := by decide +kernel
theorem dX7_mayRead_29 : decode cX7_mayRead 29 = .ok (.iload_n 1, 1) := by decide +kernel
theorem dX7_mayRead_30 : decode cX7_mayRead 30 = .ok (.aload_n 2, 1) := by decide +kernel
theorem dX7_mayRead_31 : decode cX7_mayRead 31 = .ok (.invokevirtual 159, 3) := by decide +kernel
theorem dX7_mayRead_34 : decode cX7_mayRead 34 = .ok (.invokevirtual 153, 3) := by decide +kernel
theorem dX7_mayRead_37 : decode cX7_mayRead 37 = .ok (.ifCond .eq 7, 3) := by decide +kernel
theorem dX7_mayRead_40 : decode cX7_mayRead 40 = .ok (.iconst 1, 1) := by decide +kernel
theorem dX7_mayRead_41 : decode cX7_mayRead 41 = .ok (.goto 4, 3) := by decide +kernel
theorem dX7_mayRead_44 : decode cX7_mayRead 44 = .ok (.iconst 0, 1) := by decide +kernel
theorem dX7_mayRead_45 : decode cX7_mayRead 45 = .ok (.ireturn, 1) := by decide +kernel
theorem dX7_isReady_0 : decode cX7_isReady 0 = .ok (.aload_n 0, 1) := by decide +kernel
theorem dX7_isReady_1 : decode cX7_isReady 1 = .ok (.iload_n 1, 1) := by decide +kernel
theorem dX7_isReady_2 : decode cX7_isReady 2 = .ok (.iload_n 2, 1) := by decide +kernel
theorem dX7_isReady_3 : decode cX7_isReady 3 = .ok (.invokevirtual 162, 3) := by decide +kernel
theorem dX7_isReady_6 : decode cX7_isReady 6 = .ok (.istore_n 3, 1) := by decide +kernel
theorem dX7_isReady_7 : decode cX7_isReady 7 = .ok (.iload_n 3, 1) := by decide +kernel
theorem dX7_isReady_8 : decode cX7_isReady 8 = .ok (.iconst (-1), 1) := by decide +kernel
theorem dX7_isReady_9 : decode cX7_isReady 9 = .ok (.if_icmp .eq 17, 3) := by decide +kernel
theorem dX7_isReady_12 : decode cX7_isReady 12 = .ok (.aload_n 0, 1) := by decide +kernel
theorem dX7_isReady_13 : decode cX7_isReady 13 = .ok (.getfield 20, 3) := by decide +kernel
theorem dX7_isReady_16 : decode cX7_isReady 16 = .ok (.iload_n 3, 1) := by decide +kernel
theorem dX7_isReady_17 : decode cX7_isReady 17 = .ok (.aaload, 1) := by decide +kernel
theorem dX7_isReady_18 : decode cX7_isReady 18 = .ok (.aload_n 0, 1) := by decide +kernel
theorem dX7_isReady_19 : decode cX7_isReady 19 = .ok (.getfield 79, 3) := by decide +kernel
theorem dX7_isReady_22 : decode cX7_isReady 22 = .ok (.invokevirtual 166, 3) := by decide +kernel
theorem dX7_isReady_25 : decode cX7_isReady 25 = .ok (.ireturn, 1) := by decide +kernel
theorem dX7_isReady_26 : decode cX7_isReady 26 = .ok (.iload_n 2, 1) := by decide +kernel
theorem dX7_isReady_27 : decode cX7_isReady 27 = .ok (.invokestatic 169, 3) := by decide +kernel
theorem dX7_isReady_30 : decode cX7_isReady 30 = .ok (.ifCond .eq 16, 3) := by decide +kernel
theorem dX7_isReady_33 : decode cX7_isReady 33 = .ok (.aload_n 0, 1) := by decide +kernel
theorem dX7_isReady_34 : decode cX7_isReady 34 = .ok (.getfield 24, 3) := by decide +kernel
theorem dX7_isReady_37 : decode cX7_isReady 37 = .ok (.iload_n 2, 1) := by decide +kernel
theorem dX7_isReady_38 : decode cX7_isReady 38 = .ok (.iaload, 1) := by decide +kernel
theorem dX7_isReady_39 : decode cX7_isReady 39 = .ok (.aload_n 0, 1) := by decide +kernel
theorem dX7_isReady_40 : decode cX7_isReady 40 = .ok (.getfield 79, 3) := by decide +kernel
theorem dX7_isReady_43 : decode cX7_isReady 43 = .ok (.if_icmp .eq 7, 3) := by decide +kernel
theorem dX7_isReady_46 : decode cX7_isReady 46 = .ok (.iconst 1, 1) := by decide +kernel
theorem dX7_isReady_47 : decode cX7_isReady 47 = .ok (.goto 4, 3) := by decide +kernel
theorem dX7_isReady_50 : decode cX7_isReady 50 = .ok (.iconst 0, 1) := by decide +kernel
theorem dX7_isReady_51 : decode cX7_isReady 51 = .ok (.ireturn, 1) := by decide +kernel
theorem dX7_writerAhead_0 : decode cX7_writerAhead 0 = .ok (.iload_n 1, 1) := by decide +kernel
theorem dX7_writerAhead_1 : decode cX7_writerAhead 1 = .ok (.iconst 1, 1) := by decide +kernel
theorem dX7_writerAhead_2 : decode cX7_writerAhead 2 = .ok (.iadd, 1) := by decide +kernel
theorem dX7_writerAhead_3 : decode cX7_writerAhead 3 = .ok (.istore_n 3, 1) := by decide +kernel
theorem dX7_writerAhead_4 : decode cX7_writerAhead 4 = .ok (.iload_n 3, 1) := by decide +kernel
theorem dX7_writerAhead_5 : decode cX7_writerAhead 5 = .ok (.aload_n 0, 1) := by decide +kernel
theorem dX7_writerAhead_6 : decode cX7_writerAhead 6 = .ok (.getfield 28, 3) := by decide +kernel
theorem dX7_writerAhead_9 : decode cX7_writerAhead 9 = .ok (.invokevirtual 99, 3) := by decide +kernel
theorem dX7_writerAhead_12 : decode cX7_writerAhead 12 = .ok (.if_icmp .ge 39, 3) := by decide +kernel
theorem dX7_writerAhead_15 : decode cX7_writerAhead 15 = .ok (.aload_n 0, 1) := by decide +kernel
theorem dX7_writerAhead_16 : decode cX7_writerAhead 16 = .ok (.getfield 20, 3) := by decide +kernel
theorem dX7_writerAhead_19 : decode cX7_writerAhead 19 = .ok (.iload_n 3, 1) := by decide +kernel
theorem dX7_writerAhead_20 : decode cX7_writerAhead 20 = .ok (.aaload, 1) := by decide +kernel
theorem dX7_writerAhead_21 : decode cX7_writerAhead 21 = .ok (.invokevirtual 92, 3) := by decide +kernel
theorem dX7_writerAhead_24 : decode cX7_writerAhead 24 = .ok (.ifCond .eq 21, 3) := by decide +kernel
theorem dX7_writerAhead_27 : decode cX7_writerAhead 27 = .ok (.aload_n 0, 1) := by decide +kernel
theorem dX7_writerAhead_28 : decode cX7_writerAhead 28 = .ok (.getfield 20, 3) := by decide +kernel
theorem dX7_writerAhead_31 : decode cX7_writerAhead 31 = .ok (.iload_n 3, 1) := by decide +kernel
theorem dX7_writerAhead_32 : decode cX7_writerAhead 32 = .ok (.aaload, 1) := by decide +kernel
theorem dX7_writerAhead_33 : decode cX7_writerAhead 33 = .ok (.invokevirtual 119, 3) := by decide +kernel
theorem dX7_writerAhead_36 : decode cX7_writerAhead 36 = .ok (.iload_n 2, 1) := by decide +kernel
theorem dX7_writerAhead_37 : decode cX7_writerAhead 37 = .ok (.invokevirtual 172, 3) := by decide +kernel
theorem dX7_writerAhead_40 : decode cX7_writerAhead 40 = .ok (.ifCond .eq 5, 3) := by decide +kernel
theorem dX7_writerAhead_43 : decode cX7_writerAhead 43 = .ok (.iload_n 3, 1) := by decide +kernel
theorem dX7_writerAhead_44 : decode cX7_writerAhead 44 = .ok (.ireturn, 1) := by decide +kernel
theorem dX7_writerAhead_45 : decode cX7_writerAhead 45 = .ok (.iinc 3 1, 3) := by decide +kernel
theorem dX7_writerAhead_48 : decode cX7_writerAhead 48 = .ok (.goto (-44), 3) := by decide +kernel
theorem dX7_writerAhead_51 : decode cX7_writerAhead 51 = .ok (.iconst (-1), 1) := by decide +kernel
theorem dX7_writerAhead_52 : decode cX7_writerAhead 52 = .ok (.ireturn, 1) := by decide +kernel
theorem dX7_isStoreAhead_0 : decode cX7_isStoreAhead 0 = .ok (.iload_n 1, 1) := by decide +kernel
theorem dX7_isStoreAhead_1 : decode cX7_isStoreAhead 1 = .ok (.iconst 1, 1) := by decide +kernel
theorem dX7_isStoreAhead_2 : decode cX7_isStoreAhead 2 = .ok (.iadd, 1) := by decide +kernel
theorem dX7_isStoreAhead_3 : decode cX7_isStoreAhead 3 = .ok (.istore_n 2, 1) := by decide +kernel
theorem dX7_isStoreAhead_4 : decode cX7_isStoreAhead 4 = .ok (.iload_n 2, 1) := by decide +kernel
theorem dX7_isStoreAhead_5 : decode cX7_isStoreAhead 5 = .ok (.aload_n 0, 1) := by decide +kernel
theorem dX7_isStoreAhead_6 : decode cX7_isStoreAhead 6 = .ok (.getfield 28, 3) := by decide +kernel
theorem dX7_isStoreAhead_9 : decode cX7_isStoreAhead 9 = .ok (.invokevirtual 99, 3) := by decide +kernel
theorem dX7_isStoreAhead_12 : decode cX7_isStoreAhead 12 = .ok (.if_icmp .ge 40, 3) := by decide +kernel
theorem dX7_isStoreAhead_15 : decode cX7_isStoreAhead 15 = .ok (.aload_n 0, 1) := by decide +kernel
theorem dX7_isStoreAhead_16 : decode cX7_isStoreAhead 16 = .ok (.getfield 20, 3) := by decide +kernel
theorem dX7_isStoreAhead_19 : decode cX7_isStoreAhead 19 = .ok (.iload_n 2, 1) := by decide +kernel
theorem dX7_isStoreAhead_20 : decode cX7_isStoreAhead 20 = .ok (.aaload, 1) := by decide +kernel
theorem dX7_isStoreAhead_21 : decode cX7_isStoreAhead 21 = .ok (.invokevirtual 92, 3) := by decide +kernel
theorem dX7_isStoreAhead_24 : decode cX7_isStoreAhead 24 = .ok (.ifCond .eq 22, 3) := by decide +kernel
theorem dX7_isStoreAhead_27 : decode cX7_isStoreAhead 27 = .ok (.aload_n 0, 1) := by decide +kernel
theorem dX7_isStoreAhead_28 : decode cX7_isStoreAhead 28 = .ok (.getfield 20, 3) := by decide +kernel
theorem dX7_isStoreAhead_31 : decode cX7_isStoreAhead 31 = .ok (.iload_n 2, 1) := by decide +kernel
theorem dX7_isStoreAhead_32 : decode cX7_isStoreAhead 32 = .ok (.aaload, 1) := by decide +kernel
theorem dX7_isStoreAhead_33 : decode cX7_isStoreAhead 33 = .ok (.invokevirtual 119, 3) := by decide +kernel
theorem dX7_isStoreAhead_36 : decode cX7_isStoreAhead 36 = .ok (.invokevirtual 127, 3) := by decide +kernel
theorem dX7_isStoreAhead_39 : decode cX7_isStoreAhead 39 = .ok (.bipush 6, 2) := by decide +kernel
theorem dX7_isStoreAhead_41 : decode cX7_isStoreAhead 41 = .ok (.if_icmp .ne 5, 3) := by decide +kernel
theorem dX7_isStoreAhead_44 : decode cX7_isStoreAhead 44 = .ok (.iconst 1, 1) := by decide +kernel
theorem dX7_isStoreAhead_45 : decode cX7_isStoreAhead 45 = .ok (.ireturn, 1) := by decide +kernel
theorem dX7_isStoreAhead_46 : decode cX7_isStoreAhead 46 = .ok (.iinc 2 1, 3) := by decide +kernel
theorem dX7_isStoreAhead_49 : decode cX7_isStoreAhead 49 = .ok (.goto (-45), 3) := by decide +kernel
theorem dX7_isStoreAhead_52 : decode cX7_isStoreAhead 52 = .ok (.aload_n 0, 1) := by decide +kernel
theorem dX7_isStoreAhead_53 : decode cX7_isStoreAhead 53 = .ok (.getfield 72, 3) := by decide +kernel
theorem dX7_isStoreAhead_56 : decode cX7_isStoreAhead 56 = .ok (.aload_n 0, 1) := by decide +kernel
theorem dX7_isStoreAhead_57 : decode cX7_isStoreAhead 57 = .ok (.getfield 79, 3) := by decide +kernel
theorem dX7_isStoreAhead_60 : decode cX7_isStoreAhead 60 = .ok (.if_icmp .ne 7, 3) := by decide +kernel
theorem dX7_isStoreAhead_63 : decode cX7_isStoreAhead 63 = .ok (.iconst 1, 1) := by decide +kernel
theorem dX7_isStoreAhead_64 : decode cX7_isStoreAhead 64 = .ok (.goto 4, 3) := by decide +kernel
theorem dX7_isStoreAhead_67 : decode cX7_isStoreAhead 67 = .ok (.iconst 0, 1) := by decide +kernel
theorem dX7_isStoreAhead_68 : decode cX7_isStoreAhead 68 = .ok (.ireturn, 1) := by decide +kernel
theorem dX7_fire_0 : decode cX7_fire 0 = .ok (.aload_n 0, 1) := by decide +kernel
theorem dX7_fire_1 : decode cX7_fire 1 = .ok (.getfield 20, 3) := by decide +kernel
theorem dX7_fire_4 : decode cX7_fire 4 = .ok (.iload_n 1, 1) := by decide +kernel
theorem dX7_fire_5 : decode cX7_fire 5 = .ok (.aaload, 1) := by decide +kernel
theorem dX7_fire_6 : decode cX7_fire 6 = .ok (.astore_n 2, 1) := by decide +kernel
theorem dX7_fire_7 : decode cX7_fire 7 = .ok (.aload_n 2, 1) := by decide +kernel
theorem dX7_fire_8 : decode cX7_fire 8 = .ok (.invokevirtual 119, 3) := by decide +kernel
theorem dX7_fire_11 : decode cX7_fire 11 = .ok (.astore_n 3, 1) := by decide +kernel
theorem dX7_fire_12 : decode cX7_fire 12 = .ok (.aload_n 0, 1) := by decide +kernel
theorem dX7_fire_13 : decode cX7_fire 13 = .ok (.getfield 28, 3) := by decide +kernel
theorem dX7_fire_16 : decode cX7_fire 16 = .ok (.iconst 1, 1) := by decide +kernel
theorem dX7_fire_17 : decode cX7_fire 17 = .ok (.iload_n 1, 1) := by decide +kernel
theorem dX7_fire_18 : decode cX7_fire 18 = .ok (.invokevirtual 115, 3) := by decide +kernel
theorem dX7_fire_21 : decode cX7_fire 21 = .ok (.ifCond .eq 9, 3) := by decide +kernel
theorem dX7_fire_24 : decode cX7_fire 24 = .ok (.aload_n 0, 1) := by decide +kernel
theorem dX7_fire_25 : decode cX7_fire 25 = .ok (.iload_n 1, 1) := by decide +kernel
theorem dX7_fire_26 : decode cX7_fire 26 = .ok (.aload_n 2, 1) := by decide +kernel
theorem dX7_fire_27 : decode cX7_fire 27 = .ok (.invokevirtual 175, 3) := by decide +kernel
theorem dX7_fire_30 : decode cX7_fire 30 = .ok (.aload_n 0, 1) := by decide +kernel
theorem dX7_fire_31 : decode cX7_fire 31 = .ok (.getfield 28, 3) := by decide +kernel
theorem dX7_fire_34 : decode cX7_fire 34 = .ok (.iconst 2, 1) := by decide +kernel
theorem dX7_fire_35 : decode cX7_fire 35 = .ok (.iload_n 1, 1) := by decide +kernel
theorem dX7_fire_36 : decode cX7_fire 36 = .ok (.invokevirtual 115, 3) := by decide +kernel
theorem dX7_fire_39 : decode cX7_fire 39 = .ok (.ifCond .eq 7, 3) := by decide +kernel
theorem dX7_fire_42 : decode cX7_fire 42 = .ok (.aload_n 2, 1) := by decide +kernel
theorem dX7_fire_43 : decode cX7_fire 43 = .ok (.invokevirtual 179, 3) := by decide +kernel
theorem dX7_fire_46 : decode cX7_fire 46 = .ok (.aload_n 0, 1) := by decide +kernel
theorem dX7_fire_47 : decode cX7_fire 47 = .ok (.getfield 28, 3) := by decide +kernel
theorem dX7_fire_50 : decode cX7_fire 50 = .ok (.iconst 3, 1) := by decide +kernel
theorem dX7_fire_51 : decode cX7_fire 51 = .ok (.iload_n 1, 1) := by decide +kernel
theorem dX7_fire_52 : decode cX7_fire 52 = .ok (.invokevirtual 115, 3) := by decide +kernel
theorem dX7_fire_55 : decode cX7_fire 55 = .ok (.ifCond .eq 23, 3) := by decide +kernel
theorem dX7_fire_58 : decode cX7_fire 58 = .ok (.aload_n 2, 1) := by decide +kernel
theorem dX7_fire_59 : decode cX7_fire 59 = .ok (.invokevirtual 182, 3) := by decide +kernel
theorem dX7_fire_62 : decode cX7_fire 62 = .ok (.ifCond .eq 16, 3) := by decide +kernel
theorem dX7_fire_65 : decode cX7_fire 65 = .ok (.aload_n 0, 1) := by decide +kernel
theorem dX7_fire_66 : decode cX7_fire 66 = .ok (.iload_n 1, 1) := by decide +kernel
theorem dX7_fire_67 : decode cX7_fire 67 = .ok (.invokevirtual 53, 3) := by decide +kernel
theorem dX7_fire_70 : decode cX7_fire 70 = .ok (.aload_n 0, 1) := by decide +kernel
theorem dX7_fire_71 : decode cX7_fire 71 = .ok (.aload_n 3, 1) := by decide +kernel
theorem dX7_fire_72 : decode cX7_fire 72 = .ok (.invokevirtual 185, 3) := by decide +kernel
theorem dX7_fire_75 : decode cX7_fire 75 = .ok (.putfield 76, 3) := by decide +kernel
theorem dX7_fire_78 : decode cX7_fire 78 = .ok (.aload_n 0, 1) := by decide +kernel
theorem dX7_fire_79 : decode cX7_fire 79 = .ok (.getfield 28, 3) := by decide +kernel
theorem dX7_fire_82 : decode cX7_fire 82 = .ok (.iconst 4, 1) := by decide +kernel
theorem dX7_fire_83 : decode cX7_fire 83 = .ok (.iload_n 1, 1) := by decide +kernel
theorem dX7_fire_84 : decode cX7_fire 84 = .ok (.invokevirtual 115, 3) := by decide +kernel
theorem dX7_fire_87 : decode cX7_fire 87 = .ok (.ifCond .eq 30, 3) := by decide +kernel
theorem dX7_fire_90 : decode cX7_fire 90 = .ok (.aload_n 3, 1) := by decide +kernel
theorem dX7_fire_91 : decode cX7_fire 91 = .ok (.invokevirtual 127, 3) := by decide +kernel
theorem dX7_fire_94 : decode cX7_fire 94 = .ok (.iconst 5, 1) := by decide +kernel
theorem dX7_fire_95 : decode cX7_fire 95 = .ok (.if_icmp .ne 22, 3) := by decide +kernel
theorem dX7_fire_98 : decode cX7_fire 98 = .ok (.aload_n 2, 1) := by decide +kernel
theorem dX7_fire_99 : decode cX7_fire 99 = .ok (.aload_n 0, 1) := by decide +kernel
theorem dX7_fire_100 : decode cX7_fire 100 = .ok (.getfield 12, 3) := by decide +kernel
theorem dX7_fire_103 : decode cX7_fire 103 = .ok (.aload_n 2, 1) := by decide +kernel
theorem dX7_fire_104 : decode cX7_fire 104 = .ok (.invokevirtual 135, 3) := by decide +kernel
theorem dX7_fire_107 : decode cX7_fire 107 = .ok (.invokevirtual 188, 3) := by decide +kernel
theorem dX7_fire_110 : decode cX7_fire 110 = .ok (.aload_n 0, 1) := by decide +kernel
theorem dX7_fire_111 : decode cX7_fire 111 = .ok (.getfield 79, 3) := by decide +kernel
theorem dX7_fire_114 : decode cX7_fire 114 = .ok (.invokevirtual 191, 3) := by decide +kernel
theorem dX7_fire_117 : decode cX7_fire 117 = .ok (.aload_n 0, 1) := by decide +kernel
theorem dX7_fire_118 : decode cX7_fire 118 = .ok (.getfield 28, 3) := by decide +kernel
theorem dX7_fire_121 : decode cX7_fire 121 = .ok (.aload_n 3, 1) := by decide +kernel
theorem dX7_fire_122 : decode cX7_fire 122 = .ok (.invokevirtual 127, 3) := by decide +kernel
theorem dX7_fire_125 : decode cX7_fire 125 = .ok (.invokevirtual 195, 3) := by decide +kernel
theorem dX7_fire_128 : decode cX7_fire 128 = .ok (.iload_n 1, 1) := by decide +kernel
theorem dX7_fire_129 : decode cX7_fire 129 = .ok (.if_icmp .ne 11, 3) := by decide +kernel
theorem dX7_fire_132 : decode cX7_fire 132 = .ok (.aload_n 2, 1) := by decide +kernel
theorem dX7_fire_133 : decode cX7_fire 133 = .ok (.aload_n 0, 1) := by decide +kernel
theorem dX7_fire_134 : decode cX7_fire 134 = .ok (.getfield 79, 3) := by decide +kernel
theorem dX7_fire_137 : decode cX7_fire 137 = .ok (.invokevirtual 198, 3) := by decide +kernel
theorem dX7_fire_140 : decode cX7_fire 140 = .ok (.aload_n 0, 1) := by decide +kernel
theorem dX7_fire_141 : decode cX7_fire 141 = .ok (.getfield 28, 3) := by decide +kernel
theorem dX7_fire_144 : decode cX7_fire 144 = .ok (.bipush 6, 2) := by decide +kernel
theorem dX7_fire_146 : decode cX7_fire 146 = .ok (.iload_n 1, 1) := by decide +kernel
theorem dX7_fire_147 : decode cX7_fire 147 = .ok (.invokevirtual 115, 3) := by decide +kernel
theorem dX7_fire_150 : decode cX7_fire 150 = .ok (.ifCond .eq 8, 3) := by decide +kernel
theorem dX7_fire_153 : decode cX7_fire 153 = .ok (.aload_n 0, 1) := by decide +kernel
theorem dX7_fire_154 : decode cX7_fire 154 = .ok (.aload_n 2, 1) := by decide +kernel
theorem dX7_fire_155 : decode cX7_fire 155 = .ok (.invokevirtual 201, 3) := by decide +kernel
theorem dX7_fire_158 : decode cX7_fire 158 = .ok (.aload_n 0, 1) := by decide +kernel
theorem dX7_fire_159 : decode cX7_fire 159 = .ok (.iload_n 1, 1) := by decide +kernel
theorem dX7_fire_160 : decode cX7_fire 160 = .ok (.invokevirtual 205, 3) := by decide +kernel
theorem dX7_fire_163 : decode cX7_fire 163 = .ok (.return_, 1) := by decide +kernel
theorem dX7_read_0 : decode cX7_read 0 = .ok (.aload_n 2, 1) := by decide +kernel
theorem dX7_read_1 : decode cX7_read 1 = .ok (.invokevirtual 119, 3) := by decide +kernel
theorem dX7_read_4 : decode cX7_read 4 = .ok (.astore_n 3, 1) := by decide +kernel
theorem dX7_read_5 : decode cX7_read 5 = .ok (.aload_n 3, 1) := by decide +kernel
theorem dX7_read_6 : decode cX7_read 6 = .ok (.invokevirtual 147, 3) := by decide +kernel
theorem dX7_read_9 : decode cX7_read 9 = .ok (.ifCond .eq 16, 3) := by decide +kernel
theorem dX7_read_12 : decode cX7_read 12 = .ok (.aload_n 2, 1) := by decide +kernel
theorem dX7_read_13 : decode cX7_read 13 = .ok (.aload_n 0, 1) := by decide +kernel
theorem dX7_read_14 : decode cX7_read 14 = .ok (.iload_n 1, 1) := by decide +kernel
theorem dX7_read_15 : decode cX7_read 15 = .ok (.aload_n 3, 1) := by decide +kernel
theorem dX7_read_16 : decode cX7_read 16 = .ok (.invokevirtual 150, 3) := by decide +kernel
theorem dX7_read_19 : decode cX7_read 19 = .ok (.invokevirtual 208, 3) := by decide +kernel
theorem dX7_read_22 : decode cX7_read 22 = .ok (.invokevirtual 211, 3) := by decide +kernel
theorem dX7_read_25 : decode cX7_read 25 = .ok (.aload_n 3, 1) := by decide +kernel
theorem dX7_read_26 : decode cX7_read 26 = .ok (.invokevirtual 156, 3) := by decide +kernel
theorem dX7_read_29 : decode cX7_read 29 = .ok (.ifCond .eq 16, 3) := by decide +kernel
theorem dX7_read_32 : decode cX7_read 32 = .ok (.aload_n 2, 1) := by decide +kernel
theorem dX7_read_33 : decode cX7_read 33 = .ok (.aload_n 0, 1) := by decide +kernel
theorem dX7_read_34 : decode cX7_read 34 = .ok (.iload_n 1, 1) := by decide +kernel
theorem dX7_read_35 : decode cX7_read 35 = .ok (.aload_n 3, 1) := by decide +kernel
theorem dX7_read_36 : decode cX7_read 36 = .ok (.invokevirtual 159, 3) := by decide +kernel
theorem dX7_read_39 : decode cX7_read 39 = .ok (.invokevirtual 208, 3) := by decide +kernel
theorem dX7_read_42 : decode cX7_read 42 = .ok (.invokevirtual 214, 3) := by decide +kernel
theorem dX7_read_45 : decode cX7_read 45 = .ok (.return_, 1) := by decide +kernel
theorem dX7_valueFor_0 : decode cX7_valueFor 0 = .ok (.aload_n 0, 1) := by decide +kernel
theorem dX7_valueFor_1 : decode cX7_valueFor 1 = .ok (.iload_n 1, 1) := by decide +kernel
theorem dX7_valueFor_2 : decode cX7_valueFor 2 = .ok (.iload_n 2, 1) := by decide +kernel
theorem dX7_valueFor_3 : decode cX7_valueFor 3 = .ok (.invokevirtual 162, 3) := by decide +kernel
theorem dX7_valueFor_6 : decode cX7_valueFor 6 = .ok (.istore_n 3, 1) := by decide +kernel
theorem dX7_valueFor_7 : decode cX7_valueFor 7 = .ok (.iload_n 3, 1) := by decide +kernel
theorem dX7_valueFor_8 : decode cX7_valueFor 8 = .ok (.iconst (-1), 1) := by decide +kernel
theorem dX7_valueFor_9 : decode cX7_valueFor 9 = .ok (.if_icmp .ne 14, 3) := by decide +kernel
theorem dX7_valueFor_12 : decode cX7_valueFor 12 = .ok (.aload_n 0, 1) := by decide +kernel
theorem dX7_valueFor_13 : decode cX7_valueFor 13 = .ok (.getfield 12, 3) := by decide +kernel
theorem dX7_valueFor_16 : decode cX7_valueFor 16 = .ok (.iload_n 2, 1) := by decide +kernel
theorem dX7_valueFor_17 : decode cX7_valueFor 17 = .ok (.invokevirtual 217, 3) := by decide +kernel
theorem dX7_valueFor_20 : decode cX7_valueFor 20 = .ok (.goto 12, 3) := by decide +kernel
theorem dX7_valueFor_23 : decode cX7_valueFor 23 = .ok (.aload_n 0, 1) := by decide +kernel
theorem dX7_valueFor_24 : decode cX7_valueFor 24 = .ok (.getfield 20, 3) := by decide +kernel
theorem dX7_valueFor_27 : decode cX7_valueFor 27 = .ok (.iload_n 3, 1) := by decide +kernel
theorem dX7_valueFor_28 : decode cX7_valueFor 28 = .ok (.aaload, 1) := by decide +kernel
theorem dX7_valueFor_29 : decode cX7_valueFor 29 = .ok (.invokevirtual 220, 3) := by decide +kernel
theorem dX7_valueFor_32 : decode cX7_valueFor 32 = .ok (.ireturn, 1) := by decide +kernel
theorem dX7_throwOutBehind_0 : decode cX7_throwOutBehind 0 = .ok (.iconst 0, 1) := by decide +kernel
theorem dX7_throwOutBehind_1 : decode cX7_throwOutBehind 1 = .ok (.istore_n 2, 1) := by decide +kernel
theorem dX7_throwOutBehind_2 : decode cX7_throwOutBehind 2 = .ok (.iload_n 2, 1) := by decide +kernel
theorem dX7_throwOutBehind_3 : decode cX7_throwOutBehind 3 = .ok (.iload_n 1, 1) := by decide +kernel
theorem dX7_throwOutBehind_4 : decode cX7_throwOutBehind 4 = .ok (.if_icmp .ge 24, 3) := by decide +kernel
theorem dX7_throwOutBehind_7 : decode cX7_throwOutBehind 7 = .ok (.iload_n 2, 1) := by decide +kernel
theorem dX7_throwOutBehind_8 : decode cX7_throwOutBehind 8 = .ok (.bipush 8, 2) := by decide +kernel
theorem dX7_throwOutBehind_10 : decode cX7_throwOutBehind 10 = .ok (.if_icmp .ge 18, 3) := by decide +kernel
theorem dX7_throwOutBehind_13 : decode cX7_throwOutBehind 13 = .ok (.aload_n 0, 1) := by decide +kernel
theorem dX7_throwOutBehind_14 : decode cX7_throwOutBehind 14 = .ok (.getfield 20, 3) := by decide +kernel
theorem dX7_throwOutBehind_17 : decode cX7_throwOutBehind 17 = .ok (.iload_n 2, 1) := by decide +kernel
theorem dX7_throwOutBehind_18 : decode cX7_throwOutBehind 18 = .ok (.aaload, 1) := by decide +kernel
theorem dX7_throwOutBehind_19 : decode cX7_throwOutBehind 19 = .ok (.invokevirtual 223, 3) := by decide +kernel
theorem dX7_throwOutBehind_22 : decode cX7_throwOutBehind 22 = .ok (.iinc 2 1, 3) := by decide +kernel
theorem dX7_throwOutBehind_25 : decode cX7_throwOutBehind 25 = .ok (.goto (-23), 3) := by decide +kernel
theorem dX7_throwOutBehind_28 : decode cX7_throwOutBehind 28 = .ok (.return_, 1) := by decide +kernel
theorem dX7_finish_0 : decode cX7_finish 0 = .ok (.aload_n 1, 1) := by decide +kernel
theorem dX7_finish_1 : decode cX7_finish 1 = .ok (.invokevirtual 119, 3) := by decide +kernel
theorem dX7_finish_4 : decode cX7_finish 4 = .ok (.astore_n 2, 1) := by decide +kernel
theorem dX7_finish_5 : decode cX7_finish 5 = .ok (.aload_n 2, 1) := by decide +kernel
theorem dX7_finish_6 : decode cX7_finish 6 = .ok (.invokevirtual 127, 3) := by decide +kernel
theorem dX7_finish_9 : decode cX7_finish 9 = .ok (.ifCond .ne 8, 3) := by decide +kernel
theorem dX7_finish_12 : decode cX7_finish 12 = .ok (.aload_n 0, 1) := by decide +kernel
theorem dX7_finish_13 : decode cX7_finish 13 = .ok (.iconst 1, 1) := by decide +kernel
theorem dX7_finish_14 : decode cX7_finish 14 = .ok (.putfield 85, 3) := by decide +kernel
theorem dX7_finish_17 : decode cX7_finish 17 = .ok (.aload_n 2, 1) := by decide +kernel
theorem dX7_finish_18 : decode cX7_finish 18 = .ok (.invokevirtual 226, 3) := by decide +kernel
theorem dX7_finish_21 : decode cX7_finish 21 = .ok (.ifCond .ne 4, 3) := by decide +kernel
theorem dX7_finish_24 : decode cX7_finish 24 = .ok (.return_, 1) := by decide +kernel
theorem dX7_finish_25 : decode cX7_finish 25 = .ok (.aload_n 1, 1) := by decide +kernel
theorem dX7_finish_26 : decode cX7_finish 26 = .ok (.invokevirtual 229, 3) := by decide +kernel
theorem dX7_finish_29 : decode cX7_finish 29 = .ok (.istore_n 3, 1) := by decide +kernel
theorem dX7_finish_30 : decode cX7_finish 30 = .ok (.aload_n 0, 1) := by decide +kernel
theorem dX7_finish_31 : decode cX7_finish 31 = .ok (.getfield 12, 3) := by decide +kernel
theorem dX7_finish_34 : decode cX7_finish 34 = .ok (.aload_n 2, 1) := by decide +kernel
theorem dX7_finish_35 : decode cX7_finish 35 = .ok (.iload_n 3, 1) := by decide +kernel
theorem dX7_finish_36 : decode cX7_finish 36 = .ok (.aload_n 1, 1) := by decide +kernel
theorem dX7_finish_37 : decode cX7_finish 37 = .ok (.invokevirtual 220, 3) := by decide +kernel
theorem dX7_finish_40 : decode cX7_finish 40 = .ok (.invokevirtual 232, 3) := by decide +kernel
theorem dX7_finish_43 : decode cX7_finish 43 = .ok (.aload_n 0, 1) := by decide +kernel
theorem dX7_finish_44 : decode cX7_finish 44 = .ok (.getfield 40, 3) := by decide +kernel
theorem dX7_finish_47 : decode cX7_finish 47 = .ok (.aload_n 2, 1) := by decide +kernel
theorem dX7_finish_48 : decode cX7_finish 48 = .ok (.invokevirtual 236, 3) := by decide +kernel
theorem dX7_finish_51 : decode cX7_finish 51 = .ok (.iload_n 3, 1) := by decide +kernel
theorem dX7_finish_52 : decode cX7_finish 52 = .ok (.aload_n 1, 1) := by decide +kernel
theorem dX7_finish_53 : decode cX7_finish 53 = .ok (.invokevirtual 220, 3) := by decide +kernel
theorem dX7_finish_56 : decode cX7_finish 56 = .ok (.aload_n 0, 1) := by decide +kernel
theorem dX7_finish_57 : decode cX7_finish 57 = .ok (.getfield 79, 3) := by decide +kernel
theorem dX7_finish_60 : decode cX7_finish 60 = .ok (.invokevirtual 239, 3) := by decide +kernel
theorem dX7_finish_63 : decode cX7_finish 63 = .ok (.aload_n 2, 1) := by decide +kernel
theorem dX7_finish_64 : decode cX7_finish 64 = .ok (.invokevirtual 127, 3) := by decide +kernel
theorem dX7_finish_67 : decode cX7_finish 67 = .ok (.bipush 6, 2) := by decide +kernel
theorem dX7_finish_69 : decode cX7_finish 69 = .ok (.if_icmp .ne 11, 3) := by decide +kernel
theorem dX7_finish_72 : decode cX7_finish 72 = .ok (.aload_n 0, 1) := by decide +kernel
theorem dX7_finish_73 : decode cX7_finish 73 = .ok (.aload_n 0, 1) := by decide +kernel
theorem dX7_finish_74 : decode cX7_finish 74 = .ok (.getfield 79, 3) := by decide +kernel
theorem dX7_finish_77 : decode cX7_finish 77 = .ok (.putfield 72, 3) := by decide +kernel
theorem dX7_finish_80 : decode cX7_finish 80 = .ok (.aload_n 2, 1) := by decide +kernel
theorem dX7_finish_81 : decode cX7_finish 81 = .ok (.invokevirtual 243, 3) := by decide +kernel
theorem dX7_finish_84 : decode cX7_finish 84 = .ok (.ifCond .eq 20, 3) := by decide +kernel
theorem dX7_finish_87 : decode cX7_finish 87 = .ok (.iload_n 3, 1) := by decide +kernel
theorem dX7_finish_88 : decode cX7_finish 88 = .ok (.invokestatic 169, 3) := by decide +kernel
theorem dX7_finish_91 : decode cX7_finish 91 = .ok (.ifCond .eq 13, 3) := by decide +kernel
theorem dX7_finish_94 : decode cX7_finish 94 = .ok (.aload_n 0, 1) := by decide +kernel
theorem dX7_finish_95 : decode cX7_finish 95 = .ok (.getfield 24, 3) := by decide +kernel
theorem dX7_finish_98 : decode cX7_finish 98 = .ok (.iload_n 3, 1) := by decide +kernel
theorem dX7_finish_99 : decode cX7_finish 99 = .ok (.aload_n 0, 1) := by decide +kernel
theorem dX7_finish_100 : decode cX7_finish 100 = .ok (.getfield 79, 3) := by decide +kernel
theorem dX7_finish_103 : decode cX7_finish 103 = .ok (.iastore, 1) := by decide +kernel
theorem dX7_finish_104 : decode cX7_finish 104 = .ok (.return_, 1) := by decide +kernel
theorem dX7_moveOn_0 : decode cX7_moveOn 0 = .ok (.aload_n 0, 1) := by decide +kernel
theorem dX7_moveOn_1 : decode cX7_moveOn 1 = .ok (.getfield 20, 3) := by decide +kernel
theorem dX7_moveOn_4 : decode cX7_moveOn 4 = .ok (.iload_n 1, 1) := by decide +kernel
theorem dX7_moveOn_5 : decode cX7_moveOn 5 = .ok (.aaload, 1) := by decide +kernel
theorem dX7_moveOn_6 : decode cX7_moveOn 6 = .ok (.astore_n 2, 1) := by decide +kernel
theorem dX7_moveOn_7 : decode cX7_moveOn 7 = .ok (.aload_n 0, 1) := by decide +kernel
theorem dX7_moveOn_8 : decode cX7_moveOn 8 = .ok (.iload_n 1, 1) := by decide +kernel
theorem dX7_moveOn_9 : decode cX7_moveOn 9 = .ok (.invokevirtual 112, 3) := by decide +kernel
theorem dX7_moveOn_12 : decode cX7_moveOn 12 = .ok (.ifCond .eq 18, 3) := by decide +kernel
theorem dX7_moveOn_15 : decode cX7_moveOn 15 = .ok (.aload_n 2, 1) := by decide +kernel
theorem dX7_moveOn_16 : decode cX7_moveOn 16 = .ok (.invokevirtual 223, 3) := by decide +kernel
theorem dX7_moveOn_19 : decode cX7_moveOn 19 = .ok (.aload_n 0, 1) := by decide +kernel
theorem dX7_moveOn_20 : decode cX7_moveOn 20 = .ok (.dup, 1) := by decide +kernel
theorem dX7_moveOn_21 : decode cX7_moveOn 21 = .ok (.getfield 82, 3) := by decide +kernel
theorem dX7_moveOn_24 : decode cX7_moveOn 24 = .ok (.iconst 1, 1) := by decide +kernel
theorem dX7_moveOn_25 : decode cX7_moveOn 25 = .ok (.iadd, 1) := by decide +kernel
theorem dX7_moveOn_26 : decode cX7_moveOn 26 = .ok (.putfield 82, 3) := by decide +kernel
theorem dX7_moveOn_29 : decode cX7_moveOn 29 = .ok (.return_, 1) := by decide +kernel
theorem dX7_moveOn_30 : decode cX7_moveOn 30 = .ok (.aload_n 0, 1) := by decide +kernel
theorem dX7_moveOn_31 : decode cX7_moveOn 31 = .ok (.getfield 20, 3) := by decide +kernel
theorem dX7_moveOn_34 : decode cX7_moveOn 34 = .ok (.iload_n 1, 1) := by decide +kernel
theorem dX7_moveOn_35 : decode cX7_moveOn 35 = .ok (.aload_n 0, 1) := by decide +kernel
theorem dX7_moveOn_36 : decode cX7_moveOn 36 = .ok (.getfield 20, 3) := by decide +kernel
theorem dX7_moveOn_39 : decode cX7_moveOn 39 = .ok (.iload_n 1, 1) := by decide +kernel
theorem dX7_moveOn_40 : decode cX7_moveOn 40 = .ok (.iconst 1, 1) := by decide +kernel
theorem dX7_moveOn_41 : decode cX7_moveOn 41 = .ok (.iadd, 1) := by decide +kernel
theorem dX7_moveOn_42 : decode cX7_moveOn 42 = .ok (.aaload, 1) := by decide +kernel
theorem dX7_moveOn_43 : decode cX7_moveOn 43 = .ok (.aastore, 1) := by decide +kernel
theorem dX7_moveOn_44 : decode cX7_moveOn 44 = .ok (.aload_n 0, 1) := by decide +kernel
theorem dX7_moveOn_45 : decode cX7_moveOn 45 = .ok (.getfield 20, 3) := by decide +kernel
theorem dX7_moveOn_48 : decode cX7_moveOn 48 = .ok (.iload_n 1, 1) := by decide +kernel
theorem dX7_moveOn_49 : decode cX7_moveOn 49 = .ok (.iconst 1, 1) := by decide +kernel
theorem dX7_moveOn_50 : decode cX7_moveOn 50 = .ok (.iadd, 1) := by decide +kernel
theorem dX7_moveOn_51 : decode cX7_moveOn 51 = .ok (.aload_n 2, 1) := by decide +kernel
theorem dX7_moveOn_52 : decode cX7_moveOn 52 = .ok (.aastore, 1) := by decide +kernel
theorem dX7_moveOn_53 : decode cX7_moveOn 53 = .ok (.return_, 1) := by decide +kernel
theorem dX8_init_0 : decode cX8_init 0 = .ok (.aload_n 0, 1) := by decide +kernel
theorem dX8_init_1 : decode cX8_init 1 = .ok (.invokespecial 3, 3) := by decide +kernel
theorem dX8_init_4 : decode cX8_init 4 = .ok (.aload_n 0, 1) := by decide +kernel
theorem dX8_init_5 : decode cX8_init 5 = .ok (.bipush 40, 2) := by decide +kernel
theorem dX8_init_7 : decode cX8_init 7 = .ok (.anewarray 9, 3) := by decide +kernel
theorem dX8_init_10 : decode cX8_init 10 = .ok (.putfield 11, 3) := by decide +kernel
theorem dX8_init_13 : decode cX8_init 13 = .ok (.aload_n 0, 1) := by decide +kernel
theorem dX8_init_14 : decode cX8_init 14 = .ok (.new 9, 3) := by decide +kernel
theorem dX8_init_17 : decode cX8_init 17 = .ok (.dup, 1) := by decide +kernel
theorem dX8_init_18 : decode cX8_init 18 = .ok (.iconst 0, 1) := by decide +kernel
theorem dX8_init_19 : decode cX8_init 19 = .ok (.iconst 0, 1) := by decide +kernel
theorem dX8_init_20 : decode cX8_init 20 = .ok (.iconst 0, 1) := by decide +kernel
theorem dX8_init_21 : decode cX8_init 21 = .ok (.iconst 0, 1) := by decide +kernel
theorem dX8_init_22 : decode cX8_init 22 = .ok (.iconst 0, 1) := by decide +kernel
theorem dX8_init_23 : decode cX8_init 23 = .ok (.invokespecial 17, 3) := by decide +kernel
theorem dX8_init_26 : decode cX8_init 26 = .ok (.putfield 20, 3) := by decide +kernel
theorem dX8_init_29 : decode cX8_init 29 = .ok (.iconst 0, 1) := by decide +kernel
theorem dX8_init_30 : decode cX8_init 30 = .ok (.istore_n 1, 1) := by decide +kernel
theorem dX8_init_31 : decode cX8_init 31 = .ok (.iload_n 1, 1) := by decide +kernel
theorem dX8_init_32 : decode cX8_init 32 = .ok (.bipush 40, 2) := by decide +kernel
theorem dX8_init_34 : decode cX8_init 34 = .ok (.if_icmp .ge 19, 3) := by decide +kernel
theorem dX8_init_37 : decode cX8_init 37 = .ok (.aload_n 0, 1) := by decide +kernel
theorem dX8_init_38 : decode cX8_init 38 = .ok (.getfield 11, 3) := by decide +kernel
theorem dX8_init_41 : decode cX8_init 41 = .ok (.iload_n 1, 1) := by decide +kernel
theorem dX8_init_42 : decode cX8_init 42 = .ok (.aload_n 0, 1) := by decide +kernel
theorem dX8_init_43 : decode cX8_init 43 = .ok (.getfield 20, 3) := by decide +kernel
theorem dX8_init_46 : decode cX8_init 46 = .ok (.aastore, 1) := by decide +kernel
theorem dX8_init_47 : decode cX8_init 47 = .ok (.iinc 1 1, 3) := by decide +kernel
theorem dX8_init_50 : decode cX8_init 50 = .ok (.goto (-19), 3) := by decide +kernel
theorem dX8_init_53 : decode cX8_init 53 = .ok (.return_, 1) := by decide +kernel
theorem dX8_isFull_0 : decode cX8_isFull 0 = .ok (.aload_n 0, 1) := by decide +kernel
theorem dX8_isFull_1 : decode cX8_isFull 1 = .ok (.getfield 24, 3) := by decide +kernel
theorem dX8_isFull_4 : decode cX8_isFull 4 = .ok (.bipush 40, 2) := by decide +kernel
theorem dX8_isFull_6 : decode cX8_isFull 6 = .ok (.if_icmp .lt 7, 3) := by decide +kernel
theorem dX8_isFull_9 : decode cX8_isFull 9 = .ok (.iconst 1, 1) := by decide +kernel
theorem dX8_isFull_10 : decode cX8_isFull 10 = .ok (.goto 4, 3) := by decide +kernel
theorem dX8_isFull_13 : decode cX8_isFull 13 = .ok (.iconst 0, 1) := by decide +kernel
theorem dX8_isFull_14 : decode cX8_isFull 14 = .ok (.ireturn, 1) := by decide +kernel
theorem dX8_add_0 : decode cX8_add 0 = .ok (.aload_n 0, 1) := by decide +kernel
theorem dX8_add_1 : decode cX8_add 1 = .ok (.invokevirtual 28, 3) := by decide +kernel
theorem dX8_add_4 : decode cX8_add 4 = .ok (.ifCond .eq 5, 3) := by decide +kernel
theorem dX8_add_7 : decode cX8_add 7 = .ok (.iconst (-1), 1) := by decide +kernel
theorem dX8_add_8 : decode cX8_add 8 = .ok (.ireturn, 1) := by decide +kernel
theorem dX8_add_9 : decode cX8_add 9 = .ok (.aload_n 0, 1) := by decide +kernel
theorem dX8_add_10 : decode cX8_add 10 = .ok (.getfield 11, 3) := by decide +kernel
theorem dX8_add_13 : decode cX8_add 13 = .ok (.aload_n 0, 1) := by decide +kernel
theorem dX8_add_14 : decode cX8_add 14 = .ok (.getfield 24, 3) := by decide +kernel
theorem dX8_add_17 : decode cX8_add 17 = .ok (.aload_n 1, 1) := by decide +kernel
theorem dX8_add_18 : decode cX8_add 18 = .ok (.aastore, 1) := by decide +kernel
theorem dX8_add_19 : decode cX8_add 19 = .ok (.aload_n 0, 1) := by decide +kernel
theorem dX8_add_20 : decode cX8_add 20 = .ok (.dup, 1) := by decide +kernel
theorem dX8_add_21 : decode cX8_add 21 = .ok (.getfield 24, 3) := by decide +kernel
theorem dX8_add_24 : decode cX8_add 24 = .ok (.iconst 1, 1) := by decide +kernel
theorem dX8_add_25 : decode cX8_add 25 = .ok (.iadd, 1) := by decide +kernel
theorem dX8_add_26 : decode cX8_add 26 = .ok (.putfield 24, 3) := by decide +kernel
theorem dX8_add_29 : decode cX8_add 29 = .ok (.aload_n 0, 1) := by decide +kernel
theorem dX8_add_30 : decode cX8_add 30 = .ok (.getfield 24, 3) := by decide +kernel
theorem dX8_add_33 : decode cX8_add 33 = .ok (.iconst 1, 1) := by decide +kernel
theorem dX8_add_34 : decode cX8_add 34 = .ok (.isub, 1) := by decide +kernel
theorem dX8_add_35 : decode cX8_add 35 = .ok (.ireturn, 1) := by decide +kernel
theorem dX8_size_0 : decode cX8_size 0 = .ok (.aload_n 0, 1) := by decide +kernel
theorem dX8_size_1 : decode cX8_size 1 = .ok (.getfield 24, 3) := by decide +kernel
theorem dX8_size_4 : decode cX8_size 4 = .ok (.ireturn, 1) := by decide +kernel
theorem dX8_at_0 : decode cX8_at 0 = .ok (.iload_n 1, 1) := by decide +kernel
theorem dX8_at_1 : decode cX8_at 1 = .ok (.ifCond .lt 11, 3) := by decide +kernel
theorem dX8_at_4 : decode cX8_at 4 = .ok (.iload_n 1, 1) := by decide +kernel
theorem dX8_at_5 : decode cX8_at 5 = .ok (.aload_n 0, 1) := by decide +kernel
theorem dX8_at_6 : decode cX8_at 6 = .ok (.getfield 24, 3) := by decide +kernel
theorem dX8_at_9 : decode cX8_at 9 = .ok (.if_icmp .lt 10, 3) := by decide +kernel
theorem dX8_at_12 : decode cX8_at 12 = .ok (.aload_n 0, 1) := by decide +kernel
theorem dX8_at_13 : decode cX8_at 13 = .ok (.getfield 20, 3) := by decide +kernel
theorem dX8_at_16 : decode cX8_at 16 = .ok (.goto 9, 3) := by decide +kernel
theorem dX8_at_19 : decode cX8_at 19 = .ok (.aload_n 0, 1) := by decide +kernel
theorem dX8_at_20 : decode cX8_at 20 = .ok (.getfield 11, 3) := by decide +kernel
theorem dX8_at_23 : decode cX8_at 23 = .ok (.iload_n 1, 1) := by decide +kernel
theorem dX8_at_24 : decode cX8_at 24 = .ok (.aaload, 1) := by decide +kernel
theorem dX8_at_25 : decode cX8_at 25 = .ok (.areturn, 1) := by decide +kernel
theorem dX9_init_0 : decode cX9_init 0 = .ok (.aload_n 0, 1) := by decide +kernel
theorem dX9_init_1 : decode cX9_init 1 = .ok (.invokespecial 3, 3) := by decide +kernel
theorem dX9_init_4 : decode cX9_init 4 = .ok (.aload_n 0, 1) := by decide +kernel
theorem dX9_init_5 : decode cX9_init 5 = .ok (.bipush 64, 2) := by decide +kernel
theorem dX9_init_7 : decode cX9_init 7 = .ok (.newarray .int, 2) := by decide +kernel
theorem dX9_init_9 : decode cX9_init 9 = .ok (.putfield 9, 3) := by decide +kernel
theorem dX9_init_12 : decode cX9_init 12 = .ok (.aload_n 0, 1) := by decide +kernel
theorem dX9_init_13 : decode cX9_init 13 = .ok (.bipush 8, 2) := by decide +kernel
theorem dX9_init_15 : decode cX9_init 15 = .ok (.newarray .int, 2) := by decide +kernel
theorem dX9_init_17 : decode cX9_init 17 = .ok (.dup, 1) := by decide +kernel
theorem dX9_init_18 : decode cX9_init 18 = .ok (.iconst 0, 1) := by decide +kernel
theorem dX9_init_19 : decode cX9_init 19 = .ok (.iconst 1, 1) := by decide +kernel
theorem dX9_init_20 : decode cX9_init 20 = .ok (.iastore, 1) := by decide +kernel
theorem dX9_init_21 : decode cX9_init 21 = .ok (.dup, 1) := by decide +kernel
theorem dX9_init_22 : decode cX9_init 22 = .ok (.iconst 1, 1) := by decide +kernel
theorem dX9_init_23 : decode cX9_init 23 = .ok (.iconst 1, 1) := by decide +kernel
theorem dX9_init_24 : decode cX9_init 24 = .ok (.iastore, 1) := by decide +kernel
theorem dX9_init_25 : decode cX9_init 25 = .ok (.dup, 1) := by decide +kernel
theorem dX9_init_26 : decode cX9_init 26 = .ok (.iconst 2, 1) := by decide +kernel
theorem dX9_init_27 : decode cX9_init 27 = .ok (.iconst 1, 1) := by decide +kernel
theorem dX9_init_28 : decode cX9_init 28 = .ok (.iastore, 1) := by decide +kernel
theorem dX9_init_29 : decode cX9_init 29 = .ok (.dup, 1) := by decide +kernel
theorem dX9_init_30 : decode cX9_init 30 = .ok (.iconst 3, 1) := by decide +kernel
theorem dX9_init_31 : decode cX9_init 31 = .ok (.iconst 1, 1) := by decide +kernel
theorem dX9_init_32 : decode cX9_init 32 = .ok (.iastore, 1) := by decide +kernel
theorem dX9_init_33 : decode cX9_init 33 = .ok (.dup, 1) := by decide +kernel
theorem dX9_init_34 : decode cX9_init 34 = .ok (.iconst 4, 1) := by decide +kernel
theorem dX9_init_35 : decode cX9_init 35 = .ok (.iconst 1, 1) := by decide +kernel
theorem dX9_init_36 : decode cX9_init 36 = .ok (.iastore, 1) := by decide +kernel
theorem dX9_init_37 : decode cX9_init 37 = .ok (.dup, 1) := by decide +kernel
theorem dX9_init_38 : decode cX9_init 38 = .ok (.iconst 5, 1) := by decide +kernel
theorem dX9_init_39 : decode cX9_init 39 = .ok (.iconst 1, 1) := by decide +kernel
theorem dX9_init_40 : decode cX9_init 40 = .ok (.iastore, 1) := by decide +kernel
theorem dX9_init_41 : decode cX9_init 41 = .ok (.dup, 1) := by decide +kernel
theorem dX9_init_42 : decode cX9_init 42 = .ok (.bipush 6, 2) := by decide +kernel
theorem dX9_init_44 : decode cX9_init 44 = .ok (.iconst 1, 1) := by decide +kernel
theorem dX9_init_45 : decode cX9_init 45 = .ok (.iastore, 1) := by decide +kernel
theorem dX9_init_46 : decode cX9_init 46 = .ok (.dup, 1) := by decide +kernel
theorem dX9_init_47 : decode cX9_init 47 = .ok (.bipush 7, 2) := by decide +kernel
theorem dX9_init_49 : decode cX9_init 49 = .ok (.iconst 1, 1) := by decide +kernel
theorem dX9_init_50 : decode cX9_init 50 = .ok (.iastore, 1) := by decide +kernel
theorem dX9_init_51 : decode cX9_init 51 = .ok (.putfield 15, 3) := by decide +kernel
theorem dX9_init_54 : decode cX9_init 54 = .ok (.return_, 1) := by decide +kernel
theorem dX9_tell_0 : decode cX9_tell 0 = .ok (.iload_n 1, 1) := by decide +kernel
theorem dX9_tell_1 : decode cX9_tell 1 = .ok (.invokestatic 18, 3) := by decide +kernel
theorem dX9_tell_4 : decode cX9_tell 4 = .ok (.ifCond .eq 10, 3) := by decide +kernel
theorem dX9_tell_7 : decode cX9_tell 7 = .ok (.aload_n 0, 1) := by decide +kernel
theorem dX9_tell_8 : decode cX9_tell 8 = .ok (.getfield 9, 3) := by decide +kernel
theorem dX9_tell_11 : decode cX9_tell 11 = .ok (.iload_n 1, 1) := by decide +kernel
theorem dX9_tell_12 : decode cX9_tell 12 = .ok (.iload_n 2, 1) := by decide +kernel
theorem dX9_tell_13 : decode cX9_tell 13 = .ok (.iastore, 1) := by decide +kernel
theorem dX9_tell_14 : decode cX9_tell 14 = .ok (.return_, 1) := by decide +kernel
theorem dX9_delay_0 : decode cX9_delay 0 = .ok (.iload_n 1, 1) := by decide +kernel
theorem dX9_delay_1 : decode cX9_delay 1 = .ok (.ifCond .lt 16, 3) := by decide +kernel
theorem dX9_delay_4 : decode cX9_delay 4 = .ok (.iload_n 1, 1) := by decide +kernel
theorem dX9_delay_5 : decode cX9_delay 5 = .ok (.bipush 8, 2) := by decide +kernel
theorem dX9_delay_7 : decode cX9_delay 7 = .ok (.if_icmp .ge 10, 3) := by decide +kernel
theorem dX9_delay_10 : decode cX9_delay 10 = .ok (.aload_n 0, 1) := by decide +kernel
theorem dX9_delay_11 : decode cX9_delay 11 = .ok (.getfield 15, 3) := by decide +kernel
theorem dX9_delay_14 : decode cX9_delay 14 = .ok (.iload_n 1, 1) := by decide +kernel
theorem dX9_delay_15 : decode cX9_delay 15 = .ok (.iload_n 2, 1) := by decide +kernel
theorem dX9_delay_16 : decode cX9_delay 16 = .ok (.iastore, 1) := by decide +kernel
theorem dX9_delay_17 : decode cX9_delay 17 = .ok (.return_, 1) := by decide +kernel
theorem dX9_delayOf_0 : decode cX9_delayOf 0 = .ok (.aload_n 0, 1) := by decide +kernel
theorem dX9_delayOf_1 : decode cX9_delayOf 1 = .ok (.getfield 15, 3) := by decide +kernel
theorem dX9_delayOf_4 : decode cX9_delayOf 4 = .ok (.iload_n 1, 1) := by decide +kernel
theorem dX9_delayOf_5 : decode cX9_delayOf 5 = .ok (.bipush 8, 2) := by decide +kernel
theorem dX9_delayOf_7 : decode cX9_delayOf 7 = .ok (.invokestatic 22, 3) := by decide +kernel
theorem dX9_delayOf_10 : decode cX9_delayOf 10 = .ok (.iaload, 1) := by decide +kernel
theorem dX9_delayOf_11 : decode cX9_delayOf 11 = .ok (.ireturn, 1) := by decide +kernel
theorem dX9_fill_0 : decode cX9_fill 0 = .ok (.aload_n 0, 1) := by decide +kernel
theorem dX9_fill_1 : decode cX9_fill 1 = .ok (.getfield 9, 3) := by decide +kernel
theorem dX9_fill_4 : decode cX9_fill 4 = .ok (.iconst 0, 1) := by decide +kernel
theorem dX9_fill_5 : decode cX9_fill 5 = .ok (.aload_n 1, 1) := by decide +kernel
theorem dX9_fill_6 : decode cX9_fill 6 = .ok (.iconst 0, 1) := by decide +kernel
theorem dX9_fill_7 : decode cX9_fill 7 = .ok (.bipush 64, 2) := by decide +kernel
theorem dX9_fill_9 : decode cX9_fill 9 = .ok (.invokestatic 28, 3) := by decide +kernel
theorem dX9_fill_12 : decode cX9_fill 12 = .ok (.return_, 1) := by decide +kernel
theorem dX10_init_0 : decode cX10_init 0 = .ok (.aload_n 0, 1) := by decide +kernel
theorem dX10_init_1 : decode cX10_init 1 = .ok (.invokespecial 1, 3) := by decide +kernel
theorem dX10_init_4 : decode cX10_init 4 = .ok (.aload_n 0, 1) := by decide +kernel
theorem dX10_init_5 : decode cX10_init 5 = .ok (.bipush 30, 2) := by decide +kernel
theorem dX10_init_7 : decode cX10_init 7 = .ok (.newarray .int, 2) := by decide +kernel
theorem dX10_init_9 : decode cX10_init 9 = .ok (.putfield 9, 3) := by decide +kernel
theorem dX10_init_12 : decode cX10_init 12 = .ok (.aload_n 0, 1) := by decide +kernel
theorem dX10_init_13 : decode cX10_init 13 = .ok (.new 13, 3) := by decide +kernel
theorem dX10_init_16 : decode cX10_init 16 = .ok (.dup, 1) := by decide +kernel
theorem dX10_init_17 : decode cX10_init 17 = .ok (.invokespecial 15, 3) := by decide +kernel
theorem dX10_init_20 : decode cX10_init 20 = .ok (.putfield 16, 3) := by decide +kernel
theorem dX10_init_23 : decode cX10_init 23 = .ok (.aload_n 0, 1) := by decide +kernel
theorem dX10_init_24 : decode cX10_init 24 = .ok (.new 20, 3) := by decide +kernel
theorem dX10_init_27 : decode cX10_init 27 = .ok (.dup, 1) := by decide +kernel
theorem dX10_init_28 : decode cX10_init 28 = .ok (.invokespecial 22, 3) := by decide +kernel
theorem dX10_init_31 : decode cX10_init 31 = .ok (.putfield 23, 3) := by decide +kernel
theorem dX10_init_34 : decode cX10_init 34 = .ok (.aload_n 0, 1) := by decide +kernel
theorem dX10_init_35 : decode cX10_init 35 = .ok (.new 27, 3) := by decide +kernel
theorem dX10_init_38 : decode cX10_init 38 = .ok (.dup, 1) := by decide +kernel
theorem dX10_init_39 : decode cX10_init 39 = .ok (.invokespecial 29, 3) := by decide +kernel
theorem dX10_init_42 : decode cX10_init 42 = .ok (.putfield 30, 3) := by decide +kernel
theorem dX10_init_45 : decode cX10_init 45 = .ok (.aload_n 0, 1) := by decide +kernel
theorem dX10_init_46 : decode cX10_init 46 = .ok (.new 34, 3) := by decide +kernel
theorem dX10_init_49 : decode cX10_init 49 = .ok (.dup, 1) := by decide +kernel
theorem dX10_init_50 : decode cX10_init 50 = .ok (.invokespecial 36, 3) := by decide +kernel
theorem dX10_init_53 : decode cX10_init 53 = .ok (.putfield 37, 3) := by decide +kernel
theorem dX10_init_56 : decode cX10_init 56 = .ok (.aload_n 0, 1) := by decide +kernel
theorem dX10_init_57 : decode cX10_init 57 = .ok (.new 41, 3) := by decide +kernel
theorem dX10_init_60 : decode cX10_init 60 = .ok (.dup, 1) := by decide +kernel
theorem dX10_init_61 : decode cX10_init 61 = .ok (.invokespecial 43, 3) := by decide +kernel
theorem dX10_init_64 : decode cX10_init 64 = .ok (.putfield 44, 3) := by decide +kernel
theorem dX10_init_67 : decode cX10_init 67 = .ok (.aload_n 0, 1) := by decide +kernel
theorem dX10_init_68 : decode cX10_init 68 = .ok (.new 48, 3) := by decide +kernel
theorem dX10_init_71 : decode cX10_init 71 = .ok (.dup, 1) := by decide +kernel
theorem dX10_init_72 : decode cX10_init 72 = .ok (.aload_n 0, 1) := by decide +kernel
theorem dX10_init_73 : decode cX10_init 73 = .ok (.getfield 23, 3) := by decide +kernel
theorem dX10_init_76 : decode cX10_init 76 = .ok (.aload_n 0, 1) := by decide +kernel
theorem dX10_init_77 : decode cX10_init 77 = .ok (.getfield 30, 3) := by decide +kernel
theorem dX10_init_80 : decode cX10_init 80 = .ok (.aload_n 0, 1) := by decide +kernel
theorem dX10_init_81 : decode cX10_init 81 = .ok (.getfield 37, 3) := by decide +kernel
theorem dX10_init_84 : decode cX10_init 84 = .ok (.aload_n 0, 1) := by decide +kernel
theorem dX10_init_85 : decode cX10_init 85 = .ok (.getfield 44, 3) := by decide +kernel
theorem dX10_init_88 : decode cX10_init 88 = .ok (.invokespecial 50, 3) := by decide +kernel
theorem dX10_init_91 : decode cX10_init 91 = .ok (.putfield 53, 3) := by decide +kernel
theorem dX10_init_94 : decode cX10_init 94 = .ok (.aload_n 0, 1) := by decide +kernel
theorem dX10_init_95 : decode cX10_init 95 = .ok (.new 57, 3) := by decide +kernel
theorem dX10_init_98 : decode cX10_init 98 = .ok (.dup, 1) := by decide +kernel
theorem dX10_init_99 : decode cX10_init 99 = .ok (.aload_n 0, 1) := by decide +kernel
theorem dX10_init_100 : decode cX10_init 100 = .ok (.getfield 30, 3) := by decide +kernel
theorem dX10_init_103 : decode cX10_init 103 = .ok (.aload_n 0, 1) := by decide +kernel
theorem dX10_init_104 : decode cX10_init 104 = .ok (.getfield 37, 3) := by decide +kernel
theorem dX10_init_107 : decode cX10_init 107 = .ok (.invokespecial 59, 3) := by decide +kernel
theorem dX10_init_110 : decode cX10_init 110 = .ok (.putfield 62, 3) := by decide +kernel
theorem dX10_init_113 : decode cX10_init 113 = .ok (.return_, 1) := by decide +kernel
theorem dX10_unit_0 : decode cX10_unit 0 = .ok (.iload_n 1, 1) := by decide +kernel
theorem dX10_unit_1 : decode cX10_unit 1 = .ok (.bipush 32, 2) := by decide +kernel
theorem dX10_unit_3 : decode cX10_unit 3 = .ok (.if_icmp .lt 18, 3) := by decide +kernel
theorem dX10_unit_6 : decode cX10_unit 6 = .ok (.iload_n 1, 1) := by decide +kernel
theorem dX10_unit_7 : decode cX10_unit 7 = .ok (.bipush 126, 2) := by decide +kernel
theorem dX10_unit_9 : decode cX10_unit 9 = .ok (.if_icmp .gt 12, 3) := by decide +kernel
theorem dX10_unit_12 : decode cX10_unit 12 = .ok (.aload_n 0, 1) := by decide +kernel
theorem dX10_unit_13 : decode cX10_unit 13 = .ok (.getfield 66, 3) := by decide +kernel
theorem dX10_unit_16 : decode cX10_unit 16 = .ok (.bipush 30, 2) := by decide +kernel
theorem dX10_unit_18 : decode cX10_unit 18 = .ok (.if_icmp .lt 5, 3) := by decide +kernel
theorem dX10_unit_21 : decode cX10_unit 21 = .ok (.iconst 0, 1) := by decide +kernel
theorem dX10_unit_22 : decode cX10_unit 22 = .ok (.ireturn, 1) := by decide +kernel
theorem dX10_unit_23 : decode cX10_unit 23 = .ok (.aload_n 0, 1) := by decide +kernel
theorem dX10_unit_24 : decode cX10_unit 24 = .ok (.getfield 9, 3) := by decide +kernel
theorem dX10_unit_27 : decode cX10_unit 27 = .ok (.aload_n 0, 1) := by decide +kernel
theorem dX10_unit_28 : decode cX10_unit 28 = .ok (.getfield 66, 3) := by decide +kernel
theorem dX10_unit_31 : decode cX10_unit 31 = .ok (.iload_n 1, 1) := by decide +kernel
theorem dX10_unit_32 : decode cX10_unit 32 = .ok (.iastore, 1) := by decide +kernel
theorem dX10_unit_33 : decode cX10_unit 33 = .ok (.aload_n 0, 1) := by decide +kernel
theorem dX10_unit_34 : decode cX10_unit 34 = .ok (.dup, 1) := by decide +kernel
theorem dX10_unit_35 : decode cX10_unit 35 = .ok (.getfield 66, 3) := by decide +kernel
theorem dX10_unit_38 : decode cX10_unit 38 = .ok (.iconst 1, 1) := by decide +kernel
theorem dX10_unit_39 : decode cX10_unit 39 = .ok (.iadd, 1) := by decide +kernel
theorem dX10_unit_40 : decode cX10_unit 40 = .ok (.putfield 66, 3) := by decide +kernel
theorem dX10_unit_43 : decode cX10_unit 43 = .ok (.iconst 1, 1) := by decide +kernel
theorem dX10_unit_44 : decode cX10_unit 44 = .ok (.ireturn, 1) := by decide +kernel
theorem dX10_line_0 : decode cX10_line 0 = .ok (.aload_n 0, 1) := by decide +kernel
theorem dX10_line_1 : decode cX10_line 1 = .ok (.getfield 16, 3) := by decide +kernel
theorem dX10_line_4 : decode cX10_line 4 = .ok (.aload_n 0, 1) := by decide +kernel
theorem dX10_line_5 : decode cX10_line 5 = .ok (.getfield 9, 3) := by decide +kernel
theorem dX10_line_8 : decode cX10_line 8 = .ok (.aload_n 0, 1) := by decide +kernel
theorem dX10_line_9 : decode cX10_line 9 = .ok (.getfield 66, 3) := by decide +kernel
theorem dX10_line_12 : decode cX10_line 12 = .ok (.invokevirtual 70, 3) := by decide +kernel
theorem dX10_line_15 : decode cX10_line 15 = .ok (.istore_n 1, 1) := by decide +kernel
theorem dX10_line_16 : decode cX10_line 16 = .ok (.aload_n 0, 1) := by decide +kernel
theorem dX10_line_17 : decode cX10_line 17 = .ok (.iconst 0, 1) := by decide +kernel
theorem dX10_line_18 : decode cX10_line 18 = .ok (.putfield 66, 3) := by decide +kernel
theorem dX10_line_21 : decode cX10_line 21 = .ok (.iload_n 1, 1) := by decide +kernel
theorem dX10_line_22 : decode cX10_line 22 = .ok (.iconst (-1), 1) := by decide +kernel
theorem dX10_line_23 : decode cX10_line 23 = .ok (.if_icmp .eq 7, 3) := by decide +kernel
theorem dX10_line_26 : decode cX10_line 26 = .ok (.iconst (-1), 1) := by decide +kernel
theorem dX10_line_27 : decode cX10_line 27 = .ok (.iload_n 1, 1) := by decide +kernel
theorem dX10_line_28 : decode cX10_line 28 = .ok (.isub, 1) := by decide +kernel
theorem dX10_line_29 : decode cX10_line 29 = .ok (.ireturn, 1) := by decide +kernel
theorem dX10_line_30 : decode cX10_line 30 = .ok (.aload_n 0, 1) := by decide +kernel
theorem dX10_line_31 : decode cX10_line 31 = .ok (.getfield 16, 3) := by decide +kernel
theorem dX10_line_34 : decode cX10_line 34 = .ok (.aload_n 0, 1) := by decide +kernel
theorem dX10_line_35 : decode cX10_line 35 = .ok (.getfield 23, 3) := by decide +kernel
theorem dX10_line_38 : decode cX10_line 38 = .ok (.invokevirtual 74, 3) := by decide +kernel
theorem dX10_line_41 : decode cX10_line 41 = .ok (.aload_n 0, 1) := by decide +kernel
theorem dX10_line_42 : decode cX10_line 42 = .ok (.getfield 53, 3) := by decide +kernel
theorem dX10_line_45 : decode cX10_line 45 = .ok (.invokevirtual 78, 3) := by decide +kernel
theorem dX10_line_48 : decode cX10_line 48 = .ok (.aload_n 0, 1) := by decide +kernel
theorem dX10_line_49 : decode cX10_line 49 = .ok (.getfield 23, 3) := by decide +kernel
theorem dX10_line_52 : decode cX10_line 52 = .ok (.invokevirtual 81, 3) := by decide +kernel
theorem dX10_line_55 : decode cX10_line 55 = .ok (.ireturn, 1) := by decide +kernel
theorem dX10_code_0 : decode cX10_code 0 = .ok (.iload_n 1, 1) := by decide +kernel
theorem dX10_code_1 : decode cX10_code 1 = .ok (.ifCond .lt 19, 3) := by decide +kernel
theorem dX10_code_4 : decode cX10_code 4 = .ok (.iload_n 1, 1) := by decide +kernel
theorem dX10_code_5 : decode cX10_code 5 = .ok (.bipush 9, 2) := by decide +kernel
theorem dX10_code_7 : decode cX10_code 7 = .ok (.if_icmp .gt 13, 3) := by decide +kernel
theorem dX10_code_10 : decode cX10_code 10 = .ok (.aload_n 0, 1) := by decide +kernel
theorem dX10_code_11 : decode cX10_code 11 = .ok (.getfield 30, 3) := by decide +kernel
theorem dX10_code_14 : decode cX10_code 14 = .ok (.invokevirtual 85, 3) := by decide +kernel
theorem dX10_code_17 : decode cX10_code 17 = .ok (.ifCond .eq 5, 3) := by decide +kernel
theorem dX10_code_20 : decode cX10_code 20 = .ok (.iconst (-1), 1) := by decide +kernel
theorem dX10_code_21 : decode cX10_code 21 = .ok (.ireturn, 1) := by decide +kernel
theorem dX10_code_22 : decode cX10_code 22 = .ok (.iload_n 2, 1) := by decide +kernel
theorem dX10_code_23 : decode cX10_code 23 = .ok (.invokestatic 89, 3) := by decide +kernel
theorem dX10_code_26 : decode cX10_code 26 = .ok (.ifCond .eq 18, 3) := by decide +kernel
theorem dX10_code_29 : decode cX10_code 29 = .ok (.iload_n 3, 1) := by decide +kernel
theorem dX10_code_30 : decode cX10_code 30 = .ok (.invokestatic 89, 3) := by decide +kernel
theorem dX10_code_33 : decode cX10_code 33 = .ok (.ifCond .eq 11, 3) := by decide +kernel
theorem dX10_code_36 : decode cX10_code 36 = .ok (.iload 4, 2) := by decide +kernel
theorem dX10_code_38 : decode cX10_code 38 = .ok (.invokestatic 89, 3) := by decide +kernel
theorem dX10_code_41 : decode cX10_code 41 = .ok (.ifCond .ne 5, 3) := by decide +kernel
theorem dX10_code_44 : decode cX10_code 44 = .ok (.iconst (-1), 1) := by decide +kernel
theorem dX10_code_45 : decode cX10_code 45 = .ok (.ireturn, 1) := by decide +kernel
theorem dX10_code_46 : decode cX10_code 46 = .ok (.aload_n 0, 1) := by decide +kernel
theorem dX10_code_47 : decode cX10_code 47 = .ok (.getfield 30, 3) := by decide +kernel
theorem dX10_code_50 : decode cX10_code 50 = .ok (.new 93, 3) := by decide +kernel
theorem dX10_code_53 : decode cX10_code 53 = .ok (.dup, 1) := by decide +kernel
theorem dX10_code_54 : decode cX10_code 54 = .ok (.iload_n 1, 1) := by decide +kernel
theorem dX10_code_55 : decode cX10_code 55 = .ok (.iload_n 2, 1) := by decide +kernel
theorem dX10_code_56 : decode cX10_code 56 = .ok (.iload_n 3, 1) := by decide +kernel
theorem dX10_code_57 : decode cX10_code 57 = .ok (.iload 4, 2) := by decide +kernel
theorem dX10_code_59 : decode cX10_code 59 = .ok (.iload 5, 2) := by decide +kernel
theorem dX10_code_61 : decode cX10_code 61 = .ok (.invokespecial 95, 3) := by decide +kernel
theorem dX10_code_64 : decode cX10_code 64 = .ok (.invokevirtual 98, 3) := by decide +kernel
theorem dX10_code_67 : decode cX10_code 67 = .ok (.istore 6, 2) := by decide +kernel
theorem dX10_code_69 : decode cX10_code 69 = .ok (.aload_n 0, 1) := by decide +kernel
theorem dX10_code_70 : decode cX10_code 70 = .ok (.getfield 53, 3) := by decide +kernel
theorem dX10_code_73 : decode cX10_code 73 = .ok (.invokevirtual 78, 3) := by decide +kernel
theorem dX10_code_76 : decode cX10_code 76 = .ok (.iload 6, 2) := by decide +kernel
theorem dX10_code_78 : decode cX10_code 78 = .ok (.ireturn, 1) := by decide +kernel
theorem dX10_memory_0 : decode cX10_memory 0 = .ok (.iload_n 1, 1) := by decide +kernel
theorem dX10_memory_1 : decode cX10_memory 1 = .ok (.invokestatic 102, 3) := by decide +kernel
theorem dX10_memory_4 : decode cX10_memory 4 = .ok (.ifCond .ne 5, 3) := by decide +kernel
theorem dX10_memory_7 : decode cX10_memory 7 = .ok (.iconst 0, 1) := by decide +kernel
theorem dX10_memory_8 : decode cX10_memory 8 = .ok (.ireturn, 1) := by decide +kernel
theorem dX10_memory_9 : decode cX10_memory 9 = .ok (.aload_n 0, 1) := by decide +kernel
theorem dX10_memory_10 : decode cX10_memory 10 = .ok (.getfield 37, 3) := by decide +kernel
theorem dX10_memory_13 : decode cX10_memory 13 = .ok (.iload_n 1, 1) := by decide +kernel
theorem dX10_memory_14 : decode cX10_memory 14 = .ok (.iload_n 2, 1) := by decide +kernel
theorem dX10_memory_15 : decode cX10_memory 15 = .ok (.invokevirtual 105, 3) := by decide +kernel
theorem dX10_memory_18 : decode cX10_memory 18 = .ok (.aload_n 0, 1) := by decide +kernel
theorem dX10_memory_19 : decode cX10_memory 19 = .ok (.getfield 53, 3) := by decide +kernel
theorem dX10_memory_22 : decode cX10_memory 22 = .ok (.invokevirtual 78, 3) := by decide +kernel
theorem dX10_memory_25 : decode cX10_memory 25 = .ok (.iconst 1, 1) := by decide +kernel
theorem dX10_memory_26 : decode cX10_memory 26 = .ok (.ireturn, 1) := by decide +kernel
theorem dX10_latency_0 : decode cX10_latency 0 = .ok (.iload_n 1, 1) := by decide +kernel
theorem dX10_latency_1 : decode cX10_latency 1 = .ok (.ifCond .lt 20, 3) := by decide +kernel
theorem dX10_latency_4 : decode cX10_latency 4 = .ok (.iload_n 1, 1) := by decide +kernel
theorem dX10_latency_5 : decode cX10_latency 5 = .ok (.bipush 8, 2) := by decide +kernel
theorem dX10_latency_7 : decode cX10_latency 7 = .ok (.if_icmp .ge 14, 3) := by decide +kernel
theorem dX10_latency_10 : decode cX10_latency 10 = .ok (.iload_n 2, 1) := by decide +kernel
theorem dX10_latency_11 : decode cX10_latency 11 = .ok (.iconst 1, 1) := by decide +kernel
theorem dX10_latency_12 : decode cX10_latency 12 = .ok (.if_icmp .lt 9, 3) := by decide +kernel
theorem dX10_latency_15 : decode cX10_latency 15 = .ok (.iload_n 2, 1) := by decide +kernel
theorem dX10_latency_16 : decode cX10_latency 16 = .ok (.bipush 16, 2) := by decide +kernel
theorem dX10_latency_18 : decode cX10_latency 18 = .ok (.if_icmp .le 5, 3) := by decide +kernel
theorem dX10_latency_21 : decode cX10_latency 21 = .ok (.iconst 0, 1) := by decide +kernel
theorem dX10_latency_22 : decode cX10_latency 22 = .ok (.ireturn, 1) := by decide +kernel
theorem dX10_latency_23 : decode cX10_latency 23 = .ok (.aload_n 0, 1) := by decide +kernel
theorem dX10_latency_24 : decode cX10_latency 24 = .ok (.getfield 37, 3) := by decide +kernel
theorem dX10_latency_27 : decode cX10_latency 27 = .ok (.iload_n 1, 1) := by decide +kernel
theorem dX10_latency_28 : decode cX10_latency 28 = .ok (.iload_n 2, 1) := by decide +kernel
theorem dX10_latency_29 : decode cX10_latency 29 = .ok (.invokevirtual 109, 3) := by decide +kernel
theorem dX10_latency_32 : decode cX10_latency 32 = .ok (.aload_n 0, 1) := by decide +kernel
theorem dX10_latency_33 : decode cX10_latency 33 = .ok (.getfield 53, 3) := by decide +kernel
theorem dX10_latency_36 : decode cX10_latency 36 = .ok (.invokevirtual 78, 3) := by decide +kernel
theorem dX10_latency_39 : decode cX10_latency 39 = .ok (.iconst 1, 1) := by decide +kernel
theorem dX10_latency_40 : decode cX10_latency 40 = .ok (.ireturn, 1) := by decide +kernel
theorem dX10_run_0 : decode cX10_run 0 = .ok (.iload_n 1, 1) := by decide +kernel
theorem dX10_run_1 : decode cX10_run 1 = .ok (.iconst 1, 1) := by decide +kernel
theorem dX10_run_2 : decode cX10_run 2 = .ok (.if_icmp .lt 10, 3) := by decide +kernel
theorem dX10_run_5 : decode cX10_run 5 = .ok (.iload_n 1, 1) := by decide +kernel
theorem dX10_run_6 : decode cX10_run 6 = .ok (.sipush 3000, 3) := by decide +kernel
theorem dX10_run_9 : decode cX10_run 9 = .ok (.if_icmp .le 5, 3) := by decide +kernel
theorem dX10_run_12 : decode cX10_run 12 = .ok (.iconst (-1), 1) := by decide +kernel
theorem dX10_run_13 : decode cX10_run 13 = .ok (.ireturn, 1) := by decide +kernel
theorem dX10_run_14 : decode cX10_run 14 = .ok (.aload_n 0, 1) := by decide +kernel
theorem dX10_run_15 : decode cX10_run 15 = .ok (.getfield 53, 3) := by decide +kernel
theorem dX10_run_18 : decode cX10_run 18 = .ok (.iload_n 1, 1) := by decide +kernel
theorem dX10_run_19 : decode cX10_run 19 = .ok (.invokevirtual 112, 3) := by decide +kernel
theorem dX10_run_22 : decode cX10_run 22 = .ok (.aload_n 0, 1) := by decide +kernel
theorem dX10_run_23 : decode cX10_run 23 = .ok (.getfield 53, 3) := by decide +kernel
theorem dX10_run_26 : decode cX10_run 26 = .ok (.invokevirtual 116, 3) := by decide +kernel
theorem dX10_run_29 : decode cX10_run 29 = .ok (.ireturn, 1) := by decide +kernel
theorem dX10_cycle_0 : decode cX10_cycle 0 = .ok (.aload_n 0, 1) := by decide +kernel
theorem dX10_cycle_1 : decode cX10_cycle 1 = .ok (.getfield 53, 3) := by decide +kernel
theorem dX10_cycle_4 : decode cX10_cycle 4 = .ok (.invokevirtual 116, 3) := by decide +kernel
theorem dX10_cycle_7 : decode cX10_cycle 7 = .ok (.ireturn, 1) := by decide +kernel
theorem dX10_ended_0 : decode cX10_ended 0 = .ok (.aload_n 0, 1) := by decide +kernel
theorem dX10_ended_1 : decode cX10_ended 1 = .ok (.getfield 53, 3) := by decide +kernel
theorem dX10_ended_4 : decode cX10_ended 4 = .ok (.invokevirtual 119, 3) := by decide +kernel
theorem dX10_ended_7 : decode cX10_ended 7 = .ok (.ireturn, 1) := by decide +kernel
theorem dX10_commits_0 : decode cX10_commits 0 = .ok (.aload_n 0, 1) := by decide +kernel
theorem dX10_commits_1 : decode cX10_commits 1 = .ok (.getfield 44, 3) := by decide +kernel
theorem dX10_commits_4 : decode cX10_commits 4 = .ok (.invokevirtual 122, 3) := by decide +kernel
theorem dX10_commits_7 : decode cX10_commits 7 = .ok (.ireturn, 1) := by decide +kernel
theorem dX10_commit_0 : decode cX10_commit 0 = .ok (.aload_n 0, 1) := by decide +kernel
theorem dX10_commit_1 : decode cX10_commit 1 = .ok (.getfield 44, 3) := by decide +kernel
theorem dX10_commit_4 : decode cX10_commit 4 = .ok (.iload_n 1, 1) := by decide +kernel
theorem dX10_commit_5 : decode cX10_commit 5 = .ok (.iload_n 2, 1) := by decide +kernel
theorem dX10_commit_6 : decode cX10_commit 6 = .ok (.invokevirtual 125, 3) := by decide +kernel
theorem dX10_commit_9 : decode cX10_commit 9 = .ok (.ireturn, 1) := by decide +kernel
theorem dX10_register_0 : decode cX10_register 0 = .ok (.iload_n 1, 1) := by decide +kernel
theorem dX10_register_1 : decode cX10_register 1 = .ok (.invokestatic 89, 3) := by decide +kernel
theorem dX10_register_4 : decode cX10_register 4 = .ok (.ifCond .eq 17, 3) := by decide +kernel
theorem dX10_register_7 : decode cX10_register 7 = .ok (.aload_n 0, 1) := by decide +kernel
theorem dX10_register_8 : decode cX10_register 8 = .ok (.getfield 53, 3) := by decide +kernel
theorem dX10_register_11 : decode cX10_register 11 = .ok (.invokevirtual 129, 3) := by decide +kernel
theorem dX10_register_14 : decode cX10_register 14 = .ok (.iload_n 1, 1) := by decide +kernel
theorem dX10_register_15 : decode cX10_register 15 = .ok (.invokevirtual 133, 3) := by decide +kernel
theorem dX10_register_18 : decode cX10_register 18 = .ok (.goto 4, 3) := by decide +kernel
theorem dX10_register_21 : decode cX10_register 21 = .ok (.iconst (-1), 1) := by decide +kernel
theorem dX10_register_22 : decode cX10_register 22 = .ok (.ireturn, 1) := by decide +kernel
theorem dX10_place_0 : decode cX10_place 0 = .ok (.iload_n 1, 1) := by decide +kernel
theorem dX10_place_1 : decode cX10_place 1 = .ok (.invokestatic 102, 3) := by decide +kernel
theorem dX10_place_4 : decode cX10_place 4 = .ok (.ifCond .eq 17, 3) := by decide +kernel
theorem dX10_place_7 : decode cX10_place 7 = .ok (.aload_n 0, 1) := by decide +kernel
theorem dX10_place_8 : decode cX10_place 8 = .ok (.getfield 53, 3) := by decide +kernel
theorem dX10_place_11 : decode cX10_place 11 = .ok (.invokevirtual 129, 3) := by decide +kernel
theorem dX10_place_14 : decode cX10_place 14 = .ok (.iload_n 1, 1) := by decide +kernel
theorem dX10_place_15 : decode cX10_place 15 = .ok (.invokevirtual 139, 3) := by decide +kernel
theorem dX10_place_18 : decode cX10_place 18 = .ok (.goto 4, 3) := by decide +kernel
theorem dX10_place_21 : decode cX10_place 21 = .ok (.iconst (-1), 1) := by decide +kernel
theorem dX10_place_22 : decode cX10_place 22 = .ok (.ireturn, 1) := by decide +kernel
theorem dX10_retired_0 : decode cX10_retired 0 = .ok (.aload_n 0, 1) := by decide +kernel
theorem dX10_retired_1 : decode cX10_retired 1 = .ok (.getfield 53, 3) := by decide +kernel
theorem dX10_retired_4 : decode cX10_retired 4 = .ok (.invokevirtual 142, 3) := by decide +kernel
theorem dX10_retired_7 : decode cX10_retired 7 = .ok (.ireturn, 1) := by decide +kernel
theorem dX10_faithful_0 : decode cX10_faithful 0 = .ok (.aload_n 0, 1) := by decide +kernel
theorem dX10_faithful_1 : decode cX10_faithful 1 = .ok (.getfield 62, 3) := by decide +kernel
theorem dX10_faithful_4 : decode cX10_faithful 4 = .ok (.aload_n 0, 1) := by decide +kernel
theorem dX10_faithful_5 : decode cX10_faithful 5 = .ok (.getfield 44, 3) := by decide +kernel
theorem dX10_faithful_8 : decode cX10_faithful 8 = .ok (.invokevirtual 145, 3) := by decide +kernel
theorem dX10_faithful_11 : decode cX10_faithful 11 = .ok (.ireturn, 1) := by decide +kernel
theorem dX10_told_0 : decode cX10_told 0 = .ok (.iload_n 1, 1) := by decide +kernel
theorem dX10_told_1 : decode cX10_told 1 = .ok (.tableswitch 48 0 2 #[27, 35, 43], 27) := by decide +kernel
theorem dX10_told_28 : decode cX10_told 28 = .ok (.aload_n 0, 1) := by decide +kernel
theorem dX10_told_29 : decode cX10_told 29 = .ok (.getfield 23, 3) := by decide +kernel
theorem dX10_told_32 : decode cX10_told 32 = .ok (.invokevirtual 81, 3) := by decide +kernel
theorem dX10_told_35 : decode cX10_told 35 = .ok (.ireturn, 1) := by decide +kernel
theorem dX10_told_36 : decode cX10_told 36 = .ok (.aload_n 0, 1) := by decide +kernel
theorem dX10_told_37 : decode cX10_told 37 = .ok (.getfield 30, 3) := by decide +kernel
theorem dX10_told_40 : decode cX10_told 40 = .ok (.invokevirtual 149, 3) := by decide +kernel
theorem dX10_told_43 : decode cX10_told 43 = .ok (.ireturn, 1) := by decide +kernel
theorem dX10_told_44 : decode cX10_told 44 = .ok (.aload_n 0, 1) := by decide +kernel
theorem dX10_told_45 : decode cX10_told 45 = .ok (.getfield 66, 3) := by decide +kernel
theorem dX10_told_48 : decode cX10_told 48 = .ok (.ireturn, 1) := by decide +kernel
theorem dX10_told_49 : decode cX10_told 49 = .ok (.iload_n 1, 1) := by decide +kernel
theorem dX10_told_50 : decode cX10_told 50 = .ok (.iconst 3, 1) := by decide +kernel
theorem dX10_told_51 : decode cX10_told 51 = .ok (.if_icmp .lt 9, 3) := by decide +kernel
theorem dX10_told_54 : decode cX10_told 54 = .ok (.iload_n 1, 1) := by decide +kernel
theorem dX10_told_55 : decode cX10_told 55 = .ok (.bipush 11, 2) := by decide +kernel
theorem dX10_told_57 : decode cX10_told 57 = .ok (.if_icmp .lt 7, 3) := by decide +kernel
theorem dX10_told_60 : decode cX10_told 60 = .ok (.iconst (-1), 1) := by decide +kernel
theorem dX10_told_61 : decode cX10_told 61 = .ok (.goto 13, 3) := by decide +kernel
theorem dX10_told_64 : decode cX10_told 64 = .ok (.aload_n 0, 1) := by decide +kernel
theorem dX10_told_65 : decode cX10_told 65 = .ok (.getfield 23, 3) := by decide +kernel
theorem dX10_told_68 : decode cX10_told 68 = .ok (.iload_n 1, 1) := by decide +kernel
theorem dX10_told_69 : decode cX10_told 69 = .ok (.iconst 3, 1) := by decide +kernel
theorem dX10_told_70 : decode cX10_told 70 = .ok (.isub, 1) := by decide +kernel
theorem dX10_told_71 : decode cX10_told 71 = .ok (.invokevirtual 152, 3) := by decide +kernel
theorem dX10_told_74 : decode cX10_told 74 = .ok (.ireturn, 1) := by decide +kernel
theorem dX10_isRegister_0 : decode cX10_isRegister 0 = .ok (.iload_n 0, 1) := by decide +kernel
theorem dX10_isRegister_1 : decode cX10_isRegister 1 = .ok (.ifCond .lt 13, 3) := by decide +kernel
theorem dX10_isRegister_4 : decode cX10_isRegister 4 = .ok (.iload_n 0, 1) := by decide +kernel
theorem dX10_isRegister_5 : decode cX10_isRegister 5 = .ok (.bipush 8, 2) := by decide +kernel
theorem dX10_isRegister_7 : decode cX10_isRegister 7 = .ok (.if_icmp .ge 7, 3) := by decide +kernel
theorem dX10_isRegister_10 : decode cX10_isRegister 10 = .ok (.iconst 1, 1) := by decide +kernel
theorem dX10_isRegister_11 : decode cX10_isRegister 11 = .ok (.goto 4, 3) := by decide +kernel
theorem dX10_isRegister_14 : decode cX10_isRegister 14 = .ok (.iconst 0, 1) := by decide +kernel
theorem dX10_isRegister_15 : decode cX10_isRegister 15 = .ok (.ireturn, 1) := by decide +kernel
theorem dX10_isPlace_0 : decode cX10_isPlace 0 = .ok (.iload_n 0, 1) := by decide +kernel
theorem dX10_isPlace_1 : decode cX10_isPlace 1 = .ok (.ifCond .lt 13, 3) := by decide +kernel
theorem dX10_isPlace_4 : decode cX10_isPlace 4 = .ok (.iload_n 0, 1) := by decide +kernel
theorem dX10_isPlace_5 : decode cX10_isPlace 5 = .ok (.bipush 64, 2) := by decide +kernel
theorem dX10_isPlace_7 : decode cX10_isPlace 7 = .ok (.if_icmp .ge 7, 3) := by decide +kernel
theorem dX10_isPlace_10 : decode cX10_isPlace 10 = .ok (.iconst 1, 1) := by decide +kernel
theorem dX10_isPlace_11 : decode cX10_isPlace 11 = .ok (.goto 4, 3) := by decide +kernel
theorem dX10_isPlace_14 : decode cX10_isPlace 14 = .ok (.iconst 0, 1) := by decide +kernel
theorem dX10_isPlace_15 : decode cX10_isPlace 15 = .ok (.ireturn, 1) := by decide +kernel
theorem dJ9_floorMod_7cf53_0 : decode cJ9_floorMod_7cf53 0 = .ok (.iload_n 0, 1) := by decide +kernel
theorem dJ9_floorMod_7cf53_1 : decode cJ9_floorMod_7cf53 1 = .ok (.iload_n 1, 1) := by decide +kernel
theorem dJ9_floorMod_7cf53_2 : decode cJ9_floorMod_7cf53 2 = .ok (.irem, 1) := by decide +kernel
theorem dJ9_floorMod_7cf53_3 : decode cJ9_floorMod_7cf53 3 = .ok (.istore_n 2, 1) := by decide +kernel
theorem dJ9_floorMod_7cf53_4 : decode cJ9_floorMod_7cf53 4 = .ok (.iload_n 0, 1) := by decide +kernel
theorem dJ9_floorMod_7cf53_5 : decode cJ9_floorMod_7cf53 5 = .ok (.iload_n 1, 1) := by decide +kernel
theorem dJ9_floorMod_7cf53_6 : decode cJ9_floorMod_7cf53 6 = .ok (.ixor, 1) := by decide +kernel
theorem dJ9_floorMod_7cf53_7 : decode cJ9_floorMod_7cf53 7 = .ok (.ifCond .ge 11, 3) := by decide +kernel
theorem dJ9_floorMod_7cf53_10 : decode cJ9_floorMod_7cf53 10 = .ok (.iload_n 2, 1) := by decide +kernel
theorem dJ9_floorMod_7cf53_11 : decode cJ9_floorMod_7cf53 11 = .ok (.ifCond .eq 7, 3) := by decide +kernel
theorem dJ9_floorMod_7cf53_14 : decode cJ9_floorMod_7cf53 14 = .ok (.iload_n 2, 1) := by decide +kernel
theorem dJ9_floorMod_7cf53_15 : decode cJ9_floorMod_7cf53 15 = .ok (.iload_n 1, 1) := by decide +kernel
theorem dJ9_floorMod_7cf53_16 : decode cJ9_floorMod_7cf53 16 = .ok (.iadd, 1) := by decide +kernel
theorem dJ9_floorMod_7cf53_17 : decode cJ9_floorMod_7cf53 17 = .ok (.ireturn, 1) := by decide +kernel
theorem dJ9_floorMod_7cf53_18 : decode cJ9_floorMod_7cf53 18 = .ok (.iload_n 2, 1) := by decide +kernel
theorem dJ9_floorMod_7cf53_19 : decode cJ9_floorMod_7cf53 19 = .ok (.ireturn, 1) := by decide +kernel
theorem dJ9_max_7cf53_0 : decode cJ9_max_7cf53 0 = .ok (.iload_n 0, 1) := by decide +kernel
theorem dJ9_max_7cf53_1 : decode cJ9_max_7cf53 1 = .ok (.iload_n 1, 1) := by decide +kernel
theorem dJ9_max_7cf53_2 : decode cJ9_max_7cf53 2 = .ok (.if_icmp .lt 7, 3) := by decide +kernel
theorem dJ9_max_7cf53_5 : decode cJ9_max_7cf53 5 = .ok (.iload_n 0, 1) := by decide +kernel
theorem dJ9_max_7cf53_6 : decode cJ9_max_7cf53 6 = .ok (.goto 4, 3) := by decide +kernel
theorem dJ9_max_7cf53_9 : decode cJ9_max_7cf53 9 = .ok (.iload_n 1, 1) := by decide +kernel
theorem dJ9_max_7cf53_10 : decode cJ9_max_7cf53 10 = .ok (.ireturn, 1) := by decide +kernel
theorem dJ0_length_8abf5_0 : decode cJ0_length_8abf5 0 = .ok (.aload_n 0, 1) := by decide +kernel
theorem dJ0_length_8abf5_1 : decode cJ0_length_8abf5 1 = .ok (.getfield 9, 3) := by decide +kernel
theorem dJ0_length_8abf5_4 : decode cJ0_length_8abf5 4 = .ok (.arraylength, 1) := by decide +kernel
theorem dJ0_length_8abf5_5 : decode cJ0_length_8abf5 5 = .ok (.aload_n 0, 1) := by decide +kernel
theorem dJ0_length_8abf5_6 : decode cJ0_length_8abf5 6 = .ok (.invokevirtual 335, 3) := by decide +kernel
theorem dJ0_length_8abf5_9 : decode cJ0_length_8abf5 9 = .ok (.ishr, 1) := by decide +kernel
theorem dJ0_length_8abf5_10 : decode cJ0_length_8abf5 10 = .ok (.ireturn, 1) := by decide +kernel
theorem dJ0_charAt_5068e_0 : decode cJ0_charAt_5068e 0 = .ok (.aload_n 0, 1) := by decide +kernel
theorem dJ0_charAt_5068e_1 : decode cJ0_charAt_5068e 1 = .ok (.invokevirtual 492, 3) := by decide +kernel
theorem dJ0_charAt_5068e_4 : decode cJ0_charAt_5068e 4 = .ok (.ifCond .eq 12, 3) := by decide +kernel
theorem dJ0_charAt_5068e_7 : decode cJ0_charAt_5068e 7 = .ok (.aload_n 0, 1) := by decide +kernel
theorem dJ0_charAt_5068e_8 : decode cJ0_charAt_5068e 8 = .ok (.getfield 9, 3) := by decide +kernel
theorem dJ0_charAt_5068e_11 : decode cJ0_charAt_5068e 11 = .ok (.iload_n 1, 1) := by decide +kernel
theorem dJ0_charAt_5068e_12 : decode cJ0_charAt_5068e 12 = .ok (.invokestatic 495, 3) := by decide +kernel
theorem dJ0_charAt_5068e_15 : decode cJ0_charAt_5068e 15 = .ok (.ireturn, 1) := by decide +kernel
theorem dJ0_charAt_5068e_16 : decode cJ0_charAt_5068e 16 = .ok (.aload_n 0, 1) := by decide +kernel
theorem dJ0_charAt_5068e_17 : decode cJ0_charAt_5068e 17 = .ok (.getfield 9, 3) := by decide +kernel
theorem dJ0_charAt_5068e_20 : decode cJ0_charAt_5068e 20 = .ok (.iload_n 1, 1) := by decide +kernel
theorem dJ0_charAt_5068e_21 : decode cJ0_charAt_5068e 21 = .ok (.invokestatic 498, 3) := by decide +kernel
theorem dJ0_charAt_5068e_24 : decode cJ0_charAt_5068e 24 = .ok (.ireturn, 1) := by decide +kernel
theorem dJ0_coder_7d493_0 : decode cJ0_coder_7d493 0 = .ok (.getstatic 38, 3) := by decide +kernel
theorem dJ0_coder_7d493_3 : decode cJ0_coder_7d493 3 = .ok (.ifCond .eq 10, 3) := by decide +kernel
theorem dJ0_coder_7d493_6 : decode cJ0_coder_7d493 6 = .ok (.aload_n 0, 1) := by decide +kernel
theorem dJ0_coder_7d493_7 : decode cJ0_coder_7d493 7 = .ok (.getfield 15, 3) := by decide +kernel
theorem dJ0_coder_7d493_10 : decode cJ0_coder_7d493 10 = .ok (.goto 4, 3) := by decide +kernel
theorem dJ0_coder_7d493_13 : decode cJ0_coder_7d493 13 = .ok (.iconst 1, 1) := by decide +kernel
theorem dJ0_coder_7d493_14 : decode cJ0_coder_7d493 14 = .ok (.ireturn, 1) := by decide +kernel
theorem dJ0_isLatin1_aae02_0 : decode cJ0_isLatin1_aae02 0 = .ok (.getstatic 38, 3) := by decide +kernel
theorem dJ0_isLatin1_aae02_3 : decode cJ0_isLatin1_aae02 3 = .ok (.ifCond .eq 14, 3) := by decide +kernel
theorem dJ0_isLatin1_aae02_6 : decode cJ0_isLatin1_aae02 6 = .ok (.aload_n 0, 1) := by decide +kernel
theorem dJ0_isLatin1_aae02_7 : decode cJ0_isLatin1_aae02 7 = .ok (.getfield 15, 3) := by decide +kernel
theorem dJ0_isLatin1_aae02_10 : decode cJ0_isLatin1_aae02 10 = .ok (.ifCond .ne 7, 3) := by decide +kernel
theorem dJ0_isLatin1_aae02_13 : decode cJ0_isLatin1_aae02 13 = .ok (.iconst 1, 1) := by decide +kernel
theorem dJ0_isLatin1_aae02_14 : decode cJ0_isLatin1_aae02 14 = .ok (.goto 4, 3) := by decide +kernel
theorem dJ0_isLatin1_aae02_17 : decode cJ0_isLatin1_aae02 17 = .ok (.iconst 0, 1) := by decide +kernel
theorem dJ0_isLatin1_aae02_18 : decode cJ0_isLatin1_aae02 18 = .ok (.ireturn, 1) := by decide +kernel
theorem dJ0_checkIndex_df160_0 : decode cJ0_checkIndex_df160 0 = .ok (.iload_n 0, 1) := by decide +kernel
theorem dJ0_checkIndex_df160_1 : decode cJ0_checkIndex_df160 1 = .ok (.iload_n 1, 1) := by decide +kernel
theorem dJ0_checkIndex_df160_2 : decode cJ0_checkIndex_df160 2 = .ok (.getstatic 1053, 3) := by decide +kernel
theorem dJ0_checkIndex_df160_5 : decode cJ0_checkIndex_df160 5 = .ok (.invokestatic 1059, 3) := by decide +kernel
theorem dJ0_checkIndex_df160_8 : decode cJ0_checkIndex_df160 8 = .ok (.pop, 1) := by decide +kernel
theorem dJ0_checkIndex_df160_9 : decode cJ0_checkIndex_df160 9 = .ok (.return_, 1) := by decide +kernel
theorem dJ1_charAt_3b067_0 : decode cJ1_charAt_3b067 0 = .ok (.iload_n 1, 1) := by decide +kernel
theorem dJ1_charAt_3b067_1 : decode cJ1_charAt_3b067 1 = .ok (.aload_n 0, 1) := by decide +kernel
theorem dJ1_charAt_3b067_2 : decode cJ1_charAt_3b067 2 = .ok (.arraylength, 1) := by decide +kernel
theorem dJ1_charAt_3b067_3 : decode cJ1_charAt_3b067 3 = .ok (.invokestatic 9, 3) := by decide +kernel
theorem dJ1_charAt_3b067_6 : decode cJ1_charAt_3b067 6 = .ok (.aload_n 0, 1) := by decide +kernel
theorem dJ1_charAt_3b067_7 : decode cJ1_charAt_3b067 7 = .ok (.iload_n 1, 1) := by decide +kernel
theorem dJ1_charAt_3b067_8 : decode cJ1_charAt_3b067 8 = .ok (.baload, 1) := by decide +kernel
theorem dJ1_charAt_3b067_9 : decode cJ1_charAt_3b067 9 = .ok (.sipush 255, 3) := by decide +kernel
theorem dJ1_charAt_3b067_12 : decode cJ1_charAt_3b067 12 = .ok (.iand, 1) := by decide +kernel
theorem dJ1_charAt_3b067_13 : decode cJ1_charAt_3b067 13 = .ok (.i2c, 1) := by decide +kernel
theorem dJ1_charAt_3b067_14 : decode cJ1_charAt_3b067 14 = .ok (.ireturn, 1) := by decide +kernel
theorem dJ2_getChar_3b067_0 : decode cJ2_getChar_3b067 0 = .ok (.getstatic 44, 3) := by decide +kernel
theorem dJ2_getChar_3b067_3 : decode cJ2_getChar_3b067 3 = .ok (.ifCond .ne 25, 3) := by decide +kernel
theorem dJ2_getChar_3b067_6 : decode cJ2_getChar_3b067 6 = .ok (.iload_n 1, 1) := by decide +kernel
theorem dJ2_getChar_3b067_7 : decode cJ2_getChar_3b067 7 = .ok (.ifCond .lt 11, 3) := by decide +kernel
theorem dJ2_getChar_3b067_10 : decode cJ2_getChar_3b067 10 = .ok (.iload_n 1, 1) := by decide +kernel
theorem dJ2_getChar_3b067_11 : decode cJ2_getChar_3b067 11 = .ok (.aload_n 0, 1) := by decide +kernel
theorem dJ2_getChar_3b067_12 : decode cJ2_getChar_3b067 12 = .ok (.invokestatic 48, 3) := by decide +kernel
theorem dJ2_getChar_3b067_15 : decode cJ2_getChar_3b067 15 = .ok (.if_icmp .lt 13, 3) := by decide +kernel
theorem dJ2_getChar_3b067_18 : decode cJ2_getChar_3b067 18 = .ok (.new 52, 3) := by decide +kernel
theorem dJ2_getChar_3b067_21 : decode cJ2_getChar_3b067 21 = .ok (.dup, 1) := by decide +kernel
theorem dJ2_getChar_3b067_22 : decode cJ2_getChar_3b067 22 = .ok (.ldc 54, 2) := by decide +kernel
theorem dJ2_getChar_3b067_24 : decode cJ2_getChar_3b067 24 = .ok (.invokespecial 56, 3) := by decide +kernel
theorem dJ2_getChar_3b067_27 : decode cJ2_getChar_3b067 27 = .ok (.athrow, 1) := by decide +kernel
theorem dJ2_getChar_3b067_28 : decode cJ2_getChar_3b067 28 = .ok (.iload_n 1, 1) := by decide +kernel
theorem dJ2_getChar_3b067_29 : decode cJ2_getChar_3b067 29 = .ok (.iconst 1, 1) := by decide +kernel
theorem dJ2_getChar_3b067_30 : decode cJ2_getChar_3b067 30 = .ok (.ishl, 1) := by decide +kernel
theorem dJ2_getChar_3b067_31 : decode cJ2_getChar_3b067 31 = .ok (.istore_n 1, 1) := by decide +kernel
theorem dJ2_getChar_3b067_32 : decode cJ2_getChar_3b067 32 = .ok (.aload_n 0, 1) := by decide +kernel
theorem dJ2_getChar_3b067_33 : decode cJ2_getChar_3b067 33 = .ok (.iload_n 1, 1) := by decide +kernel
theorem dJ2_getChar_3b067_34 : decode cJ2_getChar_3b067 34 = .ok (.iinc 1 1, 3) := by decide +kernel
theorem dJ2_getChar_3b067_37 : decode cJ2_getChar_3b067 37 = .ok (.baload, 1) := by decide +kernel
theorem dJ2_getChar_3b067_38 : decode cJ2_getChar_3b067 38 = .ok (.sipush 255, 3) := by decide +kernel
theorem dJ2_getChar_3b067_41 : decode cJ2_getChar_3b067 41 = .ok (.iand, 1) := by decide +kernel
theorem dJ2_getChar_3b067_42 : decode cJ2_getChar_3b067 42 = .ok (.getstatic 59, 3) := by decide +kernel
theorem dJ2_getChar_3b067_45 : decode cJ2_getChar_3b067 45 = .ok (.ishl, 1) := by decide +kernel
theorem dJ2_getChar_3b067_46 : decode cJ2_getChar_3b067 46 = .ok (.aload_n 0, 1) := by decide +kernel
theorem dJ2_getChar_3b067_47 : decode cJ2_getChar_3b067 47 = .ok (.iload_n 1, 1) := by decide +kernel
theorem dJ2_getChar_3b067_48 : decode cJ2_getChar_3b067 48 = .ok (.baload, 1) := by decide +kernel
theorem dJ2_getChar_3b067_49 : decode cJ2_getChar_3b067 49 = .ok (.sipush 255, 3) := by decide +kernel
theorem dJ2_getChar_3b067_52 : decode cJ2_getChar_3b067 52 = .ok (.iand, 1) := by decide +kernel
theorem dJ2_getChar_3b067_53 : decode cJ2_getChar_3b067 53 = .ok (.getstatic 63, 3) := by decide +kernel
theorem dJ2_getChar_3b067_56 : decode cJ2_getChar_3b067 56 = .ok (.ishl, 1) := by decide +kernel
theorem dJ2_getChar_3b067_57 : decode cJ2_getChar_3b067 57 = .ok (.ior, 1) := by decide +kernel
theorem dJ2_getChar_3b067_58 : decode cJ2_getChar_3b067 58 = .ok (.i2c, 1) := by decide +kernel
theorem dJ2_getChar_3b067_59 : decode cJ2_getChar_3b067 59 = .ok (.ireturn, 1) := by decide +kernel
theorem dJ2_length_9d52b_0 : decode cJ2_length_9d52b 0 = .ok (.aload_n 0, 1) := by decide +kernel
theorem dJ2_length_9d52b_1 : decode cJ2_length_9d52b 1 = .ok (.arraylength, 1) := by decide +kernel
theorem dJ2_length_9d52b_2 : decode cJ2_length_9d52b 2 = .ok (.iconst 1, 1) := by decide +kernel
theorem dJ2_length_9d52b_3 : decode cJ2_length_9d52b 3 = .ok (.ishr, 1) := by decide +kernel
theorem dJ2_length_9d52b_4 : decode cJ2_length_9d52b 4 = .ok (.ireturn, 1) := by decide +kernel
theorem dJ2_charAt_3b067_0 : decode cJ2_charAt_3b067 0 = .ok (.iload_n 1, 1) := by decide +kernel
theorem dJ2_charAt_3b067_1 : decode cJ2_charAt_3b067 1 = .ok (.aload_n 0, 1) := by decide +kernel
theorem dJ2_charAt_3b067_2 : decode cJ2_charAt_3b067 2 = .ok (.invokestatic 67, 3) := by decide +kernel
theorem dJ2_charAt_3b067_5 : decode cJ2_charAt_3b067 5 = .ok (.aload_n 0, 1) := by decide +kernel
theorem dJ2_charAt_3b067_6 : decode cJ2_charAt_3b067 6 = .ok (.iload_n 1, 1) := by decide +kernel
theorem dJ2_charAt_3b067_7 : decode cJ2_charAt_3b067 7 = .ok (.invokestatic 71, 3) := by decide +kernel
theorem dJ2_charAt_3b067_10 : decode cJ2_charAt_3b067 10 = .ok (.ireturn, 1) := by decide +kernel
theorem dJ2_checkIndex_2214a_0 : decode cJ2_checkIndex_2214a 0 = .ok (.iload_n 0, 1) := by decide +kernel
theorem dJ2_checkIndex_2214a_1 : decode cJ2_checkIndex_2214a 1 = .ok (.aload_n 1, 1) := by decide +kernel
theorem dJ2_checkIndex_2214a_2 : decode cJ2_checkIndex_2214a 2 = .ok (.invokestatic 48, 3) := by decide +kernel
theorem dJ2_checkIndex_2214a_5 : decode cJ2_checkIndex_2214a 5 = .ok (.invokestatic 414, 3) := by decide +kernel
theorem dJ2_checkIndex_2214a_8 : decode cJ2_checkIndex_2214a 8 = .ok (.return_, 1) := by decide +kernel
theorem dJ7_fill_53178_0 : decode cJ7_fill_53178 0 = .ok (.iconst 0, 1) := by decide +kernel
theorem dJ7_fill_53178_1 : decode cJ7_fill_53178 1 = .ok (.istore_n 2, 1) := by decide +kernel
theorem dJ7_fill_53178_2 : decode cJ7_fill_53178 2 = .ok (.aload_n 0, 1) := by decide +kernel
theorem dJ7_fill_53178_3 : decode cJ7_fill_53178 3 = .ok (.arraylength, 1) := by decide +kernel
theorem dJ7_fill_53178_4 : decode cJ7_fill_53178 4 = .ok (.istore_n 3, 1) := by decide +kernel
theorem dJ7_fill_53178_5 : decode cJ7_fill_53178 5 = .ok (.iload_n 2, 1) := by decide +kernel
theorem dJ7_fill_53178_6 : decode cJ7_fill_53178 6 = .ok (.iload_n 3, 1) := by decide +kernel
theorem dJ7_fill_53178_7 : decode cJ7_fill_53178 7 = .ok (.if_icmp .ge 13, 3) := by decide +kernel
theorem dJ7_fill_53178_10 : decode cJ7_fill_53178 10 = .ok (.aload_n 0, 1) := by decide +kernel
theorem dJ7_fill_53178_11 : decode cJ7_fill_53178 11 = .ok (.iload_n 2, 1) := by decide +kernel
theorem dJ7_fill_53178_12 : decode cJ7_fill_53178 12 = .ok (.iload_n 1, 1) := by decide +kernel
theorem dJ7_fill_53178_13 : decode cJ7_fill_53178 13 = .ok (.iastore, 1) := by decide +kernel
theorem dJ7_fill_53178_14 : decode cJ7_fill_53178 14 = .ok (.iinc 2 1, 3) := by decide +kernel
theorem dJ7_fill_53178_17 : decode cJ7_fill_53178 17 = .ok (.goto (-12), 3) := by decide +kernel
theorem dJ7_fill_53178_20 : decode cJ7_fill_53178 20 = .ok (.return_, 1) := by decide +kernel
theorem dJ3_checkIndex_8e157_0 : decode cJ3_checkIndex_8e157 0 = .ok (.iload_n 0, 1) := by decide +kernel
theorem dJ3_checkIndex_8e157_1 : decode cJ3_checkIndex_8e157 1 = .ok (.ifCond .lt 8, 3) := by decide +kernel
theorem dJ3_checkIndex_8e157_4 : decode cJ3_checkIndex_8e157 4 = .ok (.iload_n 0, 1) := by decide +kernel
theorem dJ3_checkIndex_8e157_5 : decode cJ3_checkIndex_8e157 5 = .ok (.iload_n 1, 1) := by decide +kernel
theorem dJ3_checkIndex_8e157_6 : decode cJ3_checkIndex_8e157 6 = .ok (.if_icmp .lt 10, 3) := by decide +kernel
theorem dJ3_checkIndex_8e157_9 : decode cJ3_checkIndex_8e157 9 = .ok (.aload_n 2, 1) := by decide +kernel
theorem dJ3_checkIndex_8e157_10 : decode cJ3_checkIndex_8e157 10 = .ok (.iload_n 0, 1) := by decide +kernel
theorem dJ3_checkIndex_8e157_11 : decode cJ3_checkIndex_8e157 11 = .ok (.iload_n 1, 1) := by decide +kernel
theorem dJ3_checkIndex_8e157_12 : decode cJ3_checkIndex_8e157 12 = .ok (.invokestatic 95, 3) := by decide +kernel
theorem dJ3_checkIndex_8e157_15 : decode cJ3_checkIndex_8e157 15 = .ok (.athrow, 1) := by decide +kernel
theorem dJ3_checkIndex_8e157_16 : decode cJ3_checkIndex_8e157 16 = .ok (.iload_n 0, 1) := by decide +kernel
theorem dJ3_checkIndex_8e157_17 : decode cJ3_checkIndex_8e157 17 = .ok (.ireturn, 1) := by decide +kernel
end
section
theorem dX11_init_0 : decode cX11_init 0 = .ok (.aload_n 0, 1) := by decide +kernel
theorem dX11_init_1 : decode cX11_init 1 = .ok (.invokespecial 1, 3) := by decide +kernel
theorem dX11_init_4 : decode cX11_init 4 = .ok (.aload_n 0, 1) := by decide +kernel
theorem dX11_init_5 : decode cX11_init 5 = .ok (.bipush 30, 2) := by decide +kernel
theorem dX11_init_7 : decode cX11_init 7 = .ok (.newarray .int, 2) := by decide +kernel
theorem dX11_init_9 : decode cX11_init 9 = .ok (.putfield 7, 3) := by decide +kernel
theorem dX11_init_12 : decode cX11_init 12 = .ok (.aload_n 0, 1) := by decide +kernel
theorem dX11_init_13 : decode cX11_init 13 = .ok (.iconst 4, 1) := by decide +kernel
theorem dX11_init_14 : decode cX11_init 14 = .ok (.putfield 13, 3) := by decide +kernel
theorem dX11_init_17 : decode cX11_init 17 = .ok (.aload_n 0, 1) := by decide +kernel
theorem dX11_init_18 : decode cX11_init 18 = .ok (.bipush 7, 2) := by decide +kernel
theorem dX11_init_20 : decode cX11_init 20 = .ok (.newarray .int, 2) := by decide +kernel
theorem dX11_init_22 : decode cX11_init 22 = .ok (.dup, 1) := by decide +kernel
theorem dX11_init_23 : decode cX11_init 23 = .ok (.iconst 0, 1) := by decide +kernel
theorem dX11_init_24 : decode cX11_init 24 = .ok (.iconst 0, 1) := by decide +kernel
theorem dX11_init_25 : decode cX11_init 25 = .ok (.iastore, 1) := by decide +kernel
theorem dX11_init_26 : decode cX11_init 26 = .ok (.dup, 1) := by decide +kernel
theorem dX11_init_27 : decode cX11_init 27 = .ok (.iconst 1, 1) := by decide +kernel
theorem dX11_init_28 : decode cX11_init 28 = .ok (.iconst 0, 1) := by decide +kernel
theorem dX11_init_29 : decode cX11_init 29 = .ok (.iastore, 1) := by decide +kernel
theorem dX11_init_30 : decode cX11_init 30 = .ok (.dup, 1) := by decide +kernel
theorem dX11_init_31 : decode cX11_init 31 = .ok (.iconst 2, 1) := by decide +kernel
theorem dX11_init_32 : decode cX11_init 32 = .ok (.iconst 1, 1) := by decide +kernel
theorem dX11_init_33 : decode cX11_init 33 = .ok (.iastore, 1) := by decide +kernel
theorem dX11_init_34 : decode cX11_init 34 = .ok (.dup, 1) := by decide +kernel
theorem dX11_init_35 : decode cX11_init 35 = .ok (.iconst 3, 1) := by decide +kernel
theorem dX11_init_36 : decode cX11_init 36 = .ok (.iconst 1, 1) := by decide +kernel
theorem dX11_init_37 : decode cX11_init 37 = .ok (.iastore, 1) := by decide +kernel
theorem dX11_init_38 : decode cX11_init 38 = .ok (.dup, 1) := by decide +kernel
theorem dX11_init_39 : decode cX11_init 39 = .ok (.iconst 4, 1) := by decide +kernel
theorem dX11_init_40 : decode cX11_init 40 = .ok (.iconst 1, 1) := by decide +kernel
theorem dX11_init_41 : decode cX11_init 41 = .ok (.iastore, 1) := by decide +kernel
theorem dX11_init_42 : decode cX11_init 42 = .ok (.dup, 1) := by decide +kernel
theorem dX11_init_43 : decode cX11_init 43 = .ok (.iconst 5, 1) := by decide +kernel
theorem dX11_init_44 : decode cX11_init 44 = .ok (.iconst 2, 1) := by decide +kernel
theorem dX11_init_45 : decode cX11_init 45 = .ok (.iastore, 1) := by decide +kernel
theorem dX11_init_46 : decode cX11_init 46 = .ok (.dup, 1) := by decide +kernel
theorem dX11_init_47 : decode cX11_init 47 = .ok (.bipush 6, 2) := by decide +kernel
theorem dX11_init_49 : decode cX11_init 49 = .ok (.iconst 3, 1) := by decide +kernel
theorem dX11_init_50 : decode cX11_init 50 = .ok (.iastore, 1) := by decide +kernel
theorem dX11_init_51 : decode cX11_init 51 = .ok (.putfield 17, 3) := by decide +kernel
theorem dX11_init_54 : decode cX11_init 54 = .ok (.aload_n 0, 1) := by decide +kernel
theorem dX11_init_55 : decode cX11_init 55 = .ok (.iconst (-1), 1) := by decide +kernel
theorem dX11_init_56 : decode cX11_init 56 = .ok (.putfield 20, 3) := by decide +kernel
theorem dX11_init_59 : decode cX11_init 59 = .ok (.aload_n 0, 1) := by decide +kernel
theorem dX11_init_60 : decode cX11_init 60 = .ok (.bipush 40, 2) := by decide +kernel
theorem dX11_init_62 : decode cX11_init 62 = .ok (.newarray .int, 2) := by decide +kernel
theorem dX11_init_64 : decode cX11_init 64 = .ok (.putfield 23, 3) := by decide +kernel
theorem dX11_init_67 : decode cX11_init 67 = .ok (.aload_n 0, 1) := by decide +kernel
theorem dX11_init_68 : decode cX11_init 68 = .ok (.bipush 40, 2) := by decide +kernel
theorem dX11_init_70 : decode cX11_init 70 = .ok (.newarray .int, 2) := by decide +kernel
theorem dX11_init_72 : decode cX11_init 72 = .ok (.putfield 26, 3) := by decide +kernel
theorem dX11_init_75 : decode cX11_init 75 = .ok (.aload_n 0, 1) := by decide +kernel
theorem dX11_init_76 : decode cX11_init 76 = .ok (.bipush 40, 2) := by decide +kernel
theorem dX11_init_78 : decode cX11_init 78 = .ok (.newarray .int, 2) := by decide +kernel
theorem dX11_init_80 : decode cX11_init 80 = .ok (.putfield 29, 3) := by decide +kernel
theorem dX11_init_83 : decode cX11_init 83 = .ok (.aload_n 0, 1) := by decide +kernel
theorem dX11_init_84 : decode cX11_init 84 = .ok (.bipush 40, 2) := by decide +kernel
theorem dX11_init_86 : decode cX11_init 86 = .ok (.newarray .int, 2) := by decide +kernel
theorem dX11_init_88 : decode cX11_init 88 = .ok (.putfield 32, 3) := by decide +kernel
theorem dX11_init_91 : decode cX11_init 91 = .ok (.aload_n 0, 1) := by decide +kernel
theorem dX11_init_92 : decode cX11_init 92 = .ok (.bipush 40, 2) := by decide +kernel
theorem dX11_init_94 : decode cX11_init 94 = .ok (.newarray .int, 2) := by decide +kernel
theorem dX11_init_96 : decode cX11_init 96 = .ok (.putfield 35, 3) := by decide +kernel
theorem dX11_init_99 : decode cX11_init 99 = .ok (.aload_n 0, 1) := by decide +kernel
theorem dX11_init_100 : decode cX11_init 100 = .ok (.bipush 64, 2) := by decide +kernel
theorem dX11_init_102 : decode cX11_init 102 = .ok (.newarray .int, 2) := by decide +kernel
theorem dX11_init_104 : decode cX11_init 104 = .ok (.putfield 38, 3) := by decide +kernel
theorem dX11_init_107 : decode cX11_init 107 = .ok (.aload_n 0, 1) := by decide +kernel
theorem dX11_init_108 : decode cX11_init 108 = .ok (.bipush 8, 2) := by decide +kernel
theorem dX11_init_110 : decode cX11_init 110 = .ok (.newarray .int, 2) := by decide +kernel
theorem dX11_init_112 : decode cX11_init 112 = .ok (.dup, 1) := by decide +kernel
theorem dX11_init_113 : decode cX11_init 113 = .ok (.iconst 0, 1) := by decide +kernel
theorem dX11_init_114 : decode cX11_init 114 = .ok (.iconst 1, 1) := by decide +kernel
theorem dX11_init_115 : decode cX11_init 115 = .ok (.iastore, 1) := by decide +kernel
theorem dX11_init_116 : decode cX11_init 116 = .ok (.dup, 1) := by decide +kernel
theorem dX11_init_117 : decode cX11_init 117 = .ok (.iconst 1, 1) := by decide +kernel
theorem dX11_init_118 : decode cX11_init 118 = .ok (.iconst 1, 1) := by decide +kernel
theorem dX11_init_119 : decode cX11_init 119 = .ok (.iastore, 1) := by decide +kernel
theorem dX11_init_120 : decode cX11_init 120 = .ok (.dup, 1) := by decide +kernel
theorem dX11_init_121 : decode cX11_init 121 = .ok (.iconst 2, 1) := by decide +kernel
theorem dX11_init_122 : decode cX11_init 122 = .ok (.iconst 1, 1) := by decide +kernel
theorem dX11_init_123 : decode cX11_init 123 = .ok (.iastore, 1) := by decide +kernel
theorem dX11_init_124 : decode cX11_init 124 = .ok (.dup, 1) := by decide +kernel
theorem dX11_init_125 : decode cX11_init 125 = .ok (.iconst 3, 1) := by decide +kernel
theorem dX11_init_126 : decode cX11_init 126 = .ok (.iconst 1, 1) := by decide +kernel
theorem dX11_init_127 : decode cX11_init 127 = .ok (.iastore, 1) := by decide +kernel
theorem dX11_init_128 : decode cX11_init 128 = .ok (.dup, 1) := by decide +kernel
theorem dX11_init_129 : decode cX11_init 129 = .ok (.iconst 4, 1) := by decide +kernel
theorem dX11_init_130 : decode cX11_init 130 = .ok (.iconst 1, 1) := by decide +kernel
theorem dX11_init_131 : decode cX11_init 131 = .ok (.iastore, 1) := by decide +kernel
theorem dX11_init_132 : decode cX11_init 132 = .ok (.dup, 1) := by decide +kernel
theorem dX11_init_133 : decode cX11_init 133 = .ok (.iconst 5, 1) := by decide +kernel
theorem dX11_init_134 : decode cX11_init 134 = .ok (.iconst 1, 1) := by decide +kernel
theorem dX11_init_135 : decode cX11_init 135 = .ok (.iastore, 1) := by decide +kernel
theorem dX11_init_136 : decode cX11_init 136 = .ok (.dup, 1) := by decide +kernel
theorem dX11_init_137 : decode cX11_init 137 = .ok (.bipush 6, 2) := by decide +kernel
theorem dX11_init_139 : decode cX11_init 139 = .ok (.iconst 1, 1) := by decide +kernel
theorem dX11_init_140 : decode cX11_init 140 = .ok (.iastore, 1) := by decide +kernel
theorem dX11_init_141 : decode cX11_init 141 = .ok (.dup, 1) := by decide +kernel
theorem dX11_init_142 : decode cX11_init 142 = .ok (.bipush 7, 2) := by decide +kernel
theorem dX11_init_144 : decode cX11_init 144 = .ok (.iconst 1, 1) := by decide +kernel
theorem dX11_init_145 : decode cX11_init 145 = .ok (.iastore, 1) := by decide +kernel
theorem dX11_init_146 : decode cX11_init 146 = .ok (.putfield 41, 3) := by decide +kernel
theorem dX11_init_149 : decode cX11_init 149 = .ok (.aload_n 0, 1) := by decide +kernel
theorem dX11_init_150 : decode cX11_init 150 = .ok (.bipush 8, 2) := by decide +kernel
theorem dX11_init_152 : decode cX11_init 152 = .ok (.newarray .int, 2) := by decide +kernel
theorem dX11_init_154 : decode cX11_init 154 = .ok (.putfield 44, 3) := by decide +kernel
theorem dX11_init_157 : decode cX11_init 157 = .ok (.aload_n 0, 1) := by decide +kernel
theorem dX11_init_158 : decode cX11_init 158 = .ok (.bipush 8, 2) := by decide +kernel
theorem dX11_init_160 : decode cX11_init 160 = .ok (.newarray .boolean, 2) := by decide +kernel
theorem dX11_init_162 : decode cX11_init 162 = .ok (.putfield 47, 3) := by decide +kernel
theorem dX11_init_165 : decode cX11_init 165 = .ok (.aload_n 0, 1) := by decide +kernel
theorem dX11_init_166 : decode cX11_init 166 = .ok (.bipush 8, 2) := by decide +kernel
theorem dX11_init_168 : decode cX11_init 168 = .ok (.newarray .int, 2) := by decide +kernel
theorem dX11_init_170 : decode cX11_init 170 = .ok (.putfield 51, 3) := by decide +kernel
theorem dX11_init_173 : decode cX11_init 173 = .ok (.aload_n 0, 1) := by decide +kernel
theorem dX11_init_174 : decode cX11_init 174 = .ok (.bipush 8, 2) := by decide +kernel
theorem dX11_init_176 : decode cX11_init 176 = .ok (.newarray .int, 2) := by decide +kernel
theorem dX11_init_178 : decode cX11_init 178 = .ok (.putfield 54, 3) := by decide +kernel
theorem dX11_init_181 : decode cX11_init 181 = .ok (.aload_n 0, 1) := by decide +kernel
theorem dX11_init_182 : decode cX11_init 182 = .ok (.bipush 8, 2) := by decide +kernel
theorem dX11_init_184 : decode cX11_init 184 = .ok (.newarray .int, 2) := by decide +kernel
theorem dX11_init_186 : decode cX11_init 186 = .ok (.putfield 57, 3) := by decide +kernel
theorem dX11_init_189 : decode cX11_init 189 = .ok (.aload_n 0, 1) := by decide +kernel
theorem dX11_init_190 : decode cX11_init 190 = .ok (.bipush 8, 2) := by decide +kernel
theorem dX11_init_192 : decode cX11_init 192 = .ok (.newarray .int, 2) := by decide +kernel
theorem dX11_init_194 : decode cX11_init 194 = .ok (.putfield 60, 3) := by decide +kernel
theorem dX11_init_197 : decode cX11_init 197 = .ok (.aload_n 0, 1) := by decide +kernel
theorem dX11_init_198 : decode cX11_init 198 = .ok (.bipush 8, 2) := by decide +kernel
theorem dX11_init_200 : decode cX11_init 200 = .ok (.newarray .int, 2) := by decide +kernel
theorem dX11_init_202 : decode cX11_init 202 = .ok (.putfield 63, 3) := by decide +kernel
theorem dX11_init_205 : decode cX11_init 205 = .ok (.aload_n 0, 1) := by decide +kernel
theorem dX11_init_206 : decode cX11_init 206 = .ok (.bipush 8, 2) := by decide +kernel
theorem dX11_init_208 : decode cX11_init 208 = .ok (.newarray .int, 2) := by decide +kernel
theorem dX11_init_210 : decode cX11_init 210 = .ok (.putfield 66, 3) := by decide +kernel
theorem dX11_init_213 : decode cX11_init 213 = .ok (.aload_n 0, 1) := by decide +kernel
theorem dX11_init_214 : decode cX11_init 214 = .ok (.bipush 8, 2) := by decide +kernel
theorem dX11_init_216 : decode cX11_init 216 = .ok (.newarray .int, 2) := by decide +kernel
theorem dX11_init_218 : decode cX11_init 218 = .ok (.putfield 69, 3) := by decide +kernel
theorem dX11_init_221 : decode cX11_init 221 = .ok (.aload_n 0, 1) := by decide +kernel
theorem dX11_init_222 : decode cX11_init 222 = .ok (.bipush 64, 2) := by decide +kernel
theorem dX11_init_224 : decode cX11_init 224 = .ok (.newarray .int, 2) := by decide +kernel
theorem dX11_init_226 : decode cX11_init 226 = .ok (.putfield 72, 3) := by decide +kernel
theorem dX11_init_229 : decode cX11_init 229 = .ok (.aload_n 0, 1) := by decide +kernel
theorem dX11_init_230 : decode cX11_init 230 = .ok (.sipush 1000, 3) := by decide +kernel
theorem dX11_init_233 : decode cX11_init 233 = .ok (.newarray .int, 2) := by decide +kernel
theorem dX11_init_235 : decode cX11_init 235 = .ok (.putfield 75, 3) := by decide +kernel
theorem dX11_init_238 : decode cX11_init 238 = .ok (.aload_n 0, 1) := by decide +kernel
theorem dX11_init_239 : decode cX11_init 239 = .ok (.sipush 1000, 3) := by decide +kernel
theorem dX11_init_242 : decode cX11_init 242 = .ok (.newarray .int, 2) := by decide +kernel
theorem dX11_init_244 : decode cX11_init 244 = .ok (.putfield 78, 3) := by decide +kernel
theorem dX11_init_247 : decode cX11_init 247 = .ok (.aload_n 0, 1) := by decide +kernel
theorem dX11_init_248 : decode cX11_init 248 = .ok (.sipush 1000, 3) := by decide +kernel
theorem dX11_init_251 : decode cX11_init 251 = .ok (.newarray .int, 2) := by decide +kernel
theorem dX11_init_253 : decode cX11_init 253 = .ok (.putfield 81, 3) := by decide +kernel
theorem dX11_init_256 : decode cX11_init 256 = .ok (.aload_n 0, 1) := by decide +kernel
theorem dX11_init_257 : decode cX11_init 257 = .ok (.sipush 1000, 3) := by decide +kernel
theorem dX11_init_260 : decode cX11_init 260 = .ok (.newarray .int, 2) := by decide +kernel
theorem dX11_init_262 : decode cX11_init 262 = .ok (.putfield 84, 3) := by decide +kernel
theorem dX11_init_265 : decode cX11_init 265 = .ok (.aload_n 0, 1) := by decide +kernel
theorem dX11_init_266 : decode cX11_init 266 = .ok (.bipush 7, 2) := by decide +kernel
theorem dX11_init_268 : decode cX11_init 268 = .ok (.newarray .int, 2) := by decide +kernel
theorem dX11_init_270 : decode cX11_init 270 = .ok (.putfield 87, 3) := by decide +kernel
theorem dX11_init_273 : decode cX11_init 273 = .ok (.aload_n 0, 1) := by decide +kernel
theorem dX11_init_274 : decode cX11_init 274 = .ok (.bipush 8, 2) := by decide +kernel
theorem dX11_init_276 : decode cX11_init 276 = .ok (.newarray .int, 2) := by decide +kernel
theorem dX11_init_278 : decode cX11_init 278 = .ok (.putfield 90, 3) := by decide +kernel
theorem dX11_init_281 : decode cX11_init 281 = .ok (.aload_n 0, 1) := by decide +kernel
theorem dX11_init_282 : decode cX11_init 282 = .ok (.bipush 64, 2) := by decide +kernel
theorem dX11_init_284 : decode cX11_init 284 = .ok (.newarray .int, 2) := by decide +kernel
theorem dX11_init_286 : decode cX11_init 286 = .ok (.putfield 93, 3) := by decide +kernel
theorem dX11_init_289 : decode cX11_init 289 = .ok (.aload_n 0, 1) := by decide +kernel
theorem dX11_init_290 : decode cX11_init 290 = .ok (.invokevirtual 96, 3) := by decide +kernel
theorem dX11_init_293 : decode cX11_init 293 = .ok (.return_, 1) := by decide +kernel
theorem dX11_anew_0 : decode cX11_anew 0 = .ok (.aload_n 0, 1) := by decide +kernel
theorem dX11_anew_1 : decode cX11_anew 1 = .ok (.iconst 0, 1) := by decide +kernel
theorem dX11_anew_2 : decode cX11_anew 2 = .ok (.putfield 99, 3) := by decide +kernel
theorem dX11_anew_5 : decode cX11_anew 5 = .ok (.aload_n 0, 1) := by decide +kernel
theorem dX11_anew_6 : decode cX11_anew 6 = .ok (.iconst 0, 1) := by decide +kernel
theorem dX11_anew_7 : decode cX11_anew 7 = .ok (.putfield 102, 3) := by decide +kernel
theorem dX11_anew_10 : decode cX11_anew 10 = .ok (.aload_n 0, 1) := by decide +kernel
theorem dX11_anew_11 : decode cX11_anew 11 = .ok (.iconst 0, 1) := by decide +kernel
theorem dX11_anew_12 : decode cX11_anew 12 = .ok (.putfield 106, 3) := by decide +kernel
theorem dX11_anew_15 : decode cX11_anew 15 = .ok (.aload_n 0, 1) := by decide +kernel
theorem dX11_anew_16 : decode cX11_anew 16 = .ok (.iconst 0, 1) := by decide +kernel
theorem dX11_anew_17 : decode cX11_anew 17 = .ok (.putfield 109, 3) := by decide +kernel
theorem dX11_anew_20 : decode cX11_anew 20 = .ok (.aload_n 0, 1) := by decide +kernel
theorem dX11_anew_21 : decode cX11_anew 21 = .ok (.iconst 0, 1) := by decide +kernel
theorem dX11_anew_22 : decode cX11_anew 22 = .ok (.putfield 112, 3) := by decide +kernel
theorem dX11_anew_25 : decode cX11_anew 25 = .ok (.iconst 0, 1) := by decide +kernel
theorem dX11_anew_26 : decode cX11_anew 26 = .ok (.istore_n 1, 1) := by decide +kernel
theorem dX11_anew_27 : decode cX11_anew 27 = .ok (.iload_n 1, 1) := by decide +kernel
theorem dX11_anew_28 : decode cX11_anew 28 = .ok (.bipush 8, 2) := by decide +kernel
theorem dX11_anew_30 : decode cX11_anew 30 = .ok (.if_icmp .ge 30, 3) := by decide +kernel
theorem dX11_anew_33 : decode cX11_anew 33 = .ok (.aload_n 0, 1) := by decide +kernel
theorem dX11_anew_34 : decode cX11_anew 34 = .ok (.getfield 47, 3) := by decide +kernel
theorem dX11_anew_37 : decode cX11_anew 37 = .ok (.iload_n 1, 1) := by decide +kernel
theorem dX11_anew_38 : decode cX11_anew 38 = .ok (.iconst 0, 1) := by decide +kernel
theorem dX11_anew_39 : decode cX11_anew 39 = .ok (.bastore, 1) := by decide +kernel
theorem dX11_anew_40 : decode cX11_anew 40 = .ok (.aload_n 0, 1) := by decide +kernel
theorem dX11_anew_41 : decode cX11_anew 41 = .ok (.getfield 66, 3) := by decide +kernel
theorem dX11_anew_44 : decode cX11_anew 44 = .ok (.iload_n 1, 1) := by decide +kernel
theorem dX11_anew_45 : decode cX11_anew 45 = .ok (.iconst 0, 1) := by decide +kernel
theorem dX11_anew_46 : decode cX11_anew 46 = .ok (.iastore, 1) := by decide +kernel
theorem dX11_anew_47 : decode cX11_anew 47 = .ok (.aload_n 0, 1) := by decide +kernel
theorem dX11_anew_48 : decode cX11_anew 48 = .ok (.getfield 69, 3) := by decide +kernel
theorem dX11_anew_51 : decode cX11_anew 51 = .ok (.iload_n 1, 1) := by decide +kernel
theorem dX11_anew_52 : decode cX11_anew 52 = .ok (.iconst 0, 1) := by decide +kernel
theorem dX11_anew_53 : decode cX11_anew 53 = .ok (.iastore, 1) := by decide +kernel
theorem dX11_anew_54 : decode cX11_anew 54 = .ok (.iinc 1 1, 3) := by decide +kernel
theorem dX11_anew_57 : decode cX11_anew 57 = .ok (.goto (-30), 3) := by decide +kernel
theorem dX11_anew_60 : decode cX11_anew 60 = .ok (.iconst 0, 1) := by decide +kernel
theorem dX11_anew_61 : decode cX11_anew 61 = .ok (.istore_n 1, 1) := by decide +kernel
theorem dX11_anew_62 : decode cX11_anew 62 = .ok (.iload_n 1, 1) := by decide +kernel
theorem dX11_anew_63 : decode cX11_anew 63 = .ok (.bipush 64, 2) := by decide +kernel
theorem dX11_anew_65 : decode cX11_anew 65 = .ok (.if_icmp .ge 21, 3) := by decide +kernel
theorem dX11_anew_68 : decode cX11_anew 68 = .ok (.aload_n 0, 1) := by decide +kernel
theorem dX11_anew_69 : decode cX11_anew 69 = .ok (.getfield 72, 3) := by decide +kernel
theorem dX11_anew_72 : decode cX11_anew 72 = .ok (.iload_n 1, 1) := by decide +kernel
theorem dX11_anew_73 : decode cX11_anew 73 = .ok (.aload_n 0, 1) := by decide +kernel
theorem dX11_anew_74 : decode cX11_anew 74 = .ok (.getfield 38, 3) := by decide +kernel
theorem dX11_anew_77 : decode cX11_anew 77 = .ok (.iload_n 1, 1) := by decide +kernel
theorem dX11_anew_78 : decode cX11_anew 78 = .ok (.iaload, 1) := by decide +kernel
theorem dX11_anew_79 : decode cX11_anew 79 = .ok (.iastore, 1) := by decide +kernel
theorem dX11_anew_80 : decode cX11_anew 80 = .ok (.iinc 1 1, 3) := by decide +kernel
theorem dX11_anew_83 : decode cX11_anew 83 = .ok (.goto (-21), 3) := by decide +kernel
theorem dX11_anew_86 : decode cX11_anew 86 = .ok (.return_, 1) := by decide +kernel
theorem dX11_isIn_0 : decode cX11_isIn 0 = .ok (.iload_n 0, 1) := by decide +kernel
theorem dX11_isIn_1 : decode cX11_isIn 1 = .ok (.iload_n 1, 1) := by decide +kernel
theorem dX11_isIn_2 : decode cX11_isIn 2 = .ok (.if_icmp .lt 12, 3) := by decide +kernel
theorem dX11_isIn_5 : decode cX11_isIn 5 = .ok (.iload_n 0, 1) := by decide +kernel
theorem dX11_isIn_6 : decode cX11_isIn 6 = .ok (.iload_n 2, 1) := by decide +kernel
theorem dX11_isIn_7 : decode cX11_isIn 7 = .ok (.if_icmp .gt 7, 3) := by decide +kernel
theorem dX11_isIn_10 : decode cX11_isIn 10 = .ok (.iconst 1, 1) := by decide +kernel
theorem dX11_isIn_11 : decode cX11_isIn 11 = .ok (.goto 4, 3) := by decide +kernel
theorem dX11_isIn_14 : decode cX11_isIn 14 = .ok (.iconst 0, 1) := by decide +kernel
theorem dX11_isIn_15 : decode cX11_isIn 15 = .ok (.ireturn, 1) := by decide +kernel
theorem dX11_unit_0 : decode cX11_unit 0 = .ok (.iload_n 1, 1) := by decide +kernel
theorem dX11_unit_1 : decode cX11_unit 1 = .ok (.bipush 32, 2) := by decide +kernel
theorem dX11_unit_3 : decode cX11_unit 3 = .ok (.bipush 126, 2) := by decide +kernel
theorem dX11_unit_5 : decode cX11_unit 5 = .ok (.invokestatic 115, 3) := by decide +kernel
theorem dX11_unit_8 : decode cX11_unit 8 = .ok (.ifCond .eq 12, 3) := by decide +kernel
theorem dX11_unit_11 : decode cX11_unit 11 = .ok (.aload_n 0, 1) := by decide +kernel
theorem dX11_unit_12 : decode cX11_unit 12 = .ok (.getfield 119, 3) := by decide +kernel
theorem dX11_unit_15 : decode cX11_unit 15 = .ok (.bipush 30, 2) := by decide +kernel
theorem dX11_unit_17 : decode cX11_unit 17 = .ok (.if_icmp .ne 5, 3) := by decide +kernel
theorem dX11_unit_20 : decode cX11_unit 20 = .ok (.iconst 0, 1) := by decide +kernel
theorem dX11_unit_21 : decode cX11_unit 21 = .ok (.ireturn, 1) := by decide +kernel
theorem dX11_unit_22 : decode cX11_unit 22 = .ok (.aload_n 0, 1) := by decide +kernel
theorem dX11_unit_23 : decode cX11_unit 23 = .ok (.getfield 7, 3) := by decide +kernel
theorem dX11_unit_26 : decode cX11_unit 26 = .ok (.aload_n 0, 1) := by decide +kernel
theorem dX11_unit_27 : decode cX11_unit 27 = .ok (.getfield 119, 3) := by decide +kernel
theorem dX11_unit_30 : decode cX11_unit 30 = .ok (.iload_n 1, 1) := by decide +kernel
theorem dX11_unit_31 : decode cX11_unit 31 = .ok (.iastore, 1) := by decide +kernel
theorem dX11_unit_32 : decode cX11_unit 32 = .ok (.aload_n 0, 1) := by decide +kernel
theorem dX11_unit_33 : decode cX11_unit 33 = .ok (.dup, 1) := by decide +kernel
theorem dX11_unit_34 : decode cX11_unit 34 = .ok (.getfield 119, 3) := by decide +kernel
theorem dX11_unit_37 : decode cX11_unit 37 = .ok (.iconst 1, 1) := by decide +kernel
theorem dX11_unit_38 : decode cX11_unit 38 = .ok (.iadd, 1) := by decide +kernel
theorem dX11_unit_39 : decode cX11_unit 39 = .ok (.putfield 119, 3) := by decide +kernel
theorem dX11_unit_42 : decode cX11_unit 42 = .ok (.iconst 1, 1) := by decide +kernel
theorem dX11_unit_43 : decode cX11_unit 43 = .ok (.ireturn, 1) := by decide +kernel
theorem dX11_actionOf_0 : decode cX11_actionOf 0 = .ok (.iload_n 0, 1) := by decide +kernel
theorem dX11_actionOf_1 : decode cX11_actionOf 1 = .ok (.tableswitch 126 97 120 #[121, 126, 126, 126, 126, 111, 126, 126, 126, 126, 126, 126, 126, 126, 126, 126, 119, 113, 126, 126, 126, 117, 123, 115], 111) := by decide +kernel
theorem dX11_actionOf_112 : decode cX11_actionOf 112 = .ok (.iconst 0, 1) := by decide +kernel
theorem dX11_actionOf_113 : decode cX11_actionOf 113 = .ok (.ireturn, 1) := by decide +kernel
theorem dX11_actionOf_114 : decode cX11_actionOf 114 = .ok (.iconst 1, 1) := by decide +kernel
theorem dX11_actionOf_115 : decode cX11_actionOf 115 = .ok (.ireturn, 1) := by decide +kernel
theorem dX11_actionOf_116 : decode cX11_actionOf 116 = .ok (.iconst 2, 1) := by decide +kernel
theorem dX11_actionOf_117 : decode cX11_actionOf 117 = .ok (.ireturn, 1) := by decide +kernel
theorem dX11_actionOf_118 : decode cX11_actionOf 118 = .ok (.iconst 3, 1) := by decide +kernel
theorem dX11_actionOf_119 : decode cX11_actionOf 119 = .ok (.ireturn, 1) := by decide +kernel
theorem dX11_actionOf_120 : decode cX11_actionOf 120 = .ok (.iconst 4, 1) := by decide +kernel
theorem dX11_actionOf_121 : decode cX11_actionOf 121 = .ok (.ireturn, 1) := by decide +kernel
theorem dX11_actionOf_122 : decode cX11_actionOf 122 = .ok (.iconst 5, 1) := by decide +kernel
theorem dX11_actionOf_123 : decode cX11_actionOf 123 = .ok (.ireturn, 1) := by decide +kernel
theorem dX11_actionOf_124 : decode cX11_actionOf 124 = .ok (.bipush 6, 2) := by decide +kernel
theorem dX11_actionOf_126 : decode cX11_actionOf 126 = .ok (.ireturn, 1) := by decide +kernel
theorem dX11_actionOf_127 : decode cX11_actionOf 127 = .ok (.iconst (-1), 1) := by decide +kernel
theorem dX11_actionOf_128 : decode cX11_actionOf 128 = .ok (.ireturn, 1) := by decide +kernel
theorem dX11_line_0 : decode cX11_line 0 = .ok (.iconst 0, 1) := by decide +kernel
theorem dX11_line_1 : decode cX11_line 1 = .ok (.istore_n 1, 1) := by decide +kernel
theorem dX11_line_2 : decode cX11_line 2 = .ok (.iconst 0, 1) := by decide +kernel
theorem dX11_line_3 : decode cX11_line 3 = .ok (.istore_n 2, 1) := by decide +kernel
theorem dX11_line_4 : decode cX11_line 4 = .ok (.iconst 0, 1) := by decide +kernel
theorem dX11_line_5 : decode cX11_line 5 = .ok (.istore_n 3, 1) := by decide +kernel
theorem dX11_line_6 : decode cX11_line 6 = .ok (.iconst (-1), 1) := by decide +kernel
theorem dX11_line_7 : decode cX11_line 7 = .ok (.istore 4, 2) := by decide +kernel
theorem dX11_line_9 : decode cX11_line 9 = .ok (.iconst (-1), 1) := by decide +kernel
theorem dX11_line_10 : decode cX11_line 10 = .ok (.istore 5, 2) := by decide +kernel
theorem dX11_line_12 : decode cX11_line 12 = .ok (.iconst 0, 1) := by decide +kernel
theorem dX11_line_13 : decode cX11_line 13 = .ok (.istore 6, 2) := by decide +kernel
theorem dX11_line_15 : decode cX11_line 15 = .ok (.iload 6, 2) := by decide +kernel
theorem dX11_line_17 : decode cX11_line 17 = .ok (.aload_n 0, 1) := by decide +kernel
theorem dX11_line_18 : decode cX11_line 18 = .ok (.getfield 119, 3) := by decide +kernel
theorem dX11_line_21 : decode cX11_line 21 = .ok (.if_icmp .ge 142, 3) := by decide +kernel
theorem dX11_line_24 : decode cX11_line 24 = .ok (.iload 5, 2) := by decide +kernel
theorem dX11_line_26 : decode cX11_line 26 = .ok (.ifCond .ge 137, 3) := by decide +kernel
theorem dX11_line_29 : decode cX11_line 29 = .ok (.aload_n 0, 1) := by decide +kernel
theorem dX11_line_30 : decode cX11_line 30 = .ok (.getfield 7, 3) := by decide +kernel
theorem dX11_line_33 : decode cX11_line 33 = .ok (.iload 6, 2) := by decide +kernel
theorem dX11_line_35 : decode cX11_line 35 = .ok (.iaload, 1) := by decide +kernel
theorem dX11_line_36 : decode cX11_line 36 = .ok (.invokestatic 122, 3) := by decide +kernel
theorem dX11_line_39 : decode cX11_line 39 = .ok (.istore 7, 2) := by decide +kernel
theorem dX11_line_41 : decode cX11_line 41 = .ok (.aload_n 0, 1) := by decide +kernel
theorem dX11_line_42 : decode cX11_line 42 = .ok (.getfield 7, 3) := by decide +kernel
theorem dX11_line_45 : decode cX11_line 45 = .ok (.iload 6, 2) := by decide +kernel
theorem dX11_line_47 : decode cX11_line 47 = .ok (.iaload, 1) := by decide +kernel
theorem dX11_line_48 : decode cX11_line 48 = .ok (.bipush 47, 2) := by decide +kernel
theorem dX11_line_50 : decode cX11_line 50 = .ok (.if_icmp .ne 21, 3) := by decide +kernel
theorem dX11_line_53 : decode cX11_line 53 = .ok (.iload_n 3, 1) := by decide +kernel
theorem dX11_line_54 : decode cX11_line 54 = .ok (.ifCond .le 17, 3) := by decide +kernel
theorem dX11_line_57 : decode cX11_line 57 = .ok (.iload_n 1, 1) := by decide +kernel
theorem dX11_line_58 : decode cX11_line 58 = .ok (.bipush 7, 2) := by decide +kernel
theorem dX11_line_60 : decode cX11_line 60 = .ok (.if_icmp .ge 11, 3) := by decide +kernel
theorem dX11_line_63 : decode cX11_line 63 = .ok (.iinc 1 1, 3) := by decide +kernel
theorem dX11_line_66 : decode cX11_line 66 = .ok (.iconst 0, 1) := by decide +kernel
theorem dX11_line_67 : decode cX11_line 67 = .ok (.istore_n 3, 1) := by decide +kernel
theorem dX11_line_68 : decode cX11_line 68 = .ok (.goto 89, 3) := by decide +kernel
theorem dX11_line_71 : decode cX11_line 71 = .ok (.aload_n 0, 1) := by decide +kernel
theorem dX11_line_72 : decode cX11_line 72 = .ok (.getfield 7, 3) := by decide +kernel
theorem dX11_line_75 : decode cX11_line 75 = .ok (.iload 6, 2) := by decide +kernel
theorem dX11_line_77 : decode cX11_line 77 = .ok (.iaload, 1) := by decide +kernel
theorem dX11_line_78 : decode cX11_line 78 = .ok (.bipush 121, 2) := by decide +kernel
theorem dX11_line_80 : decode cX11_line 80 = .ok (.if_icmp .ne 29, 3) := by decide +kernel
theorem dX11_line_83 : decode cX11_line 83 = .ok (.iload 4, 2) := by decide +kernel
theorem dX11_line_85 : decode cX11_line 85 = .ok (.iconst (-1), 1) := by decide +kernel
theorem dX11_line_86 : decode cX11_line 86 = .ok (.if_icmp .ne 23, 3) := by decide +kernel
theorem dX11_line_89 : decode cX11_line 89 = .ok (.iload_n 2, 1) := by decide +kernel
theorem dX11_line_90 : decode cX11_line 90 = .ok (.iconst 2, 1) := by decide +kernel
theorem dX11_line_91 : decode cX11_line 91 = .ok (.if_icmp .le 18, 3) := by decide +kernel
theorem dX11_line_94 : decode cX11_line 94 = .ok (.iload_n 2, 1) := by decide +kernel
theorem dX11_line_95 : decode cX11_line 95 = .ok (.bipush 7, 2) := by decide +kernel
theorem dX11_line_97 : decode cX11_line 97 = .ok (.if_icmp .ge 12, 3) := by decide +kernel
theorem dX11_line_100 : decode cX11_line 100 = .ok (.iload_n 1, 1) := by decide +kernel
theorem dX11_line_101 : decode cX11_line 101 = .ok (.istore 4, 2) := by decide +kernel
theorem dX11_line_103 : decode cX11_line 103 = .ok (.iinc 3 1, 3) := by decide +kernel
theorem dX11_line_106 : decode cX11_line 106 = .ok (.goto 51, 3) := by decide +kernel
theorem dX11_line_109 : decode cX11_line 109 = .ok (.iload 7, 2) := by decide +kernel
theorem dX11_line_111 : decode cX11_line 111 = .ok (.ifCond .lt 42, 3) := by decide +kernel
theorem dX11_line_114 : decode cX11_line 114 = .ok (.iload 7, 2) := by decide +kernel
theorem dX11_line_116 : decode cX11_line 116 = .ok (.iload_n 2, 1) := by decide +kernel
theorem dX11_line_117 : decode cX11_line 117 = .ok (.if_icmp .ne 36, 3) := by decide +kernel
theorem dX11_line_120 : decode cX11_line 120 = .ok (.iload 7, 2) := by decide +kernel
theorem dX11_line_122 : decode cX11_line 122 = .ok (.iconst 5, 1) := by decide +kernel
theorem dX11_line_123 : decode cX11_line 123 = .ok (.if_icmp .ne 13, 3) := by decide +kernel
theorem dX11_line_126 : decode cX11_line 126 = .ok (.iload_n 1, 1) := by decide +kernel
theorem dX11_line_127 : decode cX11_line 127 = .ok (.aload_n 0, 1) := by decide +kernel
theorem dX11_line_128 : decode cX11_line 128 = .ok (.getfield 87, 3) := by decide +kernel
theorem dX11_line_131 : decode cX11_line 131 = .ok (.iconst 4, 1) := by decide +kernel
theorem dX11_line_132 : decode cX11_line 132 = .ok (.iaload, 1) := by decide +kernel
theorem dX11_line_133 : decode cX11_line 133 = .ok (.if_icmp .le 20, 3) := by decide +kernel
theorem dX11_line_136 : decode cX11_line 136 = .ok (.aload_n 0, 1) := by decide +kernel
theorem dX11_line_137 : decode cX11_line 137 = .ok (.getfield 87, 3) := by decide +kernel
theorem dX11_line_140 : decode cX11_line 140 = .ok (.iload 7, 2) := by decide +kernel
theorem dX11_line_142 : decode cX11_line 142 = .ok (.iload_n 1, 1) := by decide +kernel
theorem dX11_line_143 : decode cX11_line 143 = .ok (.iastore, 1) := by decide +kernel
theorem dX11_line_144 : decode cX11_line 144 = .ok (.iinc 2 1, 3) := by decide +kernel
theorem dX11_line_147 : decode cX11_line 147 = .ok (.iinc 3 1, 3) := by decide +kernel
theorem dX11_line_150 : decode cX11_line 150 = .ok (.goto 7, 3) := by decide +kernel
theorem dX11_line_153 : decode cX11_line 153 = .ok (.iload 6, 2) := by decide +kernel
theorem dX11_line_155 : decode cX11_line 155 = .ok (.istore 5, 2) := by decide +kernel
theorem dX11_line_157 : decode cX11_line 157 = .ok (.iinc 6 1, 3) := by decide +kernel
theorem dX11_line_160 : decode cX11_line 160 = .ok (.goto (-145), 3) := by decide +kernel
theorem dX11_line_163 : decode cX11_line 163 = .ok (.iload 5, 2) := by decide +kernel
theorem dX11_line_165 : decode cX11_line 165 = .ok (.ifCond .ge 20, 3) := by decide +kernel
theorem dX11_line_168 : decode cX11_line 168 = .ok (.iload_n 2, 1) := by decide +kernel
theorem dX11_line_169 : decode cX11_line 169 = .ok (.bipush 7, 2) := by decide +kernel
theorem dX11_line_171 : decode cX11_line 171 = .ok (.if_icmp .lt 7, 3) := by decide +kernel
theorem dX11_line_174 : decode cX11_line 174 = .ok (.iload_n 3, 1) := by decide +kernel
theorem dX11_line_175 : decode cX11_line 175 = .ok (.ifCond .ne 10, 3) := by decide +kernel
theorem dX11_line_178 : decode cX11_line 178 = .ok (.aload_n 0, 1) := by decide +kernel
theorem dX11_line_179 : decode cX11_line 179 = .ok (.getfield 119, 3) := by decide +kernel
theorem dX11_line_182 : decode cX11_line 182 = .ok (.goto 5, 3) := by decide +kernel
theorem dX11_line_185 : decode cX11_line 185 = .ok (.iload 5, 2) := by decide +kernel
theorem dX11_line_187 : decode cX11_line 187 = .ok (.istore 5, 2) := by decide +kernel
theorem dX11_line_189 : decode cX11_line 189 = .ok (.aload_n 0, 1) := by decide +kernel
theorem dX11_line_190 : decode cX11_line 190 = .ok (.iconst 0, 1) := by decide +kernel
theorem dX11_line_191 : decode cX11_line 191 = .ok (.putfield 119, 3) := by decide +kernel
theorem dX11_line_194 : decode cX11_line 194 = .ok (.iload 5, 2) := by decide +kernel
theorem dX11_line_196 : decode cX11_line 196 = .ok (.ifCond .lt 8, 3) := by decide +kernel
theorem dX11_line_199 : decode cX11_line 199 = .ok (.iconst (-1), 1) := by decide +kernel
theorem dX11_line_200 : decode cX11_line 200 = .ok (.iload 5, 2) := by decide +kernel
theorem dX11_line_202 : decode cX11_line 202 = .ok (.isub, 1) := by decide +kernel
theorem dX11_line_203 : decode cX11_line 203 = .ok (.ireturn, 1) := by decide +kernel
theorem dX11_line_204 : decode cX11_line 204 = .ok (.iconst 0, 1) := by decide +kernel
theorem dX11_line_205 : decode cX11_line 205 = .ok (.istore 6, 2) := by decide +kernel
theorem dX11_line_207 : decode cX11_line 207 = .ok (.iload 6, 2) := by decide +kernel
theorem dX11_line_209 : decode cX11_line 209 = .ok (.bipush 7, 2) := by decide +kernel
theorem dX11_line_211 : decode cX11_line 211 = .ok (.if_icmp .ge 23, 3) := by decide +kernel
theorem dX11_line_214 : decode cX11_line 214 = .ok (.aload_n 0, 1) := by decide +kernel
theorem dX11_line_215 : decode cX11_line 215 = .ok (.getfield 17, 3) := by decide +kernel
theorem dX11_line_218 : decode cX11_line 218 = .ok (.iload 6, 2) := by decide +kernel
theorem dX11_line_220 : decode cX11_line 220 = .ok (.aload_n 0, 1) := by decide +kernel
theorem dX11_line_221 : decode cX11_line 221 = .ok (.getfield 87, 3) := by decide +kernel
theorem dX11_line_224 : decode cX11_line 224 = .ok (.iload 6, 2) := by decide +kernel
theorem dX11_line_226 : decode cX11_line 226 = .ok (.iaload, 1) := by decide +kernel
theorem dX11_line_227 : decode cX11_line 227 = .ok (.iastore, 1) := by decide +kernel
theorem dX11_line_228 : decode cX11_line 228 = .ok (.iinc 6 1, 3) := by decide +kernel
theorem dX11_line_231 : decode cX11_line 231 = .ok (.goto (-24), 3) := by decide +kernel
theorem dX11_line_234 : decode cX11_line 234 = .ok (.aload_n 0, 1) := by decide +kernel
theorem dX11_line_235 : decode cX11_line 235 = .ok (.iload 4, 2) := by decide +kernel
theorem dX11_line_237 : decode cX11_line 237 = .ok (.putfield 20, 3) := by decide +kernel
theorem dX11_line_240 : decode cX11_line 240 = .ok (.aload_n 0, 1) := by decide +kernel
theorem dX11_line_241 : decode cX11_line 241 = .ok (.iload_n 1, 1) := by decide +kernel
theorem dX11_line_242 : decode cX11_line 242 = .ok (.iconst 1, 1) := by decide +kernel
theorem dX11_line_243 : decode cX11_line 243 = .ok (.iadd, 1) := by decide +kernel
theorem dX11_line_244 : decode cX11_line 244 = .ok (.putfield 13, 3) := by decide +kernel
theorem dX11_line_247 : decode cX11_line 247 = .ok (.aload_n 0, 1) := by decide +kernel
theorem dX11_line_248 : decode cX11_line 248 = .ok (.invokevirtual 96, 3) := by decide +kernel
theorem dX11_line_251 : decode cX11_line 251 = .ok (.aload_n 0, 1) := by decide +kernel
theorem dX11_line_252 : decode cX11_line 252 = .ok (.getfield 13, 3) := by decide +kernel
theorem dX11_line_255 : decode cX11_line 255 = .ok (.ireturn, 1) := by decide +kernel
theorem dX11_code_0 : decode cX11_code 0 = .ok (.iload_n 1, 1) := by decide +kernel
theorem dX11_code_1 : decode cX11_code 1 = .ok (.iconst 0, 1) := by decide +kernel
theorem dX11_code_2 : decode cX11_code 2 = .ok (.bipush 9, 2) := by decide +kernel
theorem dX11_code_4 : decode cX11_code 4 = .ok (.invokestatic 115, 3) := by decide +kernel
theorem dX11_code_7 : decode cX11_code 7 = .ok (.ifCond .eq 43, 3) := by decide +kernel
theorem dX11_code_10 : decode cX11_code 10 = .ok (.iload_n 2, 1) := by decide +kernel
theorem dX11_code_11 : decode cX11_code 11 = .ok (.iconst 0, 1) := by decide +kernel
theorem dX11_code_12 : decode cX11_code 12 = .ok (.bipush 7, 2) := by decide +kernel
theorem dX11_code_14 : decode cX11_code 14 = .ok (.invokestatic 115, 3) := by decide +kernel
theorem dX11_code_17 : decode cX11_code 17 = .ok (.ifCond .eq 33, 3) := by decide +kernel
theorem dX11_code_20 : decode cX11_code 20 = .ok (.iload_n 3, 1) := by decide +kernel
theorem dX11_code_21 : decode cX11_code 21 = .ok (.iconst 0, 1) := by decide +kernel
theorem dX11_code_22 : decode cX11_code 22 = .ok (.bipush 7, 2) := by decide +kernel
theorem dX11_code_24 : decode cX11_code 24 = .ok (.invokestatic 115, 3) := by decide +kernel
theorem dX11_code_27 : decode cX11_code 27 = .ok (.ifCond .eq 23, 3) := by decide +kernel
theorem dX11_code_30 : decode cX11_code 30 = .ok (.iload 4, 2) := by decide +kernel
theorem dX11_code_32 : decode cX11_code 32 = .ok (.iconst 0, 1) := by decide +kernel
theorem dX11_code_33 : decode cX11_code 33 = .ok (.bipush 7, 2) := by decide +kernel
theorem dX11_code_35 : decode cX11_code 35 = .ok (.invokestatic 115, 3) := by decide +kernel
theorem dX11_code_38 : decode cX11_code 38 = .ok (.ifCond .eq 12, 3) := by decide +kernel
theorem dX11_code_41 : decode cX11_code 41 = .ok (.aload_n 0, 1) := by decide +kernel
theorem dX11_code_42 : decode cX11_code 42 = .ok (.getfield 126, 3) := by decide +kernel
theorem dX11_code_45 : decode cX11_code 45 = .ok (.bipush 40, 2) := by decide +kernel
theorem dX11_code_47 : decode cX11_code 47 = .ok (.if_icmp .ne 5, 3) := by decide +kernel
theorem dX11_code_50 : decode cX11_code 50 = .ok (.iconst (-1), 1) := by decide +kernel
theorem dX11_code_51 : decode cX11_code 51 = .ok (.ireturn, 1) := by decide +kernel
theorem dX11_code_52 : decode cX11_code 52 = .ok (.aload_n 0, 1) := by decide +kernel
theorem dX11_code_53 : decode cX11_code 53 = .ok (.getfield 23, 3) := by decide +kernel
theorem dX11_code_56 : decode cX11_code 56 = .ok (.aload_n 0, 1) := by decide +kernel
theorem dX11_code_57 : decode cX11_code 57 = .ok (.getfield 126, 3) := by decide +kernel
theorem dX11_code_60 : decode cX11_code 60 = .ok (.iload_n 1, 1) := by decide +kernel
theorem dX11_code_61 : decode cX11_code 61 = .ok (.iastore, 1) := by decide +kernel
theorem dX11_code_62 : decode cX11_code 62 = .ok (.aload_n 0, 1) := by decide +kernel
theorem dX11_code_63 : decode cX11_code 63 = .ok (.getfield 26, 3) := by decide +kernel
theorem dX11_code_66 : decode cX11_code 66 = .ok (.aload_n 0, 1) := by decide +kernel
theorem dX11_code_67 : decode cX11_code 67 = .ok (.getfield 126, 3) := by decide +kernel
theorem dX11_code_70 : decode cX11_code 70 = .ok (.iload_n 2, 1) := by decide +kernel
theorem dX11_code_71 : decode cX11_code 71 = .ok (.iastore, 1) := by decide +kernel
theorem dX11_code_72 : decode cX11_code 72 = .ok (.aload_n 0, 1) := by decide +kernel
theorem dX11_code_73 : decode cX11_code 73 = .ok (.getfield 29, 3) := by decide +kernel
theorem dX11_code_76 : decode cX11_code 76 = .ok (.aload_n 0, 1) := by decide +kernel
theorem dX11_code_77 : decode cX11_code 77 = .ok (.getfield 126, 3) := by decide +kernel
theorem dX11_code_80 : decode cX11_code 80 = .ok (.iload_n 3, 1) := by decide +kernel
theorem dX11_code_81 : decode cX11_code 81 = .ok (.iastore, 1) := by decide +kernel
theorem dX11_code_82 : decode cX11_code 82 = .ok (.aload_n 0, 1) := by decide +kernel
theorem dX11_code_83 : decode cX11_code 83 = .ok (.getfield 32, 3) := by decide +kernel
theorem dX11_code_86 : decode cX11_code 86 = .ok (.aload_n 0, 1) := by decide +kernel
theorem dX11_code_87 : decode cX11_code 87 = .ok (.getfield 126, 3) := by decide +kernel
theorem dX11_code_90 : decode cX11_code 90 = .ok (.iload 4, 2) := by decide +kernel
theorem dX11_code_92 : decode cX11_code 92 = .ok (.iastore, 1) := by decide +kernel
theorem dX11_code_93 : decode cX11_code 93 = .ok (.aload_n 0, 1) := by decide +kernel
theorem dX11_code_94 : decode cX11_code 94 = .ok (.getfield 35, 3) := by decide +kernel
theorem dX11_code_97 : decode cX11_code 97 = .ok (.aload_n 0, 1) := by decide +kernel
theorem dX11_code_98 : decode cX11_code 98 = .ok (.getfield 126, 3) := by decide +kernel
theorem dX11_code_101 : decode cX11_code 101 = .ok (.iload 5, 2) := by decide +kernel
theorem dX11_code_103 : decode cX11_code 103 = .ok (.iastore, 1) := by decide +kernel
theorem dX11_code_104 : decode cX11_code 104 = .ok (.aload_n 0, 1) := by decide +kernel
theorem dX11_code_105 : decode cX11_code 105 = .ok (.dup, 1) := by decide +kernel
theorem dX11_code_106 : decode cX11_code 106 = .ok (.getfield 126, 3) := by decide +kernel
theorem dX11_code_109 : decode cX11_code 109 = .ok (.iconst 1, 1) := by decide +kernel
theorem dX11_code_110 : decode cX11_code 110 = .ok (.iadd, 1) := by decide +kernel
theorem dX11_code_111 : decode cX11_code 111 = .ok (.putfield 126, 3) := by decide +kernel
theorem dX11_code_114 : decode cX11_code 114 = .ok (.aload_n 0, 1) := by decide +kernel
theorem dX11_code_115 : decode cX11_code 115 = .ok (.invokevirtual 96, 3) := by decide +kernel
theorem dX11_code_118 : decode cX11_code 118 = .ok (.aload_n 0, 1) := by decide +kernel
theorem dX11_code_119 : decode cX11_code 119 = .ok (.getfield 126, 3) := by decide +kernel
theorem dX11_code_122 : decode cX11_code 122 = .ok (.iconst 1, 1) := by decide +kernel
theorem dX11_code_123 : decode cX11_code 123 = .ok (.isub, 1) := by decide +kernel
theorem dX11_code_124 : decode cX11_code 124 = .ok (.ireturn, 1) := by decide +kernel
theorem dX11_memory_0 : decode cX11_memory 0 = .ok (.iload_n 1, 1) := by decide +kernel
theorem dX11_memory_1 : decode cX11_memory 1 = .ok (.iconst 0, 1) := by decide +kernel
theorem dX11_memory_2 : decode cX11_memory 2 = .ok (.bipush 63, 2) := by decide +kernel
theorem dX11_memory_4 : decode cX11_memory 4 = .ok (.invokestatic 115, 3) := by decide +kernel
theorem dX11_memory_7 : decode cX11_memory 7 = .ok (.ifCond .ne 5, 3) := by decide +kernel
theorem dX11_memory_10 : decode cX11_memory 10 = .ok (.iconst 0, 1) := by decide +kernel
theorem dX11_memory_11 : decode cX11_memory 11 = .ok (.ireturn, 1) := by decide +kernel
theorem dX11_memory_12 : decode cX11_memory 12 = .ok (.aload_n 0, 1) := by decide +kernel
theorem dX11_memory_13 : decode cX11_memory 13 = .ok (.getfield 38, 3) := by decide +kernel
theorem dX11_memory_16 : decode cX11_memory 16 = .ok (.iload_n 1, 1) := by decide +kernel
theorem dX11_memory_17 : decode cX11_memory 17 = .ok (.iload_n 2, 1) := by decide +kernel
theorem dX11_memory_18 : decode cX11_memory 18 = .ok (.iastore, 1) := by decide +kernel
theorem dX11_memory_19 : decode cX11_memory 19 = .ok (.aload_n 0, 1) := by decide +kernel
theorem dX11_memory_20 : decode cX11_memory 20 = .ok (.invokevirtual 96, 3) := by decide +kernel
theorem dX11_memory_23 : decode cX11_memory 23 = .ok (.iconst 1, 1) := by decide +kernel
theorem dX11_memory_24 : decode cX11_memory 24 = .ok (.ireturn, 1) := by decide +kernel
theorem dX11_latency_0 : decode cX11_latency 0 = .ok (.iload_n 1, 1) := by decide +kernel
theorem dX11_latency_1 : decode cX11_latency 1 = .ok (.iconst 0, 1) := by decide +kernel
theorem dX11_latency_2 : decode cX11_latency 2 = .ok (.bipush 7, 2) := by decide +kernel
theorem dX11_latency_4 : decode cX11_latency 4 = .ok (.invokestatic 115, 3) := by decide +kernel
theorem dX11_latency_7 : decode cX11_latency 7 = .ok (.ifCond .eq 13, 3) := by decide +kernel
theorem dX11_latency_10 : decode cX11_latency 10 = .ok (.iload_n 2, 1) := by decide +kernel
theorem dX11_latency_11 : decode cX11_latency 11 = .ok (.iconst 1, 1) := by decide +kernel
theorem dX11_latency_12 : decode cX11_latency 12 = .ok (.bipush 16, 2) := by decide +kernel
theorem dX11_latency_14 : decode cX11_latency 14 = .ok (.invokestatic 115, 3) := by decide +kernel
theorem dX11_latency_17 : decode cX11_latency 17 = .ok (.ifCond .ne 5, 3) := by decide +kernel
theorem dX11_latency_20 : decode cX11_latency 20 = .ok (.iconst 0, 1) := by decide +kernel
theorem dX11_latency_21 : decode cX11_latency 21 = .ok (.ireturn, 1) := by decide +kernel
theorem dX11_latency_22 : decode cX11_latency 22 = .ok (.aload_n 0, 1) := by decide +kernel
theorem dX11_latency_23 : decode cX11_latency 23 = .ok (.getfield 41, 3) := by decide +kernel
theorem dX11_latency_26 : decode cX11_latency 26 = .ok (.iload_n 1, 1) := by decide +kernel
theorem dX11_latency_27 : decode cX11_latency 27 = .ok (.iload_n 2, 1) := by decide +kernel
theorem dX11_latency_28 : decode cX11_latency 28 = .ok (.iastore, 1) := by decide +kernel
theorem dX11_latency_29 : decode cX11_latency 29 = .ok (.aload_n 0, 1) := by decide +kernel
theorem dX11_latency_30 : decode cX11_latency 30 = .ok (.invokevirtual 96, 3) := by decide +kernel
theorem dX11_latency_33 : decode cX11_latency 33 = .ok (.iconst 1, 1) := by decide +kernel
theorem dX11_latency_34 : decode cX11_latency 34 = .ok (.ireturn, 1) := by decide +kernel
theorem dX11_kindOf_0 : decode cX11_kindOf 0 = .ok (.iload_n 1, 1) := by decide +kernel
theorem dX11_kindOf_1 : decode cX11_kindOf 1 = .ok (.iconst 0, 1) := by decide +kernel
theorem dX11_kindOf_2 : decode cX11_kindOf 2 = .ok (.aload_n 0, 1) := by decide +kernel
theorem dX11_kindOf_3 : decode cX11_kindOf 3 = .ok (.getfield 126, 3) := by decide +kernel
theorem dX11_kindOf_6 : decode cX11_kindOf 6 = .ok (.iconst 1, 1) := by decide +kernel
theorem dX11_kindOf_7 : decode cX11_kindOf 7 = .ok (.isub, 1) := by decide +kernel
theorem dX11_kindOf_8 : decode cX11_kindOf 8 = .ok (.invokestatic 115, 3) := by decide +kernel
theorem dX11_kindOf_11 : decode cX11_kindOf 11 = .ok (.ifCond .eq 12, 3) := by decide +kernel
theorem dX11_kindOf_14 : decode cX11_kindOf 14 = .ok (.aload_n 0, 1) := by decide +kernel
theorem dX11_kindOf_15 : decode cX11_kindOf 15 = .ok (.getfield 23, 3) := by decide +kernel
theorem dX11_kindOf_18 : decode cX11_kindOf 18 = .ok (.iload_n 1, 1) := by decide +kernel
theorem dX11_kindOf_19 : decode cX11_kindOf 19 = .ok (.iaload, 1) := by decide +kernel
theorem dX11_kindOf_20 : decode cX11_kindOf 20 = .ok (.goto 4, 3) := by decide +kernel
theorem dX11_kindOf_23 : decode cX11_kindOf 23 = .ok (.iconst 0, 1) := by decide +kernel
theorem dX11_kindOf_24 : decode cX11_kindOf 24 = .ok (.ireturn, 1) := by decide +kernel
theorem dX11_commitsRegister_0 : decode cX11_commitsRegister 0 = .ok (.aload_n 0, 1) := by decide +kernel
theorem dX11_commitsRegister_1 : decode cX11_commitsRegister 1 = .ok (.iload_n 1, 1) := by decide +kernel
theorem dX11_commitsRegister_2 : decode cX11_commitsRegister 2 = .ok (.invokevirtual 129, 3) := by decide +kernel
theorem dX11_commitsRegister_5 : decode cX11_commitsRegister 5 = .ok (.iconst 1, 1) := by decide +kernel
theorem dX11_commitsRegister_6 : decode cX11_commitsRegister 6 = .ok (.iconst 5, 1) := by decide +kernel
theorem dX11_commitsRegister_7 : decode cX11_commitsRegister 7 = .ok (.invokestatic 115, 3) := by decide +kernel
theorem dX11_commitsRegister_10 : decode cX11_commitsRegister 10 = .ok (.ifCond .eq 17, 3) := by decide +kernel
theorem dX11_commitsRegister_13 : decode cX11_commitsRegister 13 = .ok (.aload_n 0, 1) := by decide +kernel
theorem dX11_commitsRegister_14 : decode cX11_commitsRegister 14 = .ok (.getfield 26, 3) := by decide +kernel
theorem dX11_commitsRegister_17 : decode cX11_commitsRegister 17 = .ok (.iload_n 1, 1) := by decide +kernel
theorem dX11_commitsRegister_18 : decode cX11_commitsRegister 18 = .ok (.iaload, 1) := by decide +kernel
theorem dX11_commitsRegister_19 : decode cX11_commitsRegister 19 = .ok (.iload_n 2, 1) := by decide +kernel
theorem dX11_commitsRegister_20 : decode cX11_commitsRegister 20 = .ok (.if_icmp .ne 7, 3) := by decide +kernel
theorem dX11_commitsRegister_23 : decode cX11_commitsRegister 23 = .ok (.iconst 1, 1) := by decide +kernel
theorem dX11_commitsRegister_24 : decode cX11_commitsRegister 24 = .ok (.goto 4, 3) := by decide +kernel
theorem dX11_commitsRegister_27 : decode cX11_commitsRegister 27 = .ok (.iconst 0, 1) := by decide +kernel
theorem dX11_commitsRegister_28 : decode cX11_commitsRegister 28 = .ok (.ireturn, 1) := by decide +kernel
theorem dX11_giver_0 : decode cX11_giver 0 = .ok (.iload_n 1, 1) := by decide +kernel
theorem dX11_giver_1 : decode cX11_giver 1 = .ok (.iconst 1, 1) := by decide +kernel
theorem dX11_giver_2 : decode cX11_giver 2 = .ok (.iadd, 1) := by decide +kernel
theorem dX11_giver_3 : decode cX11_giver 3 = .ok (.istore_n 3, 1) := by decide +kernel
theorem dX11_giver_4 : decode cX11_giver 4 = .ok (.iload_n 3, 1) := by decide +kernel
theorem dX11_giver_5 : decode cX11_giver 5 = .ok (.aload_n 0, 1) := by decide +kernel
theorem dX11_giver_6 : decode cX11_giver 6 = .ok (.getfield 13, 3) := by decide +kernel
theorem dX11_giver_9 : decode cX11_giver 9 = .ok (.if_icmp .ge 34, 3) := by decide +kernel
theorem dX11_giver_12 : decode cX11_giver 12 = .ok (.aload_n 0, 1) := by decide +kernel
theorem dX11_giver_13 : decode cX11_giver 13 = .ok (.getfield 47, 3) := by decide +kernel
theorem dX11_giver_16 : decode cX11_giver 16 = .ok (.iload_n 3, 1) := by decide +kernel
theorem dX11_giver_17 : decode cX11_giver 17 = .ok (.baload, 1) := by decide +kernel
theorem dX11_giver_18 : decode cX11_giver 18 = .ok (.ifCond .eq 19, 3) := by decide +kernel
theorem dX11_giver_21 : decode cX11_giver 21 = .ok (.aload_n 0, 1) := by decide +kernel
theorem dX11_giver_22 : decode cX11_giver 22 = .ok (.aload_n 0, 1) := by decide +kernel
theorem dX11_giver_23 : decode cX11_giver 23 = .ok (.getfield 44, 3) := by decide +kernel
theorem dX11_giver_26 : decode cX11_giver 26 = .ok (.iload_n 3, 1) := by decide +kernel
theorem dX11_giver_27 : decode cX11_giver 27 = .ok (.iaload, 1) := by decide +kernel
theorem dX11_giver_28 : decode cX11_giver 28 = .ok (.iload_n 2, 1) := by decide +kernel
theorem dX11_giver_29 : decode cX11_giver 29 = .ok (.invokevirtual 132, 3) := by decide +kernel
theorem dX11_giver_32 : decode cX11_giver 32 = .ok (.ifCond .eq 5, 3) := by decide +kernel
theorem dX11_giver_35 : decode cX11_giver 35 = .ok (.iload_n 3, 1) := by decide +kernel
theorem dX11_giver_36 : decode cX11_giver 36 = .ok (.ireturn, 1) := by decide +kernel
theorem dX11_giver_37 : decode cX11_giver 37 = .ok (.iinc 3 1, 3) := by decide +kernel
theorem dX11_giver_40 : decode cX11_giver 40 = .ok (.goto (-36), 3) := by decide +kernel
theorem dX11_giver_43 : decode cX11_giver 43 = .ok (.aload_n 0, 1) := by decide +kernel
theorem dX11_giver_44 : decode cX11_giver 44 = .ok (.getfield 13, 3) := by decide +kernel
theorem dX11_giver_47 : decode cX11_giver 47 = .ok (.ireturn, 1) := by decide +kernel
theorem dX11_isReady_0 : decode cX11_isReady 0 = .ok (.aload_n 0, 1) := by decide +kernel
theorem dX11_isReady_1 : decode cX11_isReady 1 = .ok (.iload_n 1, 1) := by decide +kernel
theorem dX11_isReady_2 : decode cX11_isReady 2 = .ok (.iload_n 2, 1) := by decide +kernel
theorem dX11_isReady_3 : decode cX11_isReady 3 = .ok (.invokevirtual 136, 3) := by decide +kernel
theorem dX11_isReady_6 : decode cX11_isReady 6 = .ok (.istore_n 3, 1) := by decide +kernel
theorem dX11_isReady_7 : decode cX11_isReady 7 = .ok (.iload_n 3, 1) := by decide +kernel
theorem dX11_isReady_8 : decode cX11_isReady 8 = .ok (.aload_n 0, 1) := by decide +kernel
theorem dX11_isReady_9 : decode cX11_isReady 9 = .ok (.getfield 13, 3) := by decide +kernel
theorem dX11_isReady_12 : decode cX11_isReady 12 = .ok (.if_icmp .ne 22, 3) := by decide +kernel
theorem dX11_isReady_15 : decode cX11_isReady 15 = .ok (.aload_n 0, 1) := by decide +kernel
theorem dX11_isReady_16 : decode cX11_isReady 16 = .ok (.getfield 69, 3) := by decide +kernel
theorem dX11_isReady_19 : decode cX11_isReady 19 = .ok (.iload_n 2, 1) := by decide +kernel
theorem dX11_isReady_20 : decode cX11_isReady 20 = .ok (.iaload, 1) := by decide +kernel
theorem dX11_isReady_21 : decode cX11_isReady 21 = .ok (.aload_n 0, 1) := by decide +kernel
theorem dX11_isReady_22 : decode cX11_isReady 22 = .ok (.getfield 99, 3) := by decide +kernel
theorem dX11_isReady_25 : decode cX11_isReady 25 = .ok (.if_icmp .eq 7, 3) := by decide +kernel
theorem dX11_isReady_28 : decode cX11_isReady 28 = .ok (.iconst 1, 1) := by decide +kernel
theorem dX11_isReady_29 : decode cX11_isReady 29 = .ok (.goto 4, 3) := by decide +kernel
theorem dX11_isReady_32 : decode cX11_isReady 32 = .ok (.iconst 0, 1) := by decide +kernel
theorem dX11_isReady_33 : decode cX11_isReady 33 = .ok (.ireturn, 1) := by decide +kernel
theorem dX11_isReady_34 : decode cX11_isReady 34 = .ok (.aload_n 0, 1) := by decide +kernel
theorem dX11_isReady_35 : decode cX11_isReady 35 = .ok (.getfield 20, 3) := by decide +kernel
theorem dX11_isReady_38 : decode cX11_isReady 38 = .ok (.iconst (-1), 1) := by decide +kernel
theorem dX11_isReady_39 : decode cX11_isReady 39 = .ok (.if_icmp .ne 5, 3) := by decide +kernel
theorem dX11_isReady_42 : decode cX11_isReady 42 = .ok (.iconst 0, 1) := by decide +kernel
theorem dX11_isReady_43 : decode cX11_isReady 43 = .ok (.ireturn, 1) := by decide +kernel
theorem dX11_isReady_44 : decode cX11_isReady 44 = .ok (.aload_n 0, 1) := by decide +kernel
theorem dX11_isReady_45 : decode cX11_isReady 45 = .ok (.aload_n 0, 1) := by decide +kernel
theorem dX11_isReady_46 : decode cX11_isReady 46 = .ok (.getfield 44, 3) := by decide +kernel
theorem dX11_isReady_49 : decode cX11_isReady 49 = .ok (.iload_n 3, 1) := by decide +kernel
theorem dX11_isReady_50 : decode cX11_isReady 50 = .ok (.iaload, 1) := by decide +kernel
theorem dX11_isReady_51 : decode cX11_isReady 51 = .ok (.invokevirtual 129, 3) := by decide +kernel
theorem dX11_isReady_54 : decode cX11_isReady 54 = .ok (.iconst 5, 1) := by decide +kernel
theorem dX11_isReady_55 : decode cX11_isReady 55 = .ok (.if_icmp .ne 25, 3) := by decide +kernel
theorem dX11_isReady_58 : decode cX11_isReady 58 = .ok (.aload_n 0, 1) := by decide +kernel
theorem dX11_isReady_59 : decode cX11_isReady 59 = .ok (.getfield 17, 3) := by decide +kernel
theorem dX11_isReady_62 : decode cX11_isReady 62 = .ok (.iconst 5, 1) := by decide +kernel
theorem dX11_isReady_63 : decode cX11_isReady 63 = .ok (.iaload, 1) := by decide +kernel
theorem dX11_isReady_64 : decode cX11_isReady 64 = .ok (.aload_n 0, 1) := by decide +kernel
theorem dX11_isReady_65 : decode cX11_isReady 65 = .ok (.getfield 20, 3) := by decide +kernel
theorem dX11_isReady_68 : decode cX11_isReady 68 = .ok (.if_icmp .le 12, 3) := by decide +kernel
theorem dX11_isReady_71 : decode cX11_isReady 71 = .ok (.aload_n 0, 1) := by decide +kernel
theorem dX11_isReady_72 : decode cX11_isReady 72 = .ok (.getfield 17, 3) := by decide +kernel
theorem dX11_isReady_75 : decode cX11_isReady 75 = .ok (.iconst 5, 1) := by decide +kernel
theorem dX11_isReady_76 : decode cX11_isReady 76 = .ok (.iaload, 1) := by decide +kernel
theorem dX11_isReady_77 : decode cX11_isReady 77 = .ok (.goto 7, 3) := by decide +kernel
theorem dX11_isReady_80 : decode cX11_isReady 80 = .ok (.aload_n 0, 1) := by decide +kernel
theorem dX11_isReady_81 : decode cX11_isReady 81 = .ok (.getfield 20, 3) := by decide +kernel
theorem dX11_isReady_84 : decode cX11_isReady 84 = .ok (.istore 4, 2) := by decide +kernel
theorem dX11_isReady_86 : decode cX11_isReady 86 = .ok (.iload_n 3, 1) := by decide +kernel
theorem dX11_isReady_87 : decode cX11_isReady 87 = .ok (.iload 4, 2) := by decide +kernel
theorem dX11_isReady_89 : decode cX11_isReady 89 = .ok (.iconst 1, 1) := by decide +kernel
theorem dX11_isReady_90 : decode cX11_isReady 90 = .ok (.iadd, 1) := by decide +kernel
theorem dX11_isReady_91 : decode cX11_isReady 91 = .ok (.if_icmp .gt 24, 3) := by decide +kernel
theorem dX11_isReady_94 : decode cX11_isReady 94 = .ok (.iload_n 3, 1) := by decide +kernel
theorem dX11_isReady_95 : decode cX11_isReady 95 = .ok (.iload 4, 2) := by decide +kernel
theorem dX11_isReady_97 : decode cX11_isReady 97 = .ok (.iconst 1, 1) := by decide +kernel
theorem dX11_isReady_98 : decode cX11_isReady 98 = .ok (.iadd, 1) := by decide +kernel
theorem dX11_isReady_99 : decode cX11_isReady 99 = .ok (.if_icmp .ne 20, 3) := by decide +kernel
theorem dX11_isReady_102 : decode cX11_isReady 102 = .ok (.aload_n 0, 1) := by decide +kernel
theorem dX11_isReady_103 : decode cX11_isReady 103 = .ok (.getfield 63, 3) := by decide +kernel
theorem dX11_isReady_106 : decode cX11_isReady 106 = .ok (.iload_n 3, 1) := by decide +kernel
theorem dX11_isReady_107 : decode cX11_isReady 107 = .ok (.iaload, 1) := by decide +kernel
theorem dX11_isReady_108 : decode cX11_isReady 108 = .ok (.aload_n 0, 1) := by decide +kernel
theorem dX11_isReady_109 : decode cX11_isReady 109 = .ok (.getfield 99, 3) := by decide +kernel
theorem dX11_isReady_112 : decode cX11_isReady 112 = .ok (.if_icmp .ge 7, 3) := by decide +kernel
theorem dX11_isReady_115 : decode cX11_isReady 115 = .ok (.iconst 1, 1) := by decide +kernel
theorem dX11_isReady_116 : decode cX11_isReady 116 = .ok (.goto 4, 3) := by decide +kernel
theorem dX11_isReady_119 : decode cX11_isReady 119 = .ok (.iconst 0, 1) := by decide +kernel
theorem dX11_isReady_120 : decode cX11_isReady 120 = .ok (.ireturn, 1) := by decide +kernel
theorem dX11_read_0 : decode cX11_read 0 = .ok (.aload_n 0, 1) := by decide +kernel
theorem dX11_read_1 : decode cX11_read 1 = .ok (.iload_n 1, 1) := by decide +kernel
theorem dX11_read_2 : decode cX11_read 2 = .ok (.iload_n 2, 1) := by decide +kernel
theorem dX11_read_3 : decode cX11_read 3 = .ok (.invokevirtual 136, 3) := by decide +kernel
theorem dX11_read_6 : decode cX11_read 6 = .ok (.istore_n 3, 1) := by decide +kernel
theorem dX11_read_7 : decode cX11_read 7 = .ok (.iload_n 3, 1) := by decide +kernel
theorem dX11_read_8 : decode cX11_read 8 = .ok (.aload_n 0, 1) := by decide +kernel
theorem dX11_read_9 : decode cX11_read 9 = .ok (.getfield 13, 3) := by decide +kernel
theorem dX11_read_12 : decode cX11_read 12 = .ok (.if_icmp .ne 12, 3) := by decide +kernel
theorem dX11_read_15 : decode cX11_read 15 = .ok (.aload_n 0, 1) := by decide +kernel
theorem dX11_read_16 : decode cX11_read 16 = .ok (.getfield 66, 3) := by decide +kernel
theorem dX11_read_19 : decode cX11_read 19 = .ok (.iload_n 2, 1) := by decide +kernel
theorem dX11_read_20 : decode cX11_read 20 = .ok (.iaload, 1) := by decide +kernel
theorem dX11_read_21 : decode cX11_read 21 = .ok (.goto 9, 3) := by decide +kernel
theorem dX11_read_24 : decode cX11_read 24 = .ok (.aload_n 0, 1) := by decide +kernel
theorem dX11_read_25 : decode cX11_read 25 = .ok (.getfield 57, 3) := by decide +kernel
theorem dX11_read_28 : decode cX11_read 28 = .ok (.iload_n 3, 1) := by decide +kernel
theorem dX11_read_29 : decode cX11_read 29 = .ok (.iaload, 1) := by decide +kernel
theorem dX11_read_30 : decode cX11_read 30 = .ok (.ireturn, 1) := by decide +kernel
theorem dX11_readsOne_0 : decode cX11_readsOne 0 = .ok (.iload_n 0, 1) := by decide +kernel
theorem dX11_readsOne_1 : decode cX11_readsOne 1 = .ok (.iconst 2, 1) := by decide +kernel
theorem dX11_readsOne_2 : decode cX11_readsOne 2 = .ok (.bipush 8, 2) := by decide +kernel
theorem dX11_readsOne_4 : decode cX11_readsOne 4 = .ok (.invokestatic 115, 3) := by decide +kernel
theorem dX11_readsOne_7 : decode cX11_readsOne 7 = .ok (.ireturn, 1) := by decide +kernel
theorem dX11_readsTwo_0 : decode cX11_readsTwo 0 = .ok (.iload_n 0, 1) := by decide +kernel
theorem dX11_readsTwo_1 : decode cX11_readsTwo 1 = .ok (.iconst 2, 1) := by decide +kernel
theorem dX11_readsTwo_2 : decode cX11_readsTwo 2 = .ok (.iconst 4, 1) := by decide +kernel
theorem dX11_readsTwo_3 : decode cX11_readsTwo 3 = .ok (.invokestatic 115, 3) := by decide +kernel
theorem dX11_readsTwo_6 : decode cX11_readsTwo 6 = .ok (.ifCond .ne 15, 3) := by decide +kernel
theorem dX11_readsTwo_9 : decode cX11_readsTwo 9 = .ok (.iload_n 0, 1) := by decide +kernel
theorem dX11_readsTwo_10 : decode cX11_readsTwo 10 = .ok (.bipush 6, 2) := by decide +kernel
theorem dX11_readsTwo_12 : decode cX11_readsTwo 12 = .ok (.if_icmp .eq 9, 3) := by decide +kernel
theorem dX11_readsTwo_15 : decode cX11_readsTwo 15 = .ok (.iload_n 0, 1) := by decide +kernel
theorem dX11_readsTwo_16 : decode cX11_readsTwo 16 = .ok (.bipush 7, 2) := by decide +kernel
theorem dX11_readsTwo_18 : decode cX11_readsTwo 18 = .ok (.if_icmp .ne 7, 3) := by decide +kernel
theorem dX11_readsTwo_21 : decode cX11_readsTwo 21 = .ok (.iconst 1, 1) := by decide +kernel
theorem dX11_readsTwo_22 : decode cX11_readsTwo 22 = .ok (.goto 4, 3) := by decide +kernel
theorem dX11_readsTwo_25 : decode cX11_readsTwo 25 = .ok (.iconst 0, 1) := by decide +kernel
theorem dX11_readsTwo_26 : decode cX11_readsTwo 26 = .ok (.ireturn, 1) := by decide +kernel
theorem dX11_hasOlderStore_0 : decode cX11_hasOlderStore 0 = .ok (.aload_n 0, 1) := by decide +kernel
theorem dX11_hasOlderStore_1 : decode cX11_hasOlderStore 1 = .ok (.getfield 140, 3) := by decide +kernel
theorem dX11_hasOlderStore_4 : decode cX11_hasOlderStore 4 = .ok (.istore_n 2, 1) := by decide +kernel
theorem dX11_hasOlderStore_5 : decode cX11_hasOlderStore 5 = .ok (.iload_n 1, 1) := by decide +kernel
theorem dX11_hasOlderStore_6 : decode cX11_hasOlderStore 6 = .ok (.iconst 1, 1) := by decide +kernel
theorem dX11_hasOlderStore_7 : decode cX11_hasOlderStore 7 = .ok (.iadd, 1) := by decide +kernel
theorem dX11_hasOlderStore_8 : decode cX11_hasOlderStore 8 = .ok (.istore_n 3, 1) := by decide +kernel
theorem dX11_hasOlderStore_9 : decode cX11_hasOlderStore 9 = .ok (.iload_n 3, 1) := by decide +kernel
theorem dX11_hasOlderStore_10 : decode cX11_hasOlderStore 10 = .ok (.aload_n 0, 1) := by decide +kernel
theorem dX11_hasOlderStore_11 : decode cX11_hasOlderStore 11 = .ok (.getfield 13, 3) := by decide +kernel
theorem dX11_hasOlderStore_14 : decode cX11_hasOlderStore 14 = .ok (.if_icmp .ge 43, 3) := by decide +kernel
theorem dX11_hasOlderStore_17 : decode cX11_hasOlderStore 17 = .ok (.iload_n 2, 1) := by decide +kernel
theorem dX11_hasOlderStore_18 : decode cX11_hasOlderStore 18 = .ok (.ifCond .ne 27, 3) := by decide +kernel
theorem dX11_hasOlderStore_21 : decode cX11_hasOlderStore 21 = .ok (.aload_n 0, 1) := by decide +kernel
theorem dX11_hasOlderStore_22 : decode cX11_hasOlderStore 22 = .ok (.getfield 47, 3) := by decide +kernel
theorem dX11_hasOlderStore_25 : decode cX11_hasOlderStore 25 = .ok (.iload_n 3, 1) := by decide +kernel
theorem dX11_hasOlderStore_26 : decode cX11_hasOlderStore 26 = .ok (.baload, 1) := by decide +kernel
theorem dX11_hasOlderStore_27 : decode cX11_hasOlderStore 27 = .ok (.ifCond .eq 22, 3) := by decide +kernel
theorem dX11_hasOlderStore_30 : decode cX11_hasOlderStore 30 = .ok (.aload_n 0, 1) := by decide +kernel
theorem dX11_hasOlderStore_31 : decode cX11_hasOlderStore 31 = .ok (.aload_n 0, 1) := by decide +kernel
theorem dX11_hasOlderStore_32 : decode cX11_hasOlderStore 32 = .ok (.getfield 44, 3) := by decide +kernel
theorem dX11_hasOlderStore_35 : decode cX11_hasOlderStore 35 = .ok (.iload_n 3, 1) := by decide +kernel
theorem dX11_hasOlderStore_36 : decode cX11_hasOlderStore 36 = .ok (.iaload, 1) := by decide +kernel
theorem dX11_hasOlderStore_37 : decode cX11_hasOlderStore 37 = .ok (.invokevirtual 129, 3) := by decide +kernel
theorem dX11_hasOlderStore_40 : decode cX11_hasOlderStore 40 = .ok (.bipush 6, 2) := by decide +kernel
theorem dX11_hasOlderStore_42 : decode cX11_hasOlderStore 42 = .ok (.if_icmp .ne 7, 3) := by decide +kernel
theorem dX11_hasOlderStore_45 : decode cX11_hasOlderStore 45 = .ok (.iconst 1, 1) := by decide +kernel
theorem dX11_hasOlderStore_46 : decode cX11_hasOlderStore 46 = .ok (.goto 4, 3) := by decide +kernel
theorem dX11_hasOlderStore_49 : decode cX11_hasOlderStore 49 = .ok (.iconst 0, 1) := by decide +kernel
theorem dX11_hasOlderStore_50 : decode cX11_hasOlderStore 50 = .ok (.istore_n 2, 1) := by decide +kernel
theorem dX11_hasOlderStore_51 : decode cX11_hasOlderStore 51 = .ok (.iinc 3 1, 3) := by decide +kernel
theorem dX11_hasOlderStore_54 : decode cX11_hasOlderStore 54 = .ok (.goto (-45), 3) := by decide +kernel
theorem dX11_hasOlderStore_57 : decode cX11_hasOlderStore 57 = .ok (.iload_n 2, 1) := by decide +kernel
theorem dX11_hasOlderStore_58 : decode cX11_hasOlderStore 58 = .ok (.ireturn, 1) := by decide +kernel
theorem dX11_placeOf_0 : decode cX11_placeOf 0 = .ok (.aload_n 0, 1) := by decide +kernel
theorem dX11_placeOf_1 : decode cX11_placeOf 1 = .ok (.getfield 51, 3) := by decide +kernel
theorem dX11_placeOf_4 : decode cX11_placeOf 4 = .ok (.iload_n 1, 1) := by decide +kernel
theorem dX11_placeOf_5 : decode cX11_placeOf 5 = .ok (.iaload, 1) := by decide +kernel
theorem dX11_placeOf_6 : decode cX11_placeOf 6 = .ok (.aload_n 0, 1) := by decide +kernel
theorem dX11_placeOf_7 : decode cX11_placeOf 7 = .ok (.getfield 35, 3) := by decide +kernel
theorem dX11_placeOf_10 : decode cX11_placeOf 10 = .ok (.aload_n 0, 1) := by decide +kernel
theorem dX11_placeOf_11 : decode cX11_placeOf 11 = .ok (.getfield 44, 3) := by decide +kernel
theorem dX11_placeOf_14 : decode cX11_placeOf 14 = .ok (.iload_n 1, 1) := by decide +kernel
theorem dX11_placeOf_15 : decode cX11_placeOf 15 = .ok (.iaload, 1) := by decide +kernel
theorem dX11_placeOf_16 : decode cX11_placeOf 16 = .ok (.iaload, 1) := by decide +kernel
theorem dX11_placeOf_17 : decode cX11_placeOf 17 = .ok (.iadd, 1) := by decide +kernel
theorem dX11_placeOf_18 : decode cX11_placeOf 18 = .ok (.bipush 63, 2) := by decide +kernel
theorem dX11_placeOf_20 : decode cX11_placeOf 20 = .ok (.iand, 1) := by decide +kernel
theorem dX11_placeOf_21 : decode cX11_placeOf 21 = .ok (.ireturn, 1) := by decide +kernel
theorem dX11_fires_0 : decode cX11_fires 0 = .ok (.iload_n 1, 1) := by decide +kernel
theorem dX11_fires_1 : decode cX11_fires 1 = .ok (.iconst 1, 1) := by decide +kernel
theorem dX11_fires_2 : decode cX11_fires 2 = .ok (.iadd, 1) := by decide +kernel
theorem dX11_fires_3 : decode cX11_fires 3 = .ok (.aload_n 0, 1) := by decide +kernel
theorem dX11_fires_4 : decode cX11_fires 4 = .ok (.getfield 13, 3) := by decide +kernel
theorem dX11_fires_7 : decode cX11_fires 7 = .ok (.if_icmp .ge 16, 3) := by decide +kernel
theorem dX11_fires_10 : decode cX11_fires 10 = .ok (.aload_n 0, 1) := by decide +kernel
theorem dX11_fires_11 : decode cX11_fires 11 = .ok (.getfield 47, 3) := by decide +kernel
theorem dX11_fires_14 : decode cX11_fires 14 = .ok (.iload_n 1, 1) := by decide +kernel
theorem dX11_fires_15 : decode cX11_fires 15 = .ok (.iconst 1, 1) := by decide +kernel
theorem dX11_fires_16 : decode cX11_fires 16 = .ok (.iadd, 1) := by decide +kernel
theorem dX11_fires_17 : decode cX11_fires 17 = .ok (.baload, 1) := by decide +kernel
theorem dX11_fires_18 : decode cX11_fires 18 = .ok (.ifCond .eq 5, 3) := by decide +kernel
theorem dX11_fires_21 : decode cX11_fires 21 = .ok (.iconst 0, 1) := by decide +kernel
theorem dX11_fires_22 : decode cX11_fires 22 = .ok (.ireturn, 1) := by decide +kernel
theorem dX11_fires_23 : decode cX11_fires 23 = .ok (.aload_n 0, 1) := by decide +kernel
theorem dX11_fires_24 : decode cX11_fires 24 = .ok (.getfield 44, 3) := by decide +kernel
theorem dX11_fires_27 : decode cX11_fires 27 = .ok (.iload_n 1, 1) := by decide +kernel
theorem dX11_fires_28 : decode cX11_fires 28 = .ok (.iaload, 1) := by decide +kernel
theorem dX11_fires_29 : decode cX11_fires 29 = .ok (.istore_n 2, 1) := by decide +kernel
theorem dX11_fires_30 : decode cX11_fires 30 = .ok (.aload_n 0, 1) := by decide +kernel
theorem dX11_fires_31 : decode cX11_fires 31 = .ok (.iload_n 2, 1) := by decide +kernel
theorem dX11_fires_32 : decode cX11_fires 32 = .ok (.invokevirtual 129, 3) := by decide +kernel
theorem dX11_fires_35 : decode cX11_fires 35 = .ok (.istore_n 3, 1) := by decide +kernel
theorem dX11_fires_36 : decode cX11_fires 36 = .ok (.iload_n 1, 1) := by decide +kernel
theorem dX11_fires_37 : decode cX11_fires 37 = .ok (.aload_n 0, 1) := by decide +kernel
theorem dX11_fires_38 : decode cX11_fires 38 = .ok (.getfield 17, 3) := by decide +kernel
theorem dX11_fires_41 : decode cX11_fires 41 = .ok (.iconst 1, 1) := by decide +kernel
theorem dX11_fires_42 : decode cX11_fires 42 = .ok (.iaload, 1) := by decide +kernel
theorem dX11_fires_43 : decode cX11_fires 43 = .ok (.if_icmp .ne 47, 3) := by decide +kernel
theorem dX11_fires_46 : decode cX11_fires 46 = .ok (.iload_n 3, 1) := by decide +kernel
theorem dX11_fires_47 : decode cX11_fires 47 = .ok (.invokestatic 143, 3) := by decide +kernel
theorem dX11_fires_50 : decode cX11_fires 50 = .ok (.ifCond .eq 17, 3) := by decide +kernel
theorem dX11_fires_53 : decode cX11_fires 53 = .ok (.aload_n 0, 1) := by decide +kernel
theorem dX11_fires_54 : decode cX11_fires 54 = .ok (.iload_n 1, 1) := by decide +kernel
theorem dX11_fires_55 : decode cX11_fires 55 = .ok (.aload_n 0, 1) := by decide +kernel
theorem dX11_fires_56 : decode cX11_fires 56 = .ok (.getfield 29, 3) := by decide +kernel
theorem dX11_fires_59 : decode cX11_fires 59 = .ok (.iload_n 2, 1) := by decide +kernel
theorem dX11_fires_60 : decode cX11_fires 60 = .ok (.iaload, 1) := by decide +kernel
theorem dX11_fires_61 : decode cX11_fires 61 = .ok (.invokevirtual 147, 3) := by decide +kernel
theorem dX11_fires_64 : decode cX11_fires 64 = .ok (.ifCond .eq 24, 3) := by decide +kernel
theorem dX11_fires_67 : decode cX11_fires 67 = .ok (.iload_n 3, 1) := by decide +kernel
theorem dX11_fires_68 : decode cX11_fires 68 = .ok (.invokestatic 150, 3) := by decide +kernel
theorem dX11_fires_71 : decode cX11_fires 71 = .ok (.ifCond .eq 19, 3) := by decide +kernel
theorem dX11_fires_74 : decode cX11_fires 74 = .ok (.aload_n 0, 1) := by decide +kernel
theorem dX11_fires_75 : decode cX11_fires 75 = .ok (.iload_n 1, 1) := by decide +kernel
theorem dX11_fires_76 : decode cX11_fires 76 = .ok (.aload_n 0, 1) := by decide +kernel
theorem dX11_fires_77 : decode cX11_fires 77 = .ok (.getfield 32, 3) := by decide +kernel
theorem dX11_fires_80 : decode cX11_fires 80 = .ok (.iload_n 2, 1) := by decide +kernel
theorem dX11_fires_81 : decode cX11_fires 81 = .ok (.iaload, 1) := by decide +kernel
theorem dX11_fires_82 : decode cX11_fires 82 = .ok (.invokevirtual 147, 3) := by decide +kernel
theorem dX11_fires_85 : decode cX11_fires 85 = .ok (.ifCond .ne 5, 3) := by decide +kernel
theorem dX11_fires_88 : decode cX11_fires 88 = .ok (.iconst 0, 1) := by decide +kernel
theorem dX11_fires_89 : decode cX11_fires 89 = .ok (.ireturn, 1) := by decide +kernel
theorem dX11_fires_90 : decode cX11_fires 90 = .ok (.iload_n 1, 1) := by decide +kernel
theorem dX11_fires_91 : decode cX11_fires 91 = .ok (.aload_n 0, 1) := by decide +kernel
theorem dX11_fires_92 : decode cX11_fires 92 = .ok (.getfield 17, 3) := by decide +kernel
theorem dX11_fires_95 : decode cX11_fires 95 = .ok (.iconst 4, 1) := by decide +kernel
theorem dX11_fires_96 : decode cX11_fires 96 = .ok (.iaload, 1) := by decide +kernel
theorem dX11_fires_97 : decode cX11_fires 97 = .ok (.if_icmp .ne 18, 3) := by decide +kernel
theorem dX11_fires_100 : decode cX11_fires 100 = .ok (.iload_n 3, 1) := by decide +kernel
theorem dX11_fires_101 : decode cX11_fires 101 = .ok (.iconst 5, 1) := by decide +kernel
theorem dX11_fires_102 : decode cX11_fires 102 = .ok (.if_icmp .ne 13, 3) := by decide +kernel
theorem dX11_fires_105 : decode cX11_fires 105 = .ok (.aload_n 0, 1) := by decide +kernel
theorem dX11_fires_106 : decode cX11_fires 106 = .ok (.iload_n 1, 1) := by decide +kernel
theorem dX11_fires_107 : decode cX11_fires 107 = .ok (.invokevirtual 153, 3) := by decide +kernel
theorem dX11_fires_110 : decode cX11_fires 110 = .ok (.ifCond .eq 5, 3) := by decide +kernel
theorem dX11_fires_113 : decode cX11_fires 113 = .ok (.iconst 0, 1) := by decide +kernel
theorem dX11_fires_114 : decode cX11_fires 114 = .ok (.ireturn, 1) := by decide +kernel
theorem dX11_fires_115 : decode cX11_fires 115 = .ok (.iload_n 1, 1) := by decide +kernel
theorem dX11_fires_116 : decode cX11_fires 116 = .ok (.aload_n 0, 1) := by decide +kernel
theorem dX11_fires_117 : decode cX11_fires 117 = .ok (.getfield 17, 3) := by decide +kernel
theorem dX11_fires_120 : decode cX11_fires 120 = .ok (.iconst 5, 1) := by decide +kernel
theorem dX11_fires_121 : decode cX11_fires 121 = .ok (.iaload, 1) := by decide +kernel
theorem dX11_fires_122 : decode cX11_fires 122 = .ok (.if_icmp .ne 35, 3) := by decide +kernel
theorem dX11_fires_125 : decode cX11_fires 125 = .ok (.iload_n 3, 1) := by decide +kernel
theorem dX11_fires_126 : decode cX11_fires 126 = .ok (.iconst 5, 1) := by decide +kernel
theorem dX11_fires_127 : decode cX11_fires 127 = .ok (.if_icmp .ne 30, 3) := by decide +kernel
theorem dX11_fires_130 : decode cX11_fires 130 = .ok (.aload_n 0, 1) := by decide +kernel
theorem dX11_fires_131 : decode cX11_fires 131 = .ok (.getfield 99, 3) := by decide +kernel
theorem dX11_fires_134 : decode cX11_fires 134 = .ok (.aload_n 0, 1) := by decide +kernel
theorem dX11_fires_135 : decode cX11_fires 135 = .ok (.getfield 60, 3) := by decide +kernel
theorem dX11_fires_138 : decode cX11_fires 138 = .ok (.iload_n 1, 1) := by decide +kernel
theorem dX11_fires_139 : decode cX11_fires 139 = .ok (.iaload, 1) := by decide +kernel
theorem dX11_fires_140 : decode cX11_fires 140 = .ok (.isub, 1) := by decide +kernel
theorem dX11_fires_141 : decode cX11_fires 141 = .ok (.aload_n 0, 1) := by decide +kernel
theorem dX11_fires_142 : decode cX11_fires 142 = .ok (.getfield 41, 3) := by decide +kernel
theorem dX11_fires_145 : decode cX11_fires 145 = .ok (.aload_n 0, 1) := by decide +kernel
theorem dX11_fires_146 : decode cX11_fires 146 = .ok (.iload_n 1, 1) := by decide +kernel
theorem dX11_fires_147 : decode cX11_fires 147 = .ok (.invokevirtual 156, 3) := by decide +kernel
theorem dX11_fires_150 : decode cX11_fires 150 = .ok (.bipush 8, 2) := by decide +kernel
theorem dX11_fires_152 : decode cX11_fires 152 = .ok (.irem, 1) := by decide +kernel
theorem dX11_fires_153 : decode cX11_fires 153 = .ok (.iaload, 1) := by decide +kernel
theorem dX11_fires_154 : decode cX11_fires 154 = .ok (.if_icmp .lt 7, 3) := by decide +kernel
theorem dX11_fires_157 : decode cX11_fires 157 = .ok (.iconst 1, 1) := by decide +kernel
theorem dX11_fires_158 : decode cX11_fires 158 = .ok (.goto 4, 3) := by decide +kernel
theorem dX11_fires_161 : decode cX11_fires 161 = .ok (.iconst 0, 1) := by decide +kernel
theorem dX11_fires_162 : decode cX11_fires 162 = .ok (.ireturn, 1) := by decide +kernel
theorem dX11_workOut_0 : decode cX11_workOut 0 = .ok (.aload_n 0, 1) := by decide +kernel
theorem dX11_workOut_1 : decode cX11_workOut 1 = .ok (.getfield 51, 3) := by decide +kernel
theorem dX11_workOut_4 : decode cX11_workOut 4 = .ok (.iload_n 1, 1) := by decide +kernel
theorem dX11_workOut_5 : decode cX11_workOut 5 = .ok (.iaload, 1) := by decide +kernel
theorem dX11_workOut_6 : decode cX11_workOut 6 = .ok (.istore 4, 2) := by decide +kernel
theorem dX11_workOut_8 : decode cX11_workOut 8 = .ok (.aload_n 0, 1) := by decide +kernel
theorem dX11_workOut_9 : decode cX11_workOut 9 = .ok (.getfield 54, 3) := by decide +kernel
theorem dX11_workOut_12 : decode cX11_workOut 12 = .ok (.iload_n 1, 1) := by decide +kernel
theorem dX11_workOut_13 : decode cX11_workOut 13 = .ok (.iaload, 1) := by decide +kernel
theorem dX11_workOut_14 : decode cX11_workOut 14 = .ok (.istore 5, 2) := by decide +kernel
theorem dX11_workOut_16 : decode cX11_workOut 16 = .ok (.iload_n 3, 1) := by decide +kernel
theorem dX11_workOut_17 : decode cX11_workOut 17 = .ok (.iconst 1, 1) := by decide +kernel
theorem dX11_workOut_18 : decode cX11_workOut 18 = .ok (.if_icmp .ne 18, 3) := by decide +kernel
theorem dX11_workOut_21 : decode cX11_workOut 21 = .ok (.aload_n 0, 1) := by decide +kernel
theorem dX11_workOut_22 : decode cX11_workOut 22 = .ok (.getfield 57, 3) := by decide +kernel
theorem dX11_workOut_25 : decode cX11_workOut 25 = .ok (.iload_n 1, 1) := by decide +kernel
theorem dX11_workOut_26 : decode cX11_workOut 26 = .ok (.aload_n 0, 1) := by decide +kernel
theorem dX11_workOut_27 : decode cX11_workOut 27 = .ok (.getfield 35, 3) := by decide +kernel
theorem dX11_workOut_30 : decode cX11_workOut 30 = .ok (.iload_n 2, 1) := by decide +kernel
theorem dX11_workOut_31 : decode cX11_workOut 31 = .ok (.iaload, 1) := by decide +kernel
theorem dX11_workOut_32 : decode cX11_workOut 32 = .ok (.iastore, 1) := by decide +kernel
theorem dX11_workOut_33 : decode cX11_workOut 33 = .ok (.goto 49, 3) := by decide +kernel
theorem dX11_workOut_36 : decode cX11_workOut 36 = .ok (.iload_n 3, 1) := by decide +kernel
theorem dX11_workOut_37 : decode cX11_workOut 37 = .ok (.iconst 2, 1) := by decide +kernel
theorem dX11_workOut_38 : decode cX11_workOut 38 = .ok (.iconst 4, 1) := by decide +kernel
theorem dX11_workOut_39 : decode cX11_workOut 39 = .ok (.invokestatic 115, 3) := by decide +kernel
theorem dX11_workOut_42 : decode cX11_workOut 42 = .ok (.ifCond .eq 40, 3) := by decide +kernel
theorem dX11_workOut_45 : decode cX11_workOut 45 = .ok (.aload_n 0, 1) := by decide +kernel
theorem dX11_workOut_46 : decode cX11_workOut 46 = .ok (.getfield 57, 3) := by decide +kernel
theorem dX11_workOut_49 : decode cX11_workOut 49 = .ok (.iload_n 1, 1) := by decide +kernel
theorem dX11_workOut_50 : decode cX11_workOut 50 = .ok (.iload_n 3, 1) := by decide +kernel
theorem dX11_workOut_51 : decode cX11_workOut 51 = .ok (.iconst 2, 1) := by decide +kernel
theorem dX11_workOut_52 : decode cX11_workOut 52 = .ok (.if_icmp .ne 11, 3) := by decide +kernel
theorem dX11_workOut_55 : decode cX11_workOut 55 = .ok (.iload 4, 2) := by decide +kernel
theorem dX11_workOut_57 : decode cX11_workOut 57 = .ok (.iload 5, 2) := by decide +kernel
theorem dX11_workOut_59 : decode cX11_workOut 59 = .ok (.iadd, 1) := by decide +kernel
theorem dX11_workOut_60 : decode cX11_workOut 60 = .ok (.goto 21, 3) := by decide +kernel
theorem dX11_workOut_63 : decode cX11_workOut 63 = .ok (.iload_n 3, 1) := by decide +kernel
theorem dX11_workOut_64 : decode cX11_workOut 64 = .ok (.iconst 3, 1) := by decide +kernel
theorem dX11_workOut_65 : decode cX11_workOut 65 = .ok (.if_icmp .ne 11, 3) := by decide +kernel
theorem dX11_workOut_68 : decode cX11_workOut 68 = .ok (.iload 4, 2) := by decide +kernel
theorem dX11_workOut_70 : decode cX11_workOut 70 = .ok (.iload 5, 2) := by decide +kernel
theorem dX11_workOut_72 : decode cX11_workOut 72 = .ok (.isub, 1) := by decide +kernel
theorem dX11_workOut_73 : decode cX11_workOut 73 = .ok (.goto 8, 3) := by decide +kernel
theorem dX11_workOut_76 : decode cX11_workOut 76 = .ok (.iload 4, 2) := by decide +kernel
theorem dX11_workOut_78 : decode cX11_workOut 78 = .ok (.iload 5, 2) := by decide +kernel
theorem dX11_workOut_80 : decode cX11_workOut 80 = .ok (.imul, 1) := by decide +kernel
theorem dX11_workOut_81 : decode cX11_workOut 81 = .ok (.iastore, 1) := by decide +kernel
theorem dX11_workOut_82 : decode cX11_workOut 82 = .ok (.return_, 1) := by decide +kernel
theorem dX11_commitOne_0 : decode cX11_commitOne 0 = .ok (.aload_n 0, 1) := by decide +kernel
theorem dX11_commitOne_1 : decode cX11_commitOne 1 = .ok (.getfield 112, 3) := by decide +kernel
theorem dX11_commitOne_4 : decode cX11_commitOne 4 = .ok (.sipush 1000, 3) := by decide +kernel
theorem dX11_commitOne_7 : decode cX11_commitOne 7 = .ok (.if_icmp .ge 46, 3) := by decide +kernel
theorem dX11_commitOne_10 : decode cX11_commitOne 10 = .ok (.aload_n 0, 1) := by decide +kernel
theorem dX11_commitOne_11 : decode cX11_commitOne 11 = .ok (.getfield 75, 3) := by decide +kernel
theorem dX11_commitOne_14 : decode cX11_commitOne 14 = .ok (.aload_n 0, 1) := by decide +kernel
theorem dX11_commitOne_15 : decode cX11_commitOne 15 = .ok (.getfield 112, 3) := by decide +kernel
theorem dX11_commitOne_18 : decode cX11_commitOne 18 = .ok (.iload_n 1, 1) := by decide +kernel
theorem dX11_commitOne_19 : decode cX11_commitOne 19 = .ok (.iastore, 1) := by decide +kernel
theorem dX11_commitOne_20 : decode cX11_commitOne 20 = .ok (.aload_n 0, 1) := by decide +kernel
theorem dX11_commitOne_21 : decode cX11_commitOne 21 = .ok (.getfield 78, 3) := by decide +kernel
theorem dX11_commitOne_24 : decode cX11_commitOne 24 = .ok (.aload_n 0, 1) := by decide +kernel
theorem dX11_commitOne_25 : decode cX11_commitOne 25 = .ok (.getfield 112, 3) := by decide +kernel
theorem dX11_commitOne_28 : decode cX11_commitOne 28 = .ok (.iload_n 2, 1) := by decide +kernel
theorem dX11_commitOne_29 : decode cX11_commitOne 29 = .ok (.iastore, 1) := by decide +kernel
theorem dX11_commitOne_30 : decode cX11_commitOne 30 = .ok (.aload_n 0, 1) := by decide +kernel
theorem dX11_commitOne_31 : decode cX11_commitOne 31 = .ok (.getfield 81, 3) := by decide +kernel
theorem dX11_commitOne_34 : decode cX11_commitOne 34 = .ok (.aload_n 0, 1) := by decide +kernel
theorem dX11_commitOne_35 : decode cX11_commitOne 35 = .ok (.getfield 112, 3) := by decide +kernel
theorem dX11_commitOne_38 : decode cX11_commitOne 38 = .ok (.iload_n 3, 1) := by decide +kernel
theorem dX11_commitOne_39 : decode cX11_commitOne 39 = .ok (.iastore, 1) := by decide +kernel
theorem dX11_commitOne_40 : decode cX11_commitOne 40 = .ok (.aload_n 0, 1) := by decide +kernel
theorem dX11_commitOne_41 : decode cX11_commitOne 41 = .ok (.getfield 84, 3) := by decide +kernel
theorem dX11_commitOne_44 : decode cX11_commitOne 44 = .ok (.aload_n 0, 1) := by decide +kernel
theorem dX11_commitOne_45 : decode cX11_commitOne 45 = .ok (.getfield 112, 3) := by decide +kernel
theorem dX11_commitOne_48 : decode cX11_commitOne 48 = .ok (.aload_n 0, 1) := by decide +kernel
theorem dX11_commitOne_49 : decode cX11_commitOne 49 = .ok (.getfield 99, 3) := by decide +kernel
theorem dX11_commitOne_52 : decode cX11_commitOne 52 = .ok (.iastore, 1) := by decide +kernel
theorem dX11_commitOne_53 : decode cX11_commitOne 53 = .ok (.aload_n 0, 1) := by decide +kernel
theorem dX11_commitOne_54 : decode cX11_commitOne 54 = .ok (.dup, 1) := by decide +kernel
theorem dX11_commitOne_55 : decode cX11_commitOne 55 = .ok (.getfield 112, 3) := by decide +kernel
theorem dX11_commitOne_58 : decode cX11_commitOne 58 = .ok (.iconst 1, 1) := by decide +kernel
theorem dX11_commitOne_59 : decode cX11_commitOne 59 = .ok (.iadd, 1) := by decide +kernel
theorem dX11_commitOne_60 : decode cX11_commitOne 60 = .ok (.putfield 112, 3) := by decide +kernel
theorem dX11_commitOne_63 : decode cX11_commitOne 63 = .ok (.return_, 1) := by decide +kernel
theorem dX11_commitAll_0 : decode cX11_commitAll 0 = .ok (.iload_n 3, 1) := by decide +kernel
theorem dX11_commitAll_1 : decode cX11_commitAll 1 = .ok (.iconst 1, 1) := by decide +kernel
theorem dX11_commitAll_2 : decode cX11_commitAll 2 = .ok (.iconst 5, 1) := by decide +kernel
theorem dX11_commitAll_3 : decode cX11_commitAll 3 = .ok (.invokestatic 115, 3) := by decide +kernel
theorem dX11_commitAll_6 : decode cX11_commitAll 6 = .ok (.ifCond .eq 55, 3) := by decide +kernel
theorem dX11_commitAll_9 : decode cX11_commitAll 9 = .ok (.aload_n 0, 1) := by decide +kernel
theorem dX11_commitAll_10 : decode cX11_commitAll 10 = .ok (.getfield 66, 3) := by decide +kernel
theorem dX11_commitAll_13 : decode cX11_commitAll 13 = .ok (.aload_n 0, 1) := by decide +kernel
theorem dX11_commitAll_14 : decode cX11_commitAll 14 = .ok (.getfield 26, 3) := by decide +kernel
theorem dX11_commitAll_17 : decode cX11_commitAll 17 = .ok (.iload_n 2, 1) := by decide +kernel
theorem dX11_commitAll_18 : decode cX11_commitAll 18 = .ok (.iaload, 1) := by decide +kernel
theorem dX11_commitAll_19 : decode cX11_commitAll 19 = .ok (.aload_n 0, 1) := by decide +kernel
theorem dX11_commitAll_20 : decode cX11_commitAll 20 = .ok (.getfield 57, 3) := by decide +kernel
theorem dX11_commitAll_23 : decode cX11_commitAll 23 = .ok (.iload_n 1, 1) := by decide +kernel
theorem dX11_commitAll_24 : decode cX11_commitAll 24 = .ok (.iaload, 1) := by decide +kernel
theorem dX11_commitAll_25 : decode cX11_commitAll 25 = .ok (.iastore, 1) := by decide +kernel
theorem dX11_commitAll_26 : decode cX11_commitAll 26 = .ok (.aload_n 0, 1) := by decide +kernel
theorem dX11_commitAll_27 : decode cX11_commitAll 27 = .ok (.getfield 69, 3) := by decide +kernel
theorem dX11_commitAll_30 : decode cX11_commitAll 30 = .ok (.aload_n 0, 1) := by decide +kernel
theorem dX11_commitAll_31 : decode cX11_commitAll 31 = .ok (.getfield 26, 3) := by decide +kernel
theorem dX11_commitAll_34 : decode cX11_commitAll 34 = .ok (.iload_n 2, 1) := by decide +kernel
theorem dX11_commitAll_35 : decode cX11_commitAll 35 = .ok (.iaload, 1) := by decide +kernel
theorem dX11_commitAll_36 : decode cX11_commitAll 36 = .ok (.aload_n 0, 1) := by decide +kernel
theorem dX11_commitAll_37 : decode cX11_commitAll 37 = .ok (.getfield 99, 3) := by decide +kernel
theorem dX11_commitAll_40 : decode cX11_commitAll 40 = .ok (.iastore, 1) := by decide +kernel
theorem dX11_commitAll_41 : decode cX11_commitAll 41 = .ok (.aload_n 0, 1) := by decide +kernel
theorem dX11_commitAll_42 : decode cX11_commitAll 42 = .ok (.iconst 0, 1) := by decide +kernel
theorem dX11_commitAll_43 : decode cX11_commitAll 43 = .ok (.aload_n 0, 1) := by decide +kernel
theorem dX11_commitAll_44 : decode cX11_commitAll 44 = .ok (.getfield 26, 3) := by decide +kernel
theorem dX11_commitAll_47 : decode cX11_commitAll 47 = .ok (.iload_n 2, 1) := by decide +kernel
theorem dX11_commitAll_48 : decode cX11_commitAll 48 = .ok (.iaload, 1) := by decide +kernel
theorem dX11_commitAll_49 : decode cX11_commitAll 49 = .ok (.aload_n 0, 1) := by decide +kernel
theorem dX11_commitAll_50 : decode cX11_commitAll 50 = .ok (.getfield 57, 3) := by decide +kernel
theorem dX11_commitAll_53 : decode cX11_commitAll 53 = .ok (.iload_n 1, 1) := by decide +kernel
theorem dX11_commitAll_54 : decode cX11_commitAll 54 = .ok (.iaload, 1) := by decide +kernel
theorem dX11_commitAll_55 : decode cX11_commitAll 55 = .ok (.invokevirtual 159, 3) := by decide +kernel
theorem dX11_commitAll_58 : decode cX11_commitAll 58 = .ok (.goto 79, 3) := by decide +kernel
theorem dX11_commitAll_61 : decode cX11_commitAll 61 = .ok (.iload_n 3, 1) := by decide +kernel
theorem dX11_commitAll_62 : decode cX11_commitAll 62 = .ok (.bipush 6, 2) := by decide +kernel
theorem dX11_commitAll_64 : decode cX11_commitAll 64 = .ok (.if_icmp .ne 43, 3) := by decide +kernel
theorem dX11_commitAll_67 : decode cX11_commitAll 67 = .ok (.aload_n 0, 1) := by decide +kernel
theorem dX11_commitAll_68 : decode cX11_commitAll 68 = .ok (.getfield 72, 3) := by decide +kernel
theorem dX11_commitAll_71 : decode cX11_commitAll 71 = .ok (.aload_n 0, 1) := by decide +kernel
theorem dX11_commitAll_72 : decode cX11_commitAll 72 = .ok (.iload_n 1, 1) := by decide +kernel
theorem dX11_commitAll_73 : decode cX11_commitAll 73 = .ok (.invokevirtual 156, 3) := by decide +kernel
theorem dX11_commitAll_76 : decode cX11_commitAll 76 = .ok (.aload_n 0, 1) := by decide +kernel
theorem dX11_commitAll_77 : decode cX11_commitAll 77 = .ok (.getfield 54, 3) := by decide +kernel
theorem dX11_commitAll_80 : decode cX11_commitAll 80 = .ok (.iload_n 1, 1) := by decide +kernel
theorem dX11_commitAll_81 : decode cX11_commitAll 81 = .ok (.iaload, 1) := by decide +kernel
theorem dX11_commitAll_82 : decode cX11_commitAll 82 = .ok (.iastore, 1) := by decide +kernel
theorem dX11_commitAll_83 : decode cX11_commitAll 83 = .ok (.aload_n 0, 1) := by decide +kernel
theorem dX11_commitAll_84 : decode cX11_commitAll 84 = .ok (.iconst 1, 1) := by decide +kernel
theorem dX11_commitAll_85 : decode cX11_commitAll 85 = .ok (.putfield 140, 3) := by decide +kernel
theorem dX11_commitAll_88 : decode cX11_commitAll 88 = .ok (.aload_n 0, 1) := by decide +kernel
theorem dX11_commitAll_89 : decode cX11_commitAll 89 = .ok (.iconst 1, 1) := by decide +kernel
theorem dX11_commitAll_90 : decode cX11_commitAll 90 = .ok (.aload_n 0, 1) := by decide +kernel
theorem dX11_commitAll_91 : decode cX11_commitAll 91 = .ok (.iload_n 1, 1) := by decide +kernel
theorem dX11_commitAll_92 : decode cX11_commitAll 92 = .ok (.invokevirtual 156, 3) := by decide +kernel
theorem dX11_commitAll_95 : decode cX11_commitAll 95 = .ok (.aload_n 0, 1) := by decide +kernel
theorem dX11_commitAll_96 : decode cX11_commitAll 96 = .ok (.getfield 54, 3) := by decide +kernel
theorem dX11_commitAll_99 : decode cX11_commitAll 99 = .ok (.iload_n 1, 1) := by decide +kernel
theorem dX11_commitAll_100 : decode cX11_commitAll 100 = .ok (.iaload, 1) := by decide +kernel
theorem dX11_commitAll_101 : decode cX11_commitAll 101 = .ok (.invokevirtual 159, 3) := by decide +kernel
theorem dX11_commitAll_104 : decode cX11_commitAll 104 = .ok (.goto 33, 3) := by decide +kernel
theorem dX11_commitAll_107 : decode cX11_commitAll 107 = .ok (.iload_n 3, 1) := by decide +kernel
theorem dX11_commitAll_108 : decode cX11_commitAll 108 = .ok (.bipush 8, 2) := by decide +kernel
theorem dX11_commitAll_110 : decode cX11_commitAll 110 = .ok (.if_icmp .ne 18, 3) := by decide +kernel
theorem dX11_commitAll_113 : decode cX11_commitAll 113 = .ok (.aload_n 0, 1) := by decide +kernel
theorem dX11_commitAll_114 : decode cX11_commitAll 114 = .ok (.iconst 2, 1) := by decide +kernel
theorem dX11_commitAll_115 : decode cX11_commitAll 115 = .ok (.iconst 0, 1) := by decide +kernel
theorem dX11_commitAll_116 : decode cX11_commitAll 116 = .ok (.aload_n 0, 1) := by decide +kernel
theorem dX11_commitAll_117 : decode cX11_commitAll 117 = .ok (.getfield 51, 3) := by decide +kernel
theorem dX11_commitAll_120 : decode cX11_commitAll 120 = .ok (.iload_n 1, 1) := by decide +kernel
theorem dX11_commitAll_121 : decode cX11_commitAll 121 = .ok (.iaload, 1) := by decide +kernel
theorem dX11_commitAll_122 : decode cX11_commitAll 122 = .ok (.invokevirtual 159, 3) := by decide +kernel
theorem dX11_commitAll_125 : decode cX11_commitAll 125 = .ok (.goto 12, 3) := by decide +kernel
theorem dX11_commitAll_128 : decode cX11_commitAll 128 = .ok (.iload_n 3, 1) := by decide +kernel
theorem dX11_commitAll_129 : decode cX11_commitAll 129 = .ok (.ifCond .ne 8, 3) := by decide +kernel
theorem dX11_commitAll_132 : decode cX11_commitAll 132 = .ok (.aload_n 0, 1) := by decide +kernel
theorem dX11_commitAll_133 : decode cX11_commitAll 133 = .ok (.iconst 1, 1) := by decide +kernel
theorem dX11_commitAll_134 : decode cX11_commitAll 134 = .ok (.putfield 102, 3) := by decide +kernel
theorem dX11_commitAll_137 : decode cX11_commitAll 137 = .ok (.return_, 1) := by decide +kernel
theorem dX11_fire_0 : decode cX11_fire 0 = .ok (.aload_n 0, 1) := by decide +kernel
theorem dX11_fire_1 : decode cX11_fire 1 = .ok (.getfield 44, 3) := by decide +kernel
theorem dX11_fire_4 : decode cX11_fire 4 = .ok (.iload_n 1, 1) := by decide +kernel
theorem dX11_fire_5 : decode cX11_fire 5 = .ok (.iaload, 1) := by decide +kernel
theorem dX11_fire_6 : decode cX11_fire 6 = .ok (.istore_n 2, 1) := by decide +kernel
theorem dX11_fire_7 : decode cX11_fire 7 = .ok (.aload_n 0, 1) := by decide +kernel
theorem dX11_fire_8 : decode cX11_fire 8 = .ok (.iload_n 2, 1) := by decide +kernel
theorem dX11_fire_9 : decode cX11_fire 9 = .ok (.invokevirtual 129, 3) := by decide +kernel
theorem dX11_fire_12 : decode cX11_fire 12 = .ok (.istore_n 3, 1) := by decide +kernel
theorem dX11_fire_13 : decode cX11_fire 13 = .ok (.iload_n 1, 1) := by decide +kernel
theorem dX11_fire_14 : decode cX11_fire 14 = .ok (.aload_n 0, 1) := by decide +kernel
theorem dX11_fire_15 : decode cX11_fire 15 = .ok (.getfield 17, 3) := by decide +kernel
theorem dX11_fire_18 : decode cX11_fire 18 = .ok (.iconst 1, 1) := by decide +kernel
theorem dX11_fire_19 : decode cX11_fire 19 = .ok (.iaload, 1) := by decide +kernel
theorem dX11_fire_20 : decode cX11_fire 20 = .ok (.if_icmp .ne 59, 3) := by decide +kernel
theorem dX11_fire_23 : decode cX11_fire 23 = .ok (.aload_n 0, 1) := by decide +kernel
theorem dX11_fire_24 : decode cX11_fire 24 = .ok (.getfield 51, 3) := by decide +kernel
theorem dX11_fire_27 : decode cX11_fire 27 = .ok (.iload_n 1, 1) := by decide +kernel
theorem dX11_fire_28 : decode cX11_fire 28 = .ok (.iload_n 3, 1) := by decide +kernel
theorem dX11_fire_29 : decode cX11_fire 29 = .ok (.invokestatic 143, 3) := by decide +kernel
theorem dX11_fire_32 : decode cX11_fire 32 = .ok (.ifCond .eq 17, 3) := by decide +kernel
theorem dX11_fire_35 : decode cX11_fire 35 = .ok (.aload_n 0, 1) := by decide +kernel
theorem dX11_fire_36 : decode cX11_fire 36 = .ok (.iload_n 1, 1) := by decide +kernel
theorem dX11_fire_37 : decode cX11_fire 37 = .ok (.aload_n 0, 1) := by decide +kernel
theorem dX11_fire_38 : decode cX11_fire 38 = .ok (.getfield 29, 3) := by decide +kernel
theorem dX11_fire_41 : decode cX11_fire 41 = .ok (.iload_n 2, 1) := by decide +kernel
theorem dX11_fire_42 : decode cX11_fire 42 = .ok (.iaload, 1) := by decide +kernel
theorem dX11_fire_43 : decode cX11_fire 43 = .ok (.invokevirtual 163, 3) := by decide +kernel
theorem dX11_fire_46 : decode cX11_fire 46 = .ok (.goto 4, 3) := by decide +kernel
theorem dX11_fire_49 : decode cX11_fire 49 = .ok (.iconst 0, 1) := by decide +kernel
theorem dX11_fire_50 : decode cX11_fire 50 = .ok (.iastore, 1) := by decide +kernel
theorem dX11_fire_51 : decode cX11_fire 51 = .ok (.aload_n 0, 1) := by decide +kernel
theorem dX11_fire_52 : decode cX11_fire 52 = .ok (.getfield 54, 3) := by decide +kernel
theorem dX11_fire_55 : decode cX11_fire 55 = .ok (.iload_n 1, 1) := by decide +kernel
theorem dX11_fire_56 : decode cX11_fire 56 = .ok (.iload_n 3, 1) := by decide +kernel
theorem dX11_fire_57 : decode cX11_fire 57 = .ok (.invokestatic 150, 3) := by decide +kernel
theorem dX11_fire_60 : decode cX11_fire 60 = .ok (.ifCond .eq 17, 3) := by decide +kernel
theorem dX11_fire_63 : decode cX11_fire 63 = .ok (.aload_n 0, 1) := by decide +kernel
theorem dX11_fire_64 : decode cX11_fire 64 = .ok (.iload_n 1, 1) := by decide +kernel
theorem dX11_fire_65 : decode cX11_fire 65 = .ok (.aload_n 0, 1) := by decide +kernel
theorem dX11_fire_66 : decode cX11_fire 66 = .ok (.getfield 32, 3) := by decide +kernel
theorem dX11_fire_69 : decode cX11_fire 69 = .ok (.iload_n 2, 1) := by decide +kernel
theorem dX11_fire_70 : decode cX11_fire 70 = .ok (.iaload, 1) := by decide +kernel
theorem dX11_fire_71 : decode cX11_fire 71 = .ok (.invokevirtual 163, 3) := by decide +kernel
theorem dX11_fire_74 : decode cX11_fire 74 = .ok (.goto 4, 3) := by decide +kernel
theorem dX11_fire_77 : decode cX11_fire 77 = .ok (.iconst 0, 1) := by decide +kernel
theorem dX11_fire_78 : decode cX11_fire 78 = .ok (.iastore, 1) := by decide +kernel
theorem dX11_fire_79 : decode cX11_fire 79 = .ok (.iload_n 1, 1) := by decide +kernel
theorem dX11_fire_80 : decode cX11_fire 80 = .ok (.aload_n 0, 1) := by decide +kernel
theorem dX11_fire_81 : decode cX11_fire 81 = .ok (.getfield 17, 3) := by decide +kernel
theorem dX11_fire_84 : decode cX11_fire 84 = .ok (.iconst 2, 1) := by decide +kernel
theorem dX11_fire_85 : decode cX11_fire 85 = .ok (.iaload, 1) := by decide +kernel
theorem dX11_fire_86 : decode cX11_fire 86 = .ok (.if_icmp .ne 10, 3) := by decide +kernel
theorem dX11_fire_89 : decode cX11_fire 89 = .ok (.aload_n 0, 1) := by decide +kernel
theorem dX11_fire_90 : decode cX11_fire 90 = .ok (.iload_n 1, 1) := by decide +kernel
theorem dX11_fire_91 : decode cX11_fire 91 = .ok (.iload_n 2, 1) := by decide +kernel
theorem dX11_fire_92 : decode cX11_fire 92 = .ok (.iload_n 3, 1) := by decide +kernel
theorem dX11_fire_93 : decode cX11_fire 93 = .ok (.invokevirtual 166, 3) := by decide +kernel
theorem dX11_fire_96 : decode cX11_fire 96 = .ok (.iload_n 1, 1) := by decide +kernel
theorem dX11_fire_97 : decode cX11_fire 97 = .ok (.aload_n 0, 1) := by decide +kernel
theorem dX11_fire_98 : decode cX11_fire 98 = .ok (.getfield 17, 3) := by decide +kernel
theorem dX11_fire_101 : decode cX11_fire 101 = .ok (.iconst 3, 1) := by decide +kernel
theorem dX11_fire_102 : decode cX11_fire 102 = .ok (.iaload, 1) := by decide +kernel
theorem dX11_fire_103 : decode cX11_fire 103 = .ok (.if_icmp .ne 63, 3) := by decide +kernel
theorem dX11_fire_106 : decode cX11_fire 106 = .ok (.iload_n 3, 1) := by decide +kernel
theorem dX11_fire_107 : decode cX11_fire 107 = .ok (.bipush 9, 2) := by decide +kernel
theorem dX11_fire_109 : decode cX11_fire 109 = .ok (.if_icmp .eq 24, 3) := by decide +kernel
theorem dX11_fire_112 : decode cX11_fire 112 = .ok (.iload_n 3, 1) := by decide +kernel
theorem dX11_fire_113 : decode cX11_fire 113 = .ok (.bipush 7, 2) := by decide +kernel
theorem dX11_fire_115 : decode cX11_fire 115 = .ok (.if_icmp .ne 51, 3) := by decide +kernel
theorem dX11_fire_118 : decode cX11_fire 118 = .ok (.aload_n 0, 1) := by decide +kernel
theorem dX11_fire_119 : decode cX11_fire 119 = .ok (.getfield 51, 3) := by decide +kernel
theorem dX11_fire_122 : decode cX11_fire 122 = .ok (.iload_n 1, 1) := by decide +kernel
theorem dX11_fire_123 : decode cX11_fire 123 = .ok (.iaload, 1) := by decide +kernel
theorem dX11_fire_124 : decode cX11_fire 124 = .ok (.aload_n 0, 1) := by decide +kernel
theorem dX11_fire_125 : decode cX11_fire 125 = .ok (.getfield 54, 3) := by decide +kernel
theorem dX11_fire_128 : decode cX11_fire 128 = .ok (.iload_n 1, 1) := by decide +kernel
theorem dX11_fire_129 : decode cX11_fire 129 = .ok (.iaload, 1) := by decide +kernel
theorem dX11_fire_130 : decode cX11_fire 130 = .ok (.if_icmp .ne 36, 3) := by decide +kernel
theorem dX11_fire_133 : decode cX11_fire 133 = .ok (.iconst 0, 1) := by decide +kernel
theorem dX11_fire_134 : decode cX11_fire 134 = .ok (.istore 4, 2) := by decide +kernel
theorem dX11_fire_136 : decode cX11_fire 136 = .ok (.iload 4, 2) := by decide +kernel
theorem dX11_fire_138 : decode cX11_fire 138 = .ok (.iload_n 1, 1) := by decide +kernel
theorem dX11_fire_139 : decode cX11_fire 139 = .ok (.if_icmp .ge 17, 3) := by decide +kernel
theorem dX11_fire_142 : decode cX11_fire 142 = .ok (.aload_n 0, 1) := by decide +kernel
theorem dX11_fire_143 : decode cX11_fire 143 = .ok (.getfield 47, 3) := by decide +kernel
theorem dX11_fire_146 : decode cX11_fire 146 = .ok (.iload 4, 2) := by decide +kernel
theorem dX11_fire_148 : decode cX11_fire 148 = .ok (.iconst 0, 1) := by decide +kernel
theorem dX11_fire_149 : decode cX11_fire 149 = .ok (.bastore, 1) := by decide +kernel
theorem dX11_fire_150 : decode cX11_fire 150 = .ok (.iinc 4 1, 3) := by decide +kernel
theorem dX11_fire_153 : decode cX11_fire 153 = .ok (.goto (-17), 3) := by decide +kernel
theorem dX11_fire_156 : decode cX11_fire 156 = .ok (.aload_n 0, 1) := by decide +kernel
theorem dX11_fire_157 : decode cX11_fire 157 = .ok (.aload_n 0, 1) := by decide +kernel
theorem dX11_fire_158 : decode cX11_fire 158 = .ok (.getfield 35, 3) := by decide +kernel
theorem dX11_fire_161 : decode cX11_fire 161 = .ok (.iload_n 2, 1) := by decide +kernel
theorem dX11_fire_162 : decode cX11_fire 162 = .ok (.iaload, 1) := by decide +kernel
theorem dX11_fire_163 : decode cX11_fire 163 = .ok (.putfield 106, 3) := by decide +kernel
theorem dX11_fire_166 : decode cX11_fire 166 = .ok (.iload_n 1, 1) := by decide +kernel
theorem dX11_fire_167 : decode cX11_fire 167 = .ok (.aload_n 0, 1) := by decide +kernel
theorem dX11_fire_168 : decode cX11_fire 168 = .ok (.getfield 17, 3) := by decide +kernel
theorem dX11_fire_171 : decode cX11_fire 171 = .ok (.iconst 4, 1) := by decide +kernel
theorem dX11_fire_172 : decode cX11_fire 172 = .ok (.iaload, 1) := by decide +kernel
theorem dX11_fire_173 : decode cX11_fire 173 = .ok (.if_icmp .ne 34, 3) := by decide +kernel
theorem dX11_fire_176 : decode cX11_fire 176 = .ok (.iload_n 3, 1) := by decide +kernel
theorem dX11_fire_177 : decode cX11_fire 177 = .ok (.iconst 5, 1) := by decide +kernel
theorem dX11_fire_178 : decode cX11_fire 178 = .ok (.if_icmp .ne 29, 3) := by decide +kernel
theorem dX11_fire_181 : decode cX11_fire 181 = .ok (.aload_n 0, 1) := by decide +kernel
theorem dX11_fire_182 : decode cX11_fire 182 = .ok (.getfield 60, 3) := by decide +kernel
theorem dX11_fire_185 : decode cX11_fire 185 = .ok (.iload_n 1, 1) := by decide +kernel
theorem dX11_fire_186 : decode cX11_fire 186 = .ok (.aload_n 0, 1) := by decide +kernel
theorem dX11_fire_187 : decode cX11_fire 187 = .ok (.getfield 99, 3) := by decide +kernel
theorem dX11_fire_190 : decode cX11_fire 190 = .ok (.iastore, 1) := by decide +kernel
theorem dX11_fire_191 : decode cX11_fire 191 = .ok (.aload_n 0, 1) := by decide +kernel
theorem dX11_fire_192 : decode cX11_fire 192 = .ok (.getfield 57, 3) := by decide +kernel
theorem dX11_fire_195 : decode cX11_fire 195 = .ok (.iload_n 1, 1) := by decide +kernel
theorem dX11_fire_196 : decode cX11_fire 196 = .ok (.aload_n 0, 1) := by decide +kernel
theorem dX11_fire_197 : decode cX11_fire 197 = .ok (.getfield 72, 3) := by decide +kernel
theorem dX11_fire_200 : decode cX11_fire 200 = .ok (.aload_n 0, 1) := by decide +kernel
theorem dX11_fire_201 : decode cX11_fire 201 = .ok (.iload_n 1, 1) := by decide +kernel
theorem dX11_fire_202 : decode cX11_fire 202 = .ok (.invokevirtual 156, 3) := by decide +kernel
theorem dX11_fire_205 : decode cX11_fire 205 = .ok (.iaload, 1) := by decide +kernel
theorem dX11_fire_206 : decode cX11_fire 206 = .ok (.iastore, 1) := by decide +kernel
theorem dX11_fire_207 : decode cX11_fire 207 = .ok (.iload_n 1, 1) := by decide +kernel
theorem dX11_fire_208 : decode cX11_fire 208 = .ok (.aload_n 0, 1) := by decide +kernel
theorem dX11_fire_209 : decode cX11_fire 209 = .ok (.getfield 17, 3) := by decide +kernel
theorem dX11_fire_212 : decode cX11_fire 212 = .ok (.bipush 6, 2) := by decide +kernel
theorem dX11_fire_214 : decode cX11_fire 214 = .ok (.iaload, 1) := by decide +kernel
theorem dX11_fire_215 : decode cX11_fire 215 = .ok (.if_icmp .ne 10, 3) := by decide +kernel
theorem dX11_fire_218 : decode cX11_fire 218 = .ok (.aload_n 0, 1) := by decide +kernel
theorem dX11_fire_219 : decode cX11_fire 219 = .ok (.iload_n 1, 1) := by decide +kernel
theorem dX11_fire_220 : decode cX11_fire 220 = .ok (.iload_n 2, 1) := by decide +kernel
theorem dX11_fire_221 : decode cX11_fire 221 = .ok (.iload_n 3, 1) := by decide +kernel
theorem dX11_fire_222 : decode cX11_fire 222 = .ok (.invokevirtual 169, 3) := by decide +kernel
theorem dX11_fire_225 : decode cX11_fire 225 = .ok (.aload_n 0, 1) := by decide +kernel
theorem dX11_fire_226 : decode cX11_fire 226 = .ok (.getfield 47, 3) := by decide +kernel
theorem dX11_fire_229 : decode cX11_fire 229 = .ok (.iload_n 1, 1) := by decide +kernel
theorem dX11_fire_230 : decode cX11_fire 230 = .ok (.iconst 0, 1) := by decide +kernel
theorem dX11_fire_231 : decode cX11_fire 231 = .ok (.bastore, 1) := by decide +kernel
theorem dX11_fire_232 : decode cX11_fire 232 = .ok (.iload_n 1, 1) := by decide +kernel
theorem dX11_fire_233 : decode cX11_fire 233 = .ok (.iconst 1, 1) := by decide +kernel
theorem dX11_fire_234 : decode cX11_fire 234 = .ok (.iadd, 1) := by decide +kernel
theorem dX11_fire_235 : decode cX11_fire 235 = .ok (.aload_n 0, 1) := by decide +kernel
theorem dX11_fire_236 : decode cX11_fire 236 = .ok (.getfield 13, 3) := by decide +kernel
theorem dX11_fire_239 : decode cX11_fire 239 = .ok (.if_icmp .ne 14, 3) := by decide +kernel
theorem dX11_fire_242 : decode cX11_fire 242 = .ok (.aload_n 0, 1) := by decide +kernel
theorem dX11_fire_243 : decode cX11_fire 243 = .ok (.dup, 1) := by decide +kernel
theorem dX11_fire_244 : decode cX11_fire 244 = .ok (.getfield 109, 3) := by decide +kernel
theorem dX11_fire_247 : decode cX11_fire 247 = .ok (.iconst 1, 1) := by decide +kernel
theorem dX11_fire_248 : decode cX11_fire 248 = .ok (.iadd, 1) := by decide +kernel
theorem dX11_fire_249 : decode cX11_fire 249 = .ok (.putfield 109, 3) := by decide +kernel
theorem dX11_fire_252 : decode cX11_fire 252 = .ok (.return_, 1) := by decide +kernel
theorem dX11_fire_253 : decode cX11_fire 253 = .ok (.aload_n 0, 1) := by decide +kernel
theorem dX11_fire_254 : decode cX11_fire 254 = .ok (.getfield 47, 3) := by decide +kernel
theorem dX11_fire_257 : decode cX11_fire 257 = .ok (.iload_n 1, 1) := by decide +kernel
theorem dX11_fire_258 : decode cX11_fire 258 = .ok (.iconst 1, 1) := by decide +kernel
theorem dX11_fire_259 : decode cX11_fire 259 = .ok (.iadd, 1) := by decide +kernel
theorem dX11_fire_260 : decode cX11_fire 260 = .ok (.iconst 1, 1) := by decide +kernel
theorem dX11_fire_261 : decode cX11_fire 261 = .ok (.bastore, 1) := by decide +kernel
theorem dX11_fire_262 : decode cX11_fire 262 = .ok (.aload_n 0, 1) := by decide +kernel
theorem dX11_fire_263 : decode cX11_fire 263 = .ok (.getfield 44, 3) := by decide +kernel
theorem dX11_fire_266 : decode cX11_fire 266 = .ok (.iload_n 1, 1) := by decide +kernel
theorem dX11_fire_267 : decode cX11_fire 267 = .ok (.iconst 1, 1) := by decide +kernel
theorem dX11_fire_268 : decode cX11_fire 268 = .ok (.iadd, 1) := by decide +kernel
theorem dX11_fire_269 : decode cX11_fire 269 = .ok (.iload_n 2, 1) := by decide +kernel
theorem dX11_fire_270 : decode cX11_fire 270 = .ok (.iastore, 1) := by decide +kernel
theorem dX11_fire_271 : decode cX11_fire 271 = .ok (.aload_n 0, 1) := by decide +kernel
theorem dX11_fire_272 : decode cX11_fire 272 = .ok (.getfield 51, 3) := by decide +kernel
theorem dX11_fire_275 : decode cX11_fire 275 = .ok (.iload_n 1, 1) := by decide +kernel
theorem dX11_fire_276 : decode cX11_fire 276 = .ok (.iconst 1, 1) := by decide +kernel
theorem dX11_fire_277 : decode cX11_fire 277 = .ok (.iadd, 1) := by decide +kernel
theorem dX11_fire_278 : decode cX11_fire 278 = .ok (.aload_n 0, 1) := by decide +kernel
theorem dX11_fire_279 : decode cX11_fire 279 = .ok (.getfield 51, 3) := by decide +kernel
theorem dX11_fire_282 : decode cX11_fire 282 = .ok (.iload_n 1, 1) := by decide +kernel
theorem dX11_fire_283 : decode cX11_fire 283 = .ok (.iaload, 1) := by decide +kernel
theorem dX11_fire_284 : decode cX11_fire 284 = .ok (.iastore, 1) := by decide +kernel
theorem dX11_fire_285 : decode cX11_fire 285 = .ok (.aload_n 0, 1) := by decide +kernel
theorem dX11_fire_286 : decode cX11_fire 286 = .ok (.getfield 54, 3) := by decide +kernel
theorem dX11_fire_289 : decode cX11_fire 289 = .ok (.iload_n 1, 1) := by decide +kernel
theorem dX11_fire_290 : decode cX11_fire 290 = .ok (.iconst 1, 1) := by decide +kernel
theorem dX11_fire_291 : decode cX11_fire 291 = .ok (.iadd, 1) := by decide +kernel
theorem dX11_fire_292 : decode cX11_fire 292 = .ok (.aload_n 0, 1) := by decide +kernel
theorem dX11_fire_293 : decode cX11_fire 293 = .ok (.getfield 54, 3) := by decide +kernel
theorem dX11_fire_296 : decode cX11_fire 296 = .ok (.iload_n 1, 1) := by decide +kernel
theorem dX11_fire_297 : decode cX11_fire 297 = .ok (.iaload, 1) := by decide +kernel
theorem dX11_fire_298 : decode cX11_fire 298 = .ok (.iastore, 1) := by decide +kernel
theorem dX11_fire_299 : decode cX11_fire 299 = .ok (.aload_n 0, 1) := by decide +kernel
theorem dX11_fire_300 : decode cX11_fire 300 = .ok (.getfield 57, 3) := by decide +kernel
theorem dX11_fire_303 : decode cX11_fire 303 = .ok (.iload_n 1, 1) := by decide +kernel
theorem dX11_fire_304 : decode cX11_fire 304 = .ok (.iconst 1, 1) := by decide +kernel
theorem dX11_fire_305 : decode cX11_fire 305 = .ok (.iadd, 1) := by decide +kernel
theorem dX11_fire_306 : decode cX11_fire 306 = .ok (.aload_n 0, 1) := by decide +kernel
theorem dX11_fire_307 : decode cX11_fire 307 = .ok (.getfield 57, 3) := by decide +kernel
theorem dX11_fire_310 : decode cX11_fire 310 = .ok (.iload_n 1, 1) := by decide +kernel
theorem dX11_fire_311 : decode cX11_fire 311 = .ok (.iaload, 1) := by decide +kernel
theorem dX11_fire_312 : decode cX11_fire 312 = .ok (.iastore, 1) := by decide +kernel
theorem dX11_fire_313 : decode cX11_fire 313 = .ok (.aload_n 0, 1) := by decide +kernel
theorem dX11_fire_314 : decode cX11_fire 314 = .ok (.getfield 60, 3) := by decide +kernel
theorem dX11_fire_317 : decode cX11_fire 317 = .ok (.iload_n 1, 1) := by decide +kernel
theorem dX11_fire_318 : decode cX11_fire 318 = .ok (.iconst 1, 1) := by decide +kernel
theorem dX11_fire_319 : decode cX11_fire 319 = .ok (.iadd, 1) := by decide +kernel
theorem dX11_fire_320 : decode cX11_fire 320 = .ok (.aload_n 0, 1) := by decide +kernel
theorem dX11_fire_321 : decode cX11_fire 321 = .ok (.getfield 60, 3) := by decide +kernel
theorem dX11_fire_324 : decode cX11_fire 324 = .ok (.iload_n 1, 1) := by decide +kernel
theorem dX11_fire_325 : decode cX11_fire 325 = .ok (.iaload, 1) := by decide +kernel
theorem dX11_fire_326 : decode cX11_fire 326 = .ok (.iastore, 1) := by decide +kernel
theorem dX11_fire_327 : decode cX11_fire 327 = .ok (.aload_n 0, 1) := by decide +kernel
theorem dX11_fire_328 : decode cX11_fire 328 = .ok (.getfield 63, 3) := by decide +kernel
theorem dX11_fire_331 : decode cX11_fire 331 = .ok (.iload_n 1, 1) := by decide +kernel
theorem dX11_fire_332 : decode cX11_fire 332 = .ok (.iconst 1, 1) := by decide +kernel
theorem dX11_fire_333 : decode cX11_fire 333 = .ok (.iadd, 1) := by decide +kernel
theorem dX11_fire_334 : decode cX11_fire 334 = .ok (.aload_n 0, 1) := by decide +kernel
theorem dX11_fire_335 : decode cX11_fire 335 = .ok (.getfield 99, 3) := by decide +kernel
theorem dX11_fire_338 : decode cX11_fire 338 = .ok (.iastore, 1) := by decide +kernel
theorem dX11_fire_339 : decode cX11_fire 339 = .ok (.return_, 1) := by decide +kernel
theorem dX11_oneCycle_0 : decode cX11_oneCycle 0 = .ok (.aload_n 0, 1) := by decide +kernel
theorem dX11_oneCycle_1 : decode cX11_oneCycle 1 = .ok (.dup, 1) := by decide +kernel
theorem dX11_oneCycle_2 : decode cX11_oneCycle 2 = .ok (.getfield 99, 3) := by decide +kernel
theorem dX11_oneCycle_5 : decode cX11_oneCycle 5 = .ok (.iconst 1, 1) := by decide +kernel
theorem dX11_oneCycle_6 : decode cX11_oneCycle 6 = .ok (.iadd, 1) := by decide +kernel
theorem dX11_oneCycle_7 : decode cX11_oneCycle 7 = .ok (.putfield 99, 3) := by decide +kernel
theorem dX11_oneCycle_10 : decode cX11_oneCycle 10 = .ok (.aload_n 0, 1) := by decide +kernel
theorem dX11_oneCycle_11 : decode cX11_oneCycle 11 = .ok (.iconst 0, 1) := by decide +kernel
theorem dX11_oneCycle_12 : decode cX11_oneCycle 12 = .ok (.putfield 140, 3) := by decide +kernel
theorem dX11_oneCycle_15 : decode cX11_oneCycle 15 = .ok (.aload_n 0, 1) := by decide +kernel
theorem dX11_oneCycle_16 : decode cX11_oneCycle 16 = .ok (.getfield 47, 3) := by decide +kernel
theorem dX11_oneCycle_19 : decode cX11_oneCycle 19 = .ok (.iconst 0, 1) := by decide +kernel
theorem dX11_oneCycle_20 : decode cX11_oneCycle 20 = .ok (.baload, 1) := by decide +kernel
theorem dX11_oneCycle_21 : decode cX11_oneCycle 21 = .ok (.ifCond .ne 65, 3) := by decide +kernel
theorem dX11_oneCycle_24 : decode cX11_oneCycle 24 = .ok (.aload_n 0, 1) := by decide +kernel
theorem dX11_oneCycle_25 : decode cX11_oneCycle 25 = .ok (.getfield 47, 3) := by decide +kernel
theorem dX11_oneCycle_28 : decode cX11_oneCycle 28 = .ok (.iconst 0, 1) := by decide +kernel
theorem dX11_oneCycle_29 : decode cX11_oneCycle 29 = .ok (.iconst 1, 1) := by decide +kernel
theorem dX11_oneCycle_30 : decode cX11_oneCycle 30 = .ok (.bastore, 1) := by decide +kernel
theorem dX11_oneCycle_31 : decode cX11_oneCycle 31 = .ok (.aload_n 0, 1) := by decide +kernel
theorem dX11_oneCycle_32 : decode cX11_oneCycle 32 = .ok (.getfield 44, 3) := by decide +kernel
theorem dX11_oneCycle_35 : decode cX11_oneCycle 35 = .ok (.iconst 0, 1) := by decide +kernel
theorem dX11_oneCycle_36 : decode cX11_oneCycle 36 = .ok (.aload_n 0, 1) := by decide +kernel
theorem dX11_oneCycle_37 : decode cX11_oneCycle 37 = .ok (.getfield 106, 3) := by decide +kernel
theorem dX11_oneCycle_40 : decode cX11_oneCycle 40 = .ok (.iastore, 1) := by decide +kernel
theorem dX11_oneCycle_41 : decode cX11_oneCycle 41 = .ok (.aload_n 0, 1) := by decide +kernel
theorem dX11_oneCycle_42 : decode cX11_oneCycle 42 = .ok (.dup, 1) := by decide +kernel
theorem dX11_oneCycle_43 : decode cX11_oneCycle 43 = .ok (.getfield 106, 3) := by decide +kernel
theorem dX11_oneCycle_46 : decode cX11_oneCycle 46 = .ok (.iconst 1, 1) := by decide +kernel
theorem dX11_oneCycle_47 : decode cX11_oneCycle 47 = .ok (.iadd, 1) := by decide +kernel
theorem dX11_oneCycle_48 : decode cX11_oneCycle 48 = .ok (.putfield 106, 3) := by decide +kernel
theorem dX11_oneCycle_51 : decode cX11_oneCycle 51 = .ok (.aload_n 0, 1) := by decide +kernel
theorem dX11_oneCycle_52 : decode cX11_oneCycle 52 = .ok (.getfield 51, 3) := by decide +kernel
theorem dX11_oneCycle_55 : decode cX11_oneCycle 55 = .ok (.iconst 0, 1) := by decide +kernel
theorem dX11_oneCycle_56 : decode cX11_oneCycle 56 = .ok (.iconst 0, 1) := by decide +kernel
theorem dX11_oneCycle_57 : decode cX11_oneCycle 57 = .ok (.iastore, 1) := by decide +kernel
theorem dX11_oneCycle_58 : decode cX11_oneCycle 58 = .ok (.aload_n 0, 1) := by decide +kernel
theorem dX11_oneCycle_59 : decode cX11_oneCycle 59 = .ok (.getfield 54, 3) := by decide +kernel
theorem dX11_oneCycle_62 : decode cX11_oneCycle 62 = .ok (.iconst 0, 1) := by decide +kernel
theorem dX11_oneCycle_63 : decode cX11_oneCycle 63 = .ok (.iconst 0, 1) := by decide +kernel
theorem dX11_oneCycle_64 : decode cX11_oneCycle 64 = .ok (.iastore, 1) := by decide +kernel
theorem dX11_oneCycle_65 : decode cX11_oneCycle 65 = .ok (.aload_n 0, 1) := by decide +kernel
theorem dX11_oneCycle_66 : decode cX11_oneCycle 66 = .ok (.getfield 57, 3) := by decide +kernel
theorem dX11_oneCycle_69 : decode cX11_oneCycle 69 = .ok (.iconst 0, 1) := by decide +kernel
theorem dX11_oneCycle_70 : decode cX11_oneCycle 70 = .ok (.iconst 0, 1) := by decide +kernel
theorem dX11_oneCycle_71 : decode cX11_oneCycle 71 = .ok (.iastore, 1) := by decide +kernel
theorem dX11_oneCycle_72 : decode cX11_oneCycle 72 = .ok (.aload_n 0, 1) := by decide +kernel
theorem dX11_oneCycle_73 : decode cX11_oneCycle 73 = .ok (.getfield 60, 3) := by decide +kernel
theorem dX11_oneCycle_76 : decode cX11_oneCycle 76 = .ok (.iconst 0, 1) := by decide +kernel
theorem dX11_oneCycle_77 : decode cX11_oneCycle 77 = .ok (.iconst 0, 1) := by decide +kernel
theorem dX11_oneCycle_78 : decode cX11_oneCycle 78 = .ok (.iastore, 1) := by decide +kernel
theorem dX11_oneCycle_79 : decode cX11_oneCycle 79 = .ok (.aload_n 0, 1) := by decide +kernel
theorem dX11_oneCycle_80 : decode cX11_oneCycle 80 = .ok (.getfield 63, 3) := by decide +kernel
theorem dX11_oneCycle_83 : decode cX11_oneCycle 83 = .ok (.iconst 0, 1) := by decide +kernel
theorem dX11_oneCycle_84 : decode cX11_oneCycle 84 = .ok (.iconst 0, 1) := by decide +kernel
theorem dX11_oneCycle_85 : decode cX11_oneCycle 85 = .ok (.iastore, 1) := by decide +kernel
theorem dX11_oneCycle_86 : decode cX11_oneCycle 86 = .ok (.aload_n 0, 1) := by decide +kernel
theorem dX11_oneCycle_87 : decode cX11_oneCycle 87 = .ok (.getfield 13, 3) := by decide +kernel
theorem dX11_oneCycle_90 : decode cX11_oneCycle 90 = .ok (.iconst 1, 1) := by decide +kernel
theorem dX11_oneCycle_91 : decode cX11_oneCycle 91 = .ok (.isub, 1) := by decide +kernel
theorem dX11_oneCycle_92 : decode cX11_oneCycle 92 = .ok (.istore_n 1, 1) := by decide +kernel
theorem dX11_oneCycle_93 : decode cX11_oneCycle 93 = .ok (.iload_n 1, 1) := by decide +kernel
theorem dX11_oneCycle_94 : decode cX11_oneCycle 94 = .ok (.ifCond .lt 31, 3) := by decide +kernel
theorem dX11_oneCycle_97 : decode cX11_oneCycle 97 = .ok (.aload_n 0, 1) := by decide +kernel
theorem dX11_oneCycle_98 : decode cX11_oneCycle 98 = .ok (.getfield 47, 3) := by decide +kernel
theorem dX11_oneCycle_101 : decode cX11_oneCycle 101 = .ok (.iload_n 1, 1) := by decide +kernel
theorem dX11_oneCycle_102 : decode cX11_oneCycle 102 = .ok (.baload, 1) := by decide +kernel
theorem dX11_oneCycle_103 : decode cX11_oneCycle 103 = .ok (.ifCond .eq 16, 3) := by decide +kernel
theorem dX11_oneCycle_106 : decode cX11_oneCycle 106 = .ok (.aload_n 0, 1) := by decide +kernel
theorem dX11_oneCycle_107 : decode cX11_oneCycle 107 = .ok (.iload_n 1, 1) := by decide +kernel
theorem dX11_oneCycle_108 : decode cX11_oneCycle 108 = .ok (.invokevirtual 172, 3) := by decide +kernel
theorem dX11_oneCycle_111 : decode cX11_oneCycle 111 = .ok (.ifCond .eq 8, 3) := by decide +kernel
theorem dX11_oneCycle_114 : decode cX11_oneCycle 114 = .ok (.aload_n 0, 1) := by decide +kernel
theorem dX11_oneCycle_115 : decode cX11_oneCycle 115 = .ok (.iload_n 1, 1) := by decide +kernel
theorem dX11_oneCycle_116 : decode cX11_oneCycle 116 = .ok (.invokevirtual 175, 3) := by decide +kernel
theorem dX11_oneCycle_119 : decode cX11_oneCycle 119 = .ok (.iinc 1 (-1), 3) := by decide +kernel
theorem dX11_oneCycle_122 : decode cX11_oneCycle 122 = .ok (.goto (-29), 3) := by decide +kernel
theorem dX11_oneCycle_125 : decode cX11_oneCycle 125 = .ok (.return_, 1) := by decide +kernel
theorem dX11_run_0 : decode cX11_run 0 = .ok (.iload_n 1, 1) := by decide +kernel
theorem dX11_run_1 : decode cX11_run 1 = .ok (.iconst 1, 1) := by decide +kernel
theorem dX11_run_2 : decode cX11_run 2 = .ok (.sipush 3000, 3) := by decide +kernel
theorem dX11_run_5 : decode cX11_run 5 = .ok (.invokestatic 115, 3) := by decide +kernel
theorem dX11_run_8 : decode cX11_run 8 = .ok (.ifCond .ne 5, 3) := by decide +kernel
theorem dX11_run_11 : decode cX11_run 11 = .ok (.iconst (-1), 1) := by decide +kernel
theorem dX11_run_12 : decode cX11_run 12 = .ok (.ireturn, 1) := by decide +kernel
theorem dX11_run_13 : decode cX11_run 13 = .ok (.iconst 0, 1) := by decide +kernel
theorem dX11_run_14 : decode cX11_run 14 = .ok (.istore_n 2, 1) := by decide +kernel
theorem dX11_run_15 : decode cX11_run 15 = .ok (.iload_n 2, 1) := by decide +kernel
theorem dX11_run_16 : decode cX11_run 16 = .ok (.iload_n 1, 1) := by decide +kernel
theorem dX11_run_17 : decode cX11_run 17 = .ok (.if_icmp .ge 20, 3) := by decide +kernel
theorem dX11_run_20 : decode cX11_run 20 = .ok (.aload_n 0, 1) := by decide +kernel
theorem dX11_run_21 : decode cX11_run 21 = .ok (.getfield 102, 3) := by decide +kernel
theorem dX11_run_24 : decode cX11_run 24 = .ok (.ifCond .ne 13, 3) := by decide +kernel
theorem dX11_run_27 : decode cX11_run 27 = .ok (.aload_n 0, 1) := by decide +kernel
theorem dX11_run_28 : decode cX11_run 28 = .ok (.invokevirtual 179, 3) := by decide +kernel
theorem dX11_run_31 : decode cX11_run 31 = .ok (.iinc 2 1, 3) := by decide +kernel
theorem dX11_run_34 : decode cX11_run 34 = .ok (.goto (-19), 3) := by decide +kernel
theorem dX11_run_37 : decode cX11_run 37 = .ok (.aload_n 0, 1) := by decide +kernel
theorem dX11_run_38 : decode cX11_run 38 = .ok (.getfield 99, 3) := by decide +kernel
theorem dX11_run_41 : decode cX11_run 41 = .ok (.ireturn, 1) := by decide +kernel
theorem dX11_cycle_0 : decode cX11_cycle 0 = .ok (.aload_n 0, 1) := by decide +kernel
theorem dX11_cycle_1 : decode cX11_cycle 1 = .ok (.getfield 99, 3) := by decide +kernel
theorem dX11_cycle_4 : decode cX11_cycle 4 = .ok (.ireturn, 1) := by decide +kernel
theorem dX11_ended_0 : decode cX11_ended 0 = .ok (.aload_n 0, 1) := by decide +kernel
theorem dX11_ended_1 : decode cX11_ended 1 = .ok (.getfield 102, 3) := by decide +kernel
theorem dX11_ended_4 : decode cX11_ended 4 = .ok (.ireturn, 1) := by decide +kernel
theorem dX11_commits_0 : decode cX11_commits 0 = .ok (.aload_n 0, 1) := by decide +kernel
theorem dX11_commits_1 : decode cX11_commits 1 = .ok (.getfield 112, 3) := by decide +kernel
theorem dX11_commits_4 : decode cX11_commits 4 = .ok (.ireturn, 1) := by decide +kernel
theorem dX11_commit_0 : decode cX11_commit 0 = .ok (.iload_n 1, 1) := by decide +kernel
theorem dX11_commit_1 : decode cX11_commit 1 = .ok (.ifCond .lt 27, 3) := by decide +kernel
theorem dX11_commit_4 : decode cX11_commit 4 = .ok (.iload_n 1, 1) := by decide +kernel
theorem dX11_commit_5 : decode cX11_commit 5 = .ok (.aload_n 0, 1) := by decide +kernel
theorem dX11_commit_6 : decode cX11_commit 6 = .ok (.getfield 112, 3) := by decide +kernel
theorem dX11_commit_9 : decode cX11_commit 9 = .ok (.if_icmp .ge 19, 3) := by decide +kernel
theorem dX11_commit_12 : decode cX11_commit 12 = .ok (.iload_n 1, 1) := by decide +kernel
theorem dX11_commit_13 : decode cX11_commit 13 = .ok (.sipush 1000, 3) := by decide +kernel
theorem dX11_commit_16 : decode cX11_commit 16 = .ok (.if_icmp .ge 12, 3) := by decide +kernel
theorem dX11_commit_19 : decode cX11_commit 19 = .ok (.iload_n 2, 1) := by decide +kernel
theorem dX11_commit_20 : decode cX11_commit 20 = .ok (.iconst 0, 1) := by decide +kernel
theorem dX11_commit_21 : decode cX11_commit 21 = .ok (.iconst 3, 1) := by decide +kernel
theorem dX11_commit_22 : decode cX11_commit 22 = .ok (.invokestatic 115, 3) := by decide +kernel
theorem dX11_commit_25 : decode cX11_commit 25 = .ok (.ifCond .ne 6, 3) := by decide +kernel
theorem dX11_commit_28 : decode cX11_commit 28 = .ok (.bipush (-2), 2) := by decide +kernel
theorem dX11_commit_30 : decode cX11_commit 30 = .ok (.ireturn, 1) := by decide +kernel
theorem dX11_commit_31 : decode cX11_commit 31 = .ok (.iload_n 2, 1) := by decide +kernel
theorem dX11_commit_32 : decode cX11_commit 32 = .ok (.ifCond .ne 12, 3) := by decide +kernel
theorem dX11_commit_35 : decode cX11_commit 35 = .ok (.aload_n 0, 1) := by decide +kernel
theorem dX11_commit_36 : decode cX11_commit 36 = .ok (.getfield 75, 3) := by decide +kernel
theorem dX11_commit_39 : decode cX11_commit 39 = .ok (.iload_n 1, 1) := by decide +kernel
theorem dX11_commit_40 : decode cX11_commit 40 = .ok (.iaload, 1) := by decide +kernel
theorem dX11_commit_41 : decode cX11_commit 41 = .ok (.goto 37, 3) := by decide +kernel
theorem dX11_commit_44 : decode cX11_commit 44 = .ok (.iload_n 2, 1) := by decide +kernel
theorem dX11_commit_45 : decode cX11_commit 45 = .ok (.iconst 1, 1) := by decide +kernel
theorem dX11_commit_46 : decode cX11_commit 46 = .ok (.if_icmp .ne 12, 3) := by decide +kernel
theorem dX11_commit_49 : decode cX11_commit 49 = .ok (.aload_n 0, 1) := by decide +kernel
theorem dX11_commit_50 : decode cX11_commit 50 = .ok (.getfield 78, 3) := by decide +kernel
theorem dX11_commit_53 : decode cX11_commit 53 = .ok (.iload_n 1, 1) := by decide +kernel
theorem dX11_commit_54 : decode cX11_commit 54 = .ok (.iaload, 1) := by decide +kernel
theorem dX11_commit_55 : decode cX11_commit 55 = .ok (.goto 23, 3) := by decide +kernel
theorem dX11_commit_58 : decode cX11_commit 58 = .ok (.iload_n 2, 1) := by decide +kernel
theorem dX11_commit_59 : decode cX11_commit 59 = .ok (.iconst 2, 1) := by decide +kernel
theorem dX11_commit_60 : decode cX11_commit 60 = .ok (.if_icmp .ne 12, 3) := by decide +kernel
theorem dX11_commit_63 : decode cX11_commit 63 = .ok (.aload_n 0, 1) := by decide +kernel
theorem dX11_commit_64 : decode cX11_commit 64 = .ok (.getfield 81, 3) := by decide +kernel
theorem dX11_commit_67 : decode cX11_commit 67 = .ok (.iload_n 1, 1) := by decide +kernel
theorem dX11_commit_68 : decode cX11_commit 68 = .ok (.iaload, 1) := by decide +kernel
theorem dX11_commit_69 : decode cX11_commit 69 = .ok (.goto 9, 3) := by decide +kernel
theorem dX11_commit_72 : decode cX11_commit 72 = .ok (.aload_n 0, 1) := by decide +kernel
theorem dX11_commit_73 : decode cX11_commit 73 = .ok (.getfield 84, 3) := by decide +kernel
theorem dX11_commit_76 : decode cX11_commit 76 = .ok (.iload_n 1, 1) := by decide +kernel
theorem dX11_commit_77 : decode cX11_commit 77 = .ok (.iaload, 1) := by decide +kernel
theorem dX11_commit_78 : decode cX11_commit 78 = .ok (.ireturn, 1) := by decide +kernel
theorem dX11_register_0 : decode cX11_register 0 = .ok (.iload_n 1, 1) := by decide +kernel
theorem dX11_register_1 : decode cX11_register 1 = .ok (.iconst 0, 1) := by decide +kernel
theorem dX11_register_2 : decode cX11_register 2 = .ok (.bipush 7, 2) := by decide +kernel
theorem dX11_register_4 : decode cX11_register 4 = .ok (.invokestatic 115, 3) := by decide +kernel
theorem dX11_register_7 : decode cX11_register 7 = .ok (.ifCond .eq 12, 3) := by decide +kernel
theorem dX11_register_10 : decode cX11_register 10 = .ok (.aload_n 0, 1) := by decide +kernel
theorem dX11_register_11 : decode cX11_register 11 = .ok (.getfield 66, 3) := by decide +kernel
theorem dX11_register_14 : decode cX11_register 14 = .ok (.iload_n 1, 1) := by decide +kernel
theorem dX11_register_15 : decode cX11_register 15 = .ok (.iaload, 1) := by decide +kernel
theorem dX11_register_16 : decode cX11_register 16 = .ok (.goto 4, 3) := by decide +kernel
theorem dX11_register_19 : decode cX11_register 19 = .ok (.iconst (-1), 1) := by decide +kernel
theorem dX11_register_20 : decode cX11_register 20 = .ok (.ireturn, 1) := by decide +kernel
theorem dX11_place_0 : decode cX11_place 0 = .ok (.iload_n 1, 1) := by decide +kernel
theorem dX11_place_1 : decode cX11_place 1 = .ok (.iconst 0, 1) := by decide +kernel
theorem dX11_place_2 : decode cX11_place 2 = .ok (.bipush 63, 2) := by decide +kernel
theorem dX11_place_4 : decode cX11_place 4 = .ok (.invokestatic 115, 3) := by decide +kernel
theorem dX11_place_7 : decode cX11_place 7 = .ok (.ifCond .eq 12, 3) := by decide +kernel
theorem dX11_place_10 : decode cX11_place 10 = .ok (.aload_n 0, 1) := by decide +kernel
theorem dX11_place_11 : decode cX11_place 11 = .ok (.getfield 72, 3) := by decide +kernel
theorem dX11_place_14 : decode cX11_place 14 = .ok (.iload_n 1, 1) := by decide +kernel
theorem dX11_place_15 : decode cX11_place 15 = .ok (.iaload, 1) := by decide +kernel
theorem dX11_place_16 : decode cX11_place 16 = .ok (.goto 4, 3) := by decide +kernel
theorem dX11_place_19 : decode cX11_place 19 = .ok (.iconst (-1), 1) := by decide +kernel
theorem dX11_place_20 : decode cX11_place 20 = .ok (.ireturn, 1) := by decide +kernel
theorem dX11_retired_0 : decode cX11_retired 0 = .ok (.aload_n 0, 1) := by decide +kernel
theorem dX11_retired_1 : decode cX11_retired 1 = .ok (.getfield 109, 3) := by decide +kernel
theorem dX11_retired_4 : decode cX11_retired 4 = .ok (.ireturn, 1) := by decide +kernel
theorem dX11_faithful_0 : decode cX11_faithful 0 = .ok (.iconst 0, 1) := by decide +kernel
theorem dX11_faithful_1 : decode cX11_faithful 1 = .ok (.istore_n 1, 1) := by decide +kernel
theorem dX11_faithful_2 : decode cX11_faithful 2 = .ok (.iload_n 1, 1) := by decide +kernel
theorem dX11_faithful_3 : decode cX11_faithful 3 = .ok (.bipush 8, 2) := by decide +kernel
theorem dX11_faithful_5 : decode cX11_faithful 5 = .ok (.if_icmp .ge 16, 3) := by decide +kernel
theorem dX11_faithful_8 : decode cX11_faithful 8 = .ok (.aload_n 0, 1) := by decide +kernel
theorem dX11_faithful_9 : decode cX11_faithful 9 = .ok (.getfield 90, 3) := by decide +kernel
theorem dX11_faithful_12 : decode cX11_faithful 12 = .ok (.iload_n 1, 1) := by decide +kernel
theorem dX11_faithful_13 : decode cX11_faithful 13 = .ok (.iconst 0, 1) := by decide +kernel
theorem dX11_faithful_14 : decode cX11_faithful 14 = .ok (.iastore, 1) := by decide +kernel
theorem dX11_faithful_15 : decode cX11_faithful 15 = .ok (.iinc 1 1, 3) := by decide +kernel
theorem dX11_faithful_18 : decode cX11_faithful 18 = .ok (.goto (-16), 3) := by decide +kernel
theorem dX11_faithful_21 : decode cX11_faithful 21 = .ok (.iconst 0, 1) := by decide +kernel
theorem dX11_faithful_22 : decode cX11_faithful 22 = .ok (.istore_n 1, 1) := by decide +kernel
theorem dX11_faithful_23 : decode cX11_faithful 23 = .ok (.iload_n 1, 1) := by decide +kernel
theorem dX11_faithful_24 : decode cX11_faithful 24 = .ok (.bipush 64, 2) := by decide +kernel
theorem dX11_faithful_26 : decode cX11_faithful 26 = .ok (.if_icmp .ge 21, 3) := by decide +kernel
theorem dX11_faithful_29 : decode cX11_faithful 29 = .ok (.aload_n 0, 1) := by decide +kernel
theorem dX11_faithful_30 : decode cX11_faithful 30 = .ok (.getfield 93, 3) := by decide +kernel
theorem dX11_faithful_33 : decode cX11_faithful 33 = .ok (.iload_n 1, 1) := by decide +kernel
theorem dX11_faithful_34 : decode cX11_faithful 34 = .ok (.aload_n 0, 1) := by decide +kernel
theorem dX11_faithful_35 : decode cX11_faithful 35 = .ok (.getfield 38, 3) := by decide +kernel
theorem dX11_faithful_38 : decode cX11_faithful 38 = .ok (.iload_n 1, 1) := by decide +kernel
theorem dX11_faithful_39 : decode cX11_faithful 39 = .ok (.iaload, 1) := by decide +kernel
theorem dX11_faithful_40 : decode cX11_faithful 40 = .ok (.iastore, 1) := by decide +kernel
theorem dX11_faithful_41 : decode cX11_faithful 41 = .ok (.iinc 1 1, 3) := by decide +kernel
theorem dX11_faithful_44 : decode cX11_faithful 44 = .ok (.goto (-21), 3) := by decide +kernel
theorem dX11_faithful_47 : decode cX11_faithful 47 = .ok (.iconst 0, 1) := by decide +kernel
theorem dX11_faithful_48 : decode cX11_faithful 48 = .ok (.istore_n 1, 1) := by decide +kernel
theorem dX11_faithful_49 : decode cX11_faithful 49 = .ok (.iconst 0, 1) := by decide +kernel
theorem dX11_faithful_50 : decode cX11_faithful 50 = .ok (.istore_n 2, 1) := by decide +kernel
theorem dX11_faithful_51 : decode cX11_faithful 51 = .ok (.iconst 1, 1) := by decide +kernel
theorem dX11_faithful_52 : decode cX11_faithful 52 = .ok (.istore_n 3, 1) := by decide +kernel
theorem dX11_faithful_53 : decode cX11_faithful 53 = .ok (.iconst 0, 1) := by decide +kernel
theorem dX11_faithful_54 : decode cX11_faithful 54 = .ok (.istore 4, 2) := by decide +kernel
theorem dX11_faithful_56 : decode cX11_faithful 56 = .ok (.iload 4, 2) := by decide +kernel
theorem dX11_faithful_58 : decode cX11_faithful 58 = .ok (.aload_n 0, 1) := by decide +kernel
theorem dX11_faithful_59 : decode cX11_faithful 59 = .ok (.getfield 109, 3) := by decide +kernel
theorem dX11_faithful_62 : decode cX11_faithful 62 = .ok (.if_icmp .ge 357, 3) := by decide +kernel
theorem dX11_faithful_65 : decode cX11_faithful 65 = .ok (.iload_n 3, 1) := by decide +kernel
theorem dX11_faithful_66 : decode cX11_faithful 66 = .ok (.ifCond .eq 353, 3) := by decide +kernel
theorem dX11_faithful_69 : decode cX11_faithful 69 = .ok (.aload_n 0, 1) := by decide +kernel
theorem dX11_faithful_70 : decode cX11_faithful 70 = .ok (.iload_n 1, 1) := by decide +kernel
theorem dX11_faithful_71 : decode cX11_faithful 71 = .ok (.invokevirtual 129, 3) := by decide +kernel
theorem dX11_faithful_74 : decode cX11_faithful 74 = .ok (.istore 5, 2) := by decide +kernel
theorem dX11_faithful_76 : decode cX11_faithful 76 = .ok (.iload 5, 2) := by decide +kernel
theorem dX11_faithful_78 : decode cX11_faithful 78 = .ok (.ifCond .ne 6, 3) := by decide +kernel
theorem dX11_faithful_81 : decode cX11_faithful 81 = .ok (.goto 338, 3) := by decide +kernel
theorem dX11_faithful_84 : decode cX11_faithful 84 = .ok (.aload_n 0, 1) := by decide +kernel
theorem dX11_faithful_85 : decode cX11_faithful 85 = .ok (.getfield 90, 3) := by decide +kernel
theorem dX11_faithful_88 : decode cX11_faithful 88 = .ok (.aload_n 0, 1) := by decide +kernel
theorem dX11_faithful_89 : decode cX11_faithful 89 = .ok (.getfield 29, 3) := by decide +kernel
theorem dX11_faithful_92 : decode cX11_faithful 92 = .ok (.iload_n 1, 1) := by decide +kernel
theorem dX11_faithful_93 : decode cX11_faithful 93 = .ok (.iaload, 1) := by decide +kernel
theorem dX11_faithful_94 : decode cX11_faithful 94 = .ok (.iaload, 1) := by decide +kernel
theorem dX11_faithful_95 : decode cX11_faithful 95 = .ok (.istore 6, 2) := by decide +kernel
theorem dX11_faithful_97 : decode cX11_faithful 97 = .ok (.aload_n 0, 1) := by decide +kernel
theorem dX11_faithful_98 : decode cX11_faithful 98 = .ok (.getfield 90, 3) := by decide +kernel
theorem dX11_faithful_101 : decode cX11_faithful 101 = .ok (.aload_n 0, 1) := by decide +kernel
theorem dX11_faithful_102 : decode cX11_faithful 102 = .ok (.getfield 32, 3) := by decide +kernel
theorem dX11_faithful_105 : decode cX11_faithful 105 = .ok (.iload_n 1, 1) := by decide +kernel
theorem dX11_faithful_106 : decode cX11_faithful 106 = .ok (.iaload, 1) := by decide +kernel
theorem dX11_faithful_107 : decode cX11_faithful 107 = .ok (.iaload, 1) := by decide +kernel
theorem dX11_faithful_108 : decode cX11_faithful 108 = .ok (.istore 7, 2) := by decide +kernel
theorem dX11_faithful_110 : decode cX11_faithful 110 = .ok (.iload 6, 2) := by decide +kernel
theorem dX11_faithful_112 : decode cX11_faithful 112 = .ok (.aload_n 0, 1) := by decide +kernel
theorem dX11_faithful_113 : decode cX11_faithful 113 = .ok (.getfield 35, 3) := by decide +kernel
theorem dX11_faithful_116 : decode cX11_faithful 116 = .ok (.iload_n 1, 1) := by decide +kernel
theorem dX11_faithful_117 : decode cX11_faithful 117 = .ok (.iaload, 1) := by decide +kernel
theorem dX11_faithful_118 : decode cX11_faithful 118 = .ok (.iadd, 1) := by decide +kernel
theorem dX11_faithful_119 : decode cX11_faithful 119 = .ok (.bipush 63, 2) := by decide +kernel
theorem dX11_faithful_121 : decode cX11_faithful 121 = .ok (.iand, 1) := by decide +kernel
theorem dX11_faithful_122 : decode cX11_faithful 122 = .ok (.istore 8, 2) := by decide +kernel
theorem dX11_faithful_124 : decode cX11_faithful 124 = .ok (.iload 5, 2) := by decide +kernel
theorem dX11_faithful_126 : decode cX11_faithful 126 = .ok (.iconst 1, 1) := by decide +kernel
theorem dX11_faithful_127 : decode cX11_faithful 127 = .ok (.if_icmp .ne 12, 3) := by decide +kernel
theorem dX11_faithful_130 : decode cX11_faithful 130 = .ok (.aload_n 0, 1) := by decide +kernel
theorem dX11_faithful_131 : decode cX11_faithful 131 = .ok (.getfield 35, 3) := by decide +kernel
theorem dX11_faithful_134 : decode cX11_faithful 134 = .ok (.iload_n 1, 1) := by decide +kernel
theorem dX11_faithful_135 : decode cX11_faithful 135 = .ok (.iaload, 1) := by decide +kernel
theorem dX11_faithful_136 : decode cX11_faithful 136 = .ok (.goto 75, 3) := by decide +kernel
theorem dX11_faithful_139 : decode cX11_faithful 139 = .ok (.iload 5, 2) := by decide +kernel
theorem dX11_faithful_141 : decode cX11_faithful 141 = .ok (.iconst 2, 1) := by decide +kernel
theorem dX11_faithful_142 : decode cX11_faithful 142 = .ok (.if_icmp .ne 11, 3) := by decide +kernel
theorem dX11_faithful_145 : decode cX11_faithful 145 = .ok (.iload 6, 2) := by decide +kernel
theorem dX11_faithful_147 : decode cX11_faithful 147 = .ok (.iload 7, 2) := by decide +kernel
theorem dX11_faithful_149 : decode cX11_faithful 149 = .ok (.iadd, 1) := by decide +kernel
theorem dX11_faithful_150 : decode cX11_faithful 150 = .ok (.goto 61, 3) := by decide +kernel
theorem dX11_faithful_153 : decode cX11_faithful 153 = .ok (.iload 5, 2) := by decide +kernel
theorem dX11_faithful_155 : decode cX11_faithful 155 = .ok (.iconst 3, 1) := by decide +kernel
theorem dX11_faithful_156 : decode cX11_faithful 156 = .ok (.if_icmp .ne 11, 3) := by decide +kernel
theorem dX11_faithful_159 : decode cX11_faithful 159 = .ok (.iload 6, 2) := by decide +kernel
theorem dX11_faithful_161 : decode cX11_faithful 161 = .ok (.iload 7, 2) := by decide +kernel
theorem dX11_faithful_163 : decode cX11_faithful 163 = .ok (.isub, 1) := by decide +kernel
theorem dX11_faithful_164 : decode cX11_faithful 164 = .ok (.goto 47, 3) := by decide +kernel
theorem dX11_faithful_167 : decode cX11_faithful 167 = .ok (.iload 5, 2) := by decide +kernel
theorem dX11_faithful_169 : decode cX11_faithful 169 = .ok (.iconst 4, 1) := by decide +kernel
theorem dX11_faithful_170 : decode cX11_faithful 170 = .ok (.if_icmp .ne 11, 3) := by decide +kernel
theorem dX11_faithful_173 : decode cX11_faithful 173 = .ok (.iload 6, 2) := by decide +kernel
theorem dX11_faithful_175 : decode cX11_faithful 175 = .ok (.iload 7, 2) := by decide +kernel
theorem dX11_faithful_177 : decode cX11_faithful 177 = .ok (.imul, 1) := by decide +kernel
theorem dX11_faithful_178 : decode cX11_faithful 178 = .ok (.goto 33, 3) := by decide +kernel
theorem dX11_faithful_181 : decode cX11_faithful 181 = .ok (.iload 5, 2) := by decide +kernel
theorem dX11_faithful_183 : decode cX11_faithful 183 = .ok (.iconst 5, 1) := by decide +kernel
theorem dX11_faithful_184 : decode cX11_faithful 184 = .ok (.if_icmp .ne 13, 3) := by decide +kernel
theorem dX11_faithful_187 : decode cX11_faithful 187 = .ok (.aload_n 0, 1) := by decide +kernel
theorem dX11_faithful_188 : decode cX11_faithful 188 = .ok (.getfield 93, 3) := by decide +kernel
theorem dX11_faithful_191 : decode cX11_faithful 191 = .ok (.iload 8, 2) := by decide +kernel
theorem dX11_faithful_193 : decode cX11_faithful 193 = .ok (.iaload, 1) := by decide +kernel
theorem dX11_faithful_194 : decode cX11_faithful 194 = .ok (.goto 17, 3) := by decide +kernel
theorem dX11_faithful_197 : decode cX11_faithful 197 = .ok (.iload 5, 2) := by decide +kernel
theorem dX11_faithful_199 : decode cX11_faithful 199 = .ok (.bipush 6, 2) := by decide +kernel
theorem dX11_faithful_201 : decode cX11_faithful 201 = .ok (.if_icmp .ne 8, 3) := by decide +kernel
theorem dX11_faithful_204 : decode cX11_faithful 204 = .ok (.iload 7, 2) := by decide +kernel
theorem dX11_faithful_206 : decode cX11_faithful 206 = .ok (.goto 5, 3) := by decide +kernel
theorem dX11_faithful_209 : decode cX11_faithful 209 = .ok (.iload 6, 2) := by decide +kernel
theorem dX11_faithful_211 : decode cX11_faithful 211 = .ok (.istore 9, 2) := by decide +kernel
theorem dX11_faithful_213 : decode cX11_faithful 213 = .ok (.iload 5, 2) := by decide +kernel
theorem dX11_faithful_215 : decode cX11_faithful 215 = .ok (.bipush 6, 2) := by decide +kernel
theorem dX11_faithful_217 : decode cX11_faithful 217 = .ok (.if_icmp .ge 7, 3) := by decide +kernel
theorem dX11_faithful_220 : decode cX11_faithful 220 = .ok (.iconst 0, 1) := by decide +kernel
theorem dX11_faithful_221 : decode cX11_faithful 221 = .ok (.goto 15, 3) := by decide +kernel
theorem dX11_faithful_224 : decode cX11_faithful 224 = .ok (.iload 5, 2) := by decide +kernel
theorem dX11_faithful_226 : decode cX11_faithful 226 = .ok (.bipush 6, 2) := by decide +kernel
theorem dX11_faithful_228 : decode cX11_faithful 228 = .ok (.if_icmp .ne 7, 3) := by decide +kernel
theorem dX11_faithful_231 : decode cX11_faithful 231 = .ok (.iconst 1, 1) := by decide +kernel
theorem dX11_faithful_232 : decode cX11_faithful 232 = .ok (.goto 4, 3) := by decide +kernel
theorem dX11_faithful_235 : decode cX11_faithful 235 = .ok (.iconst 2, 1) := by decide +kernel
theorem dX11_faithful_236 : decode cX11_faithful 236 = .ok (.istore 10, 2) := by decide +kernel
theorem dX11_faithful_238 : decode cX11_faithful 238 = .ok (.iload 5, 2) := by decide +kernel
theorem dX11_faithful_240 : decode cX11_faithful 240 = .ok (.bipush 6, 2) := by decide +kernel
theorem dX11_faithful_242 : decode cX11_faithful 242 = .ok (.if_icmp .ge 12, 3) := by decide +kernel
theorem dX11_faithful_245 : decode cX11_faithful 245 = .ok (.aload_n 0, 1) := by decide +kernel
theorem dX11_faithful_246 : decode cX11_faithful 246 = .ok (.getfield 26, 3) := by decide +kernel
theorem dX11_faithful_249 : decode cX11_faithful 249 = .ok (.iload_n 1, 1) := by decide +kernel
theorem dX11_faithful_250 : decode cX11_faithful 250 = .ok (.iaload, 1) := by decide +kernel
theorem dX11_faithful_251 : decode cX11_faithful 251 = .ok (.goto 16, 3) := by decide +kernel
theorem dX11_faithful_254 : decode cX11_faithful 254 = .ok (.iload 5, 2) := by decide +kernel
theorem dX11_faithful_256 : decode cX11_faithful 256 = .ok (.bipush 6, 2) := by decide +kernel
theorem dX11_faithful_258 : decode cX11_faithful 258 = .ok (.if_icmp .ne 8, 3) := by decide +kernel
theorem dX11_faithful_261 : decode cX11_faithful 261 = .ok (.iload 8, 2) := by decide +kernel
theorem dX11_faithful_263 : decode cX11_faithful 263 = .ok (.goto 4, 3) := by decide +kernel
theorem dX11_faithful_266 : decode cX11_faithful 266 = .ok (.iconst 0, 1) := by decide +kernel
theorem dX11_faithful_267 : decode cX11_faithful 267 = .ok (.istore 11, 2) := by decide +kernel
theorem dX11_faithful_269 : decode cX11_faithful 269 = .ok (.iload 5, 2) := by decide +kernel
theorem dX11_faithful_271 : decode cX11_faithful 271 = .ok (.bipush 7, 2) := by decide +kernel
theorem dX11_faithful_273 : decode cX11_faithful 273 = .ok (.if_icmp .eq 67, 3) := by decide +kernel
theorem dX11_faithful_276 : decode cX11_faithful 276 = .ok (.iload 5, 2) := by decide +kernel
theorem dX11_faithful_278 : decode cX11_faithful 278 = .ok (.bipush 9, 2) := by decide +kernel
theorem dX11_faithful_280 : decode cX11_faithful 280 = .ok (.if_icmp .eq 60, 3) := by decide +kernel
theorem dX11_faithful_283 : decode cX11_faithful 283 = .ok (.iload_n 2, 1) := by decide +kernel
theorem dX11_faithful_284 : decode cX11_faithful 284 = .ok (.aload_n 0, 1) := by decide +kernel
theorem dX11_faithful_285 : decode cX11_faithful 285 = .ok (.getfield 112, 3) := by decide +kernel
theorem dX11_faithful_288 : decode cX11_faithful 288 = .ok (.if_icmp .ge 47, 3) := by decide +kernel
theorem dX11_faithful_291 : decode cX11_faithful 291 = .ok (.iload_n 2, 1) := by decide +kernel
theorem dX11_faithful_292 : decode cX11_faithful 292 = .ok (.sipush 1000, 3) := by decide +kernel
theorem dX11_faithful_295 : decode cX11_faithful 295 = .ok (.if_icmp .ge 36, 3) := by decide +kernel
theorem dX11_faithful_298 : decode cX11_faithful 298 = .ok (.aload_n 0, 1) := by decide +kernel
theorem dX11_faithful_299 : decode cX11_faithful 299 = .ok (.getfield 75, 3) := by decide +kernel
theorem dX11_faithful_302 : decode cX11_faithful 302 = .ok (.iload_n 2, 1) := by decide +kernel
theorem dX11_faithful_303 : decode cX11_faithful 303 = .ok (.iaload, 1) := by decide +kernel
theorem dX11_faithful_304 : decode cX11_faithful 304 = .ok (.iload 10, 2) := by decide +kernel
theorem dX11_faithful_306 : decode cX11_faithful 306 = .ok (.if_icmp .ne 29, 3) := by decide +kernel
theorem dX11_faithful_309 : decode cX11_faithful 309 = .ok (.aload_n 0, 1) := by decide +kernel
theorem dX11_faithful_310 : decode cX11_faithful 310 = .ok (.getfield 78, 3) := by decide +kernel
theorem dX11_faithful_313 : decode cX11_faithful 313 = .ok (.iload_n 2, 1) := by decide +kernel
theorem dX11_faithful_314 : decode cX11_faithful 314 = .ok (.iaload, 1) := by decide +kernel
theorem dX11_faithful_315 : decode cX11_faithful 315 = .ok (.iload 11, 2) := by decide +kernel
theorem dX11_faithful_317 : decode cX11_faithful 317 = .ok (.if_icmp .ne 18, 3) := by decide +kernel
theorem dX11_faithful_320 : decode cX11_faithful 320 = .ok (.aload_n 0, 1) := by decide +kernel
theorem dX11_faithful_321 : decode cX11_faithful 321 = .ok (.getfield 81, 3) := by decide +kernel
theorem dX11_faithful_324 : decode cX11_faithful 324 = .ok (.iload_n 2, 1) := by decide +kernel
theorem dX11_faithful_325 : decode cX11_faithful 325 = .ok (.iaload, 1) := by decide +kernel
theorem dX11_faithful_326 : decode cX11_faithful 326 = .ok (.iload 9, 2) := by decide +kernel
theorem dX11_faithful_328 : decode cX11_faithful 328 = .ok (.if_icmp .ne 7, 3) := by decide +kernel
theorem dX11_faithful_331 : decode cX11_faithful 331 = .ok (.iconst 1, 1) := by decide +kernel
theorem dX11_faithful_332 : decode cX11_faithful 332 = .ok (.goto 4, 3) := by decide +kernel
theorem dX11_faithful_335 : decode cX11_faithful 335 = .ok (.iconst 0, 1) := by decide +kernel
theorem dX11_faithful_336 : decode cX11_faithful 336 = .ok (.istore_n 3, 1) := by decide +kernel
theorem dX11_faithful_337 : decode cX11_faithful 337 = .ok (.iinc 2 1, 3) := by decide +kernel
theorem dX11_faithful_340 : decode cX11_faithful 340 = .ok (.iload 5, 2) := by decide +kernel
theorem dX11_faithful_342 : decode cX11_faithful 342 = .ok (.bipush 6, 2) := by decide +kernel
theorem dX11_faithful_344 : decode cX11_faithful 344 = .ok (.if_icmp .ge 19, 3) := by decide +kernel
theorem dX11_faithful_347 : decode cX11_faithful 347 = .ok (.aload_n 0, 1) := by decide +kernel
theorem dX11_faithful_348 : decode cX11_faithful 348 = .ok (.getfield 90, 3) := by decide +kernel
theorem dX11_faithful_351 : decode cX11_faithful 351 = .ok (.aload_n 0, 1) := by decide +kernel
theorem dX11_faithful_352 : decode cX11_faithful 352 = .ok (.getfield 26, 3) := by decide +kernel
theorem dX11_faithful_355 : decode cX11_faithful 355 = .ok (.iload_n 1, 1) := by decide +kernel
theorem dX11_faithful_356 : decode cX11_faithful 356 = .ok (.iaload, 1) := by decide +kernel
theorem dX11_faithful_357 : decode cX11_faithful 357 = .ok (.iload 9, 2) := by decide +kernel
theorem dX11_faithful_359 : decode cX11_faithful 359 = .ok (.iastore, 1) := by decide +kernel
theorem dX11_faithful_360 : decode cX11_faithful 360 = .ok (.goto 19, 3) := by decide +kernel
theorem dX11_faithful_363 : decode cX11_faithful 363 = .ok (.iload 5, 2) := by decide +kernel
theorem dX11_faithful_365 : decode cX11_faithful 365 = .ok (.bipush 6, 2) := by decide +kernel
theorem dX11_faithful_367 : decode cX11_faithful 367 = .ok (.if_icmp .ne 12, 3) := by decide +kernel
theorem dX11_faithful_370 : decode cX11_faithful 370 = .ok (.aload_n 0, 1) := by decide +kernel
theorem dX11_faithful_371 : decode cX11_faithful 371 = .ok (.getfield 93, 3) := by decide +kernel
theorem dX11_faithful_374 : decode cX11_faithful 374 = .ok (.iload 8, 2) := by decide +kernel
theorem dX11_faithful_376 : decode cX11_faithful 376 = .ok (.iload 9, 2) := by decide +kernel
theorem dX11_faithful_378 : decode cX11_faithful 378 = .ok (.iastore, 1) := by decide +kernel
theorem dX11_faithful_379 : decode cX11_faithful 379 = .ok (.iload 5, 2) := by decide +kernel
theorem dX11_faithful_381 : decode cX11_faithful 381 = .ok (.bipush 9, 2) := by decide +kernel
theorem dX11_faithful_383 : decode cX11_faithful 383 = .ok (.if_icmp .eq 17, 3) := by decide +kernel
theorem dX11_faithful_386 : decode cX11_faithful 386 = .ok (.iload 5, 2) := by decide +kernel
theorem dX11_faithful_388 : decode cX11_faithful 388 = .ok (.bipush 7, 2) := by decide +kernel
theorem dX11_faithful_390 : decode cX11_faithful 390 = .ok (.if_icmp .ne 19, 3) := by decide +kernel
theorem dX11_faithful_393 : decode cX11_faithful 393 = .ok (.iload 6, 2) := by decide +kernel
theorem dX11_faithful_395 : decode cX11_faithful 395 = .ok (.iload 7, 2) := by decide +kernel
theorem dX11_faithful_397 : decode cX11_faithful 397 = .ok (.if_icmp .ne 12, 3) := by decide +kernel
theorem dX11_faithful_400 : decode cX11_faithful 400 = .ok (.aload_n 0, 1) := by decide +kernel
theorem dX11_faithful_401 : decode cX11_faithful 401 = .ok (.getfield 35, 3) := by decide +kernel
theorem dX11_faithful_404 : decode cX11_faithful 404 = .ok (.iload_n 1, 1) := by decide +kernel
theorem dX11_faithful_405 : decode cX11_faithful 405 = .ok (.iaload, 1) := by decide +kernel
theorem dX11_faithful_406 : decode cX11_faithful 406 = .ok (.goto 6, 3) := by decide +kernel
theorem dX11_faithful_409 : decode cX11_faithful 409 = .ok (.iload_n 1, 1) := by decide +kernel
theorem dX11_faithful_410 : decode cX11_faithful 410 = .ok (.iconst 1, 1) := by decide +kernel
theorem dX11_faithful_411 : decode cX11_faithful 411 = .ok (.iadd, 1) := by decide +kernel
theorem dX11_faithful_412 : decode cX11_faithful 412 = .ok (.istore_n 1, 1) := by decide +kernel
theorem dX11_faithful_413 : decode cX11_faithful 413 = .ok (.iinc 4 1, 3) := by decide +kernel
theorem dX11_faithful_416 : decode cX11_faithful 416 = .ok (.goto (-360), 3) := by decide +kernel
theorem dX11_faithful_419 : decode cX11_faithful 419 = .ok (.iload_n 3, 1) := by decide +kernel
theorem dX11_faithful_420 : decode cX11_faithful 420 = .ok (.ifCond .eq 15, 3) := by decide +kernel
theorem dX11_faithful_423 : decode cX11_faithful 423 = .ok (.iload_n 2, 1) := by decide +kernel
theorem dX11_faithful_424 : decode cX11_faithful 424 = .ok (.aload_n 0, 1) := by decide +kernel
theorem dX11_faithful_425 : decode cX11_faithful 425 = .ok (.getfield 112, 3) := by decide +kernel
theorem dX11_faithful_428 : decode cX11_faithful 428 = .ok (.if_icmp .ne 7, 3) := by decide +kernel
theorem dX11_faithful_431 : decode cX11_faithful 431 = .ok (.iconst 1, 1) := by decide +kernel
theorem dX11_faithful_432 : decode cX11_faithful 432 = .ok (.goto 4, 3) := by decide +kernel
theorem dX11_faithful_435 : decode cX11_faithful 435 = .ok (.iconst 0, 1) := by decide +kernel
theorem dX11_faithful_436 : decode cX11_faithful 436 = .ok (.ireturn, 1) := by decide +kernel
theorem dX11_told_0 : decode cX11_told 0 = .ok (.iload_n 1, 1) := by decide +kernel
theorem dX11_told_1 : decode cX11_told 1 = .ok (.iconst 3, 1) := by decide +kernel
theorem dX11_told_2 : decode cX11_told 2 = .ok (.bipush 9, 2) := by decide +kernel
theorem dX11_told_4 : decode cX11_told 4 = .ok (.invokestatic 115, 3) := by decide +kernel
theorem dX11_told_7 : decode cX11_told 7 = .ok (.ifCond .eq 12, 3) := by decide +kernel
theorem dX11_told_10 : decode cX11_told 10 = .ok (.aload_n 0, 1) := by decide +kernel
theorem dX11_told_11 : decode cX11_told 11 = .ok (.getfield 17, 3) := by decide +kernel
theorem dX11_told_14 : decode cX11_told 14 = .ok (.iload_n 1, 1) := by decide +kernel
theorem dX11_told_15 : decode cX11_told 15 = .ok (.iconst 3, 1) := by decide +kernel
theorem dX11_told_16 : decode cX11_told 16 = .ok (.isub, 1) := by decide +kernel
theorem dX11_told_17 : decode cX11_told 17 = .ok (.iaload, 1) := by decide +kernel
theorem dX11_told_18 : decode cX11_told 18 = .ok (.ireturn, 1) := by decide +kernel
theorem dX11_told_19 : decode cX11_told 19 = .ok (.iload_n 1, 1) := by decide +kernel
theorem dX11_told_20 : decode cX11_told 20 = .ok (.ifCond .ne 10, 3) := by decide +kernel
theorem dX11_told_23 : decode cX11_told 23 = .ok (.aload_n 0, 1) := by decide +kernel
theorem dX11_told_24 : decode cX11_told 24 = .ok (.getfield 13, 3) := by decide +kernel
theorem dX11_told_27 : decode cX11_told 27 = .ok (.goto 41, 3) := by decide +kernel
theorem dX11_told_30 : decode cX11_told 30 = .ok (.iload_n 1, 1) := by decide +kernel
theorem dX11_told_31 : decode cX11_told 31 = .ok (.iconst 1, 1) := by decide +kernel
theorem dX11_told_32 : decode cX11_told 32 = .ok (.if_icmp .ne 10, 3) := by decide +kernel
theorem dX11_told_35 : decode cX11_told 35 = .ok (.aload_n 0, 1) := by decide +kernel
theorem dX11_told_36 : decode cX11_told 36 = .ok (.getfield 126, 3) := by decide +kernel
theorem dX11_told_39 : decode cX11_told 39 = .ok (.goto 29, 3) := by decide +kernel
theorem dX11_told_42 : decode cX11_told 42 = .ok (.iload_n 1, 1) := by decide +kernel
theorem dX11_told_43 : decode cX11_told 43 = .ok (.iconst 2, 1) := by decide +kernel
theorem dX11_told_44 : decode cX11_told 44 = .ok (.if_icmp .ne 10, 3) := by decide +kernel
theorem dX11_told_47 : decode cX11_told 47 = .ok (.aload_n 0, 1) := by decide +kernel
theorem dX11_told_48 : decode cX11_told 48 = .ok (.getfield 119, 3) := by decide +kernel
theorem dX11_told_51 : decode cX11_told 51 = .ok (.goto 17, 3) := by decide +kernel
theorem dX11_told_54 : decode cX11_told 54 = .ok (.iload_n 1, 1) := by decide +kernel
theorem dX11_told_55 : decode cX11_told 55 = .ok (.bipush 10, 2) := by decide +kernel
theorem dX11_told_57 : decode cX11_told 57 = .ok (.if_icmp .ne 10, 3) := by decide +kernel
theorem dX11_told_60 : decode cX11_told 60 = .ok (.aload_n 0, 1) := by decide +kernel
theorem dX11_told_61 : decode cX11_told 61 = .ok (.getfield 20, 3) := by decide +kernel
theorem dX11_told_64 : decode cX11_told 64 = .ok (.goto 4, 3) := by decide +kernel
theorem dX11_told_67 : decode cX11_told 67 = .ok (.iconst (-1), 1) := by decide +kernel
theorem dX11_told_68 : decode cX11_told 68 = .ok (.ireturn, 1) := by decide +kernel
end
section
theorem dL_law_0 : decode cL_law 0 = .ok (.new 7, 3) := by decide +kernel
theorem dL_law_3 : decode cL_law 3 = .ok (.dup, 1) := by decide +kernel
theorem dL_law_4 : decode cL_law 4 = .ok (.invokespecial 9, 3) := by decide +kernel
theorem dL_law_7 : decode cL_law 7 = .ok (.astore_n 1, 1) := by decide +kernel
theorem dL_law_8 : decode cL_law 8 = .ok (.new 10, 3) := by decide +kernel
theorem dL_law_11 : decode cL_law 11 = .ok (.dup, 1) := by decide +kernel
theorem dL_law_12 : decode cL_law 12 = .ok (.invokespecial 12, 3) := by decide +kernel
theorem dL_law_15 : decode cL_law 15 = .ok (.astore_n 2, 1) := by decide +kernel
theorem dL_law_16 : decode cL_law 16 = .ok (.iconst 0, 1) := by decide +kernel
theorem dL_law_17 : decode cL_law 17 = .ok (.istore_n 3, 1) := by decide +kernel
theorem dL_law_18 : decode cL_law 18 = .ok (.iload_n 3, 1) := by decide +kernel
theorem dL_law_19 : decode cL_law 19 = .ok (.aload_n 0, 1) := by decide +kernel
theorem dL_law_20 : decode cL_law 20 = .ok (.arraylength, 1) := by decide +kernel
theorem dL_law_21 : decode cL_law 21 = .ok (.bipush 6, 2) := by decide +kernel
theorem dL_law_23 : decode cL_law 23 = .ok (.isub, 1) := by decide +kernel
theorem dL_law_24 : decode cL_law 24 = .ok (.if_icmp .gt 445, 3) := by decide +kernel
theorem dL_law_27 : decode cL_law 27 = .ok (.aload_n 0, 1) := by decide +kernel
theorem dL_law_28 : decode cL_law 28 = .ok (.iload_n 3, 1) := by decide +kernel
theorem dL_law_29 : decode cL_law 29 = .ok (.iaload, 1) := by decide +kernel
theorem dL_law_30 : decode cL_law 30 = .ok (.bipush 15, 2) := by decide +kernel
theorem dL_law_32 : decode cL_law 32 = .ok (.iand, 1) := by decide +kernel
theorem dL_law_33 : decode cL_law 33 = .ok (.tableswitch 430 0 14 #[75, 98, 111, 174, 207, 240, 263, 276, 289, 302, 335, 358, 381, 394, 407], 75) := by decide +kernel
theorem dL_law_108 : decode cL_law 108 = .ok (.aload_n 1, 1) := by decide +kernel
theorem dL_law_109 : decode cL_law 109 = .ok (.aload_n 0, 1) := by decide +kernel
theorem dL_law_110 : decode cL_law 110 = .ok (.iload_n 3, 1) := by decide +kernel
theorem dL_law_111 : decode cL_law 111 = .ok (.iconst 1, 1) := by decide +kernel
theorem dL_law_112 : decode cL_law 112 = .ok (.iadd, 1) := by decide +kernel
theorem dL_law_113 : decode cL_law 113 = .ok (.iaload, 1) := by decide +kernel
theorem dL_law_114 : decode cL_law 114 = .ok (.invokevirtual 13, 3) := by decide +kernel
theorem dL_law_117 : decode cL_law 117 = .ok (.aload_n 2, 1) := by decide +kernel
theorem dL_law_118 : decode cL_law 118 = .ok (.aload_n 0, 1) := by decide +kernel
theorem dL_law_119 : decode cL_law 119 = .ok (.iload_n 3, 1) := by decide +kernel
theorem dL_law_120 : decode cL_law 120 = .ok (.iconst 1, 1) := by decide +kernel
theorem dL_law_121 : decode cL_law 121 = .ok (.iadd, 1) := by decide +kernel
theorem dL_law_122 : decode cL_law 122 = .ok (.iaload, 1) := by decide +kernel
theorem dL_law_123 : decode cL_law 123 = .ok (.invokevirtual 17, 3) := by decide +kernel
theorem dL_law_126 : decode cL_law 126 = .ok (.if_icmp .eq 337, 3) := by decide +kernel
theorem dL_law_129 : decode cL_law 129 = .ok (.iconst 0, 1) := by decide +kernel
theorem dL_law_130 : decode cL_law 130 = .ok (.ireturn, 1) := by decide +kernel
theorem dL_law_131 : decode cL_law 131 = .ok (.aload_n 1, 1) := by decide +kernel
theorem dL_law_132 : decode cL_law 132 = .ok (.invokevirtual 18, 3) := by decide +kernel
theorem dL_law_135 : decode cL_law 135 = .ok (.aload_n 2, 1) := by decide +kernel
theorem dL_law_136 : decode cL_law 136 = .ok (.invokevirtual 22, 3) := by decide +kernel
theorem dL_law_139 : decode cL_law 139 = .ok (.if_icmp .eq 324, 3) := by decide +kernel
theorem dL_law_142 : decode cL_law 142 = .ok (.iconst 0, 1) := by decide +kernel
theorem dL_law_143 : decode cL_law 143 = .ok (.ireturn, 1) := by decide +kernel
theorem dL_law_144 : decode cL_law 144 = .ok (.aload_n 1, 1) := by decide +kernel
theorem dL_law_145 : decode cL_law 145 = .ok (.aload_n 0, 1) := by decide +kernel
theorem dL_law_146 : decode cL_law 146 = .ok (.iload_n 3, 1) := by decide +kernel
theorem dL_law_147 : decode cL_law 147 = .ok (.iconst 1, 1) := by decide +kernel
theorem dL_law_148 : decode cL_law 148 = .ok (.iadd, 1) := by decide +kernel
theorem dL_law_149 : decode cL_law 149 = .ok (.iaload, 1) := by decide +kernel
theorem dL_law_150 : decode cL_law 150 = .ok (.aload_n 0, 1) := by decide +kernel
theorem dL_law_151 : decode cL_law 151 = .ok (.iload_n 3, 1) := by decide +kernel
theorem dL_law_152 : decode cL_law 152 = .ok (.iconst 2, 1) := by decide +kernel
theorem dL_law_153 : decode cL_law 153 = .ok (.iadd, 1) := by decide +kernel
theorem dL_law_154 : decode cL_law 154 = .ok (.iaload, 1) := by decide +kernel
theorem dL_law_155 : decode cL_law 155 = .ok (.aload_n 0, 1) := by decide +kernel
theorem dL_law_156 : decode cL_law 156 = .ok (.iload_n 3, 1) := by decide +kernel
theorem dL_law_157 : decode cL_law 157 = .ok (.iconst 3, 1) := by decide +kernel
theorem dL_law_158 : decode cL_law 158 = .ok (.iadd, 1) := by decide +kernel
theorem dL_law_159 : decode cL_law 159 = .ok (.iaload, 1) := by decide +kernel
theorem dL_law_160 : decode cL_law 160 = .ok (.aload_n 0, 1) := by decide +kernel
theorem dL_law_161 : decode cL_law 161 = .ok (.iload_n 3, 1) := by decide +kernel
theorem dL_law_162 : decode cL_law 162 = .ok (.iconst 4, 1) := by decide +kernel
theorem dL_law_163 : decode cL_law 163 = .ok (.iadd, 1) := by decide +kernel
theorem dL_law_164 : decode cL_law 164 = .ok (.iaload, 1) := by decide +kernel
theorem dL_law_165 : decode cL_law 165 = .ok (.aload_n 0, 1) := by decide +kernel
theorem dL_law_166 : decode cL_law 166 = .ok (.iload_n 3, 1) := by decide +kernel
theorem dL_law_167 : decode cL_law 167 = .ok (.iconst 5, 1) := by decide +kernel
theorem dL_law_168 : decode cL_law 168 = .ok (.iadd, 1) := by decide +kernel
theorem dL_law_169 : decode cL_law 169 = .ok (.iaload, 1) := by decide +kernel
theorem dL_law_170 : decode cL_law 170 = .ok (.invokevirtual 23, 3) := by decide +kernel
theorem dL_law_173 : decode cL_law 173 = .ok (.aload_n 2, 1) := by decide +kernel
theorem dL_law_174 : decode cL_law 174 = .ok (.aload_n 0, 1) := by decide +kernel
theorem dL_law_175 : decode cL_law 175 = .ok (.iload_n 3, 1) := by decide +kernel
theorem dL_law_176 : decode cL_law 176 = .ok (.iconst 1, 1) := by decide +kernel
theorem dL_law_177 : decode cL_law 177 = .ok (.iadd, 1) := by decide +kernel
theorem dL_law_178 : decode cL_law 178 = .ok (.iaload, 1) := by decide +kernel
theorem dL_law_179 : decode cL_law 179 = .ok (.aload_n 0, 1) := by decide +kernel
theorem dL_law_180 : decode cL_law 180 = .ok (.iload_n 3, 1) := by decide +kernel
theorem dL_law_181 : decode cL_law 181 = .ok (.iconst 2, 1) := by decide +kernel
theorem dL_law_182 : decode cL_law 182 = .ok (.iadd, 1) := by decide +kernel
theorem dL_law_183 : decode cL_law 183 = .ok (.iaload, 1) := by decide +kernel
theorem dL_law_184 : decode cL_law 184 = .ok (.aload_n 0, 1) := by decide +kernel
theorem dL_law_185 : decode cL_law 185 = .ok (.iload_n 3, 1) := by decide +kernel
theorem dL_law_186 : decode cL_law 186 = .ok (.iconst 3, 1) := by decide +kernel
theorem dL_law_187 : decode cL_law 187 = .ok (.iadd, 1) := by decide +kernel
theorem dL_law_188 : decode cL_law 188 = .ok (.iaload, 1) := by decide +kernel
theorem dL_law_189 : decode cL_law 189 = .ok (.aload_n 0, 1) := by decide +kernel
theorem dL_law_190 : decode cL_law 190 = .ok (.iload_n 3, 1) := by decide +kernel
theorem dL_law_191 : decode cL_law 191 = .ok (.iconst 4, 1) := by decide +kernel
theorem dL_law_192 : decode cL_law 192 = .ok (.iadd, 1) := by decide +kernel
theorem dL_law_193 : decode cL_law 193 = .ok (.iaload, 1) := by decide +kernel
theorem dL_law_194 : decode cL_law 194 = .ok (.aload_n 0, 1) := by decide +kernel
theorem dL_law_195 : decode cL_law 195 = .ok (.iload_n 3, 1) := by decide +kernel
theorem dL_law_196 : decode cL_law 196 = .ok (.iconst 5, 1) := by decide +kernel
theorem dL_law_197 : decode cL_law 197 = .ok (.iadd, 1) := by decide +kernel
theorem dL_law_198 : decode cL_law 198 = .ok (.iaload, 1) := by decide +kernel
theorem dL_law_199 : decode cL_law 199 = .ok (.invokevirtual 27, 3) := by decide +kernel
theorem dL_law_202 : decode cL_law 202 = .ok (.if_icmp .eq 261, 3) := by decide +kernel
theorem dL_law_205 : decode cL_law 205 = .ok (.iconst 0, 1) := by decide +kernel
theorem dL_law_206 : decode cL_law 206 = .ok (.ireturn, 1) := by decide +kernel
theorem dL_law_207 : decode cL_law 207 = .ok (.aload_n 1, 1) := by decide +kernel
theorem dL_law_208 : decode cL_law 208 = .ok (.aload_n 0, 1) := by decide +kernel
theorem dL_law_209 : decode cL_law 209 = .ok (.iload_n 3, 1) := by decide +kernel
theorem dL_law_210 : decode cL_law 210 = .ok (.iconst 1, 1) := by decide +kernel
theorem dL_law_211 : decode cL_law 211 = .ok (.iadd, 1) := by decide +kernel
theorem dL_law_212 : decode cL_law 212 = .ok (.iaload, 1) := by decide +kernel
theorem dL_law_213 : decode cL_law 213 = .ok (.aload_n 0, 1) := by decide +kernel
theorem dL_law_214 : decode cL_law 214 = .ok (.iload_n 3, 1) := by decide +kernel
theorem dL_law_215 : decode cL_law 215 = .ok (.iconst 2, 1) := by decide +kernel
theorem dL_law_216 : decode cL_law 216 = .ok (.iadd, 1) := by decide +kernel
theorem dL_law_217 : decode cL_law 217 = .ok (.iaload, 1) := by decide +kernel
theorem dL_law_218 : decode cL_law 218 = .ok (.invokevirtual 28, 3) := by decide +kernel
theorem dL_law_221 : decode cL_law 221 = .ok (.aload_n 2, 1) := by decide +kernel
theorem dL_law_222 : decode cL_law 222 = .ok (.aload_n 0, 1) := by decide +kernel
theorem dL_law_223 : decode cL_law 223 = .ok (.iload_n 3, 1) := by decide +kernel
theorem dL_law_224 : decode cL_law 224 = .ok (.iconst 1, 1) := by decide +kernel
theorem dL_law_225 : decode cL_law 225 = .ok (.iadd, 1) := by decide +kernel
theorem dL_law_226 : decode cL_law 226 = .ok (.iaload, 1) := by decide +kernel
theorem dL_law_227 : decode cL_law 227 = .ok (.aload_n 0, 1) := by decide +kernel
theorem dL_law_228 : decode cL_law 228 = .ok (.iload_n 3, 1) := by decide +kernel
theorem dL_law_229 : decode cL_law 229 = .ok (.iconst 2, 1) := by decide +kernel
theorem dL_law_230 : decode cL_law 230 = .ok (.iadd, 1) := by decide +kernel
theorem dL_law_231 : decode cL_law 231 = .ok (.iaload, 1) := by decide +kernel
theorem dL_law_232 : decode cL_law 232 = .ok (.invokevirtual 32, 3) := by decide +kernel
theorem dL_law_235 : decode cL_law 235 = .ok (.if_icmp .eq 228, 3) := by decide +kernel
theorem dL_law_238 : decode cL_law 238 = .ok (.iconst 0, 1) := by decide +kernel
theorem dL_law_239 : decode cL_law 239 = .ok (.ireturn, 1) := by decide +kernel
theorem dL_law_240 : decode cL_law 240 = .ok (.aload_n 1, 1) := by decide +kernel
theorem dL_law_241 : decode cL_law 241 = .ok (.aload_n 0, 1) := by decide +kernel
theorem dL_law_242 : decode cL_law 242 = .ok (.iload_n 3, 1) := by decide +kernel
theorem dL_law_243 : decode cL_law 243 = .ok (.iconst 1, 1) := by decide +kernel
theorem dL_law_244 : decode cL_law 244 = .ok (.iadd, 1) := by decide +kernel
theorem dL_law_245 : decode cL_law 245 = .ok (.iaload, 1) := by decide +kernel
theorem dL_law_246 : decode cL_law 246 = .ok (.aload_n 0, 1) := by decide +kernel
theorem dL_law_247 : decode cL_law 247 = .ok (.iload_n 3, 1) := by decide +kernel
theorem dL_law_248 : decode cL_law 248 = .ok (.iconst 2, 1) := by decide +kernel
theorem dL_law_249 : decode cL_law 249 = .ok (.iadd, 1) := by decide +kernel
theorem dL_law_250 : decode cL_law 250 = .ok (.iaload, 1) := by decide +kernel
theorem dL_law_251 : decode cL_law 251 = .ok (.invokevirtual 33, 3) := by decide +kernel
theorem dL_law_254 : decode cL_law 254 = .ok (.aload_n 2, 1) := by decide +kernel
theorem dL_law_255 : decode cL_law 255 = .ok (.aload_n 0, 1) := by decide +kernel
theorem dL_law_256 : decode cL_law 256 = .ok (.iload_n 3, 1) := by decide +kernel
theorem dL_law_257 : decode cL_law 257 = .ok (.iconst 1, 1) := by decide +kernel
theorem dL_law_258 : decode cL_law 258 = .ok (.iadd, 1) := by decide +kernel
theorem dL_law_259 : decode cL_law 259 = .ok (.iaload, 1) := by decide +kernel
theorem dL_law_260 : decode cL_law 260 = .ok (.aload_n 0, 1) := by decide +kernel
theorem dL_law_261 : decode cL_law 261 = .ok (.iload_n 3, 1) := by decide +kernel
theorem dL_law_262 : decode cL_law 262 = .ok (.iconst 2, 1) := by decide +kernel
theorem dL_law_263 : decode cL_law 263 = .ok (.iadd, 1) := by decide +kernel
theorem dL_law_264 : decode cL_law 264 = .ok (.iaload, 1) := by decide +kernel
theorem dL_law_265 : decode cL_law 265 = .ok (.invokevirtual 36, 3) := by decide +kernel
theorem dL_law_268 : decode cL_law 268 = .ok (.if_icmp .eq 195, 3) := by decide +kernel
theorem dL_law_271 : decode cL_law 271 = .ok (.iconst 0, 1) := by decide +kernel
theorem dL_law_272 : decode cL_law 272 = .ok (.ireturn, 1) := by decide +kernel
theorem dL_law_273 : decode cL_law 273 = .ok (.aload_n 1, 1) := by decide +kernel
theorem dL_law_274 : decode cL_law 274 = .ok (.aload_n 0, 1) := by decide +kernel
theorem dL_law_275 : decode cL_law 275 = .ok (.iload_n 3, 1) := by decide +kernel
theorem dL_law_276 : decode cL_law 276 = .ok (.iconst 1, 1) := by decide +kernel
theorem dL_law_277 : decode cL_law 277 = .ok (.iadd, 1) := by decide +kernel
theorem dL_law_278 : decode cL_law 278 = .ok (.iaload, 1) := by decide +kernel
theorem dL_law_279 : decode cL_law 279 = .ok (.invokevirtual 37, 3) := by decide +kernel
theorem dL_law_282 : decode cL_law 282 = .ok (.aload_n 2, 1) := by decide +kernel
theorem dL_law_283 : decode cL_law 283 = .ok (.aload_n 0, 1) := by decide +kernel
theorem dL_law_284 : decode cL_law 284 = .ok (.iload_n 3, 1) := by decide +kernel
theorem dL_law_285 : decode cL_law 285 = .ok (.iconst 1, 1) := by decide +kernel
theorem dL_law_286 : decode cL_law 286 = .ok (.iadd, 1) := by decide +kernel
theorem dL_law_287 : decode cL_law 287 = .ok (.iaload, 1) := by decide +kernel
theorem dL_law_288 : decode cL_law 288 = .ok (.invokevirtual 41, 3) := by decide +kernel
theorem dL_law_291 : decode cL_law 291 = .ok (.if_icmp .eq 172, 3) := by decide +kernel
theorem dL_law_294 : decode cL_law 294 = .ok (.iconst 0, 1) := by decide +kernel
theorem dL_law_295 : decode cL_law 295 = .ok (.ireturn, 1) := by decide +kernel
theorem dL_law_296 : decode cL_law 296 = .ok (.aload_n 1, 1) := by decide +kernel
theorem dL_law_297 : decode cL_law 297 = .ok (.invokevirtual 42, 3) := by decide +kernel
theorem dL_law_300 : decode cL_law 300 = .ok (.aload_n 2, 1) := by decide +kernel
theorem dL_law_301 : decode cL_law 301 = .ok (.invokevirtual 45, 3) := by decide +kernel
theorem dL_law_304 : decode cL_law 304 = .ok (.if_icmp .eq 159, 3) := by decide +kernel
theorem dL_law_307 : decode cL_law 307 = .ok (.iconst 0, 1) := by decide +kernel
theorem dL_law_308 : decode cL_law 308 = .ok (.ireturn, 1) := by decide +kernel
theorem dL_law_309 : decode cL_law 309 = .ok (.aload_n 1, 1) := by decide +kernel
theorem dL_law_310 : decode cL_law 310 = .ok (.invokevirtual 46, 3) := by decide +kernel
theorem dL_law_313 : decode cL_law 313 = .ok (.aload_n 2, 1) := by decide +kernel
theorem dL_law_314 : decode cL_law 314 = .ok (.invokevirtual 50, 3) := by decide +kernel
theorem dL_law_317 : decode cL_law 317 = .ok (.if_icmp .eq 146, 3) := by decide +kernel
theorem dL_law_320 : decode cL_law 320 = .ok (.iconst 0, 1) := by decide +kernel
theorem dL_law_321 : decode cL_law 321 = .ok (.ireturn, 1) := by decide +kernel
theorem dL_law_322 : decode cL_law 322 = .ok (.aload_n 1, 1) := by decide +kernel
theorem dL_law_323 : decode cL_law 323 = .ok (.invokevirtual 51, 3) := by decide +kernel
theorem dL_law_326 : decode cL_law 326 = .ok (.aload_n 2, 1) := by decide +kernel
theorem dL_law_327 : decode cL_law 327 = .ok (.invokevirtual 54, 3) := by decide +kernel
theorem dL_law_330 : decode cL_law 330 = .ok (.if_icmp .eq 133, 3) := by decide +kernel
theorem dL_law_333 : decode cL_law 333 = .ok (.iconst 0, 1) := by decide +kernel
theorem dL_law_334 : decode cL_law 334 = .ok (.ireturn, 1) := by decide +kernel
theorem dL_law_335 : decode cL_law 335 = .ok (.aload_n 1, 1) := by decide +kernel
theorem dL_law_336 : decode cL_law 336 = .ok (.aload_n 0, 1) := by decide +kernel
theorem dL_law_337 : decode cL_law 337 = .ok (.iload_n 3, 1) := by decide +kernel
theorem dL_law_338 : decode cL_law 338 = .ok (.iconst 1, 1) := by decide +kernel
theorem dL_law_339 : decode cL_law 339 = .ok (.iadd, 1) := by decide +kernel
theorem dL_law_340 : decode cL_law 340 = .ok (.iaload, 1) := by decide +kernel
theorem dL_law_341 : decode cL_law 341 = .ok (.aload_n 0, 1) := by decide +kernel
theorem dL_law_342 : decode cL_law 342 = .ok (.iload_n 3, 1) := by decide +kernel
theorem dL_law_343 : decode cL_law 343 = .ok (.iconst 2, 1) := by decide +kernel
theorem dL_law_344 : decode cL_law 344 = .ok (.iadd, 1) := by decide +kernel
theorem dL_law_345 : decode cL_law 345 = .ok (.iaload, 1) := by decide +kernel
theorem dL_law_346 : decode cL_law 346 = .ok (.invokevirtual 55, 3) := by decide +kernel
theorem dL_law_349 : decode cL_law 349 = .ok (.aload_n 2, 1) := by decide +kernel
theorem dL_law_350 : decode cL_law 350 = .ok (.aload_n 0, 1) := by decide +kernel
theorem dL_law_351 : decode cL_law 351 = .ok (.iload_n 3, 1) := by decide +kernel
theorem dL_law_352 : decode cL_law 352 = .ok (.iconst 1, 1) := by decide +kernel
theorem dL_law_353 : decode cL_law 353 = .ok (.iadd, 1) := by decide +kernel
theorem dL_law_354 : decode cL_law 354 = .ok (.iaload, 1) := by decide +kernel
theorem dL_law_355 : decode cL_law 355 = .ok (.aload_n 0, 1) := by decide +kernel
theorem dL_law_356 : decode cL_law 356 = .ok (.iload_n 3, 1) := by decide +kernel
theorem dL_law_357 : decode cL_law 357 = .ok (.iconst 2, 1) := by decide +kernel
theorem dL_law_358 : decode cL_law 358 = .ok (.iadd, 1) := by decide +kernel
theorem dL_law_359 : decode cL_law 359 = .ok (.iaload, 1) := by decide +kernel
theorem dL_law_360 : decode cL_law 360 = .ok (.invokevirtual 59, 3) := by decide +kernel
theorem dL_law_363 : decode cL_law 363 = .ok (.if_icmp .eq 100, 3) := by decide +kernel
theorem dL_law_366 : decode cL_law 366 = .ok (.iconst 0, 1) := by decide +kernel
theorem dL_law_367 : decode cL_law 367 = .ok (.ireturn, 1) := by decide +kernel
theorem dL_law_368 : decode cL_law 368 = .ok (.aload_n 1, 1) := by decide +kernel
theorem dL_law_369 : decode cL_law 369 = .ok (.aload_n 0, 1) := by decide +kernel
theorem dL_law_370 : decode cL_law 370 = .ok (.iload_n 3, 1) := by decide +kernel
theorem dL_law_371 : decode cL_law 371 = .ok (.iconst 1, 1) := by decide +kernel
theorem dL_law_372 : decode cL_law 372 = .ok (.iadd, 1) := by decide +kernel
theorem dL_law_373 : decode cL_law 373 = .ok (.iaload, 1) := by decide +kernel
theorem dL_law_374 : decode cL_law 374 = .ok (.invokevirtual 60, 3) := by decide +kernel
theorem dL_law_377 : decode cL_law 377 = .ok (.aload_n 2, 1) := by decide +kernel
theorem dL_law_378 : decode cL_law 378 = .ok (.aload_n 0, 1) := by decide +kernel
theorem dL_law_379 : decode cL_law 379 = .ok (.iload_n 3, 1) := by decide +kernel
theorem dL_law_380 : decode cL_law 380 = .ok (.iconst 1, 1) := by decide +kernel
theorem dL_law_381 : decode cL_law 381 = .ok (.iadd, 1) := by decide +kernel
theorem dL_law_382 : decode cL_law 382 = .ok (.iaload, 1) := by decide +kernel
theorem dL_law_383 : decode cL_law 383 = .ok (.invokevirtual 63, 3) := by decide +kernel
theorem dL_law_386 : decode cL_law 386 = .ok (.if_icmp .eq 77, 3) := by decide +kernel
theorem dL_law_389 : decode cL_law 389 = .ok (.iconst 0, 1) := by decide +kernel
theorem dL_law_390 : decode cL_law 390 = .ok (.ireturn, 1) := by decide +kernel
theorem dL_law_391 : decode cL_law 391 = .ok (.aload_n 1, 1) := by decide +kernel
theorem dL_law_392 : decode cL_law 392 = .ok (.aload_n 0, 1) := by decide +kernel
theorem dL_law_393 : decode cL_law 393 = .ok (.iload_n 3, 1) := by decide +kernel
theorem dL_law_394 : decode cL_law 394 = .ok (.iconst 1, 1) := by decide +kernel
theorem dL_law_395 : decode cL_law 395 = .ok (.iadd, 1) := by decide +kernel
theorem dL_law_396 : decode cL_law 396 = .ok (.iaload, 1) := by decide +kernel
theorem dL_law_397 : decode cL_law 397 = .ok (.invokevirtual 64, 3) := by decide +kernel
theorem dL_law_400 : decode cL_law 400 = .ok (.aload_n 2, 1) := by decide +kernel
theorem dL_law_401 : decode cL_law 401 = .ok (.aload_n 0, 1) := by decide +kernel
theorem dL_law_402 : decode cL_law 402 = .ok (.iload_n 3, 1) := by decide +kernel
theorem dL_law_403 : decode cL_law 403 = .ok (.iconst 1, 1) := by decide +kernel
theorem dL_law_404 : decode cL_law 404 = .ok (.iadd, 1) := by decide +kernel
theorem dL_law_405 : decode cL_law 405 = .ok (.iaload, 1) := by decide +kernel
theorem dL_law_406 : decode cL_law 406 = .ok (.invokevirtual 67, 3) := by decide +kernel
theorem dL_law_409 : decode cL_law 409 = .ok (.if_icmp .eq 54, 3) := by decide +kernel
theorem dL_law_412 : decode cL_law 412 = .ok (.iconst 0, 1) := by decide +kernel
theorem dL_law_413 : decode cL_law 413 = .ok (.ireturn, 1) := by decide +kernel
theorem dL_law_414 : decode cL_law 414 = .ok (.aload_n 1, 1) := by decide +kernel
theorem dL_law_415 : decode cL_law 415 = .ok (.invokevirtual 68, 3) := by decide +kernel
theorem dL_law_418 : decode cL_law 418 = .ok (.aload_n 2, 1) := by decide +kernel
theorem dL_law_419 : decode cL_law 419 = .ok (.invokevirtual 71, 3) := by decide +kernel
theorem dL_law_422 : decode cL_law 422 = .ok (.if_icmp .eq 41, 3) := by decide +kernel
theorem dL_law_425 : decode cL_law 425 = .ok (.iconst 0, 1) := by decide +kernel
theorem dL_law_426 : decode cL_law 426 = .ok (.ireturn, 1) := by decide +kernel
theorem dL_law_427 : decode cL_law 427 = .ok (.aload_n 1, 1) := by decide +kernel
theorem dL_law_428 : decode cL_law 428 = .ok (.invokevirtual 72, 3) := by decide +kernel
theorem dL_law_431 : decode cL_law 431 = .ok (.aload_n 2, 1) := by decide +kernel
theorem dL_law_432 : decode cL_law 432 = .ok (.invokevirtual 75, 3) := by decide +kernel
theorem dL_law_435 : decode cL_law 435 = .ok (.if_icmp .eq 28, 3) := by decide +kernel
theorem dL_law_438 : decode cL_law 438 = .ok (.iconst 0, 1) := by decide +kernel
theorem dL_law_439 : decode cL_law 439 = .ok (.ireturn, 1) := by decide +kernel
theorem dL_law_440 : decode cL_law 440 = .ok (.aload_n 1, 1) := by decide +kernel
theorem dL_law_441 : decode cL_law 441 = .ok (.aload_n 0, 1) := by decide +kernel
theorem dL_law_442 : decode cL_law 442 = .ok (.iload_n 3, 1) := by decide +kernel
theorem dL_law_443 : decode cL_law 443 = .ok (.iconst 1, 1) := by decide +kernel
theorem dL_law_444 : decode cL_law 444 = .ok (.iadd, 1) := by decide +kernel
theorem dL_law_445 : decode cL_law 445 = .ok (.iaload, 1) := by decide +kernel
theorem dL_law_446 : decode cL_law 446 = .ok (.invokevirtual 76, 3) := by decide +kernel
theorem dL_law_449 : decode cL_law 449 = .ok (.aload_n 2, 1) := by decide +kernel
theorem dL_law_450 : decode cL_law 450 = .ok (.aload_n 0, 1) := by decide +kernel
theorem dL_law_451 : decode cL_law 451 = .ok (.iload_n 3, 1) := by decide +kernel
theorem dL_law_452 : decode cL_law 452 = .ok (.iconst 1, 1) := by decide +kernel
theorem dL_law_453 : decode cL_law 453 = .ok (.iadd, 1) := by decide +kernel
theorem dL_law_454 : decode cL_law 454 = .ok (.iaload, 1) := by decide +kernel
theorem dL_law_455 : decode cL_law 455 = .ok (.invokevirtual 79, 3) := by decide +kernel
theorem dL_law_458 : decode cL_law 458 = .ok (.if_icmp .eq 5, 3) := by decide +kernel
theorem dL_law_461 : decode cL_law 461 = .ok (.iconst 0, 1) := by decide +kernel
theorem dL_law_462 : decode cL_law 462 = .ok (.ireturn, 1) := by decide +kernel
theorem dL_law_463 : decode cL_law 463 = .ok (.iinc 3 6, 3) := by decide +kernel
theorem dL_law_466 : decode cL_law 466 = .ok (.goto (-448), 3) := by decide +kernel
theorem dL_law_469 : decode cL_law 469 = .ok (.iconst 1, 1) := by decide +kernel
theorem dL_law_470 : decode cL_law 470 = .ok (.ireturn, 1) := by decide +kernel
end
section
/-! LABELS: a cell is spoken of by a number that we choose -/
abbrev mS : Type := Nat → Option (Nat × Nat × Nat)
def rl (A : Nat → Nat) (Sh : mS) (S : mI) (G : mP) (T : mT) (I : mI) (P : mP) : Prop := (∀ r sh, Sh r = some sh → T (A r) = some sh ∧ I (A r) = S r ∧ ∀ k, P (A r) k = (G r k).map A) ∧ (∀ r r' sh sh', Sh r = some sh → Sh r' = some sh' → A r = A r' → r = r')
theorem rl.sh {A : Nat → Nat} {Sh : mS} {S : mI} {G : mP} {T : mT} {I : mI} {P : mP} (h : rl A Sh S G T I P) {r : Nat} {sh : Nat × Nat × Nat} (hr : Sh r = some sh) : T (A r) = some sh := (h.1 r sh hr).1
theorem rl.num {A : Nat → Nat} {Sh : mS} {S : mI} {G : mP} {T : mT} {I : mI} {P : mP} (h : rl A Sh S G T I P) {r : Nat} {sh : Nat × Nat × Nat} (hr : Sh r = some sh) (k : Nat) : I (A r) k = S r k := by rw [(h.1 r sh hr).2.1]
theorem rl.ptr {A : Nat → Nat} {Sh : mS} {S : mI} {G : mP} {T : mT} {I : mI} {P : mP} (h : rl A Sh S G T I P) {r k q : Nat} {sh : Nat × Nat × Nat} (hr : Sh r = some sh) (hg : G r k = some q) : P (A r) k = some (A q) := by rw [(h.1 r sh hr).2.2 k, hg]; rfl
theorem rl.set {A : Nat → Nat} {Sh : mS} {S : mI} {G : mP} {T : mT} {I : mI} {P : mP} (h : rl A Sh S G T I P) {r : Nat} {sh : Nat × Nat × Nat} (hr : Sh r = some sh) (k : Nat) (v : Int32) : rl A Sh (mu S r k v) G T (mu I (A r) k v) P := by
  refine ⟨fun q sq hq => ⟨h.sh hq, ?_, (h.1 q sq hq).2.2⟩, h.2⟩
  by_cases he : q = r
  · subst he
    funext y
    by_cases hy : y = k
    · subst hy
      simp [mu]
    · simp [mu, hy, h.num hq y]
  · have hn : A q ≠ A r := fun e => he (h.2 q r sq sh hq hr e)
    rw [mu_row _ _ _ hn, mu_row _ _ _ he]
    exact (h.1 q sq hq).2.1
theorem rl.row {A : Nat → Nat} {Sh : mS} {S : mI} {G : mP} {T : mT} {I : mI} {P : mP} (h : rl A Sh S G T I P) {r : Nat} {sh : Nat × Nat × Nat} (hr : Sh r = some sh) (f : Nat → Int32) : rl A Sh (fun x => if x = r then f else S x) G T (fun x => if x = A r then f else I x) P := by
  refine ⟨fun q sq hq => ⟨h.sh hq, ?_, (h.1 q sq hq).2.2⟩, h.2⟩
  by_cases he : q = r
  · subst he
    simp
  · have hn : A q ≠ A r := fun e => he (h.2 q r sq sh hq hr e)
    simp [he, hn]
    exact (h.1 q sq hq).2.1
theorem rl.setP {A : Nat → Nat} {Sh : mS} {S : mI} {G : mP} {T : mT} {I : mI} {P : mP} (h : rl A Sh S G T I P) {r : Nat} {sh : Nat × Nat × Nat} (hr : Sh r = some sh) (k q : Nat) : rl A Sh S (mu G r k (some q)) T I (mu P (A r) k (some (A q))) := by
  refine ⟨fun z sz hz => ⟨h.sh hz, (h.1 z sz hz).2.1, fun y => ?_⟩, h.2⟩
  by_cases he : z = r
  · subst he
    by_cases hy : y = k
    · subst hy
      simp [mu]
    · simp [mu, hy, (h.1 z sz hz).2.2 y]
  · have hn : A z ≠ A r := fun e => he (h.2 z r sz sh hz hr e)
    rw [mu_na _ _ _ hn, mu_na _ _ _ he]
    exact (h.1 z sz hz).2.2 y
/-- a label for a new cell -/
theorem rl.new {A : Nat → Nat} {Sh : mS} {S : mI} {G : mP} {T : mT} {I : mI} {P : mP} (h : rl A Sh S G T I P) (r a : Nat) (sh : Nat × Nat × Nat) (hr : Sh r = none) (ha : T a = none) (hG : ∀ z k, (Sh z).isSome = true → G z k ≠ some r) : rl (fun x => if x = r then a else A x) (mTn Sh r sh) (mIn S r) (mPn G r) (mTn T a sh) (mIn I a) (mPn P a) := by
  have ne : ∀ z sz, Sh z = some sz → A z ≠ a := fun z sz hz e => by
    have := h.sh hz
    rw [e, ha] at this
    cases this
  refine ⟨fun z sz hz => ?_, fun z z' sz sz' hz hz' => ?_⟩
  · by_cases he : z = r
    · subst he
      simp [mTn] at hz
      subst hz
      refine ⟨by simp [mTn], by funext y; simp [mIn], fun k => by simp [mPn]⟩
    · have hz2 : Sh z = some sz := by simpa [mTn, he] using hz
      have hn := ne z sz hz2
      refine ⟨by simp [mTn, he, hn]; exact h.sh hz2, by funext y; simp [mIn, he, hn]; exact h.num hz2 y, fun k => ?_⟩
      simp only [mPn, he, hn, if_false]
      rw [(h.1 z sz hz2).2.2 k]
      cases hg : G z k with
      | none => rfl
      | some q =>
        have hq : q ≠ r := fun e => hG z k (by rw [hz2]; rfl) (by rw [hg, e])
        simp [hq]
  · by_cases he : z = r <;> by_cases he' : z' = r
    · intro _; rw [he, he']
    · have hz2 : Sh z' = some sz' := by simpa [mTn, he'] using hz'
      intro e
      simp [he, he'] at e
      exact absurd e.symm (ne z' sz' hz2)
    · have hz2 : Sh z = some sz := by simpa [mTn, he] using hz
      intro e
      simp [he, he'] at e
      exact absurd e (ne z sz hz2)
    · have hz2 : Sh z = some sz := by simpa [mTn, he] using hz
      have hz3 : Sh z' = some sz' := by simpa [mTn, he'] using hz'
      intro e
      simp [he, he'] at e
      exact h.2 z z' sz sz' hz2 hz3 e
def rJ (p : Program) (l : Launch) (e : Env) (R : Room) (s : State) (m : MethodId) (args : Array Value) (below : List Frame) (meth : Method) (c : Code) (D : va_G) (cl : List vw_C) (ty : Nat → Nat → FieldType) (b nL : Nat) (Z : State → Prop) (cells slots : Nat) (A : Nat → Nat) (Sh : mS) (S : mI) (G : mP) (lv : List (Nat × Value)) (pc : Nat) (st : List Value) : Prop :=
  ∀ (T : mT) (I : mI) (P : mP), rl A Sh S G T I P → mJ p l e R s m args below meth c D cl ty b nL Z cells slots T I P lv pc st
section RJ
variable {p : Program} {l : Launch} {e : Env} {R : Room} {s : State} {m : MethodId} {args : Array Value} {below : List Frame} {meth : Method} {c : Code}
variable {D : va_G} {cl : List vw_C} {ty : Nat → Nat → FieldType} {b nL : Nat} {Z : State → Prop} {cells slots : Nat} {A : Nat → Nat} {Sh : mS} {S : mI} {G : mP} {lv : List (Nat × Value)} {pc : Nat} {rest : List Value}
variable {cc : ByteArray} {own : String} {ret : Option FieldType} {TT : List Cond} {NN : State → Prop}
theorem rJ_lv {st : List Value} (lv' : List (Nat × Value)) (hs : lv'.map (fun q => lvg lv q.1) = lv'.map (fun q => some q.2)) (k : rJ p l e R s m args below meth c D cl ty b nL Z cells slots A Sh S G lv' pc st) : rJ p l e R s m args below meth c D cl ty b nL Z cells slots A Sh S G lv pc st := fun T I P h => mJ_lv lv' hs (k T I P h)
theorem rJ_wide {st : List Value} {k n : Nat} (h1 : cells ≤ k) (h2 : slots ≤ n) (kk : rJ p l e R s m args below meth c D cl ty b nL Z k n A Sh S G lv pc st) : rJ p l e R s m args below meth c D cl ty b nL Z cells slots A Sh S G lv pc st := fun T I P h => mJ_wide h1 h2 (kk T I P h)
theorem rJ_nS {st : List Value} (k : ∀ S' : mI, S' = S → rJ p l e R s m args below meth c D cl ty b nL Z cells slots A Sh S' G lv pc st) : rJ p l e R s m args below meth c D cl ty b nL Z cells slots A Sh S G lv pc st := k S rfl
theorem rJ_nG {st : List Value} (k : ∀ G' : mP, G' = G → rJ p l e R s m args below meth c D cl ty b nL Z cells slots A Sh S G' lv pc st) : rJ p l e R s m args below meth c D cl ty b nL Z cells slots A Sh S G lv pc st := k G rfl
theorem rJ_top {x : Int32} (k : ∀ y : Int32, y = x → rJ p l e R s m args below meth c D cl ty b nL Z cells slots A Sh S G lv pc (.int y :: rest)) : rJ p l e R s m args below meth c D cl ty b nL Z cells slots A Sh S G lv pc (.int x :: rest) := k x rfl
theorem rJ_as {x : Int32} (y : Int32) (hxy : x = y) (k : rJ p l e R s m args below meth c D cl ty b nL Z cells slots A Sh S G lv pc (.int y :: rest)) : rJ p l e R s m args below meth c D cl ty b nL Z cells slots A Sh S G lv pc (.int x :: rest) := hxy ▸ k
theorem rJ_iconst (X : mX p s m meth c args cc nL own ret TT NN D cl b) {n : Int} {v : Int32} (hd : decode cc pc = .ok (.iconst n, 1)) (hv : Int32.ofInt n = v) (k : rJ p l e R s m args below meth c D cl ty b nL Z cells slots A Sh S G lv (pc + 1) (.int v :: rest)) : rJ p l e R s m args below meth c D cl ty b nL Z cells slots A Sh S G lv pc (rest) := fun T I P h => mJ_iconst X hd hv (k T I P h)
theorem rJ_bipush (X : mX p s m meth c args cc nL own ret TT NN D cl b) {n : Int} {v : Int32} (hd : decode cc pc = .ok (.bipush n, 2)) (hv : (Int8.ofInt n).toInt32 = v) (k : rJ p l e R s m args below meth c D cl ty b nL Z cells slots A Sh S G lv (pc + 2) (.int v :: rest)) : rJ p l e R s m args below meth c D cl ty b nL Z cells slots A Sh S G lv pc (rest) := fun T I P h => mJ_bipush X hd hv (k T I P h)
theorem rJ_sipush (X : mX p s m meth c args cc nL own ret TT NN D cl b) {n : Int} {v : Int32} (hd : decode cc pc = .ok (.sipush n, 3)) (hv : (Int16.ofInt n).toInt32 = v) (k : rJ p l e R s m args below meth c D cl ty b nL Z cells slots A Sh S G lv (pc + 3) (.int v :: rest)) : rJ p l e R s m args below meth c D cl ty b nL Z cells slots A Sh S G lv pc (rest) := fun T I P h => mJ_sipush X hd hv (k T I P h)
theorem rJ_iload_n (X : mX p s m meth c args cc nL own ret TT NN D cl b) {k : Fin 4} {i : Nat} {x : Int32} (hd : decode cc pc = .ok (.iload_n k, 1)) (hi : (k : Nat) = i) (hl : lvg lv i = some (.int x)) (k : rJ p l e R s m args below meth c D cl ty b nL Z cells slots A Sh S G lv (pc + 1) (.int x :: rest)) : rJ p l e R s m args below meth c D cl ty b nL Z cells slots A Sh S G lv pc (rest) := fun T I P h => mJ_iload_n X hd hi hl (k T I P h)
theorem rJ_iload (X : mX p s m meth c args cc nL own ret TT NN D cl b) {i : Nat} {x : Int32} (hd : decode cc pc = .ok (.iload i, 2)) (hl : lvg lv i = some (.int x)) (k : rJ p l e R s m args below meth c D cl ty b nL Z cells slots A Sh S G lv (pc + 2) (.int x :: rest)) : rJ p l e R s m args below meth c D cl ty b nL Z cells slots A Sh S G lv pc (rest) := fun T I P h => mJ_iload X hd hl (k T I P h)
theorem rJ_aload_n (X : mX p s m meth c args cc nL own ret TT NN D cl b) {k : Fin 4} {i : Nat} {x : Nat} (hd : decode cc pc = .ok (.aload_n k, 1)) (hi : (k : Nat) = i) (hl : lvg lv i = some (.ref x)) (k : rJ p l e R s m args below meth c D cl ty b nL Z cells slots A Sh S G lv (pc + 1) (.ref x :: rest)) : rJ p l e R s m args below meth c D cl ty b nL Z cells slots A Sh S G lv pc (rest) := fun T I P h => mJ_aload_n X hd hi hl (k T I P h)
theorem rJ_aload (X : mX p s m meth c args cc nL own ret TT NN D cl b) {i : Nat} {x : Nat} (hd : decode cc pc = .ok (.aload i, 2)) (hl : lvg lv i = some (.ref x)) (k : rJ p l e R s m args below meth c D cl ty b nL Z cells slots A Sh S G lv (pc + 2) (.ref x :: rest)) : rJ p l e R s m args below meth c D cl ty b nL Z cells slots A Sh S G lv pc (rest) := fun T I P h => mJ_aload X hd hl (k T I P h)
theorem rJ_iadd (X : mX p s m meth c args cc nL own ret TT NN D cl b) {x y : Int32} (hd : decode cc pc = .ok (.iadd, 1))  (k : rJ p l e R s m args below meth c D cl ty b nL Z cells slots A Sh S G lv (pc + 1) (.int (x + y) :: rest)) : rJ p l e R s m args below meth c D cl ty b nL Z cells slots A Sh S G lv pc (.int y :: .int x :: rest) := fun T I P h => mJ_iadd X hd  (k T I P h)
theorem rJ_isub (X : mX p s m meth c args cc nL own ret TT NN D cl b) {x y : Int32} (hd : decode cc pc = .ok (.isub, 1))  (k : rJ p l e R s m args below meth c D cl ty b nL Z cells slots A Sh S G lv (pc + 1) (.int (x - y) :: rest)) : rJ p l e R s m args below meth c D cl ty b nL Z cells slots A Sh S G lv pc (.int y :: .int x :: rest) := fun T I P h => mJ_isub X hd  (k T I P h)
theorem rJ_imul (X : mX p s m meth c args cc nL own ret TT NN D cl b) {x y : Int32} (hd : decode cc pc = .ok (.imul, 1))  (k : rJ p l e R s m args below meth c D cl ty b nL Z cells slots A Sh S G lv (pc + 1) (.int (x * y) :: rest)) : rJ p l e R s m args below meth c D cl ty b nL Z cells slots A Sh S G lv pc (.int y :: .int x :: rest) := fun T I P h => mJ_imul X hd  (k T I P h)
theorem rJ_iand (X : mX p s m meth c args cc nL own ret TT NN D cl b) {x y : Int32} (hd : decode cc pc = .ok (.iand, 1))  (k : rJ p l e R s m args below meth c D cl ty b nL Z cells slots A Sh S G lv (pc + 1) (.int (x &&& y) :: rest)) : rJ p l e R s m args below meth c D cl ty b nL Z cells slots A Sh S G lv pc (.int y :: .int x :: rest) := fun T I P h => mJ_iand X hd  (k T I P h)
theorem rJ_ior (X : mX p s m meth c args cc nL own ret TT NN D cl b) {x y : Int32} (hd : decode cc pc = .ok (.ior, 1))  (k : rJ p l e R s m args below meth c D cl ty b nL Z cells slots A Sh S G lv (pc + 1) (.int (x ||| y) :: rest)) : rJ p l e R s m args below meth c D cl ty b nL Z cells slots A Sh S G lv pc (.int y :: .int x :: rest) := fun T I P h => mJ_ior X hd  (k T I P h)
theorem rJ_ixor (X : mX p s m meth c args cc nL own ret TT NN D cl b) {x y : Int32} (hd : decode cc pc = .ok (.ixor, 1))  (k : rJ p l e R s m args below meth c D cl ty b nL Z cells slots A Sh S G lv (pc + 1) (.int (x ^^^ y) :: rest)) : rJ p l e R s m args below meth c D cl ty b nL Z cells slots A Sh S G lv pc (.int y :: .int x :: rest) := fun T I P h => mJ_ixor X hd  (k T I P h)
theorem rJ_idiv (X : mX p s m meth c args cc nL own ret TT NN D cl b) {x y : Int32} (hd : decode cc pc = .ok (.idiv, 1)) (hne : ¬ y = 0) (k : rJ p l e R s m args below meth c D cl ty b nL Z cells slots A Sh S G lv (pc + 1) (.int (x / y) :: rest)) : rJ p l e R s m args below meth c D cl ty b nL Z cells slots A Sh S G lv pc (.int y :: .int x :: rest) := fun T I P h => mJ_idiv X hd hne (k T I P h)
theorem rJ_irem (X : mX p s m meth c args cc nL own ret TT NN D cl b) {x y : Int32} (hd : decode cc pc = .ok (.irem, 1)) (hne : ¬ y = 0) (k : rJ p l e R s m args below meth c D cl ty b nL Z cells slots A Sh S G lv (pc + 1) (.int (x - x / y * y) :: rest)) : rJ p l e R s m args below meth c D cl ty b nL Z cells slots A Sh S G lv pc (.int y :: .int x :: rest) := fun T I P h => mJ_irem X hd hne (k T I P h)
theorem rJ_ineg (X : mX p s m meth c args cc nL own ret TT NN D cl b) {x : Int32} (hd : decode cc pc = .ok (.ineg, 1))  (k : rJ p l e R s m args below meth c D cl ty b nL Z cells slots A Sh S G lv (pc + 1) (.int (-x) :: rest)) : rJ p l e R s m args below meth c D cl ty b nL Z cells slots A Sh S G lv pc (.int x :: rest) := fun T I P h => mJ_ineg X hd  (k T I P h)
theorem rJ_dup (X : mX p s m meth c args cc nL own ret TT NN D cl b) {va : Value} (hd : decode cc pc = .ok (.dup, 1)) (hva : va.category = 1) (k : rJ p l e R s m args below meth c D cl ty b nL Z cells slots A Sh S G lv (pc + 1) (va :: va :: rest)) : rJ p l e R s m args below meth c D cl ty b nL Z cells slots A Sh S G lv pc (va :: rest) := fun T I P h => mJ_dup X hd hva (k T I P h)
theorem rJ_pop (X : mX p s m meth c args cc nL own ret TT NN D cl b) {va : Value} (hd : decode cc pc = .ok (.pop, 1)) (hva : va.category = 1) (k : rJ p l e R s m args below meth c D cl ty b nL Z cells slots A Sh S G lv (pc + 1) (rest)) : rJ p l e R s m args below meth c D cl ty b nL Z cells slots A Sh S G lv pc (va :: rest) := fun T I P h => mJ_pop X hd hva (k T I P h)
theorem rJ_dup_x1 (X : mX p s m meth c args cc nL own ret TT NN D cl b) {va vb : Value} (hd : decode cc pc = .ok (.dup_x1, 1)) (hva : va.category = 1) (hvb : vb.category = 1) (k : rJ p l e R s m args below meth c D cl ty b nL Z cells slots A Sh S G lv (pc + 1) (va :: vb :: va :: rest)) : rJ p l e R s m args below meth c D cl ty b nL Z cells slots A Sh S G lv pc (va :: vb :: rest) := fun T I P h => mJ_dup_x1 X hd hva hvb (k T I P h)
theorem rJ_dup2 (X : mX p s m meth c args cc nL own ret TT NN D cl b) {va vb : Value} (hd : decode cc pc = .ok (.dup2, 1)) (hva : va.category = 1) (hvb : vb.category = 1) (k : rJ p l e R s m args below meth c D cl ty b nL Z cells slots A Sh S G lv (pc + 1) (va :: vb :: va :: vb :: rest)) : rJ p l e R s m args below meth c D cl ty b nL Z cells slots A Sh S G lv pc (va :: vb :: rest) := fun T I P h => mJ_dup2 X hd hva hvb (k T I P h)
theorem rJ_ldc (X : mX p s m meth c args cc nL own ret TT NN D cl b) {index : Nat} {v : Int32} (hd : decode cc pc = .ok (.ldc index, 2)) (hc : Jvm.Cond.constant own index v ∈ TT) (k : rJ p l e R s m args below meth c D cl ty b nL Z cells slots A Sh S G lv (pc + 2) (.int v :: rest)) : rJ p l e R s m args below meth c D cl ty b nL Z cells slots A Sh S G lv pc (rest) := fun T I P h => mJ_ldc X hd hc (k T I P h)
theorem rJ_istore_n (X : mX p s m meth c args cc nL own ret TT NN D cl b) {k : Fin 4} {i : Nat} {x : Int32} (hd : decode cc pc = .ok (.istore_n k, 1)) (hi : (k : Nat) = i) (hn : i < nL) (k : rJ p l e R s m args below meth c D cl ty b nL Z cells slots A Sh S G (lvs lv i (.int x)) (pc + 1) rest) : rJ p l e R s m args below meth c D cl ty b nL Z cells slots A Sh S G lv pc (.int x :: rest) := fun T I P h => mJ_istore_n X hd hi hn (k T I P h)
theorem rJ_istore (X : mX p s m meth c args cc nL own ret TT NN D cl b) {i : Nat} {x : Int32} (hd : decode cc pc = .ok (.istore i, 2)) (hn : i < nL) (k : rJ p l e R s m args below meth c D cl ty b nL Z cells slots A Sh S G (lvs lv i (.int x)) (pc + 2) rest) : rJ p l e R s m args below meth c D cl ty b nL Z cells slots A Sh S G lv pc (.int x :: rest) := fun T I P h => mJ_istore X hd hn (k T I P h)
theorem rJ_astore_n (X : mX p s m meth c args cc nL own ret TT NN D cl b) {k : Fin 4} {i : Nat} {x : Nat} (hd : decode cc pc = .ok (.astore_n k, 1)) (hi : (k : Nat) = i) (hn : i < nL) (k : rJ p l e R s m args below meth c D cl ty b nL Z cells slots A Sh S G (lvs lv i (.ref x)) (pc + 1) rest) : rJ p l e R s m args below meth c D cl ty b nL Z cells slots A Sh S G lv pc (.ref x :: rest) := fun T I P h => mJ_astore_n X hd hi hn (k T I P h)
theorem rJ_astore (X : mX p s m meth c args cc nL own ret TT NN D cl b) {i : Nat} {x : Nat} (hd : decode cc pc = .ok (.astore i, 2)) (hn : i < nL) (k : rJ p l e R s m args below meth c D cl ty b nL Z cells slots A Sh S G (lvs lv i (.ref x)) (pc + 2) rest) : rJ p l e R s m args below meth c D cl ty b nL Z cells slots A Sh S G lv pc (.ref x :: rest) := fun T I P h => mJ_astore X hd hn (k T I P h)
theorem rJ_iinc (X : mX p s m meth c args cc nL own ret TT NN D cl b) {i : Nat} {n : Int} {x v : Int32} (hd : decode cc pc = .ok (.iinc i n, 3)) (hl : lvg lv i = some (.int x)) (hv : x + Int32.ofInt n = v) (hn : i < nL) (k : rJ p l e R s m args below meth c D cl ty b nL Z cells slots A Sh S G (lvs lv i (.int v)) (pc + 3) rest) : rJ p l e R s m args below meth c D cl ty b nL Z cells slots A Sh S G lv pc rest := fun T I P h => mJ_iinc X hd hl hv hn (k T I P h)
theorem rJ_icmp_eq (X : mX p s m meth c args cc nL own ret TT NN D cl b) {x y : Int32} {off : Int} {tgt : Nat} (hd : decode cc pc = .ok (.if_icmp .eq off, 3)) (ht : (pc : Int) + off = (tgt : Int)) (kt : x = y → rJ p l e R s m args below meth c D cl ty b nL Z cells slots A Sh S G lv tgt rest) (kf : ¬ x = y → rJ p l e R s m args below meth c D cl ty b nL Z cells slots A Sh S G lv (pc + 3) rest) : rJ p l e R s m args below meth c D cl ty b nL Z cells slots A Sh S G lv pc (.int y :: .int x :: rest) := fun T I P h => mJ_icmp_eq X hd ht (fun q => kt q T I P h) (fun q => kf q T I P h)
theorem rJ_if_eq (X : mX p s m meth c args cc nL own ret TT NN D cl b) {x : Int32} {off : Int} {tgt : Nat} (hd : decode cc pc = .ok (.ifCond .eq off, 3)) (ht : (pc : Int) + off = (tgt : Int)) (kt : x = 0 → rJ p l e R s m args below meth c D cl ty b nL Z cells slots A Sh S G lv tgt rest) (kf : ¬ x = 0 → rJ p l e R s m args below meth c D cl ty b nL Z cells slots A Sh S G lv (pc + 3) rest) : rJ p l e R s m args below meth c D cl ty b nL Z cells slots A Sh S G lv pc (.int x :: rest) := fun T I P h => mJ_if_eq X hd ht (fun q => kt q T I P h) (fun q => kf q T I P h)
theorem rJ_icmp_ne (X : mX p s m meth c args cc nL own ret TT NN D cl b) {x y : Int32} {off : Int} {tgt : Nat} (hd : decode cc pc = .ok (.if_icmp .ne off, 3)) (ht : (pc : Int) + off = (tgt : Int)) (kt : ¬ x = y → rJ p l e R s m args below meth c D cl ty b nL Z cells slots A Sh S G lv tgt rest) (kf : x = y → rJ p l e R s m args below meth c D cl ty b nL Z cells slots A Sh S G lv (pc + 3) rest) : rJ p l e R s m args below meth c D cl ty b nL Z cells slots A Sh S G lv pc (.int y :: .int x :: rest) := fun T I P h => mJ_icmp_ne X hd ht (fun q => kt q T I P h) (fun q => kf q T I P h)
theorem rJ_if_ne (X : mX p s m meth c args cc nL own ret TT NN D cl b) {x : Int32} {off : Int} {tgt : Nat} (hd : decode cc pc = .ok (.ifCond .ne off, 3)) (ht : (pc : Int) + off = (tgt : Int)) (kt : ¬ x = 0 → rJ p l e R s m args below meth c D cl ty b nL Z cells slots A Sh S G lv tgt rest) (kf : x = 0 → rJ p l e R s m args below meth c D cl ty b nL Z cells slots A Sh S G lv (pc + 3) rest) : rJ p l e R s m args below meth c D cl ty b nL Z cells slots A Sh S G lv pc (.int x :: rest) := fun T I P h => mJ_if_ne X hd ht (fun q => kt q T I P h) (fun q => kf q T I P h)
theorem rJ_icmp_lt (X : mX p s m meth c args cc nL own ret TT NN D cl b) {x y : Int32} {off : Int} {tgt : Nat} (hd : decode cc pc = .ok (.if_icmp .lt off, 3)) (ht : (pc : Int) + off = (tgt : Int)) (kt : x < y → rJ p l e R s m args below meth c D cl ty b nL Z cells slots A Sh S G lv tgt rest) (kf : ¬ x < y → rJ p l e R s m args below meth c D cl ty b nL Z cells slots A Sh S G lv (pc + 3) rest) : rJ p l e R s m args below meth c D cl ty b nL Z cells slots A Sh S G lv pc (.int y :: .int x :: rest) := fun T I P h => mJ_icmp_lt X hd ht (fun q => kt q T I P h) (fun q => kf q T I P h)
theorem rJ_if_lt (X : mX p s m meth c args cc nL own ret TT NN D cl b) {x : Int32} {off : Int} {tgt : Nat} (hd : decode cc pc = .ok (.ifCond .lt off, 3)) (ht : (pc : Int) + off = (tgt : Int)) (kt : x < 0 → rJ p l e R s m args below meth c D cl ty b nL Z cells slots A Sh S G lv tgt rest) (kf : ¬ x < 0 → rJ p l e R s m args below meth c D cl ty b nL Z cells slots A Sh S G lv (pc + 3) rest) : rJ p l e R s m args below meth c D cl ty b nL Z cells slots A Sh S G lv pc (.int x :: rest) := fun T I P h => mJ_if_lt X hd ht (fun q => kt q T I P h) (fun q => kf q T I P h)
theorem rJ_icmp_ge (X : mX p s m meth c args cc nL own ret TT NN D cl b) {x y : Int32} {off : Int} {tgt : Nat} (hd : decode cc pc = .ok (.if_icmp .ge off, 3)) (ht : (pc : Int) + off = (tgt : Int)) (kt : y ≤ x → rJ p l e R s m args below meth c D cl ty b nL Z cells slots A Sh S G lv tgt rest) (kf : ¬ y ≤ x → rJ p l e R s m args below meth c D cl ty b nL Z cells slots A Sh S G lv (pc + 3) rest) : rJ p l e R s m args below meth c D cl ty b nL Z cells slots A Sh S G lv pc (.int y :: .int x :: rest) := fun T I P h => mJ_icmp_ge X hd ht (fun q => kt q T I P h) (fun q => kf q T I P h)
theorem rJ_if_ge (X : mX p s m meth c args cc nL own ret TT NN D cl b) {x : Int32} {off : Int} {tgt : Nat} (hd : decode cc pc = .ok (.ifCond .ge off, 3)) (ht : (pc : Int) + off = (tgt : Int)) (kt : 0 ≤ x → rJ p l e R s m args below meth c D cl ty b nL Z cells slots A Sh S G lv tgt rest) (kf : ¬ 0 ≤ x → rJ p l e R s m args below meth c D cl ty b nL Z cells slots A Sh S G lv (pc + 3) rest) : rJ p l e R s m args below meth c D cl ty b nL Z cells slots A Sh S G lv pc (.int x :: rest) := fun T I P h => mJ_if_ge X hd ht (fun q => kt q T I P h) (fun q => kf q T I P h)
theorem rJ_icmp_gt (X : mX p s m meth c args cc nL own ret TT NN D cl b) {x y : Int32} {off : Int} {tgt : Nat} (hd : decode cc pc = .ok (.if_icmp .gt off, 3)) (ht : (pc : Int) + off = (tgt : Int)) (kt : y < x → rJ p l e R s m args below meth c D cl ty b nL Z cells slots A Sh S G lv tgt rest) (kf : ¬ y < x → rJ p l e R s m args below meth c D cl ty b nL Z cells slots A Sh S G lv (pc + 3) rest) : rJ p l e R s m args below meth c D cl ty b nL Z cells slots A Sh S G lv pc (.int y :: .int x :: rest) := fun T I P h => mJ_icmp_gt X hd ht (fun q => kt q T I P h) (fun q => kf q T I P h)
theorem rJ_if_gt (X : mX p s m meth c args cc nL own ret TT NN D cl b) {x : Int32} {off : Int} {tgt : Nat} (hd : decode cc pc = .ok (.ifCond .gt off, 3)) (ht : (pc : Int) + off = (tgt : Int)) (kt : 0 < x → rJ p l e R s m args below meth c D cl ty b nL Z cells slots A Sh S G lv tgt rest) (kf : ¬ 0 < x → rJ p l e R s m args below meth c D cl ty b nL Z cells slots A Sh S G lv (pc + 3) rest) : rJ p l e R s m args below meth c D cl ty b nL Z cells slots A Sh S G lv pc (.int x :: rest) := fun T I P h => mJ_if_gt X hd ht (fun q => kt q T I P h) (fun q => kf q T I P h)
theorem rJ_icmp_le (X : mX p s m meth c args cc nL own ret TT NN D cl b) {x y : Int32} {off : Int} {tgt : Nat} (hd : decode cc pc = .ok (.if_icmp .le off, 3)) (ht : (pc : Int) + off = (tgt : Int)) (kt : x ≤ y → rJ p l e R s m args below meth c D cl ty b nL Z cells slots A Sh S G lv tgt rest) (kf : ¬ x ≤ y → rJ p l e R s m args below meth c D cl ty b nL Z cells slots A Sh S G lv (pc + 3) rest) : rJ p l e R s m args below meth c D cl ty b nL Z cells slots A Sh S G lv pc (.int y :: .int x :: rest) := fun T I P h => mJ_icmp_le X hd ht (fun q => kt q T I P h) (fun q => kf q T I P h)
theorem rJ_if_le (X : mX p s m meth c args cc nL own ret TT NN D cl b) {x : Int32} {off : Int} {tgt : Nat} (hd : decode cc pc = .ok (.ifCond .le off, 3)) (ht : (pc : Int) + off = (tgt : Int)) (kt : x ≤ 0 → rJ p l e R s m args below meth c D cl ty b nL Z cells slots A Sh S G lv tgt rest) (kf : ¬ x ≤ 0 → rJ p l e R s m args below meth c D cl ty b nL Z cells slots A Sh S G lv (pc + 3) rest) : rJ p l e R s m args below meth c D cl ty b nL Z cells slots A Sh S G lv pc (.int x :: rest) := fun T I P h => mJ_if_le X hd ht (fun q => kt q T I P h) (fun q => kf q T I P h)
theorem rJ_goto (X : mX p s m meth c args cc nL own ret TT NN D cl b) {off : Int} {tgt : Nat} (hd : decode cc pc = .ok (.goto off, 3)) (ht : (pc : Int) + off = (tgt : Int)) (k : rJ p l e R s m args below meth c D cl ty b nL Z cells slots A Sh S G lv tgt rest) : rJ p l e R s m args below meth c D cl ty b nL Z cells slots A Sh S G lv pc rest := fun T I P h => mJ_goto X hd ht (k T I P h)
theorem rJ_tabOut (X : mX p s m meth c args cc nL own ret TT NN D cl b) {dflt lo hi : Int} {offs : Array Int} {len : Nat} {x : Int32} {tgt : Nat} (hd : decode cc pc = .ok (.tableswitch dflt lo hi offs, len)) (hh : x.toInt < lo ∨ hi < x.toInt) (ht : (pc : Int) + dflt = (tgt : Int)) (k : rJ p l e R s m args below meth c D cl ty b nL Z cells slots A Sh S G lv tgt rest) : rJ p l e R s m args below meth c D cl ty b nL Z cells slots A Sh S G lv pc (.int x :: rest) := fun T I P h => mJ_tabOut X hd hh ht (k T I P h)
theorem rJ_tabIn (X : mX p s m meth c args cc nL own ret TT NN D cl b) {dflt lo hi : Int} {offs : Array Int} {len : Nat} {x : Int32} {off : Int} {tgt : Nat} (hd : decode cc pc = .ok (.tableswitch dflt lo hi offs, len)) (g1 : ¬ x.toInt < lo) (g2 : ¬ hi < x.toInt) (ho : offs[(x.toInt - lo).toNat]? = some off) (ht : (pc : Int) + off = (tgt : Int)) (k : rJ p l e R s m args below meth c D cl ty b nL Z cells slots A Sh S G lv tgt rest) : rJ p l e R s m args below meth c D cl ty b nL Z cells slots A Sh S G lv pc (.int x :: rest) := fun T I P h => mJ_tabIn X hd g1 g2 ho ht (k T I P h)
theorem rJ_lookup (X : mX p s m meth c args cc nL own ret TT NN D cl b) {dflt : Int} {ps : Array (Int × Int)} {len : Nat} {x : Int32} {off : Int} {tgt : Nat} (hd : decode cc pc = .ok (.lookupswitch dflt ps, len)) (hp : (ps.toList.zip (ps.toList.drop 1)).all (fun (a, next) => a.1 < next.1) = true) (ho : Op.lookupswitch.offset ps.toList dflt x.toInt = off) (ht : (pc : Int) + off = (tgt : Int)) (k : rJ p l e R s m args below meth c D cl ty b nL Z cells slots A Sh S G lv tgt rest) : rJ p l e R s m args below meth c D cl ty b nL Z cells slots A Sh S G lv pc (.int x :: rest) := fun T I P h => mJ_lookup X hd hp ho ht (k T I P h)
theorem rJ_getI (X : mX p s m meth c args cc nL own ret TT NN D cl b) {r ci k idx : Nat} (hf : mF cl ty TT own idx ci k 0) (hr : Sh r = some (0, ci, 0)) (hd : decode cc pc = .ok (.getfield idx, 3)) (kk : rJ p l e R s m args below meth c D cl ty b nL Z cells slots A Sh S G lv (pc + 3) (.int (S r k) :: rest)) : rJ p l e R s m args below meth c D cl ty b nL Z cells slots A Sh S G lv pc (.ref (A r) :: rest) := fun T I P h => mJ_getI X hf (h.sh hr) hd (by rw [h.num hr k]; exact kk T I P h)
theorem rJ_getR (X : mX p s m meth c args cc nL own ret TT NN D cl b) {r q ci k idx : Nat} (hf : mF cl ty TT own idx ci k 1) (hr : Sh r = some (0, ci, 0)) (hg : G r k = some q) (hd : decode cc pc = .ok (.getfield idx, 3)) (kk : rJ p l e R s m args below meth c D cl ty b nL Z cells slots A Sh S G lv (pc + 3) (.ref (A q) :: rest)) : rJ p l e R s m args below meth c D cl ty b nL Z cells slots A Sh S G lv pc (.ref (A r) :: rest) := fun T I P h => mJ_getR X hf (h.sh hr) (h.ptr hr hg) hd (kk T I P h)
theorem rJ_setI (X : mX p s m meth c args cc nL own ret TT NN D cl b) {r ci k idx : Nat} {v : Int32} (hf : mF cl ty TT own idx ci k 0) (hw : mFw cl own ci k ∨ meth.name = "<init>") (hr : Sh r = some (0, ci, 0)) (hn : narrow (ty ci k) (.int v) = .int v ∧ fits (ty ci k) (.int v) = true) (hd : decode cc pc = .ok (.putfield idx, 3)) (kk : ∀ S' : mI, S' = mu S r k v → rJ p l e R s m args below meth c D cl ty b nL Z cells slots A Sh S' G lv (pc + 3) rest) : rJ p l e R s m args below meth c D cl ty b nL Z cells slots A Sh S G lv pc (.int v :: .ref (A r) :: rest) := fun T I P h => mJ_setI X hf hw (h.sh hr) hn hd (fun I' e => by rw [e]; exact kk _ rfl T _ P (h.set hr k v))
theorem rJ_setR (X : mX p s m meth c args cc nL own ret TT NN D cl b) {r q ci k idx : Nat} (hf : mF cl ty TT own idx ci k 1) (hw : mFw cl own ci k ∨ meth.name = "<init>") (hr : Sh r = some (0, ci, 0)) (hd : decode cc pc = .ok (.putfield idx, 3)) (kk : ∀ G' : mP, G' = mu G r k (some q) → rJ p l e R s m args below meth c D cl ty b nL Z cells slots A Sh S G' lv (pc + 3) rest) : rJ p l e R s m args below meth c D cl ty b nL Z cells slots A Sh S G lv pc (.ref (A q) :: .ref (A r) :: rest) := fun T I P h => mJ_setR X hf hw (h.sh hr) hd (fun P' e => by rw [e]; exact kk _ rfl T I _ (h.setP hr k q))
theorem rJ_iald (X : mX p s m meth c args cc nL own ret TT NN D cl b) {r n : Nat} {i : Int32} (hr : Sh r = some (1, 0, n)) (hin : vp_in i n) (hd : decode cc pc = .ok (.iaload, 1)) (kk : rJ p l e R s m args below meth c D cl ty b nL Z cells slots A Sh S G lv (pc + 1) (.int (S r i.toNatClampNeg) :: rest)) : rJ p l e R s m args below meth c D cl ty b nL Z cells slots A Sh S G lv pc (.int i :: .ref (A r) :: rest) := fun T I P h => mJ_iald X (h.sh hr) hin hd (by rw [h.num hr]; exact kk T I P h)
theorem rJ_zald (X : mX p s m meth c args cc nL own ret TT NN D cl b) {r n : Nat} {i : Int32} (hr : Sh r = some (2, 0, n)) (hin : vp_in i n) (hd : decode cc pc = .ok (.baload, 1)) (kk : rJ p l e R s m args below meth c D cl ty b nL Z cells slots A Sh S G lv (pc + 1) (.int (S r i.toNatClampNeg) :: rest)) : rJ p l e R s m args below meth c D cl ty b nL Z cells slots A Sh S G lv pc (.int i :: .ref (A r) :: rest) := fun T I P h => mJ_zald X (h.sh hr) hin hd (by rw [h.num hr]; exact kk T I P h)
theorem rJ_iast (X : mX p s m meth c args cc nL own ret TT NN D cl b) {r n : Nat} {i x : Int32} (hr : Sh r = some (1, 0, n)) (hin : vp_in i n) (hd : decode cc pc = .ok (.iastore, 1)) (kk : ∀ S' : mI, S' = mu S r i.toNatClampNeg x → rJ p l e R s m args below meth c D cl ty b nL Z cells slots A Sh S' G lv (pc + 1) rest) : rJ p l e R s m args below meth c D cl ty b nL Z cells slots A Sh S G lv pc (.int x :: .int i :: .ref (A r) :: rest) := fun T I P h => mJ_iast X (h.sh hr) hin hd (fun I' e => by rw [e]; exact kk _ rfl T _ P (h.set hr _ x))
theorem rJ_zast (X : mX p s m meth c args cc nL own ret TT NN D cl b) {r n : Nat} {i x : Int32} (hr : Sh r = some (2, 0, n)) (hin : vp_in i n) (hx : vp_nar .boolean x = x) (hd : decode cc pc = .ok (.bastore, 1)) (kk : ∀ S' : mI, S' = mu S r i.toNatClampNeg x → rJ p l e R s m args below meth c D cl ty b nL Z cells slots A Sh S' G lv (pc + 1) rest) : rJ p l e R s m args below meth c D cl ty b nL Z cells slots A Sh S G lv pc (.int x :: .int i :: .ref (A r) :: rest) := fun T I P h => mJ_zast X (h.sh hr) hin hx hd (fun I' e => by rw [e]; exact kk _ rfl T _ P (h.set hr _ x))
theorem rJ_aald (X : mX p s m meth c args cc nL own ret TT NN D cl b) {r j n q : Nat} {i : Int32} (hr : Sh r = some (j + 3, 0, n)) (hin : vp_in i n) (hg : G r i.toNatClampNeg = some q) (hd : decode cc pc = .ok (.aaload, 1)) (kk : rJ p l e R s m args below meth c D cl ty b nL Z cells slots A Sh S G lv (pc + 1) (.ref (A q) :: rest)) : rJ p l e R s m args below meth c D cl ty b nL Z cells slots A Sh S G lv pc (.int i :: .ref (A r) :: rest) := fun T I P h => mJ_aald X (h.sh hr) hin (h.ptr hr hg) hd (kk T I P h)
theorem rJ_aast (X : mX p s m meth c args cc nL own ret TT NN D cl b) {r j n q : Nat} {i : Int32} (hr : Sh r = some (j + 3, 0, n)) (hq : Sh q = some (0, j, 0)) (hin : vp_in i n) (hd : decode cc pc = .ok (.aastore, 1)) (kk : ∀ G' : mP, G' = mu G r i.toNatClampNeg (some q) → rJ p l e R s m args below meth c D cl ty b nL Z cells slots A Sh S G' lv (pc + 1) rest) : rJ p l e R s m args below meth c D cl ty b nL Z cells slots A Sh S G lv pc (.ref (A q) :: .int i :: .ref (A r) :: rest) := fun T I P h => mJ_aast X (h.sh hr) (h.sh hq) hin hd (fun P' e => by rw [e]; exact kk _ rfl T I _ (h.setP hr _ q))
theorem rJ_alen (X : mX p s m meth c args cc nL own ret TT NN D cl b) {r n : Nat} {v : Int32} (hr : Sh r = some (1, 0, n)) (hv : Int32.ofNat n = v) (hd : decode cc pc = .ok (.arraylength, 1)) (kk : rJ p l e R s m args below meth c D cl ty b nL Z cells slots A Sh S G lv (pc + 1) (.int v :: rest)) : rJ p l e R s m args below meth c D cl ty b nL Z cells slots A Sh S G lv pc (.ref (A r) :: rest) := fun T I P h => mJ_alen X (h.sh hr) hv hd (kk T I P h)
theorem rJ_copy (X : mX p s m meth c args cc nL own ret TT NN D cl b) {idx r0 r n0 n1 : Nat} (hl : Cond.methodLink own idx arraycopyName ∈ TT) (hnat : Cond.native arraycopyName ∈ TT) (hstat : Cond.static arraycopyName ∈ TT) (hini : Cond.initialized "java/lang/System" ∈ TT) (hr0 : Sh r0 = some (1, 0, n0)) (hr : Sh r = some (1, 0, n1)) {sp dp n : Int32} (h1 : ¬ sp < 0) (h2 : ¬ dp < 0) (h3 : ¬ n < 0) (h4 : sp.toNatClampNeg + n.toNatClampNeg ≤ n0) (h5 : dp.toNatClampNeg + n.toNatClampNeg ≤ n1) (hframes : 1 ≤ R.frames) (hlocals : (rest.map fun v => v.category).sum + (nativeFrameWords "java/lang/System" "arraycopy" 5 + 11) ≤ R.locals) (hd : decode cc pc = .ok (.invokestatic idx, 3))
    (kk : ∀ S' : mI, S' = (fun x => if x = r then va_cpy (S r0) (S r) sp.toNatClampNeg dp.toNatClampNeg n.toNatClampNeg else S x) → rJ p l e R s m args below meth c D cl ty b nL Z cells slots A Sh S' G lv (pc + 3) rest) : rJ p l e R s m args below meth c D cl ty b nL Z cells slots A Sh S G lv pc (.int n :: .int dp :: .ref (A r) :: .int sp :: .ref (A r0) :: rest) := fun T I P h => mJ_copy X hl hnat hstat hini (h.sh hr0) (h.sh hr) h1 h2 h3 h4 h5 hframes hlocals hd (fun I' e => by
      have e0 : I (A r0) = S r0 := (h.1 r0 _ hr0).2.1
      have e1 : I (A r) = S r := (h.1 r _ hr).2.1
      rw [e, e0, e1]
      exact kk _ rfl T _ P (h.row hr _))
theorem rJ_objInit (X : mX p s m meth c args cc nL own ret TT NN D cl b) {idx a : Nat} (hl : Cond.methodLink own idx Lib.objectInit ∈ TT) (hin : Cond.instanceMethod Lib.objectInit ∈ TT) (hco : Cond.code Lib.objectInit ⟨#[0xb1]⟩ 1 none ∈ TT) (hd : decode cc pc = .ok (.invokespecial idx, 3)) (hfr : 1 ≤ R.frames) (hlo : (rest.map fun v => v.category).sum + 12 ≤ R.locals) (k : rJ p l e R s m args below meth c D cl ty b nL Z cells slots A Sh S G lv (pc + 3) rest) : rJ p l e R s m args below meth c D cl ty b nL Z cells slots A Sh S G lv pc (.ref a :: rest) := fun T I P h => mJ_objInit X hl hin hco hd hfr hlo (k T I P h)
end RJ
/-- a contract over labels -/
abbrev rP : Type := Option Value → (Nat → Nat) → mS → mI → mP → Prop
def rPost (post : rP) : Option Value → mT → mI → mP → Prop := fun v T' I' P' => ∃ A' Sh' S' G', post v A' Sh' S' G' ∧ rl A' Sh' S' G' T' I' P'
def rMet (l : Launch) (D : va_G) (b : Nat) (y : MethodName) (bytes : ByteArray) (maxL : Nat) (ret : Option FieldType) (rm : Room) (A : Nat → Nat) (Sh : mS) (S : mI) (G : mP) (av : List Value) (post : rP) : Prop :=
  ∀ (T : mT) (I : mI) (P : mP), rl A Sh S G T I P → mMet l D vwCl mty b TT NN y bytes maxL ret rm T I P av (rPost post)
abbrev rPi (A : Nat → Nat) (Sh : mS) (r : Int32) (S2 : mI) (G2 : mP) : rP := fun v A' Sh' S' G' => v = some (.int r) ∧ A' = A ∧ Sh' = Sh ∧ S' = S2 ∧ G' = G2
abbrev rPr (A : Nat → Nat) (Sh : mS) (r : Nat) (S2 : mI) (G2 : mP) : rP := fun v A' Sh' S' G' => v = some (.ref (A r)) ∧ A' = A ∧ Sh' = Sh ∧ S' = S2 ∧ G' = G2
abbrev rPv (A : Nat → Nat) (Sh : mS) (S2 : mI) (G2 : mP) : rP := fun v A' Sh' S' G' => v = none ∧ A' = A ∧ Sh' = Sh ∧ S' = S2 ∧ G' = G2
section RK
variable {p : Program} {l : Launch} {e : Env} {R : Room} {s : State} {m : MethodId} {args : Array Value} {below : List Frame} {meth : Method} {c : Code}
variable {D : va_G} {b nL : Nat} {Z : State → Prop} {cells slots : Nat} {A : Nat → Nat} {Sh : mS} {S : mI} {G : mP} {lv : List (Nat × Value)} {pc : Nat} {rest : List Value}
variable {cc : ByteArray} {own : String} {ret : Option FieldType}
theorem rMet_of {y : MethodName} {bytes : ByteArray} {maxL : Nat} {ret : Option FieldType} {rm : Room} {av : List Value} {post : rP} (own : String) (hown : y.cls = own) (hy : plainName y.cls = true) (hav : (lg_sl av).length ≤ maxL)
    (body : ∀ p e s m args below meth c, mX p s m meth c args bytes maxL own ret TT NN D vwCl b → meth.name = y.name → rJ p l e rm s m args below meth c D vwCl mty b maxL (MQ below (mPost D vwCl mty b (rPost post)) args s rm.cells rm.slots (fun q => b ≤ q)) 0 0 A Sh S G (lv_args 0 av) 0 []) : rMet l D b y bytes maxL ret rm A Sh S G av post :=
  fun T I P h => mMet_of own hown hy TT_good NN_w hav (fun p e s m args below meth c X hn => body p e s m args below meth c X hn T I P h)
theorem rJ_iret (X : mX p s m meth c args cc nL own (some .int) TT NN D vwCl b) {post : rP} {v : Int32} (hd : decode cc pc = .ok (.ireturn, 1)) (hp : post (some (.int v)) A Sh S G) : rJ p l e R s m args below meth c D vwCl mty b nL (MQ below (mPost D vwCl mty b (rPost post)) args s cells slots (fun q => b ≤ q)) cells slots A Sh S G lv pc [.int v] := fun T I P h => mJ_iret X hd ⟨A, Sh, S, G, hp, h⟩
theorem rJ_zret (X : mX p s m meth c args cc nL own (some .boolean) TT NN D vwCl b) {post : rP} {v : Int32} (hd : decode cc pc = .ok (.ireturn, 1)) (hn : narrow .boolean (.int v) = .int v) (hp : post (some (.int v)) A Sh S G) : rJ p l e R s m args below meth c D vwCl mty b nL (MQ below (mPost D vwCl mty b (rPost post)) args s cells slots (fun q => b ≤ q)) cells slots A Sh S G lv pc [.int v] := fun T I P h => mJ_zret X hd hn ⟨A, Sh, S, G, hp, h⟩
theorem rJ_cret (X : mX p s m meth c args cc nL own (some .char) TT NN D vwCl b) {post : rP} {v : Int32} (hd : decode cc pc = .ok (.ireturn, 1)) (hn : narrow .char (.int v) = .int v) (hp : post (some (.int v)) A Sh S G) : rJ p l e R s m args below meth c D vwCl mty b nL (MQ below (mPost D vwCl mty b (rPost post)) args s cells slots (fun q => b ≤ q)) cells slots A Sh S G lv pc [.int v] := fun T I P h => mJ_cret X hd hn ⟨A, Sh, S, G, hp, h⟩
theorem rJ_vret (X : mX p s m meth c args cc nL own none TT NN D vwCl b) {post : rP} (hd : decode cc pc = .ok (.return_, 1)) (hp : post none A Sh S G) : rJ p l e R s m args below meth c D vwCl mty b nL (MQ below (mPost D vwCl mty b (rPost post)) args s cells slots (fun q => b ≤ q)) cells slots A Sh S G lv pc [] := fun T I P h => mJ_vret X hd ⟨A, Sh, S, G, hp, h⟩
theorem rJ_aret {rt : FieldType} (X : mX p s m meth c args cc nL own (some rt) TT NN D vwCl b) (hrt : (∃ n, rt = .object n) ∨ ∃ t, rt = .array t) {post : rP} {r : Nat} (hd : decode cc pc = .ok (.areturn, 1)) (hp : post (some (.ref (A r))) A Sh S G) : rJ p l e R s m args below meth c D vwCl mty b nL (MQ below (mPost D vwCl mty b (rPost post)) args s cells slots (fun q => b ≤ q)) cells slots A Sh S G lv pc [.ref (A r)] := fun T I P h => mJ_aret X hrt hd ⟨A, Sh, S, G, hp, h⟩
theorem rJ_callV (X : mX p s m meth c args cc nL own ret TT NN D vwCl b) {y : MethodName} {bytes : ByteArray} {maxL n idx r ci : Nat} {ry : Option FieldType} {rm : Room} {As : List Value} {post : rP} (hg : mG vwCl TT own idx y bytes maxL ry n ci) (hM : rMet l D b y bytes maxL ry rm A Sh S G (.ref (A r) :: As) post) (hr : Sh r = some (0, ci, 0)) (hn : As.length = n) {st0 : List Value} (hst : st0 = As.reverse ++ .ref (A r) :: rest) (hW : (rest.map fun v => v.category).sum ≤ 8) (hR : rm.frames + 1 ≤ R.frames ∧ 8 + (maxL + 11) + rm.locals ≤ R.locals) (hf : cells + rm.cells ≤ R.cells ∧ slots + rm.slots ≤ R.slots) (hd : decode cc pc = .ok (.invokevirtual idx, 3)) (kk : ∀ (v : Option Value) (A' : Nat → Nat) (Sh' : mS) (S' : mI) (G' : mP), post v A' Sh' S' G' → rJ p l e R s m args below meth c D vwCl mty b nL Z (cells + rm.cells) (slots + rm.slots) A' Sh' S' G' lv (pc + 3) (v.toList ++ rest)) : rJ p l e R s m args below meth c D vwCl mty b nL Z cells slots A Sh S G lv pc st0 := fun T I P h => by
  obtain ⟨h1, ⟨F, N, h2⟩, h3, h4, h5⟩ := hg
  exact mJ_callV X (hM T I P h) h1 h2 (h.sh hr) h3 h4 h5 hn hst hW hR hf hd (fun v T' I' P' hp => by obtain ⟨A', Sh', S', G', hp, hl⟩ := hp; exact kk v A' Sh' S' G' hp T' I' P' hl)
theorem rJ_callI (X : mX p s m meth c args cc nL own ret TT NN D vwCl b) {y : MethodName} {bytes : ByteArray} {maxL n idx a : Nat} {rm : Room} {As : List Value} {post : rP} (hy : mMe TT y bytes maxL none n) (hl : Cond.methodLink own idx y ∈ TT) (hin : Cond.instanceMethod y ∈ TT) (hnm : y.name = "<init>") (hM : rMet l D b y bytes maxL none rm A Sh S G (.ref a :: As) post) (hn : As.length = n) {st0 : List Value} (hst : st0 = As.reverse ++ .ref a :: rest) (hW : (rest.map fun v => v.category).sum ≤ 8) (hR : rm.frames + 1 ≤ R.frames ∧ 8 + (maxL + 11) + rm.locals ≤ R.locals) (hf : cells + rm.cells ≤ R.cells ∧ slots + rm.slots ≤ R.slots) (hd : decode cc pc = .ok (.invokespecial idx, 3)) (kk : ∀ (v : Option Value) (A' : Nat → Nat) (Sh' : mS) (S' : mI) (G' : mP), post v A' Sh' S' G' → rJ p l e R s m args below meth c D vwCl mty b nL Z (cells + rm.cells) (slots + rm.slots) A' Sh' S' G' lv (pc + 3) (v.toList ++ rest)) : rJ p l e R s m args below meth c D vwCl mty b nL Z cells slots A Sh S G lv pc st0 := fun T I P h =>
  mJ_callI X (hM T I P h) hy hl hin hnm hn hst hW hR hf hd (fun v T' I' P' hp => by obtain ⟨A', Sh', S', G', hp, hl⟩ := hp; exact kk v A' Sh' S' G' hp T' I' P' hl)
theorem rJ_callIN (X : mX p s m meth c args cc nL own ret TT NN D vwCl b) {y : MethodName} {bytes : ByteArray} {maxL n idx a : Nat} {host : String} {rm : Room} {As : List Value} {post : rP} (hy : mMe TT y bytes maxL none n) (hl : ∀ U : State, NN U → va_Nw (.methodLinkNest own idx y host) U) (hin : Cond.instanceMethod y ∈ TT) (hnm : y.name = "<init>") (hM : rMet l D b y bytes maxL none rm A Sh S G (.ref a :: As) post) (hn : As.length = n) {st0 : List Value} (hst : st0 = As.reverse ++ .ref a :: rest) (hW : (rest.map fun v => v.category).sum ≤ 8) (hR : rm.frames + 1 ≤ R.frames ∧ 8 + (maxL + 11) + rm.locals ≤ R.locals) (hf : cells + rm.cells ≤ R.cells ∧ slots + rm.slots ≤ R.slots) (hd : decode cc pc = .ok (.invokespecial idx, 3)) (kk : ∀ (v : Option Value) (A' : Nat → Nat) (Sh' : mS) (S' : mI) (G' : mP), post v A' Sh' S' G' → rJ p l e R s m args below meth c D vwCl mty b nL Z (cells + rm.cells) (slots + rm.slots) A' Sh' S' G' lv (pc + 3) (v.toList ++ rest)) : rJ p l e R s m args below meth c D vwCl mty b nL Z cells slots A Sh S G lv pc st0 := fun T I P h =>
  mJ_callIN X (hM T I P h) hy (hl s X.2.2.2.2.2.2.2.2.2.1) hin hnm hn hst hW hR hf hd (fun v T' I' P' hp => by obtain ⟨A', Sh', S', G', hp, hl⟩ := hp; exact kk v A' Sh' S' G' hp T' I' P' hl)
theorem rJ_new (X : mX p s m meth c args cc nL own ret TT NN D vwCl b) {ci idx : Nat} {C : String} {F : u_T} {N : Nat} (r : Nat) (hC : mCl vwCl mty TT ci C F N) (hcl : Cond.classLink own idx C ∈ TT) (hinst : Cond.instantiable C N ∈ TT) (hini : Cond.initialized C ∈ TT) (hdef : ∀ j, j < N → defaultValue (mty ci j) = mv (mty ci j) 0 none) (hcells : cells + 1 ≤ R.cells) (hslots : slots + N ≤ R.slots) (hd : decode cc pc = .ok (.new idx, 3)) (hr : Sh r = none) (hG : ∀ z k, (Sh z).isSome = true → G z k ≠ some r)
    (kk : ∀ (a : Nat) (A' : Nat → Nat), A' = (fun x => if x = r then a else A x) → b ≤ a → rJ p l e R s m args below meth c D vwCl mty b nL Z (cells + 1) (slots + N) A' (mTn Sh r (0, ci, 0)) (mIn S r) (mPn G r) lv (pc + 3) (.ref (A' r) :: rest)) : rJ p l e R s m args below meth c D vwCl mty b nL Z cells slots A Sh S G lv pc rest := fun T I P h => by
  refine mJ_new X hC hcl hinst hini hdef hcells hslots hd (fun q hq hb => ?_)
  have := kk q _ rfl hb _ _ _ (h.new r q (0, ci, 0) hr hq hG)
  simpa using this
theorem rJ_newa (X : mX p s m meth c args cc nL own ret TT NN D vwCl b) {n : Int32} {N : Nat} (r : Nat) (hn : ¬ n < 0) (hN : n.toNatClampNeg = N) (hbytes : N * componentBytes .int ≤ 536870912) (hcells : cells + 1 ≤ R.cells) (hslots : slots + N ≤ R.slots) (hd : decode cc pc = .ok (.newarray .int, 2)) (hr : Sh r = none) (hG : ∀ z k, (Sh z).isSome = true → G z k ≠ some r)
    (kk : ∀ (a : Nat) (A' : Nat → Nat), A' = (fun x => if x = r then a else A x) → b ≤ a → rJ p l e R s m args below meth c D vwCl mty b nL Z (cells + 1) (slots + N) A' (mTn Sh r (1, 0, N)) (mIn S r) (mPn G r) lv (pc + 2) (.ref (A' r) :: rest)) : rJ p l e R s m args below meth c D vwCl mty b nL Z cells slots A Sh S G lv pc (.int n :: rest) := fun T I P h => by
  refine mJ_newa X rfl kAI hn hN hbytes hcells hslots hd (fun q hq hb => ?_)
  have := kk q _ rfl hb _ _ _ (h.new r q (1, 0, N) hr hq hG)
  simpa using this
theorem rJ_newz (X : mX p s m meth c args cc nL own ret TT NN D vwCl b) {n : Int32} {N : Nat} (r : Nat) (hn : ¬ n < 0) (hN : n.toNatClampNeg = N) (hbytes : N * componentBytes .boolean ≤ 536870912) (hcells : cells + 1 ≤ R.cells) (hslots : slots + N ≤ R.slots) (hd : decode cc pc = .ok (.newarray .boolean, 2)) (hr : Sh r = none) (hG : ∀ z k, (Sh z).isSome = true → G z k ≠ some r)
    (kk : ∀ (a : Nat) (A' : Nat → Nat), A' = (fun x => if x = r then a else A x) → b ≤ a → rJ p l e R s m args below meth c D vwCl mty b nL Z (cells + 1) (slots + N) A' (mTn Sh r (2, 0, N)) (mIn S r) (mPn G r) lv (pc + 2) (.ref (A' r) :: rest)) : rJ p l e R s m args below meth c D vwCl mty b nL Z cells slots A Sh S G lv pc (.int n :: rest) := fun T I P h => by
  refine mJ_newz X rfl kAZ hn hN hbytes hcells hslots hd (fun q hq hb => ?_)
  have := kk q _ rfl hb _ _ _ (h.new r q (2, 0, N) hr hq hG)
  simpa using this
theorem rJ_newq (X : mX p s m meth c args cc nL own ret TT NN D vwCl b) {n : Int32} {N j idx : Nat} {q0 : vw_C} (r : Nat) (hc : vwCl[j]? = some q0) (hcl : Cond.classLink own idx q0.1 ∈ TT) (hov : ∀ U : State, NN U → va_AO q0.1 U) (hn : ¬ n < 0) (hN : n.toNatClampNeg = N) (hbytes : N * 4 ≤ 536870912) (hcells : cells + 1 ≤ R.cells) (hslots : slots + N ≤ R.slots) (hd : decode cc pc = .ok (.anewarray idx, 3)) (hr : Sh r = none) (hG : ∀ z k, (Sh z).isSome = true → G z k ≠ some r)
    (kk : ∀ (a : Nat) (A' : Nat → Nat), A' = (fun x => if x = r then a else A x) → b ≤ a → rJ p l e R s m args below meth c D vwCl mty b nL Z (cells + 1) (slots + N) A' (mTn Sh r (j + 3, 0, N)) (mIn S r) (mPn G r) lv (pc + 3) (.ref (A' r) :: rest)) : rJ p l e R s m args below meth c D vwCl mty b nL Z cells slots A Sh S G lv pc (.int n :: rest) := fun T I P h => by
  refine mJ_newq X hc hcl (va_AO.use (hov s X.2.2.2.2.2.2.2.2.2.1)) hn hN hbytes hcells hslots hd (fun q hq hb => ?_)
  have := kk q _ rfl hb _ _ _ (h.new r q (j + 3, 0, N) hr hq hG)
  simpa using this
theorem rJ_Vi0 (X : mX p s m meth c args cc nL own ret TT NN D vwCl b) {y : MethodName} {bytes : ByteArray} {maxL idx r ci k : Nat} {ry : Option FieldType} {w : Int32} {S2 : mI} {G2 : mP} (hg : mG vwCl TT own idx y bytes maxL ry 0 ci) (hM : rMet l D b y bytes maxL ry (mR k) A Sh S G [.ref (A r)] (rPi A Sh w S2 G2)) (hr : Sh r = some (0, ci, 0)) (hd : decode cc pc = .ok (.invokevirtual idx, 3)) (hR : k + 1 ≤ R.frames ∧ 8 + (maxL + 11) + 33 * k ≤ R.locals) (hW : (rest.map fun v => v.category).sum ≤ 8) (hcs : cells ≤ R.cells ∧ slots ≤ R.slots) (kk : rJ p l e R s m args below meth c D vwCl mty b nL Z cells slots A Sh S2 G2 lv (pc + 3) (.int w :: rest)) : rJ p l e R s m args below meth c D vwCl mty b nL Z cells slots A Sh S G lv pc (.ref (A r) :: rest) := fun T I P h => by
  obtain ⟨h1, ⟨F, N, h2⟩, h3, h4, h5⟩ := hg
  exact mJ_callV X (As := []) (hM T I P h) h1 h2 (h.sh hr) h3 h4 h5 rfl rfl hW hR hcs hd (fun v T' I' P' hp => by obtain ⟨A', Sh', S', G', ⟨rfl, rfl, rfl, rfl, rfl⟩, hl⟩ := hp; exact kk T' I' P' hl)
theorem rJ_Si0 (X : mX p s m meth c args cc nL own ret TT NN D vwCl b) {y : MethodName} {bytes : ByteArray} {maxL idx k : Nat} {ry : Option FieldType} {w : Int32} {S2 : mI} {G2 : mP} (hg : mGS TT own idx y bytes maxL ry 0) (hM : rMet l D b y bytes maxL ry (mR k) A Sh S G [] (rPi A Sh w S2 G2)) (hd : decode cc pc = .ok (.invokestatic idx, 3)) (hR : k + 1 ≤ R.frames ∧ 8 + (maxL + 11) + 33 * k ≤ R.locals) (hW : (rest.map fun v => v.category).sum ≤ 8) (hcs : cells ≤ R.cells ∧ slots ≤ R.slots) (kk : rJ p l e R s m args below meth c D vwCl mty b nL Z cells slots A Sh S2 G2 lv (pc + 3) (.int w :: rest)) : rJ p l e R s m args below meth c D vwCl mty b nL Z cells slots A Sh S G lv pc (rest) := fun T I P h => by
  obtain ⟨h1, h3, h4⟩ := hg
  exact mJ_callS X (As := []) (hM T I P h) h1 h3 h4 rfl rfl hW hR hcs hd (fun v T' I' P' hp => by obtain ⟨A', Sh', S', G', ⟨rfl, rfl, rfl, rfl, rfl⟩, hl⟩ := hp; exact kk T' I' P' hl)
theorem rJ_Ni0 (X : mX p s m meth c args cc nL own ret TT NN D vwCl b) {y : MethodName} {bytes : ByteArray} {maxL idx k : Nat} {host : String} {ry : Option FieldType} {w : Int32} {S2 : mI} {G2 : mP} (hg : mGN TT NN own idx y host bytes maxL ry 0) (hM : rMet l D b y bytes maxL ry (mR k) A Sh S G [] (rPi A Sh w S2 G2)) (hd : decode cc pc = .ok (.invokestatic idx, 3)) (hR : k + 1 ≤ R.frames ∧ 8 + (maxL + 11) + 33 * k ≤ R.locals) (hW : (rest.map fun v => v.category).sum ≤ 8) (hcs : cells ≤ R.cells ∧ slots ≤ R.slots) (kk : rJ p l e R s m args below meth c D vwCl mty b nL Z cells slots A Sh S2 G2 lv (pc + 3) (.int w :: rest)) : rJ p l e R s m args below meth c D vwCl mty b nL Z cells slots A Sh S G lv pc (rest) := fun T I P h => by
  obtain ⟨h1, h3, h4⟩ := hg
  exact mJ_callSN X (As := []) (hM T I P h) h1 (h3 s X.2.2.2.2.2.2.2.2.2.1) h4 rfl rfl hW hR hcs hd (fun v T' I' P' hp => by obtain ⟨A', Sh', S', G', ⟨rfl, rfl, rfl, rfl, rfl⟩, hl⟩ := hp; exact kk T' I' P' hl)
theorem rJ_Vr0 (X : mX p s m meth c args cc nL own ret TT NN D vwCl b) {y : MethodName} {bytes : ByteArray} {maxL idx r ci k : Nat} {ry : Option FieldType} {w : Nat} {S2 : mI} {G2 : mP} (hg : mG vwCl TT own idx y bytes maxL ry 0 ci) (hM : rMet l D b y bytes maxL ry (mR k) A Sh S G [.ref (A r)] (rPr A Sh w S2 G2)) (hr : Sh r = some (0, ci, 0)) (hd : decode cc pc = .ok (.invokevirtual idx, 3)) (hR : k + 1 ≤ R.frames ∧ 8 + (maxL + 11) + 33 * k ≤ R.locals) (hW : (rest.map fun v => v.category).sum ≤ 8) (hcs : cells ≤ R.cells ∧ slots ≤ R.slots) (kk : rJ p l e R s m args below meth c D vwCl mty b nL Z cells slots A Sh S2 G2 lv (pc + 3) (.ref (A w) :: rest)) : rJ p l e R s m args below meth c D vwCl mty b nL Z cells slots A Sh S G lv pc (.ref (A r) :: rest) := fun T I P h => by
  obtain ⟨h1, ⟨F, N, h2⟩, h3, h4, h5⟩ := hg
  exact mJ_callV X (As := []) (hM T I P h) h1 h2 (h.sh hr) h3 h4 h5 rfl rfl hW hR hcs hd (fun v T' I' P' hp => by obtain ⟨A', Sh', S', G', ⟨rfl, rfl, rfl, rfl, rfl⟩, hl⟩ := hp; exact kk T' I' P' hl)
theorem rJ_Vv0 (X : mX p s m meth c args cc nL own ret TT NN D vwCl b) {y : MethodName} {bytes : ByteArray} {maxL idx r ci k : Nat} {ry : Option FieldType} {S2 : mI} {G2 : mP} (hg : mG vwCl TT own idx y bytes maxL ry 0 ci) (hM : rMet l D b y bytes maxL ry (mR k) A Sh S G [.ref (A r)] (rPv A Sh S2 G2)) (hr : Sh r = some (0, ci, 0)) (hd : decode cc pc = .ok (.invokevirtual idx, 3)) (hR : k + 1 ≤ R.frames ∧ 8 + (maxL + 11) + 33 * k ≤ R.locals) (hW : (rest.map fun v => v.category).sum ≤ 8) (hcs : cells ≤ R.cells ∧ slots ≤ R.slots) (kk : rJ p l e R s m args below meth c D vwCl mty b nL Z cells slots A Sh S2 G2 lv (pc + 3) (rest)) : rJ p l e R s m args below meth c D vwCl mty b nL Z cells slots A Sh S G lv pc (.ref (A r) :: rest) := fun T I P h => by
  obtain ⟨h1, ⟨F, N, h2⟩, h3, h4, h5⟩ := hg
  exact mJ_callV X (As := []) (hM T I P h) h1 h2 (h.sh hr) h3 h4 h5 rfl rfl hW hR hcs hd (fun v T' I' P' hp => by obtain ⟨A', Sh', S', G', ⟨rfl, rfl, rfl, rfl, rfl⟩, hl⟩ := hp; exact kk T' I' P' hl)
theorem rJ_Sv0 (X : mX p s m meth c args cc nL own ret TT NN D vwCl b) {y : MethodName} {bytes : ByteArray} {maxL idx k : Nat} {ry : Option FieldType} {S2 : mI} {G2 : mP} (hg : mGS TT own idx y bytes maxL ry 0) (hM : rMet l D b y bytes maxL ry (mR k) A Sh S G [] (rPv A Sh S2 G2)) (hd : decode cc pc = .ok (.invokestatic idx, 3)) (hR : k + 1 ≤ R.frames ∧ 8 + (maxL + 11) + 33 * k ≤ R.locals) (hW : (rest.map fun v => v.category).sum ≤ 8) (hcs : cells ≤ R.cells ∧ slots ≤ R.slots) (kk : rJ p l e R s m args below meth c D vwCl mty b nL Z cells slots A Sh S2 G2 lv (pc + 3) (rest)) : rJ p l e R s m args below meth c D vwCl mty b nL Z cells slots A Sh S G lv pc (rest) := fun T I P h => by
  obtain ⟨h1, h3, h4⟩ := hg
  exact mJ_callS X (As := []) (hM T I P h) h1 h3 h4 rfl rfl hW hR hcs hd (fun v T' I' P' hp => by obtain ⟨A', Sh', S', G', ⟨rfl, rfl, rfl, rfl, rfl⟩, hl⟩ := hp; exact kk T' I' P' hl)
theorem rJ_Nv0 (X : mX p s m meth c args cc nL own ret TT NN D vwCl b) {y : MethodName} {bytes : ByteArray} {maxL idx k : Nat} {host : String} {ry : Option FieldType} {S2 : mI} {G2 : mP} (hg : mGN TT NN own idx y host bytes maxL ry 0) (hM : rMet l D b y bytes maxL ry (mR k) A Sh S G [] (rPv A Sh S2 G2)) (hd : decode cc pc = .ok (.invokestatic idx, 3)) (hR : k + 1 ≤ R.frames ∧ 8 + (maxL + 11) + 33 * k ≤ R.locals) (hW : (rest.map fun v => v.category).sum ≤ 8) (hcs : cells ≤ R.cells ∧ slots ≤ R.slots) (kk : rJ p l e R s m args below meth c D vwCl mty b nL Z cells slots A Sh S2 G2 lv (pc + 3) (rest)) : rJ p l e R s m args below meth c D vwCl mty b nL Z cells slots A Sh S G lv pc (rest) := fun T I P h => by
  obtain ⟨h1, h3, h4⟩ := hg
  exact mJ_callSN X (As := []) (hM T I P h) h1 (h3 s X.2.2.2.2.2.2.2.2.2.1) h4 rfl rfl hW hR hcs hd (fun v T' I' P' hp => by obtain ⟨A', Sh', S', G', ⟨rfl, rfl, rfl, rfl, rfl⟩, hl⟩ := hp; exact kk T' I' P' hl)
theorem rJ_Vi1 (X : mX p s m meth c args cc nL own ret TT NN D vwCl b) {y : MethodName} {bytes : ByteArray} {maxL idx r ci k : Nat} {ry : Option FieldType} {v1 : Value} {w : Int32} {S2 : mI} {G2 : mP} (hg : mG vwCl TT own idx y bytes maxL ry 1 ci) (hM : rMet l D b y bytes maxL ry (mR k) A Sh S G [.ref (A r), v1] (rPi A Sh w S2 G2)) (hr : Sh r = some (0, ci, 0)) (hd : decode cc pc = .ok (.invokevirtual idx, 3)) (hR : k + 1 ≤ R.frames ∧ 8 + (maxL + 11) + 33 * k ≤ R.locals) (hW : (rest.map fun v => v.category).sum ≤ 8) (hcs : cells ≤ R.cells ∧ slots ≤ R.slots) (kk : rJ p l e R s m args below meth c D vwCl mty b nL Z cells slots A Sh S2 G2 lv (pc + 3) (.int w :: rest)) : rJ p l e R s m args below meth c D vwCl mty b nL Z cells slots A Sh S G lv pc (v1 :: .ref (A r) :: rest) := fun T I P h => by
  obtain ⟨h1, ⟨F, N, h2⟩, h3, h4, h5⟩ := hg
  exact mJ_callV X (As := [v1]) (hM T I P h) h1 h2 (h.sh hr) h3 h4 h5 rfl rfl hW hR hcs hd (fun v T' I' P' hp => by obtain ⟨A', Sh', S', G', ⟨rfl, rfl, rfl, rfl, rfl⟩, hl⟩ := hp; exact kk T' I' P' hl)
theorem rJ_Si1 (X : mX p s m meth c args cc nL own ret TT NN D vwCl b) {y : MethodName} {bytes : ByteArray} {maxL idx k : Nat} {ry : Option FieldType} {v1 : Value} {w : Int32} {S2 : mI} {G2 : mP} (hg : mGS TT own idx y bytes maxL ry 1) (hM : rMet l D b y bytes maxL ry (mR k) A Sh S G [v1] (rPi A Sh w S2 G2)) (hd : decode cc pc = .ok (.invokestatic idx, 3)) (hR : k + 1 ≤ R.frames ∧ 8 + (maxL + 11) + 33 * k ≤ R.locals) (hW : (rest.map fun v => v.category).sum ≤ 8) (hcs : cells ≤ R.cells ∧ slots ≤ R.slots) (kk : rJ p l e R s m args below meth c D vwCl mty b nL Z cells slots A Sh S2 G2 lv (pc + 3) (.int w :: rest)) : rJ p l e R s m args below meth c D vwCl mty b nL Z cells slots A Sh S G lv pc (v1 :: rest) := fun T I P h => by
  obtain ⟨h1, h3, h4⟩ := hg
  exact mJ_callS X (As := [v1]) (hM T I P h) h1 h3 h4 rfl rfl hW hR hcs hd (fun v T' I' P' hp => by obtain ⟨A', Sh', S', G', ⟨rfl, rfl, rfl, rfl, rfl⟩, hl⟩ := hp; exact kk T' I' P' hl)
theorem rJ_Ni1 (X : mX p s m meth c args cc nL own ret TT NN D vwCl b) {y : MethodName} {bytes : ByteArray} {maxL idx k : Nat} {host : String} {ry : Option FieldType} {v1 : Value} {w : Int32} {S2 : mI} {G2 : mP} (hg : mGN TT NN own idx y host bytes maxL ry 1) (hM : rMet l D b y bytes maxL ry (mR k) A Sh S G [v1] (rPi A Sh w S2 G2)) (hd : decode cc pc = .ok (.invokestatic idx, 3)) (hR : k + 1 ≤ R.frames ∧ 8 + (maxL + 11) + 33 * k ≤ R.locals) (hW : (rest.map fun v => v.category).sum ≤ 8) (hcs : cells ≤ R.cells ∧ slots ≤ R.slots) (kk : rJ p l e R s m args below meth c D vwCl mty b nL Z cells slots A Sh S2 G2 lv (pc + 3) (.int w :: rest)) : rJ p l e R s m args below meth c D vwCl mty b nL Z cells slots A Sh S G lv pc (v1 :: rest) := fun T I P h => by
  obtain ⟨h1, h3, h4⟩ := hg
  exact mJ_callSN X (As := [v1]) (hM T I P h) h1 (h3 s X.2.2.2.2.2.2.2.2.2.1) h4 rfl rfl hW hR hcs hd (fun v T' I' P' hp => by obtain ⟨A', Sh', S', G', ⟨rfl, rfl, rfl, rfl, rfl⟩, hl⟩ := hp; exact kk T' I' P' hl)
theorem rJ_Vr1 (X : mX p s m meth c args cc nL own ret TT NN D vwCl b) {y : MethodName} {bytes : ByteArray} {maxL idx r ci k : Nat} {ry : Option FieldType} {v1 : Value} {w : Nat} {S2 : mI} {G2 : mP} (hg : mG vwCl TT own idx y bytes maxL ry 1 ci) (hM : rMet l D b y bytes maxL ry (mR k) A Sh S G [.ref (A r), v1] (rPr A Sh w S2 G2)) (hr : Sh r = some (0, ci, 0)) (hd : decode cc pc = .ok (.invokevirtual idx, 3)) (hR : k + 1 ≤ R.frames ∧ 8 + (maxL + 11) + 33 * k ≤ R.locals) (hW : (rest.map fun v => v.category).sum ≤ 8) (hcs : cells ≤ R.cells ∧ slots ≤ R.slots) (kk : rJ p l e R s m args below meth c D vwCl mty b nL Z cells slots A Sh S2 G2 lv (pc + 3) (.ref (A w) :: rest)) : rJ p l e R s m args below meth c D vwCl mty b nL Z cells slots A Sh S G lv pc (v1 :: .ref (A r) :: rest) := fun T I P h => by
  obtain ⟨h1, ⟨F, N, h2⟩, h3, h4, h5⟩ := hg
  exact mJ_callV X (As := [v1]) (hM T I P h) h1 h2 (h.sh hr) h3 h4 h5 rfl rfl hW hR hcs hd (fun v T' I' P' hp => by obtain ⟨A', Sh', S', G', ⟨rfl, rfl, rfl, rfl, rfl⟩, hl⟩ := hp; exact kk T' I' P' hl)
theorem rJ_Vv1 (X : mX p s m meth c args cc nL own ret TT NN D vwCl b) {y : MethodName} {bytes : ByteArray} {maxL idx r ci k : Nat} {ry : Option FieldType} {v1 : Value} {S2 : mI} {G2 : mP} (hg : mG vwCl TT own idx y bytes maxL ry 1 ci) (hM : rMet l D b y bytes maxL ry (mR k) A Sh S G [.ref (A r), v1] (rPv A Sh S2 G2)) (hr : Sh r = some (0, ci, 0)) (hd : decode cc pc = .ok (.invokevirtual idx, 3)) (hR : k + 1 ≤ R.frames ∧ 8 + (maxL + 11) + 33 * k ≤ R.locals) (hW : (rest.map fun v => v.category).sum ≤ 8) (hcs : cells ≤ R.cells ∧ slots ≤ R.slots) (kk : rJ p l e R s m args below meth c D vwCl mty b nL Z cells slots A Sh S2 G2 lv (pc + 3) (rest)) : rJ p l e R s m args below meth c D vwCl mty b nL Z cells slots A Sh S G lv pc (v1 :: .ref (A r) :: rest) := fun T I P h => by
  obtain ⟨h1, ⟨F, N, h2⟩, h3, h4, h5⟩ := hg
  exact mJ_callV X (As := [v1]) (hM T I P h) h1 h2 (h.sh hr) h3 h4 h5 rfl rfl hW hR hcs hd (fun v T' I' P' hp => by obtain ⟨A', Sh', S', G', ⟨rfl, rfl, rfl, rfl, rfl⟩, hl⟩ := hp; exact kk T' I' P' hl)
theorem rJ_Sv1 (X : mX p s m meth c args cc nL own ret TT NN D vwCl b) {y : MethodName} {bytes : ByteArray} {maxL idx k : Nat} {ry : Option FieldType} {v1 : Value} {S2 : mI} {G2 : mP} (hg : mGS TT own idx y bytes maxL ry 1) (hM : rMet l D b y bytes maxL ry (mR k) A Sh S G [v1] (rPv A Sh S2 G2)) (hd : decode cc pc = .ok (.invokestatic idx, 3)) (hR : k + 1 ≤ R.frames ∧ 8 + (maxL + 11) + 33 * k ≤ R.locals) (hW : (rest.map fun v => v.category).sum ≤ 8) (hcs : cells ≤ R.cells ∧ slots ≤ R.slots) (kk : rJ p l e R s m args below meth c D vwCl mty b nL Z cells slots A Sh S2 G2 lv (pc + 3) (rest)) : rJ p l e R s m args below meth c D vwCl mty b nL Z cells slots A Sh S G lv pc (v1 :: rest) := fun T I P h => by
  obtain ⟨h1, h3, h4⟩ := hg
  exact mJ_callS X (As := [v1]) (hM T I P h) h1 h3 h4 rfl rfl hW hR hcs hd (fun v T' I' P' hp => by obtain ⟨A', Sh', S', G', ⟨rfl, rfl, rfl, rfl, rfl⟩, hl⟩ := hp; exact kk T' I' P' hl)
theorem rJ_Nv1 (X : mX p s m meth c args cc nL own ret TT NN D vwCl b) {y : MethodName} {bytes : ByteArray} {maxL idx k : Nat} {host : String} {ry : Option FieldType} {v1 : Value} {S2 : mI} {G2 : mP} (hg : mGN TT NN own idx y host bytes maxL ry 1) (hM : rMet l D b y bytes maxL ry (mR k) A Sh S G [v1] (rPv A Sh S2 G2)) (hd : decode cc pc = .ok (.invokestatic idx, 3)) (hR : k + 1 ≤ R.frames ∧ 8 + (maxL + 11) + 33 * k ≤ R.locals) (hW : (rest.map fun v => v.category).sum ≤ 8) (hcs : cells ≤ R.cells ∧ slots ≤ R.slots) (kk : rJ p l e R s m args below meth c D vwCl mty b nL Z cells slots A Sh S2 G2 lv (pc + 3) (rest)) : rJ p l e R s m args below meth c D vwCl mty b nL Z cells slots A Sh S G lv pc (v1 :: rest) := fun T I P h => by
  obtain ⟨h1, h3, h4⟩ := hg
  exact mJ_callSN X (As := [v1]) (hM T I P h) h1 (h3 s X.2.2.2.2.2.2.2.2.2.1) h4 rfl rfl hW hR hcs hd (fun v T' I' P' hp => by obtain ⟨A', Sh', S', G', ⟨rfl, rfl, rfl, rfl, rfl⟩, hl⟩ := hp; exact kk T' I' P' hl)
theorem rJ_Vi2 (X : mX p s m meth c args cc nL own ret TT NN D vwCl b) {y : MethodName} {bytes : ByteArray} {maxL idx r ci k : Nat} {ry : Option FieldType} {v1 v2 : Value} {w : Int32} {S2 : mI} {G2 : mP} (hg : mG vwCl TT own idx y bytes maxL ry 2 ci) (hM : rMet l D b y bytes maxL ry (mR k) A Sh S G [.ref (A r), v1, v2] (rPi A Sh w S2 G2)) (hr : Sh r = some (0, ci, 0)) (hd : decode cc pc = .ok (.invokevirtual idx, 3)) (hR : k + 1 ≤ R.frames ∧ 8 + (maxL + 11) + 33 * k ≤ R.locals) (hW : (rest.map fun v => v.category).sum ≤ 8) (hcs : cells ≤ R.cells ∧ slots ≤ R.slots) (kk : rJ p l e R s m args below meth c D vwCl mty b nL Z cells slots A Sh S2 G2 lv (pc + 3) (.int w :: rest)) : rJ p l e R s m args below meth c D vwCl mty b nL Z cells slots A Sh S G lv pc (v2 :: v1 :: .ref (A r) :: rest) := fun T I P h => by
  obtain ⟨h1, ⟨F, N, h2⟩, h3, h4, h5⟩ := hg
  exact mJ_callV X (As := [v1, v2]) (hM T I P h) h1 h2 (h.sh hr) h3 h4 h5 rfl rfl hW hR hcs hd (fun v T' I' P' hp => by obtain ⟨A', Sh', S', G', ⟨rfl, rfl, rfl, rfl, rfl⟩, hl⟩ := hp; exact kk T' I' P' hl)
theorem rJ_Si2 (X : mX p s m meth c args cc nL own ret TT NN D vwCl b) {y : MethodName} {bytes : ByteArray} {maxL idx k : Nat} {ry : Option FieldType} {v1 v2 : Value} {w : Int32} {S2 : mI} {G2 : mP} (hg : mGS TT own idx y bytes maxL ry 2) (hM : rMet l D b y bytes maxL ry (mR k) A Sh S G [v1, v2] (rPi A Sh w S2 G2)) (hd : decode cc pc = .ok (.invokestatic idx, 3)) (hR : k + 1 ≤ R.frames ∧ 8 + (maxL + 11) + 33 * k ≤ R.locals) (hW : (rest.map fun v => v.category).sum ≤ 8) (hcs : cells ≤ R.cells ∧ slots ≤ R.slots) (kk : rJ p l e R s m args below meth c D vwCl mty b nL Z cells slots A Sh S2 G2 lv (pc + 3) (.int w :: rest)) : rJ p l e R s m args below meth c D vwCl mty b nL Z cells slots A Sh S G lv pc (v2 :: v1 :: rest) := fun T I P h => by
  obtain ⟨h1, h3, h4⟩ := hg
  exact mJ_callS X (As := [v1, v2]) (hM T I P h) h1 h3 h4 rfl rfl hW hR hcs hd (fun v T' I' P' hp => by obtain ⟨A', Sh', S', G', ⟨rfl, rfl, rfl, rfl, rfl⟩, hl⟩ := hp; exact kk T' I' P' hl)
theorem rJ_Ni2 (X : mX p s m meth c args cc nL own ret TT NN D vwCl b) {y : MethodName} {bytes : ByteArray} {maxL idx k : Nat} {host : String} {ry : Option FieldType} {v1 v2 : Value} {w : Int32} {S2 : mI} {G2 : mP} (hg : mGN TT NN own idx y host bytes maxL ry 2) (hM : rMet l D b y bytes maxL ry (mR k) A Sh S G [v1, v2] (rPi A Sh w S2 G2)) (hd : decode cc pc = .ok (.invokestatic idx, 3)) (hR : k + 1 ≤ R.frames ∧ 8 + (maxL + 11) + 33 * k ≤ R.locals) (hW : (rest.map fun v => v.category).sum ≤ 8) (hcs : cells ≤ R.cells ∧ slots ≤ R.slots) (kk : rJ p l e R s m args below meth c D vwCl mty b nL Z cells slots A Sh S2 G2 lv (pc + 3) (.int w :: rest)) : rJ p l e R s m args below meth c D vwCl mty b nL Z cells slots A Sh S G lv pc (v2 :: v1 :: rest) := fun T I P h => by
  obtain ⟨h1, h3, h4⟩ := hg
  exact mJ_callSN X (As := [v1, v2]) (hM T I P h) h1 (h3 s X.2.2.2.2.2.2.2.2.2.1) h4 rfl rfl hW hR hcs hd (fun v T' I' P' hp => by obtain ⟨A', Sh', S', G', ⟨rfl, rfl, rfl, rfl, rfl⟩, hl⟩ := hp; exact kk T' I' P' hl)
theorem rJ_Vr2 (X : mX p s m meth c args cc nL own ret TT NN D vwCl b) {y : MethodName} {bytes : ByteArray} {maxL idx r ci k : Nat} {ry : Option FieldType} {v1 v2 : Value} {w : Nat} {S2 : mI} {G2 : mP} (hg : mG vwCl TT own idx y bytes maxL ry 2 ci) (hM : rMet l D b y bytes maxL ry (mR k) A Sh S G [.ref (A r), v1, v2] (rPr A Sh w S2 G2)) (hr : Sh r = some (0, ci, 0)) (hd : decode cc pc = .ok (.invokevirtual idx, 3)) (hR : k + 1 ≤ R.frames ∧ 8 + (maxL + 11) + 33 * k ≤ R.locals) (hW : (rest.map fun v => v.category).sum ≤ 8) (hcs : cells ≤ R.cells ∧ slots ≤ R.slots) (kk : rJ p l e R s m args below meth c D vwCl mty b nL Z cells slots A Sh S2 G2 lv (pc + 3) (.ref (A w) :: rest)) : rJ p l e R s m args below meth c D vwCl mty b nL Z cells slots A Sh S G lv pc (v2 :: v1 :: .ref (A r) :: rest) := fun T I P h => by
  obtain ⟨h1, ⟨F, N, h2⟩, h3, h4, h5⟩ := hg
  exact mJ_callV X (As := [v1, v2]) (hM T I P h) h1 h2 (h.sh hr) h3 h4 h5 rfl rfl hW hR hcs hd (fun v T' I' P' hp => by obtain ⟨A', Sh', S', G', ⟨rfl, rfl, rfl, rfl, rfl⟩, hl⟩ := hp; exact kk T' I' P' hl)
theorem rJ_Vv2 (X : mX p s m meth c args cc nL own ret TT NN D vwCl b) {y : MethodName} {bytes : ByteArray} {maxL idx r ci k : Nat} {ry : Option FieldType} {v1 v2 : Value} {S2 : mI} {G2 : mP} (hg : mG vwCl TT own idx y bytes maxL ry 2 ci) (hM : rMet l D b y bytes maxL ry (mR k) A Sh S G [.ref (A r), v1, v2] (rPv A Sh S2 G2)) (hr : Sh r = some (0, ci, 0)) (hd : decode cc pc = .ok (.invokevirtual idx, 3)) (hR : k + 1 ≤ R.frames ∧ 8 + (maxL + 11) + 33 * k ≤ R.locals) (hW : (rest.map fun v => v.category).sum ≤ 8) (hcs : cells ≤ R.cells ∧ slots ≤ R.slots) (kk : rJ p l e R s m args below meth c D vwCl mty b nL Z cells slots A Sh S2 G2 lv (pc + 3) (rest)) : rJ p l e R s m args below meth c D vwCl mty b nL Z cells slots A Sh S G lv pc (v2 :: v1 :: .ref (A r) :: rest) := fun T I P h => by
  obtain ⟨h1, ⟨F, N, h2⟩, h3, h4, h5⟩ := hg
  exact mJ_callV X (As := [v1, v2]) (hM T I P h) h1 h2 (h.sh hr) h3 h4 h5 rfl rfl hW hR hcs hd (fun v T' I' P' hp => by obtain ⟨A', Sh', S', G', ⟨rfl, rfl, rfl, rfl, rfl⟩, hl⟩ := hp; exact kk T' I' P' hl)
theorem rJ_Sv2 (X : mX p s m meth c args cc nL own ret TT NN D vwCl b) {y : MethodName} {bytes : ByteArray} {maxL idx k : Nat} {ry : Option FieldType} {v1 v2 : Value} {S2 : mI} {G2 : mP} (hg : mGS TT own idx y bytes maxL ry 2) (hM : rMet l D b y bytes maxL ry (mR k) A Sh S G [v1, v2] (rPv A Sh S2 G2)) (hd : decode cc pc = .ok (.invokestatic idx, 3)) (hR : k + 1 ≤ R.frames ∧ 8 + (maxL + 11) + 33 * k ≤ R.locals) (hW : (rest.map fun v => v.category).sum ≤ 8) (hcs : cells ≤ R.cells ∧ slots ≤ R.slots) (kk : rJ p l e R s m args below meth c D vwCl mty b nL Z cells slots A Sh S2 G2 lv (pc + 3) (rest)) : rJ p l e R s m args below meth c D vwCl mty b nL Z cells slots A Sh S G lv pc (v2 :: v1 :: rest) := fun T I P h => by
  obtain ⟨h1, h3, h4⟩ := hg
  exact mJ_callS X (As := [v1, v2]) (hM T I P h) h1 h3 h4 rfl rfl hW hR hcs hd (fun v T' I' P' hp => by obtain ⟨A', Sh', S', G', ⟨rfl, rfl, rfl, rfl, rfl⟩, hl⟩ := hp; exact kk T' I' P' hl)
theorem rJ_Nv2 (X : mX p s m meth c args cc nL own ret TT NN D vwCl b) {y : MethodName} {bytes : ByteArray} {maxL idx k : Nat} {host : String} {ry : Option FieldType} {v1 v2 : Value} {S2 : mI} {G2 : mP} (hg : mGN TT NN own idx y host bytes maxL ry 2) (hM : rMet l D b y bytes maxL ry (mR k) A Sh S G [v1, v2] (rPv A Sh S2 G2)) (hd : decode cc pc = .ok (.invokestatic idx, 3)) (hR : k + 1 ≤ R.frames ∧ 8 + (maxL + 11) + 33 * k ≤ R.locals) (hW : (rest.map fun v => v.category).sum ≤ 8) (hcs : cells ≤ R.cells ∧ slots ≤ R.slots) (kk : rJ p l e R s m args below meth c D vwCl mty b nL Z cells slots A Sh S2 G2 lv (pc + 3) (rest)) : rJ p l e R s m args below meth c D vwCl mty b nL Z cells slots A Sh S G lv pc (v2 :: v1 :: rest) := fun T I P h => by
  obtain ⟨h1, h3, h4⟩ := hg
  exact mJ_callSN X (As := [v1, v2]) (hM T I P h) h1 (h3 s X.2.2.2.2.2.2.2.2.2.1) h4 rfl rfl hW hR hcs hd (fun v T' I' P' hp => by obtain ⟨A', Sh', S', G', ⟨rfl, rfl, rfl, rfl, rfl⟩, hl⟩ := hp; exact kk T' I' P' hl)
theorem rJ_Vi3 (X : mX p s m meth c args cc nL own ret TT NN D vwCl b) {y : MethodName} {bytes : ByteArray} {maxL idx r ci k : Nat} {ry : Option FieldType} {v1 v2 v3 : Value} {w : Int32} {S2 : mI} {G2 : mP} (hg : mG vwCl TT own idx y bytes maxL ry 3 ci) (hM : rMet l D b y bytes maxL ry (mR k) A Sh S G [.ref (A r), v1, v2, v3] (rPi A Sh w S2 G2)) (hr : Sh r = some (0, ci, 0)) (hd : decode cc pc = .ok (.invokevirtual idx, 3)) (hR : k + 1 ≤ R.frames ∧ 8 + (maxL + 11) + 33 * k ≤ R.locals) (hW : (rest.map fun v => v.category).sum ≤ 8) (hcs : cells ≤ R.cells ∧ slots ≤ R.slots) (kk : rJ p l e R s m args below meth c D vwCl mty b nL Z cells slots A Sh S2 G2 lv (pc + 3) (.int w :: rest)) : rJ p l e R s m args below meth c D vwCl mty b nL Z cells slots A Sh S G lv pc (v3 :: v2 :: v1 :: .ref (A r) :: rest) := fun T I P h => by
  obtain ⟨h1, ⟨F, N, h2⟩, h3, h4, h5⟩ := hg
  exact mJ_callV X (As := [v1, v2, v3]) (hM T I P h) h1 h2 (h.sh hr) h3 h4 h5 rfl rfl hW hR hcs hd (fun v T' I' P' hp => by obtain ⟨A', Sh', S', G', ⟨rfl, rfl, rfl, rfl, rfl⟩, hl⟩ := hp; exact kk T' I' P' hl)
theorem rJ_Si3 (X : mX p s m meth c args cc nL own ret TT NN D vwCl b) {y : MethodName} {bytes : ByteArray} {maxL idx k : Nat} {ry : Option FieldType} {v1 v2 v3 : Value} {w : Int32} {S2 : mI} {G2 : mP} (hg : mGS TT own idx y bytes maxL ry 3) (hM : rMet l D b y bytes maxL ry (mR k) A Sh S G [v1, v2, v3] (rPi A Sh w S2 G2)) (hd : decode cc pc = .ok (.invokestatic idx, 3)) (hR : k + 1 ≤ R.frames ∧ 8 + (maxL + 11) + 33 * k ≤ R.locals) (hW : (rest.map fun v => v.category).sum ≤ 8) (hcs : cells ≤ R.cells ∧ slots ≤ R.slots) (kk : rJ p l e R s m args below meth c D vwCl mty b nL Z cells slots A Sh S2 G2 lv (pc + 3) (.int w :: rest)) : rJ p l e R s m args below meth c D vwCl mty b nL Z cells slots A Sh S G lv pc (v3 :: v2 :: v1 :: rest) := fun T I P h => by
  obtain ⟨h1, h3, h4⟩ := hg
  exact mJ_callS X (As := [v1, v2, v3]) (hM T I P h) h1 h3 h4 rfl rfl hW hR hcs hd (fun v T' I' P' hp => by obtain ⟨A', Sh', S', G', ⟨rfl, rfl, rfl, rfl, rfl⟩, hl⟩ := hp; exact kk T' I' P' hl)
theorem rJ_Ni3 (X : mX p s m meth c args cc nL own ret TT NN D vwCl b) {y : MethodName} {bytes : ByteArray} {maxL idx k : Nat} {host : String} {ry : Option FieldType} {v1 v2 v3 : Value} {w : Int32} {S2 : mI} {G2 : mP} (hg : mGN TT NN own idx y host bytes maxL ry 3) (hM : rMet l D b y bytes maxL ry (mR k) A Sh S G [v1, v2, v3] (rPi A Sh w S2 G2)) (hd : decode cc pc = .ok (.invokestatic idx, 3)) (hR : k + 1 ≤ R.frames ∧ 8 + (maxL + 11) + 33 * k ≤ R.locals) (hW : (rest.map fun v => v.category).sum ≤ 8) (hcs : cells ≤ R.cells ∧ slots ≤ R.slots) (kk : rJ p l e R s m args below meth c D vwCl mty b nL Z cells slots A Sh S2 G2 lv (pc + 3) (.int w :: rest)) : rJ p l e R s m args below meth c D vwCl mty b nL Z cells slots A Sh S G lv pc (v3 :: v2 :: v1 :: rest) := fun T I P h => by
  obtain ⟨h1, h3, h4⟩ := hg
  exact mJ_callSN X (As := [v1, v2, v3]) (hM T I P h) h1 (h3 s X.2.2.2.2.2.2.2.2.2.1) h4 rfl rfl hW hR hcs hd (fun v T' I' P' hp => by obtain ⟨A', Sh', S', G', ⟨rfl, rfl, rfl, rfl, rfl⟩, hl⟩ := hp; exact kk T' I' P' hl)
theorem rJ_Vr3 (X : mX p s m meth c args cc nL own ret TT NN D vwCl b) {y : MethodName} {bytes : ByteArray} {maxL idx r ci k : Nat} {ry : Option FieldType} {v1 v2 v3 : Value} {w : Nat} {S2 : mI} {G2 : mP} (hg : mG vwCl TT own idx y bytes maxL ry 3 ci) (hM : rMet l D b y bytes maxL ry (mR k) A Sh S G [.ref (A r), v1, v2, v3] (rPr A Sh w S2 G2)) (hr : Sh r = some (0, ci, 0)) (hd : decode cc pc = .ok (.invokevirtual idx, 3)) (hR : k + 1 ≤ R.frames ∧ 8 + (maxL + 11) + 33 * k ≤ R.locals) (hW : (rest.map fun v => v.category).sum ≤ 8) (hcs : cells ≤ R.cells ∧ slots ≤ R.slots) (kk : rJ p l e R s m args below meth c D vwCl mty b nL Z cells slots A Sh S2 G2 lv (pc + 3) (.ref (A w) :: rest)) : rJ p l e R s m args below meth c D vwCl mty b nL Z cells slots A Sh S G lv pc (v3 :: v2 :: v1 :: .ref (A r) :: rest) := fun T I P h => by
  obtain ⟨h1, ⟨F, N, h2⟩, h3, h4, h5⟩ := hg
  exact mJ_callV X (As := [v1, v2, v3]) (hM T I P h) h1 h2 (h.sh hr) h3 h4 h5 rfl rfl hW hR hcs hd (fun v T' I' P' hp => by obtain ⟨A', Sh', S', G', ⟨rfl, rfl, rfl, rfl, rfl⟩, hl⟩ := hp; exact kk T' I' P' hl)
theorem rJ_Vv3 (X : mX p s m meth c args cc nL own ret TT NN D vwCl b) {y : MethodName} {bytes : ByteArray} {maxL idx r ci k : Nat} {ry : Option FieldType} {v1 v2 v3 : Value} {S2 : mI} {G2 : mP} (hg : mG vwCl TT own idx y bytes maxL ry 3 ci) (hM : rMet l D b y bytes maxL ry (mR k) A Sh S G [.ref (A r), v1, v2, v3] (rPv A Sh S2 G2)) (hr : Sh r = some (0, ci, 0)) (hd : decode cc pc = .ok (.invokevirtual idx, 3)) (hR : k + 1 ≤ R.frames ∧ 8 + (maxL + 11) + 33 * k ≤ R.locals) (hW : (rest.map fun v => v.category).sum ≤ 8) (hcs : cells ≤ R.cells ∧ slots ≤ R.slots) (kk : rJ p l e R s m args below meth c D vwCl mty b nL Z cells slots A Sh S2 G2 lv (pc + 3) (rest)) : rJ p l e R s m args below meth c D vwCl mty b nL Z cells slots A Sh S G lv pc (v3 :: v2 :: v1 :: .ref (A r) :: rest) := fun T I P h => by
  obtain ⟨h1, ⟨F, N, h2⟩, h3, h4, h5⟩ := hg
  exact mJ_callV X (As := [v1, v2, v3]) (hM T I P h) h1 h2 (h.sh hr) h3 h4 h5 rfl rfl hW hR hcs hd (fun v T' I' P' hp => by obtain ⟨A', Sh', S', G', ⟨rfl, rfl, rfl, rfl, rfl⟩, hl⟩ := hp; exact kk T' I' P' hl)
theorem rJ_Sv3 (X : mX p s m meth c args cc nL own ret TT NN D vwCl b) {y : MethodName} {bytes : ByteArray} {maxL idx k : Nat} {ry : Option FieldType} {v1 v2 v3 : Value} {S2 : mI} {G2 : mP} (hg : mGS TT own idx y bytes maxL ry 3) (hM : rMet l D b y bytes maxL ry (mR k) A Sh S G [v1, v2, v3] (rPv A Sh S2 G2)) (hd : decode cc pc = .ok (.invokestatic idx, 3)) (hR : k + 1 ≤ R.frames ∧ 8 + (maxL + 11) + 33 * k ≤ R.locals) (hW : (rest.map fun v => v.category).sum ≤ 8) (hcs : cells ≤ R.cells ∧ slots ≤ R.slots) (kk : rJ p l e R s m args below meth c D vwCl mty b nL Z cells slots A Sh S2 G2 lv (pc + 3) (rest)) : rJ p l e R s m args below meth c D vwCl mty b nL Z cells slots A Sh S G lv pc (v3 :: v2 :: v1 :: rest) := fun T I P h => by
  obtain ⟨h1, h3, h4⟩ := hg
  exact mJ_callS X (As := [v1, v2, v3]) (hM T I P h) h1 h3 h4 rfl rfl hW hR hcs hd (fun v T' I' P' hp => by obtain ⟨A', Sh', S', G', ⟨rfl, rfl, rfl, rfl, rfl⟩, hl⟩ := hp; exact kk T' I' P' hl)
theorem rJ_Nv3 (X : mX p s m meth c args cc nL own ret TT NN D vwCl b) {y : MethodName} {bytes : ByteArray} {maxL idx k : Nat} {host : String} {ry : Option FieldType} {v1 v2 v3 : Value} {S2 : mI} {G2 : mP} (hg : mGN TT NN own idx y host bytes maxL ry 3) (hM : rMet l D b y bytes maxL ry (mR k) A Sh S G [v1, v2, v3] (rPv A Sh S2 G2)) (hd : decode cc pc = .ok (.invokestatic idx, 3)) (hR : k + 1 ≤ R.frames ∧ 8 + (maxL + 11) + 33 * k ≤ R.locals) (hW : (rest.map fun v => v.category).sum ≤ 8) (hcs : cells ≤ R.cells ∧ slots ≤ R.slots) (kk : rJ p l e R s m args below meth c D vwCl mty b nL Z cells slots A Sh S2 G2 lv (pc + 3) (rest)) : rJ p l e R s m args below meth c D vwCl mty b nL Z cells slots A Sh S G lv pc (v3 :: v2 :: v1 :: rest) := fun T I P h => by
  obtain ⟨h1, h3, h4⟩ := hg
  exact mJ_callSN X (As := [v1, v2, v3]) (hM T I P h) h1 (h3 s X.2.2.2.2.2.2.2.2.2.1) h4 rfl rfl hW hR hcs hd (fun v T' I' P' hp => by obtain ⟨A', Sh', S', G', ⟨rfl, rfl, rfl, rfl, rfl⟩, hl⟩ := hp; exact kk T' I' P' hl)
theorem rJ_Vi4 (X : mX p s m meth c args cc nL own ret TT NN D vwCl b) {y : MethodName} {bytes : ByteArray} {maxL idx r ci k : Nat} {ry : Option FieldType} {v1 v2 v3 v4 : Value} {w : Int32} {S2 : mI} {G2 : mP} (hg : mG vwCl TT own idx y bytes maxL ry 4 ci) (hM : rMet l D b y bytes maxL ry (mR k) A Sh S G [.ref (A r), v1, v2, v3, v4] (rPi A Sh w S2 G2)) (hr : Sh r = some (0, ci, 0)) (hd : decode cc pc = .ok (.invokevirtual idx, 3)) (hR : k + 1 ≤ R.frames ∧ 8 + (maxL + 11) + 33 * k ≤ R.locals) (hW : (rest.map fun v => v.category).sum ≤ 8) (hcs : cells ≤ R.cells ∧ slots ≤ R.slots) (kk : rJ p l e R s m args below meth c D vwCl mty b nL Z cells slots A Sh S2 G2 lv (pc + 3) (.int w :: rest)) : rJ p l e R s m args below meth c D vwCl mty b nL Z cells slots A Sh S G lv pc (v4 :: v3 :: v2 :: v1 :: .ref (A r) :: rest) := fun T I P h => by
  obtain ⟨h1, ⟨F, N, h2⟩, h3, h4, h5⟩ := hg
  exact mJ_callV X (As := [v1, v2, v3, v4]) (hM T I P h) h1 h2 (h.sh hr) h3 h4 h5 rfl rfl hW hR hcs hd (fun v T' I' P' hp => by obtain ⟨A', Sh', S', G', ⟨rfl, rfl, rfl, rfl, rfl⟩, hl⟩ := hp; exact kk T' I' P' hl)
theorem rJ_Vr4 (X : mX p s m meth c args cc nL own ret TT NN D vwCl b) {y : MethodName} {bytes : ByteArray} {maxL idx r ci k : Nat} {ry : Option FieldType} {v1 v2 v3 v4 : Value} {w : Nat} {S2 : mI} {G2 : mP} (hg : mG vwCl TT own idx y bytes maxL ry 4 ci) (hM : rMet l D b y bytes maxL ry (mR k) A Sh S G [.ref (A r), v1, v2, v3, v4] (rPr A Sh w S2 G2)) (hr : Sh r = some (0, ci, 0)) (hd : decode cc pc = .ok (.invokevirtual idx, 3)) (hR : k + 1 ≤ R.frames ∧ 8 + (maxL + 11) + 33 * k ≤ R.locals) (hW : (rest.map fun v => v.category).sum ≤ 8) (hcs : cells ≤ R.cells ∧ slots ≤ R.slots) (kk : rJ p l e R s m args below meth c D vwCl mty b nL Z cells slots A Sh S2 G2 lv (pc + 3) (.ref (A w) :: rest)) : rJ p l e R s m args below meth c D vwCl mty b nL Z cells slots A Sh S G lv pc (v4 :: v3 :: v2 :: v1 :: .ref (A r) :: rest) := fun T I P h => by
  obtain ⟨h1, ⟨F, N, h2⟩, h3, h4, h5⟩ := hg
  exact mJ_callV X (As := [v1, v2, v3, v4]) (hM T I P h) h1 h2 (h.sh hr) h3 h4 h5 rfl rfl hW hR hcs hd (fun v T' I' P' hp => by obtain ⟨A', Sh', S', G', ⟨rfl, rfl, rfl, rfl, rfl⟩, hl⟩ := hp; exact kk T' I' P' hl)
theorem rJ_Vv4 (X : mX p s m meth c args cc nL own ret TT NN D vwCl b) {y : MethodName} {bytes : ByteArray} {maxL idx r ci k : Nat} {ry : Option FieldType} {v1 v2 v3 v4 : Value} {S2 : mI} {G2 : mP} (hg : mG vwCl TT own idx y bytes maxL ry 4 ci) (hM : rMet l D b y bytes maxL ry (mR k) A Sh S G [.ref (A r), v1, v2, v3, v4] (rPv A Sh S2 G2)) (hr : Sh r = some (0, ci, 0)) (hd : decode cc pc = .ok (.invokevirtual idx, 3)) (hR : k + 1 ≤ R.frames ∧ 8 + (maxL + 11) + 33 * k ≤ R.locals) (hW : (rest.map fun v => v.category).sum ≤ 8) (hcs : cells ≤ R.cells ∧ slots ≤ R.slots) (kk : rJ p l e R s m args below meth c D vwCl mty b nL Z cells slots A Sh S2 G2 lv (pc + 3) (rest)) : rJ p l e R s m args below meth c D vwCl mty b nL Z cells slots A Sh S G lv pc (v4 :: v3 :: v2 :: v1 :: .ref (A r) :: rest) := fun T I P h => by
  obtain ⟨h1, ⟨F, N, h2⟩, h3, h4, h5⟩ := hg
  exact mJ_callV X (As := [v1, v2, v3, v4]) (hM T I P h) h1 h2 (h.sh hr) h3 h4 h5 rfl rfl hW hR hcs hd (fun v T' I' P' hp => by obtain ⟨A', Sh', S', G', ⟨rfl, rfl, rfl, rfl, rfl⟩, hl⟩ := hp; exact kk T' I' P' hl)
theorem rJ_Vi5 (X : mX p s m meth c args cc nL own ret TT NN D vwCl b) {y : MethodName} {bytes : ByteArray} {maxL idx r ci k : Nat} {ry : Option FieldType} {v1 v2 v3 v4 v5 : Value} {w : Int32} {S2 : mI} {G2 : mP} (hg : mG vwCl TT own idx y bytes maxL ry 5 ci) (hM : rMet l D b y bytes maxL ry (mR k) A Sh S G [.ref (A r), v1, v2, v3, v4, v5] (rPi A Sh w S2 G2)) (hr : Sh r = some (0, ci, 0)) (hd : decode cc pc = .ok (.invokevirtual idx, 3)) (hR : k + 1 ≤ R.frames ∧ 8 + (maxL + 11) + 33 * k ≤ R.locals) (hW : (rest.map fun v => v.category).sum ≤ 8) (hcs : cells ≤ R.cells ∧ slots ≤ R.slots) (kk : rJ p l e R s m args below meth c D vwCl mty b nL Z cells slots A Sh S2 G2 lv (pc + 3) (.int w :: rest)) : rJ p l e R s m args below meth c D vwCl mty b nL Z cells slots A Sh S G lv pc (v5 :: v4 :: v3 :: v2 :: v1 :: .ref (A r) :: rest) := fun T I P h => by
  obtain ⟨h1, ⟨F, N, h2⟩, h3, h4, h5⟩ := hg
  exact mJ_callV X (As := [v1, v2, v3, v4, v5]) (hM T I P h) h1 h2 (h.sh hr) h3 h4 h5 rfl rfl hW hR hcs hd (fun v T' I' P' hp => by obtain ⟨A', Sh', S', G', ⟨rfl, rfl, rfl, rfl, rfl⟩, hl⟩ := hp; exact kk T' I' P' hl)
theorem rJ_Vr5 (X : mX p s m meth c args cc nL own ret TT NN D vwCl b) {y : MethodName} {bytes : ByteArray} {maxL idx r ci k : Nat} {ry : Option FieldType} {v1 v2 v3 v4 v5 : Value} {w : Nat} {S2 : mI} {G2 : mP} (hg : mG vwCl TT own idx y bytes maxL ry 5 ci) (hM : rMet l D b y bytes maxL ry (mR k) A Sh S G [.ref (A r), v1, v2, v3, v4, v5] (rPr A Sh w S2 G2)) (hr : Sh r = some (0, ci, 0)) (hd : decode cc pc = .ok (.invokevirtual idx, 3)) (hR : k + 1 ≤ R.frames ∧ 8 + (maxL + 11) + 33 * k ≤ R.locals) (hW : (rest.map fun v => v.category).sum ≤ 8) (hcs : cells ≤ R.cells ∧ slots ≤ R.slots) (kk : rJ p l e R s m args below meth c D vwCl mty b nL Z cells slots A Sh S2 G2 lv (pc + 3) (.ref (A w) :: rest)) : rJ p l e R s m args below meth c D vwCl mty b nL Z cells slots A Sh S G lv pc (v5 :: v4 :: v3 :: v2 :: v1 :: .ref (A r) :: rest) := fun T I P h => by
  obtain ⟨h1, ⟨F, N, h2⟩, h3, h4, h5⟩ := hg
  exact mJ_callV X (As := [v1, v2, v3, v4, v5]) (hM T I P h) h1 h2 (h.sh hr) h3 h4 h5 rfl rfl hW hR hcs hd (fun v T' I' P' hp => by obtain ⟨A', Sh', S', G', ⟨rfl, rfl, rfl, rfl, rfl⟩, hl⟩ := hp; exact kk T' I' P' hl)
theorem rJ_Vv5 (X : mX p s m meth c args cc nL own ret TT NN D vwCl b) {y : MethodName} {bytes : ByteArray} {maxL idx r ci k : Nat} {ry : Option FieldType} {v1 v2 v3 v4 v5 : Value} {S2 : mI} {G2 : mP} (hg : mG vwCl TT own idx y bytes maxL ry 5 ci) (hM : rMet l D b y bytes maxL ry (mR k) A Sh S G [.ref (A r), v1, v2, v3, v4, v5] (rPv A Sh S2 G2)) (hr : Sh r = some (0, ci, 0)) (hd : decode cc pc = .ok (.invokevirtual idx, 3)) (hR : k + 1 ≤ R.frames ∧ 8 + (maxL + 11) + 33 * k ≤ R.locals) (hW : (rest.map fun v => v.category).sum ≤ 8) (hcs : cells ≤ R.cells ∧ slots ≤ R.slots) (kk : rJ p l e R s m args below meth c D vwCl mty b nL Z cells slots A Sh S2 G2 lv (pc + 3) (rest)) : rJ p l e R s m args below meth c D vwCl mty b nL Z cells slots A Sh S G lv pc (v5 :: v4 :: v3 :: v2 :: v1 :: .ref (A r) :: rest) := fun T I P h => by
  obtain ⟨h1, ⟨F, N, h2⟩, h3, h4, h5⟩ := hg
  exact mJ_callV X (As := [v1, v2, v3, v4, v5]) (hM T I P h) h1 h2 (h.sh hr) h3 h4 h5 rfl rfl hW hR hcs hd (fun v T' I' P' hp => by obtain ⟨A', Sh', S', G', ⟨rfl, rfl, rfl, rfl, rfl⟩, hl⟩ := hp; exact kk T' I' P' hl)
end RK
end
section
section RB
variable {p : Program} {l : Launch} {e : Env} {R : Room} {s : State} {m : MethodId} {args : Array Value} {below : List Frame} {meth : Method} {c : Code}
variable {D : va_G} {cl : List vw_C} {ty : Nat → Nat → FieldType} {b nL : Nat} {Z : State → Prop} {cells slots : Nat} {A : Nat → Nat} {Sh : mS} {S : mI} {G : mP} {lv : List (Nat × Value)} {pc : Nat} {rest : List Value}
variable {cc : ByteArray} {own : String} {ret : Option FieldType} {TT : List Cond} {NN : State → Prop}
theorem rJ_inc (X : mX p s m meth c args cc nL own ret TT NN D cl b) {i : Nat} {n : Int} {x w : Int32} (hd : decode cc pc = .ok (.iinc i n, 3)) (hl : lvg lv i = some (.int x)) (hw : Int32.ofInt n = w) (hn : i < nL) (k : rJ p l e R s m args below meth c D cl ty b nL Z cells slots A Sh S G (lvs lv i (.int (x + w))) (pc + 3) rest) : rJ p l e R s m args below meth c D cl ty b nL Z cells slots A Sh S G lv pc rest := rJ_iinc X hd hl (by rw [hw]) hn k
end RB
section RZ
variable {p : Program} {l : Launch} {e : Env} {R : Room} {s : State} {m : MethodId} {args : Array Value} {below : List Frame} {meth : Method} {c : Code}
variable {D : va_G} {b nL : Nat} {Z : State → Prop} {cells slots : Nat} {A : Nat → Nat} {Sh : mS} {S : mI} {G : mP} {lv : List (Nat × Value)} {pc : Nat} {rest : List Value}
variable {cc : ByteArray} {own : String} {ret : Option FieldType}
theorem rMet_oz {y : MethodName} {bytes : ByteArray} {maxL : Nat} {ret : Option FieldType} {rm : Room} {av : List Value} {post : rP} (own : String) (hown : y.cls = own) (hy : plainName y.cls = true) (hav : (lg_sl av).length ≤ maxL)
    (body : ∀ p e s m args below meth c Z, Z = MQ below (mPost D vwCl mty b (rPost post)) args s rm.cells rm.slots (fun q => b ≤ q) → mX p s m meth c args bytes maxL own ret TT NN D vwCl b → meth.name = y.name → rJ p l e rm s m args below meth c D vwCl mty b maxL Z 0 0 A Sh S G (lv_args 0 av) 0 []) : rMet l D b y bytes maxL ret rm A Sh S G av post :=
  rMet_of own hown hy hav (fun p e s m args below meth c X hn => body p e s m args below meth c _ rfl X hn)
theorem rJ_iretZ {post : rP} (hZ : Z = MQ below (mPost D vwCl mty b (rPost post)) args s cells slots (fun q => b ≤ q)) (X : mX p s m meth c args cc nL own (some .int) TT NN D vwCl b) {v : Int32} (hd : decode cc pc = .ok (.ireturn, 1)) (hp : post (some (.int v)) A Sh S G) : rJ p l e R s m args below meth c D vwCl mty b nL Z cells slots A Sh S G lv pc [.int v] := by rw [hZ]; exact rJ_iret X hd hp
theorem rJ_zretZ {post : rP} (hZ : Z = MQ below (mPost D vwCl mty b (rPost post)) args s cells slots (fun q => b ≤ q)) (X : mX p s m meth c args cc nL own (some .boolean) TT NN D vwCl b) {v : Int32} (hd : decode cc pc = .ok (.ireturn, 1)) (hn : narrow .boolean (.int v) = .int v) (hp : post (some (.int v)) A Sh S G) : rJ p l e R s m args below meth c D vwCl mty b nL Z cells slots A Sh S G lv pc [.int v] := by rw [hZ]; exact rJ_zret X hd hn hp
theorem rJ_cretZ {post : rP} (hZ : Z = MQ below (mPost D vwCl mty b (rPost post)) args s cells slots (fun q => b ≤ q)) (X : mX p s m meth c args cc nL own (some .char) TT NN D vwCl b) {v : Int32} (hd : decode cc pc = .ok (.ireturn, 1)) (hn : narrow .char (.int v) = .int v) (hp : post (some (.int v)) A Sh S G) : rJ p l e R s m args below meth c D vwCl mty b nL Z cells slots A Sh S G lv pc [.int v] := by rw [hZ]; exact rJ_cret X hd hn hp
theorem rJ_vretZ {post : rP} (hZ : Z = MQ below (mPost D vwCl mty b (rPost post)) args s cells slots (fun q => b ≤ q)) (X : mX p s m meth c args cc nL own none TT NN D vwCl b) (hd : decode cc pc = .ok (.return_, 1)) (hp : post none A Sh S G) : rJ p l e R s m args below meth c D vwCl mty b nL Z cells slots A Sh S G lv pc [] := by rw [hZ]; exact rJ_vret X hd hp
theorem rJ_aretZ {post : rP} {rt : FieldType} (hZ : Z = MQ below (mPost D vwCl mty b (rPost post)) args s cells slots (fun q => b ≤ q)) (X : mX p s m meth c args cc nL own (some rt) TT NN D vwCl b) (hrt : (∃ n, rt = .object n) ∨ ∃ t, rt = .array t) {r : Nat} (hd : decode cc pc = .ok (.areturn, 1)) (hp : post (some (.ref (A r))) A Sh S G) : rJ p l e R s m args below meth c D vwCl mty b nL Z cells slots A Sh S G lv pc [.ref (A r)] := by rw [hZ]; exact rJ_aret X hrt hd hp
end RZ
/-! numbers of 32 bits -/
theorem i_le {x y : Int32} : x ≤ y ↔ x.toInt ≤ y.toInt := Int32.le_iff_toInt_le
theorem i_lt {x y : Int32} : x < y ↔ x.toInt < y.toInt := Int32.lt_iff_toInt_lt
theorem i_eq {x y : Int32} : x = y ↔ x.toInt = y.toInt := Int32.toInt_inj.symm
theorem i_lo (x : Int32) : -2147483648 ≤ x.toInt := Int32.le_toInt x
theorem i_hi (x : Int32) : x.toInt < 2147483648 := Int32.toInt_lt x
theorem i_add {x y : Int32} (h1 : -2147483648 ≤ x.toInt + y.toInt) (h2 : x.toInt + y.toInt < 2147483648) : (x + y).toInt = x.toInt + y.toInt := by
  rw [Int32.toInt_add]
  exact Int.bmod_eq_of_le (by omega) (by omega)
theorem i_sub {x y : Int32} (h1 : -2147483648 ≤ x.toInt - y.toInt) (h2 : x.toInt - y.toInt < 2147483648) : (x - y).toInt = x.toInt - y.toInt := by
  rw [Int32.toInt_sub]
  exact Int.bmod_eq_of_le (by omega) (by omega)
theorem i_cl {x : Int32} (h : 0 ≤ x.toInt) : ((x.toNatClampNeg : Nat) : Int) = x.toInt := by
  show ((x.toInt.toNat : Nat) : Int) = x.toInt
  omega
theorem in_i {x : Int32} {n : Nat} (h0 : 0 ≤ x.toInt) (h1 : x.toInt < n) : vp_in x n := vp_in_iff.mpr ⟨h0, h1⟩
theorem i_nI {n : Nat} (h : n < 2147483648) : (nI n).toInt = n := nI_toInt h
theorem z_t {P : Prop} [Decidable P] (h : ¬ (if P then (1 : Int32) else 0) = 0) : P := by
  by_cases hp : P
  · exact hp
  · simp [hp] at h
theorem z_f {P : Prop} [Decidable P] (h : (if P then (1 : Int32) else 0) = 0) : ¬ P := fun hp => by simp [hp] at h
theorem z_n {P : Prop} [Decidable P] : narrow .boolean (.int (if P then (1 : Int32) else 0)) = .int (if P then (1 : Int32) else 0) := by
  by_cases hp : P <;> simp [hp] <;> rfl
theorem z_b {P : Prop} [Decidable P] : fits .boolean (.int (if P then (1 : Int32) else 0)) = true := by
  by_cases hp : P <;> simp [hp] <;> rfl
section RQ
variable {p : Program} {l : Launch} {e : Env} {R : Room} {s : State} {m : MethodId} {args : Array Value} {below : List Frame} {meth : Method} {c : Code}
variable {D : va_G} {cl : List vw_C} {ty : Nat → Nat → FieldType} {b nL : Nat} {Z : State → Prop} {cells slots : Nat} {A : Nat → Nat} {Sh : mS} {S : mI} {G : mP} {lv : List (Nat × Value)} {pc : Nat} {rest : List Value}
variable {cc : ByteArray} {own : String} {ret : Option FieldType} {TT : List Cond} {NN : State → Prop}
theorem rJ_ialdK (X : mX p s m meth c args cc nL own ret TT NN D cl b) {r n : Nat} {k : Nat} {i : Int32} (hi : i = nI k) (hk : k < n ∧ n < 2147483648) (hr : Sh r = some (1, 0, n)) (hd : decode cc pc = .ok (.iaload, 1)) (kk : rJ p l e R s m args below meth c D cl ty b nL Z cells slots A Sh S G lv (pc + 1) (.int (S r k) :: rest)) : rJ p l e R s m args below meth c D cl ty b nL Z cells slots A Sh S G lv pc (.int i :: .ref (A r) :: rest) := by
  obtain rfl := hi; have hc : (nI k).toNatClampNeg = k := nI_clamp (by omega)
  exact rJ_iald X hr (vp_in_nI hk.1 hk.2) hd (by rw [hc]; exact kk)
theorem rJ_zaldK (X : mX p s m meth c args cc nL own ret TT NN D cl b) {r n : Nat} {k : Nat} {i : Int32} (hi : i = nI k) (hk : k < n ∧ n < 2147483648) (hr : Sh r = some (2, 0, n)) (hd : decode cc pc = .ok (.baload, 1)) (kk : rJ p l e R s m args below meth c D cl ty b nL Z cells slots A Sh S G lv (pc + 1) (.int (S r k) :: rest)) : rJ p l e R s m args below meth c D cl ty b nL Z cells slots A Sh S G lv pc (.int i :: .ref (A r) :: rest) := by
  obtain rfl := hi; have hc : (nI k).toNatClampNeg = k := nI_clamp (by omega)
  exact rJ_zald X hr (vp_in_nI hk.1 hk.2) hd (by rw [hc]; exact kk)
theorem rJ_iastK (X : mX p s m meth c args cc nL own ret TT NN D cl b) {r n : Nat} {x : Int32} {k : Nat} {i : Int32} (hi : i = nI k) (hk : k < n ∧ n < 2147483648) (hr : Sh r = some (1, 0, n)) (hd : decode cc pc = .ok (.iastore, 1)) (kk : ∀ S' : mI, S' = mu S r k x → rJ p l e R s m args below meth c D cl ty b nL Z cells slots A Sh S' G lv (pc + 1) rest) : rJ p l e R s m args below meth c D cl ty b nL Z cells slots A Sh S G lv pc (.int x :: .int i :: .ref (A r) :: rest) := by
  obtain rfl := hi; have hc : (nI k).toNatClampNeg = k := nI_clamp (by omega)
  exact rJ_iast X hr (vp_in_nI hk.1 hk.2) hd (fun S' e => kk S' (by rw [e, hc]))
theorem rJ_zastK (X : mX p s m meth c args cc nL own ret TT NN D cl b) {r n : Nat} {x : Int32} {k : Nat} {i : Int32} (hi : i = nI k) (hk : k < n ∧ n < 2147483648) (hr : Sh r = some (2, 0, n)) (hx : vp_nar .boolean x = x) (hd : decode cc pc = .ok (.bastore, 1)) (kk : ∀ S' : mI, S' = mu S r k x → rJ p l e R s m args below meth c D cl ty b nL Z cells slots A Sh S' G lv (pc + 1) rest) : rJ p l e R s m args below meth c D cl ty b nL Z cells slots A Sh S G lv pc (.int x :: .int i :: .ref (A r) :: rest) := by
  obtain rfl := hi; have hc : (nI k).toNatClampNeg = k := nI_clamp (by omega)
  exact rJ_zast X hr (vp_in_nI hk.1 hk.2) hx hd (fun S' e => kk S' (by rw [e, hc]))
theorem rJ_aaldK (X : mX p s m meth c args cc nL own ret TT NN D cl b) {r j n q : Nat} {k : Nat} {i : Int32} (hi : i = nI k) (hk : k < n ∧ n < 2147483648) (hr : Sh r = some (j + 3, 0, n)) (hg : G r k = some q) (hd : decode cc pc = .ok (.aaload, 1)) (kk : rJ p l e R s m args below meth c D cl ty b nL Z cells slots A Sh S G lv (pc + 1) (.ref (A q) :: rest)) : rJ p l e R s m args below meth c D cl ty b nL Z cells slots A Sh S G lv pc (.int i :: .ref (A r) :: rest) := by
  obtain rfl := hi; have hc : (nI k).toNatClampNeg = k := nI_clamp (by omega)
  exact rJ_aald X hr (vp_in_nI hk.1 hk.2) (by rw [hc]; exact hg) hd kk
theorem rJ_aastK (X : mX p s m meth c args cc nL own ret TT NN D cl b) {r j n q : Nat} {k : Nat} {i : Int32} (hi : i = nI k) (hk : k < n ∧ n < 2147483648) (hr : Sh r = some (j + 3, 0, n)) (hq : Sh q = some (0, j, 0)) (hd : decode cc pc = .ok (.aastore, 1)) (kk : ∀ G' : mP, G' = mu G r k (some q) → rJ p l e R s m args below meth c D cl ty b nL Z cells slots A Sh S G' lv (pc + 1) rest) : rJ p l e R s m args below meth c D cl ty b nL Z cells slots A Sh S G lv pc (.ref (A q) :: .int i :: .ref (A r) :: rest) := by
  obtain rfl := hi; have hc : (nI k).toNatClampNeg = k := nI_clamp (by omega)
  exact rJ_aast X hr hq (vp_in_nI hk.1 hk.2) hd (fun G' e => kk G' (by rw [e, hc]))
end RQ
/-! the reference's cells: its object 100, the row of its field k at 101 + k -/
def shM (r : Nat) : Option (Nat × Nat × Nat) := bif Nat.blt r 100 then none else [some (0, 11, 0), some (1, 0, 30), none, none, some (1, 0, 7), none, some (1, 0, 40), some (1, 0, 40), some (1, 0, 40), some (1, 0, 40), some (1, 0, 40), none, some (1, 0, 64), some (1, 0, 8), some (1, 0, 8), some (2, 0, 8), some (1, 0, 8), some (1, 0, 8), some (1, 0, 8), some (1, 0, 8), some (1, 0, 8), none, none, none, none, some (1, 0, 8), some (1, 0, 8), some (1, 0, 64), none, some (1, 0, 1000), some (1, 0, 1000), some (1, 0, 1000), some (1, 0, 1000), none, some (1, 0, 7), some (1, 0, 8), some (1, 0, 64)].getD (r - 100) none
def gM (k : Nat) : Option Nat := [some 101, none, none, some 104, none, some 106, some 107, some 108, some 109, some 110, none, some 112, some 113, some 114, some 115, some 116, some 117, some 118, some 119, some 120, none, none, none, none, some 125, some 126, some 127, none, some 129, some 130, some 131, some 132, none, some 134, some 135, some 136].getD k none
def okM (Sh : mS) (G : mP) : Prop := (∀ r sh, shM r = some sh → Sh r = some sh) ∧ ∀ k q, gM k = some q → G 100 k = some q
end
section
/-! methods of classes some of whose methods are run by entries (java/lang/Math): by the method's name -/
theorem Met_ofWF {l : Launch} {y : MethodName} {ws ws' : List Cond} {rm : Room} {Pc : Array Value → State → Prop} {Qc : Array Value → State → Outcome → State → Prop} {mc ms : Nat} {free : Addr → Prop} {cc : ByteArray} {maxL : Nat} {ret : Option FieldType}
    (hy : plainFor y = true) (hw : ws = Cond.code y cc maxL ret :: ws')
    (body : ∀ p e s m args below meth c s₁, BodyLoose p l y (headSpec ws rm) cc maxL ret e s m args below meth c s₁ → c.maxLocals = maxL → Pc args s →
      W p l e (headSpec ws rm).room s m args below meth c s.heap [] 0 0 (MQ below Qc args s mc ms free) (entryFrame m args maxL)) : Met l y ws rm Pc Qc mc ms free := by
  refine MetFree.of_bodySF (code := cc) (maxLocals := maxL) (ret := ret) hy ?_ ?_
  · intro args s m h hn
    obtain ⟨meth, c, h1, h2, h3, h4, h5, h6, -, -⟩ := Cond.code_spec hn (atoms_spec (ws := ws) h _ (by rw [hw]; exact List.mem_cons_self))
    exact ⟨meth, c, h1, h2, h3, h4, h5, h6⟩
  · intro p e s m args below meth c s₁ B hml hP _
    have hh0 : s₁.heap = s.heap := by rw [B.state]; rfl
    obtain ⟨t, a1, o, b1, b2, b3⟩ := body p e s m args below meth c s₁ B hml hP s₁ hh0 (Stand.of_body B)
    exact ⟨t, o, a1, b1, b2, ⟨b3.1, b3.2⟩⟩
theorem rMet_ozF {l : Launch} {D : va_G} {b : Nat} {A : Nat → Nat} {Sh : mS} {S : mI} {G : mP} {y : MethodName} {bytes : ByteArray} {maxL : Nat} {ret : Option FieldType} {rm : Room} {av : List Value} {post : rP} (own : String) (hown : y.cls = own) (hy : plainFor y = true) (hav : (lg_sl av).length ≤ maxL)
    (body : ∀ p e s m args below meth c Z, Z = MQ below (mPost D vwCl mty b (rPost post)) args s rm.cells rm.slots (fun q => b ≤ q) → mX p s m meth c args bytes maxL own ret TT NN D vwCl b → meth.name = y.name → rJ p l e rm s m args below meth c D vwCl mty b maxL Z 0 0 A Sh S G (lv_args 0 av) 0 []) : rMet l D b y bytes maxL ret rm A Sh S G av post := by
  intro T I P h
  refine Met_ofWF (cc := bytes) (maxL := maxL) (ret := ret) hy rfl ?_
  intro p e s m args below meth c s₁ B hml hv
  obtain ⟨rfl, hb, hK, hW, hNs⟩ := hv
  have hts := atoms_spec (ws := .code y bytes maxL ret :: TT) B.pre
  have ho : s.vm.findClass own = some m.cls := by rw [← hown]; exact findClass_of_methodNamed B.named
  rw [lg_entry_eq]
  exact body p e s m _ below meth c _ rfl ⟨B.exec, B.bytes, hml, ho, fun w hw => hts w (List.mem_cons_of_mem _ hw), hK, hb, B.returns, B.notSynchronized, hNs, TT_good, NN_w⟩ (name_of_methodNamed B.named B.method).1 T I P h s.heap [] _ hW va_S.rf (lv_entry av hav)
end
section
set_option maxHeartbeats 4000000 in
set_option maxRecDepth 100000 in
theorem cM_isIn {l : Launch} {D : va_G} {b : Nat} {A : Nat → Nat} {Sh : mS} {S : mI} {G : mP} (v lo hi : Int32) : rMet l D b yX11_isIn cX11_isIn 3 (some .boolean) (mR 0) A Sh S G [.int v, .int lo, .int hi] (rPi A Sh (if lo ≤ v ∧ v ≤ hi then 1 else 0) S G) := by
  refine rMet_oz RX11 rfl (by decide) (Nat.le_of_ble_eq_true rfl) ?_
  intro p e s m args below meth c Z hZ X hnm
  refine rJ_iload_n X dX11_isIn_0 rfl rfl ?_
  refine rJ_iload_n X dX11_isIn_1 rfl rfl ?_
  refine rJ_icmp_lt (tgt := 14) X dX11_isIn_2 (by decide) (fun c1 => ?_) (fun c1 => ?_)
  · refine rJ_iconst (v := 0) X dX11_isIn_14 (by decide) ?_
    exact rJ_zretZ hZ X dX11_isIn_15 rfl ⟨by grind, rfl, rfl, rfl, rfl⟩
  · refine rJ_iload_n X dX11_isIn_5 rfl rfl ?_
    refine rJ_iload_n X dX11_isIn_6 rfl rfl ?_
    refine rJ_icmp_gt (tgt := 14) X dX11_isIn_7 (by decide) (fun c2 => ?_) (fun c2 => ?_)
    · refine rJ_iconst (v := 0) X dX11_isIn_14 (by decide) ?_
      exact rJ_zretZ hZ X dX11_isIn_15 rfl ⟨by grind, rfl, rfl, rfl, rfl⟩
    · refine rJ_iconst (v := 1) X dX11_isIn_10 (by decide) ?_
      refine rJ_goto (tgt := 15) X dX11_isIn_11 (by decide) ?_
      exact rJ_zretZ hZ X dX11_isIn_15 rfl ⟨by grind, rfl, rfl, rfl, rfl⟩
/-- the kind of instruction n: a stop where there is none -/
def mKind (S : mI) (n : Int32) : Int32 := if 0 ≤ n ∧ n ≤ S 100 10 - 1 then S 106 n.toNatClampNeg else 0
theorem mKind_in {S : mI} {n : Int32} {sz : Nat} (hs : S 100 10 = nI sz) (h40 : sz ≤ 40) (h : 0 ≤ n ∧ n ≤ S 100 10 - 1) : vp_in n 40 := by
  rw [hs, i_le, i_le] at h
  have h1 : (nI sz - 1).toInt = (nI sz).toInt - (1 : Int32).toInt := i_sub (by rw [i_nI (by omega)]; show _ ≤ _ - (1 : Int); omega) (by rw [i_nI (by omega)]; show _ - (1 : Int) < _; omega)
  rw [h1, i_nI (by omega)] at h
  have e1 : (1 : Int32).toInt = 1 := rfl
  have e0 : (0 : Int32).toInt = 0 := rfl
  rw [e1, e0] at h
  exact in_i (by omega) (by omega)
set_option maxHeartbeats 4000000 in
set_option maxRecDepth 100000 in
theorem cM_kindOf {l : Launch} {D : va_G} {b : Nat} {A : Nat → Nat} {Sh : mS} {S : mI} {G : mP} (hw : okM Sh G) (n : Int32) {sz : Nat} (hs : S 100 10 = nI sz) (h40 : sz ≤ 40) : rMet l D b yX11_kindOf cX11_kindOf 2 (some .int) (mR 1) A Sh S G [.ref (A 100), .int n] (rPi A Sh (mKind S n) S G) := by
  refine rMet_oz RX11 rfl (by decide) (Nat.le_of_ble_eq_true rfl) ?_
  intro p e s m args below meth c Z hZ X hnm
  refine rJ_iload_n X dX11_kindOf_0 rfl rfl ?_
  refine rJ_iconst (v := 0) X dX11_kindOf_1 (by decide) ?_
  refine rJ_aload_n X dX11_kindOf_2 rfl rfl ?_
  refine rJ_getI X fX11_126 (hw.1 _ _ rfl) dX11_kindOf_3 ?_
  refine rJ_iconst (v := 1) X dX11_kindOf_6 (by decide) ?_
  refine rJ_isub X dX11_kindOf_7 ?_
  refine rJ_Si3 X gX11_115 (cM_isIn _ _ _) dX11_kindOf_8 (by decide) (Nat.le_of_ble_eq_true rfl) ⟨Nat.le_refl _, Nat.le_refl _⟩ ?_
  refine rJ_if_eq (tgt := 23) X dX11_kindOf_11 (by decide) (fun c1 => ?_) (fun c1 => ?_)
  · try replace c1 := z_f c1
    refine rJ_iconst (v := 0) X dX11_kindOf_23 (by decide) ?_
    exact rJ_iretZ hZ X dX11_kindOf_24 ⟨by grind [mKind], rfl, rfl, rfl, rfl⟩
  · try replace c1 := z_t c1
    refine rJ_aload_n X dX11_kindOf_14 rfl rfl ?_
    refine rJ_getR X fX11_23 (hw.1 _ _ rfl) (hw.2 _ _ rfl) dX11_kindOf_15 ?_
    refine rJ_iload_n X dX11_kindOf_18 rfl rfl ?_
    refine rJ_iald X (hw.1 _ _ rfl) (mKind_in hs h40 c1) dX11_kindOf_19 ?_
    refine rJ_goto (tgt := 24) X dX11_kindOf_20 (by decide) ?_
    exact rJ_iretZ hZ X dX11_kindOf_24 ⟨by grind [mKind], rfl, rfl, rfl, rfl⟩
theorem mKind_ne {S : mI} {n : Int32} {sz : Nat} (hs : S 100 10 = nI sz) (h40 : sz ≤ 40) (h : mKind S n ≠ 0) : vp_in n 40 := by
  by_cases hc : 0 ≤ n ∧ n ≤ S 100 10 - 1
  · exact mKind_in hs h40 hc
  · simp [mKind, hc] at h
abbrev mCR (S : mI) (n reg : Int32) : Prop := (1 ≤ mKind S n ∧ mKind S n ≤ 5) ∧ S 107 n.toNatClampNeg = reg
set_option maxHeartbeats 4000000 in
set_option maxRecDepth 100000 in
theorem cM_commitsRegister {l : Launch} {D : va_G} {b : Nat} {A : Nat → Nat} {Sh : mS} {S : mI} {G : mP} (hw : okM Sh G) (n reg : Int32) {sz : Nat} (hs : S 100 10 = nI sz) (h40 : sz ≤ 40) : rMet l D b yX11_commitsRegister cX11_commitsRegister 3 (some .boolean) (mR 2) A Sh S G [.ref (A 100), .int n, .int reg] (rPi A Sh (if mCR S n reg then 1 else 0) S G) := by
  refine rMet_oz RX11 rfl (by decide) (Nat.le_of_ble_eq_true rfl) ?_
  intro p e s m args below meth c Z hZ X hnm
  refine rJ_aload_n X dX11_commitsRegister_0 rfl rfl ?_
  refine rJ_iload_n X dX11_commitsRegister_1 rfl rfl ?_
  refine rJ_Vi1 X gX11_129 (cM_kindOf hw _ hs h40) (hw.1 _ _ rfl) dX11_commitsRegister_2 (by decide) (Nat.le_of_ble_eq_true rfl) ⟨Nat.le_refl _, Nat.le_refl _⟩ ?_
  refine rJ_iconst (v := 1) X dX11_commitsRegister_5 (by decide) ?_
  refine rJ_iconst (v := 5) X dX11_commitsRegister_6 (by decide) ?_
  refine rJ_Si3 X gX11_115 (cM_isIn _ _ _) dX11_commitsRegister_7 (by decide) (Nat.le_of_ble_eq_true rfl) ⟨Nat.le_refl _, Nat.le_refl _⟩ ?_
  refine rJ_if_eq (tgt := 27) X dX11_commitsRegister_10 (by decide) (fun c1 => ?_) (fun c1 => ?_)
  · try replace c1 := z_f c1
    refine rJ_iconst (v := 0) X dX11_commitsRegister_27 (by decide) ?_
    exact rJ_zretZ hZ X dX11_commitsRegister_28 rfl ⟨by grind, rfl, rfl, rfl, rfl⟩
  · try replace c1 := z_t c1
    refine rJ_aload_n X dX11_commitsRegister_13 rfl rfl ?_
    refine rJ_getR X fX11_26 (hw.1 _ _ rfl) (hw.2 _ _ rfl) dX11_commitsRegister_14 ?_
    refine rJ_iload_n X dX11_commitsRegister_17 rfl rfl ?_
    refine rJ_iald X (hw.1 _ _ rfl) (mKind_ne hs h40 (by grind)) dX11_commitsRegister_18 ?_
    refine rJ_iload_n X dX11_commitsRegister_19 rfl rfl ?_
    refine rJ_icmp_ne (tgt := 27) X dX11_commitsRegister_20 (by decide) (fun c2 => ?_) (fun c2 => ?_)
    · refine rJ_iconst (v := 0) X dX11_commitsRegister_27 (by decide) ?_
      exact rJ_zretZ hZ X dX11_commitsRegister_28 rfl ⟨by grind, rfl, rfl, rfl, rfl⟩
    · refine rJ_iconst (v := 1) X dX11_commitsRegister_23 (by decide) ?_
      refine rJ_goto (tgt := 28) X dX11_commitsRegister_24 (by decide) ?_
      exact rJ_zretZ hZ X dX11_commitsRegister_28 rfl ⟨by grind, rfl, rfl, rfl, rfl⟩
/-- the youngest of the older threads that commits the register: its stage, or st -/
def mGvF (S : mI) (reg : Int32) : Nat → Nat → Nat
  | 0, k => k
  | f + 1, k => if ¬ S 115 k = 0 ∧ mCR S (S 114 k) reg then k else mGvF S reg f (k + 1)
abbrev mGv (S : mI) (st : Nat) (reg : Int32) (k : Nat) : Nat := mGvF S reg (st - k) k
theorem mGv_end (S : mI) (st : Nat) (reg : Int32) : mGv S st reg st = st := by simp [mGv, mGvF]
theorem mGv_step (S : mI) {st k : Nat} (reg : Int32) (h : k < st) : mGv S st reg k = if ¬ S 115 k = 0 ∧ mCR S (S 114 k) reg then k else mGv S st reg (k + 1) := by
  have e : st - k = (st - (k + 1)) + 1 := by omega
  show mGvF S reg (st - k) k = _
  rw [e]
  rfl
theorem mGv_le (S : mI) (st : Nat) (reg : Int32) : ∀ f k, k + f = st → mGvF S reg f k ≤ st ∧ k ≤ mGvF S reg f k := by
  intro f
  induction f with
  | zero => intro k h; simp [mGvF]; omega
  | succ f ih =>
    intro k h
    unfold mGvF
    split
    · omega
    · have := ih (k + 1) (by omega); omega
theorem mGv_in (S : mI) {st k : Nat} (reg : Int32) (h : k ≤ st) : mGv S st reg k ≤ st ∧ k ≤ mGv S st reg k := mGv_le S st reg (st - k) k (by omega)
set_option maxHeartbeats 4000000 in
set_option maxRecDepth 100000 in
theorem cM_giver {l : Launch} {D : va_G} {b : Nat} {A : Nat → Nat} {Sh : mS} {S : mI} {G : mP} (hw : okM Sh G) (reg : Int32) {sz : Nat} (hs : S 100 10 = nI sz) (h40 : sz ≤ 40) {st s0 : Nat} (h2 : S 100 2 = nI st) (h8 : st ≤ 8) (hlt : s0 < st) : rMet l D b yX11_giver cX11_giver 4 (some .int) (mR 3) A Sh S G [.ref (A 100), .int (nI s0), .int reg] (rPi A Sh (nI (mGv S st reg (s0 + 1))) S G) := by
  refine rMet_oz RX11 rfl (by decide) (Nat.le_of_ble_eq_true rfl) ?_
  intro p e s m args below meth c Z hZ X hnm
  have loop : ∀ (f k : Nat), k ≤ st → st - k < f → mGv S st reg k = mGv S st reg (s0 + 1) → rJ p l e (mR 3) s m args below meth c D vwCl mty b 4 Z 0 0 A Sh S G [(0, .ref (A 100)), (1, .int (nI s0)), (2, .int reg), (3, .int (nI k))] 4 [] := by
    intro f
    induction f with
    | zero => intro k h1 h3; exact absurd h3 (by omega)
    | succ f ih =>
      intro k h1 h3 he
      refine rJ_iload_n X dX11_giver_4 rfl rfl ?_
      refine rJ_aload_n X dX11_giver_5 rfl rfl ?_
      refine rJ_getI X fX11_13 (hw.1 _ _ rfl) dX11_giver_6 ?_
      refine rJ_icmp_ge (tgt := 43) X dX11_giver_9 (by decide) (fun c1 => ?_) (fun c1 => ?_)
      · rw [h2, nI_leI (by omega) (by omega)] at c1
        refine rJ_aload_n X dX11_giver_43 rfl rfl ?_
        refine rJ_getI X fX11_13 (hw.1 _ _ rfl) dX11_giver_44 ?_
        exact rJ_iretZ hZ X dX11_giver_47 ⟨by rw [← he, h2, show k = st by omega, mGv_end], rfl, rfl, rfl, rfl⟩
      · rw [h2, nI_leI (by omega) (by omega)] at c1
        refine rJ_aload_n X dX11_giver_12 rfl rfl ?_
        refine rJ_getR X fX11_47 (hw.1 _ _ rfl) (hw.2 _ _ rfl) dX11_giver_13 ?_
        refine rJ_iload_n X dX11_giver_16 rfl rfl ?_
        refine rJ_zaldK (k := k) X rfl ⟨by omega, by omega⟩ (hw.1 _ _ rfl) dX11_giver_17 ?_
        refine rJ_if_eq (tgt := 37) X dX11_giver_18 (by decide) (fun c2 => ?_) (fun c2 => ?_)
        · refine rJ_inc (n := 1) (w := 1) X dX11_giver_37 rfl (by decide) (by decide) ?_
          rw [nI_1 k]
          refine rJ_goto (tgt := 4) X dX11_giver_40 (by decide) ?_
          exact rJ_lv _ rfl (ih (k + 1) (by omega) (by omega) (by rw [← he, mGv_step S (k := k) reg (by omega), if_neg (by first | exact fun q => q.1 c2 | exact fun q => c3 q.2)]))
        · refine rJ_aload_n X dX11_giver_21 rfl rfl ?_
          refine rJ_aload_n X dX11_giver_22 rfl rfl ?_
          refine rJ_getR X fX11_44 (hw.1 _ _ rfl) (hw.2 _ _ rfl) dX11_giver_23 ?_
          refine rJ_iload_n X dX11_giver_26 rfl rfl ?_
          refine rJ_ialdK (k := k) X rfl ⟨by omega, by omega⟩ (hw.1 _ _ rfl) dX11_giver_27 ?_
          refine rJ_iload_n X dX11_giver_28 rfl rfl ?_
          refine rJ_Vi2 X gX11_132 (cM_commitsRegister hw _ _ hs h40) (hw.1 _ _ rfl) dX11_giver_29 (by decide) (Nat.le_of_ble_eq_true rfl) ⟨Nat.le_refl _, Nat.le_refl _⟩ ?_
          refine rJ_if_eq (tgt := 37) X dX11_giver_32 (by decide) (fun c3 => ?_) (fun c3 => ?_)
          · try replace c3 := z_f c3
            refine rJ_inc (n := 1) (w := 1) X dX11_giver_37 rfl (by decide) (by decide) ?_
            rw [nI_1 k]
            refine rJ_goto (tgt := 4) X dX11_giver_40 (by decide) ?_
            exact rJ_lv _ rfl (ih (k + 1) (by omega) (by omega) (by rw [← he, mGv_step S (k := k) reg (by omega), if_neg (by first | exact fun q => q.1 c2 | exact fun q => c3 q.2)]))
          · try replace c3 := z_t c3
            refine rJ_iload_n X dX11_giver_35 rfl rfl ?_
            exact rJ_iretZ hZ X dX11_giver_36 ⟨by rw [← he, mGv_step S reg (by omega), if_pos ⟨c2, c3⟩], rfl, rfl, rfl, rfl⟩
  refine rJ_iload_n X dX11_giver_0 rfl rfl ?_
  refine rJ_iconst (v := 1) X dX11_giver_1 (by decide) ?_
  refine rJ_iadd X dX11_giver_2 ?_
  refine rJ_as (nI (s0 + 1)) (nI_1 s0) ?_
  refine rJ_istore_n X dX11_giver_3 rfl (by decide) ?_
  exact rJ_lv _ rfl (loop (st + 1) (s0 + 1) (by omega) (by omega) rfl)
abbrev mNeed (S : mI) (n : Int32) : Int32 := if mKind S n = 5 ∧ S 100 4 < S 104 5 then S 104 5 else S 100 4
/-- the register can be read at stage s0 -/
def mRdy (S : mI) (st s0 : Nat) (reg : Int32) : Bool := if mGv S st reg (s0 + 1) = st then decide (¬ S 126 reg.toNatClampNeg = S 100 20) else decide (¬ S 100 4 = -1 ∧ (mNeed S (S 114 (mGv S st reg (s0 + 1))) + 1 < nI (mGv S st reg (s0 + 1)) ∨ nI (mGv S st reg (s0 + 1)) = mNeed S (S 114 (mGv S st reg (s0 + 1))) + 1 ∧ S 120 (mGv S st reg (s0 + 1)) < S 100 20))
def mRead (S : mI) (st s0 : Nat) (reg : Int32) : Int32 := if mGv S st reg (s0 + 1) = st then S 125 reg.toNatClampNeg else S 118 (mGv S st reg (s0 + 1))
set_option maxHeartbeats 4000000 in
set_option maxRecDepth 100000 in
theorem cM_isReady {l : Launch} {D : va_G} {b : Nat} {A : Nat → Nat} {Sh : mS} {S : mI} {G : mP} (hw : okM Sh G) (reg : Int32) {sz : Nat} (hs : S 100 10 = nI sz) (h40 : sz ≤ 40) {st s0 : Nat} (h2 : S 100 2 = nI st) (h8 : st ≤ 8) (hlt : s0 < st) (hr8 : vp_in reg 8) : rMet l D b yX11_isReady cX11_isReady 5 (some .boolean) (mR 4) A Sh S G [.ref (A 100), .int (nI s0), .int reg] (rPi A Sh (if mRdy S st s0 reg = true then 1 else 0) S G) := by
  refine rMet_oz RX11 rfl (by decide) (Nat.le_of_ble_eq_true rfl) ?_
  intro p e s m args below meth c Z hZ X hnm
  have hg := mGv_in S (k := s0 + 1) reg (st := st) (by omega)
  refine rJ_aload_n X dX11_isReady_0 rfl rfl ?_
  refine rJ_iload_n X dX11_isReady_1 rfl rfl ?_
  refine rJ_iload_n X dX11_isReady_2 rfl rfl ?_
  refine rJ_Vi2 X gX11_136 (cM_giver hw _ hs h40 h2 h8 hlt) (hw.1 _ _ rfl) dX11_isReady_3 (by decide) (Nat.le_of_ble_eq_true rfl) ⟨Nat.le_refl _, Nat.le_refl _⟩ ?_
  refine rJ_istore_n X dX11_isReady_6 rfl (by decide) ?_
  refine rJ_iload_n X dX11_isReady_7 rfl rfl ?_
  refine rJ_aload_n X dX11_isReady_8 rfl rfl ?_
  refine rJ_getI X fX11_13 (hw.1 _ _ rfl) dX11_isReady_9 ?_
  refine rJ_icmp_ne (tgt := 34) X dX11_isReady_12 (by decide) (fun c1 => ?_) (fun c1 => ?_)
  · rw [h2, nI_eq (by omega) (by omega)] at c1
    refine rJ_aload_n X dX11_isReady_34 rfl rfl ?_
    refine rJ_getI X fX11_20 (hw.1 _ _ rfl) dX11_isReady_35 ?_
    refine rJ_iconst (v := (-1)) X dX11_isReady_38 (by decide) ?_
    refine rJ_icmp_ne (tgt := 44) X dX11_isReady_39 (by decide) (fun c2 => ?_) (fun c2 => ?_)
    · refine rJ_aload_n X dX11_isReady_44 rfl rfl ?_
      refine rJ_aload_n X dX11_isReady_45 rfl rfl ?_
      refine rJ_getR X fX11_44 (hw.1 _ _ rfl) (hw.2 _ _ rfl) dX11_isReady_46 ?_
      refine rJ_iload_n X dX11_isReady_49 rfl rfl ?_
      refine rJ_ialdK (k := mGv S st reg (s0 + 1)) X rfl ⟨by omega, by omega⟩ (hw.1 _ _ rfl) dX11_isReady_50 ?_
      refine rJ_Vi1 X gX11_129 (cM_kindOf hw _ hs h40) (hw.1 _ _ rfl) dX11_isReady_51 (by decide) (Nat.le_of_ble_eq_true rfl) ⟨Nat.le_refl _, Nat.le_refl _⟩ ?_
      refine rJ_iconst (v := 5) X dX11_isReady_54 (by decide) ?_
      refine rJ_icmp_ne (tgt := 80) X dX11_isReady_55 (by decide) (fun c3 => ?_) (fun c3 => ?_)
      · refine rJ_aload_n X dX11_isReady_80 rfl rfl ?_
        refine rJ_getI X fX11_20 (hw.1 _ _ rfl) dX11_isReady_81 ?_
        refine rJ_istore X dX11_isReady_84 (by decide) ?_
        refine rJ_iload_n X dX11_isReady_86 rfl rfl ?_
        refine rJ_iload X dX11_isReady_87 rfl ?_
        refine rJ_iconst (v := 1) X dX11_isReady_89 (by decide) ?_
        refine rJ_iadd X dX11_isReady_90 ?_
        refine rJ_icmp_gt (tgt := 115) X dX11_isReady_91 (by decide) (fun c4 => ?_) (fun c4 => ?_)
        · refine rJ_iconst (v := 1) X dX11_isReady_115 (by decide) ?_
          refine rJ_goto (tgt := 120) X dX11_isReady_116 (by decide) ?_
          exact rJ_zretZ hZ X dX11_isReady_120 rfl ⟨by clear X hZ; simp only [mRdy, mNeed]; grind, rfl, rfl, rfl, rfl⟩
        · refine rJ_iload_n X dX11_isReady_94 rfl rfl ?_
          refine rJ_iload X dX11_isReady_95 rfl ?_
          refine rJ_iconst (v := 1) X dX11_isReady_97 (by decide) ?_
          refine rJ_iadd X dX11_isReady_98 ?_
          refine rJ_icmp_ne (tgt := 119) X dX11_isReady_99 (by decide) (fun c5 => ?_) (fun c5 => ?_)
          · refine rJ_iconst (v := 0) X dX11_isReady_119 (by decide) ?_
            exact rJ_zretZ hZ X dX11_isReady_120 rfl ⟨by clear X hZ; simp only [mRdy, mNeed]; grind, rfl, rfl, rfl, rfl⟩
          · refine rJ_aload_n X dX11_isReady_102 rfl rfl ?_
            refine rJ_getR X fX11_63 (hw.1 _ _ rfl) (hw.2 _ _ rfl) dX11_isReady_103 ?_
            refine rJ_iload_n X dX11_isReady_106 rfl rfl ?_
            refine rJ_ialdK (k := mGv S st reg (s0 + 1)) X rfl ⟨by omega, by omega⟩ (hw.1 _ _ rfl) dX11_isReady_107 ?_
            refine rJ_aload_n X dX11_isReady_108 rfl rfl ?_
            refine rJ_getI X fX11_99 (hw.1 _ _ rfl) dX11_isReady_109 ?_
            refine rJ_icmp_ge (tgt := 119) X dX11_isReady_112 (by decide) (fun c6 => ?_) (fun c6 => ?_)
            · refine rJ_iconst (v := 0) X dX11_isReady_119 (by decide) ?_
              exact rJ_zretZ hZ X dX11_isReady_120 rfl ⟨by clear X hZ; simp only [mRdy, mNeed]; grind, rfl, rfl, rfl, rfl⟩
            · refine rJ_iconst (v := 1) X dX11_isReady_115 (by decide) ?_
              refine rJ_goto (tgt := 120) X dX11_isReady_116 (by decide) ?_
              exact rJ_zretZ hZ X dX11_isReady_120 rfl ⟨by clear X hZ; simp only [mRdy, mNeed]; grind, rfl, rfl, rfl, rfl⟩
      · refine rJ_aload_n X dX11_isReady_58 rfl rfl ?_
        refine rJ_getR X fX11_17 (hw.1 _ _ rfl) (hw.2 _ _ rfl) dX11_isReady_59 ?_
        refine rJ_iconst (v := 5) X dX11_isReady_62 (by decide) ?_
        refine rJ_ialdK (k := 5) X (by decide) ⟨by decide, by decide⟩ (hw.1 _ _ rfl) dX11_isReady_63 ?_
        refine rJ_aload_n X dX11_isReady_64 rfl rfl ?_
        refine rJ_getI X fX11_20 (hw.1 _ _ rfl) dX11_isReady_65 ?_
        refine rJ_icmp_le (tgt := 80) X dX11_isReady_68 (by decide) (fun c7 => ?_) (fun c7 => ?_)
        · refine rJ_aload_n X dX11_isReady_80 rfl rfl ?_
          refine rJ_getI X fX11_20 (hw.1 _ _ rfl) dX11_isReady_81 ?_
          refine rJ_istore X dX11_isReady_84 (by decide) ?_
          refine rJ_iload_n X dX11_isReady_86 rfl rfl ?_
          refine rJ_iload X dX11_isReady_87 rfl ?_
          refine rJ_iconst (v := 1) X dX11_isReady_89 (by decide) ?_
          refine rJ_iadd X dX11_isReady_90 ?_
          refine rJ_icmp_gt (tgt := 115) X dX11_isReady_91 (by decide) (fun c8 => ?_) (fun c8 => ?_)
          · refine rJ_iconst (v := 1) X dX11_isReady_115 (by decide) ?_
            refine rJ_goto (tgt := 120) X dX11_isReady_116 (by decide) ?_
            exact rJ_zretZ hZ X dX11_isReady_120 rfl ⟨by clear X hZ; simp only [mRdy, mNeed]; grind, rfl, rfl, rfl, rfl⟩
          · refine rJ_iload_n X dX11_isReady_94 rfl rfl ?_
            refine rJ_iload X dX11_isReady_95 rfl ?_
            refine rJ_iconst (v := 1) X dX11_isReady_97 (by decide) ?_
            refine rJ_iadd X dX11_isReady_98 ?_
            refine rJ_icmp_ne (tgt := 119) X dX11_isReady_99 (by decide) (fun c9 => ?_) (fun c9 => ?_)
            · refine rJ_iconst (v := 0) X dX11_isReady_119 (by decide) ?_
              exact rJ_zretZ hZ X dX11_isReady_120 rfl ⟨by clear X hZ; simp only [mRdy, mNeed]; grind, rfl, rfl, rfl, rfl⟩
            · refine rJ_aload_n X dX11_isReady_102 rfl rfl ?_
              refine rJ_getR X fX11_63 (hw.1 _ _ rfl) (hw.2 _ _ rfl) dX11_isReady_103 ?_
              refine rJ_iload_n X dX11_isReady_106 rfl rfl ?_
              refine rJ_ialdK (k := mGv S st reg (s0 + 1)) X rfl ⟨by omega, by omega⟩ (hw.1 _ _ rfl) dX11_isReady_107 ?_
              refine rJ_aload_n X dX11_isReady_108 rfl rfl ?_
              refine rJ_getI X fX11_99 (hw.1 _ _ rfl) dX11_isReady_109 ?_
              refine rJ_icmp_ge (tgt := 119) X dX11_isReady_112 (by decide) (fun c10 => ?_) (fun c10 => ?_)
              · refine rJ_iconst (v := 0) X dX11_isReady_119 (by decide) ?_
                exact rJ_zretZ hZ X dX11_isReady_120 rfl ⟨by clear X hZ; simp only [mRdy, mNeed]; grind, rfl, rfl, rfl, rfl⟩
              · refine rJ_iconst (v := 1) X dX11_isReady_115 (by decide) ?_
                refine rJ_goto (tgt := 120) X dX11_isReady_116 (by decide) ?_
                exact rJ_zretZ hZ X dX11_isReady_120 rfl ⟨by clear X hZ; simp only [mRdy, mNeed]; grind, rfl, rfl, rfl, rfl⟩
        · refine rJ_aload_n X dX11_isReady_71 rfl rfl ?_
          refine rJ_getR X fX11_17 (hw.1 _ _ rfl) (hw.2 _ _ rfl) dX11_isReady_72 ?_
          refine rJ_iconst (v := 5) X dX11_isReady_75 (by decide) ?_
          refine rJ_ialdK (k := 5) X (by decide) ⟨by decide, by decide⟩ (hw.1 _ _ rfl) dX11_isReady_76 ?_
          refine rJ_goto (tgt := 84) X dX11_isReady_77 (by decide) ?_
          refine rJ_istore X dX11_isReady_84 (by decide) ?_
          refine rJ_iload_n X dX11_isReady_86 rfl rfl ?_
          refine rJ_iload X dX11_isReady_87 rfl ?_
          refine rJ_iconst (v := 1) X dX11_isReady_89 (by decide) ?_
          refine rJ_iadd X dX11_isReady_90 ?_
          refine rJ_icmp_gt (tgt := 115) X dX11_isReady_91 (by decide) (fun c11 => ?_) (fun c11 => ?_)
          · refine rJ_iconst (v := 1) X dX11_isReady_115 (by decide) ?_
            refine rJ_goto (tgt := 120) X dX11_isReady_116 (by decide) ?_
            exact rJ_zretZ hZ X dX11_isReady_120 rfl ⟨by clear X hZ; simp only [mRdy, mNeed]; grind, rfl, rfl, rfl, rfl⟩
          · refine rJ_iload_n X dX11_isReady_94 rfl rfl ?_
            refine rJ_iload X dX11_isReady_95 rfl ?_
            refine rJ_iconst (v := 1) X dX11_isReady_97 (by decide) ?_
            refine rJ_iadd X dX11_isReady_98 ?_
            refine rJ_icmp_ne (tgt := 119) X dX11_isReady_99 (by decide) (fun c12 => ?_) (fun c12 => ?_)
            · refine rJ_iconst (v := 0) X dX11_isReady_119 (by decide) ?_
              exact rJ_zretZ hZ X dX11_isReady_120 rfl ⟨by clear X hZ; simp only [mRdy, mNeed]; grind, rfl, rfl, rfl, rfl⟩
            · refine rJ_aload_n X dX11_isReady_102 rfl rfl ?_
              refine rJ_getR X fX11_63 (hw.1 _ _ rfl) (hw.2 _ _ rfl) dX11_isReady_103 ?_
              refine rJ_iload_n X dX11_isReady_106 rfl rfl ?_
              refine rJ_ialdK (k := mGv S st reg (s0 + 1)) X rfl ⟨by omega, by omega⟩ (hw.1 _ _ rfl) dX11_isReady_107 ?_
              refine rJ_aload_n X dX11_isReady_108 rfl rfl ?_
              refine rJ_getI X fX11_99 (hw.1 _ _ rfl) dX11_isReady_109 ?_
              refine rJ_icmp_ge (tgt := 119) X dX11_isReady_112 (by decide) (fun c13 => ?_) (fun c13 => ?_)
              · refine rJ_iconst (v := 0) X dX11_isReady_119 (by decide) ?_
                exact rJ_zretZ hZ X dX11_isReady_120 rfl ⟨by clear X hZ; simp only [mRdy, mNeed]; grind, rfl, rfl, rfl, rfl⟩
              · refine rJ_iconst (v := 1) X dX11_isReady_115 (by decide) ?_
                refine rJ_goto (tgt := 120) X dX11_isReady_116 (by decide) ?_
                exact rJ_zretZ hZ X dX11_isReady_120 rfl ⟨by clear X hZ; simp only [mRdy, mNeed]; grind, rfl, rfl, rfl, rfl⟩
    · refine rJ_iconst (v := 0) X dX11_isReady_42 (by decide) ?_
      exact rJ_zretZ hZ X dX11_isReady_43 rfl ⟨by clear X hZ; simp only [mRdy, mNeed]; grind, rfl, rfl, rfl, rfl⟩
  · rw [h2, nI_eq (by omega) (by omega)] at c1
    refine rJ_aload_n X dX11_isReady_15 rfl rfl ?_
    refine rJ_getR X fX11_69 (hw.1 _ _ rfl) (hw.2 _ _ rfl) dX11_isReady_16 ?_
    refine rJ_iload_n X dX11_isReady_19 rfl rfl ?_
    refine rJ_iald X (hw.1 _ _ rfl) hr8 dX11_isReady_20 ?_
    refine rJ_aload_n X dX11_isReady_21 rfl rfl ?_
    refine rJ_getI X fX11_99 (hw.1 _ _ rfl) dX11_isReady_22 ?_
    refine rJ_icmp_eq (tgt := 32) X dX11_isReady_25 (by decide) (fun c14 => ?_) (fun c14 => ?_)
    · refine rJ_iconst (v := 0) X dX11_isReady_32 (by decide) ?_
      exact rJ_zretZ hZ X dX11_isReady_33 rfl ⟨by clear X hZ; simp only [mRdy, mNeed]; grind, rfl, rfl, rfl, rfl⟩
    · refine rJ_iconst (v := 1) X dX11_isReady_28 (by decide) ?_
      refine rJ_goto (tgt := 33) X dX11_isReady_29 (by decide) ?_
      exact rJ_zretZ hZ X dX11_isReady_33 rfl ⟨by clear X hZ; simp only [mRdy, mNeed]; grind, rfl, rfl, rfl, rfl⟩
set_option maxHeartbeats 4000000 in
set_option maxRecDepth 100000 in
theorem cM_read {l : Launch} {D : va_G} {b : Nat} {A : Nat → Nat} {Sh : mS} {S : mI} {G : mP} (hw : okM Sh G) (reg : Int32) {sz : Nat} (hs : S 100 10 = nI sz) (h40 : sz ≤ 40) {st s0 : Nat} (h2 : S 100 2 = nI st) (h8 : st ≤ 8) (hlt : s0 < st) (hr8 : vp_in reg 8) : rMet l D b yX11_read cX11_read 4 (some .int) (mR 4) A Sh S G [.ref (A 100), .int (nI s0), .int reg] (rPi A Sh (mRead S st s0 reg) S G) := by
  refine rMet_oz RX11 rfl (by decide) (Nat.le_of_ble_eq_true rfl) ?_
  intro p e s m args below meth c Z hZ X hnm
  have hg := mGv_in S (k := s0 + 1) reg (st := st) (by omega)
  refine rJ_aload_n X dX11_read_0 rfl rfl ?_
  refine rJ_iload_n X dX11_read_1 rfl rfl ?_
  refine rJ_iload_n X dX11_read_2 rfl rfl ?_
  refine rJ_Vi2 X gX11_136 (cM_giver hw _ hs h40 h2 h8 hlt) (hw.1 _ _ rfl) dX11_read_3 (by decide) (Nat.le_of_ble_eq_true rfl) ⟨Nat.le_refl _, Nat.le_refl _⟩ ?_
  refine rJ_istore_n X dX11_read_6 rfl (by decide) ?_
  refine rJ_iload_n X dX11_read_7 rfl rfl ?_
  refine rJ_aload_n X dX11_read_8 rfl rfl ?_
  refine rJ_getI X fX11_13 (hw.1 _ _ rfl) dX11_read_9 ?_
  refine rJ_icmp_ne (tgt := 24) X dX11_read_12 (by decide) (fun c1 => ?_) (fun c1 => ?_)
  · rw [h2, nI_eq (by omega) (by omega)] at c1
    refine rJ_aload_n X dX11_read_24 rfl rfl ?_
    refine rJ_getR X fX11_57 (hw.1 _ _ rfl) (hw.2 _ _ rfl) dX11_read_25 ?_
    refine rJ_iload_n X dX11_read_28 rfl rfl ?_
    refine rJ_ialdK (k := mGv S st reg (s0 + 1)) X rfl ⟨by omega, by omega⟩ (hw.1 _ _ rfl) dX11_read_29 ?_
    exact rJ_iretZ hZ X dX11_read_30 ⟨by simp [mRead, c1], rfl, rfl, rfl, rfl⟩
  · rw [h2, nI_eq (by omega) (by omega)] at c1
    refine rJ_aload_n X dX11_read_15 rfl rfl ?_
    refine rJ_getR X fX11_66 (hw.1 _ _ rfl) (hw.2 _ _ rfl) dX11_read_16 ?_
    refine rJ_iload_n X dX11_read_19 rfl rfl ?_
    refine rJ_iald X (hw.1 _ _ rfl) hr8 dX11_read_20 ?_
    refine rJ_goto (tgt := 30) X dX11_read_21 (by decide) ?_
    exact rJ_iretZ hZ X dX11_read_30 ⟨by simp [mRead, c1], rfl, rfl, rfl, rfl⟩
abbrev mR1 (k : Int32) : Prop := 2 ≤ k ∧ k ≤ 8
abbrev mR2 (k : Int32) : Prop := (2 ≤ k ∧ k ≤ 4) ∨ k = 6 ∨ k = 7
set_option maxHeartbeats 4000000 in
set_option maxRecDepth 100000 in
theorem cM_readsOne {l : Launch} {D : va_G} {b : Nat} {A : Nat → Nat} {Sh : mS} {S : mI} {G : mP} (k : Int32) : rMet l D b yX11_readsOne cX11_readsOne 1 (some .boolean) (mR 1) A Sh S G [.int k] (rPi A Sh (if mR1 k then 1 else 0) S G) := by
  refine rMet_oz RX11 rfl (by decide) (Nat.le_of_ble_eq_true rfl) ?_
  intro p e s m args below meth c Z hZ X hnm
  refine rJ_iload_n X dX11_readsOne_0 rfl rfl ?_
  refine rJ_iconst (v := 2) X dX11_readsOne_1 (by decide) ?_
  refine rJ_bipush (v := 8) X dX11_readsOne_2 (by decide) ?_
  refine rJ_Si3 X gX11_115 (cM_isIn _ _ _) dX11_readsOne_4 (by decide) (Nat.le_of_ble_eq_true rfl) ⟨Nat.le_refl _, Nat.le_refl _⟩ ?_
  exact rJ_zretZ hZ X dX11_readsOne_7 z_n ⟨rfl, rfl, rfl, rfl, rfl⟩
set_option maxHeartbeats 4000000 in
set_option maxRecDepth 100000 in
theorem cM_readsTwo {l : Launch} {D : va_G} {b : Nat} {A : Nat → Nat} {Sh : mS} {S : mI} {G : mP} (k : Int32) : rMet l D b yX11_readsTwo cX11_readsTwo 1 (some .boolean) (mR 1) A Sh S G [.int k] (rPi A Sh (if mR2 k then 1 else 0) S G) := by
  refine rMet_oz RX11 rfl (by decide) (Nat.le_of_ble_eq_true rfl) ?_
  intro p e s m args below meth c Z hZ X hnm
  refine rJ_iload_n X dX11_readsTwo_0 rfl rfl ?_
  refine rJ_iconst (v := 2) X dX11_readsTwo_1 (by decide) ?_
  refine rJ_iconst (v := 4) X dX11_readsTwo_2 (by decide) ?_
  refine rJ_Si3 X gX11_115 (cM_isIn _ _ _) dX11_readsTwo_3 (by decide) (Nat.le_of_ble_eq_true rfl) ⟨Nat.le_refl _, Nat.le_refl _⟩ ?_
  refine rJ_if_ne (tgt := 21) X dX11_readsTwo_6 (by decide) (fun c1 => ?_) (fun c1 => ?_)
  · try replace c1 := z_t c1
    refine rJ_iconst (v := 1) X dX11_readsTwo_21 (by decide) ?_
    refine rJ_goto (tgt := 26) X dX11_readsTwo_22 (by decide) ?_
    exact rJ_zretZ hZ X dX11_readsTwo_26 rfl ⟨by clear X hZ; grind, rfl, rfl, rfl, rfl⟩
  · try replace c1 := z_f c1
    refine rJ_iload_n X dX11_readsTwo_9 rfl rfl ?_
    refine rJ_bipush (v := 6) X dX11_readsTwo_10 (by decide) ?_
    refine rJ_icmp_eq (tgt := 21) X dX11_readsTwo_12 (by decide) (fun c2 => ?_) (fun c2 => ?_)
    · refine rJ_iconst (v := 1) X dX11_readsTwo_21 (by decide) ?_
      refine rJ_goto (tgt := 26) X dX11_readsTwo_22 (by decide) ?_
      exact rJ_zretZ hZ X dX11_readsTwo_26 rfl ⟨by clear X hZ; grind, rfl, rfl, rfl, rfl⟩
    · refine rJ_iload_n X dX11_readsTwo_15 rfl rfl ?_
      refine rJ_bipush (v := 7) X dX11_readsTwo_16 (by decide) ?_
      refine rJ_icmp_ne (tgt := 25) X dX11_readsTwo_18 (by decide) (fun c3 => ?_) (fun c3 => ?_)
      · refine rJ_iconst (v := 0) X dX11_readsTwo_25 (by decide) ?_
        exact rJ_zretZ hZ X dX11_readsTwo_26 rfl ⟨by clear X hZ; grind, rfl, rfl, rfl, rfl⟩
      · refine rJ_iconst (v := 1) X dX11_readsTwo_21 (by decide) ?_
        refine rJ_goto (tgt := 26) X dX11_readsTwo_22 (by decide) ?_
        exact rJ_zretZ hZ X dX11_readsTwo_26 rfl ⟨by clear X hZ; grind, rfl, rfl, rfl, rfl⟩
def mOldF (S : mI) : Nat → Nat → Bool
  | 0, _ => false
  | f + 1, k => decide (¬ S 115 k = 0 ∧ mKind S (S 114 k) = 6) || mOldF S f (k + 1)
theorem mOld_step (S : mI) {st k : Nat} (h : k < st) : mOldF S (st - k) k = (decide (¬ S 115 k = 0 ∧ mKind S (S 114 k) = 6) || mOldF S (st - (k + 1)) (k + 1)) := by
  have e : st - k = (st - (k + 1)) + 1 := by omega
  rw [e]
  rfl
/-- a store is ahead -/
def mOld (S : mI) (st s0 : Nat) : Bool := decide (¬ S 100 27 = 0) || mOldF S (st - (s0 + 1)) (s0 + 1)
set_option maxHeartbeats 4000000 in
set_option maxRecDepth 100000 in
theorem cM_hasOlderStore {l : Launch} {D : va_G} {b : Nat} {A : Nat → Nat} {Sh : mS} {S : mI} {G : mP} (hw : okM Sh G) {sz : Nat} (hs : S 100 10 = nI sz) (h40 : sz ≤ 40) {st s0 : Nat} (h2 : S 100 2 = nI st) (h8 : st ≤ 8) (hlt : s0 < st) (h27 : S 100 27 = 0 ∨ S 100 27 = 1) : rMet l D b yX11_hasOlderStore cX11_hasOlderStore 4 (some .boolean) (mR 2) A Sh S G [.ref (A 100), .int (nI s0)] (rPi A Sh (if mOld S st s0 = true then 1 else 0) S G) := by
  refine rMet_oz RX11 rfl (by decide) (Nat.le_of_ble_eq_true rfl) ?_
  intro p e s m args below meth c Z hZ X hnm
  have loop : ∀ (f k : Nat) (acc : Bool), k ≤ st → st - k < f → (acc || mOldF S (st - k) k) = mOld S st s0 → rJ p l e (mR 2) s m args below meth c D vwCl mty b 4 Z 0 0 A Sh S G [(0, .ref (A 100)), (1, .int (nI s0)), (2, .int (if acc = true then 1 else 0)), (3, .int (nI k))] 9 [] := by
    intro f
    induction f with
    | zero => intro k acc h1 h3; exact absurd h3 (by omega)
    | succ f ih =>
      intro k acc h1 h3 he
      refine rJ_iload_n X dX11_hasOlderStore_9 rfl rfl ?_
      refine rJ_aload_n X dX11_hasOlderStore_10 rfl rfl ?_
      refine rJ_getI X fX11_13 (hw.1 _ _ rfl) dX11_hasOlderStore_11 ?_
      refine rJ_icmp_ge (tgt := 57) X dX11_hasOlderStore_14 (by decide) (fun c1 => ?_) (fun c1 => ?_)
      · rw [h2, nI_leI (by omega) (by omega)] at c1
        refine rJ_iload_n X dX11_hasOlderStore_57 rfl rfl ?_
        exact rJ_zretZ hZ X dX11_hasOlderStore_58 z_n ⟨by rw [← he, show k = st by omega]; simp [mOldF], rfl, rfl, rfl, rfl⟩
      · rw [h2, nI_leI (by omega) (by omega)] at c1
        refine rJ_iload_n X dX11_hasOlderStore_17 rfl rfl ?_
        refine rJ_if_ne (tgt := 45) X dX11_hasOlderStore_18 (by decide) (fun c2 => ?_) (fun c2 => ?_)
        · first | replace c2 := z_t c2 | replace c2 := z_f c2
          refine rJ_iconst (v := 1) X dX11_hasOlderStore_45 (by decide) ?_
          refine rJ_goto (tgt := 50) X dX11_hasOlderStore_46 (by decide) ?_
          refine rJ_istore_n X dX11_hasOlderStore_50 rfl (by decide) ?_
          refine rJ_inc (n := 1) (w := 1) X dX11_hasOlderStore_51 rfl (by decide) (by decide) ?_
          rw [nI_1 k]
          refine rJ_goto (tgt := 9) X dX11_hasOlderStore_54 (by decide) ?_
          first
            | exact rJ_lv _ rfl (ih (k + 1) true (by omega) (by omega) (by rw [← he, mOld_step S (k := k) (by omega)]; simp [*]))
            | exact rJ_lv _ rfl (ih (k + 1) false (by omega) (by omega) (by rw [← he, mOld_step S (k := k) (by omega)]; simp [*]))
        · first | replace c2 := z_t c2 | replace c2 := z_f c2
          refine rJ_aload_n X dX11_hasOlderStore_21 rfl rfl ?_
          refine rJ_getR X fX11_47 (hw.1 _ _ rfl) (hw.2 _ _ rfl) dX11_hasOlderStore_22 ?_
          refine rJ_iload_n X dX11_hasOlderStore_25 rfl rfl ?_
          refine rJ_zaldK (k := k) X rfl ⟨by omega, by omega⟩ (hw.1 _ _ rfl) dX11_hasOlderStore_26 ?_
          refine rJ_if_eq (tgt := 49) X dX11_hasOlderStore_27 (by decide) (fun c3 => ?_) (fun c3 => ?_)
          · refine rJ_iconst (v := 0) X dX11_hasOlderStore_49 (by decide) ?_
            refine rJ_istore_n X dX11_hasOlderStore_50 rfl (by decide) ?_
            refine rJ_inc (n := 1) (w := 1) X dX11_hasOlderStore_51 rfl (by decide) (by decide) ?_
            rw [nI_1 k]
            refine rJ_goto (tgt := 9) X dX11_hasOlderStore_54 (by decide) ?_
            first
              | exact rJ_lv _ rfl (ih (k + 1) true (by omega) (by omega) (by rw [← he, mOld_step S (k := k) (by omega)]; simp [*]))
              | exact rJ_lv _ rfl (ih (k + 1) false (by omega) (by omega) (by rw [← he, mOld_step S (k := k) (by omega)]; simp [*]))
          · refine rJ_aload_n X dX11_hasOlderStore_30 rfl rfl ?_
            refine rJ_aload_n X dX11_hasOlderStore_31 rfl rfl ?_
            refine rJ_getR X fX11_44 (hw.1 _ _ rfl) (hw.2 _ _ rfl) dX11_hasOlderStore_32 ?_
            refine rJ_iload_n X dX11_hasOlderStore_35 rfl rfl ?_
            refine rJ_ialdK (k := k) X rfl ⟨by omega, by omega⟩ (hw.1 _ _ rfl) dX11_hasOlderStore_36 ?_
            refine rJ_Vi1 X gX11_129 (cM_kindOf hw _ hs h40) (hw.1 _ _ rfl) dX11_hasOlderStore_37 (by decide) (Nat.le_of_ble_eq_true rfl) ⟨Nat.le_refl _, Nat.le_refl _⟩ ?_
            refine rJ_bipush (v := 6) X dX11_hasOlderStore_40 (by decide) ?_
            refine rJ_icmp_ne (tgt := 49) X dX11_hasOlderStore_42 (by decide) (fun c4 => ?_) (fun c4 => ?_)
            · refine rJ_iconst (v := 0) X dX11_hasOlderStore_49 (by decide) ?_
              refine rJ_istore_n X dX11_hasOlderStore_50 rfl (by decide) ?_
              refine rJ_inc (n := 1) (w := 1) X dX11_hasOlderStore_51 rfl (by decide) (by decide) ?_
              rw [nI_1 k]
              refine rJ_goto (tgt := 9) X dX11_hasOlderStore_54 (by decide) ?_
              first
                | exact rJ_lv _ rfl (ih (k + 1) true (by omega) (by omega) (by rw [← he, mOld_step S (k := k) (by omega)]; simp [*]))
                | exact rJ_lv _ rfl (ih (k + 1) false (by omega) (by omega) (by rw [← he, mOld_step S (k := k) (by omega)]; simp [*]))
            · refine rJ_iconst (v := 1) X dX11_hasOlderStore_45 (by decide) ?_
              refine rJ_goto (tgt := 50) X dX11_hasOlderStore_46 (by decide) ?_
              refine rJ_istore_n X dX11_hasOlderStore_50 rfl (by decide) ?_
              refine rJ_inc (n := 1) (w := 1) X dX11_hasOlderStore_51 rfl (by decide) (by decide) ?_
              rw [nI_1 k]
              refine rJ_goto (tgt := 9) X dX11_hasOlderStore_54 (by decide) ?_
              first
                | exact rJ_lv _ rfl (ih (k + 1) true (by omega) (by omega) (by rw [← he, mOld_step S (k := k) (by omega)]; simp [*]))
                | exact rJ_lv _ rfl (ih (k + 1) false (by omega) (by omega) (by rw [← he, mOld_step S (k := k) (by omega)]; simp [*]))
  refine rJ_aload_n X dX11_hasOlderStore_0 rfl rfl ?_
  refine rJ_getI X fX11_140 (hw.1 _ _ rfl) dX11_hasOlderStore_1 ?_
  refine rJ_as (if (decide (¬ S 100 27 = 0)) = true then 1 else 0) (by rcases h27 with h | h <;> simp [h]) ?_
  refine rJ_istore_n X dX11_hasOlderStore_4 rfl (by decide) ?_
  refine rJ_iload_n X dX11_hasOlderStore_5 rfl rfl ?_
  refine rJ_iconst (v := 1) X dX11_hasOlderStore_6 (by decide) ?_
  refine rJ_iadd X dX11_hasOlderStore_7 ?_
  refine rJ_as (nI (s0 + 1)) (nI_1 s0) ?_
  refine rJ_istore_n X dX11_hasOlderStore_8 rfl (by decide) ?_
  exact rJ_lv _ rfl (loop (st + 1) (s0 + 1) _ (by omega) (by omega) rfl)
def mPlace (S : mI) (s0 : Nat) : Int32 := (S 116 s0 + S 110 (S 114 s0).toNatClampNeg) &&& 63
theorem mPlace_nI (S : mI) (s0 : Nat) : ∃ j : Nat, j < 64 ∧ mPlace S s0 = nI j := pk_andE _ 6 rfl
def mLat (S : mI) (s0 : Nat) : Int32 := S 113 ((mPlace S s0).toNatClampNeg % 8)
set_option maxHeartbeats 4000000 in
set_option maxRecDepth 100000 in
theorem cM_placeOf {l : Launch} {D : va_G} {b : Nat} {A : Nat → Nat} {Sh : mS} {S : mI} {G : mP} (hw : okM Sh G) {s0 : Nat} (hs8 : s0 < 8) (hn : vp_in (S 114 s0) 40) : rMet l D b yX11_placeOf cX11_placeOf 2 (some .int) (mR 0) A Sh S G [.ref (A 100), .int (nI s0)] (rPi A Sh (mPlace S s0) S G) := by
  refine rMet_oz RX11 rfl (by decide) (Nat.le_of_ble_eq_true rfl) ?_
  intro p e s m args below meth c Z hZ X hnm
  refine rJ_aload_n X dX11_placeOf_0 rfl rfl ?_
  refine rJ_getR X fX11_51 (hw.1 _ _ rfl) (hw.2 _ _ rfl) dX11_placeOf_1 ?_
  refine rJ_iload_n X dX11_placeOf_4 rfl rfl ?_
  refine rJ_ialdK (k := s0) X rfl ⟨by omega, by omega⟩ (hw.1 _ _ rfl) dX11_placeOf_5 ?_
  refine rJ_aload_n X dX11_placeOf_6 rfl rfl ?_
  refine rJ_getR X fX11_35 (hw.1 _ _ rfl) (hw.2 _ _ rfl) dX11_placeOf_7 ?_
  refine rJ_aload_n X dX11_placeOf_10 rfl rfl ?_
  refine rJ_getR X fX11_44 (hw.1 _ _ rfl) (hw.2 _ _ rfl) dX11_placeOf_11 ?_
  refine rJ_iload_n X dX11_placeOf_14 rfl rfl ?_
  refine rJ_ialdK (k := s0) X rfl ⟨by omega, by omega⟩ (hw.1 _ _ rfl) dX11_placeOf_15 ?_
  refine rJ_iald X (hw.1 _ _ rfl) hn dX11_placeOf_16 ?_
  refine rJ_iadd X dX11_placeOf_17 ?_
  refine rJ_bipush (v := 63) X dX11_placeOf_18 (by decide) ?_
  refine rJ_iand X dX11_placeOf_20 ?_
  exact rJ_iretZ hZ X dX11_placeOf_21 ⟨rfl, rfl, rfl, rfl, rfl⟩
end
section
/-! the class's cells by labels -/
def shC (r : Nat) : Option (Nat × Nat × Nat) := [some (0, 10, 0), some (1, 0, 30), some (0, 4, 0), some (1, 0, 8), some (0, 3, 0), some (1, 0, 8), some (0, 8, 0), some (5, 0, 40), some (0, 2, 0), some (0, 9, 0), some (1, 0, 64), some (1, 0, 8), some (0, 0, 0), some (1, 0, 4000), some (0, 7, 0), some (0, 1, 0), some (1, 0, 8), some (1, 0, 64), some (8, 0, 8), some (1, 0, 8), some (0, 6, 0), some (0, 1, 0), some (1, 0, 8), some (1, 0, 64), some (0, 5, 0), some (0, 5, 0), some (0, 5, 0), some (0, 5, 0), some (0, 5, 0), some (0, 5, 0), some (0, 5, 0), some (0, 5, 0)].getD r none
def gC (r k : Nat) : Option Nat := (([[some 1, none, some 2, some 4, some 6, some 9, some 12, some 14, some 20], [none, none, none, none, none, none, none, none, none], [some 3, none, none, none, none, none, none, none, none], [none, none, none, none, none, none, none, none, none], [some 5, none, none, none, none, none, none, none, none], [none, none, none, none, none, none, none, none, none], [some 7, some 8, none, none, none, none, none, none, none], [none, none, none, none, none, none, none, none, none], [none, none, none, none, none, none, none, none, none], [some 10, some 11, none, none, none, none, none, none, none], [none, none, none, none, none, none, none, none, none], [none, none, none, none, none, none, none, none, none], [some 13, none, none, none, none, none, none, none, none], [none, none, none, none, none, none, none, none, none], [some 4, some 6, some 9, some 12, some 15, some 18, some 19, none, none], [some 16, some 17, none, none, none, none, none, none, none], [none, none, none, none, none, none, none, none, none], [none, none, none, none, none, none, none, none, none], [none, none, none, none, none, none, none, none, none], [none, none, none, none, none, none, none, none, none], [some 6, some 9, some 21, none, none, none, none, none, none], [some 22, some 23, none, none, none, none, none, none, none], [none, none, none, none, none, none, none, none, none], [none, none, none, none, none, none, none, none, none]] : List (List (Option Nat))).getD r []).getD k none
def okC (Sh : mS) (G : mP) : Prop := (∀ r sh, shC r = some sh → Sh r = some sh) ∧ ∀ r k q, gC r k = some q → G r k = some q
set_option maxHeartbeats 4000000 in
set_option maxRecDepth 100000 in
theorem cJ_max {l : Launch} {D : va_G} {b : Nat} {A : Nat → Nat} {Sh : mS} {S : mI} {G : mP} (x y : Int32) : rMet l D b yJ9_max_7cf53 cJ9_max_7cf53 2 (some .int) (mR 0) A Sh S G [.int x, .int y] (rPi A Sh (if x < y then y else x) S G) := by
  refine rMet_ozF RJ9 rfl (by decide +kernel) (Nat.le_of_ble_eq_true rfl) ?_
  intro p e s m args below meth c Z hZ X hnm
  refine rJ_iload_n X dJ9_max_7cf53_0 rfl rfl ?_
  refine rJ_iload_n X dJ9_max_7cf53_1 rfl rfl ?_
  refine rJ_icmp_lt (tgt := 9) X dJ9_max_7cf53_2 (by decide) (fun c1 => ?_) (fun c1 => ?_)
  · refine rJ_iload_n X dJ9_max_7cf53_9 rfl rfl ?_
    exact rJ_iretZ hZ X dJ9_max_7cf53_10 ⟨by first | rw [if_pos c1] | rw [if_neg c1], rfl, rfl, rfl, rfl⟩
  · refine rJ_iload_n X dJ9_max_7cf53_5 rfl rfl ?_
    refine rJ_goto (tgt := 10) X dJ9_max_7cf53_6 (by decide) ?_
    exact rJ_iretZ hZ X dJ9_max_7cf53_10 ⟨by first | rw [if_pos c1] | rw [if_neg c1], rfl, rfl, rfl, rfl⟩
abbrev fMod (x y : Int32) : Int32 := if ¬ 0 ≤ x ^^^ y ∧ ¬ x - x / y * y = 0 then x - x / y * y + y else x - x / y * y
set_option maxHeartbeats 4000000 in
set_option maxRecDepth 100000 in
theorem cJ_floorMod {l : Launch} {D : va_G} {b : Nat} {A : Nat → Nat} {Sh : mS} {S : mI} {G : mP} (x y : Int32) (hy : ¬ y = 0) : rMet l D b yJ9_floorMod_7cf53 cJ9_floorMod_7cf53 3 (some .int) (mR 0) A Sh S G [.int x, .int y] (rPi A Sh (fMod x y) S G) := by
  refine rMet_ozF RJ9 rfl (by decide +kernel) (Nat.le_of_ble_eq_true rfl) ?_
  intro p e s m args below meth c Z hZ X hnm
  refine rJ_iload_n X dJ9_floorMod_7cf53_0 rfl rfl ?_
  refine rJ_iload_n X dJ9_floorMod_7cf53_1 rfl rfl ?_
  refine rJ_irem X dJ9_floorMod_7cf53_2 hy ?_
  refine rJ_istore_n X dJ9_floorMod_7cf53_3 rfl (by decide) ?_
  refine rJ_iload_n X dJ9_floorMod_7cf53_4 rfl rfl ?_
  refine rJ_iload_n X dJ9_floorMod_7cf53_5 rfl rfl ?_
  refine rJ_ixor X dJ9_floorMod_7cf53_6 ?_
  refine rJ_if_ge (tgt := 18) X dJ9_floorMod_7cf53_7 (by decide) (fun c1 => ?_) (fun c1 => ?_)
  · refine rJ_iload_n X dJ9_floorMod_7cf53_18 rfl rfl ?_
    exact rJ_iretZ hZ X dJ9_floorMod_7cf53_19 ⟨by clear X hZ; grind, rfl, rfl, rfl, rfl⟩
  · refine rJ_iload_n X dJ9_floorMod_7cf53_10 rfl rfl ?_
    refine rJ_if_eq (tgt := 18) X dJ9_floorMod_7cf53_11 (by decide) (fun c2 => ?_) (fun c2 => ?_)
    · refine rJ_iload_n X dJ9_floorMod_7cf53_18 rfl rfl ?_
      exact rJ_iretZ hZ X dJ9_floorMod_7cf53_19 ⟨by clear X hZ; grind, rfl, rfl, rfl, rfl⟩
    · refine rJ_iload_n X dJ9_floorMod_7cf53_14 rfl rfl ?_
      refine rJ_iload_n X dJ9_floorMod_7cf53_15 rfl rfl ?_
      refine rJ_iadd X dJ9_floorMod_7cf53_16 ?_
      exact rJ_iretZ hZ X dJ9_floorMod_7cf53_17 ⟨by clear X hZ; grind, rfl, rfl, rfl, rfl⟩
/-- a row filled up to n -/
def mFl (S : mI) (r n : Nat) (v : Int32) : mI := fun x k => if x = r ∧ k < n then v else S x k
theorem mFl_0 (S : mI) (r : Nat) (v : Int32) : mFl S r 0 v = S := by funext x k; simp [mFl]
theorem mFl_s (S : mI) (r n : Nat) (v : Int32) : mu (mFl S r n v) r n v = mFl S r (n + 1) v := by
  funext x k
  simp only [mu, mFl]
  grind
set_option maxHeartbeats 4000000 in
set_option maxRecDepth 100000 in
theorem cJ_fill {l : Launch} {D : va_G} {b : Nat} {A : Nat → Nat} {Sh : mS} {S : mI} {G : mP} {r n : Nat} (hr : Sh r = some (1, 0, n)) (hn : n < 2147483648) (v : Int32) : rMet l D b yJ7_fill_53178 cJ7_fill_53178 4 none (mR 0) A Sh S G [.ref (A r), .int v] (rPv A Sh (mFl S r n v) G) := by
  refine rMet_oz RJ7 rfl (by decide) (Nat.le_of_ble_eq_true rfl) ?_
  intro p e s m args below meth c Z hZ X hnm
  have loop : ∀ (f k : Nat) (U : mI), U = mFl S r k v → k ≤ n → n - k < f → rJ p l e (mR 0) s m args below meth c D vwCl mty b 4 Z 0 0 A Sh U G [(0, .ref (A r)), (1, .int v), (2, .int (nI k)), (3, .int (nI n))] 5 [] := by
    intro f
    induction f with
    | zero => intro k U hU h1 h3; exact absurd h3 (by omega)
    | succ f ih =>
      intro k U hU h1 h3
      refine rJ_iload_n X dJ7_fill_53178_5 rfl rfl ?_
      refine rJ_iload_n X dJ7_fill_53178_6 rfl rfl ?_
      refine rJ_icmp_ge (tgt := 20) X dJ7_fill_53178_7 (by decide) (fun a1 => ?_) (fun a1 => ?_)
      · rw [nI_leI (by omega) (by omega)] at a1
        exact rJ_vretZ hZ X dJ7_fill_53178_20 ⟨rfl, rfl, rfl, by rw [hU, show k = n by omega], rfl⟩
      · rw [nI_leI (by omega) (by omega)] at a1
        refine rJ_aload_n X dJ7_fill_53178_10 rfl rfl ?_
        refine rJ_iload_n X dJ7_fill_53178_11 rfl rfl ?_
        refine rJ_iload_n X dJ7_fill_53178_12 rfl rfl ?_
        refine rJ_iastK (k := k) X rfl (n := n) ⟨by omega, by omega⟩ (by first | exact hw.1 _ _ rfl | assumption) dJ7_fill_53178_13 (fun S13 hS13 => ?_)
        refine rJ_inc (n := 1) (w := 1) X dJ7_fill_53178_14 rfl (by decide) (by decide) ?_
        rw [nI_1 k]
        refine rJ_goto (tgt := 5) X dJ7_fill_53178_17 (by decide) ?_
        exact rJ_lv _ rfl (ih (k + 1) _ (by rw [hS13, hU, mFl_s]) (by omega) (by omega))
  refine rJ_iconst (v := 0) X dJ7_fill_53178_0 (by decide) ?_
  refine rJ_istore_n X dJ7_fill_53178_1 rfl (by decide) ?_
  refine rJ_aload_n X dJ7_fill_53178_2 rfl rfl ?_
  refine rJ_alen (v := (nI n)) X (by first | exact hw.1 _ _ rfl | assumption) rfl dJ7_fill_53178_3 ?_
  refine rJ_istore_n X dJ7_fill_53178_4 rfl (by decide) ?_
  exact rJ_lv _ rfl (loop (n + 1) 0 S (mFl_0 S r v).symm (by omega) (by omega))
set_option maxHeartbeats 4000000 in
set_option maxRecDepth 100000 in
theorem cC_isRegister {l : Launch} {D : va_G} {b : Nat} {A : Nat → Nat} {Sh : mS} {S : mI} {G : mP} (k : Int32) : rMet l D b yX10_isRegister cX10_isRegister 1 (some .boolean) (mR 0) A Sh S G [.int k] (rPi A Sh (if 0 ≤ k ∧ k < 8 then 1 else 0) S G) := by
  refine rMet_oz RX10 rfl (by decide) (Nat.le_of_ble_eq_true rfl) ?_
  intro p e s m args below meth c Z hZ X hnm
  refine rJ_iload_n X dX10_isRegister_0 rfl rfl ?_
  refine rJ_if_lt (tgt := 14) X dX10_isRegister_1 (by decide) (fun c1 => ?_) (fun c1 => ?_)
  · refine rJ_iconst (v := 0) X dX10_isRegister_14 (by decide) ?_
    exact rJ_zretZ hZ X dX10_isRegister_15 rfl ⟨by clear X hZ; grind, rfl, rfl, rfl, rfl⟩
  · refine rJ_iload_n X dX10_isRegister_4 rfl rfl ?_
    refine rJ_bipush (v := 8) X dX10_isRegister_5 (by decide) ?_
    refine rJ_icmp_ge (tgt := 14) X dX10_isRegister_7 (by decide) (fun c2 => ?_) (fun c2 => ?_)
    · refine rJ_iconst (v := 0) X dX10_isRegister_14 (by decide) ?_
      exact rJ_zretZ hZ X dX10_isRegister_15 rfl ⟨by clear X hZ; grind, rfl, rfl, rfl, rfl⟩
    · refine rJ_iconst (v := 1) X dX10_isRegister_10 (by decide) ?_
      refine rJ_goto (tgt := 15) X dX10_isRegister_11 (by decide) ?_
      exact rJ_zretZ hZ X dX10_isRegister_15 rfl ⟨by clear X hZ; grind, rfl, rfl, rfl, rfl⟩
set_option maxHeartbeats 4000000 in
set_option maxRecDepth 100000 in
theorem cC_isPlace {l : Launch} {D : va_G} {b : Nat} {A : Nat → Nat} {Sh : mS} {S : mI} {G : mP} (k : Int32) : rMet l D b yX10_isPlace cX10_isPlace 1 (some .boolean) (mR 0) A Sh S G [.int k] (rPi A Sh (if 0 ≤ k ∧ k < 64 then 1 else 0) S G) := by
  refine rMet_oz RX10 rfl (by decide) (Nat.le_of_ble_eq_true rfl) ?_
  intro p e s m args below meth c Z hZ X hnm
  refine rJ_iload_n X dX10_isPlace_0 rfl rfl ?_
  refine rJ_if_lt (tgt := 14) X dX10_isPlace_1 (by decide) (fun c1 => ?_) (fun c1 => ?_)
  · refine rJ_iconst (v := 0) X dX10_isPlace_14 (by decide) ?_
    exact rJ_zretZ hZ X dX10_isPlace_15 rfl ⟨by clear X hZ; grind, rfl, rfl, rfl, rfl⟩
  · refine rJ_iload_n X dX10_isPlace_4 rfl rfl ?_
    refine rJ_bipush (v := 64) X dX10_isPlace_5 (by decide) ?_
    refine rJ_icmp_ge (tgt := 14) X dX10_isPlace_7 (by decide) (fun c2 => ?_) (fun c2 => ?_)
    · refine rJ_iconst (v := 0) X dX10_isPlace_14 (by decide) ?_
      exact rJ_zretZ hZ X dX10_isPlace_15 rfl ⟨by clear X hZ; grind, rfl, rfl, rfl, rfl⟩
    · refine rJ_iconst (v := 1) X dX10_isPlace_10 (by decide) ?_
      refine rJ_goto (tgt := 15) X dX10_isPlace_11 (by decide) ?_
      exact rJ_zretZ hZ X dX10_isPlace_15 rfl ⟨by clear X hZ; grind, rfl, rfl, rfl, rfl⟩
set_option maxHeartbeats 4000000 in
set_option maxRecDepth 100000 in
theorem cI_kind {l : Launch} {D : va_G} {b : Nat} {A : Nat → Nat} {Sh : mS} {S : mI} {G : mP} {q : Nat} (hq : Sh q = some (0, 2, 0)) : rMet l D b yX2_kind cX2_kind 1 (some .int) (mR 0) A Sh S G [.ref (A q)] (rPi A Sh (S q 0) S G) := by
  refine rMet_oz RX2 rfl (by decide) (Nat.le_of_ble_eq_true rfl) ?_
  intro p e s m args below meth c Z hZ X hnm
  refine rJ_aload_n X dX2_kind_0 rfl rfl ?_
  refine rJ_getI X fX2_9 hq dX2_kind_1 ?_
  exact rJ_iretZ hZ X dX2_kind_4 ⟨rfl, rfl, rfl, rfl, rfl⟩
set_option maxHeartbeats 4000000 in
set_option maxRecDepth 100000 in
theorem cI_left {l : Launch} {D : va_G} {b : Nat} {A : Nat → Nat} {Sh : mS} {S : mI} {G : mP} {q : Nat} (hq : Sh q = some (0, 2, 0)) : rMet l D b yX2_left cX2_left 1 (some .int) (mR 0) A Sh S G [.ref (A q)] (rPi A Sh (S q 2) S G) := by
  refine rMet_oz RX2 rfl (by decide) (Nat.le_of_ble_eq_true rfl) ?_
  intro p e s m args below meth c Z hZ X hnm
  refine rJ_aload_n X dX2_left_0 rfl rfl ?_
  refine rJ_getI X fX2_18 hq dX2_left_1 ?_
  exact rJ_iretZ hZ X dX2_left_4 ⟨rfl, rfl, rfl, rfl, rfl⟩
set_option maxHeartbeats 4000000 in
set_option maxRecDepth 100000 in
theorem cI_right {l : Launch} {D : va_G} {b : Nat} {A : Nat → Nat} {Sh : mS} {S : mI} {G : mP} {q : Nat} (hq : Sh q = some (0, 2, 0)) : rMet l D b yX2_right cX2_right 1 (some .int) (mR 0) A Sh S G [.ref (A q)] (rPi A Sh (S q 3) S G) := by
  refine rMet_oz RX2 rfl (by decide) (Nat.le_of_ble_eq_true rfl) ?_
  intro p e s m args below meth c Z hZ X hnm
  refine rJ_aload_n X dX2_right_0 rfl rfl ?_
  refine rJ_getI X fX2_21 hq dX2_right_1 ?_
  exact rJ_iretZ hZ X dX2_right_4 ⟨rfl, rfl, rfl, rfl, rfl⟩
set_option maxHeartbeats 4000000 in
set_option maxRecDepth 100000 in
theorem cI_goal {l : Launch} {D : va_G} {b : Nat} {A : Nat → Nat} {Sh : mS} {S : mI} {G : mP} {q : Nat} (hq : Sh q = some (0, 2, 0)) : rMet l D b yX2_goal cX2_goal 1 (some .int) (mR 0) A Sh S G [.ref (A q)] (rPi A Sh (S q 4) S G) := by
  refine rMet_oz RX2 rfl (by decide) (Nat.le_of_ble_eq_true rfl) ?_
  intro p e s m args below meth c Z hZ X hnm
  refine rJ_aload_n X dX2_goal_0 rfl rfl ?_
  refine rJ_getI X fX2_24 hq dX2_goal_1 ?_
  exact rJ_iretZ hZ X dX2_goal_4 ⟨rfl, rfl, rfl, rfl, rfl⟩
set_option maxHeartbeats 4000000 in
set_option maxRecDepth 100000 in
theorem cI_readsLeft {l : Launch} {D : va_G} {b : Nat} {A : Nat → Nat} {Sh : mS} {S : mI} {G : mP} {q : Nat} (hq : Sh q = some (0, 2, 0)) : rMet l D b yX2_readsLeft cX2_readsLeft 1 (some .boolean) (mR 0) A Sh S G [.ref (A q)] (rPi A Sh (if mR1 (S q 0) then 1 else 0) S G) := by
  refine rMet_oz RX2 rfl (by decide) (Nat.le_of_ble_eq_true rfl) ?_
  intro p e s m args below meth c Z hZ X hnm
  refine rJ_aload_n X dX2_readsLeft_0 rfl rfl ?_
  refine rJ_getI X fX2_9 hq dX2_readsLeft_1 ?_
  refine rJ_iconst (v := 2) X dX2_readsLeft_4 (by decide) ?_
  refine rJ_icmp_lt (tgt := 21) X dX2_readsLeft_5 (by decide) (fun c1 => ?_) (fun c1 => ?_)
  · refine rJ_iconst (v := 0) X dX2_readsLeft_21 (by decide) ?_
    exact rJ_zretZ hZ X dX2_readsLeft_22 rfl ⟨by clear X hZ; grind, rfl, rfl, rfl, rfl⟩
  · refine rJ_aload_n X dX2_readsLeft_8 rfl rfl ?_
    refine rJ_getI X fX2_9 hq dX2_readsLeft_9 ?_
    refine rJ_bipush (v := 8) X dX2_readsLeft_12 (by decide) ?_
    refine rJ_icmp_gt (tgt := 21) X dX2_readsLeft_14 (by decide) (fun c2 => ?_) (fun c2 => ?_)
    · refine rJ_iconst (v := 0) X dX2_readsLeft_21 (by decide) ?_
      exact rJ_zretZ hZ X dX2_readsLeft_22 rfl ⟨by clear X hZ; grind, rfl, rfl, rfl, rfl⟩
    · refine rJ_iconst (v := 1) X dX2_readsLeft_17 (by decide) ?_
      refine rJ_goto (tgt := 22) X dX2_readsLeft_18 (by decide) ?_
      exact rJ_zretZ hZ X dX2_readsLeft_22 rfl ⟨by clear X hZ; grind, rfl, rfl, rfl, rfl⟩
set_option maxHeartbeats 4000000 in
set_option maxRecDepth 100000 in
theorem cI_readsRight {l : Launch} {D : va_G} {b : Nat} {A : Nat → Nat} {Sh : mS} {S : mI} {G : mP} {q : Nat} (hq : Sh q = some (0, 2, 0)) : rMet l D b yX2_readsRight cX2_readsRight 1 (some .boolean) (mR 1) A Sh S G [.ref (A q)] (rPi A Sh (if mR1 (S q 0) ∧ ¬ S q 0 = 5 ∧ ¬ S q 0 = 8 then 1 else 0) S G) := by
  refine rMet_oz RX2 rfl (by decide) (Nat.le_of_ble_eq_true rfl) ?_
  intro p e s m args below meth c Z hZ X hnm
  refine rJ_aload_n X dX2_readsRight_0 rfl rfl ?_
  refine rJ_Vi0 X gX2_27 (cI_readsLeft hq) hq dX2_readsRight_1 (by decide) (Nat.le_of_ble_eq_true rfl) ⟨Nat.le_refl _, Nat.le_refl _⟩ ?_
  refine rJ_if_eq (tgt := 28) X dX2_readsRight_4 (by decide) (fun c1 => ?_) (fun c1 => ?_)
  · try replace c1 := z_f c1
    refine rJ_iconst (v := 0) X dX2_readsRight_28 (by decide) ?_
    exact rJ_zretZ hZ X dX2_readsRight_29 rfl ⟨by clear X hZ; grind, rfl, rfl, rfl, rfl⟩
  · try replace c1 := z_t c1
    refine rJ_aload_n X dX2_readsRight_7 rfl rfl ?_
    refine rJ_getI X fX2_9 hq dX2_readsRight_8 ?_
    refine rJ_iconst (v := 5) X dX2_readsRight_11 (by decide) ?_
    refine rJ_icmp_eq (tgt := 28) X dX2_readsRight_12 (by decide) (fun c2 => ?_) (fun c2 => ?_)
    · refine rJ_iconst (v := 0) X dX2_readsRight_28 (by decide) ?_
      exact rJ_zretZ hZ X dX2_readsRight_29 rfl ⟨by clear X hZ; grind, rfl, rfl, rfl, rfl⟩
    · refine rJ_aload_n X dX2_readsRight_15 rfl rfl ?_
      refine rJ_getI X fX2_9 hq dX2_readsRight_16 ?_
      refine rJ_bipush (v := 8) X dX2_readsRight_19 (by decide) ?_
      refine rJ_icmp_eq (tgt := 28) X dX2_readsRight_21 (by decide) (fun c3 => ?_) (fun c3 => ?_)
      · refine rJ_iconst (v := 0) X dX2_readsRight_28 (by decide) ?_
        exact rJ_zretZ hZ X dX2_readsRight_29 rfl ⟨by clear X hZ; grind, rfl, rfl, rfl, rfl⟩
      · refine rJ_iconst (v := 1) X dX2_readsRight_24 (by decide) ?_
        refine rJ_goto (tgt := 29) X dX2_readsRight_25 (by decide) ?_
        exact rJ_zretZ hZ X dX2_readsRight_29 rfl ⟨by clear X hZ; grind, rfl, rfl, rfl, rfl⟩
set_option maxHeartbeats 4000000 in
set_option maxRecDepth 100000 in
theorem cI_commitsRegister {l : Launch} {D : va_G} {b : Nat} {A : Nat → Nat} {Sh : mS} {S : mI} {G : mP} {q : Nat} (hq : Sh q = some (0, 2, 0)) : rMet l D b yX2_commitsRegister cX2_commitsRegister 1 (some .boolean) (mR 0) A Sh S G [.ref (A q)] (rPi A Sh (if 1 ≤ S q 0 ∧ S q 0 ≤ 5 then 1 else 0) S G) := by
  refine rMet_oz RX2 rfl (by decide) (Nat.le_of_ble_eq_true rfl) ?_
  intro p e s m args below meth c Z hZ X hnm
  refine rJ_aload_n X dX2_commitsRegister_0 rfl rfl ?_
  refine rJ_getI X fX2_9 hq dX2_commitsRegister_1 ?_
  refine rJ_iconst (v := 1) X dX2_commitsRegister_4 (by decide) ?_
  refine rJ_icmp_lt (tgt := 20) X dX2_commitsRegister_5 (by decide) (fun c1 => ?_) (fun c1 => ?_)
  · refine rJ_iconst (v := 0) X dX2_commitsRegister_20 (by decide) ?_
    exact rJ_zretZ hZ X dX2_commitsRegister_21 rfl ⟨by clear X hZ; grind, rfl, rfl, rfl, rfl⟩
  · refine rJ_aload_n X dX2_commitsRegister_8 rfl rfl ?_
    refine rJ_getI X fX2_9 hq dX2_commitsRegister_9 ?_
    refine rJ_iconst (v := 5) X dX2_commitsRegister_12 (by decide) ?_
    refine rJ_icmp_gt (tgt := 20) X dX2_commitsRegister_13 (by decide) (fun c2 => ?_) (fun c2 => ?_)
    · refine rJ_iconst (v := 0) X dX2_commitsRegister_20 (by decide) ?_
      exact rJ_zretZ hZ X dX2_commitsRegister_21 rfl ⟨by clear X hZ; grind, rfl, rfl, rfl, rfl⟩
    · refine rJ_iconst (v := 1) X dX2_commitsRegister_16 (by decide) ?_
      refine rJ_goto (tgt := 21) X dX2_commitsRegister_17 (by decide) ?_
      exact rJ_zretZ hZ X dX2_commitsRegister_21 rfl ⟨by clear X hZ; grind, rfl, rfl, rfl, rfl⟩
set_option maxHeartbeats 4000000 in
set_option maxRecDepth 100000 in
theorem cI_commitsTo {l : Launch} {D : va_G} {b : Nat} {A : Nat → Nat} {Sh : mS} {S : mI} {G : mP} {q : Nat} (hq : Sh q = some (0, 2, 0)) (k : Int32) : rMet l D b yX2_commitsTo cX2_commitsTo 2 (some .boolean) (mR 1) A Sh S G [.ref (A q), .int k] (rPi A Sh (if (1 ≤ S q 0 ∧ S q 0 ≤ 5) ∧ S q 1 = k then 1 else 0) S G) := by
  refine rMet_oz RX2 rfl (by decide) (Nat.le_of_ble_eq_true rfl) ?_
  intro p e s m args below meth c Z hZ X hnm
  refine rJ_aload_n X dX2_commitsTo_0 rfl rfl ?_
  refine rJ_Vi0 X gX2_31 (cI_commitsRegister hq) hq dX2_commitsTo_1 (by decide) (Nat.le_of_ble_eq_true rfl) ⟨Nat.le_refl _, Nat.le_refl _⟩ ?_
  refine rJ_if_eq (tgt := 19) X dX2_commitsTo_4 (by decide) (fun c1 => ?_) (fun c1 => ?_)
  · try replace c1 := z_f c1
    refine rJ_iconst (v := 0) X dX2_commitsTo_19 (by decide) ?_
    exact rJ_zretZ hZ X dX2_commitsTo_20 rfl ⟨by clear X hZ; grind, rfl, rfl, rfl, rfl⟩
  · try replace c1 := z_t c1
    refine rJ_aload_n X dX2_commitsTo_7 rfl rfl ?_
    refine rJ_getI X fX2_15 hq dX2_commitsTo_8 ?_
    refine rJ_iload_n X dX2_commitsTo_11 rfl rfl ?_
    refine rJ_icmp_ne (tgt := 19) X dX2_commitsTo_12 (by decide) (fun c2 => ?_) (fun c2 => ?_)
    · refine rJ_iconst (v := 0) X dX2_commitsTo_19 (by decide) ?_
      exact rJ_zretZ hZ X dX2_commitsTo_20 rfl ⟨by clear X hZ; grind, rfl, rfl, rfl, rfl⟩
    · refine rJ_iconst (v := 1) X dX2_commitsTo_15 (by decide) ?_
      refine rJ_goto (tgt := 20) X dX2_commitsTo_16 (by decide) ?_
      exact rJ_zretZ hZ X dX2_commitsTo_20 rfl ⟨by clear X hZ; grind, rfl, rfl, rfl, rfl⟩
set_option maxHeartbeats 4000000 in
set_option maxRecDepth 100000 in
theorem cI_commitsAnything {l : Launch} {D : va_G} {b : Nat} {A : Nat → Nat} {Sh : mS} {S : mI} {G : mP} {q : Nat} (hq : Sh q = some (0, 2, 0)) : rMet l D b yX2_commitsAnything cX2_commitsAnything 1 (some .boolean) (mR 1) A Sh S G [.ref (A q)] (rPi A Sh (if (1 ≤ S q 0 ∧ S q 0 ≤ 5) ∨ S q 0 = 6 ∨ S q 0 = 8 then 1 else 0) S G) := by
  refine rMet_oz RX2 rfl (by decide) (Nat.le_of_ble_eq_true rfl) ?_
  intro p e s m args below meth c Z hZ X hnm
  refine rJ_aload_n X dX2_commitsAnything_0 rfl rfl ?_
  refine rJ_Vi0 X gX2_31 (cI_commitsRegister hq) hq dX2_commitsAnything_1 (by decide) (Nat.le_of_ble_eq_true rfl) ⟨Nat.le_refl _, Nat.le_refl _⟩ ?_
  refine rJ_if_ne (tgt := 25) X dX2_commitsAnything_4 (by decide) (fun c1 => ?_) (fun c1 => ?_)
  · try replace c1 := z_t c1
    refine rJ_iconst (v := 1) X dX2_commitsAnything_25 (by decide) ?_
    refine rJ_goto (tgt := 30) X dX2_commitsAnything_26 (by decide) ?_
    exact rJ_zretZ hZ X dX2_commitsAnything_30 rfl ⟨by clear X hZ; grind, rfl, rfl, rfl, rfl⟩
  · try replace c1 := z_f c1
    refine rJ_aload_n X dX2_commitsAnything_7 rfl rfl ?_
    refine rJ_getI X fX2_9 hq dX2_commitsAnything_8 ?_
    refine rJ_bipush (v := 6) X dX2_commitsAnything_11 (by decide) ?_
    refine rJ_icmp_eq (tgt := 25) X dX2_commitsAnything_13 (by decide) (fun c2 => ?_) (fun c2 => ?_)
    · refine rJ_iconst (v := 1) X dX2_commitsAnything_25 (by decide) ?_
      refine rJ_goto (tgt := 30) X dX2_commitsAnything_26 (by decide) ?_
      exact rJ_zretZ hZ X dX2_commitsAnything_30 rfl ⟨by clear X hZ; grind, rfl, rfl, rfl, rfl⟩
    · refine rJ_aload_n X dX2_commitsAnything_16 rfl rfl ?_
      refine rJ_getI X fX2_9 hq dX2_commitsAnything_17 ?_
      refine rJ_bipush (v := 8) X dX2_commitsAnything_20 (by decide) ?_
      refine rJ_icmp_ne (tgt := 29) X dX2_commitsAnything_22 (by decide) (fun c3 => ?_) (fun c3 => ?_)
      · refine rJ_iconst (v := 0) X dX2_commitsAnything_29 (by decide) ?_
        exact rJ_zretZ hZ X dX2_commitsAnything_30 rfl ⟨by clear X hZ; grind, rfl, rfl, rfl, rfl⟩
      · refine rJ_iconst (v := 1) X dX2_commitsAnything_25 (by decide) ?_
        refine rJ_goto (tgt := 30) X dX2_commitsAnything_26 (by decide) ?_
        exact rJ_zretZ hZ X dX2_commitsAnything_30 rfl ⟨by clear X hZ; grind, rfl, rfl, rfl, rfl⟩
set_option maxHeartbeats 4000000 in
set_option maxRecDepth 100000 in
theorem cI_commitKind {l : Launch} {D : va_G} {b : Nat} {A : Nat → Nat} {Sh : mS} {S : mI} {G : mP} {q : Nat} (hq : Sh q = some (0, 2, 0)) : rMet l D b yX2_commitKind cX2_commitKind 1 (some .int) (mR 0) A Sh S G [.ref (A q)] (rPi A Sh (if S q 0 = 6 then 1 else if S q 0 = 8 then 2 else 0) S G) := by
  refine rMet_oz RX2 rfl (by decide) (Nat.le_of_ble_eq_true rfl) ?_
  intro p e s m args below meth c Z hZ X hnm
  refine rJ_aload_n X dX2_commitKind_0 rfl rfl ?_
  refine rJ_getI X fX2_9 hq dX2_commitKind_1 ?_
  refine rJ_bipush (v := 6) X dX2_commitKind_4 (by decide) ?_
  refine rJ_icmp_ne (tgt := 11) X dX2_commitKind_6 (by decide) (fun c1 => ?_) (fun c1 => ?_)
  · refine rJ_aload_n X dX2_commitKind_11 rfl rfl ?_
    refine rJ_getI X fX2_9 hq dX2_commitKind_12 ?_
    refine rJ_bipush (v := 8) X dX2_commitKind_15 (by decide) ?_
    refine rJ_icmp_ne (tgt := 24) X dX2_commitKind_17 (by decide) (fun c2 => ?_) (fun c2 => ?_)
    · refine rJ_iconst (v := 0) X dX2_commitKind_24 (by decide) ?_
      exact rJ_iretZ hZ X dX2_commitKind_25 ⟨by clear X hZ; grind, rfl, rfl, rfl, rfl⟩
    · refine rJ_iconst (v := 2) X dX2_commitKind_20 (by decide) ?_
      refine rJ_goto (tgt := 25) X dX2_commitKind_21 (by decide) ?_
      exact rJ_iretZ hZ X dX2_commitKind_25 ⟨by clear X hZ; grind, rfl, rfl, rfl, rfl⟩
  · refine rJ_iconst (v := 1) X dX2_commitKind_9 (by decide) ?_
    exact rJ_iretZ hZ X dX2_commitKind_10 ⟨by clear X hZ; grind, rfl, rfl, rfl, rfl⟩
theorem fMod64 (x : Int32) : fMod x 64 = x &&& 63 := by
  have e64 : (64 : Int32).toInt = 64 := rfl
  have hd : (x / 64).toInt = x.toInt.tdiv 64 := by
    rw [Int32.toInt_div, e64]
    have h1 := i_lo x
    have h2 := i_hi x
    have h3 := Int.mul_tdiv_add_tmod x.toInt 64
    have h4 := Int.tmod_lt_of_pos x.toInt (show (0 : Int) < 64 by decide)
    have h5 := Int.lt_tmod_of_pos x.toInt (show (0 : Int) < 64 by decide)
    exact Int.bmod_eq_of_le (by omega) (by omega)
  have h1 := i_lo x
  have h2 := i_hi x
  have h3 := Int.mul_tdiv_add_tmod x.toInt 64
  have h4 := Int.tmod_lt_of_pos x.toInt (show (0 : Int) < 64 by decide)
  have h5 := Int.lt_tmod_of_pos x.toInt (show (0 : Int) < 64 by decide)
  have hs : 0 ≤ x.toInt → 0 ≤ x.toInt.tmod 64 := fun h => Int.tmod_nonneg 64 h
  have hs2 : x.toInt ≤ 0 → x.toInt.tmod 64 ≤ 0 := fun h => by
    have h7 : 0 ≤ (-x.toInt).tmod 64 := Int.tmod_nonneg 64 (by omega)
    rw [Int.neg_tmod] at h7
    omega
  have hm : (x / 64 * 64).toInt = x.toInt.tdiv 64 * 64 := by
    rw [Int32.toInt_mul, hd, e64]
    exact Int.bmod_eq_of_le (by omega) (by omega)
  have hr : (x - x / 64 * 64).toInt = x.toInt.tmod 64 := by
    rw [i_sub (by rw [hm]; omega) (by rw [hm]; omega), hm]
    omega
  have hn : x &&& 63 = nI (x.toBitVec.toNat % 64) := pk_and x 6 rfl
  have hb : x.toInt = if 2 * x.toBitVec.toNat < 2 ^ 32 then (x.toBitVec.toNat : Int) else (x.toBitVec.toNat : Int) - (2 ^ 32 : Nat) := BitVec.toInt_eq_toNat_cond x.toBitVec
  have hlt := x.toBitVec.isLt
  have hx : (0 ≤ x ^^^ 64) ↔ 0 ≤ x.toInt := by
    have e : (x ^^^ 64).toBitVec.toNat = x.toBitVec.toNat ^^^ 64 := by simp [Int32.toBitVec_xor, BitVec.toNat_xor]
    have hb2 : (x ^^^ 64).toInt = if 2 * (x ^^^ 64).toBitVec.toNat < 2 ^ 32 then ((x ^^^ 64).toBitVec.toNat : Int) else ((x ^^^ 64).toBitVec.toNat : Int) - (2 ^ 32 : Nat) := BitVec.toInt_eq_toNat_cond (x ^^^ 64).toBitVec
    rw [i_le]
    show 0 ≤ (x ^^^ 64).toInt ↔ _
    rw [hb2, e, hb]
    have h31 : (x.toBitVec.toNat ^^^ 64).testBit 31 = x.toBitVec.toNat.testBit 31 := by
      rw [Nat.testBit_xor, show Nat.testBit 64 31 = false by decide, Bool.xor_false]
    have l1 : (x.toBitVec.toNat ^^^ 64) < 2 ^ 32 := Nat.xor_lt_two_pow hlt (by decide)
    have t1 : (x.toBitVec.toNat ^^^ 64).testBit 31 = decide (2 ^ 31 ≤ x.toBitVec.toNat ^^^ 64) := by
      rw [Nat.testBit_eq_decide_div_mod_eq]
      rw [decide_eq_decide]
      omega
    have t2 : x.toBitVec.toNat.testBit 31 = decide (2 ^ 31 ≤ x.toBitVec.toNat) := by
      rw [Nat.testBit_eq_decide_div_mod_eq]
      rw [decide_eq_decide]
      omega
    rw [t1, t2] at h31
    have h31 : (2 ^ 31 ≤ x.toBitVec.toNat ^^^ 64) ↔ 2 ^ 31 ≤ x.toBitVec.toNat := by simpa using h31
    generalize x.toBitVec.toNat ^^^ 64 = z at l1 h31 ⊢
    split <;> split <;> omega
  rw [i_eq, hn, i_nI (by omega)]
  unfold fMod
  have hz : (x - x / 64 * 64 = 0) ↔ x.toInt.tmod 64 = 0 := by rw [i_eq, hr]; rfl
  by_cases h : ¬ 0 ≤ x ^^^ 64 ∧ ¬ x - x / 64 * 64 = 0
  · rw [if_pos h]
    rw [hx, hz] at h
    rw [i_add (by rw [hr, e64]; omega) (by rw [hr, e64]; omega), hr, e64]
    split at hb <;> omega
  · rw [if_neg h]
    rw [hx, hz] at h
    rw [hr]
    split at hb <;> omega
set_option maxHeartbeats 4000000 in
set_option maxRecDepth 100000 in
theorem cI_placeFrom {l : Launch} {D : va_G} {b : Nat} {A : Nat → Nat} {Sh : mS} {S : mI} {G : mP} {q : Nat} (hq : Sh q = some (0, 2, 0)) (x : Int32) : rMet l D b yX2_placeFrom cX2_placeFrom 2 (some .int) (mR 1) A Sh S G [.ref (A q), .int x] (rPi A Sh ((x + S q 4) &&& 63) S G) := by
  refine rMet_oz RX2 rfl (by decide) (Nat.le_of_ble_eq_true rfl) ?_
  intro p e s m args below meth c Z hZ X hnm
  refine rJ_iload_n X dX2_placeFrom_0 rfl rfl ?_
  refine rJ_aload_n X dX2_placeFrom_1 rfl rfl ?_
  refine rJ_getI X fX2_24 hq dX2_placeFrom_2 ?_
  refine rJ_iadd X dX2_placeFrom_5 ?_
  refine rJ_bipush (v := 64) X dX2_placeFrom_6 (by decide) ?_
  refine rJ_Si2 X gX2_38 (cJ_floorMod _ _ (by decide)) dX2_placeFrom_8 (by decide) (Nat.le_of_ble_eq_true rfl) ⟨Nat.le_refl _, Nat.le_refl _⟩ ?_
  exact rJ_iretZ hZ X dX2_placeFrom_11 ⟨by rw [fMod64], rfl, rfl, rfl, rfl⟩
set_option maxHeartbeats 4000000 in
set_option maxRecDepth 100000 in
theorem cI_commitsWhere {l : Launch} {D : va_G} {b : Nat} {A : Nat → Nat} {Sh : mS} {S : mI} {G : mP} {q : Nat} (hq : Sh q = some (0, 2, 0)) (x : Int32) : rMet l D b yX2_commitsWhere cX2_commitsWhere 2 (some .int) (mR 2) A Sh S G [.ref (A q), .int x] (rPi A Sh (if S q 0 = 6 then (x + S q 4) &&& 63 else if S q 0 = 8 then 0 else S q 1) S G) := by
  refine rMet_oz RX2 rfl (by decide) (Nat.le_of_ble_eq_true rfl) ?_
  intro p e s m args below meth c Z hZ X hnm
  refine rJ_aload_n X dX2_commitsWhere_0 rfl rfl ?_
  refine rJ_getI X fX2_9 hq dX2_commitsWhere_1 ?_
  refine rJ_bipush (v := 6) X dX2_commitsWhere_4 (by decide) ?_
  refine rJ_icmp_ne (tgt := 15) X dX2_commitsWhere_6 (by decide) (fun c1 => ?_) (fun c1 => ?_)
  · refine rJ_aload_n X dX2_commitsWhere_15 rfl rfl ?_
    refine rJ_getI X fX2_9 hq dX2_commitsWhere_16 ?_
    refine rJ_bipush (v := 8) X dX2_commitsWhere_19 (by decide) ?_
    refine rJ_icmp_ne (tgt := 28) X dX2_commitsWhere_21 (by decide) (fun c2 => ?_) (fun c2 => ?_)
    · refine rJ_aload_n X dX2_commitsWhere_28 rfl rfl ?_
      refine rJ_getI X fX2_15 hq dX2_commitsWhere_29 ?_
      exact rJ_iretZ hZ X dX2_commitsWhere_32 ⟨by clear X hZ; grind, rfl, rfl, rfl, rfl⟩
    · refine rJ_iconst (v := 0) X dX2_commitsWhere_24 (by decide) ?_
      refine rJ_goto (tgt := 32) X dX2_commitsWhere_25 (by decide) ?_
      exact rJ_iretZ hZ X dX2_commitsWhere_32 ⟨by clear X hZ; grind, rfl, rfl, rfl, rfl⟩
  · refine rJ_aload_n X dX2_commitsWhere_9 rfl rfl ?_
    refine rJ_iload_n X dX2_commitsWhere_10 rfl rfl ?_
    refine rJ_Vi1 X gX2_34 (cI_placeFrom hq _) hq dX2_commitsWhere_11 (by decide) (Nat.le_of_ble_eq_true rfl) ⟨Nat.le_refl _, Nat.le_refl _⟩ ?_
    exact rJ_iretZ hZ X dX2_commitsWhere_14 ⟨by clear X hZ; grind, rfl, rfl, rfl, rfl⟩
set_option maxHeartbeats 4000000 in
set_option maxRecDepth 100000 in
theorem cI_goesOn {l : Launch} {D : va_G} {b : Nat} {A : Nat → Nat} {Sh : mS} {S : mI} {G : mP} {q : Nat} (hq : Sh q = some (0, 2, 0)) (x y : Int32) : rMet l D b yX2_goesOn cX2_goesOn 3 (some .boolean) (mR 0) A Sh S G [.ref (A q), .int x, .int y] (rPi A Sh (if S q 0 = 9 ∨ (S q 0 = 7 ∧ x = y) then 1 else 0) S G) := by
  refine rMet_oz RX2 rfl (by decide) (Nat.le_of_ble_eq_true rfl) ?_
  intro p e s m args below meth c Z hZ X hnm
  refine rJ_aload_n X dX2_goesOn_0 rfl rfl ?_
  refine rJ_getI X fX2_9 hq dX2_goesOn_1 ?_
  refine rJ_bipush (v := 9) X dX2_goesOn_4 (by decide) ?_
  refine rJ_icmp_eq (tgt := 23) X dX2_goesOn_6 (by decide) (fun c1 => ?_) (fun c1 => ?_)
  · refine rJ_iconst (v := 1) X dX2_goesOn_23 (by decide) ?_
    refine rJ_goto (tgt := 28) X dX2_goesOn_24 (by decide) ?_
    exact rJ_zretZ hZ X dX2_goesOn_28 rfl ⟨by clear X hZ; grind, rfl, rfl, rfl, rfl⟩
  · refine rJ_aload_n X dX2_goesOn_9 rfl rfl ?_
    refine rJ_getI X fX2_9 hq dX2_goesOn_10 ?_
    refine rJ_bipush (v := 7) X dX2_goesOn_13 (by decide) ?_
    refine rJ_icmp_ne (tgt := 27) X dX2_goesOn_15 (by decide) (fun c2 => ?_) (fun c2 => ?_)
    · refine rJ_iconst (v := 0) X dX2_goesOn_27 (by decide) ?_
      exact rJ_zretZ hZ X dX2_goesOn_28 rfl ⟨by clear X hZ; grind, rfl, rfl, rfl, rfl⟩
    · refine rJ_iload_n X dX2_goesOn_18 rfl rfl ?_
      refine rJ_iload_n X dX2_goesOn_19 rfl rfl ?_
      refine rJ_icmp_ne (tgt := 27) X dX2_goesOn_20 (by decide) (fun c3 => ?_) (fun c3 => ?_)
      · refine rJ_iconst (v := 0) X dX2_goesOn_27 (by decide) ?_
        exact rJ_zretZ hZ X dX2_goesOn_28 rfl ⟨by clear X hZ; grind, rfl, rfl, rfl, rfl⟩
      · refine rJ_iconst (v := 1) X dX2_goesOn_23 (by decide) ?_
        refine rJ_goto (tgt := 28) X dX2_goesOn_24 (by decide) ?_
        exact rJ_zretZ hZ X dX2_goesOn_28 rfl ⟨by clear X hZ; grind, rfl, rfl, rfl, rfl⟩
def cWork (k i x y : Int32) : Int32 := if k = 1 then i else if k = 2 then x + y else if k = 3 then x - y else if k = 4 then x * y else if k = 6 then y else if k = 8 then x else 0
theorem cWork_no {k i x y : Int32} (h : k.toInt < 1 ∨ 8 < k.toInt) : cWork k i x y = 0 := by
  have hn : ∀ v : Int32, (1 ≤ v.toInt ∧ v.toInt ≤ 8) → ¬ k = v := fun v hv e => by subst e; omega
  unfold cWork
  rw [if_neg (hn _ (by decide)), if_neg (hn _ (by decide)), if_neg (hn _ (by decide)), if_neg (hn _ (by decide)), if_neg (hn _ (by decide)), if_neg (hn _ (by decide))]
set_option maxHeartbeats 4000000 in
set_option maxRecDepth 100000 in
theorem cI_workedOut {l : Launch} {D : va_G} {b : Nat} {A : Nat → Nat} {Sh : mS} {S : mI} {G : mP} {q : Nat} (hq : Sh q = some (0, 2, 0)) (x y : Int32) : rMet l D b yX2_workedOut cX2_workedOut 3 (some .int) (mR 0) A Sh S G [.ref (A q), .int x, .int y] (rPi A Sh (cWork (S q 0) (S q 4) x y) S G) := by
  refine rMet_oz RX2 rfl (by decide) (Nat.le_of_ble_eq_true rfl) ?_
  intro p e s m args below meth c Z hZ X hnm
  refine rJ_aload_n X dX2_workedOut_0 rfl rfl ?_
  refine rJ_getI X fX2_9 hq dX2_workedOut_1 ?_
  by_cases hr : (S q 0).toInt < 1 ∨ 8 < (S q 0).toInt
  · refine rJ_tabOut (tgt := 73) X dX2_workedOut_4 hr (by decide) ?_
    refine rJ_iconst (v := 0) X dX2_workedOut_73 (by decide) ?_
    exact rJ_iretZ hZ X dX2_workedOut_74 ⟨by rw [cWork_no hr], rfl, rfl, rfl, rfl⟩
  · have hu : S q 0 = 1 ∨ S q 0 = 2 ∨ S q 0 = 3 ∨ S q 0 = 4 ∨ S q 0 = 5 ∨ S q 0 = 6 ∨ S q 0 = 7 ∨ S q 0 = 8 := by
      simp only [i_eq, Int32.reduceToInt]
      omega
    rcases hu with hk | hk | hk | hk | hk | hk | hk | hk
    · refine rJ_as 1 hk ?_
      refine rJ_tabIn (off := 48) (tgt := 52) X dX2_workedOut_4 (by decide) (by decide) rfl (by decide) ?_
      refine rJ_aload_n X dX2_workedOut_52 rfl rfl ?_
      refine rJ_getI X fX2_24 hq dX2_workedOut_53 ?_
      exact rJ_iretZ hZ X dX2_workedOut_56 ⟨by rw [hk]; rfl, rfl, rfl, rfl, rfl⟩
    · refine rJ_as 2 hk ?_
      refine rJ_tabIn (off := 53) (tgt := 57) X dX2_workedOut_4 (by decide) (by decide) rfl (by decide) ?_
      refine rJ_iload_n X dX2_workedOut_57 rfl rfl ?_
      refine rJ_iload_n X dX2_workedOut_58 rfl rfl ?_
      refine rJ_iadd X dX2_workedOut_59 ?_
      exact rJ_iretZ hZ X dX2_workedOut_60 ⟨by rw [hk]; rfl, rfl, rfl, rfl, rfl⟩
    · refine rJ_as 3 hk ?_
      refine rJ_tabIn (off := 57) (tgt := 61) X dX2_workedOut_4 (by decide) (by decide) rfl (by decide) ?_
      refine rJ_iload_n X dX2_workedOut_61 rfl rfl ?_
      refine rJ_iload_n X dX2_workedOut_62 rfl rfl ?_
      refine rJ_isub X dX2_workedOut_63 ?_
      exact rJ_iretZ hZ X dX2_workedOut_64 ⟨by rw [hk]; rfl, rfl, rfl, rfl, rfl⟩
    · refine rJ_as 4 hk ?_
      refine rJ_tabIn (off := 61) (tgt := 65) X dX2_workedOut_4 (by decide) (by decide) rfl (by decide) ?_
      refine rJ_iload_n X dX2_workedOut_65 rfl rfl ?_
      refine rJ_iload_n X dX2_workedOut_66 rfl rfl ?_
      refine rJ_imul X dX2_workedOut_67 ?_
      exact rJ_iretZ hZ X dX2_workedOut_68 ⟨by rw [hk]; rfl, rfl, rfl, rfl, rfl⟩
    · refine rJ_as 5 hk ?_
      refine rJ_tabIn (off := 69) (tgt := 73) X dX2_workedOut_4 (by decide) (by decide) rfl (by decide) ?_
      refine rJ_iconst (v := 0) X dX2_workedOut_73 (by decide) ?_
      exact rJ_iretZ hZ X dX2_workedOut_74 ⟨by rw [hk]; rfl, rfl, rfl, rfl, rfl⟩
    · refine rJ_as 6 hk ?_
      refine rJ_tabIn (off := 65) (tgt := 69) X dX2_workedOut_4 (by decide) (by decide) rfl (by decide) ?_
      refine rJ_iload_n X dX2_workedOut_69 rfl rfl ?_
      exact rJ_iretZ hZ X dX2_workedOut_70 ⟨by rw [hk]; rfl, rfl, rfl, rfl, rfl⟩
    · refine rJ_as 7 hk ?_
      refine rJ_tabIn (off := 69) (tgt := 73) X dX2_workedOut_4 (by decide) (by decide) rfl (by decide) ?_
      refine rJ_iconst (v := 0) X dX2_workedOut_73 (by decide) ?_
      exact rJ_iretZ hZ X dX2_workedOut_74 ⟨by rw [hk]; rfl, rfl, rfl, rfl, rfl⟩
    · refine rJ_as 8 hk ?_
      refine rJ_tabIn (off := 67) (tgt := 71) X dX2_workedOut_4 (by decide) (by decide) rfl (by decide) ?_
      refine rJ_iload_n X dX2_workedOut_71 rfl rfl ?_
      exact rJ_iretZ hZ X dX2_workedOut_72 ⟨by rw [hk]; rfl, rfl, rfl, rfl, rfl⟩
end
section
def cCome (S : mI) (t : Nat) : mI := mu (mu (mu (mu (mu (mu S t 0 1) t 2 0) t 3 0) t 4 0) t 5 0) t 6 0
set_option maxHeartbeats 4000000 in
set_option maxRecDepth 100000 in
theorem cT_come {l : Launch} {D : va_G} {b : Nat} {A : Nat → Nat} {Sh : mS} {S : mI} {G : mP} {t : Nat} (ht : Sh t = some (0, 5, 0)) {q : Nat} (hq : Sh q = some (0, 2, 0)) : rMet l D b yX5_come cX5_come 2 none (mR 0) A Sh S G [.ref (A t), .ref (A q)] (rPv A Sh (cCome S t) (mu G t 1 (some q))) := by
  refine rMet_oz RX5 rfl (by decide) (Nat.le_of_ble_eq_true rfl) ?_
  intro p e s m args below meth c Z hZ X hnm
  refine rJ_aload_n X dX5_come_0 rfl rfl ?_
  refine rJ_iconst (v := 1) X dX5_come_1 (by decide) ?_
  refine rJ_setI X fX5_13 (Or.inl fwX5_13) (by assumption) ⟨by decide, by decide⟩ dX5_come_2 (fun S2 hS2 => ?_)
  refine rJ_aload_n X dX5_come_5 rfl rfl ?_
  refine rJ_aload_n X dX5_come_6 rfl rfl ?_
  refine rJ_setR X fX5_7 (Or.inl fwX5_7) (by assumption) dX5_come_7 (fun G7 hG7 => ?_)
  refine rJ_aload_n X dX5_come_10 rfl rfl ?_
  refine rJ_iconst (v := 0) X dX5_come_11 (by decide) ?_
  refine rJ_setI X fX5_17 (Or.inl fwX5_17) (by assumption) ⟨rfl, rfl⟩ dX5_come_12 (fun S12 hS12 => ?_)
  refine rJ_aload_n X dX5_come_15 rfl rfl ?_
  refine rJ_iconst (v := 0) X dX5_come_16 (by decide) ?_
  refine rJ_setI X fX5_21 (Or.inl fwX5_21) (by assumption) ⟨rfl, rfl⟩ dX5_come_17 (fun S17 hS17 => ?_)
  refine rJ_aload_n X dX5_come_20 rfl rfl ?_
  refine rJ_iconst (v := 0) X dX5_come_21 (by decide) ?_
  refine rJ_setI X fX5_24 (Or.inl fwX5_24) (by assumption) ⟨rfl, rfl⟩ dX5_come_22 (fun S22 hS22 => ?_)
  refine rJ_aload_n X dX5_come_25 rfl rfl ?_
  refine rJ_iconst (v := 0) X dX5_come_26 (by decide) ?_
  refine rJ_setI X fX5_27 (Or.inl fwX5_27) (by assumption) ⟨rfl, rfl⟩ dX5_come_27 (fun S27 hS27 => ?_)
  refine rJ_aload_n X dX5_come_30 rfl rfl ?_
  refine rJ_iconst (v := 0) X dX5_come_31 (by decide) ?_
  refine rJ_setI X fX5_30 (Or.inl fwX5_30) (by assumption) ⟨rfl, rfl⟩ dX5_come_32 (fun S32 hS32 => ?_)
  exact rJ_vretZ hZ X dX5_come_35 ⟨rfl, rfl, rfl, by rw [hS32, hS27, hS22, hS17, hS12, hS2]; rfl, hG7⟩
set_option maxHeartbeats 4000000 in
set_option maxRecDepth 100000 in
theorem cT_leave {l : Launch} {D : va_G} {b : Nat} {A : Nat → Nat} {Sh : mS} {S : mI} {G : mP} {t : Nat} (ht : Sh t = some (0, 5, 0)) : rMet l D b yX5_leave cX5_leave 1 none (mR 0) A Sh S G [.ref (A t)] (rPv A Sh (mu S t 0 0) G) := by
  refine rMet_oz RX5 rfl (by decide) (Nat.le_of_ble_eq_true rfl) ?_
  intro p e s m args below meth c Z hZ X hnm
  refine rJ_aload_n X dX5_leave_0 rfl rfl ?_
  refine rJ_iconst (v := 0) X dX5_leave_1 (by decide) ?_
  refine rJ_setI X fX5_13 (Or.inl fwX5_13) (by assumption) ⟨by decide, by decide⟩ dX5_leave_2 (fun S2 hS2 => ?_)
  exact rJ_vretZ hZ X dX5_leave_5 ⟨rfl, rfl, rfl, hS2, rfl⟩
set_option maxHeartbeats 4000000 in
set_option maxRecDepth 100000 in
theorem cT_isPresent {l : Launch} {D : va_G} {b : Nat} {A : Nat → Nat} {Sh : mS} {S : mI} {G : mP} {t : Nat} (ht : Sh t = some (0, 5, 0)) (hp : S t 0 = 0 ∨ S t 0 = 1) : rMet l D b yX5_isPresent cX5_isPresent 1 (some .boolean) (mR 0) A Sh S G [.ref (A t)] (rPi A Sh (S t 0) S G) := by
  refine rMet_oz RX5 rfl (by decide) (Nat.le_of_ble_eq_true rfl) ?_
  intro p e s m args below meth c Z hZ X hnm
  refine rJ_aload_n X dX5_isPresent_0 rfl rfl ?_
  refine rJ_getI X fX5_13 (by assumption) dX5_isPresent_1 ?_
  exact rJ_zretZ hZ X dX5_isPresent_4 (by rcases hp with h | h <;> rw [h] <;> rfl) ⟨rfl, rfl, rfl, rfl, rfl⟩
set_option maxHeartbeats 4000000 in
set_option maxRecDepth 100000 in
theorem cT_instruction {l : Launch} {D : va_G} {b : Nat} {A : Nat → Nat} {Sh : mS} {S : mI} {G : mP} {t q : Nat} (ht : Sh t = some (0, 5, 0)) (hrow : G t 1 = some q) (hq : Sh q = some (0, 2, 0)) : rMet l D b yX5_instruction cX5_instruction 1 (some (.object "PipeForge$Instruction")) (mR 0) A Sh S G [.ref (A t)] (rPr A Sh q S G) := by
  refine rMet_oz RX5 rfl (by decide) (Nat.le_of_ble_eq_true rfl) ?_
  intro p e s m args below meth c Z hZ X hnm
  refine rJ_aload_n X dX5_instruction_0 rfl rfl ?_
  refine rJ_getR X fX5_7 (by assumption) (by assumption) dX5_instruction_1 ?_
  exact rJ_aretZ hZ X (Or.inl ⟨_, rfl⟩) dX5_instruction_4 ⟨rfl, rfl, rfl, rfl, rfl⟩
set_option maxHeartbeats 4000000 in
set_option maxRecDepth 100000 in
theorem cT_readLeft {l : Launch} {D : va_G} {b : Nat} {A : Nat → Nat} {Sh : mS} {S : mI} {G : mP} {t : Nat} (ht : Sh t = some (0, 5, 0)) (v : Int32) : rMet l D b yX5_readLeft cX5_readLeft 2 none (mR 0) A Sh S G [.ref (A t), .int v] (rPv A Sh (mu S t 2 v) G) := by
  refine rMet_oz RX5 rfl (by decide) (Nat.le_of_ble_eq_true rfl) ?_
  intro p e s m args below meth c Z hZ X hnm
  refine rJ_aload_n X dX5_readLeft_0 rfl rfl ?_
  refine rJ_iload_n X dX5_readLeft_1 rfl rfl ?_
  refine rJ_setI X fX5_17 (Or.inl fwX5_17) (by assumption) ⟨rfl, rfl⟩ dX5_readLeft_2 (fun S2 hS2 => ?_)
  exact rJ_vretZ hZ X dX5_readLeft_5 ⟨rfl, rfl, rfl, hS2, rfl⟩
set_option maxHeartbeats 4000000 in
set_option maxRecDepth 100000 in
theorem cT_readRight {l : Launch} {D : va_G} {b : Nat} {A : Nat → Nat} {Sh : mS} {S : mI} {G : mP} {t : Nat} (ht : Sh t = some (0, 5, 0)) (v : Int32) : rMet l D b yX5_readRight cX5_readRight 2 none (mR 0) A Sh S G [.ref (A t), .int v] (rPv A Sh (mu S t 3 v) G) := by
  refine rMet_oz RX5 rfl (by decide) (Nat.le_of_ble_eq_true rfl) ?_
  intro p e s m args below meth c Z hZ X hnm
  refine rJ_aload_n X dX5_readRight_0 rfl rfl ?_
  refine rJ_iload_n X dX5_readRight_1 rfl rfl ?_
  refine rJ_setI X fX5_21 (Or.inl fwX5_21) (by assumption) ⟨rfl, rfl⟩ dX5_readRight_2 (fun S2 hS2 => ?_)
  exact rJ_vretZ hZ X dX5_readRight_5 ⟨rfl, rfl, rfl, hS2, rfl⟩
set_option maxHeartbeats 4000000 in
set_option maxRecDepth 100000 in
theorem cT_workOut {l : Launch} {D : va_G} {b : Nat} {A : Nat → Nat} {Sh : mS} {S : mI} {G : mP} {t q : Nat} (ht : Sh t = some (0, 5, 0)) (hrow : G t 1 = some q) (hq : Sh q = some (0, 2, 0)) : rMet l D b yX5_workOut cX5_workOut 1 none (mR 1) A Sh S G [.ref (A t)] (rPv A Sh (mu S t 4 (cWork (S q 0) (S q 4) (S t 2) (S t 3))) G) := by
  refine rMet_oz RX5 rfl (by decide) (Nat.le_of_ble_eq_true rfl) ?_
  intro p e s m args below meth c Z hZ X hnm
  refine rJ_aload_n X dX5_workOut_0 rfl rfl ?_
  refine rJ_aload_n X dX5_workOut_1 rfl rfl ?_
  refine rJ_getR X fX5_7 (by assumption) (by assumption) dX5_workOut_2 ?_
  refine rJ_aload_n X dX5_workOut_5 rfl rfl ?_
  refine rJ_getI X fX5_17 (by assumption) dX5_workOut_6 ?_
  refine rJ_aload_n X dX5_workOut_9 rfl rfl ?_
  refine rJ_getI X fX5_21 (by assumption) dX5_workOut_10 ?_
  refine rJ_Vi2 X gX5_33 (cI_workedOut hq _ _) (by assumption) dX5_workOut_13 (by decide) (Nat.le_of_ble_eq_true rfl) ⟨Nat.le_refl _, Nat.le_refl _⟩ ?_
  refine rJ_setI X fX5_24 (Or.inl fwX5_24) (by assumption) ⟨rfl, rfl⟩ dX5_workOut_16 (fun S16 hS16 => ?_)
  exact rJ_vretZ hZ X dX5_workOut_19 ⟨rfl, rfl, rfl, hS16, rfl⟩
set_option maxHeartbeats 4000000 in
set_option maxRecDepth 100000 in
theorem cT_goesOn {l : Launch} {D : va_G} {b : Nat} {A : Nat → Nat} {Sh : mS} {S : mI} {G : mP} {t q : Nat} (ht : Sh t = some (0, 5, 0)) (hrow : G t 1 = some q) (hq : Sh q = some (0, 2, 0)) : rMet l D b yX5_goesOn cX5_goesOn 1 (some .boolean) (mR 1) A Sh S G [.ref (A t)] (rPi A Sh (if S q 0 = 9 ∨ (S q 0 = 7 ∧ S t 2 = S t 3) then 1 else 0) S G) := by
  refine rMet_oz RX5 rfl (by decide) (Nat.le_of_ble_eq_true rfl) ?_
  intro p e s m args below meth c Z hZ X hnm
  refine rJ_aload_n X dX5_goesOn_0 rfl rfl ?_
  refine rJ_getR X fX5_7 (by assumption) (by assumption) dX5_goesOn_1 ?_
  refine rJ_aload_n X dX5_goesOn_4 rfl rfl ?_
  refine rJ_getI X fX5_17 (by assumption) dX5_goesOn_5 ?_
  refine rJ_aload_n X dX5_goesOn_8 rfl rfl ?_
  refine rJ_getI X fX5_21 (by assumption) dX5_goesOn_9 ?_
  refine rJ_Vi2 X gX5_39 (cI_goesOn hq _ _) (by assumption) dX5_goesOn_12 (by decide) (Nat.le_of_ble_eq_true rfl) ⟨Nat.le_refl _, Nat.le_refl _⟩ ?_
  exact rJ_zretZ hZ X dX5_goesOn_15 z_n ⟨rfl, rfl, rfl, rfl, rfl⟩
set_option maxHeartbeats 4000000 in
set_option maxRecDepth 100000 in
theorem cT_asksPlace {l : Launch} {D : va_G} {b : Nat} {A : Nat → Nat} {Sh : mS} {S : mI} {G : mP} {t q : Nat} (ht : Sh t = some (0, 5, 0)) (hrow : G t 1 = some q) (hq : Sh q = some (0, 2, 0)) : rMet l D b yX5_asksPlace cX5_asksPlace 1 (some .int) (mR 2) A Sh S G [.ref (A t)] (rPi A Sh ((S t 2 + S q 4) &&& 63) S G) := by
  refine rMet_oz RX5 rfl (by decide) (Nat.le_of_ble_eq_true rfl) ?_
  intro p e s m args below meth c Z hZ X hnm
  refine rJ_aload_n X dX5_asksPlace_0 rfl rfl ?_
  refine rJ_getR X fX5_7 (by assumption) (by assumption) dX5_asksPlace_1 ?_
  refine rJ_aload_n X dX5_asksPlace_4 rfl rfl ?_
  refine rJ_getI X fX5_17 (by assumption) dX5_asksPlace_5 ?_
  refine rJ_Vi1 X gX5_43 (cI_placeFrom hq _) (by assumption) dX5_asksPlace_8 (by decide) (Nat.le_of_ble_eq_true rfl) ⟨Nat.le_refl _, Nat.le_refl _⟩ ?_
  exact rJ_iretZ hZ X dX5_asksPlace_11 ⟨rfl, rfl, rfl, rfl, rfl⟩
set_option maxHeartbeats 4000000 in
set_option maxRecDepth 100000 in
theorem cT_commitsWhere {l : Launch} {D : va_G} {b : Nat} {A : Nat → Nat} {Sh : mS} {S : mI} {G : mP} {t q : Nat} (ht : Sh t = some (0, 5, 0)) (hrow : G t 1 = some q) (hq : Sh q = some (0, 2, 0)) : rMet l D b yX5_commitsWhere cX5_commitsWhere 1 (some .int) (mR 3) A Sh S G [.ref (A t)] (rPi A Sh (if S q 0 = 6 then (S t 2 + S q 4) &&& 63 else if S q 0 = 8 then 0 else S q 1) S G) := by
  refine rMet_oz RX5 rfl (by decide) (Nat.le_of_ble_eq_true rfl) ?_
  intro p e s m args below meth c Z hZ X hnm
  refine rJ_aload_n X dX5_commitsWhere_0 rfl rfl ?_
  refine rJ_getR X fX5_7 (by assumption) (by assumption) dX5_commitsWhere_1 ?_
  refine rJ_aload_n X dX5_commitsWhere_4 rfl rfl ?_
  refine rJ_getI X fX5_17 (by assumption) dX5_commitsWhere_5 ?_
  refine rJ_Vi1 X gX5_47 (cI_commitsWhere hq _) (by assumption) dX5_commitsWhere_8 (by decide) (Nat.le_of_ble_eq_true rfl) ⟨Nat.le_refl _, Nat.le_refl _⟩ ?_
  exact rJ_iretZ hZ X dX5_commitsWhere_11 ⟨rfl, rfl, rfl, rfl, rfl⟩
set_option maxHeartbeats 4000000 in
set_option maxRecDepth 100000 in
theorem cT_ask {l : Launch} {D : va_G} {b : Nat} {A : Nat → Nat} {Sh : mS} {S : mI} {G : mP} {t : Nat} (ht : Sh t = some (0, 5, 0)) (x y : Int32) : rMet l D b yX5_ask cX5_ask 3 none (mR 0) A Sh S G [.ref (A t), .int x, .int y] (rPv A Sh (mu (mu S t 4 x) t 5 y) G) := by
  refine rMet_oz RX5 rfl (by decide) (Nat.le_of_ble_eq_true rfl) ?_
  intro p e s m args below meth c Z hZ X hnm
  refine rJ_aload_n X dX5_ask_0 rfl rfl ?_
  refine rJ_iload_n X dX5_ask_1 rfl rfl ?_
  refine rJ_setI X fX5_24 (Or.inl fwX5_24) (by assumption) ⟨rfl, rfl⟩ dX5_ask_2 (fun S2 hS2 => ?_)
  refine rJ_aload_n X dX5_ask_5 rfl rfl ?_
  refine rJ_iload_n X dX5_ask_6 rfl rfl ?_
  refine rJ_setI X fX5_27 (Or.inl fwX5_27) (by assumption) ⟨rfl, rfl⟩ dX5_ask_7 (fun S7 hS7 => ?_)
  exact rJ_vretZ hZ X dX5_ask_10 ⟨rfl, rfl, rfl, by rw [hS7, hS2], rfl⟩
set_option maxHeartbeats 4000000 in
set_option maxRecDepth 100000 in
theorem cT_isAnswered {l : Launch} {D : va_G} {b : Nat} {A : Nat → Nat} {Sh : mS} {S : mI} {G : mP} {t : Nat} (ht : Sh t = some (0, 5, 0)) (x y : Int32) : rMet l D b yX5_isAnswered cX5_isAnswered 3 (some .boolean) (mR 0) A Sh S G [.ref (A t), .int x, .int y] (rPi A Sh (if y ≤ x - S t 5 then 1 else 0) S G) := by
  refine rMet_oz RX5 rfl (by decide) (Nat.le_of_ble_eq_true rfl) ?_
  intro p e s m args below meth c Z hZ X hnm
  refine rJ_iload_n X dX5_isAnswered_0 rfl rfl ?_
  refine rJ_aload_n X dX5_isAnswered_1 rfl rfl ?_
  refine rJ_getI X fX5_27 (by assumption) dX5_isAnswered_2 ?_
  refine rJ_isub X dX5_isAnswered_5 ?_
  refine rJ_iload_n X dX5_isAnswered_6 rfl rfl ?_
  refine rJ_icmp_lt (tgt := 14) X dX5_isAnswered_7 (by decide) (fun c1 => ?_) (fun c1 => ?_)
  · refine rJ_iconst (v := 0) X dX5_isAnswered_14 (by decide) ?_
    exact rJ_zretZ hZ X dX5_isAnswered_15 rfl ⟨by clear X hZ; grind, rfl, rfl, rfl, rfl⟩
  · refine rJ_iconst (v := 1) X dX5_isAnswered_10 (by decide) ?_
    refine rJ_goto (tgt := 15) X dX5_isAnswered_11 (by decide) ?_
    exact rJ_zretZ hZ X dX5_isAnswered_15 rfl ⟨by clear X hZ; grind, rfl, rfl, rfl, rfl⟩
set_option maxHeartbeats 4000000 in
set_option maxRecDepth 100000 in
theorem cT_give {l : Launch} {D : va_G} {b : Nat} {A : Nat → Nat} {Sh : mS} {S : mI} {G : mP} {t : Nat} (ht : Sh t = some (0, 5, 0)) (x : Int32) : rMet l D b yX5_give cX5_give 2 none (mR 0) A Sh S G [.ref (A t), .int x] (rPv A Sh (mu S t 6 x) G) := by
  refine rMet_oz RX5 rfl (by decide) (Nat.le_of_ble_eq_true rfl) ?_
  intro p e s m args below meth c Z hZ X hnm
  refine rJ_aload_n X dX5_give_0 rfl rfl ?_
  refine rJ_iload_n X dX5_give_1 rfl rfl ?_
  refine rJ_setI X fX5_30 (Or.inl fwX5_30) (by assumption) ⟨rfl, rfl⟩ dX5_give_2 (fun S2 hS2 => ?_)
  exact rJ_vretZ hZ X dX5_give_5 ⟨rfl, rfl, rfl, hS2, rfl⟩
set_option maxHeartbeats 4000000 in
set_option maxRecDepth 100000 in
theorem cT_gaveBefore {l : Launch} {D : va_G} {b : Nat} {A : Nat → Nat} {Sh : mS} {S : mI} {G : mP} {t : Nat} (ht : Sh t = some (0, 5, 0)) (x : Int32) : rMet l D b yX5_gaveBefore cX5_gaveBefore 2 (some .boolean) (mR 0) A Sh S G [.ref (A t), .int x] (rPi A Sh (if ¬ S t 6 = 0 ∧ S t 6 < x then 1 else 0) S G) := by
  refine rMet_oz RX5 rfl (by decide) (Nat.le_of_ble_eq_true rfl) ?_
  intro p e s m args below meth c Z hZ X hnm
  refine rJ_aload_n X dX5_gaveBefore_0 rfl rfl ?_
  refine rJ_getI X fX5_30 (by assumption) dX5_gaveBefore_1 ?_
  refine rJ_if_eq (tgt := 19) X dX5_gaveBefore_4 (by decide) (fun c1 => ?_) (fun c1 => ?_)
  · refine rJ_iconst (v := 0) X dX5_gaveBefore_19 (by decide) ?_
    exact rJ_zretZ hZ X dX5_gaveBefore_20 rfl ⟨by clear X hZ; grind, rfl, rfl, rfl, rfl⟩
  · refine rJ_aload_n X dX5_gaveBefore_7 rfl rfl ?_
    refine rJ_getI X fX5_30 (by assumption) dX5_gaveBefore_8 ?_
    refine rJ_iload_n X dX5_gaveBefore_11 rfl rfl ?_
    refine rJ_icmp_ge (tgt := 19) X dX5_gaveBefore_12 (by decide) (fun c2 => ?_) (fun c2 => ?_)
    · refine rJ_iconst (v := 0) X dX5_gaveBefore_19 (by decide) ?_
      exact rJ_zretZ hZ X dX5_gaveBefore_20 rfl ⟨by clear X hZ; grind, rfl, rfl, rfl, rfl⟩
    · refine rJ_iconst (v := 1) X dX5_gaveBefore_15 (by decide) ?_
      refine rJ_goto (tgt := 20) X dX5_gaveBefore_16 (by decide) ?_
      exact rJ_zretZ hZ X dX5_gaveBefore_20 rfl ⟨by clear X hZ; grind, rfl, rfl, rfl, rfl⟩
set_option maxHeartbeats 4000000 in
set_option maxRecDepth 100000 in
theorem cT_worth {l : Launch} {D : va_G} {b : Nat} {A : Nat → Nat} {Sh : mS} {S : mI} {G : mP} {t : Nat} (ht : Sh t = some (0, 5, 0)) : rMet l D b yX5_worth cX5_worth 1 (some .int) (mR 0) A Sh S G [.ref (A t)] (rPi A Sh (S t 4) S G) := by
  refine rMet_oz RX5 rfl (by decide) (Nat.le_of_ble_eq_true rfl) ?_
  intro p e s m args below meth c Z hZ X hnm
  refine rJ_aload_n X dX5_worth_0 rfl rfl ?_
  refine rJ_getI X fX5_24 (by assumption) dX5_worth_1 ?_
  exact rJ_iretZ hZ X dX5_worth_4 ⟨rfl, rfl, rfl, rfl, rfl⟩
set_option maxHeartbeats 4000000 in
set_option maxRecDepth 100000 in
theorem cL_stageCount {l : Launch} {D : va_G} {b : Nat} {A : Nat → Nat} {Sh : mS} {S : mI} {G : mP} (hw : okC Sh G) : rMet l D b yX3_stageCount cX3_stageCount 1 (some .int) (mR 0) A Sh S G [.ref (A 4)] (rPi A Sh (S 4 1) S G) := by
  refine rMet_oz RX3 rfl (by decide) (Nat.le_of_ble_eq_true rfl) ?_
  intro p e s m args below meth c Z hZ X hnm
  refine rJ_aload_n X dX3_stageCount_0 rfl rfl ?_
  refine rJ_getI X fX3_15 (by first | exact hw.1 _ _ rfl | assumption) dX3_stageCount_1 ?_
  exact rJ_iretZ hZ X dX3_stageCount_4 ⟨rfl, rfl, rfl, rfl, rfl⟩
abbrev cStg (S : mI) (x : Int32) : Int32 := if 0 ≤ x ∧ x < 8 then S 5 x.toNatClampNeg else -1
theorem in_lt {x hi : Int32} {n : Nat} (h0 : ¬ x < 0) (h1 : x < hi) (hn : hi.toInt ≤ n) : vp_in x n := by
  rw [i_lt] at h0 h1
  have e0 : (0 : Int32).toInt = 0 := rfl
  rw [e0] at h0
  exact in_i (by omega) (by omega)
theorem in_lt2 {x hi : Int32} {n : Nat} (h : 0 ≤ x ∧ x < hi) (hn : hi.toInt ≤ n) : vp_in x n := in_lt (by rw [Int32.not_lt]; exact h.1) h.2 hn
set_option maxHeartbeats 4000000 in
set_option maxRecDepth 100000 in
theorem cL_stageOf {l : Launch} {D : va_G} {b : Nat} {A : Nat → Nat} {Sh : mS} {S : mI} {G : mP} (hw : okC Sh G) (x : Int32) : rMet l D b yX3_stageOf cX3_stageOf 2 (some .int) (mR 0) A Sh S G [.ref (A 4), .int x] (rPi A Sh (cStg S x) S G) := by
  refine rMet_oz RX3 rfl (by decide) (Nat.le_of_ble_eq_true rfl) ?_
  intro p e s m args below meth c Z hZ X hnm
  refine rJ_iload_n X dX3_stageOf_0 rfl rfl ?_
  refine rJ_if_lt (tgt := 10) X dX3_stageOf_1 (by decide) (fun c1 => ?_) (fun c1 => ?_)
  · refine rJ_iconst (v := (-1)) X dX3_stageOf_10 (by decide) ?_
    refine rJ_goto (tgt := 20) X dX3_stageOf_11 (by decide) ?_
    exact rJ_iretZ hZ X dX3_stageOf_20 ⟨by clear X hZ; grind, rfl, rfl, rfl, rfl⟩
  · refine rJ_iload_n X dX3_stageOf_4 rfl rfl ?_
    refine rJ_bipush (v := 8) X dX3_stageOf_5 (by decide) ?_
    refine rJ_icmp_lt (tgt := 14) X dX3_stageOf_7 (by decide) (fun c2 => ?_) (fun c2 => ?_)
    · refine rJ_aload_n X dX3_stageOf_14 rfl rfl ?_
      refine rJ_getR X fX3_9 (by first | exact hw.1 _ _ rfl | assumption) (by first | exact hw.2 _ _ _ rfl | assumption) dX3_stageOf_15 ?_
      refine rJ_iload_n X dX3_stageOf_18 rfl rfl ?_
      refine rJ_iald X (by first | exact hw.1 _ _ rfl | assumption) (in_lt c1 c2 (by decide)) dX3_stageOf_19 ?_
      exact rJ_iretZ hZ X dX3_stageOf_20 ⟨by clear X hZ; grind, rfl, rfl, rfl, rfl⟩
    · refine rJ_iconst (v := (-1)) X dX3_stageOf_10 (by decide) ?_
      refine rJ_goto (tgt := 20) X dX3_stageOf_11 (by decide) ?_
      exact rJ_iretZ hZ X dX3_stageOf_20 ⟨by clear X hZ; grind, rfl, rfl, rfl, rfl⟩
set_option maxHeartbeats 4000000 in
set_option maxRecDepth 100000 in
theorem cL_has {l : Launch} {D : va_G} {b : Nat} {A : Nat → Nat} {Sh : mS} {S : mI} {G : mP} (hw : okC Sh G) (x y : Int32) : rMet l D b yX3_has cX3_has 3 (some .boolean) (mR 1) A Sh S G [.ref (A 4), .int x, .int y] (rPi A Sh (if cStg S x = y then 1 else 0) S G) := by
  refine rMet_oz RX3 rfl (by decide) (Nat.le_of_ble_eq_true rfl) ?_
  intro p e s m args below meth c Z hZ X hnm
  refine rJ_aload_n X dX3_has_0 rfl rfl ?_
  refine rJ_iload_n X dX3_has_1 rfl rfl ?_
  refine rJ_Vi1 X gX3_25 (cL_stageOf hw _) (by first | exact hw.1 _ _ rfl | assumption) dX3_has_2 (by decide) (Nat.le_of_ble_eq_true rfl) ⟨Nat.le_refl _, Nat.le_refl _⟩ ?_
  refine rJ_iload_n X dX3_has_5 rfl rfl ?_
  refine rJ_icmp_ne (tgt := 13) X dX3_has_6 (by decide) (fun c1 => ?_) (fun c1 => ?_)
  · refine rJ_iconst (v := 0) X dX3_has_13 (by decide) ?_
    exact rJ_zretZ hZ X dX3_has_14 rfl ⟨by first | rw [if_pos c1] | rw [if_neg c1], rfl, rfl, rfl, rfl⟩
  · refine rJ_iconst (v := 1) X dX3_has_9 (by decide) ?_
    refine rJ_goto (tgt := 14) X dX3_has_10 (by decide) ?_
    exact rJ_zretZ hZ X dX3_has_14 rfl ⟨by first | rw [if_pos c1] | rw [if_neg c1], rfl, rfl, rfl, rfl⟩
abbrev cGiv (S : mI) (k : Int32) : Int32 := if S 5 7 = -1 ∨ ¬ k = 5 then S 5 7 else if S 5 7 < S 5 5 then S 5 5 else S 5 7
set_option maxHeartbeats 4000000 in
set_option maxRecDepth 100000 in
theorem cL_givingStage {l : Launch} {D : va_G} {b : Nat} {A : Nat → Nat} {Sh : mS} {S : mI} {G : mP} (hw : okC Sh G) (k : Int32) : rMet l D b yX3_givingStage cX3_givingStage 3 (some .int) (mR 1) A Sh S G [.ref (A 4), .int k] (rPi A Sh (cGiv S k) S G) := by
  refine rMet_oz RX3 rfl (by decide) (Nat.le_of_ble_eq_true rfl) ?_
  intro p e s m args below meth c Z hZ X hnm
  refine rJ_aload_n X dX3_givingStage_0 rfl rfl ?_
  refine rJ_getR X fX3_9 (by first | exact hw.1 _ _ rfl | assumption) (by first | exact hw.2 _ _ _ rfl | assumption) dX3_givingStage_1 ?_
  refine rJ_bipush (v := 7) X dX3_givingStage_4 (by decide) ?_
  refine rJ_ialdK (k := 7) X (by decide) (n := 8) ⟨by decide, by decide⟩ (by first | exact hw.1 _ _ rfl | assumption) dX3_givingStage_6 ?_
  refine rJ_istore_n X dX3_givingStage_7 rfl (by decide) ?_
  refine rJ_iload_n X dX3_givingStage_8 rfl rfl ?_
  refine rJ_iconst (v := (-1)) X dX3_givingStage_9 (by decide) ?_
  refine rJ_icmp_eq (tgt := 18) X dX3_givingStage_10 (by decide) (fun c1 => ?_) (fun c1 => ?_)
  · refine rJ_iload_n X dX3_givingStage_18 rfl rfl ?_
    exact rJ_iretZ hZ X dX3_givingStage_19 ⟨by clear X hZ; grind, rfl, rfl, rfl, rfl⟩
  · refine rJ_iload_n X dX3_givingStage_13 rfl rfl ?_
    refine rJ_iconst (v := 5) X dX3_givingStage_14 (by decide) ?_
    refine rJ_icmp_eq (tgt := 20) X dX3_givingStage_15 (by decide) (fun c2 => ?_) (fun c2 => ?_)
    · refine rJ_iload_n X dX3_givingStage_20 rfl rfl ?_
      refine rJ_aload_n X dX3_givingStage_21 rfl rfl ?_
      refine rJ_getR X fX3_9 (by first | exact hw.1 _ _ rfl | assumption) (by first | exact hw.2 _ _ _ rfl | assumption) dX3_givingStage_22 ?_
      refine rJ_iconst (v := 5) X dX3_givingStage_25 (by decide) ?_
      refine rJ_ialdK (k := 5) X (by decide) (n := 8) ⟨by decide, by decide⟩ (by first | exact hw.1 _ _ rfl | assumption) dX3_givingStage_26 ?_
      refine rJ_Si2 X gX3_29 (cJ_max _ _) dX3_givingStage_27 (by decide) (Nat.le_of_ble_eq_true rfl) ⟨Nat.le_refl _, Nat.le_refl _⟩ ?_
      exact rJ_iretZ hZ X dX3_givingStage_30 ⟨by clear X hZ; grind, rfl, rfl, rfl, rfl⟩
    · refine rJ_iload_n X dX3_givingStage_18 rfl rfl ?_
      exact rJ_iretZ hZ X dX3_givingStage_19 ⟨by clear X hZ; grind, rfl, rfl, rfl, rfl⟩
def mCpy (S : mI) (a r n : Nat) : mI := fun x k => if x = r ∧ k < n then S a k else S x k
theorem mCpy_eq (S : mI) (a r n : Nat) {n1 : Int32} (hn : n1.toNatClampNeg = n) : (fun x => if x = r then va_cpy (S a) (S r) (0 : Int32).toNatClampNeg (0 : Int32).toNatClampNeg n1.toNatClampNeg else S x) = mCpy S a r n := by
  subst hn
  have e0 : (0 : Int32).toNatClampNeg = 0 := rfl
  rw [e0]
  funext x k
  by_cases hx : x = r
  · subst hx
    simp [mCpy, va_cpy]
  · simp [mCpy, hx]
set_option maxHeartbeats 4000000 in
set_option maxRecDepth 100000 in
theorem cL_become {l : Launch} {D : va_G} {b : Nat} {A : Nat → Nat} {Sh : mS} {S : mI} {G : mP} (hw : okC Sh G) (c9 : Int32) : rMet l D b yX3_become cX3_become 3 none (mR 1) A Sh S G [.ref (A 4), .ref (A 3), .int c9] (rPv A Sh (mu (mCpy S 3 5 8) 4 1 c9) G) := by
  refine rMet_oz RX3 rfl (by decide) (Nat.le_of_ble_eq_true rfl) ?_
  intro p e s m args below meth c Z hZ X hnm
  refine rJ_aload_n X dX3_become_0 rfl rfl ?_
  refine rJ_iconst (v := 0) X dX3_become_1 (by decide) ?_
  refine rJ_aload_n X dX3_become_2 rfl rfl ?_
  refine rJ_getR X fX3_9 (by first | exact hw.1 _ _ rfl | assumption) (by first | exact hw.2 _ _ _ rfl | assumption) dX3_become_3 ?_
  refine rJ_iconst (v := 0) X dX3_become_6 (by decide) ?_
  refine rJ_bipush (v := 8) X dX3_become_7 (by decide) ?_
  refine rJ_copy (r0 := 3) (r := 5) X kaX3_19 kaN kaS kaI (by first | exact hw.1 _ _ rfl | assumption) (by first | exact hw.1 _ _ rfl | assumption) (by decide) (by decide) (by decide) (by decide) (by decide) (by decide) (Nat.le_of_ble_eq_true rfl) dX3_become_9 (fun S9 hS9 => ?_)
  rw [mCpy_eq S 3 5 8 rfl] at hS9
  refine rJ_aload_n X dX3_become_12 rfl rfl ?_
  refine rJ_iload_n X dX3_become_13 rfl rfl ?_
  refine rJ_setI X fX3_15 (Or.inl fwX3_15) (by first | exact hw.1 _ _ rfl | assumption) ⟨rfl, rfl⟩ dX3_become_14 (fun S14 hS14 => ?_)
  exact rJ_vretZ hZ X dX3_become_17 ⟨rfl, rfl, rfl, by rw [hS14, hS9], rfl⟩
set_option maxHeartbeats 4000000 in
set_option maxRecDepth 100000 in
theorem cS_tell {l : Launch} {D : va_G} {b : Nat} {A : Nat → Nat} {Sh : mS} {S : mI} {G : mP} (hw : okC Sh G) (x v : Int32) : rMet l D b yX9_tell cX9_tell 3 none (mR 1) A Sh S G [.ref (A 9), .int x, .int v] (rPv A Sh (if 0 ≤ x ∧ x < 64 then mu S 10 x.toNatClampNeg v else S) G) := by
  refine rMet_oz RX9 rfl (by decide) (Nat.le_of_ble_eq_true rfl) ?_
  intro p e s m args below meth c Z hZ X hnm
  refine rJ_iload_n X dX9_tell_0 rfl rfl ?_
  refine rJ_Ni1 X gX9_18 (cC_isPlace _) dX9_tell_1 (by decide) (Nat.le_of_ble_eq_true rfl) ⟨Nat.le_refl _, Nat.le_refl _⟩ ?_
  refine rJ_if_eq (tgt := 14) X dX9_tell_4 (by decide) (fun c1 => ?_) (fun c1 => ?_)
  · try replace c1 := z_f c1
    exact rJ_vretZ hZ X dX9_tell_14 ⟨rfl, rfl, rfl, by first | rw [if_neg c1] | rw [if_pos c1, hS13], rfl⟩
  · try replace c1 := z_t c1
    refine rJ_aload_n X dX9_tell_7 rfl rfl ?_
    refine rJ_getR X fX9_9 (by first | exact hw.1 _ _ rfl | assumption) (by first | exact hw.2 _ _ _ rfl | assumption) dX9_tell_8 ?_
    refine rJ_iload_n X dX9_tell_11 rfl rfl ?_
    refine rJ_iload_n X dX9_tell_12 rfl rfl ?_
    refine rJ_iast X (by first | exact hw.1 _ _ rfl | assumption) (in_lt2 c1 (by decide)) dX9_tell_13 (fun S13 hS13 => ?_)
    exact rJ_vretZ hZ X dX9_tell_14 ⟨rfl, rfl, rfl, by first | rw [if_neg c1] | rw [if_pos c1, hS13], rfl⟩
set_option maxHeartbeats 4000000 in
set_option maxRecDepth 100000 in
theorem cS_delay {l : Launch} {D : va_G} {b : Nat} {A : Nat → Nat} {Sh : mS} {S : mI} {G : mP} (hw : okC Sh G) (x v : Int32) : rMet l D b yX9_delay cX9_delay 3 none (mR 0) A Sh S G [.ref (A 9), .int x, .int v] (rPv A Sh (if 0 ≤ x ∧ x < 8 then mu S 11 x.toNatClampNeg v else S) G) := by
  refine rMet_oz RX9 rfl (by decide) (Nat.le_of_ble_eq_true rfl) ?_
  intro p e s m args below meth c Z hZ X hnm
  refine rJ_iload_n X dX9_delay_0 rfl rfl ?_
  refine rJ_if_lt (tgt := 17) X dX9_delay_1 (by decide) (fun c1 => ?_) (fun c1 => ?_)
  · exact rJ_vretZ hZ X dX9_delay_17 ⟨rfl, rfl, rfl, by clear X hZ; grind, rfl⟩
  · refine rJ_iload_n X dX9_delay_4 rfl rfl ?_
    refine rJ_bipush (v := 8) X dX9_delay_5 (by decide) ?_
    refine rJ_icmp_ge (tgt := 17) X dX9_delay_7 (by decide) (fun c2 => ?_) (fun c2 => ?_)
    · exact rJ_vretZ hZ X dX9_delay_17 ⟨rfl, rfl, rfl, by clear X hZ; grind, rfl⟩
    · refine rJ_aload_n X dX9_delay_10 rfl rfl ?_
      refine rJ_getR X fX9_15 (by first | exact hw.1 _ _ rfl | assumption) (by first | exact hw.2 _ _ _ rfl | assumption) dX9_delay_11 ?_
      refine rJ_iload_n X dX9_delay_14 rfl rfl ?_
      refine rJ_iload_n X dX9_delay_15 rfl rfl ?_
      refine rJ_iast X (by first | exact hw.1 _ _ rfl | assumption) (in_lt c1 (by rw [Int32.not_le] at c2; exact c2) (by decide)) dX9_delay_16 (fun S16 hS16 => ?_)
      exact rJ_vretZ hZ X dX9_delay_17 ⟨rfl, rfl, rfl, by clear X hZ; grind, rfl⟩
theorem fMod8 {j : Nat} (h : j < 64) : fMod (nI j) 8 = nI (j % 8) := by
  have e : nI j - nI j / 8 * 8 = nI (j % 8) := pk_rem (d := 8) (by omega) (by decide) (by decide)
  unfold fMod
  have hx : 0 ≤ nI j ^^^ 8 := by
    have : ∀ i : Fin 64, 0 ≤ nI i.val ^^^ 8 := by decide +kernel
    exact this ⟨j, h⟩
  rw [if_neg (fun q => q.1 hx)]
  exact e
set_option maxHeartbeats 4000000 in
set_option maxRecDepth 100000 in
theorem cS_delayOf {l : Launch} {D : va_G} {b : Nat} {A : Nat → Nat} {Sh : mS} {S : mI} {G : mP} (hw : okC Sh G) {j : Nat} (hj : j < 64) : rMet l D b yX9_delayOf cX9_delayOf 2 (some .int) (mR 1) A Sh S G [.ref (A 9), .int (nI j)] (rPi A Sh (S 11 (j % 8)) S G) := by
  refine rMet_oz RX9 rfl (by decide) (Nat.le_of_ble_eq_true rfl) ?_
  intro p e s m args below meth c Z hZ X hnm
  refine rJ_aload_n X dX9_delayOf_0 rfl rfl ?_
  refine rJ_getR X fX9_15 (by first | exact hw.1 _ _ rfl | assumption) (by first | exact hw.2 _ _ _ rfl | assumption) dX9_delayOf_1 ?_
  refine rJ_iload_n X dX9_delayOf_4 rfl rfl ?_
  refine rJ_bipush (v := 8) X dX9_delayOf_5 (by decide) ?_
  refine rJ_Si2 X gX9_22 (cJ_floorMod _ _ (by decide)) dX9_delayOf_7 (by decide) (Nat.le_of_ble_eq_true rfl) ⟨Nat.le_refl _, Nat.le_refl _⟩ ?_
  rw [fMod8 hj]
  refine rJ_ialdK (k := (j % 8)) X rfl ⟨Nat.mod_lt _ (by decide), by decide⟩ (by first | exact hw.1 _ _ rfl | assumption) dX9_delayOf_10 ?_
  exact rJ_iretZ hZ X dX9_delayOf_11 ⟨rfl, rfl, rfl, rfl, rfl⟩
set_option maxHeartbeats 4000000 in
set_option maxRecDepth 100000 in
theorem cS_fill {l : Launch} {D : va_G} {b : Nat} {A : Nat → Nat} {Sh : mS} {S : mI} {G : mP} (hw : okC Sh G) {r : Nat} (hr : Sh r = some (1, 0, 64)) : rMet l D b yX9_fill cX9_fill 2 none (mR 1) A Sh S G [.ref (A 9), .ref (A r)] (rPv A Sh (mCpy S 10 r 64) G) := by
  refine rMet_oz RX9 rfl (by decide) (Nat.le_of_ble_eq_true rfl) ?_
  intro p e s m args below meth c Z hZ X hnm
  refine rJ_aload_n X dX9_fill_0 rfl rfl ?_
  refine rJ_getR X fX9_9 (by first | exact hw.1 _ _ rfl | assumption) (by first | exact hw.2 _ _ _ rfl | assumption) dX9_fill_1 ?_
  refine rJ_iconst (v := 0) X dX9_fill_4 (by decide) ?_
  refine rJ_aload_n X dX9_fill_5 rfl rfl ?_
  refine rJ_iconst (v := 0) X dX9_fill_6 (by decide) ?_
  refine rJ_bipush (v := 64) X dX9_fill_7 (by decide) ?_
  refine rJ_copy (r0 := 10) (r := r) X kaX9_28 kaN kaS kaI (by first | exact hw.1 _ _ rfl | assumption) (by first | exact hw.1 _ _ rfl | assumption) (by decide) (by decide) (by decide) (by decide) (by decide) (by decide) (Nat.le_of_ble_eq_true rfl) dX9_fill_9 (fun S9 hS9 => ?_)
  rw [mCpy_eq S 10 r 64 rfl] at hS9
  exact rJ_vretZ hZ X dX9_fill_12 ⟨rfl, rfl, rfl, hS9, rfl⟩
set_option maxHeartbeats 4000000 in
set_option maxRecDepth 100000 in
theorem cP_isFull {l : Launch} {D : va_G} {b : Nat} {A : Nat → Nat} {Sh : mS} {S : mI} {G : mP} (hw : okC Sh G) : rMet l D b yX8_isFull cX8_isFull 1 (some .boolean) (mR 0) A Sh S G [.ref (A 6)] (rPi A Sh (if 40 ≤ S 6 2 then 1 else 0) S G) := by
  refine rMet_oz RX8 rfl (by decide) (Nat.le_of_ble_eq_true rfl) ?_
  intro p e s m args below meth c Z hZ X hnm
  refine rJ_aload_n X dX8_isFull_0 rfl rfl ?_
  refine rJ_getI X fX8_24 (by first | exact hw.1 _ _ rfl | assumption) dX8_isFull_1 ?_
  refine rJ_bipush (v := 40) X dX8_isFull_4 (by decide) ?_
  refine rJ_icmp_lt (tgt := 13) X dX8_isFull_6 (by decide) (fun c1 => ?_) (fun c1 => ?_)
  · refine rJ_iconst (v := 0) X dX8_isFull_13 (by decide) ?_
    exact rJ_zretZ hZ X dX8_isFull_14 rfl ⟨by clear X hZ; grind, rfl, rfl, rfl, rfl⟩
  · refine rJ_iconst (v := 1) X dX8_isFull_9 (by decide) ?_
    refine rJ_goto (tgt := 14) X dX8_isFull_10 (by decide) ?_
    exact rJ_zretZ hZ X dX8_isFull_14 rfl ⟨by clear X hZ; grind, rfl, rfl, rfl, rfl⟩
set_option maxHeartbeats 4000000 in
set_option maxRecDepth 100000 in
theorem cP_size {l : Launch} {D : va_G} {b : Nat} {A : Nat → Nat} {Sh : mS} {S : mI} {G : mP} (hw : okC Sh G) : rMet l D b yX8_size cX8_size 1 (some .int) (mR 0) A Sh S G [.ref (A 6)] (rPi A Sh (S 6 2) S G) := by
  refine rMet_oz RX8 rfl (by decide) (Nat.le_of_ble_eq_true rfl) ?_
  intro p e s m args below meth c Z hZ X hnm
  refine rJ_aload_n X dX8_size_0 rfl rfl ?_
  refine rJ_getI X fX8_24 (by first | exact hw.1 _ _ rfl | assumption) dX8_size_1 ?_
  exact rJ_iretZ hZ X dX8_size_4 ⟨rfl, rfl, rfl, rfl, rfl⟩
abbrev cAt (cnt : Nat) (n : Int32) : Nat := if 0 ≤ n ∧ n < nI cnt then 32 + n.toNatClampNeg else 8
theorem in_cnt {n : Int32} {cnt : Nat} (h0 : ¬ n < 0) (h1 : n < nI cnt) (h40 : cnt ≤ 40) : vp_in n 40 ∧ n.toNatClampNeg < cnt := by
  rw [i_lt] at h0 h1
  have e0 : (0 : Int32).toInt = 0 := rfl
  rw [e0] at h0
  rw [i_nI (by omega)] at h1
  have := i_cl (x := n) (by omega)
  exact ⟨in_i (by omega) (by omega), by omega⟩
set_option maxHeartbeats 4000000 in
set_option maxRecDepth 100000 in
theorem cP_at {l : Launch} {D : va_G} {b : Nat} {A : Nat → Nat} {Sh : mS} {S : mI} {G : mP} (hw : okC Sh G) {cnt : Nat} (hc : S 6 2 = nI cnt) (h40 : cnt ≤ 40) (hrows : ∀ j, j < cnt → G 7 j = some (32 + j)) (n : Int32) : rMet l D b yX8_at cX8_at 2 (some (.object "PipeForge$Instruction")) (mR 0) A Sh S G [.ref (A 6), .int n] (rPr A Sh (cAt cnt n) S G) := by
  refine rMet_oz RX8 rfl (by decide) (Nat.le_of_ble_eq_true rfl) ?_
  intro p e s m args below meth c Z hZ X hnm
  have KR : ∀ r : Nat, r = cAt cnt n → rJ p l e (mR 0) s m args below meth c D vwCl mty b 2 Z 0 0 A Sh S G [] 25 [.ref (A r)] := by
    intro r hr
    subst hr
    exact rJ_aretZ hZ X (Or.inl ⟨_, rfl⟩) dX8_at_25 ⟨rfl, rfl, rfl, rfl, rfl⟩
  refine rJ_iload_n X dX8_at_0 rfl rfl ?_
  refine rJ_if_lt (tgt := 12) X dX8_at_1 (by decide) (fun c1 => ?_) (fun c1 => ?_)
  · refine rJ_aload_n X dX8_at_12 rfl rfl ?_
    refine rJ_getR X fX8_20 (by first | exact hw.1 _ _ rfl | assumption) (by first | exact hw.2 _ _ _ rfl | assumption) dX8_at_13 ?_
    refine rJ_goto (tgt := 25) X dX8_at_16 (by decide) ?_
    exact rJ_lv _ rfl (KR _ (by clear X hZ KR; grind))
  · refine rJ_iload_n X dX8_at_4 rfl rfl ?_
    refine rJ_aload_n X dX8_at_5 rfl rfl ?_
    refine rJ_getI X fX8_24 (by first | exact hw.1 _ _ rfl | assumption) dX8_at_6 ?_
    refine rJ_icmp_lt (tgt := 19) X dX8_at_9 (by decide) (fun c2 => ?_) (fun c2 => ?_)
    · rw [hc] at c2
      refine rJ_aload_n X dX8_at_19 rfl rfl ?_
      refine rJ_getR X fX8_11 (by first | exact hw.1 _ _ rfl | assumption) (by first | exact hw.2 _ _ _ rfl | assumption) dX8_at_20 ?_
      refine rJ_iload_n X dX8_at_23 rfl rfl ?_
      refine rJ_aald X (by first | exact hw.1 _ _ rfl | assumption) (in_cnt c1 c2 h40).1 (hrows _ (in_cnt c1 c2 h40).2) dX8_at_24 ?_
      exact rJ_lv _ rfl (KR _ (by clear X hZ KR; grind))
    · rw [hc] at c2
      refine rJ_aload_n X dX8_at_12 rfl rfl ?_
      refine rJ_getR X fX8_20 (by first | exact hw.1 _ _ rfl | assumption) (by first | exact hw.2 _ _ _ rfl | assumption) dX8_at_13 ?_
      refine rJ_goto (tgt := 25) X dX8_at_16 (by decide) ?_
      exact rJ_lv _ rfl (KR _ (by clear X hZ KR; grind))
set_option maxHeartbeats 4000000 in
set_option maxRecDepth 100000 in
theorem cP_add {l : Launch} {D : va_G} {b : Nat} {A : Nat → Nat} {Sh : mS} {S : mI} {G : mP} (hw : okC Sh G) {cnt : Nat} (hc : S 6 2 = nI cnt) (h40 : cnt < 40) {q : Nat} (hq : Sh q = some (0, 2, 0)) : rMet l D b yX8_add cX8_add 2 (some .int) (mR 1) A Sh S G [.ref (A 6), .ref (A q)] (rPi A Sh (nI cnt) (mu S 6 2 (nI (cnt + 1))) (mu G 7 cnt (some q))) := by
  refine rMet_oz RX8 rfl (by decide) (Nat.le_of_ble_eq_true rfl) ?_
  intro p e s m args below meth c Z hZ X hnm
  refine rJ_aload_n X dX8_add_0 rfl rfl ?_
  refine rJ_Vi0 X gX8_28 (cP_isFull hw) (by first | exact hw.1 _ _ rfl | assumption) dX8_add_1 (by decide) (Nat.le_of_ble_eq_true rfl) ⟨Nat.le_refl _, Nat.le_refl _⟩ ?_
  refine rJ_if_eq (tgt := 9) X dX8_add_4 (by decide) (fun c1 => ?_) (fun c1 => ?_)
  · try replace c1 := z_f c1
    refine rJ_aload_n X dX8_add_9 rfl rfl ?_
    refine rJ_getR X fX8_11 (by first | exact hw.1 _ _ rfl | assumption) (by first | exact hw.2 _ _ _ rfl | assumption) dX8_add_10 ?_
    refine rJ_aload_n X dX8_add_13 rfl rfl ?_
    refine rJ_getI X fX8_24 (by first | exact hw.1 _ _ rfl | assumption) dX8_add_14 ?_
    refine rJ_aload_n X dX8_add_17 rfl rfl ?_
    rw [hc]
    refine rJ_aastK (k := cnt) X rfl ⟨by omega, by omega⟩ (by first | exact hw.1 _ _ rfl | assumption) hq dX8_add_18 (fun G18 hG18 => ?_)
    refine rJ_aload_n X dX8_add_19 rfl rfl ?_
    refine rJ_dup X dX8_add_20 rfl ?_
    refine rJ_getI X fX8_24 (by first | exact hw.1 _ _ rfl | assumption) dX8_add_21 ?_
    refine rJ_iconst (v := 1) X dX8_add_24 (by decide) ?_
    refine rJ_iadd X dX8_add_25 ?_
    refine rJ_setI X fX8_24 (Or.inl fwX8_24) (by first | exact hw.1 _ _ rfl | assumption) ⟨rfl, rfl⟩ dX8_add_26 (fun S26 hS26 => ?_)
    refine rJ_aload_n X dX8_add_29 rfl rfl ?_
    refine rJ_getI X fX8_24 (by first | exact hw.1 _ _ rfl | assumption) dX8_add_30 ?_
    refine rJ_iconst (v := 1) X dX8_add_33 (by decide) ?_
    refine rJ_isub X dX8_add_34 ?_
    exact rJ_iretZ hZ X dX8_add_35 ⟨by rw [hS26, mu_eq, hc, nI_1, nI_pred], rfl, rfl, by rw [hS26, hc, nI_1], hG18⟩
  · try replace c1 := z_t c1
    exact absurd c1 (by rw [hc, show (40 : Int32) = nI 40 from rfl, nI_leI (by omega) (by omega)]; omega)
set_option maxHeartbeats 4000000 in
set_option maxRecDepth 100000 in
theorem cH_inRegister {l : Launch} {D : va_G} {b : Nat} {A : Nat → Nat} {Sh : mS} {S : mI} {G : mP} {r r1 r2 : Nat} (hr : Sh r = some (0, 1, 0)) (g1 : G r 0 = some r1) (g2 : G r 1 = some r2) (hr1 : Sh r1 = some (1, 0, 8)) (hr2 : Sh r2 = some (1, 0, 64)) (k : Int32) : rMet l D b yX1_inRegister cX1_inRegister 2 (some .int) (mR 1) A Sh S G [.ref (A r), .int k] (rPi A Sh (if 0 ≤ k ∧ k < 8 then S r1 k.toNatClampNeg else -1) S G) := by
  refine rMet_oz RX1 rfl (by decide) (Nat.le_of_ble_eq_true rfl) ?_
  intro p e s m args below meth c Z hZ X hnm
  refine rJ_iload_n X dX1_inRegister_0 rfl rfl ?_
  refine rJ_Ni1 X gX1_29 (cC_isRegister _) dX1_inRegister_1 (by decide) (Nat.le_of_ble_eq_true rfl) ⟨Nat.le_refl _, Nat.le_refl _⟩ ?_
  refine rJ_if_eq (tgt := 16) X dX1_inRegister_4 (by decide) (fun c1 => ?_) (fun c1 => ?_)
  · try replace c1 := z_f c1
    refine rJ_iconst (v := (-1)) X dX1_inRegister_16 (by decide) ?_
    exact rJ_iretZ hZ X dX1_inRegister_17 ⟨by first | rw [if_pos c1] | rw [if_neg c1], rfl, rfl, rfl, rfl⟩
  · try replace c1 := z_t c1
    refine rJ_aload_n X dX1_inRegister_7 rfl rfl ?_
    refine rJ_getR X fX1_9 (by first | assumption | exact hw.1 _ _ rfl) (by first | assumption | exact hw.2 _ _ _ rfl) dX1_inRegister_8 ?_
    refine rJ_iload_n X dX1_inRegister_11 rfl rfl ?_
    refine rJ_iald X (by first | assumption | exact hw.1 _ _ rfl) (in_lt2 c1 (by decide)) dX1_inRegister_12 ?_
    refine rJ_goto (tgt := 17) X dX1_inRegister_13 (by decide) ?_
    exact rJ_iretZ hZ X dX1_inRegister_17 ⟨by first | rw [if_pos c1] | rw [if_neg c1], rfl, rfl, rfl, rfl⟩
set_option maxHeartbeats 4000000 in
set_option maxRecDepth 100000 in
theorem cH_atPlace {l : Launch} {D : va_G} {b : Nat} {A : Nat → Nat} {Sh : mS} {S : mI} {G : mP} {r r1 r2 : Nat} (hr : Sh r = some (0, 1, 0)) (g1 : G r 0 = some r1) (g2 : G r 1 = some r2) (hr1 : Sh r1 = some (1, 0, 8)) (hr2 : Sh r2 = some (1, 0, 64)) (k : Int32) : rMet l D b yX1_atPlace cX1_atPlace 2 (some .int) (mR 1) A Sh S G [.ref (A r), .int k] (rPi A Sh (if 0 ≤ k ∧ k < 64 then S r2 k.toNatClampNeg else -1) S G) := by
  refine rMet_oz RX1 rfl (by decide) (Nat.le_of_ble_eq_true rfl) ?_
  intro p e s m args below meth c Z hZ X hnm
  refine rJ_iload_n X dX1_atPlace_0 rfl rfl ?_
  refine rJ_Ni1 X gX1_33 (cC_isPlace _) dX1_atPlace_1 (by decide) (Nat.le_of_ble_eq_true rfl) ⟨Nat.le_refl _, Nat.le_refl _⟩ ?_
  refine rJ_if_eq (tgt := 16) X dX1_atPlace_4 (by decide) (fun c1 => ?_) (fun c1 => ?_)
  · try replace c1 := z_f c1
    refine rJ_iconst (v := (-1)) X dX1_atPlace_16 (by decide) ?_
    exact rJ_iretZ hZ X dX1_atPlace_17 ⟨by first | rw [if_pos c1] | rw [if_neg c1], rfl, rfl, rfl, rfl⟩
  · try replace c1 := z_t c1
    refine rJ_aload_n X dX1_atPlace_7 rfl rfl ?_
    refine rJ_getR X fX1_15 (by first | assumption | exact hw.1 _ _ rfl) (by first | assumption | exact hw.2 _ _ _ rfl) dX1_atPlace_8 ?_
    refine rJ_iload_n X dX1_atPlace_11 rfl rfl ?_
    refine rJ_iald X (by first | assumption | exact hw.1 _ _ rfl) (in_lt2 c1 (by decide)) dX1_atPlace_12 ?_
    refine rJ_goto (tgt := 17) X dX1_atPlace_13 (by decide) ?_
    exact rJ_iretZ hZ X dX1_atPlace_17 ⟨by first | rw [if_pos c1] | rw [if_neg c1], rfl, rfl, rfl, rfl⟩
set_option maxHeartbeats 4000000 in
set_option maxRecDepth 100000 in
theorem cH_reset {l : Launch} {D : va_G} {b : Nat} {A : Nat → Nat} {Sh : mS} {S : mI} {G : mP} (hw : okC Sh G) {r r1 r2 : Nat} (hr : Sh r = some (0, 1, 0)) (g1 : G r 0 = some r1) (g2 : G r 1 = some r2) (hr1 : Sh r1 = some (1, 0, 8)) (hr2 : Sh r2 = some (1, 0, 64)) : rMet l D b yX1_reset cX1_reset 2 none (mR 2) A Sh S G [.ref (A r), .ref (A 9)] (rPv A Sh (mCpy (mFl S r1 8 0) 10 r2 64) G) := by
  refine rMet_oz RX1 rfl (by decide) (Nat.le_of_ble_eq_true rfl) ?_
  intro p e s m args below meth c Z hZ X hnm
  refine rJ_aload_n X dX1_reset_0 rfl rfl ?_
  refine rJ_getR X fX1_9 (by first | assumption | exact hw.1 _ _ rfl) (by first | assumption | exact hw.2 _ _ _ rfl) dX1_reset_1 ?_
  refine rJ_iconst (v := 0) X dX1_reset_4 (by decide) ?_
  refine rJ_Sv2 X gX1_18 (cJ_fill hr1 (by decide) _) dX1_reset_5 (by decide) (Nat.le_of_ble_eq_true rfl) ⟨Nat.le_refl _, Nat.le_refl _⟩ ?_
  refine rJ_aload_n X dX1_reset_8 rfl rfl ?_
  refine rJ_aload_n X dX1_reset_9 rfl rfl ?_
  refine rJ_getR X fX1_15 (by first | assumption | exact hw.1 _ _ rfl) (by first | assumption | exact hw.2 _ _ _ rfl) dX1_reset_10 ?_
  refine rJ_Vv1 X gX1_24 (cS_fill hw hr2) (by first | assumption | exact hw.1 _ _ rfl) dX1_reset_13 (by decide) (Nat.le_of_ble_eq_true rfl) ⟨Nat.le_refl _, Nat.le_refl _⟩ ?_
  exact rJ_vretZ hZ X dX1_reset_16 ⟨rfl, rfl, rfl, rfl, rfl⟩
def cTake (S : mI) (r1 r2 : Nat) (kd w v : Int32) : mI := if kd = 6 ∧ (0 ≤ w ∧ w < 64) then mu S r2 w.toNatClampNeg v else if (1 ≤ kd ∧ kd ≤ 5) ∧ (0 ≤ w ∧ w < 8) then mu S r1 w.toNatClampNeg v else S
set_option maxHeartbeats 4000000 in
set_option maxRecDepth 100000 in
theorem cH_take {l : Launch} {D : va_G} {b : Nat} {A : Nat → Nat} {Sh : mS} {S : mI} {G : mP} {r r1 r2 : Nat} (hr : Sh r = some (0, 1, 0)) (g1 : G r 0 = some r1) (g2 : G r 1 = some r2) (hr1 : Sh r1 = some (1, 0, 8)) (hr2 : Sh r2 = some (1, 0, 64)) {q : Nat} (hq : Sh q = some (0, 2, 0)) (w v : Int32) : rMet l D b yX1_take cX1_take 4 none (mR 1) A Sh S G [.ref (A r), .ref (A q), .int w, .int v] (rPv A Sh (cTake S r1 r2 (S q 0) w v) G) := by
  refine rMet_oz RX1 rfl (by decide) (Nat.le_of_ble_eq_true rfl) ?_
  intro p e s m args below meth c Z hZ X hnm
  refine rJ_aload_n X dX1_take_0 rfl rfl ?_
  refine rJ_Vi0 X gX1_36 (cI_commitsRegister hq) hq dX1_take_1 (by decide) (Nat.le_of_ble_eq_true rfl) ⟨Nat.le_refl _, Nat.le_refl _⟩ ?_
  refine rJ_if_eq (tgt := 21) X dX1_take_4 (by decide) (fun c1 => ?_) (fun c1 => ?_)
  · try replace c1 := z_f c1
    refine rJ_aload_n X dX1_take_21 rfl rfl ?_
    refine rJ_Vi0 X gX1_42 (cI_kind hq) hq dX1_take_22 (by decide) (Nat.le_of_ble_eq_true rfl) ⟨Nat.le_refl _, Nat.le_refl _⟩ ?_
    refine rJ_bipush (v := 6) X dX1_take_25 (by decide) ?_
    refine rJ_icmp_ne (tgt := 44) X dX1_take_27 (by decide) (fun c2 => ?_) (fun c2 => ?_)
    · exact rJ_vretZ hZ X dX1_take_44 ⟨rfl, rfl, rfl, by clear X hZ; have hne : q ≠ r1 := (by intro e9; rw [e9, hr1] at hq; simp at hq); (try rw [hS20, mu_na _ _ _ hne] at *); subst_vars; grind [cTake], rfl⟩
    · refine rJ_iload_n X dX1_take_30 rfl rfl ?_
      refine rJ_Ni1 X gX1_33 (cC_isPlace _) dX1_take_31 (by decide) (Nat.le_of_ble_eq_true rfl) ⟨Nat.le_refl _, Nat.le_refl _⟩ ?_
      refine rJ_if_eq (tgt := 44) X dX1_take_34 (by decide) (fun c3 => ?_) (fun c3 => ?_)
      · try replace c3 := z_f c3
        exact rJ_vretZ hZ X dX1_take_44 ⟨rfl, rfl, rfl, by clear X hZ; have hne : q ≠ r1 := (by intro e9; rw [e9, hr1] at hq; simp at hq); (try rw [hS20, mu_na _ _ _ hne] at *); subst_vars; grind [cTake], rfl⟩
      · try replace c3 := z_t c3
        refine rJ_aload_n X dX1_take_37 rfl rfl ?_
        refine rJ_getR X fX1_15 (by first | assumption | exact hw.1 _ _ rfl) (by first | assumption | exact hw.2 _ _ _ rfl) dX1_take_38 ?_
        refine rJ_iload_n X dX1_take_41 rfl rfl ?_
        refine rJ_iload_n X dX1_take_42 rfl rfl ?_
        refine rJ_iast X (by first | assumption | exact hw.1 _ _ rfl) (in_lt2 (hi := 64) (by assumption) (by decide)) dX1_take_43 (fun S43 hS43 => ?_)
        exact rJ_vretZ hZ X dX1_take_44 ⟨rfl, rfl, rfl, by clear X hZ; have hne : q ≠ r1 := (by intro e9; rw [e9, hr1] at hq; simp at hq); (try rw [hS20, mu_na _ _ _ hne] at *); subst_vars; grind [cTake], rfl⟩
  · try replace c1 := z_t c1
    refine rJ_iload_n X dX1_take_7 rfl rfl ?_
    refine rJ_Ni1 X gX1_29 (cC_isRegister _) dX1_take_8 (by decide) (Nat.le_of_ble_eq_true rfl) ⟨Nat.le_refl _, Nat.le_refl _⟩ ?_
    refine rJ_if_eq (tgt := 21) X dX1_take_11 (by decide) (fun c4 => ?_) (fun c4 => ?_)
    · try replace c4 := z_f c4
      refine rJ_aload_n X dX1_take_21 rfl rfl ?_
      refine rJ_Vi0 X gX1_42 (cI_kind hq) hq dX1_take_22 (by decide) (Nat.le_of_ble_eq_true rfl) ⟨Nat.le_refl _, Nat.le_refl _⟩ ?_
      refine rJ_bipush (v := 6) X dX1_take_25 (by decide) ?_
      refine rJ_icmp_ne (tgt := 44) X dX1_take_27 (by decide) (fun c5 => ?_) (fun c5 => ?_)
      · exact rJ_vretZ hZ X dX1_take_44 ⟨rfl, rfl, rfl, by clear X hZ; have hne : q ≠ r1 := (by intro e9; rw [e9, hr1] at hq; simp at hq); (try rw [hS20, mu_na _ _ _ hne] at *); subst_vars; grind [cTake], rfl⟩
      · refine rJ_iload_n X dX1_take_30 rfl rfl ?_
        refine rJ_Ni1 X gX1_33 (cC_isPlace _) dX1_take_31 (by decide) (Nat.le_of_ble_eq_true rfl) ⟨Nat.le_refl _, Nat.le_refl _⟩ ?_
        refine rJ_if_eq (tgt := 44) X dX1_take_34 (by decide) (fun c6 => ?_) (fun c6 => ?_)
        · try replace c6 := z_f c6
          exact rJ_vretZ hZ X dX1_take_44 ⟨rfl, rfl, rfl, by clear X hZ; have hne : q ≠ r1 := (by intro e9; rw [e9, hr1] at hq; simp at hq); (try rw [hS20, mu_na _ _ _ hne] at *); subst_vars; grind [cTake], rfl⟩
        · try replace c6 := z_t c6
          refine rJ_aload_n X dX1_take_37 rfl rfl ?_
          refine rJ_getR X fX1_15 (by first | assumption | exact hw.1 _ _ rfl) (by first | assumption | exact hw.2 _ _ _ rfl) dX1_take_38 ?_
          refine rJ_iload_n X dX1_take_41 rfl rfl ?_
          refine rJ_iload_n X dX1_take_42 rfl rfl ?_
          refine rJ_iast X (by first | assumption | exact hw.1 _ _ rfl) (in_lt2 (hi := 64) (by assumption) (by decide)) dX1_take_43 (fun S43 hS43 => ?_)
          exact rJ_vretZ hZ X dX1_take_44 ⟨rfl, rfl, rfl, by clear X hZ; have hne : q ≠ r1 := (by intro e9; rw [e9, hr1] at hq; simp at hq); (try rw [hS20, mu_na _ _ _ hne] at *); subst_vars; grind [cTake], rfl⟩
    · try replace c4 := z_t c4
      refine rJ_aload_n X dX1_take_14 rfl rfl ?_
      refine rJ_getR X fX1_9 (by first | assumption | exact hw.1 _ _ rfl) (by first | assumption | exact hw.2 _ _ _ rfl) dX1_take_15 ?_
      refine rJ_iload_n X dX1_take_18 rfl rfl ?_
      refine rJ_iload_n X dX1_take_19 rfl rfl ?_
      refine rJ_iast X (by first | assumption | exact hw.1 _ _ rfl) (in_lt2 (hi := 8) (by assumption) (by decide)) dX1_take_20 (fun S20 hS20 => ?_)
      refine rJ_aload_n X dX1_take_21 rfl rfl ?_
      refine rJ_Vi0 X gX1_42 (cI_kind hq) hq dX1_take_22 (by decide) (Nat.le_of_ble_eq_true rfl) ⟨Nat.le_refl _, Nat.le_refl _⟩ ?_
      refine rJ_bipush (v := 6) X dX1_take_25 (by decide) ?_
      refine rJ_icmp_ne (tgt := 44) X dX1_take_27 (by decide) (fun c7 => ?_) (fun c7 => ?_)
      · exact rJ_vretZ hZ X dX1_take_44 ⟨rfl, rfl, rfl, by clear X hZ; have hne : q ≠ r1 := (by intro e9; rw [e9, hr1] at hq; simp at hq); (try rw [hS20, mu_na _ _ _ hne] at *); subst_vars; grind [cTake], rfl⟩
      · refine rJ_iload_n X dX1_take_30 rfl rfl ?_
        refine rJ_Ni1 X gX1_33 (cC_isPlace _) dX1_take_31 (by decide) (Nat.le_of_ble_eq_true rfl) ⟨Nat.le_refl _, Nat.le_refl _⟩ ?_
        refine rJ_if_eq (tgt := 44) X dX1_take_34 (by decide) (fun c8 => ?_) (fun c8 => ?_)
        · try replace c8 := z_f c8
          exact rJ_vretZ hZ X dX1_take_44 ⟨rfl, rfl, rfl, by clear X hZ; have hne : q ≠ r1 := (by intro e9; rw [e9, hr1] at hq; simp at hq); (try rw [hS20, mu_na _ _ _ hne] at *); subst_vars; grind [cTake], rfl⟩
        · try replace c8 := z_t c8
          refine rJ_aload_n X dX1_take_37 rfl rfl ?_
          refine rJ_getR X fX1_15 (by first | assumption | exact hw.1 _ _ rfl) (by first | assumption | exact hw.2 _ _ _ rfl) dX1_take_38 ?_
          refine rJ_iload_n X dX1_take_41 rfl rfl ?_
          refine rJ_iload_n X dX1_take_42 rfl rfl ?_
          refine rJ_iast X (by first | assumption | exact hw.1 _ _ rfl) (in_lt2 (hi := 64) (by assumption) (by decide)) dX1_take_43 (fun S43 hS43 => ?_)
          exact rJ_vretZ hZ X dX1_take_44 ⟨rfl, rfl, rfl, by clear X hZ; have hne : q ≠ r1 := (by intro e9; rw [e9, hr1] at hq; simp at hq); (try rw [hS20, mu_na _ _ _ hne] at *); subst_vars; grind [cTake], rfl⟩
end
