section
-- ===== PART A: goes FIRST, ahead of the names: the tables' words, and 'selects' of the private methods out of them =====
/-- a private method of a class that the tables say can be made, by its rows of tables_1 -/
def lw_okq (q : MethodName × Nat) : Prop := (q.1.cls ≠ "java/lang/invoke/MethodHandle" ∧ q.1.cls ≠ "java/lang/invoke/VarHandle") ∧ Cond.instantiable q.1.cls q.2 ∈ tables_1 ∧ Cond.privateMethod q.1 ∈ tables_1 ∧ Cond.instanceMethod q.1 ∈ tables_1
theorem lw_p0 : lw_okq (⟨"WaveBuoys", "sheetFailure", "(I)I"⟩, 5) := ⟨⟨by decide +kernel, by decide +kernel⟩, List.mem_of_getElem? (i := 13) (by decide +kernel), List.mem_of_getElem? (i := 187) (by decide +kernel), List.mem_of_getElem? (i := 188) (by decide +kernel)⟩
theorem lw_p1 : lw_okq (⟨"WaveBuoys", "sampleFailure", "(II)I"⟩, 5) := ⟨⟨by decide +kernel, by decide +kernel⟩, List.mem_of_getElem? (i := 13) (by decide +kernel), List.mem_of_getElem? (i := 203) (by decide +kernel), List.mem_of_getElem? (i := 204) (by decide +kernel)⟩
theorem lw_p2 : lw_okq (⟨"WaveBuoys$Sheet", "isSpike", "(II)Z"⟩, 6) := ⟨⟨by decide +kernel, by decide +kernel⟩, List.mem_of_getElem? (i := 22) (by decide +kernel), List.mem_of_getElem? (i := 276) (by decide +kernel), List.mem_of_getElem? (i := 277) (by decide +kernel)⟩
theorem lw_p3 : lw_okq (⟨"WaveBuoys$Sheet", "fillBetween", "(II)V"⟩, 6) := ⟨⟨by decide +kernel, by decide +kernel⟩, List.mem_of_getElem? (i := 22) (by decide +kernel), List.mem_of_getElem? (i := 294) (by decide +kernel), List.mem_of_getElem? (i := 295) (by decide +kernel)⟩
theorem lw_p4 : lw_okq (⟨"WaveBuoys$Sheet", "gaps", "()I"⟩, 6) := ⟨⟨by decide +kernel, by decide +kernel⟩, List.mem_of_getElem? (i := 22) (by decide +kernel), List.mem_of_getElem? (i := 306) (by decide +kernel), List.mem_of_getElem? (i := 307) (by decide +kernel)⟩
theorem lw_p5 : lw_okq (⟨"WaveBuoys$Sheet", "longestGap", "()I"⟩, 6) := ⟨⟨by decide +kernel, by decide +kernel⟩, List.mem_of_getElem? (i := 22) (by decide +kernel), List.mem_of_getElem? (i := 310) (by decide +kernel), List.mem_of_getElem? (i := 311) (by decide +kernel)⟩
theorem lw_p6 : lw_okq (⟨"WaveBuoys$Sheet", "samplesThatStand", "(I)I"⟩, 6) := ⟨⟨by decide +kernel, by decide +kernel⟩, List.mem_of_getElem? (i := 22) (by decide +kernel), List.mem_of_getElem? (i := 321) (by decide +kernel), List.mem_of_getElem? (i := 322) (by decide +kernel)⟩
theorem lw_p7 : lw_okq (⟨"WaveBuoys$Row", "isPowerOfTwo", "()Z"⟩, 5) := ⟨⟨by decide +kernel, by decide +kernel⟩, List.mem_of_getElem? (i := 50) (by decide +kernel), List.mem_of_getElem? (i := 364) (by decide +kernel), List.mem_of_getElem? (i := 365) (by decide +kernel)⟩
theorem lw_p8 : lw_okq (⟨"WaveBuoys$Row", "makeLevel", "()V"⟩, 5) := ⟨⟨by decide +kernel, by decide +kernel⟩, List.mem_of_getElem? (i := 50) (by decide +kernel), List.mem_of_getElem? (i := 380) (by decide +kernel), List.mem_of_getElem? (i := 381) (by decide +kernel)⟩
theorem lw_p9 : lw_okq (⟨"WaveBuoys$Row", "sum", "()J"⟩, 5) := ⟨⟨by decide +kernel, by decide +kernel⟩, List.mem_of_getElem? (i := 50) (by decide +kernel), List.mem_of_getElem? (i := 384) (by decide +kernel), List.mem_of_getElem? (i := 385) (by decide +kernel)⟩
theorem lw_p10 : lw_okq (⟨"WaveBuoys$Row", "makeFlat", "()V"⟩, 5) := ⟨⟨by decide +kernel, by decide +kernel⟩, List.mem_of_getElem? (i := 50) (by decide +kernel), List.mem_of_getElem? (i := 388) (by decide +kernel), List.mem_of_getElem? (i := 389) (by decide +kernel)⟩
theorem lw_p11 : lw_okq (⟨"WaveBuoys$Row", "makeTwice", "()V"⟩, 5) := ⟨⟨by decide +kernel, by decide +kernel⟩, List.mem_of_getElem? (i := 50) (by decide +kernel), List.mem_of_getElem? (i := 393) (by decide +kernel), List.mem_of_getElem? (i := 394) (by decide +kernel)⟩
theorem lw_p12 : lw_okq (⟨"WaveBuoys$Row", "makeTones", "()V"⟩, 5) := ⟨⟨by decide +kernel, by decide +kernel⟩, List.mem_of_getElem? (i := 50) (by decide +kernel), List.mem_of_getElem? (i := 397) (by decide +kernel), List.mem_of_getElem? (i := 398) (by decide +kernel)⟩
theorem lw_p13 : lw_okq (⟨"WaveBuoys$Row", "toneMask", "(I)I"⟩, 5) := ⟨⟨by decide +kernel, by decide +kernel⟩, List.mem_of_getElem? (i := 50) (by decide +kernel), List.mem_of_getElem? (i := 401) (by decide +kernel), List.mem_of_getElem? (i := 402) (by decide +kernel)⟩
theorem lw_p14 : lw_okq (⟨"WaveBuoys$Row", "becomeFresh", "()I"⟩, 5) := ⟨⟨by decide +kernel, by decide +kernel⟩, List.mem_of_getElem? (i := 50) (by decide +kernel), List.mem_of_getElem? (i := 411) (by decide +kernel), List.mem_of_getElem? (i := 412) (by decide +kernel)⟩
theorem lw_p15 : lw_okq (⟨"WaveBuoys$Row", "sortIn", "(JI)V"⟩, 5) := ⟨⟨by decide +kernel, by decide +kernel⟩, List.mem_of_getElem? (i := 50) (by decide +kernel), List.mem_of_getElem? (i := 492) (by decide +kernel), List.mem_of_getElem? (i := 493) (by decide +kernel)⟩
def lw_privs_1 : List (MethodName × Nat) := [(⟨"WaveBuoys", "sheetFailure", "(I)I"⟩, 5), (⟨"WaveBuoys", "sampleFailure", "(II)I"⟩, 5), (⟨"WaveBuoys$Sheet", "isSpike", "(II)Z"⟩, 6), (⟨"WaveBuoys$Sheet", "fillBetween", "(II)V"⟩, 6), (⟨"WaveBuoys$Sheet", "gaps", "()I"⟩, 6), (⟨"WaveBuoys$Sheet", "longestGap", "()I"⟩, 6), (⟨"WaveBuoys$Sheet", "samplesThatStand", "(I)I"⟩, 6), (⟨"WaveBuoys$Row", "isPowerOfTwo", "()Z"⟩, 5), (⟨"WaveBuoys$Row", "makeLevel", "()V"⟩, 5), (⟨"WaveBuoys$Row", "sum", "()J"⟩, 5), (⟨"WaveBuoys$Row", "makeFlat", "()V"⟩, 5), (⟨"WaveBuoys$Row", "makeTwice", "()V"⟩, 5), (⟨"WaveBuoys$Row", "makeTones", "()V"⟩, 5), (⟨"WaveBuoys$Row", "toneMask", "(I)I"⟩, 5), (⟨"WaveBuoys$Row", "becomeFresh", "()I"⟩, 5), (⟨"WaveBuoys$Row", "sortIn", "(JI)V"⟩, 5)]
theorem lw_r1 : ∀ q ∈ lw_privs_1, lw_okq q := List.forall_mem_cons.mpr ⟨lw_p0, List.forall_mem_cons.mpr ⟨lw_p1, List.forall_mem_cons.mpr ⟨lw_p2, List.forall_mem_cons.mpr ⟨lw_p3, List.forall_mem_cons.mpr ⟨lw_p4, List.forall_mem_cons.mpr ⟨lw_p5, List.forall_mem_cons.mpr ⟨lw_p6, List.forall_mem_cons.mpr ⟨lw_p7, List.forall_mem_cons.mpr ⟨lw_p8, List.forall_mem_cons.mpr ⟨lw_p9, List.forall_mem_cons.mpr ⟨lw_p10, List.forall_mem_cons.mpr ⟨lw_p11, List.forall_mem_cons.mpr ⟨lw_p12, List.forall_mem_cons.mpr ⟨lw_p13, List.forall_mem_cons.mpr ⟨lw_p14, List.forall_mem_cons.mpr ⟨lw_p15, fun _ h => absurd h List.not_mem_nil⟩⟩⟩⟩⟩⟩⟩⟩⟩⟩⟩⟩⟩⟩⟩⟩
theorem lw_p16 : lw_okq (⟨"WaveBuoys$Packs", "samplePacks", "()I"⟩, 2) := ⟨⟨by decide +kernel, by decide +kernel⟩, List.mem_of_getElem? (i := 73) (by decide +kernel), List.mem_of_getElem? (i := 536) (by decide +kernel), List.mem_of_getElem? (i := 537) (by decide +kernel)⟩
theorem lw_p17 : lw_okq (⟨"WaveBuoys$Packs", "comes", "(I)Z"⟩, 2) := ⟨⟨by decide +kernel, by decide +kernel⟩, List.mem_of_getElem? (i := 73) (by decide +kernel), List.mem_of_getElem? (i := 561) (by decide +kernel), List.mem_of_getElem? (i := 562) (by decide +kernel)⟩
theorem lw_p18 : lw_okq (⟨"WaveBuoys$Packs", "lostBeside", "(I)I"⟩, 2) := ⟨⟨by decide +kernel, by decide +kernel⟩, List.mem_of_getElem? (i := 73) (by decide +kernel), List.mem_of_getElem? (i := 565) (by decide +kernel), List.mem_of_getElem? (i := 566) (by decide +kernel)⟩
theorem lw_p19 : lw_okq (⟨"WaveBuoys$Mooring", "isOut", "(JJ)Z"⟩, 10) := ⟨⟨by decide +kernel, by decide +kernel⟩, List.mem_of_getElem? (i := 116) (by decide +kernel), List.mem_of_getElem? (i := 615) (by decide +kernel), List.mem_of_getElem? (i := 616) (by decide +kernel)⟩
theorem lw_p20 : lw_okq (⟨"WaveBuoys", "sheetsThere", "()I"⟩, 5) := ⟨⟨by decide +kernel, by decide +kernel⟩, List.mem_of_getElem? (i := 13) (by decide +kernel), List.mem_of_getElem? (i := 627) (by decide +kernel), List.mem_of_getElem? (i := 628) (by decide +kernel)⟩
theorem lw_p21 : lw_okq (⟨"WaveBuoysModel", "noSheet", "(I)I"⟩, 32) := ⟨⟨by decide +kernel, by decide +kernel⟩, List.mem_of_getElem? (i := 677) (by decide +kernel), List.mem_of_getElem? (i := 793) (by decide +kernel), List.mem_of_getElem? (i := 794) (by decide +kernel)⟩
theorem lw_p22 : lw_okq (⟨"WaveBuoysModel", "gaps", "(IZ)I"⟩, 32) := ⟨⟨by decide +kernel, by decide +kernel⟩, List.mem_of_getElem? (i := 677) (by decide +kernel), List.mem_of_getElem? (i := 841) (by decide +kernel), List.mem_of_getElem? (i := 842) (by decide +kernel)⟩
theorem lw_p23 : lw_okq (⟨"WaveBuoysModel", "those", "(II)I"⟩, 32) := ⟨⟨by decide +kernel, by decide +kernel⟩, List.mem_of_getElem? (i := 677) (by decide +kernel), List.mem_of_getElem? (i := 845) (by decide +kernel), List.mem_of_getElem? (i := 846) (by decide +kernel)⟩
theorem lw_p24 : lw_okq (⟨"WaveBuoysModel", "waveMany", "(I)I"⟩, 32) := ⟨⟨by decide +kernel, by decide +kernel⟩, List.mem_of_getElem? (i := 677) (by decide +kernel), List.mem_of_getElem? (i := 906) (by decide +kernel), List.mem_of_getElem? (i := 907) (by decide +kernel)⟩
theorem lw_p25 : lw_okq (⟨"WaveBuoysModel", "findTurns", "(I)V"⟩, 32) := ⟨⟨by decide +kernel, by decide +kernel⟩, List.mem_of_getElem? (i := 677) (by decide +kernel), List.mem_of_getElem? (i := 910) (by decide +kernel), List.mem_of_getElem? (i := 911) (by decide +kernel)⟩
theorem lw_p26 : lw_okq (⟨"WaveBuoysModel", "end", "(IIZ)J"⟩, 32) := ⟨⟨by decide +kernel, by decide +kernel⟩, List.mem_of_getElem? (i := 677) (by decide +kernel), List.mem_of_getElem? (i := 919) (by decide +kernel), List.mem_of_getElem? (i := 920) (by decide +kernel)⟩
theorem lw_p27 : lw_okq (⟨"WaveBuoysModel", "height", "(II)J"⟩, 32) := ⟨⟨by decide +kernel, by decide +kernel⟩, List.mem_of_getElem? (i := 677) (by decide +kernel), List.mem_of_getElem? (i := 923) (by decide +kernel), List.mem_of_getElem? (i := 924) (by decide +kernel)⟩
theorem lw_p28 : lw_okq (⟨"WaveBuoysModel", "isNear", "(I)Z"⟩, 32) := ⟨⟨by decide +kernel, by decide +kernel⟩, List.mem_of_getElem? (i := 677) (by decide +kernel), List.mem_of_getElem? (i := 943) (by decide +kernel), List.mem_of_getElem? (i := 944) (by decide +kernel)⟩
theorem lw_p29 : lw_okq (⟨"WaveBuoysModel", "comes", "(I)Z"⟩, 32) := ⟨⟨by decide +kernel, by decide +kernel⟩, List.mem_of_getElem? (i := 677) (by decide +kernel), List.mem_of_getElem? (i := 961) (by decide +kernel), List.mem_of_getElem? (i := 962) (by decide +kernel)⟩
def lw_privs_2 : List (MethodName × Nat) := [(⟨"WaveBuoys$Packs", "samplePacks", "()I"⟩, 2), (⟨"WaveBuoys$Packs", "comes", "(I)Z"⟩, 2), (⟨"WaveBuoys$Packs", "lostBeside", "(I)I"⟩, 2), (⟨"WaveBuoys$Mooring", "isOut", "(JJ)Z"⟩, 10), (⟨"WaveBuoys", "sheetsThere", "()I"⟩, 5), (⟨"WaveBuoysModel", "noSheet", "(I)I"⟩, 32), (⟨"WaveBuoysModel", "gaps", "(IZ)I"⟩, 32), (⟨"WaveBuoysModel", "those", "(II)I"⟩, 32), (⟨"WaveBuoysModel", "waveMany", "(I)I"⟩, 32), (⟨"WaveBuoysModel", "findTurns", "(I)V"⟩, 32), (⟨"WaveBuoysModel", "end", "(IIZ)J"⟩, 32), (⟨"WaveBuoysModel", "height", "(II)J"⟩, 32), (⟨"WaveBuoysModel", "isNear", "(I)Z"⟩, 32), (⟨"WaveBuoysModel", "comes", "(I)Z"⟩, 32)]
theorem lw_r2 : ∀ q ∈ lw_privs_2, lw_okq q := List.forall_mem_cons.mpr ⟨lw_p16, List.forall_mem_cons.mpr ⟨lw_p17, List.forall_mem_cons.mpr ⟨lw_p18, List.forall_mem_cons.mpr ⟨lw_p19, List.forall_mem_cons.mpr ⟨lw_p20, List.forall_mem_cons.mpr ⟨lw_p21, List.forall_mem_cons.mpr ⟨lw_p22, List.forall_mem_cons.mpr ⟨lw_p23, List.forall_mem_cons.mpr ⟨lw_p24, List.forall_mem_cons.mpr ⟨lw_p25, List.forall_mem_cons.mpr ⟨lw_p26, List.forall_mem_cons.mpr ⟨lw_p27, List.forall_mem_cons.mpr ⟨lw_p28, List.forall_mem_cons.mpr ⟨lw_p29, fun _ h => absurd h List.not_mem_nil⟩⟩⟩⟩⟩⟩⟩⟩⟩⟩⟩⟩⟩⟩
def lw_privs : List (MethodName × Nat) := lw_privs_1 ++ (lw_privs_2)
def lw_tbl : List Cond := k2_sels lw_privs ++ tables_1
theorem lw_privs_ok : ∀ q ∈ lw_privs, lw_okq q := by
  show ∀ q ∈ lw_privs_1 ++ (lw_privs_2), lw_okq q
  exact List.forall_mem_append.mpr ⟨lw_r1, lw_r2⟩
end
section
def RX0 : String := "WaveBuoys$Mooring"
def TX0 : u_T := fun k => match k with
  | 0 => ("WaveBuoys$Mooring", "anchorX", "J", false)
  | 1 => ("WaveBuoys$Mooring", "anchorY", "J", false)
  | 2 => ("WaveBuoys$Mooring", "reach", "J", false)
  | 3 => ("WaveBuoys$Mooring", "patience", "I", false)
  | 4 => ("WaveBuoys$Mooring", "places", "I", false)
  | 5 => ("WaveBuoys$Mooring", "outOnEnd", "I", false)
  | 6 => ("WaveBuoys$Mooring", "leastX", "I", false)
  | 7 => ("WaveBuoys$Mooring", "greatestX", "I", false)
  | 8 => ("WaveBuoys$Mooring", "leastY", "I", false)
  | _ => ("WaveBuoys$Mooring", "greatestY", "I", false)
def tyX0 : Nat → FieldType := fun k => match k with
  | 0 => .long
  | 1 => .long
  | 2 => .long
  | 3 => .int
  | 4 => .int
  | 5 => .int
  | 6 => .int
  | 7 => .int
  | 8 => .int
  | _ => .int
abbrev wsX00 : List Cond := u_ws RX0 TX0 10
theorem nmX0 : ∀ a, a < 10 → ∀ b, b < 10 → a ≠ b → (TX0 a).2.1 ≠ (TX0 b).2.1 := by decide +kernel
theorem tyX0_ok : ∀ k, k < 10 → parseFieldDescriptor (TX0 k).2.2.1 = some (tyX0 k) := by decide +kernel
abbrev cX0_init : ByteArray := prog_2_method_1_code
def yX0_init : MethodName := ⟨RX0, "<init>", "()V"⟩
abbrev cX0_begin : ByteArray := prog_2_method_2_code
def yX0_begin : MethodName := ⟨RX0, "begin", "(IIII)V"⟩
abbrev cX0_take : ByteArray := prog_2_method_3_code
def yX0_take : MethodName := ⟨RX0, "take", "(II)V"⟩
abbrev cX0_isOut : ByteArray := prog_2_method_4_code
def yX0_isOut : MethodName := ⟨RX0, "isOut", "(JJ)Z"⟩
abbrev cX0_state : ByteArray := prog_2_method_5_code
def yX0_state : MethodName := ⟨RX0, "state", "()I"⟩
abbrev cX0_places : ByteArray := prog_2_method_6_code
def yX0_places : MethodName := ⟨RX0, "places", "()I"⟩
abbrev cX0_outOnEnd : ByteArray := prog_2_method_7_code
def yX0_outOnEnd : MethodName := ⟨RX0, "outOnEnd", "()I"⟩
abbrev cX0_width : ByteArray := prog_2_method_8_code
def yX0_width : MethodName := ⟨RX0, "width", "()I"⟩
abbrev cX0_depth : ByteArray := prog_2_method_9_code
def yX0_depth : MethodName := ⟨RX0, "depth", "()I"⟩
def RX1 : String := "WaveBuoys$Packs"
def TX1 : u_T := fun k => match k with
  | 0 => ("WaveBuoys$Packs", "sent", "LWaveBuoys$Sheet;", true)
  | _ => ("WaveBuoys$Packs", "lost", "[Z", true)
def tyX1 : Nat → FieldType := fun k => match k with
  | 0 => .object "WaveBuoys$Sheet"
  | _ => .array .boolean
abbrev wsX10 : List Cond := u_ws RX1 TX1 2
theorem nmX1 : ∀ a, a < 2 → ∀ b, b < 2 → a ≠ b → (TX1 a).2.1 ≠ (TX1 b).2.1 := by decide +kernel
theorem tyX1_ok : ∀ k, k < 2 → parseFieldDescriptor (TX1 k).2.2.1 = some (tyX1 k) := by decide +kernel
abbrev cX1_init : ByteArray := prog_3_method_1_code
def yX1_init : MethodName := ⟨RX1, "<init>", "()V"⟩
abbrev cX1_load : ByteArray := prog_3_method_2_code
def yX1_load : MethodName := ⟨RX1, "load", "(LWaveBuoys$Sheet;)V"⟩
abbrev cX1_wereSent : ByteArray := prog_3_method_3_code
def yX1_wereSent : MethodName := ⟨RX1, "wereSent", "()Z"⟩
abbrev cX1_samplePacks : ByteArray := prog_3_method_4_code
def yX1_samplePacks : MethodName := ⟨RX1, "samplePacks", "()I"⟩
abbrev cX1_size : ByteArray := prog_3_method_5_code
def yX1_size : MethodName := ⟨RX1, "size", "()I"⟩
abbrev cX1_forget : ByteArray := prog_3_method_6_code
def yX1_forget : MethodName := ⟨RX1, "forget", "(I)Z"⟩
abbrev cX1_lostPacks : ByteArray := prog_3_method_7_code
def yX1_lostPacks : MethodName := ⟨RX1, "lostPacks", "()I"⟩
abbrev cX1_unload : ByteArray := prog_3_method_8_code
def yX1_unload : MethodName := ⟨RX1, "unload", "(LWaveBuoys$Sheet;)V"⟩
abbrev cX1_comes : ByteArray := prog_3_method_9_code
def yX1_comes : MethodName := ⟨RX1, "comes", "(I)Z"⟩
abbrev cX1_lostBeside : ByteArray := prog_3_method_10_code
def yX1_lostBeside : MethodName := ⟨RX1, "lostBeside", "(I)I"⟩
def RX2 : String := "WaveBuoys$Row"
def TX2 : u_T := fun k => match k with
  | 0 => ("WaveBuoys$Row", "size", "I", false)
  | 1 => ("WaveBuoys$Row", "values", "[J", true)
  | 2 => ("WaveBuoys$Row", "fresh", "[J", true)
  | 3 => ("WaveBuoys$Row", "ups", "[I", true)
  | _ => ("WaveBuoys$Row", "heights", "[J", true)
def tyX2 : Nat → FieldType := fun k => match k with
  | 0 => .int
  | 1 => .array .long
  | 2 => .array .long
  | 3 => .array .int
  | _ => .array .long
abbrev wsX20 : List Cond := u_ws RX2 TX2 5
theorem nmX2 : ∀ a, a < 5 → ∀ b, b < 5 → a ≠ b → (TX2 a).2.1 ≠ (TX2 b).2.1 := by decide +kernel
theorem tyX2_ok : ∀ k, k < 5 → parseFieldDescriptor (TX2 k).2.2.1 = some (tyX2 k) := by decide +kernel
abbrev cX2_init : ByteArray := prog_4_method_1_code
def yX2_init : MethodName := ⟨RX2, "<init>", "()V"⟩
abbrev cX2_size : ByteArray := prog_4_method_2_code
def yX2_size : MethodName := ⟨RX2, "size", "()I"⟩
abbrev cX2_valueAt : ByteArray := prog_4_method_3_code
def yX2_valueAt : MethodName := ⟨RX2, "valueAt", "(I)J"⟩
abbrev cX2_take : ByteArray := prog_4_method_4_code
def yX2_take : MethodName := ⟨RX2, "take", "(LWaveBuoys$Sheet;)V"⟩
abbrev cX2_change : ByteArray := prog_4_method_5_code
def yX2_change : MethodName := ⟨RX2, "change", "(I)I"⟩
abbrev cX2_isPowerOfTwo : ByteArray := prog_4_method_6_code
def yX2_isPowerOfTwo : MethodName := ⟨RX2, "isPowerOfTwo", "()Z"⟩
abbrev cX2_makeLevel : ByteArray := prog_4_method_7_code
def yX2_makeLevel : MethodName := ⟨RX2, "makeLevel", "()V"⟩
abbrev cX2_makeFlat : ByteArray := prog_4_method_8_code
def yX2_makeFlat : MethodName := ⟨RX2, "makeFlat", "()V"⟩
abbrev cX2_makeTwice : ByteArray := prog_4_method_9_code
def yX2_makeTwice : MethodName := ⟨RX2, "makeTwice", "()V"⟩
abbrev cX2_makeTones : ByteArray := prog_4_method_10_code
def yX2_makeTones : MethodName := ⟨RX2, "makeTones", "()V"⟩
abbrev cX2_toneMask : ByteArray := prog_4_method_11_code
def yX2_toneMask : MethodName := ⟨RX2, "toneMask", "(I)I"⟩
abbrev cX2_sum : ByteArray := prog_4_method_12_code
def yX2_sum : MethodName := ⟨RX2, "sum", "()J"⟩
abbrev cX2_becomeFresh : ByteArray := prog_4_method_13_code
def yX2_becomeFresh : MethodName := ⟨RX2, "becomeFresh", "()I"⟩
abbrev cX2_keepOnly : ByteArray := prog_4_method_14_code
def yX2_keepOnly : MethodName := ⟨RX2, "keepOnly", "(II)I"⟩
abbrev cX2_blend : ByteArray := prog_4_method_15_code
def yX2_blend : MethodName := ⟨RX2, "blend", "(ILWaveBuoys$Row;I)I"⟩
abbrev cX2_anyExceeds : ByteArray := prog_4_method_16_code
def yX2_anyExceeds : MethodName := ⟨RX2, "anyExceeds", "(J)Z"⟩
abbrev cX2_exceeds : ByteArray := prog_4_method_17_code
def yX2_exceeds : MethodName := ⟨RX2, "exceeds", "(JII)Z"⟩
abbrev cX2_squares : ByteArray := prog_4_method_18_code
def yX2_squares : MethodName := ⟨RX2, "squares", "(II)J"⟩
abbrev cX2_products : ByteArray := prog_4_method_19_code
def yX2_products : MethodName := ⟨RX2, "products", "(LWaveBuoys$Row;)J"⟩
abbrev cX2_findWaves : ByteArray := prog_4_method_20_code
def yX2_findWaves : MethodName := ⟨RX2, "findWaves", "()I"⟩
abbrev cX2_waveFact : ByteArray := prog_4_method_21_code
def yX2_waveFact : MethodName := ⟨RX2, "waveFact", "(II)J"⟩
abbrev cX2_highestTogether : ByteArray := prog_4_method_22_code
def yX2_highestTogether : MethodName := ⟨RX2, "highestTogether", "(II)J"⟩
abbrev cX2_sortIn : ByteArray := prog_4_method_23_code
def yX2_sortIn : MethodName := ⟨RX2, "sortIn", "(JI)V"⟩
abbrev cX2_wavesInRows : ByteArray := prog_4_method_24_code
def yX2_wavesInRows : MethodName := ⟨RX2, "wavesInRows", "(J)I"⟩
abbrev cX2_longestRowOfWaves : ByteArray := prog_4_method_25_code
def yX2_longestRowOfWaves : MethodName := ⟨RX2, "longestRowOfWaves", "(J)I"⟩
abbrev cX2_digestOn : ByteArray := prog_4_method_26_code
def yX2_digestOn : MethodName := ⟨RX2, "digestOn", "(J)J"⟩
def RX3 : String := "WaveBuoys$Sheet"
def TX3 : u_T := fun k => match k with
  | 0 => ("WaveBuoys$Sheet", "there", "Z", false)
  | 1 => ("WaveBuoys$Sheet", "sort", "I", false)
  | 2 => ("WaveBuoys$Sheet", "size", "I", false)
  | 3 => ("WaveBuoys$Sheet", "values", "[I", true)
  | 4 => ("WaveBuoys$Sheet", "states", "[I", true)
  | _ => ("WaveBuoys$Sheet", "spiky", "[Z", true)
def tyX3 : Nat → FieldType := fun k => match k with
  | 0 => .boolean
  | 1 => .int
  | 2 => .int
  | 3 => .array .int
  | 4 => .array .int
  | _ => .array .boolean
abbrev wsX30 : List Cond := u_ws RX3 TX3 6
theorem nmX3 : ∀ a, a < 6 → ∀ b, b < 6 → a ≠ b → (TX3 a).2.1 ≠ (TX3 b).2.1 := by decide +kernel
theorem tyX3_ok : ∀ k, k < 6 → parseFieldDescriptor (TX3 k).2.2.1 = some (tyX3 k) := by decide +kernel
abbrev cX3_init : ByteArray := prog_5_method_1_code
def yX3_init : MethodName := ⟨RX3, "<init>", "()V"⟩
abbrev cX3_begin : ByteArray := prog_5_method_2_code
def yX3_begin : MethodName := ⟨RX3, "begin", "(II)V"⟩
abbrev cX3_end : ByteArray := prog_5_method_3_code
def yX3_end : MethodName := ⟨RX3, "end", "()I"⟩
abbrev cX3_isThere : ByteArray := prog_5_method_4_code
def yX3_isThere : MethodName := ⟨RX3, "isThere", "()Z"⟩
abbrev cX3_sort : ByteArray := prog_5_method_5_code
def yX3_sort : MethodName := ⟨RX3, "sort", "()I"⟩
abbrev cX3_size : ByteArray := prog_5_method_6_code
def yX3_size : MethodName := ⟨RX3, "size", "()I"⟩
abbrev cX3_has : ByteArray := prog_5_method_7_code
def yX3_has : MethodName := ⟨RX3, "has", "(I)Z"⟩
abbrev cX3_hasStretch : ByteArray := prog_5_method_8_code
def yX3_hasStretch : MethodName := ⟨RX3, "hasStretch", "(II)Z"⟩
abbrev cX3_fits : ByteArray := prog_5_method_9_code
def yX3_fits : MethodName := ⟨RX3, "fits", "(I)Z"⟩
abbrev cX3_tell : ByteArray := prog_5_method_10_code
def yX3_tell : MethodName := ⟨RX3, "tell", "(II)V"⟩
abbrev cX3_forget : ByteArray := prog_5_method_11_code
def yX3_forget : MethodName := ⟨RX3, "forget", "(I)V"⟩
abbrev cX3_isLost : ByteArray := prog_5_method_12_code
def yX3_isLost : MethodName := ⟨RX3, "isLost", "(I)Z"⟩
abbrev cX3_stateAt : ByteArray := prog_5_method_13_code
def yX3_stateAt : MethodName := ⟨RX3, "stateAt", "(I)I"⟩
abbrev cX3_valueAt : ByteArray := prog_5_method_14_code
def yX3_valueAt : MethodName := ⟨RX3, "valueAt", "(I)I"⟩
abbrev cX3_take : ByteArray := prog_5_method_15_code
def yX3_take : MethodName := ⟨RX3, "take", "(LWaveBuoys$Sheet;III)V"⟩
abbrev cX3_loseSpikes : ByteArray := prog_5_method_16_code
def yX3_loseSpikes : MethodName := ⟨RX3, "loseSpikes", "(I)I"⟩
abbrev cX3_isSpike : ByteArray := prog_5_method_17_code
def yX3_isSpike : MethodName := ⟨RX3, "isSpike", "(II)Z"⟩
abbrev cX3_fillGaps : ByteArray := prog_5_method_18_code
def yX3_fillGaps : MethodName := ⟨RX3, "fillGaps", "(I)I"⟩
abbrev cX3_fillBetween : ByteArray := prog_5_method_19_code
def yX3_fillBetween : MethodName := ⟨RX3, "fillBetween", "(II)V"⟩
abbrev cX3_fact : ByteArray := prog_5_method_20_code
def yX3_fact : MethodName := ⟨RX3, "fact", "(I)I"⟩
abbrev cX3_gaps : ByteArray := prog_5_method_21_code
def yX3_gaps : MethodName := ⟨RX3, "gaps", "()I"⟩
abbrev cX3_longestGap : ByteArray := prog_5_method_22_code
def yX3_longestGap : MethodName := ⟨RX3, "longestGap", "()I"⟩
abbrev cX3_lostSamples : ByteArray := prog_5_method_23_code
def yX3_lostSamples : MethodName := ⟨RX3, "lostSamples", "()I"⟩
abbrev cX3_samplesThatStand : ByteArray := prog_5_method_24_code
def yX3_samplesThatStand : MethodName := ⟨RX3, "samplesThatStand", "(I)I"⟩
abbrev cX3_digestOn : ByteArray := prog_5_method_25_code
def yX3_digestOn : MethodName := ⟨RX3, "digestOn", "(J)J"⟩
def RX4 : String := "WaveBuoys$Warning"
def TX4 : u_T := fun k => match k with
  | 0 => ("WaveBuoys$Warning", "on", "I", false)
  | 1 => ("WaveBuoys$Warning", "off", "I", false)
  | 2 => ("WaveBuoys$Warning", "hold", "I", false)
  | 3 => ("WaveBuoys$Warning", "state", "I", false)
  | 4 => ("WaveBuoys$Warning", "heard", "I", false)
  | 5 => ("WaveBuoys$Warning", "changes", "I", false)
  | _ => ("WaveBuoys$Warning", "changedAt", "I", false)
def tyX4 : Nat → FieldType := fun k => match k with
  | 0 => .int
  | 1 => .int
  | 2 => .int
  | 3 => .int
  | 4 => .int
  | 5 => .int
  | _ => .int
abbrev wsX40 : List Cond := u_ws RX4 TX4 7
theorem nmX4 : ∀ a, a < 7 → ∀ b, b < 7 → a ≠ b → (TX4 a).2.1 ≠ (TX4 b).2.1 := by decide +kernel
theorem tyX4_ok : ∀ k, k < 7 → parseFieldDescriptor (TX4 k).2.2.1 = some (tyX4 k) := by decide +kernel
abbrev cX4_init : ByteArray := prog_6_method_1_code
def yX4_init : MethodName := ⟨RX4, "<init>", "()V"⟩
abbrev cX4_begin : ByteArray := prog_6_method_2_code
def yX4_begin : MethodName := ⟨RX4, "begin", "(III)V"⟩
abbrev cX4_take : ByteArray := prog_6_method_3_code
def yX4_take : MethodName := ⟨RX4, "take", "(I)V"⟩
abbrev cX4_state : ByteArray := prog_6_method_4_code
def yX4_state : MethodName := ⟨RX4, "state", "()I"⟩
abbrev cX4_heard : ByteArray := prog_6_method_5_code
def yX4_heard : MethodName := ⟨RX4, "heard", "()I"⟩
abbrev cX4_changes : ByteArray := prog_6_method_6_code
def yX4_changes : MethodName := ⟨RX4, "changes", "()I"⟩
def RX5 : String := "WaveBuoys"
def TX5 : u_T := fun k => match k with
  | 0 => ("WaveBuoys", "sheets", "[LWaveBuoys$Sheet;", true)
  | 1 => ("WaveBuoys", "rows", "[LWaveBuoys$Row;", true)
  | 2 => ("WaveBuoys", "packs", "LWaveBuoys$Packs;", true)
  | 3 => ("WaveBuoys", "warning", "LWaveBuoys$Warning;", true)
  | _ => ("WaveBuoys", "mooring", "LWaveBuoys$Mooring;", true)
def tyX5 : Nat → FieldType := fun k => match k with
  | 0 => .array (.object "WaveBuoys$Sheet")
  | 1 => .array (.object "WaveBuoys$Row")
  | 2 => .object "WaveBuoys$Packs"
  | 3 => .object "WaveBuoys$Warning"
  | _ => .object "WaveBuoys$Mooring"
abbrev wsX50 : List Cond := u_ws RX5 TX5 5
theorem nmX5 : ∀ a, a < 5 → ∀ b, b < 5 → a ≠ b → (TX5 a).2.1 ≠ (TX5 b).2.1 := by decide +kernel
theorem tyX5_ok : ∀ k, k < 5 → parseFieldDescriptor (TX5 k).2.2.1 = some (tyX5 k) := by decide +kernel
abbrev cX5_init : ByteArray := prog_1_method_1_code
def yX5_init : MethodName := ⟨RX5, "<init>", "()V"⟩
abbrev cX5_sheet : ByteArray := prog_1_method_2_code
def yX5_sheet : MethodName := ⟨RX5, "sheet", "(III)I"⟩
abbrev cX5_drop : ByteArray := prog_1_method_3_code
def yX5_drop : MethodName := ⟨RX5, "drop", "(I)I"⟩
abbrev cX5_put : ByteArray := prog_1_method_4_code
def yX5_put : MethodName := ⟨RX5, "put", "(III)I"⟩
abbrev cX5_get : ByteArray := prog_1_method_5_code
def yX5_get : MethodName := ⟨RX5, "get", "(II)J"⟩
abbrev cX5_lose : ByteArray := prog_1_method_6_code
def yX5_lose : MethodName := ⟨RX5, "lose", "(II)I"⟩
abbrev cX5_stands : ByteArray := prog_1_method_7_code
def yX5_stands : MethodName := ⟨RX5, "stands", "(II)I"⟩
abbrev cX5_copy : ByteArray := prog_1_method_8_code
def yX5_copy : MethodName := ⟨RX5, "copy", "(IIIII)I"⟩
abbrev cX5_spikes : ByteArray := prog_1_method_9_code
def yX5_spikes : MethodName := ⟨RX5, "spikes", "(II)I"⟩
abbrev cX5_fill : ByteArray := prog_1_method_10_code
def yX5_fill : MethodName := ⟨RX5, "fill", "(II)I"⟩
abbrev cX5_about : ByteArray := prog_1_method_11_code
def yX5_about : MethodName := ⟨RX5, "about", "(II)I"⟩
abbrev cX5_raise : ByteArray := prog_1_method_12_code
def yX5_raise : MethodName := ⟨RX5, "raise", "(II)I"⟩
abbrev cX5_number : ByteArray := prog_1_method_13_code
def yX5_number : MethodName := ⟨RX5, "number", "(II)J"⟩
abbrev cX5_turn : ByteArray := prog_1_method_14_code
def yX5_turn : MethodName := ⟨RX5, "turn", "(II)I"⟩
abbrev cX5_part : ByteArray := prog_1_method_15_code
def yX5_part : MethodName := ⟨RX5, "part", "(III)I"⟩
abbrev cX5_mix : ByteArray := prog_1_method_16_code
def yX5_mix : MethodName := ⟨RX5, "mix", "(IIII)I"⟩
abbrev cX5_force : ByteArray := prog_1_method_17_code
def yX5_force : MethodName := ⟨RX5, "force", "(III)J"⟩
abbrev cX5_cross : ByteArray := prog_1_method_18_code
def yX5_cross : MethodName := ⟨RX5, "cross", "(II)J"⟩
abbrev cX5_waves : ByteArray := prog_1_method_19_code
def yX5_waves : MethodName := ⟨RX5, "waves", "(I)I"⟩
abbrev cX5_wave : ByteArray := prog_1_method_20_code
def yX5_wave : MethodName := ⟨RX5, "wave", "(III)J"⟩
abbrev cX5_third : ByteArray := prog_1_method_21_code
def yX5_third : MethodName := ⟨RX5, "third", "(II)J"⟩
abbrev cX5_groups : ByteArray := prog_1_method_22_code
def yX5_groups : MethodName := ⟨RX5, "groups", "(IJI)I"⟩
abbrev cX5_heading : ByteArray := prog_1_method_23_code
def yX5_heading : MethodName := ⟨RX5, "heading", "(IIII)I"⟩
abbrev cX5_send : ByteArray := prog_1_method_24_code
def yX5_send : MethodName := ⟨RX5, "send", "(I)I"⟩
abbrev cX5_miss : ByteArray := prog_1_method_25_code
def yX5_miss : MethodName := ⟨RX5, "miss", "(I)I"⟩
abbrev cX5_receive : ByteArray := prog_1_method_26_code
def yX5_receive : MethodName := ⟨RX5, "receive", "(I)I"⟩
abbrev cX5_rule : ByteArray := prog_1_method_27_code
def yX5_rule : MethodName := ⟨RX5, "rule", "(III)I"⟩
abbrev cX5_hear : ByteArray := prog_1_method_28_code
def yX5_hear : MethodName := ⟨RX5, "hear", "(I)I"⟩
abbrev cX5_anchor : ByteArray := prog_1_method_29_code
def yX5_anchor : MethodName := ⟨RX5, "anchor", "(IIII)I"⟩
abbrev cX5_fix : ByteArray := prog_1_method_30_code
def yX5_fix : MethodName := ⟨RX5, "fix", "(II)I"⟩
abbrev cX5_count : ByteArray := prog_1_method_31_code
def yX5_count : MethodName := ⟨RX5, "count", "(I)I"⟩
abbrev cX5_digest : ByteArray := prog_1_method_32_code
def yX5_digest : MethodName := ⟨RX5, "digest", "()J"⟩
abbrev cX5_isSheet : ByteArray := prog_1_method_33_code
def yX5_isSheet : MethodName := ⟨RX5, "isSheet", "(I)Z"⟩
abbrev cX5_isRow : ByteArray := prog_1_method_34_code
def yX5_isRow : MethodName := ⟨RX5, "isRow", "(I)Z"⟩
abbrev cX5_isStretch : ByteArray := prog_1_method_35_code
def yX5_isStretch : MethodName := ⟨RX5, "isStretch", "(III)Z"⟩
abbrev cX5_isWithin : ByteArray := prog_1_method_36_code
def yX5_isWithin : MethodName := ⟨RX5, "isWithin", "(JJ)Z"⟩
abbrev cX5_isPlace : ByteArray := prog_1_method_37_code
def yX5_isPlace : MethodName := ⟨RX5, "isPlace", "(II)Z"⟩
abbrev cX5_sheetFailure : ByteArray := prog_1_method_38_code
def yX5_sheetFailure : MethodName := ⟨RX5, "sheetFailure", "(I)I"⟩
abbrev cX5_sampleFailure : ByteArray := prog_1_method_39_code
def yX5_sampleFailure : MethodName := ⟨RX5, "sampleFailure", "(II)I"⟩
abbrev cX5_sheetsThere : ByteArray := prog_1_method_40_code
def yX5_sheetsThere : MethodName := ⟨RX5, "sheetsThere", "()I"⟩
abbrev cX5_commonDivisor : ByteArray := prog_1_method_41_code
def yX5_commonDivisor : MethodName := ⟨RX5, "commonDivisor", "(JI)I"⟩
abbrev cX5_eighth : ByteArray := prog_1_method_42_code
def yX5_eighth : MethodName := ⟨RX5, "eighth", "(JJ)I"⟩
def RX6 : String := "WaveBuoysModel"
def TX6 : u_T := fun k => match k with
  | 0 => ("WaveBuoysModel", "there", "[Z", true)
  | 1 => ("WaveBuoysModel", "sort", "[I", true)
  | 2 => ("WaveBuoysModel", "size", "[I", true)
  | 3 => ("WaveBuoysModel", "state", "[I", true)
  | 4 => ("WaveBuoysModel", "value", "[I", true)
  | 5 => ("WaveBuoysModel", "many", "[I", true)
  | 6 => ("WaveBuoysModel", "number", "[J", true)
  | 7 => ("WaveBuoysModel", "draft", "[J", true)
  | 8 => ("WaveBuoysModel", "sent", "Z", false)
  | 9 => ("WaveBuoysModel", "packs", "I", false)
  | 10 => ("WaveBuoysModel", "missed", "[Z", true)
  | 11 => ("WaveBuoysModel", "on", "I", false)
  | 12 => ("WaveBuoysModel", "off", "I", false)
  | 13 => ("WaveBuoysModel", "hold", "I", false)
  | 14 => ("WaveBuoysModel", "heard", "I", false)
  | 15 => ("WaveBuoysModel", "changes", "I", false)
  | 16 => ("WaveBuoysModel", "changed", "I", false)
  | 17 => ("WaveBuoysModel", "warning", "I", false)
  | 18 => ("WaveBuoysModel", "anchorX", "I", false)
  | 19 => ("WaveBuoysModel", "anchorY", "I", false)
  | 20 => ("WaveBuoysModel", "radius", "I", false)
  | 21 => ("WaveBuoysModel", "drift", "I", false)
  | 22 => ("WaveBuoysModel", "places", "I", false)
  | 23 => ("WaveBuoysModel", "out", "I", false)
  | 24 => ("WaveBuoysModel", "leastX", "I", false)
  | 25 => ("WaveBuoysModel", "mostX", "I", false)
  | 26 => ("WaveBuoysModel", "leastY", "I", false)
  | 27 => ("WaveBuoysModel", "mostY", "I", false)
  | 28 => ("WaveBuoysModel", "heldState", "[I", true)
  | 29 => ("WaveBuoysModel", "heldValue", "[I", true)
  | 30 => ("WaveBuoysModel", "turns", "[I", true)
  | _ => ("WaveBuoysModel", "turnMany", "I", false)
def tyX6 : Nat → FieldType := fun k => match k with
  | 0 => .array .boolean
  | 1 => .array .int
  | 2 => .array .int
  | 3 => .array .int
  | 4 => .array .int
  | 5 => .array .int
  | 6 => .array .long
  | 7 => .array .long
  | 8 => .boolean
  | 9 => .int
  | 10 => .array .boolean
  | 11 => .int
  | 12 => .int
  | 13 => .int
  | 14 => .int
  | 15 => .int
  | 16 => .int
  | 17 => .int
  | 18 => .int
  | 19 => .int
  | 20 => .int
  | 21 => .int
  | 22 => .int
  | 23 => .int
  | 24 => .int
  | 25 => .int
  | 26 => .int
  | 27 => .int
  | 28 => .array .int
  | 29 => .array .int
  | 30 => .array .int
  | _ => .int
abbrev wsX60 : List Cond := u_ws RX6 TX6 32
theorem nmX6 : ∀ a, a < 32 → ∀ b, b < 32 → a ≠ b → (TX6 a).2.1 ≠ (TX6 b).2.1 := by decide +kernel
theorem tyX6_ok : ∀ k, k < 32 → parseFieldDescriptor (TX6 k).2.2.1 = some (tyX6 k) := by decide +kernel
abbrev cX6_init : ByteArray := prog_8_method_1_code
def yX6_init : MethodName := ⟨RX6, "<init>", "()V"⟩
abbrev cX6_in : ByteArray := prog_8_method_3_code
def yX6_in : MethodName := ⟨RX6, "in", "(JJJ)Z"⟩
abbrev cX6_noSheet : ByteArray := prog_8_method_4_code
def yX6_noSheet : MethodName := ⟨RX6, "noSheet", "(I)I"⟩
abbrev cX6_sheet : ByteArray := prog_8_method_5_code
def yX6_sheet : MethodName := ⟨RX6, "sheet", "(III)I"⟩
abbrev cX6_drop : ByteArray := prog_8_method_6_code
def yX6_drop : MethodName := ⟨RX6, "drop", "(I)I"⟩
abbrev cX6_fits : ByteArray := prog_8_method_7_code
def yX6_fits : MethodName := ⟨RX6, "fits", "(II)Z"⟩
abbrev cX6_put : ByteArray := prog_8_method_8_code
def yX6_put : MethodName := ⟨RX6, "put", "(III)I"⟩
abbrev cX6_get : ByteArray := prog_8_method_9_code
def yX6_get : MethodName := ⟨RX6, "get", "(II)J"⟩
abbrev cX6_lose : ByteArray := prog_8_method_10_code
def yX6_lose : MethodName := ⟨RX6, "lose", "(II)I"⟩
abbrev cX6_stands : ByteArray := prog_8_method_11_code
def yX6_stands : MethodName := ⟨RX6, "stands", "(II)I"⟩
abbrev cX6_copy : ByteArray := prog_8_method_12_code
def yX6_copy : MethodName := ⟨RX6, "copy", "(IIIII)I"⟩
abbrev cX6_spikes : ByteArray := prog_8_method_13_code
def yX6_spikes : MethodName := ⟨RX6, "spikes", "(II)I"⟩
abbrev cX6_fill : ByteArray := prog_8_method_14_code
def yX6_fill : MethodName := ⟨RX6, "fill", "(II)I"⟩
abbrev cX6_gaps : ByteArray := prog_8_method_15_code
def yX6_gaps : MethodName := ⟨RX6, "gaps", "(IZ)I"⟩
abbrev cX6_those : ByteArray := prog_8_method_16_code
def yX6_those : MethodName := ⟨RX6, "those", "(II)I"⟩
abbrev cX6_about : ByteArray := prog_8_method_17_code
def yX6_about : MethodName := ⟨RX6, "about", "(II)I"⟩
abbrev cX6_isRow : ByteArray := prog_8_method_18_code
def yX6_isRow : MethodName := ⟨RX6, "isRow", "(I)Z"⟩
abbrev cX6_raise : ByteArray := prog_8_method_19_code
def yX6_raise : MethodName := ⟨RX6, "raise", "(II)I"⟩
abbrev cX6_number : ByteArray := prog_8_method_20_code
def yX6_number : MethodName := ⟨RX6, "number", "(II)J"⟩
abbrev cX6_factor : ByteArray := prog_8_method_21_code
def yX6_factor : MethodName := ⟨RX6, "factor", "(IIII)J"⟩
abbrev cX6_isPower : ByteArray := prog_8_method_22_code
def yX6_isPower : MethodName := ⟨RX6, "isPower", "(I)Z"⟩
abbrev cX6_turn : ByteArray := prog_8_method_23_code
def yX6_turn : MethodName := ⟨RX6, "turn", "(II)I"⟩
abbrev cX6_part : ByteArray := prog_8_method_24_code
def yX6_part : MethodName := ⟨RX6, "part", "(III)I"⟩
abbrev cX6_mix : ByteArray := prog_8_method_25_code
def yX6_mix : MethodName := ⟨RX6, "mix", "(IIII)I"⟩
abbrev cX6_force : ByteArray := prog_8_method_26_code
def yX6_force : MethodName := ⟨RX6, "force", "(III)J"⟩
abbrev cX6_cross : ByteArray := prog_8_method_27_code
def yX6_cross : MethodName := ⟨RX6, "cross", "(II)J"⟩
abbrev cX6_findTurns : ByteArray := prog_8_method_28_code
def yX6_findTurns : MethodName := ⟨RX6, "findTurns", "(I)V"⟩
abbrev cX6_waveMany : ByteArray := prog_8_method_29_code
def yX6_waveMany : MethodName := ⟨RX6, "waveMany", "(I)I"⟩
abbrev cX6_end : ByteArray := prog_8_method_30_code
def yX6_end : MethodName := ⟨RX6, "end", "(IIZ)J"⟩
abbrev cX6_height : ByteArray := prog_8_method_31_code
def yX6_height : MethodName := ⟨RX6, "height", "(II)J"⟩
abbrev cX6_waves : ByteArray := prog_8_method_32_code
def yX6_waves : MethodName := ⟨RX6, "waves", "(I)I"⟩
abbrev cX6_wave : ByteArray := prog_8_method_33_code
def yX6_wave : MethodName := ⟨RX6, "wave", "(III)J"⟩
abbrev cX6_divisor : ByteArray := prog_8_method_34_code
def yX6_divisor : MethodName := ⟨RX6, "divisor", "(JJ)J"⟩
abbrev cX6_third : ByteArray := prog_8_method_35_code
def yX6_third : MethodName := ⟨RX6, "third", "(II)J"⟩
abbrev cX6_groups : ByteArray := prog_8_method_36_code
def yX6_groups : MethodName := ⟨RX6, "groups", "(IJI)I"⟩
abbrev cX6_isNear : ByteArray := prog_8_method_37_code
def yX6_isNear : MethodName := ⟨RX6, "isNear", "(I)Z"⟩
abbrev cX6_heading : ByteArray := prog_8_method_38_code
def yX6_heading : MethodName := ⟨RX6, "heading", "(IIII)I"⟩
abbrev cX6_send : ByteArray := prog_8_method_39_code
def yX6_send : MethodName := ⟨RX6, "send", "(I)I"⟩
abbrev cX6_miss : ByteArray := prog_8_method_40_code
def yX6_miss : MethodName := ⟨RX6, "miss", "(I)I"⟩
abbrev cX6_comes : ByteArray := prog_8_method_41_code
def yX6_comes : MethodName := ⟨RX6, "comes", "(I)Z"⟩
abbrev cX6_receive : ByteArray := prog_8_method_42_code
def yX6_receive : MethodName := ⟨RX6, "receive", "(I)I"⟩
abbrev cX6_rule : ByteArray := prog_8_method_43_code
def yX6_rule : MethodName := ⟨RX6, "rule", "(III)I"⟩
abbrev cX6_hear : ByteArray := prog_8_method_44_code
def yX6_hear : MethodName := ⟨RX6, "hear", "(I)I"⟩
abbrev cX6_isPlace : ByteArray := prog_8_method_45_code
def yX6_isPlace : MethodName := ⟨RX6, "isPlace", "(II)Z"⟩
abbrev cX6_anchor : ByteArray := prog_8_method_46_code
def yX6_anchor : MethodName := ⟨RX6, "anchor", "(IIII)I"⟩
abbrev cX6_fix : ByteArray := prog_8_method_47_code
def yX6_fix : MethodName := ⟨RX6, "fix", "(II)I"⟩
abbrev cX6_count : ByteArray := prog_8_method_48_code
def yX6_count : MethodName := ⟨RX6, "count", "(I)I"⟩
abbrev cX6_digest : ByteArray := prog_8_method_49_code
def yX6_digest : MethodName := ⟨RX6, "digest", "()J"⟩
def RJ6 : String := "java/lang/Integer"
abbrev cJ6_bitCount_0f7a4 : ByteArray := prog_9_method_49_code
def yJ6_bitCount_0f7a4 : MethodName := ⟨RJ6, "bitCount", "(I)I"⟩
def RJ9 : String := "java/lang/Math"
abbrev cJ9_abs_067f4 : ByteArray := prog_10_method_61_code
def yJ9_abs_067f4 : MethodName := ⟨RJ9, "abs", "(J)J"⟩
abbrev cJ9_max_7cf53 : ByteArray := prog_10_method_65_code
def yJ9_max_7cf53 : MethodName := ⟨RJ9, "max", "(II)I"⟩
abbrev cJ9_max_f86c9 : ByteArray := prog_10_method_66_code
def yJ9_max_f86c9 : MethodName := ⟨RJ9, "max", "(JJ)J"⟩
abbrev cJ9_min_7cf53 : ByteArray := prog_10_method_69_code
def yJ9_min_7cf53 : MethodName := ⟨RJ9, "min", "(II)I"⟩
abbrev cJ9_min_f86c9 : ByteArray := prog_10_method_70_code
def yJ9_min_f86c9 : MethodName := ⟨RJ9, "min", "(JJ)J"⟩
def RJ10 : String := "java/lang/System"
def RJ7 : String := "java/util/Arrays"
abbrev cJ7_fill_53178 : ByteArray := prog_12_method_103_code
def yJ7_fill_53178 : MethodName := ⟨RJ7, "fill", "([II)V"⟩
def RL : String := "WaveBuoysLaw"
abbrev cL_law : ByteArray := code
def yL_law : MethodName := ⟨RL, "law", "([I)Z"⟩
abbrev vwCl : List vw_C := [(RX0, TX0, 10), (RX1, TX1, 2), (RX2, TX2, 5), (RX3, TX3, 6), (RX4, TX4, 7), (RX5, TX5, 5), (RX6, TX6, 32)]
end
section
theorem dX0_init_0 : decode cX0_init 0 = .ok (.aload_n 0, 1) := by decide +kernel
theorem dX0_init_1 : decode cX0_init 1 = .ok (.invokespecial 1, 3) := by decide +kernel
theorem dX0_init_4 : decode cX0_init 4 = .ok (.aload_n 0, 1) := by decide +kernel
theorem dX0_init_5 : decode cX0_init 5 = .ok (.iconst 1, 1) := by decide +kernel
theorem dX0_init_6 : decode cX0_init 6 = .ok (.putfield 7, 3) := by decide +kernel
theorem dX0_init_9 : decode cX0_init 9 = .ok (.return_, 1) := by decide +kernel
theorem dX0_begin_0 : decode cX0_begin 0 = .ok (.aload_n 0, 1) := by decide +kernel
theorem dX0_begin_1 : decode cX0_begin 1 = .ok (.iload_n 1, 1) := by decide +kernel
theorem dX0_begin_2 : decode cX0_begin 2 = .ok (.i2l, 1) := by decide +kernel
theorem dX0_begin_3 : decode cX0_begin 3 = .ok (.putfield 13, 3) := by decide +kernel
theorem dX0_begin_6 : decode cX0_begin 6 = .ok (.aload_n 0, 1) := by decide +kernel
theorem dX0_begin_7 : decode cX0_begin 7 = .ok (.iload_n 2, 1) := by decide +kernel
theorem dX0_begin_8 : decode cX0_begin 8 = .ok (.i2l, 1) := by decide +kernel
theorem dX0_begin_9 : decode cX0_begin 9 = .ok (.putfield 17, 3) := by decide +kernel
theorem dX0_begin_12 : decode cX0_begin 12 = .ok (.aload_n 0, 1) := by decide +kernel
theorem dX0_begin_13 : decode cX0_begin 13 = .ok (.iload_n 3, 1) := by decide +kernel
theorem dX0_begin_14 : decode cX0_begin 14 = .ok (.i2l, 1) := by decide +kernel
theorem dX0_begin_15 : decode cX0_begin 15 = .ok (.putfield 20, 3) := by decide +kernel
theorem dX0_begin_18 : decode cX0_begin 18 = .ok (.aload_n 0, 1) := by decide +kernel
theorem dX0_begin_19 : decode cX0_begin 19 = .ok (.iload 4, 2) := by decide +kernel
theorem dX0_begin_21 : decode cX0_begin 21 = .ok (.putfield 7, 3) := by decide +kernel
theorem dX0_begin_24 : decode cX0_begin 24 = .ok (.aload_n 0, 1) := by decide +kernel
theorem dX0_begin_25 : decode cX0_begin 25 = .ok (.iconst 0, 1) := by decide +kernel
theorem dX0_begin_26 : decode cX0_begin 26 = .ok (.putfield 23, 3) := by decide +kernel
theorem dX0_begin_29 : decode cX0_begin 29 = .ok (.aload_n 0, 1) := by decide +kernel
theorem dX0_begin_30 : decode cX0_begin 30 = .ok (.iconst 0, 1) := by decide +kernel
theorem dX0_begin_31 : decode cX0_begin 31 = .ok (.putfield 26, 3) := by decide +kernel
theorem dX0_begin_34 : decode cX0_begin 34 = .ok (.return_, 1) := by decide +kernel
theorem dX0_take_0 : decode cX0_take 0 = .ok (.aload_n 0, 1) := by decide +kernel
theorem dX0_take_1 : decode cX0_take 1 = .ok (.aload_n 0, 1) := by decide +kernel
theorem dX0_take_2 : decode cX0_take 2 = .ok (.getfield 23, 3) := by decide +kernel
theorem dX0_take_5 : decode cX0_take 5 = .ok (.ifCond .ne 7, 3) := by decide +kernel
theorem dX0_take_8 : decode cX0_take 8 = .ok (.iload_n 1, 1) := by decide +kernel
theorem dX0_take_9 : decode cX0_take 9 = .ok (.goto 11, 3) := by decide +kernel
theorem dX0_take_12 : decode cX0_take 12 = .ok (.aload_n 0, 1) := by decide +kernel
theorem dX0_take_13 : decode cX0_take 13 = .ok (.getfield 29, 3) := by decide +kernel
theorem dX0_take_16 : decode cX0_take 16 = .ok (.iload_n 1, 1) := by decide +kernel
theorem dX0_take_17 : decode cX0_take 17 = .ok (.invokestatic 32, 3) := by decide +kernel
theorem dX0_take_20 : decode cX0_take 20 = .ok (.putfield 29, 3) := by decide +kernel
theorem dX0_take_23 : decode cX0_take 23 = .ok (.aload_n 0, 1) := by decide +kernel
theorem dX0_take_24 : decode cX0_take 24 = .ok (.aload_n 0, 1) := by decide +kernel
theorem dX0_take_25 : decode cX0_take 25 = .ok (.getfield 23, 3) := by decide +kernel
theorem dX0_take_28 : decode cX0_take 28 = .ok (.ifCond .ne 7, 3) := by decide +kernel
theorem dX0_take_31 : decode cX0_take 31 = .ok (.iload_n 1, 1) := by decide +kernel
theorem dX0_take_32 : decode cX0_take 32 = .ok (.goto 11, 3) := by decide +kernel
theorem dX0_take_35 : decode cX0_take 35 = .ok (.aload_n 0, 1) := by decide +kernel
theorem dX0_take_36 : decode cX0_take 36 = .ok (.getfield 38, 3) := by decide +kernel
theorem dX0_take_39 : decode cX0_take 39 = .ok (.iload_n 1, 1) := by decide +kernel
theorem dX0_take_40 : decode cX0_take 40 = .ok (.invokestatic 41, 3) := by decide +kernel
theorem dX0_take_43 : decode cX0_take 43 = .ok (.putfield 38, 3) := by decide +kernel
theorem dX0_take_46 : decode cX0_take 46 = .ok (.aload_n 0, 1) := by decide +kernel
theorem dX0_take_47 : decode cX0_take 47 = .ok (.aload_n 0, 1) := by decide +kernel
theorem dX0_take_48 : decode cX0_take 48 = .ok (.getfield 23, 3) := by decide +kernel
theorem dX0_take_51 : decode cX0_take 51 = .ok (.ifCond .ne 7, 3) := by decide +kernel
theorem dX0_take_54 : decode cX0_take 54 = .ok (.iload_n 2, 1) := by decide +kernel
theorem dX0_take_55 : decode cX0_take 55 = .ok (.goto 11, 3) := by decide +kernel
theorem dX0_take_58 : decode cX0_take 58 = .ok (.aload_n 0, 1) := by decide +kernel
theorem dX0_take_59 : decode cX0_take 59 = .ok (.getfield 44, 3) := by decide +kernel
theorem dX0_take_62 : decode cX0_take 62 = .ok (.iload_n 2, 1) := by decide +kernel
theorem dX0_take_63 : decode cX0_take 63 = .ok (.invokestatic 32, 3) := by decide +kernel
theorem dX0_take_66 : decode cX0_take 66 = .ok (.putfield 44, 3) := by decide +kernel
theorem dX0_take_69 : decode cX0_take 69 = .ok (.aload_n 0, 1) := by decide +kernel
theorem dX0_take_70 : decode cX0_take 70 = .ok (.aload_n 0, 1) := by decide +kernel
theorem dX0_take_71 : decode cX0_take 71 = .ok (.getfield 23, 3) := by decide +kernel
theorem dX0_take_74 : decode cX0_take 74 = .ok (.ifCond .ne 7, 3) := by decide +kernel
theorem dX0_take_77 : decode cX0_take 77 = .ok (.iload_n 2, 1) := by decide +kernel
theorem dX0_take_78 : decode cX0_take 78 = .ok (.goto 11, 3) := by decide +kernel
theorem dX0_take_81 : decode cX0_take 81 = .ok (.aload_n 0, 1) := by decide +kernel
theorem dX0_take_82 : decode cX0_take 82 = .ok (.getfield 47, 3) := by decide +kernel
theorem dX0_take_85 : decode cX0_take 85 = .ok (.iload_n 2, 1) := by decide +kernel
theorem dX0_take_86 : decode cX0_take 86 = .ok (.invokestatic 41, 3) := by decide +kernel
theorem dX0_take_89 : decode cX0_take 89 = .ok (.putfield 47, 3) := by decide +kernel
theorem dX0_take_92 : decode cX0_take 92 = .ok (.aload_n 0, 1) := by decide +kernel
theorem dX0_take_93 : decode cX0_take 93 = .ok (.dup, 1) := by decide +kernel
theorem dX0_take_94 : decode cX0_take 94 = .ok (.getfield 23, 3) := by decide +kernel
theorem dX0_take_97 : decode cX0_take 97 = .ok (.iconst 1, 1) := by decide +kernel
theorem dX0_take_98 : decode cX0_take 98 = .ok (.iadd, 1) := by decide +kernel
theorem dX0_take_99 : decode cX0_take 99 = .ok (.putfield 23, 3) := by decide +kernel
theorem dX0_take_102 : decode cX0_take 102 = .ok (.aload_n 0, 1) := by decide +kernel
theorem dX0_take_103 : decode cX0_take 103 = .ok (.aload_n 0, 1) := by decide +kernel
theorem dX0_take_104 : decode cX0_take 104 = .ok (.iload_n 1, 1) := by decide +kernel
theorem dX0_take_105 : decode cX0_take 105 = .ok (.i2l, 1) := by decide +kernel
theorem dX0_take_106 : decode cX0_take 106 = .ok (.iload_n 2, 1) := by decide +kernel
theorem dX0_take_107 : decode cX0_take 107 = .ok (.i2l, 1) := by decide +kernel
theorem dX0_take_108 : decode cX0_take 108 = .ok (.invokevirtual 50, 3) := by decide +kernel
theorem dX0_take_111 : decode cX0_take 111 = .ok (.ifCond .eq 12, 3) := by decide +kernel
theorem dX0_take_114 : decode cX0_take 114 = .ok (.aload_n 0, 1) := by decide +kernel
theorem dX0_take_115 : decode cX0_take 115 = .ok (.getfield 26, 3) := by decide +kernel
theorem dX0_take_118 : decode cX0_take 118 = .ok (.iconst 1, 1) := by decide +kernel
theorem dX0_take_119 : decode cX0_take 119 = .ok (.iadd, 1) := by decide +kernel
theorem dX0_take_120 : decode cX0_take 120 = .ok (.goto 4, 3) := by decide +kernel
theorem dX0_take_123 : decode cX0_take 123 = .ok (.iconst 0, 1) := by decide +kernel
theorem dX0_take_124 : decode cX0_take 124 = .ok (.putfield 26, 3) := by decide +kernel
theorem dX0_take_127 : decode cX0_take 127 = .ok (.return_, 1) := by decide +kernel
theorem dX0_isOut_0 : decode cX0_isOut 0 = .ok (.lload_n 1, 1) := by decide +kernel
theorem dX0_isOut_1 : decode cX0_isOut 1 = .ok (.aload_n 0, 1) := by decide +kernel
theorem dX0_isOut_2 : decode cX0_isOut 2 = .ok (.getfield 13, 3) := by decide +kernel
theorem dX0_isOut_5 : decode cX0_isOut 5 = .ok (.lsub, 1) := by decide +kernel
theorem dX0_isOut_6 : decode cX0_isOut 6 = .ok (.lstore 5, 2) := by decide +kernel
theorem dX0_isOut_8 : decode cX0_isOut 8 = .ok (.lload_n 3, 1) := by decide +kernel
theorem dX0_isOut_9 : decode cX0_isOut 9 = .ok (.aload_n 0, 1) := by decide +kernel
theorem dX0_isOut_10 : decode cX0_isOut 10 = .ok (.getfield 17, 3) := by decide +kernel
theorem dX0_isOut_13 : decode cX0_isOut 13 = .ok (.lsub, 1) := by decide +kernel
theorem dX0_isOut_14 : decode cX0_isOut 14 = .ok (.lstore 7, 2) := by decide +kernel
theorem dX0_isOut_16 : decode cX0_isOut 16 = .ok (.lload 5, 2) := by decide +kernel
theorem dX0_isOut_18 : decode cX0_isOut 18 = .ok (.lload 5, 2) := by decide +kernel
theorem dX0_isOut_20 : decode cX0_isOut 20 = .ok (.lmul, 1) := by decide +kernel
theorem dX0_isOut_21 : decode cX0_isOut 21 = .ok (.lload 7, 2) := by decide +kernel
theorem dX0_isOut_23 : decode cX0_isOut 23 = .ok (.lload 7, 2) := by decide +kernel
theorem dX0_isOut_25 : decode cX0_isOut 25 = .ok (.lmul, 1) := by decide +kernel
theorem dX0_isOut_26 : decode cX0_isOut 26 = .ok (.ladd, 1) := by decide +kernel
theorem dX0_isOut_27 : decode cX0_isOut 27 = .ok (.aload_n 0, 1) := by decide +kernel
theorem dX0_isOut_28 : decode cX0_isOut 28 = .ok (.getfield 20, 3) := by decide +kernel
theorem dX0_isOut_31 : decode cX0_isOut 31 = .ok (.aload_n 0, 1) := by decide +kernel
theorem dX0_isOut_32 : decode cX0_isOut 32 = .ok (.getfield 20, 3) := by decide +kernel
theorem dX0_isOut_35 : decode cX0_isOut 35 = .ok (.lmul, 1) := by decide +kernel
theorem dX0_isOut_36 : decode cX0_isOut 36 = .ok (.lcmp, 1) := by decide +kernel
theorem dX0_isOut_37 : decode cX0_isOut 37 = .ok (.ifCond .le 7, 3) := by decide +kernel
theorem dX0_isOut_40 : decode cX0_isOut 40 = .ok (.iconst 1, 1) := by decide +kernel
theorem dX0_isOut_41 : decode cX0_isOut 41 = .ok (.goto 4, 3) := by decide +kernel
theorem dX0_isOut_44 : decode cX0_isOut 44 = .ok (.iconst 0, 1) := by decide +kernel
theorem dX0_isOut_45 : decode cX0_isOut 45 = .ok (.ireturn, 1) := by decide +kernel
theorem dX0_state_0 : decode cX0_state 0 = .ok (.aload_n 0, 1) := by decide +kernel
theorem dX0_state_1 : decode cX0_state 1 = .ok (.getfield 26, 3) := by decide +kernel
theorem dX0_state_4 : decode cX0_state 4 = .ok (.ifCond .ne 5, 3) := by decide +kernel
theorem dX0_state_7 : decode cX0_state 7 = .ok (.iconst 0, 1) := by decide +kernel
theorem dX0_state_8 : decode cX0_state 8 = .ok (.ireturn, 1) := by decide +kernel
theorem dX0_state_9 : decode cX0_state 9 = .ok (.aload_n 0, 1) := by decide +kernel
theorem dX0_state_10 : decode cX0_state 10 = .ok (.getfield 26, 3) := by decide +kernel
theorem dX0_state_13 : decode cX0_state 13 = .ok (.aload_n 0, 1) := by decide +kernel
theorem dX0_state_14 : decode cX0_state 14 = .ok (.getfield 7, 3) := by decide +kernel
theorem dX0_state_17 : decode cX0_state 17 = .ok (.if_icmp .lt 7, 3) := by decide +kernel
theorem dX0_state_20 : decode cX0_state 20 = .ok (.iconst 2, 1) := by decide +kernel
theorem dX0_state_21 : decode cX0_state 21 = .ok (.goto 4, 3) := by decide +kernel
theorem dX0_state_24 : decode cX0_state 24 = .ok (.iconst 1, 1) := by decide +kernel
theorem dX0_state_25 : decode cX0_state 25 = .ok (.ireturn, 1) := by decide +kernel
theorem dX0_places_0 : decode cX0_places 0 = .ok (.aload_n 0, 1) := by decide +kernel
theorem dX0_places_1 : decode cX0_places 1 = .ok (.getfield 23, 3) := by decide +kernel
theorem dX0_places_4 : decode cX0_places 4 = .ok (.ireturn, 1) := by decide +kernel
theorem dX0_outOnEnd_0 : decode cX0_outOnEnd 0 = .ok (.aload_n 0, 1) := by decide +kernel
theorem dX0_outOnEnd_1 : decode cX0_outOnEnd 1 = .ok (.getfield 26, 3) := by decide +kernel
theorem dX0_outOnEnd_4 : decode cX0_outOnEnd 4 = .ok (.ireturn, 1) := by decide +kernel
theorem dX0_width_0 : decode cX0_width 0 = .ok (.aload_n 0, 1) := by decide +kernel
theorem dX0_width_1 : decode cX0_width 1 = .ok (.getfield 23, 3) := by decide +kernel
theorem dX0_width_4 : decode cX0_width 4 = .ok (.ifCond .ne 7, 3) := by decide +kernel
theorem dX0_width_7 : decode cX0_width 7 = .ok (.iconst 0, 1) := by decide +kernel
theorem dX0_width_8 : decode cX0_width 8 = .ok (.goto 12, 3) := by decide +kernel
theorem dX0_width_11 : decode cX0_width 11 = .ok (.aload_n 0, 1) := by decide +kernel
theorem dX0_width_12 : decode cX0_width 12 = .ok (.getfield 38, 3) := by decide +kernel
theorem dX0_width_15 : decode cX0_width 15 = .ok (.aload_n 0, 1) := by decide +kernel
theorem dX0_width_16 : decode cX0_width 16 = .ok (.getfield 29, 3) := by decide +kernel
theorem dX0_width_19 : decode cX0_width 19 = .ok (.isub, 1) := by decide +kernel
theorem dX0_width_20 : decode cX0_width 20 = .ok (.ireturn, 1) := by decide +kernel
theorem dX0_depth_0 : decode cX0_depth 0 = .ok (.aload_n 0, 1) := by decide +kernel
theorem dX0_depth_1 : decode cX0_depth 1 = .ok (.getfield 23, 3) := by decide +kernel
theorem dX0_depth_4 : decode cX0_depth 4 = .ok (.ifCond .ne 7, 3) := by decide +kernel
theorem dX0_depth_7 : decode cX0_depth 7 = .ok (.iconst 0, 1) := by decide +kernel
theorem dX0_depth_8 : decode cX0_depth 8 = .ok (.goto 12, 3) := by decide +kernel
theorem dX0_depth_11 : decode cX0_depth 11 = .ok (.aload_n 0, 1) := by decide +kernel
theorem dX0_depth_12 : decode cX0_depth 12 = .ok (.getfield 47, 3) := by decide +kernel
theorem dX0_depth_15 : decode cX0_depth 15 = .ok (.aload_n 0, 1) := by decide +kernel
theorem dX0_depth_16 : decode cX0_depth 16 = .ok (.getfield 44, 3) := by decide +kernel
theorem dX0_depth_19 : decode cX0_depth 19 = .ok (.isub, 1) := by decide +kernel
theorem dX0_depth_20 : decode cX0_depth 20 = .ok (.ireturn, 1) := by decide +kernel
theorem dX1_init_0 : decode cX1_init 0 = .ok (.aload_n 0, 1) := by decide +kernel
theorem dX1_init_1 : decode cX1_init 1 = .ok (.invokespecial 1, 3) := by decide +kernel
theorem dX1_init_4 : decode cX1_init 4 = .ok (.aload_n 0, 1) := by decide +kernel
theorem dX1_init_5 : decode cX1_init 5 = .ok (.new 7, 3) := by decide +kernel
theorem dX1_init_8 : decode cX1_init 8 = .ok (.dup, 1) := by decide +kernel
theorem dX1_init_9 : decode cX1_init 9 = .ok (.invokespecial 9, 3) := by decide +kernel
theorem dX1_init_12 : decode cX1_init 12 = .ok (.putfield 10, 3) := by decide +kernel
theorem dX1_init_15 : decode cX1_init 15 = .ok (.aload_n 0, 1) := by decide +kernel
theorem dX1_init_16 : decode cX1_init 16 = .ok (.bipush 10, 2) := by decide +kernel
theorem dX1_init_18 : decode cX1_init 18 = .ok (.newarray .boolean, 2) := by decide +kernel
theorem dX1_init_20 : decode cX1_init 20 = .ok (.putfield 16, 3) := by decide +kernel
theorem dX1_init_23 : decode cX1_init 23 = .ok (.return_, 1) := by decide +kernel
theorem dX1_load_0 : decode cX1_load 0 = .ok (.aload_n 0, 1) := by decide +kernel
theorem dX1_load_1 : decode cX1_load 1 = .ok (.getfield 10, 3) := by decide +kernel
theorem dX1_load_4 : decode cX1_load 4 = .ok (.aload_n 1, 1) := by decide +kernel
theorem dX1_load_5 : decode cX1_load 5 = .ok (.invokevirtual 20, 3) := by decide +kernel
theorem dX1_load_8 : decode cX1_load 8 = .ok (.aload_n 1, 1) := by decide +kernel
theorem dX1_load_9 : decode cX1_load 9 = .ok (.invokevirtual 24, 3) := by decide +kernel
theorem dX1_load_12 : decode cX1_load 12 = .ok (.invokevirtual 27, 3) := by decide +kernel
theorem dX1_load_15 : decode cX1_load 15 = .ok (.aload_n 0, 1) := by decide +kernel
theorem dX1_load_16 : decode cX1_load 16 = .ok (.getfield 10, 3) := by decide +kernel
theorem dX1_load_19 : decode cX1_load 19 = .ok (.aload_n 1, 1) := by decide +kernel
theorem dX1_load_20 : decode cX1_load 20 = .ok (.iconst 0, 1) := by decide +kernel
theorem dX1_load_21 : decode cX1_load 21 = .ok (.iconst 0, 1) := by decide +kernel
theorem dX1_load_22 : decode cX1_load 22 = .ok (.aload_n 1, 1) := by decide +kernel
theorem dX1_load_23 : decode cX1_load 23 = .ok (.invokevirtual 24, 3) := by decide +kernel
theorem dX1_load_26 : decode cX1_load 26 = .ok (.invokevirtual 31, 3) := by decide +kernel
theorem dX1_load_29 : decode cX1_load 29 = .ok (.iconst 0, 1) := by decide +kernel
theorem dX1_load_30 : decode cX1_load 30 = .ok (.istore_n 2, 1) := by decide +kernel
theorem dX1_load_31 : decode cX1_load 31 = .ok (.iload_n 2, 1) := by decide +kernel
theorem dX1_load_32 : decode cX1_load 32 = .ok (.bipush 10, 2) := by decide +kernel
theorem dX1_load_34 : decode cX1_load 34 = .ok (.if_icmp .ge 16, 3) := by decide +kernel
theorem dX1_load_37 : decode cX1_load 37 = .ok (.aload_n 0, 1) := by decide +kernel
theorem dX1_load_38 : decode cX1_load 38 = .ok (.getfield 16, 3) := by decide +kernel
theorem dX1_load_41 : decode cX1_load 41 = .ok (.iload_n 2, 1) := by decide +kernel
theorem dX1_load_42 : decode cX1_load 42 = .ok (.iconst 0, 1) := by decide +kernel
theorem dX1_load_43 : decode cX1_load 43 = .ok (.bastore, 1) := by decide +kernel
theorem dX1_load_44 : decode cX1_load 44 = .ok (.iinc 2 1, 3) := by decide +kernel
theorem dX1_load_47 : decode cX1_load 47 = .ok (.goto (-16), 3) := by decide +kernel
theorem dX1_load_50 : decode cX1_load 50 = .ok (.return_, 1) := by decide +kernel
theorem dX1_wereSent_0 : decode cX1_wereSent 0 = .ok (.aload_n 0, 1) := by decide +kernel
theorem dX1_wereSent_1 : decode cX1_wereSent 1 = .ok (.getfield 10, 3) := by decide +kernel
theorem dX1_wereSent_4 : decode cX1_wereSent 4 = .ok (.invokevirtual 35, 3) := by decide +kernel
theorem dX1_wereSent_7 : decode cX1_wereSent 7 = .ok (.ireturn, 1) := by decide +kernel
theorem dX1_samplePacks_0 : decode cX1_samplePacks 0 = .ok (.aload_n 0, 1) := by decide +kernel
theorem dX1_samplePacks_1 : decode cX1_samplePacks 1 = .ok (.getfield 10, 3) := by decide +kernel
theorem dX1_samplePacks_4 : decode cX1_samplePacks 4 = .ok (.invokevirtual 24, 3) := by decide +kernel
theorem dX1_samplePacks_7 : decode cX1_samplePacks 7 = .ok (.bipush 8, 2) := by decide +kernel
theorem dX1_samplePacks_9 : decode cX1_samplePacks 9 = .ok (.iadd, 1) := by decide +kernel
theorem dX1_samplePacks_10 : decode cX1_samplePacks 10 = .ok (.iconst 1, 1) := by decide +kernel
theorem dX1_samplePacks_11 : decode cX1_samplePacks 11 = .ok (.isub, 1) := by decide +kernel
theorem dX1_samplePacks_12 : decode cX1_samplePacks 12 = .ok (.bipush 8, 2) := by decide +kernel
theorem dX1_samplePacks_14 : decode cX1_samplePacks 14 = .ok (.idiv, 1) := by decide +kernel
theorem dX1_samplePacks_15 : decode cX1_samplePacks 15 = .ok (.ireturn, 1) := by decide +kernel
theorem dX1_size_0 : decode cX1_size 0 = .ok (.aload_n 0, 1) := by decide +kernel
theorem dX1_size_1 : decode cX1_size 1 = .ok (.invokevirtual 39, 3) := by decide +kernel
theorem dX1_size_4 : decode cX1_size 4 = .ok (.aload_n 0, 1) := by decide +kernel
theorem dX1_size_5 : decode cX1_size 5 = .ok (.invokevirtual 39, 3) := by decide +kernel
theorem dX1_size_8 : decode cX1_size 8 = .ok (.iconst 4, 1) := by decide +kernel
theorem dX1_size_9 : decode cX1_size 9 = .ok (.iadd, 1) := by decide +kernel
theorem dX1_size_10 : decode cX1_size 10 = .ok (.iconst 1, 1) := by decide +kernel
theorem dX1_size_11 : decode cX1_size 11 = .ok (.isub, 1) := by decide +kernel
theorem dX1_size_12 : decode cX1_size 12 = .ok (.iconst 4, 1) := by decide +kernel
theorem dX1_size_13 : decode cX1_size 13 = .ok (.idiv, 1) := by decide +kernel
theorem dX1_size_14 : decode cX1_size 14 = .ok (.iadd, 1) := by decide +kernel
theorem dX1_size_15 : decode cX1_size 15 = .ok (.ireturn, 1) := by decide +kernel
theorem dX1_forget_0 : decode cX1_forget 0 = .ok (.aload_n 0, 1) := by decide +kernel
theorem dX1_forget_1 : decode cX1_forget 1 = .ok (.getfield 16, 3) := by decide +kernel
theorem dX1_forget_4 : decode cX1_forget 4 = .ok (.iload_n 1, 1) := by decide +kernel
theorem dX1_forget_5 : decode cX1_forget 5 = .ok (.baload, 1) := by decide +kernel
theorem dX1_forget_6 : decode cX1_forget 6 = .ok (.istore_n 2, 1) := by decide +kernel
theorem dX1_forget_7 : decode cX1_forget 7 = .ok (.aload_n 0, 1) := by decide +kernel
theorem dX1_forget_8 : decode cX1_forget 8 = .ok (.getfield 16, 3) := by decide +kernel
theorem dX1_forget_11 : decode cX1_forget 11 = .ok (.iload_n 1, 1) := by decide +kernel
theorem dX1_forget_12 : decode cX1_forget 12 = .ok (.iconst 1, 1) := by decide +kernel
theorem dX1_forget_13 : decode cX1_forget 13 = .ok (.bastore, 1) := by decide +kernel
theorem dX1_forget_14 : decode cX1_forget 14 = .ok (.iload_n 2, 1) := by decide +kernel
theorem dX1_forget_15 : decode cX1_forget 15 = .ok (.ifCond .ne 7, 3) := by decide +kernel
theorem dX1_forget_18 : decode cX1_forget 18 = .ok (.iconst 1, 1) := by decide +kernel
theorem dX1_forget_19 : decode cX1_forget 19 = .ok (.goto 4, 3) := by decide +kernel
theorem dX1_forget_22 : decode cX1_forget 22 = .ok (.iconst 0, 1) := by decide +kernel
theorem dX1_forget_23 : decode cX1_forget 23 = .ok (.ireturn, 1) := by decide +kernel
theorem dX1_lostPacks_0 : decode cX1_lostPacks 0 = .ok (.iconst 0, 1) := by decide +kernel
theorem dX1_lostPacks_1 : decode cX1_lostPacks 1 = .ok (.istore_n 1, 1) := by decide +kernel
theorem dX1_lostPacks_2 : decode cX1_lostPacks 2 = .ok (.iconst 0, 1) := by decide +kernel
theorem dX1_lostPacks_3 : decode cX1_lostPacks 3 = .ok (.istore_n 2, 1) := by decide +kernel
theorem dX1_lostPacks_4 : decode cX1_lostPacks 4 = .ok (.iload_n 2, 1) := by decide +kernel
theorem dX1_lostPacks_5 : decode cX1_lostPacks 5 = .ok (.bipush 10, 2) := by decide +kernel
theorem dX1_lostPacks_7 : decode cX1_lostPacks 7 = .ok (.if_icmp .ge 21, 3) := by decide +kernel
theorem dX1_lostPacks_10 : decode cX1_lostPacks 10 = .ok (.aload_n 0, 1) := by decide +kernel
theorem dX1_lostPacks_11 : decode cX1_lostPacks 11 = .ok (.getfield 16, 3) := by decide +kernel
theorem dX1_lostPacks_14 : decode cX1_lostPacks 14 = .ok (.iload_n 2, 1) := by decide +kernel
theorem dX1_lostPacks_15 : decode cX1_lostPacks 15 = .ok (.baload, 1) := by decide +kernel
theorem dX1_lostPacks_16 : decode cX1_lostPacks 16 = .ok (.ifCond .eq 6, 3) := by decide +kernel
theorem dX1_lostPacks_19 : decode cX1_lostPacks 19 = .ok (.iinc 1 1, 3) := by decide +kernel
theorem dX1_lostPacks_22 : decode cX1_lostPacks 22 = .ok (.iinc 2 1, 3) := by decide +kernel
theorem dX1_lostPacks_25 : decode cX1_lostPacks 25 = .ok (.goto (-21), 3) := by decide +kernel
theorem dX1_lostPacks_28 : decode cX1_lostPacks 28 = .ok (.iload_n 1, 1) := by decide +kernel
theorem dX1_lostPacks_29 : decode cX1_lostPacks 29 = .ok (.ireturn, 1) := by decide +kernel
theorem dX1_unload_0 : decode cX1_unload 0 = .ok (.aload_n 1, 1) := by decide +kernel
theorem dX1_unload_1 : decode cX1_unload 1 = .ok (.aload_n 0, 1) := by decide +kernel
theorem dX1_unload_2 : decode cX1_unload 2 = .ok (.getfield 10, 3) := by decide +kernel
theorem dX1_unload_5 : decode cX1_unload 5 = .ok (.invokevirtual 20, 3) := by decide +kernel
theorem dX1_unload_8 : decode cX1_unload 8 = .ok (.aload_n 0, 1) := by decide +kernel
theorem dX1_unload_9 : decode cX1_unload 9 = .ok (.getfield 10, 3) := by decide +kernel
theorem dX1_unload_12 : decode cX1_unload 12 = .ok (.invokevirtual 24, 3) := by decide +kernel
theorem dX1_unload_15 : decode cX1_unload 15 = .ok (.invokevirtual 27, 3) := by decide +kernel
theorem dX1_unload_18 : decode cX1_unload 18 = .ok (.aload_n 1, 1) := by decide +kernel
theorem dX1_unload_19 : decode cX1_unload 19 = .ok (.aload_n 0, 1) := by decide +kernel
theorem dX1_unload_20 : decode cX1_unload 20 = .ok (.getfield 10, 3) := by decide +kernel
theorem dX1_unload_23 : decode cX1_unload 23 = .ok (.iconst 0, 1) := by decide +kernel
theorem dX1_unload_24 : decode cX1_unload 24 = .ok (.iconst 0, 1) := by decide +kernel
theorem dX1_unload_25 : decode cX1_unload 25 = .ok (.aload_n 0, 1) := by decide +kernel
theorem dX1_unload_26 : decode cX1_unload 26 = .ok (.getfield 10, 3) := by decide +kernel
theorem dX1_unload_29 : decode cX1_unload 29 = .ok (.invokevirtual 24, 3) := by decide +kernel
theorem dX1_unload_32 : decode cX1_unload 32 = .ok (.invokevirtual 31, 3) := by decide +kernel
theorem dX1_unload_35 : decode cX1_unload 35 = .ok (.iconst 0, 1) := by decide +kernel
theorem dX1_unload_36 : decode cX1_unload 36 = .ok (.istore_n 2, 1) := by decide +kernel
theorem dX1_unload_37 : decode cX1_unload 37 = .ok (.iload_n 2, 1) := by decide +kernel
theorem dX1_unload_38 : decode cX1_unload 38 = .ok (.aload_n 0, 1) := by decide +kernel
theorem dX1_unload_39 : decode cX1_unload 39 = .ok (.getfield 10, 3) := by decide +kernel
theorem dX1_unload_42 : decode cX1_unload 42 = .ok (.invokevirtual 24, 3) := by decide +kernel
theorem dX1_unload_45 : decode cX1_unload 45 = .ok (.if_icmp .ge 25, 3) := by decide +kernel
theorem dX1_unload_48 : decode cX1_unload 48 = .ok (.aload_n 0, 1) := by decide +kernel
theorem dX1_unload_49 : decode cX1_unload 49 = .ok (.iload_n 2, 1) := by decide +kernel
theorem dX1_unload_50 : decode cX1_unload 50 = .ok (.bipush 8, 2) := by decide +kernel
theorem dX1_unload_52 : decode cX1_unload 52 = .ok (.idiv, 1) := by decide +kernel
theorem dX1_unload_53 : decode cX1_unload 53 = .ok (.invokevirtual 42, 3) := by decide +kernel
theorem dX1_unload_56 : decode cX1_unload 56 = .ok (.ifCond .ne 8, 3) := by decide +kernel
theorem dX1_unload_59 : decode cX1_unload 59 = .ok (.aload_n 1, 1) := by decide +kernel
theorem dX1_unload_60 : decode cX1_unload 60 = .ok (.iload_n 2, 1) := by decide +kernel
theorem dX1_unload_61 : decode cX1_unload 61 = .ok (.invokevirtual 46, 3) := by decide +kernel
theorem dX1_unload_64 : decode cX1_unload 64 = .ok (.iinc 2 1, 3) := by decide +kernel
theorem dX1_unload_67 : decode cX1_unload 67 = .ok (.goto (-30), 3) := by decide +kernel
theorem dX1_unload_70 : decode cX1_unload 70 = .ok (.return_, 1) := by decide +kernel
theorem dX1_comes_0 : decode cX1_comes 0 = .ok (.aload_n 0, 1) := by decide +kernel
theorem dX1_comes_1 : decode cX1_comes 1 = .ok (.invokevirtual 39, 3) := by decide +kernel
theorem dX1_comes_4 : decode cX1_comes 4 = .ok (.iload_n 1, 1) := by decide +kernel
theorem dX1_comes_5 : decode cX1_comes 5 = .ok (.iconst 4, 1) := by decide +kernel
theorem dX1_comes_6 : decode cX1_comes 6 = .ok (.idiv, 1) := by decide +kernel
theorem dX1_comes_7 : decode cX1_comes 7 = .ok (.iadd, 1) := by decide +kernel
theorem dX1_comes_8 : decode cX1_comes 8 = .ok (.istore_n 2, 1) := by decide +kernel
theorem dX1_comes_9 : decode cX1_comes 9 = .ok (.aload_n 0, 1) := by decide +kernel
theorem dX1_comes_10 : decode cX1_comes 10 = .ok (.getfield 16, 3) := by decide +kernel
theorem dX1_comes_13 : decode cX1_comes 13 = .ok (.iload_n 1, 1) := by decide +kernel
theorem dX1_comes_14 : decode cX1_comes 14 = .ok (.baload, 1) := by decide +kernel
theorem dX1_comes_15 : decode cX1_comes 15 = .ok (.ifCond .eq 21, 3) := by decide +kernel
theorem dX1_comes_18 : decode cX1_comes 18 = .ok (.aload_n 0, 1) := by decide +kernel
theorem dX1_comes_19 : decode cX1_comes 19 = .ok (.getfield 16, 3) := by decide +kernel
theorem dX1_comes_22 : decode cX1_comes 22 = .ok (.iload_n 2, 1) := by decide +kernel
theorem dX1_comes_23 : decode cX1_comes 23 = .ok (.baload, 1) := by decide +kernel
theorem dX1_comes_24 : decode cX1_comes 24 = .ok (.ifCond .ne 16, 3) := by decide +kernel
theorem dX1_comes_27 : decode cX1_comes 27 = .ok (.aload_n 0, 1) := by decide +kernel
theorem dX1_comes_28 : decode cX1_comes 28 = .ok (.iload_n 1, 1) := by decide +kernel
theorem dX1_comes_29 : decode cX1_comes 29 = .ok (.invokevirtual 50, 3) := by decide +kernel
theorem dX1_comes_32 : decode cX1_comes 32 = .ok (.iconst 1, 1) := by decide +kernel
theorem dX1_comes_33 : decode cX1_comes 33 = .ok (.if_icmp .ne 7, 3) := by decide +kernel
theorem dX1_comes_36 : decode cX1_comes 36 = .ok (.iconst 1, 1) := by decide +kernel
theorem dX1_comes_37 : decode cX1_comes 37 = .ok (.goto 4, 3) := by decide +kernel
theorem dX1_comes_40 : decode cX1_comes 40 = .ok (.iconst 0, 1) := by decide +kernel
theorem dX1_comes_41 : decode cX1_comes 41 = .ok (.ireturn, 1) := by decide +kernel
theorem dX1_lostBeside_0 : decode cX1_lostBeside 0 = .ok (.iload_n 1, 1) := by decide +kernel
theorem dX1_lostBeside_1 : decode cX1_lostBeside 1 = .ok (.iconst 4, 1) := by decide +kernel
theorem dX1_lostBeside_2 : decode cX1_lostBeside 2 = .ok (.idiv, 1) := by decide +kernel
theorem dX1_lostBeside_3 : decode cX1_lostBeside 3 = .ok (.iconst 4, 1) := by decide +kernel
theorem dX1_lostBeside_4 : decode cX1_lostBeside 4 = .ok (.imul, 1) := by decide +kernel
theorem dX1_lostBeside_5 : decode cX1_lostBeside 5 = .ok (.istore_n 2, 1) := by decide +kernel
theorem dX1_lostBeside_6 : decode cX1_lostBeside 6 = .ok (.iconst 0, 1) := by decide +kernel
theorem dX1_lostBeside_7 : decode cX1_lostBeside 7 = .ok (.istore_n 3, 1) := by decide +kernel
theorem dX1_lostBeside_8 : decode cX1_lostBeside 8 = .ok (.iload_n 2, 1) := by decide +kernel
theorem dX1_lostBeside_9 : decode cX1_lostBeside 9 = .ok (.istore 4, 2) := by decide +kernel
theorem dX1_lostBeside_11 : decode cX1_lostBeside 11 = .ok (.iload 4, 2) := by decide +kernel
theorem dX1_lostBeside_13 : decode cX1_lostBeside 13 = .ok (.iload_n 2, 1) := by decide +kernel
theorem dX1_lostBeside_14 : decode cX1_lostBeside 14 = .ok (.iconst 4, 1) := by decide +kernel
theorem dX1_lostBeside_15 : decode cX1_lostBeside 15 = .ok (.iadd, 1) := by decide +kernel
theorem dX1_lostBeside_16 : decode cX1_lostBeside 16 = .ok (.if_icmp .ge 31, 3) := by decide +kernel
theorem dX1_lostBeside_19 : decode cX1_lostBeside 19 = .ok (.iload 4, 2) := by decide +kernel
theorem dX1_lostBeside_21 : decode cX1_lostBeside 21 = .ok (.aload_n 0, 1) := by decide +kernel
theorem dX1_lostBeside_22 : decode cX1_lostBeside 22 = .ok (.invokevirtual 39, 3) := by decide +kernel
theorem dX1_lostBeside_25 : decode cX1_lostBeside 25 = .ok (.if_icmp .ge 22, 3) := by decide +kernel
theorem dX1_lostBeside_28 : decode cX1_lostBeside 28 = .ok (.aload_n 0, 1) := by decide +kernel
theorem dX1_lostBeside_29 : decode cX1_lostBeside 29 = .ok (.getfield 16, 3) := by decide +kernel
theorem dX1_lostBeside_32 : decode cX1_lostBeside 32 = .ok (.iload 4, 2) := by decide +kernel
theorem dX1_lostBeside_34 : decode cX1_lostBeside 34 = .ok (.baload, 1) := by decide +kernel
theorem dX1_lostBeside_35 : decode cX1_lostBeside 35 = .ok (.ifCond .eq 6, 3) := by decide +kernel
theorem dX1_lostBeside_38 : decode cX1_lostBeside 38 = .ok (.iinc 3 1, 3) := by decide +kernel
theorem dX1_lostBeside_41 : decode cX1_lostBeside 41 = .ok (.iinc 4 1, 3) := by decide +kernel
theorem dX1_lostBeside_44 : decode cX1_lostBeside 44 = .ok (.goto (-33), 3) := by decide +kernel
theorem dX1_lostBeside_47 : decode cX1_lostBeside 47 = .ok (.iload_n 3, 1) := by decide +kernel
theorem dX1_lostBeside_48 : decode cX1_lostBeside 48 = .ok (.ireturn, 1) := by decide +kernel
theorem dX2_init_0 : decode cX2_init 0 = .ok (.aload_n 0, 1) := by decide +kernel
theorem dX2_init_1 : decode cX2_init 1 = .ok (.invokespecial 3, 3) := by decide +kernel
theorem dX2_init_4 : decode cX2_init 4 = .ok (.aload_n 0, 1) := by decide +kernel
theorem dX2_init_5 : decode cX2_init 5 = .ok (.bipush 64, 2) := by decide +kernel
theorem dX2_init_7 : decode cX2_init 7 = .ok (.newarray .long, 2) := by decide +kernel
theorem dX2_init_9 : decode cX2_init 9 = .ok (.putfield 9, 3) := by decide +kernel
theorem dX2_init_12 : decode cX2_init 12 = .ok (.aload_n 0, 1) := by decide +kernel
theorem dX2_init_13 : decode cX2_init 13 = .ok (.bipush 64, 2) := by decide +kernel
theorem dX2_init_15 : decode cX2_init 15 = .ok (.newarray .long, 2) := by decide +kernel
theorem dX2_init_17 : decode cX2_init 17 = .ok (.putfield 15, 3) := by decide +kernel
theorem dX2_init_20 : decode cX2_init 20 = .ok (.aload_n 0, 1) := by decide +kernel
theorem dX2_init_21 : decode cX2_init 21 = .ok (.bipush 64, 2) := by decide +kernel
theorem dX2_init_23 : decode cX2_init 23 = .ok (.newarray .int, 2) := by decide +kernel
theorem dX2_init_25 : decode cX2_init 25 = .ok (.putfield 18, 3) := by decide +kernel
theorem dX2_init_28 : decode cX2_init 28 = .ok (.aload_n 0, 1) := by decide +kernel
theorem dX2_init_29 : decode cX2_init 29 = .ok (.bipush 64, 2) := by decide +kernel
theorem dX2_init_31 : decode cX2_init 31 = .ok (.newarray .long, 2) := by decide +kernel
theorem dX2_init_33 : decode cX2_init 33 = .ok (.putfield 22, 3) := by decide +kernel
theorem dX2_init_36 : decode cX2_init 36 = .ok (.return_, 1) := by decide +kernel
theorem dX2_size_0 : decode cX2_size 0 = .ok (.aload_n 0, 1) := by decide +kernel
theorem dX2_size_1 : decode cX2_size 1 = .ok (.getfield 25, 3) := by decide +kernel
theorem dX2_size_4 : decode cX2_size 4 = .ok (.ireturn, 1) := by decide +kernel
theorem dX2_valueAt_0 : decode cX2_valueAt 0 = .ok (.aload_n 0, 1) := by decide +kernel
theorem dX2_valueAt_1 : decode cX2_valueAt 1 = .ok (.getfield 9, 3) := by decide +kernel
theorem dX2_valueAt_4 : decode cX2_valueAt 4 = .ok (.iload_n 1, 1) := by decide +kernel
theorem dX2_valueAt_5 : decode cX2_valueAt 5 = .ok (.laload, 1) := by decide +kernel
theorem dX2_valueAt_6 : decode cX2_valueAt 6 = .ok (.lreturn, 1) := by decide +kernel
theorem dX2_take_0 : decode cX2_take 0 = .ok (.aload_n 0, 1) := by decide +kernel
theorem dX2_take_1 : decode cX2_take 1 = .ok (.aload_n 1, 1) := by decide +kernel
theorem dX2_take_2 : decode cX2_take 2 = .ok (.invokevirtual 29, 3) := by decide +kernel
theorem dX2_take_5 : decode cX2_take 5 = .ok (.putfield 25, 3) := by decide +kernel
theorem dX2_take_8 : decode cX2_take 8 = .ok (.iconst 0, 1) := by decide +kernel
theorem dX2_take_9 : decode cX2_take 9 = .ok (.istore_n 2, 1) := by decide +kernel
theorem dX2_take_10 : decode cX2_take 10 = .ok (.iload_n 2, 1) := by decide +kernel
theorem dX2_take_11 : decode cX2_take 11 = .ok (.aload_n 0, 1) := by decide +kernel
theorem dX2_take_12 : decode cX2_take 12 = .ok (.getfield 25, 3) := by decide +kernel
theorem dX2_take_15 : decode cX2_take 15 = .ok (.if_icmp .ge 21, 3) := by decide +kernel
theorem dX2_take_18 : decode cX2_take 18 = .ok (.aload_n 0, 1) := by decide +kernel
theorem dX2_take_19 : decode cX2_take 19 = .ok (.getfield 9, 3) := by decide +kernel
theorem dX2_take_22 : decode cX2_take 22 = .ok (.iload_n 2, 1) := by decide +kernel
theorem dX2_take_23 : decode cX2_take 23 = .ok (.aload_n 1, 1) := by decide +kernel
theorem dX2_take_24 : decode cX2_take 24 = .ok (.iload_n 2, 1) := by decide +kernel
theorem dX2_take_25 : decode cX2_take 25 = .ok (.invokevirtual 34, 3) := by decide +kernel
theorem dX2_take_28 : decode cX2_take 28 = .ok (.i2l, 1) := by decide +kernel
theorem dX2_take_29 : decode cX2_take 29 = .ok (.lastore, 1) := by decide +kernel
theorem dX2_take_30 : decode cX2_take 30 = .ok (.iinc 2 1, 3) := by decide +kernel
theorem dX2_take_33 : decode cX2_take 33 = .ok (.goto (-23), 3) := by decide +kernel
theorem dX2_take_36 : decode cX2_take 36 = .ok (.return_, 1) := by decide +kernel
theorem dX2_change_0 : decode cX2_change 0 = .ok (.iload_n 1, 1) := by decide +kernel
theorem dX2_change_1 : decode cX2_change 1 = .ok (.iconst 1, 1) := by decide +kernel
theorem dX2_change_2 : decode cX2_change 2 = .ok (.if_icmp .eq 8, 3) := by decide +kernel
theorem dX2_change_5 : decode cX2_change 5 = .ok (.iload_n 1, 1) := by decide +kernel
theorem dX2_change_6 : decode cX2_change 6 = .ok (.iconst 2, 1) := by decide +kernel
theorem dX2_change_7 : decode cX2_change 7 = .ok (.if_icmp .ne 7, 3) := by decide +kernel
theorem dX2_change_10 : decode cX2_change 10 = .ok (.iconst 1, 1) := by decide +kernel
theorem dX2_change_11 : decode cX2_change 11 = .ok (.goto 4, 3) := by decide +kernel
theorem dX2_change_14 : decode cX2_change 14 = .ok (.iconst 0, 1) := by decide +kernel
theorem dX2_change_15 : decode cX2_change 15 = .ok (.istore_n 2, 1) := by decide +kernel
theorem dX2_change_16 : decode cX2_change 16 = .ok (.iload_n 2, 1) := by decide +kernel
theorem dX2_change_17 : decode cX2_change 17 = .ok (.ifCond .eq 11, 3) := by decide +kernel
theorem dX2_change_20 : decode cX2_change 20 = .ok (.aload_n 0, 1) := by decide +kernel
theorem dX2_change_21 : decode cX2_change 21 = .ok (.getfield 25, 3) := by decide +kernel
theorem dX2_change_24 : decode cX2_change 24 = .ok (.iconst 2, 1) := by decide +kernel
theorem dX2_change_25 : decode cX2_change 25 = .ok (.if_icmp .lt 15, 3) := by decide +kernel
theorem dX2_change_28 : decode cX2_change 28 = .ok (.iload_n 1, 1) := by decide +kernel
theorem dX2_change_29 : decode cX2_change 29 = .ok (.iconst 3, 1) := by decide +kernel
theorem dX2_change_30 : decode cX2_change 30 = .ok (.if_icmp .ne 13, 3) := by decide +kernel
theorem dX2_change_33 : decode cX2_change 33 = .ok (.aload_n 0, 1) := by decide +kernel
theorem dX2_change_34 : decode cX2_change 34 = .ok (.invokevirtual 38, 3) := by decide +kernel
theorem dX2_change_37 : decode cX2_change 37 = .ok (.ifCond .ne 6, 3) := by decide +kernel
theorem dX2_change_40 : decode cX2_change 40 = .ok (.bipush (-3), 2) := by decide +kernel
theorem dX2_change_42 : decode cX2_change 42 = .ok (.ireturn, 1) := by decide +kernel
theorem dX2_change_43 : decode cX2_change 43 = .ok (.iload_n 2, 1) := by decide +kernel
theorem dX2_change_44 : decode cX2_change 44 = .ok (.ifCond .eq 16, 3) := by decide +kernel
theorem dX2_change_47 : decode cX2_change 47 = .ok (.aload_n 0, 1) := by decide +kernel
theorem dX2_change_48 : decode cX2_change 48 = .ok (.ldc2_w 42, 3) := by decide +kernel
theorem dX2_change_51 : decode cX2_change 51 = .ok (.invokevirtual 44, 3) := by decide +kernel
theorem dX2_change_54 : decode cX2_change 54 = .ok (.ifCond .eq 6, 3) := by decide +kernel
theorem dX2_change_57 : decode cX2_change 57 = .ok (.bipush (-16), 2) := by decide +kernel
theorem dX2_change_59 : decode cX2_change 59 = .ok (.ireturn, 1) := by decide +kernel
theorem dX2_change_60 : decode cX2_change 60 = .ok (.iload_n 1, 1) := by decide +kernel
theorem dX2_change_61 : decode cX2_change 61 = .ok (.tableswitch 48 0 2 #[27, 34, 41], 27) := by decide +kernel
theorem dX2_change_88 : decode cX2_change 88 = .ok (.aload_n 0, 1) := by decide +kernel
theorem dX2_change_89 : decode cX2_change 89 = .ok (.invokevirtual 48, 3) := by decide +kernel
theorem dX2_change_92 : decode cX2_change 92 = .ok (.goto 21, 3) := by decide +kernel
theorem dX2_change_95 : decode cX2_change 95 = .ok (.aload_n 0, 1) := by decide +kernel
theorem dX2_change_96 : decode cX2_change 96 = .ok (.invokevirtual 51, 3) := by decide +kernel
theorem dX2_change_99 : decode cX2_change 99 = .ok (.goto 14, 3) := by decide +kernel
theorem dX2_change_102 : decode cX2_change 102 = .ok (.aload_n 0, 1) := by decide +kernel
theorem dX2_change_103 : decode cX2_change 103 = .ok (.invokevirtual 54, 3) := by decide +kernel
theorem dX2_change_106 : decode cX2_change 106 = .ok (.goto 7, 3) := by decide +kernel
theorem dX2_change_109 : decode cX2_change 109 = .ok (.aload_n 0, 1) := by decide +kernel
theorem dX2_change_110 : decode cX2_change 110 = .ok (.invokevirtual 57, 3) := by decide +kernel
theorem dX2_change_113 : decode cX2_change 113 = .ok (.aload_n 0, 1) := by decide +kernel
theorem dX2_change_114 : decode cX2_change 114 = .ok (.invokevirtual 60, 3) := by decide +kernel
theorem dX2_change_117 : decode cX2_change 117 = .ok (.ireturn, 1) := by decide +kernel
theorem dX2_isPowerOfTwo_0 : decode cX2_isPowerOfTwo 0 = .ok (.aload_n 0, 1) := by decide +kernel
theorem dX2_isPowerOfTwo_1 : decode cX2_isPowerOfTwo 1 = .ok (.getfield 25, 3) := by decide +kernel
theorem dX2_isPowerOfTwo_4 : decode cX2_isPowerOfTwo 4 = .ok (.ifCond .le 21, 3) := by decide +kernel
theorem dX2_isPowerOfTwo_7 : decode cX2_isPowerOfTwo 7 = .ok (.aload_n 0, 1) := by decide +kernel
theorem dX2_isPowerOfTwo_8 : decode cX2_isPowerOfTwo 8 = .ok (.getfield 25, 3) := by decide +kernel
theorem dX2_isPowerOfTwo_11 : decode cX2_isPowerOfTwo 11 = .ok (.aload_n 0, 1) := by decide +kernel
theorem dX2_isPowerOfTwo_12 : decode cX2_isPowerOfTwo 12 = .ok (.getfield 25, 3) := by decide +kernel
theorem dX2_isPowerOfTwo_15 : decode cX2_isPowerOfTwo 15 = .ok (.iconst 1, 1) := by decide +kernel
theorem dX2_isPowerOfTwo_16 : decode cX2_isPowerOfTwo 16 = .ok (.isub, 1) := by decide +kernel
theorem dX2_isPowerOfTwo_17 : decode cX2_isPowerOfTwo 17 = .ok (.iand, 1) := by decide +kernel
theorem dX2_isPowerOfTwo_18 : decode cX2_isPowerOfTwo 18 = .ok (.ifCond .ne 7, 3) := by decide +kernel
theorem dX2_isPowerOfTwo_21 : decode cX2_isPowerOfTwo 21 = .ok (.iconst 1, 1) := by decide +kernel
theorem dX2_isPowerOfTwo_22 : decode cX2_isPowerOfTwo 22 = .ok (.goto 4, 3) := by decide +kernel
theorem dX2_isPowerOfTwo_25 : decode cX2_isPowerOfTwo 25 = .ok (.iconst 0, 1) := by decide +kernel
theorem dX2_isPowerOfTwo_26 : decode cX2_isPowerOfTwo 26 = .ok (.ireturn, 1) := by decide +kernel
theorem dX2_makeLevel_0 : decode cX2_makeLevel 0 = .ok (.aload_n 0, 1) := by decide +kernel
theorem dX2_makeLevel_1 : decode cX2_makeLevel 1 = .ok (.invokevirtual 63, 3) := by decide +kernel
theorem dX2_makeLevel_4 : decode cX2_makeLevel 4 = .ok (.lstore_n 1, 1) := by decide +kernel
theorem dX2_makeLevel_5 : decode cX2_makeLevel 5 = .ok (.iconst 0, 1) := by decide +kernel
theorem dX2_makeLevel_6 : decode cX2_makeLevel 6 = .ok (.istore_n 3, 1) := by decide +kernel
theorem dX2_makeLevel_7 : decode cX2_makeLevel 7 = .ok (.iload_n 3, 1) := by decide +kernel
theorem dX2_makeLevel_8 : decode cX2_makeLevel 8 = .ok (.aload_n 0, 1) := by decide +kernel
theorem dX2_makeLevel_9 : decode cX2_makeLevel 9 = .ok (.getfield 25, 3) := by decide +kernel
theorem dX2_makeLevel_12 : decode cX2_makeLevel 12 = .ok (.if_icmp .ge 29, 3) := by decide +kernel
theorem dX2_makeLevel_15 : decode cX2_makeLevel 15 = .ok (.aload_n 0, 1) := by decide +kernel
theorem dX2_makeLevel_16 : decode cX2_makeLevel 16 = .ok (.getfield 15, 3) := by decide +kernel
theorem dX2_makeLevel_19 : decode cX2_makeLevel 19 = .ok (.iload_n 3, 1) := by decide +kernel
theorem dX2_makeLevel_20 : decode cX2_makeLevel 20 = .ok (.aload_n 0, 1) := by decide +kernel
theorem dX2_makeLevel_21 : decode cX2_makeLevel 21 = .ok (.getfield 25, 3) := by decide +kernel
theorem dX2_makeLevel_24 : decode cX2_makeLevel 24 = .ok (.i2l, 1) := by decide +kernel
theorem dX2_makeLevel_25 : decode cX2_makeLevel 25 = .ok (.aload_n 0, 1) := by decide +kernel
theorem dX2_makeLevel_26 : decode cX2_makeLevel 26 = .ok (.getfield 9, 3) := by decide +kernel
theorem dX2_makeLevel_29 : decode cX2_makeLevel 29 = .ok (.iload_n 3, 1) := by decide +kernel
theorem dX2_makeLevel_30 : decode cX2_makeLevel 30 = .ok (.laload, 1) := by decide +kernel
theorem dX2_makeLevel_31 : decode cX2_makeLevel 31 = .ok (.lmul, 1) := by decide +kernel
theorem dX2_makeLevel_32 : decode cX2_makeLevel 32 = .ok (.lload_n 1, 1) := by decide +kernel
theorem dX2_makeLevel_33 : decode cX2_makeLevel 33 = .ok (.lsub, 1) := by decide +kernel
theorem dX2_makeLevel_34 : decode cX2_makeLevel 34 = .ok (.lastore, 1) := by decide +kernel
theorem dX2_makeLevel_35 : decode cX2_makeLevel 35 = .ok (.iinc 3 1, 3) := by decide +kernel
theorem dX2_makeLevel_38 : decode cX2_makeLevel 38 = .ok (.goto (-31), 3) := by decide +kernel
theorem dX2_makeLevel_41 : decode cX2_makeLevel 41 = .ok (.return_, 1) := by decide +kernel
theorem dX2_makeFlat_0 : decode cX2_makeFlat 0 = .ok (.aload_n 0, 1) := by decide +kernel
theorem dX2_makeFlat_1 : decode cX2_makeFlat 1 = .ok (.getfield 25, 3) := by decide +kernel
theorem dX2_makeFlat_4 : decode cX2_makeFlat 4 = .ok (.i2l, 1) := by decide +kernel
theorem dX2_makeFlat_5 : decode cX2_makeFlat 5 = .ok (.lstore_n 1, 1) := by decide +kernel
theorem dX2_makeFlat_6 : decode cX2_makeFlat 6 = .ok (.lload_n 1, 1) := by decide +kernel
theorem dX2_makeFlat_7 : decode cX2_makeFlat 7 = .ok (.lload_n 1, 1) := by decide +kernel
theorem dX2_makeFlat_8 : decode cX2_makeFlat 8 = .ok (.lmul, 1) := by decide +kernel
theorem dX2_makeFlat_9 : decode cX2_makeFlat 9 = .ok (.lconst 1, 1) := by decide +kernel
theorem dX2_makeFlat_10 : decode cX2_makeFlat 10 = .ok (.lsub, 1) := by decide +kernel
theorem dX2_makeFlat_11 : decode cX2_makeFlat 11 = .ok (.lstore_n 3, 1) := by decide +kernel
theorem dX2_makeFlat_12 : decode cX2_makeFlat 12 = .ok (.aload_n 0, 1) := by decide +kernel
theorem dX2_makeFlat_13 : decode cX2_makeFlat 13 = .ok (.invokevirtual 63, 3) := by decide +kernel
theorem dX2_makeFlat_16 : decode cX2_makeFlat 16 = .ok (.lstore 5, 2) := by decide +kernel
theorem dX2_makeFlat_18 : decode cX2_makeFlat 18 = .ok (.lconst 0, 1) := by decide +kernel
theorem dX2_makeFlat_19 : decode cX2_makeFlat 19 = .ok (.lstore 7, 2) := by decide +kernel
theorem dX2_makeFlat_21 : decode cX2_makeFlat 21 = .ok (.iconst 0, 1) := by decide +kernel
theorem dX2_makeFlat_22 : decode cX2_makeFlat 22 = .ok (.istore 9, 2) := by decide +kernel
theorem dX2_makeFlat_24 : decode cX2_makeFlat 24 = .ok (.iload 9, 2) := by decide +kernel
theorem dX2_makeFlat_26 : decode cX2_makeFlat 26 = .ok (.aload_n 0, 1) := by decide +kernel
theorem dX2_makeFlat_27 : decode cX2_makeFlat 27 = .ok (.getfield 25, 3) := by decide +kernel
theorem dX2_makeFlat_30 : decode cX2_makeFlat 30 = .ok (.if_icmp .ge 31, 3) := by decide +kernel
theorem dX2_makeFlat_33 : decode cX2_makeFlat 33 = .ok (.lload 7, 2) := by decide +kernel
theorem dX2_makeFlat_35 : decode cX2_makeFlat 35 = .ok (.iconst 2, 1) := by decide +kernel
theorem dX2_makeFlat_36 : decode cX2_makeFlat 36 = .ok (.iload 9, 2) := by decide +kernel
theorem dX2_makeFlat_38 : decode cX2_makeFlat 38 = .ok (.imul, 1) := by decide +kernel
theorem dX2_makeFlat_39 : decode cX2_makeFlat 39 = .ok (.i2l, 1) := by decide +kernel
theorem dX2_makeFlat_40 : decode cX2_makeFlat 40 = .ok (.lload_n 1, 1) := by decide +kernel
theorem dX2_makeFlat_41 : decode cX2_makeFlat 41 = .ok (.lsub, 1) := by decide +kernel
theorem dX2_makeFlat_42 : decode cX2_makeFlat 42 = .ok (.lconst 1, 1) := by decide +kernel
theorem dX2_makeFlat_43 : decode cX2_makeFlat 43 = .ok (.ladd, 1) := by decide +kernel
theorem dX2_makeFlat_44 : decode cX2_makeFlat 44 = .ok (.aload_n 0, 1) := by decide +kernel
theorem dX2_makeFlat_45 : decode cX2_makeFlat 45 = .ok (.getfield 9, 3) := by decide +kernel
theorem dX2_makeFlat_48 : decode cX2_makeFlat 48 = .ok (.iload 9, 2) := by decide +kernel
theorem dX2_makeFlat_50 : decode cX2_makeFlat 50 = .ok (.laload, 1) := by decide +kernel
theorem dX2_makeFlat_51 : decode cX2_makeFlat 51 = .ok (.lmul, 1) := by decide +kernel
theorem dX2_makeFlat_52 : decode cX2_makeFlat 52 = .ok (.ladd, 1) := by decide +kernel
theorem dX2_makeFlat_53 : decode cX2_makeFlat 53 = .ok (.lstore 7, 2) := by decide +kernel
theorem dX2_makeFlat_55 : decode cX2_makeFlat 55 = .ok (.iinc 9 1, 3) := by decide +kernel
theorem dX2_makeFlat_58 : decode cX2_makeFlat 58 = .ok (.goto (-34), 3) := by decide +kernel
theorem dX2_makeFlat_61 : decode cX2_makeFlat 61 = .ok (.iconst 0, 1) := by decide +kernel
theorem dX2_makeFlat_62 : decode cX2_makeFlat 62 = .ok (.istore 9, 2) := by decide +kernel
theorem dX2_makeFlat_64 : decode cX2_makeFlat 64 = .ok (.iload 9, 2) := by decide +kernel
theorem dX2_makeFlat_66 : decode cX2_makeFlat 66 = .ok (.aload_n 0, 1) := by decide +kernel
theorem dX2_makeFlat_67 : decode cX2_makeFlat 67 = .ok (.getfield 25, 3) := by decide +kernel
theorem dX2_makeFlat_70 : decode cX2_makeFlat 70 = .ok (.if_icmp .ge 49, 3) := by decide +kernel
theorem dX2_makeFlat_73 : decode cX2_makeFlat 73 = .ok (.aload_n 0, 1) := by decide +kernel
theorem dX2_makeFlat_74 : decode cX2_makeFlat 74 = .ok (.getfield 15, 3) := by decide +kernel
theorem dX2_makeFlat_77 : decode cX2_makeFlat 77 = .ok (.iload 9, 2) := by decide +kernel
theorem dX2_makeFlat_79 : decode cX2_makeFlat 79 = .ok (.lload_n 1, 1) := by decide +kernel
theorem dX2_makeFlat_80 : decode cX2_makeFlat 80 = .ok (.lload_n 3, 1) := by decide +kernel
theorem dX2_makeFlat_81 : decode cX2_makeFlat 81 = .ok (.lmul, 1) := by decide +kernel
theorem dX2_makeFlat_82 : decode cX2_makeFlat 82 = .ok (.aload_n 0, 1) := by decide +kernel
theorem dX2_makeFlat_83 : decode cX2_makeFlat 83 = .ok (.getfield 9, 3) := by decide +kernel
theorem dX2_makeFlat_86 : decode cX2_makeFlat 86 = .ok (.iload 9, 2) := by decide +kernel
theorem dX2_makeFlat_88 : decode cX2_makeFlat 88 = .ok (.laload, 1) := by decide +kernel
theorem dX2_makeFlat_89 : decode cX2_makeFlat 89 = .ok (.lmul, 1) := by decide +kernel
theorem dX2_makeFlat_90 : decode cX2_makeFlat 90 = .ok (.lload_n 3, 1) := by decide +kernel
theorem dX2_makeFlat_91 : decode cX2_makeFlat 91 = .ok (.lload 5, 2) := by decide +kernel
theorem dX2_makeFlat_93 : decode cX2_makeFlat 93 = .ok (.lmul, 1) := by decide +kernel
theorem dX2_makeFlat_94 : decode cX2_makeFlat 94 = .ok (.lsub, 1) := by decide +kernel
theorem dX2_makeFlat_95 : decode cX2_makeFlat 95 = .ok (.ldc2_w 67, 3) := by decide +kernel
theorem dX2_makeFlat_98 : decode cX2_makeFlat 98 = .ok (.iconst 2, 1) := by decide +kernel
theorem dX2_makeFlat_99 : decode cX2_makeFlat 99 = .ok (.iload 9, 2) := by decide +kernel
theorem dX2_makeFlat_101 : decode cX2_makeFlat 101 = .ok (.imul, 1) := by decide +kernel
theorem dX2_makeFlat_102 : decode cX2_makeFlat 102 = .ok (.i2l, 1) := by decide +kernel
theorem dX2_makeFlat_103 : decode cX2_makeFlat 103 = .ok (.lload_n 1, 1) := by decide +kernel
theorem dX2_makeFlat_104 : decode cX2_makeFlat 104 = .ok (.lsub, 1) := by decide +kernel
theorem dX2_makeFlat_105 : decode cX2_makeFlat 105 = .ok (.lconst 1, 1) := by decide +kernel
theorem dX2_makeFlat_106 : decode cX2_makeFlat 106 = .ok (.ladd, 1) := by decide +kernel
theorem dX2_makeFlat_107 : decode cX2_makeFlat 107 = .ok (.lmul, 1) := by decide +kernel
theorem dX2_makeFlat_108 : decode cX2_makeFlat 108 = .ok (.lload 7, 2) := by decide +kernel
theorem dX2_makeFlat_110 : decode cX2_makeFlat 110 = .ok (.lmul, 1) := by decide +kernel
theorem dX2_makeFlat_111 : decode cX2_makeFlat 111 = .ok (.lsub, 1) := by decide +kernel
theorem dX2_makeFlat_112 : decode cX2_makeFlat 112 = .ok (.lastore, 1) := by decide +kernel
theorem dX2_makeFlat_113 : decode cX2_makeFlat 113 = .ok (.iinc 9 1, 3) := by decide +kernel
theorem dX2_makeFlat_116 : decode cX2_makeFlat 116 = .ok (.goto (-52), 3) := by decide +kernel
theorem dX2_makeFlat_119 : decode cX2_makeFlat 119 = .ok (.return_, 1) := by decide +kernel
theorem dX2_makeTwice_0 : decode cX2_makeTwice 0 = .ok (.lconst 0, 1) := by decide +kernel
theorem dX2_makeTwice_1 : decode cX2_makeTwice 1 = .ok (.lstore_n 1, 1) := by decide +kernel
theorem dX2_makeTwice_2 : decode cX2_makeTwice 2 = .ok (.lconst 0, 1) := by decide +kernel
theorem dX2_makeTwice_3 : decode cX2_makeTwice 3 = .ok (.lstore_n 3, 1) := by decide +kernel
theorem dX2_makeTwice_4 : decode cX2_makeTwice 4 = .ok (.iconst 0, 1) := by decide +kernel
theorem dX2_makeTwice_5 : decode cX2_makeTwice 5 = .ok (.istore 5, 2) := by decide +kernel
theorem dX2_makeTwice_7 : decode cX2_makeTwice 7 = .ok (.iload 5, 2) := by decide +kernel
theorem dX2_makeTwice_9 : decode cX2_makeTwice 9 = .ok (.aload_n 0, 1) := by decide +kernel
theorem dX2_makeTwice_10 : decode cX2_makeTwice 10 = .ok (.getfield 25, 3) := by decide +kernel
theorem dX2_makeTwice_13 : decode cX2_makeTwice 13 = .ok (.if_icmp .ge 31, 3) := by decide +kernel
theorem dX2_makeTwice_16 : decode cX2_makeTwice 16 = .ok (.aload_n 0, 1) := by decide +kernel
theorem dX2_makeTwice_17 : decode cX2_makeTwice 17 = .ok (.getfield 15, 3) := by decide +kernel
theorem dX2_makeTwice_20 : decode cX2_makeTwice 20 = .ok (.iload 5, 2) := by decide +kernel
theorem dX2_makeTwice_22 : decode cX2_makeTwice 22 = .ok (.lload_n 3, 1) := by decide +kernel
theorem dX2_makeTwice_23 : decode cX2_makeTwice 23 = .ok (.lastore, 1) := by decide +kernel
theorem dX2_makeTwice_24 : decode cX2_makeTwice 24 = .ok (.lload_n 1, 1) := by decide +kernel
theorem dX2_makeTwice_25 : decode cX2_makeTwice 25 = .ok (.aload_n 0, 1) := by decide +kernel
theorem dX2_makeTwice_26 : decode cX2_makeTwice 26 = .ok (.getfield 9, 3) := by decide +kernel
theorem dX2_makeTwice_29 : decode cX2_makeTwice 29 = .ok (.iload 5, 2) := by decide +kernel
theorem dX2_makeTwice_31 : decode cX2_makeTwice 31 = .ok (.laload, 1) := by decide +kernel
theorem dX2_makeTwice_32 : decode cX2_makeTwice 32 = .ok (.ladd, 1) := by decide +kernel
theorem dX2_makeTwice_33 : decode cX2_makeTwice 33 = .ok (.lstore_n 1, 1) := by decide +kernel
theorem dX2_makeTwice_34 : decode cX2_makeTwice 34 = .ok (.lload_n 3, 1) := by decide +kernel
theorem dX2_makeTwice_35 : decode cX2_makeTwice 35 = .ok (.lload_n 1, 1) := by decide +kernel
theorem dX2_makeTwice_36 : decode cX2_makeTwice 36 = .ok (.ladd, 1) := by decide +kernel
theorem dX2_makeTwice_37 : decode cX2_makeTwice 37 = .ok (.lstore_n 3, 1) := by decide +kernel
theorem dX2_makeTwice_38 : decode cX2_makeTwice 38 = .ok (.iinc 5 1, 3) := by decide +kernel
theorem dX2_makeTwice_41 : decode cX2_makeTwice 41 = .ok (.goto (-34), 3) := by decide +kernel
theorem dX2_makeTwice_44 : decode cX2_makeTwice 44 = .ok (.aload_n 0, 1) := by decide +kernel
theorem dX2_makeTwice_45 : decode cX2_makeTwice 45 = .ok (.getfield 25, 3) := by decide +kernel
theorem dX2_makeTwice_48 : decode cX2_makeTwice 48 = .ok (.ifCond .le 17, 3) := by decide +kernel
theorem dX2_makeTwice_51 : decode cX2_makeTwice 51 = .ok (.aload_n 0, 1) := by decide +kernel
theorem dX2_makeTwice_52 : decode cX2_makeTwice 52 = .ok (.getfield 15, 3) := by decide +kernel
theorem dX2_makeTwice_55 : decode cX2_makeTwice 55 = .ok (.aload_n 0, 1) := by decide +kernel
theorem dX2_makeTwice_56 : decode cX2_makeTwice 56 = .ok (.getfield 25, 3) := by decide +kernel
theorem dX2_makeTwice_59 : decode cX2_makeTwice 59 = .ok (.iconst 1, 1) := by decide +kernel
theorem dX2_makeTwice_60 : decode cX2_makeTwice 60 = .ok (.isub, 1) := by decide +kernel
theorem dX2_makeTwice_61 : decode cX2_makeTwice 61 = .ok (.laload, 1) := by decide +kernel
theorem dX2_makeTwice_62 : decode cX2_makeTwice 62 = .ok (.goto 4, 3) := by decide +kernel
theorem dX2_makeTwice_65 : decode cX2_makeTwice 65 = .ok (.lconst 0, 1) := by decide +kernel
theorem dX2_makeTwice_66 : decode cX2_makeTwice 66 = .ok (.lstore 5, 2) := by decide +kernel
theorem dX2_makeTwice_68 : decode cX2_makeTwice 68 = .ok (.iconst 0, 1) := by decide +kernel
theorem dX2_makeTwice_69 : decode cX2_makeTwice 69 = .ok (.istore 7, 2) := by decide +kernel
theorem dX2_makeTwice_71 : decode cX2_makeTwice 71 = .ok (.iload 7, 2) := by decide +kernel
theorem dX2_makeTwice_73 : decode cX2_makeTwice 73 = .ok (.aload_n 0, 1) := by decide +kernel
theorem dX2_makeTwice_74 : decode cX2_makeTwice 74 = .ok (.getfield 25, 3) := by decide +kernel
theorem dX2_makeTwice_77 : decode cX2_makeTwice 77 = .ok (.if_icmp .ge 38, 3) := by decide +kernel
theorem dX2_makeTwice_80 : decode cX2_makeTwice 80 = .ok (.aload_n 0, 1) := by decide +kernel
theorem dX2_makeTwice_81 : decode cX2_makeTwice 81 = .ok (.getfield 15, 3) := by decide +kernel
theorem dX2_makeTwice_84 : decode cX2_makeTwice 84 = .ok (.iload 7, 2) := by decide +kernel
theorem dX2_makeTwice_86 : decode cX2_makeTwice 86 = .ok (.aload_n 0, 1) := by decide +kernel
theorem dX2_makeTwice_87 : decode cX2_makeTwice 87 = .ok (.getfield 25, 3) := by decide +kernel
theorem dX2_makeTwice_90 : decode cX2_makeTwice 90 = .ok (.iconst 1, 1) := by decide +kernel
theorem dX2_makeTwice_91 : decode cX2_makeTwice 91 = .ok (.isub, 1) := by decide +kernel
theorem dX2_makeTwice_92 : decode cX2_makeTwice 92 = .ok (.i2l, 1) := by decide +kernel
theorem dX2_makeTwice_93 : decode cX2_makeTwice 93 = .ok (.aload_n 0, 1) := by decide +kernel
theorem dX2_makeTwice_94 : decode cX2_makeTwice 94 = .ok (.getfield 15, 3) := by decide +kernel
theorem dX2_makeTwice_97 : decode cX2_makeTwice 97 = .ok (.iload 7, 2) := by decide +kernel
theorem dX2_makeTwice_99 : decode cX2_makeTwice 99 = .ok (.laload, 1) := by decide +kernel
theorem dX2_makeTwice_100 : decode cX2_makeTwice 100 = .ok (.lmul, 1) := by decide +kernel
theorem dX2_makeTwice_101 : decode cX2_makeTwice 101 = .ok (.iload 7, 2) := by decide +kernel
theorem dX2_makeTwice_103 : decode cX2_makeTwice 103 = .ok (.i2l, 1) := by decide +kernel
theorem dX2_makeTwice_104 : decode cX2_makeTwice 104 = .ok (.lload 5, 2) := by decide +kernel
theorem dX2_makeTwice_106 : decode cX2_makeTwice 106 = .ok (.lmul, 1) := by decide +kernel
theorem dX2_makeTwice_107 : decode cX2_makeTwice 107 = .ok (.lsub, 1) := by decide +kernel
theorem dX2_makeTwice_108 : decode cX2_makeTwice 108 = .ok (.lastore, 1) := by decide +kernel
theorem dX2_makeTwice_109 : decode cX2_makeTwice 109 = .ok (.iinc 7 1, 3) := by decide +kernel
theorem dX2_makeTwice_112 : decode cX2_makeTwice 112 = .ok (.goto (-41), 3) := by decide +kernel
theorem dX2_makeTwice_115 : decode cX2_makeTwice 115 = .ok (.return_, 1) := by decide +kernel
theorem dX2_makeTones_0 : decode cX2_makeTones 0 = .ok (.iconst 0, 1) := by decide +kernel
theorem dX2_makeTones_1 : decode cX2_makeTones 1 = .ok (.istore_n 1, 1) := by decide +kernel
theorem dX2_makeTones_2 : decode cX2_makeTones 2 = .ok (.iload_n 1, 1) := by decide +kernel
theorem dX2_makeTones_3 : decode cX2_makeTones 3 = .ok (.aload_n 0, 1) := by decide +kernel
theorem dX2_makeTones_4 : decode cX2_makeTones 4 = .ok (.getfield 25, 3) := by decide +kernel
theorem dX2_makeTones_7 : decode cX2_makeTones 7 = .ok (.if_icmp .ge 88, 3) := by decide +kernel
theorem dX2_makeTones_10 : decode cX2_makeTones 10 = .ok (.aload_n 0, 1) := by decide +kernel
theorem dX2_makeTones_11 : decode cX2_makeTones 11 = .ok (.iload_n 1, 1) := by decide +kernel
theorem dX2_makeTones_12 : decode cX2_makeTones 12 = .ok (.invokevirtual 69, 3) := by decide +kernel
theorem dX2_makeTones_15 : decode cX2_makeTones 15 = .ok (.istore_n 2, 1) := by decide +kernel
theorem dX2_makeTones_16 : decode cX2_makeTones 16 = .ok (.lconst 0, 1) := by decide +kernel
theorem dX2_makeTones_17 : decode cX2_makeTones 17 = .ok (.lstore_n 3, 1) := by decide +kernel
theorem dX2_makeTones_18 : decode cX2_makeTones 18 = .ok (.iconst 0, 1) := by decide +kernel
theorem dX2_makeTones_19 : decode cX2_makeTones 19 = .ok (.istore 5, 2) := by decide +kernel
theorem dX2_makeTones_21 : decode cX2_makeTones 21 = .ok (.iload 5, 2) := by decide +kernel
theorem dX2_makeTones_23 : decode cX2_makeTones 23 = .ok (.aload_n 0, 1) := by decide +kernel
theorem dX2_makeTones_24 : decode cX2_makeTones 24 = .ok (.getfield 25, 3) := by decide +kernel
theorem dX2_makeTones_27 : decode cX2_makeTones 27 = .ok (.if_icmp .ge 55, 3) := by decide +kernel
theorem dX2_makeTones_30 : decode cX2_makeTones 30 = .ok (.iload 5, 2) := by decide +kernel
theorem dX2_makeTones_32 : decode cX2_makeTones 32 = .ok (.iload_n 2, 1) := by decide +kernel
theorem dX2_makeTones_33 : decode cX2_makeTones 33 = .ok (.iand, 1) := by decide +kernel
theorem dX2_makeTones_34 : decode cX2_makeTones 34 = .ok (.invokestatic 72, 3) := by decide +kernel
theorem dX2_makeTones_37 : decode cX2_makeTones 37 = .ok (.iconst 1, 1) := by decide +kernel
theorem dX2_makeTones_38 : decode cX2_makeTones 38 = .ok (.iand, 1) := by decide +kernel
theorem dX2_makeTones_39 : decode cX2_makeTones 39 = .ok (.iconst 1, 1) := by decide +kernel
theorem dX2_makeTones_40 : decode cX2_makeTones 40 = .ok (.if_icmp .ne 7, 3) := by decide +kernel
theorem dX2_makeTones_43 : decode cX2_makeTones 43 = .ok (.iconst 1, 1) := by decide +kernel
theorem dX2_makeTones_44 : decode cX2_makeTones 44 = .ok (.goto 4, 3) := by decide +kernel
theorem dX2_makeTones_47 : decode cX2_makeTones 47 = .ok (.iconst 0, 1) := by decide +kernel
theorem dX2_makeTones_48 : decode cX2_makeTones 48 = .ok (.istore 6, 2) := by decide +kernel
theorem dX2_makeTones_50 : decode cX2_makeTones 50 = .ok (.lload_n 3, 1) := by decide +kernel
theorem dX2_makeTones_51 : decode cX2_makeTones 51 = .ok (.iload 6, 2) := by decide +kernel
theorem dX2_makeTones_53 : decode cX2_makeTones 53 = .ok (.ifCond .eq 14, 3) := by decide +kernel
theorem dX2_makeTones_56 : decode cX2_makeTones 56 = .ok (.aload_n 0, 1) := by decide +kernel
theorem dX2_makeTones_57 : decode cX2_makeTones 57 = .ok (.getfield 9, 3) := by decide +kernel
theorem dX2_makeTones_60 : decode cX2_makeTones 60 = .ok (.iload 5, 2) := by decide +kernel
theorem dX2_makeTones_62 : decode cX2_makeTones 62 = .ok (.laload, 1) := by decide +kernel
theorem dX2_makeTones_63 : decode cX2_makeTones 63 = .ok (.lneg, 1) := by decide +kernel
theorem dX2_makeTones_64 : decode cX2_makeTones 64 = .ok (.goto 10, 3) := by decide +kernel
theorem dX2_makeTones_67 : decode cX2_makeTones 67 = .ok (.aload_n 0, 1) := by decide +kernel
theorem dX2_makeTones_68 : decode cX2_makeTones 68 = .ok (.getfield 9, 3) := by decide +kernel
theorem dX2_makeTones_71 : decode cX2_makeTones 71 = .ok (.iload 5, 2) := by decide +kernel
theorem dX2_makeTones_73 : decode cX2_makeTones 73 = .ok (.laload, 1) := by decide +kernel
theorem dX2_makeTones_74 : decode cX2_makeTones 74 = .ok (.ladd, 1) := by decide +kernel
theorem dX2_makeTones_75 : decode cX2_makeTones 75 = .ok (.lstore_n 3, 1) := by decide +kernel
theorem dX2_makeTones_76 : decode cX2_makeTones 76 = .ok (.iinc 5 1, 3) := by decide +kernel
theorem dX2_makeTones_79 : decode cX2_makeTones 79 = .ok (.goto (-58), 3) := by decide +kernel
theorem dX2_makeTones_82 : decode cX2_makeTones 82 = .ok (.aload_n 0, 1) := by decide +kernel
theorem dX2_makeTones_83 : decode cX2_makeTones 83 = .ok (.getfield 15, 3) := by decide +kernel
theorem dX2_makeTones_86 : decode cX2_makeTones 86 = .ok (.iload_n 1, 1) := by decide +kernel
theorem dX2_makeTones_87 : decode cX2_makeTones 87 = .ok (.lload_n 3, 1) := by decide +kernel
theorem dX2_makeTones_88 : decode cX2_makeTones 88 = .ok (.lastore, 1) := by decide +kernel
theorem dX2_makeTones_89 : decode cX2_makeTones 89 = .ok (.iinc 1 1, 3) := by decide +kernel
theorem dX2_makeTones_92 : decode cX2_makeTones 92 = .ok (.goto (-90), 3) := by decide +kernel
theorem dX2_makeTones_95 : decode cX2_makeTones 95 = .ok (.return_, 1) := by decide +kernel
theorem dX2_toneMask_0 : decode cX2_toneMask 0 = .ok (.iload_n 1, 1) := by decide +kernel
theorem dX2_toneMask_1 : decode cX2_toneMask 1 = .ok (.iload_n 1, 1) := by decide +kernel
theorem dX2_toneMask_2 : decode cX2_toneMask 2 = .ok (.iconst 1, 1) := by decide +kernel
theorem dX2_toneMask_3 : decode cX2_toneMask 3 = .ok (.ishr, 1) := by decide +kernel
theorem dX2_toneMask_4 : decode cX2_toneMask 4 = .ok (.ixor, 1) := by decide +kernel
theorem dX2_toneMask_5 : decode cX2_toneMask 5 = .ok (.istore_n 2, 1) := by decide +kernel
theorem dX2_toneMask_6 : decode cX2_toneMask 6 = .ok (.iconst 0, 1) := by decide +kernel
theorem dX2_toneMask_7 : decode cX2_toneMask 7 = .ok (.istore_n 3, 1) := by decide +kernel
theorem dX2_toneMask_8 : decode cX2_toneMask 8 = .ok (.iconst 0, 1) := by decide +kernel
theorem dX2_toneMask_9 : decode cX2_toneMask 9 = .ok (.istore 4, 2) := by decide +kernel
theorem dX2_toneMask_11 : decode cX2_toneMask 11 = .ok (.iload 4, 2) := by decide +kernel
theorem dX2_toneMask_13 : decode cX2_toneMask 13 = .ok (.bipush 6, 2) := by decide +kernel
theorem dX2_toneMask_15 : decode cX2_toneMask 15 = .ok (.if_icmp .ge 31, 3) := by decide +kernel
theorem dX2_toneMask_18 : decode cX2_toneMask 18 = .ok (.iconst 1, 1) := by decide +kernel
theorem dX2_toneMask_19 : decode cX2_toneMask 19 = .ok (.iload 4, 2) := by decide +kernel
theorem dX2_toneMask_21 : decode cX2_toneMask 21 = .ok (.ishl, 1) := by decide +kernel
theorem dX2_toneMask_22 : decode cX2_toneMask 22 = .ok (.aload_n 0, 1) := by decide +kernel
theorem dX2_toneMask_23 : decode cX2_toneMask 23 = .ok (.getfield 25, 3) := by decide +kernel
theorem dX2_toneMask_26 : decode cX2_toneMask 26 = .ok (.if_icmp .ge 20, 3) := by decide +kernel
theorem dX2_toneMask_29 : decode cX2_toneMask 29 = .ok (.iload_n 3, 1) := by decide +kernel
theorem dX2_toneMask_30 : decode cX2_toneMask 30 = .ok (.iconst 1, 1) := by decide +kernel
theorem dX2_toneMask_31 : decode cX2_toneMask 31 = .ok (.ishl, 1) := by decide +kernel
theorem dX2_toneMask_32 : decode cX2_toneMask 32 = .ok (.iload_n 2, 1) := by decide +kernel
theorem dX2_toneMask_33 : decode cX2_toneMask 33 = .ok (.iload 4, 2) := by decide +kernel
theorem dX2_toneMask_35 : decode cX2_toneMask 35 = .ok (.ishr, 1) := by decide +kernel
theorem dX2_toneMask_36 : decode cX2_toneMask 36 = .ok (.iconst 1, 1) := by decide +kernel
theorem dX2_toneMask_37 : decode cX2_toneMask 37 = .ok (.iand, 1) := by decide +kernel
theorem dX2_toneMask_38 : decode cX2_toneMask 38 = .ok (.ior, 1) := by decide +kernel
theorem dX2_toneMask_39 : decode cX2_toneMask 39 = .ok (.istore_n 3, 1) := by decide +kernel
theorem dX2_toneMask_40 : decode cX2_toneMask 40 = .ok (.iinc 4 1, 3) := by decide +kernel
theorem dX2_toneMask_43 : decode cX2_toneMask 43 = .ok (.goto (-32), 3) := by decide +kernel
theorem dX2_toneMask_46 : decode cX2_toneMask 46 = .ok (.iload_n 3, 1) := by decide +kernel
theorem dX2_toneMask_47 : decode cX2_toneMask 47 = .ok (.ireturn, 1) := by decide +kernel
theorem dX2_sum_0 : decode cX2_sum 0 = .ok (.lconst 0, 1) := by decide +kernel
theorem dX2_sum_1 : decode cX2_sum 1 = .ok (.lstore_n 1, 1) := by decide +kernel
theorem dX2_sum_2 : decode cX2_sum 2 = .ok (.iconst 0, 1) := by decide +kernel
theorem dX2_sum_3 : decode cX2_sum 3 = .ok (.istore_n 3, 1) := by decide +kernel
theorem dX2_sum_4 : decode cX2_sum 4 = .ok (.iload_n 3, 1) := by decide +kernel
theorem dX2_sum_5 : decode cX2_sum 5 = .ok (.aload_n 0, 1) := by decide +kernel
theorem dX2_sum_6 : decode cX2_sum 6 = .ok (.getfield 25, 3) := by decide +kernel
theorem dX2_sum_9 : decode cX2_sum 9 = .ok (.if_icmp .ge 18, 3) := by decide +kernel
theorem dX2_sum_12 : decode cX2_sum 12 = .ok (.lload_n 1, 1) := by decide +kernel
theorem dX2_sum_13 : decode cX2_sum 13 = .ok (.aload_n 0, 1) := by decide +kernel
theorem dX2_sum_14 : decode cX2_sum 14 = .ok (.getfield 9, 3) := by decide +kernel
theorem dX2_sum_17 : decode cX2_sum 17 = .ok (.iload_n 3, 1) := by decide +kernel
theorem dX2_sum_18 : decode cX2_sum 18 = .ok (.laload, 1) := by decide +kernel
theorem dX2_sum_19 : decode cX2_sum 19 = .ok (.ladd, 1) := by decide +kernel
theorem dX2_sum_20 : decode cX2_sum 20 = .ok (.lstore_n 1, 1) := by decide +kernel
theorem dX2_sum_21 : decode cX2_sum 21 = .ok (.iinc 3 1, 3) := by decide +kernel
theorem dX2_sum_24 : decode cX2_sum 24 = .ok (.goto (-20), 3) := by decide +kernel
theorem dX2_sum_27 : decode cX2_sum 27 = .ok (.lload_n 1, 1) := by decide +kernel
theorem dX2_sum_28 : decode cX2_sum 28 = .ok (.lreturn, 1) := by decide +kernel
theorem dX2_becomeFresh_0 : decode cX2_becomeFresh 0 = .ok (.iconst 0, 1) := by decide +kernel
theorem dX2_becomeFresh_1 : decode cX2_becomeFresh 1 = .ok (.istore_n 1, 1) := by decide +kernel
theorem dX2_becomeFresh_2 : decode cX2_becomeFresh 2 = .ok (.iload_n 1, 1) := by decide +kernel
theorem dX2_becomeFresh_3 : decode cX2_becomeFresh 3 = .ok (.aload_n 0, 1) := by decide +kernel
theorem dX2_becomeFresh_4 : decode cX2_becomeFresh 4 = .ok (.getfield 25, 3) := by decide +kernel
theorem dX2_becomeFresh_7 : decode cX2_becomeFresh 7 = .ok (.if_icmp .ge 27, 3) := by decide +kernel
theorem dX2_becomeFresh_10 : decode cX2_becomeFresh 10 = .ok (.aload_n 0, 1) := by decide +kernel
theorem dX2_becomeFresh_11 : decode cX2_becomeFresh 11 = .ok (.getfield 15, 3) := by decide +kernel
theorem dX2_becomeFresh_14 : decode cX2_becomeFresh 14 = .ok (.iload_n 1, 1) := by decide +kernel
theorem dX2_becomeFresh_15 : decode cX2_becomeFresh 15 = .ok (.laload, 1) := by decide +kernel
theorem dX2_becomeFresh_16 : decode cX2_becomeFresh 16 = .ok (.ldc2_w 77, 3) := by decide +kernel
theorem dX2_becomeFresh_19 : decode cX2_becomeFresh 19 = .ok (.invokestatic 79, 3) := by decide +kernel
theorem dX2_becomeFresh_22 : decode cX2_becomeFresh 22 = .ok (.ifCond .ne 6, 3) := by decide +kernel
theorem dX2_becomeFresh_25 : decode cX2_becomeFresh 25 = .ok (.bipush (-16), 2) := by decide +kernel
theorem dX2_becomeFresh_27 : decode cX2_becomeFresh 27 = .ok (.ireturn, 1) := by decide +kernel
theorem dX2_becomeFresh_28 : decode cX2_becomeFresh 28 = .ok (.iinc 1 1, 3) := by decide +kernel
theorem dX2_becomeFresh_31 : decode cX2_becomeFresh 31 = .ok (.goto (-29), 3) := by decide +kernel
theorem dX2_becomeFresh_34 : decode cX2_becomeFresh 34 = .ok (.aload_n 0, 1) := by decide +kernel
theorem dX2_becomeFresh_35 : decode cX2_becomeFresh 35 = .ok (.getfield 15, 3) := by decide +kernel
theorem dX2_becomeFresh_38 : decode cX2_becomeFresh 38 = .ok (.iconst 0, 1) := by decide +kernel
theorem dX2_becomeFresh_39 : decode cX2_becomeFresh 39 = .ok (.aload_n 0, 1) := by decide +kernel
theorem dX2_becomeFresh_40 : decode cX2_becomeFresh 40 = .ok (.getfield 9, 3) := by decide +kernel
theorem dX2_becomeFresh_43 : decode cX2_becomeFresh 43 = .ok (.iconst 0, 1) := by decide +kernel
theorem dX2_becomeFresh_44 : decode cX2_becomeFresh 44 = .ok (.aload_n 0, 1) := by decide +kernel
theorem dX2_becomeFresh_45 : decode cX2_becomeFresh 45 = .ok (.getfield 25, 3) := by decide +kernel
theorem dX2_becomeFresh_48 : decode cX2_becomeFresh 48 = .ok (.invokestatic 83, 3) := by decide +kernel
theorem dX2_becomeFresh_51 : decode cX2_becomeFresh 51 = .ok (.aload_n 0, 1) := by decide +kernel
theorem dX2_becomeFresh_52 : decode cX2_becomeFresh 52 = .ok (.getfield 25, 3) := by decide +kernel
theorem dX2_becomeFresh_55 : decode cX2_becomeFresh 55 = .ok (.ireturn, 1) := by decide +kernel
theorem dX2_keepOnly_0 : decode cX2_keepOnly 0 = .ok (.iconst 0, 1) := by decide +kernel
theorem dX2_keepOnly_1 : decode cX2_keepOnly 1 = .ok (.istore_n 3, 1) := by decide +kernel
theorem dX2_keepOnly_2 : decode cX2_keepOnly 2 = .ok (.iconst 0, 1) := by decide +kernel
theorem dX2_keepOnly_3 : decode cX2_keepOnly 3 = .ok (.istore 4, 2) := by decide +kernel
theorem dX2_keepOnly_5 : decode cX2_keepOnly 5 = .ok (.iload 4, 2) := by decide +kernel
theorem dX2_keepOnly_7 : decode cX2_keepOnly 7 = .ok (.aload_n 0, 1) := by decide +kernel
theorem dX2_keepOnly_8 : decode cX2_keepOnly 8 = .ok (.getfield 25, 3) := by decide +kernel
theorem dX2_keepOnly_11 : decode cX2_keepOnly 11 = .ok (.if_icmp .ge 49, 3) := by decide +kernel
theorem dX2_keepOnly_14 : decode cX2_keepOnly 14 = .ok (.iload 4, 2) := by decide +kernel
theorem dX2_keepOnly_16 : decode cX2_keepOnly 16 = .ok (.iload_n 1, 1) := by decide +kernel
theorem dX2_keepOnly_17 : decode cX2_keepOnly 17 = .ok (.if_icmp .lt 9, 3) := by decide +kernel
theorem dX2_keepOnly_20 : decode cX2_keepOnly 20 = .ok (.iload 4, 2) := by decide +kernel
theorem dX2_keepOnly_22 : decode cX2_keepOnly 22 = .ok (.iload_n 2, 1) := by decide +kernel
theorem dX2_keepOnly_23 : decode cX2_keepOnly 23 = .ok (.if_icmp .le 31, 3) := by decide +kernel
theorem dX2_keepOnly_26 : decode cX2_keepOnly 26 = .ok (.iload_n 3, 1) := by decide +kernel
theorem dX2_keepOnly_27 : decode cX2_keepOnly 27 = .ok (.aload_n 0, 1) := by decide +kernel
theorem dX2_keepOnly_28 : decode cX2_keepOnly 28 = .ok (.getfield 9, 3) := by decide +kernel
theorem dX2_keepOnly_31 : decode cX2_keepOnly 31 = .ok (.iload 4, 2) := by decide +kernel
theorem dX2_keepOnly_33 : decode cX2_keepOnly 33 = .ok (.laload, 1) := by decide +kernel
theorem dX2_keepOnly_34 : decode cX2_keepOnly 34 = .ok (.lconst 0, 1) := by decide +kernel
theorem dX2_keepOnly_35 : decode cX2_keepOnly 35 = .ok (.lcmp, 1) := by decide +kernel
theorem dX2_keepOnly_36 : decode cX2_keepOnly 36 = .ok (.ifCond .eq 7, 3) := by decide +kernel
theorem dX2_keepOnly_39 : decode cX2_keepOnly 39 = .ok (.iconst 1, 1) := by decide +kernel
theorem dX2_keepOnly_40 : decode cX2_keepOnly 40 = .ok (.goto 4, 3) := by decide +kernel
theorem dX2_keepOnly_43 : decode cX2_keepOnly 43 = .ok (.iconst 0, 1) := by decide +kernel
theorem dX2_keepOnly_44 : decode cX2_keepOnly 44 = .ok (.iadd, 1) := by decide +kernel
theorem dX2_keepOnly_45 : decode cX2_keepOnly 45 = .ok (.istore_n 3, 1) := by decide +kernel
theorem dX2_keepOnly_46 : decode cX2_keepOnly 46 = .ok (.aload_n 0, 1) := by decide +kernel
theorem dX2_keepOnly_47 : decode cX2_keepOnly 47 = .ok (.getfield 9, 3) := by decide +kernel
theorem dX2_keepOnly_50 : decode cX2_keepOnly 50 = .ok (.iload 4, 2) := by decide +kernel
theorem dX2_keepOnly_52 : decode cX2_keepOnly 52 = .ok (.lconst 0, 1) := by decide +kernel
theorem dX2_keepOnly_53 : decode cX2_keepOnly 53 = .ok (.lastore, 1) := by decide +kernel
theorem dX2_keepOnly_54 : decode cX2_keepOnly 54 = .ok (.iinc 4 1, 3) := by decide +kernel
theorem dX2_keepOnly_57 : decode cX2_keepOnly 57 = .ok (.goto (-52), 3) := by decide +kernel
theorem dX2_keepOnly_60 : decode cX2_keepOnly 60 = .ok (.iload_n 3, 1) := by decide +kernel
theorem dX2_keepOnly_61 : decode cX2_keepOnly 61 = .ok (.ireturn, 1) := by decide +kernel
theorem dX2_blend_0 : decode cX2_blend 0 = .ok (.iconst 0, 1) := by decide +kernel
theorem dX2_blend_1 : decode cX2_blend 1 = .ok (.istore 4, 2) := by decide +kernel
theorem dX2_blend_3 : decode cX2_blend 3 = .ok (.iload 4, 2) := by decide +kernel
theorem dX2_blend_5 : decode cX2_blend 5 = .ok (.aload_n 0, 1) := by decide +kernel
theorem dX2_blend_6 : decode cX2_blend 6 = .ok (.getfield 25, 3) := by decide +kernel
theorem dX2_blend_9 : decode cX2_blend 9 = .ok (.if_icmp .ge 37, 3) := by decide +kernel
theorem dX2_blend_12 : decode cX2_blend 12 = .ok (.aload_n 0, 1) := by decide +kernel
theorem dX2_blend_13 : decode cX2_blend 13 = .ok (.getfield 15, 3) := by decide +kernel
theorem dX2_blend_16 : decode cX2_blend 16 = .ok (.iload 4, 2) := by decide +kernel
theorem dX2_blend_18 : decode cX2_blend 18 = .ok (.iload_n 1, 1) := by decide +kernel
theorem dX2_blend_19 : decode cX2_blend 19 = .ok (.i2l, 1) := by decide +kernel
theorem dX2_blend_20 : decode cX2_blend 20 = .ok (.aload_n 0, 1) := by decide +kernel
theorem dX2_blend_21 : decode cX2_blend 21 = .ok (.getfield 9, 3) := by decide +kernel
theorem dX2_blend_24 : decode cX2_blend 24 = .ok (.iload 4, 2) := by decide +kernel
theorem dX2_blend_26 : decode cX2_blend 26 = .ok (.laload, 1) := by decide +kernel
theorem dX2_blend_27 : decode cX2_blend 27 = .ok (.lmul, 1) := by decide +kernel
theorem dX2_blend_28 : decode cX2_blend 28 = .ok (.iload_n 3, 1) := by decide +kernel
theorem dX2_blend_29 : decode cX2_blend 29 = .ok (.i2l, 1) := by decide +kernel
theorem dX2_blend_30 : decode cX2_blend 30 = .ok (.aload_n 2, 1) := by decide +kernel
theorem dX2_blend_31 : decode cX2_blend 31 = .ok (.getfield 9, 3) := by decide +kernel
theorem dX2_blend_34 : decode cX2_blend 34 = .ok (.iload 4, 2) := by decide +kernel
theorem dX2_blend_36 : decode cX2_blend 36 = .ok (.laload, 1) := by decide +kernel
theorem dX2_blend_37 : decode cX2_blend 37 = .ok (.lmul, 1) := by decide +kernel
theorem dX2_blend_38 : decode cX2_blend 38 = .ok (.ladd, 1) := by decide +kernel
theorem dX2_blend_39 : decode cX2_blend 39 = .ok (.lastore, 1) := by decide +kernel
theorem dX2_blend_40 : decode cX2_blend 40 = .ok (.iinc 4 1, 3) := by decide +kernel
theorem dX2_blend_43 : decode cX2_blend 43 = .ok (.goto (-40), 3) := by decide +kernel
theorem dX2_blend_46 : decode cX2_blend 46 = .ok (.aload_n 0, 1) := by decide +kernel
theorem dX2_blend_47 : decode cX2_blend 47 = .ok (.invokevirtual 60, 3) := by decide +kernel
theorem dX2_blend_50 : decode cX2_blend 50 = .ok (.ireturn, 1) := by decide +kernel
theorem dX2_anyExceeds_0 : decode cX2_anyExceeds 0 = .ok (.aload_n 0, 1) := by decide +kernel
theorem dX2_anyExceeds_1 : decode cX2_anyExceeds 1 = .ok (.lload_n 1, 1) := by decide +kernel
theorem dX2_anyExceeds_2 : decode cX2_anyExceeds 2 = .ok (.iconst 0, 1) := by decide +kernel
theorem dX2_anyExceeds_3 : decode cX2_anyExceeds 3 = .ok (.bipush 64, 2) := by decide +kernel
theorem dX2_anyExceeds_5 : decode cX2_anyExceeds 5 = .ok (.invokevirtual 89, 3) := by decide +kernel
theorem dX2_anyExceeds_8 : decode cX2_anyExceeds 8 = .ok (.ireturn, 1) := by decide +kernel
theorem dX2_exceeds_0 : decode cX2_exceeds 0 = .ok (.iload_n 3, 1) := by decide +kernel
theorem dX2_exceeds_1 : decode cX2_exceeds 1 = .ok (.istore 5, 2) := by decide +kernel
theorem dX2_exceeds_3 : decode cX2_exceeds 3 = .ok (.iload 5, 2) := by decide +kernel
theorem dX2_exceeds_5 : decode cX2_exceeds 5 = .ok (.aload_n 0, 1) := by decide +kernel
theorem dX2_exceeds_6 : decode cX2_exceeds 6 = .ok (.getfield 25, 3) := by decide +kernel
theorem dX2_exceeds_9 : decode cX2_exceeds 9 = .ok (.if_icmp .ge 32, 3) := by decide +kernel
theorem dX2_exceeds_12 : decode cX2_exceeds 12 = .ok (.iload 5, 2) := by decide +kernel
theorem dX2_exceeds_14 : decode cX2_exceeds 14 = .ok (.iload 4, 2) := by decide +kernel
theorem dX2_exceeds_16 : decode cX2_exceeds 16 = .ok (.if_icmp .gt 25, 3) := by decide +kernel
theorem dX2_exceeds_19 : decode cX2_exceeds 19 = .ok (.aload_n 0, 1) := by decide +kernel
theorem dX2_exceeds_20 : decode cX2_exceeds 20 = .ok (.getfield 9, 3) := by decide +kernel
theorem dX2_exceeds_23 : decode cX2_exceeds 23 = .ok (.iload 5, 2) := by decide +kernel
theorem dX2_exceeds_25 : decode cX2_exceeds 25 = .ok (.laload, 1) := by decide +kernel
theorem dX2_exceeds_26 : decode cX2_exceeds 26 = .ok (.lload_n 1, 1) := by decide +kernel
theorem dX2_exceeds_27 : decode cX2_exceeds 27 = .ok (.invokestatic 79, 3) := by decide +kernel
theorem dX2_exceeds_30 : decode cX2_exceeds 30 = .ok (.ifCond .ne 5, 3) := by decide +kernel
theorem dX2_exceeds_33 : decode cX2_exceeds 33 = .ok (.iconst 1, 1) := by decide +kernel
theorem dX2_exceeds_34 : decode cX2_exceeds 34 = .ok (.ireturn, 1) := by decide +kernel
theorem dX2_exceeds_35 : decode cX2_exceeds 35 = .ok (.iinc 5 1, 3) := by decide +kernel
theorem dX2_exceeds_38 : decode cX2_exceeds 38 = .ok (.goto (-35), 3) := by decide +kernel
theorem dX2_exceeds_41 : decode cX2_exceeds 41 = .ok (.iconst 0, 1) := by decide +kernel
theorem dX2_exceeds_42 : decode cX2_exceeds 42 = .ok (.ireturn, 1) := by decide +kernel
theorem dX2_squares_0 : decode cX2_squares 0 = .ok (.lconst 0, 1) := by decide +kernel
theorem dX2_squares_1 : decode cX2_squares 1 = .ok (.lstore_n 3, 1) := by decide +kernel
theorem dX2_squares_2 : decode cX2_squares 2 = .ok (.iload_n 1, 1) := by decide +kernel
theorem dX2_squares_3 : decode cX2_squares 3 = .ok (.istore 5, 2) := by decide +kernel
theorem dX2_squares_5 : decode cX2_squares 5 = .ok (.iload 5, 2) := by decide +kernel
theorem dX2_squares_7 : decode cX2_squares 7 = .ok (.aload_n 0, 1) := by decide +kernel
theorem dX2_squares_8 : decode cX2_squares 8 = .ok (.getfield 25, 3) := by decide +kernel
theorem dX2_squares_11 : decode cX2_squares 11 = .ok (.if_icmp .ge 33, 3) := by decide +kernel
theorem dX2_squares_14 : decode cX2_squares 14 = .ok (.iload 5, 2) := by decide +kernel
theorem dX2_squares_16 : decode cX2_squares 16 = .ok (.iload_n 2, 1) := by decide +kernel
theorem dX2_squares_17 : decode cX2_squares 17 = .ok (.if_icmp .gt 27, 3) := by decide +kernel
theorem dX2_squares_20 : decode cX2_squares 20 = .ok (.lload_n 3, 1) := by decide +kernel
theorem dX2_squares_21 : decode cX2_squares 21 = .ok (.aload_n 0, 1) := by decide +kernel
theorem dX2_squares_22 : decode cX2_squares 22 = .ok (.getfield 9, 3) := by decide +kernel
theorem dX2_squares_25 : decode cX2_squares 25 = .ok (.iload 5, 2) := by decide +kernel
theorem dX2_squares_27 : decode cX2_squares 27 = .ok (.laload, 1) := by decide +kernel
theorem dX2_squares_28 : decode cX2_squares 28 = .ok (.aload_n 0, 1) := by decide +kernel
theorem dX2_squares_29 : decode cX2_squares 29 = .ok (.getfield 9, 3) := by decide +kernel
theorem dX2_squares_32 : decode cX2_squares 32 = .ok (.iload 5, 2) := by decide +kernel
theorem dX2_squares_34 : decode cX2_squares 34 = .ok (.laload, 1) := by decide +kernel
theorem dX2_squares_35 : decode cX2_squares 35 = .ok (.lmul, 1) := by decide +kernel
theorem dX2_squares_36 : decode cX2_squares 36 = .ok (.ladd, 1) := by decide +kernel
theorem dX2_squares_37 : decode cX2_squares 37 = .ok (.lstore_n 3, 1) := by decide +kernel
theorem dX2_squares_38 : decode cX2_squares 38 = .ok (.iinc 5 1, 3) := by decide +kernel
theorem dX2_squares_41 : decode cX2_squares 41 = .ok (.goto (-36), 3) := by decide +kernel
theorem dX2_squares_44 : decode cX2_squares 44 = .ok (.lload_n 3, 1) := by decide +kernel
theorem dX2_squares_45 : decode cX2_squares 45 = .ok (.lreturn, 1) := by decide +kernel
theorem dX2_products_0 : decode cX2_products 0 = .ok (.lconst 0, 1) := by decide +kernel
theorem dX2_products_1 : decode cX2_products 1 = .ok (.lstore_n 2, 1) := by decide +kernel
theorem dX2_products_2 : decode cX2_products 2 = .ok (.iconst 0, 1) := by decide +kernel
theorem dX2_products_3 : decode cX2_products 3 = .ok (.istore 4, 2) := by decide +kernel
theorem dX2_products_5 : decode cX2_products 5 = .ok (.iload 4, 2) := by decide +kernel
theorem dX2_products_7 : decode cX2_products 7 = .ok (.aload_n 0, 1) := by decide +kernel
theorem dX2_products_8 : decode cX2_products 8 = .ok (.getfield 25, 3) := by decide +kernel
theorem dX2_products_11 : decode cX2_products 11 = .ok (.if_icmp .ge 27, 3) := by decide +kernel
theorem dX2_products_14 : decode cX2_products 14 = .ok (.lload_n 2, 1) := by decide +kernel
theorem dX2_products_15 : decode cX2_products 15 = .ok (.aload_n 0, 1) := by decide +kernel
theorem dX2_products_16 : decode cX2_products 16 = .ok (.getfield 9, 3) := by decide +kernel
theorem dX2_products_19 : decode cX2_products 19 = .ok (.iload 4, 2) := by decide +kernel
theorem dX2_products_21 : decode cX2_products 21 = .ok (.laload, 1) := by decide +kernel
theorem dX2_products_22 : decode cX2_products 22 = .ok (.aload_n 1, 1) := by decide +kernel
theorem dX2_products_23 : decode cX2_products 23 = .ok (.getfield 9, 3) := by decide +kernel
theorem dX2_products_26 : decode cX2_products 26 = .ok (.iload 4, 2) := by decide +kernel
theorem dX2_products_28 : decode cX2_products 28 = .ok (.laload, 1) := by decide +kernel
theorem dX2_products_29 : decode cX2_products 29 = .ok (.lmul, 1) := by decide +kernel
theorem dX2_products_30 : decode cX2_products 30 = .ok (.ladd, 1) := by decide +kernel
theorem dX2_products_31 : decode cX2_products 31 = .ok (.lstore_n 2, 1) := by decide +kernel
theorem dX2_products_32 : decode cX2_products 32 = .ok (.iinc 4 1, 3) := by decide +kernel
theorem dX2_products_35 : decode cX2_products 35 = .ok (.goto (-30), 3) := by decide +kernel
theorem dX2_products_38 : decode cX2_products 38 = .ok (.lload_n 2, 1) := by decide +kernel
theorem dX2_products_39 : decode cX2_products 39 = .ok (.lreturn, 1) := by decide +kernel
theorem dX2_findWaves_0 : decode cX2_findWaves 0 = .ok (.iconst 0, 1) := by decide +kernel
theorem dX2_findWaves_1 : decode cX2_findWaves 1 = .ok (.istore_n 1, 1) := by decide +kernel
theorem dX2_findWaves_2 : decode cX2_findWaves 2 = .ok (.iconst 0, 1) := by decide +kernel
theorem dX2_findWaves_3 : decode cX2_findWaves 3 = .ok (.istore_n 2, 1) := by decide +kernel
theorem dX2_findWaves_4 : decode cX2_findWaves 4 = .ok (.iconst 0, 1) := by decide +kernel
theorem dX2_findWaves_5 : decode cX2_findWaves 5 = .ok (.istore_n 3, 1) := by decide +kernel
theorem dX2_findWaves_6 : decode cX2_findWaves 6 = .ok (.iload_n 3, 1) := by decide +kernel
theorem dX2_findWaves_7 : decode cX2_findWaves 7 = .ok (.aload_n 0, 1) := by decide +kernel
theorem dX2_findWaves_8 : decode cX2_findWaves 8 = .ok (.getfield 25, 3) := by decide +kernel
theorem dX2_findWaves_11 : decode cX2_findWaves 11 = .ok (.if_icmp .ge 61, 3) := by decide +kernel
theorem dX2_findWaves_14 : decode cX2_findWaves 14 = .ok (.iload_n 2, 1) := by decide +kernel
theorem dX2_findWaves_15 : decode cX2_findWaves 15 = .ok (.istore 4, 2) := by decide +kernel
theorem dX2_findWaves_17 : decode cX2_findWaves 17 = .ok (.aload_n 0, 1) := by decide +kernel
theorem dX2_findWaves_18 : decode cX2_findWaves 18 = .ok (.getfield 9, 3) := by decide +kernel
theorem dX2_findWaves_21 : decode cX2_findWaves 21 = .ok (.iload_n 3, 1) := by decide +kernel
theorem dX2_findWaves_22 : decode cX2_findWaves 22 = .ok (.laload, 1) := by decide +kernel
theorem dX2_findWaves_23 : decode cX2_findWaves 23 = .ok (.lconst 0, 1) := by decide +kernel
theorem dX2_findWaves_24 : decode cX2_findWaves 24 = .ok (.lcmp, 1) := by decide +kernel
theorem dX2_findWaves_25 : decode cX2_findWaves 25 = .ok (.ifCond .eq 20, 3) := by decide +kernel
theorem dX2_findWaves_28 : decode cX2_findWaves 28 = .ok (.aload_n 0, 1) := by decide +kernel
theorem dX2_findWaves_29 : decode cX2_findWaves 29 = .ok (.getfield 9, 3) := by decide +kernel
theorem dX2_findWaves_32 : decode cX2_findWaves 32 = .ok (.iload_n 3, 1) := by decide +kernel
theorem dX2_findWaves_33 : decode cX2_findWaves 33 = .ok (.laload, 1) := by decide +kernel
theorem dX2_findWaves_34 : decode cX2_findWaves 34 = .ok (.lconst 0, 1) := by decide +kernel
theorem dX2_findWaves_35 : decode cX2_findWaves 35 = .ok (.lcmp, 1) := by decide +kernel
theorem dX2_findWaves_36 : decode cX2_findWaves 36 = .ok (.ifCond .le 7, 3) := by decide +kernel
theorem dX2_findWaves_39 : decode cX2_findWaves 39 = .ok (.iconst 1, 1) := by decide +kernel
theorem dX2_findWaves_40 : decode cX2_findWaves 40 = .ok (.goto 4, 3) := by decide +kernel
theorem dX2_findWaves_43 : decode cX2_findWaves 43 = .ok (.iconst (-1), 1) := by decide +kernel
theorem dX2_findWaves_44 : decode cX2_findWaves 44 = .ok (.istore_n 2, 1) := by decide +kernel
theorem dX2_findWaves_45 : decode cX2_findWaves 45 = .ok (.iload_n 2, 1) := by decide +kernel
theorem dX2_findWaves_46 : decode cX2_findWaves 46 = .ok (.iconst 1, 1) := by decide +kernel
theorem dX2_findWaves_47 : decode cX2_findWaves 47 = .ok (.if_icmp .ne 19, 3) := by decide +kernel
theorem dX2_findWaves_50 : decode cX2_findWaves 50 = .ok (.iload 4, 2) := by decide +kernel
theorem dX2_findWaves_52 : decode cX2_findWaves 52 = .ok (.iconst (-1), 1) := by decide +kernel
theorem dX2_findWaves_53 : decode cX2_findWaves 53 = .ok (.if_icmp .ne 13, 3) := by decide +kernel
theorem dX2_findWaves_56 : decode cX2_findWaves 56 = .ok (.aload_n 0, 1) := by decide +kernel
theorem dX2_findWaves_57 : decode cX2_findWaves 57 = .ok (.getfield 18, 3) := by decide +kernel
theorem dX2_findWaves_60 : decode cX2_findWaves 60 = .ok (.iload_n 1, 1) := by decide +kernel
theorem dX2_findWaves_61 : decode cX2_findWaves 61 = .ok (.iload_n 3, 1) := by decide +kernel
theorem dX2_findWaves_62 : decode cX2_findWaves 62 = .ok (.iastore, 1) := by decide +kernel
theorem dX2_findWaves_63 : decode cX2_findWaves 63 = .ok (.iinc 1 1, 3) := by decide +kernel
theorem dX2_findWaves_66 : decode cX2_findWaves 66 = .ok (.iinc 3 1, 3) := by decide +kernel
theorem dX2_findWaves_69 : decode cX2_findWaves 69 = .ok (.goto (-63), 3) := by decide +kernel
theorem dX2_findWaves_72 : decode cX2_findWaves 72 = .ok (.iload_n 1, 1) := by decide +kernel
theorem dX2_findWaves_73 : decode cX2_findWaves 73 = .ok (.iconst 1, 1) := by decide +kernel
theorem dX2_findWaves_74 : decode cX2_findWaves 74 = .ok (.isub, 1) := by decide +kernel
theorem dX2_findWaves_75 : decode cX2_findWaves 75 = .ok (.iconst 0, 1) := by decide +kernel
theorem dX2_findWaves_76 : decode cX2_findWaves 76 = .ok (.invokestatic 93, 3) := by decide +kernel
theorem dX2_findWaves_79 : decode cX2_findWaves 79 = .ok (.ireturn, 1) := by decide +kernel
theorem dX2_waveFact_0 : decode cX2_waveFact 0 = .ok (.aload_n 0, 1) := by decide +kernel
theorem dX2_waveFact_1 : decode cX2_waveFact 1 = .ok (.getfield 9, 3) := by decide +kernel
theorem dX2_waveFact_4 : decode cX2_waveFact 4 = .ok (.aload_n 0, 1) := by decide +kernel
theorem dX2_waveFact_5 : decode cX2_waveFact 5 = .ok (.getfield 18, 3) := by decide +kernel
theorem dX2_waveFact_8 : decode cX2_waveFact 8 = .ok (.iload_n 1, 1) := by decide +kernel
theorem dX2_waveFact_9 : decode cX2_waveFact 9 = .ok (.iaload, 1) := by decide +kernel
theorem dX2_waveFact_10 : decode cX2_waveFact 10 = .ok (.laload, 1) := by decide +kernel
theorem dX2_waveFact_11 : decode cX2_waveFact 11 = .ok (.lstore_n 3, 1) := by decide +kernel
theorem dX2_waveFact_12 : decode cX2_waveFact 12 = .ok (.lload_n 3, 1) := by decide +kernel
theorem dX2_waveFact_13 : decode cX2_waveFact 13 = .ok (.lstore 5, 2) := by decide +kernel
theorem dX2_waveFact_15 : decode cX2_waveFact 15 = .ok (.aload_n 0, 1) := by decide +kernel
theorem dX2_waveFact_16 : decode cX2_waveFact 16 = .ok (.getfield 18, 3) := by decide +kernel
theorem dX2_waveFact_19 : decode cX2_waveFact 19 = .ok (.iload_n 1, 1) := by decide +kernel
theorem dX2_waveFact_20 : decode cX2_waveFact 20 = .ok (.iaload, 1) := by decide +kernel
theorem dX2_waveFact_21 : decode cX2_waveFact 21 = .ok (.istore 7, 2) := by decide +kernel
theorem dX2_waveFact_23 : decode cX2_waveFact 23 = .ok (.iload 7, 2) := by decide +kernel
theorem dX2_waveFact_25 : decode cX2_waveFact 25 = .ok (.aload_n 0, 1) := by decide +kernel
theorem dX2_waveFact_26 : decode cX2_waveFact 26 = .ok (.getfield 18, 3) := by decide +kernel
theorem dX2_waveFact_29 : decode cX2_waveFact 29 = .ok (.iload_n 1, 1) := by decide +kernel
theorem dX2_waveFact_30 : decode cX2_waveFact 30 = .ok (.iconst 1, 1) := by decide +kernel
theorem dX2_waveFact_31 : decode cX2_waveFact 31 = .ok (.iadd, 1) := by decide +kernel
theorem dX2_waveFact_32 : decode cX2_waveFact 32 = .ok (.iaload, 1) := by decide +kernel
theorem dX2_waveFact_33 : decode cX2_waveFact 33 = .ok (.if_icmp .ge 35, 3) := by decide +kernel
theorem dX2_waveFact_36 : decode cX2_waveFact 36 = .ok (.lload_n 3, 1) := by decide +kernel
theorem dX2_waveFact_37 : decode cX2_waveFact 37 = .ok (.aload_n 0, 1) := by decide +kernel
theorem dX2_waveFact_38 : decode cX2_waveFact 38 = .ok (.getfield 9, 3) := by decide +kernel
theorem dX2_waveFact_41 : decode cX2_waveFact 41 = .ok (.iload 7, 2) := by decide +kernel
theorem dX2_waveFact_43 : decode cX2_waveFact 43 = .ok (.laload, 1) := by decide +kernel
theorem dX2_waveFact_44 : decode cX2_waveFact 44 = .ok (.invokestatic 99, 3) := by decide +kernel
theorem dX2_waveFact_47 : decode cX2_waveFact 47 = .ok (.lstore_n 3, 1) := by decide +kernel
theorem dX2_waveFact_48 : decode cX2_waveFact 48 = .ok (.lload 5, 2) := by decide +kernel
theorem dX2_waveFact_50 : decode cX2_waveFact 50 = .ok (.aload_n 0, 1) := by decide +kernel
theorem dX2_waveFact_51 : decode cX2_waveFact 51 = .ok (.getfield 9, 3) := by decide +kernel
theorem dX2_waveFact_54 : decode cX2_waveFact 54 = .ok (.iload 7, 2) := by decide +kernel
theorem dX2_waveFact_56 : decode cX2_waveFact 56 = .ok (.laload, 1) := by decide +kernel
theorem dX2_waveFact_57 : decode cX2_waveFact 57 = .ok (.invokestatic 102, 3) := by decide +kernel
theorem dX2_waveFact_60 : decode cX2_waveFact 60 = .ok (.lstore 5, 2) := by decide +kernel
theorem dX2_waveFact_62 : decode cX2_waveFact 62 = .ok (.iinc 7 1, 3) := by decide +kernel
theorem dX2_waveFact_65 : decode cX2_waveFact 65 = .ok (.goto (-42), 3) := by decide +kernel
theorem dX2_waveFact_68 : decode cX2_waveFact 68 = .ok (.iload_n 2, 1) := by decide +kernel
theorem dX2_waveFact_69 : decode cX2_waveFact 69 = .ok (.tableswitch 61 0 3 #[31, 39, 56, 58], 31) := by decide +kernel
theorem dX2_waveFact_100 : decode cX2_waveFact 100 = .ok (.aload_n 0, 1) := by decide +kernel
theorem dX2_waveFact_101 : decode cX2_waveFact 101 = .ok (.getfield 18, 3) := by decide +kernel
theorem dX2_waveFact_104 : decode cX2_waveFact 104 = .ok (.iload_n 1, 1) := by decide +kernel
theorem dX2_waveFact_105 : decode cX2_waveFact 105 = .ok (.iaload, 1) := by decide +kernel
theorem dX2_waveFact_106 : decode cX2_waveFact 106 = .ok (.i2l, 1) := by decide +kernel
theorem dX2_waveFact_107 : decode cX2_waveFact 107 = .ok (.lreturn, 1) := by decide +kernel
theorem dX2_waveFact_108 : decode cX2_waveFact 108 = .ok (.aload_n 0, 1) := by decide +kernel
theorem dX2_waveFact_109 : decode cX2_waveFact 109 = .ok (.getfield 18, 3) := by decide +kernel
theorem dX2_waveFact_112 : decode cX2_waveFact 112 = .ok (.iload_n 1, 1) := by decide +kernel
theorem dX2_waveFact_113 : decode cX2_waveFact 113 = .ok (.iconst 1, 1) := by decide +kernel
theorem dX2_waveFact_114 : decode cX2_waveFact 114 = .ok (.iadd, 1) := by decide +kernel
theorem dX2_waveFact_115 : decode cX2_waveFact 115 = .ok (.iaload, 1) := by decide +kernel
theorem dX2_waveFact_116 : decode cX2_waveFact 116 = .ok (.aload_n 0, 1) := by decide +kernel
theorem dX2_waveFact_117 : decode cX2_waveFact 117 = .ok (.getfield 18, 3) := by decide +kernel
theorem dX2_waveFact_120 : decode cX2_waveFact 120 = .ok (.iload_n 1, 1) := by decide +kernel
theorem dX2_waveFact_121 : decode cX2_waveFact 121 = .ok (.iaload, 1) := by decide +kernel
theorem dX2_waveFact_122 : decode cX2_waveFact 122 = .ok (.isub, 1) := by decide +kernel
theorem dX2_waveFact_123 : decode cX2_waveFact 123 = .ok (.i2l, 1) := by decide +kernel
theorem dX2_waveFact_124 : decode cX2_waveFact 124 = .ok (.lreturn, 1) := by decide +kernel
theorem dX2_waveFact_125 : decode cX2_waveFact 125 = .ok (.lload_n 3, 1) := by decide +kernel
theorem dX2_waveFact_126 : decode cX2_waveFact 126 = .ok (.lreturn, 1) := by decide +kernel
theorem dX2_waveFact_127 : decode cX2_waveFact 127 = .ok (.lload 5, 2) := by decide +kernel
theorem dX2_waveFact_129 : decode cX2_waveFact 129 = .ok (.lreturn, 1) := by decide +kernel
theorem dX2_waveFact_130 : decode cX2_waveFact 130 = .ok (.lload_n 3, 1) := by decide +kernel
theorem dX2_waveFact_131 : decode cX2_waveFact 131 = .ok (.lload 5, 2) := by decide +kernel
theorem dX2_waveFact_133 : decode cX2_waveFact 133 = .ok (.lsub, 1) := by decide +kernel
theorem dX2_waveFact_134 : decode cX2_waveFact 134 = .ok (.lreturn, 1) := by decide +kernel
theorem dX2_highestTogether_0 : decode cX2_highestTogether 0 = .ok (.iconst 0, 1) := by decide +kernel
theorem dX2_highestTogether_1 : decode cX2_highestTogether 1 = .ok (.istore_n 3, 1) := by decide +kernel
theorem dX2_highestTogether_2 : decode cX2_highestTogether 2 = .ok (.iload_n 3, 1) := by decide +kernel
theorem dX2_highestTogether_3 : decode cX2_highestTogether 3 = .ok (.iload_n 1, 1) := by decide +kernel
theorem dX2_highestTogether_4 : decode cX2_highestTogether 4 = .ok (.if_icmp .ge 20, 3) := by decide +kernel
theorem dX2_highestTogether_7 : decode cX2_highestTogether 7 = .ok (.aload_n 0, 1) := by decide +kernel
theorem dX2_highestTogether_8 : decode cX2_highestTogether 8 = .ok (.aload_n 0, 1) := by decide +kernel
theorem dX2_highestTogether_9 : decode cX2_highestTogether 9 = .ok (.iload_n 3, 1) := by decide +kernel
theorem dX2_highestTogether_10 : decode cX2_highestTogether 10 = .ok (.iconst 4, 1) := by decide +kernel
theorem dX2_highestTogether_11 : decode cX2_highestTogether 11 = .ok (.invokevirtual 105, 3) := by decide +kernel
theorem dX2_highestTogether_14 : decode cX2_highestTogether 14 = .ok (.iload_n 3, 1) := by decide +kernel
theorem dX2_highestTogether_15 : decode cX2_highestTogether 15 = .ok (.invokevirtual 109, 3) := by decide +kernel
theorem dX2_highestTogether_18 : decode cX2_highestTogether 18 = .ok (.iinc 3 1, 3) := by decide +kernel
theorem dX2_highestTogether_21 : decode cX2_highestTogether 21 = .ok (.goto (-19), 3) := by decide +kernel
theorem dX2_highestTogether_24 : decode cX2_highestTogether 24 = .ok (.lconst 0, 1) := by decide +kernel
theorem dX2_highestTogether_25 : decode cX2_highestTogether 25 = .ok (.lstore_n 3, 1) := by decide +kernel
theorem dX2_highestTogether_26 : decode cX2_highestTogether 26 = .ok (.iconst 0, 1) := by decide +kernel
theorem dX2_highestTogether_27 : decode cX2_highestTogether 27 = .ok (.istore 5, 2) := by decide +kernel
theorem dX2_highestTogether_29 : decode cX2_highestTogether 29 = .ok (.iload 5, 2) := by decide +kernel
theorem dX2_highestTogether_31 : decode cX2_highestTogether 31 = .ok (.iload_n 2, 1) := by decide +kernel
theorem dX2_highestTogether_32 : decode cX2_highestTogether 32 = .ok (.if_icmp .ge 19, 3) := by decide +kernel
theorem dX2_highestTogether_35 : decode cX2_highestTogether 35 = .ok (.lload_n 3, 1) := by decide +kernel
theorem dX2_highestTogether_36 : decode cX2_highestTogether 36 = .ok (.aload_n 0, 1) := by decide +kernel
theorem dX2_highestTogether_37 : decode cX2_highestTogether 37 = .ok (.getfield 22, 3) := by decide +kernel
theorem dX2_highestTogether_40 : decode cX2_highestTogether 40 = .ok (.iload 5, 2) := by decide +kernel
theorem dX2_highestTogether_42 : decode cX2_highestTogether 42 = .ok (.laload, 1) := by decide +kernel
theorem dX2_highestTogether_43 : decode cX2_highestTogether 43 = .ok (.ladd, 1) := by decide +kernel
theorem dX2_highestTogether_44 : decode cX2_highestTogether 44 = .ok (.lstore_n 3, 1) := by decide +kernel
theorem dX2_highestTogether_45 : decode cX2_highestTogether 45 = .ok (.iinc 5 1, 3) := by decide +kernel
theorem dX2_highestTogether_48 : decode cX2_highestTogether 48 = .ok (.goto (-19), 3) := by decide +kernel
theorem dX2_highestTogether_51 : decode cX2_highestTogether 51 = .ok (.lload_n 3, 1) := by decide +kernel
theorem dX2_highestTogether_52 : decode cX2_highestTogether 52 = .ok (.lreturn, 1) := by decide +kernel
theorem dX2_sortIn_0 : decode cX2_sortIn 0 = .ok (.iload_n 3, 1) := by decide +kernel
theorem dX2_sortIn_1 : decode cX2_sortIn 1 = .ok (.istore 4, 2) := by decide +kernel
theorem dX2_sortIn_3 : decode cX2_sortIn 3 = .ok (.iload_n 3, 1) := by decide +kernel
theorem dX2_sortIn_4 : decode cX2_sortIn 4 = .ok (.istore 5, 2) := by decide +kernel
theorem dX2_sortIn_6 : decode cX2_sortIn 6 = .ok (.iload 5, 2) := by decide +kernel
theorem dX2_sortIn_8 : decode cX2_sortIn 8 = .ok (.ifCond .le 45, 3) := by decide +kernel
theorem dX2_sortIn_11 : decode cX2_sortIn 11 = .ok (.aload_n 0, 1) := by decide +kernel
theorem dX2_sortIn_12 : decode cX2_sortIn 12 = .ok (.getfield 22, 3) := by decide +kernel
theorem dX2_sortIn_15 : decode cX2_sortIn 15 = .ok (.iload 5, 2) := by decide +kernel
theorem dX2_sortIn_17 : decode cX2_sortIn 17 = .ok (.iconst 1, 1) := by decide +kernel
theorem dX2_sortIn_18 : decode cX2_sortIn 18 = .ok (.isub, 1) := by decide +kernel
theorem dX2_sortIn_19 : decode cX2_sortIn 19 = .ok (.laload, 1) := by decide +kernel
theorem dX2_sortIn_20 : decode cX2_sortIn 20 = .ok (.lload_n 1, 1) := by decide +kernel
theorem dX2_sortIn_21 : decode cX2_sortIn 21 = .ok (.lcmp, 1) := by decide +kernel
theorem dX2_sortIn_22 : decode cX2_sortIn 22 = .ok (.ifCond .ge 31, 3) := by decide +kernel
theorem dX2_sortIn_25 : decode cX2_sortIn 25 = .ok (.aload_n 0, 1) := by decide +kernel
theorem dX2_sortIn_26 : decode cX2_sortIn 26 = .ok (.getfield 22, 3) := by decide +kernel
theorem dX2_sortIn_29 : decode cX2_sortIn 29 = .ok (.iload 5, 2) := by decide +kernel
theorem dX2_sortIn_31 : decode cX2_sortIn 31 = .ok (.aload_n 0, 1) := by decide +kernel
theorem dX2_sortIn_32 : decode cX2_sortIn 32 = .ok (.getfield 22, 3) := by decide +kernel
theorem dX2_sortIn_35 : decode cX2_sortIn 35 = .ok (.iload 5, 2) := by decide +kernel
theorem dX2_sortIn_37 : decode cX2_sortIn 37 = .ok (.iconst 1, 1) := by decide +kernel
theorem dX2_sortIn_38 : decode cX2_sortIn 38 = .ok (.isub, 1) := by decide +kernel
theorem dX2_sortIn_39 : decode cX2_sortIn 39 = .ok (.laload, 1) := by decide +kernel
theorem dX2_sortIn_40 : decode cX2_sortIn 40 = .ok (.lastore, 1) := by decide +kernel
theorem dX2_sortIn_41 : decode cX2_sortIn 41 = .ok (.iload 5, 2) := by decide +kernel
theorem dX2_sortIn_43 : decode cX2_sortIn 43 = .ok (.iconst 1, 1) := by decide +kernel
theorem dX2_sortIn_44 : decode cX2_sortIn 44 = .ok (.isub, 1) := by decide +kernel
theorem dX2_sortIn_45 : decode cX2_sortIn 45 = .ok (.istore 4, 2) := by decide +kernel
theorem dX2_sortIn_47 : decode cX2_sortIn 47 = .ok (.iinc 5 (-1), 3) := by decide +kernel
theorem dX2_sortIn_50 : decode cX2_sortIn 50 = .ok (.goto (-44), 3) := by decide +kernel
theorem dX2_sortIn_53 : decode cX2_sortIn 53 = .ok (.aload_n 0, 1) := by decide +kernel
theorem dX2_sortIn_54 : decode cX2_sortIn 54 = .ok (.getfield 22, 3) := by decide +kernel
theorem dX2_sortIn_57 : decode cX2_sortIn 57 = .ok (.iload 4, 2) := by decide +kernel
theorem dX2_sortIn_59 : decode cX2_sortIn 59 = .ok (.lload_n 1, 1) := by decide +kernel
theorem dX2_sortIn_60 : decode cX2_sortIn 60 = .ok (.lastore, 1) := by decide +kernel
theorem dX2_sortIn_61 : decode cX2_sortIn 61 = .ok (.return_, 1) := by decide +kernel
theorem dX2_wavesInRows_0 : decode cX2_wavesInRows 0 = .ok (.aload_n 0, 1) := by decide +kernel
theorem dX2_wavesInRows_1 : decode cX2_wavesInRows 1 = .ok (.invokevirtual 113, 3) := by decide +kernel
theorem dX2_wavesInRows_4 : decode cX2_wavesInRows 4 = .ok (.istore_n 3, 1) := by decide +kernel
theorem dX2_wavesInRows_5 : decode cX2_wavesInRows 5 = .ok (.iconst 0, 1) := by decide +kernel
theorem dX2_wavesInRows_6 : decode cX2_wavesInRows 6 = .ok (.istore 4, 2) := by decide +kernel
theorem dX2_wavesInRows_8 : decode cX2_wavesInRows 8 = .ok (.iconst 0, 1) := by decide +kernel
theorem dX2_wavesInRows_9 : decode cX2_wavesInRows 9 = .ok (.istore 5, 2) := by decide +kernel
theorem dX2_wavesInRows_11 : decode cX2_wavesInRows 11 = .ok (.iconst 0, 1) := by decide +kernel
theorem dX2_wavesInRows_12 : decode cX2_wavesInRows 12 = .ok (.istore 6, 2) := by decide +kernel
theorem dX2_wavesInRows_14 : decode cX2_wavesInRows 14 = .ok (.iload 6, 2) := by decide +kernel
theorem dX2_wavesInRows_16 : decode cX2_wavesInRows 16 = .ok (.iload_n 3, 1) := by decide +kernel
theorem dX2_wavesInRows_17 : decode cX2_wavesInRows 17 = .ok (.if_icmp .ge 40, 3) := by decide +kernel
theorem dX2_wavesInRows_20 : decode cX2_wavesInRows 20 = .ok (.aload_n 0, 1) := by decide +kernel
theorem dX2_wavesInRows_21 : decode cX2_wavesInRows 21 = .ok (.iload 6, 2) := by decide +kernel
theorem dX2_wavesInRows_23 : decode cX2_wavesInRows 23 = .ok (.iconst 4, 1) := by decide +kernel
theorem dX2_wavesInRows_24 : decode cX2_wavesInRows 24 = .ok (.invokevirtual 105, 3) := by decide +kernel
theorem dX2_wavesInRows_27 : decode cX2_wavesInRows 27 = .ok (.lload_n 1, 1) := by decide +kernel
theorem dX2_wavesInRows_28 : decode cX2_wavesInRows 28 = .ok (.lcmp, 1) := by decide +kernel
theorem dX2_wavesInRows_29 : decode cX2_wavesInRows 29 = .ok (.ifCond .le 10, 3) := by decide +kernel
theorem dX2_wavesInRows_32 : decode cX2_wavesInRows 32 = .ok (.iload 5, 2) := by decide +kernel
theorem dX2_wavesInRows_34 : decode cX2_wavesInRows 34 = .ok (.iconst 1, 1) := by decide +kernel
theorem dX2_wavesInRows_35 : decode cX2_wavesInRows 35 = .ok (.iadd, 1) := by decide +kernel
theorem dX2_wavesInRows_36 : decode cX2_wavesInRows 36 = .ok (.goto 4, 3) := by decide +kernel
theorem dX2_wavesInRows_39 : decode cX2_wavesInRows 39 = .ok (.iconst 0, 1) := by decide +kernel
theorem dX2_wavesInRows_40 : decode cX2_wavesInRows 40 = .ok (.istore 5, 2) := by decide +kernel
theorem dX2_wavesInRows_42 : decode cX2_wavesInRows 42 = .ok (.iload 5, 2) := by decide +kernel
theorem dX2_wavesInRows_44 : decode cX2_wavesInRows 44 = .ok (.iconst 2, 1) := by decide +kernel
theorem dX2_wavesInRows_45 : decode cX2_wavesInRows 45 = .ok (.if_icmp .ne 6, 3) := by decide +kernel
theorem dX2_wavesInRows_48 : decode cX2_wavesInRows 48 = .ok (.iinc 4 1, 3) := by decide +kernel
theorem dX2_wavesInRows_51 : decode cX2_wavesInRows 51 = .ok (.iinc 6 1, 3) := by decide +kernel
theorem dX2_wavesInRows_54 : decode cX2_wavesInRows 54 = .ok (.goto (-40), 3) := by decide +kernel
theorem dX2_wavesInRows_57 : decode cX2_wavesInRows 57 = .ok (.iload 4, 2) := by decide +kernel
theorem dX2_wavesInRows_59 : decode cX2_wavesInRows 59 = .ok (.ireturn, 1) := by decide +kernel
theorem dX2_longestRowOfWaves_0 : decode cX2_longestRowOfWaves 0 = .ok (.aload_n 0, 1) := by decide +kernel
theorem dX2_longestRowOfWaves_1 : decode cX2_longestRowOfWaves 1 = .ok (.invokevirtual 113, 3) := by decide +kernel
theorem dX2_longestRowOfWaves_4 : decode cX2_longestRowOfWaves 4 = .ok (.istore_n 3, 1) := by decide +kernel
theorem dX2_longestRowOfWaves_5 : decode cX2_longestRowOfWaves 5 = .ok (.iconst 0, 1) := by decide +kernel
theorem dX2_longestRowOfWaves_6 : decode cX2_longestRowOfWaves 6 = .ok (.istore 4, 2) := by decide +kernel
theorem dX2_longestRowOfWaves_8 : decode cX2_longestRowOfWaves 8 = .ok (.iconst 0, 1) := by decide +kernel
theorem dX2_longestRowOfWaves_9 : decode cX2_longestRowOfWaves 9 = .ok (.istore 5, 2) := by decide +kernel
theorem dX2_longestRowOfWaves_11 : decode cX2_longestRowOfWaves 11 = .ok (.iconst 0, 1) := by decide +kernel
theorem dX2_longestRowOfWaves_12 : decode cX2_longestRowOfWaves 12 = .ok (.istore 6, 2) := by decide +kernel
theorem dX2_longestRowOfWaves_14 : decode cX2_longestRowOfWaves 14 = .ok (.iload 6, 2) := by decide +kernel
theorem dX2_longestRowOfWaves_16 : decode cX2_longestRowOfWaves 16 = .ok (.iload_n 3, 1) := by decide +kernel
theorem dX2_longestRowOfWaves_17 : decode cX2_longestRowOfWaves 17 = .ok (.if_icmp .ge 40, 3) := by decide +kernel
theorem dX2_longestRowOfWaves_20 : decode cX2_longestRowOfWaves 20 = .ok (.aload_n 0, 1) := by decide +kernel
theorem dX2_longestRowOfWaves_21 : decode cX2_longestRowOfWaves 21 = .ok (.iload 6, 2) := by decide +kernel
theorem dX2_longestRowOfWaves_23 : decode cX2_longestRowOfWaves 23 = .ok (.iconst 4, 1) := by decide +kernel
theorem dX2_longestRowOfWaves_24 : decode cX2_longestRowOfWaves 24 = .ok (.invokevirtual 105, 3) := by decide +kernel
theorem dX2_longestRowOfWaves_27 : decode cX2_longestRowOfWaves 27 = .ok (.lload_n 1, 1) := by decide +kernel
theorem dX2_longestRowOfWaves_28 : decode cX2_longestRowOfWaves 28 = .ok (.lcmp, 1) := by decide +kernel
theorem dX2_longestRowOfWaves_29 : decode cX2_longestRowOfWaves 29 = .ok (.ifCond .le 10, 3) := by decide +kernel
theorem dX2_longestRowOfWaves_32 : decode cX2_longestRowOfWaves 32 = .ok (.iload 5, 2) := by decide +kernel
theorem dX2_longestRowOfWaves_34 : decode cX2_longestRowOfWaves 34 = .ok (.iconst 1, 1) := by decide +kernel
theorem dX2_longestRowOfWaves_35 : decode cX2_longestRowOfWaves 35 = .ok (.iadd, 1) := by decide +kernel
theorem dX2_longestRowOfWaves_36 : decode cX2_longestRowOfWaves 36 = .ok (.goto 4, 3) := by decide +kernel
theorem dX2_longestRowOfWaves_39 : decode cX2_longestRowOfWaves 39 = .ok (.iconst 0, 1) := by decide +kernel
theorem dX2_longestRowOfWaves_40 : decode cX2_longestRowOfWaves 40 = .ok (.istore 5, 2) := by decide +kernel
theorem dX2_longestRowOfWaves_42 : decode cX2_longestRowOfWaves 42 = .ok (.iload 4, 2) := by decide +kernel
theorem dX2_longestRowOfWaves_44 : decode cX2_longestRowOfWaves 44 = .ok (.iload 5, 2) := by decide +kernel
theorem dX2_longestRowOfWaves_46 : decode cX2_longestRowOfWaves 46 = .ok (.invokestatic 93, 3) := by decide +kernel
theorem dX2_longestRowOfWaves_49 : decode cX2_longestRowOfWaves 49 = .ok (.istore 4, 2) := by decide +kernel
theorem dX2_longestRowOfWaves_51 : decode cX2_longestRowOfWaves 51 = .ok (.iinc 6 1, 3) := by decide +kernel
theorem dX2_longestRowOfWaves_54 : decode cX2_longestRowOfWaves 54 = .ok (.goto (-40), 3) := by decide +kernel
theorem dX2_longestRowOfWaves_57 : decode cX2_longestRowOfWaves 57 = .ok (.iload 4, 2) := by decide +kernel
theorem dX2_longestRowOfWaves_59 : decode cX2_longestRowOfWaves 59 = .ok (.ireturn, 1) := by decide +kernel
theorem dX2_digestOn_0 : decode cX2_digestOn 0 = .ok (.ldc2_w 116, 3) := by decide +kernel
theorem dX2_digestOn_3 : decode cX2_digestOn 3 = .ok (.lload_n 1, 1) := by decide +kernel
theorem dX2_digestOn_4 : decode cX2_digestOn 4 = .ok (.lmul, 1) := by decide +kernel
theorem dX2_digestOn_5 : decode cX2_digestOn 5 = .ok (.aload_n 0, 1) := by decide +kernel
theorem dX2_digestOn_6 : decode cX2_digestOn 6 = .ok (.getfield 25, 3) := by decide +kernel
theorem dX2_digestOn_9 : decode cX2_digestOn 9 = .ok (.i2l, 1) := by decide +kernel
theorem dX2_digestOn_10 : decode cX2_digestOn 10 = .ok (.ladd, 1) := by decide +kernel
theorem dX2_digestOn_11 : decode cX2_digestOn 11 = .ok (.lstore_n 3, 1) := by decide +kernel
theorem dX2_digestOn_12 : decode cX2_digestOn 12 = .ok (.iconst 0, 1) := by decide +kernel
theorem dX2_digestOn_13 : decode cX2_digestOn 13 = .ok (.istore 5, 2) := by decide +kernel
theorem dX2_digestOn_15 : decode cX2_digestOn 15 = .ok (.iload 5, 2) := by decide +kernel
theorem dX2_digestOn_17 : decode cX2_digestOn 17 = .ok (.aload_n 0, 1) := by decide +kernel
theorem dX2_digestOn_18 : decode cX2_digestOn 18 = .ok (.getfield 25, 3) := by decide +kernel
theorem dX2_digestOn_21 : decode cX2_digestOn 21 = .ok (.if_icmp .ge 23, 3) := by decide +kernel
theorem dX2_digestOn_24 : decode cX2_digestOn 24 = .ok (.ldc2_w 116, 3) := by decide +kernel
theorem dX2_digestOn_27 : decode cX2_digestOn 27 = .ok (.lload_n 3, 1) := by decide +kernel
theorem dX2_digestOn_28 : decode cX2_digestOn 28 = .ok (.lmul, 1) := by decide +kernel
theorem dX2_digestOn_29 : decode cX2_digestOn 29 = .ok (.aload_n 0, 1) := by decide +kernel
theorem dX2_digestOn_30 : decode cX2_digestOn 30 = .ok (.getfield 9, 3) := by decide +kernel
theorem dX2_digestOn_33 : decode cX2_digestOn 33 = .ok (.iload 5, 2) := by decide +kernel
theorem dX2_digestOn_35 : decode cX2_digestOn 35 = .ok (.laload, 1) := by decide +kernel
theorem dX2_digestOn_36 : decode cX2_digestOn 36 = .ok (.ladd, 1) := by decide +kernel
theorem dX2_digestOn_37 : decode cX2_digestOn 37 = .ok (.lstore_n 3, 1) := by decide +kernel
theorem dX2_digestOn_38 : decode cX2_digestOn 38 = .ok (.iinc 5 1, 3) := by decide +kernel
theorem dX2_digestOn_41 : decode cX2_digestOn 41 = .ok (.goto (-26), 3) := by decide +kernel
theorem dX2_digestOn_44 : decode cX2_digestOn 44 = .ok (.lload_n 3, 1) := by decide +kernel
theorem dX2_digestOn_45 : decode cX2_digestOn 45 = .ok (.lreturn, 1) := by decide +kernel
theorem dX3_init_0 : decode cX3_init 0 = .ok (.aload_n 0, 1) := by decide +kernel
theorem dX3_init_1 : decode cX3_init 1 = .ok (.invokespecial 3, 3) := by decide +kernel
theorem dX3_init_4 : decode cX3_init 4 = .ok (.aload_n 0, 1) := by decide +kernel
theorem dX3_init_5 : decode cX3_init 5 = .ok (.bipush 64, 2) := by decide +kernel
theorem dX3_init_7 : decode cX3_init 7 = .ok (.newarray .int, 2) := by decide +kernel
theorem dX3_init_9 : decode cX3_init 9 = .ok (.putfield 9, 3) := by decide +kernel
theorem dX3_init_12 : decode cX3_init 12 = .ok (.aload_n 0, 1) := by decide +kernel
theorem dX3_init_13 : decode cX3_init 13 = .ok (.bipush 64, 2) := by decide +kernel
theorem dX3_init_15 : decode cX3_init 15 = .ok (.newarray .int, 2) := by decide +kernel
theorem dX3_init_17 : decode cX3_init 17 = .ok (.putfield 15, 3) := by decide +kernel
theorem dX3_init_20 : decode cX3_init 20 = .ok (.aload_n 0, 1) := by decide +kernel
theorem dX3_init_21 : decode cX3_init 21 = .ok (.bipush 64, 2) := by decide +kernel
theorem dX3_init_23 : decode cX3_init 23 = .ok (.newarray .boolean, 2) := by decide +kernel
theorem dX3_init_25 : decode cX3_init 25 = .ok (.putfield 18, 3) := by decide +kernel
theorem dX3_init_28 : decode cX3_init 28 = .ok (.return_, 1) := by decide +kernel
theorem dX3_begin_0 : decode cX3_begin 0 = .ok (.aload_n 0, 1) := by decide +kernel
theorem dX3_begin_1 : decode cX3_begin 1 = .ok (.iconst 1, 1) := by decide +kernel
theorem dX3_begin_2 : decode cX3_begin 2 = .ok (.putfield 22, 3) := by decide +kernel
theorem dX3_begin_5 : decode cX3_begin 5 = .ok (.aload_n 0, 1) := by decide +kernel
theorem dX3_begin_6 : decode cX3_begin 6 = .ok (.iload_n 1, 1) := by decide +kernel
theorem dX3_begin_7 : decode cX3_begin 7 = .ok (.putfield 26, 3) := by decide +kernel
theorem dX3_begin_10 : decode cX3_begin 10 = .ok (.aload_n 0, 1) := by decide +kernel
theorem dX3_begin_11 : decode cX3_begin 11 = .ok (.iload_n 2, 1) := by decide +kernel
theorem dX3_begin_12 : decode cX3_begin 12 = .ok (.putfield 30, 3) := by decide +kernel
theorem dX3_begin_15 : decode cX3_begin 15 = .ok (.aload_n 0, 1) := by decide +kernel
theorem dX3_begin_16 : decode cX3_begin 16 = .ok (.getfield 9, 3) := by decide +kernel
theorem dX3_begin_19 : decode cX3_begin 19 = .ok (.iconst 0, 1) := by decide +kernel
theorem dX3_begin_20 : decode cX3_begin 20 = .ok (.invokestatic 33, 3) := by decide +kernel
theorem dX3_begin_23 : decode cX3_begin 23 = .ok (.aload_n 0, 1) := by decide +kernel
theorem dX3_begin_24 : decode cX3_begin 24 = .ok (.getfield 15, 3) := by decide +kernel
theorem dX3_begin_27 : decode cX3_begin 27 = .ok (.iconst 1, 1) := by decide +kernel
theorem dX3_begin_28 : decode cX3_begin 28 = .ok (.invokestatic 33, 3) := by decide +kernel
theorem dX3_begin_31 : decode cX3_begin 31 = .ok (.return_, 1) := by decide +kernel
theorem dX3_end_0 : decode cX3_end 0 = .ok (.aload_n 0, 1) := by decide +kernel
theorem dX3_end_1 : decode cX3_end 1 = .ok (.iconst 0, 1) := by decide +kernel
theorem dX3_end_2 : decode cX3_end 2 = .ok (.putfield 22, 3) := by decide +kernel
theorem dX3_end_5 : decode cX3_end 5 = .ok (.aload_n 0, 1) := by decide +kernel
theorem dX3_end_6 : decode cX3_end 6 = .ok (.getfield 30, 3) := by decide +kernel
theorem dX3_end_9 : decode cX3_end 9 = .ok (.ireturn, 1) := by decide +kernel
theorem dX3_isThere_0 : decode cX3_isThere 0 = .ok (.aload_n 0, 1) := by decide +kernel
theorem dX3_isThere_1 : decode cX3_isThere 1 = .ok (.getfield 22, 3) := by decide +kernel
theorem dX3_isThere_4 : decode cX3_isThere 4 = .ok (.ireturn, 1) := by decide +kernel
theorem dX3_sort_0 : decode cX3_sort 0 = .ok (.aload_n 0, 1) := by decide +kernel
theorem dX3_sort_1 : decode cX3_sort 1 = .ok (.getfield 26, 3) := by decide +kernel
theorem dX3_sort_4 : decode cX3_sort 4 = .ok (.ireturn, 1) := by decide +kernel
theorem dX3_size_0 : decode cX3_size 0 = .ok (.aload_n 0, 1) := by decide +kernel
theorem dX3_size_1 : decode cX3_size 1 = .ok (.getfield 30, 3) := by decide +kernel
theorem dX3_size_4 : decode cX3_size 4 = .ok (.ireturn, 1) := by decide +kernel
theorem dX3_has_0 : decode cX3_has 0 = .ok (.iload_n 1, 1) := by decide +kernel
theorem dX3_has_1 : decode cX3_has 1 = .ok (.ifCond .lt 15, 3) := by decide +kernel
theorem dX3_has_4 : decode cX3_has 4 = .ok (.iload_n 1, 1) := by decide +kernel
theorem dX3_has_5 : decode cX3_has 5 = .ok (.aload_n 0, 1) := by decide +kernel
theorem dX3_has_6 : decode cX3_has 6 = .ok (.getfield 30, 3) := by decide +kernel
theorem dX3_has_9 : decode cX3_has 9 = .ok (.if_icmp .ge 7, 3) := by decide +kernel
theorem dX3_has_12 : decode cX3_has 12 = .ok (.iconst 1, 1) := by decide +kernel
theorem dX3_has_13 : decode cX3_has 13 = .ok (.goto 4, 3) := by decide +kernel
theorem dX3_has_16 : decode cX3_has 16 = .ok (.iconst 0, 1) := by decide +kernel
theorem dX3_has_17 : decode cX3_has 17 = .ok (.ireturn, 1) := by decide +kernel
theorem dX3_hasStretch_0 : decode cX3_hasStretch 0 = .ok (.iload_n 1, 1) := by decide +kernel
theorem dX3_hasStretch_1 : decode cX3_hasStretch 1 = .ok (.ifCond .lt 25, 3) := by decide +kernel
theorem dX3_hasStretch_4 : decode cX3_hasStretch 4 = .ok (.iload_n 1, 1) := by decide +kernel
theorem dX3_hasStretch_5 : decode cX3_hasStretch 5 = .ok (.aload_n 0, 1) := by decide +kernel
theorem dX3_hasStretch_6 : decode cX3_hasStretch 6 = .ok (.getfield 30, 3) := by decide +kernel
theorem dX3_hasStretch_9 : decode cX3_hasStretch 9 = .ok (.if_icmp .gt 17, 3) := by decide +kernel
theorem dX3_hasStretch_12 : decode cX3_hasStretch 12 = .ok (.iload_n 2, 1) := by decide +kernel
theorem dX3_hasStretch_13 : decode cX3_hasStretch 13 = .ok (.aload_n 0, 1) := by decide +kernel
theorem dX3_hasStretch_14 : decode cX3_hasStretch 14 = .ok (.getfield 30, 3) := by decide +kernel
theorem dX3_hasStretch_17 : decode cX3_hasStretch 17 = .ok (.iload_n 1, 1) := by decide +kernel
theorem dX3_hasStretch_18 : decode cX3_hasStretch 18 = .ok (.isub, 1) := by decide +kernel
theorem dX3_hasStretch_19 : decode cX3_hasStretch 19 = .ok (.if_icmp .gt 7, 3) := by decide +kernel
theorem dX3_hasStretch_22 : decode cX3_hasStretch 22 = .ok (.iconst 1, 1) := by decide +kernel
theorem dX3_hasStretch_23 : decode cX3_hasStretch 23 = .ok (.goto 4, 3) := by decide +kernel
theorem dX3_hasStretch_26 : decode cX3_hasStretch 26 = .ok (.iconst 0, 1) := by decide +kernel
theorem dX3_hasStretch_27 : decode cX3_hasStretch 27 = .ok (.ireturn, 1) := by decide +kernel
theorem dX3_fits_0 : decode cX3_fits 0 = .ok (.aload_n 0, 1) := by decide +kernel
theorem dX3_fits_1 : decode cX3_fits 1 = .ok (.getfield 26, 3) := by decide +kernel
theorem dX3_fits_4 : decode cX3_fits 4 = .ok (.lookupswitch 66 #[(0, 28), (1, 46)], 28) := by decide +kernel
theorem dX3_fits_32 : decode cX3_fits 32 = .ok (.iload_n 1, 1) := by decide +kernel
theorem dX3_fits_33 : decode cX3_fits 33 = .ok (.bipush (-128), 2) := by decide +kernel
theorem dX3_fits_35 : decode cX3_fits 35 = .ok (.if_icmp .lt 13, 3) := by decide +kernel
theorem dX3_fits_38 : decode cX3_fits 38 = .ok (.iload_n 1, 1) := by decide +kernel
theorem dX3_fits_39 : decode cX3_fits 39 = .ok (.bipush 127, 2) := by decide +kernel
theorem dX3_fits_41 : decode cX3_fits 41 = .ok (.if_icmp .gt 7, 3) := by decide +kernel
theorem dX3_fits_44 : decode cX3_fits 44 = .ok (.iconst 1, 1) := by decide +kernel
theorem dX3_fits_45 : decode cX3_fits 45 = .ok (.goto 4, 3) := by decide +kernel
theorem dX3_fits_48 : decode cX3_fits 48 = .ok (.iconst 0, 1) := by decide +kernel
theorem dX3_fits_49 : decode cX3_fits 49 = .ok (.ireturn, 1) := by decide +kernel
theorem dX3_fits_50 : decode cX3_fits 50 = .ok (.iload_n 1, 1) := by decide +kernel
theorem dX3_fits_51 : decode cX3_fits 51 = .ok (.sipush (-32768), 3) := by decide +kernel
theorem dX3_fits_54 : decode cX3_fits 54 = .ok (.if_icmp .lt 14, 3) := by decide +kernel
theorem dX3_fits_57 : decode cX3_fits 57 = .ok (.iload_n 1, 1) := by decide +kernel
theorem dX3_fits_58 : decode cX3_fits 58 = .ok (.sipush 32767, 3) := by decide +kernel
theorem dX3_fits_61 : decode cX3_fits 61 = .ok (.if_icmp .gt 7, 3) := by decide +kernel
theorem dX3_fits_64 : decode cX3_fits 64 = .ok (.iconst 1, 1) := by decide +kernel
theorem dX3_fits_65 : decode cX3_fits 65 = .ok (.goto 4, 3) := by decide +kernel
theorem dX3_fits_68 : decode cX3_fits 68 = .ok (.iconst 0, 1) := by decide +kernel
theorem dX3_fits_69 : decode cX3_fits 69 = .ok (.ireturn, 1) := by decide +kernel
theorem dX3_fits_70 : decode cX3_fits 70 = .ok (.iconst 1, 1) := by decide +kernel
theorem dX3_fits_71 : decode cX3_fits 71 = .ok (.ireturn, 1) := by decide +kernel
theorem dX3_tell_0 : decode cX3_tell 0 = .ok (.aload_n 0, 1) := by decide +kernel
theorem dX3_tell_1 : decode cX3_tell 1 = .ok (.getfield 9, 3) := by decide +kernel
theorem dX3_tell_4 : decode cX3_tell 4 = .ok (.iload_n 1, 1) := by decide +kernel
theorem dX3_tell_5 : decode cX3_tell 5 = .ok (.iload_n 2, 1) := by decide +kernel
theorem dX3_tell_6 : decode cX3_tell 6 = .ok (.iastore, 1) := by decide +kernel
theorem dX3_tell_7 : decode cX3_tell 7 = .ok (.aload_n 0, 1) := by decide +kernel
theorem dX3_tell_8 : decode cX3_tell 8 = .ok (.getfield 15, 3) := by decide +kernel
theorem dX3_tell_11 : decode cX3_tell 11 = .ok (.iload_n 1, 1) := by decide +kernel
theorem dX3_tell_12 : decode cX3_tell 12 = .ok (.iconst 1, 1) := by decide +kernel
theorem dX3_tell_13 : decode cX3_tell 13 = .ok (.iastore, 1) := by decide +kernel
theorem dX3_tell_14 : decode cX3_tell 14 = .ok (.return_, 1) := by decide +kernel
theorem dX3_forget_0 : decode cX3_forget 0 = .ok (.aload_n 0, 1) := by decide +kernel
theorem dX3_forget_1 : decode cX3_forget 1 = .ok (.getfield 9, 3) := by decide +kernel
theorem dX3_forget_4 : decode cX3_forget 4 = .ok (.iload_n 1, 1) := by decide +kernel
theorem dX3_forget_5 : decode cX3_forget 5 = .ok (.iconst 0, 1) := by decide +kernel
theorem dX3_forget_6 : decode cX3_forget 6 = .ok (.iastore, 1) := by decide +kernel
theorem dX3_forget_7 : decode cX3_forget 7 = .ok (.aload_n 0, 1) := by decide +kernel
theorem dX3_forget_8 : decode cX3_forget 8 = .ok (.getfield 15, 3) := by decide +kernel
theorem dX3_forget_11 : decode cX3_forget 11 = .ok (.iload_n 1, 1) := by decide +kernel
theorem dX3_forget_12 : decode cX3_forget 12 = .ok (.iconst 0, 1) := by decide +kernel
theorem dX3_forget_13 : decode cX3_forget 13 = .ok (.iastore, 1) := by decide +kernel
theorem dX3_forget_14 : decode cX3_forget 14 = .ok (.return_, 1) := by decide +kernel
theorem dX3_isLost_0 : decode cX3_isLost 0 = .ok (.aload_n 0, 1) := by decide +kernel
theorem dX3_isLost_1 : decode cX3_isLost 1 = .ok (.getfield 15, 3) := by decide +kernel
theorem dX3_isLost_4 : decode cX3_isLost 4 = .ok (.iload_n 1, 1) := by decide +kernel
theorem dX3_isLost_5 : decode cX3_isLost 5 = .ok (.iaload, 1) := by decide +kernel
theorem dX3_isLost_6 : decode cX3_isLost 6 = .ok (.ifCond .ne 7, 3) := by decide +kernel
theorem dX3_isLost_9 : decode cX3_isLost 9 = .ok (.iconst 1, 1) := by decide +kernel
theorem dX3_isLost_10 : decode cX3_isLost 10 = .ok (.goto 4, 3) := by decide +kernel
theorem dX3_isLost_13 : decode cX3_isLost 13 = .ok (.iconst 0, 1) := by decide +kernel
theorem dX3_isLost_14 : decode cX3_isLost 14 = .ok (.ireturn, 1) := by decide +kernel
theorem dX3_stateAt_0 : decode cX3_stateAt 0 = .ok (.aload_n 0, 1) := by decide +kernel
theorem dX3_stateAt_1 : decode cX3_stateAt 1 = .ok (.getfield 15, 3) := by decide +kernel
theorem dX3_stateAt_4 : decode cX3_stateAt 4 = .ok (.iload_n 1, 1) := by decide +kernel
theorem dX3_stateAt_5 : decode cX3_stateAt 5 = .ok (.iaload, 1) := by decide +kernel
theorem dX3_stateAt_6 : decode cX3_stateAt 6 = .ok (.ireturn, 1) := by decide +kernel
theorem dX3_valueAt_0 : decode cX3_valueAt 0 = .ok (.aload_n 0, 1) := by decide +kernel
theorem dX3_valueAt_1 : decode cX3_valueAt 1 = .ok (.getfield 9, 3) := by decide +kernel
theorem dX3_valueAt_4 : decode cX3_valueAt 4 = .ok (.iload_n 1, 1) := by decide +kernel
theorem dX3_valueAt_5 : decode cX3_valueAt 5 = .ok (.iaload, 1) := by decide +kernel
theorem dX3_valueAt_6 : decode cX3_valueAt 6 = .ok (.ireturn, 1) := by decide +kernel
theorem dX3_take_0 : decode cX3_take 0 = .ok (.aload_n 1, 1) := by decide +kernel
theorem dX3_take_1 : decode cX3_take 1 = .ok (.getfield 9, 3) := by decide +kernel
theorem dX3_take_4 : decode cX3_take 4 = .ok (.iload_n 2, 1) := by decide +kernel
theorem dX3_take_5 : decode cX3_take 5 = .ok (.aload_n 0, 1) := by decide +kernel
theorem dX3_take_6 : decode cX3_take 6 = .ok (.getfield 9, 3) := by decide +kernel
theorem dX3_take_9 : decode cX3_take 9 = .ok (.iload_n 3, 1) := by decide +kernel
theorem dX3_take_10 : decode cX3_take 10 = .ok (.iload 4, 2) := by decide +kernel
theorem dX3_take_12 : decode cX3_take 12 = .ok (.invokestatic 39, 3) := by decide +kernel
theorem dX3_take_15 : decode cX3_take 15 = .ok (.aload_n 1, 1) := by decide +kernel
theorem dX3_take_16 : decode cX3_take 16 = .ok (.getfield 15, 3) := by decide +kernel
theorem dX3_take_19 : decode cX3_take 19 = .ok (.iload_n 2, 1) := by decide +kernel
theorem dX3_take_20 : decode cX3_take 20 = .ok (.aload_n 0, 1) := by decide +kernel
theorem dX3_take_21 : decode cX3_take 21 = .ok (.getfield 15, 3) := by decide +kernel
theorem dX3_take_24 : decode cX3_take 24 = .ok (.iload_n 3, 1) := by decide +kernel
theorem dX3_take_25 : decode cX3_take 25 = .ok (.iload 4, 2) := by decide +kernel
theorem dX3_take_27 : decode cX3_take 27 = .ok (.invokestatic 39, 3) := by decide +kernel
theorem dX3_take_30 : decode cX3_take 30 = .ok (.return_, 1) := by decide +kernel
theorem dX3_loseSpikes_0 : decode cX3_loseSpikes 0 = .ok (.iconst 0, 1) := by decide +kernel
theorem dX3_loseSpikes_1 : decode cX3_loseSpikes 1 = .ok (.istore_n 2, 1) := by decide +kernel
theorem dX3_loseSpikes_2 : decode cX3_loseSpikes 2 = .ok (.iload_n 2, 1) := by decide +kernel
theorem dX3_loseSpikes_3 : decode cX3_loseSpikes 3 = .ok (.aload_n 0, 1) := by decide +kernel
theorem dX3_loseSpikes_4 : decode cX3_loseSpikes 4 = .ok (.getfield 30, 3) := by decide +kernel
theorem dX3_loseSpikes_7 : decode cX3_loseSpikes 7 = .ok (.if_icmp .ge 21, 3) := by decide +kernel
theorem dX3_loseSpikes_10 : decode cX3_loseSpikes 10 = .ok (.aload_n 0, 1) := by decide +kernel
theorem dX3_loseSpikes_11 : decode cX3_loseSpikes 11 = .ok (.getfield 18, 3) := by decide +kernel
theorem dX3_loseSpikes_14 : decode cX3_loseSpikes 14 = .ok (.iload_n 2, 1) := by decide +kernel
theorem dX3_loseSpikes_15 : decode cX3_loseSpikes 15 = .ok (.aload_n 0, 1) := by decide +kernel
theorem dX3_loseSpikes_16 : decode cX3_loseSpikes 16 = .ok (.iload_n 2, 1) := by decide +kernel
theorem dX3_loseSpikes_17 : decode cX3_loseSpikes 17 = .ok (.iload_n 1, 1) := by decide +kernel
theorem dX3_loseSpikes_18 : decode cX3_loseSpikes 18 = .ok (.invokevirtual 45, 3) := by decide +kernel
theorem dX3_loseSpikes_21 : decode cX3_loseSpikes 21 = .ok (.bastore, 1) := by decide +kernel
theorem dX3_loseSpikes_22 : decode cX3_loseSpikes 22 = .ok (.iinc 2 1, 3) := by decide +kernel
theorem dX3_loseSpikes_25 : decode cX3_loseSpikes 25 = .ok (.goto (-23), 3) := by decide +kernel
theorem dX3_loseSpikes_28 : decode cX3_loseSpikes 28 = .ok (.iconst 0, 1) := by decide +kernel
theorem dX3_loseSpikes_29 : decode cX3_loseSpikes 29 = .ok (.istore_n 2, 1) := by decide +kernel
theorem dX3_loseSpikes_30 : decode cX3_loseSpikes 30 = .ok (.iconst 0, 1) := by decide +kernel
theorem dX3_loseSpikes_31 : decode cX3_loseSpikes 31 = .ok (.istore_n 3, 1) := by decide +kernel
theorem dX3_loseSpikes_32 : decode cX3_loseSpikes 32 = .ok (.iload_n 3, 1) := by decide +kernel
theorem dX3_loseSpikes_33 : decode cX3_loseSpikes 33 = .ok (.aload_n 0, 1) := by decide +kernel
theorem dX3_loseSpikes_34 : decode cX3_loseSpikes 34 = .ok (.getfield 30, 3) := by decide +kernel
theorem dX3_loseSpikes_37 : decode cX3_loseSpikes 37 = .ok (.if_icmp .ge 26, 3) := by decide +kernel
theorem dX3_loseSpikes_40 : decode cX3_loseSpikes 40 = .ok (.aload_n 0, 1) := by decide +kernel
theorem dX3_loseSpikes_41 : decode cX3_loseSpikes 41 = .ok (.getfield 18, 3) := by decide +kernel
theorem dX3_loseSpikes_44 : decode cX3_loseSpikes 44 = .ok (.iload_n 3, 1) := by decide +kernel
theorem dX3_loseSpikes_45 : decode cX3_loseSpikes 45 = .ok (.baload, 1) := by decide +kernel
theorem dX3_loseSpikes_46 : decode cX3_loseSpikes 46 = .ok (.ifCond .eq 11, 3) := by decide +kernel
theorem dX3_loseSpikes_49 : decode cX3_loseSpikes 49 = .ok (.aload_n 0, 1) := by decide +kernel
theorem dX3_loseSpikes_50 : decode cX3_loseSpikes 50 = .ok (.iload_n 3, 1) := by decide +kernel
theorem dX3_loseSpikes_51 : decode cX3_loseSpikes 51 = .ok (.invokevirtual 49, 3) := by decide +kernel
theorem dX3_loseSpikes_54 : decode cX3_loseSpikes 54 = .ok (.iinc 2 1, 3) := by decide +kernel
theorem dX3_loseSpikes_57 : decode cX3_loseSpikes 57 = .ok (.iinc 3 1, 3) := by decide +kernel
theorem dX3_loseSpikes_60 : decode cX3_loseSpikes 60 = .ok (.goto (-28), 3) := by decide +kernel
theorem dX3_loseSpikes_63 : decode cX3_loseSpikes 63 = .ok (.iload_n 2, 1) := by decide +kernel
theorem dX3_loseSpikes_64 : decode cX3_loseSpikes 64 = .ok (.ireturn, 1) := by decide +kernel
theorem dX3_isSpike_0 : decode cX3_isSpike 0 = .ok (.iload_n 1, 1) := by decide +kernel
theorem dX3_isSpike_1 : decode cX3_isSpike 1 = .ok (.iconst 1, 1) := by decide +kernel
theorem dX3_isSpike_2 : decode cX3_isSpike 2 = .ok (.if_icmp .lt 41, 3) := by decide +kernel
theorem dX3_isSpike_5 : decode cX3_isSpike 5 = .ok (.iload_n 1, 1) := by decide +kernel
theorem dX3_isSpike_6 : decode cX3_isSpike 6 = .ok (.iconst 1, 1) := by decide +kernel
theorem dX3_isSpike_7 : decode cX3_isSpike 7 = .ok (.iadd, 1) := by decide +kernel
theorem dX3_isSpike_8 : decode cX3_isSpike 8 = .ok (.aload_n 0, 1) := by decide +kernel
theorem dX3_isSpike_9 : decode cX3_isSpike 9 = .ok (.getfield 30, 3) := by decide +kernel
theorem dX3_isSpike_12 : decode cX3_isSpike 12 = .ok (.if_icmp .ge 31, 3) := by decide +kernel
theorem dX3_isSpike_15 : decode cX3_isSpike 15 = .ok (.aload_n 0, 1) := by decide +kernel
theorem dX3_isSpike_16 : decode cX3_isSpike 16 = .ok (.iload_n 1, 1) := by decide +kernel
theorem dX3_isSpike_17 : decode cX3_isSpike 17 = .ok (.iconst 1, 1) := by decide +kernel
theorem dX3_isSpike_18 : decode cX3_isSpike 18 = .ok (.isub, 1) := by decide +kernel
theorem dX3_isSpike_19 : decode cX3_isSpike 19 = .ok (.invokevirtual 53, 3) := by decide +kernel
theorem dX3_isSpike_22 : decode cX3_isSpike 22 = .ok (.ifCond .ne 21, 3) := by decide +kernel
theorem dX3_isSpike_25 : decode cX3_isSpike 25 = .ok (.aload_n 0, 1) := by decide +kernel
theorem dX3_isSpike_26 : decode cX3_isSpike 26 = .ok (.iload_n 1, 1) := by decide +kernel
theorem dX3_isSpike_27 : decode cX3_isSpike 27 = .ok (.invokevirtual 53, 3) := by decide +kernel
theorem dX3_isSpike_30 : decode cX3_isSpike 30 = .ok (.ifCond .ne 13, 3) := by decide +kernel
theorem dX3_isSpike_33 : decode cX3_isSpike 33 = .ok (.aload_n 0, 1) := by decide +kernel
theorem dX3_isSpike_34 : decode cX3_isSpike 34 = .ok (.iload_n 1, 1) := by decide +kernel
theorem dX3_isSpike_35 : decode cX3_isSpike 35 = .ok (.iconst 1, 1) := by decide +kernel
theorem dX3_isSpike_36 : decode cX3_isSpike 36 = .ok (.iadd, 1) := by decide +kernel
theorem dX3_isSpike_37 : decode cX3_isSpike 37 = .ok (.invokevirtual 53, 3) := by decide +kernel
theorem dX3_isSpike_40 : decode cX3_isSpike 40 = .ok (.ifCond .eq 5, 3) := by decide +kernel
theorem dX3_isSpike_43 : decode cX3_isSpike 43 = .ok (.iconst 0, 1) := by decide +kernel
theorem dX3_isSpike_44 : decode cX3_isSpike 44 = .ok (.ireturn, 1) := by decide +kernel
theorem dX3_isSpike_45 : decode cX3_isSpike 45 = .ok (.ldc2_w 57, 3) := by decide +kernel
theorem dX3_isSpike_48 : decode cX3_isSpike 48 = .ok (.aload_n 0, 1) := by decide +kernel
theorem dX3_isSpike_49 : decode cX3_isSpike 49 = .ok (.getfield 9, 3) := by decide +kernel
theorem dX3_isSpike_52 : decode cX3_isSpike 52 = .ok (.iload_n 1, 1) := by decide +kernel
theorem dX3_isSpike_53 : decode cX3_isSpike 53 = .ok (.iaload, 1) := by decide +kernel
theorem dX3_isSpike_54 : decode cX3_isSpike 54 = .ok (.i2l, 1) := by decide +kernel
theorem dX3_isSpike_55 : decode cX3_isSpike 55 = .ok (.lmul, 1) := by decide +kernel
theorem dX3_isSpike_56 : decode cX3_isSpike 56 = .ok (.aload_n 0, 1) := by decide +kernel
theorem dX3_isSpike_57 : decode cX3_isSpike 57 = .ok (.getfield 9, 3) := by decide +kernel
theorem dX3_isSpike_60 : decode cX3_isSpike 60 = .ok (.iload_n 1, 1) := by decide +kernel
theorem dX3_isSpike_61 : decode cX3_isSpike 61 = .ok (.iconst 1, 1) := by decide +kernel
theorem dX3_isSpike_62 : decode cX3_isSpike 62 = .ok (.isub, 1) := by decide +kernel
theorem dX3_isSpike_63 : decode cX3_isSpike 63 = .ok (.iaload, 1) := by decide +kernel
theorem dX3_isSpike_64 : decode cX3_isSpike 64 = .ok (.i2l, 1) := by decide +kernel
theorem dX3_isSpike_65 : decode cX3_isSpike 65 = .ok (.lsub, 1) := by decide +kernel
theorem dX3_isSpike_66 : decode cX3_isSpike 66 = .ok (.aload_n 0, 1) := by decide +kernel
theorem dX3_isSpike_67 : decode cX3_isSpike 67 = .ok (.getfield 9, 3) := by decide +kernel
theorem dX3_isSpike_70 : decode cX3_isSpike 70 = .ok (.iload_n 1, 1) := by decide +kernel
theorem dX3_isSpike_71 : decode cX3_isSpike 71 = .ok (.iconst 1, 1) := by decide +kernel
theorem dX3_isSpike_72 : decode cX3_isSpike 72 = .ok (.iadd, 1) := by decide +kernel
theorem dX3_isSpike_73 : decode cX3_isSpike 73 = .ok (.iaload, 1) := by decide +kernel
theorem dX3_isSpike_74 : decode cX3_isSpike 74 = .ok (.i2l, 1) := by decide +kernel
theorem dX3_isSpike_75 : decode cX3_isSpike 75 = .ok (.lsub, 1) := by decide +kernel
theorem dX3_isSpike_76 : decode cX3_isSpike 76 = .ok (.lstore_n 3, 1) := by decide +kernel
theorem dX3_isSpike_77 : decode cX3_isSpike 77 = .ok (.lload_n 3, 1) := by decide +kernel
theorem dX3_isSpike_78 : decode cX3_isSpike 78 = .ok (.invokestatic 59, 3) := by decide +kernel
theorem dX3_isSpike_81 : decode cX3_isSpike 81 = .ok (.ldc2_w 57, 3) := by decide +kernel
theorem dX3_isSpike_84 : decode cX3_isSpike 84 = .ok (.iload_n 2, 1) := by decide +kernel
theorem dX3_isSpike_85 : decode cX3_isSpike 85 = .ok (.i2l, 1) := by decide +kernel
theorem dX3_isSpike_86 : decode cX3_isSpike 86 = .ok (.lmul, 1) := by decide +kernel
theorem dX3_isSpike_87 : decode cX3_isSpike 87 = .ok (.lcmp, 1) := by decide +kernel
theorem dX3_isSpike_88 : decode cX3_isSpike 88 = .ok (.ifCond .le 7, 3) := by decide +kernel
theorem dX3_isSpike_91 : decode cX3_isSpike 91 = .ok (.iconst 1, 1) := by decide +kernel
theorem dX3_isSpike_92 : decode cX3_isSpike 92 = .ok (.goto 4, 3) := by decide +kernel
theorem dX3_isSpike_95 : decode cX3_isSpike 95 = .ok (.iconst 0, 1) := by decide +kernel
theorem dX3_isSpike_96 : decode cX3_isSpike 96 = .ok (.ireturn, 1) := by decide +kernel
theorem dX3_fillGaps_0 : decode cX3_fillGaps 0 = .ok (.iconst 0, 1) := by decide +kernel
theorem dX3_fillGaps_1 : decode cX3_fillGaps 1 = .ok (.istore_n 2, 1) := by decide +kernel
theorem dX3_fillGaps_2 : decode cX3_fillGaps 2 = .ok (.iconst (-1), 1) := by decide +kernel
theorem dX3_fillGaps_3 : decode cX3_fillGaps 3 = .ok (.istore_n 3, 1) := by decide +kernel
theorem dX3_fillGaps_4 : decode cX3_fillGaps 4 = .ok (.iconst 0, 1) := by decide +kernel
theorem dX3_fillGaps_5 : decode cX3_fillGaps 5 = .ok (.istore 4, 2) := by decide +kernel
theorem dX3_fillGaps_7 : decode cX3_fillGaps 7 = .ok (.iload 4, 2) := by decide +kernel
theorem dX3_fillGaps_9 : decode cX3_fillGaps 9 = .ok (.aload_n 0, 1) := by decide +kernel
theorem dX3_fillGaps_10 : decode cX3_fillGaps 10 = .ok (.getfield 30, 3) := by decide +kernel
theorem dX3_fillGaps_13 : decode cX3_fillGaps 13 = .ok (.if_icmp .ge 51, 3) := by decide +kernel
theorem dX3_fillGaps_16 : decode cX3_fillGaps 16 = .ok (.aload_n 0, 1) := by decide +kernel
theorem dX3_fillGaps_17 : decode cX3_fillGaps 17 = .ok (.iload 4, 2) := by decide +kernel
theorem dX3_fillGaps_19 : decode cX3_fillGaps 19 = .ok (.invokevirtual 53, 3) := by decide +kernel
theorem dX3_fillGaps_22 : decode cX3_fillGaps 22 = .ok (.ifCond .ne 36, 3) := by decide +kernel
theorem dX3_fillGaps_25 : decode cX3_fillGaps 25 = .ok (.iload 4, 2) := by decide +kernel
theorem dX3_fillGaps_27 : decode cX3_fillGaps 27 = .ok (.iload_n 3, 1) := by decide +kernel
theorem dX3_fillGaps_28 : decode cX3_fillGaps 28 = .ok (.isub, 1) := by decide +kernel
theorem dX3_fillGaps_29 : decode cX3_fillGaps 29 = .ok (.iconst 1, 1) := by decide +kernel
theorem dX3_fillGaps_30 : decode cX3_fillGaps 30 = .ok (.isub, 1) := by decide +kernel
theorem dX3_fillGaps_31 : decode cX3_fillGaps 31 = .ok (.istore 5, 2) := by decide +kernel
theorem dX3_fillGaps_33 : decode cX3_fillGaps 33 = .ok (.iload_n 3, 1) := by decide +kernel
theorem dX3_fillGaps_34 : decode cX3_fillGaps 34 = .ok (.ifCond .lt 21, 3) := by decide +kernel
theorem dX3_fillGaps_37 : decode cX3_fillGaps 37 = .ok (.iload 5, 2) := by decide +kernel
theorem dX3_fillGaps_39 : decode cX3_fillGaps 39 = .ok (.iload_n 1, 1) := by decide +kernel
theorem dX3_fillGaps_40 : decode cX3_fillGaps 40 = .ok (.if_icmp .gt 15, 3) := by decide +kernel
theorem dX3_fillGaps_43 : decode cX3_fillGaps 43 = .ok (.aload_n 0, 1) := by decide +kernel
theorem dX3_fillGaps_44 : decode cX3_fillGaps 44 = .ok (.iload_n 3, 1) := by decide +kernel
theorem dX3_fillGaps_45 : decode cX3_fillGaps 45 = .ok (.iload 4, 2) := by decide +kernel
theorem dX3_fillGaps_47 : decode cX3_fillGaps 47 = .ok (.invokevirtual 65, 3) := by decide +kernel
theorem dX3_fillGaps_50 : decode cX3_fillGaps 50 = .ok (.iload_n 2, 1) := by decide +kernel
theorem dX3_fillGaps_51 : decode cX3_fillGaps 51 = .ok (.iload 5, 2) := by decide +kernel
theorem dX3_fillGaps_53 : decode cX3_fillGaps 53 = .ok (.iadd, 1) := by decide +kernel
theorem dX3_fillGaps_54 : decode cX3_fillGaps 54 = .ok (.istore_n 2, 1) := by decide +kernel
theorem dX3_fillGaps_55 : decode cX3_fillGaps 55 = .ok (.iload 4, 2) := by decide +kernel
theorem dX3_fillGaps_57 : decode cX3_fillGaps 57 = .ok (.istore_n 3, 1) := by decide +kernel
theorem dX3_fillGaps_58 : decode cX3_fillGaps 58 = .ok (.iinc 4 1, 3) := by decide +kernel
theorem dX3_fillGaps_61 : decode cX3_fillGaps 61 = .ok (.goto (-54), 3) := by decide +kernel
theorem dX3_fillGaps_64 : decode cX3_fillGaps 64 = .ok (.iload_n 2, 1) := by decide +kernel
theorem dX3_fillGaps_65 : decode cX3_fillGaps 65 = .ok (.ireturn, 1) := by decide +kernel
theorem dX3_fillBetween_0 : decode cX3_fillBetween 0 = .ok (.aload_n 0, 1) := by decide +kernel
theorem dX3_fillBetween_1 : decode cX3_fillBetween 1 = .ok (.getfield 9, 3) := by decide +kernel
theorem dX3_fillBetween_4 : decode cX3_fillBetween 4 = .ok (.iload_n 1, 1) := by decide +kernel
theorem dX3_fillBetween_5 : decode cX3_fillBetween 5 = .ok (.iaload, 1) := by decide +kernel
theorem dX3_fillBetween_6 : decode cX3_fillBetween 6 = .ok (.i2l, 1) := by decide +kernel
theorem dX3_fillBetween_7 : decode cX3_fillBetween 7 = .ok (.lstore_n 3, 1) := by decide +kernel
theorem dX3_fillBetween_8 : decode cX3_fillBetween 8 = .ok (.aload_n 0, 1) := by decide +kernel
theorem dX3_fillBetween_9 : decode cX3_fillBetween 9 = .ok (.getfield 9, 3) := by decide +kernel
theorem dX3_fillBetween_12 : decode cX3_fillBetween 12 = .ok (.iload_n 2, 1) := by decide +kernel
theorem dX3_fillBetween_13 : decode cX3_fillBetween 13 = .ok (.iaload, 1) := by decide +kernel
theorem dX3_fillBetween_14 : decode cX3_fillBetween 14 = .ok (.i2l, 1) := by decide +kernel
theorem dX3_fillBetween_15 : decode cX3_fillBetween 15 = .ok (.lload_n 3, 1) := by decide +kernel
theorem dX3_fillBetween_16 : decode cX3_fillBetween 16 = .ok (.lsub, 1) := by decide +kernel
theorem dX3_fillBetween_17 : decode cX3_fillBetween 17 = .ok (.lstore 5, 2) := by decide +kernel
theorem dX3_fillBetween_19 : decode cX3_fillBetween 19 = .ok (.iload_n 2, 1) := by decide +kernel
theorem dX3_fillBetween_20 : decode cX3_fillBetween 20 = .ok (.iload_n 1, 1) := by decide +kernel
theorem dX3_fillBetween_21 : decode cX3_fillBetween 21 = .ok (.isub, 1) := by decide +kernel
theorem dX3_fillBetween_22 : decode cX3_fillBetween 22 = .ok (.istore 7, 2) := by decide +kernel
theorem dX3_fillBetween_24 : decode cX3_fillBetween 24 = .ok (.iconst 1, 1) := by decide +kernel
theorem dX3_fillBetween_25 : decode cX3_fillBetween 25 = .ok (.istore 8, 2) := by decide +kernel
theorem dX3_fillBetween_27 : decode cX3_fillBetween 27 = .ok (.iload 8, 2) := by decide +kernel
theorem dX3_fillBetween_29 : decode cX3_fillBetween 29 = .ok (.iload 7, 2) := by decide +kernel
theorem dX3_fillBetween_31 : decode cX3_fillBetween 31 = .ok (.if_icmp .ge 41, 3) := by decide +kernel
theorem dX3_fillBetween_34 : decode cX3_fillBetween 34 = .ok (.aload_n 0, 1) := by decide +kernel
theorem dX3_fillBetween_35 : decode cX3_fillBetween 35 = .ok (.getfield 9, 3) := by decide +kernel
theorem dX3_fillBetween_38 : decode cX3_fillBetween 38 = .ok (.iload_n 1, 1) := by decide +kernel
theorem dX3_fillBetween_39 : decode cX3_fillBetween 39 = .ok (.iload 8, 2) := by decide +kernel
theorem dX3_fillBetween_41 : decode cX3_fillBetween 41 = .ok (.iadd, 1) := by decide +kernel
theorem dX3_fillBetween_42 : decode cX3_fillBetween 42 = .ok (.lload_n 3, 1) := by decide +kernel
theorem dX3_fillBetween_43 : decode cX3_fillBetween 43 = .ok (.lload 5, 2) := by decide +kernel
theorem dX3_fillBetween_45 : decode cX3_fillBetween 45 = .ok (.iload 8, 2) := by decide +kernel
theorem dX3_fillBetween_47 : decode cX3_fillBetween 47 = .ok (.i2l, 1) := by decide +kernel
theorem dX3_fillBetween_48 : decode cX3_fillBetween 48 = .ok (.lmul, 1) := by decide +kernel
theorem dX3_fillBetween_49 : decode cX3_fillBetween 49 = .ok (.iload 7, 2) := by decide +kernel
theorem dX3_fillBetween_51 : decode cX3_fillBetween 51 = .ok (.i2l, 1) := by decide +kernel
theorem dX3_fillBetween_52 : decode cX3_fillBetween 52 = .ok (.ldiv, 1) := by decide +kernel
theorem dX3_fillBetween_53 : decode cX3_fillBetween 53 = .ok (.ladd, 1) := by decide +kernel
theorem dX3_fillBetween_54 : decode cX3_fillBetween 54 = .ok (.l2i, 1) := by decide +kernel
theorem dX3_fillBetween_55 : decode cX3_fillBetween 55 = .ok (.iastore, 1) := by decide +kernel
theorem dX3_fillBetween_56 : decode cX3_fillBetween 56 = .ok (.aload_n 0, 1) := by decide +kernel
theorem dX3_fillBetween_57 : decode cX3_fillBetween 57 = .ok (.getfield 15, 3) := by decide +kernel
theorem dX3_fillBetween_60 : decode cX3_fillBetween 60 = .ok (.iload_n 1, 1) := by decide +kernel
theorem dX3_fillBetween_61 : decode cX3_fillBetween 61 = .ok (.iload 8, 2) := by decide +kernel
theorem dX3_fillBetween_63 : decode cX3_fillBetween 63 = .ok (.iadd, 1) := by decide +kernel
theorem dX3_fillBetween_64 : decode cX3_fillBetween 64 = .ok (.iconst 2, 1) := by decide +kernel
theorem dX3_fillBetween_65 : decode cX3_fillBetween 65 = .ok (.iastore, 1) := by decide +kernel
theorem dX3_fillBetween_66 : decode cX3_fillBetween 66 = .ok (.iinc 8 1, 3) := by decide +kernel
theorem dX3_fillBetween_69 : decode cX3_fillBetween 69 = .ok (.goto (-42), 3) := by decide +kernel
theorem dX3_fillBetween_72 : decode cX3_fillBetween 72 = .ok (.return_, 1) := by decide +kernel
theorem dX3_fact_0 : decode cX3_fact 0 = .ok (.iload_n 1, 1) := by decide +kernel
theorem dX3_fact_1 : decode cX3_fact 1 = .ok (.tableswitch 60 0 4 #[35, 40, 45, 50, 55], 35) := by decide +kernel
theorem dX3_fact_36 : decode cX3_fact 36 = .ok (.aload_n 0, 1) := by decide +kernel
theorem dX3_fact_37 : decode cX3_fact 37 = .ok (.getfield 26, 3) := by decide +kernel
theorem dX3_fact_40 : decode cX3_fact 40 = .ok (.ireturn, 1) := by decide +kernel
theorem dX3_fact_41 : decode cX3_fact 41 = .ok (.aload_n 0, 1) := by decide +kernel
theorem dX3_fact_42 : decode cX3_fact 42 = .ok (.getfield 30, 3) := by decide +kernel
theorem dX3_fact_45 : decode cX3_fact 45 = .ok (.ireturn, 1) := by decide +kernel
theorem dX3_fact_46 : decode cX3_fact 46 = .ok (.aload_n 0, 1) := by decide +kernel
theorem dX3_fact_47 : decode cX3_fact 47 = .ok (.invokevirtual 69, 3) := by decide +kernel
theorem dX3_fact_50 : decode cX3_fact 50 = .ok (.ireturn, 1) := by decide +kernel
theorem dX3_fact_51 : decode cX3_fact 51 = .ok (.aload_n 0, 1) := by decide +kernel
theorem dX3_fact_52 : decode cX3_fact 52 = .ok (.invokevirtual 73, 3) := by decide +kernel
theorem dX3_fact_55 : decode cX3_fact 55 = .ok (.ireturn, 1) := by decide +kernel
theorem dX3_fact_56 : decode cX3_fact 56 = .ok (.aload_n 0, 1) := by decide +kernel
theorem dX3_fact_57 : decode cX3_fact 57 = .ok (.invokevirtual 76, 3) := by decide +kernel
theorem dX3_fact_60 : decode cX3_fact 60 = .ok (.ireturn, 1) := by decide +kernel
theorem dX3_fact_61 : decode cX3_fact 61 = .ok (.aload_n 0, 1) := by decide +kernel
theorem dX3_fact_62 : decode cX3_fact 62 = .ok (.iconst 2, 1) := by decide +kernel
theorem dX3_fact_63 : decode cX3_fact 63 = .ok (.invokevirtual 79, 3) := by decide +kernel
theorem dX3_fact_66 : decode cX3_fact 66 = .ok (.ireturn, 1) := by decide +kernel
theorem dX3_gaps_0 : decode cX3_gaps 0 = .ok (.iconst 0, 1) := by decide +kernel
theorem dX3_gaps_1 : decode cX3_gaps 1 = .ok (.istore_n 1, 1) := by decide +kernel
theorem dX3_gaps_2 : decode cX3_gaps 2 = .ok (.iconst 0, 1) := by decide +kernel
theorem dX3_gaps_3 : decode cX3_gaps 3 = .ok (.istore_n 2, 1) := by decide +kernel
theorem dX3_gaps_4 : decode cX3_gaps 4 = .ok (.iload_n 2, 1) := by decide +kernel
theorem dX3_gaps_5 : decode cX3_gaps 5 = .ok (.aload_n 0, 1) := by decide +kernel
theorem dX3_gaps_6 : decode cX3_gaps 6 = .ok (.getfield 30, 3) := by decide +kernel
theorem dX3_gaps_9 : decode cX3_gaps 9 = .ok (.if_icmp .ge 34, 3) := by decide +kernel
theorem dX3_gaps_12 : decode cX3_gaps 12 = .ok (.aload_n 0, 1) := by decide +kernel
theorem dX3_gaps_13 : decode cX3_gaps 13 = .ok (.iload_n 2, 1) := by decide +kernel
theorem dX3_gaps_14 : decode cX3_gaps 14 = .ok (.invokevirtual 53, 3) := by decide +kernel
theorem dX3_gaps_17 : decode cX3_gaps 17 = .ok (.ifCond .eq 20, 3) := by decide +kernel
theorem dX3_gaps_20 : decode cX3_gaps 20 = .ok (.iload_n 2, 1) := by decide +kernel
theorem dX3_gaps_21 : decode cX3_gaps 21 = .ok (.ifCond .eq 13, 3) := by decide +kernel
theorem dX3_gaps_24 : decode cX3_gaps 24 = .ok (.aload_n 0, 1) := by decide +kernel
theorem dX3_gaps_25 : decode cX3_gaps 25 = .ok (.iload_n 2, 1) := by decide +kernel
theorem dX3_gaps_26 : decode cX3_gaps 26 = .ok (.iconst 1, 1) := by decide +kernel
theorem dX3_gaps_27 : decode cX3_gaps 27 = .ok (.isub, 1) := by decide +kernel
theorem dX3_gaps_28 : decode cX3_gaps 28 = .ok (.invokevirtual 53, 3) := by decide +kernel
theorem dX3_gaps_31 : decode cX3_gaps 31 = .ok (.ifCond .ne 6, 3) := by decide +kernel
theorem dX3_gaps_34 : decode cX3_gaps 34 = .ok (.iinc 1 1, 3) := by decide +kernel
theorem dX3_gaps_37 : decode cX3_gaps 37 = .ok (.iinc 2 1, 3) := by decide +kernel
theorem dX3_gaps_40 : decode cX3_gaps 40 = .ok (.goto (-36), 3) := by decide +kernel
theorem dX3_gaps_43 : decode cX3_gaps 43 = .ok (.iload_n 1, 1) := by decide +kernel
theorem dX3_gaps_44 : decode cX3_gaps 44 = .ok (.ireturn, 1) := by decide +kernel
theorem dX3_longestGap_0 : decode cX3_longestGap 0 = .ok (.iconst 0, 1) := by decide +kernel
theorem dX3_longestGap_1 : decode cX3_longestGap 1 = .ok (.istore_n 1, 1) := by decide +kernel
theorem dX3_longestGap_2 : decode cX3_longestGap 2 = .ok (.iconst 0, 1) := by decide +kernel
theorem dX3_longestGap_3 : decode cX3_longestGap 3 = .ok (.istore_n 2, 1) := by decide +kernel
theorem dX3_longestGap_4 : decode cX3_longestGap 4 = .ok (.iconst 0, 1) := by decide +kernel
theorem dX3_longestGap_5 : decode cX3_longestGap 5 = .ok (.istore_n 3, 1) := by decide +kernel
theorem dX3_longestGap_6 : decode cX3_longestGap 6 = .ok (.iload_n 3, 1) := by decide +kernel
theorem dX3_longestGap_7 : decode cX3_longestGap 7 = .ok (.aload_n 0, 1) := by decide +kernel
theorem dX3_longestGap_8 : decode cX3_longestGap 8 = .ok (.getfield 30, 3) := by decide +kernel
theorem dX3_longestGap_11 : decode cX3_longestGap 11 = .ok (.if_icmp .ge 31, 3) := by decide +kernel
theorem dX3_longestGap_14 : decode cX3_longestGap 14 = .ok (.aload_n 0, 1) := by decide +kernel
theorem dX3_longestGap_15 : decode cX3_longestGap 15 = .ok (.iload_n 3, 1) := by decide +kernel
theorem dX3_longestGap_16 : decode cX3_longestGap 16 = .ok (.invokevirtual 53, 3) := by decide +kernel
theorem dX3_longestGap_19 : decode cX3_longestGap 19 = .ok (.ifCond .eq 9, 3) := by decide +kernel
theorem dX3_longestGap_22 : decode cX3_longestGap 22 = .ok (.iload_n 2, 1) := by decide +kernel
theorem dX3_longestGap_23 : decode cX3_longestGap 23 = .ok (.iconst 1, 1) := by decide +kernel
theorem dX3_longestGap_24 : decode cX3_longestGap 24 = .ok (.iadd, 1) := by decide +kernel
theorem dX3_longestGap_25 : decode cX3_longestGap 25 = .ok (.goto 4, 3) := by decide +kernel
theorem dX3_longestGap_28 : decode cX3_longestGap 28 = .ok (.iconst 0, 1) := by decide +kernel
theorem dX3_longestGap_29 : decode cX3_longestGap 29 = .ok (.istore_n 2, 1) := by decide +kernel
theorem dX3_longestGap_30 : decode cX3_longestGap 30 = .ok (.iload_n 1, 1) := by decide +kernel
theorem dX3_longestGap_31 : decode cX3_longestGap 31 = .ok (.iload_n 2, 1) := by decide +kernel
theorem dX3_longestGap_32 : decode cX3_longestGap 32 = .ok (.invokestatic 83, 3) := by decide +kernel
theorem dX3_longestGap_35 : decode cX3_longestGap 35 = .ok (.istore_n 1, 1) := by decide +kernel
theorem dX3_longestGap_36 : decode cX3_longestGap 36 = .ok (.iinc 3 1, 3) := by decide +kernel
theorem dX3_longestGap_39 : decode cX3_longestGap 39 = .ok (.goto (-33), 3) := by decide +kernel
theorem dX3_longestGap_42 : decode cX3_longestGap 42 = .ok (.iload_n 1, 1) := by decide +kernel
theorem dX3_longestGap_43 : decode cX3_longestGap 43 = .ok (.ireturn, 1) := by decide +kernel
theorem dX3_lostSamples_0 : decode cX3_lostSamples 0 = .ok (.aload_n 0, 1) := by decide +kernel
theorem dX3_lostSamples_1 : decode cX3_lostSamples 1 = .ok (.iconst 0, 1) := by decide +kernel
theorem dX3_lostSamples_2 : decode cX3_lostSamples 2 = .ok (.invokevirtual 79, 3) := by decide +kernel
theorem dX3_lostSamples_5 : decode cX3_lostSamples 5 = .ok (.ireturn, 1) := by decide +kernel
theorem dX3_samplesThatStand_0 : decode cX3_samplesThatStand 0 = .ok (.iconst 0, 1) := by decide +kernel
theorem dX3_samplesThatStand_1 : decode cX3_samplesThatStand 1 = .ok (.istore_n 2, 1) := by decide +kernel
theorem dX3_samplesThatStand_2 : decode cX3_samplesThatStand 2 = .ok (.iconst 0, 1) := by decide +kernel
theorem dX3_samplesThatStand_3 : decode cX3_samplesThatStand 3 = .ok (.istore_n 3, 1) := by decide +kernel
theorem dX3_samplesThatStand_4 : decode cX3_samplesThatStand 4 = .ok (.iload_n 3, 1) := by decide +kernel
theorem dX3_samplesThatStand_5 : decode cX3_samplesThatStand 5 = .ok (.aload_n 0, 1) := by decide +kernel
theorem dX3_samplesThatStand_6 : decode cX3_samplesThatStand 6 = .ok (.getfield 30, 3) := by decide +kernel
theorem dX3_samplesThatStand_9 : decode cX3_samplesThatStand 9 = .ok (.if_icmp .ge 22, 3) := by decide +kernel
theorem dX3_samplesThatStand_12 : decode cX3_samplesThatStand 12 = .ok (.aload_n 0, 1) := by decide +kernel
theorem dX3_samplesThatStand_13 : decode cX3_samplesThatStand 13 = .ok (.getfield 15, 3) := by decide +kernel
theorem dX3_samplesThatStand_16 : decode cX3_samplesThatStand 16 = .ok (.iload_n 3, 1) := by decide +kernel
theorem dX3_samplesThatStand_17 : decode cX3_samplesThatStand 17 = .ok (.iaload, 1) := by decide +kernel
theorem dX3_samplesThatStand_18 : decode cX3_samplesThatStand 18 = .ok (.iload_n 1, 1) := by decide +kernel
theorem dX3_samplesThatStand_19 : decode cX3_samplesThatStand 19 = .ok (.if_icmp .ne 6, 3) := by decide +kernel
theorem dX3_samplesThatStand_22 : decode cX3_samplesThatStand 22 = .ok (.iinc 2 1, 3) := by decide +kernel
theorem dX3_samplesThatStand_25 : decode cX3_samplesThatStand 25 = .ok (.iinc 3 1, 3) := by decide +kernel
theorem dX3_samplesThatStand_28 : decode cX3_samplesThatStand 28 = .ok (.goto (-24), 3) := by decide +kernel
theorem dX3_samplesThatStand_31 : decode cX3_samplesThatStand 31 = .ok (.iload_n 2, 1) := by decide +kernel
theorem dX3_samplesThatStand_32 : decode cX3_samplesThatStand 32 = .ok (.ireturn, 1) := by decide +kernel
theorem dX3_digestOn_0 : decode cX3_digestOn 0 = .ok (.lload_n 1, 1) := by decide +kernel
theorem dX3_digestOn_1 : decode cX3_digestOn 1 = .ok (.lstore_n 3, 1) := by decide +kernel
theorem dX3_digestOn_2 : decode cX3_digestOn 2 = .ok (.iconst 0, 1) := by decide +kernel
theorem dX3_digestOn_3 : decode cX3_digestOn 3 = .ok (.istore 5, 2) := by decide +kernel
theorem dX3_digestOn_5 : decode cX3_digestOn 5 = .ok (.iload 5, 2) := by decide +kernel
theorem dX3_digestOn_7 : decode cX3_digestOn 7 = .ok (.bipush 6, 2) := by decide +kernel
theorem dX3_digestOn_9 : decode cX3_digestOn 9 = .ok (.if_icmp .ge 23, 3) := by decide +kernel
theorem dX3_digestOn_12 : decode cX3_digestOn 12 = .ok (.ldc2_w 87, 3) := by decide +kernel
theorem dX3_digestOn_15 : decode cX3_digestOn 15 = .ok (.lload_n 3, 1) := by decide +kernel
theorem dX3_digestOn_16 : decode cX3_digestOn 16 = .ok (.lmul, 1) := by decide +kernel
theorem dX3_digestOn_17 : decode cX3_digestOn 17 = .ok (.aload_n 0, 1) := by decide +kernel
theorem dX3_digestOn_18 : decode cX3_digestOn 18 = .ok (.iload 5, 2) := by decide +kernel
theorem dX3_digestOn_20 : decode cX3_digestOn 20 = .ok (.invokevirtual 89, 3) := by decide +kernel
theorem dX3_digestOn_23 : decode cX3_digestOn 23 = .ok (.i2l, 1) := by decide +kernel
theorem dX3_digestOn_24 : decode cX3_digestOn 24 = .ok (.ladd, 1) := by decide +kernel
theorem dX3_digestOn_25 : decode cX3_digestOn 25 = .ok (.lstore_n 3, 1) := by decide +kernel
theorem dX3_digestOn_26 : decode cX3_digestOn 26 = .ok (.iinc 5 1, 3) := by decide +kernel
theorem dX3_digestOn_29 : decode cX3_digestOn 29 = .ok (.goto (-24), 3) := by decide +kernel
theorem dX3_digestOn_32 : decode cX3_digestOn 32 = .ok (.iconst 0, 1) := by decide +kernel
theorem dX3_digestOn_33 : decode cX3_digestOn 33 = .ok (.istore 5, 2) := by decide +kernel
theorem dX3_digestOn_35 : decode cX3_digestOn 35 = .ok (.iload 5, 2) := by decide +kernel
theorem dX3_digestOn_37 : decode cX3_digestOn 37 = .ok (.aload_n 0, 1) := by decide +kernel
theorem dX3_digestOn_38 : decode cX3_digestOn 38 = .ok (.getfield 30, 3) := by decide +kernel
theorem dX3_digestOn_41 : decode cX3_digestOn 41 = .ok (.if_icmp .ge 48, 3) := by decide +kernel
theorem dX3_digestOn_44 : decode cX3_digestOn 44 = .ok (.ldc2_w 87, 3) := by decide +kernel
theorem dX3_digestOn_47 : decode cX3_digestOn 47 = .ok (.lload_n 3, 1) := by decide +kernel
theorem dX3_digestOn_48 : decode cX3_digestOn 48 = .ok (.lmul, 1) := by decide +kernel
theorem dX3_digestOn_49 : decode cX3_digestOn 49 = .ok (.aload_n 0, 1) := by decide +kernel
theorem dX3_digestOn_50 : decode cX3_digestOn 50 = .ok (.getfield 15, 3) := by decide +kernel
theorem dX3_digestOn_53 : decode cX3_digestOn 53 = .ok (.iload 5, 2) := by decide +kernel
theorem dX3_digestOn_55 : decode cX3_digestOn 55 = .ok (.iaload, 1) := by decide +kernel
theorem dX3_digestOn_56 : decode cX3_digestOn 56 = .ok (.i2l, 1) := by decide +kernel
theorem dX3_digestOn_57 : decode cX3_digestOn 57 = .ok (.ladd, 1) := by decide +kernel
theorem dX3_digestOn_58 : decode cX3_digestOn 58 = .ok (.lstore_n 3, 1) := by decide +kernel
theorem dX3_digestOn_59 : decode cX3_digestOn 59 = .ok (.aload_n 0, 1) := by decide +kernel
theorem dX3_digestOn_60 : decode cX3_digestOn 60 = .ok (.iload 5, 2) := by decide +kernel
theorem dX3_digestOn_62 : decode cX3_digestOn 62 = .ok (.invokevirtual 53, 3) := by decide +kernel
theorem dX3_digestOn_65 : decode cX3_digestOn 65 = .ok (.ifCond .ne 18, 3) := by decide +kernel
theorem dX3_digestOn_68 : decode cX3_digestOn 68 = .ok (.ldc2_w 87, 3) := by decide +kernel
theorem dX3_digestOn_71 : decode cX3_digestOn 71 = .ok (.lload_n 3, 1) := by decide +kernel
theorem dX3_digestOn_72 : decode cX3_digestOn 72 = .ok (.lmul, 1) := by decide +kernel
theorem dX3_digestOn_73 : decode cX3_digestOn 73 = .ok (.aload_n 0, 1) := by decide +kernel
theorem dX3_digestOn_74 : decode cX3_digestOn 74 = .ok (.getfield 9, 3) := by decide +kernel
theorem dX3_digestOn_77 : decode cX3_digestOn 77 = .ok (.iload 5, 2) := by decide +kernel
theorem dX3_digestOn_79 : decode cX3_digestOn 79 = .ok (.iaload, 1) := by decide +kernel
theorem dX3_digestOn_80 : decode cX3_digestOn 80 = .ok (.i2l, 1) := by decide +kernel
theorem dX3_digestOn_81 : decode cX3_digestOn 81 = .ok (.ladd, 1) := by decide +kernel
theorem dX3_digestOn_82 : decode cX3_digestOn 82 = .ok (.lstore_n 3, 1) := by decide +kernel
theorem dX3_digestOn_83 : decode cX3_digestOn 83 = .ok (.iinc 5 1, 3) := by decide +kernel
theorem dX3_digestOn_86 : decode cX3_digestOn 86 = .ok (.goto (-51), 3) := by decide +kernel
theorem dX3_digestOn_89 : decode cX3_digestOn 89 = .ok (.lload_n 3, 1) := by decide +kernel
theorem dX3_digestOn_90 : decode cX3_digestOn 90 = .ok (.lreturn, 1) := by decide +kernel
theorem dX4_init_0 : decode cX4_init 0 = .ok (.aload_n 0, 1) := by decide +kernel
theorem dX4_init_1 : decode cX4_init 1 = .ok (.invokespecial 1, 3) := by decide +kernel
theorem dX4_init_4 : decode cX4_init 4 = .ok (.aload_n 0, 1) := by decide +kernel
theorem dX4_init_5 : decode cX4_init 5 = .ok (.bipush 100, 2) := by decide +kernel
theorem dX4_init_7 : decode cX4_init 7 = .ok (.putfield 7, 3) := by decide +kernel
theorem dX4_init_10 : decode cX4_init 10 = .ok (.aload_n 0, 1) := by decide +kernel
theorem dX4_init_11 : decode cX4_init 11 = .ok (.bipush 50, 2) := by decide +kernel
theorem dX4_init_13 : decode cX4_init 13 = .ok (.putfield 13, 3) := by decide +kernel
theorem dX4_init_16 : decode cX4_init 16 = .ok (.return_, 1) := by decide +kernel
theorem dX4_begin_0 : decode cX4_begin 0 = .ok (.aload_n 0, 1) := by decide +kernel
theorem dX4_begin_1 : decode cX4_begin 1 = .ok (.iload_n 1, 1) := by decide +kernel
theorem dX4_begin_2 : decode cX4_begin 2 = .ok (.putfield 7, 3) := by decide +kernel
theorem dX4_begin_5 : decode cX4_begin 5 = .ok (.aload_n 0, 1) := by decide +kernel
theorem dX4_begin_6 : decode cX4_begin 6 = .ok (.iload_n 2, 1) := by decide +kernel
theorem dX4_begin_7 : decode cX4_begin 7 = .ok (.putfield 13, 3) := by decide +kernel
theorem dX4_begin_10 : decode cX4_begin 10 = .ok (.aload_n 0, 1) := by decide +kernel
theorem dX4_begin_11 : decode cX4_begin 11 = .ok (.iload_n 3, 1) := by decide +kernel
theorem dX4_begin_12 : decode cX4_begin 12 = .ok (.putfield 16, 3) := by decide +kernel
theorem dX4_begin_15 : decode cX4_begin 15 = .ok (.aload_n 0, 1) := by decide +kernel
theorem dX4_begin_16 : decode cX4_begin 16 = .ok (.iconst 0, 1) := by decide +kernel
theorem dX4_begin_17 : decode cX4_begin 17 = .ok (.putfield 19, 3) := by decide +kernel
theorem dX4_begin_20 : decode cX4_begin 20 = .ok (.aload_n 0, 1) := by decide +kernel
theorem dX4_begin_21 : decode cX4_begin 21 = .ok (.iconst 0, 1) := by decide +kernel
theorem dX4_begin_22 : decode cX4_begin 22 = .ok (.putfield 22, 3) := by decide +kernel
theorem dX4_begin_25 : decode cX4_begin 25 = .ok (.aload_n 0, 1) := by decide +kernel
theorem dX4_begin_26 : decode cX4_begin 26 = .ok (.iconst 0, 1) := by decide +kernel
theorem dX4_begin_27 : decode cX4_begin 27 = .ok (.putfield 25, 3) := by decide +kernel
theorem dX4_begin_30 : decode cX4_begin 30 = .ok (.aload_n 0, 1) := by decide +kernel
theorem dX4_begin_31 : decode cX4_begin 31 = .ok (.iconst 0, 1) := by decide +kernel
theorem dX4_begin_32 : decode cX4_begin 32 = .ok (.putfield 28, 3) := by decide +kernel
theorem dX4_begin_35 : decode cX4_begin 35 = .ok (.return_, 1) := by decide +kernel
theorem dX4_take_0 : decode cX4_take 0 = .ok (.aload_n 0, 1) := by decide +kernel
theorem dX4_take_1 : decode cX4_take 1 = .ok (.dup, 1) := by decide +kernel
theorem dX4_take_2 : decode cX4_take 2 = .ok (.getfield 22, 3) := by decide +kernel
theorem dX4_take_5 : decode cX4_take 5 = .ok (.iconst 1, 1) := by decide +kernel
theorem dX4_take_6 : decode cX4_take 6 = .ok (.iadd, 1) := by decide +kernel
theorem dX4_take_7 : decode cX4_take 7 = .ok (.putfield 22, 3) := by decide +kernel
theorem dX4_take_10 : decode cX4_take 10 = .ok (.iload_n 1, 1) := by decide +kernel
theorem dX4_take_11 : decode cX4_take 11 = .ok (.aload_n 0, 1) := by decide +kernel
theorem dX4_take_12 : decode cX4_take 12 = .ok (.getfield 7, 3) := by decide +kernel
theorem dX4_take_15 : decode cX4_take 15 = .ok (.if_icmp .lt 7, 3) := by decide +kernel
theorem dX4_take_18 : decode cX4_take 18 = .ok (.iconst 1, 1) := by decide +kernel
theorem dX4_take_19 : decode cX4_take 19 = .ok (.goto 19, 3) := by decide +kernel
theorem dX4_take_22 : decode cX4_take 22 = .ok (.iload_n 1, 1) := by decide +kernel
theorem dX4_take_23 : decode cX4_take 23 = .ok (.aload_n 0, 1) := by decide +kernel
theorem dX4_take_24 : decode cX4_take 24 = .ok (.getfield 13, 3) := by decide +kernel
theorem dX4_take_27 : decode cX4_take 27 = .ok (.if_icmp .gt 7, 3) := by decide +kernel
theorem dX4_take_30 : decode cX4_take 30 = .ok (.iconst 0, 1) := by decide +kernel
theorem dX4_take_31 : decode cX4_take 31 = .ok (.goto 7, 3) := by decide +kernel
theorem dX4_take_34 : decode cX4_take 34 = .ok (.aload_n 0, 1) := by decide +kernel
theorem dX4_take_35 : decode cX4_take 35 = .ok (.getfield 19, 3) := by decide +kernel
theorem dX4_take_38 : decode cX4_take 38 = .ok (.istore_n 2, 1) := by decide +kernel
theorem dX4_take_39 : decode cX4_take 39 = .ok (.aload_n 0, 1) := by decide +kernel
theorem dX4_take_40 : decode cX4_take 40 = .ok (.getfield 25, 3) := by decide +kernel
theorem dX4_take_43 : decode cX4_take 43 = .ok (.ifCond .le 23, 3) := by decide +kernel
theorem dX4_take_46 : decode cX4_take 46 = .ok (.aload_n 0, 1) := by decide +kernel
theorem dX4_take_47 : decode cX4_take 47 = .ok (.getfield 22, 3) := by decide +kernel
theorem dX4_take_50 : decode cX4_take 50 = .ok (.aload_n 0, 1) := by decide +kernel
theorem dX4_take_51 : decode cX4_take 51 = .ok (.getfield 28, 3) := by decide +kernel
theorem dX4_take_54 : decode cX4_take 54 = .ok (.isub, 1) := by decide +kernel
theorem dX4_take_55 : decode cX4_take 55 = .ok (.aload_n 0, 1) := by decide +kernel
theorem dX4_take_56 : decode cX4_take 56 = .ok (.getfield 16, 3) := by decide +kernel
theorem dX4_take_59 : decode cX4_take 59 = .ok (.if_icmp .gt 7, 3) := by decide +kernel
theorem dX4_take_62 : decode cX4_take 62 = .ok (.iconst 1, 1) := by decide +kernel
theorem dX4_take_63 : decode cX4_take 63 = .ok (.goto 4, 3) := by decide +kernel
theorem dX4_take_66 : decode cX4_take 66 = .ok (.iconst 0, 1) := by decide +kernel
theorem dX4_take_67 : decode cX4_take 67 = .ok (.istore_n 3, 1) := by decide +kernel
theorem dX4_take_68 : decode cX4_take 68 = .ok (.iload_n 2, 1) := by decide +kernel
theorem dX4_take_69 : decode cX4_take 69 = .ok (.aload_n 0, 1) := by decide +kernel
theorem dX4_take_70 : decode cX4_take 70 = .ok (.getfield 19, 3) := by decide +kernel
theorem dX4_take_73 : decode cX4_take 73 = .ok (.if_icmp .eq 30, 3) := by decide +kernel
theorem dX4_take_76 : decode cX4_take 76 = .ok (.iload_n 3, 1) := by decide +kernel
theorem dX4_take_77 : decode cX4_take 77 = .ok (.ifCond .ne 26, 3) := by decide +kernel
theorem dX4_take_80 : decode cX4_take 80 = .ok (.aload_n 0, 1) := by decide +kernel
theorem dX4_take_81 : decode cX4_take 81 = .ok (.iload_n 2, 1) := by decide +kernel
theorem dX4_take_82 : decode cX4_take 82 = .ok (.putfield 19, 3) := by decide +kernel
theorem dX4_take_85 : decode cX4_take 85 = .ok (.aload_n 0, 1) := by decide +kernel
theorem dX4_take_86 : decode cX4_take 86 = .ok (.dup, 1) := by decide +kernel
theorem dX4_take_87 : decode cX4_take 87 = .ok (.getfield 25, 3) := by decide +kernel
theorem dX4_take_90 : decode cX4_take 90 = .ok (.iconst 1, 1) := by decide +kernel
theorem dX4_take_91 : decode cX4_take 91 = .ok (.iadd, 1) := by decide +kernel
theorem dX4_take_92 : decode cX4_take 92 = .ok (.putfield 25, 3) := by decide +kernel
theorem dX4_take_95 : decode cX4_take 95 = .ok (.aload_n 0, 1) := by decide +kernel
theorem dX4_take_96 : decode cX4_take 96 = .ok (.aload_n 0, 1) := by decide +kernel
theorem dX4_take_97 : decode cX4_take 97 = .ok (.getfield 22, 3) := by decide +kernel
theorem dX4_take_100 : decode cX4_take 100 = .ok (.putfield 28, 3) := by decide +kernel
theorem dX4_take_103 : decode cX4_take 103 = .ok (.return_, 1) := by decide +kernel
theorem dX4_state_0 : decode cX4_state 0 = .ok (.aload_n 0, 1) := by decide +kernel
theorem dX4_state_1 : decode cX4_state 1 = .ok (.getfield 19, 3) := by decide +kernel
theorem dX4_state_4 : decode cX4_state 4 = .ok (.ireturn, 1) := by decide +kernel
theorem dX4_heard_0 : decode cX4_heard 0 = .ok (.aload_n 0, 1) := by decide +kernel
theorem dX4_heard_1 : decode cX4_heard 1 = .ok (.getfield 22, 3) := by decide +kernel
theorem dX4_heard_4 : decode cX4_heard 4 = .ok (.ireturn, 1) := by decide +kernel
theorem dX4_changes_0 : decode cX4_changes 0 = .ok (.aload_n 0, 1) := by decide +kernel
theorem dX4_changes_1 : decode cX4_changes 1 = .ok (.getfield 25, 3) := by decide +kernel
theorem dX4_changes_4 : decode cX4_changes 4 = .ok (.ireturn, 1) := by decide +kernel
theorem dX5_init_0 : decode cX5_init 0 = .ok (.aload_n 0, 1) := by decide +kernel
theorem dX5_init_1 : decode cX5_init 1 = .ok (.invokespecial 1, 3) := by decide +kernel
theorem dX5_init_4 : decode cX5_init 4 = .ok (.aload_n 0, 1) := by decide +kernel
theorem dX5_init_5 : decode cX5_init 5 = .ok (.bipush 8, 2) := by decide +kernel
theorem dX5_init_7 : decode cX5_init 7 = .ok (.anewarray 9, 3) := by decide +kernel
theorem dX5_init_10 : decode cX5_init 10 = .ok (.putfield 11, 3) := by decide +kernel
theorem dX5_init_13 : decode cX5_init 13 = .ok (.iconst 0, 1) := by decide +kernel
theorem dX5_init_14 : decode cX5_init 14 = .ok (.istore_n 1, 1) := by decide +kernel
theorem dX5_init_15 : decode cX5_init 15 = .ok (.iload_n 1, 1) := by decide +kernel
theorem dX5_init_16 : decode cX5_init 16 = .ok (.bipush 8, 2) := by decide +kernel
theorem dX5_init_18 : decode cX5_init 18 = .ok (.if_icmp .ge 22, 3) := by decide +kernel
theorem dX5_init_21 : decode cX5_init 21 = .ok (.aload_n 0, 1) := by decide +kernel
theorem dX5_init_22 : decode cX5_init 22 = .ok (.getfield 11, 3) := by decide +kernel
theorem dX5_init_25 : decode cX5_init 25 = .ok (.iload_n 1, 1) := by decide +kernel
theorem dX5_init_26 : decode cX5_init 26 = .ok (.new 9, 3) := by decide +kernel
theorem dX5_init_29 : decode cX5_init 29 = .ok (.dup, 1) := by decide +kernel
theorem dX5_init_30 : decode cX5_init 30 = .ok (.invokespecial 15, 3) := by decide +kernel
theorem dX5_init_33 : decode cX5_init 33 = .ok (.aastore, 1) := by decide +kernel
theorem dX5_init_34 : decode cX5_init 34 = .ok (.iinc 1 1, 3) := by decide +kernel
theorem dX5_init_37 : decode cX5_init 37 = .ok (.goto (-22), 3) := by decide +kernel
theorem dX5_init_40 : decode cX5_init 40 = .ok (.aload_n 0, 1) := by decide +kernel
theorem dX5_init_41 : decode cX5_init 41 = .ok (.bipush 6, 2) := by decide +kernel
theorem dX5_init_43 : decode cX5_init 43 = .ok (.anewarray 16, 3) := by decide +kernel
theorem dX5_init_46 : decode cX5_init 46 = .ok (.putfield 18, 3) := by decide +kernel
theorem dX5_init_49 : decode cX5_init 49 = .ok (.iconst 0, 1) := by decide +kernel
theorem dX5_init_50 : decode cX5_init 50 = .ok (.istore_n 1, 1) := by decide +kernel
theorem dX5_init_51 : decode cX5_init 51 = .ok (.iload_n 1, 1) := by decide +kernel
theorem dX5_init_52 : decode cX5_init 52 = .ok (.bipush 6, 2) := by decide +kernel
theorem dX5_init_54 : decode cX5_init 54 = .ok (.if_icmp .ge 22, 3) := by decide +kernel
theorem dX5_init_57 : decode cX5_init 57 = .ok (.aload_n 0, 1) := by decide +kernel
theorem dX5_init_58 : decode cX5_init 58 = .ok (.getfield 18, 3) := by decide +kernel
theorem dX5_init_61 : decode cX5_init 61 = .ok (.iload_n 1, 1) := by decide +kernel
theorem dX5_init_62 : decode cX5_init 62 = .ok (.new 16, 3) := by decide +kernel
theorem dX5_init_65 : decode cX5_init 65 = .ok (.dup, 1) := by decide +kernel
theorem dX5_init_66 : decode cX5_init 66 = .ok (.invokespecial 22, 3) := by decide +kernel
theorem dX5_init_69 : decode cX5_init 69 = .ok (.aastore, 1) := by decide +kernel
theorem dX5_init_70 : decode cX5_init 70 = .ok (.iinc 1 1, 3) := by decide +kernel
theorem dX5_init_73 : decode cX5_init 73 = .ok (.goto (-22), 3) := by decide +kernel
theorem dX5_init_76 : decode cX5_init 76 = .ok (.aload_n 0, 1) := by decide +kernel
theorem dX5_init_77 : decode cX5_init 77 = .ok (.new 23, 3) := by decide +kernel
theorem dX5_init_80 : decode cX5_init 80 = .ok (.dup, 1) := by decide +kernel
theorem dX5_init_81 : decode cX5_init 81 = .ok (.invokespecial 25, 3) := by decide +kernel
theorem dX5_init_84 : decode cX5_init 84 = .ok (.putfield 26, 3) := by decide +kernel
theorem dX5_init_87 : decode cX5_init 87 = .ok (.aload_n 0, 1) := by decide +kernel
theorem dX5_init_88 : decode cX5_init 88 = .ok (.new 30, 3) := by decide +kernel
theorem dX5_init_91 : decode cX5_init 91 = .ok (.dup, 1) := by decide +kernel
theorem dX5_init_92 : decode cX5_init 92 = .ok (.invokespecial 32, 3) := by decide +kernel
theorem dX5_init_95 : decode cX5_init 95 = .ok (.putfield 33, 3) := by decide +kernel
theorem dX5_init_98 : decode cX5_init 98 = .ok (.aload_n 0, 1) := by decide +kernel
theorem dX5_init_99 : decode cX5_init 99 = .ok (.new 37, 3) := by decide +kernel
theorem dX5_init_102 : decode cX5_init 102 = .ok (.dup, 1) := by decide +kernel
theorem dX5_init_103 : decode cX5_init 103 = .ok (.invokespecial 39, 3) := by decide +kernel
theorem dX5_init_106 : decode cX5_init 106 = .ok (.putfield 40, 3) := by decide +kernel
theorem dX5_init_109 : decode cX5_init 109 = .ok (.return_, 1) := by decide +kernel
theorem dX5_sheet_0 : decode cX5_sheet 0 = .ok (.iload_n 1, 1) := by decide +kernel
theorem dX5_sheet_1 : decode cX5_sheet 1 = .ok (.invokestatic 44, 3) := by decide +kernel
theorem dX5_sheet_4 : decode cX5_sheet 4 = .ok (.ifCond .eq 18, 3) := by decide +kernel
theorem dX5_sheet_7 : decode cX5_sheet 7 = .ok (.iload_n 2, 1) := by decide +kernel
theorem dX5_sheet_8 : decode cX5_sheet 8 = .ok (.ifCond .lt 14, 3) := by decide +kernel
theorem dX5_sheet_11 : decode cX5_sheet 11 = .ok (.iload_n 2, 1) := by decide +kernel
theorem dX5_sheet_12 : decode cX5_sheet 12 = .ok (.iconst 2, 1) := by decide +kernel
theorem dX5_sheet_13 : decode cX5_sheet 13 = .ok (.if_icmp .gt 9, 3) := by decide +kernel
theorem dX5_sheet_16 : decode cX5_sheet 16 = .ok (.iload_n 3, 1) := by decide +kernel
theorem dX5_sheet_17 : decode cX5_sheet 17 = .ok (.bipush 64, 2) := by decide +kernel
theorem dX5_sheet_19 : decode cX5_sheet 19 = .ok (.if_icmp .le 6, 3) := by decide +kernel
theorem dX5_sheet_22 : decode cX5_sheet 22 = .ok (.bipush (-2), 2) := by decide +kernel
theorem dX5_sheet_24 : decode cX5_sheet 24 = .ok (.ireturn, 1) := by decide +kernel
theorem dX5_sheet_25 : decode cX5_sheet 25 = .ok (.iload_n 3, 1) := by decide +kernel
theorem dX5_sheet_26 : decode cX5_sheet 26 = .ok (.ifCond .ge 6, 3) := by decide +kernel
theorem dX5_sheet_29 : decode cX5_sheet 29 = .ok (.bipush (-12), 2) := by decide +kernel
theorem dX5_sheet_31 : decode cX5_sheet 31 = .ok (.ireturn, 1) := by decide +kernel
theorem dX5_sheet_32 : decode cX5_sheet 32 = .ok (.aload_n 0, 1) := by decide +kernel
theorem dX5_sheet_33 : decode cX5_sheet 33 = .ok (.getfield 11, 3) := by decide +kernel
theorem dX5_sheet_36 : decode cX5_sheet 36 = .ok (.iload_n 1, 1) := by decide +kernel
theorem dX5_sheet_37 : decode cX5_sheet 37 = .ok (.aaload, 1) := by decide +kernel
theorem dX5_sheet_38 : decode cX5_sheet 38 = .ok (.iload_n 2, 1) := by decide +kernel
theorem dX5_sheet_39 : decode cX5_sheet 39 = .ok (.iload_n 3, 1) := by decide +kernel
theorem dX5_sheet_40 : decode cX5_sheet 40 = .ok (.invokevirtual 48, 3) := by decide +kernel
theorem dX5_sheet_43 : decode cX5_sheet 43 = .ok (.iconst 1, 1) := by decide +kernel
theorem dX5_sheet_44 : decode cX5_sheet 44 = .ok (.ireturn, 1) := by decide +kernel
theorem dX5_drop_0 : decode cX5_drop 0 = .ok (.aload_n 0, 1) := by decide +kernel
theorem dX5_drop_1 : decode cX5_drop 1 = .ok (.iload_n 1, 1) := by decide +kernel
theorem dX5_drop_2 : decode cX5_drop 2 = .ok (.invokevirtual 52, 3) := by decide +kernel
theorem dX5_drop_5 : decode cX5_drop 5 = .ok (.istore_n 2, 1) := by decide +kernel
theorem dX5_drop_6 : decode cX5_drop 6 = .ok (.iload_n 2, 1) := by decide +kernel
theorem dX5_drop_7 : decode cX5_drop 7 = .ok (.ifCond .eq 5, 3) := by decide +kernel
theorem dX5_drop_10 : decode cX5_drop 10 = .ok (.iload_n 2, 1) := by decide +kernel
theorem dX5_drop_11 : decode cX5_drop 11 = .ok (.ireturn, 1) := by decide +kernel
theorem dX5_drop_12 : decode cX5_drop 12 = .ok (.aload_n 0, 1) := by decide +kernel
theorem dX5_drop_13 : decode cX5_drop 13 = .ok (.getfield 11, 3) := by decide +kernel
theorem dX5_drop_16 : decode cX5_drop 16 = .ok (.iload_n 1, 1) := by decide +kernel
theorem dX5_drop_17 : decode cX5_drop 17 = .ok (.aaload, 1) := by decide +kernel
theorem dX5_drop_18 : decode cX5_drop 18 = .ok (.invokevirtual 56, 3) := by decide +kernel
theorem dX5_drop_21 : decode cX5_drop 21 = .ok (.ireturn, 1) := by decide +kernel
theorem dX5_put_0 : decode cX5_put 0 = .ok (.aload_n 0, 1) := by decide +kernel
theorem dX5_put_1 : decode cX5_put 1 = .ok (.iload_n 1, 1) := by decide +kernel
theorem dX5_put_2 : decode cX5_put 2 = .ok (.iload_n 2, 1) := by decide +kernel
theorem dX5_put_3 : decode cX5_put 3 = .ok (.invokevirtual 60, 3) := by decide +kernel
theorem dX5_put_6 : decode cX5_put 6 = .ok (.istore 4, 2) := by decide +kernel
theorem dX5_put_8 : decode cX5_put 8 = .ok (.iload 4, 2) := by decide +kernel
theorem dX5_put_10 : decode cX5_put 10 = .ok (.ifCond .eq 6, 3) := by decide +kernel
theorem dX5_put_13 : decode cX5_put 13 = .ok (.iload 4, 2) := by decide +kernel
theorem dX5_put_15 : decode cX5_put 15 = .ok (.ireturn, 1) := by decide +kernel
theorem dX5_put_16 : decode cX5_put 16 = .ok (.aload_n 0, 1) := by decide +kernel
theorem dX5_put_17 : decode cX5_put 17 = .ok (.getfield 11, 3) := by decide +kernel
theorem dX5_put_20 : decode cX5_put 20 = .ok (.iload_n 1, 1) := by decide +kernel
theorem dX5_put_21 : decode cX5_put 21 = .ok (.aaload, 1) := by decide +kernel
theorem dX5_put_22 : decode cX5_put 22 = .ok (.iload_n 3, 1) := by decide +kernel
theorem dX5_put_23 : decode cX5_put 23 = .ok (.invokevirtual 64, 3) := by decide +kernel
theorem dX5_put_26 : decode cX5_put 26 = .ok (.ifCond .ne 6, 3) := by decide +kernel
theorem dX5_put_29 : decode cX5_put 29 = .ok (.bipush (-14), 2) := by decide +kernel
theorem dX5_put_31 : decode cX5_put 31 = .ok (.ireturn, 1) := by decide +kernel
theorem dX5_put_32 : decode cX5_put 32 = .ok (.aload_n 0, 1) := by decide +kernel
theorem dX5_put_33 : decode cX5_put 33 = .ok (.getfield 11, 3) := by decide +kernel
theorem dX5_put_36 : decode cX5_put 36 = .ok (.iload_n 1, 1) := by decide +kernel
theorem dX5_put_37 : decode cX5_put 37 = .ok (.aaload, 1) := by decide +kernel
theorem dX5_put_38 : decode cX5_put 38 = .ok (.iload_n 2, 1) := by decide +kernel
theorem dX5_put_39 : decode cX5_put 39 = .ok (.iload_n 3, 1) := by decide +kernel
theorem dX5_put_40 : decode cX5_put 40 = .ok (.invokevirtual 67, 3) := by decide +kernel
theorem dX5_put_43 : decode cX5_put 43 = .ok (.iconst 1, 1) := by decide +kernel
theorem dX5_put_44 : decode cX5_put 44 = .ok (.ireturn, 1) := by decide +kernel
theorem dX5_get_0 : decode cX5_get 0 = .ok (.aload_n 0, 1) := by decide +kernel
theorem dX5_get_1 : decode cX5_get 1 = .ok (.iload_n 1, 1) := by decide +kernel
theorem dX5_get_2 : decode cX5_get 2 = .ok (.iload_n 2, 1) := by decide +kernel
theorem dX5_get_3 : decode cX5_get 3 = .ok (.invokevirtual 60, 3) := by decide +kernel
theorem dX5_get_6 : decode cX5_get 6 = .ok (.istore_n 3, 1) := by decide +kernel
theorem dX5_get_7 : decode cX5_get 7 = .ok (.iload_n 3, 1) := by decide +kernel
theorem dX5_get_8 : decode cX5_get 8 = .ok (.ifCond .eq 10, 3) := by decide +kernel
theorem dX5_get_11 : decode cX5_get 11 = .ok (.ldc2_w 70, 3) := by decide +kernel
theorem dX5_get_14 : decode cX5_get 14 = .ok (.iload_n 3, 1) := by decide +kernel
theorem dX5_get_15 : decode cX5_get 15 = .ok (.i2l, 1) := by decide +kernel
theorem dX5_get_16 : decode cX5_get 16 = .ok (.ladd, 1) := by decide +kernel
theorem dX5_get_17 : decode cX5_get 17 = .ok (.lreturn, 1) := by decide +kernel
theorem dX5_get_18 : decode cX5_get 18 = .ok (.aload_n 0, 1) := by decide +kernel
theorem dX5_get_19 : decode cX5_get 19 = .ok (.getfield 11, 3) := by decide +kernel
theorem dX5_get_22 : decode cX5_get 22 = .ok (.iload_n 1, 1) := by decide +kernel
theorem dX5_get_23 : decode cX5_get 23 = .ok (.aaload, 1) := by decide +kernel
theorem dX5_get_24 : decode cX5_get 24 = .ok (.iload_n 2, 1) := by decide +kernel
theorem dX5_get_25 : decode cX5_get 25 = .ok (.invokevirtual 72, 3) := by decide +kernel
theorem dX5_get_28 : decode cX5_get 28 = .ok (.ifCond .eq 7, 3) := by decide +kernel
theorem dX5_get_31 : decode cX5_get 31 = .ok (.ldc2_w 75, 3) := by decide +kernel
theorem dX5_get_34 : decode cX5_get 34 = .ok (.lreturn, 1) := by decide +kernel
theorem dX5_get_35 : decode cX5_get 35 = .ok (.aload_n 0, 1) := by decide +kernel
theorem dX5_get_36 : decode cX5_get 36 = .ok (.getfield 11, 3) := by decide +kernel
theorem dX5_get_39 : decode cX5_get 39 = .ok (.iload_n 1, 1) := by decide +kernel
theorem dX5_get_40 : decode cX5_get 40 = .ok (.aaload, 1) := by decide +kernel
theorem dX5_get_41 : decode cX5_get 41 = .ok (.iload_n 2, 1) := by decide +kernel
theorem dX5_get_42 : decode cX5_get 42 = .ok (.invokevirtual 77, 3) := by decide +kernel
theorem dX5_get_45 : decode cX5_get 45 = .ok (.i2l, 1) := by decide +kernel
theorem dX5_get_46 : decode cX5_get 46 = .ok (.lreturn, 1) := by decide +kernel
theorem dX5_lose_0 : decode cX5_lose 0 = .ok (.aload_n 0, 1) := by decide +kernel
theorem dX5_lose_1 : decode cX5_lose 1 = .ok (.iload_n 1, 1) := by decide +kernel
theorem dX5_lose_2 : decode cX5_lose 2 = .ok (.iload_n 2, 1) := by decide +kernel
theorem dX5_lose_3 : decode cX5_lose 3 = .ok (.invokevirtual 60, 3) := by decide +kernel
theorem dX5_lose_6 : decode cX5_lose 6 = .ok (.istore_n 3, 1) := by decide +kernel
theorem dX5_lose_7 : decode cX5_lose 7 = .ok (.iload_n 3, 1) := by decide +kernel
theorem dX5_lose_8 : decode cX5_lose 8 = .ok (.ifCond .eq 5, 3) := by decide +kernel
theorem dX5_lose_11 : decode cX5_lose 11 = .ok (.iload_n 3, 1) := by decide +kernel
theorem dX5_lose_12 : decode cX5_lose 12 = .ok (.ireturn, 1) := by decide +kernel
theorem dX5_lose_13 : decode cX5_lose 13 = .ok (.aload_n 0, 1) := by decide +kernel
theorem dX5_lose_14 : decode cX5_lose 14 = .ok (.getfield 11, 3) := by decide +kernel
theorem dX5_lose_17 : decode cX5_lose 17 = .ok (.iload_n 1, 1) := by decide +kernel
theorem dX5_lose_18 : decode cX5_lose 18 = .ok (.aaload, 1) := by decide +kernel
theorem dX5_lose_19 : decode cX5_lose 19 = .ok (.iload_n 2, 1) := by decide +kernel
theorem dX5_lose_20 : decode cX5_lose 20 = .ok (.invokevirtual 72, 3) := by decide +kernel
theorem dX5_lose_23 : decode cX5_lose 23 = .ok (.ifCond .eq 5, 3) := by decide +kernel
theorem dX5_lose_26 : decode cX5_lose 26 = .ok (.iconst 0, 1) := by decide +kernel
theorem dX5_lose_27 : decode cX5_lose 27 = .ok (.ireturn, 1) := by decide +kernel
theorem dX5_lose_28 : decode cX5_lose 28 = .ok (.aload_n 0, 1) := by decide +kernel
theorem dX5_lose_29 : decode cX5_lose 29 = .ok (.getfield 11, 3) := by decide +kernel
theorem dX5_lose_32 : decode cX5_lose 32 = .ok (.iload_n 1, 1) := by decide +kernel
theorem dX5_lose_33 : decode cX5_lose 33 = .ok (.aaload, 1) := by decide +kernel
theorem dX5_lose_34 : decode cX5_lose 34 = .ok (.iload_n 2, 1) := by decide +kernel
theorem dX5_lose_35 : decode cX5_lose 35 = .ok (.invokevirtual 80, 3) := by decide +kernel
theorem dX5_lose_38 : decode cX5_lose 38 = .ok (.iconst 1, 1) := by decide +kernel
theorem dX5_lose_39 : decode cX5_lose 39 = .ok (.ireturn, 1) := by decide +kernel
theorem dX5_stands_0 : decode cX5_stands 0 = .ok (.aload_n 0, 1) := by decide +kernel
theorem dX5_stands_1 : decode cX5_stands 1 = .ok (.iload_n 1, 1) := by decide +kernel
theorem dX5_stands_2 : decode cX5_stands 2 = .ok (.iload_n 2, 1) := by decide +kernel
theorem dX5_stands_3 : decode cX5_stands 3 = .ok (.invokevirtual 60, 3) := by decide +kernel
theorem dX5_stands_6 : decode cX5_stands 6 = .ok (.istore_n 3, 1) := by decide +kernel
theorem dX5_stands_7 : decode cX5_stands 7 = .ok (.iload_n 3, 1) := by decide +kernel
theorem dX5_stands_8 : decode cX5_stands 8 = .ok (.ifCond .eq 5, 3) := by decide +kernel
theorem dX5_stands_11 : decode cX5_stands 11 = .ok (.iload_n 3, 1) := by decide +kernel
theorem dX5_stands_12 : decode cX5_stands 12 = .ok (.ireturn, 1) := by decide +kernel
theorem dX5_stands_13 : decode cX5_stands 13 = .ok (.aload_n 0, 1) := by decide +kernel
theorem dX5_stands_14 : decode cX5_stands 14 = .ok (.getfield 11, 3) := by decide +kernel
theorem dX5_stands_17 : decode cX5_stands 17 = .ok (.iload_n 1, 1) := by decide +kernel
theorem dX5_stands_18 : decode cX5_stands 18 = .ok (.aaload, 1) := by decide +kernel
theorem dX5_stands_19 : decode cX5_stands 19 = .ok (.iload_n 2, 1) := by decide +kernel
theorem dX5_stands_20 : decode cX5_stands 20 = .ok (.invokevirtual 84, 3) := by decide +kernel
theorem dX5_stands_23 : decode cX5_stands 23 = .ok (.ireturn, 1) := by decide +kernel
theorem dX5_copy_0 : decode cX5_copy 0 = .ok (.iload_n 1, 1) := by decide +kernel
theorem dX5_copy_1 : decode cX5_copy 1 = .ok (.invokestatic 44, 3) := by decide +kernel
theorem dX5_copy_4 : decode cX5_copy 4 = .ok (.ifCond .eq 10, 3) := by decide +kernel
theorem dX5_copy_7 : decode cX5_copy 7 = .ok (.iload_n 3, 1) := by decide +kernel
theorem dX5_copy_8 : decode cX5_copy 8 = .ok (.invokestatic 44, 3) := by decide +kernel
theorem dX5_copy_11 : decode cX5_copy 11 = .ok (.ifCond .ne 6, 3) := by decide +kernel
theorem dX5_copy_14 : decode cX5_copy 14 = .ok (.bipush (-2), 2) := by decide +kernel
theorem dX5_copy_16 : decode cX5_copy 16 = .ok (.ireturn, 1) := by decide +kernel
theorem dX5_copy_17 : decode cX5_copy 17 = .ok (.aload_n 0, 1) := by decide +kernel
theorem dX5_copy_18 : decode cX5_copy 18 = .ok (.getfield 11, 3) := by decide +kernel
theorem dX5_copy_21 : decode cX5_copy 21 = .ok (.iload_n 1, 1) := by decide +kernel
theorem dX5_copy_22 : decode cX5_copy 22 = .ok (.aaload, 1) := by decide +kernel
theorem dX5_copy_23 : decode cX5_copy 23 = .ok (.astore 6, 2) := by decide +kernel
theorem dX5_copy_25 : decode cX5_copy 25 = .ok (.aload_n 0, 1) := by decide +kernel
theorem dX5_copy_26 : decode cX5_copy 26 = .ok (.getfield 11, 3) := by decide +kernel
theorem dX5_copy_29 : decode cX5_copy 29 = .ok (.iload_n 3, 1) := by decide +kernel
theorem dX5_copy_30 : decode cX5_copy 30 = .ok (.aaload, 1) := by decide +kernel
theorem dX5_copy_31 : decode cX5_copy 31 = .ok (.astore 7, 2) := by decide +kernel
theorem dX5_copy_33 : decode cX5_copy 33 = .ok (.aload 6, 2) := by decide +kernel
theorem dX5_copy_35 : decode cX5_copy 35 = .ok (.invokevirtual 87, 3) := by decide +kernel
end
section
theorem dX5_copy_38 : decode cX5_copy 38 = .ok (.ifCond .eq 11, 3) := by decide +kernel
theorem dX5_copy_41 : decode cX5_copy 41 = .ok (.aload 7, 2) := by decide +kernel
theorem dX5_copy_43 : decode cX5_copy 43 = .ok (.invokevirtual 87, 3) := by decide +kernel
theorem dX5_copy_46 : decode cX5_copy 46 = .ok (.ifCond .ne 6, 3) := by decide +kernel
theorem dX5_copy_49 : decode cX5_copy 49 = .ok (.bipush (-10), 2) := by decide +kernel
theorem dX5_copy_51 : decode cX5_copy 51 = .ok (.ireturn, 1) := by decide +kernel
theorem dX5_copy_52 : decode cX5_copy 52 = .ok (.aload 6, 2) := by decide +kernel
theorem dX5_copy_54 : decode cX5_copy 54 = .ok (.invokevirtual 91, 3) := by decide +kernel
theorem dX5_copy_57 : decode cX5_copy 57 = .ok (.aload 7, 2) := by decide +kernel
theorem dX5_copy_59 : decode cX5_copy 59 = .ok (.invokevirtual 91, 3) := by decide +kernel
theorem dX5_copy_62 : decode cX5_copy 62 = .ok (.if_icmp .eq 6, 3) := by decide +kernel
theorem dX5_copy_65 : decode cX5_copy 65 = .ok (.bipush (-11), 2) := by decide +kernel
theorem dX5_copy_67 : decode cX5_copy 67 = .ok (.ireturn, 1) := by decide +kernel
theorem dX5_copy_68 : decode cX5_copy 68 = .ok (.iload 5, 2) := by decide +kernel
theorem dX5_copy_70 : decode cX5_copy 70 = .ok (.ifCond .ge 6, 3) := by decide +kernel
theorem dX5_copy_73 : decode cX5_copy 73 = .ok (.bipush (-12), 2) := by decide +kernel
theorem dX5_copy_75 : decode cX5_copy 75 = .ok (.ireturn, 1) := by decide +kernel
theorem dX5_copy_76 : decode cX5_copy 76 = .ok (.aload 6, 2) := by decide +kernel
theorem dX5_copy_78 : decode cX5_copy 78 = .ok (.iload_n 2, 1) := by decide +kernel
theorem dX5_copy_79 : decode cX5_copy 79 = .ok (.iload 5, 2) := by decide +kernel
theorem dX5_copy_81 : decode cX5_copy 81 = .ok (.invokevirtual 94, 3) := by decide +kernel
theorem dX5_copy_84 : decode cX5_copy 84 = .ok (.ifCond .eq 15, 3) := by decide +kernel
theorem dX5_copy_87 : decode cX5_copy 87 = .ok (.aload 7, 2) := by decide +kernel
theorem dX5_copy_89 : decode cX5_copy 89 = .ok (.iload 4, 2) := by decide +kernel
theorem dX5_copy_91 : decode cX5_copy 91 = .ok (.iload 5, 2) := by decide +kernel
theorem dX5_copy_93 : decode cX5_copy 93 = .ok (.invokevirtual 94, 3) := by decide +kernel
theorem dX5_copy_96 : decode cX5_copy 96 = .ok (.ifCond .ne 6, 3) := by decide +kernel
theorem dX5_copy_99 : decode cX5_copy 99 = .ok (.bipush (-13), 2) := by decide +kernel
theorem dX5_copy_101 : decode cX5_copy 101 = .ok (.ireturn, 1) := by decide +kernel
theorem dX5_copy_102 : decode cX5_copy 102 = .ok (.aload 7, 2) := by decide +kernel
theorem dX5_copy_104 : decode cX5_copy 104 = .ok (.aload 6, 2) := by decide +kernel
theorem dX5_copy_106 : decode cX5_copy 106 = .ok (.iload_n 2, 1) := by decide +kernel
theorem dX5_copy_107 : decode cX5_copy 107 = .ok (.iload 4, 2) := by decide +kernel
theorem dX5_copy_109 : decode cX5_copy 109 = .ok (.iload 5, 2) := by decide +kernel
theorem dX5_copy_111 : decode cX5_copy 111 = .ok (.invokevirtual 98, 3) := by decide +kernel
theorem dX5_copy_114 : decode cX5_copy 114 = .ok (.iload 5, 2) := by decide +kernel
theorem dX5_copy_116 : decode cX5_copy 116 = .ok (.ireturn, 1) := by decide +kernel
theorem dX5_spikes_0 : decode cX5_spikes 0 = .ok (.iload_n 1, 1) := by decide +kernel
theorem dX5_spikes_1 : decode cX5_spikes 1 = .ok (.invokestatic 44, 3) := by decide +kernel
theorem dX5_spikes_4 : decode cX5_spikes 4 = .ok (.ifCond .eq 7, 3) := by decide +kernel
theorem dX5_spikes_7 : decode cX5_spikes 7 = .ok (.iload_n 2, 1) := by decide +kernel
theorem dX5_spikes_8 : decode cX5_spikes 8 = .ok (.ifCond .ge 6, 3) := by decide +kernel
theorem dX5_spikes_11 : decode cX5_spikes 11 = .ok (.bipush (-2), 2) := by decide +kernel
theorem dX5_spikes_13 : decode cX5_spikes 13 = .ok (.ireturn, 1) := by decide +kernel
theorem dX5_spikes_14 : decode cX5_spikes 14 = .ok (.aload_n 0, 1) := by decide +kernel
theorem dX5_spikes_15 : decode cX5_spikes 15 = .ok (.getfield 11, 3) := by decide +kernel
theorem dX5_spikes_18 : decode cX5_spikes 18 = .ok (.iload_n 1, 1) := by decide +kernel
theorem dX5_spikes_19 : decode cX5_spikes 19 = .ok (.aaload, 1) := by decide +kernel
theorem dX5_spikes_20 : decode cX5_spikes 20 = .ok (.invokevirtual 87, 3) := by decide +kernel
theorem dX5_spikes_23 : decode cX5_spikes 23 = .ok (.ifCond .ne 6, 3) := by decide +kernel
theorem dX5_spikes_26 : decode cX5_spikes 26 = .ok (.bipush (-10), 2) := by decide +kernel
theorem dX5_spikes_28 : decode cX5_spikes 28 = .ok (.ireturn, 1) := by decide +kernel
theorem dX5_spikes_29 : decode cX5_spikes 29 = .ok (.aload_n 0, 1) := by decide +kernel
theorem dX5_spikes_30 : decode cX5_spikes 30 = .ok (.getfield 11, 3) := by decide +kernel
theorem dX5_spikes_33 : decode cX5_spikes 33 = .ok (.iload_n 1, 1) := by decide +kernel
theorem dX5_spikes_34 : decode cX5_spikes 34 = .ok (.aaload, 1) := by decide +kernel
theorem dX5_spikes_35 : decode cX5_spikes 35 = .ok (.iload_n 2, 1) := by decide +kernel
theorem dX5_spikes_36 : decode cX5_spikes 36 = .ok (.invokevirtual 102, 3) := by decide +kernel
theorem dX5_spikes_39 : decode cX5_spikes 39 = .ok (.ireturn, 1) := by decide +kernel
theorem dX5_fill_0 : decode cX5_fill 0 = .ok (.iload_n 1, 1) := by decide +kernel
theorem dX5_fill_1 : decode cX5_fill 1 = .ok (.invokestatic 44, 3) := by decide +kernel
theorem dX5_fill_4 : decode cX5_fill 4 = .ok (.ifCond .eq 13, 3) := by decide +kernel
theorem dX5_fill_7 : decode cX5_fill 7 = .ok (.iload_n 2, 1) := by decide +kernel
theorem dX5_fill_8 : decode cX5_fill 8 = .ok (.ifCond .lt 9, 3) := by decide +kernel
theorem dX5_fill_11 : decode cX5_fill 11 = .ok (.iload_n 2, 1) := by decide +kernel
theorem dX5_fill_12 : decode cX5_fill 12 = .ok (.bipush 64, 2) := by decide +kernel
theorem dX5_fill_14 : decode cX5_fill 14 = .ok (.if_icmp .le 6, 3) := by decide +kernel
theorem dX5_fill_17 : decode cX5_fill 17 = .ok (.bipush (-2), 2) := by decide +kernel
theorem dX5_fill_19 : decode cX5_fill 19 = .ok (.ireturn, 1) := by decide +kernel
theorem dX5_fill_20 : decode cX5_fill 20 = .ok (.aload_n 0, 1) := by decide +kernel
theorem dX5_fill_21 : decode cX5_fill 21 = .ok (.getfield 11, 3) := by decide +kernel
theorem dX5_fill_24 : decode cX5_fill 24 = .ok (.iload_n 1, 1) := by decide +kernel
theorem dX5_fill_25 : decode cX5_fill 25 = .ok (.aaload, 1) := by decide +kernel
theorem dX5_fill_26 : decode cX5_fill 26 = .ok (.invokevirtual 87, 3) := by decide +kernel
theorem dX5_fill_29 : decode cX5_fill 29 = .ok (.ifCond .ne 6, 3) := by decide +kernel
theorem dX5_fill_32 : decode cX5_fill 32 = .ok (.bipush (-10), 2) := by decide +kernel
theorem dX5_fill_34 : decode cX5_fill 34 = .ok (.ireturn, 1) := by decide +kernel
theorem dX5_fill_35 : decode cX5_fill 35 = .ok (.aload_n 0, 1) := by decide +kernel
theorem dX5_fill_36 : decode cX5_fill 36 = .ok (.getfield 11, 3) := by decide +kernel
theorem dX5_fill_39 : decode cX5_fill 39 = .ok (.iload_n 1, 1) := by decide +kernel
theorem dX5_fill_40 : decode cX5_fill 40 = .ok (.aaload, 1) := by decide +kernel
theorem dX5_fill_41 : decode cX5_fill 41 = .ok (.iload_n 2, 1) := by decide +kernel
theorem dX5_fill_42 : decode cX5_fill 42 = .ok (.invokevirtual 105, 3) := by decide +kernel
theorem dX5_fill_45 : decode cX5_fill 45 = .ok (.ireturn, 1) := by decide +kernel
theorem dX5_about_0 : decode cX5_about 0 = .ok (.iload_n 1, 1) := by decide +kernel
theorem dX5_about_1 : decode cX5_about 1 = .ok (.invokestatic 44, 3) := by decide +kernel
theorem dX5_about_4 : decode cX5_about 4 = .ok (.ifCond .eq 13, 3) := by decide +kernel
theorem dX5_about_7 : decode cX5_about 7 = .ok (.iload_n 2, 1) := by decide +kernel
theorem dX5_about_8 : decode cX5_about 8 = .ok (.ifCond .lt 9, 3) := by decide +kernel
theorem dX5_about_11 : decode cX5_about 11 = .ok (.iload_n 2, 1) := by decide +kernel
theorem dX5_about_12 : decode cX5_about 12 = .ok (.bipush 6, 2) := by decide +kernel
theorem dX5_about_14 : decode cX5_about 14 = .ok (.if_icmp .lt 6, 3) := by decide +kernel
theorem dX5_about_17 : decode cX5_about 17 = .ok (.bipush (-2), 2) := by decide +kernel
theorem dX5_about_19 : decode cX5_about 19 = .ok (.ireturn, 1) := by decide +kernel
theorem dX5_about_20 : decode cX5_about 20 = .ok (.aload_n 0, 1) := by decide +kernel
theorem dX5_about_21 : decode cX5_about 21 = .ok (.getfield 11, 3) := by decide +kernel
theorem dX5_about_24 : decode cX5_about 24 = .ok (.iload_n 1, 1) := by decide +kernel
theorem dX5_about_25 : decode cX5_about 25 = .ok (.aaload, 1) := by decide +kernel
theorem dX5_about_26 : decode cX5_about 26 = .ok (.invokevirtual 87, 3) := by decide +kernel
theorem dX5_about_29 : decode cX5_about 29 = .ok (.ifCond .ne 6, 3) := by decide +kernel
theorem dX5_about_32 : decode cX5_about 32 = .ok (.bipush (-10), 2) := by decide +kernel
theorem dX5_about_34 : decode cX5_about 34 = .ok (.ireturn, 1) := by decide +kernel
theorem dX5_about_35 : decode cX5_about 35 = .ok (.aload_n 0, 1) := by decide +kernel
theorem dX5_about_36 : decode cX5_about 36 = .ok (.getfield 11, 3) := by decide +kernel
theorem dX5_about_39 : decode cX5_about 39 = .ok (.iload_n 1, 1) := by decide +kernel
theorem dX5_about_40 : decode cX5_about 40 = .ok (.aaload, 1) := by decide +kernel
theorem dX5_about_41 : decode cX5_about 41 = .ok (.iload_n 2, 1) := by decide +kernel
theorem dX5_about_42 : decode cX5_about 42 = .ok (.invokevirtual 108, 3) := by decide +kernel
theorem dX5_about_45 : decode cX5_about 45 = .ok (.ireturn, 1) := by decide +kernel
theorem dX5_raise_0 : decode cX5_raise 0 = .ok (.iload_n 1, 1) := by decide +kernel
theorem dX5_raise_1 : decode cX5_raise 1 = .ok (.invokestatic 44, 3) := by decide +kernel
theorem dX5_raise_4 : decode cX5_raise 4 = .ok (.ifCond .eq 10, 3) := by decide +kernel
theorem dX5_raise_7 : decode cX5_raise 7 = .ok (.iload_n 2, 1) := by decide +kernel
theorem dX5_raise_8 : decode cX5_raise 8 = .ok (.invokestatic 111, 3) := by decide +kernel
theorem dX5_raise_11 : decode cX5_raise 11 = .ok (.ifCond .ne 6, 3) := by decide +kernel
theorem dX5_raise_14 : decode cX5_raise 14 = .ok (.bipush (-2), 2) := by decide +kernel
theorem dX5_raise_16 : decode cX5_raise 16 = .ok (.ireturn, 1) := by decide +kernel
theorem dX5_raise_17 : decode cX5_raise 17 = .ok (.aload_n 0, 1) := by decide +kernel
theorem dX5_raise_18 : decode cX5_raise 18 = .ok (.getfield 11, 3) := by decide +kernel
theorem dX5_raise_21 : decode cX5_raise 21 = .ok (.iload_n 1, 1) := by decide +kernel
theorem dX5_raise_22 : decode cX5_raise 22 = .ok (.aaload, 1) := by decide +kernel
theorem dX5_raise_23 : decode cX5_raise 23 = .ok (.invokevirtual 87, 3) := by decide +kernel
theorem dX5_raise_26 : decode cX5_raise 26 = .ok (.ifCond .ne 6, 3) := by decide +kernel
theorem dX5_raise_29 : decode cX5_raise 29 = .ok (.bipush (-10), 2) := by decide +kernel
theorem dX5_raise_31 : decode cX5_raise 31 = .ok (.ireturn, 1) := by decide +kernel
theorem dX5_raise_32 : decode cX5_raise 32 = .ok (.aload_n 0, 1) := by decide +kernel
theorem dX5_raise_33 : decode cX5_raise 33 = .ok (.getfield 11, 3) := by decide +kernel
theorem dX5_raise_36 : decode cX5_raise 36 = .ok (.iload_n 1, 1) := by decide +kernel
theorem dX5_raise_37 : decode cX5_raise 37 = .ok (.aaload, 1) := by decide +kernel
theorem dX5_raise_38 : decode cX5_raise 38 = .ok (.invokevirtual 114, 3) := by decide +kernel
theorem dX5_raise_41 : decode cX5_raise 41 = .ok (.ifCond .le 6, 3) := by decide +kernel
theorem dX5_raise_44 : decode cX5_raise 44 = .ok (.bipush (-15), 2) := by decide +kernel
theorem dX5_raise_46 : decode cX5_raise 46 = .ok (.ireturn, 1) := by decide +kernel
theorem dX5_raise_47 : decode cX5_raise 47 = .ok (.aload_n 0, 1) := by decide +kernel
theorem dX5_raise_48 : decode cX5_raise 48 = .ok (.getfield 18, 3) := by decide +kernel
theorem dX5_raise_51 : decode cX5_raise 51 = .ok (.iload_n 2, 1) := by decide +kernel
theorem dX5_raise_52 : decode cX5_raise 52 = .ok (.aaload, 1) := by decide +kernel
theorem dX5_raise_53 : decode cX5_raise 53 = .ok (.aload_n 0, 1) := by decide +kernel
theorem dX5_raise_54 : decode cX5_raise 54 = .ok (.getfield 11, 3) := by decide +kernel
theorem dX5_raise_57 : decode cX5_raise 57 = .ok (.iload_n 1, 1) := by decide +kernel
theorem dX5_raise_58 : decode cX5_raise 58 = .ok (.aaload, 1) := by decide +kernel
theorem dX5_raise_59 : decode cX5_raise 59 = .ok (.invokevirtual 117, 3) := by decide +kernel
theorem dX5_raise_62 : decode cX5_raise 62 = .ok (.aload_n 0, 1) := by decide +kernel
theorem dX5_raise_63 : decode cX5_raise 63 = .ok (.getfield 18, 3) := by decide +kernel
theorem dX5_raise_66 : decode cX5_raise 66 = .ok (.iload_n 2, 1) := by decide +kernel
theorem dX5_raise_67 : decode cX5_raise 67 = .ok (.aaload, 1) := by decide +kernel
theorem dX5_raise_68 : decode cX5_raise 68 = .ok (.invokevirtual 120, 3) := by decide +kernel
theorem dX5_raise_71 : decode cX5_raise 71 = .ok (.ireturn, 1) := by decide +kernel
theorem dX5_number_0 : decode cX5_number 0 = .ok (.iload_n 1, 1) := by decide +kernel
theorem dX5_number_1 : decode cX5_number 1 = .ok (.invokestatic 111, 3) := by decide +kernel
theorem dX5_number_4 : decode cX5_number 4 = .ok (.ifCond .ne 7, 3) := by decide +kernel
theorem dX5_number_7 : decode cX5_number 7 = .ok (.ldc2_w 123, 3) := by decide +kernel
theorem dX5_number_10 : decode cX5_number 10 = .ok (.lreturn, 1) := by decide +kernel
theorem dX5_number_11 : decode cX5_number 11 = .ok (.iload_n 2, 1) := by decide +kernel
theorem dX5_number_12 : decode cX5_number 12 = .ok (.ifCond .lt 16, 3) := by decide +kernel
theorem dX5_number_15 : decode cX5_number 15 = .ok (.iload_n 2, 1) := by decide +kernel
theorem dX5_number_16 : decode cX5_number 16 = .ok (.aload_n 0, 1) := by decide +kernel
theorem dX5_number_17 : decode cX5_number 17 = .ok (.getfield 18, 3) := by decide +kernel
theorem dX5_number_20 : decode cX5_number 20 = .ok (.iload_n 1, 1) := by decide +kernel
theorem dX5_number_21 : decode cX5_number 21 = .ok (.aaload, 1) := by decide +kernel
theorem dX5_number_22 : decode cX5_number 22 = .ok (.invokevirtual 120, 3) := by decide +kernel
theorem dX5_number_25 : decode cX5_number 25 = .ok (.if_icmp .lt 7, 3) := by decide +kernel
theorem dX5_number_28 : decode cX5_number 28 = .ok (.ldc2_w 125, 3) := by decide +kernel
theorem dX5_number_31 : decode cX5_number 31 = .ok (.lreturn, 1) := by decide +kernel
theorem dX5_number_32 : decode cX5_number 32 = .ok (.aload_n 0, 1) := by decide +kernel
theorem dX5_number_33 : decode cX5_number 33 = .ok (.getfield 18, 3) := by decide +kernel
theorem dX5_number_36 : decode cX5_number 36 = .ok (.iload_n 1, 1) := by decide +kernel
theorem dX5_number_37 : decode cX5_number 37 = .ok (.aaload, 1) := by decide +kernel
theorem dX5_number_38 : decode cX5_number 38 = .ok (.iload_n 2, 1) := by decide +kernel
theorem dX5_number_39 : decode cX5_number 39 = .ok (.invokevirtual 127, 3) := by decide +kernel
theorem dX5_number_42 : decode cX5_number 42 = .ok (.lreturn, 1) := by decide +kernel
theorem dX5_turn_0 : decode cX5_turn 0 = .ok (.iload_n 1, 1) := by decide +kernel
theorem dX5_turn_1 : decode cX5_turn 1 = .ok (.invokestatic 111, 3) := by decide +kernel
theorem dX5_turn_4 : decode cX5_turn 4 = .ok (.ifCond .eq 12, 3) := by decide +kernel
theorem dX5_turn_7 : decode cX5_turn 7 = .ok (.iload_n 2, 1) := by decide +kernel
theorem dX5_turn_8 : decode cX5_turn 8 = .ok (.ifCond .lt 8, 3) := by decide +kernel
theorem dX5_turn_11 : decode cX5_turn 11 = .ok (.iload_n 2, 1) := by decide +kernel
theorem dX5_turn_12 : decode cX5_turn 12 = .ok (.iconst 4, 1) := by decide +kernel
theorem dX5_turn_13 : decode cX5_turn 13 = .ok (.if_icmp .lt 6, 3) := by decide +kernel
theorem dX5_turn_16 : decode cX5_turn 16 = .ok (.bipush (-2), 2) := by decide +kernel
theorem dX5_turn_18 : decode cX5_turn 18 = .ok (.ireturn, 1) := by decide +kernel
theorem dX5_turn_19 : decode cX5_turn 19 = .ok (.aload_n 0, 1) := by decide +kernel
theorem dX5_turn_20 : decode cX5_turn 20 = .ok (.getfield 18, 3) := by decide +kernel
theorem dX5_turn_23 : decode cX5_turn 23 = .ok (.iload_n 1, 1) := by decide +kernel
theorem dX5_turn_24 : decode cX5_turn 24 = .ok (.aaload, 1) := by decide +kernel
theorem dX5_turn_25 : decode cX5_turn 25 = .ok (.iload_n 2, 1) := by decide +kernel
theorem dX5_turn_26 : decode cX5_turn 26 = .ok (.invokevirtual 130, 3) := by decide +kernel
theorem dX5_turn_29 : decode cX5_turn 29 = .ok (.ireturn, 1) := by decide +kernel
theorem dX5_part_0 : decode cX5_part 0 = .ok (.iload_n 1, 1) := by decide +kernel
theorem dX5_part_1 : decode cX5_part 1 = .ok (.iload_n 2, 1) := by decide +kernel
theorem dX5_part_2 : decode cX5_part 2 = .ok (.iload_n 3, 1) := by decide +kernel
theorem dX5_part_3 : decode cX5_part 3 = .ok (.invokestatic 133, 3) := by decide +kernel
theorem dX5_part_6 : decode cX5_part 6 = .ok (.ifCond .ne 6, 3) := by decide +kernel
theorem dX5_part_9 : decode cX5_part 9 = .ok (.bipush (-2), 2) := by decide +kernel
theorem dX5_part_11 : decode cX5_part 11 = .ok (.ireturn, 1) := by decide +kernel
theorem dX5_part_12 : decode cX5_part 12 = .ok (.aload_n 0, 1) := by decide +kernel
theorem dX5_part_13 : decode cX5_part 13 = .ok (.getfield 18, 3) := by decide +kernel
theorem dX5_part_16 : decode cX5_part 16 = .ok (.iload_n 1, 1) := by decide +kernel
theorem dX5_part_17 : decode cX5_part 17 = .ok (.aaload, 1) := by decide +kernel
theorem dX5_part_18 : decode cX5_part 18 = .ok (.iload_n 2, 1) := by decide +kernel
theorem dX5_part_19 : decode cX5_part 19 = .ok (.iload_n 3, 1) := by decide +kernel
theorem dX5_part_20 : decode cX5_part 20 = .ok (.invokevirtual 137, 3) := by decide +kernel
theorem dX5_part_23 : decode cX5_part 23 = .ok (.ireturn, 1) := by decide +kernel
theorem dX5_mix_0 : decode cX5_mix 0 = .ok (.iload_n 1, 1) := by decide +kernel
theorem dX5_mix_1 : decode cX5_mix 1 = .ok (.invokestatic 111, 3) := by decide +kernel
theorem dX5_mix_4 : decode cX5_mix 4 = .ok (.ifCond .eq 33, 3) := by decide +kernel
theorem dX5_mix_7 : decode cX5_mix 7 = .ok (.iload_n 3, 1) := by decide +kernel
theorem dX5_mix_8 : decode cX5_mix 8 = .ok (.invokestatic 111, 3) := by decide +kernel
theorem dX5_mix_11 : decode cX5_mix 11 = .ok (.ifCond .eq 26, 3) := by decide +kernel
theorem dX5_mix_14 : decode cX5_mix 14 = .ok (.iload_n 2, 1) := by decide +kernel
theorem dX5_mix_15 : decode cX5_mix 15 = .ok (.i2l, 1) := by decide +kernel
theorem dX5_mix_16 : decode cX5_mix 16 = .ok (.ldc2_w 140, 3) := by decide +kernel
theorem dX5_mix_19 : decode cX5_mix 19 = .ok (.invokestatic 142, 3) := by decide +kernel
theorem dX5_mix_22 : decode cX5_mix 22 = .ok (.ifCond .eq 15, 3) := by decide +kernel
theorem dX5_mix_25 : decode cX5_mix 25 = .ok (.iload 4, 2) := by decide +kernel
theorem dX5_mix_27 : decode cX5_mix 27 = .ok (.i2l, 1) := by decide +kernel
theorem dX5_mix_28 : decode cX5_mix 28 = .ok (.ldc2_w 140, 3) := by decide +kernel
theorem dX5_mix_31 : decode cX5_mix 31 = .ok (.invokestatic 142, 3) := by decide +kernel
theorem dX5_mix_34 : decode cX5_mix 34 = .ok (.ifCond .ne 6, 3) := by decide +kernel
theorem dX5_mix_37 : decode cX5_mix 37 = .ok (.bipush (-2), 2) := by decide +kernel
theorem dX5_mix_39 : decode cX5_mix 39 = .ok (.ireturn, 1) := by decide +kernel
theorem dX5_mix_40 : decode cX5_mix 40 = .ok (.aload_n 0, 1) := by decide +kernel
theorem dX5_mix_41 : decode cX5_mix 41 = .ok (.getfield 18, 3) := by decide +kernel
theorem dX5_mix_44 : decode cX5_mix 44 = .ok (.iload_n 1, 1) := by decide +kernel
theorem dX5_mix_45 : decode cX5_mix 45 = .ok (.aaload, 1) := by decide +kernel
theorem dX5_mix_46 : decode cX5_mix 46 = .ok (.invokevirtual 120, 3) := by decide +kernel
theorem dX5_mix_49 : decode cX5_mix 49 = .ok (.aload_n 0, 1) := by decide +kernel
theorem dX5_mix_50 : decode cX5_mix 50 = .ok (.getfield 18, 3) := by decide +kernel
theorem dX5_mix_53 : decode cX5_mix 53 = .ok (.iload_n 3, 1) := by decide +kernel
theorem dX5_mix_54 : decode cX5_mix 54 = .ok (.aaload, 1) := by decide +kernel
theorem dX5_mix_55 : decode cX5_mix 55 = .ok (.invokevirtual 120, 3) := by decide +kernel
theorem dX5_mix_58 : decode cX5_mix 58 = .ok (.if_icmp .eq 6, 3) := by decide +kernel
theorem dX5_mix_61 : decode cX5_mix 61 = .ok (.bipush (-3), 2) := by decide +kernel
theorem dX5_mix_63 : decode cX5_mix 63 = .ok (.ireturn, 1) := by decide +kernel
theorem dX5_mix_64 : decode cX5_mix 64 = .ok (.aload_n 0, 1) := by decide +kernel
theorem dX5_mix_65 : decode cX5_mix 65 = .ok (.getfield 18, 3) := by decide +kernel
theorem dX5_mix_68 : decode cX5_mix 68 = .ok (.iload_n 1, 1) := by decide +kernel
theorem dX5_mix_69 : decode cX5_mix 69 = .ok (.aaload, 1) := by decide +kernel
theorem dX5_mix_70 : decode cX5_mix 70 = .ok (.iload_n 2, 1) := by decide +kernel
theorem dX5_mix_71 : decode cX5_mix 71 = .ok (.aload_n 0, 1) := by decide +kernel
theorem dX5_mix_72 : decode cX5_mix 72 = .ok (.getfield 18, 3) := by decide +kernel
theorem dX5_mix_75 : decode cX5_mix 75 = .ok (.iload_n 3, 1) := by decide +kernel
theorem dX5_mix_76 : decode cX5_mix 76 = .ok (.aaload, 1) := by decide +kernel
theorem dX5_mix_77 : decode cX5_mix 77 = .ok (.iload 4, 2) := by decide +kernel
theorem dX5_mix_79 : decode cX5_mix 79 = .ok (.invokevirtual 146, 3) := by decide +kernel
theorem dX5_mix_82 : decode cX5_mix 82 = .ok (.ireturn, 1) := by decide +kernel
theorem dX5_force_0 : decode cX5_force 0 = .ok (.iload_n 1, 1) := by decide +kernel
theorem dX5_force_1 : decode cX5_force 1 = .ok (.iload_n 2, 1) := by decide +kernel
theorem dX5_force_2 : decode cX5_force 2 = .ok (.iload_n 3, 1) := by decide +kernel
theorem dX5_force_3 : decode cX5_force 3 = .ok (.invokestatic 133, 3) := by decide +kernel
theorem dX5_force_6 : decode cX5_force 6 = .ok (.ifCond .ne 7, 3) := by decide +kernel
theorem dX5_force_9 : decode cX5_force 9 = .ok (.ldc2_w 123, 3) := by decide +kernel
theorem dX5_force_12 : decode cX5_force 12 = .ok (.lreturn, 1) := by decide +kernel
theorem dX5_force_13 : decode cX5_force 13 = .ok (.aload_n 0, 1) := by decide +kernel
theorem dX5_force_14 : decode cX5_force 14 = .ok (.getfield 18, 3) := by decide +kernel
theorem dX5_force_17 : decode cX5_force 17 = .ok (.iload_n 1, 1) := by decide +kernel
theorem dX5_force_18 : decode cX5_force 18 = .ok (.aaload, 1) := by decide +kernel
theorem dX5_force_19 : decode cX5_force 19 = .ok (.ldc2_w 150, 3) := by decide +kernel
theorem dX5_force_22 : decode cX5_force 22 = .ok (.iload_n 2, 1) := by decide +kernel
theorem dX5_force_23 : decode cX5_force 23 = .ok (.iload_n 3, 1) := by decide +kernel
theorem dX5_force_24 : decode cX5_force 24 = .ok (.invokevirtual 152, 3) := by decide +kernel
theorem dX5_force_27 : decode cX5_force 27 = .ok (.ifCond .eq 7, 3) := by decide +kernel
theorem dX5_force_30 : decode cX5_force 30 = .ok (.ldc2_w 156, 3) := by decide +kernel
theorem dX5_force_33 : decode cX5_force 33 = .ok (.lreturn, 1) := by decide +kernel
theorem dX5_force_34 : decode cX5_force 34 = .ok (.aload_n 0, 1) := by decide +kernel
theorem dX5_force_35 : decode cX5_force 35 = .ok (.getfield 18, 3) := by decide +kernel
theorem dX5_force_38 : decode cX5_force 38 = .ok (.iload_n 1, 1) := by decide +kernel
theorem dX5_force_39 : decode cX5_force 39 = .ok (.aaload, 1) := by decide +kernel
theorem dX5_force_40 : decode cX5_force 40 = .ok (.iload_n 2, 1) := by decide +kernel
theorem dX5_force_41 : decode cX5_force 41 = .ok (.iload_n 3, 1) := by decide +kernel
theorem dX5_force_42 : decode cX5_force 42 = .ok (.invokevirtual 158, 3) := by decide +kernel
theorem dX5_force_45 : decode cX5_force 45 = .ok (.lreturn, 1) := by decide +kernel
theorem dX5_cross_0 : decode cX5_cross 0 = .ok (.iload_n 1, 1) := by decide +kernel
theorem dX5_cross_1 : decode cX5_cross 1 = .ok (.invokestatic 111, 3) := by decide +kernel
theorem dX5_cross_4 : decode cX5_cross 4 = .ok (.ifCond .eq 10, 3) := by decide +kernel
theorem dX5_cross_7 : decode cX5_cross 7 = .ok (.iload_n 2, 1) := by decide +kernel
theorem dX5_cross_8 : decode cX5_cross 8 = .ok (.invokestatic 111, 3) := by decide +kernel
theorem dX5_cross_11 : decode cX5_cross 11 = .ok (.ifCond .ne 7, 3) := by decide +kernel
theorem dX5_cross_14 : decode cX5_cross 14 = .ok (.ldc2_w 123, 3) := by decide +kernel
theorem dX5_cross_17 : decode cX5_cross 17 = .ok (.lreturn, 1) := by decide +kernel
theorem dX5_cross_18 : decode cX5_cross 18 = .ok (.aload_n 0, 1) := by decide +kernel
theorem dX5_cross_19 : decode cX5_cross 19 = .ok (.getfield 18, 3) := by decide +kernel
theorem dX5_cross_22 : decode cX5_cross 22 = .ok (.iload_n 1, 1) := by decide +kernel
theorem dX5_cross_23 : decode cX5_cross 23 = .ok (.aaload, 1) := by decide +kernel
theorem dX5_cross_24 : decode cX5_cross 24 = .ok (.invokevirtual 120, 3) := by decide +kernel
theorem dX5_cross_27 : decode cX5_cross 27 = .ok (.aload_n 0, 1) := by decide +kernel
theorem dX5_cross_28 : decode cX5_cross 28 = .ok (.getfield 18, 3) := by decide +kernel
theorem dX5_cross_31 : decode cX5_cross 31 = .ok (.iload_n 2, 1) := by decide +kernel
theorem dX5_cross_32 : decode cX5_cross 32 = .ok (.aaload, 1) := by decide +kernel
theorem dX5_cross_33 : decode cX5_cross 33 = .ok (.invokevirtual 120, 3) := by decide +kernel
theorem dX5_cross_36 : decode cX5_cross 36 = .ok (.if_icmp .eq 7, 3) := by decide +kernel
theorem dX5_cross_39 : decode cX5_cross 39 = .ok (.ldc2_w 162, 3) := by decide +kernel
theorem dX5_cross_42 : decode cX5_cross 42 = .ok (.lreturn, 1) := by decide +kernel
theorem dX5_cross_43 : decode cX5_cross 43 = .ok (.aload_n 0, 1) := by decide +kernel
theorem dX5_cross_44 : decode cX5_cross 44 = .ok (.getfield 18, 3) := by decide +kernel
theorem dX5_cross_47 : decode cX5_cross 47 = .ok (.iload_n 1, 1) := by decide +kernel
theorem dX5_cross_48 : decode cX5_cross 48 = .ok (.aaload, 1) := by decide +kernel
theorem dX5_cross_49 : decode cX5_cross 49 = .ok (.ldc2_w 150, 3) := by decide +kernel
theorem dX5_cross_52 : decode cX5_cross 52 = .ok (.invokevirtual 164, 3) := by decide +kernel
theorem dX5_cross_55 : decode cX5_cross 55 = .ok (.ifCond .ne 18, 3) := by decide +kernel
theorem dX5_cross_58 : decode cX5_cross 58 = .ok (.aload_n 0, 1) := by decide +kernel
theorem dX5_cross_59 : decode cX5_cross 59 = .ok (.getfield 18, 3) := by decide +kernel
theorem dX5_cross_62 : decode cX5_cross 62 = .ok (.iload_n 2, 1) := by decide +kernel
theorem dX5_cross_63 : decode cX5_cross 63 = .ok (.aaload, 1) := by decide +kernel
theorem dX5_cross_64 : decode cX5_cross 64 = .ok (.ldc2_w 150, 3) := by decide +kernel
theorem dX5_cross_67 : decode cX5_cross 67 = .ok (.invokevirtual 164, 3) := by decide +kernel
theorem dX5_cross_70 : decode cX5_cross 70 = .ok (.ifCond .eq 7, 3) := by decide +kernel
theorem dX5_cross_73 : decode cX5_cross 73 = .ok (.ldc2_w 156, 3) := by decide +kernel
theorem dX5_cross_76 : decode cX5_cross 76 = .ok (.lreturn, 1) := by decide +kernel
theorem dX5_cross_77 : decode cX5_cross 77 = .ok (.aload_n 0, 1) := by decide +kernel
theorem dX5_cross_78 : decode cX5_cross 78 = .ok (.getfield 18, 3) := by decide +kernel
theorem dX5_cross_81 : decode cX5_cross 81 = .ok (.iload_n 1, 1) := by decide +kernel
theorem dX5_cross_82 : decode cX5_cross 82 = .ok (.aaload, 1) := by decide +kernel
theorem dX5_cross_83 : decode cX5_cross 83 = .ok (.aload_n 0, 1) := by decide +kernel
theorem dX5_cross_84 : decode cX5_cross 84 = .ok (.getfield 18, 3) := by decide +kernel
theorem dX5_cross_87 : decode cX5_cross 87 = .ok (.iload_n 2, 1) := by decide +kernel
theorem dX5_cross_88 : decode cX5_cross 88 = .ok (.aaload, 1) := by decide +kernel
theorem dX5_cross_89 : decode cX5_cross 89 = .ok (.invokevirtual 168, 3) := by decide +kernel
theorem dX5_cross_92 : decode cX5_cross 92 = .ok (.lreturn, 1) := by decide +kernel
theorem dX5_waves_0 : decode cX5_waves 0 = .ok (.iload_n 1, 1) := by decide +kernel
theorem dX5_waves_1 : decode cX5_waves 1 = .ok (.invokestatic 111, 3) := by decide +kernel
theorem dX5_waves_4 : decode cX5_waves 4 = .ok (.ifCond .ne 6, 3) := by decide +kernel
theorem dX5_waves_7 : decode cX5_waves 7 = .ok (.bipush (-2), 2) := by decide +kernel
theorem dX5_waves_9 : decode cX5_waves 9 = .ok (.ireturn, 1) := by decide +kernel
theorem dX5_waves_10 : decode cX5_waves 10 = .ok (.aload_n 0, 1) := by decide +kernel
theorem dX5_waves_11 : decode cX5_waves 11 = .ok (.getfield 18, 3) := by decide +kernel
theorem dX5_waves_14 : decode cX5_waves 14 = .ok (.iload_n 1, 1) := by decide +kernel
theorem dX5_waves_15 : decode cX5_waves 15 = .ok (.aaload, 1) := by decide +kernel
theorem dX5_waves_16 : decode cX5_waves 16 = .ok (.invokevirtual 172, 3) := by decide +kernel
theorem dX5_waves_19 : decode cX5_waves 19 = .ok (.ireturn, 1) := by decide +kernel
theorem dX5_wave_0 : decode cX5_wave 0 = .ok (.iload_n 1, 1) := by decide +kernel
theorem dX5_wave_1 : decode cX5_wave 1 = .ok (.invokestatic 111, 3) := by decide +kernel
theorem dX5_wave_4 : decode cX5_wave 4 = .ok (.ifCond .eq 12, 3) := by decide +kernel
theorem dX5_wave_7 : decode cX5_wave 7 = .ok (.iload_n 3, 1) := by decide +kernel
theorem dX5_wave_8 : decode cX5_wave 8 = .ok (.ifCond .lt 8, 3) := by decide +kernel
theorem dX5_wave_11 : decode cX5_wave 11 = .ok (.iload_n 3, 1) := by decide +kernel
theorem dX5_wave_12 : decode cX5_wave 12 = .ok (.iconst 5, 1) := by decide +kernel
theorem dX5_wave_13 : decode cX5_wave 13 = .ok (.if_icmp .lt 7, 3) := by decide +kernel
theorem dX5_wave_16 : decode cX5_wave 16 = .ok (.ldc2_w 123, 3) := by decide +kernel
theorem dX5_wave_19 : decode cX5_wave 19 = .ok (.lreturn, 1) := by decide +kernel
theorem dX5_wave_20 : decode cX5_wave 20 = .ok (.iload_n 2, 1) := by decide +kernel
theorem dX5_wave_21 : decode cX5_wave 21 = .ok (.ifCond .lt 16, 3) := by decide +kernel
theorem dX5_wave_24 : decode cX5_wave 24 = .ok (.iload_n 2, 1) := by decide +kernel
theorem dX5_wave_25 : decode cX5_wave 25 = .ok (.aload_n 0, 1) := by decide +kernel
theorem dX5_wave_26 : decode cX5_wave 26 = .ok (.getfield 18, 3) := by decide +kernel
theorem dX5_wave_29 : decode cX5_wave 29 = .ok (.iload_n 1, 1) := by decide +kernel
theorem dX5_wave_30 : decode cX5_wave 30 = .ok (.aaload, 1) := by decide +kernel
theorem dX5_wave_31 : decode cX5_wave 31 = .ok (.invokevirtual 172, 3) := by decide +kernel
theorem dX5_wave_34 : decode cX5_wave 34 = .ok (.if_icmp .lt 7, 3) := by decide +kernel
theorem dX5_wave_37 : decode cX5_wave 37 = .ok (.ldc2_w 125, 3) := by decide +kernel
theorem dX5_wave_40 : decode cX5_wave 40 = .ok (.lreturn, 1) := by decide +kernel
theorem dX5_wave_41 : decode cX5_wave 41 = .ok (.aload_n 0, 1) := by decide +kernel
theorem dX5_wave_42 : decode cX5_wave 42 = .ok (.getfield 18, 3) := by decide +kernel
theorem dX5_wave_45 : decode cX5_wave 45 = .ok (.iload_n 1, 1) := by decide +kernel
theorem dX5_wave_46 : decode cX5_wave 46 = .ok (.aaload, 1) := by decide +kernel
theorem dX5_wave_47 : decode cX5_wave 47 = .ok (.iload_n 2, 1) := by decide +kernel
theorem dX5_wave_48 : decode cX5_wave 48 = .ok (.iload_n 3, 1) := by decide +kernel
theorem dX5_wave_49 : decode cX5_wave 49 = .ok (.invokevirtual 175, 3) := by decide +kernel
theorem dX5_wave_52 : decode cX5_wave 52 = .ok (.lreturn, 1) := by decide +kernel
theorem dX5_third_0 : decode cX5_third 0 = .ok (.iload_n 1, 1) := by decide +kernel
theorem dX5_third_1 : decode cX5_third 1 = .ok (.invokestatic 111, 3) := by decide +kernel
theorem dX5_third_4 : decode cX5_third 4 = .ok (.ifCond .eq 12, 3) := by decide +kernel
theorem dX5_third_7 : decode cX5_third 7 = .ok (.iload_n 2, 1) := by decide +kernel
theorem dX5_third_8 : decode cX5_third 8 = .ok (.ifCond .lt 8, 3) := by decide +kernel
theorem dX5_third_11 : decode cX5_third 11 = .ok (.iload_n 2, 1) := by decide +kernel
theorem dX5_third_12 : decode cX5_third 12 = .ok (.iconst 1, 1) := by decide +kernel
theorem dX5_third_13 : decode cX5_third 13 = .ok (.if_icmp .le 7, 3) := by decide +kernel
theorem dX5_third_16 : decode cX5_third 16 = .ok (.ldc2_w 123, 3) := by decide +kernel
theorem dX5_third_19 : decode cX5_third 19 = .ok (.lreturn, 1) := by decide +kernel
theorem dX5_third_20 : decode cX5_third 20 = .ok (.aload_n 0, 1) := by decide +kernel
theorem dX5_third_21 : decode cX5_third 21 = .ok (.getfield 18, 3) := by decide +kernel
theorem dX5_third_24 : decode cX5_third 24 = .ok (.iload_n 1, 1) := by decide +kernel
theorem dX5_third_25 : decode cX5_third 25 = .ok (.aaload, 1) := by decide +kernel
theorem dX5_third_26 : decode cX5_third 26 = .ok (.invokevirtual 172, 3) := by decide +kernel
theorem dX5_third_29 : decode cX5_third 29 = .ok (.istore_n 3, 1) := by decide +kernel
theorem dX5_third_30 : decode cX5_third 30 = .ok (.iload_n 3, 1) := by decide +kernel
theorem dX5_third_31 : decode cX5_third 31 = .ok (.ifCond .ne 7, 3) := by decide +kernel
theorem dX5_third_34 : decode cX5_third 34 = .ok (.ldc2_w 162, 3) := by decide +kernel
theorem dX5_third_37 : decode cX5_third 37 = .ok (.lreturn, 1) := by decide +kernel
theorem dX5_third_38 : decode cX5_third 38 = .ok (.iload_n 3, 1) := by decide +kernel
theorem dX5_third_39 : decode cX5_third 39 = .ok (.iconst 3, 1) := by decide +kernel
theorem dX5_third_40 : decode cX5_third 40 = .ok (.idiv, 1) := by decide +kernel
theorem dX5_third_41 : decode cX5_third 41 = .ok (.iconst 1, 1) := by decide +kernel
theorem dX5_third_42 : decode cX5_third 42 = .ok (.invokestatic 178, 3) := by decide +kernel
theorem dX5_third_45 : decode cX5_third 45 = .ok (.istore 4, 2) := by decide +kernel
theorem dX5_third_47 : decode cX5_third 47 = .ok (.aload_n 0, 1) := by decide +kernel
theorem dX5_third_48 : decode cX5_third 48 = .ok (.getfield 18, 3) := by decide +kernel
theorem dX5_third_51 : decode cX5_third 51 = .ok (.iload_n 1, 1) := by decide +kernel
theorem dX5_third_52 : decode cX5_third 52 = .ok (.aaload, 1) := by decide +kernel
theorem dX5_third_53 : decode cX5_third 53 = .ok (.iload_n 3, 1) := by decide +kernel
theorem dX5_third_54 : decode cX5_third 54 = .ok (.iload 4, 2) := by decide +kernel
theorem dX5_third_56 : decode cX5_third 56 = .ok (.invokevirtual 183, 3) := by decide +kernel
theorem dX5_third_59 : decode cX5_third 59 = .ok (.lstore 5, 2) := by decide +kernel
theorem dX5_third_61 : decode cX5_third 61 = .ok (.lload 5, 2) := by decide +kernel
theorem dX5_third_63 : decode cX5_third 63 = .ok (.iload 4, 2) := by decide +kernel
theorem dX5_third_65 : decode cX5_third 65 = .ok (.invokestatic 186, 3) := by decide +kernel
theorem dX5_third_68 : decode cX5_third 68 = .ok (.istore 7, 2) := by decide +kernel
theorem dX5_third_70 : decode cX5_third 70 = .ok (.iload_n 2, 1) := by decide +kernel
theorem dX5_third_71 : decode cX5_third 71 = .ok (.ifCond .ne 12, 3) := by decide +kernel
theorem dX5_third_74 : decode cX5_third 74 = .ok (.lload 5, 2) := by decide +kernel
theorem dX5_third_76 : decode cX5_third 76 = .ok (.iload 7, 2) := by decide +kernel
theorem dX5_third_78 : decode cX5_third 78 = .ok (.i2l, 1) := by decide +kernel
theorem dX5_third_79 : decode cX5_third 79 = .ok (.ldiv, 1) := by decide +kernel
theorem dX5_third_80 : decode cX5_third 80 = .ok (.goto 9, 3) := by decide +kernel
theorem dX5_third_83 : decode cX5_third 83 = .ok (.iload 4, 2) := by decide +kernel
theorem dX5_third_85 : decode cX5_third 85 = .ok (.iload 7, 2) := by decide +kernel
theorem dX5_third_87 : decode cX5_third 87 = .ok (.idiv, 1) := by decide +kernel
theorem dX5_third_88 : decode cX5_third 88 = .ok (.i2l, 1) := by decide +kernel
theorem dX5_third_89 : decode cX5_third 89 = .ok (.lreturn, 1) := by decide +kernel
theorem dX5_groups_0 : decode cX5_groups 0 = .ok (.iload_n 1, 1) := by decide +kernel
theorem dX5_groups_1 : decode cX5_groups 1 = .ok (.invokestatic 111, 3) := by decide +kernel
theorem dX5_groups_4 : decode cX5_groups 4 = .ok (.ifCond .eq 14, 3) := by decide +kernel
theorem dX5_groups_7 : decode cX5_groups 7 = .ok (.iload 4, 2) := by decide +kernel
theorem dX5_groups_9 : decode cX5_groups 9 = .ok (.ifCond .lt 9, 3) := by decide +kernel
theorem dX5_groups_12 : decode cX5_groups 12 = .ok (.iload 4, 2) := by decide +kernel
theorem dX5_groups_14 : decode cX5_groups 14 = .ok (.iconst 1, 1) := by decide +kernel
theorem dX5_groups_15 : decode cX5_groups 15 = .ok (.if_icmp .le 6, 3) := by decide +kernel
theorem dX5_groups_18 : decode cX5_groups 18 = .ok (.bipush (-2), 2) := by decide +kernel
theorem dX5_groups_20 : decode cX5_groups 20 = .ok (.ireturn, 1) := by decide +kernel
theorem dX5_groups_21 : decode cX5_groups 21 = .ok (.iload 4, 2) := by decide +kernel
theorem dX5_groups_23 : decode cX5_groups 23 = .ok (.ifCond .ne 16, 3) := by decide +kernel
theorem dX5_groups_26 : decode cX5_groups 26 = .ok (.aload_n 0, 1) := by decide +kernel
theorem dX5_groups_27 : decode cX5_groups 27 = .ok (.getfield 18, 3) := by decide +kernel
theorem dX5_groups_30 : decode cX5_groups 30 = .ok (.iload_n 1, 1) := by decide +kernel
theorem dX5_groups_31 : decode cX5_groups 31 = .ok (.aaload, 1) := by decide +kernel
theorem dX5_groups_32 : decode cX5_groups 32 = .ok (.lload_n 2, 1) := by decide +kernel
theorem dX5_groups_33 : decode cX5_groups 33 = .ok (.invokevirtual 190, 3) := by decide +kernel
theorem dX5_groups_36 : decode cX5_groups 36 = .ok (.goto 13, 3) := by decide +kernel
theorem dX5_groups_39 : decode cX5_groups 39 = .ok (.aload_n 0, 1) := by decide +kernel
theorem dX5_groups_40 : decode cX5_groups 40 = .ok (.getfield 18, 3) := by decide +kernel
theorem dX5_groups_43 : decode cX5_groups 43 = .ok (.iload_n 1, 1) := by decide +kernel
theorem dX5_groups_44 : decode cX5_groups 44 = .ok (.aaload, 1) := by decide +kernel
theorem dX5_groups_45 : decode cX5_groups 45 = .ok (.lload_n 2, 1) := by decide +kernel
theorem dX5_groups_46 : decode cX5_groups 46 = .ok (.invokevirtual 194, 3) := by decide +kernel
theorem dX5_groups_49 : decode cX5_groups 49 = .ok (.ireturn, 1) := by decide +kernel
theorem dX5_heading_0 : decode cX5_heading 0 = .ok (.iload_n 1, 1) := by decide +kernel
theorem dX5_heading_1 : decode cX5_heading 1 = .ok (.invokestatic 111, 3) := by decide +kernel
theorem dX5_heading_4 : decode cX5_heading 4 = .ok (.ifCond .eq 30, 3) := by decide +kernel
theorem dX5_heading_7 : decode cX5_heading 7 = .ok (.iload_n 2, 1) := by decide +kernel
theorem dX5_heading_8 : decode cX5_heading 8 = .ok (.invokestatic 111, 3) := by decide +kernel
theorem dX5_heading_11 : decode cX5_heading 11 = .ok (.ifCond .eq 23, 3) := by decide +kernel
theorem dX5_heading_14 : decode cX5_heading 14 = .ok (.iload_n 3, 1) := by decide +kernel
theorem dX5_heading_15 : decode cX5_heading 15 = .ok (.invokestatic 111, 3) := by decide +kernel
theorem dX5_heading_18 : decode cX5_heading 18 = .ok (.ifCond .eq 16, 3) := by decide +kernel
theorem dX5_heading_21 : decode cX5_heading 21 = .ok (.iload 4, 2) := by decide +kernel
theorem dX5_heading_23 : decode cX5_heading 23 = .ok (.iconst 1, 1) := by decide +kernel
theorem dX5_heading_24 : decode cX5_heading 24 = .ok (.if_icmp .lt 10, 3) := by decide +kernel
theorem dX5_heading_27 : decode cX5_heading 27 = .ok (.iload 4, 2) := by decide +kernel
theorem dX5_heading_29 : decode cX5_heading 29 = .ok (.bipush 100, 2) := by decide +kernel
theorem dX5_heading_31 : decode cX5_heading 31 = .ok (.if_icmp .le 6, 3) := by decide +kernel
theorem dX5_heading_34 : decode cX5_heading 34 = .ok (.bipush (-2), 2) := by decide +kernel
theorem dX5_heading_36 : decode cX5_heading 36 = .ok (.ireturn, 1) := by decide +kernel
theorem dX5_heading_37 : decode cX5_heading 37 = .ok (.aload_n 0, 1) := by decide +kernel
theorem dX5_heading_38 : decode cX5_heading 38 = .ok (.getfield 18, 3) := by decide +kernel
theorem dX5_heading_41 : decode cX5_heading 41 = .ok (.iload_n 1, 1) := by decide +kernel
theorem dX5_heading_42 : decode cX5_heading 42 = .ok (.aaload, 1) := by decide +kernel
theorem dX5_heading_43 : decode cX5_heading 43 = .ok (.astore 5, 2) := by decide +kernel
theorem dX5_heading_45 : decode cX5_heading 45 = .ok (.aload_n 0, 1) := by decide +kernel
theorem dX5_heading_46 : decode cX5_heading 46 = .ok (.getfield 18, 3) := by decide +kernel
theorem dX5_heading_49 : decode cX5_heading 49 = .ok (.iload_n 2, 1) := by decide +kernel
theorem dX5_heading_50 : decode cX5_heading 50 = .ok (.aaload, 1) := by decide +kernel
theorem dX5_heading_51 : decode cX5_heading 51 = .ok (.astore 6, 2) := by decide +kernel
theorem dX5_heading_53 : decode cX5_heading 53 = .ok (.aload_n 0, 1) := by decide +kernel
theorem dX5_heading_54 : decode cX5_heading 54 = .ok (.getfield 18, 3) := by decide +kernel
theorem dX5_heading_57 : decode cX5_heading 57 = .ok (.iload_n 3, 1) := by decide +kernel
theorem dX5_heading_58 : decode cX5_heading 58 = .ok (.aaload, 1) := by decide +kernel
theorem dX5_heading_59 : decode cX5_heading 59 = .ok (.astore 7, 2) := by decide +kernel
theorem dX5_heading_61 : decode cX5_heading 61 = .ok (.aload 5, 2) := by decide +kernel
theorem dX5_heading_63 : decode cX5_heading 63 = .ok (.invokevirtual 120, 3) := by decide +kernel
theorem dX5_heading_66 : decode cX5_heading 66 = .ok (.aload 6, 2) := by decide +kernel
theorem dX5_heading_68 : decode cX5_heading 68 = .ok (.invokevirtual 120, 3) := by decide +kernel
theorem dX5_heading_71 : decode cX5_heading 71 = .ok (.if_icmp .ne 16, 3) := by decide +kernel
theorem dX5_heading_74 : decode cX5_heading 74 = .ok (.aload 5, 2) := by decide +kernel
theorem dX5_heading_76 : decode cX5_heading 76 = .ok (.invokevirtual 120, 3) := by decide +kernel
theorem dX5_heading_79 : decode cX5_heading 79 = .ok (.aload 7, 2) := by decide +kernel
theorem dX5_heading_81 : decode cX5_heading 81 = .ok (.invokevirtual 120, 3) := by decide +kernel
theorem dX5_heading_84 : decode cX5_heading 84 = .ok (.if_icmp .eq 6, 3) := by decide +kernel
theorem dX5_heading_87 : decode cX5_heading 87 = .ok (.bipush (-3), 2) := by decide +kernel
theorem dX5_heading_89 : decode cX5_heading 89 = .ok (.ireturn, 1) := by decide +kernel
theorem dX5_heading_90 : decode cX5_heading 90 = .ok (.aload 5, 2) := by decide +kernel
theorem dX5_heading_92 : decode cX5_heading 92 = .ok (.ldc2_w 140, 3) := by decide +kernel
theorem dX5_heading_95 : decode cX5_heading 95 = .ok (.invokevirtual 164, 3) := by decide +kernel
theorem dX5_heading_98 : decode cX5_heading 98 = .ok (.ifCond .ne 25, 3) := by decide +kernel
theorem dX5_heading_101 : decode cX5_heading 101 = .ok (.aload 6, 2) := by decide +kernel
theorem dX5_heading_103 : decode cX5_heading 103 = .ok (.ldc2_w 140, 3) := by decide +kernel
theorem dX5_heading_106 : decode cX5_heading 106 = .ok (.invokevirtual 164, 3) := by decide +kernel
theorem dX5_heading_109 : decode cX5_heading 109 = .ok (.ifCond .ne 14, 3) := by decide +kernel
theorem dX5_heading_112 : decode cX5_heading 112 = .ok (.aload 7, 2) := by decide +kernel
theorem dX5_heading_114 : decode cX5_heading 114 = .ok (.ldc2_w 140, 3) := by decide +kernel
theorem dX5_heading_117 : decode cX5_heading 117 = .ok (.invokevirtual 164, 3) := by decide +kernel
theorem dX5_heading_120 : decode cX5_heading 120 = .ok (.ifCond .eq 6, 3) := by decide +kernel
theorem dX5_heading_123 : decode cX5_heading 123 = .ok (.bipush (-16), 2) := by decide +kernel
theorem dX5_heading_125 : decode cX5_heading 125 = .ok (.ireturn, 1) := by decide +kernel
theorem dX5_heading_126 : decode cX5_heading 126 = .ok (.aload 5, 2) := by decide +kernel
theorem dX5_heading_128 : decode cX5_heading 128 = .ok (.aload 6, 2) := by decide +kernel
theorem dX5_heading_130 : decode cX5_heading 130 = .ok (.invokevirtual 168, 3) := by decide +kernel
theorem dX5_heading_133 : decode cX5_heading 133 = .ok (.lstore 8, 2) := by decide +kernel
theorem dX5_heading_135 : decode cX5_heading 135 = .ok (.aload 5, 2) := by decide +kernel
theorem dX5_heading_137 : decode cX5_heading 137 = .ok (.aload 7, 2) := by decide +kernel
theorem dX5_heading_139 : decode cX5_heading 139 = .ok (.invokevirtual 168, 3) := by decide +kernel
theorem dX5_heading_142 : decode cX5_heading 142 = .ok (.lstore 10, 2) := by decide +kernel
theorem dX5_heading_144 : decode cX5_heading 144 = .ok (.aload 6, 2) := by decide +kernel
theorem dX5_heading_146 : decode cX5_heading 146 = .ok (.aload 6, 2) := by decide +kernel
theorem dX5_heading_148 : decode cX5_heading 148 = .ok (.invokevirtual 168, 3) := by decide +kernel
theorem dX5_heading_151 : decode cX5_heading 151 = .ok (.aload 7, 2) := by decide +kernel
theorem dX5_heading_153 : decode cX5_heading 153 = .ok (.aload 7, 2) := by decide +kernel
theorem dX5_heading_155 : decode cX5_heading 155 = .ok (.invokevirtual 168, 3) := by decide +kernel
theorem dX5_heading_158 : decode cX5_heading 158 = .ok (.ladd, 1) := by decide +kernel
theorem dX5_heading_159 : decode cX5_heading 159 = .ok (.lstore 12, 2) := by decide +kernel
theorem dX5_heading_161 : decode cX5_heading 161 = .ok (.ldc2_w 197, 3) := by decide +kernel
theorem dX5_heading_164 : decode cX5_heading 164 = .ok (.lload 8, 2) := by decide +kernel
theorem dX5_heading_166 : decode cX5_heading 166 = .ok (.lload 8, 2) := by decide +kernel
theorem dX5_heading_168 : decode cX5_heading 168 = .ok (.lmul, 1) := by decide +kernel
theorem dX5_heading_169 : decode cX5_heading 169 = .ok (.lload 10, 2) := by decide +kernel
theorem dX5_heading_171 : decode cX5_heading 171 = .ok (.lload 10, 2) := by decide +kernel
theorem dX5_heading_173 : decode cX5_heading 173 = .ok (.lmul, 1) := by decide +kernel
theorem dX5_heading_174 : decode cX5_heading 174 = .ok (.ladd, 1) := by decide +kernel
theorem dX5_heading_175 : decode cX5_heading 175 = .ok (.lmul, 1) := by decide +kernel
theorem dX5_heading_176 : decode cX5_heading 176 = .ok (.iload 4, 2) := by decide +kernel
theorem dX5_heading_178 : decode cX5_heading 178 = .ok (.i2l, 1) := by decide +kernel
theorem dX5_heading_179 : decode cX5_heading 179 = .ok (.aload 5, 2) := by decide +kernel
theorem dX5_heading_181 : decode cX5_heading 181 = .ok (.aload 5, 2) := by decide +kernel
theorem dX5_heading_183 : decode cX5_heading 183 = .ok (.invokevirtual 168, 3) := by decide +kernel
theorem dX5_heading_186 : decode cX5_heading 186 = .ok (.lmul, 1) := by decide +kernel
theorem dX5_heading_187 : decode cX5_heading 187 = .ok (.lload 12, 2) := by decide +kernel
theorem dX5_heading_189 : decode cX5_heading 189 = .ok (.lmul, 1) := by decide +kernel
theorem dX5_heading_190 : decode cX5_heading 190 = .ok (.lcmp, 1) := by decide +kernel
theorem dX5_heading_191 : decode cX5_heading 191 = .ok (.ifCond .lt 7, 3) := by decide +kernel
theorem dX5_heading_194 : decode cX5_heading 194 = .ok (.iconst 1, 1) := by decide +kernel
theorem dX5_heading_195 : decode cX5_heading 195 = .ok (.goto 4, 3) := by decide +kernel
theorem dX5_heading_198 : decode cX5_heading 198 = .ok (.iconst 0, 1) := by decide +kernel
theorem dX5_heading_199 : decode cX5_heading 199 = .ok (.istore 14, 2) := by decide +kernel
theorem dX5_heading_201 : decode cX5_heading 201 = .ok (.iload 14, 2) := by decide +kernel
theorem dX5_heading_203 : decode cX5_heading 203 = .ok (.ifCond .eq 13, 3) := by decide +kernel
theorem dX5_heading_206 : decode cX5_heading 206 = .ok (.lload 8, 2) := by decide +kernel
theorem dX5_heading_208 : decode cX5_heading 208 = .ok (.lload 10, 2) := by decide +kernel
theorem dX5_heading_210 : decode cX5_heading 210 = .ok (.invokestatic 199, 3) := by decide +kernel
theorem dX5_heading_213 : decode cX5_heading 213 = .ok (.goto 4, 3) := by decide +kernel
theorem dX5_heading_216 : decode cX5_heading 216 = .ok (.iconst (-1), 1) := by decide +kernel
theorem dX5_heading_217 : decode cX5_heading 217 = .ok (.ireturn, 1) := by decide +kernel
theorem dX5_send_0 : decode cX5_send 0 = .ok (.aload_n 0, 1) := by decide +kernel
theorem dX5_send_1 : decode cX5_send 1 = .ok (.iload_n 1, 1) := by decide +kernel
theorem dX5_send_2 : decode cX5_send 2 = .ok (.invokevirtual 52, 3) := by decide +kernel
theorem dX5_send_5 : decode cX5_send 5 = .ok (.istore_n 2, 1) := by decide +kernel
theorem dX5_send_6 : decode cX5_send 6 = .ok (.iload_n 2, 1) := by decide +kernel
theorem dX5_send_7 : decode cX5_send 7 = .ok (.ifCond .eq 5, 3) := by decide +kernel
theorem dX5_send_10 : decode cX5_send 10 = .ok (.iload_n 2, 1) := by decide +kernel
theorem dX5_send_11 : decode cX5_send 11 = .ok (.ireturn, 1) := by decide +kernel
theorem dX5_send_12 : decode cX5_send 12 = .ok (.aload_n 0, 1) := by decide +kernel
theorem dX5_send_13 : decode cX5_send 13 = .ok (.getfield 26, 3) := by decide +kernel
theorem dX5_send_16 : decode cX5_send 16 = .ok (.aload_n 0, 1) := by decide +kernel
theorem dX5_send_17 : decode cX5_send 17 = .ok (.getfield 11, 3) := by decide +kernel
theorem dX5_send_20 : decode cX5_send 20 = .ok (.iload_n 1, 1) := by decide +kernel
theorem dX5_send_21 : decode cX5_send 21 = .ok (.aaload, 1) := by decide +kernel
theorem dX5_send_22 : decode cX5_send 22 = .ok (.invokevirtual 203, 3) := by decide +kernel
theorem dX5_send_25 : decode cX5_send 25 = .ok (.aload_n 0, 1) := by decide +kernel
theorem dX5_send_26 : decode cX5_send 26 = .ok (.getfield 26, 3) := by decide +kernel
theorem dX5_send_29 : decode cX5_send 29 = .ok (.invokevirtual 206, 3) := by decide +kernel
theorem dX5_send_32 : decode cX5_send 32 = .ok (.ireturn, 1) := by decide +kernel
theorem dX5_miss_0 : decode cX5_miss 0 = .ok (.iload_n 1, 1) := by decide +kernel
theorem dX5_miss_1 : decode cX5_miss 1 = .ok (.ifCond .lt 14, 3) := by decide +kernel
theorem dX5_miss_4 : decode cX5_miss 4 = .ok (.iload_n 1, 1) := by decide +kernel
theorem dX5_miss_5 : decode cX5_miss 5 = .ok (.aload_n 0, 1) := by decide +kernel
theorem dX5_miss_6 : decode cX5_miss 6 = .ok (.getfield 26, 3) := by decide +kernel
theorem dX5_miss_9 : decode cX5_miss 9 = .ok (.invokevirtual 206, 3) := by decide +kernel
theorem dX5_miss_12 : decode cX5_miss 12 = .ok (.if_icmp .lt 6, 3) := by decide +kernel
theorem dX5_miss_15 : decode cX5_miss 15 = .ok (.bipush (-2), 2) := by decide +kernel
theorem dX5_miss_17 : decode cX5_miss 17 = .ok (.ireturn, 1) := by decide +kernel
theorem dX5_miss_18 : decode cX5_miss 18 = .ok (.aload_n 0, 1) := by decide +kernel
theorem dX5_miss_19 : decode cX5_miss 19 = .ok (.getfield 26, 3) := by decide +kernel
theorem dX5_miss_22 : decode cX5_miss 22 = .ok (.iload_n 1, 1) := by decide +kernel
theorem dX5_miss_23 : decode cX5_miss 23 = .ok (.invokevirtual 207, 3) := by decide +kernel
theorem dX5_miss_26 : decode cX5_miss 26 = .ok (.ifCond .eq 7, 3) := by decide +kernel
theorem dX5_miss_29 : decode cX5_miss 29 = .ok (.iconst 1, 1) := by decide +kernel
theorem dX5_miss_30 : decode cX5_miss 30 = .ok (.goto 4, 3) := by decide +kernel
theorem dX5_miss_33 : decode cX5_miss 33 = .ok (.iconst 0, 1) := by decide +kernel
theorem dX5_miss_34 : decode cX5_miss 34 = .ok (.ireturn, 1) := by decide +kernel
theorem dX5_receive_0 : decode cX5_receive 0 = .ok (.iload_n 1, 1) := by decide +kernel
theorem dX5_receive_1 : decode cX5_receive 1 = .ok (.invokestatic 44, 3) := by decide +kernel
theorem dX5_receive_4 : decode cX5_receive 4 = .ok (.ifCond .ne 6, 3) := by decide +kernel
theorem dX5_receive_7 : decode cX5_receive 7 = .ok (.bipush (-2), 2) := by decide +kernel
theorem dX5_receive_9 : decode cX5_receive 9 = .ok (.ireturn, 1) := by decide +kernel
theorem dX5_receive_10 : decode cX5_receive 10 = .ok (.aload_n 0, 1) := by decide +kernel
theorem dX5_receive_11 : decode cX5_receive 11 = .ok (.getfield 26, 3) := by decide +kernel
theorem dX5_receive_14 : decode cX5_receive 14 = .ok (.invokevirtual 209, 3) := by decide +kernel
theorem dX5_receive_17 : decode cX5_receive 17 = .ok (.ifCond .ne 6, 3) := by decide +kernel
theorem dX5_receive_20 : decode cX5_receive 20 = .ok (.bipush (-3), 2) := by decide +kernel
theorem dX5_receive_22 : decode cX5_receive 22 = .ok (.ireturn, 1) := by decide +kernel
theorem dX5_receive_23 : decode cX5_receive 23 = .ok (.aload_n 0, 1) := by decide +kernel
theorem dX5_receive_24 : decode cX5_receive 24 = .ok (.getfield 26, 3) := by decide +kernel
theorem dX5_receive_27 : decode cX5_receive 27 = .ok (.aload_n 0, 1) := by decide +kernel
theorem dX5_receive_28 : decode cX5_receive 28 = .ok (.getfield 11, 3) := by decide +kernel
theorem dX5_receive_31 : decode cX5_receive 31 = .ok (.iload_n 1, 1) := by decide +kernel
theorem dX5_receive_32 : decode cX5_receive 32 = .ok (.aaload, 1) := by decide +kernel
theorem dX5_receive_33 : decode cX5_receive 33 = .ok (.invokevirtual 212, 3) := by decide +kernel
theorem dX5_receive_36 : decode cX5_receive 36 = .ok (.aload_n 0, 1) := by decide +kernel
theorem dX5_receive_37 : decode cX5_receive 37 = .ok (.getfield 11, 3) := by decide +kernel
theorem dX5_receive_40 : decode cX5_receive 40 = .ok (.iload_n 1, 1) := by decide +kernel
theorem dX5_receive_41 : decode cX5_receive 41 = .ok (.aaload, 1) := by decide +kernel
theorem dX5_receive_42 : decode cX5_receive 42 = .ok (.invokevirtual 114, 3) := by decide +kernel
theorem dX5_receive_45 : decode cX5_receive 45 = .ok (.ireturn, 1) := by decide +kernel
theorem dX5_rule_0 : decode cX5_rule 0 = .ok (.iload_n 1, 1) := by decide +kernel
theorem dX5_rule_1 : decode cX5_rule 1 = .ok (.iload_n 2, 1) := by decide +kernel
theorem dX5_rule_2 : decode cX5_rule 2 = .ok (.if_icmp .le 14, 3) := by decide +kernel
theorem dX5_rule_5 : decode cX5_rule 5 = .ok (.iload_n 3, 1) := by decide +kernel
theorem dX5_rule_6 : decode cX5_rule 6 = .ok (.ifCond .lt 10, 3) := by decide +kernel
theorem dX5_rule_9 : decode cX5_rule 9 = .ok (.iload_n 3, 1) := by decide +kernel
theorem dX5_rule_10 : decode cX5_rule 10 = .ok (.sipush 1000, 3) := by decide +kernel
theorem dX5_rule_13 : decode cX5_rule 13 = .ok (.if_icmp .le 6, 3) := by decide +kernel
theorem dX5_rule_16 : decode cX5_rule 16 = .ok (.bipush (-2), 2) := by decide +kernel
theorem dX5_rule_18 : decode cX5_rule 18 = .ok (.ireturn, 1) := by decide +kernel
theorem dX5_rule_19 : decode cX5_rule 19 = .ok (.aload_n 0, 1) := by decide +kernel
theorem dX5_rule_20 : decode cX5_rule 20 = .ok (.getfield 33, 3) := by decide +kernel
theorem dX5_rule_23 : decode cX5_rule 23 = .ok (.iload_n 1, 1) := by decide +kernel
theorem dX5_rule_24 : decode cX5_rule 24 = .ok (.iload_n 2, 1) := by decide +kernel
theorem dX5_rule_25 : decode cX5_rule 25 = .ok (.iload_n 3, 1) := by decide +kernel
theorem dX5_rule_26 : decode cX5_rule 26 = .ok (.invokevirtual 215, 3) := by decide +kernel
theorem dX5_rule_29 : decode cX5_rule 29 = .ok (.iconst 1, 1) := by decide +kernel
theorem dX5_rule_30 : decode cX5_rule 30 = .ok (.ireturn, 1) := by decide +kernel
theorem dX5_hear_0 : decode cX5_hear 0 = .ok (.aload_n 0, 1) := by decide +kernel
theorem dX5_hear_1 : decode cX5_hear 1 = .ok (.getfield 33, 3) := by decide +kernel
theorem dX5_hear_4 : decode cX5_hear 4 = .ok (.iload_n 1, 1) := by decide +kernel
theorem dX5_hear_5 : decode cX5_hear 5 = .ok (.invokevirtual 218, 3) := by decide +kernel
theorem dX5_hear_8 : decode cX5_hear 8 = .ok (.aload_n 0, 1) := by decide +kernel
theorem dX5_hear_9 : decode cX5_hear 9 = .ok (.getfield 33, 3) := by decide +kernel
theorem dX5_hear_12 : decode cX5_hear 12 = .ok (.invokevirtual 220, 3) := by decide +kernel
theorem dX5_hear_15 : decode cX5_hear 15 = .ok (.ireturn, 1) := by decide +kernel
theorem dX5_anchor_0 : decode cX5_anchor 0 = .ok (.iload_n 1, 1) := by decide +kernel
theorem dX5_anchor_1 : decode cX5_anchor 1 = .ok (.iload_n 2, 1) := by decide +kernel
theorem dX5_anchor_2 : decode cX5_anchor 2 = .ok (.invokestatic 223, 3) := by decide +kernel
theorem dX5_anchor_5 : decode cX5_anchor 5 = .ok (.ifCond .eq 26, 3) := by decide +kernel
theorem dX5_anchor_8 : decode cX5_anchor 8 = .ok (.iload_n 3, 1) := by decide +kernel
theorem dX5_anchor_9 : decode cX5_anchor 9 = .ok (.ifCond .lt 22, 3) := by decide +kernel
theorem dX5_anchor_12 : decode cX5_anchor 12 = .ok (.iload_n 3, 1) := by decide +kernel
theorem dX5_anchor_13 : decode cX5_anchor 13 = .ok (.ldc 226, 2) := by decide +kernel
theorem dX5_anchor_15 : decode cX5_anchor 15 = .ok (.if_icmp .gt 16, 3) := by decide +kernel
theorem dX5_anchor_18 : decode cX5_anchor 18 = .ok (.iload 4, 2) := by decide +kernel
theorem dX5_anchor_20 : decode cX5_anchor 20 = .ok (.iconst 1, 1) := by decide +kernel
theorem dX5_anchor_21 : decode cX5_anchor 21 = .ok (.if_icmp .lt 10, 3) := by decide +kernel
theorem dX5_anchor_24 : decode cX5_anchor 24 = .ok (.iload 4, 2) := by decide +kernel
theorem dX5_anchor_26 : decode cX5_anchor 26 = .ok (.bipush 100, 2) := by decide +kernel
theorem dX5_anchor_28 : decode cX5_anchor 28 = .ok (.if_icmp .le 6, 3) := by decide +kernel
theorem dX5_anchor_31 : decode cX5_anchor 31 = .ok (.bipush (-2), 2) := by decide +kernel
theorem dX5_anchor_33 : decode cX5_anchor 33 = .ok (.ireturn, 1) := by decide +kernel
theorem dX5_anchor_34 : decode cX5_anchor 34 = .ok (.aload_n 0, 1) := by decide +kernel
theorem dX5_anchor_35 : decode cX5_anchor 35 = .ok (.getfield 40, 3) := by decide +kernel
theorem dX5_anchor_38 : decode cX5_anchor 38 = .ok (.iload_n 1, 1) := by decide +kernel
theorem dX5_anchor_39 : decode cX5_anchor 39 = .ok (.iload_n 2, 1) := by decide +kernel
theorem dX5_anchor_40 : decode cX5_anchor 40 = .ok (.iload_n 3, 1) := by decide +kernel
theorem dX5_anchor_41 : decode cX5_anchor 41 = .ok (.iload 4, 2) := by decide +kernel
theorem dX5_anchor_43 : decode cX5_anchor 43 = .ok (.invokevirtual 227, 3) := by decide +kernel
theorem dX5_anchor_46 : decode cX5_anchor 46 = .ok (.iconst 1, 1) := by decide +kernel
theorem dX5_anchor_47 : decode cX5_anchor 47 = .ok (.ireturn, 1) := by decide +kernel
theorem dX5_fix_0 : decode cX5_fix 0 = .ok (.iload_n 1, 1) := by decide +kernel
theorem dX5_fix_1 : decode cX5_fix 1 = .ok (.iload_n 2, 1) := by decide +kernel
theorem dX5_fix_2 : decode cX5_fix 2 = .ok (.invokestatic 223, 3) := by decide +kernel
theorem dX5_fix_5 : decode cX5_fix 5 = .ok (.ifCond .ne 6, 3) := by decide +kernel
theorem dX5_fix_8 : decode cX5_fix 8 = .ok (.bipush (-2), 2) := by decide +kernel
theorem dX5_fix_10 : decode cX5_fix 10 = .ok (.ireturn, 1) := by decide +kernel
theorem dX5_fix_11 : decode cX5_fix 11 = .ok (.aload_n 0, 1) := by decide +kernel
theorem dX5_fix_12 : decode cX5_fix 12 = .ok (.getfield 40, 3) := by decide +kernel
theorem dX5_fix_15 : decode cX5_fix 15 = .ok (.iload_n 1, 1) := by decide +kernel
theorem dX5_fix_16 : decode cX5_fix 16 = .ok (.iload_n 2, 1) := by decide +kernel
theorem dX5_fix_17 : decode cX5_fix 17 = .ok (.invokevirtual 230, 3) := by decide +kernel
theorem dX5_fix_20 : decode cX5_fix 20 = .ok (.aload_n 0, 1) := by decide +kernel
theorem dX5_fix_21 : decode cX5_fix 21 = .ok (.getfield 40, 3) := by decide +kernel
theorem dX5_fix_24 : decode cX5_fix 24 = .ok (.invokevirtual 232, 3) := by decide +kernel
theorem dX5_fix_27 : decode cX5_fix 27 = .ok (.ireturn, 1) := by decide +kernel
theorem dX5_count_0 : decode cX5_count 0 = .ok (.iload_n 1, 1) := by decide +kernel
theorem dX5_count_1 : decode cX5_count 1 = .ok (.tableswitch 132 0 9 #[55, 60, 68, 76, 84, 92, 100, 108, 116, 124], 55) := by decide +kernel
theorem dX5_count_56 : decode cX5_count 56 = .ok (.aload_n 0, 1) := by decide +kernel
theorem dX5_count_57 : decode cX5_count 57 = .ok (.invokevirtual 233, 3) := by decide +kernel
theorem dX5_count_60 : decode cX5_count 60 = .ok (.ireturn, 1) := by decide +kernel
theorem dX5_count_61 : decode cX5_count 61 = .ok (.aload_n 0, 1) := by decide +kernel
theorem dX5_count_62 : decode cX5_count 62 = .ok (.getfield 26, 3) := by decide +kernel
theorem dX5_count_65 : decode cX5_count 65 = .ok (.invokevirtual 206, 3) := by decide +kernel
theorem dX5_count_68 : decode cX5_count 68 = .ok (.ireturn, 1) := by decide +kernel
theorem dX5_count_69 : decode cX5_count 69 = .ok (.aload_n 0, 1) := by decide +kernel
theorem dX5_count_70 : decode cX5_count 70 = .ok (.getfield 26, 3) := by decide +kernel
theorem dX5_count_73 : decode cX5_count 73 = .ok (.invokevirtual 236, 3) := by decide +kernel
theorem dX5_count_76 : decode cX5_count 76 = .ok (.ireturn, 1) := by decide +kernel
theorem dX5_count_77 : decode cX5_count 77 = .ok (.aload_n 0, 1) := by decide +kernel
theorem dX5_count_78 : decode cX5_count 78 = .ok (.getfield 33, 3) := by decide +kernel
theorem dX5_count_81 : decode cX5_count 81 = .ok (.invokevirtual 239, 3) := by decide +kernel
theorem dX5_count_84 : decode cX5_count 84 = .ok (.ireturn, 1) := by decide +kernel
theorem dX5_count_85 : decode cX5_count 85 = .ok (.aload_n 0, 1) := by decide +kernel
theorem dX5_count_86 : decode cX5_count 86 = .ok (.getfield 33, 3) := by decide +kernel
theorem dX5_count_89 : decode cX5_count 89 = .ok (.invokevirtual 242, 3) := by decide +kernel
theorem dX5_count_92 : decode cX5_count 92 = .ok (.ireturn, 1) := by decide +kernel
theorem dX5_count_93 : decode cX5_count 93 = .ok (.aload_n 0, 1) := by decide +kernel
theorem dX5_count_94 : decode cX5_count 94 = .ok (.getfield 33, 3) := by decide +kernel
theorem dX5_count_97 : decode cX5_count 97 = .ok (.invokevirtual 220, 3) := by decide +kernel
theorem dX5_count_100 : decode cX5_count 100 = .ok (.ireturn, 1) := by decide +kernel
theorem dX5_count_101 : decode cX5_count 101 = .ok (.aload_n 0, 1) := by decide +kernel
theorem dX5_count_102 : decode cX5_count 102 = .ok (.getfield 40, 3) := by decide +kernel
theorem dX5_count_105 : decode cX5_count 105 = .ok (.invokevirtual 245, 3) := by decide +kernel
theorem dX5_count_108 : decode cX5_count 108 = .ok (.ireturn, 1) := by decide +kernel
theorem dX5_count_109 : decode cX5_count 109 = .ok (.aload_n 0, 1) := by decide +kernel
theorem dX5_count_110 : decode cX5_count 110 = .ok (.getfield 40, 3) := by decide +kernel
theorem dX5_count_113 : decode cX5_count 113 = .ok (.invokevirtual 248, 3) := by decide +kernel
theorem dX5_count_116 : decode cX5_count 116 = .ok (.ireturn, 1) := by decide +kernel
theorem dX5_count_117 : decode cX5_count 117 = .ok (.aload_n 0, 1) := by decide +kernel
theorem dX5_count_118 : decode cX5_count 118 = .ok (.getfield 40, 3) := by decide +kernel
theorem dX5_count_121 : decode cX5_count 121 = .ok (.invokevirtual 251, 3) := by decide +kernel
theorem dX5_count_124 : decode cX5_count 124 = .ok (.ireturn, 1) := by decide +kernel
theorem dX5_count_125 : decode cX5_count 125 = .ok (.aload_n 0, 1) := by decide +kernel
theorem dX5_count_126 : decode cX5_count 126 = .ok (.getfield 40, 3) := by decide +kernel
theorem dX5_count_129 : decode cX5_count 129 = .ok (.invokevirtual 254, 3) := by decide +kernel
theorem dX5_count_132 : decode cX5_count 132 = .ok (.ireturn, 1) := by decide +kernel
theorem dX5_count_133 : decode cX5_count 133 = .ok (.bipush (-2), 2) := by decide +kernel
theorem dX5_count_135 : decode cX5_count 135 = .ok (.ireturn, 1) := by decide +kernel
theorem dX5_digest_0 : decode cX5_digest 0 = .ok (.ldc2_w 257, 3) := by decide +kernel
theorem dX5_digest_3 : decode cX5_digest 3 = .ok (.lstore_n 1, 1) := by decide +kernel
theorem dX5_digest_4 : decode cX5_digest 4 = .ok (.iconst 0, 1) := by decide +kernel
theorem dX5_digest_5 : decode cX5_digest 5 = .ok (.istore_n 3, 1) := by decide +kernel
theorem dX5_digest_6 : decode cX5_digest 6 = .ok (.iload_n 3, 1) := by decide +kernel
theorem dX5_digest_7 : decode cX5_digest 7 = .ok (.bipush 10, 2) := by decide +kernel
theorem dX5_digest_9 : decode cX5_digest 9 = .ok (.if_icmp .ge 22, 3) := by decide +kernel
theorem dX5_digest_12 : decode cX5_digest 12 = .ok (.ldc2_w 259, 3) := by decide +kernel
theorem dX5_digest_15 : decode cX5_digest 15 = .ok (.lload_n 1, 1) := by decide +kernel
theorem dX5_digest_16 : decode cX5_digest 16 = .ok (.lmul, 1) := by decide +kernel
theorem dX5_digest_17 : decode cX5_digest 17 = .ok (.aload_n 0, 1) := by decide +kernel
theorem dX5_digest_18 : decode cX5_digest 18 = .ok (.iload_n 3, 1) := by decide +kernel
theorem dX5_digest_19 : decode cX5_digest 19 = .ok (.invokevirtual 261, 3) := by decide +kernel
theorem dX5_digest_22 : decode cX5_digest 22 = .ok (.i2l, 1) := by decide +kernel
theorem dX5_digest_23 : decode cX5_digest 23 = .ok (.ladd, 1) := by decide +kernel
theorem dX5_digest_24 : decode cX5_digest 24 = .ok (.lstore_n 1, 1) := by decide +kernel
theorem dX5_digest_25 : decode cX5_digest 25 = .ok (.iinc 3 1, 3) := by decide +kernel
theorem dX5_digest_28 : decode cX5_digest 28 = .ok (.goto (-22), 3) := by decide +kernel
theorem dX5_digest_31 : decode cX5_digest 31 = .ok (.iconst 0, 1) := by decide +kernel
theorem dX5_digest_32 : decode cX5_digest 32 = .ok (.istore_n 3, 1) := by decide +kernel
theorem dX5_digest_33 : decode cX5_digest 33 = .ok (.iload_n 3, 1) := by decide +kernel
theorem dX5_digest_34 : decode cX5_digest 34 = .ok (.bipush 8, 2) := by decide +kernel
theorem dX5_digest_36 : decode cX5_digest 36 = .ok (.if_icmp .ge 39, 3) := by decide +kernel
theorem dX5_digest_39 : decode cX5_digest 39 = .ok (.aload_n 0, 1) := by decide +kernel
theorem dX5_digest_40 : decode cX5_digest 40 = .ok (.getfield 11, 3) := by decide +kernel
theorem dX5_digest_43 : decode cX5_digest 43 = .ok (.iload_n 3, 1) := by decide +kernel
theorem dX5_digest_44 : decode cX5_digest 44 = .ok (.aaload, 1) := by decide +kernel
theorem dX5_digest_45 : decode cX5_digest 45 = .ok (.invokevirtual 87, 3) := by decide +kernel
theorem dX5_digest_48 : decode cX5_digest 48 = .ok (.ifCond .eq 21, 3) := by decide +kernel
theorem dX5_digest_51 : decode cX5_digest 51 = .ok (.aload_n 0, 1) := by decide +kernel
theorem dX5_digest_52 : decode cX5_digest 52 = .ok (.getfield 11, 3) := by decide +kernel
theorem dX5_digest_55 : decode cX5_digest 55 = .ok (.iload_n 3, 1) := by decide +kernel
theorem dX5_digest_56 : decode cX5_digest 56 = .ok (.aaload, 1) := by decide +kernel
theorem dX5_digest_57 : decode cX5_digest 57 = .ok (.ldc2_w 259, 3) := by decide +kernel
theorem dX5_digest_60 : decode cX5_digest 60 = .ok (.lload_n 1, 1) := by decide +kernel
theorem dX5_digest_61 : decode cX5_digest 61 = .ok (.lmul, 1) := by decide +kernel
theorem dX5_digest_62 : decode cX5_digest 62 = .ok (.iload_n 3, 1) := by decide +kernel
theorem dX5_digest_63 : decode cX5_digest 63 = .ok (.i2l, 1) := by decide +kernel
theorem dX5_digest_64 : decode cX5_digest 64 = .ok (.ladd, 1) := by decide +kernel
theorem dX5_digest_65 : decode cX5_digest 65 = .ok (.invokevirtual 264, 3) := by decide +kernel
theorem dX5_digest_68 : decode cX5_digest 68 = .ok (.lstore_n 1, 1) := by decide +kernel
theorem dX5_digest_69 : decode cX5_digest 69 = .ok (.iinc 3 1, 3) := by decide +kernel
theorem dX5_digest_72 : decode cX5_digest 72 = .ok (.goto (-39), 3) := by decide +kernel
theorem dX5_digest_75 : decode cX5_digest 75 = .ok (.iconst 0, 1) := by decide +kernel
theorem dX5_digest_76 : decode cX5_digest 76 = .ok (.istore_n 3, 1) := by decide +kernel
theorem dX5_digest_77 : decode cX5_digest 77 = .ok (.iload_n 3, 1) := by decide +kernel
theorem dX5_digest_78 : decode cX5_digest 78 = .ok (.bipush 6, 2) := by decide +kernel
theorem dX5_digest_80 : decode cX5_digest 80 = .ok (.if_icmp .ge 20, 3) := by decide +kernel
theorem dX5_digest_83 : decode cX5_digest 83 = .ok (.aload_n 0, 1) := by decide +kernel
theorem dX5_digest_84 : decode cX5_digest 84 = .ok (.getfield 18, 3) := by decide +kernel
theorem dX5_digest_87 : decode cX5_digest 87 = .ok (.iload_n 3, 1) := by decide +kernel
theorem dX5_digest_88 : decode cX5_digest 88 = .ok (.aaload, 1) := by decide +kernel
theorem dX5_digest_89 : decode cX5_digest 89 = .ok (.lload_n 1, 1) := by decide +kernel
theorem dX5_digest_90 : decode cX5_digest 90 = .ok (.invokevirtual 268, 3) := by decide +kernel
theorem dX5_digest_93 : decode cX5_digest 93 = .ok (.lstore_n 1, 1) := by decide +kernel
theorem dX5_digest_94 : decode cX5_digest 94 = .ok (.iinc 3 1, 3) := by decide +kernel
theorem dX5_digest_97 : decode cX5_digest 97 = .ok (.goto (-20), 3) := by decide +kernel
theorem dX5_digest_100 : decode cX5_digest 100 = .ok (.lload_n 1, 1) := by decide +kernel
theorem dX5_digest_101 : decode cX5_digest 101 = .ok (.lreturn, 1) := by decide +kernel
theorem dX5_isSheet_0 : decode cX5_isSheet 0 = .ok (.iload_n 0, 1) := by decide +kernel
theorem dX5_isSheet_1 : decode cX5_isSheet 1 = .ok (.ifCond .lt 13, 3) := by decide +kernel
theorem dX5_isSheet_4 : decode cX5_isSheet 4 = .ok (.iload_n 0, 1) := by decide +kernel
theorem dX5_isSheet_5 : decode cX5_isSheet 5 = .ok (.bipush 8, 2) := by decide +kernel
theorem dX5_isSheet_7 : decode cX5_isSheet 7 = .ok (.if_icmp .ge 7, 3) := by decide +kernel
theorem dX5_isSheet_10 : decode cX5_isSheet 10 = .ok (.iconst 1, 1) := by decide +kernel
theorem dX5_isSheet_11 : decode cX5_isSheet 11 = .ok (.goto 4, 3) := by decide +kernel
theorem dX5_isSheet_14 : decode cX5_isSheet 14 = .ok (.iconst 0, 1) := by decide +kernel
theorem dX5_isSheet_15 : decode cX5_isSheet 15 = .ok (.ireturn, 1) := by decide +kernel
theorem dX5_isRow_0 : decode cX5_isRow 0 = .ok (.iload_n 0, 1) := by decide +kernel
theorem dX5_isRow_1 : decode cX5_isRow 1 = .ok (.ifCond .lt 13, 3) := by decide +kernel
theorem dX5_isRow_4 : decode cX5_isRow 4 = .ok (.iload_n 0, 1) := by decide +kernel
theorem dX5_isRow_5 : decode cX5_isRow 5 = .ok (.bipush 6, 2) := by decide +kernel
theorem dX5_isRow_7 : decode cX5_isRow 7 = .ok (.if_icmp .ge 7, 3) := by decide +kernel
theorem dX5_isRow_10 : decode cX5_isRow 10 = .ok (.iconst 1, 1) := by decide +kernel
theorem dX5_isRow_11 : decode cX5_isRow 11 = .ok (.goto 4, 3) := by decide +kernel
theorem dX5_isRow_14 : decode cX5_isRow 14 = .ok (.iconst 0, 1) := by decide +kernel
theorem dX5_isRow_15 : decode cX5_isRow 15 = .ok (.ireturn, 1) := by decide +kernel
theorem dX5_isStretch_0 : decode cX5_isStretch 0 = .ok (.iload_n 0, 1) := by decide +kernel
theorem dX5_isStretch_1 : decode cX5_isStretch 1 = .ok (.invokestatic 111, 3) := by decide +kernel
theorem dX5_isStretch_4 : decode cX5_isStretch 4 = .ok (.ifCond .eq 16, 3) := by decide +kernel
theorem dX5_isStretch_7 : decode cX5_isStretch 7 = .ok (.iload_n 1, 1) := by decide +kernel
theorem dX5_isStretch_8 : decode cX5_isStretch 8 = .ok (.ifCond .lt 12, 3) := by decide +kernel
theorem dX5_isStretch_11 : decode cX5_isStretch 11 = .ok (.iload_n 2, 1) := by decide +kernel
theorem dX5_isStretch_12 : decode cX5_isStretch 12 = .ok (.iload_n 1, 1) := by decide +kernel
theorem dX5_isStretch_13 : decode cX5_isStretch 13 = .ok (.if_icmp .lt 7, 3) := by decide +kernel
theorem dX5_isStretch_16 : decode cX5_isStretch 16 = .ok (.iconst 1, 1) := by decide +kernel
theorem dX5_isStretch_17 : decode cX5_isStretch 17 = .ok (.goto 4, 3) := by decide +kernel
theorem dX5_isStretch_20 : decode cX5_isStretch 20 = .ok (.iconst 0, 1) := by decide +kernel
theorem dX5_isStretch_21 : decode cX5_isStretch 21 = .ok (.ireturn, 1) := by decide +kernel
theorem dX5_isWithin_0 : decode cX5_isWithin 0 = .ok (.lload_n 0, 1) := by decide +kernel
theorem dX5_isWithin_1 : decode cX5_isWithin 1 = .ok (.lload_n 2, 1) := by decide +kernel
theorem dX5_isWithin_2 : decode cX5_isWithin 2 = .ok (.lneg, 1) := by decide +kernel
theorem dX5_isWithin_3 : decode cX5_isWithin 3 = .ok (.lcmp, 1) := by decide +kernel
theorem dX5_isWithin_4 : decode cX5_isWithin 4 = .ok (.ifCond .lt 13, 3) := by decide +kernel
theorem dX5_isWithin_7 : decode cX5_isWithin 7 = .ok (.lload_n 0, 1) := by decide +kernel
theorem dX5_isWithin_8 : decode cX5_isWithin 8 = .ok (.lload_n 2, 1) := by decide +kernel
theorem dX5_isWithin_9 : decode cX5_isWithin 9 = .ok (.lcmp, 1) := by decide +kernel
theorem dX5_isWithin_10 : decode cX5_isWithin 10 = .ok (.ifCond .gt 7, 3) := by decide +kernel
theorem dX5_isWithin_13 : decode cX5_isWithin 13 = .ok (.iconst 1, 1) := by decide +kernel
theorem dX5_isWithin_14 : decode cX5_isWithin 14 = .ok (.goto 4, 3) := by decide +kernel
theorem dX5_isWithin_17 : decode cX5_isWithin 17 = .ok (.iconst 0, 1) := by decide +kernel
theorem dX5_isWithin_18 : decode cX5_isWithin 18 = .ok (.ireturn, 1) := by decide +kernel
theorem dX5_isPlace_0 : decode cX5_isPlace 0 = .ok (.iload_n 0, 1) := by decide +kernel
theorem dX5_isPlace_1 : decode cX5_isPlace 1 = .ok (.i2l, 1) := by decide +kernel
theorem dX5_isPlace_2 : decode cX5_isPlace 2 = .ok (.ldc2_w 269, 3) := by decide +kernel
theorem dX5_isPlace_5 : decode cX5_isPlace 5 = .ok (.invokestatic 142, 3) := by decide +kernel
theorem dX5_isPlace_8 : decode cX5_isPlace 8 = .ok (.ifCond .eq 18, 3) := by decide +kernel
theorem dX5_isPlace_11 : decode cX5_isPlace 11 = .ok (.iload_n 1, 1) := by decide +kernel
theorem dX5_isPlace_12 : decode cX5_isPlace 12 = .ok (.i2l, 1) := by decide +kernel
theorem dX5_isPlace_13 : decode cX5_isPlace 13 = .ok (.ldc2_w 269, 3) := by decide +kernel
theorem dX5_isPlace_16 : decode cX5_isPlace 16 = .ok (.invokestatic 142, 3) := by decide +kernel
theorem dX5_isPlace_19 : decode cX5_isPlace 19 = .ok (.ifCond .eq 7, 3) := by decide +kernel
theorem dX5_isPlace_22 : decode cX5_isPlace 22 = .ok (.iconst 1, 1) := by decide +kernel
theorem dX5_isPlace_23 : decode cX5_isPlace 23 = .ok (.goto 4, 3) := by decide +kernel
theorem dX5_isPlace_26 : decode cX5_isPlace 26 = .ok (.iconst 0, 1) := by decide +kernel
theorem dX5_isPlace_27 : decode cX5_isPlace 27 = .ok (.ireturn, 1) := by decide +kernel
theorem dX5_sheetFailure_0 : decode cX5_sheetFailure 0 = .ok (.iload_n 1, 1) := by decide +kernel
theorem dX5_sheetFailure_1 : decode cX5_sheetFailure 1 = .ok (.invokestatic 44, 3) := by decide +kernel
theorem dX5_sheetFailure_4 : decode cX5_sheetFailure 4 = .ok (.ifCond .ne 6, 3) := by decide +kernel
theorem dX5_sheetFailure_7 : decode cX5_sheetFailure 7 = .ok (.bipush (-2), 2) := by decide +kernel
theorem dX5_sheetFailure_9 : decode cX5_sheetFailure 9 = .ok (.ireturn, 1) := by decide +kernel
theorem dX5_sheetFailure_10 : decode cX5_sheetFailure 10 = .ok (.aload_n 0, 1) := by decide +kernel
theorem dX5_sheetFailure_11 : decode cX5_sheetFailure 11 = .ok (.getfield 11, 3) := by decide +kernel
theorem dX5_sheetFailure_14 : decode cX5_sheetFailure 14 = .ok (.iload_n 1, 1) := by decide +kernel
theorem dX5_sheetFailure_15 : decode cX5_sheetFailure 15 = .ok (.aaload, 1) := by decide +kernel
theorem dX5_sheetFailure_16 : decode cX5_sheetFailure 16 = .ok (.invokevirtual 87, 3) := by decide +kernel
theorem dX5_sheetFailure_19 : decode cX5_sheetFailure 19 = .ok (.ifCond .eq 7, 3) := by decide +kernel
theorem dX5_sheetFailure_22 : decode cX5_sheetFailure 22 = .ok (.iconst 0, 1) := by decide +kernel
theorem dX5_sheetFailure_23 : decode cX5_sheetFailure 23 = .ok (.goto 5, 3) := by decide +kernel
theorem dX5_sheetFailure_26 : decode cX5_sheetFailure 26 = .ok (.bipush (-10), 2) := by decide +kernel
theorem dX5_sheetFailure_28 : decode cX5_sheetFailure 28 = .ok (.ireturn, 1) := by decide +kernel
theorem dX5_sampleFailure_0 : decode cX5_sampleFailure 0 = .ok (.aload_n 0, 1) := by decide +kernel
theorem dX5_sampleFailure_1 : decode cX5_sampleFailure 1 = .ok (.iload_n 1, 1) := by decide +kernel
theorem dX5_sampleFailure_2 : decode cX5_sampleFailure 2 = .ok (.invokevirtual 52, 3) := by decide +kernel
theorem dX5_sampleFailure_5 : decode cX5_sampleFailure 5 = .ok (.istore_n 3, 1) := by decide +kernel
theorem dX5_sampleFailure_6 : decode cX5_sampleFailure 6 = .ok (.iload_n 3, 1) := by decide +kernel
theorem dX5_sampleFailure_7 : decode cX5_sampleFailure 7 = .ok (.ifCond .eq 5, 3) := by decide +kernel
theorem dX5_sampleFailure_10 : decode cX5_sampleFailure 10 = .ok (.iload_n 3, 1) := by decide +kernel
theorem dX5_sampleFailure_11 : decode cX5_sampleFailure 11 = .ok (.ireturn, 1) := by decide +kernel
theorem dX5_sampleFailure_12 : decode cX5_sampleFailure 12 = .ok (.aload_n 0, 1) := by decide +kernel
theorem dX5_sampleFailure_13 : decode cX5_sampleFailure 13 = .ok (.getfield 11, 3) := by decide +kernel
theorem dX5_sampleFailure_16 : decode cX5_sampleFailure 16 = .ok (.iload_n 1, 1) := by decide +kernel
theorem dX5_sampleFailure_17 : decode cX5_sampleFailure 17 = .ok (.aaload, 1) := by decide +kernel
theorem dX5_sampleFailure_18 : decode cX5_sampleFailure 18 = .ok (.iload_n 2, 1) := by decide +kernel
theorem dX5_sampleFailure_19 : decode cX5_sampleFailure 19 = .ok (.invokevirtual 271, 3) := by decide +kernel
theorem dX5_sampleFailure_22 : decode cX5_sampleFailure 22 = .ok (.ifCond .eq 7, 3) := by decide +kernel
theorem dX5_sampleFailure_25 : decode cX5_sampleFailure 25 = .ok (.iconst 0, 1) := by decide +kernel
theorem dX5_sampleFailure_26 : decode cX5_sampleFailure 26 = .ok (.goto 5, 3) := by decide +kernel
theorem dX5_sampleFailure_29 : decode cX5_sampleFailure 29 = .ok (.bipush (-13), 2) := by decide +kernel
theorem dX5_sampleFailure_31 : decode cX5_sampleFailure 31 = .ok (.ireturn, 1) := by decide +kernel
theorem dX5_sheetsThere_0 : decode cX5_sheetsThere 0 = .ok (.iconst 0, 1) := by decide +kernel
theorem dX5_sheetsThere_1 : decode cX5_sheetsThere 1 = .ok (.istore_n 1, 1) := by decide +kernel
theorem dX5_sheetsThere_2 : decode cX5_sheetsThere 2 = .ok (.iconst 0, 1) := by decide +kernel
theorem dX5_sheetsThere_3 : decode cX5_sheetsThere 3 = .ok (.istore_n 2, 1) := by decide +kernel
theorem dX5_sheetsThere_4 : decode cX5_sheetsThere 4 = .ok (.iload_n 2, 1) := by decide +kernel
theorem dX5_sheetsThere_5 : decode cX5_sheetsThere 5 = .ok (.bipush 8, 2) := by decide +kernel
theorem dX5_sheetsThere_7 : decode cX5_sheetsThere 7 = .ok (.if_icmp .ge 24, 3) := by decide +kernel
theorem dX5_sheetsThere_10 : decode cX5_sheetsThere 10 = .ok (.aload_n 0, 1) := by decide +kernel
theorem dX5_sheetsThere_11 : decode cX5_sheetsThere 11 = .ok (.getfield 11, 3) := by decide +kernel
theorem dX5_sheetsThere_14 : decode cX5_sheetsThere 14 = .ok (.iload_n 2, 1) := by decide +kernel
theorem dX5_sheetsThere_15 : decode cX5_sheetsThere 15 = .ok (.aaload, 1) := by decide +kernel
theorem dX5_sheetsThere_16 : decode cX5_sheetsThere 16 = .ok (.invokevirtual 87, 3) := by decide +kernel
theorem dX5_sheetsThere_19 : decode cX5_sheetsThere 19 = .ok (.ifCond .eq 6, 3) := by decide +kernel
theorem dX5_sheetsThere_22 : decode cX5_sheetsThere 22 = .ok (.iinc 1 1, 3) := by decide +kernel
theorem dX5_sheetsThere_25 : decode cX5_sheetsThere 25 = .ok (.iinc 2 1, 3) := by decide +kernel
theorem dX5_sheetsThere_28 : decode cX5_sheetsThere 28 = .ok (.goto (-24), 3) := by decide +kernel
theorem dX5_sheetsThere_31 : decode cX5_sheetsThere 31 = .ok (.iload_n 1, 1) := by decide +kernel
theorem dX5_sheetsThere_32 : decode cX5_sheetsThere 32 = .ok (.ireturn, 1) := by decide +kernel
theorem dX5_commonDivisor_0 : decode cX5_commonDivisor 0 = .ok (.iload_n 2, 1) := by decide +kernel
theorem dX5_commonDivisor_1 : decode cX5_commonDivisor 1 = .ok (.istore_n 3, 1) := by decide +kernel
theorem dX5_commonDivisor_2 : decode cX5_commonDivisor 2 = .ok (.iload_n 3, 1) := by decide +kernel
theorem dX5_commonDivisor_3 : decode cX5_commonDivisor 3 = .ok (.iconst 1, 1) := by decide +kernel
theorem dX5_commonDivisor_4 : decode cX5_commonDivisor 4 = .ok (.if_icmp .le 26, 3) := by decide +kernel
theorem dX5_commonDivisor_7 : decode cX5_commonDivisor 7 = .ok (.iload_n 2, 1) := by decide +kernel
theorem dX5_commonDivisor_8 : decode cX5_commonDivisor 8 = .ok (.iload_n 3, 1) := by decide +kernel
theorem dX5_commonDivisor_9 : decode cX5_commonDivisor 9 = .ok (.irem, 1) := by decide +kernel
theorem dX5_commonDivisor_10 : decode cX5_commonDivisor 10 = .ok (.ifCond .ne 14, 3) := by decide +kernel
theorem dX5_commonDivisor_13 : decode cX5_commonDivisor 13 = .ok (.lload_n 0, 1) := by decide +kernel
theorem dX5_commonDivisor_14 : decode cX5_commonDivisor 14 = .ok (.iload_n 3, 1) := by decide +kernel
theorem dX5_commonDivisor_15 : decode cX5_commonDivisor 15 = .ok (.i2l, 1) := by decide +kernel
theorem dX5_commonDivisor_16 : decode cX5_commonDivisor 16 = .ok (.lrem, 1) := by decide +kernel
theorem dX5_commonDivisor_17 : decode cX5_commonDivisor 17 = .ok (.lconst 0, 1) := by decide +kernel
theorem dX5_commonDivisor_18 : decode cX5_commonDivisor 18 = .ok (.lcmp, 1) := by decide +kernel
theorem dX5_commonDivisor_19 : decode cX5_commonDivisor 19 = .ok (.ifCond .ne 5, 3) := by decide +kernel
theorem dX5_commonDivisor_22 : decode cX5_commonDivisor 22 = .ok (.iload_n 3, 1) := by decide +kernel
theorem dX5_commonDivisor_23 : decode cX5_commonDivisor 23 = .ok (.ireturn, 1) := by decide +kernel
theorem dX5_commonDivisor_24 : decode cX5_commonDivisor 24 = .ok (.iinc 3 (-1), 3) := by decide +kernel
theorem dX5_commonDivisor_27 : decode cX5_commonDivisor 27 = .ok (.goto (-25), 3) := by decide +kernel
theorem dX5_commonDivisor_30 : decode cX5_commonDivisor 30 = .ok (.iconst 1, 1) := by decide +kernel
theorem dX5_commonDivisor_31 : decode cX5_commonDivisor 31 = .ok (.ireturn, 1) := by decide +kernel
theorem dX5_eighth_0 : decode cX5_eighth 0 = .ok (.lload_n 0, 1) := by decide +kernel
theorem dX5_eighth_1 : decode cX5_eighth 1 = .ok (.lload_n 2, 1) := by decide +kernel
theorem dX5_eighth_2 : decode cX5_eighth 2 = .ok (.lcmp, 1) := by decide +kernel
theorem dX5_eighth_3 : decode cX5_eighth 3 = .ok (.ifCond .le 11, 3) := by decide +kernel
theorem dX5_eighth_6 : decode cX5_eighth 6 = .ok (.lload_n 2, 1) := by decide +kernel
theorem dX5_eighth_7 : decode cX5_eighth 7 = .ok (.lconst 0, 1) := by decide +kernel
theorem dX5_eighth_8 : decode cX5_eighth 8 = .ok (.lcmp, 1) := by decide +kernel
theorem dX5_eighth_9 : decode cX5_eighth 9 = .ok (.ifCond .lt 5, 3) := by decide +kernel
theorem dX5_eighth_12 : decode cX5_eighth 12 = .ok (.iconst 0, 1) := by decide +kernel
theorem dX5_eighth_13 : decode cX5_eighth 13 = .ok (.ireturn, 1) := by decide +kernel
theorem dX5_eighth_14 : decode cX5_eighth 14 = .ok (.lload_n 2, 1) := by decide +kernel
theorem dX5_eighth_15 : decode cX5_eighth 15 = .ok (.lload_n 0, 1) := by decide +kernel
theorem dX5_eighth_16 : decode cX5_eighth 16 = .ok (.lcmp, 1) := by decide +kernel
theorem dX5_eighth_17 : decode cX5_eighth 17 = .ok (.ifCond .lt 11, 3) := by decide +kernel
theorem dX5_eighth_20 : decode cX5_eighth 20 = .ok (.lload_n 0, 1) := by decide +kernel
theorem dX5_eighth_21 : decode cX5_eighth 21 = .ok (.lconst 0, 1) := by decide +kernel
theorem dX5_eighth_22 : decode cX5_eighth 22 = .ok (.lcmp, 1) := by decide +kernel
theorem dX5_eighth_23 : decode cX5_eighth 23 = .ok (.ifCond .le 5, 3) := by decide +kernel
theorem dX5_eighth_26 : decode cX5_eighth 26 = .ok (.iconst 1, 1) := by decide +kernel
theorem dX5_eighth_27 : decode cX5_eighth 27 = .ok (.ireturn, 1) := by decide +kernel
theorem dX5_eighth_28 : decode cX5_eighth 28 = .ok (.lload_n 2, 1) := by decide +kernel
theorem dX5_eighth_29 : decode cX5_eighth 29 = .ok (.lload_n 0, 1) := by decide +kernel
theorem dX5_eighth_30 : decode cX5_eighth 30 = .ok (.lneg, 1) := by decide +kernel
theorem dX5_eighth_31 : decode cX5_eighth 31 = .ok (.lcmp, 1) := by decide +kernel
theorem dX5_eighth_32 : decode cX5_eighth 32 = .ok (.ifCond .le 11, 3) := by decide +kernel
theorem dX5_eighth_35 : decode cX5_eighth 35 = .ok (.lload_n 0, 1) := by decide +kernel
theorem dX5_eighth_36 : decode cX5_eighth 36 = .ok (.lconst 0, 1) := by decide +kernel
theorem dX5_eighth_37 : decode cX5_eighth 37 = .ok (.lcmp, 1) := by decide +kernel
theorem dX5_eighth_38 : decode cX5_eighth 38 = .ok (.ifCond .gt 5, 3) := by decide +kernel
theorem dX5_eighth_41 : decode cX5_eighth 41 = .ok (.iconst 2, 1) := by decide +kernel
theorem dX5_eighth_42 : decode cX5_eighth 42 = .ok (.ireturn, 1) := by decide +kernel
theorem dX5_eighth_43 : decode cX5_eighth 43 = .ok (.lload_n 0, 1) := by decide +kernel
theorem dX5_eighth_44 : decode cX5_eighth 44 = .ok (.lneg, 1) := by decide +kernel
theorem dX5_eighth_45 : decode cX5_eighth 45 = .ok (.lload_n 2, 1) := by decide +kernel
theorem dX5_eighth_46 : decode cX5_eighth 46 = .ok (.lcmp, 1) := by decide +kernel
theorem dX5_eighth_47 : decode cX5_eighth 47 = .ok (.ifCond .lt 11, 3) := by decide +kernel
theorem dX5_eighth_50 : decode cX5_eighth 50 = .ok (.lload_n 2, 1) := by decide +kernel
theorem dX5_eighth_51 : decode cX5_eighth 51 = .ok (.lconst 0, 1) := by decide +kernel
theorem dX5_eighth_52 : decode cX5_eighth 52 = .ok (.lcmp, 1) := by decide +kernel
theorem dX5_eighth_53 : decode cX5_eighth 53 = .ok (.ifCond .le 5, 3) := by decide +kernel
theorem dX5_eighth_56 : decode cX5_eighth 56 = .ok (.iconst 3, 1) := by decide +kernel
theorem dX5_eighth_57 : decode cX5_eighth 57 = .ok (.ireturn, 1) := by decide +kernel
theorem dX5_eighth_58 : decode cX5_eighth 58 = .ok (.lload_n 0, 1) := by decide +kernel
theorem dX5_eighth_59 : decode cX5_eighth 59 = .ok (.lneg, 1) := by decide +kernel
theorem dX5_eighth_60 : decode cX5_eighth 60 = .ok (.lload_n 2, 1) := by decide +kernel
theorem dX5_eighth_61 : decode cX5_eighth 61 = .ok (.lneg, 1) := by decide +kernel
theorem dX5_eighth_62 : decode cX5_eighth 62 = .ok (.lcmp, 1) := by decide +kernel
theorem dX5_eighth_63 : decode cX5_eighth 63 = .ok (.ifCond .le 11, 3) := by decide +kernel
theorem dX5_eighth_66 : decode cX5_eighth 66 = .ok (.lload_n 2, 1) := by decide +kernel
theorem dX5_eighth_67 : decode cX5_eighth 67 = .ok (.lconst 0, 1) := by decide +kernel
theorem dX5_eighth_68 : decode cX5_eighth 68 = .ok (.lcmp, 1) := by decide +kernel
theorem dX5_eighth_69 : decode cX5_eighth 69 = .ok (.ifCond .gt 5, 3) := by decide +kernel
theorem dX5_eighth_72 : decode cX5_eighth 72 = .ok (.iconst 4, 1) := by decide +kernel
theorem dX5_eighth_73 : decode cX5_eighth 73 = .ok (.ireturn, 1) := by decide +kernel
theorem dX5_eighth_74 : decode cX5_eighth 74 = .ok (.lload_n 0, 1) := by decide +kernel
theorem dX5_eighth_75 : decode cX5_eighth 75 = .ok (.lload_n 2, 1) := by decide +kernel
theorem dX5_eighth_76 : decode cX5_eighth 76 = .ok (.lcmp, 1) := by decide +kernel
theorem dX5_eighth_77 : decode cX5_eighth 77 = .ok (.ifCond .lt 11, 3) := by decide +kernel
theorem dX5_eighth_80 : decode cX5_eighth 80 = .ok (.lload_n 0, 1) := by decide +kernel
theorem dX5_eighth_81 : decode cX5_eighth 81 = .ok (.lconst 0, 1) := by decide +kernel
theorem dX5_eighth_82 : decode cX5_eighth 82 = .ok (.lcmp, 1) := by decide +kernel
theorem dX5_eighth_83 : decode cX5_eighth 83 = .ok (.ifCond .ge 5, 3) := by decide +kernel
theorem dX5_eighth_86 : decode cX5_eighth 86 = .ok (.iconst 5, 1) := by decide +kernel
theorem dX5_eighth_87 : decode cX5_eighth 87 = .ok (.ireturn, 1) := by decide +kernel
theorem dX5_eighth_88 : decode cX5_eighth 88 = .ok (.lload_n 2, 1) := by decide +kernel
theorem dX5_eighth_89 : decode cX5_eighth 89 = .ok (.lneg, 1) := by decide +kernel
theorem dX5_eighth_90 : decode cX5_eighth 90 = .ok (.lload_n 0, 1) := by decide +kernel
theorem dX5_eighth_91 : decode cX5_eighth 91 = .ok (.lcmp, 1) := by decide +kernel
theorem dX5_eighth_92 : decode cX5_eighth 92 = .ok (.ifCond .le 12, 3) := by decide +kernel
theorem dX5_eighth_95 : decode cX5_eighth 95 = .ok (.lload_n 0, 1) := by decide +kernel
theorem dX5_eighth_96 : decode cX5_eighth 96 = .ok (.lconst 0, 1) := by decide +kernel
theorem dX5_eighth_97 : decode cX5_eighth 97 = .ok (.lcmp, 1) := by decide +kernel
theorem dX5_eighth_98 : decode cX5_eighth 98 = .ok (.ifCond .lt 6, 3) := by decide +kernel
theorem dX5_eighth_101 : decode cX5_eighth 101 = .ok (.bipush 6, 2) := by decide +kernel
theorem dX5_eighth_103 : decode cX5_eighth 103 = .ok (.ireturn, 1) := by decide +kernel
theorem dX5_eighth_104 : decode cX5_eighth 104 = .ok (.lload_n 2, 1) := by decide +kernel
theorem dX5_eighth_105 : decode cX5_eighth 105 = .ok (.lconst 0, 1) := by decide +kernel
theorem dX5_eighth_106 : decode cX5_eighth 106 = .ok (.lcmp, 1) := by decide +kernel
theorem dX5_eighth_107 : decode cX5_eighth 107 = .ok (.ifCond .ge 8, 3) := by decide +kernel
theorem dX5_eighth_110 : decode cX5_eighth 110 = .ok (.bipush 7, 2) := by decide +kernel
theorem dX5_eighth_112 : decode cX5_eighth 112 = .ok (.goto 4, 3) := by decide +kernel
theorem dX5_eighth_115 : decode cX5_eighth 115 = .ok (.iconst (-1), 1) := by decide +kernel
theorem dX5_eighth_116 : decode cX5_eighth 116 = .ok (.ireturn, 1) := by decide +kernel
theorem dX6_init_0 : decode cX6_init 0 = .ok (.aload_n 0, 1) := by decide +kernel
theorem dX6_init_1 : decode cX6_init 1 = .ok (.invokespecial 1, 3) := by decide +kernel
theorem dX6_init_4 : decode cX6_init 4 = .ok (.aload_n 0, 1) := by decide +kernel
theorem dX6_init_5 : decode cX6_init 5 = .ok (.bipush 9, 2) := by decide +kernel
theorem dX6_init_7 : decode cX6_init 7 = .ok (.newarray .boolean, 2) := by decide +kernel
theorem dX6_init_9 : decode cX6_init 9 = .ok (.putfield 7, 3) := by decide +kernel
theorem dX6_init_12 : decode cX6_init 12 = .ok (.aload_n 0, 1) := by decide +kernel
theorem dX6_init_13 : decode cX6_init 13 = .ok (.bipush 9, 2) := by decide +kernel
theorem dX6_init_15 : decode cX6_init 15 = .ok (.newarray .int, 2) := by decide +kernel
theorem dX6_init_17 : decode cX6_init 17 = .ok (.putfield 13, 3) := by decide +kernel
theorem dX6_init_20 : decode cX6_init 20 = .ok (.aload_n 0, 1) := by decide +kernel
theorem dX6_init_21 : decode cX6_init 21 = .ok (.bipush 9, 2) := by decide +kernel
theorem dX6_init_23 : decode cX6_init 23 = .ok (.newarray .int, 2) := by decide +kernel
theorem dX6_init_25 : decode cX6_init 25 = .ok (.putfield 17, 3) := by decide +kernel
theorem dX6_init_28 : decode cX6_init 28 = .ok (.aload_n 0, 1) := by decide +kernel
theorem dX6_init_29 : decode cX6_init 29 = .ok (.sipush 576, 3) := by decide +kernel
theorem dX6_init_32 : decode cX6_init 32 = .ok (.newarray .int, 2) := by decide +kernel
theorem dX6_init_34 : decode cX6_init 34 = .ok (.putfield 20, 3) := by decide +kernel
theorem dX6_init_37 : decode cX6_init 37 = .ok (.aload_n 0, 1) := by decide +kernel
theorem dX6_init_38 : decode cX6_init 38 = .ok (.sipush 576, 3) := by decide +kernel
theorem dX6_init_41 : decode cX6_init 41 = .ok (.newarray .int, 2) := by decide +kernel
theorem dX6_init_43 : decode cX6_init 43 = .ok (.putfield 23, 3) := by decide +kernel
theorem dX6_init_46 : decode cX6_init 46 = .ok (.aload_n 0, 1) := by decide +kernel
theorem dX6_init_47 : decode cX6_init 47 = .ok (.bipush 6, 2) := by decide +kernel
theorem dX6_init_49 : decode cX6_init 49 = .ok (.newarray .int, 2) := by decide +kernel
theorem dX6_init_51 : decode cX6_init 51 = .ok (.putfield 26, 3) := by decide +kernel
theorem dX6_init_54 : decode cX6_init 54 = .ok (.aload_n 0, 1) := by decide +kernel
theorem dX6_init_55 : decode cX6_init 55 = .ok (.sipush 384, 3) := by decide +kernel
theorem dX6_init_58 : decode cX6_init 58 = .ok (.newarray .long, 2) := by decide +kernel
theorem dX6_init_60 : decode cX6_init 60 = .ok (.putfield 29, 3) := by decide +kernel
theorem dX6_init_63 : decode cX6_init 63 = .ok (.aload_n 0, 1) := by decide +kernel
theorem dX6_init_64 : decode cX6_init 64 = .ok (.bipush 64, 2) := by decide +kernel
theorem dX6_init_66 : decode cX6_init 66 = .ok (.newarray .long, 2) := by decide +kernel
theorem dX6_init_68 : decode cX6_init 68 = .ok (.putfield 33, 3) := by decide +kernel
theorem dX6_init_71 : decode cX6_init 71 = .ok (.aload_n 0, 1) := by decide +kernel
theorem dX6_init_72 : decode cX6_init 72 = .ok (.bipush 10, 2) := by decide +kernel
theorem dX6_init_74 : decode cX6_init 74 = .ok (.newarray .boolean, 2) := by decide +kernel
theorem dX6_init_76 : decode cX6_init 76 = .ok (.putfield 36, 3) := by decide +kernel
theorem dX6_init_79 : decode cX6_init 79 = .ok (.aload_n 0, 1) := by decide +kernel
theorem dX6_init_80 : decode cX6_init 80 = .ok (.bipush 100, 2) := by decide +kernel
theorem dX6_init_82 : decode cX6_init 82 = .ok (.putfield 39, 3) := by decide +kernel
theorem dX6_init_85 : decode cX6_init 85 = .ok (.aload_n 0, 1) := by decide +kernel
theorem dX6_init_86 : decode cX6_init 86 = .ok (.bipush 50, 2) := by decide +kernel
theorem dX6_init_88 : decode cX6_init 88 = .ok (.putfield 43, 3) := by decide +kernel
theorem dX6_init_91 : decode cX6_init 91 = .ok (.aload_n 0, 1) := by decide +kernel
theorem dX6_init_92 : decode cX6_init 92 = .ok (.iconst 1, 1) := by decide +kernel
theorem dX6_init_93 : decode cX6_init 93 = .ok (.putfield 46, 3) := by decide +kernel
theorem dX6_init_96 : decode cX6_init 96 = .ok (.aload_n 0, 1) := by decide +kernel
theorem dX6_init_97 : decode cX6_init 97 = .ok (.bipush 64, 2) := by decide +kernel
theorem dX6_init_99 : decode cX6_init 99 = .ok (.newarray .int, 2) := by decide +kernel
theorem dX6_init_101 : decode cX6_init 101 = .ok (.putfield 49, 3) := by decide +kernel
theorem dX6_init_104 : decode cX6_init 104 = .ok (.aload_n 0, 1) := by decide +kernel
theorem dX6_init_105 : decode cX6_init 105 = .ok (.bipush 64, 2) := by decide +kernel
theorem dX6_init_107 : decode cX6_init 107 = .ok (.newarray .int, 2) := by decide +kernel
theorem dX6_init_109 : decode cX6_init 109 = .ok (.putfield 52, 3) := by decide +kernel
theorem dX6_init_112 : decode cX6_init 112 = .ok (.aload_n 0, 1) := by decide +kernel
theorem dX6_init_113 : decode cX6_init 113 = .ok (.bipush 64, 2) := by decide +kernel
theorem dX6_init_115 : decode cX6_init 115 = .ok (.newarray .int, 2) := by decide +kernel
theorem dX6_init_117 : decode cX6_init 117 = .ok (.putfield 55, 3) := by decide +kernel
theorem dX6_init_120 : decode cX6_init 120 = .ok (.return_, 1) := by decide +kernel
theorem dX6_in_0 : decode cX6_in 0 = .ok (.lload_n 0, 1) := by decide +kernel
theorem dX6_in_1 : decode cX6_in 1 = .ok (.lload_n 2, 1) := by decide +kernel
theorem dX6_in_2 : decode cX6_in 2 = .ok (.lcmp, 1) := by decide +kernel
theorem dX6_in_3 : decode cX6_in 3 = .ok (.ifCond .lt 14, 3) := by decide +kernel
theorem dX6_in_6 : decode cX6_in 6 = .ok (.lload_n 0, 1) := by decide +kernel
theorem dX6_in_7 : decode cX6_in 7 = .ok (.lload 4, 2) := by decide +kernel
theorem dX6_in_9 : decode cX6_in 9 = .ok (.lcmp, 1) := by decide +kernel
theorem dX6_in_10 : decode cX6_in 10 = .ok (.ifCond .gt 7, 3) := by decide +kernel
theorem dX6_in_13 : decode cX6_in 13 = .ok (.iconst 1, 1) := by decide +kernel
theorem dX6_in_14 : decode cX6_in 14 = .ok (.goto 4, 3) := by decide +kernel
theorem dX6_in_17 : decode cX6_in 17 = .ok (.iconst 0, 1) := by decide +kernel
theorem dX6_in_18 : decode cX6_in 18 = .ok (.ireturn, 1) := by decide +kernel
theorem dX6_noSheet_0 : decode cX6_noSheet 0 = .ok (.iload_n 1, 1) := by decide +kernel
theorem dX6_noSheet_1 : decode cX6_noSheet 1 = .ok (.i2l, 1) := by decide +kernel
theorem dX6_noSheet_2 : decode cX6_noSheet 2 = .ok (.lconst 0, 1) := by decide +kernel
theorem dX6_noSheet_3 : decode cX6_noSheet 3 = .ok (.ldc2_w 58, 3) := by decide +kernel
theorem dX6_noSheet_6 : decode cX6_noSheet 6 = .ok (.invokestatic 60, 3) := by decide +kernel
theorem dX6_noSheet_9 : decode cX6_noSheet 9 = .ok (.ifCond .ne 8, 3) := by decide +kernel
theorem dX6_noSheet_12 : decode cX6_noSheet 12 = .ok (.bipush (-2), 2) := by decide +kernel
theorem dX6_noSheet_14 : decode cX6_noSheet 14 = .ok (.goto 18, 3) := by decide +kernel
theorem dX6_noSheet_17 : decode cX6_noSheet 17 = .ok (.aload_n 0, 1) := by decide +kernel
theorem dX6_noSheet_18 : decode cX6_noSheet 18 = .ok (.getfield 7, 3) := by decide +kernel
theorem dX6_noSheet_21 : decode cX6_noSheet 21 = .ok (.iload_n 1, 1) := by decide +kernel
theorem dX6_noSheet_22 : decode cX6_noSheet 22 = .ok (.baload, 1) := by decide +kernel
theorem dX6_noSheet_23 : decode cX6_noSheet 23 = .ok (.ifCond .eq 7, 3) := by decide +kernel
theorem dX6_noSheet_26 : decode cX6_noSheet 26 = .ok (.iconst 0, 1) := by decide +kernel
theorem dX6_noSheet_27 : decode cX6_noSheet 27 = .ok (.goto 5, 3) := by decide +kernel
theorem dX6_noSheet_30 : decode cX6_noSheet 30 = .ok (.bipush (-10), 2) := by decide +kernel
theorem dX6_noSheet_32 : decode cX6_noSheet 32 = .ok (.ireturn, 1) := by decide +kernel
theorem dX6_sheet_0 : decode cX6_sheet 0 = .ok (.iload_n 1, 1) := by decide +kernel
theorem dX6_sheet_1 : decode cX6_sheet 1 = .ok (.i2l, 1) := by decide +kernel
theorem dX6_sheet_2 : decode cX6_sheet 2 = .ok (.lconst 0, 1) := by decide +kernel
theorem dX6_sheet_3 : decode cX6_sheet 3 = .ok (.ldc2_w 58, 3) := by decide +kernel
theorem dX6_sheet_6 : decode cX6_sheet 6 = .ok (.invokestatic 60, 3) := by decide +kernel
theorem dX6_sheet_9 : decode cX6_sheet 9 = .ok (.ifCond .eq 21, 3) := by decide +kernel
theorem dX6_sheet_12 : decode cX6_sheet 12 = .ok (.iload_n 2, 1) := by decide +kernel
theorem dX6_sheet_13 : decode cX6_sheet 13 = .ok (.i2l, 1) := by decide +kernel
theorem dX6_sheet_14 : decode cX6_sheet 14 = .ok (.lconst 0, 1) := by decide +kernel
theorem dX6_sheet_15 : decode cX6_sheet 15 = .ok (.ldc2_w 64, 3) := by decide +kernel
theorem dX6_sheet_18 : decode cX6_sheet 18 = .ok (.invokestatic 60, 3) := by decide +kernel
theorem dX6_sheet_21 : decode cX6_sheet 21 = .ok (.ifCond .eq 9, 3) := by decide +kernel
theorem dX6_sheet_24 : decode cX6_sheet 24 = .ok (.iload_n 3, 1) := by decide +kernel
theorem dX6_sheet_25 : decode cX6_sheet 25 = .ok (.bipush 64, 2) := by decide +kernel
theorem dX6_sheet_27 : decode cX6_sheet 27 = .ok (.if_icmp .le 6, 3) := by decide +kernel
theorem dX6_sheet_30 : decode cX6_sheet 30 = .ok (.bipush (-2), 2) := by decide +kernel
theorem dX6_sheet_32 : decode cX6_sheet 32 = .ok (.ireturn, 1) := by decide +kernel
theorem dX6_sheet_33 : decode cX6_sheet 33 = .ok (.iload_n 3, 1) := by decide +kernel
theorem dX6_sheet_34 : decode cX6_sheet 34 = .ok (.ifCond .ge 6, 3) := by decide +kernel
theorem dX6_sheet_37 : decode cX6_sheet 37 = .ok (.bipush (-12), 2) := by decide +kernel
theorem dX6_sheet_39 : decode cX6_sheet 39 = .ok (.ireturn, 1) := by decide +kernel
theorem dX6_sheet_40 : decode cX6_sheet 40 = .ok (.aload_n 0, 1) := by decide +kernel
theorem dX6_sheet_41 : decode cX6_sheet 41 = .ok (.getfield 7, 3) := by decide +kernel
theorem dX6_sheet_44 : decode cX6_sheet 44 = .ok (.iload_n 1, 1) := by decide +kernel
theorem dX6_sheet_45 : decode cX6_sheet 45 = .ok (.iconst 1, 1) := by decide +kernel
theorem dX6_sheet_46 : decode cX6_sheet 46 = .ok (.bastore, 1) := by decide +kernel
theorem dX6_sheet_47 : decode cX6_sheet 47 = .ok (.aload_n 0, 1) := by decide +kernel
theorem dX6_sheet_48 : decode cX6_sheet 48 = .ok (.getfield 13, 3) := by decide +kernel
theorem dX6_sheet_51 : decode cX6_sheet 51 = .ok (.iload_n 1, 1) := by decide +kernel
theorem dX6_sheet_52 : decode cX6_sheet 52 = .ok (.iload_n 2, 1) := by decide +kernel
theorem dX6_sheet_53 : decode cX6_sheet 53 = .ok (.iastore, 1) := by decide +kernel
theorem dX6_sheet_54 : decode cX6_sheet 54 = .ok (.aload_n 0, 1) := by decide +kernel
theorem dX6_sheet_55 : decode cX6_sheet 55 = .ok (.getfield 17, 3) := by decide +kernel
theorem dX6_sheet_58 : decode cX6_sheet 58 = .ok (.iload_n 1, 1) := by decide +kernel
theorem dX6_sheet_59 : decode cX6_sheet 59 = .ok (.iload_n 3, 1) := by decide +kernel
theorem dX6_sheet_60 : decode cX6_sheet 60 = .ok (.iastore, 1) := by decide +kernel
theorem dX6_sheet_61 : decode cX6_sheet 61 = .ok (.iconst 0, 1) := by decide +kernel
theorem dX6_sheet_62 : decode cX6_sheet 62 = .ok (.istore 4, 2) := by decide +kernel
theorem dX6_sheet_64 : decode cX6_sheet 64 = .ok (.iload 4, 2) := by decide +kernel
theorem dX6_sheet_66 : decode cX6_sheet 66 = .ok (.iload_n 3, 1) := by decide +kernel
theorem dX6_sheet_67 : decode cX6_sheet 67 = .ok (.if_icmp .ge 35, 3) := by decide +kernel
theorem dX6_sheet_70 : decode cX6_sheet 70 = .ok (.aload_n 0, 1) := by decide +kernel
theorem dX6_sheet_71 : decode cX6_sheet 71 = .ok (.getfield 20, 3) := by decide +kernel
theorem dX6_sheet_74 : decode cX6_sheet 74 = .ok (.bipush 64, 2) := by decide +kernel
theorem dX6_sheet_76 : decode cX6_sheet 76 = .ok (.iload_n 1, 1) := by decide +kernel
theorem dX6_sheet_77 : decode cX6_sheet 77 = .ok (.imul, 1) := by decide +kernel
theorem dX6_sheet_78 : decode cX6_sheet 78 = .ok (.iload 4, 2) := by decide +kernel
theorem dX6_sheet_80 : decode cX6_sheet 80 = .ok (.iadd, 1) := by decide +kernel
theorem dX6_sheet_81 : decode cX6_sheet 81 = .ok (.iconst 1, 1) := by decide +kernel
theorem dX6_sheet_82 : decode cX6_sheet 82 = .ok (.iastore, 1) := by decide +kernel
theorem dX6_sheet_83 : decode cX6_sheet 83 = .ok (.aload_n 0, 1) := by decide +kernel
theorem dX6_sheet_84 : decode cX6_sheet 84 = .ok (.getfield 23, 3) := by decide +kernel
theorem dX6_sheet_87 : decode cX6_sheet 87 = .ok (.bipush 64, 2) := by decide +kernel
theorem dX6_sheet_89 : decode cX6_sheet 89 = .ok (.iload_n 1, 1) := by decide +kernel
theorem dX6_sheet_90 : decode cX6_sheet 90 = .ok (.imul, 1) := by decide +kernel
theorem dX6_sheet_91 : decode cX6_sheet 91 = .ok (.iload 4, 2) := by decide +kernel
theorem dX6_sheet_93 : decode cX6_sheet 93 = .ok (.iadd, 1) := by decide +kernel
theorem dX6_sheet_94 : decode cX6_sheet 94 = .ok (.iconst 0, 1) := by decide +kernel
theorem dX6_sheet_95 : decode cX6_sheet 95 = .ok (.iastore, 1) := by decide +kernel
theorem dX6_sheet_96 : decode cX6_sheet 96 = .ok (.iinc 4 1, 3) := by decide +kernel
theorem dX6_sheet_99 : decode cX6_sheet 99 = .ok (.goto (-35), 3) := by decide +kernel
theorem dX6_sheet_102 : decode cX6_sheet 102 = .ok (.iconst 1, 1) := by decide +kernel
theorem dX6_sheet_103 : decode cX6_sheet 103 = .ok (.ireturn, 1) := by decide +kernel
theorem dX6_drop_0 : decode cX6_drop 0 = .ok (.aload_n 0, 1) := by decide +kernel
theorem dX6_drop_1 : decode cX6_drop 1 = .ok (.iload_n 1, 1) := by decide +kernel
theorem dX6_drop_2 : decode cX6_drop 2 = .ok (.invokevirtual 66, 3) := by decide +kernel
theorem dX6_drop_5 : decode cX6_drop 5 = .ok (.istore_n 2, 1) := by decide +kernel
theorem dX6_drop_6 : decode cX6_drop 6 = .ok (.iload_n 2, 1) := by decide +kernel
theorem dX6_drop_7 : decode cX6_drop 7 = .ok (.ifCond .ge 5, 3) := by decide +kernel
theorem dX6_drop_10 : decode cX6_drop 10 = .ok (.iload_n 2, 1) := by decide +kernel
theorem dX6_drop_11 : decode cX6_drop 11 = .ok (.ireturn, 1) := by decide +kernel
theorem dX6_drop_12 : decode cX6_drop 12 = .ok (.aload_n 0, 1) := by decide +kernel
theorem dX6_drop_13 : decode cX6_drop 13 = .ok (.getfield 7, 3) := by decide +kernel
theorem dX6_drop_16 : decode cX6_drop 16 = .ok (.iload_n 1, 1) := by decide +kernel
theorem dX6_drop_17 : decode cX6_drop 17 = .ok (.iconst 0, 1) := by decide +kernel
theorem dX6_drop_18 : decode cX6_drop 18 = .ok (.bastore, 1) := by decide +kernel
theorem dX6_drop_19 : decode cX6_drop 19 = .ok (.aload_n 0, 1) := by decide +kernel
theorem dX6_drop_20 : decode cX6_drop 20 = .ok (.getfield 17, 3) := by decide +kernel
theorem dX6_drop_23 : decode cX6_drop 23 = .ok (.iload_n 1, 1) := by decide +kernel
theorem dX6_drop_24 : decode cX6_drop 24 = .ok (.iaload, 1) := by decide +kernel
theorem dX6_drop_25 : decode cX6_drop 25 = .ok (.ireturn, 1) := by decide +kernel
theorem dX6_fits_0 : decode cX6_fits 0 = .ok (.iload_n 0, 1) := by decide +kernel
theorem dX6_fits_1 : decode cX6_fits 1 = .ok (.iconst 2, 1) := by decide +kernel
theorem dX6_fits_2 : decode cX6_fits 2 = .ok (.if_icmp .eq 37, 3) := by decide +kernel
theorem dX6_fits_5 : decode cX6_fits 5 = .ok (.iload_n 1, 1) := by decide +kernel
theorem dX6_fits_6 : decode cX6_fits 6 = .ok (.i2l, 1) := by decide +kernel
theorem dX6_fits_7 : decode cX6_fits 7 = .ok (.iload_n 0, 1) := by decide +kernel
theorem dX6_fits_8 : decode cX6_fits 8 = .ok (.ifCond .ne 9, 3) := by decide +kernel
theorem dX6_fits_11 : decode cX6_fits 11 = .ok (.ldc2_w 70, 3) := by decide +kernel
theorem dX6_fits_14 : decode cX6_fits 14 = .ok (.goto 6, 3) := by decide +kernel
theorem dX6_fits_17 : decode cX6_fits 17 = .ok (.ldc2_w 72, 3) := by decide +kernel
theorem dX6_fits_20 : decode cX6_fits 20 = .ok (.iload_n 0, 1) := by decide +kernel
theorem dX6_fits_21 : decode cX6_fits 21 = .ok (.ifCond .ne 9, 3) := by decide +kernel
theorem dX6_fits_24 : decode cX6_fits 24 = .ok (.ldc2_w 74, 3) := by decide +kernel
theorem dX6_fits_27 : decode cX6_fits 27 = .ok (.goto 6, 3) := by decide +kernel
theorem dX6_fits_30 : decode cX6_fits 30 = .ok (.ldc2_w 76, 3) := by decide +kernel
theorem dX6_fits_33 : decode cX6_fits 33 = .ok (.invokestatic 60, 3) := by decide +kernel
theorem dX6_fits_36 : decode cX6_fits 36 = .ok (.ifCond .eq 7, 3) := by decide +kernel
theorem dX6_fits_39 : decode cX6_fits 39 = .ok (.iconst 1, 1) := by decide +kernel
theorem dX6_fits_40 : decode cX6_fits 40 = .ok (.goto 4, 3) := by decide +kernel
theorem dX6_fits_43 : decode cX6_fits 43 = .ok (.iconst 0, 1) := by decide +kernel
theorem dX6_fits_44 : decode cX6_fits 44 = .ok (.ireturn, 1) := by decide +kernel
theorem dX6_put_0 : decode cX6_put 0 = .ok (.aload_n 0, 1) := by decide +kernel
theorem dX6_put_1 : decode cX6_put 1 = .ok (.iload_n 1, 1) := by decide +kernel
theorem dX6_put_2 : decode cX6_put 2 = .ok (.invokevirtual 66, 3) := by decide +kernel
theorem dX6_put_5 : decode cX6_put 5 = .ok (.istore 4, 2) := by decide +kernel
theorem dX6_put_7 : decode cX6_put 7 = .ok (.iload 4, 2) := by decide +kernel
theorem dX6_put_9 : decode cX6_put 9 = .ok (.ifCond .ge 6, 3) := by decide +kernel
theorem dX6_put_12 : decode cX6_put 12 = .ok (.iload 4, 2) := by decide +kernel
theorem dX6_put_14 : decode cX6_put 14 = .ok (.ireturn, 1) := by decide +kernel
theorem dX6_put_15 : decode cX6_put 15 = .ok (.iload_n 2, 1) := by decide +kernel
theorem dX6_put_16 : decode cX6_put 16 = .ok (.i2l, 1) := by decide +kernel
theorem dX6_put_17 : decode cX6_put 17 = .ok (.lconst 0, 1) := by decide +kernel
theorem dX6_put_18 : decode cX6_put 18 = .ok (.aload_n 0, 1) := by decide +kernel
theorem dX6_put_19 : decode cX6_put 19 = .ok (.getfield 17, 3) := by decide +kernel
theorem dX6_put_22 : decode cX6_put 22 = .ok (.iload_n 1, 1) := by decide +kernel
theorem dX6_put_23 : decode cX6_put 23 = .ok (.iaload, 1) := by decide +kernel
theorem dX6_put_24 : decode cX6_put 24 = .ok (.iconst 1, 1) := by decide +kernel
theorem dX6_put_25 : decode cX6_put 25 = .ok (.isub, 1) := by decide +kernel
theorem dX6_put_26 : decode cX6_put 26 = .ok (.i2l, 1) := by decide +kernel
theorem dX6_put_27 : decode cX6_put 27 = .ok (.invokestatic 60, 3) := by decide +kernel
theorem dX6_put_30 : decode cX6_put 30 = .ok (.ifCond .ne 6, 3) := by decide +kernel
theorem dX6_put_33 : decode cX6_put 33 = .ok (.bipush (-13), 2) := by decide +kernel
theorem dX6_put_35 : decode cX6_put 35 = .ok (.ireturn, 1) := by decide +kernel
theorem dX6_put_36 : decode cX6_put 36 = .ok (.aload_n 0, 1) := by decide +kernel
theorem dX6_put_37 : decode cX6_put 37 = .ok (.getfield 13, 3) := by decide +kernel
theorem dX6_put_40 : decode cX6_put 40 = .ok (.iload_n 1, 1) := by decide +kernel
theorem dX6_put_41 : decode cX6_put 41 = .ok (.iaload, 1) := by decide +kernel
theorem dX6_put_42 : decode cX6_put 42 = .ok (.iload_n 3, 1) := by decide +kernel
theorem dX6_put_43 : decode cX6_put 43 = .ok (.invokestatic 78, 3) := by decide +kernel
theorem dX6_put_46 : decode cX6_put 46 = .ok (.ifCond .ne 6, 3) := by decide +kernel
theorem dX6_put_49 : decode cX6_put 49 = .ok (.bipush (-14), 2) := by decide +kernel
theorem dX6_put_51 : decode cX6_put 51 = .ok (.ireturn, 1) := by decide +kernel
theorem dX6_put_52 : decode cX6_put 52 = .ok (.aload_n 0, 1) := by decide +kernel
theorem dX6_put_53 : decode cX6_put 53 = .ok (.getfield 20, 3) := by decide +kernel
theorem dX6_put_56 : decode cX6_put 56 = .ok (.bipush 64, 2) := by decide +kernel
theorem dX6_put_58 : decode cX6_put 58 = .ok (.iload_n 1, 1) := by decide +kernel
theorem dX6_put_59 : decode cX6_put 59 = .ok (.imul, 1) := by decide +kernel
theorem dX6_put_60 : decode cX6_put 60 = .ok (.iload_n 2, 1) := by decide +kernel
theorem dX6_put_61 : decode cX6_put 61 = .ok (.iadd, 1) := by decide +kernel
theorem dX6_put_62 : decode cX6_put 62 = .ok (.iconst 1, 1) := by decide +kernel
theorem dX6_put_63 : decode cX6_put 63 = .ok (.iastore, 1) := by decide +kernel
theorem dX6_put_64 : decode cX6_put 64 = .ok (.aload_n 0, 1) := by decide +kernel
theorem dX6_put_65 : decode cX6_put 65 = .ok (.getfield 23, 3) := by decide +kernel
theorem dX6_put_68 : decode cX6_put 68 = .ok (.bipush 64, 2) := by decide +kernel
theorem dX6_put_70 : decode cX6_put 70 = .ok (.iload_n 1, 1) := by decide +kernel
theorem dX6_put_71 : decode cX6_put 71 = .ok (.imul, 1) := by decide +kernel
theorem dX6_put_72 : decode cX6_put 72 = .ok (.iload_n 2, 1) := by decide +kernel
theorem dX6_put_73 : decode cX6_put 73 = .ok (.iadd, 1) := by decide +kernel
theorem dX6_put_74 : decode cX6_put 74 = .ok (.iload_n 3, 1) := by decide +kernel
theorem dX6_put_75 : decode cX6_put 75 = .ok (.iastore, 1) := by decide +kernel
theorem dX6_put_76 : decode cX6_put 76 = .ok (.iconst 1, 1) := by decide +kernel
theorem dX6_put_77 : decode cX6_put 77 = .ok (.ireturn, 1) := by decide +kernel
theorem dX6_get_0 : decode cX6_get 0 = .ok (.aload_n 0, 1) := by decide +kernel
theorem dX6_get_1 : decode cX6_get 1 = .ok (.iload_n 1, 1) := by decide +kernel
theorem dX6_get_2 : decode cX6_get 2 = .ok (.invokevirtual 66, 3) := by decide +kernel
theorem dX6_get_5 : decode cX6_get 5 = .ok (.istore_n 3, 1) := by decide +kernel
theorem dX6_get_6 : decode cX6_get 6 = .ok (.iload_n 3, 1) := by decide +kernel
theorem dX6_get_7 : decode cX6_get 7 = .ok (.ifCond .ge 10, 3) := by decide +kernel
theorem dX6_get_10 : decode cX6_get 10 = .ok (.ldc2_w 82, 3) := by decide +kernel
theorem dX6_get_13 : decode cX6_get 13 = .ok (.iload_n 3, 1) := by decide +kernel
theorem dX6_get_14 : decode cX6_get 14 = .ok (.i2l, 1) := by decide +kernel
theorem dX6_get_15 : decode cX6_get 15 = .ok (.ladd, 1) := by decide +kernel
theorem dX6_get_16 : decode cX6_get 16 = .ok (.lreturn, 1) := by decide +kernel
theorem dX6_get_17 : decode cX6_get 17 = .ok (.iload_n 2, 1) := by decide +kernel
theorem dX6_get_18 : decode cX6_get 18 = .ok (.i2l, 1) := by decide +kernel
theorem dX6_get_19 : decode cX6_get 19 = .ok (.lconst 0, 1) := by decide +kernel
theorem dX6_get_20 : decode cX6_get 20 = .ok (.aload_n 0, 1) := by decide +kernel
theorem dX6_get_21 : decode cX6_get 21 = .ok (.getfield 17, 3) := by decide +kernel
theorem dX6_get_24 : decode cX6_get 24 = .ok (.iload_n 1, 1) := by decide +kernel
theorem dX6_get_25 : decode cX6_get 25 = .ok (.iaload, 1) := by decide +kernel
theorem dX6_get_26 : decode cX6_get 26 = .ok (.iconst 1, 1) := by decide +kernel
theorem dX6_get_27 : decode cX6_get 27 = .ok (.isub, 1) := by decide +kernel
theorem dX6_get_28 : decode cX6_get 28 = .ok (.i2l, 1) := by decide +kernel
theorem dX6_get_29 : decode cX6_get 29 = .ok (.invokestatic 60, 3) := by decide +kernel
theorem dX6_get_32 : decode cX6_get 32 = .ok (.ifCond .ne 7, 3) := by decide +kernel
theorem dX6_get_35 : decode cX6_get 35 = .ok (.ldc2_w 84, 3) := by decide +kernel
theorem dX6_get_38 : decode cX6_get 38 = .ok (.lreturn, 1) := by decide +kernel
theorem dX6_get_39 : decode cX6_get 39 = .ok (.aload_n 0, 1) := by decide +kernel
theorem dX6_get_40 : decode cX6_get 40 = .ok (.getfield 20, 3) := by decide +kernel
theorem dX6_get_43 : decode cX6_get 43 = .ok (.bipush 64, 2) := by decide +kernel
theorem dX6_get_45 : decode cX6_get 45 = .ok (.iload_n 1, 1) := by decide +kernel
theorem dX6_get_46 : decode cX6_get 46 = .ok (.imul, 1) := by decide +kernel
theorem dX6_get_47 : decode cX6_get 47 = .ok (.iload_n 2, 1) := by decide +kernel
theorem dX6_get_48 : decode cX6_get 48 = .ok (.iadd, 1) := by decide +kernel
theorem dX6_get_49 : decode cX6_get 49 = .ok (.iaload, 1) := by decide +kernel
theorem dX6_get_50 : decode cX6_get 50 = .ok (.ifCond .ne 9, 3) := by decide +kernel
theorem dX6_get_53 : decode cX6_get 53 = .ok (.ldc2_w 86, 3) := by decide +kernel
theorem dX6_get_56 : decode cX6_get 56 = .ok (.goto 15, 3) := by decide +kernel
theorem dX6_get_59 : decode cX6_get 59 = .ok (.aload_n 0, 1) := by decide +kernel
theorem dX6_get_60 : decode cX6_get 60 = .ok (.getfield 23, 3) := by decide +kernel
theorem dX6_get_63 : decode cX6_get 63 = .ok (.bipush 64, 2) := by decide +kernel
theorem dX6_get_65 : decode cX6_get 65 = .ok (.iload_n 1, 1) := by decide +kernel
theorem dX6_get_66 : decode cX6_get 66 = .ok (.imul, 1) := by decide +kernel
theorem dX6_get_67 : decode cX6_get 67 = .ok (.iload_n 2, 1) := by decide +kernel
theorem dX6_get_68 : decode cX6_get 68 = .ok (.iadd, 1) := by decide +kernel
theorem dX6_get_69 : decode cX6_get 69 = .ok (.iaload, 1) := by decide +kernel
theorem dX6_get_70 : decode cX6_get 70 = .ok (.i2l, 1) := by decide +kernel
theorem dX6_get_71 : decode cX6_get 71 = .ok (.lreturn, 1) := by decide +kernel
theorem dX6_lose_0 : decode cX6_lose 0 = .ok (.aload_n 0, 1) := by decide +kernel
theorem dX6_lose_1 : decode cX6_lose 1 = .ok (.iload_n 1, 1) := by decide +kernel
theorem dX6_lose_2 : decode cX6_lose 2 = .ok (.invokevirtual 66, 3) := by decide +kernel
theorem dX6_lose_5 : decode cX6_lose 5 = .ok (.istore_n 3, 1) := by decide +kernel
theorem dX6_lose_6 : decode cX6_lose 6 = .ok (.iload_n 3, 1) := by decide +kernel
theorem dX6_lose_7 : decode cX6_lose 7 = .ok (.ifCond .ge 5, 3) := by decide +kernel
theorem dX6_lose_10 : decode cX6_lose 10 = .ok (.iload_n 3, 1) := by decide +kernel
theorem dX6_lose_11 : decode cX6_lose 11 = .ok (.ireturn, 1) := by decide +kernel
theorem dX6_lose_12 : decode cX6_lose 12 = .ok (.iload_n 2, 1) := by decide +kernel
theorem dX6_lose_13 : decode cX6_lose 13 = .ok (.i2l, 1) := by decide +kernel
theorem dX6_lose_14 : decode cX6_lose 14 = .ok (.lconst 0, 1) := by decide +kernel
theorem dX6_lose_15 : decode cX6_lose 15 = .ok (.aload_n 0, 1) := by decide +kernel
theorem dX6_lose_16 : decode cX6_lose 16 = .ok (.getfield 17, 3) := by decide +kernel
theorem dX6_lose_19 : decode cX6_lose 19 = .ok (.iload_n 1, 1) := by decide +kernel
theorem dX6_lose_20 : decode cX6_lose 20 = .ok (.iaload, 1) := by decide +kernel
theorem dX6_lose_21 : decode cX6_lose 21 = .ok (.iconst 1, 1) := by decide +kernel
theorem dX6_lose_22 : decode cX6_lose 22 = .ok (.isub, 1) := by decide +kernel
theorem dX6_lose_23 : decode cX6_lose 23 = .ok (.i2l, 1) := by decide +kernel
theorem dX6_lose_24 : decode cX6_lose 24 = .ok (.invokestatic 60, 3) := by decide +kernel
theorem dX6_lose_27 : decode cX6_lose 27 = .ok (.ifCond .ne 6, 3) := by decide +kernel
theorem dX6_lose_30 : decode cX6_lose 30 = .ok (.bipush (-13), 2) := by decide +kernel
theorem dX6_lose_32 : decode cX6_lose 32 = .ok (.ireturn, 1) := by decide +kernel
theorem dX6_lose_33 : decode cX6_lose 33 = .ok (.aload_n 0, 1) := by decide +kernel
theorem dX6_lose_34 : decode cX6_lose 34 = .ok (.getfield 20, 3) := by decide +kernel
theorem dX6_lose_37 : decode cX6_lose 37 = .ok (.bipush 64, 2) := by decide +kernel
theorem dX6_lose_39 : decode cX6_lose 39 = .ok (.iload_n 1, 1) := by decide +kernel
theorem dX6_lose_40 : decode cX6_lose 40 = .ok (.imul, 1) := by decide +kernel
theorem dX6_lose_41 : decode cX6_lose 41 = .ok (.iload_n 2, 1) := by decide +kernel
theorem dX6_lose_42 : decode cX6_lose 42 = .ok (.iadd, 1) := by decide +kernel
theorem dX6_lose_43 : decode cX6_lose 43 = .ok (.iaload, 1) := by decide +kernel
theorem dX6_lose_44 : decode cX6_lose 44 = .ok (.istore 4, 2) := by decide +kernel
theorem dX6_lose_46 : decode cX6_lose 46 = .ok (.aload_n 0, 1) := by decide +kernel
theorem dX6_lose_47 : decode cX6_lose 47 = .ok (.getfield 20, 3) := by decide +kernel
theorem dX6_lose_50 : decode cX6_lose 50 = .ok (.bipush 64, 2) := by decide +kernel
theorem dX6_lose_52 : decode cX6_lose 52 = .ok (.iload_n 1, 1) := by decide +kernel
theorem dX6_lose_53 : decode cX6_lose 53 = .ok (.imul, 1) := by decide +kernel
theorem dX6_lose_54 : decode cX6_lose 54 = .ok (.iload_n 2, 1) := by decide +kernel
theorem dX6_lose_55 : decode cX6_lose 55 = .ok (.iadd, 1) := by decide +kernel
theorem dX6_lose_56 : decode cX6_lose 56 = .ok (.iconst 0, 1) := by decide +kernel
theorem dX6_lose_57 : decode cX6_lose 57 = .ok (.iastore, 1) := by decide +kernel
theorem dX6_lose_58 : decode cX6_lose 58 = .ok (.aload_n 0, 1) := by decide +kernel
theorem dX6_lose_59 : decode cX6_lose 59 = .ok (.getfield 23, 3) := by decide +kernel
theorem dX6_lose_62 : decode cX6_lose 62 = .ok (.bipush 64, 2) := by decide +kernel
theorem dX6_lose_64 : decode cX6_lose 64 = .ok (.iload_n 1, 1) := by decide +kernel
theorem dX6_lose_65 : decode cX6_lose 65 = .ok (.imul, 1) := by decide +kernel
theorem dX6_lose_66 : decode cX6_lose 66 = .ok (.iload_n 2, 1) := by decide +kernel
theorem dX6_lose_67 : decode cX6_lose 67 = .ok (.iadd, 1) := by decide +kernel
theorem dX6_lose_68 : decode cX6_lose 68 = .ok (.iconst 0, 1) := by decide +kernel
theorem dX6_lose_69 : decode cX6_lose 69 = .ok (.iastore, 1) := by decide +kernel
theorem dX6_lose_70 : decode cX6_lose 70 = .ok (.iload 4, 2) := by decide +kernel
theorem dX6_lose_72 : decode cX6_lose 72 = .ok (.ifCond .ne 7, 3) := by decide +kernel
theorem dX6_lose_75 : decode cX6_lose 75 = .ok (.iconst 0, 1) := by decide +kernel
theorem dX6_lose_76 : decode cX6_lose 76 = .ok (.goto 4, 3) := by decide +kernel
theorem dX6_lose_79 : decode cX6_lose 79 = .ok (.iconst 1, 1) := by decide +kernel
theorem dX6_lose_80 : decode cX6_lose 80 = .ok (.ireturn, 1) := by decide +kernel
theorem dX6_stands_0 : decode cX6_stands 0 = .ok (.aload_n 0, 1) := by decide +kernel
theorem dX6_stands_1 : decode cX6_stands 1 = .ok (.iload_n 1, 1) := by decide +kernel
theorem dX6_stands_2 : decode cX6_stands 2 = .ok (.invokevirtual 66, 3) := by decide +kernel
theorem dX6_stands_5 : decode cX6_stands 5 = .ok (.istore_n 3, 1) := by decide +kernel
theorem dX6_stands_6 : decode cX6_stands 6 = .ok (.iload_n 3, 1) := by decide +kernel
theorem dX6_stands_7 : decode cX6_stands 7 = .ok (.ifCond .ge 5, 3) := by decide +kernel
theorem dX6_stands_10 : decode cX6_stands 10 = .ok (.iload_n 3, 1) := by decide +kernel
theorem dX6_stands_11 : decode cX6_stands 11 = .ok (.ireturn, 1) := by decide +kernel
theorem dX6_stands_12 : decode cX6_stands 12 = .ok (.iload_n 2, 1) := by decide +kernel
theorem dX6_stands_13 : decode cX6_stands 13 = .ok (.i2l, 1) := by decide +kernel
theorem dX6_stands_14 : decode cX6_stands 14 = .ok (.lconst 0, 1) := by decide +kernel
theorem dX6_stands_15 : decode cX6_stands 15 = .ok (.aload_n 0, 1) := by decide +kernel
theorem dX6_stands_16 : decode cX6_stands 16 = .ok (.getfield 17, 3) := by decide +kernel
theorem dX6_stands_19 : decode cX6_stands 19 = .ok (.iload_n 1, 1) := by decide +kernel
theorem dX6_stands_20 : decode cX6_stands 20 = .ok (.iaload, 1) := by decide +kernel
theorem dX6_stands_21 : decode cX6_stands 21 = .ok (.iconst 1, 1) := by decide +kernel
theorem dX6_stands_22 : decode cX6_stands 22 = .ok (.isub, 1) := by decide +kernel
theorem dX6_stands_23 : decode cX6_stands 23 = .ok (.i2l, 1) := by decide +kernel
theorem dX6_stands_24 : decode cX6_stands 24 = .ok (.invokestatic 60, 3) := by decide +kernel
theorem dX6_stands_27 : decode cX6_stands 27 = .ok (.ifCond .eq 17, 3) := by decide +kernel
theorem dX6_stands_30 : decode cX6_stands 30 = .ok (.aload_n 0, 1) := by decide +kernel
theorem dX6_stands_31 : decode cX6_stands 31 = .ok (.getfield 20, 3) := by decide +kernel
theorem dX6_stands_34 : decode cX6_stands 34 = .ok (.bipush 64, 2) := by decide +kernel
theorem dX6_stands_36 : decode cX6_stands 36 = .ok (.iload_n 1, 1) := by decide +kernel
theorem dX6_stands_37 : decode cX6_stands 37 = .ok (.imul, 1) := by decide +kernel
theorem dX6_stands_38 : decode cX6_stands 38 = .ok (.iload_n 2, 1) := by decide +kernel
theorem dX6_stands_39 : decode cX6_stands 39 = .ok (.iadd, 1) := by decide +kernel
theorem dX6_stands_40 : decode cX6_stands 40 = .ok (.iaload, 1) := by decide +kernel
theorem dX6_stands_41 : decode cX6_stands 41 = .ok (.goto 5, 3) := by decide +kernel
theorem dX6_stands_44 : decode cX6_stands 44 = .ok (.bipush (-13), 2) := by decide +kernel
theorem dX6_stands_46 : decode cX6_stands 46 = .ok (.ireturn, 1) := by decide +kernel
theorem dX6_copy_0 : decode cX6_copy 0 = .ok (.iload_n 1, 1) := by decide +kernel
theorem dX6_copy_1 : decode cX6_copy 1 = .ok (.i2l, 1) := by decide +kernel
theorem dX6_copy_2 : decode cX6_copy 2 = .ok (.lconst 0, 1) := by decide +kernel
theorem dX6_copy_3 : decode cX6_copy 3 = .ok (.ldc2_w 58, 3) := by decide +kernel
theorem dX6_copy_6 : decode cX6_copy 6 = .ok (.invokestatic 60, 3) := by decide +kernel
theorem dX6_copy_9 : decode cX6_copy 9 = .ok (.ifCond .eq 15, 3) := by decide +kernel
theorem dX6_copy_12 : decode cX6_copy 12 = .ok (.iload_n 3, 1) := by decide +kernel
theorem dX6_copy_13 : decode cX6_copy 13 = .ok (.i2l, 1) := by decide +kernel
theorem dX6_copy_14 : decode cX6_copy 14 = .ok (.lconst 0, 1) := by decide +kernel
theorem dX6_copy_15 : decode cX6_copy 15 = .ok (.ldc2_w 58, 3) := by decide +kernel
theorem dX6_copy_18 : decode cX6_copy 18 = .ok (.invokestatic 60, 3) := by decide +kernel
theorem dX6_copy_21 : decode cX6_copy 21 = .ok (.ifCond .ne 6, 3) := by decide +kernel
theorem dX6_copy_24 : decode cX6_copy 24 = .ok (.bipush (-2), 2) := by decide +kernel
theorem dX6_copy_26 : decode cX6_copy 26 = .ok (.ireturn, 1) := by decide +kernel
theorem dX6_copy_27 : decode cX6_copy 27 = .ok (.aload_n 0, 1) := by decide +kernel
theorem dX6_copy_28 : decode cX6_copy 28 = .ok (.getfield 7, 3) := by decide +kernel
theorem dX6_copy_31 : decode cX6_copy 31 = .ok (.iload_n 1, 1) := by decide +kernel
theorem dX6_copy_32 : decode cX6_copy 32 = .ok (.baload, 1) := by decide +kernel
theorem dX6_copy_33 : decode cX6_copy 33 = .ok (.ifCond .eq 12, 3) := by decide +kernel
theorem dX6_copy_36 : decode cX6_copy 36 = .ok (.aload_n 0, 1) := by decide +kernel
theorem dX6_copy_37 : decode cX6_copy 37 = .ok (.getfield 7, 3) := by decide +kernel
theorem dX6_copy_40 : decode cX6_copy 40 = .ok (.iload_n 3, 1) := by decide +kernel
theorem dX6_copy_41 : decode cX6_copy 41 = .ok (.baload, 1) := by decide +kernel
theorem dX6_copy_42 : decode cX6_copy 42 = .ok (.ifCond .ne 6, 3) := by decide +kernel
theorem dX6_copy_45 : decode cX6_copy 45 = .ok (.bipush (-10), 2) := by decide +kernel
theorem dX6_copy_47 : decode cX6_copy 47 = .ok (.ireturn, 1) := by decide +kernel
theorem dX6_copy_48 : decode cX6_copy 48 = .ok (.aload_n 0, 1) := by decide +kernel
theorem dX6_copy_49 : decode cX6_copy 49 = .ok (.getfield 13, 3) := by decide +kernel
theorem dX6_copy_52 : decode cX6_copy 52 = .ok (.iload_n 1, 1) := by decide +kernel
theorem dX6_copy_53 : decode cX6_copy 53 = .ok (.iaload, 1) := by decide +kernel
theorem dX6_copy_54 : decode cX6_copy 54 = .ok (.aload_n 0, 1) := by decide +kernel
theorem dX6_copy_55 : decode cX6_copy 55 = .ok (.getfield 13, 3) := by decide +kernel
theorem dX6_copy_58 : decode cX6_copy 58 = .ok (.iload_n 3, 1) := by decide +kernel
theorem dX6_copy_59 : decode cX6_copy 59 = .ok (.iaload, 1) := by decide +kernel
theorem dX6_copy_60 : decode cX6_copy 60 = .ok (.if_icmp .eq 6, 3) := by decide +kernel
theorem dX6_copy_63 : decode cX6_copy 63 = .ok (.bipush (-11), 2) := by decide +kernel
theorem dX6_copy_65 : decode cX6_copy 65 = .ok (.ireturn, 1) := by decide +kernel
theorem dX6_copy_66 : decode cX6_copy 66 = .ok (.iload 5, 2) := by decide +kernel
theorem dX6_copy_68 : decode cX6_copy 68 = .ok (.ifCond .ge 6, 3) := by decide +kernel
theorem dX6_copy_71 : decode cX6_copy 71 = .ok (.bipush (-12), 2) := by decide +kernel
theorem dX6_copy_73 : decode cX6_copy 73 = .ok (.ireturn, 1) := by decide +kernel
theorem dX6_copy_74 : decode cX6_copy 74 = .ok (.iload_n 2, 1) := by decide +kernel
theorem dX6_copy_75 : decode cX6_copy 75 = .ok (.ifCond .lt 43, 3) := by decide +kernel
theorem dX6_copy_78 : decode cX6_copy 78 = .ok (.iload 4, 2) := by decide +kernel
theorem dX6_copy_80 : decode cX6_copy 80 = .ok (.ifCond .lt 38, 3) := by decide +kernel
theorem dX6_copy_83 : decode cX6_copy 83 = .ok (.iload_n 2, 1) := by decide +kernel
theorem dX6_copy_84 : decode cX6_copy 84 = .ok (.i2l, 1) := by decide +kernel
theorem dX6_copy_85 : decode cX6_copy 85 = .ok (.iload 5, 2) := by decide +kernel
theorem dX6_copy_87 : decode cX6_copy 87 = .ok (.i2l, 1) := by decide +kernel
theorem dX6_copy_88 : decode cX6_copy 88 = .ok (.ladd, 1) := by decide +kernel
theorem dX6_copy_89 : decode cX6_copy 89 = .ok (.aload_n 0, 1) := by decide +kernel
theorem dX6_copy_90 : decode cX6_copy 90 = .ok (.getfield 17, 3) := by decide +kernel
theorem dX6_copy_93 : decode cX6_copy 93 = .ok (.iload_n 1, 1) := by decide +kernel
theorem dX6_copy_94 : decode cX6_copy 94 = .ok (.iaload, 1) := by decide +kernel
theorem dX6_copy_95 : decode cX6_copy 95 = .ok (.i2l, 1) := by decide +kernel
theorem dX6_copy_96 : decode cX6_copy 96 = .ok (.lcmp, 1) := by decide +kernel
theorem dX6_copy_97 : decode cX6_copy 97 = .ok (.ifCond .gt 21, 3) := by decide +kernel
theorem dX6_copy_100 : decode cX6_copy 100 = .ok (.iload 4, 2) := by decide +kernel
theorem dX6_copy_102 : decode cX6_copy 102 = .ok (.i2l, 1) := by decide +kernel
theorem dX6_copy_103 : decode cX6_copy 103 = .ok (.iload 5, 2) := by decide +kernel
theorem dX6_copy_105 : decode cX6_copy 105 = .ok (.i2l, 1) := by decide +kernel
theorem dX6_copy_106 : decode cX6_copy 106 = .ok (.ladd, 1) := by decide +kernel
theorem dX6_copy_107 : decode cX6_copy 107 = .ok (.aload_n 0, 1) := by decide +kernel
theorem dX6_copy_108 : decode cX6_copy 108 = .ok (.getfield 17, 3) := by decide +kernel
theorem dX6_copy_111 : decode cX6_copy 111 = .ok (.iload_n 3, 1) := by decide +kernel
theorem dX6_copy_112 : decode cX6_copy 112 = .ok (.iaload, 1) := by decide +kernel
theorem dX6_copy_113 : decode cX6_copy 113 = .ok (.i2l, 1) := by decide +kernel
theorem dX6_copy_114 : decode cX6_copy 114 = .ok (.lcmp, 1) := by decide +kernel
theorem dX6_copy_115 : decode cX6_copy 115 = .ok (.ifCond .le 6, 3) := by decide +kernel
theorem dX6_copy_118 : decode cX6_copy 118 = .ok (.bipush (-13), 2) := by decide +kernel
theorem dX6_copy_120 : decode cX6_copy 120 = .ok (.ireturn, 1) := by decide +kernel
theorem dX6_copy_121 : decode cX6_copy 121 = .ok (.iconst 0, 1) := by decide +kernel
theorem dX6_copy_122 : decode cX6_copy 122 = .ok (.istore 6, 2) := by decide +kernel
theorem dX6_copy_124 : decode cX6_copy 124 = .ok (.iload 6, 2) := by decide +kernel
theorem dX6_copy_126 : decode cX6_copy 126 = .ok (.iload 5, 2) := by decide +kernel
theorem dX6_copy_128 : decode cX6_copy 128 = .ok (.if_icmp .ge 51, 3) := by decide +kernel
theorem dX6_copy_131 : decode cX6_copy 131 = .ok (.aload_n 0, 1) := by decide +kernel
theorem dX6_copy_132 : decode cX6_copy 132 = .ok (.getfield 49, 3) := by decide +kernel
theorem dX6_copy_135 : decode cX6_copy 135 = .ok (.iload 6, 2) := by decide +kernel
theorem dX6_copy_137 : decode cX6_copy 137 = .ok (.aload_n 0, 1) := by decide +kernel
theorem dX6_copy_138 : decode cX6_copy 138 = .ok (.getfield 20, 3) := by decide +kernel
theorem dX6_copy_141 : decode cX6_copy 141 = .ok (.bipush 64, 2) := by decide +kernel
theorem dX6_copy_143 : decode cX6_copy 143 = .ok (.iload_n 1, 1) := by decide +kernel
theorem dX6_copy_144 : decode cX6_copy 144 = .ok (.imul, 1) := by decide +kernel
theorem dX6_copy_145 : decode cX6_copy 145 = .ok (.iload_n 2, 1) := by decide +kernel
theorem dX6_copy_146 : decode cX6_copy 146 = .ok (.iadd, 1) := by decide +kernel
theorem dX6_copy_147 : decode cX6_copy 147 = .ok (.iload 6, 2) := by decide +kernel
theorem dX6_copy_149 : decode cX6_copy 149 = .ok (.iadd, 1) := by decide +kernel
theorem dX6_copy_150 : decode cX6_copy 150 = .ok (.iaload, 1) := by decide +kernel
theorem dX6_copy_151 : decode cX6_copy 151 = .ok (.iastore, 1) := by decide +kernel
theorem dX6_copy_152 : decode cX6_copy 152 = .ok (.aload_n 0, 1) := by decide +kernel
theorem dX6_copy_153 : decode cX6_copy 153 = .ok (.getfield 52, 3) := by decide +kernel
theorem dX6_copy_156 : decode cX6_copy 156 = .ok (.iload 6, 2) := by decide +kernel
theorem dX6_copy_158 : decode cX6_copy 158 = .ok (.aload_n 0, 1) := by decide +kernel
theorem dX6_copy_159 : decode cX6_copy 159 = .ok (.getfield 23, 3) := by decide +kernel
theorem dX6_copy_162 : decode cX6_copy 162 = .ok (.bipush 64, 2) := by decide +kernel
theorem dX6_copy_164 : decode cX6_copy 164 = .ok (.iload_n 1, 1) := by decide +kernel
theorem dX6_copy_165 : decode cX6_copy 165 = .ok (.imul, 1) := by decide +kernel
theorem dX6_copy_166 : decode cX6_copy 166 = .ok (.iload_n 2, 1) := by decide +kernel
theorem dX6_copy_167 : decode cX6_copy 167 = .ok (.iadd, 1) := by decide +kernel
theorem dX6_copy_168 : decode cX6_copy 168 = .ok (.iload 6, 2) := by decide +kernel
theorem dX6_copy_170 : decode cX6_copy 170 = .ok (.iadd, 1) := by decide +kernel
theorem dX6_copy_171 : decode cX6_copy 171 = .ok (.iaload, 1) := by decide +kernel
theorem dX6_copy_172 : decode cX6_copy 172 = .ok (.iastore, 1) := by decide +kernel
theorem dX6_copy_173 : decode cX6_copy 173 = .ok (.iinc 6 1, 3) := by decide +kernel
theorem dX6_copy_176 : decode cX6_copy 176 = .ok (.goto (-52), 3) := by decide +kernel
theorem dX6_copy_179 : decode cX6_copy 179 = .ok (.iconst 0, 1) := by decide +kernel
theorem dX6_copy_180 : decode cX6_copy 180 = .ok (.istore 6, 2) := by decide +kernel
theorem dX6_copy_182 : decode cX6_copy 182 = .ok (.iload 6, 2) := by decide +kernel
theorem dX6_copy_184 : decode cX6_copy 184 = .ok (.iload 5, 2) := by decide +kernel
theorem dX6_copy_186 : decode cX6_copy 186 = .ok (.if_icmp .ge 53, 3) := by decide +kernel
theorem dX6_copy_189 : decode cX6_copy 189 = .ok (.aload_n 0, 1) := by decide +kernel
theorem dX6_copy_190 : decode cX6_copy 190 = .ok (.getfield 20, 3) := by decide +kernel
theorem dX6_copy_193 : decode cX6_copy 193 = .ok (.bipush 64, 2) := by decide +kernel
theorem dX6_copy_195 : decode cX6_copy 195 = .ok (.iload_n 3, 1) := by decide +kernel
theorem dX6_copy_196 : decode cX6_copy 196 = .ok (.imul, 1) := by decide +kernel
theorem dX6_copy_197 : decode cX6_copy 197 = .ok (.iload 4, 2) := by decide +kernel
theorem dX6_copy_199 : decode cX6_copy 199 = .ok (.iadd, 1) := by decide +kernel
theorem dX6_copy_200 : decode cX6_copy 200 = .ok (.iload 6, 2) := by decide +kernel
theorem dX6_copy_202 : decode cX6_copy 202 = .ok (.iadd, 1) := by decide +kernel
theorem dX6_copy_203 : decode cX6_copy 203 = .ok (.aload_n 0, 1) := by decide +kernel
theorem dX6_copy_204 : decode cX6_copy 204 = .ok (.getfield 49, 3) := by decide +kernel
theorem dX6_copy_207 : decode cX6_copy 207 = .ok (.iload 6, 2) := by decide +kernel
theorem dX6_copy_209 : decode cX6_copy 209 = .ok (.iaload, 1) := by decide +kernel
theorem dX6_copy_210 : decode cX6_copy 210 = .ok (.iastore, 1) := by decide +kernel
theorem dX6_copy_211 : decode cX6_copy 211 = .ok (.aload_n 0, 1) := by decide +kernel
theorem dX6_copy_212 : decode cX6_copy 212 = .ok (.getfield 23, 3) := by decide +kernel
theorem dX6_copy_215 : decode cX6_copy 215 = .ok (.bipush 64, 2) := by decide +kernel
theorem dX6_copy_217 : decode cX6_copy 217 = .ok (.iload_n 3, 1) := by decide +kernel
theorem dX6_copy_218 : decode cX6_copy 218 = .ok (.imul, 1) := by decide +kernel
theorem dX6_copy_219 : decode cX6_copy 219 = .ok (.iload 4, 2) := by decide +kernel
theorem dX6_copy_221 : decode cX6_copy 221 = .ok (.iadd, 1) := by decide +kernel
theorem dX6_copy_222 : decode cX6_copy 222 = .ok (.iload 6, 2) := by decide +kernel
theorem dX6_copy_224 : decode cX6_copy 224 = .ok (.iadd, 1) := by decide +kernel
theorem dX6_copy_225 : decode cX6_copy 225 = .ok (.aload_n 0, 1) := by decide +kernel
theorem dX6_copy_226 : decode cX6_copy 226 = .ok (.getfield 52, 3) := by decide +kernel
theorem dX6_copy_229 : decode cX6_copy 229 = .ok (.iload 6, 2) := by decide +kernel
theorem dX6_copy_231 : decode cX6_copy 231 = .ok (.iaload, 1) := by decide +kernel
theorem dX6_copy_232 : decode cX6_copy 232 = .ok (.iastore, 1) := by decide +kernel
theorem dX6_copy_233 : decode cX6_copy 233 = .ok (.iinc 6 1, 3) := by decide +kernel
theorem dX6_copy_236 : decode cX6_copy 236 = .ok (.goto (-54), 3) := by decide +kernel
theorem dX6_copy_239 : decode cX6_copy 239 = .ok (.iload 5, 2) := by decide +kernel
theorem dX6_copy_241 : decode cX6_copy 241 = .ok (.ireturn, 1) := by decide +kernel
theorem dX6_spikes_0 : decode cX6_spikes 0 = .ok (.iload_n 1, 1) := by decide +kernel
theorem dX6_spikes_1 : decode cX6_spikes 1 = .ok (.i2l, 1) := by decide +kernel
theorem dX6_spikes_2 : decode cX6_spikes 2 = .ok (.lconst 0, 1) := by decide +kernel
theorem dX6_spikes_3 : decode cX6_spikes 3 = .ok (.ldc2_w 58, 3) := by decide +kernel
theorem dX6_spikes_6 : decode cX6_spikes 6 = .ok (.invokestatic 60, 3) := by decide +kernel
theorem dX6_spikes_9 : decode cX6_spikes 9 = .ok (.ifCond .eq 7, 3) := by decide +kernel
theorem dX6_spikes_12 : decode cX6_spikes 12 = .ok (.iload_n 2, 1) := by decide +kernel
theorem dX6_spikes_13 : decode cX6_spikes 13 = .ok (.ifCond .ge 6, 3) := by decide +kernel
theorem dX6_spikes_16 : decode cX6_spikes 16 = .ok (.bipush (-2), 2) := by decide +kernel
theorem dX6_spikes_18 : decode cX6_spikes 18 = .ok (.ireturn, 1) := by decide +kernel
theorem dX6_spikes_19 : decode cX6_spikes 19 = .ok (.aload_n 0, 1) := by decide +kernel
theorem dX6_spikes_20 : decode cX6_spikes 20 = .ok (.getfield 7, 3) := by decide +kernel
theorem dX6_spikes_23 : decode cX6_spikes 23 = .ok (.iload_n 1, 1) := by decide +kernel
theorem dX6_spikes_24 : decode cX6_spikes 24 = .ok (.baload, 1) := by decide +kernel
theorem dX6_spikes_25 : decode cX6_spikes 25 = .ok (.ifCond .ne 6, 3) := by decide +kernel
theorem dX6_spikes_28 : decode cX6_spikes 28 = .ok (.bipush (-10), 2) := by decide +kernel
theorem dX6_spikes_30 : decode cX6_spikes 30 = .ok (.ireturn, 1) := by decide +kernel
theorem dX6_spikes_31 : decode cX6_spikes 31 = .ok (.bipush 64, 2) := by decide +kernel
theorem dX6_spikes_33 : decode cX6_spikes 33 = .ok (.iload_n 1, 1) := by decide +kernel
theorem dX6_spikes_34 : decode cX6_spikes 34 = .ok (.imul, 1) := by decide +kernel
theorem dX6_spikes_35 : decode cX6_spikes 35 = .ok (.istore_n 3, 1) := by decide +kernel
theorem dX6_spikes_36 : decode cX6_spikes 36 = .ok (.iconst 0, 1) := by decide +kernel
theorem dX6_spikes_37 : decode cX6_spikes 37 = .ok (.istore 4, 2) := by decide +kernel
theorem dX6_spikes_39 : decode cX6_spikes 39 = .ok (.iconst 0, 1) := by decide +kernel
theorem dX6_spikes_40 : decode cX6_spikes 40 = .ok (.istore 5, 2) := by decide +kernel
theorem dX6_spikes_42 : decode cX6_spikes 42 = .ok (.iload 5, 2) := by decide +kernel
theorem dX6_spikes_44 : decode cX6_spikes 44 = .ok (.aload_n 0, 1) := by decide +kernel
theorem dX6_spikes_45 : decode cX6_spikes 45 = .ok (.getfield 17, 3) := by decide +kernel
theorem dX6_spikes_48 : decode cX6_spikes 48 = .ok (.iload_n 1, 1) := by decide +kernel
theorem dX6_spikes_49 : decode cX6_spikes 49 = .ok (.iaload, 1) := by decide +kernel
theorem dX6_spikes_50 : decode cX6_spikes 50 = .ok (.if_icmp .ge 154, 3) := by decide +kernel
theorem dX6_spikes_53 : decode cX6_spikes 53 = .ok (.aload_n 0, 1) := by decide +kernel
theorem dX6_spikes_54 : decode cX6_spikes 54 = .ok (.getfield 49, 3) := by decide +kernel
theorem dX6_spikes_57 : decode cX6_spikes 57 = .ok (.iload 5, 2) := by decide +kernel
theorem dX6_spikes_59 : decode cX6_spikes 59 = .ok (.iconst 0, 1) := by decide +kernel
theorem dX6_spikes_60 : decode cX6_spikes 60 = .ok (.iastore, 1) := by decide +kernel
theorem dX6_spikes_61 : decode cX6_spikes 61 = .ok (.iload 5, 2) := by decide +kernel
theorem dX6_spikes_63 : decode cX6_spikes 63 = .ok (.ifCond .le 135, 3) := by decide +kernel
theorem dX6_spikes_66 : decode cX6_spikes 66 = .ok (.iload 5, 2) := by decide +kernel
theorem dX6_spikes_68 : decode cX6_spikes 68 = .ok (.iconst 1, 1) := by decide +kernel
theorem dX6_spikes_69 : decode cX6_spikes 69 = .ok (.iadd, 1) := by decide +kernel
theorem dX6_spikes_70 : decode cX6_spikes 70 = .ok (.aload_n 0, 1) := by decide +kernel
theorem dX6_spikes_71 : decode cX6_spikes 71 = .ok (.getfield 17, 3) := by decide +kernel
theorem dX6_spikes_74 : decode cX6_spikes 74 = .ok (.iload_n 1, 1) := by decide +kernel
theorem dX6_spikes_75 : decode cX6_spikes 75 = .ok (.iaload, 1) := by decide +kernel
theorem dX6_spikes_76 : decode cX6_spikes 76 = .ok (.if_icmp .ge 122, 3) := by decide +kernel
theorem dX6_spikes_79 : decode cX6_spikes 79 = .ok (.aload_n 0, 1) := by decide +kernel
theorem dX6_spikes_80 : decode cX6_spikes 80 = .ok (.getfield 20, 3) := by decide +kernel
theorem dX6_spikes_83 : decode cX6_spikes 83 = .ok (.iload_n 3, 1) := by decide +kernel
theorem dX6_spikes_84 : decode cX6_spikes 84 = .ok (.iload 5, 2) := by decide +kernel
theorem dX6_spikes_86 : decode cX6_spikes 86 = .ok (.iadd, 1) := by decide +kernel
theorem dX6_spikes_87 : decode cX6_spikes 87 = .ok (.iaload, 1) := by decide +kernel
theorem dX6_spikes_88 : decode cX6_spikes 88 = .ok (.ifCond .le 110, 3) := by decide +kernel
theorem dX6_spikes_91 : decode cX6_spikes 91 = .ok (.aload_n 0, 1) := by decide +kernel
theorem dX6_spikes_92 : decode cX6_spikes 92 = .ok (.getfield 20, 3) := by decide +kernel
theorem dX6_spikes_95 : decode cX6_spikes 95 = .ok (.iload_n 3, 1) := by decide +kernel
theorem dX6_spikes_96 : decode cX6_spikes 96 = .ok (.iload 5, 2) := by decide +kernel
theorem dX6_spikes_98 : decode cX6_spikes 98 = .ok (.iadd, 1) := by decide +kernel
theorem dX6_spikes_99 : decode cX6_spikes 99 = .ok (.iconst 1, 1) := by decide +kernel
theorem dX6_spikes_100 : decode cX6_spikes 100 = .ok (.isub, 1) := by decide +kernel
theorem dX6_spikes_101 : decode cX6_spikes 101 = .ok (.iaload, 1) := by decide +kernel
theorem dX6_spikes_102 : decode cX6_spikes 102 = .ok (.ifCond .le 96, 3) := by decide +kernel
theorem dX6_spikes_105 : decode cX6_spikes 105 = .ok (.aload_n 0, 1) := by decide +kernel
theorem dX6_spikes_106 : decode cX6_spikes 106 = .ok (.getfield 20, 3) := by decide +kernel
theorem dX6_spikes_109 : decode cX6_spikes 109 = .ok (.iload_n 3, 1) := by decide +kernel
theorem dX6_spikes_110 : decode cX6_spikes 110 = .ok (.iload 5, 2) := by decide +kernel
theorem dX6_spikes_112 : decode cX6_spikes 112 = .ok (.iadd, 1) := by decide +kernel
theorem dX6_spikes_113 : decode cX6_spikes 113 = .ok (.iconst 1, 1) := by decide +kernel
theorem dX6_spikes_114 : decode cX6_spikes 114 = .ok (.iadd, 1) := by decide +kernel
theorem dX6_spikes_115 : decode cX6_spikes 115 = .ok (.iaload, 1) := by decide +kernel
theorem dX6_spikes_116 : decode cX6_spikes 116 = .ok (.ifCond .le 82, 3) := by decide +kernel
theorem dX6_spikes_119 : decode cX6_spikes 119 = .ok (.ldc2_w 64, 3) := by decide +kernel
theorem dX6_spikes_122 : decode cX6_spikes 122 = .ok (.aload_n 0, 1) := by decide +kernel
theorem dX6_spikes_123 : decode cX6_spikes 123 = .ok (.getfield 23, 3) := by decide +kernel
theorem dX6_spikes_126 : decode cX6_spikes 126 = .ok (.iload_n 3, 1) := by decide +kernel
theorem dX6_spikes_127 : decode cX6_spikes 127 = .ok (.iload 5, 2) := by decide +kernel
theorem dX6_spikes_129 : decode cX6_spikes 129 = .ok (.iadd, 1) := by decide +kernel
theorem dX6_spikes_130 : decode cX6_spikes 130 = .ok (.iaload, 1) := by decide +kernel
theorem dX6_spikes_131 : decode cX6_spikes 131 = .ok (.i2l, 1) := by decide +kernel
theorem dX6_spikes_132 : decode cX6_spikes 132 = .ok (.lmul, 1) := by decide +kernel
theorem dX6_spikes_133 : decode cX6_spikes 133 = .ok (.aload_n 0, 1) := by decide +kernel
theorem dX6_spikes_134 : decode cX6_spikes 134 = .ok (.getfield 23, 3) := by decide +kernel
theorem dX6_spikes_137 : decode cX6_spikes 137 = .ok (.iload_n 3, 1) := by decide +kernel
theorem dX6_spikes_138 : decode cX6_spikes 138 = .ok (.iload 5, 2) := by decide +kernel
theorem dX6_spikes_140 : decode cX6_spikes 140 = .ok (.iadd, 1) := by decide +kernel
theorem dX6_spikes_141 : decode cX6_spikes 141 = .ok (.iconst 1, 1) := by decide +kernel
theorem dX6_spikes_142 : decode cX6_spikes 142 = .ok (.isub, 1) := by decide +kernel
theorem dX6_spikes_143 : decode cX6_spikes 143 = .ok (.iaload, 1) := by decide +kernel
theorem dX6_spikes_144 : decode cX6_spikes 144 = .ok (.i2l, 1) := by decide +kernel
theorem dX6_spikes_145 : decode cX6_spikes 145 = .ok (.lsub, 1) := by decide +kernel
theorem dX6_spikes_146 : decode cX6_spikes 146 = .ok (.aload_n 0, 1) := by decide +kernel
theorem dX6_spikes_147 : decode cX6_spikes 147 = .ok (.getfield 23, 3) := by decide +kernel
theorem dX6_spikes_150 : decode cX6_spikes 150 = .ok (.iload_n 3, 1) := by decide +kernel
theorem dX6_spikes_151 : decode cX6_spikes 151 = .ok (.iload 5, 2) := by decide +kernel
theorem dX6_spikes_153 : decode cX6_spikes 153 = .ok (.iadd, 1) := by decide +kernel
theorem dX6_spikes_154 : decode cX6_spikes 154 = .ok (.iconst 1, 1) := by decide +kernel
theorem dX6_spikes_155 : decode cX6_spikes 155 = .ok (.iadd, 1) := by decide +kernel
theorem dX6_spikes_156 : decode cX6_spikes 156 = .ok (.iaload, 1) := by decide +kernel
theorem dX6_spikes_157 : decode cX6_spikes 157 = .ok (.i2l, 1) := by decide +kernel
theorem dX6_spikes_158 : decode cX6_spikes 158 = .ok (.lsub, 1) := by decide +kernel
theorem dX6_spikes_159 : decode cX6_spikes 159 = .ok (.lstore 6, 2) := by decide +kernel
theorem dX6_spikes_161 : decode cX6_spikes 161 = .ok (.aload_n 0, 1) := by decide +kernel
theorem dX6_spikes_162 : decode cX6_spikes 162 = .ok (.getfield 49, 3) := by decide +kernel
theorem dX6_spikes_165 : decode cX6_spikes 165 = .ok (.iload 5, 2) := by decide +kernel
theorem dX6_spikes_167 : decode cX6_spikes 167 = .ok (.lload 6, 2) := by decide +kernel
theorem dX6_spikes_169 : decode cX6_spikes 169 = .ok (.ldc2_w 64, 3) := by decide +kernel
theorem dX6_spikes_172 : decode cX6_spikes 172 = .ok (.iload_n 2, 1) := by decide +kernel
theorem dX6_spikes_173 : decode cX6_spikes 173 = .ok (.i2l, 1) := by decide +kernel
theorem dX6_spikes_174 : decode cX6_spikes 174 = .ok (.lmul, 1) := by decide +kernel
theorem dX6_spikes_175 : decode cX6_spikes 175 = .ok (.lcmp, 1) := by decide +kernel
theorem dX6_spikes_176 : decode cX6_spikes 176 = .ok (.ifCond .gt 16, 3) := by decide +kernel
theorem dX6_spikes_179 : decode cX6_spikes 179 = .ok (.lload 6, 2) := by decide +kernel
theorem dX6_spikes_181 : decode cX6_spikes 181 = .ok (.lneg, 1) := by decide +kernel
theorem dX6_spikes_182 : decode cX6_spikes 182 = .ok (.ldc2_w 64, 3) := by decide +kernel
theorem dX6_spikes_185 : decode cX6_spikes 185 = .ok (.iload_n 2, 1) := by decide +kernel
theorem dX6_spikes_186 : decode cX6_spikes 186 = .ok (.i2l, 1) := by decide +kernel
theorem dX6_spikes_187 : decode cX6_spikes 187 = .ok (.lmul, 1) := by decide +kernel
theorem dX6_spikes_188 : decode cX6_spikes 188 = .ok (.lcmp, 1) := by decide +kernel
theorem dX6_spikes_189 : decode cX6_spikes 189 = .ok (.ifCond .le 7, 3) := by decide +kernel
theorem dX6_spikes_192 : decode cX6_spikes 192 = .ok (.iconst 1, 1) := by decide +kernel
theorem dX6_spikes_193 : decode cX6_spikes 193 = .ok (.goto 4, 3) := by decide +kernel
theorem dX6_spikes_196 : decode cX6_spikes 196 = .ok (.iconst 0, 1) := by decide +kernel
theorem dX6_spikes_197 : decode cX6_spikes 197 = .ok (.iastore, 1) := by decide +kernel
theorem dX6_spikes_198 : decode cX6_spikes 198 = .ok (.iinc 5 1, 3) := by decide +kernel
theorem dX6_spikes_201 : decode cX6_spikes 201 = .ok (.goto (-159), 3) := by decide +kernel
theorem dX6_spikes_204 : decode cX6_spikes 204 = .ok (.iconst 0, 1) := by decide +kernel
theorem dX6_spikes_205 : decode cX6_spikes 205 = .ok (.istore 5, 2) := by decide +kernel
theorem dX6_spikes_207 : decode cX6_spikes 207 = .ok (.iload 5, 2) := by decide +kernel
theorem dX6_spikes_209 : decode cX6_spikes 209 = .ok (.aload_n 0, 1) := by decide +kernel
theorem dX6_spikes_210 : decode cX6_spikes 210 = .ok (.getfield 17, 3) := by decide +kernel
theorem dX6_spikes_213 : decode cX6_spikes 213 = .ok (.iload_n 1, 1) := by decide +kernel
theorem dX6_spikes_214 : decode cX6_spikes 214 = .ok (.iaload, 1) := by decide +kernel
theorem dX6_spikes_215 : decode cX6_spikes 215 = .ok (.if_icmp .ge 43, 3) := by decide +kernel
theorem dX6_spikes_218 : decode cX6_spikes 218 = .ok (.aload_n 0, 1) := by decide +kernel
theorem dX6_spikes_219 : decode cX6_spikes 219 = .ok (.getfield 49, 3) := by decide +kernel
theorem dX6_spikes_222 : decode cX6_spikes 222 = .ok (.iload 5, 2) := by decide +kernel
theorem dX6_spikes_224 : decode cX6_spikes 224 = .ok (.iaload, 1) := by decide +kernel
theorem dX6_spikes_225 : decode cX6_spikes 225 = .ok (.iconst 1, 1) := by decide +kernel
theorem dX6_spikes_226 : decode cX6_spikes 226 = .ok (.if_icmp .ne 26, 3) := by decide +kernel
theorem dX6_spikes_229 : decode cX6_spikes 229 = .ok (.aload_n 0, 1) := by decide +kernel
theorem dX6_spikes_230 : decode cX6_spikes 230 = .ok (.getfield 20, 3) := by decide +kernel
theorem dX6_spikes_233 : decode cX6_spikes 233 = .ok (.iload_n 3, 1) := by decide +kernel
theorem dX6_spikes_234 : decode cX6_spikes 234 = .ok (.iload 5, 2) := by decide +kernel
theorem dX6_spikes_236 : decode cX6_spikes 236 = .ok (.iadd, 1) := by decide +kernel
theorem dX6_spikes_237 : decode cX6_spikes 237 = .ok (.iconst 0, 1) := by decide +kernel
theorem dX6_spikes_238 : decode cX6_spikes 238 = .ok (.iastore, 1) := by decide +kernel
theorem dX6_spikes_239 : decode cX6_spikes 239 = .ok (.aload_n 0, 1) := by decide +kernel
theorem dX6_spikes_240 : decode cX6_spikes 240 = .ok (.getfield 23, 3) := by decide +kernel
theorem dX6_spikes_243 : decode cX6_spikes 243 = .ok (.iload_n 3, 1) := by decide +kernel
theorem dX6_spikes_244 : decode cX6_spikes 244 = .ok (.iload 5, 2) := by decide +kernel
theorem dX6_spikes_246 : decode cX6_spikes 246 = .ok (.iadd, 1) := by decide +kernel
theorem dX6_spikes_247 : decode cX6_spikes 247 = .ok (.iconst 0, 1) := by decide +kernel
theorem dX6_spikes_248 : decode cX6_spikes 248 = .ok (.iastore, 1) := by decide +kernel
theorem dX6_spikes_249 : decode cX6_spikes 249 = .ok (.iinc 4 1, 3) := by decide +kernel
theorem dX6_spikes_252 : decode cX6_spikes 252 = .ok (.iinc 5 1, 3) := by decide +kernel
theorem dX6_spikes_255 : decode cX6_spikes 255 = .ok (.goto (-48), 3) := by decide +kernel
theorem dX6_spikes_258 : decode cX6_spikes 258 = .ok (.iload 4, 2) := by decide +kernel
theorem dX6_spikes_260 : decode cX6_spikes 260 = .ok (.ireturn, 1) := by decide +kernel
theorem dX6_fill_0 : decode cX6_fill 0 = .ok (.iload_n 1, 1) := by decide +kernel
theorem dX6_fill_1 : decode cX6_fill 1 = .ok (.i2l, 1) := by decide +kernel
theorem dX6_fill_2 : decode cX6_fill 2 = .ok (.lconst 0, 1) := by decide +kernel
theorem dX6_fill_3 : decode cX6_fill 3 = .ok (.ldc2_w 58, 3) := by decide +kernel
theorem dX6_fill_6 : decode cX6_fill 6 = .ok (.invokestatic 60, 3) := by decide +kernel
theorem dX6_fill_9 : decode cX6_fill 9 = .ok (.ifCond .eq 15, 3) := by decide +kernel
theorem dX6_fill_12 : decode cX6_fill 12 = .ok (.iload_n 2, 1) := by decide +kernel
theorem dX6_fill_13 : decode cX6_fill 13 = .ok (.i2l, 1) := by decide +kernel
theorem dX6_fill_14 : decode cX6_fill 14 = .ok (.lconst 0, 1) := by decide +kernel
theorem dX6_fill_15 : decode cX6_fill 15 = .ok (.ldc2_w 88, 3) := by decide +kernel
theorem dX6_fill_18 : decode cX6_fill 18 = .ok (.invokestatic 60, 3) := by decide +kernel
theorem dX6_fill_21 : decode cX6_fill 21 = .ok (.ifCond .ne 6, 3) := by decide +kernel
theorem dX6_fill_24 : decode cX6_fill 24 = .ok (.bipush (-2), 2) := by decide +kernel
theorem dX6_fill_26 : decode cX6_fill 26 = .ok (.ireturn, 1) := by decide +kernel
theorem dX6_fill_27 : decode cX6_fill 27 = .ok (.aload_n 0, 1) := by decide +kernel
theorem dX6_fill_28 : decode cX6_fill 28 = .ok (.getfield 7, 3) := by decide +kernel
theorem dX6_fill_31 : decode cX6_fill 31 = .ok (.iload_n 1, 1) := by decide +kernel
theorem dX6_fill_32 : decode cX6_fill 32 = .ok (.baload, 1) := by decide +kernel
theorem dX6_fill_33 : decode cX6_fill 33 = .ok (.ifCond .ne 6, 3) := by decide +kernel
theorem dX6_fill_36 : decode cX6_fill 36 = .ok (.bipush (-10), 2) := by decide +kernel
theorem dX6_fill_38 : decode cX6_fill 38 = .ok (.ireturn, 1) := by decide +kernel
theorem dX6_fill_39 : decode cX6_fill 39 = .ok (.bipush 64, 2) := by decide +kernel
theorem dX6_fill_41 : decode cX6_fill 41 = .ok (.iload_n 1, 1) := by decide +kernel
theorem dX6_fill_42 : decode cX6_fill 42 = .ok (.imul, 1) := by decide +kernel
theorem dX6_fill_43 : decode cX6_fill 43 = .ok (.istore_n 3, 1) := by decide +kernel
theorem dX6_fill_44 : decode cX6_fill 44 = .ok (.iconst 0, 1) := by decide +kernel
theorem dX6_fill_45 : decode cX6_fill 45 = .ok (.istore 4, 2) := by decide +kernel
theorem dX6_fill_47 : decode cX6_fill 47 = .ok (.iconst 0, 1) := by decide +kernel
theorem dX6_fill_48 : decode cX6_fill 48 = .ok (.istore 5, 2) := by decide +kernel
theorem dX6_fill_50 : decode cX6_fill 50 = .ok (.iload 5, 2) := by decide +kernel
theorem dX6_fill_52 : decode cX6_fill 52 = .ok (.aload_n 0, 1) := by decide +kernel
theorem dX6_fill_53 : decode cX6_fill 53 = .ok (.getfield 17, 3) := by decide +kernel
theorem dX6_fill_56 : decode cX6_fill 56 = .ok (.iload_n 1, 1) := by decide +kernel
theorem dX6_fill_57 : decode cX6_fill 57 = .ok (.iaload, 1) := by decide +kernel
theorem dX6_fill_58 : decode cX6_fill 58 = .ok (.if_icmp .ge 186, 3) := by decide +kernel
theorem dX6_fill_61 : decode cX6_fill 61 = .ok (.iload 5, 2) := by decide +kernel
theorem dX6_fill_63 : decode cX6_fill 63 = .ok (.istore 6, 2) := by decide +kernel
theorem dX6_fill_65 : decode cX6_fill 65 = .ok (.iload 6, 2) := by decide +kernel
theorem dX6_fill_67 : decode cX6_fill 67 = .ok (.aload_n 0, 1) := by decide +kernel
theorem dX6_fill_68 : decode cX6_fill 68 = .ok (.getfield 17, 3) := by decide +kernel
theorem dX6_fill_71 : decode cX6_fill 71 = .ok (.iload_n 1, 1) := by decide +kernel
theorem dX6_fill_72 : decode cX6_fill 72 = .ok (.iaload, 1) := by decide +kernel
theorem dX6_fill_73 : decode cX6_fill 73 = .ok (.if_icmp .ge 21, 3) := by decide +kernel
theorem dX6_fill_76 : decode cX6_fill 76 = .ok (.aload_n 0, 1) := by decide +kernel
theorem dX6_fill_77 : decode cX6_fill 77 = .ok (.getfield 20, 3) := by decide +kernel
theorem dX6_fill_80 : decode cX6_fill 80 = .ok (.iload_n 3, 1) := by decide +kernel
theorem dX6_fill_81 : decode cX6_fill 81 = .ok (.iload 6, 2) := by decide +kernel
theorem dX6_fill_83 : decode cX6_fill 83 = .ok (.iadd, 1) := by decide +kernel
theorem dX6_fill_84 : decode cX6_fill 84 = .ok (.iaload, 1) := by decide +kernel
theorem dX6_fill_85 : decode cX6_fill 85 = .ok (.ifCond .ne 9, 3) := by decide +kernel
theorem dX6_fill_88 : decode cX6_fill 88 = .ok (.iinc 6 1, 3) := by decide +kernel
theorem dX6_fill_91 : decode cX6_fill 91 = .ok (.goto (-26), 3) := by decide +kernel
theorem dX6_fill_94 : decode cX6_fill 94 = .ok (.iload 6, 2) := by decide +kernel
theorem dX6_fill_96 : decode cX6_fill 96 = .ok (.iload 5, 2) := by decide +kernel
theorem dX6_fill_98 : decode cX6_fill 98 = .ok (.isub, 1) := by decide +kernel
theorem dX6_fill_99 : decode cX6_fill 99 = .ok (.istore 7, 2) := by decide +kernel
theorem dX6_fill_101 : decode cX6_fill 101 = .ok (.iload 7, 2) := by decide +kernel
theorem dX6_fill_103 : decode cX6_fill 103 = .ok (.ifCond .le 122, 3) := by decide +kernel
theorem dX6_fill_106 : decode cX6_fill 106 = .ok (.iload 7, 2) := by decide +kernel
theorem dX6_fill_108 : decode cX6_fill 108 = .ok (.iload_n 2, 1) := by decide +kernel
theorem dX6_fill_109 : decode cX6_fill 109 = .ok (.if_icmp .gt 116, 3) := by decide +kernel
theorem dX6_fill_112 : decode cX6_fill 112 = .ok (.iload 5, 2) := by decide +kernel
theorem dX6_fill_114 : decode cX6_fill 114 = .ok (.ifCond .le 111, 3) := by decide +kernel
theorem dX6_fill_117 : decode cX6_fill 117 = .ok (.iload 6, 2) := by decide +kernel
theorem dX6_fill_119 : decode cX6_fill 119 = .ok (.aload_n 0, 1) := by decide +kernel
theorem dX6_fill_120 : decode cX6_fill 120 = .ok (.getfield 17, 3) := by decide +kernel
theorem dX6_fill_123 : decode cX6_fill 123 = .ok (.iload_n 1, 1) := by decide +kernel
theorem dX6_fill_124 : decode cX6_fill 124 = .ok (.iaload, 1) := by decide +kernel
theorem dX6_fill_125 : decode cX6_fill 125 = .ok (.if_icmp .ge 100, 3) := by decide +kernel
theorem dX6_fill_128 : decode cX6_fill 128 = .ok (.aload_n 0, 1) := by decide +kernel
theorem dX6_fill_129 : decode cX6_fill 129 = .ok (.getfield 23, 3) := by decide +kernel
theorem dX6_fill_132 : decode cX6_fill 132 = .ok (.iload_n 3, 1) := by decide +kernel
theorem dX6_fill_133 : decode cX6_fill 133 = .ok (.iload 5, 2) := by decide +kernel
theorem dX6_fill_135 : decode cX6_fill 135 = .ok (.iadd, 1) := by decide +kernel
theorem dX6_fill_136 : decode cX6_fill 136 = .ok (.iconst 1, 1) := by decide +kernel
theorem dX6_fill_137 : decode cX6_fill 137 = .ok (.isub, 1) := by decide +kernel
theorem dX6_fill_138 : decode cX6_fill 138 = .ok (.iaload, 1) := by decide +kernel
theorem dX6_fill_139 : decode cX6_fill 139 = .ok (.i2l, 1) := by decide +kernel
theorem dX6_fill_140 : decode cX6_fill 140 = .ok (.lstore 8, 2) := by decide +kernel
theorem dX6_fill_142 : decode cX6_fill 142 = .ok (.aload_n 0, 1) := by decide +kernel
theorem dX6_fill_143 : decode cX6_fill 143 = .ok (.getfield 23, 3) := by decide +kernel
theorem dX6_fill_146 : decode cX6_fill 146 = .ok (.iload_n 3, 1) := by decide +kernel
theorem dX6_fill_147 : decode cX6_fill 147 = .ok (.iload 6, 2) := by decide +kernel
theorem dX6_fill_149 : decode cX6_fill 149 = .ok (.iadd, 1) := by decide +kernel
theorem dX6_fill_150 : decode cX6_fill 150 = .ok (.iaload, 1) := by decide +kernel
theorem dX6_fill_151 : decode cX6_fill 151 = .ok (.i2l, 1) := by decide +kernel
theorem dX6_fill_152 : decode cX6_fill 152 = .ok (.lstore 10, 2) := by decide +kernel
theorem dX6_fill_154 : decode cX6_fill 154 = .ok (.iconst 1, 1) := by decide +kernel
theorem dX6_fill_155 : decode cX6_fill 155 = .ok (.istore 12, 2) := by decide +kernel
theorem dX6_fill_157 : decode cX6_fill 157 = .ok (.iload 12, 2) := by decide +kernel
theorem dX6_fill_159 : decode cX6_fill 159 = .ok (.iload 7, 2) := by decide +kernel
theorem dX6_fill_161 : decode cX6_fill 161 = .ok (.if_icmp .gt 57, 3) := by decide +kernel
theorem dX6_fill_164 : decode cX6_fill 164 = .ok (.aload_n 0, 1) := by decide +kernel
theorem dX6_fill_165 : decode cX6_fill 165 = .ok (.getfield 20, 3) := by decide +kernel
theorem dX6_fill_168 : decode cX6_fill 168 = .ok (.iload_n 3, 1) := by decide +kernel
theorem dX6_fill_169 : decode cX6_fill 169 = .ok (.iload 5, 2) := by decide +kernel
theorem dX6_fill_171 : decode cX6_fill 171 = .ok (.iadd, 1) := by decide +kernel
theorem dX6_fill_172 : decode cX6_fill 172 = .ok (.iload 12, 2) := by decide +kernel
theorem dX6_fill_174 : decode cX6_fill 174 = .ok (.iadd, 1) := by decide +kernel
theorem dX6_fill_175 : decode cX6_fill 175 = .ok (.iconst 1, 1) := by decide +kernel
theorem dX6_fill_176 : decode cX6_fill 176 = .ok (.isub, 1) := by decide +kernel
theorem dX6_fill_177 : decode cX6_fill 177 = .ok (.iconst 2, 1) := by decide +kernel
theorem dX6_fill_178 : decode cX6_fill 178 = .ok (.iastore, 1) := by decide +kernel
theorem dX6_fill_179 : decode cX6_fill 179 = .ok (.aload_n 0, 1) := by decide +kernel
theorem dX6_fill_180 : decode cX6_fill 180 = .ok (.getfield 23, 3) := by decide +kernel
theorem dX6_fill_183 : decode cX6_fill 183 = .ok (.iload_n 3, 1) := by decide +kernel
theorem dX6_fill_184 : decode cX6_fill 184 = .ok (.iload 5, 2) := by decide +kernel
theorem dX6_fill_186 : decode cX6_fill 186 = .ok (.iadd, 1) := by decide +kernel
theorem dX6_fill_187 : decode cX6_fill 187 = .ok (.iload 12, 2) := by decide +kernel
theorem dX6_fill_189 : decode cX6_fill 189 = .ok (.iadd, 1) := by decide +kernel
theorem dX6_fill_190 : decode cX6_fill 190 = .ok (.iconst 1, 1) := by decide +kernel
theorem dX6_fill_191 : decode cX6_fill 191 = .ok (.isub, 1) := by decide +kernel
theorem dX6_fill_192 : decode cX6_fill 192 = .ok (.lload 8, 2) := by decide +kernel
theorem dX6_fill_194 : decode cX6_fill 194 = .ok (.lload 10, 2) := by decide +kernel
theorem dX6_fill_196 : decode cX6_fill 196 = .ok (.lload 8, 2) := by decide +kernel
theorem dX6_fill_198 : decode cX6_fill 198 = .ok (.lsub, 1) := by decide +kernel
theorem dX6_fill_199 : decode cX6_fill 199 = .ok (.iload 12, 2) := by decide +kernel
theorem dX6_fill_201 : decode cX6_fill 201 = .ok (.i2l, 1) := by decide +kernel
theorem dX6_fill_202 : decode cX6_fill 202 = .ok (.lmul, 1) := by decide +kernel
theorem dX6_fill_203 : decode cX6_fill 203 = .ok (.iload 7, 2) := by decide +kernel
theorem dX6_fill_205 : decode cX6_fill 205 = .ok (.iconst 1, 1) := by decide +kernel
theorem dX6_fill_206 : decode cX6_fill 206 = .ok (.iadd, 1) := by decide +kernel
theorem dX6_fill_207 : decode cX6_fill 207 = .ok (.i2l, 1) := by decide +kernel
theorem dX6_fill_208 : decode cX6_fill 208 = .ok (.ldiv, 1) := by decide +kernel
theorem dX6_fill_209 : decode cX6_fill 209 = .ok (.ladd, 1) := by decide +kernel
theorem dX6_fill_210 : decode cX6_fill 210 = .ok (.l2i, 1) := by decide +kernel
theorem dX6_fill_211 : decode cX6_fill 211 = .ok (.iastore, 1) := by decide +kernel
theorem dX6_fill_212 : decode cX6_fill 212 = .ok (.iinc 12 1, 3) := by decide +kernel
theorem dX6_fill_215 : decode cX6_fill 215 = .ok (.goto (-58), 3) := by decide +kernel
theorem dX6_fill_218 : decode cX6_fill 218 = .ok (.iload 4, 2) := by decide +kernel
theorem dX6_fill_220 : decode cX6_fill 220 = .ok (.iload 7, 2) := by decide +kernel
theorem dX6_fill_222 : decode cX6_fill 222 = .ok (.iadd, 1) := by decide +kernel
theorem dX6_fill_223 : decode cX6_fill 223 = .ok (.istore 4, 2) := by decide +kernel
theorem dX6_fill_225 : decode cX6_fill 225 = .ok (.iload 7, 2) := by decide +kernel
theorem dX6_fill_227 : decode cX6_fill 227 = .ok (.ifCond .le 8, 3) := by decide +kernel
theorem dX6_fill_230 : decode cX6_fill 230 = .ok (.iload 6, 2) := by decide +kernel
theorem dX6_fill_232 : decode cX6_fill 232 = .ok (.goto 7, 3) := by decide +kernel
theorem dX6_fill_235 : decode cX6_fill 235 = .ok (.iload 5, 2) := by decide +kernel
theorem dX6_fill_237 : decode cX6_fill 237 = .ok (.iconst 1, 1) := by decide +kernel
theorem dX6_fill_238 : decode cX6_fill 238 = .ok (.iadd, 1) := by decide +kernel
theorem dX6_fill_239 : decode cX6_fill 239 = .ok (.istore 5, 2) := by decide +kernel
theorem dX6_fill_241 : decode cX6_fill 241 = .ok (.goto (-191), 3) := by decide +kernel
theorem dX6_fill_244 : decode cX6_fill 244 = .ok (.iload 4, 2) := by decide +kernel
theorem dX6_fill_246 : decode cX6_fill 246 = .ok (.ireturn, 1) := by decide +kernel
theorem dX6_gaps_0 : decode cX6_gaps 0 = .ok (.iconst 0, 1) := by decide +kernel
theorem dX6_gaps_1 : decode cX6_gaps 1 = .ok (.istore_n 3, 1) := by decide +kernel
theorem dX6_gaps_2 : decode cX6_gaps 2 = .ok (.iconst 0, 1) := by decide +kernel
theorem dX6_gaps_3 : decode cX6_gaps 3 = .ok (.istore 4, 2) := by decide +kernel
theorem dX6_gaps_5 : decode cX6_gaps 5 = .ok (.iconst 0, 1) := by decide +kernel
theorem dX6_gaps_6 : decode cX6_gaps 6 = .ok (.istore 5, 2) := by decide +kernel
theorem dX6_gaps_8 : decode cX6_gaps 8 = .ok (.iconst 0, 1) := by decide +kernel
theorem dX6_gaps_9 : decode cX6_gaps 9 = .ok (.istore 6, 2) := by decide +kernel
theorem dX6_gaps_11 : decode cX6_gaps 11 = .ok (.iload 6, 2) := by decide +kernel
theorem dX6_gaps_13 : decode cX6_gaps 13 = .ok (.aload_n 0, 1) := by decide +kernel
theorem dX6_gaps_14 : decode cX6_gaps 14 = .ok (.getfield 17, 3) := by decide +kernel
theorem dX6_gaps_17 : decode cX6_gaps 17 = .ok (.iload_n 1, 1) := by decide +kernel
theorem dX6_gaps_18 : decode cX6_gaps 18 = .ok (.iaload, 1) := by decide +kernel
theorem dX6_gaps_19 : decode cX6_gaps 19 = .ok (.if_icmp .ge 64, 3) := by decide +kernel
theorem dX6_gaps_22 : decode cX6_gaps 22 = .ok (.aload_n 0, 1) := by decide +kernel
theorem dX6_gaps_23 : decode cX6_gaps 23 = .ok (.getfield 20, 3) := by decide +kernel
theorem dX6_gaps_26 : decode cX6_gaps 26 = .ok (.bipush 64, 2) := by decide +kernel
theorem dX6_gaps_28 : decode cX6_gaps 28 = .ok (.iload_n 1, 1) := by decide +kernel
theorem dX6_gaps_29 : decode cX6_gaps 29 = .ok (.imul, 1) := by decide +kernel
theorem dX6_gaps_30 : decode cX6_gaps 30 = .ok (.iload 6, 2) := by decide +kernel
theorem dX6_gaps_32 : decode cX6_gaps 32 = .ok (.iadd, 1) := by decide +kernel
theorem dX6_gaps_33 : decode cX6_gaps 33 = .ok (.iaload, 1) := by decide +kernel
theorem dX6_gaps_34 : decode cX6_gaps 34 = .ok (.ifCond .ne 10, 3) := by decide +kernel
theorem dX6_gaps_37 : decode cX6_gaps 37 = .ok (.iload 5, 2) := by decide +kernel
theorem dX6_gaps_39 : decode cX6_gaps 39 = .ok (.iconst 1, 1) := by decide +kernel
theorem dX6_gaps_40 : decode cX6_gaps 40 = .ok (.iadd, 1) := by decide +kernel
theorem dX6_gaps_41 : decode cX6_gaps 41 = .ok (.goto 4, 3) := by decide +kernel
theorem dX6_gaps_44 : decode cX6_gaps 44 = .ok (.iconst 0, 1) := by decide +kernel
theorem dX6_gaps_45 : decode cX6_gaps 45 = .ok (.istore 5, 2) := by decide +kernel
theorem dX6_gaps_47 : decode cX6_gaps 47 = .ok (.iload_n 3, 1) := by decide +kernel
theorem dX6_gaps_48 : decode cX6_gaps 48 = .ok (.iload 5, 2) := by decide +kernel
theorem dX6_gaps_50 : decode cX6_gaps 50 = .ok (.iconst 1, 1) := by decide +kernel
theorem dX6_gaps_51 : decode cX6_gaps 51 = .ok (.if_icmp .ne 7, 3) := by decide +kernel
theorem dX6_gaps_54 : decode cX6_gaps 54 = .ok (.iconst 1, 1) := by decide +kernel
theorem dX6_gaps_55 : decode cX6_gaps 55 = .ok (.goto 4, 3) := by decide +kernel
theorem dX6_gaps_58 : decode cX6_gaps 58 = .ok (.iconst 0, 1) := by decide +kernel
theorem dX6_gaps_59 : decode cX6_gaps 59 = .ok (.iadd, 1) := by decide +kernel
theorem dX6_gaps_60 : decode cX6_gaps 60 = .ok (.istore_n 3, 1) := by decide +kernel
theorem dX6_gaps_61 : decode cX6_gaps 61 = .ok (.iload 5, 2) := by decide +kernel
theorem dX6_gaps_63 : decode cX6_gaps 63 = .ok (.iload 4, 2) := by decide +kernel
theorem dX6_gaps_65 : decode cX6_gaps 65 = .ok (.if_icmp .le 8, 3) := by decide +kernel
theorem dX6_gaps_68 : decode cX6_gaps 68 = .ok (.iload 5, 2) := by decide +kernel
theorem dX6_gaps_70 : decode cX6_gaps 70 = .ok (.goto 5, 3) := by decide +kernel
theorem dX6_gaps_73 : decode cX6_gaps 73 = .ok (.iload 4, 2) := by decide +kernel
theorem dX6_gaps_75 : decode cX6_gaps 75 = .ok (.istore 4, 2) := by decide +kernel
theorem dX6_gaps_77 : decode cX6_gaps 77 = .ok (.iinc 6 1, 3) := by decide +kernel
theorem dX6_gaps_80 : decode cX6_gaps 80 = .ok (.goto (-69), 3) := by decide +kernel
theorem dX6_gaps_83 : decode cX6_gaps 83 = .ok (.iload_n 2, 1) := by decide +kernel
theorem dX6_gaps_84 : decode cX6_gaps 84 = .ok (.ifCond .eq 8, 3) := by decide +kernel
theorem dX6_gaps_87 : decode cX6_gaps 87 = .ok (.iload 4, 2) := by decide +kernel
theorem dX6_gaps_89 : decode cX6_gaps 89 = .ok (.goto 4, 3) := by decide +kernel
theorem dX6_gaps_92 : decode cX6_gaps 92 = .ok (.iload_n 3, 1) := by decide +kernel
theorem dX6_gaps_93 : decode cX6_gaps 93 = .ok (.ireturn, 1) := by decide +kernel
theorem dX6_those_0 : decode cX6_those 0 = .ok (.iconst 0, 1) := by decide +kernel
theorem dX6_those_1 : decode cX6_those 1 = .ok (.istore_n 3, 1) := by decide +kernel
theorem dX6_those_2 : decode cX6_those 2 = .ok (.iconst 0, 1) := by decide +kernel
theorem dX6_those_3 : decode cX6_those 3 = .ok (.istore 4, 2) := by decide +kernel
theorem dX6_those_5 : decode cX6_those 5 = .ok (.iload 4, 2) := by decide +kernel
theorem dX6_those_7 : decode cX6_those 7 = .ok (.aload_n 0, 1) := by decide +kernel
theorem dX6_those_8 : decode cX6_those 8 = .ok (.getfield 17, 3) := by decide +kernel
theorem dX6_those_11 : decode cX6_those 11 = .ok (.iload_n 1, 1) := by decide +kernel
theorem dX6_those_12 : decode cX6_those 12 = .ok (.iaload, 1) := by decide +kernel
theorem dX6_those_13 : decode cX6_those 13 = .ok (.if_icmp .ge 33, 3) := by decide +kernel
theorem dX6_those_16 : decode cX6_those 16 = .ok (.iload_n 3, 1) := by decide +kernel
theorem dX6_those_17 : decode cX6_those 17 = .ok (.aload_n 0, 1) := by decide +kernel
theorem dX6_those_18 : decode cX6_those 18 = .ok (.getfield 20, 3) := by decide +kernel
theorem dX6_those_21 : decode cX6_those 21 = .ok (.bipush 64, 2) := by decide +kernel
theorem dX6_those_23 : decode cX6_those 23 = .ok (.iload_n 1, 1) := by decide +kernel
theorem dX6_those_24 : decode cX6_those 24 = .ok (.imul, 1) := by decide +kernel
theorem dX6_those_25 : decode cX6_those 25 = .ok (.iload 4, 2) := by decide +kernel
theorem dX6_those_27 : decode cX6_those 27 = .ok (.iadd, 1) := by decide +kernel
theorem dX6_those_28 : decode cX6_those 28 = .ok (.iaload, 1) := by decide +kernel
theorem dX6_those_29 : decode cX6_those 29 = .ok (.iload_n 2, 1) := by decide +kernel
theorem dX6_those_30 : decode cX6_those 30 = .ok (.if_icmp .ne 7, 3) := by decide +kernel
theorem dX6_those_33 : decode cX6_those 33 = .ok (.iconst 1, 1) := by decide +kernel
theorem dX6_those_34 : decode cX6_those 34 = .ok (.goto 4, 3) := by decide +kernel
theorem dX6_those_37 : decode cX6_those 37 = .ok (.iconst 0, 1) := by decide +kernel
theorem dX6_those_38 : decode cX6_those 38 = .ok (.iadd, 1) := by decide +kernel
theorem dX6_those_39 : decode cX6_those 39 = .ok (.istore_n 3, 1) := by decide +kernel
theorem dX6_those_40 : decode cX6_those 40 = .ok (.iinc 4 1, 3) := by decide +kernel
theorem dX6_those_43 : decode cX6_those 43 = .ok (.goto (-38), 3) := by decide +kernel
theorem dX6_those_46 : decode cX6_those 46 = .ok (.iload_n 3, 1) := by decide +kernel
theorem dX6_those_47 : decode cX6_those 47 = .ok (.ireturn, 1) := by decide +kernel
theorem dX6_about_0 : decode cX6_about 0 = .ok (.iload_n 1, 1) := by decide +kernel
theorem dX6_about_1 : decode cX6_about 1 = .ok (.i2l, 1) := by decide +kernel
theorem dX6_about_2 : decode cX6_about 2 = .ok (.lconst 0, 1) := by decide +kernel
theorem dX6_about_3 : decode cX6_about 3 = .ok (.ldc2_w 58, 3) := by decide +kernel
theorem dX6_about_6 : decode cX6_about 6 = .ok (.invokestatic 60, 3) := by decide +kernel
theorem dX6_about_9 : decode cX6_about 9 = .ok (.ifCond .eq 15, 3) := by decide +kernel
theorem dX6_about_12 : decode cX6_about 12 = .ok (.iload_n 2, 1) := by decide +kernel
theorem dX6_about_13 : decode cX6_about 13 = .ok (.i2l, 1) := by decide +kernel
theorem dX6_about_14 : decode cX6_about 14 = .ok (.lconst 0, 1) := by decide +kernel
theorem dX6_about_15 : decode cX6_about 15 = .ok (.ldc2_w 90, 3) := by decide +kernel
theorem dX6_about_18 : decode cX6_about 18 = .ok (.invokestatic 60, 3) := by decide +kernel
theorem dX6_about_21 : decode cX6_about 21 = .ok (.ifCond .ne 6, 3) := by decide +kernel
theorem dX6_about_24 : decode cX6_about 24 = .ok (.bipush (-2), 2) := by decide +kernel
theorem dX6_about_26 : decode cX6_about 26 = .ok (.ireturn, 1) := by decide +kernel
theorem dX6_about_27 : decode cX6_about 27 = .ok (.aload_n 0, 1) := by decide +kernel
theorem dX6_about_28 : decode cX6_about 28 = .ok (.getfield 7, 3) := by decide +kernel
theorem dX6_about_31 : decode cX6_about 31 = .ok (.iload_n 1, 1) := by decide +kernel
theorem dX6_about_32 : decode cX6_about 32 = .ok (.baload, 1) := by decide +kernel
theorem dX6_about_33 : decode cX6_about 33 = .ok (.ifCond .ne 6, 3) := by decide +kernel
theorem dX6_about_36 : decode cX6_about 36 = .ok (.bipush (-10), 2) := by decide +kernel
theorem dX6_about_38 : decode cX6_about 38 = .ok (.ireturn, 1) := by decide +kernel
theorem dX6_about_39 : decode cX6_about 39 = .ok (.iload_n 2, 1) := by decide +kernel
theorem dX6_about_40 : decode cX6_about 40 = .ok (.tableswitch 71 0 4 #[36, 43, 50, 57, 64], 36) := by decide +kernel
theorem dX6_about_76 : decode cX6_about 76 = .ok (.aload_n 0, 1) := by decide +kernel
theorem dX6_about_77 : decode cX6_about 77 = .ok (.getfield 13, 3) := by decide +kernel
theorem dX6_about_80 : decode cX6_about 80 = .ok (.iload_n 1, 1) := by decide +kernel
theorem dX6_about_81 : decode cX6_about 81 = .ok (.iaload, 1) := by decide +kernel
theorem dX6_about_82 : decode cX6_about 82 = .ok (.ireturn, 1) := by decide +kernel
theorem dX6_about_83 : decode cX6_about 83 = .ok (.aload_n 0, 1) := by decide +kernel
theorem dX6_about_84 : decode cX6_about 84 = .ok (.getfield 17, 3) := by decide +kernel
theorem dX6_about_87 : decode cX6_about 87 = .ok (.iload_n 1, 1) := by decide +kernel
theorem dX6_about_88 : decode cX6_about 88 = .ok (.iaload, 1) := by decide +kernel
theorem dX6_about_89 : decode cX6_about 89 = .ok (.ireturn, 1) := by decide +kernel
theorem dX6_about_90 : decode cX6_about 90 = .ok (.aload_n 0, 1) := by decide +kernel
theorem dX6_about_91 : decode cX6_about 91 = .ok (.iload_n 1, 1) := by decide +kernel
theorem dX6_about_92 : decode cX6_about 92 = .ok (.iconst 0, 1) := by decide +kernel
theorem dX6_about_93 : decode cX6_about 93 = .ok (.invokevirtual 92, 3) := by decide +kernel
theorem dX6_about_96 : decode cX6_about 96 = .ok (.ireturn, 1) := by decide +kernel
theorem dX6_about_97 : decode cX6_about 97 = .ok (.aload_n 0, 1) := by decide +kernel
theorem dX6_about_98 : decode cX6_about 98 = .ok (.iload_n 1, 1) := by decide +kernel
theorem dX6_about_99 : decode cX6_about 99 = .ok (.iconst 1, 1) := by decide +kernel
theorem dX6_about_100 : decode cX6_about 100 = .ok (.invokevirtual 92, 3) := by decide +kernel
theorem dX6_about_103 : decode cX6_about 103 = .ok (.ireturn, 1) := by decide +kernel
theorem dX6_about_104 : decode cX6_about 104 = .ok (.aload_n 0, 1) := by decide +kernel
theorem dX6_about_105 : decode cX6_about 105 = .ok (.iload_n 1, 1) := by decide +kernel
theorem dX6_about_106 : decode cX6_about 106 = .ok (.iconst 0, 1) := by decide +kernel
theorem dX6_about_107 : decode cX6_about 107 = .ok (.invokevirtual 96, 3) := by decide +kernel
theorem dX6_about_110 : decode cX6_about 110 = .ok (.ireturn, 1) := by decide +kernel
theorem dX6_about_111 : decode cX6_about 111 = .ok (.aload_n 0, 1) := by decide +kernel
theorem dX6_about_112 : decode cX6_about 112 = .ok (.iload_n 1, 1) := by decide +kernel
theorem dX6_about_113 : decode cX6_about 113 = .ok (.iconst 2, 1) := by decide +kernel
theorem dX6_about_114 : decode cX6_about 114 = .ok (.invokevirtual 96, 3) := by decide +kernel
theorem dX6_about_117 : decode cX6_about 117 = .ok (.ireturn, 1) := by decide +kernel
theorem dX6_isRow_0 : decode cX6_isRow 0 = .ok (.iload_n 0, 1) := by decide +kernel
theorem dX6_isRow_1 : decode cX6_isRow 1 = .ok (.i2l, 1) := by decide +kernel
theorem dX6_isRow_2 : decode cX6_isRow 2 = .ok (.lconst 0, 1) := by decide +kernel
theorem dX6_isRow_3 : decode cX6_isRow 3 = .ok (.ldc2_w 90, 3) := by decide +kernel
theorem dX6_isRow_6 : decode cX6_isRow 6 = .ok (.invokestatic 60, 3) := by decide +kernel
theorem dX6_isRow_9 : decode cX6_isRow 9 = .ok (.ireturn, 1) := by decide +kernel
theorem dX6_raise_0 : decode cX6_raise 0 = .ok (.iload_n 1, 1) := by decide +kernel
theorem dX6_raise_1 : decode cX6_raise 1 = .ok (.i2l, 1) := by decide +kernel
theorem dX6_raise_2 : decode cX6_raise 2 = .ok (.lconst 0, 1) := by decide +kernel
theorem dX6_raise_3 : decode cX6_raise 3 = .ok (.ldc2_w 58, 3) := by decide +kernel
theorem dX6_raise_6 : decode cX6_raise 6 = .ok (.invokestatic 60, 3) := by decide +kernel
theorem dX6_raise_9 : decode cX6_raise 9 = .ok (.ifCond .eq 10, 3) := by decide +kernel
theorem dX6_raise_12 : decode cX6_raise 12 = .ok (.iload_n 2, 1) := by decide +kernel
theorem dX6_raise_13 : decode cX6_raise 13 = .ok (.invokestatic 100, 3) := by decide +kernel
theorem dX6_raise_16 : decode cX6_raise 16 = .ok (.ifCond .ne 6, 3) := by decide +kernel
theorem dX6_raise_19 : decode cX6_raise 19 = .ok (.bipush (-2), 2) := by decide +kernel
theorem dX6_raise_21 : decode cX6_raise 21 = .ok (.ireturn, 1) := by decide +kernel
theorem dX6_raise_22 : decode cX6_raise 22 = .ok (.aload_n 0, 1) := by decide +kernel
theorem dX6_raise_23 : decode cX6_raise 23 = .ok (.getfield 7, 3) := by decide +kernel
theorem dX6_raise_26 : decode cX6_raise 26 = .ok (.iload_n 1, 1) := by decide +kernel
theorem dX6_raise_27 : decode cX6_raise 27 = .ok (.baload, 1) := by decide +kernel
theorem dX6_raise_28 : decode cX6_raise 28 = .ok (.ifCond .ne 6, 3) := by decide +kernel
theorem dX6_raise_31 : decode cX6_raise 31 = .ok (.bipush (-10), 2) := by decide +kernel
theorem dX6_raise_33 : decode cX6_raise 33 = .ok (.ireturn, 1) := by decide +kernel
theorem dX6_raise_34 : decode cX6_raise 34 = .ok (.aload_n 0, 1) := by decide +kernel
theorem dX6_raise_35 : decode cX6_raise 35 = .ok (.iload_n 1, 1) := by decide +kernel
theorem dX6_raise_36 : decode cX6_raise 36 = .ok (.iconst 0, 1) := by decide +kernel
theorem dX6_raise_37 : decode cX6_raise 37 = .ok (.invokevirtual 96, 3) := by decide +kernel
theorem dX6_raise_40 : decode cX6_raise 40 = .ok (.ifCond .le 6, 3) := by decide +kernel
theorem dX6_raise_43 : decode cX6_raise 43 = .ok (.bipush (-15), 2) := by decide +kernel
theorem dX6_raise_45 : decode cX6_raise 45 = .ok (.ireturn, 1) := by decide +kernel
theorem dX6_raise_46 : decode cX6_raise 46 = .ok (.aload_n 0, 1) := by decide +kernel
theorem dX6_raise_47 : decode cX6_raise 47 = .ok (.getfield 26, 3) := by decide +kernel
theorem dX6_raise_50 : decode cX6_raise 50 = .ok (.iload_n 2, 1) := by decide +kernel
theorem dX6_raise_51 : decode cX6_raise 51 = .ok (.aload_n 0, 1) := by decide +kernel
theorem dX6_raise_52 : decode cX6_raise 52 = .ok (.getfield 17, 3) := by decide +kernel
theorem dX6_raise_55 : decode cX6_raise 55 = .ok (.iload_n 1, 1) := by decide +kernel
theorem dX6_raise_56 : decode cX6_raise 56 = .ok (.iaload, 1) := by decide +kernel
theorem dX6_raise_57 : decode cX6_raise 57 = .ok (.iastore, 1) := by decide +kernel
theorem dX6_raise_58 : decode cX6_raise 58 = .ok (.iconst 0, 1) := by decide +kernel
theorem dX6_raise_59 : decode cX6_raise 59 = .ok (.istore_n 3, 1) := by decide +kernel
theorem dX6_raise_60 : decode cX6_raise 60 = .ok (.iload_n 3, 1) := by decide +kernel
theorem dX6_raise_61 : decode cX6_raise 61 = .ok (.aload_n 0, 1) := by decide +kernel
theorem dX6_raise_62 : decode cX6_raise 62 = .ok (.getfield 17, 3) := by decide +kernel
theorem dX6_raise_65 : decode cX6_raise 65 = .ok (.iload_n 1, 1) := by decide +kernel
theorem dX6_raise_66 : decode cX6_raise 66 = .ok (.iaload, 1) := by decide +kernel
theorem dX6_raise_67 : decode cX6_raise 67 = .ok (.if_icmp .ge 32, 3) := by decide +kernel
theorem dX6_raise_70 : decode cX6_raise 70 = .ok (.aload_n 0, 1) := by decide +kernel
theorem dX6_raise_71 : decode cX6_raise 71 = .ok (.getfield 29, 3) := by decide +kernel
theorem dX6_raise_74 : decode cX6_raise 74 = .ok (.bipush 64, 2) := by decide +kernel
theorem dX6_raise_76 : decode cX6_raise 76 = .ok (.iload_n 2, 1) := by decide +kernel
theorem dX6_raise_77 : decode cX6_raise 77 = .ok (.imul, 1) := by decide +kernel
theorem dX6_raise_78 : decode cX6_raise 78 = .ok (.iload_n 3, 1) := by decide +kernel
theorem dX6_raise_79 : decode cX6_raise 79 = .ok (.iadd, 1) := by decide +kernel
theorem dX6_raise_80 : decode cX6_raise 80 = .ok (.aload_n 0, 1) := by decide +kernel
theorem dX6_raise_81 : decode cX6_raise 81 = .ok (.getfield 23, 3) := by decide +kernel
theorem dX6_raise_84 : decode cX6_raise 84 = .ok (.bipush 64, 2) := by decide +kernel
theorem dX6_raise_86 : decode cX6_raise 86 = .ok (.iload_n 1, 1) := by decide +kernel
theorem dX6_raise_87 : decode cX6_raise 87 = .ok (.imul, 1) := by decide +kernel
theorem dX6_raise_88 : decode cX6_raise 88 = .ok (.iload_n 3, 1) := by decide +kernel
theorem dX6_raise_89 : decode cX6_raise 89 = .ok (.iadd, 1) := by decide +kernel
end
section
theorem dX6_raise_90 : decode cX6_raise 90 = .ok (.iaload, 1) := by decide +kernel
theorem dX6_raise_91 : decode cX6_raise 91 = .ok (.i2l, 1) := by decide +kernel
theorem dX6_raise_92 : decode cX6_raise 92 = .ok (.lastore, 1) := by decide +kernel
theorem dX6_raise_93 : decode cX6_raise 93 = .ok (.iinc 3 1, 3) := by decide +kernel
theorem dX6_raise_96 : decode cX6_raise 96 = .ok (.goto (-36), 3) := by decide +kernel
theorem dX6_raise_99 : decode cX6_raise 99 = .ok (.aload_n 0, 1) := by decide +kernel
theorem dX6_raise_100 : decode cX6_raise 100 = .ok (.getfield 17, 3) := by decide +kernel
theorem dX6_raise_103 : decode cX6_raise 103 = .ok (.iload_n 1, 1) := by decide +kernel
theorem dX6_raise_104 : decode cX6_raise 104 = .ok (.iaload, 1) := by decide +kernel
theorem dX6_raise_105 : decode cX6_raise 105 = .ok (.ireturn, 1) := by decide +kernel
theorem dX6_number_0 : decode cX6_number 0 = .ok (.iload_n 1, 1) := by decide +kernel
theorem dX6_number_1 : decode cX6_number 1 = .ok (.invokestatic 100, 3) := by decide +kernel
theorem dX6_number_4 : decode cX6_number 4 = .ok (.ifCond .ne 7, 3) := by decide +kernel
theorem dX6_number_7 : decode cX6_number 7 = .ok (.ldc2_w 104, 3) := by decide +kernel
theorem dX6_number_10 : decode cX6_number 10 = .ok (.lreturn, 1) := by decide +kernel
theorem dX6_number_11 : decode cX6_number 11 = .ok (.iload_n 2, 1) := by decide +kernel
theorem dX6_number_12 : decode cX6_number 12 = .ok (.i2l, 1) := by decide +kernel
theorem dX6_number_13 : decode cX6_number 13 = .ok (.lconst 0, 1) := by decide +kernel
theorem dX6_number_14 : decode cX6_number 14 = .ok (.aload_n 0, 1) := by decide +kernel
theorem dX6_number_15 : decode cX6_number 15 = .ok (.getfield 26, 3) := by decide +kernel
theorem dX6_number_18 : decode cX6_number 18 = .ok (.iload_n 1, 1) := by decide +kernel
theorem dX6_number_19 : decode cX6_number 19 = .ok (.iaload, 1) := by decide +kernel
theorem dX6_number_20 : decode cX6_number 20 = .ok (.iconst 1, 1) := by decide +kernel
theorem dX6_number_21 : decode cX6_number 21 = .ok (.isub, 1) := by decide +kernel
theorem dX6_number_22 : decode cX6_number 22 = .ok (.i2l, 1) := by decide +kernel
theorem dX6_number_23 : decode cX6_number 23 = .ok (.invokestatic 60, 3) := by decide +kernel
theorem dX6_number_26 : decode cX6_number 26 = .ok (.ifCond .eq 17, 3) := by decide +kernel
theorem dX6_number_29 : decode cX6_number 29 = .ok (.aload_n 0, 1) := by decide +kernel
theorem dX6_number_30 : decode cX6_number 30 = .ok (.getfield 29, 3) := by decide +kernel
theorem dX6_number_33 : decode cX6_number 33 = .ok (.bipush 64, 2) := by decide +kernel
theorem dX6_number_35 : decode cX6_number 35 = .ok (.iload_n 1, 1) := by decide +kernel
theorem dX6_number_36 : decode cX6_number 36 = .ok (.imul, 1) := by decide +kernel
theorem dX6_number_37 : decode cX6_number 37 = .ok (.iload_n 2, 1) := by decide +kernel
theorem dX6_number_38 : decode cX6_number 38 = .ok (.iadd, 1) := by decide +kernel
theorem dX6_number_39 : decode cX6_number 39 = .ok (.laload, 1) := by decide +kernel
theorem dX6_number_40 : decode cX6_number 40 = .ok (.goto 6, 3) := by decide +kernel
theorem dX6_number_43 : decode cX6_number 43 = .ok (.ldc2_w 84, 3) := by decide +kernel
theorem dX6_number_46 : decode cX6_number 46 = .ok (.lreturn, 1) := by decide +kernel
theorem dX6_factor_0 : decode cX6_factor 0 = .ok (.iload_n 0, 1) := by decide +kernel
theorem dX6_factor_1 : decode cX6_factor 1 = .ok (.ifCond .ne 17, 3) := by decide +kernel
theorem dX6_factor_4 : decode cX6_factor 4 = .ok (.iload_n 2, 1) := by decide +kernel
theorem dX6_factor_5 : decode cX6_factor 5 = .ok (.iload_n 3, 1) := by decide +kernel
theorem dX6_factor_6 : decode cX6_factor 6 = .ok (.if_icmp .ne 7, 3) := by decide +kernel
theorem dX6_factor_9 : decode cX6_factor 9 = .ok (.iload_n 1, 1) := by decide +kernel
theorem dX6_factor_10 : decode cX6_factor 10 = .ok (.goto 4, 3) := by decide +kernel
theorem dX6_factor_13 : decode cX6_factor 13 = .ok (.iconst 0, 1) := by decide +kernel
theorem dX6_factor_14 : decode cX6_factor 14 = .ok (.iconst 1, 1) := by decide +kernel
theorem dX6_factor_15 : decode cX6_factor 15 = .ok (.isub, 1) := by decide +kernel
theorem dX6_factor_16 : decode cX6_factor 16 = .ok (.i2l, 1) := by decide +kernel
theorem dX6_factor_17 : decode cX6_factor 17 = .ok (.lreturn, 1) := by decide +kernel
theorem dX6_factor_18 : decode cX6_factor 18 = .ok (.iload_n 0, 1) := by decide +kernel
theorem dX6_factor_19 : decode cX6_factor 19 = .ok (.iconst 1, 1) := by decide +kernel
theorem dX6_factor_20 : decode cX6_factor 20 = .ok (.if_icmp .ne 52, 3) := by decide +kernel
theorem dX6_factor_23 : decode cX6_factor 23 = .ok (.iload_n 1, 1) := by decide +kernel
theorem dX6_factor_24 : decode cX6_factor 24 = .ok (.i2l, 1) := by decide +kernel
theorem dX6_factor_25 : decode cX6_factor 25 = .ok (.iload_n 1, 1) := by decide +kernel
theorem dX6_factor_26 : decode cX6_factor 26 = .ok (.i2l, 1) := by decide +kernel
theorem dX6_factor_27 : decode cX6_factor 27 = .ok (.lmul, 1) := by decide +kernel
theorem dX6_factor_28 : decode cX6_factor 28 = .ok (.lconst 1, 1) := by decide +kernel
theorem dX6_factor_29 : decode cX6_factor 29 = .ok (.lsub, 1) := by decide +kernel
theorem dX6_factor_30 : decode cX6_factor 30 = .ok (.lstore 4, 2) := by decide +kernel
theorem dX6_factor_32 : decode cX6_factor 32 = .ok (.iload_n 2, 1) := by decide +kernel
theorem dX6_factor_33 : decode cX6_factor 33 = .ok (.iload_n 3, 1) := by decide +kernel
theorem dX6_factor_34 : decode cX6_factor 34 = .ok (.if_icmp .ne 11, 3) := by decide +kernel
theorem dX6_factor_37 : decode cX6_factor 37 = .ok (.iload_n 1, 1) := by decide +kernel
theorem dX6_factor_38 : decode cX6_factor 38 = .ok (.i2l, 1) := by decide +kernel
theorem dX6_factor_39 : decode cX6_factor 39 = .ok (.lload 4, 2) := by decide +kernel
theorem dX6_factor_41 : decode cX6_factor 41 = .ok (.lmul, 1) := by decide +kernel
theorem dX6_factor_42 : decode cX6_factor 42 = .ok (.goto 4, 3) := by decide +kernel
theorem dX6_factor_45 : decode cX6_factor 45 = .ok (.lconst 0, 1) := by decide +kernel
theorem dX6_factor_46 : decode cX6_factor 46 = .ok (.lload 4, 2) := by decide +kernel
theorem dX6_factor_48 : decode cX6_factor 48 = .ok (.lsub, 1) := by decide +kernel
theorem dX6_factor_49 : decode cX6_factor 49 = .ok (.ldc2_w 106, 3) := by decide +kernel
theorem dX6_factor_52 : decode cX6_factor 52 = .ok (.iconst 2, 1) := by decide +kernel
theorem dX6_factor_53 : decode cX6_factor 53 = .ok (.iload_n 2, 1) := by decide +kernel
theorem dX6_factor_54 : decode cX6_factor 54 = .ok (.imul, 1) := by decide +kernel
theorem dX6_factor_55 : decode cX6_factor 55 = .ok (.iload_n 1, 1) := by decide +kernel
theorem dX6_factor_56 : decode cX6_factor 56 = .ok (.isub, 1) := by decide +kernel
theorem dX6_factor_57 : decode cX6_factor 57 = .ok (.iconst 1, 1) := by decide +kernel
theorem dX6_factor_58 : decode cX6_factor 58 = .ok (.iadd, 1) := by decide +kernel
theorem dX6_factor_59 : decode cX6_factor 59 = .ok (.i2l, 1) := by decide +kernel
theorem dX6_factor_60 : decode cX6_factor 60 = .ok (.lmul, 1) := by decide +kernel
theorem dX6_factor_61 : decode cX6_factor 61 = .ok (.iconst 2, 1) := by decide +kernel
theorem dX6_factor_62 : decode cX6_factor 62 = .ok (.iload_n 3, 1) := by decide +kernel
theorem dX6_factor_63 : decode cX6_factor 63 = .ok (.imul, 1) := by decide +kernel
theorem dX6_factor_64 : decode cX6_factor 64 = .ok (.iload_n 1, 1) := by decide +kernel
theorem dX6_factor_65 : decode cX6_factor 65 = .ok (.isub, 1) := by decide +kernel
theorem dX6_factor_66 : decode cX6_factor 66 = .ok (.iconst 1, 1) := by decide +kernel
theorem dX6_factor_67 : decode cX6_factor 67 = .ok (.iadd, 1) := by decide +kernel
theorem dX6_factor_68 : decode cX6_factor 68 = .ok (.i2l, 1) := by decide +kernel
theorem dX6_factor_69 : decode cX6_factor 69 = .ok (.lmul, 1) := by decide +kernel
theorem dX6_factor_70 : decode cX6_factor 70 = .ok (.lsub, 1) := by decide +kernel
theorem dX6_factor_71 : decode cX6_factor 71 = .ok (.lreturn, 1) := by decide +kernel
theorem dX6_factor_72 : decode cX6_factor 72 = .ok (.iload_n 0, 1) := by decide +kernel
theorem dX6_factor_73 : decode cX6_factor 73 = .ok (.iconst 2, 1) := by decide +kernel
theorem dX6_factor_74 : decode cX6_factor 74 = .ok (.if_icmp .ne 43, 3) := by decide +kernel
theorem dX6_factor_77 : decode cX6_factor 77 = .ok (.iload_n 3, 1) := by decide +kernel
theorem dX6_factor_78 : decode cX6_factor 78 = .ok (.iload_n 2, 1) := by decide +kernel
theorem dX6_factor_79 : decode cX6_factor 79 = .ok (.if_icmp .ge 15, 3) := by decide +kernel
theorem dX6_factor_82 : decode cX6_factor 82 = .ok (.iload_n 1, 1) := by decide +kernel
theorem dX6_factor_83 : decode cX6_factor 83 = .ok (.iconst 1, 1) := by decide +kernel
theorem dX6_factor_84 : decode cX6_factor 84 = .ok (.isub, 1) := by decide +kernel
theorem dX6_factor_85 : decode cX6_factor 85 = .ok (.i2l, 1) := by decide +kernel
theorem dX6_factor_86 : decode cX6_factor 86 = .ok (.iload_n 2, 1) := by decide +kernel
theorem dX6_factor_87 : decode cX6_factor 87 = .ok (.iload_n 3, 1) := by decide +kernel
theorem dX6_factor_88 : decode cX6_factor 88 = .ok (.isub, 1) := by decide +kernel
theorem dX6_factor_89 : decode cX6_factor 89 = .ok (.i2l, 1) := by decide +kernel
theorem dX6_factor_90 : decode cX6_factor 90 = .ok (.lmul, 1) := by decide +kernel
theorem dX6_factor_91 : decode cX6_factor 91 = .ok (.goto 4, 3) := by decide +kernel
theorem dX6_factor_94 : decode cX6_factor 94 = .ok (.lconst 0, 1) := by decide +kernel
theorem dX6_factor_95 : decode cX6_factor 95 = .ok (.iload_n 3, 1) := by decide +kernel
theorem dX6_factor_96 : decode cX6_factor 96 = .ok (.iload_n 1, 1) := by decide +kernel
theorem dX6_factor_97 : decode cX6_factor 97 = .ok (.iconst 1, 1) := by decide +kernel
theorem dX6_factor_98 : decode cX6_factor 98 = .ok (.isub, 1) := by decide +kernel
theorem dX6_factor_99 : decode cX6_factor 99 = .ok (.if_icmp .ge 15, 3) := by decide +kernel
theorem dX6_factor_102 : decode cX6_factor 102 = .ok (.iload_n 2, 1) := by decide +kernel
theorem dX6_factor_103 : decode cX6_factor 103 = .ok (.i2l, 1) := by decide +kernel
theorem dX6_factor_104 : decode cX6_factor 104 = .ok (.iload_n 1, 1) := by decide +kernel
theorem dX6_factor_105 : decode cX6_factor 105 = .ok (.iconst 1, 1) := by decide +kernel
theorem dX6_factor_106 : decode cX6_factor 106 = .ok (.isub, 1) := by decide +kernel
theorem dX6_factor_107 : decode cX6_factor 107 = .ok (.iload_n 3, 1) := by decide +kernel
theorem dX6_factor_108 : decode cX6_factor 108 = .ok (.isub, 1) := by decide +kernel
theorem dX6_factor_109 : decode cX6_factor 109 = .ok (.i2l, 1) := by decide +kernel
theorem dX6_factor_110 : decode cX6_factor 110 = .ok (.lmul, 1) := by decide +kernel
theorem dX6_factor_111 : decode cX6_factor 111 = .ok (.goto 4, 3) := by decide +kernel
theorem dX6_factor_114 : decode cX6_factor 114 = .ok (.lconst 0, 1) := by decide +kernel
theorem dX6_factor_115 : decode cX6_factor 115 = .ok (.lsub, 1) := by decide +kernel
theorem dX6_factor_116 : decode cX6_factor 116 = .ok (.lreturn, 1) := by decide +kernel
theorem dX6_factor_117 : decode cX6_factor 117 = .ok (.iconst 0, 1) := by decide +kernel
theorem dX6_factor_118 : decode cX6_factor 118 = .ok (.istore 4, 2) := by decide +kernel
theorem dX6_factor_120 : decode cX6_factor 120 = .ok (.iload_n 2, 1) := by decide +kernel
theorem dX6_factor_121 : decode cX6_factor 121 = .ok (.iload_n 2, 1) := by decide +kernel
theorem dX6_factor_122 : decode cX6_factor 122 = .ok (.iconst 1, 1) := by decide +kernel
theorem dX6_factor_123 : decode cX6_factor 123 = .ok (.ishr, 1) := by decide +kernel
theorem dX6_factor_124 : decode cX6_factor 124 = .ok (.ixor, 1) := by decide +kernel
theorem dX6_factor_125 : decode cX6_factor 125 = .ok (.istore 5, 2) := by decide +kernel
theorem dX6_factor_127 : decode cX6_factor 127 = .ok (.iconst 1, 1) := by decide +kernel
theorem dX6_factor_128 : decode cX6_factor 128 = .ok (.istore 6, 2) := by decide +kernel
theorem dX6_factor_130 : decode cX6_factor 130 = .ok (.iload 6, 2) := by decide +kernel
theorem dX6_factor_132 : decode cX6_factor 132 = .ok (.iload_n 1, 1) := by decide +kernel
theorem dX6_factor_133 : decode cX6_factor 133 = .ok (.if_icmp .ge 29, 3) := by decide +kernel
theorem dX6_factor_136 : decode cX6_factor 136 = .ok (.iconst 2, 1) := by decide +kernel
theorem dX6_factor_137 : decode cX6_factor 137 = .ok (.iload 4, 2) := by decide +kernel
theorem dX6_factor_139 : decode cX6_factor 139 = .ok (.imul, 1) := by decide +kernel
theorem dX6_factor_140 : decode cX6_factor 140 = .ok (.iload 5, 2) := by decide +kernel
theorem dX6_factor_142 : decode cX6_factor 142 = .ok (.iconst 1, 1) := by decide +kernel
theorem dX6_factor_143 : decode cX6_factor 143 = .ok (.iand, 1) := by decide +kernel
theorem dX6_factor_144 : decode cX6_factor 144 = .ok (.iadd, 1) := by decide +kernel
theorem dX6_factor_145 : decode cX6_factor 145 = .ok (.istore 4, 2) := by decide +kernel
theorem dX6_factor_147 : decode cX6_factor 147 = .ok (.iload 5, 2) := by decide +kernel
theorem dX6_factor_149 : decode cX6_factor 149 = .ok (.iconst 1, 1) := by decide +kernel
theorem dX6_factor_150 : decode cX6_factor 150 = .ok (.ishr, 1) := by decide +kernel
theorem dX6_factor_151 : decode cX6_factor 151 = .ok (.istore 5, 2) := by decide +kernel
theorem dX6_factor_153 : decode cX6_factor 153 = .ok (.iconst 2, 1) := by decide +kernel
theorem dX6_factor_154 : decode cX6_factor 154 = .ok (.iload 6, 2) := by decide +kernel
theorem dX6_factor_156 : decode cX6_factor 156 = .ok (.imul, 1) := by decide +kernel
theorem dX6_factor_157 : decode cX6_factor 157 = .ok (.istore 6, 2) := by decide +kernel
theorem dX6_factor_159 : decode cX6_factor 159 = .ok (.goto (-29), 3) := by decide +kernel
theorem dX6_factor_162 : decode cX6_factor 162 = .ok (.iload 4, 2) := by decide +kernel
theorem dX6_factor_164 : decode cX6_factor 164 = .ok (.iload_n 3, 1) := by decide +kernel
theorem dX6_factor_165 : decode cX6_factor 165 = .ok (.iand, 1) := by decide +kernel
theorem dX6_factor_166 : decode cX6_factor 166 = .ok (.istore 6, 2) := by decide +kernel
theorem dX6_factor_168 : decode cX6_factor 168 = .ok (.iconst 0, 1) := by decide +kernel
theorem dX6_factor_169 : decode cX6_factor 169 = .ok (.istore 7, 2) := by decide +kernel
theorem dX6_factor_171 : decode cX6_factor 171 = .ok (.iload 6, 2) := by decide +kernel
theorem dX6_factor_173 : decode cX6_factor 173 = .ok (.ifCond .le 21, 3) := by decide +kernel
theorem dX6_factor_176 : decode cX6_factor 176 = .ok (.iload 7, 2) := by decide +kernel
theorem dX6_factor_178 : decode cX6_factor 178 = .ok (.iload 6, 2) := by decide +kernel
theorem dX6_factor_180 : decode cX6_factor 180 = .ok (.iconst 1, 1) := by decide +kernel
theorem dX6_factor_181 : decode cX6_factor 181 = .ok (.iand, 1) := by decide +kernel
theorem dX6_factor_182 : decode cX6_factor 182 = .ok (.ixor, 1) := by decide +kernel
theorem dX6_factor_183 : decode cX6_factor 183 = .ok (.istore 7, 2) := by decide +kernel
theorem dX6_factor_185 : decode cX6_factor 185 = .ok (.iload 6, 2) := by decide +kernel
theorem dX6_factor_187 : decode cX6_factor 187 = .ok (.iconst 1, 1) := by decide +kernel
theorem dX6_factor_188 : decode cX6_factor 188 = .ok (.ishr, 1) := by decide +kernel
theorem dX6_factor_189 : decode cX6_factor 189 = .ok (.istore 6, 2) := by decide +kernel
theorem dX6_factor_191 : decode cX6_factor 191 = .ok (.goto (-20), 3) := by decide +kernel
theorem dX6_factor_194 : decode cX6_factor 194 = .ok (.iload 7, 2) := by decide +kernel
theorem dX6_factor_196 : decode cX6_factor 196 = .ok (.iconst 1, 1) := by decide +kernel
theorem dX6_factor_197 : decode cX6_factor 197 = .ok (.if_icmp .ne 9, 3) := by decide +kernel
theorem dX6_factor_200 : decode cX6_factor 200 = .ok (.ldc2_w 108, 3) := by decide +kernel
theorem dX6_factor_203 : decode cX6_factor 203 = .ok (.goto 4, 3) := by decide +kernel
theorem dX6_factor_206 : decode cX6_factor 206 = .ok (.lconst 1, 1) := by decide +kernel
theorem dX6_factor_207 : decode cX6_factor 207 = .ok (.lreturn, 1) := by decide +kernel
theorem dX6_isPower_0 : decode cX6_isPower 0 = .ok (.iconst 1, 1) := by decide +kernel
theorem dX6_isPower_1 : decode cX6_isPower 1 = .ok (.istore_n 1, 1) := by decide +kernel
theorem dX6_isPower_2 : decode cX6_isPower 2 = .ok (.iload_n 1, 1) := by decide +kernel
theorem dX6_isPower_3 : decode cX6_isPower 3 = .ok (.iload_n 0, 1) := by decide +kernel
theorem dX6_isPower_4 : decode cX6_isPower 4 = .ok (.if_icmp .ge 10, 3) := by decide +kernel
theorem dX6_isPower_7 : decode cX6_isPower 7 = .ok (.iconst 2, 1) := by decide +kernel
theorem dX6_isPower_8 : decode cX6_isPower 8 = .ok (.iload_n 1, 1) := by decide +kernel
theorem dX6_isPower_9 : decode cX6_isPower 9 = .ok (.imul, 1) := by decide +kernel
theorem dX6_isPower_10 : decode cX6_isPower 10 = .ok (.istore_n 1, 1) := by decide +kernel
theorem dX6_isPower_11 : decode cX6_isPower 11 = .ok (.goto (-9), 3) := by decide +kernel
theorem dX6_isPower_14 : decode cX6_isPower 14 = .ok (.iload_n 0, 1) := by decide +kernel
theorem dX6_isPower_15 : decode cX6_isPower 15 = .ok (.ifCond .le 12, 3) := by decide +kernel
theorem dX6_isPower_18 : decode cX6_isPower 18 = .ok (.iload_n 1, 1) := by decide +kernel
theorem dX6_isPower_19 : decode cX6_isPower 19 = .ok (.iload_n 0, 1) := by decide +kernel
theorem dX6_isPower_20 : decode cX6_isPower 20 = .ok (.if_icmp .ne 7, 3) := by decide +kernel
theorem dX6_isPower_23 : decode cX6_isPower 23 = .ok (.iconst 1, 1) := by decide +kernel
theorem dX6_isPower_24 : decode cX6_isPower 24 = .ok (.goto 4, 3) := by decide +kernel
theorem dX6_isPower_27 : decode cX6_isPower 27 = .ok (.iconst 0, 1) := by decide +kernel
theorem dX6_isPower_28 : decode cX6_isPower 28 = .ok (.ireturn, 1) := by decide +kernel
theorem dX6_turn_0 : decode cX6_turn 0 = .ok (.iload_n 1, 1) := by decide +kernel
theorem dX6_turn_1 : decode cX6_turn 1 = .ok (.invokestatic 100, 3) := by decide +kernel
theorem dX6_turn_4 : decode cX6_turn 4 = .ok (.ifCond .eq 15, 3) := by decide +kernel
theorem dX6_turn_7 : decode cX6_turn 7 = .ok (.iload_n 2, 1) := by decide +kernel
theorem dX6_turn_8 : decode cX6_turn 8 = .ok (.i2l, 1) := by decide +kernel
theorem dX6_turn_9 : decode cX6_turn 9 = .ok (.lconst 0, 1) := by decide +kernel
theorem dX6_turn_10 : decode cX6_turn 10 = .ok (.ldc2_w 106, 3) := by decide +kernel
theorem dX6_turn_13 : decode cX6_turn 13 = .ok (.invokestatic 60, 3) := by decide +kernel
theorem dX6_turn_16 : decode cX6_turn 16 = .ok (.ifCond .ne 6, 3) := by decide +kernel
theorem dX6_turn_19 : decode cX6_turn 19 = .ok (.bipush (-2), 2) := by decide +kernel
theorem dX6_turn_21 : decode cX6_turn 21 = .ok (.ireturn, 1) := by decide +kernel
theorem dX6_turn_22 : decode cX6_turn 22 = .ok (.aload_n 0, 1) := by decide +kernel
theorem dX6_turn_23 : decode cX6_turn 23 = .ok (.getfield 26, 3) := by decide +kernel
theorem dX6_turn_26 : decode cX6_turn 26 = .ok (.iload_n 1, 1) := by decide +kernel
theorem dX6_turn_27 : decode cX6_turn 27 = .ok (.iaload, 1) := by decide +kernel
theorem dX6_turn_28 : decode cX6_turn 28 = .ok (.istore_n 3, 1) := by decide +kernel
theorem dX6_turn_29 : decode cX6_turn 29 = .ok (.iload_n 2, 1) := by decide +kernel
theorem dX6_turn_30 : decode cX6_turn 30 = .ok (.iconst 1, 1) := by decide +kernel
theorem dX6_turn_31 : decode cX6_turn 31 = .ok (.if_icmp .eq 8, 3) := by decide +kernel
theorem dX6_turn_34 : decode cX6_turn 34 = .ok (.iload_n 2, 1) := by decide +kernel
theorem dX6_turn_35 : decode cX6_turn 35 = .ok (.iconst 2, 1) := by decide +kernel
theorem dX6_turn_36 : decode cX6_turn 36 = .ok (.if_icmp .ne 8, 3) := by decide +kernel
theorem dX6_turn_39 : decode cX6_turn 39 = .ok (.iload_n 3, 1) := by decide +kernel
theorem dX6_turn_40 : decode cX6_turn 40 = .ok (.iconst 2, 1) := by decide +kernel
theorem dX6_turn_41 : decode cX6_turn 41 = .ok (.if_icmp .lt 15, 3) := by decide +kernel
theorem dX6_turn_44 : decode cX6_turn 44 = .ok (.iload_n 2, 1) := by decide +kernel
theorem dX6_turn_45 : decode cX6_turn 45 = .ok (.iconst 3, 1) := by decide +kernel
theorem dX6_turn_46 : decode cX6_turn 46 = .ok (.if_icmp .ne 13, 3) := by decide +kernel
theorem dX6_turn_49 : decode cX6_turn 49 = .ok (.iload_n 3, 1) := by decide +kernel
theorem dX6_turn_50 : decode cX6_turn 50 = .ok (.invokestatic 110, 3) := by decide +kernel
theorem dX6_turn_53 : decode cX6_turn 53 = .ok (.ifCond .ne 6, 3) := by decide +kernel
theorem dX6_turn_56 : decode cX6_turn 56 = .ok (.bipush (-3), 2) := by decide +kernel
theorem dX6_turn_58 : decode cX6_turn 58 = .ok (.ireturn, 1) := by decide +kernel
theorem dX6_turn_59 : decode cX6_turn 59 = .ok (.iconst 0, 1) := by decide +kernel
theorem dX6_turn_60 : decode cX6_turn 60 = .ok (.istore 4, 2) := by decide +kernel
theorem dX6_turn_62 : decode cX6_turn 62 = .ok (.iload 4, 2) := by decide +kernel
theorem dX6_turn_64 : decode cX6_turn 64 = .ok (.iload_n 3, 1) := by decide +kernel
theorem dX6_turn_65 : decode cX6_turn 65 = .ok (.if_icmp .ge 46, 3) := by decide +kernel
theorem dX6_turn_68 : decode cX6_turn 68 = .ok (.iload_n 2, 1) := by decide +kernel
theorem dX6_turn_69 : decode cX6_turn 69 = .ok (.iconst 1, 1) := by decide +kernel
theorem dX6_turn_70 : decode cX6_turn 70 = .ok (.if_icmp .eq 8, 3) := by decide +kernel
theorem dX6_turn_73 : decode cX6_turn 73 = .ok (.iload_n 2, 1) := by decide +kernel
theorem dX6_turn_74 : decode cX6_turn 74 = .ok (.iconst 2, 1) := by decide +kernel
theorem dX6_turn_75 : decode cX6_turn 75 = .ok (.if_icmp .ne 36, 3) := by decide +kernel
theorem dX6_turn_78 : decode cX6_turn 78 = .ok (.aload_n 0, 1) := by decide +kernel
theorem dX6_turn_79 : decode cX6_turn 79 = .ok (.getfield 29, 3) := by decide +kernel
theorem dX6_turn_82 : decode cX6_turn 82 = .ok (.bipush 64, 2) := by decide +kernel
theorem dX6_turn_84 : decode cX6_turn 84 = .ok (.iload_n 1, 1) := by decide +kernel
theorem dX6_turn_85 : decode cX6_turn 85 = .ok (.imul, 1) := by decide +kernel
theorem dX6_turn_86 : decode cX6_turn 86 = .ok (.iload 4, 2) := by decide +kernel
theorem dX6_turn_88 : decode cX6_turn 88 = .ok (.iadd, 1) := by decide +kernel
theorem dX6_turn_89 : decode cX6_turn 89 = .ok (.laload, 1) := by decide +kernel
theorem dX6_turn_90 : decode cX6_turn 90 = .ok (.ldc2_w 113, 3) := by decide +kernel
theorem dX6_turn_93 : decode cX6_turn 93 = .ok (.ldc2_w 115, 3) := by decide +kernel
theorem dX6_turn_96 : decode cX6_turn 96 = .ok (.invokestatic 60, 3) := by decide +kernel
theorem dX6_turn_99 : decode cX6_turn 99 = .ok (.ifCond .ne 6, 3) := by decide +kernel
theorem dX6_turn_102 : decode cX6_turn 102 = .ok (.bipush (-16), 2) := by decide +kernel
theorem dX6_turn_104 : decode cX6_turn 104 = .ok (.ireturn, 1) := by decide +kernel
theorem dX6_turn_105 : decode cX6_turn 105 = .ok (.iinc 4 1, 3) := by decide +kernel
theorem dX6_turn_108 : decode cX6_turn 108 = .ok (.goto (-46), 3) := by decide +kernel
theorem dX6_turn_111 : decode cX6_turn 111 = .ok (.iconst 0, 1) := by decide +kernel
theorem dX6_turn_112 : decode cX6_turn 112 = .ok (.istore 4, 2) := by decide +kernel
theorem dX6_turn_114 : decode cX6_turn 114 = .ok (.iload 4, 2) := by decide +kernel
theorem dX6_turn_116 : decode cX6_turn 116 = .ok (.iload_n 3, 1) := by decide +kernel
theorem dX6_turn_117 : decode cX6_turn 117 = .ok (.if_icmp .ge 154, 3) := by decide +kernel
theorem dX6_turn_120 : decode cX6_turn 120 = .ok (.lconst 0, 1) := by decide +kernel
theorem dX6_turn_121 : decode cX6_turn 121 = .ok (.lstore 5, 2) := by decide +kernel
theorem dX6_turn_123 : decode cX6_turn 123 = .ok (.lconst 0, 1) := by decide +kernel
theorem dX6_turn_124 : decode cX6_turn 124 = .ok (.lstore 7, 2) := by decide +kernel
theorem dX6_turn_126 : decode cX6_turn 126 = .ok (.iconst 0, 1) := by decide +kernel
theorem dX6_turn_127 : decode cX6_turn 127 = .ok (.istore 9, 2) := by decide +kernel
theorem dX6_turn_129 : decode cX6_turn 129 = .ok (.iload 9, 2) := by decide +kernel
theorem dX6_turn_131 : decode cX6_turn 131 = .ok (.iload_n 3, 1) := by decide +kernel
theorem dX6_turn_132 : decode cX6_turn 132 = .ok (.if_icmp .ge 61, 3) := by decide +kernel
theorem dX6_turn_135 : decode cX6_turn 135 = .ok (.aload_n 0, 1) := by decide +kernel
theorem dX6_turn_136 : decode cX6_turn 136 = .ok (.getfield 29, 3) := by decide +kernel
theorem dX6_turn_139 : decode cX6_turn 139 = .ok (.bipush 64, 2) := by decide +kernel
theorem dX6_turn_141 : decode cX6_turn 141 = .ok (.iload_n 1, 1) := by decide +kernel
theorem dX6_turn_142 : decode cX6_turn 142 = .ok (.imul, 1) := by decide +kernel
theorem dX6_turn_143 : decode cX6_turn 143 = .ok (.iload 9, 2) := by decide +kernel
theorem dX6_turn_145 : decode cX6_turn 145 = .ok (.iadd, 1) := by decide +kernel
theorem dX6_turn_146 : decode cX6_turn 146 = .ok (.laload, 1) := by decide +kernel
theorem dX6_turn_147 : decode cX6_turn 147 = .ok (.lstore 10, 2) := by decide +kernel
theorem dX6_turn_149 : decode cX6_turn 149 = .ok (.iload_n 2, 1) := by decide +kernel
theorem dX6_turn_150 : decode cX6_turn 150 = .ok (.iload_n 3, 1) := by decide +kernel
theorem dX6_turn_151 : decode cX6_turn 151 = .ok (.iload 4, 2) := by decide +kernel
theorem dX6_turn_153 : decode cX6_turn 153 = .ok (.iload 9, 2) := by decide +kernel
theorem dX6_turn_155 : decode cX6_turn 155 = .ok (.invokestatic 117, 3) := by decide +kernel
theorem dX6_turn_158 : decode cX6_turn 158 = .ok (.lstore 12, 2) := by decide +kernel
theorem dX6_turn_160 : decode cX6_turn 160 = .ok (.lload 5, 2) := by decide +kernel
theorem dX6_turn_162 : decode cX6_turn 162 = .ok (.lload 12, 2) := by decide +kernel
theorem dX6_turn_164 : decode cX6_turn 164 = .ok (.lload 10, 2) := by decide +kernel
theorem dX6_turn_166 : decode cX6_turn 166 = .ok (.bipush 32, 2) := by decide +kernel
theorem dX6_turn_168 : decode cX6_turn 168 = .ok (.lshr, 1) := by decide +kernel
theorem dX6_turn_169 : decode cX6_turn 169 = .ok (.lmul, 1) := by decide +kernel
theorem dX6_turn_170 : decode cX6_turn 170 = .ok (.ladd, 1) := by decide +kernel
theorem dX6_turn_171 : decode cX6_turn 171 = .ok (.lstore 5, 2) := by decide +kernel
theorem dX6_turn_173 : decode cX6_turn 173 = .ok (.lload 7, 2) := by decide +kernel
theorem dX6_turn_175 : decode cX6_turn 175 = .ok (.lload 12, 2) := by decide +kernel
theorem dX6_turn_177 : decode cX6_turn 177 = .ok (.lload 10, 2) := by decide +kernel
theorem dX6_turn_179 : decode cX6_turn 179 = .ok (.ldc2_w 121, 3) := by decide +kernel
theorem dX6_turn_182 : decode cX6_turn 182 = .ok (.land, 1) := by decide +kernel
theorem dX6_turn_183 : decode cX6_turn 183 = .ok (.lmul, 1) := by decide +kernel
theorem dX6_turn_184 : decode cX6_turn 184 = .ok (.ladd, 1) := by decide +kernel
theorem dX6_turn_185 : decode cX6_turn 185 = .ok (.lstore 7, 2) := by decide +kernel
theorem dX6_turn_187 : decode cX6_turn 187 = .ok (.iinc 9 1, 3) := by decide +kernel
theorem dX6_turn_190 : decode cX6_turn 190 = .ok (.goto (-61), 3) := by decide +kernel
theorem dX6_turn_193 : decode cX6_turn 193 = .ok (.lload 5, 2) := by decide +kernel
theorem dX6_turn_195 : decode cX6_turn 195 = .ok (.lload 7, 2) := by decide +kernel
theorem dX6_turn_197 : decode cX6_turn 197 = .ok (.bipush 32, 2) := by decide +kernel
theorem dX6_turn_199 : decode cX6_turn 199 = .ok (.lshr, 1) := by decide +kernel
theorem dX6_turn_200 : decode cX6_turn 200 = .ok (.ladd, 1) := by decide +kernel
theorem dX6_turn_201 : decode cX6_turn 201 = .ok (.lstore 5, 2) := by decide +kernel
theorem dX6_turn_203 : decode cX6_turn 203 = .ok (.lload 7, 2) := by decide +kernel
theorem dX6_turn_205 : decode cX6_turn 205 = .ok (.ldc2_w 121, 3) := by decide +kernel
theorem dX6_turn_208 : decode cX6_turn 208 = .ok (.land, 1) := by decide +kernel
theorem dX6_turn_209 : decode cX6_turn 209 = .ok (.lstore 7, 2) := by decide +kernel
theorem dX6_turn_211 : decode cX6_turn 211 = .ok (.lload 5, 2) := by decide +kernel
theorem dX6_turn_213 : decode cX6_turn 213 = .ok (.ldc2_w 123, 3) := by decide +kernel
theorem dX6_turn_216 : decode cX6_turn 216 = .ok (.ldc2_w 125, 3) := by decide +kernel
theorem dX6_turn_219 : decode cX6_turn 219 = .ok (.invokestatic 60, 3) := by decide +kernel
theorem dX6_turn_222 : decode cX6_turn 222 = .ok (.ifCond .ne 6, 3) := by decide +kernel
theorem dX6_turn_225 : decode cX6_turn 225 = .ok (.bipush (-16), 2) := by decide +kernel
theorem dX6_turn_227 : decode cX6_turn 227 = .ok (.ireturn, 1) := by decide +kernel
theorem dX6_turn_228 : decode cX6_turn 228 = .ok (.aload_n 0, 1) := by decide +kernel
theorem dX6_turn_229 : decode cX6_turn 229 = .ok (.getfield 33, 3) := by decide +kernel
theorem dX6_turn_232 : decode cX6_turn 232 = .ok (.iload 4, 2) := by decide +kernel
theorem dX6_turn_234 : decode cX6_turn 234 = .ok (.lload 5, 2) := by decide +kernel
theorem dX6_turn_236 : decode cX6_turn 236 = .ok (.bipush 32, 2) := by decide +kernel
theorem dX6_turn_238 : decode cX6_turn 238 = .ok (.lshl, 1) := by decide +kernel
theorem dX6_turn_239 : decode cX6_turn 239 = .ok (.lload 7, 2) := by decide +kernel
theorem dX6_turn_241 : decode cX6_turn 241 = .ok (.ladd, 1) := by decide +kernel
theorem dX6_turn_242 : decode cX6_turn 242 = .ok (.lastore, 1) := by decide +kernel
theorem dX6_turn_243 : decode cX6_turn 243 = .ok (.aload_n 0, 1) := by decide +kernel
theorem dX6_turn_244 : decode cX6_turn 244 = .ok (.getfield 33, 3) := by decide +kernel
theorem dX6_turn_247 : decode cX6_turn 247 = .ok (.iload 4, 2) := by decide +kernel
theorem dX6_turn_249 : decode cX6_turn 249 = .ok (.laload, 1) := by decide +kernel
theorem dX6_turn_250 : decode cX6_turn 250 = .ok (.ldc2_w 127, 3) := by decide +kernel
theorem dX6_turn_253 : decode cX6_turn 253 = .ok (.ldc2_w 129, 3) := by decide +kernel
theorem dX6_turn_256 : decode cX6_turn 256 = .ok (.invokestatic 60, 3) := by decide +kernel
theorem dX6_turn_259 : decode cX6_turn 259 = .ok (.ifCond .ne 6, 3) := by decide +kernel
theorem dX6_turn_262 : decode cX6_turn 262 = .ok (.bipush (-16), 2) := by decide +kernel
theorem dX6_turn_264 : decode cX6_turn 264 = .ok (.ireturn, 1) := by decide +kernel
theorem dX6_turn_265 : decode cX6_turn 265 = .ok (.iinc 4 1, 3) := by decide +kernel
theorem dX6_turn_268 : decode cX6_turn 268 = .ok (.goto (-154), 3) := by decide +kernel
theorem dX6_turn_271 : decode cX6_turn 271 = .ok (.iconst 0, 1) := by decide +kernel
theorem dX6_turn_272 : decode cX6_turn 272 = .ok (.istore 4, 2) := by decide +kernel
theorem dX6_turn_274 : decode cX6_turn 274 = .ok (.iload 4, 2) := by decide +kernel
theorem dX6_turn_276 : decode cX6_turn 276 = .ok (.iload_n 3, 1) := by decide +kernel
theorem dX6_turn_277 : decode cX6_turn 277 = .ok (.if_icmp .ge 28, 3) := by decide +kernel
theorem dX6_turn_280 : decode cX6_turn 280 = .ok (.aload_n 0, 1) := by decide +kernel
theorem dX6_turn_281 : decode cX6_turn 281 = .ok (.getfield 29, 3) := by decide +kernel
theorem dX6_turn_284 : decode cX6_turn 284 = .ok (.bipush 64, 2) := by decide +kernel
theorem dX6_turn_286 : decode cX6_turn 286 = .ok (.iload_n 1, 1) := by decide +kernel
theorem dX6_turn_287 : decode cX6_turn 287 = .ok (.imul, 1) := by decide +kernel
theorem dX6_turn_288 : decode cX6_turn 288 = .ok (.iload 4, 2) := by decide +kernel
theorem dX6_turn_290 : decode cX6_turn 290 = .ok (.iadd, 1) := by decide +kernel
theorem dX6_turn_291 : decode cX6_turn 291 = .ok (.aload_n 0, 1) := by decide +kernel
theorem dX6_turn_292 : decode cX6_turn 292 = .ok (.getfield 33, 3) := by decide +kernel
theorem dX6_turn_295 : decode cX6_turn 295 = .ok (.iload 4, 2) := by decide +kernel
theorem dX6_turn_297 : decode cX6_turn 297 = .ok (.laload, 1) := by decide +kernel
theorem dX6_turn_298 : decode cX6_turn 298 = .ok (.lastore, 1) := by decide +kernel
theorem dX6_turn_299 : decode cX6_turn 299 = .ok (.iinc 4 1, 3) := by decide +kernel
theorem dX6_turn_302 : decode cX6_turn 302 = .ok (.goto (-28), 3) := by decide +kernel
theorem dX6_turn_305 : decode cX6_turn 305 = .ok (.iload_n 3, 1) := by decide +kernel
theorem dX6_turn_306 : decode cX6_turn 306 = .ok (.ireturn, 1) := by decide +kernel
theorem dX6_part_0 : decode cX6_part 0 = .ok (.iload_n 1, 1) := by decide +kernel
theorem dX6_part_1 : decode cX6_part 1 = .ok (.invokestatic 100, 3) := by decide +kernel
theorem dX6_part_4 : decode cX6_part 4 = .ok (.ifCond .eq 12, 3) := by decide +kernel
theorem dX6_part_7 : decode cX6_part 7 = .ok (.iload_n 2, 1) := by decide +kernel
theorem dX6_part_8 : decode cX6_part 8 = .ok (.ifCond .lt 8, 3) := by decide +kernel
theorem dX6_part_11 : decode cX6_part 11 = .ok (.iload_n 3, 1) := by decide +kernel
theorem dX6_part_12 : decode cX6_part 12 = .ok (.iload_n 2, 1) := by decide +kernel
theorem dX6_part_13 : decode cX6_part 13 = .ok (.if_icmp .ge 6, 3) := by decide +kernel
theorem dX6_part_16 : decode cX6_part 16 = .ok (.bipush (-2), 2) := by decide +kernel
theorem dX6_part_18 : decode cX6_part 18 = .ok (.ireturn, 1) := by decide +kernel
theorem dX6_part_19 : decode cX6_part 19 = .ok (.iconst 0, 1) := by decide +kernel
theorem dX6_part_20 : decode cX6_part 20 = .ok (.istore 4, 2) := by decide +kernel
theorem dX6_part_22 : decode cX6_part 22 = .ok (.iconst 0, 1) := by decide +kernel
theorem dX6_part_23 : decode cX6_part 23 = .ok (.istore 5, 2) := by decide +kernel
theorem dX6_part_25 : decode cX6_part 25 = .ok (.iload 5, 2) := by decide +kernel
theorem dX6_part_27 : decode cX6_part 27 = .ok (.aload_n 0, 1) := by decide +kernel
theorem dX6_part_28 : decode cX6_part 28 = .ok (.getfield 26, 3) := by decide +kernel
theorem dX6_part_31 : decode cX6_part 31 = .ok (.iload_n 1, 1) := by decide +kernel
theorem dX6_part_32 : decode cX6_part 32 = .ok (.iaload, 1) := by decide +kernel
theorem dX6_part_33 : decode cX6_part 33 = .ok (.if_icmp .ge 61, 3) := by decide +kernel
theorem dX6_part_36 : decode cX6_part 36 = .ok (.iload 5, 2) := by decide +kernel
theorem dX6_part_38 : decode cX6_part 38 = .ok (.iload_n 2, 1) := by decide +kernel
theorem dX6_part_39 : decode cX6_part 39 = .ok (.if_icmp .lt 9, 3) := by decide +kernel
theorem dX6_part_42 : decode cX6_part 42 = .ok (.iload 5, 2) := by decide +kernel
theorem dX6_part_44 : decode cX6_part 44 = .ok (.iload_n 3, 1) := by decide +kernel
theorem dX6_part_45 : decode cX6_part 45 = .ok (.if_icmp .le 43, 3) := by decide +kernel
theorem dX6_part_48 : decode cX6_part 48 = .ok (.iload 4, 2) := by decide +kernel
theorem dX6_part_50 : decode cX6_part 50 = .ok (.aload_n 0, 1) := by decide +kernel
theorem dX6_part_51 : decode cX6_part 51 = .ok (.getfield 29, 3) := by decide +kernel
theorem dX6_part_54 : decode cX6_part 54 = .ok (.bipush 64, 2) := by decide +kernel
theorem dX6_part_56 : decode cX6_part 56 = .ok (.iload_n 1, 1) := by decide +kernel
theorem dX6_part_57 : decode cX6_part 57 = .ok (.imul, 1) := by decide +kernel
theorem dX6_part_58 : decode cX6_part 58 = .ok (.iload 5, 2) := by decide +kernel
theorem dX6_part_60 : decode cX6_part 60 = .ok (.iadd, 1) := by decide +kernel
theorem dX6_part_61 : decode cX6_part 61 = .ok (.laload, 1) := by decide +kernel
theorem dX6_part_62 : decode cX6_part 62 = .ok (.lconst 0, 1) := by decide +kernel
theorem dX6_part_63 : decode cX6_part 63 = .ok (.lcmp, 1) := by decide +kernel
theorem dX6_part_64 : decode cX6_part 64 = .ok (.ifCond .eq 7, 3) := by decide +kernel
theorem dX6_part_67 : decode cX6_part 67 = .ok (.iconst 1, 1) := by decide +kernel
theorem dX6_part_68 : decode cX6_part 68 = .ok (.goto 4, 3) := by decide +kernel
theorem dX6_part_71 : decode cX6_part 71 = .ok (.iconst 0, 1) := by decide +kernel
theorem dX6_part_72 : decode cX6_part 72 = .ok (.iadd, 1) := by decide +kernel
theorem dX6_part_73 : decode cX6_part 73 = .ok (.istore 4, 2) := by decide +kernel
theorem dX6_part_75 : decode cX6_part 75 = .ok (.aload_n 0, 1) := by decide +kernel
theorem dX6_part_76 : decode cX6_part 76 = .ok (.getfield 29, 3) := by decide +kernel
theorem dX6_part_79 : decode cX6_part 79 = .ok (.bipush 64, 2) := by decide +kernel
theorem dX6_part_81 : decode cX6_part 81 = .ok (.iload_n 1, 1) := by decide +kernel
theorem dX6_part_82 : decode cX6_part 82 = .ok (.imul, 1) := by decide +kernel
theorem dX6_part_83 : decode cX6_part 83 = .ok (.iload 5, 2) := by decide +kernel
theorem dX6_part_85 : decode cX6_part 85 = .ok (.iadd, 1) := by decide +kernel
theorem dX6_part_86 : decode cX6_part 86 = .ok (.lconst 0, 1) := by decide +kernel
theorem dX6_part_87 : decode cX6_part 87 = .ok (.lastore, 1) := by decide +kernel
theorem dX6_part_88 : decode cX6_part 88 = .ok (.iinc 5 1, 3) := by decide +kernel
theorem dX6_part_91 : decode cX6_part 91 = .ok (.goto (-66), 3) := by decide +kernel
theorem dX6_part_94 : decode cX6_part 94 = .ok (.iload 4, 2) := by decide +kernel
theorem dX6_part_96 : decode cX6_part 96 = .ok (.ireturn, 1) := by decide +kernel
theorem dX6_mix_0 : decode cX6_mix 0 = .ok (.iload_n 1, 1) := by decide +kernel
theorem dX6_mix_1 : decode cX6_mix 1 = .ok (.invokestatic 100, 3) := by decide +kernel
theorem dX6_mix_4 : decode cX6_mix 4 = .ok (.ifCond .eq 39, 3) := by decide +kernel
theorem dX6_mix_7 : decode cX6_mix 7 = .ok (.iload_n 3, 1) := by decide +kernel
theorem dX6_mix_8 : decode cX6_mix 8 = .ok (.invokestatic 100, 3) := by decide +kernel
theorem dX6_mix_11 : decode cX6_mix 11 = .ok (.ifCond .eq 32, 3) := by decide +kernel
theorem dX6_mix_14 : decode cX6_mix 14 = .ok (.iload_n 2, 1) := by decide +kernel
theorem dX6_mix_15 : decode cX6_mix 15 = .ok (.i2l, 1) := by decide +kernel
theorem dX6_mix_16 : decode cX6_mix 16 = .ok (.ldc2_w 131, 3) := by decide +kernel
theorem dX6_mix_19 : decode cX6_mix 19 = .ok (.ldc2_w 133, 3) := by decide +kernel
theorem dX6_mix_22 : decode cX6_mix 22 = .ok (.invokestatic 60, 3) := by decide +kernel
theorem dX6_mix_25 : decode cX6_mix 25 = .ok (.ifCond .eq 18, 3) := by decide +kernel
theorem dX6_mix_28 : decode cX6_mix 28 = .ok (.iload 4, 2) := by decide +kernel
theorem dX6_mix_30 : decode cX6_mix 30 = .ok (.i2l, 1) := by decide +kernel
theorem dX6_mix_31 : decode cX6_mix 31 = .ok (.ldc2_w 131, 3) := by decide +kernel
theorem dX6_mix_34 : decode cX6_mix 34 = .ok (.ldc2_w 133, 3) := by decide +kernel
theorem dX6_mix_37 : decode cX6_mix 37 = .ok (.invokestatic 60, 3) := by decide +kernel
theorem dX6_mix_40 : decode cX6_mix 40 = .ok (.ifCond .ne 6, 3) := by decide +kernel
theorem dX6_mix_43 : decode cX6_mix 43 = .ok (.bipush (-2), 2) := by decide +kernel
theorem dX6_mix_45 : decode cX6_mix 45 = .ok (.ireturn, 1) := by decide +kernel
theorem dX6_mix_46 : decode cX6_mix 46 = .ok (.aload_n 0, 1) := by decide +kernel
theorem dX6_mix_47 : decode cX6_mix 47 = .ok (.getfield 26, 3) := by decide +kernel
theorem dX6_mix_50 : decode cX6_mix 50 = .ok (.iload_n 1, 1) := by decide +kernel
theorem dX6_mix_51 : decode cX6_mix 51 = .ok (.iaload, 1) := by decide +kernel
theorem dX6_mix_52 : decode cX6_mix 52 = .ok (.aload_n 0, 1) := by decide +kernel
theorem dX6_mix_53 : decode cX6_mix 53 = .ok (.getfield 26, 3) := by decide +kernel
theorem dX6_mix_56 : decode cX6_mix 56 = .ok (.iload_n 3, 1) := by decide +kernel
theorem dX6_mix_57 : decode cX6_mix 57 = .ok (.iaload, 1) := by decide +kernel
theorem dX6_mix_58 : decode cX6_mix 58 = .ok (.if_icmp .eq 6, 3) := by decide +kernel
theorem dX6_mix_61 : decode cX6_mix 61 = .ok (.bipush (-3), 2) := by decide +kernel
theorem dX6_mix_63 : decode cX6_mix 63 = .ok (.ireturn, 1) := by decide +kernel
theorem dX6_mix_64 : decode cX6_mix 64 = .ok (.iconst 0, 1) := by decide +kernel
theorem dX6_mix_65 : decode cX6_mix 65 = .ok (.istore 5, 2) := by decide +kernel
theorem dX6_mix_67 : decode cX6_mix 67 = .ok (.iload 5, 2) := by decide +kernel
theorem dX6_mix_69 : decode cX6_mix 69 = .ok (.aload_n 0, 1) := by decide +kernel
theorem dX6_mix_70 : decode cX6_mix 70 = .ok (.getfield 26, 3) := by decide +kernel
theorem dX6_mix_73 : decode cX6_mix 73 = .ok (.iload_n 1, 1) := by decide +kernel
theorem dX6_mix_74 : decode cX6_mix 74 = .ok (.iaload, 1) := by decide +kernel
theorem dX6_mix_75 : decode cX6_mix 75 = .ok (.if_icmp .ge 70, 3) := by decide +kernel
theorem dX6_mix_78 : decode cX6_mix 78 = .ok (.aload_n 0, 1) := by decide +kernel
theorem dX6_mix_79 : decode cX6_mix 79 = .ok (.getfield 33, 3) := by decide +kernel
theorem dX6_mix_82 : decode cX6_mix 82 = .ok (.iload 5, 2) := by decide +kernel
theorem dX6_mix_84 : decode cX6_mix 84 = .ok (.iload_n 2, 1) := by decide +kernel
theorem dX6_mix_85 : decode cX6_mix 85 = .ok (.i2l, 1) := by decide +kernel
theorem dX6_mix_86 : decode cX6_mix 86 = .ok (.aload_n 0, 1) := by decide +kernel
theorem dX6_mix_87 : decode cX6_mix 87 = .ok (.getfield 29, 3) := by decide +kernel
theorem dX6_mix_90 : decode cX6_mix 90 = .ok (.bipush 64, 2) := by decide +kernel
theorem dX6_mix_92 : decode cX6_mix 92 = .ok (.iload_n 1, 1) := by decide +kernel
theorem dX6_mix_93 : decode cX6_mix 93 = .ok (.imul, 1) := by decide +kernel
theorem dX6_mix_94 : decode cX6_mix 94 = .ok (.iload 5, 2) := by decide +kernel
theorem dX6_mix_96 : decode cX6_mix 96 = .ok (.iadd, 1) := by decide +kernel
theorem dX6_mix_97 : decode cX6_mix 97 = .ok (.laload, 1) := by decide +kernel
theorem dX6_mix_98 : decode cX6_mix 98 = .ok (.lmul, 1) := by decide +kernel
theorem dX6_mix_99 : decode cX6_mix 99 = .ok (.iload 4, 2) := by decide +kernel
theorem dX6_mix_101 : decode cX6_mix 101 = .ok (.i2l, 1) := by decide +kernel
theorem dX6_mix_102 : decode cX6_mix 102 = .ok (.aload_n 0, 1) := by decide +kernel
theorem dX6_mix_103 : decode cX6_mix 103 = .ok (.getfield 29, 3) := by decide +kernel
theorem dX6_mix_106 : decode cX6_mix 106 = .ok (.bipush 64, 2) := by decide +kernel
theorem dX6_mix_108 : decode cX6_mix 108 = .ok (.iload_n 3, 1) := by decide +kernel
theorem dX6_mix_109 : decode cX6_mix 109 = .ok (.imul, 1) := by decide +kernel
theorem dX6_mix_110 : decode cX6_mix 110 = .ok (.iload 5, 2) := by decide +kernel
theorem dX6_mix_112 : decode cX6_mix 112 = .ok (.iadd, 1) := by decide +kernel
theorem dX6_mix_113 : decode cX6_mix 113 = .ok (.laload, 1) := by decide +kernel
theorem dX6_mix_114 : decode cX6_mix 114 = .ok (.lmul, 1) := by decide +kernel
theorem dX6_mix_115 : decode cX6_mix 115 = .ok (.ladd, 1) := by decide +kernel
theorem dX6_mix_116 : decode cX6_mix 116 = .ok (.lastore, 1) := by decide +kernel
theorem dX6_mix_117 : decode cX6_mix 117 = .ok (.aload_n 0, 1) := by decide +kernel
theorem dX6_mix_118 : decode cX6_mix 118 = .ok (.getfield 33, 3) := by decide +kernel
theorem dX6_mix_121 : decode cX6_mix 121 = .ok (.iload 5, 2) := by decide +kernel
theorem dX6_mix_123 : decode cX6_mix 123 = .ok (.laload, 1) := by decide +kernel
theorem dX6_mix_124 : decode cX6_mix 124 = .ok (.ldc2_w 127, 3) := by decide +kernel
theorem dX6_mix_127 : decode cX6_mix 127 = .ok (.ldc2_w 129, 3) := by decide +kernel
theorem dX6_mix_130 : decode cX6_mix 130 = .ok (.invokestatic 60, 3) := by decide +kernel
theorem dX6_mix_133 : decode cX6_mix 133 = .ok (.ifCond .ne 6, 3) := by decide +kernel
theorem dX6_mix_136 : decode cX6_mix 136 = .ok (.bipush (-16), 2) := by decide +kernel
theorem dX6_mix_138 : decode cX6_mix 138 = .ok (.ireturn, 1) := by decide +kernel
theorem dX6_mix_139 : decode cX6_mix 139 = .ok (.iinc 5 1, 3) := by decide +kernel
theorem dX6_mix_142 : decode cX6_mix 142 = .ok (.goto (-75), 3) := by decide +kernel
theorem dX6_mix_145 : decode cX6_mix 145 = .ok (.iconst 0, 1) := by decide +kernel
theorem dX6_mix_146 : decode cX6_mix 146 = .ok (.istore 5, 2) := by decide +kernel
theorem dX6_mix_148 : decode cX6_mix 148 = .ok (.iload 5, 2) := by decide +kernel
theorem dX6_mix_150 : decode cX6_mix 150 = .ok (.aload_n 0, 1) := by decide +kernel
theorem dX6_mix_151 : decode cX6_mix 151 = .ok (.getfield 26, 3) := by decide +kernel
theorem dX6_mix_154 : decode cX6_mix 154 = .ok (.iload_n 1, 1) := by decide +kernel
theorem dX6_mix_155 : decode cX6_mix 155 = .ok (.iaload, 1) := by decide +kernel
theorem dX6_mix_156 : decode cX6_mix 156 = .ok (.if_icmp .ge 28, 3) := by decide +kernel
theorem dX6_mix_159 : decode cX6_mix 159 = .ok (.aload_n 0, 1) := by decide +kernel
theorem dX6_mix_160 : decode cX6_mix 160 = .ok (.getfield 29, 3) := by decide +kernel
theorem dX6_mix_163 : decode cX6_mix 163 = .ok (.bipush 64, 2) := by decide +kernel
theorem dX6_mix_165 : decode cX6_mix 165 = .ok (.iload_n 1, 1) := by decide +kernel
theorem dX6_mix_166 : decode cX6_mix 166 = .ok (.imul, 1) := by decide +kernel
theorem dX6_mix_167 : decode cX6_mix 167 = .ok (.iload 5, 2) := by decide +kernel
theorem dX6_mix_169 : decode cX6_mix 169 = .ok (.iadd, 1) := by decide +kernel
theorem dX6_mix_170 : decode cX6_mix 170 = .ok (.aload_n 0, 1) := by decide +kernel
theorem dX6_mix_171 : decode cX6_mix 171 = .ok (.getfield 33, 3) := by decide +kernel
theorem dX6_mix_174 : decode cX6_mix 174 = .ok (.iload 5, 2) := by decide +kernel
theorem dX6_mix_176 : decode cX6_mix 176 = .ok (.laload, 1) := by decide +kernel
theorem dX6_mix_177 : decode cX6_mix 177 = .ok (.lastore, 1) := by decide +kernel
theorem dX6_mix_178 : decode cX6_mix 178 = .ok (.iinc 5 1, 3) := by decide +kernel
theorem dX6_mix_181 : decode cX6_mix 181 = .ok (.goto (-33), 3) := by decide +kernel
theorem dX6_mix_184 : decode cX6_mix 184 = .ok (.aload_n 0, 1) := by decide +kernel
theorem dX6_mix_185 : decode cX6_mix 185 = .ok (.getfield 26, 3) := by decide +kernel
theorem dX6_mix_188 : decode cX6_mix 188 = .ok (.iload_n 1, 1) := by decide +kernel
theorem dX6_mix_189 : decode cX6_mix 189 = .ok (.iaload, 1) := by decide +kernel
theorem dX6_mix_190 : decode cX6_mix 190 = .ok (.ireturn, 1) := by decide +kernel
theorem dX6_force_0 : decode cX6_force 0 = .ok (.iload_n 1, 1) := by decide +kernel
theorem dX6_force_1 : decode cX6_force 1 = .ok (.invokestatic 100, 3) := by decide +kernel
theorem dX6_force_4 : decode cX6_force 4 = .ok (.ifCond .eq 12, 3) := by decide +kernel
theorem dX6_force_7 : decode cX6_force 7 = .ok (.iload_n 2, 1) := by decide +kernel
theorem dX6_force_8 : decode cX6_force 8 = .ok (.ifCond .lt 8, 3) := by decide +kernel
theorem dX6_force_11 : decode cX6_force 11 = .ok (.iload_n 3, 1) := by decide +kernel
theorem dX6_force_12 : decode cX6_force 12 = .ok (.iload_n 2, 1) := by decide +kernel
theorem dX6_force_13 : decode cX6_force 13 = .ok (.if_icmp .ge 7, 3) := by decide +kernel
theorem dX6_force_16 : decode cX6_force 16 = .ok (.ldc2_w 104, 3) := by decide +kernel
theorem dX6_force_19 : decode cX6_force 19 = .ok (.lreturn, 1) := by decide +kernel
theorem dX6_force_20 : decode cX6_force 20 = .ok (.lconst 0, 1) := by decide +kernel
theorem dX6_force_21 : decode cX6_force 21 = .ok (.lstore 4, 2) := by decide +kernel
theorem dX6_force_23 : decode cX6_force 23 = .ok (.iload_n 2, 1) := by decide +kernel
theorem dX6_force_24 : decode cX6_force 24 = .ok (.istore 6, 2) := by decide +kernel
theorem dX6_force_26 : decode cX6_force 26 = .ok (.iload 6, 2) := by decide +kernel
theorem dX6_force_28 : decode cX6_force 28 = .ok (.aload_n 0, 1) := by decide +kernel
theorem dX6_force_29 : decode cX6_force 29 = .ok (.getfield 26, 3) := by decide +kernel
theorem dX6_force_32 : decode cX6_force 32 = .ok (.iload_n 1, 1) := by decide +kernel
theorem dX6_force_33 : decode cX6_force 33 = .ok (.iaload, 1) := by decide +kernel
theorem dX6_force_34 : decode cX6_force 34 = .ok (.if_icmp .ge 57, 3) := by decide +kernel
theorem dX6_force_37 : decode cX6_force 37 = .ok (.iload 6, 2) := by decide +kernel
theorem dX6_force_39 : decode cX6_force 39 = .ok (.iload_n 3, 1) := by decide +kernel
theorem dX6_force_40 : decode cX6_force 40 = .ok (.if_icmp .gt 51, 3) := by decide +kernel
theorem dX6_force_43 : decode cX6_force 43 = .ok (.aload_n 0, 1) := by decide +kernel
theorem dX6_force_44 : decode cX6_force 44 = .ok (.getfield 29, 3) := by decide +kernel
theorem dX6_force_47 : decode cX6_force 47 = .ok (.bipush 64, 2) := by decide +kernel
theorem dX6_force_49 : decode cX6_force 49 = .ok (.iload_n 1, 1) := by decide +kernel
theorem dX6_force_50 : decode cX6_force 50 = .ok (.imul, 1) := by decide +kernel
theorem dX6_force_51 : decode cX6_force 51 = .ok (.iload 6, 2) := by decide +kernel
theorem dX6_force_53 : decode cX6_force 53 = .ok (.iadd, 1) := by decide +kernel
theorem dX6_force_54 : decode cX6_force 54 = .ok (.laload, 1) := by decide +kernel
theorem dX6_force_55 : decode cX6_force 55 = .ok (.lstore 7, 2) := by decide +kernel
theorem dX6_force_57 : decode cX6_force 57 = .ok (.lload 7, 2) := by decide +kernel
theorem dX6_force_59 : decode cX6_force 59 = .ok (.ldc2_w 135, 3) := by decide +kernel
theorem dX6_force_62 : decode cX6_force 62 = .ok (.ldc2_w 137, 3) := by decide +kernel
theorem dX6_force_65 : decode cX6_force 65 = .ok (.invokestatic 60, 3) := by decide +kernel
theorem dX6_force_68 : decode cX6_force 68 = .ok (.ifCond .ne 7, 3) := by decide +kernel
theorem dX6_force_71 : decode cX6_force 71 = .ok (.ldc2_w 139, 3) := by decide +kernel
theorem dX6_force_74 : decode cX6_force 74 = .ok (.lreturn, 1) := by decide +kernel
theorem dX6_force_75 : decode cX6_force 75 = .ok (.lload 4, 2) := by decide +kernel
theorem dX6_force_77 : decode cX6_force 77 = .ok (.lload 7, 2) := by decide +kernel
theorem dX6_force_79 : decode cX6_force 79 = .ok (.lload 7, 2) := by decide +kernel
theorem dX6_force_81 : decode cX6_force 81 = .ok (.lmul, 1) := by decide +kernel
theorem dX6_force_82 : decode cX6_force 82 = .ok (.ladd, 1) := by decide +kernel
theorem dX6_force_83 : decode cX6_force 83 = .ok (.lstore 4, 2) := by decide +kernel
theorem dX6_force_85 : decode cX6_force 85 = .ok (.iinc 6 1, 3) := by decide +kernel
theorem dX6_force_88 : decode cX6_force 88 = .ok (.goto (-62), 3) := by decide +kernel
theorem dX6_force_91 : decode cX6_force 91 = .ok (.lload 4, 2) := by decide +kernel
theorem dX6_force_93 : decode cX6_force 93 = .ok (.lreturn, 1) := by decide +kernel
theorem dX6_cross_0 : decode cX6_cross 0 = .ok (.iload_n 1, 1) := by decide +kernel
theorem dX6_cross_1 : decode cX6_cross 1 = .ok (.invokestatic 100, 3) := by decide +kernel
theorem dX6_cross_4 : decode cX6_cross 4 = .ok (.ifCond .eq 10, 3) := by decide +kernel
theorem dX6_cross_7 : decode cX6_cross 7 = .ok (.iload_n 2, 1) := by decide +kernel
theorem dX6_cross_8 : decode cX6_cross 8 = .ok (.invokestatic 100, 3) := by decide +kernel
theorem dX6_cross_11 : decode cX6_cross 11 = .ok (.ifCond .ne 7, 3) := by decide +kernel
theorem dX6_cross_14 : decode cX6_cross 14 = .ok (.ldc2_w 104, 3) := by decide +kernel
theorem dX6_cross_17 : decode cX6_cross 17 = .ok (.lreturn, 1) := by decide +kernel
theorem dX6_cross_18 : decode cX6_cross 18 = .ok (.aload_n 0, 1) := by decide +kernel
theorem dX6_cross_19 : decode cX6_cross 19 = .ok (.getfield 26, 3) := by decide +kernel
theorem dX6_cross_22 : decode cX6_cross 22 = .ok (.iload_n 1, 1) := by decide +kernel
theorem dX6_cross_23 : decode cX6_cross 23 = .ok (.iaload, 1) := by decide +kernel
theorem dX6_cross_24 : decode cX6_cross 24 = .ok (.aload_n 0, 1) := by decide +kernel
theorem dX6_cross_25 : decode cX6_cross 25 = .ok (.getfield 26, 3) := by decide +kernel
theorem dX6_cross_28 : decode cX6_cross 28 = .ok (.iload_n 2, 1) := by decide +kernel
theorem dX6_cross_29 : decode cX6_cross 29 = .ok (.iaload, 1) := by decide +kernel
theorem dX6_cross_30 : decode cX6_cross 30 = .ok (.if_icmp .eq 7, 3) := by decide +kernel
theorem dX6_cross_33 : decode cX6_cross 33 = .ok (.ldc2_w 141, 3) := by decide +kernel
theorem dX6_cross_36 : decode cX6_cross 36 = .ok (.lreturn, 1) := by decide +kernel
theorem dX6_cross_37 : decode cX6_cross 37 = .ok (.lconst 0, 1) := by decide +kernel
theorem dX6_cross_38 : decode cX6_cross 38 = .ok (.lstore_n 3, 1) := by decide +kernel
theorem dX6_cross_39 : decode cX6_cross 39 = .ok (.iconst 0, 1) := by decide +kernel
theorem dX6_cross_40 : decode cX6_cross 40 = .ok (.istore 5, 2) := by decide +kernel
theorem dX6_cross_42 : decode cX6_cross 42 = .ok (.iload 5, 2) := by decide +kernel
theorem dX6_cross_44 : decode cX6_cross 44 = .ok (.aload_n 0, 1) := by decide +kernel
theorem dX6_cross_45 : decode cX6_cross 45 = .ok (.getfield 26, 3) := by decide +kernel
theorem dX6_cross_48 : decode cX6_cross 48 = .ok (.iload_n 1, 1) := by decide +kernel
theorem dX6_cross_49 : decode cX6_cross 49 = .ok (.iaload, 1) := by decide +kernel
theorem dX6_cross_50 : decode cX6_cross 50 = .ok (.if_icmp .ge 77, 3) := by decide +kernel
theorem dX6_cross_53 : decode cX6_cross 53 = .ok (.aload_n 0, 1) := by decide +kernel
theorem dX6_cross_54 : decode cX6_cross 54 = .ok (.getfield 29, 3) := by decide +kernel
theorem dX6_cross_57 : decode cX6_cross 57 = .ok (.bipush 64, 2) := by decide +kernel
theorem dX6_cross_59 : decode cX6_cross 59 = .ok (.iload_n 1, 1) := by decide +kernel
theorem dX6_cross_60 : decode cX6_cross 60 = .ok (.imul, 1) := by decide +kernel
theorem dX6_cross_61 : decode cX6_cross 61 = .ok (.iload 5, 2) := by decide +kernel
theorem dX6_cross_63 : decode cX6_cross 63 = .ok (.iadd, 1) := by decide +kernel
theorem dX6_cross_64 : decode cX6_cross 64 = .ok (.laload, 1) := by decide +kernel
theorem dX6_cross_65 : decode cX6_cross 65 = .ok (.lstore 6, 2) := by decide +kernel
theorem dX6_cross_67 : decode cX6_cross 67 = .ok (.aload_n 0, 1) := by decide +kernel
theorem dX6_cross_68 : decode cX6_cross 68 = .ok (.getfield 29, 3) := by decide +kernel
theorem dX6_cross_71 : decode cX6_cross 71 = .ok (.bipush 64, 2) := by decide +kernel
theorem dX6_cross_73 : decode cX6_cross 73 = .ok (.iload_n 2, 1) := by decide +kernel
theorem dX6_cross_74 : decode cX6_cross 74 = .ok (.imul, 1) := by decide +kernel
theorem dX6_cross_75 : decode cX6_cross 75 = .ok (.iload 5, 2) := by decide +kernel
theorem dX6_cross_77 : decode cX6_cross 77 = .ok (.iadd, 1) := by decide +kernel
theorem dX6_cross_78 : decode cX6_cross 78 = .ok (.laload, 1) := by decide +kernel
theorem dX6_cross_79 : decode cX6_cross 79 = .ok (.lstore 8, 2) := by decide +kernel
theorem dX6_cross_81 : decode cX6_cross 81 = .ok (.lload 6, 2) := by decide +kernel
theorem dX6_cross_83 : decode cX6_cross 83 = .ok (.ldc2_w 135, 3) := by decide +kernel
theorem dX6_cross_86 : decode cX6_cross 86 = .ok (.ldc2_w 137, 3) := by decide +kernel
theorem dX6_cross_89 : decode cX6_cross 89 = .ok (.invokestatic 60, 3) := by decide +kernel
theorem dX6_cross_92 : decode cX6_cross 92 = .ok (.ifCond .eq 17, 3) := by decide +kernel
theorem dX6_cross_95 : decode cX6_cross 95 = .ok (.lload 8, 2) := by decide +kernel
theorem dX6_cross_97 : decode cX6_cross 97 = .ok (.ldc2_w 135, 3) := by decide +kernel
theorem dX6_cross_100 : decode cX6_cross 100 = .ok (.ldc2_w 137, 3) := by decide +kernel
theorem dX6_cross_103 : decode cX6_cross 103 = .ok (.invokestatic 60, 3) := by decide +kernel
theorem dX6_cross_106 : decode cX6_cross 106 = .ok (.ifCond .ne 7, 3) := by decide +kernel
theorem dX6_cross_109 : decode cX6_cross 109 = .ok (.ldc2_w 139, 3) := by decide +kernel
theorem dX6_cross_112 : decode cX6_cross 112 = .ok (.lreturn, 1) := by decide +kernel
theorem dX6_cross_113 : decode cX6_cross 113 = .ok (.lload_n 3, 1) := by decide +kernel
theorem dX6_cross_114 : decode cX6_cross 114 = .ok (.lload 6, 2) := by decide +kernel
theorem dX6_cross_116 : decode cX6_cross 116 = .ok (.lload 8, 2) := by decide +kernel
theorem dX6_cross_118 : decode cX6_cross 118 = .ok (.lmul, 1) := by decide +kernel
theorem dX6_cross_119 : decode cX6_cross 119 = .ok (.ladd, 1) := by decide +kernel
theorem dX6_cross_120 : decode cX6_cross 120 = .ok (.lstore_n 3, 1) := by decide +kernel
theorem dX6_cross_121 : decode cX6_cross 121 = .ok (.iinc 5 1, 3) := by decide +kernel
theorem dX6_cross_124 : decode cX6_cross 124 = .ok (.goto (-82), 3) := by decide +kernel
theorem dX6_cross_127 : decode cX6_cross 127 = .ok (.lload_n 3, 1) := by decide +kernel
theorem dX6_cross_128 : decode cX6_cross 128 = .ok (.lreturn, 1) := by decide +kernel
theorem dX6_findTurns_0 : decode cX6_findTurns 0 = .ok (.aload_n 0, 1) := by decide +kernel
theorem dX6_findTurns_1 : decode cX6_findTurns 1 = .ok (.iconst 0, 1) := by decide +kernel
theorem dX6_findTurns_2 : decode cX6_findTurns 2 = .ok (.putfield 143, 3) := by decide +kernel
theorem dX6_findTurns_5 : decode cX6_findTurns 5 = .ok (.iconst 0, 1) := by decide +kernel
theorem dX6_findTurns_6 : decode cX6_findTurns 6 = .ok (.istore_n 2, 1) := by decide +kernel
theorem dX6_findTurns_7 : decode cX6_findTurns 7 = .ok (.iconst 0, 1) := by decide +kernel
theorem dX6_findTurns_8 : decode cX6_findTurns 8 = .ok (.istore_n 3, 1) := by decide +kernel
theorem dX6_findTurns_9 : decode cX6_findTurns 9 = .ok (.iload_n 3, 1) := by decide +kernel
theorem dX6_findTurns_10 : decode cX6_findTurns 10 = .ok (.aload_n 0, 1) := by decide +kernel
theorem dX6_findTurns_11 : decode cX6_findTurns 11 = .ok (.getfield 26, 3) := by decide +kernel
theorem dX6_findTurns_14 : decode cX6_findTurns 14 = .ok (.iload_n 1, 1) := by decide +kernel
theorem dX6_findTurns_15 : decode cX6_findTurns 15 = .ok (.iaload, 1) := by decide +kernel
theorem dX6_findTurns_16 : decode cX6_findTurns 16 = .ok (.if_icmp .ge 81, 3) := by decide +kernel
theorem dX6_findTurns_19 : decode cX6_findTurns 19 = .ok (.aload_n 0, 1) := by decide +kernel
theorem dX6_findTurns_20 : decode cX6_findTurns 20 = .ok (.getfield 29, 3) := by decide +kernel
theorem dX6_findTurns_23 : decode cX6_findTurns 23 = .ok (.bipush 64, 2) := by decide +kernel
theorem dX6_findTurns_25 : decode cX6_findTurns 25 = .ok (.iload_n 1, 1) := by decide +kernel
theorem dX6_findTurns_26 : decode cX6_findTurns 26 = .ok (.imul, 1) := by decide +kernel
theorem dX6_findTurns_27 : decode cX6_findTurns 27 = .ok (.iload_n 3, 1) := by decide +kernel
theorem dX6_findTurns_28 : decode cX6_findTurns 28 = .ok (.iadd, 1) := by decide +kernel
theorem dX6_findTurns_29 : decode cX6_findTurns 29 = .ok (.laload, 1) := by decide +kernel
theorem dX6_findTurns_30 : decode cX6_findTurns 30 = .ok (.lstore 4, 2) := by decide +kernel
theorem dX6_findTurns_32 : decode cX6_findTurns 32 = .ok (.lload 4, 2) := by decide +kernel
theorem dX6_findTurns_34 : decode cX6_findTurns 34 = .ok (.lconst 0, 1) := by decide +kernel
theorem dX6_findTurns_35 : decode cX6_findTurns 35 = .ok (.lcmp, 1) := by decide +kernel
theorem dX6_findTurns_36 : decode cX6_findTurns 36 = .ok (.ifCond .le 7, 3) := by decide +kernel
theorem dX6_findTurns_39 : decode cX6_findTurns 39 = .ok (.iconst 1, 1) := by decide +kernel
theorem dX6_findTurns_40 : decode cX6_findTurns 40 = .ok (.goto 15, 3) := by decide +kernel
theorem dX6_findTurns_43 : decode cX6_findTurns 43 = .ok (.lload 4, 2) := by decide +kernel
theorem dX6_findTurns_45 : decode cX6_findTurns 45 = .ok (.lconst 0, 1) := by decide +kernel
theorem dX6_findTurns_46 : decode cX6_findTurns 46 = .ok (.lcmp, 1) := by decide +kernel
theorem dX6_findTurns_47 : decode cX6_findTurns 47 = .ok (.ifCond .ge 7, 3) := by decide +kernel
theorem dX6_findTurns_50 : decode cX6_findTurns 50 = .ok (.iconst (-1), 1) := by decide +kernel
theorem dX6_findTurns_51 : decode cX6_findTurns 51 = .ok (.goto 4, 3) := by decide +kernel
theorem dX6_findTurns_54 : decode cX6_findTurns 54 = .ok (.iload_n 2, 1) := by decide +kernel
theorem dX6_findTurns_55 : decode cX6_findTurns 55 = .ok (.istore 6, 2) := by decide +kernel
theorem dX6_findTurns_57 : decode cX6_findTurns 57 = .ok (.iload 6, 2) := by decide +kernel
theorem dX6_findTurns_59 : decode cX6_findTurns 59 = .ok (.iconst 1, 1) := by decide +kernel
theorem dX6_findTurns_60 : decode cX6_findTurns 60 = .ok (.if_icmp .ne 28, 3) := by decide +kernel
theorem dX6_findTurns_63 : decode cX6_findTurns 63 = .ok (.iload_n 2, 1) := by decide +kernel
theorem dX6_findTurns_64 : decode cX6_findTurns 64 = .ok (.iconst (-1), 1) := by decide +kernel
theorem dX6_findTurns_65 : decode cX6_findTurns 65 = .ok (.if_icmp .ne 23, 3) := by decide +kernel
theorem dX6_findTurns_68 : decode cX6_findTurns 68 = .ok (.aload_n 0, 1) := by decide +kernel
theorem dX6_findTurns_69 : decode cX6_findTurns 69 = .ok (.getfield 55, 3) := by decide +kernel
theorem dX6_findTurns_72 : decode cX6_findTurns 72 = .ok (.aload_n 0, 1) := by decide +kernel
theorem dX6_findTurns_73 : decode cX6_findTurns 73 = .ok (.getfield 143, 3) := by decide +kernel
theorem dX6_findTurns_76 : decode cX6_findTurns 76 = .ok (.iload_n 3, 1) := by decide +kernel
theorem dX6_findTurns_77 : decode cX6_findTurns 77 = .ok (.iastore, 1) := by decide +kernel
theorem dX6_findTurns_78 : decode cX6_findTurns 78 = .ok (.aload_n 0, 1) := by decide +kernel
theorem dX6_findTurns_79 : decode cX6_findTurns 79 = .ok (.dup, 1) := by decide +kernel
theorem dX6_findTurns_80 : decode cX6_findTurns 80 = .ok (.getfield 143, 3) := by decide +kernel
theorem dX6_findTurns_83 : decode cX6_findTurns 83 = .ok (.iconst 1, 1) := by decide +kernel
theorem dX6_findTurns_84 : decode cX6_findTurns 84 = .ok (.iadd, 1) := by decide +kernel
theorem dX6_findTurns_85 : decode cX6_findTurns 85 = .ok (.putfield 143, 3) := by decide +kernel
theorem dX6_findTurns_88 : decode cX6_findTurns 88 = .ok (.iload 6, 2) := by decide +kernel
theorem dX6_findTurns_90 : decode cX6_findTurns 90 = .ok (.istore_n 2, 1) := by decide +kernel
theorem dX6_findTurns_91 : decode cX6_findTurns 91 = .ok (.iinc 3 1, 3) := by decide +kernel
theorem dX6_findTurns_94 : decode cX6_findTurns 94 = .ok (.goto (-85), 3) := by decide +kernel
theorem dX6_findTurns_97 : decode cX6_findTurns 97 = .ok (.return_, 1) := by decide +kernel
theorem dX6_waveMany_0 : decode cX6_waveMany 0 = .ok (.aload_n 0, 1) := by decide +kernel
theorem dX6_waveMany_1 : decode cX6_waveMany 1 = .ok (.iload_n 1, 1) := by decide +kernel
theorem dX6_waveMany_2 : decode cX6_waveMany 2 = .ok (.invokevirtual 146, 3) := by decide +kernel
theorem dX6_waveMany_5 : decode cX6_waveMany 5 = .ok (.aload_n 0, 1) := by decide +kernel
theorem dX6_waveMany_6 : decode cX6_waveMany 6 = .ok (.getfield 143, 3) := by decide +kernel
theorem dX6_waveMany_9 : decode cX6_waveMany 9 = .ok (.ifCond .le 12, 3) := by decide +kernel
theorem dX6_waveMany_12 : decode cX6_waveMany 12 = .ok (.aload_n 0, 1) := by decide +kernel
theorem dX6_waveMany_13 : decode cX6_waveMany 13 = .ok (.getfield 143, 3) := by decide +kernel
theorem dX6_waveMany_16 : decode cX6_waveMany 16 = .ok (.iconst 1, 1) := by decide +kernel
theorem dX6_waveMany_17 : decode cX6_waveMany 17 = .ok (.isub, 1) := by decide +kernel
theorem dX6_waveMany_18 : decode cX6_waveMany 18 = .ok (.goto 4, 3) := by decide +kernel
theorem dX6_waveMany_21 : decode cX6_waveMany 21 = .ok (.iconst 0, 1) := by decide +kernel
theorem dX6_waveMany_22 : decode cX6_waveMany 22 = .ok (.ireturn, 1) := by decide +kernel
theorem dX6_end_0 : decode cX6_end 0 = .ok (.aload_n 0, 1) := by decide +kernel
theorem dX6_end_1 : decode cX6_end 1 = .ok (.getfield 29, 3) := by decide +kernel
theorem dX6_end_4 : decode cX6_end 4 = .ok (.bipush 64, 2) := by decide +kernel
theorem dX6_end_6 : decode cX6_end 6 = .ok (.iload_n 1, 1) := by decide +kernel
theorem dX6_end_7 : decode cX6_end 7 = .ok (.imul, 1) := by decide +kernel
theorem dX6_end_8 : decode cX6_end 8 = .ok (.aload_n 0, 1) := by decide +kernel
theorem dX6_end_9 : decode cX6_end 9 = .ok (.getfield 55, 3) := by decide +kernel
theorem dX6_end_12 : decode cX6_end 12 = .ok (.iload_n 2, 1) := by decide +kernel
theorem dX6_end_13 : decode cX6_end 13 = .ok (.iaload, 1) := by decide +kernel
theorem dX6_end_14 : decode cX6_end 14 = .ok (.iadd, 1) := by decide +kernel
theorem dX6_end_15 : decode cX6_end 15 = .ok (.laload, 1) := by decide +kernel
theorem dX6_end_16 : decode cX6_end 16 = .ok (.lstore 4, 2) := by decide +kernel
theorem dX6_end_18 : decode cX6_end 18 = .ok (.aload_n 0, 1) := by decide +kernel
theorem dX6_end_19 : decode cX6_end 19 = .ok (.getfield 55, 3) := by decide +kernel
theorem dX6_end_22 : decode cX6_end 22 = .ok (.iload_n 2, 1) := by decide +kernel
theorem dX6_end_23 : decode cX6_end 23 = .ok (.iaload, 1) := by decide +kernel
theorem dX6_end_24 : decode cX6_end 24 = .ok (.istore 6, 2) := by decide +kernel
theorem dX6_end_26 : decode cX6_end 26 = .ok (.iload 6, 2) := by decide +kernel
theorem dX6_end_28 : decode cX6_end 28 = .ok (.aload_n 0, 1) := by decide +kernel
theorem dX6_end_29 : decode cX6_end 29 = .ok (.getfield 55, 3) := by decide +kernel
theorem dX6_end_32 : decode cX6_end 32 = .ok (.iload_n 2, 1) := by decide +kernel
theorem dX6_end_33 : decode cX6_end 33 = .ok (.iconst 1, 1) := by decide +kernel
theorem dX6_end_34 : decode cX6_end 34 = .ok (.iadd, 1) := by decide +kernel
theorem dX6_end_35 : decode cX6_end 35 = .ok (.iaload, 1) := by decide +kernel
theorem dX6_end_36 : decode cX6_end 36 = .ok (.if_icmp .ge 55, 3) := by decide +kernel
theorem dX6_end_39 : decode cX6_end 39 = .ok (.aload_n 0, 1) := by decide +kernel
theorem dX6_end_40 : decode cX6_end 40 = .ok (.getfield 29, 3) := by decide +kernel
theorem dX6_end_43 : decode cX6_end 43 = .ok (.bipush 64, 2) := by decide +kernel
theorem dX6_end_45 : decode cX6_end 45 = .ok (.iload_n 1, 1) := by decide +kernel
theorem dX6_end_46 : decode cX6_end 46 = .ok (.imul, 1) := by decide +kernel
theorem dX6_end_47 : decode cX6_end 47 = .ok (.iload 6, 2) := by decide +kernel
theorem dX6_end_49 : decode cX6_end 49 = .ok (.iadd, 1) := by decide +kernel
theorem dX6_end_50 : decode cX6_end 50 = .ok (.laload, 1) := by decide +kernel
theorem dX6_end_51 : decode cX6_end 51 = .ok (.lstore 7, 2) := by decide +kernel
theorem dX6_end_53 : decode cX6_end 53 = .ok (.iload_n 3, 1) := by decide +kernel
theorem dX6_end_54 : decode cX6_end 54 = .ok (.ifCond .eq 14, 3) := by decide +kernel
theorem dX6_end_57 : decode cX6_end 57 = .ok (.lload 7, 2) := by decide +kernel
theorem dX6_end_59 : decode cX6_end 59 = .ok (.lload 4, 2) := by decide +kernel
theorem dX6_end_61 : decode cX6_end 61 = .ok (.lcmp, 1) := by decide +kernel
theorem dX6_end_62 : decode cX6_end 62 = .ok (.ifCond .le 19, 3) := by decide +kernel
theorem dX6_end_65 : decode cX6_end 65 = .ok (.goto 11, 3) := by decide +kernel
theorem dX6_end_68 : decode cX6_end 68 = .ok (.lload 7, 2) := by decide +kernel
theorem dX6_end_70 : decode cX6_end 70 = .ok (.lload 4, 2) := by decide +kernel
theorem dX6_end_72 : decode cX6_end 72 = .ok (.lcmp, 1) := by decide +kernel
theorem dX6_end_73 : decode cX6_end 73 = .ok (.ifCond .ge 8, 3) := by decide +kernel
theorem dX6_end_76 : decode cX6_end 76 = .ok (.lload 7, 2) := by decide +kernel
theorem dX6_end_78 : decode cX6_end 78 = .ok (.goto 5, 3) := by decide +kernel
theorem dX6_end_81 : decode cX6_end 81 = .ok (.lload 4, 2) := by decide +kernel
theorem dX6_end_83 : decode cX6_end 83 = .ok (.lstore 4, 2) := by decide +kernel
theorem dX6_end_85 : decode cX6_end 85 = .ok (.iinc 6 1, 3) := by decide +kernel
theorem dX6_end_88 : decode cX6_end 88 = .ok (.goto (-62), 3) := by decide +kernel
theorem dX6_end_91 : decode cX6_end 91 = .ok (.lload 4, 2) := by decide +kernel
theorem dX6_end_93 : decode cX6_end 93 = .ok (.lreturn, 1) := by decide +kernel
theorem dX6_height_0 : decode cX6_height 0 = .ok (.aload_n 0, 1) := by decide +kernel
theorem dX6_height_1 : decode cX6_height 1 = .ok (.iload_n 1, 1) := by decide +kernel
theorem dX6_height_2 : decode cX6_height 2 = .ok (.iload_n 2, 1) := by decide +kernel
theorem dX6_height_3 : decode cX6_height 3 = .ok (.iconst 1, 1) := by decide +kernel
theorem dX6_height_4 : decode cX6_height 4 = .ok (.invokevirtual 150, 3) := by decide +kernel
theorem dX6_height_7 : decode cX6_height 7 = .ok (.aload_n 0, 1) := by decide +kernel
theorem dX6_height_8 : decode cX6_height 8 = .ok (.iload_n 1, 1) := by decide +kernel
theorem dX6_height_9 : decode cX6_height 9 = .ok (.iload_n 2, 1) := by decide +kernel
theorem dX6_height_10 : decode cX6_height 10 = .ok (.iconst 0, 1) := by decide +kernel
theorem dX6_height_11 : decode cX6_height 11 = .ok (.invokevirtual 150, 3) := by decide +kernel
theorem dX6_height_14 : decode cX6_height 14 = .ok (.lsub, 1) := by decide +kernel
theorem dX6_height_15 : decode cX6_height 15 = .ok (.lreturn, 1) := by decide +kernel
theorem dX6_waves_0 : decode cX6_waves 0 = .ok (.iload_n 1, 1) := by decide +kernel
theorem dX6_waves_1 : decode cX6_waves 1 = .ok (.invokestatic 100, 3) := by decide +kernel
theorem dX6_waves_4 : decode cX6_waves 4 = .ok (.ifCond .eq 11, 3) := by decide +kernel
theorem dX6_waves_7 : decode cX6_waves 7 = .ok (.aload_n 0, 1) := by decide +kernel
theorem dX6_waves_8 : decode cX6_waves 8 = .ok (.iload_n 1, 1) := by decide +kernel
theorem dX6_waves_9 : decode cX6_waves 9 = .ok (.invokevirtual 154, 3) := by decide +kernel
theorem dX6_waves_12 : decode cX6_waves 12 = .ok (.goto 5, 3) := by decide +kernel
theorem dX6_waves_15 : decode cX6_waves 15 = .ok (.bipush (-2), 2) := by decide +kernel
theorem dX6_waves_17 : decode cX6_waves 17 = .ok (.ireturn, 1) := by decide +kernel
theorem dX6_wave_0 : decode cX6_wave 0 = .ok (.iload_n 1, 1) := by decide +kernel
theorem dX6_wave_1 : decode cX6_wave 1 = .ok (.invokestatic 100, 3) := by decide +kernel
theorem dX6_wave_4 : decode cX6_wave 4 = .ok (.ifCond .eq 15, 3) := by decide +kernel
theorem dX6_wave_7 : decode cX6_wave 7 = .ok (.iload_n 3, 1) := by decide +kernel
theorem dX6_wave_8 : decode cX6_wave 8 = .ok (.i2l, 1) := by decide +kernel
theorem dX6_wave_9 : decode cX6_wave 9 = .ok (.lconst 0, 1) := by decide +kernel
theorem dX6_wave_10 : decode cX6_wave 10 = .ok (.ldc2_w 157, 3) := by decide +kernel
theorem dX6_wave_13 : decode cX6_wave 13 = .ok (.invokestatic 60, 3) := by decide +kernel
theorem dX6_wave_16 : decode cX6_wave 16 = .ok (.ifCond .ne 7, 3) := by decide +kernel
theorem dX6_wave_19 : decode cX6_wave 19 = .ok (.ldc2_w 104, 3) := by decide +kernel
theorem dX6_wave_22 : decode cX6_wave 22 = .ok (.lreturn, 1) := by decide +kernel
theorem dX6_wave_23 : decode cX6_wave 23 = .ok (.iload_n 2, 1) := by decide +kernel
theorem dX6_wave_24 : decode cX6_wave 24 = .ok (.i2l, 1) := by decide +kernel
theorem dX6_wave_25 : decode cX6_wave 25 = .ok (.lconst 0, 1) := by decide +kernel
theorem dX6_wave_26 : decode cX6_wave 26 = .ok (.aload_n 0, 1) := by decide +kernel
theorem dX6_wave_27 : decode cX6_wave 27 = .ok (.iload_n 1, 1) := by decide +kernel
theorem dX6_wave_28 : decode cX6_wave 28 = .ok (.invokevirtual 154, 3) := by decide +kernel
theorem dX6_wave_31 : decode cX6_wave 31 = .ok (.iconst 1, 1) := by decide +kernel
theorem dX6_wave_32 : decode cX6_wave 32 = .ok (.isub, 1) := by decide +kernel
theorem dX6_wave_33 : decode cX6_wave 33 = .ok (.i2l, 1) := by decide +kernel
theorem dX6_wave_34 : decode cX6_wave 34 = .ok (.invokestatic 60, 3) := by decide +kernel
theorem dX6_wave_37 : decode cX6_wave 37 = .ok (.ifCond .ne 7, 3) := by decide +kernel
theorem dX6_wave_40 : decode cX6_wave 40 = .ok (.ldc2_w 84, 3) := by decide +kernel
theorem dX6_wave_43 : decode cX6_wave 43 = .ok (.lreturn, 1) := by decide +kernel
theorem dX6_wave_44 : decode cX6_wave 44 = .ok (.iload_n 3, 1) := by decide +kernel
theorem dX6_wave_45 : decode cX6_wave 45 = .ok (.tableswitch 72 0 3 #[31, 39, 56, 64], 31) := by decide +kernel
theorem dX6_wave_76 : decode cX6_wave 76 = .ok (.aload_n 0, 1) := by decide +kernel
theorem dX6_wave_77 : decode cX6_wave 77 = .ok (.getfield 55, 3) := by decide +kernel
theorem dX6_wave_80 : decode cX6_wave 80 = .ok (.iload_n 2, 1) := by decide +kernel
theorem dX6_wave_81 : decode cX6_wave 81 = .ok (.iaload, 1) := by decide +kernel
theorem dX6_wave_82 : decode cX6_wave 82 = .ok (.i2l, 1) := by decide +kernel
theorem dX6_wave_83 : decode cX6_wave 83 = .ok (.lreturn, 1) := by decide +kernel
theorem dX6_wave_84 : decode cX6_wave 84 = .ok (.aload_n 0, 1) := by decide +kernel
theorem dX6_wave_85 : decode cX6_wave 85 = .ok (.getfield 55, 3) := by decide +kernel
theorem dX6_wave_88 : decode cX6_wave 88 = .ok (.iload_n 2, 1) := by decide +kernel
theorem dX6_wave_89 : decode cX6_wave 89 = .ok (.iconst 1, 1) := by decide +kernel
theorem dX6_wave_90 : decode cX6_wave 90 = .ok (.iadd, 1) := by decide +kernel
theorem dX6_wave_91 : decode cX6_wave 91 = .ok (.iaload, 1) := by decide +kernel
theorem dX6_wave_92 : decode cX6_wave 92 = .ok (.aload_n 0, 1) := by decide +kernel
theorem dX6_wave_93 : decode cX6_wave 93 = .ok (.getfield 55, 3) := by decide +kernel
theorem dX6_wave_96 : decode cX6_wave 96 = .ok (.iload_n 2, 1) := by decide +kernel
theorem dX6_wave_97 : decode cX6_wave 97 = .ok (.iaload, 1) := by decide +kernel
theorem dX6_wave_98 : decode cX6_wave 98 = .ok (.isub, 1) := by decide +kernel
theorem dX6_wave_99 : decode cX6_wave 99 = .ok (.i2l, 1) := by decide +kernel
theorem dX6_wave_100 : decode cX6_wave 100 = .ok (.lreturn, 1) := by decide +kernel
theorem dX6_wave_101 : decode cX6_wave 101 = .ok (.aload_n 0, 1) := by decide +kernel
theorem dX6_wave_102 : decode cX6_wave 102 = .ok (.iload_n 1, 1) := by decide +kernel
theorem dX6_wave_103 : decode cX6_wave 103 = .ok (.iload_n 2, 1) := by decide +kernel
theorem dX6_wave_104 : decode cX6_wave 104 = .ok (.iconst 1, 1) := by decide +kernel
theorem dX6_wave_105 : decode cX6_wave 105 = .ok (.invokevirtual 150, 3) := by decide +kernel
theorem dX6_wave_108 : decode cX6_wave 108 = .ok (.lreturn, 1) := by decide +kernel
theorem dX6_wave_109 : decode cX6_wave 109 = .ok (.aload_n 0, 1) := by decide +kernel
theorem dX6_wave_110 : decode cX6_wave 110 = .ok (.iload_n 1, 1) := by decide +kernel
theorem dX6_wave_111 : decode cX6_wave 111 = .ok (.iload_n 2, 1) := by decide +kernel
theorem dX6_wave_112 : decode cX6_wave 112 = .ok (.iconst 0, 1) := by decide +kernel
theorem dX6_wave_113 : decode cX6_wave 113 = .ok (.invokevirtual 150, 3) := by decide +kernel
theorem dX6_wave_116 : decode cX6_wave 116 = .ok (.lreturn, 1) := by decide +kernel
theorem dX6_wave_117 : decode cX6_wave 117 = .ok (.aload_n 0, 1) := by decide +kernel
theorem dX6_wave_118 : decode cX6_wave 118 = .ok (.iload_n 1, 1) := by decide +kernel
theorem dX6_wave_119 : decode cX6_wave 119 = .ok (.iload_n 2, 1) := by decide +kernel
theorem dX6_wave_120 : decode cX6_wave 120 = .ok (.invokevirtual 159, 3) := by decide +kernel
theorem dX6_wave_123 : decode cX6_wave 123 = .ok (.lreturn, 1) := by decide +kernel
theorem dX6_divisor_0 : decode cX6_divisor 0 = .ok (.lload_n 0, 1) := by decide +kernel
theorem dX6_divisor_1 : decode cX6_divisor 1 = .ok (.lstore 4, 2) := by decide +kernel
theorem dX6_divisor_3 : decode cX6_divisor 3 = .ok (.lload_n 2, 1) := by decide +kernel
theorem dX6_divisor_4 : decode cX6_divisor 4 = .ok (.lstore 6, 2) := by decide +kernel
theorem dX6_divisor_6 : decode cX6_divisor 6 = .ok (.lload 6, 2) := by decide +kernel
theorem dX6_divisor_8 : decode cX6_divisor 8 = .ok (.lconst 0, 1) := by decide +kernel
theorem dX6_divisor_9 : decode cX6_divisor 9 = .ok (.lcmp, 1) := by decide +kernel
theorem dX6_divisor_10 : decode cX6_divisor 10 = .ok (.ifCond .eq 21, 3) := by decide +kernel
theorem dX6_divisor_13 : decode cX6_divisor 13 = .ok (.lload 4, 2) := by decide +kernel
theorem dX6_divisor_15 : decode cX6_divisor 15 = .ok (.lload 6, 2) := by decide +kernel
theorem dX6_divisor_17 : decode cX6_divisor 17 = .ok (.lrem, 1) := by decide +kernel
theorem dX6_divisor_18 : decode cX6_divisor 18 = .ok (.lstore 8, 2) := by decide +kernel
theorem dX6_divisor_20 : decode cX6_divisor 20 = .ok (.lload 6, 2) := by decide +kernel
theorem dX6_divisor_22 : decode cX6_divisor 22 = .ok (.lstore 4, 2) := by decide +kernel
theorem dX6_divisor_24 : decode cX6_divisor 24 = .ok (.lload 8, 2) := by decide +kernel
theorem dX6_divisor_26 : decode cX6_divisor 26 = .ok (.lstore 6, 2) := by decide +kernel
theorem dX6_divisor_28 : decode cX6_divisor 28 = .ok (.goto (-22), 3) := by decide +kernel
theorem dX6_divisor_31 : decode cX6_divisor 31 = .ok (.lload 4, 2) := by decide +kernel
theorem dX6_divisor_33 : decode cX6_divisor 33 = .ok (.lreturn, 1) := by decide +kernel
theorem dX6_third_0 : decode cX6_third 0 = .ok (.iload_n 1, 1) := by decide +kernel
theorem dX6_third_1 : decode cX6_third 1 = .ok (.invokestatic 100, 3) := by decide +kernel
theorem dX6_third_4 : decode cX6_third 4 = .ok (.ifCond .eq 13, 3) := by decide +kernel
theorem dX6_third_7 : decode cX6_third 7 = .ok (.iload_n 2, 1) := by decide +kernel
theorem dX6_third_8 : decode cX6_third 8 = .ok (.i2l, 1) := by decide +kernel
theorem dX6_third_9 : decode cX6_third 9 = .ok (.lconst 0, 1) := by decide +kernel
theorem dX6_third_10 : decode cX6_third 10 = .ok (.lconst 1, 1) := by decide +kernel
theorem dX6_third_11 : decode cX6_third 11 = .ok (.invokestatic 60, 3) := by decide +kernel
theorem dX6_third_14 : decode cX6_third 14 = .ok (.ifCond .ne 7, 3) := by decide +kernel
theorem dX6_third_17 : decode cX6_third 17 = .ok (.ldc2_w 104, 3) := by decide +kernel
theorem dX6_third_20 : decode cX6_third 20 = .ok (.lreturn, 1) := by decide +kernel
theorem dX6_third_21 : decode cX6_third 21 = .ok (.aload_n 0, 1) := by decide +kernel
theorem dX6_third_22 : decode cX6_third 22 = .ok (.iload_n 1, 1) := by decide +kernel
theorem dX6_third_23 : decode cX6_third 23 = .ok (.invokevirtual 154, 3) := by decide +kernel
theorem dX6_third_26 : decode cX6_third 26 = .ok (.istore_n 3, 1) := by decide +kernel
theorem dX6_third_27 : decode cX6_third 27 = .ok (.iload_n 3, 1) := by decide +kernel
theorem dX6_third_28 : decode cX6_third 28 = .ok (.ifCond .ne 7, 3) := by decide +kernel
theorem dX6_third_31 : decode cX6_third 31 = .ok (.ldc2_w 141, 3) := by decide +kernel
theorem dX6_third_34 : decode cX6_third 34 = .ok (.lreturn, 1) := by decide +kernel
theorem dX6_third_35 : decode cX6_third 35 = .ok (.iload_n 3, 1) := by decide +kernel
theorem dX6_third_36 : decode cX6_third 36 = .ok (.iconst 3, 1) := by decide +kernel
theorem dX6_third_37 : decode cX6_third 37 = .ok (.idiv, 1) := by decide +kernel
theorem dX6_third_38 : decode cX6_third 38 = .ok (.iconst 1, 1) := by decide +kernel
theorem dX6_third_39 : decode cX6_third 39 = .ok (.if_icmp .le 9, 3) := by decide +kernel
theorem dX6_third_42 : decode cX6_third 42 = .ok (.iload_n 3, 1) := by decide +kernel
theorem dX6_third_43 : decode cX6_third 43 = .ok (.iconst 3, 1) := by decide +kernel
theorem dX6_third_44 : decode cX6_third 44 = .ok (.idiv, 1) := by decide +kernel
theorem dX6_third_45 : decode cX6_third 45 = .ok (.goto 4, 3) := by decide +kernel
theorem dX6_third_48 : decode cX6_third 48 = .ok (.iconst 1, 1) := by decide +kernel
theorem dX6_third_49 : decode cX6_third 49 = .ok (.istore 4, 2) := by decide +kernel
theorem dX6_third_51 : decode cX6_third 51 = .ok (.iconst 0, 1) := by decide +kernel
theorem dX6_third_52 : decode cX6_third 52 = .ok (.istore 5, 2) := by decide +kernel
theorem dX6_third_54 : decode cX6_third 54 = .ok (.iload 5, 2) := by decide +kernel
theorem dX6_third_56 : decode cX6_third 56 = .ok (.iload_n 3, 1) := by decide +kernel
theorem dX6_third_57 : decode cX6_third 57 = .ok (.if_icmp .ge 23, 3) := by decide +kernel
theorem dX6_third_60 : decode cX6_third 60 = .ok (.aload_n 0, 1) := by decide +kernel
theorem dX6_third_61 : decode cX6_third 61 = .ok (.getfield 33, 3) := by decide +kernel
theorem dX6_third_64 : decode cX6_third 64 = .ok (.iload 5, 2) := by decide +kernel
theorem dX6_third_66 : decode cX6_third 66 = .ok (.aload_n 0, 1) := by decide +kernel
theorem dX6_third_67 : decode cX6_third 67 = .ok (.iload_n 1, 1) := by decide +kernel
theorem dX6_third_68 : decode cX6_third 68 = .ok (.iload 5, 2) := by decide +kernel
theorem dX6_third_70 : decode cX6_third 70 = .ok (.invokevirtual 159, 3) := by decide +kernel
theorem dX6_third_73 : decode cX6_third 73 = .ok (.lastore, 1) := by decide +kernel
theorem dX6_third_74 : decode cX6_third 74 = .ok (.iinc 5 1, 3) := by decide +kernel
theorem dX6_third_77 : decode cX6_third 77 = .ok (.goto (-23), 3) := by decide +kernel
theorem dX6_third_80 : decode cX6_third 80 = .ok (.lconst 0, 1) := by decide +kernel
theorem dX6_third_81 : decode cX6_third 81 = .ok (.lstore 5, 2) := by decide +kernel
theorem dX6_third_83 : decode cX6_third 83 = .ok (.iconst 0, 1) := by decide +kernel
theorem dX6_third_84 : decode cX6_third 84 = .ok (.istore 7, 2) := by decide +kernel
theorem dX6_third_86 : decode cX6_third 86 = .ok (.iload 7, 2) := by decide +kernel
theorem dX6_third_88 : decode cX6_third 88 = .ok (.iload 4, 2) := by decide +kernel
theorem dX6_third_90 : decode cX6_third 90 = .ok (.if_icmp .ge 76, 3) := by decide +kernel
theorem dX6_third_93 : decode cX6_third 93 = .ok (.iconst 0, 1) := by decide +kernel
theorem dX6_third_94 : decode cX6_third 94 = .ok (.istore 8, 2) := by decide +kernel
theorem dX6_third_96 : decode cX6_third 96 = .ok (.iconst 1, 1) := by decide +kernel
theorem dX6_third_97 : decode cX6_third 97 = .ok (.istore 9, 2) := by decide +kernel
theorem dX6_third_99 : decode cX6_third 99 = .ok (.iload 9, 2) := by decide +kernel
theorem dX6_third_101 : decode cX6_third 101 = .ok (.iload_n 3, 1) := by decide +kernel
theorem dX6_third_102 : decode cX6_third 102 = .ok (.if_icmp .ge 36, 3) := by decide +kernel
theorem dX6_third_105 : decode cX6_third 105 = .ok (.aload_n 0, 1) := by decide +kernel
theorem dX6_third_106 : decode cX6_third 106 = .ok (.getfield 33, 3) := by decide +kernel
theorem dX6_third_109 : decode cX6_third 109 = .ok (.iload 9, 2) := by decide +kernel
theorem dX6_third_111 : decode cX6_third 111 = .ok (.laload, 1) := by decide +kernel
theorem dX6_third_112 : decode cX6_third 112 = .ok (.aload_n 0, 1) := by decide +kernel
theorem dX6_third_113 : decode cX6_third 113 = .ok (.getfield 33, 3) := by decide +kernel
theorem dX6_third_116 : decode cX6_third 116 = .ok (.iload 8, 2) := by decide +kernel
theorem dX6_third_118 : decode cX6_third 118 = .ok (.laload, 1) := by decide +kernel
theorem dX6_third_119 : decode cX6_third 119 = .ok (.lcmp, 1) := by decide +kernel
theorem dX6_third_120 : decode cX6_third 120 = .ok (.ifCond .le 8, 3) := by decide +kernel
theorem dX6_third_123 : decode cX6_third 123 = .ok (.iload 9, 2) := by decide +kernel
theorem dX6_third_125 : decode cX6_third 125 = .ok (.goto 5, 3) := by decide +kernel
theorem dX6_third_128 : decode cX6_third 128 = .ok (.iload 8, 2) := by decide +kernel
theorem dX6_third_130 : decode cX6_third 130 = .ok (.istore 8, 2) := by decide +kernel
theorem dX6_third_132 : decode cX6_third 132 = .ok (.iinc 9 1, 3) := by decide +kernel
theorem dX6_third_135 : decode cX6_third 135 = .ok (.goto (-36), 3) := by decide +kernel
theorem dX6_third_138 : decode cX6_third 138 = .ok (.lload 5, 2) := by decide +kernel
theorem dX6_third_140 : decode cX6_third 140 = .ok (.aload_n 0, 1) := by decide +kernel
theorem dX6_third_141 : decode cX6_third 141 = .ok (.getfield 33, 3) := by decide +kernel
theorem dX6_third_144 : decode cX6_third 144 = .ok (.iload 8, 2) := by decide +kernel
theorem dX6_third_146 : decode cX6_third 146 = .ok (.laload, 1) := by decide +kernel
theorem dX6_third_147 : decode cX6_third 147 = .ok (.ladd, 1) := by decide +kernel
theorem dX6_third_148 : decode cX6_third 148 = .ok (.lstore 5, 2) := by decide +kernel
theorem dX6_third_150 : decode cX6_third 150 = .ok (.aload_n 0, 1) := by decide +kernel
theorem dX6_third_151 : decode cX6_third 151 = .ok (.getfield 33, 3) := by decide +kernel
theorem dX6_third_154 : decode cX6_third 154 = .ok (.iload 8, 2) := by decide +kernel
theorem dX6_third_156 : decode cX6_third 156 = .ok (.ldc2_w 108, 3) := by decide +kernel
theorem dX6_third_159 : decode cX6_third 159 = .ok (.lastore, 1) := by decide +kernel
theorem dX6_third_160 : decode cX6_third 160 = .ok (.iinc 7 1, 3) := by decide +kernel
theorem dX6_third_163 : decode cX6_third 163 = .ok (.goto (-77), 3) := by decide +kernel
theorem dX6_third_166 : decode cX6_third 166 = .ok (.lload 5, 2) := by decide +kernel
theorem dX6_third_168 : decode cX6_third 168 = .ok (.iload 4, 2) := by decide +kernel
theorem dX6_third_170 : decode cX6_third 170 = .ok (.i2l, 1) := by decide +kernel
theorem dX6_third_171 : decode cX6_third 171 = .ok (.invokestatic 163, 3) := by decide +kernel
theorem dX6_third_174 : decode cX6_third 174 = .ok (.lstore 7, 2) := by decide +kernel
theorem dX6_third_176 : decode cX6_third 176 = .ok (.iload_n 2, 1) := by decide +kernel
theorem dX6_third_177 : decode cX6_third 177 = .ok (.ifCond .ne 11, 3) := by decide +kernel
theorem dX6_third_180 : decode cX6_third 180 = .ok (.lload 5, 2) := by decide +kernel
theorem dX6_third_182 : decode cX6_third 182 = .ok (.lload 7, 2) := by decide +kernel
theorem dX6_third_184 : decode cX6_third 184 = .ok (.ldiv, 1) := by decide +kernel
theorem dX6_third_185 : decode cX6_third 185 = .ok (.goto 9, 3) := by decide +kernel
theorem dX6_third_188 : decode cX6_third 188 = .ok (.iload 4, 2) := by decide +kernel
theorem dX6_third_190 : decode cX6_third 190 = .ok (.i2l, 1) := by decide +kernel
theorem dX6_third_191 : decode cX6_third 191 = .ok (.lload 7, 2) := by decide +kernel
theorem dX6_third_193 : decode cX6_third 193 = .ok (.ldiv, 1) := by decide +kernel
theorem dX6_third_194 : decode cX6_third 194 = .ok (.lreturn, 1) := by decide +kernel
theorem dX6_groups_0 : decode cX6_groups 0 = .ok (.iload_n 1, 1) := by decide +kernel
theorem dX6_groups_1 : decode cX6_groups 1 = .ok (.invokestatic 100, 3) := by decide +kernel
theorem dX6_groups_4 : decode cX6_groups 4 = .ok (.ifCond .eq 14, 3) := by decide +kernel
theorem dX6_groups_7 : decode cX6_groups 7 = .ok (.iload 4, 2) := by decide +kernel
theorem dX6_groups_9 : decode cX6_groups 9 = .ok (.i2l, 1) := by decide +kernel
theorem dX6_groups_10 : decode cX6_groups 10 = .ok (.lconst 0, 1) := by decide +kernel
theorem dX6_groups_11 : decode cX6_groups 11 = .ok (.lconst 1, 1) := by decide +kernel
theorem dX6_groups_12 : decode cX6_groups 12 = .ok (.invokestatic 60, 3) := by decide +kernel
theorem dX6_groups_15 : decode cX6_groups 15 = .ok (.ifCond .ne 6, 3) := by decide +kernel
theorem dX6_groups_18 : decode cX6_groups 18 = .ok (.bipush (-2), 2) := by decide +kernel
theorem dX6_groups_20 : decode cX6_groups 20 = .ok (.ireturn, 1) := by decide +kernel
theorem dX6_groups_21 : decode cX6_groups 21 = .ok (.aload_n 0, 1) := by decide +kernel
theorem dX6_groups_22 : decode cX6_groups 22 = .ok (.iload_n 1, 1) := by decide +kernel
theorem dX6_groups_23 : decode cX6_groups 23 = .ok (.invokevirtual 154, 3) := by decide +kernel
theorem dX6_groups_26 : decode cX6_groups 26 = .ok (.istore 5, 2) := by decide +kernel
theorem dX6_groups_28 : decode cX6_groups 28 = .ok (.iconst 0, 1) := by decide +kernel
theorem dX6_groups_29 : decode cX6_groups 29 = .ok (.istore 6, 2) := by decide +kernel
theorem dX6_groups_31 : decode cX6_groups 31 = .ok (.iconst 0, 1) := by decide +kernel
theorem dX6_groups_32 : decode cX6_groups 32 = .ok (.istore 7, 2) := by decide +kernel
theorem dX6_groups_34 : decode cX6_groups 34 = .ok (.iconst 0, 1) := by decide +kernel
theorem dX6_groups_35 : decode cX6_groups 35 = .ok (.istore 8, 2) := by decide +kernel
theorem dX6_groups_37 : decode cX6_groups 37 = .ok (.iconst 0, 1) := by decide +kernel
theorem dX6_groups_38 : decode cX6_groups 38 = .ok (.istore 9, 2) := by decide +kernel
theorem dX6_groups_40 : decode cX6_groups 40 = .ok (.iload 9, 2) := by decide +kernel
theorem dX6_groups_42 : decode cX6_groups 42 = .ok (.iload 5, 2) := by decide +kernel
theorem dX6_groups_44 : decode cX6_groups 44 = .ok (.if_icmp .ge 63, 3) := by decide +kernel
theorem dX6_groups_47 : decode cX6_groups 47 = .ok (.aload_n 0, 1) := by decide +kernel
theorem dX6_groups_48 : decode cX6_groups 48 = .ok (.iload_n 1, 1) := by decide +kernel
theorem dX6_groups_49 : decode cX6_groups 49 = .ok (.iload 9, 2) := by decide +kernel
theorem dX6_groups_51 : decode cX6_groups 51 = .ok (.invokevirtual 159, 3) := by decide +kernel
theorem dX6_groups_54 : decode cX6_groups 54 = .ok (.lload_n 2, 1) := by decide +kernel
theorem dX6_groups_55 : decode cX6_groups 55 = .ok (.lcmp, 1) := by decide +kernel
theorem dX6_groups_56 : decode cX6_groups 56 = .ok (.ifCond .le 10, 3) := by decide +kernel
theorem dX6_groups_59 : decode cX6_groups 59 = .ok (.iload 8, 2) := by decide +kernel
theorem dX6_groups_61 : decode cX6_groups 61 = .ok (.iconst 1, 1) := by decide +kernel
theorem dX6_groups_62 : decode cX6_groups 62 = .ok (.iadd, 1) := by decide +kernel
theorem dX6_groups_63 : decode cX6_groups 63 = .ok (.goto 4, 3) := by decide +kernel
theorem dX6_groups_66 : decode cX6_groups 66 = .ok (.iconst 0, 1) := by decide +kernel
theorem dX6_groups_67 : decode cX6_groups 67 = .ok (.istore 8, 2) := by decide +kernel
theorem dX6_groups_69 : decode cX6_groups 69 = .ok (.iload 6, 2) := by decide +kernel
theorem dX6_groups_71 : decode cX6_groups 71 = .ok (.iload 8, 2) := by decide +kernel
theorem dX6_groups_73 : decode cX6_groups 73 = .ok (.iconst 2, 1) := by decide +kernel
theorem dX6_groups_74 : decode cX6_groups 74 = .ok (.if_icmp .ne 7, 3) := by decide +kernel
theorem dX6_groups_77 : decode cX6_groups 77 = .ok (.iconst 1, 1) := by decide +kernel
theorem dX6_groups_78 : decode cX6_groups 78 = .ok (.goto 4, 3) := by decide +kernel
theorem dX6_groups_81 : decode cX6_groups 81 = .ok (.iconst 0, 1) := by decide +kernel
theorem dX6_groups_82 : decode cX6_groups 82 = .ok (.iadd, 1) := by decide +kernel
theorem dX6_groups_83 : decode cX6_groups 83 = .ok (.istore 6, 2) := by decide +kernel
theorem dX6_groups_85 : decode cX6_groups 85 = .ok (.iload 8, 2) := by decide +kernel
theorem dX6_groups_87 : decode cX6_groups 87 = .ok (.iload 7, 2) := by decide +kernel
theorem dX6_groups_89 : decode cX6_groups 89 = .ok (.if_icmp .le 8, 3) := by decide +kernel
theorem dX6_groups_92 : decode cX6_groups 92 = .ok (.iload 8, 2) := by decide +kernel
theorem dX6_groups_94 : decode cX6_groups 94 = .ok (.goto 5, 3) := by decide +kernel
theorem dX6_groups_97 : decode cX6_groups 97 = .ok (.iload 7, 2) := by decide +kernel
theorem dX6_groups_99 : decode cX6_groups 99 = .ok (.istore 7, 2) := by decide +kernel
theorem dX6_groups_101 : decode cX6_groups 101 = .ok (.iinc 9 1, 3) := by decide +kernel
theorem dX6_groups_104 : decode cX6_groups 104 = .ok (.goto (-64), 3) := by decide +kernel
theorem dX6_groups_107 : decode cX6_groups 107 = .ok (.iload 4, 2) := by decide +kernel
theorem dX6_groups_109 : decode cX6_groups 109 = .ok (.ifCond .ne 8, 3) := by decide +kernel
theorem dX6_groups_112 : decode cX6_groups 112 = .ok (.iload 6, 2) := by decide +kernel
theorem dX6_groups_114 : decode cX6_groups 114 = .ok (.goto 5, 3) := by decide +kernel
theorem dX6_groups_117 : decode cX6_groups 117 = .ok (.iload 7, 2) := by decide +kernel
theorem dX6_groups_119 : decode cX6_groups 119 = .ok (.ireturn, 1) := by decide +kernel
theorem dX6_isNear_0 : decode cX6_isNear 0 = .ok (.iconst 1, 1) := by decide +kernel
theorem dX6_isNear_1 : decode cX6_isNear 1 = .ok (.istore_n 2, 1) := by decide +kernel
theorem dX6_isNear_2 : decode cX6_isNear 2 = .ok (.iconst 0, 1) := by decide +kernel
theorem dX6_isNear_3 : decode cX6_isNear 3 = .ok (.istore_n 3, 1) := by decide +kernel
theorem dX6_isNear_4 : decode cX6_isNear 4 = .ok (.iload_n 3, 1) := by decide +kernel
theorem dX6_isNear_5 : decode cX6_isNear 5 = .ok (.aload_n 0, 1) := by decide +kernel
theorem dX6_isNear_6 : decode cX6_isNear 6 = .ok (.getfield 26, 3) := by decide +kernel
theorem dX6_isNear_9 : decode cX6_isNear 9 = .ok (.iload_n 1, 1) := by decide +kernel
theorem dX6_isNear_10 : decode cX6_isNear 10 = .ok (.iaload, 1) := by decide +kernel
theorem dX6_isNear_11 : decode cX6_isNear 11 = .ok (.if_icmp .ge 42, 3) := by decide +kernel
theorem dX6_isNear_14 : decode cX6_isNear 14 = .ok (.iload_n 2, 1) := by decide +kernel
theorem dX6_isNear_15 : decode cX6_isNear 15 = .ok (.ifCond .eq 30, 3) := by decide +kernel
theorem dX6_isNear_18 : decode cX6_isNear 18 = .ok (.aload_n 0, 1) := by decide +kernel
theorem dX6_isNear_19 : decode cX6_isNear 19 = .ok (.getfield 29, 3) := by decide +kernel
theorem dX6_isNear_22 : decode cX6_isNear 22 = .ok (.bipush 64, 2) := by decide +kernel
theorem dX6_isNear_24 : decode cX6_isNear 24 = .ok (.iload_n 1, 1) := by decide +kernel
theorem dX6_isNear_25 : decode cX6_isNear 25 = .ok (.imul, 1) := by decide +kernel
theorem dX6_isNear_26 : decode cX6_isNear 26 = .ok (.iload_n 3, 1) := by decide +kernel
theorem dX6_isNear_27 : decode cX6_isNear 27 = .ok (.iadd, 1) := by decide +kernel
theorem dX6_isNear_28 : decode cX6_isNear 28 = .ok (.laload, 1) := by decide +kernel
theorem dX6_isNear_29 : decode cX6_isNear 29 = .ok (.ldc2_w 131, 3) := by decide +kernel
theorem dX6_isNear_32 : decode cX6_isNear 32 = .ok (.ldc2_w 133, 3) := by decide +kernel
theorem dX6_isNear_35 : decode cX6_isNear 35 = .ok (.invokestatic 60, 3) := by decide +kernel
theorem dX6_isNear_38 : decode cX6_isNear 38 = .ok (.ifCond .eq 7, 3) := by decide +kernel
theorem dX6_isNear_41 : decode cX6_isNear 41 = .ok (.iconst 1, 1) := by decide +kernel
theorem dX6_isNear_42 : decode cX6_isNear 42 = .ok (.goto 4, 3) := by decide +kernel
theorem dX6_isNear_45 : decode cX6_isNear 45 = .ok (.iconst 0, 1) := by decide +kernel
theorem dX6_isNear_46 : decode cX6_isNear 46 = .ok (.istore_n 2, 1) := by decide +kernel
theorem dX6_isNear_47 : decode cX6_isNear 47 = .ok (.iinc 3 1, 3) := by decide +kernel
theorem dX6_isNear_50 : decode cX6_isNear 50 = .ok (.goto (-46), 3) := by decide +kernel
theorem dX6_isNear_53 : decode cX6_isNear 53 = .ok (.iload_n 2, 1) := by decide +kernel
theorem dX6_isNear_54 : decode cX6_isNear 54 = .ok (.ireturn, 1) := by decide +kernel
theorem dX6_heading_0 : decode cX6_heading 0 = .ok (.iload_n 1, 1) := by decide +kernel
theorem dX6_heading_1 : decode cX6_heading 1 = .ok (.invokestatic 100, 3) := by decide +kernel
theorem dX6_heading_4 : decode cX6_heading 4 = .ok (.ifCond .eq 30, 3) := by decide +kernel
theorem dX6_heading_7 : decode cX6_heading 7 = .ok (.iload_n 2, 1) := by decide +kernel
theorem dX6_heading_8 : decode cX6_heading 8 = .ok (.invokestatic 100, 3) := by decide +kernel
theorem dX6_heading_11 : decode cX6_heading 11 = .ok (.ifCond .eq 23, 3) := by decide +kernel
theorem dX6_heading_14 : decode cX6_heading 14 = .ok (.iload_n 3, 1) := by decide +kernel
theorem dX6_heading_15 : decode cX6_heading 15 = .ok (.invokestatic 100, 3) := by decide +kernel
theorem dX6_heading_18 : decode cX6_heading 18 = .ok (.ifCond .eq 16, 3) := by decide +kernel
theorem dX6_heading_21 : decode cX6_heading 21 = .ok (.iload 4, 2) := by decide +kernel
theorem dX6_heading_23 : decode cX6_heading 23 = .ok (.i2l, 1) := by decide +kernel
theorem dX6_heading_24 : decode cX6_heading 24 = .ok (.lconst 1, 1) := by decide +kernel
theorem dX6_heading_25 : decode cX6_heading 25 = .ok (.ldc2_w 167, 3) := by decide +kernel
theorem dX6_heading_28 : decode cX6_heading 28 = .ok (.invokestatic 60, 3) := by decide +kernel
theorem dX6_heading_31 : decode cX6_heading 31 = .ok (.ifCond .ne 6, 3) := by decide +kernel
theorem dX6_heading_34 : decode cX6_heading 34 = .ok (.bipush (-2), 2) := by decide +kernel
theorem dX6_heading_36 : decode cX6_heading 36 = .ok (.ireturn, 1) := by decide +kernel
theorem dX6_heading_37 : decode cX6_heading 37 = .ok (.aload_n 0, 1) := by decide +kernel
theorem dX6_heading_38 : decode cX6_heading 38 = .ok (.getfield 26, 3) := by decide +kernel
theorem dX6_heading_41 : decode cX6_heading 41 = .ok (.iload_n 1, 1) := by decide +kernel
theorem dX6_heading_42 : decode cX6_heading 42 = .ok (.iaload, 1) := by decide +kernel
theorem dX6_heading_43 : decode cX6_heading 43 = .ok (.aload_n 0, 1) := by decide +kernel
theorem dX6_heading_44 : decode cX6_heading 44 = .ok (.getfield 26, 3) := by decide +kernel
theorem dX6_heading_47 : decode cX6_heading 47 = .ok (.iload_n 2, 1) := by decide +kernel
theorem dX6_heading_48 : decode cX6_heading 48 = .ok (.iaload, 1) := by decide +kernel
theorem dX6_heading_49 : decode cX6_heading 49 = .ok (.if_icmp .ne 18, 3) := by decide +kernel
theorem dX6_heading_52 : decode cX6_heading 52 = .ok (.aload_n 0, 1) := by decide +kernel
theorem dX6_heading_53 : decode cX6_heading 53 = .ok (.getfield 26, 3) := by decide +kernel
theorem dX6_heading_56 : decode cX6_heading 56 = .ok (.iload_n 1, 1) := by decide +kernel
theorem dX6_heading_57 : decode cX6_heading 57 = .ok (.iaload, 1) := by decide +kernel
theorem dX6_heading_58 : decode cX6_heading 58 = .ok (.aload_n 0, 1) := by decide +kernel
theorem dX6_heading_59 : decode cX6_heading 59 = .ok (.getfield 26, 3) := by decide +kernel
theorem dX6_heading_62 : decode cX6_heading 62 = .ok (.iload_n 3, 1) := by decide +kernel
theorem dX6_heading_63 : decode cX6_heading 63 = .ok (.iaload, 1) := by decide +kernel
theorem dX6_heading_64 : decode cX6_heading 64 = .ok (.if_icmp .eq 6, 3) := by decide +kernel
theorem dX6_heading_67 : decode cX6_heading 67 = .ok (.bipush (-3), 2) := by decide +kernel
theorem dX6_heading_69 : decode cX6_heading 69 = .ok (.ireturn, 1) := by decide +kernel
theorem dX6_heading_70 : decode cX6_heading 70 = .ok (.aload_n 0, 1) := by decide +kernel
theorem dX6_heading_71 : decode cX6_heading 71 = .ok (.iload_n 1, 1) := by decide +kernel
theorem dX6_heading_72 : decode cX6_heading 72 = .ok (.invokevirtual 169, 3) := by decide +kernel
theorem dX6_heading_75 : decode cX6_heading 75 = .ok (.ifCond .eq 19, 3) := by decide +kernel
theorem dX6_heading_78 : decode cX6_heading 78 = .ok (.aload_n 0, 1) := by decide +kernel
theorem dX6_heading_79 : decode cX6_heading 79 = .ok (.iload_n 2, 1) := by decide +kernel
theorem dX6_heading_80 : decode cX6_heading 80 = .ok (.invokevirtual 169, 3) := by decide +kernel
theorem dX6_heading_83 : decode cX6_heading 83 = .ok (.ifCond .eq 11, 3) := by decide +kernel
theorem dX6_heading_86 : decode cX6_heading 86 = .ok (.aload_n 0, 1) := by decide +kernel
theorem dX6_heading_87 : decode cX6_heading 87 = .ok (.iload_n 3, 1) := by decide +kernel
theorem dX6_heading_88 : decode cX6_heading 88 = .ok (.invokevirtual 169, 3) := by decide +kernel
theorem dX6_heading_91 : decode cX6_heading 91 = .ok (.ifCond .ne 6, 3) := by decide +kernel
theorem dX6_heading_94 : decode cX6_heading 94 = .ok (.bipush (-16), 2) := by decide +kernel
theorem dX6_heading_96 : decode cX6_heading 96 = .ok (.ireturn, 1) := by decide +kernel
theorem dX6_heading_97 : decode cX6_heading 97 = .ok (.aload_n 0, 1) := by decide +kernel
theorem dX6_heading_98 : decode cX6_heading 98 = .ok (.iload_n 1, 1) := by decide +kernel
theorem dX6_heading_99 : decode cX6_heading 99 = .ok (.iload_n 2, 1) := by decide +kernel
theorem dX6_heading_100 : decode cX6_heading 100 = .ok (.invokevirtual 172, 3) := by decide +kernel
theorem dX6_heading_103 : decode cX6_heading 103 = .ok (.lstore 5, 2) := by decide +kernel
theorem dX6_heading_105 : decode cX6_heading 105 = .ok (.aload_n 0, 1) := by decide +kernel
theorem dX6_heading_106 : decode cX6_heading 106 = .ok (.iload_n 1, 1) := by decide +kernel
theorem dX6_heading_107 : decode cX6_heading 107 = .ok (.iload_n 3, 1) := by decide +kernel
theorem dX6_heading_108 : decode cX6_heading 108 = .ok (.invokevirtual 172, 3) := by decide +kernel
theorem dX6_heading_111 : decode cX6_heading 111 = .ok (.lstore 7, 2) := by decide +kernel
theorem dX6_heading_113 : decode cX6_heading 113 = .ok (.iload 4, 2) := by decide +kernel
theorem dX6_heading_115 : decode cX6_heading 115 = .ok (.i2l, 1) := by decide +kernel
theorem dX6_heading_116 : decode cX6_heading 116 = .ok (.aload_n 0, 1) := by decide +kernel
theorem dX6_heading_117 : decode cX6_heading 117 = .ok (.iload_n 1, 1) := by decide +kernel
theorem dX6_heading_118 : decode cX6_heading 118 = .ok (.iconst 0, 1) := by decide +kernel
theorem dX6_heading_119 : decode cX6_heading 119 = .ok (.bipush 64, 2) := by decide +kernel
theorem dX6_heading_121 : decode cX6_heading 121 = .ok (.invokevirtual 175, 3) := by decide +kernel
theorem dX6_heading_124 : decode cX6_heading 124 = .ok (.lmul, 1) := by decide +kernel
theorem dX6_heading_125 : decode cX6_heading 125 = .ok (.aload_n 0, 1) := by decide +kernel
theorem dX6_heading_126 : decode cX6_heading 126 = .ok (.iload_n 2, 1) := by decide +kernel
theorem dX6_heading_127 : decode cX6_heading 127 = .ok (.iconst 0, 1) := by decide +kernel
theorem dX6_heading_128 : decode cX6_heading 128 = .ok (.bipush 64, 2) := by decide +kernel
theorem dX6_heading_130 : decode cX6_heading 130 = .ok (.invokevirtual 175, 3) := by decide +kernel
theorem dX6_heading_133 : decode cX6_heading 133 = .ok (.aload_n 0, 1) := by decide +kernel
theorem dX6_heading_134 : decode cX6_heading 134 = .ok (.iload_n 3, 1) := by decide +kernel
theorem dX6_heading_135 : decode cX6_heading 135 = .ok (.iconst 0, 1) := by decide +kernel
theorem dX6_heading_136 : decode cX6_heading 136 = .ok (.bipush 64, 2) := by decide +kernel
theorem dX6_heading_138 : decode cX6_heading 138 = .ok (.invokevirtual 175, 3) := by decide +kernel
theorem dX6_heading_141 : decode cX6_heading 141 = .ok (.ladd, 1) := by decide +kernel
theorem dX6_heading_142 : decode cX6_heading 142 = .ok (.lmul, 1) := by decide +kernel
theorem dX6_heading_143 : decode cX6_heading 143 = .ok (.lstore 9, 2) := by decide +kernel
theorem dX6_heading_145 : decode cX6_heading 145 = .ok (.lload 5, 2) := by decide +kernel
theorem dX6_heading_147 : decode cX6_heading 147 = .ok (.lconst 0, 1) := by decide +kernel
theorem dX6_heading_148 : decode cX6_heading 148 = .ok (.lcmp, 1) := by decide +kernel
theorem dX6_heading_149 : decode cX6_heading 149 = .ok (.ifCond .ne 10, 3) := by decide +kernel
theorem dX6_heading_152 : decode cX6_heading 152 = .ok (.lload 7, 2) := by decide +kernel
theorem dX6_heading_154 : decode cX6_heading 154 = .ok (.lconst 0, 1) := by decide +kernel
theorem dX6_heading_155 : decode cX6_heading 155 = .ok (.lcmp, 1) := by decide +kernel
theorem dX6_heading_156 : decode cX6_heading 156 = .ok (.ifCond .eq 24, 3) := by decide +kernel
theorem dX6_heading_159 : decode cX6_heading 159 = .ok (.ldc2_w 167, 3) := by decide +kernel
theorem dX6_heading_162 : decode cX6_heading 162 = .ok (.lload 5, 2) := by decide +kernel
theorem dX6_heading_164 : decode cX6_heading 164 = .ok (.lload 5, 2) := by decide +kernel
theorem dX6_heading_166 : decode cX6_heading 166 = .ok (.lmul, 1) := by decide +kernel
theorem dX6_heading_167 : decode cX6_heading 167 = .ok (.lload 7, 2) := by decide +kernel
theorem dX6_heading_169 : decode cX6_heading 169 = .ok (.lload 7, 2) := by decide +kernel
theorem dX6_heading_171 : decode cX6_heading 171 = .ok (.lmul, 1) := by decide +kernel
theorem dX6_heading_172 : decode cX6_heading 172 = .ok (.ladd, 1) := by decide +kernel
theorem dX6_heading_173 : decode cX6_heading 173 = .ok (.lmul, 1) := by decide +kernel
theorem dX6_heading_174 : decode cX6_heading 174 = .ok (.lload 9, 2) := by decide +kernel
theorem dX6_heading_176 : decode cX6_heading 176 = .ok (.lcmp, 1) := by decide +kernel
theorem dX6_heading_177 : decode cX6_heading 177 = .ok (.ifCond .ge 5, 3) := by decide +kernel
theorem dX6_heading_180 : decode cX6_heading 180 = .ok (.iconst (-1), 1) := by decide +kernel
theorem dX6_heading_181 : decode cX6_heading 181 = .ok (.ireturn, 1) := by decide +kernel
theorem dX6_heading_182 : decode cX6_heading 182 = .ok (.lload 7, 2) := by decide +kernel
theorem dX6_heading_184 : decode cX6_heading 184 = .ok (.lconst 0, 1) := by decide +kernel
theorem dX6_heading_185 : decode cX6_heading 185 = .ok (.lcmp, 1) := by decide +kernel
theorem dX6_heading_186 : decode cX6_heading 186 = .ok (.ifCond .lt 24, 3) := by decide +kernel
theorem dX6_heading_189 : decode cX6_heading 189 = .ok (.lload 5, 2) := by decide +kernel
theorem dX6_heading_191 : decode cX6_heading 191 = .ok (.lconst 0, 1) := by decide +kernel
theorem dX6_heading_192 : decode cX6_heading 192 = .ok (.lcmp, 1) := by decide +kernel
theorem dX6_heading_193 : decode cX6_heading 193 = .ok (.ifCond .le 17, 3) := by decide +kernel
theorem dX6_heading_196 : decode cX6_heading 196 = .ok (.lload 5, 2) := by decide +kernel
theorem dX6_heading_198 : decode cX6_heading 198 = .ok (.lload 7, 2) := by decide +kernel
theorem dX6_heading_200 : decode cX6_heading 200 = .ok (.lcmp, 1) := by decide +kernel
theorem dX6_heading_201 : decode cX6_heading 201 = .ok (.ifCond .le 7, 3) := by decide +kernel
theorem dX6_heading_204 : decode cX6_heading 204 = .ok (.iconst 0, 1) := by decide +kernel
theorem dX6_heading_205 : decode cX6_heading 205 = .ok (.goto 4, 3) := by decide +kernel
theorem dX6_heading_208 : decode cX6_heading 208 = .ok (.iconst 1, 1) := by decide +kernel
theorem dX6_heading_209 : decode cX6_heading 209 = .ok (.ireturn, 1) := by decide +kernel
theorem dX6_heading_210 : decode cX6_heading 210 = .ok (.lload 5, 2) := by decide +kernel
theorem dX6_heading_212 : decode cX6_heading 212 = .ok (.lconst 0, 1) := by decide +kernel
theorem dX6_heading_213 : decode cX6_heading 213 = .ok (.lcmp, 1) := by decide +kernel
theorem dX6_heading_214 : decode cX6_heading 214 = .ok (.ifCond .gt 25, 3) := by decide +kernel
theorem dX6_heading_217 : decode cX6_heading 217 = .ok (.lload 7, 2) := by decide +kernel
theorem dX6_heading_219 : decode cX6_heading 219 = .ok (.lconst 0, 1) := by decide +kernel
theorem dX6_heading_220 : decode cX6_heading 220 = .ok (.lcmp, 1) := by decide +kernel
theorem dX6_heading_221 : decode cX6_heading 221 = .ok (.ifCond .le 18, 3) := by decide +kernel
theorem dX6_heading_224 : decode cX6_heading 224 = .ok (.lload 7, 2) := by decide +kernel
theorem dX6_heading_226 : decode cX6_heading 226 = .ok (.lload 5, 2) := by decide +kernel
theorem dX6_heading_228 : decode cX6_heading 228 = .ok (.lneg, 1) := by decide +kernel
theorem dX6_heading_229 : decode cX6_heading 229 = .ok (.lcmp, 1) := by decide +kernel
theorem dX6_heading_230 : decode cX6_heading 230 = .ok (.ifCond .le 7, 3) := by decide +kernel
theorem dX6_heading_233 : decode cX6_heading 233 = .ok (.iconst 2, 1) := by decide +kernel
theorem dX6_heading_234 : decode cX6_heading 234 = .ok (.goto 4, 3) := by decide +kernel
theorem dX6_heading_237 : decode cX6_heading 237 = .ok (.iconst 3, 1) := by decide +kernel
theorem dX6_heading_238 : decode cX6_heading 238 = .ok (.ireturn, 1) := by decide +kernel
theorem dX6_heading_239 : decode cX6_heading 239 = .ok (.lload 7, 2) := by decide +kernel
theorem dX6_heading_241 : decode cX6_heading 241 = .ok (.lconst 0, 1) := by decide +kernel
theorem dX6_heading_242 : decode cX6_heading 242 = .ok (.lcmp, 1) := by decide +kernel
theorem dX6_heading_243 : decode cX6_heading 243 = .ok (.ifCond .gt 26, 3) := by decide +kernel
theorem dX6_heading_246 : decode cX6_heading 246 = .ok (.lload 5, 2) := by decide +kernel
theorem dX6_heading_248 : decode cX6_heading 248 = .ok (.lconst 0, 1) := by decide +kernel
theorem dX6_heading_249 : decode cX6_heading 249 = .ok (.lcmp, 1) := by decide +kernel
theorem dX6_heading_250 : decode cX6_heading 250 = .ok (.ifCond .ge 19, 3) := by decide +kernel
theorem dX6_heading_253 : decode cX6_heading 253 = .ok (.lload 5, 2) := by decide +kernel
theorem dX6_heading_255 : decode cX6_heading 255 = .ok (.lneg, 1) := by decide +kernel
theorem dX6_heading_256 : decode cX6_heading 256 = .ok (.lload 7, 2) := by decide +kernel
theorem dX6_heading_258 : decode cX6_heading 258 = .ok (.lneg, 1) := by decide +kernel
theorem dX6_heading_259 : decode cX6_heading 259 = .ok (.lcmp, 1) := by decide +kernel
theorem dX6_heading_260 : decode cX6_heading 260 = .ok (.ifCond .le 7, 3) := by decide +kernel
theorem dX6_heading_263 : decode cX6_heading 263 = .ok (.iconst 4, 1) := by decide +kernel
theorem dX6_heading_264 : decode cX6_heading 264 = .ok (.goto 4, 3) := by decide +kernel
theorem dX6_heading_267 : decode cX6_heading 267 = .ok (.iconst 5, 1) := by decide +kernel
theorem dX6_heading_268 : decode cX6_heading 268 = .ok (.ireturn, 1) := by decide +kernel
theorem dX6_heading_269 : decode cX6_heading 269 = .ok (.lload 7, 2) := by decide +kernel
theorem dX6_heading_271 : decode cX6_heading 271 = .ok (.lneg, 1) := by decide +kernel
theorem dX6_heading_272 : decode cX6_heading 272 = .ok (.lload 5, 2) := by decide +kernel
theorem dX6_heading_274 : decode cX6_heading 274 = .ok (.lcmp, 1) := by decide +kernel
theorem dX6_heading_275 : decode cX6_heading 275 = .ok (.ifCond .le 8, 3) := by decide +kernel
theorem dX6_heading_278 : decode cX6_heading 278 = .ok (.bipush 6, 2) := by decide +kernel
theorem dX6_heading_280 : decode cX6_heading 280 = .ok (.goto 5, 3) := by decide +kernel
theorem dX6_heading_283 : decode cX6_heading 283 = .ok (.bipush 7, 2) := by decide +kernel
theorem dX6_heading_285 : decode cX6_heading 285 = .ok (.ireturn, 1) := by decide +kernel
theorem dX6_send_0 : decode cX6_send 0 = .ok (.aload_n 0, 1) := by decide +kernel
theorem dX6_send_1 : decode cX6_send 1 = .ok (.iload_n 1, 1) := by decide +kernel
theorem dX6_send_2 : decode cX6_send 2 = .ok (.invokevirtual 66, 3) := by decide +kernel
theorem dX6_send_5 : decode cX6_send 5 = .ok (.istore_n 2, 1) := by decide +kernel
theorem dX6_send_6 : decode cX6_send 6 = .ok (.iload_n 2, 1) := by decide +kernel
theorem dX6_send_7 : decode cX6_send 7 = .ok (.ifCond .ge 5, 3) := by decide +kernel
theorem dX6_send_10 : decode cX6_send 10 = .ok (.iload_n 2, 1) := by decide +kernel
theorem dX6_send_11 : decode cX6_send 11 = .ok (.ireturn, 1) := by decide +kernel
theorem dX6_send_12 : decode cX6_send 12 = .ok (.aload_n 0, 1) := by decide +kernel
theorem dX6_send_13 : decode cX6_send 13 = .ok (.iconst 1, 1) := by decide +kernel
theorem dX6_send_14 : decode cX6_send 14 = .ok (.putfield 179, 3) := by decide +kernel
theorem dX6_send_17 : decode cX6_send 17 = .ok (.aload_n 0, 1) := by decide +kernel
theorem dX6_send_18 : decode cX6_send 18 = .ok (.getfield 13, 3) := by decide +kernel
theorem dX6_send_21 : decode cX6_send 21 = .ok (.bipush 8, 2) := by decide +kernel
theorem dX6_send_23 : decode cX6_send 23 = .ok (.aload_n 0, 1) := by decide +kernel
theorem dX6_send_24 : decode cX6_send 24 = .ok (.getfield 13, 3) := by decide +kernel
theorem dX6_send_27 : decode cX6_send 27 = .ok (.iload_n 1, 1) := by decide +kernel
theorem dX6_send_28 : decode cX6_send 28 = .ok (.iaload, 1) := by decide +kernel
theorem dX6_send_29 : decode cX6_send 29 = .ok (.iastore, 1) := by decide +kernel
theorem dX6_send_30 : decode cX6_send 30 = .ok (.aload_n 0, 1) := by decide +kernel
theorem dX6_send_31 : decode cX6_send 31 = .ok (.getfield 17, 3) := by decide +kernel
theorem dX6_send_34 : decode cX6_send 34 = .ok (.bipush 8, 2) := by decide +kernel
theorem dX6_send_36 : decode cX6_send 36 = .ok (.aload_n 0, 1) := by decide +kernel
theorem dX6_send_37 : decode cX6_send 37 = .ok (.getfield 17, 3) := by decide +kernel
theorem dX6_send_40 : decode cX6_send 40 = .ok (.iload_n 1, 1) := by decide +kernel
theorem dX6_send_41 : decode cX6_send 41 = .ok (.iaload, 1) := by decide +kernel
theorem dX6_send_42 : decode cX6_send 42 = .ok (.iastore, 1) := by decide +kernel
theorem dX6_send_43 : decode cX6_send 43 = .ok (.iconst 0, 1) := by decide +kernel
theorem dX6_send_44 : decode cX6_send 44 = .ok (.istore_n 3, 1) := by decide +kernel
theorem dX6_send_45 : decode cX6_send 45 = .ok (.iload_n 3, 1) := by decide +kernel
theorem dX6_send_46 : decode cX6_send 46 = .ok (.aload_n 0, 1) := by decide +kernel
theorem dX6_send_47 : decode cX6_send 47 = .ok (.getfield 17, 3) := by decide +kernel
theorem dX6_send_50 : decode cX6_send 50 = .ok (.iload_n 1, 1) := by decide +kernel
theorem dX6_send_51 : decode cX6_send 51 = .ok (.iaload, 1) := by decide +kernel
theorem dX6_send_52 : decode cX6_send 52 = .ok (.if_icmp .ge 51, 3) := by decide +kernel
theorem dX6_send_55 : decode cX6_send 55 = .ok (.aload_n 0, 1) := by decide +kernel
theorem dX6_send_56 : decode cX6_send 56 = .ok (.getfield 20, 3) := by decide +kernel
theorem dX6_send_59 : decode cX6_send 59 = .ok (.sipush 512, 3) := by decide +kernel
theorem dX6_send_62 : decode cX6_send 62 = .ok (.iload_n 3, 1) := by decide +kernel
theorem dX6_send_63 : decode cX6_send 63 = .ok (.iadd, 1) := by decide +kernel
theorem dX6_send_64 : decode cX6_send 64 = .ok (.aload_n 0, 1) := by decide +kernel
theorem dX6_send_65 : decode cX6_send 65 = .ok (.getfield 20, 3) := by decide +kernel
theorem dX6_send_68 : decode cX6_send 68 = .ok (.bipush 64, 2) := by decide +kernel
theorem dX6_send_70 : decode cX6_send 70 = .ok (.iload_n 1, 1) := by decide +kernel
theorem dX6_send_71 : decode cX6_send 71 = .ok (.imul, 1) := by decide +kernel
theorem dX6_send_72 : decode cX6_send 72 = .ok (.iload_n 3, 1) := by decide +kernel
theorem dX6_send_73 : decode cX6_send 73 = .ok (.iadd, 1) := by decide +kernel
theorem dX6_send_74 : decode cX6_send 74 = .ok (.iaload, 1) := by decide +kernel
theorem dX6_send_75 : decode cX6_send 75 = .ok (.iastore, 1) := by decide +kernel
theorem dX6_send_76 : decode cX6_send 76 = .ok (.aload_n 0, 1) := by decide +kernel
theorem dX6_send_77 : decode cX6_send 77 = .ok (.getfield 23, 3) := by decide +kernel
theorem dX6_send_80 : decode cX6_send 80 = .ok (.sipush 512, 3) := by decide +kernel
theorem dX6_send_83 : decode cX6_send 83 = .ok (.iload_n 3, 1) := by decide +kernel
theorem dX6_send_84 : decode cX6_send 84 = .ok (.iadd, 1) := by decide +kernel
theorem dX6_send_85 : decode cX6_send 85 = .ok (.aload_n 0, 1) := by decide +kernel
theorem dX6_send_86 : decode cX6_send 86 = .ok (.getfield 23, 3) := by decide +kernel
theorem dX6_send_89 : decode cX6_send 89 = .ok (.bipush 64, 2) := by decide +kernel
theorem dX6_send_91 : decode cX6_send 91 = .ok (.iload_n 1, 1) := by decide +kernel
theorem dX6_send_92 : decode cX6_send 92 = .ok (.imul, 1) := by decide +kernel
theorem dX6_send_93 : decode cX6_send 93 = .ok (.iload_n 3, 1) := by decide +kernel
theorem dX6_send_94 : decode cX6_send 94 = .ok (.iadd, 1) := by decide +kernel
theorem dX6_send_95 : decode cX6_send 95 = .ok (.iaload, 1) := by decide +kernel
theorem dX6_send_96 : decode cX6_send 96 = .ok (.iastore, 1) := by decide +kernel
theorem dX6_send_97 : decode cX6_send 97 = .ok (.iinc 3 1, 3) := by decide +kernel
theorem dX6_send_100 : decode cX6_send 100 = .ok (.goto (-55), 3) := by decide +kernel
theorem dX6_send_103 : decode cX6_send 103 = .ok (.aload_n 0, 1) := by decide +kernel
theorem dX6_send_104 : decode cX6_send 104 = .ok (.getfield 17, 3) := by decide +kernel
theorem dX6_send_107 : decode cX6_send 107 = .ok (.iload_n 1, 1) := by decide +kernel
theorem dX6_send_108 : decode cX6_send 108 = .ok (.iaload, 1) := by decide +kernel
theorem dX6_send_109 : decode cX6_send 109 = .ok (.bipush 7, 2) := by decide +kernel
theorem dX6_send_111 : decode cX6_send 111 = .ok (.iadd, 1) := by decide +kernel
theorem dX6_send_112 : decode cX6_send 112 = .ok (.bipush 8, 2) := by decide +kernel
theorem dX6_send_114 : decode cX6_send 114 = .ok (.idiv, 1) := by decide +kernel
theorem dX6_send_115 : decode cX6_send 115 = .ok (.istore_n 3, 1) := by decide +kernel
theorem dX6_send_116 : decode cX6_send 116 = .ok (.aload_n 0, 1) := by decide +kernel
theorem dX6_send_117 : decode cX6_send 117 = .ok (.iload_n 3, 1) := by decide +kernel
theorem dX6_send_118 : decode cX6_send 118 = .ok (.iload_n 3, 1) := by decide +kernel
theorem dX6_send_119 : decode cX6_send 119 = .ok (.iconst 3, 1) := by decide +kernel
theorem dX6_send_120 : decode cX6_send 120 = .ok (.iadd, 1) := by decide +kernel
theorem dX6_send_121 : decode cX6_send 121 = .ok (.iconst 4, 1) := by decide +kernel
theorem dX6_send_122 : decode cX6_send 122 = .ok (.idiv, 1) := by decide +kernel
theorem dX6_send_123 : decode cX6_send 123 = .ok (.iadd, 1) := by decide +kernel
theorem dX6_send_124 : decode cX6_send 124 = .ok (.putfield 183, 3) := by decide +kernel
theorem dX6_send_127 : decode cX6_send 127 = .ok (.iconst 0, 1) := by decide +kernel
theorem dX6_send_128 : decode cX6_send 128 = .ok (.istore 4, 2) := by decide +kernel
theorem dX6_send_130 : decode cX6_send 130 = .ok (.iload 4, 2) := by decide +kernel
theorem dX6_send_132 : decode cX6_send 132 = .ok (.aload_n 0, 1) := by decide +kernel
theorem dX6_send_133 : decode cX6_send 133 = .ok (.getfield 183, 3) := by decide +kernel
theorem dX6_send_136 : decode cX6_send 136 = .ok (.if_icmp .ge 17, 3) := by decide +kernel
theorem dX6_send_139 : decode cX6_send 139 = .ok (.aload_n 0, 1) := by decide +kernel
theorem dX6_send_140 : decode cX6_send 140 = .ok (.getfield 36, 3) := by decide +kernel
theorem dX6_send_143 : decode cX6_send 143 = .ok (.iload 4, 2) := by decide +kernel
theorem dX6_send_145 : decode cX6_send 145 = .ok (.iconst 0, 1) := by decide +kernel
theorem dX6_send_146 : decode cX6_send 146 = .ok (.bastore, 1) := by decide +kernel
theorem dX6_send_147 : decode cX6_send 147 = .ok (.iinc 4 1, 3) := by decide +kernel
theorem dX6_send_150 : decode cX6_send 150 = .ok (.goto (-20), 3) := by decide +kernel
theorem dX6_send_153 : decode cX6_send 153 = .ok (.aload_n 0, 1) := by decide +kernel
theorem dX6_send_154 : decode cX6_send 154 = .ok (.getfield 183, 3) := by decide +kernel
theorem dX6_send_157 : decode cX6_send 157 = .ok (.ireturn, 1) := by decide +kernel
theorem dX6_miss_0 : decode cX6_miss 0 = .ok (.aload_n 0, 1) := by decide +kernel
theorem dX6_miss_1 : decode cX6_miss 1 = .ok (.getfield 179, 3) := by decide +kernel
theorem dX6_miss_4 : decode cX6_miss 4 = .ok (.ifCond .eq 19, 3) := by decide +kernel
theorem dX6_miss_7 : decode cX6_miss 7 = .ok (.iload_n 1, 1) := by decide +kernel
theorem dX6_miss_8 : decode cX6_miss 8 = .ok (.i2l, 1) := by decide +kernel
theorem dX6_miss_9 : decode cX6_miss 9 = .ok (.lconst 0, 1) := by decide +kernel
theorem dX6_miss_10 : decode cX6_miss 10 = .ok (.aload_n 0, 1) := by decide +kernel
theorem dX6_miss_11 : decode cX6_miss 11 = .ok (.getfield 183, 3) := by decide +kernel
theorem dX6_miss_14 : decode cX6_miss 14 = .ok (.iconst 1, 1) := by decide +kernel
theorem dX6_miss_15 : decode cX6_miss 15 = .ok (.isub, 1) := by decide +kernel
theorem dX6_miss_16 : decode cX6_miss 16 = .ok (.i2l, 1) := by decide +kernel
theorem dX6_miss_17 : decode cX6_miss 17 = .ok (.invokestatic 60, 3) := by decide +kernel
theorem dX6_miss_20 : decode cX6_miss 20 = .ok (.ifCond .ne 6, 3) := by decide +kernel
theorem dX6_miss_23 : decode cX6_miss 23 = .ok (.bipush (-2), 2) := by decide +kernel
theorem dX6_miss_25 : decode cX6_miss 25 = .ok (.ireturn, 1) := by decide +kernel
theorem dX6_miss_26 : decode cX6_miss 26 = .ok (.aload_n 0, 1) := by decide +kernel
theorem dX6_miss_27 : decode cX6_miss 27 = .ok (.getfield 36, 3) := by decide +kernel
theorem dX6_miss_30 : decode cX6_miss 30 = .ok (.iload_n 1, 1) := by decide +kernel
theorem dX6_miss_31 : decode cX6_miss 31 = .ok (.baload, 1) := by decide +kernel
theorem dX6_miss_32 : decode cX6_miss 32 = .ok (.istore_n 2, 1) := by decide +kernel
theorem dX6_miss_33 : decode cX6_miss 33 = .ok (.aload_n 0, 1) := by decide +kernel
theorem dX6_miss_34 : decode cX6_miss 34 = .ok (.getfield 36, 3) := by decide +kernel
theorem dX6_miss_37 : decode cX6_miss 37 = .ok (.iload_n 1, 1) := by decide +kernel
theorem dX6_miss_38 : decode cX6_miss 38 = .ok (.iconst 1, 1) := by decide +kernel
theorem dX6_miss_39 : decode cX6_miss 39 = .ok (.bastore, 1) := by decide +kernel
theorem dX6_miss_40 : decode cX6_miss 40 = .ok (.iload_n 2, 1) := by decide +kernel
theorem dX6_miss_41 : decode cX6_miss 41 = .ok (.ifCond .eq 7, 3) := by decide +kernel
theorem dX6_miss_44 : decode cX6_miss 44 = .ok (.iconst 0, 1) := by decide +kernel
theorem dX6_miss_45 : decode cX6_miss 45 = .ok (.goto 4, 3) := by decide +kernel
theorem dX6_miss_48 : decode cX6_miss 48 = .ok (.iconst 1, 1) := by decide +kernel
theorem dX6_miss_49 : decode cX6_miss 49 = .ok (.ireturn, 1) := by decide +kernel
theorem dX6_comes_0 : decode cX6_comes 0 = .ok (.aload_n 0, 1) := by decide +kernel
theorem dX6_comes_1 : decode cX6_comes 1 = .ok (.getfield 36, 3) := by decide +kernel
theorem dX6_comes_4 : decode cX6_comes 4 = .ok (.iload_n 1, 1) := by decide +kernel
theorem dX6_comes_5 : decode cX6_comes 5 = .ok (.baload, 1) := by decide +kernel
theorem dX6_comes_6 : decode cX6_comes 6 = .ok (.ifCond .ne 5, 3) := by decide +kernel
theorem dX6_comes_9 : decode cX6_comes 9 = .ok (.iconst 1, 1) := by decide +kernel
theorem dX6_comes_10 : decode cX6_comes 10 = .ok (.ireturn, 1) := by decide +kernel
theorem dX6_comes_11 : decode cX6_comes 11 = .ok (.aload_n 0, 1) := by decide +kernel
theorem dX6_comes_12 : decode cX6_comes 12 = .ok (.getfield 17, 3) := by decide +kernel
theorem dX6_comes_15 : decode cX6_comes 15 = .ok (.bipush 8, 2) := by decide +kernel
theorem dX6_comes_17 : decode cX6_comes 17 = .ok (.iaload, 1) := by decide +kernel
theorem dX6_comes_18 : decode cX6_comes 18 = .ok (.bipush 7, 2) := by decide +kernel
theorem dX6_comes_20 : decode cX6_comes 20 = .ok (.iadd, 1) := by decide +kernel
theorem dX6_comes_21 : decode cX6_comes 21 = .ok (.bipush 8, 2) := by decide +kernel
theorem dX6_comes_23 : decode cX6_comes 23 = .ok (.idiv, 1) := by decide +kernel
theorem dX6_comes_24 : decode cX6_comes 24 = .ok (.istore_n 2, 1) := by decide +kernel
theorem dX6_comes_25 : decode cX6_comes 25 = .ok (.iconst 0, 1) := by decide +kernel
theorem dX6_comes_26 : decode cX6_comes 26 = .ok (.istore_n 3, 1) := by decide +kernel
theorem dX6_comes_27 : decode cX6_comes 27 = .ok (.iload_n 1, 1) := by decide +kernel
theorem dX6_comes_28 : decode cX6_comes 28 = .ok (.iconst 4, 1) := by decide +kernel
theorem dX6_comes_29 : decode cX6_comes 29 = .ok (.idiv, 1) := by decide +kernel
theorem dX6_comes_30 : decode cX6_comes 30 = .ok (.iconst 4, 1) := by decide +kernel
theorem dX6_comes_31 : decode cX6_comes 31 = .ok (.imul, 1) := by decide +kernel
theorem dX6_comes_32 : decode cX6_comes 32 = .ok (.istore 4, 2) := by decide +kernel
theorem dX6_comes_34 : decode cX6_comes 34 = .ok (.iload 4, 2) := by decide +kernel
theorem dX6_comes_36 : decode cX6_comes 36 = .ok (.iload_n 1, 1) := by decide +kernel
theorem dX6_comes_37 : decode cX6_comes 37 = .ok (.iconst 4, 1) := by decide +kernel
theorem dX6_comes_38 : decode cX6_comes 38 = .ok (.idiv, 1) := by decide +kernel
theorem dX6_comes_39 : decode cX6_comes 39 = .ok (.iconst 4, 1) := by decide +kernel
theorem dX6_comes_40 : decode cX6_comes 40 = .ok (.imul, 1) := by decide +kernel
theorem dX6_comes_41 : decode cX6_comes 41 = .ok (.iconst 4, 1) := by decide +kernel
theorem dX6_comes_42 : decode cX6_comes 42 = .ok (.iadd, 1) := by decide +kernel
theorem dX6_comes_43 : decode cX6_comes 43 = .ok (.if_icmp .ge 33, 3) := by decide +kernel
theorem dX6_comes_46 : decode cX6_comes 46 = .ok (.iload 4, 2) := by decide +kernel
theorem dX6_comes_48 : decode cX6_comes 48 = .ok (.iload_n 2, 1) := by decide +kernel
theorem dX6_comes_49 : decode cX6_comes 49 = .ok (.if_icmp .ge 27, 3) := by decide +kernel
theorem dX6_comes_52 : decode cX6_comes 52 = .ok (.iload_n 3, 1) := by decide +kernel
theorem dX6_comes_53 : decode cX6_comes 53 = .ok (.aload_n 0, 1) := by decide +kernel
theorem dX6_comes_54 : decode cX6_comes 54 = .ok (.getfield 36, 3) := by decide +kernel
theorem dX6_comes_57 : decode cX6_comes 57 = .ok (.iload 4, 2) := by decide +kernel
theorem dX6_comes_59 : decode cX6_comes 59 = .ok (.baload, 1) := by decide +kernel
theorem dX6_comes_60 : decode cX6_comes 60 = .ok (.ifCond .eq 7, 3) := by decide +kernel
theorem dX6_comes_63 : decode cX6_comes 63 = .ok (.iconst 1, 1) := by decide +kernel
theorem dX6_comes_64 : decode cX6_comes 64 = .ok (.goto 4, 3) := by decide +kernel
theorem dX6_comes_67 : decode cX6_comes 67 = .ok (.iconst 0, 1) := by decide +kernel
theorem dX6_comes_68 : decode cX6_comes 68 = .ok (.iadd, 1) := by decide +kernel
theorem dX6_comes_69 : decode cX6_comes 69 = .ok (.istore_n 3, 1) := by decide +kernel
theorem dX6_comes_70 : decode cX6_comes 70 = .ok (.iinc 4 1, 3) := by decide +kernel
theorem dX6_comes_73 : decode cX6_comes 73 = .ok (.goto (-39), 3) := by decide +kernel
theorem dX6_comes_76 : decode cX6_comes 76 = .ok (.iload_n 3, 1) := by decide +kernel
theorem dX6_comes_77 : decode cX6_comes 77 = .ok (.iconst 1, 1) := by decide +kernel
theorem dX6_comes_78 : decode cX6_comes 78 = .ok (.if_icmp .ne 20, 3) := by decide +kernel
theorem dX6_comes_81 : decode cX6_comes 81 = .ok (.aload_n 0, 1) := by decide +kernel
theorem dX6_comes_82 : decode cX6_comes 82 = .ok (.getfield 36, 3) := by decide +kernel
theorem dX6_comes_85 : decode cX6_comes 85 = .ok (.iload_n 2, 1) := by decide +kernel
theorem dX6_comes_86 : decode cX6_comes 86 = .ok (.iload_n 1, 1) := by decide +kernel
theorem dX6_comes_87 : decode cX6_comes 87 = .ok (.iconst 4, 1) := by decide +kernel
theorem dX6_comes_88 : decode cX6_comes 88 = .ok (.idiv, 1) := by decide +kernel
theorem dX6_comes_89 : decode cX6_comes 89 = .ok (.iadd, 1) := by decide +kernel
theorem dX6_comes_90 : decode cX6_comes 90 = .ok (.baload, 1) := by decide +kernel
theorem dX6_comes_91 : decode cX6_comes 91 = .ok (.ifCond .ne 7, 3) := by decide +kernel
theorem dX6_comes_94 : decode cX6_comes 94 = .ok (.iconst 1, 1) := by decide +kernel
theorem dX6_comes_95 : decode cX6_comes 95 = .ok (.goto 4, 3) := by decide +kernel
theorem dX6_comes_98 : decode cX6_comes 98 = .ok (.iconst 0, 1) := by decide +kernel
theorem dX6_comes_99 : decode cX6_comes 99 = .ok (.ireturn, 1) := by decide +kernel
theorem dX6_receive_0 : decode cX6_receive 0 = .ok (.iload_n 1, 1) := by decide +kernel
theorem dX6_receive_1 : decode cX6_receive 1 = .ok (.i2l, 1) := by decide +kernel
theorem dX6_receive_2 : decode cX6_receive 2 = .ok (.lconst 0, 1) := by decide +kernel
theorem dX6_receive_3 : decode cX6_receive 3 = .ok (.ldc2_w 58, 3) := by decide +kernel
theorem dX6_receive_6 : decode cX6_receive 6 = .ok (.invokestatic 60, 3) := by decide +kernel
theorem dX6_receive_9 : decode cX6_receive 9 = .ok (.ifCond .ne 6, 3) := by decide +kernel
theorem dX6_receive_12 : decode cX6_receive 12 = .ok (.bipush (-2), 2) := by decide +kernel
theorem dX6_receive_14 : decode cX6_receive 14 = .ok (.ireturn, 1) := by decide +kernel
theorem dX6_receive_15 : decode cX6_receive 15 = .ok (.aload_n 0, 1) := by decide +kernel
theorem dX6_receive_16 : decode cX6_receive 16 = .ok (.getfield 179, 3) := by decide +kernel
theorem dX6_receive_19 : decode cX6_receive 19 = .ok (.ifCond .ne 6, 3) := by decide +kernel
theorem dX6_receive_22 : decode cX6_receive 22 = .ok (.bipush (-3), 2) := by decide +kernel
theorem dX6_receive_24 : decode cX6_receive 24 = .ok (.ireturn, 1) := by decide +kernel
theorem dX6_receive_25 : decode cX6_receive 25 = .ok (.aload_n 0, 1) := by decide +kernel
theorem dX6_receive_26 : decode cX6_receive 26 = .ok (.getfield 7, 3) := by decide +kernel
theorem dX6_receive_29 : decode cX6_receive 29 = .ok (.iload_n 1, 1) := by decide +kernel
theorem dX6_receive_30 : decode cX6_receive 30 = .ok (.iconst 1, 1) := by decide +kernel
theorem dX6_receive_31 : decode cX6_receive 31 = .ok (.bastore, 1) := by decide +kernel
theorem dX6_receive_32 : decode cX6_receive 32 = .ok (.aload_n 0, 1) := by decide +kernel
theorem dX6_receive_33 : decode cX6_receive 33 = .ok (.getfield 13, 3) := by decide +kernel
theorem dX6_receive_36 : decode cX6_receive 36 = .ok (.iload_n 1, 1) := by decide +kernel
theorem dX6_receive_37 : decode cX6_receive 37 = .ok (.aload_n 0, 1) := by decide +kernel
theorem dX6_receive_38 : decode cX6_receive 38 = .ok (.getfield 13, 3) := by decide +kernel
theorem dX6_receive_41 : decode cX6_receive 41 = .ok (.bipush 8, 2) := by decide +kernel
theorem dX6_receive_43 : decode cX6_receive 43 = .ok (.iaload, 1) := by decide +kernel
theorem dX6_receive_44 : decode cX6_receive 44 = .ok (.iastore, 1) := by decide +kernel
theorem dX6_receive_45 : decode cX6_receive 45 = .ok (.aload_n 0, 1) := by decide +kernel
theorem dX6_receive_46 : decode cX6_receive 46 = .ok (.getfield 17, 3) := by decide +kernel
theorem dX6_receive_49 : decode cX6_receive 49 = .ok (.iload_n 1, 1) := by decide +kernel
theorem dX6_receive_50 : decode cX6_receive 50 = .ok (.aload_n 0, 1) := by decide +kernel
theorem dX6_receive_51 : decode cX6_receive 51 = .ok (.getfield 17, 3) := by decide +kernel
theorem dX6_receive_54 : decode cX6_receive 54 = .ok (.bipush 8, 2) := by decide +kernel
theorem dX6_receive_56 : decode cX6_receive 56 = .ok (.iaload, 1) := by decide +kernel
theorem dX6_receive_57 : decode cX6_receive 57 = .ok (.iastore, 1) := by decide +kernel
theorem dX6_receive_58 : decode cX6_receive 58 = .ok (.iconst 0, 1) := by decide +kernel
theorem dX6_receive_59 : decode cX6_receive 59 = .ok (.istore_n 2, 1) := by decide +kernel
theorem dX6_receive_60 : decode cX6_receive 60 = .ok (.iconst 0, 1) := by decide +kernel
theorem dX6_receive_61 : decode cX6_receive 61 = .ok (.istore_n 3, 1) := by decide +kernel
theorem dX6_receive_62 : decode cX6_receive 62 = .ok (.iload_n 3, 1) := by decide +kernel
theorem dX6_receive_63 : decode cX6_receive 63 = .ok (.aload_n 0, 1) := by decide +kernel
theorem dX6_receive_64 : decode cX6_receive 64 = .ok (.getfield 17, 3) := by decide +kernel
theorem dX6_receive_67 : decode cX6_receive 67 = .ok (.bipush 8, 2) := by decide +kernel
theorem dX6_receive_69 : decode cX6_receive 69 = .ok (.iaload, 1) := by decide +kernel
theorem dX6_receive_70 : decode cX6_receive 70 = .ok (.if_icmp .ge 101, 3) := by decide +kernel
theorem dX6_receive_73 : decode cX6_receive 73 = .ok (.aload_n 0, 1) := by decide +kernel
theorem dX6_receive_74 : decode cX6_receive 74 = .ok (.iload_n 3, 1) := by decide +kernel
theorem dX6_receive_75 : decode cX6_receive 75 = .ok (.bipush 8, 2) := by decide +kernel
theorem dX6_receive_77 : decode cX6_receive 77 = .ok (.idiv, 1) := by decide +kernel
theorem dX6_receive_78 : decode cX6_receive 78 = .ok (.invokevirtual 186, 3) := by decide +kernel
theorem dX6_receive_81 : decode cX6_receive 81 = .ok (.istore 4, 2) := by decide +kernel
theorem dX6_receive_83 : decode cX6_receive 83 = .ok (.aload_n 0, 1) := by decide +kernel
theorem dX6_receive_84 : decode cX6_receive 84 = .ok (.getfield 20, 3) := by decide +kernel
theorem dX6_receive_87 : decode cX6_receive 87 = .ok (.bipush 64, 2) := by decide +kernel
theorem dX6_receive_89 : decode cX6_receive 89 = .ok (.iload_n 1, 1) := by decide +kernel
theorem dX6_receive_90 : decode cX6_receive 90 = .ok (.imul, 1) := by decide +kernel
theorem dX6_receive_91 : decode cX6_receive 91 = .ok (.iload_n 3, 1) := by decide +kernel
theorem dX6_receive_92 : decode cX6_receive 92 = .ok (.iadd, 1) := by decide +kernel
theorem dX6_receive_93 : decode cX6_receive 93 = .ok (.iload 4, 2) := by decide +kernel
theorem dX6_receive_95 : decode cX6_receive 95 = .ok (.ifCond .eq 16, 3) := by decide +kernel
theorem dX6_receive_98 : decode cX6_receive 98 = .ok (.aload_n 0, 1) := by decide +kernel
theorem dX6_receive_99 : decode cX6_receive 99 = .ok (.getfield 20, 3) := by decide +kernel
theorem dX6_receive_102 : decode cX6_receive 102 = .ok (.sipush 512, 3) := by decide +kernel
theorem dX6_receive_105 : decode cX6_receive 105 = .ok (.iload_n 3, 1) := by decide +kernel
theorem dX6_receive_106 : decode cX6_receive 106 = .ok (.iadd, 1) := by decide +kernel
theorem dX6_receive_107 : decode cX6_receive 107 = .ok (.iaload, 1) := by decide +kernel
theorem dX6_receive_108 : decode cX6_receive 108 = .ok (.goto 4, 3) := by decide +kernel
theorem dX6_receive_111 : decode cX6_receive 111 = .ok (.iconst 0, 1) := by decide +kernel
theorem dX6_receive_112 : decode cX6_receive 112 = .ok (.iastore, 1) := by decide +kernel
theorem dX6_receive_113 : decode cX6_receive 113 = .ok (.aload_n 0, 1) := by decide +kernel
theorem dX6_receive_114 : decode cX6_receive 114 = .ok (.getfield 23, 3) := by decide +kernel
theorem dX6_receive_117 : decode cX6_receive 117 = .ok (.bipush 64, 2) := by decide +kernel
theorem dX6_receive_119 : decode cX6_receive 119 = .ok (.iload_n 1, 1) := by decide +kernel
theorem dX6_receive_120 : decode cX6_receive 120 = .ok (.imul, 1) := by decide +kernel
theorem dX6_receive_121 : decode cX6_receive 121 = .ok (.iload_n 3, 1) := by decide +kernel
theorem dX6_receive_122 : decode cX6_receive 122 = .ok (.iadd, 1) := by decide +kernel
theorem dX6_receive_123 : decode cX6_receive 123 = .ok (.iload 4, 2) := by decide +kernel
theorem dX6_receive_125 : decode cX6_receive 125 = .ok (.ifCond .eq 16, 3) := by decide +kernel
theorem dX6_receive_128 : decode cX6_receive 128 = .ok (.aload_n 0, 1) := by decide +kernel
theorem dX6_receive_129 : decode cX6_receive 129 = .ok (.getfield 23, 3) := by decide +kernel
theorem dX6_receive_132 : decode cX6_receive 132 = .ok (.sipush 512, 3) := by decide +kernel
theorem dX6_receive_135 : decode cX6_receive 135 = .ok (.iload_n 3, 1) := by decide +kernel
theorem dX6_receive_136 : decode cX6_receive 136 = .ok (.iadd, 1) := by decide +kernel
theorem dX6_receive_137 : decode cX6_receive 137 = .ok (.iaload, 1) := by decide +kernel
theorem dX6_receive_138 : decode cX6_receive 138 = .ok (.goto 4, 3) := by decide +kernel
theorem dX6_receive_141 : decode cX6_receive 141 = .ok (.iconst 0, 1) := by decide +kernel
theorem dX6_receive_142 : decode cX6_receive 142 = .ok (.iastore, 1) := by decide +kernel
theorem dX6_receive_143 : decode cX6_receive 143 = .ok (.iload_n 2, 1) := by decide +kernel
theorem dX6_receive_144 : decode cX6_receive 144 = .ok (.aload_n 0, 1) := by decide +kernel
theorem dX6_receive_145 : decode cX6_receive 145 = .ok (.getfield 20, 3) := by decide +kernel
theorem dX6_receive_148 : decode cX6_receive 148 = .ok (.bipush 64, 2) := by decide +kernel
theorem dX6_receive_150 : decode cX6_receive 150 = .ok (.iload_n 1, 1) := by decide +kernel
theorem dX6_receive_151 : decode cX6_receive 151 = .ok (.imul, 1) := by decide +kernel
theorem dX6_receive_152 : decode cX6_receive 152 = .ok (.iload_n 3, 1) := by decide +kernel
theorem dX6_receive_153 : decode cX6_receive 153 = .ok (.iadd, 1) := by decide +kernel
theorem dX6_receive_154 : decode cX6_receive 154 = .ok (.iaload, 1) := by decide +kernel
theorem dX6_receive_155 : decode cX6_receive 155 = .ok (.ifCond .ne 7, 3) := by decide +kernel
theorem dX6_receive_158 : decode cX6_receive 158 = .ok (.iconst 1, 1) := by decide +kernel
theorem dX6_receive_159 : decode cX6_receive 159 = .ok (.goto 4, 3) := by decide +kernel
theorem dX6_receive_162 : decode cX6_receive 162 = .ok (.iconst 0, 1) := by decide +kernel
theorem dX6_receive_163 : decode cX6_receive 163 = .ok (.iadd, 1) := by decide +kernel
theorem dX6_receive_164 : decode cX6_receive 164 = .ok (.istore_n 2, 1) := by decide +kernel
theorem dX6_receive_165 : decode cX6_receive 165 = .ok (.iinc 3 1, 3) := by decide +kernel
theorem dX6_receive_168 : decode cX6_receive 168 = .ok (.goto (-106), 3) := by decide +kernel
theorem dX6_receive_171 : decode cX6_receive 171 = .ok (.iload_n 2, 1) := by decide +kernel
theorem dX6_receive_172 : decode cX6_receive 172 = .ok (.ireturn, 1) := by decide +kernel
theorem dX6_rule_0 : decode cX6_rule 0 = .ok (.iload_n 1, 1) := by decide +kernel
theorem dX6_rule_1 : decode cX6_rule 1 = .ok (.iload_n 2, 1) := by decide +kernel
theorem dX6_rule_2 : decode cX6_rule 2 = .ok (.if_icmp .le 15, 3) := by decide +kernel
theorem dX6_rule_5 : decode cX6_rule 5 = .ok (.iload_n 3, 1) := by decide +kernel
theorem dX6_rule_6 : decode cX6_rule 6 = .ok (.i2l, 1) := by decide +kernel
theorem dX6_rule_7 : decode cX6_rule 7 = .ok (.lconst 0, 1) := by decide +kernel
theorem dX6_rule_8 : decode cX6_rule 8 = .ok (.ldc2_w 133, 3) := by decide +kernel
theorem dX6_rule_11 : decode cX6_rule 11 = .ok (.invokestatic 60, 3) := by decide +kernel
theorem dX6_rule_14 : decode cX6_rule 14 = .ok (.ifCond .ne 6, 3) := by decide +kernel
theorem dX6_rule_17 : decode cX6_rule 17 = .ok (.bipush (-2), 2) := by decide +kernel
theorem dX6_rule_19 : decode cX6_rule 19 = .ok (.ireturn, 1) := by decide +kernel
theorem dX6_rule_20 : decode cX6_rule 20 = .ok (.aload_n 0, 1) := by decide +kernel
theorem dX6_rule_21 : decode cX6_rule 21 = .ok (.iload_n 1, 1) := by decide +kernel
theorem dX6_rule_22 : decode cX6_rule 22 = .ok (.putfield 39, 3) := by decide +kernel
theorem dX6_rule_25 : decode cX6_rule 25 = .ok (.aload_n 0, 1) := by decide +kernel
theorem dX6_rule_26 : decode cX6_rule 26 = .ok (.iload_n 2, 1) := by decide +kernel
theorem dX6_rule_27 : decode cX6_rule 27 = .ok (.putfield 43, 3) := by decide +kernel
theorem dX6_rule_30 : decode cX6_rule 30 = .ok (.aload_n 0, 1) := by decide +kernel
theorem dX6_rule_31 : decode cX6_rule 31 = .ok (.iload_n 3, 1) := by decide +kernel
theorem dX6_rule_32 : decode cX6_rule 32 = .ok (.putfield 189, 3) := by decide +kernel
theorem dX6_rule_35 : decode cX6_rule 35 = .ok (.aload_n 0, 1) := by decide +kernel
theorem dX6_rule_36 : decode cX6_rule 36 = .ok (.iconst 0, 1) := by decide +kernel
theorem dX6_rule_37 : decode cX6_rule 37 = .ok (.putfield 192, 3) := by decide +kernel
theorem dX6_rule_40 : decode cX6_rule 40 = .ok (.aload_n 0, 1) := by decide +kernel
theorem dX6_rule_41 : decode cX6_rule 41 = .ok (.iconst 0, 1) := by decide +kernel
theorem dX6_rule_42 : decode cX6_rule 42 = .ok (.putfield 195, 3) := by decide +kernel
theorem dX6_rule_45 : decode cX6_rule 45 = .ok (.aload_n 0, 1) := by decide +kernel
theorem dX6_rule_46 : decode cX6_rule 46 = .ok (.iconst 0, 1) := by decide +kernel
theorem dX6_rule_47 : decode cX6_rule 47 = .ok (.putfield 198, 3) := by decide +kernel
theorem dX6_rule_50 : decode cX6_rule 50 = .ok (.aload_n 0, 1) := by decide +kernel
theorem dX6_rule_51 : decode cX6_rule 51 = .ok (.iconst 0, 1) := by decide +kernel
theorem dX6_rule_52 : decode cX6_rule 52 = .ok (.putfield 201, 3) := by decide +kernel
theorem dX6_rule_55 : decode cX6_rule 55 = .ok (.iconst 1, 1) := by decide +kernel
theorem dX6_rule_56 : decode cX6_rule 56 = .ok (.ireturn, 1) := by decide +kernel
theorem dX6_hear_0 : decode cX6_hear 0 = .ok (.aload_n 0, 1) := by decide +kernel
theorem dX6_hear_1 : decode cX6_hear 1 = .ok (.dup, 1) := by decide +kernel
theorem dX6_hear_2 : decode cX6_hear 2 = .ok (.getfield 192, 3) := by decide +kernel
theorem dX6_hear_5 : decode cX6_hear 5 = .ok (.iconst 1, 1) := by decide +kernel
theorem dX6_hear_6 : decode cX6_hear 6 = .ok (.iadd, 1) := by decide +kernel
theorem dX6_hear_7 : decode cX6_hear 7 = .ok (.putfield 192, 3) := by decide +kernel
theorem dX6_hear_10 : decode cX6_hear 10 = .ok (.iload_n 1, 1) := by decide +kernel
theorem dX6_hear_11 : decode cX6_hear 11 = .ok (.aload_n 0, 1) := by decide +kernel
theorem dX6_hear_12 : decode cX6_hear 12 = .ok (.getfield 39, 3) := by decide +kernel
theorem dX6_hear_15 : decode cX6_hear 15 = .ok (.if_icmp .lt 7, 3) := by decide +kernel
theorem dX6_hear_18 : decode cX6_hear 18 = .ok (.iconst 1, 1) := by decide +kernel
theorem dX6_hear_19 : decode cX6_hear 19 = .ok (.goto 19, 3) := by decide +kernel
theorem dX6_hear_22 : decode cX6_hear 22 = .ok (.iload_n 1, 1) := by decide +kernel
theorem dX6_hear_23 : decode cX6_hear 23 = .ok (.aload_n 0, 1) := by decide +kernel
theorem dX6_hear_24 : decode cX6_hear 24 = .ok (.getfield 43, 3) := by decide +kernel
theorem dX6_hear_27 : decode cX6_hear 27 = .ok (.if_icmp .gt 7, 3) := by decide +kernel
theorem dX6_hear_30 : decode cX6_hear 30 = .ok (.iconst 0, 1) := by decide +kernel
theorem dX6_hear_31 : decode cX6_hear 31 = .ok (.goto 7, 3) := by decide +kernel
theorem dX6_hear_34 : decode cX6_hear 34 = .ok (.aload_n 0, 1) := by decide +kernel
theorem dX6_hear_35 : decode cX6_hear 35 = .ok (.getfield 201, 3) := by decide +kernel
theorem dX6_hear_38 : decode cX6_hear 38 = .ok (.istore_n 2, 1) := by decide +kernel
theorem dX6_hear_39 : decode cX6_hear 39 = .ok (.aload_n 0, 1) := by decide +kernel
theorem dX6_hear_40 : decode cX6_hear 40 = .ok (.getfield 198, 3) := by decide +kernel
theorem dX6_hear_43 : decode cX6_hear 43 = .ok (.ifCond .le 23, 3) := by decide +kernel
theorem dX6_hear_46 : decode cX6_hear 46 = .ok (.aload_n 0, 1) := by decide +kernel
theorem dX6_hear_47 : decode cX6_hear 47 = .ok (.getfield 192, 3) := by decide +kernel
theorem dX6_hear_50 : decode cX6_hear 50 = .ok (.aload_n 0, 1) := by decide +kernel
theorem dX6_hear_51 : decode cX6_hear 51 = .ok (.getfield 198, 3) := by decide +kernel
theorem dX6_hear_54 : decode cX6_hear 54 = .ok (.isub, 1) := by decide +kernel
theorem dX6_hear_55 : decode cX6_hear 55 = .ok (.aload_n 0, 1) := by decide +kernel
theorem dX6_hear_56 : decode cX6_hear 56 = .ok (.getfield 189, 3) := by decide +kernel
theorem dX6_hear_59 : decode cX6_hear 59 = .ok (.if_icmp .gt 7, 3) := by decide +kernel
theorem dX6_hear_62 : decode cX6_hear 62 = .ok (.iconst 1, 1) := by decide +kernel
theorem dX6_hear_63 : decode cX6_hear 63 = .ok (.goto 4, 3) := by decide +kernel
theorem dX6_hear_66 : decode cX6_hear 66 = .ok (.iconst 0, 1) := by decide +kernel
theorem dX6_hear_67 : decode cX6_hear 67 = .ok (.istore_n 3, 1) := by decide +kernel
theorem dX6_hear_68 : decode cX6_hear 68 = .ok (.iload_n 2, 1) := by decide +kernel
theorem dX6_hear_69 : decode cX6_hear 69 = .ok (.aload_n 0, 1) := by decide +kernel
theorem dX6_hear_70 : decode cX6_hear 70 = .ok (.getfield 201, 3) := by decide +kernel
theorem dX6_hear_73 : decode cX6_hear 73 = .ok (.if_icmp .eq 30, 3) := by decide +kernel
theorem dX6_hear_76 : decode cX6_hear 76 = .ok (.iload_n 3, 1) := by decide +kernel
theorem dX6_hear_77 : decode cX6_hear 77 = .ok (.ifCond .ne 26, 3) := by decide +kernel
theorem dX6_hear_80 : decode cX6_hear 80 = .ok (.aload_n 0, 1) := by decide +kernel
theorem dX6_hear_81 : decode cX6_hear 81 = .ok (.iload_n 2, 1) := by decide +kernel
theorem dX6_hear_82 : decode cX6_hear 82 = .ok (.putfield 201, 3) := by decide +kernel
theorem dX6_hear_85 : decode cX6_hear 85 = .ok (.aload_n 0, 1) := by decide +kernel
theorem dX6_hear_86 : decode cX6_hear 86 = .ok (.aload_n 0, 1) := by decide +kernel
theorem dX6_hear_87 : decode cX6_hear 87 = .ok (.getfield 192, 3) := by decide +kernel
theorem dX6_hear_90 : decode cX6_hear 90 = .ok (.putfield 198, 3) := by decide +kernel
theorem dX6_hear_93 : decode cX6_hear 93 = .ok (.aload_n 0, 1) := by decide +kernel
theorem dX6_hear_94 : decode cX6_hear 94 = .ok (.dup, 1) := by decide +kernel
theorem dX6_hear_95 : decode cX6_hear 95 = .ok (.getfield 195, 3) := by decide +kernel
theorem dX6_hear_98 : decode cX6_hear 98 = .ok (.iconst 1, 1) := by decide +kernel
theorem dX6_hear_99 : decode cX6_hear 99 = .ok (.iadd, 1) := by decide +kernel
theorem dX6_hear_100 : decode cX6_hear 100 = .ok (.putfield 195, 3) := by decide +kernel
theorem dX6_hear_103 : decode cX6_hear 103 = .ok (.aload_n 0, 1) := by decide +kernel
theorem dX6_hear_104 : decode cX6_hear 104 = .ok (.getfield 201, 3) := by decide +kernel
theorem dX6_hear_107 : decode cX6_hear 107 = .ok (.ireturn, 1) := by decide +kernel
theorem dX6_isPlace_0 : decode cX6_isPlace 0 = .ok (.iload_n 0, 1) := by decide +kernel
theorem dX6_isPlace_1 : decode cX6_isPlace 1 = .ok (.i2l, 1) := by decide +kernel
theorem dX6_isPlace_2 : decode cX6_isPlace 2 = .ok (.ldc2_w 123, 3) := by decide +kernel
theorem dX6_isPlace_5 : decode cX6_isPlace 5 = .ok (.ldc2_w 125, 3) := by decide +kernel
theorem dX6_isPlace_8 : decode cX6_isPlace 8 = .ok (.invokestatic 60, 3) := by decide +kernel
theorem dX6_isPlace_11 : decode cX6_isPlace 11 = .ok (.ifCond .eq 21, 3) := by decide +kernel
theorem dX6_isPlace_14 : decode cX6_isPlace 14 = .ok (.iload_n 1, 1) := by decide +kernel
theorem dX6_isPlace_15 : decode cX6_isPlace 15 = .ok (.i2l, 1) := by decide +kernel
theorem dX6_isPlace_16 : decode cX6_isPlace 16 = .ok (.ldc2_w 123, 3) := by decide +kernel
theorem dX6_isPlace_19 : decode cX6_isPlace 19 = .ok (.ldc2_w 125, 3) := by decide +kernel
theorem dX6_isPlace_22 : decode cX6_isPlace 22 = .ok (.invokestatic 60, 3) := by decide +kernel
theorem dX6_isPlace_25 : decode cX6_isPlace 25 = .ok (.ifCond .eq 7, 3) := by decide +kernel
theorem dX6_isPlace_28 : decode cX6_isPlace 28 = .ok (.iconst 1, 1) := by decide +kernel
theorem dX6_isPlace_29 : decode cX6_isPlace 29 = .ok (.goto 4, 3) := by decide +kernel
theorem dX6_isPlace_32 : decode cX6_isPlace 32 = .ok (.iconst 0, 1) := by decide +kernel
theorem dX6_isPlace_33 : decode cX6_isPlace 33 = .ok (.ireturn, 1) := by decide +kernel
theorem dX6_anchor_0 : decode cX6_anchor 0 = .ok (.iload_n 1, 1) := by decide +kernel
theorem dX6_anchor_1 : decode cX6_anchor 1 = .ok (.iload_n 2, 1) := by decide +kernel
theorem dX6_anchor_2 : decode cX6_anchor 2 = .ok (.invokestatic 204, 3) := by decide +kernel
theorem dX6_anchor_5 : decode cX6_anchor 5 = .ok (.ifCond .eq 28, 3) := by decide +kernel
theorem dX6_anchor_8 : decode cX6_anchor 8 = .ok (.iload_n 3, 1) := by decide +kernel
theorem dX6_anchor_9 : decode cX6_anchor 9 = .ok (.i2l, 1) := by decide +kernel
theorem dX6_anchor_10 : decode cX6_anchor 10 = .ok (.lconst 0, 1) := by decide +kernel
theorem dX6_anchor_11 : decode cX6_anchor 11 = .ok (.ldc2_w 125, 3) := by decide +kernel
theorem dX6_anchor_14 : decode cX6_anchor 14 = .ok (.invokestatic 60, 3) := by decide +kernel
theorem dX6_anchor_17 : decode cX6_anchor 17 = .ok (.ifCond .eq 16, 3) := by decide +kernel
theorem dX6_anchor_20 : decode cX6_anchor 20 = .ok (.iload 4, 2) := by decide +kernel
theorem dX6_anchor_22 : decode cX6_anchor 22 = .ok (.i2l, 1) := by decide +kernel
theorem dX6_anchor_23 : decode cX6_anchor 23 = .ok (.lconst 1, 1) := by decide +kernel
theorem dX6_anchor_24 : decode cX6_anchor 24 = .ok (.ldc2_w 167, 3) := by decide +kernel
theorem dX6_anchor_27 : decode cX6_anchor 27 = .ok (.invokestatic 60, 3) := by decide +kernel
theorem dX6_anchor_30 : decode cX6_anchor 30 = .ok (.ifCond .ne 6, 3) := by decide +kernel
theorem dX6_anchor_33 : decode cX6_anchor 33 = .ok (.bipush (-2), 2) := by decide +kernel
theorem dX6_anchor_35 : decode cX6_anchor 35 = .ok (.ireturn, 1) := by decide +kernel
theorem dX6_anchor_36 : decode cX6_anchor 36 = .ok (.aload_n 0, 1) := by decide +kernel
theorem dX6_anchor_37 : decode cX6_anchor 37 = .ok (.iload_n 1, 1) := by decide +kernel
theorem dX6_anchor_38 : decode cX6_anchor 38 = .ok (.putfield 207, 3) := by decide +kernel
theorem dX6_anchor_41 : decode cX6_anchor 41 = .ok (.aload_n 0, 1) := by decide +kernel
theorem dX6_anchor_42 : decode cX6_anchor 42 = .ok (.iload_n 2, 1) := by decide +kernel
theorem dX6_anchor_43 : decode cX6_anchor 43 = .ok (.putfield 210, 3) := by decide +kernel
theorem dX6_anchor_46 : decode cX6_anchor 46 = .ok (.aload_n 0, 1) := by decide +kernel
theorem dX6_anchor_47 : decode cX6_anchor 47 = .ok (.iload_n 3, 1) := by decide +kernel
theorem dX6_anchor_48 : decode cX6_anchor 48 = .ok (.putfield 213, 3) := by decide +kernel
theorem dX6_anchor_51 : decode cX6_anchor 51 = .ok (.aload_n 0, 1) := by decide +kernel
theorem dX6_anchor_52 : decode cX6_anchor 52 = .ok (.iload 4, 2) := by decide +kernel
theorem dX6_anchor_54 : decode cX6_anchor 54 = .ok (.putfield 46, 3) := by decide +kernel
theorem dX6_anchor_57 : decode cX6_anchor 57 = .ok (.aload_n 0, 1) := by decide +kernel
theorem dX6_anchor_58 : decode cX6_anchor 58 = .ok (.iconst 0, 1) := by decide +kernel
theorem dX6_anchor_59 : decode cX6_anchor 59 = .ok (.putfield 216, 3) := by decide +kernel
theorem dX6_anchor_62 : decode cX6_anchor 62 = .ok (.aload_n 0, 1) := by decide +kernel
theorem dX6_anchor_63 : decode cX6_anchor 63 = .ok (.iconst 0, 1) := by decide +kernel
theorem dX6_anchor_64 : decode cX6_anchor 64 = .ok (.putfield 219, 3) := by decide +kernel
theorem dX6_anchor_67 : decode cX6_anchor 67 = .ok (.iconst 1, 1) := by decide +kernel
theorem dX6_anchor_68 : decode cX6_anchor 68 = .ok (.ireturn, 1) := by decide +kernel
theorem dX6_fix_0 : decode cX6_fix 0 = .ok (.iload_n 1, 1) := by decide +kernel
theorem dX6_fix_1 : decode cX6_fix 1 = .ok (.iload_n 2, 1) := by decide +kernel
theorem dX6_fix_2 : decode cX6_fix 2 = .ok (.invokestatic 204, 3) := by decide +kernel
theorem dX6_fix_5 : decode cX6_fix 5 = .ok (.ifCond .ne 6, 3) := by decide +kernel
theorem dX6_fix_8 : decode cX6_fix 8 = .ok (.bipush (-2), 2) := by decide +kernel
theorem dX6_fix_10 : decode cX6_fix 10 = .ok (.ireturn, 1) := by decide +kernel
theorem dX6_fix_11 : decode cX6_fix 11 = .ok (.aload_n 0, 1) := by decide +kernel
theorem dX6_fix_12 : decode cX6_fix 12 = .ok (.aload_n 0, 1) := by decide +kernel
theorem dX6_fix_13 : decode cX6_fix 13 = .ok (.getfield 216, 3) := by decide +kernel
theorem dX6_fix_16 : decode cX6_fix 16 = .ok (.ifCond .eq 11, 3) := by decide +kernel
theorem dX6_fix_19 : decode cX6_fix 19 = .ok (.iload_n 1, 1) := by decide +kernel
theorem dX6_fix_20 : decode cX6_fix 20 = .ok (.aload_n 0, 1) := by decide +kernel
theorem dX6_fix_21 : decode cX6_fix 21 = .ok (.getfield 222, 3) := by decide +kernel
theorem dX6_fix_24 : decode cX6_fix 24 = .ok (.if_icmp .ge 7, 3) := by decide +kernel
theorem dX6_fix_27 : decode cX6_fix 27 = .ok (.iload_n 1, 1) := by decide +kernel
theorem dX6_fix_28 : decode cX6_fix 28 = .ok (.goto 7, 3) := by decide +kernel
theorem dX6_fix_31 : decode cX6_fix 31 = .ok (.aload_n 0, 1) := by decide +kernel
theorem dX6_fix_32 : decode cX6_fix 32 = .ok (.getfield 222, 3) := by decide +kernel
theorem dX6_fix_35 : decode cX6_fix 35 = .ok (.putfield 222, 3) := by decide +kernel
theorem dX6_fix_38 : decode cX6_fix 38 = .ok (.aload_n 0, 1) := by decide +kernel
theorem dX6_fix_39 : decode cX6_fix 39 = .ok (.aload_n 0, 1) := by decide +kernel
theorem dX6_fix_40 : decode cX6_fix 40 = .ok (.getfield 216, 3) := by decide +kernel
theorem dX6_fix_43 : decode cX6_fix 43 = .ok (.ifCond .eq 11, 3) := by decide +kernel
theorem dX6_fix_46 : decode cX6_fix 46 = .ok (.iload_n 1, 1) := by decide +kernel
theorem dX6_fix_47 : decode cX6_fix 47 = .ok (.aload_n 0, 1) := by decide +kernel
theorem dX6_fix_48 : decode cX6_fix 48 = .ok (.getfield 225, 3) := by decide +kernel
theorem dX6_fix_51 : decode cX6_fix 51 = .ok (.if_icmp .le 7, 3) := by decide +kernel
theorem dX6_fix_54 : decode cX6_fix 54 = .ok (.iload_n 1, 1) := by decide +kernel
theorem dX6_fix_55 : decode cX6_fix 55 = .ok (.goto 7, 3) := by decide +kernel
theorem dX6_fix_58 : decode cX6_fix 58 = .ok (.aload_n 0, 1) := by decide +kernel
theorem dX6_fix_59 : decode cX6_fix 59 = .ok (.getfield 225, 3) := by decide +kernel
theorem dX6_fix_62 : decode cX6_fix 62 = .ok (.putfield 225, 3) := by decide +kernel
theorem dX6_fix_65 : decode cX6_fix 65 = .ok (.aload_n 0, 1) := by decide +kernel
theorem dX6_fix_66 : decode cX6_fix 66 = .ok (.aload_n 0, 1) := by decide +kernel
theorem dX6_fix_67 : decode cX6_fix 67 = .ok (.getfield 216, 3) := by decide +kernel
theorem dX6_fix_70 : decode cX6_fix 70 = .ok (.ifCond .eq 11, 3) := by decide +kernel
theorem dX6_fix_73 : decode cX6_fix 73 = .ok (.iload_n 2, 1) := by decide +kernel
theorem dX6_fix_74 : decode cX6_fix 74 = .ok (.aload_n 0, 1) := by decide +kernel
theorem dX6_fix_75 : decode cX6_fix 75 = .ok (.getfield 228, 3) := by decide +kernel
theorem dX6_fix_78 : decode cX6_fix 78 = .ok (.if_icmp .ge 7, 3) := by decide +kernel
theorem dX6_fix_81 : decode cX6_fix 81 = .ok (.iload_n 2, 1) := by decide +kernel
theorem dX6_fix_82 : decode cX6_fix 82 = .ok (.goto 7, 3) := by decide +kernel
theorem dX6_fix_85 : decode cX6_fix 85 = .ok (.aload_n 0, 1) := by decide +kernel
theorem dX6_fix_86 : decode cX6_fix 86 = .ok (.getfield 228, 3) := by decide +kernel
theorem dX6_fix_89 : decode cX6_fix 89 = .ok (.putfield 228, 3) := by decide +kernel
theorem dX6_fix_92 : decode cX6_fix 92 = .ok (.aload_n 0, 1) := by decide +kernel
theorem dX6_fix_93 : decode cX6_fix 93 = .ok (.aload_n 0, 1) := by decide +kernel
theorem dX6_fix_94 : decode cX6_fix 94 = .ok (.getfield 216, 3) := by decide +kernel
theorem dX6_fix_97 : decode cX6_fix 97 = .ok (.ifCond .eq 11, 3) := by decide +kernel
theorem dX6_fix_100 : decode cX6_fix 100 = .ok (.iload_n 2, 1) := by decide +kernel
theorem dX6_fix_101 : decode cX6_fix 101 = .ok (.aload_n 0, 1) := by decide +kernel
theorem dX6_fix_102 : decode cX6_fix 102 = .ok (.getfield 231, 3) := by decide +kernel
theorem dX6_fix_105 : decode cX6_fix 105 = .ok (.if_icmp .le 7, 3) := by decide +kernel
theorem dX6_fix_108 : decode cX6_fix 108 = .ok (.iload_n 2, 1) := by decide +kernel
theorem dX6_fix_109 : decode cX6_fix 109 = .ok (.goto 7, 3) := by decide +kernel
theorem dX6_fix_112 : decode cX6_fix 112 = .ok (.aload_n 0, 1) := by decide +kernel
theorem dX6_fix_113 : decode cX6_fix 113 = .ok (.getfield 231, 3) := by decide +kernel
theorem dX6_fix_116 : decode cX6_fix 116 = .ok (.putfield 231, 3) := by decide +kernel
theorem dX6_fix_119 : decode cX6_fix 119 = .ok (.aload_n 0, 1) := by decide +kernel
theorem dX6_fix_120 : decode cX6_fix 120 = .ok (.dup, 1) := by decide +kernel
theorem dX6_fix_121 : decode cX6_fix 121 = .ok (.getfield 216, 3) := by decide +kernel
theorem dX6_fix_124 : decode cX6_fix 124 = .ok (.iconst 1, 1) := by decide +kernel
theorem dX6_fix_125 : decode cX6_fix 125 = .ok (.iadd, 1) := by decide +kernel
theorem dX6_fix_126 : decode cX6_fix 126 = .ok (.putfield 216, 3) := by decide +kernel
theorem dX6_fix_129 : decode cX6_fix 129 = .ok (.iload_n 1, 1) := by decide +kernel
theorem dX6_fix_130 : decode cX6_fix 130 = .ok (.aload_n 0, 1) := by decide +kernel
theorem dX6_fix_131 : decode cX6_fix 131 = .ok (.getfield 207, 3) := by decide +kernel
theorem dX6_fix_134 : decode cX6_fix 134 = .ok (.isub, 1) := by decide +kernel
theorem dX6_fix_135 : decode cX6_fix 135 = .ok (.i2l, 1) := by decide +kernel
theorem dX6_fix_136 : decode cX6_fix 136 = .ok (.lstore_n 3, 1) := by decide +kernel
theorem dX6_fix_137 : decode cX6_fix 137 = .ok (.iload_n 2, 1) := by decide +kernel
theorem dX6_fix_138 : decode cX6_fix 138 = .ok (.aload_n 0, 1) := by decide +kernel
theorem dX6_fix_139 : decode cX6_fix 139 = .ok (.getfield 210, 3) := by decide +kernel
theorem dX6_fix_142 : decode cX6_fix 142 = .ok (.isub, 1) := by decide +kernel
theorem dX6_fix_143 : decode cX6_fix 143 = .ok (.i2l, 1) := by decide +kernel
theorem dX6_fix_144 : decode cX6_fix 144 = .ok (.lstore 5, 2) := by decide +kernel
theorem dX6_fix_146 : decode cX6_fix 146 = .ok (.aload_n 0, 1) := by decide +kernel
theorem dX6_fix_147 : decode cX6_fix 147 = .ok (.lload_n 3, 1) := by decide +kernel
theorem dX6_fix_148 : decode cX6_fix 148 = .ok (.lload_n 3, 1) := by decide +kernel
theorem dX6_fix_149 : decode cX6_fix 149 = .ok (.lmul, 1) := by decide +kernel
theorem dX6_fix_150 : decode cX6_fix 150 = .ok (.lload 5, 2) := by decide +kernel
theorem dX6_fix_152 : decode cX6_fix 152 = .ok (.lload 5, 2) := by decide +kernel
theorem dX6_fix_154 : decode cX6_fix 154 = .ok (.lmul, 1) := by decide +kernel
theorem dX6_fix_155 : decode cX6_fix 155 = .ok (.ladd, 1) := by decide +kernel
theorem dX6_fix_156 : decode cX6_fix 156 = .ok (.aload_n 0, 1) := by decide +kernel
theorem dX6_fix_157 : decode cX6_fix 157 = .ok (.getfield 213, 3) := by decide +kernel
theorem dX6_fix_160 : decode cX6_fix 160 = .ok (.i2l, 1) := by decide +kernel
theorem dX6_fix_161 : decode cX6_fix 161 = .ok (.aload_n 0, 1) := by decide +kernel
theorem dX6_fix_162 : decode cX6_fix 162 = .ok (.getfield 213, 3) := by decide +kernel
theorem dX6_fix_165 : decode cX6_fix 165 = .ok (.i2l, 1) := by decide +kernel
theorem dX6_fix_166 : decode cX6_fix 166 = .ok (.lmul, 1) := by decide +kernel
theorem dX6_fix_167 : decode cX6_fix 167 = .ok (.lcmp, 1) := by decide +kernel
theorem dX6_fix_168 : decode cX6_fix 168 = .ok (.ifCond .le 12, 3) := by decide +kernel
theorem dX6_fix_171 : decode cX6_fix 171 = .ok (.aload_n 0, 1) := by decide +kernel
theorem dX6_fix_172 : decode cX6_fix 172 = .ok (.getfield 219, 3) := by decide +kernel
theorem dX6_fix_175 : decode cX6_fix 175 = .ok (.iconst 1, 1) := by decide +kernel
theorem dX6_fix_176 : decode cX6_fix 176 = .ok (.iadd, 1) := by decide +kernel
theorem dX6_fix_177 : decode cX6_fix 177 = .ok (.goto 4, 3) := by decide +kernel
theorem dX6_fix_180 : decode cX6_fix 180 = .ok (.iconst 0, 1) := by decide +kernel
theorem dX6_fix_181 : decode cX6_fix 181 = .ok (.putfield 219, 3) := by decide +kernel
theorem dX6_fix_184 : decode cX6_fix 184 = .ok (.aload_n 0, 1) := by decide +kernel
theorem dX6_fix_185 : decode cX6_fix 185 = .ok (.getfield 219, 3) := by decide +kernel
theorem dX6_fix_188 : decode cX6_fix 188 = .ok (.aload_n 0, 1) := by decide +kernel
theorem dX6_fix_189 : decode cX6_fix 189 = .ok (.getfield 46, 3) := by decide +kernel
theorem dX6_fix_192 : decode cX6_fix 192 = .ok (.if_icmp .lt 7, 3) := by decide +kernel
theorem dX6_fix_195 : decode cX6_fix 195 = .ok (.iconst 2, 1) := by decide +kernel
theorem dX6_fix_196 : decode cX6_fix 196 = .ok (.goto 15, 3) := by decide +kernel
theorem dX6_fix_199 : decode cX6_fix 199 = .ok (.aload_n 0, 1) := by decide +kernel
theorem dX6_fix_200 : decode cX6_fix 200 = .ok (.getfield 219, 3) := by decide +kernel
theorem dX6_fix_203 : decode cX6_fix 203 = .ok (.ifCond .le 7, 3) := by decide +kernel
theorem dX6_fix_206 : decode cX6_fix 206 = .ok (.iconst 1, 1) := by decide +kernel
theorem dX6_fix_207 : decode cX6_fix 207 = .ok (.goto 4, 3) := by decide +kernel
theorem dX6_fix_210 : decode cX6_fix 210 = .ok (.iconst 0, 1) := by decide +kernel
theorem dX6_fix_211 : decode cX6_fix 211 = .ok (.ireturn, 1) := by decide +kernel
theorem dX6_count_0 : decode cX6_count 0 = .ok (.iconst 0, 1) := by decide +kernel
theorem dX6_count_1 : decode cX6_count 1 = .ok (.istore_n 2, 1) := by decide +kernel
theorem dX6_count_2 : decode cX6_count 2 = .ok (.iload_n 1, 1) := by decide +kernel
theorem dX6_count_3 : decode cX6_count 3 = .ok (.tableswitch 193 0 9 #[53, 86, 91, 126, 131, 136, 141, 146, 151, 172], 53) := by decide +kernel
theorem dX6_count_56 : decode cX6_count 56 = .ok (.iconst 0, 1) := by decide +kernel
theorem dX6_count_57 : decode cX6_count 57 = .ok (.istore_n 3, 1) := by decide +kernel
theorem dX6_count_58 : decode cX6_count 58 = .ok (.iload_n 3, 1) := by decide +kernel
theorem dX6_count_59 : decode cX6_count 59 = .ok (.bipush 8, 2) := by decide +kernel
theorem dX6_count_61 : decode cX6_count 61 = .ok (.if_icmp .ge 26, 3) := by decide +kernel
theorem dX6_count_64 : decode cX6_count 64 = .ok (.iload_n 2, 1) := by decide +kernel
theorem dX6_count_65 : decode cX6_count 65 = .ok (.aload_n 0, 1) := by decide +kernel
theorem dX6_count_66 : decode cX6_count 66 = .ok (.getfield 7, 3) := by decide +kernel
theorem dX6_count_69 : decode cX6_count 69 = .ok (.iload_n 3, 1) := by decide +kernel
theorem dX6_count_70 : decode cX6_count 70 = .ok (.baload, 1) := by decide +kernel
theorem dX6_count_71 : decode cX6_count 71 = .ok (.ifCond .eq 7, 3) := by decide +kernel
theorem dX6_count_74 : decode cX6_count 74 = .ok (.iconst 1, 1) := by decide +kernel
theorem dX6_count_75 : decode cX6_count 75 = .ok (.goto 4, 3) := by decide +kernel
theorem dX6_count_78 : decode cX6_count 78 = .ok (.iconst 0, 1) := by decide +kernel
theorem dX6_count_79 : decode cX6_count 79 = .ok (.iadd, 1) := by decide +kernel
theorem dX6_count_80 : decode cX6_count 80 = .ok (.istore_n 2, 1) := by decide +kernel
theorem dX6_count_81 : decode cX6_count 81 = .ok (.iinc 3 1, 3) := by decide +kernel
theorem dX6_count_84 : decode cX6_count 84 = .ok (.goto (-26), 3) := by decide +kernel
theorem dX6_count_87 : decode cX6_count 87 = .ok (.iload_n 2, 1) := by decide +kernel
theorem dX6_count_88 : decode cX6_count 88 = .ok (.ireturn, 1) := by decide +kernel
theorem dX6_count_89 : decode cX6_count 89 = .ok (.aload_n 0, 1) := by decide +kernel
theorem dX6_count_90 : decode cX6_count 90 = .ok (.getfield 183, 3) := by decide +kernel
theorem dX6_count_93 : decode cX6_count 93 = .ok (.ireturn, 1) := by decide +kernel
theorem dX6_count_94 : decode cX6_count 94 = .ok (.iconst 0, 1) := by decide +kernel
theorem dX6_count_95 : decode cX6_count 95 = .ok (.istore_n 3, 1) := by decide +kernel
theorem dX6_count_96 : decode cX6_count 96 = .ok (.iload_n 3, 1) := by decide +kernel
theorem dX6_count_97 : decode cX6_count 97 = .ok (.aload_n 0, 1) := by decide +kernel
theorem dX6_count_98 : decode cX6_count 98 = .ok (.getfield 183, 3) := by decide +kernel
theorem dX6_count_101 : decode cX6_count 101 = .ok (.if_icmp .ge 26, 3) := by decide +kernel
theorem dX6_count_104 : decode cX6_count 104 = .ok (.iload_n 2, 1) := by decide +kernel
theorem dX6_count_105 : decode cX6_count 105 = .ok (.aload_n 0, 1) := by decide +kernel
theorem dX6_count_106 : decode cX6_count 106 = .ok (.getfield 36, 3) := by decide +kernel
theorem dX6_count_109 : decode cX6_count 109 = .ok (.iload_n 3, 1) := by decide +kernel
theorem dX6_count_110 : decode cX6_count 110 = .ok (.baload, 1) := by decide +kernel
theorem dX6_count_111 : decode cX6_count 111 = .ok (.ifCond .eq 7, 3) := by decide +kernel
theorem dX6_count_114 : decode cX6_count 114 = .ok (.iconst 1, 1) := by decide +kernel
theorem dX6_count_115 : decode cX6_count 115 = .ok (.goto 4, 3) := by decide +kernel
theorem dX6_count_118 : decode cX6_count 118 = .ok (.iconst 0, 1) := by decide +kernel
theorem dX6_count_119 : decode cX6_count 119 = .ok (.iadd, 1) := by decide +kernel
theorem dX6_count_120 : decode cX6_count 120 = .ok (.istore_n 2, 1) := by decide +kernel
theorem dX6_count_121 : decode cX6_count 121 = .ok (.iinc 3 1, 3) := by decide +kernel
theorem dX6_count_124 : decode cX6_count 124 = .ok (.goto (-28), 3) := by decide +kernel
theorem dX6_count_127 : decode cX6_count 127 = .ok (.iload_n 2, 1) := by decide +kernel
theorem dX6_count_128 : decode cX6_count 128 = .ok (.ireturn, 1) := by decide +kernel
theorem dX6_count_129 : decode cX6_count 129 = .ok (.aload_n 0, 1) := by decide +kernel
theorem dX6_count_130 : decode cX6_count 130 = .ok (.getfield 192, 3) := by decide +kernel
theorem dX6_count_133 : decode cX6_count 133 = .ok (.ireturn, 1) := by decide +kernel
theorem dX6_count_134 : decode cX6_count 134 = .ok (.aload_n 0, 1) := by decide +kernel
theorem dX6_count_135 : decode cX6_count 135 = .ok (.getfield 195, 3) := by decide +kernel
theorem dX6_count_138 : decode cX6_count 138 = .ok (.ireturn, 1) := by decide +kernel
theorem dX6_count_139 : decode cX6_count 139 = .ok (.aload_n 0, 1) := by decide +kernel
theorem dX6_count_140 : decode cX6_count 140 = .ok (.getfield 201, 3) := by decide +kernel
theorem dX6_count_143 : decode cX6_count 143 = .ok (.ireturn, 1) := by decide +kernel
theorem dX6_count_144 : decode cX6_count 144 = .ok (.aload_n 0, 1) := by decide +kernel
theorem dX6_count_145 : decode cX6_count 145 = .ok (.getfield 216, 3) := by decide +kernel
theorem dX6_count_148 : decode cX6_count 148 = .ok (.ireturn, 1) := by decide +kernel
theorem dX6_count_149 : decode cX6_count 149 = .ok (.aload_n 0, 1) := by decide +kernel
theorem dX6_count_150 : decode cX6_count 150 = .ok (.getfield 219, 3) := by decide +kernel
theorem dX6_count_153 : decode cX6_count 153 = .ok (.ireturn, 1) := by decide +kernel
theorem dX6_count_154 : decode cX6_count 154 = .ok (.aload_n 0, 1) := by decide +kernel
theorem dX6_count_155 : decode cX6_count 155 = .ok (.getfield 216, 3) := by decide +kernel
theorem dX6_count_158 : decode cX6_count 158 = .ok (.ifCond .ne 7, 3) := by decide +kernel
theorem dX6_count_161 : decode cX6_count 161 = .ok (.iconst 0, 1) := by decide +kernel
theorem dX6_count_162 : decode cX6_count 162 = .ok (.goto 12, 3) := by decide +kernel
theorem dX6_count_165 : decode cX6_count 165 = .ok (.aload_n 0, 1) := by decide +kernel
theorem dX6_count_166 : decode cX6_count 166 = .ok (.getfield 225, 3) := by decide +kernel
theorem dX6_count_169 : decode cX6_count 169 = .ok (.aload_n 0, 1) := by decide +kernel
theorem dX6_count_170 : decode cX6_count 170 = .ok (.getfield 222, 3) := by decide +kernel
theorem dX6_count_173 : decode cX6_count 173 = .ok (.isub, 1) := by decide +kernel
theorem dX6_count_174 : decode cX6_count 174 = .ok (.ireturn, 1) := by decide +kernel
theorem dX6_count_175 : decode cX6_count 175 = .ok (.aload_n 0, 1) := by decide +kernel
theorem dX6_count_176 : decode cX6_count 176 = .ok (.getfield 216, 3) := by decide +kernel
theorem dX6_count_179 : decode cX6_count 179 = .ok (.ifCond .ne 7, 3) := by decide +kernel
theorem dX6_count_182 : decode cX6_count 182 = .ok (.iconst 0, 1) := by decide +kernel
theorem dX6_count_183 : decode cX6_count 183 = .ok (.goto 12, 3) := by decide +kernel
theorem dX6_count_186 : decode cX6_count 186 = .ok (.aload_n 0, 1) := by decide +kernel
theorem dX6_count_187 : decode cX6_count 187 = .ok (.getfield 231, 3) := by decide +kernel
theorem dX6_count_190 : decode cX6_count 190 = .ok (.aload_n 0, 1) := by decide +kernel
theorem dX6_count_191 : decode cX6_count 191 = .ok (.getfield 228, 3) := by decide +kernel
theorem dX6_count_194 : decode cX6_count 194 = .ok (.isub, 1) := by decide +kernel
theorem dX6_count_195 : decode cX6_count 195 = .ok (.ireturn, 1) := by decide +kernel
theorem dX6_count_196 : decode cX6_count 196 = .ok (.bipush (-2), 2) := by decide +kernel
theorem dX6_count_198 : decode cX6_count 198 = .ok (.ireturn, 1) := by decide +kernel
theorem dX6_digest_0 : decode cX6_digest 0 = .ok (.ldc2_w 234, 3) := by decide +kernel
theorem dX6_digest_3 : decode cX6_digest 3 = .ok (.lstore_n 1, 1) := by decide +kernel
theorem dX6_digest_4 : decode cX6_digest 4 = .ok (.iconst 0, 1) := by decide +kernel
theorem dX6_digest_5 : decode cX6_digest 5 = .ok (.istore_n 3, 1) := by decide +kernel
theorem dX6_digest_6 : decode cX6_digest 6 = .ok (.iload_n 3, 1) := by decide +kernel
theorem dX6_digest_7 : decode cX6_digest 7 = .ok (.bipush 10, 2) := by decide +kernel
theorem dX6_digest_9 : decode cX6_digest 9 = .ok (.if_icmp .ge 22, 3) := by decide +kernel
theorem dX6_digest_12 : decode cX6_digest 12 = .ok (.ldc2_w 236, 3) := by decide +kernel
theorem dX6_digest_15 : decode cX6_digest 15 = .ok (.lload_n 1, 1) := by decide +kernel
theorem dX6_digest_16 : decode cX6_digest 16 = .ok (.lmul, 1) := by decide +kernel
theorem dX6_digest_17 : decode cX6_digest 17 = .ok (.aload_n 0, 1) := by decide +kernel
theorem dX6_digest_18 : decode cX6_digest 18 = .ok (.iload_n 3, 1) := by decide +kernel
theorem dX6_digest_19 : decode cX6_digest 19 = .ok (.invokevirtual 238, 3) := by decide +kernel
theorem dX6_digest_22 : decode cX6_digest 22 = .ok (.i2l, 1) := by decide +kernel
theorem dX6_digest_23 : decode cX6_digest 23 = .ok (.ladd, 1) := by decide +kernel
theorem dX6_digest_24 : decode cX6_digest 24 = .ok (.lstore_n 1, 1) := by decide +kernel
theorem dX6_digest_25 : decode cX6_digest 25 = .ok (.iinc 3 1, 3) := by decide +kernel
theorem dX6_digest_28 : decode cX6_digest 28 = .ok (.goto (-22), 3) := by decide +kernel
theorem dX6_digest_31 : decode cX6_digest 31 = .ok (.iconst 0, 1) := by decide +kernel
theorem dX6_digest_32 : decode cX6_digest 32 = .ok (.istore_n 3, 1) := by decide +kernel
theorem dX6_digest_33 : decode cX6_digest 33 = .ok (.iload_n 3, 1) := by decide +kernel
theorem dX6_digest_34 : decode cX6_digest 34 = .ok (.bipush 8, 2) := by decide +kernel
theorem dX6_digest_36 : decode cX6_digest 36 = .ok (.if_icmp .ge 133, 3) := by decide +kernel
theorem dX6_digest_39 : decode cX6_digest 39 = .ok (.aload_n 0, 1) := by decide +kernel
theorem dX6_digest_40 : decode cX6_digest 40 = .ok (.getfield 7, 3) := by decide +kernel
theorem dX6_digest_43 : decode cX6_digest 43 = .ok (.iload_n 3, 1) := by decide +kernel
theorem dX6_digest_44 : decode cX6_digest 44 = .ok (.baload, 1) := by decide +kernel
theorem dX6_digest_45 : decode cX6_digest 45 = .ok (.ifCond .eq 118, 3) := by decide +kernel
theorem dX6_digest_48 : decode cX6_digest 48 = .ok (.ldc2_w 236, 3) := by decide +kernel
theorem dX6_digest_51 : decode cX6_digest 51 = .ok (.lload_n 1, 1) := by decide +kernel
theorem dX6_digest_52 : decode cX6_digest 52 = .ok (.lmul, 1) := by decide +kernel
theorem dX6_digest_53 : decode cX6_digest 53 = .ok (.iload_n 3, 1) := by decide +kernel
theorem dX6_digest_54 : decode cX6_digest 54 = .ok (.i2l, 1) := by decide +kernel
theorem dX6_digest_55 : decode cX6_digest 55 = .ok (.ladd, 1) := by decide +kernel
theorem dX6_digest_56 : decode cX6_digest 56 = .ok (.lstore_n 1, 1) := by decide +kernel
theorem dX6_digest_57 : decode cX6_digest 57 = .ok (.iconst 0, 1) := by decide +kernel
theorem dX6_digest_58 : decode cX6_digest 58 = .ok (.istore 4, 2) := by decide +kernel
theorem dX6_digest_60 : decode cX6_digest 60 = .ok (.iload 4, 2) := by decide +kernel
theorem dX6_digest_62 : decode cX6_digest 62 = .ok (.bipush 6, 2) := by decide +kernel
theorem dX6_digest_64 : decode cX6_digest 64 = .ok (.if_icmp .ge 24, 3) := by decide +kernel
theorem dX6_digest_67 : decode cX6_digest 67 = .ok (.ldc2_w 236, 3) := by decide +kernel
theorem dX6_digest_70 : decode cX6_digest 70 = .ok (.lload_n 1, 1) := by decide +kernel
theorem dX6_digest_71 : decode cX6_digest 71 = .ok (.lmul, 1) := by decide +kernel
theorem dX6_digest_72 : decode cX6_digest 72 = .ok (.aload_n 0, 1) := by decide +kernel
theorem dX6_digest_73 : decode cX6_digest 73 = .ok (.iload_n 3, 1) := by decide +kernel
theorem dX6_digest_74 : decode cX6_digest 74 = .ok (.iload 4, 2) := by decide +kernel
theorem dX6_digest_76 : decode cX6_digest 76 = .ok (.invokevirtual 241, 3) := by decide +kernel
theorem dX6_digest_79 : decode cX6_digest 79 = .ok (.i2l, 1) := by decide +kernel
theorem dX6_digest_80 : decode cX6_digest 80 = .ok (.ladd, 1) := by decide +kernel
theorem dX6_digest_81 : decode cX6_digest 81 = .ok (.lstore_n 1, 1) := by decide +kernel
theorem dX6_digest_82 : decode cX6_digest 82 = .ok (.iinc 4 1, 3) := by decide +kernel
theorem dX6_digest_85 : decode cX6_digest 85 = .ok (.goto (-25), 3) := by decide +kernel
theorem dX6_digest_88 : decode cX6_digest 88 = .ok (.iconst 0, 1) := by decide +kernel
theorem dX6_digest_89 : decode cX6_digest 89 = .ok (.istore 4, 2) := by decide +kernel
theorem dX6_digest_91 : decode cX6_digest 91 = .ok (.iload 4, 2) := by decide +kernel
theorem dX6_digest_93 : decode cX6_digest 93 = .ok (.aload_n 0, 1) := by decide +kernel
theorem dX6_digest_94 : decode cX6_digest 94 = .ok (.getfield 17, 3) := by decide +kernel
theorem dX6_digest_97 : decode cX6_digest 97 = .ok (.iload_n 3, 1) := by decide +kernel
theorem dX6_digest_98 : decode cX6_digest 98 = .ok (.iaload, 1) := by decide +kernel
theorem dX6_digest_99 : decode cX6_digest 99 = .ok (.if_icmp .ge 64, 3) := by decide +kernel
theorem dX6_digest_102 : decode cX6_digest 102 = .ok (.ldc2_w 236, 3) := by decide +kernel
theorem dX6_digest_105 : decode cX6_digest 105 = .ok (.lload_n 1, 1) := by decide +kernel
theorem dX6_digest_106 : decode cX6_digest 106 = .ok (.lmul, 1) := by decide +kernel
theorem dX6_digest_107 : decode cX6_digest 107 = .ok (.aload_n 0, 1) := by decide +kernel
theorem dX6_digest_108 : decode cX6_digest 108 = .ok (.getfield 20, 3) := by decide +kernel
theorem dX6_digest_111 : decode cX6_digest 111 = .ok (.bipush 64, 2) := by decide +kernel
theorem dX6_digest_113 : decode cX6_digest 113 = .ok (.iload_n 3, 1) := by decide +kernel
theorem dX6_digest_114 : decode cX6_digest 114 = .ok (.imul, 1) := by decide +kernel
theorem dX6_digest_115 : decode cX6_digest 115 = .ok (.iload 4, 2) := by decide +kernel
theorem dX6_digest_117 : decode cX6_digest 117 = .ok (.iadd, 1) := by decide +kernel
theorem dX6_digest_118 : decode cX6_digest 118 = .ok (.iaload, 1) := by decide +kernel
theorem dX6_digest_119 : decode cX6_digest 119 = .ok (.i2l, 1) := by decide +kernel
theorem dX6_digest_120 : decode cX6_digest 120 = .ok (.ladd, 1) := by decide +kernel
theorem dX6_digest_121 : decode cX6_digest 121 = .ok (.lstore_n 1, 1) := by decide +kernel
theorem dX6_digest_122 : decode cX6_digest 122 = .ok (.aload_n 0, 1) := by decide +kernel
theorem dX6_digest_123 : decode cX6_digest 123 = .ok (.getfield 20, 3) := by decide +kernel
theorem dX6_digest_126 : decode cX6_digest 126 = .ok (.bipush 64, 2) := by decide +kernel
theorem dX6_digest_128 : decode cX6_digest 128 = .ok (.iload_n 3, 1) := by decide +kernel
theorem dX6_digest_129 : decode cX6_digest 129 = .ok (.imul, 1) := by decide +kernel
theorem dX6_digest_130 : decode cX6_digest 130 = .ok (.iload 4, 2) := by decide +kernel
theorem dX6_digest_132 : decode cX6_digest 132 = .ok (.iadd, 1) := by decide +kernel
theorem dX6_digest_133 : decode cX6_digest 133 = .ok (.iaload, 1) := by decide +kernel
theorem dX6_digest_134 : decode cX6_digest 134 = .ok (.ifCond .le 23, 3) := by decide +kernel
theorem dX6_digest_137 : decode cX6_digest 137 = .ok (.ldc2_w 236, 3) := by decide +kernel
theorem dX6_digest_140 : decode cX6_digest 140 = .ok (.lload_n 1, 1) := by decide +kernel
theorem dX6_digest_141 : decode cX6_digest 141 = .ok (.lmul, 1) := by decide +kernel
theorem dX6_digest_142 : decode cX6_digest 142 = .ok (.aload_n 0, 1) := by decide +kernel
theorem dX6_digest_143 : decode cX6_digest 143 = .ok (.getfield 23, 3) := by decide +kernel
theorem dX6_digest_146 : decode cX6_digest 146 = .ok (.bipush 64, 2) := by decide +kernel
theorem dX6_digest_148 : decode cX6_digest 148 = .ok (.iload_n 3, 1) := by decide +kernel
theorem dX6_digest_149 : decode cX6_digest 149 = .ok (.imul, 1) := by decide +kernel
theorem dX6_digest_150 : decode cX6_digest 150 = .ok (.iload 4, 2) := by decide +kernel
theorem dX6_digest_152 : decode cX6_digest 152 = .ok (.iadd, 1) := by decide +kernel
theorem dX6_digest_153 : decode cX6_digest 153 = .ok (.iaload, 1) := by decide +kernel
theorem dX6_digest_154 : decode cX6_digest 154 = .ok (.i2l, 1) := by decide +kernel
theorem dX6_digest_155 : decode cX6_digest 155 = .ok (.ladd, 1) := by decide +kernel
theorem dX6_digest_156 : decode cX6_digest 156 = .ok (.lstore_n 1, 1) := by decide +kernel
theorem dX6_digest_157 : decode cX6_digest 157 = .ok (.iinc 4 1, 3) := by decide +kernel
theorem dX6_digest_160 : decode cX6_digest 160 = .ok (.goto (-69), 3) := by decide +kernel
theorem dX6_digest_163 : decode cX6_digest 163 = .ok (.iinc 3 1, 3) := by decide +kernel
theorem dX6_digest_166 : decode cX6_digest 166 = .ok (.goto (-133), 3) := by decide +kernel
theorem dX6_digest_169 : decode cX6_digest 169 = .ok (.iconst 0, 1) := by decide +kernel
theorem dX6_digest_170 : decode cX6_digest 170 = .ok (.istore_n 3, 1) := by decide +kernel
theorem dX6_digest_171 : decode cX6_digest 171 = .ok (.iload_n 3, 1) := by decide +kernel
theorem dX6_digest_172 : decode cX6_digest 172 = .ok (.bipush 6, 2) := by decide +kernel
theorem dX6_digest_174 : decode cX6_digest 174 = .ok (.if_icmp .ge 62, 3) := by decide +kernel
theorem dX6_digest_177 : decode cX6_digest 177 = .ok (.ldc2_w 236, 3) := by decide +kernel
theorem dX6_digest_180 : decode cX6_digest 180 = .ok (.lload_n 1, 1) := by decide +kernel
theorem dX6_digest_181 : decode cX6_digest 181 = .ok (.lmul, 1) := by decide +kernel
theorem dX6_digest_182 : decode cX6_digest 182 = .ok (.aload_n 0, 1) := by decide +kernel
theorem dX6_digest_183 : decode cX6_digest 183 = .ok (.getfield 26, 3) := by decide +kernel
theorem dX6_digest_186 : decode cX6_digest 186 = .ok (.iload_n 3, 1) := by decide +kernel
theorem dX6_digest_187 : decode cX6_digest 187 = .ok (.iaload, 1) := by decide +kernel
theorem dX6_digest_188 : decode cX6_digest 188 = .ok (.i2l, 1) := by decide +kernel
end
section
theorem dX6_digest_189 : decode cX6_digest 189 = .ok (.ladd, 1) := by decide +kernel
theorem dX6_digest_190 : decode cX6_digest 190 = .ok (.lstore_n 1, 1) := by decide +kernel
theorem dX6_digest_191 : decode cX6_digest 191 = .ok (.iconst 0, 1) := by decide +kernel
theorem dX6_digest_192 : decode cX6_digest 192 = .ok (.istore 4, 2) := by decide +kernel
theorem dX6_digest_194 : decode cX6_digest 194 = .ok (.iload 4, 2) := by decide +kernel
theorem dX6_digest_196 : decode cX6_digest 196 = .ok (.aload_n 0, 1) := by decide +kernel
theorem dX6_digest_197 : decode cX6_digest 197 = .ok (.getfield 26, 3) := by decide +kernel
theorem dX6_digest_200 : decode cX6_digest 200 = .ok (.iload_n 3, 1) := by decide +kernel
theorem dX6_digest_201 : decode cX6_digest 201 = .ok (.iaload, 1) := by decide +kernel
theorem dX6_digest_202 : decode cX6_digest 202 = .ok (.if_icmp .ge 28, 3) := by decide +kernel
theorem dX6_digest_205 : decode cX6_digest 205 = .ok (.ldc2_w 236, 3) := by decide +kernel
theorem dX6_digest_208 : decode cX6_digest 208 = .ok (.lload_n 1, 1) := by decide +kernel
theorem dX6_digest_209 : decode cX6_digest 209 = .ok (.lmul, 1) := by decide +kernel
theorem dX6_digest_210 : decode cX6_digest 210 = .ok (.aload_n 0, 1) := by decide +kernel
theorem dX6_digest_211 : decode cX6_digest 211 = .ok (.getfield 29, 3) := by decide +kernel
theorem dX6_digest_214 : decode cX6_digest 214 = .ok (.bipush 64, 2) := by decide +kernel
theorem dX6_digest_216 : decode cX6_digest 216 = .ok (.iload_n 3, 1) := by decide +kernel
theorem dX6_digest_217 : decode cX6_digest 217 = .ok (.imul, 1) := by decide +kernel
theorem dX6_digest_218 : decode cX6_digest 218 = .ok (.iload 4, 2) := by decide +kernel
theorem dX6_digest_220 : decode cX6_digest 220 = .ok (.iadd, 1) := by decide +kernel
theorem dX6_digest_221 : decode cX6_digest 221 = .ok (.laload, 1) := by decide +kernel
theorem dX6_digest_222 : decode cX6_digest 222 = .ok (.ladd, 1) := by decide +kernel
theorem dX6_digest_223 : decode cX6_digest 223 = .ok (.lstore_n 1, 1) := by decide +kernel
theorem dX6_digest_224 : decode cX6_digest 224 = .ok (.iinc 4 1, 3) := by decide +kernel
theorem dX6_digest_227 : decode cX6_digest 227 = .ok (.goto (-33), 3) := by decide +kernel
theorem dX6_digest_230 : decode cX6_digest 230 = .ok (.iinc 3 1, 3) := by decide +kernel
theorem dX6_digest_233 : decode cX6_digest 233 = .ok (.goto (-62), 3) := by decide +kernel
theorem dX6_digest_236 : decode cX6_digest 236 = .ok (.lload_n 1, 1) := by decide +kernel
theorem dX6_digest_237 : decode cX6_digest 237 = .ok (.lreturn, 1) := by decide +kernel
theorem dJ6_bitCount_0f7a4_0 : decode cJ6_bitCount_0f7a4 0 = .ok (.iload_n 0, 1) := by decide +kernel
theorem dJ6_bitCount_0f7a4_1 : decode cJ6_bitCount_0f7a4 1 = .ok (.iload_n 0, 1) := by decide +kernel
theorem dJ6_bitCount_0f7a4_2 : decode cJ6_bitCount_0f7a4 2 = .ok (.iconst 1, 1) := by decide +kernel
theorem dJ6_bitCount_0f7a4_3 : decode cJ6_bitCount_0f7a4 3 = .ok (.iushr, 1) := by decide +kernel
theorem dJ6_bitCount_0f7a4_4 : decode cJ6_bitCount_0f7a4 4 = .ok (.ldc_w 265, 3) := by decide +kernel
theorem dJ6_bitCount_0f7a4_7 : decode cJ6_bitCount_0f7a4 7 = .ok (.iand, 1) := by decide +kernel
theorem dJ6_bitCount_0f7a4_8 : decode cJ6_bitCount_0f7a4 8 = .ok (.isub, 1) := by decide +kernel
theorem dJ6_bitCount_0f7a4_9 : decode cJ6_bitCount_0f7a4 9 = .ok (.istore_n 0, 1) := by decide +kernel
theorem dJ6_bitCount_0f7a4_10 : decode cJ6_bitCount_0f7a4 10 = .ok (.iload_n 0, 1) := by decide +kernel
theorem dJ6_bitCount_0f7a4_11 : decode cJ6_bitCount_0f7a4 11 = .ok (.ldc_w 266, 3) := by decide +kernel
theorem dJ6_bitCount_0f7a4_14 : decode cJ6_bitCount_0f7a4 14 = .ok (.iand, 1) := by decide +kernel
theorem dJ6_bitCount_0f7a4_15 : decode cJ6_bitCount_0f7a4 15 = .ok (.iload_n 0, 1) := by decide +kernel
theorem dJ6_bitCount_0f7a4_16 : decode cJ6_bitCount_0f7a4 16 = .ok (.iconst 2, 1) := by decide +kernel
theorem dJ6_bitCount_0f7a4_17 : decode cJ6_bitCount_0f7a4 17 = .ok (.iushr, 1) := by decide +kernel
theorem dJ6_bitCount_0f7a4_18 : decode cJ6_bitCount_0f7a4 18 = .ok (.ldc_w 266, 3) := by decide +kernel
theorem dJ6_bitCount_0f7a4_21 : decode cJ6_bitCount_0f7a4 21 = .ok (.iand, 1) := by decide +kernel
theorem dJ6_bitCount_0f7a4_22 : decode cJ6_bitCount_0f7a4 22 = .ok (.iadd, 1) := by decide +kernel
theorem dJ6_bitCount_0f7a4_23 : decode cJ6_bitCount_0f7a4 23 = .ok (.istore_n 0, 1) := by decide +kernel
theorem dJ6_bitCount_0f7a4_24 : decode cJ6_bitCount_0f7a4 24 = .ok (.iload_n 0, 1) := by decide +kernel
theorem dJ6_bitCount_0f7a4_25 : decode cJ6_bitCount_0f7a4 25 = .ok (.iload_n 0, 1) := by decide +kernel
theorem dJ6_bitCount_0f7a4_26 : decode cJ6_bitCount_0f7a4 26 = .ok (.iconst 4, 1) := by decide +kernel
theorem dJ6_bitCount_0f7a4_27 : decode cJ6_bitCount_0f7a4 27 = .ok (.iushr, 1) := by decide +kernel
theorem dJ6_bitCount_0f7a4_28 : decode cJ6_bitCount_0f7a4 28 = .ok (.iadd, 1) := by decide +kernel
theorem dJ6_bitCount_0f7a4_29 : decode cJ6_bitCount_0f7a4 29 = .ok (.ldc_w 267, 3) := by decide +kernel
theorem dJ6_bitCount_0f7a4_32 : decode cJ6_bitCount_0f7a4 32 = .ok (.iand, 1) := by decide +kernel
theorem dJ6_bitCount_0f7a4_33 : decode cJ6_bitCount_0f7a4 33 = .ok (.istore_n 0, 1) := by decide +kernel
theorem dJ6_bitCount_0f7a4_34 : decode cJ6_bitCount_0f7a4 34 = .ok (.iload_n 0, 1) := by decide +kernel
theorem dJ6_bitCount_0f7a4_35 : decode cJ6_bitCount_0f7a4 35 = .ok (.iload_n 0, 1) := by decide +kernel
theorem dJ6_bitCount_0f7a4_36 : decode cJ6_bitCount_0f7a4 36 = .ok (.bipush 8, 2) := by decide +kernel
theorem dJ6_bitCount_0f7a4_38 : decode cJ6_bitCount_0f7a4 38 = .ok (.iushr, 1) := by decide +kernel
theorem dJ6_bitCount_0f7a4_39 : decode cJ6_bitCount_0f7a4 39 = .ok (.iadd, 1) := by decide +kernel
theorem dJ6_bitCount_0f7a4_40 : decode cJ6_bitCount_0f7a4 40 = .ok (.istore_n 0, 1) := by decide +kernel
theorem dJ6_bitCount_0f7a4_41 : decode cJ6_bitCount_0f7a4 41 = .ok (.iload_n 0, 1) := by decide +kernel
theorem dJ6_bitCount_0f7a4_42 : decode cJ6_bitCount_0f7a4 42 = .ok (.iload_n 0, 1) := by decide +kernel
theorem dJ6_bitCount_0f7a4_43 : decode cJ6_bitCount_0f7a4 43 = .ok (.bipush 16, 2) := by decide +kernel
theorem dJ6_bitCount_0f7a4_45 : decode cJ6_bitCount_0f7a4 45 = .ok (.iushr, 1) := by decide +kernel
theorem dJ6_bitCount_0f7a4_46 : decode cJ6_bitCount_0f7a4 46 = .ok (.iadd, 1) := by decide +kernel
theorem dJ6_bitCount_0f7a4_47 : decode cJ6_bitCount_0f7a4 47 = .ok (.istore_n 0, 1) := by decide +kernel
theorem dJ6_bitCount_0f7a4_48 : decode cJ6_bitCount_0f7a4 48 = .ok (.iload_n 0, 1) := by decide +kernel
theorem dJ6_bitCount_0f7a4_49 : decode cJ6_bitCount_0f7a4 49 = .ok (.bipush 63, 2) := by decide +kernel
theorem dJ6_bitCount_0f7a4_51 : decode cJ6_bitCount_0f7a4 51 = .ok (.iand, 1) := by decide +kernel
theorem dJ6_bitCount_0f7a4_52 : decode cJ6_bitCount_0f7a4 52 = .ok (.ireturn, 1) := by decide +kernel
theorem dJ9_abs_067f4_0 : decode cJ9_abs_067f4 0 = .ok (.lload_n 0, 1) := by decide +kernel
theorem dJ9_abs_067f4_1 : decode cJ9_abs_067f4 1 = .ok (.lconst 0, 1) := by decide +kernel
theorem dJ9_abs_067f4_2 : decode cJ9_abs_067f4 2 = .ok (.lcmp, 1) := by decide +kernel
theorem dJ9_abs_067f4_3 : decode cJ9_abs_067f4 3 = .ok (.ifCond .ge 8, 3) := by decide +kernel
theorem dJ9_abs_067f4_6 : decode cJ9_abs_067f4 6 = .ok (.lload_n 0, 1) := by decide +kernel
theorem dJ9_abs_067f4_7 : decode cJ9_abs_067f4 7 = .ok (.lneg, 1) := by decide +kernel
theorem dJ9_abs_067f4_8 : decode cJ9_abs_067f4 8 = .ok (.goto 4, 3) := by decide +kernel
theorem dJ9_abs_067f4_11 : decode cJ9_abs_067f4 11 = .ok (.lload_n 0, 1) := by decide +kernel
theorem dJ9_abs_067f4_12 : decode cJ9_abs_067f4 12 = .ok (.lreturn, 1) := by decide +kernel
theorem dJ9_max_7cf53_0 : decode cJ9_max_7cf53 0 = .ok (.iload_n 0, 1) := by decide +kernel
theorem dJ9_max_7cf53_1 : decode cJ9_max_7cf53 1 = .ok (.iload_n 1, 1) := by decide +kernel
theorem dJ9_max_7cf53_2 : decode cJ9_max_7cf53 2 = .ok (.if_icmp .lt 7, 3) := by decide +kernel
theorem dJ9_max_7cf53_5 : decode cJ9_max_7cf53 5 = .ok (.iload_n 0, 1) := by decide +kernel
theorem dJ9_max_7cf53_6 : decode cJ9_max_7cf53 6 = .ok (.goto 4, 3) := by decide +kernel
theorem dJ9_max_7cf53_9 : decode cJ9_max_7cf53 9 = .ok (.iload_n 1, 1) := by decide +kernel
theorem dJ9_max_7cf53_10 : decode cJ9_max_7cf53 10 = .ok (.ireturn, 1) := by decide +kernel
theorem dJ9_max_f86c9_0 : decode cJ9_max_f86c9 0 = .ok (.lload_n 0, 1) := by decide +kernel
theorem dJ9_max_f86c9_1 : decode cJ9_max_f86c9 1 = .ok (.lload_n 2, 1) := by decide +kernel
theorem dJ9_max_f86c9_2 : decode cJ9_max_f86c9 2 = .ok (.lcmp, 1) := by decide +kernel
theorem dJ9_max_f86c9_3 : decode cJ9_max_f86c9 3 = .ok (.ifCond .lt 7, 3) := by decide +kernel
theorem dJ9_max_f86c9_6 : decode cJ9_max_f86c9 6 = .ok (.lload_n 0, 1) := by decide +kernel
theorem dJ9_max_f86c9_7 : decode cJ9_max_f86c9 7 = .ok (.goto 4, 3) := by decide +kernel
theorem dJ9_max_f86c9_10 : decode cJ9_max_f86c9 10 = .ok (.lload_n 2, 1) := by decide +kernel
theorem dJ9_max_f86c9_11 : decode cJ9_max_f86c9 11 = .ok (.lreturn, 1) := by decide +kernel
theorem dJ9_min_7cf53_0 : decode cJ9_min_7cf53 0 = .ok (.iload_n 0, 1) := by decide +kernel
theorem dJ9_min_7cf53_1 : decode cJ9_min_7cf53 1 = .ok (.iload_n 1, 1) := by decide +kernel
theorem dJ9_min_7cf53_2 : decode cJ9_min_7cf53 2 = .ok (.if_icmp .gt 7, 3) := by decide +kernel
theorem dJ9_min_7cf53_5 : decode cJ9_min_7cf53 5 = .ok (.iload_n 0, 1) := by decide +kernel
theorem dJ9_min_7cf53_6 : decode cJ9_min_7cf53 6 = .ok (.goto 4, 3) := by decide +kernel
theorem dJ9_min_7cf53_9 : decode cJ9_min_7cf53 9 = .ok (.iload_n 1, 1) := by decide +kernel
theorem dJ9_min_7cf53_10 : decode cJ9_min_7cf53 10 = .ok (.ireturn, 1) := by decide +kernel
theorem dJ9_min_f86c9_0 : decode cJ9_min_f86c9 0 = .ok (.lload_n 0, 1) := by decide +kernel
theorem dJ9_min_f86c9_1 : decode cJ9_min_f86c9 1 = .ok (.lload_n 2, 1) := by decide +kernel
theorem dJ9_min_f86c9_2 : decode cJ9_min_f86c9 2 = .ok (.lcmp, 1) := by decide +kernel
theorem dJ9_min_f86c9_3 : decode cJ9_min_f86c9 3 = .ok (.ifCond .gt 7, 3) := by decide +kernel
theorem dJ9_min_f86c9_6 : decode cJ9_min_f86c9 6 = .ok (.lload_n 0, 1) := by decide +kernel
theorem dJ9_min_f86c9_7 : decode cJ9_min_f86c9 7 = .ok (.goto 4, 3) := by decide +kernel
theorem dJ9_min_f86c9_10 : decode cJ9_min_f86c9 10 = .ok (.lload_n 2, 1) := by decide +kernel
theorem dJ9_min_f86c9_11 : decode cJ9_min_f86c9 11 = .ok (.lreturn, 1) := by decide +kernel
theorem dJ7_fill_53178_0 : decode cJ7_fill_53178 0 = .ok (.iconst 0, 1) := by decide +kernel
theorem dJ7_fill_53178_1 : decode cJ7_fill_53178 1 = .ok (.istore_n 2, 1) := by decide +kernel
theorem dJ7_fill_53178_2 : decode cJ7_fill_53178 2 = .ok (.aload_n 0, 1) := by decide +kernel
theorem dJ7_fill_53178_3 : decode cJ7_fill_53178 3 = .ok (.arraylength, 1) := by decide +kernel
theorem dJ7_fill_53178_4 : decode cJ7_fill_53178 4 = .ok (.istore_n 3, 1) := by decide +kernel
theorem dJ7_fill_53178_5 : decode cJ7_fill_53178 5 = .ok (.iload_n 2, 1) := by decide +kernel
theorem dJ7_fill_53178_6 : decode cJ7_fill_53178 6 = .ok (.iload_n 3, 1) := by decide +kernel
theorem dJ7_fill_53178_7 : decode cJ7_fill_53178 7 = .ok (.if_icmp .ge 13, 3) := by decide +kernel
theorem dJ7_fill_53178_10 : decode cJ7_fill_53178 10 = .ok (.aload_n 0, 1) := by decide +kernel
theorem dJ7_fill_53178_11 : decode cJ7_fill_53178 11 = .ok (.iload_n 2, 1) := by decide +kernel
theorem dJ7_fill_53178_12 : decode cJ7_fill_53178 12 = .ok (.iload_n 1, 1) := by decide +kernel
theorem dJ7_fill_53178_13 : decode cJ7_fill_53178 13 = .ok (.iastore, 1) := by decide +kernel
theorem dJ7_fill_53178_14 : decode cJ7_fill_53178 14 = .ok (.iinc 2 1, 3) := by decide +kernel
theorem dJ7_fill_53178_17 : decode cJ7_fill_53178 17 = .ok (.goto (-12), 3) := by decide +kernel
theorem dJ7_fill_53178_20 : decode cJ7_fill_53178 20 = .ok (.return_, 1) := by decide +kernel
theorem dL_law_0 : decode cL_law 0 = .ok (.new 7, 3) := by decide +kernel
theorem dL_law_3 : decode cL_law 3 = .ok (.dup, 1) := by decide +kernel
theorem dL_law_4 : decode cL_law 4 = .ok (.invokespecial 9, 3) := by decide +kernel
theorem dL_law_7 : decode cL_law 7 = .ok (.astore_n 1, 1) := by decide +kernel
theorem dL_law_8 : decode cL_law 8 = .ok (.new 10, 3) := by decide +kernel
theorem dL_law_11 : decode cL_law 11 = .ok (.dup, 1) := by decide +kernel
theorem dL_law_12 : decode cL_law 12 = .ok (.invokespecial 12, 3) := by decide +kernel
theorem dL_law_15 : decode cL_law 15 = .ok (.astore_n 2, 1) := by decide +kernel
theorem dL_law_16 : decode cL_law 16 = .ok (.iconst 0, 1) := by decide +kernel
theorem dL_law_17 : decode cL_law 17 = .ok (.istore_n 3, 1) := by decide +kernel
theorem dL_law_18 : decode cL_law 18 = .ok (.iload_n 3, 1) := by decide +kernel
theorem dL_law_19 : decode cL_law 19 = .ok (.aload_n 0, 1) := by decide +kernel
theorem dL_law_20 : decode cL_law 20 = .ok (.arraylength, 1) := by decide +kernel
theorem dL_law_21 : decode cL_law 21 = .ok (.bipush 6, 2) := by decide +kernel
theorem dL_law_23 : decode cL_law 23 = .ok (.isub, 1) := by decide +kernel
theorem dL_law_24 : decode cL_law 24 = .ok (.if_icmp .gt 1284, 3) := by decide +kernel
theorem dL_law_27 : decode cL_law 27 = .ok (.aload_n 0, 1) := by decide +kernel
theorem dL_law_28 : decode cL_law 28 = .ok (.iload_n 3, 1) := by decide +kernel
theorem dL_law_29 : decode cL_law 29 = .ok (.iaload, 1) := by decide +kernel
theorem dL_law_30 : decode cL_law 30 = .ok (.bipush 31, 2) := by decide +kernel
theorem dL_law_32 : decode cL_law 32 = .ok (.iand, 1) := by decide +kernel
theorem dL_law_33 : decode cL_law 33 = .ok (.tableswitch 1269 0 30 #[139, 182, 205, 248, 282, 315, 348, 411, 444, 477, 510, 543, 577, 610, 653, 706, 750, 784, 807, 851, 885, 958, 1011, 1034, 1057, 1080, 1123, 1146, 1199, 1232, 1255], 139) := by decide +kernel
theorem dL_law_172 : decode cL_law 172 = .ok (.aload_n 1, 1) := by decide +kernel
theorem dL_law_173 : decode cL_law 173 = .ok (.aload_n 0, 1) := by decide +kernel
theorem dL_law_174 : decode cL_law 174 = .ok (.iload_n 3, 1) := by decide +kernel
theorem dL_law_175 : decode cL_law 175 = .ok (.iconst 1, 1) := by decide +kernel
theorem dL_law_176 : decode cL_law 176 = .ok (.iadd, 1) := by decide +kernel
theorem dL_law_177 : decode cL_law 177 = .ok (.iaload, 1) := by decide +kernel
theorem dL_law_178 : decode cL_law 178 = .ok (.aload_n 0, 1) := by decide +kernel
theorem dL_law_179 : decode cL_law 179 = .ok (.iload_n 3, 1) := by decide +kernel
theorem dL_law_180 : decode cL_law 180 = .ok (.iconst 2, 1) := by decide +kernel
theorem dL_law_181 : decode cL_law 181 = .ok (.iadd, 1) := by decide +kernel
theorem dL_law_182 : decode cL_law 182 = .ok (.iaload, 1) := by decide +kernel
theorem dL_law_183 : decode cL_law 183 = .ok (.aload_n 0, 1) := by decide +kernel
theorem dL_law_184 : decode cL_law 184 = .ok (.iload_n 3, 1) := by decide +kernel
theorem dL_law_185 : decode cL_law 185 = .ok (.iconst 3, 1) := by decide +kernel
theorem dL_law_186 : decode cL_law 186 = .ok (.iadd, 1) := by decide +kernel
theorem dL_law_187 : decode cL_law 187 = .ok (.iaload, 1) := by decide +kernel
theorem dL_law_188 : decode cL_law 188 = .ok (.invokevirtual 13, 3) := by decide +kernel
theorem dL_law_191 : decode cL_law 191 = .ok (.aload_n 2, 1) := by decide +kernel
theorem dL_law_192 : decode cL_law 192 = .ok (.aload_n 0, 1) := by decide +kernel
theorem dL_law_193 : decode cL_law 193 = .ok (.iload_n 3, 1) := by decide +kernel
theorem dL_law_194 : decode cL_law 194 = .ok (.iconst 1, 1) := by decide +kernel
theorem dL_law_195 : decode cL_law 195 = .ok (.iadd, 1) := by decide +kernel
theorem dL_law_196 : decode cL_law 196 = .ok (.iaload, 1) := by decide +kernel
theorem dL_law_197 : decode cL_law 197 = .ok (.aload_n 0, 1) := by decide +kernel
theorem dL_law_198 : decode cL_law 198 = .ok (.iload_n 3, 1) := by decide +kernel
theorem dL_law_199 : decode cL_law 199 = .ok (.iconst 2, 1) := by decide +kernel
theorem dL_law_200 : decode cL_law 200 = .ok (.iadd, 1) := by decide +kernel
theorem dL_law_201 : decode cL_law 201 = .ok (.iaload, 1) := by decide +kernel
theorem dL_law_202 : decode cL_law 202 = .ok (.aload_n 0, 1) := by decide +kernel
theorem dL_law_203 : decode cL_law 203 = .ok (.iload_n 3, 1) := by decide +kernel
theorem dL_law_204 : decode cL_law 204 = .ok (.iconst 3, 1) := by decide +kernel
theorem dL_law_205 : decode cL_law 205 = .ok (.iadd, 1) := by decide +kernel
theorem dL_law_206 : decode cL_law 206 = .ok (.iaload, 1) := by decide +kernel
theorem dL_law_207 : decode cL_law 207 = .ok (.invokevirtual 17, 3) := by decide +kernel
theorem dL_law_210 : decode cL_law 210 = .ok (.if_icmp .eq 1092, 3) := by decide +kernel
theorem dL_law_213 : decode cL_law 213 = .ok (.iconst 0, 1) := by decide +kernel
theorem dL_law_214 : decode cL_law 214 = .ok (.ireturn, 1) := by decide +kernel
theorem dL_law_215 : decode cL_law 215 = .ok (.aload_n 1, 1) := by decide +kernel
theorem dL_law_216 : decode cL_law 216 = .ok (.aload_n 0, 1) := by decide +kernel
theorem dL_law_217 : decode cL_law 217 = .ok (.iload_n 3, 1) := by decide +kernel
theorem dL_law_218 : decode cL_law 218 = .ok (.iconst 1, 1) := by decide +kernel
theorem dL_law_219 : decode cL_law 219 = .ok (.iadd, 1) := by decide +kernel
theorem dL_law_220 : decode cL_law 220 = .ok (.iaload, 1) := by decide +kernel
theorem dL_law_221 : decode cL_law 221 = .ok (.invokevirtual 18, 3) := by decide +kernel
theorem dL_law_224 : decode cL_law 224 = .ok (.aload_n 2, 1) := by decide +kernel
theorem dL_law_225 : decode cL_law 225 = .ok (.aload_n 0, 1) := by decide +kernel
theorem dL_law_226 : decode cL_law 226 = .ok (.iload_n 3, 1) := by decide +kernel
theorem dL_law_227 : decode cL_law 227 = .ok (.iconst 1, 1) := by decide +kernel
theorem dL_law_228 : decode cL_law 228 = .ok (.iadd, 1) := by decide +kernel
theorem dL_law_229 : decode cL_law 229 = .ok (.iaload, 1) := by decide +kernel
theorem dL_law_230 : decode cL_law 230 = .ok (.invokevirtual 22, 3) := by decide +kernel
theorem dL_law_233 : decode cL_law 233 = .ok (.if_icmp .eq 1069, 3) := by decide +kernel
theorem dL_law_236 : decode cL_law 236 = .ok (.iconst 0, 1) := by decide +kernel
theorem dL_law_237 : decode cL_law 237 = .ok (.ireturn, 1) := by decide +kernel
theorem dL_law_238 : decode cL_law 238 = .ok (.aload_n 1, 1) := by decide +kernel
theorem dL_law_239 : decode cL_law 239 = .ok (.aload_n 0, 1) := by decide +kernel
theorem dL_law_240 : decode cL_law 240 = .ok (.iload_n 3, 1) := by decide +kernel
theorem dL_law_241 : decode cL_law 241 = .ok (.iconst 1, 1) := by decide +kernel
theorem dL_law_242 : decode cL_law 242 = .ok (.iadd, 1) := by decide +kernel
theorem dL_law_243 : decode cL_law 243 = .ok (.iaload, 1) := by decide +kernel
theorem dL_law_244 : decode cL_law 244 = .ok (.aload_n 0, 1) := by decide +kernel
theorem dL_law_245 : decode cL_law 245 = .ok (.iload_n 3, 1) := by decide +kernel
theorem dL_law_246 : decode cL_law 246 = .ok (.iconst 2, 1) := by decide +kernel
theorem dL_law_247 : decode cL_law 247 = .ok (.iadd, 1) := by decide +kernel
theorem dL_law_248 : decode cL_law 248 = .ok (.iaload, 1) := by decide +kernel
theorem dL_law_249 : decode cL_law 249 = .ok (.aload_n 0, 1) := by decide +kernel
theorem dL_law_250 : decode cL_law 250 = .ok (.iload_n 3, 1) := by decide +kernel
theorem dL_law_251 : decode cL_law 251 = .ok (.iconst 3, 1) := by decide +kernel
theorem dL_law_252 : decode cL_law 252 = .ok (.iadd, 1) := by decide +kernel
theorem dL_law_253 : decode cL_law 253 = .ok (.iaload, 1) := by decide +kernel
theorem dL_law_254 : decode cL_law 254 = .ok (.invokevirtual 23, 3) := by decide +kernel
theorem dL_law_257 : decode cL_law 257 = .ok (.aload_n 2, 1) := by decide +kernel
theorem dL_law_258 : decode cL_law 258 = .ok (.aload_n 0, 1) := by decide +kernel
theorem dL_law_259 : decode cL_law 259 = .ok (.iload_n 3, 1) := by decide +kernel
theorem dL_law_260 : decode cL_law 260 = .ok (.iconst 1, 1) := by decide +kernel
theorem dL_law_261 : decode cL_law 261 = .ok (.iadd, 1) := by decide +kernel
theorem dL_law_262 : decode cL_law 262 = .ok (.iaload, 1) := by decide +kernel
theorem dL_law_263 : decode cL_law 263 = .ok (.aload_n 0, 1) := by decide +kernel
theorem dL_law_264 : decode cL_law 264 = .ok (.iload_n 3, 1) := by decide +kernel
theorem dL_law_265 : decode cL_law 265 = .ok (.iconst 2, 1) := by decide +kernel
theorem dL_law_266 : decode cL_law 266 = .ok (.iadd, 1) := by decide +kernel
theorem dL_law_267 : decode cL_law 267 = .ok (.iaload, 1) := by decide +kernel
theorem dL_law_268 : decode cL_law 268 = .ok (.aload_n 0, 1) := by decide +kernel
theorem dL_law_269 : decode cL_law 269 = .ok (.iload_n 3, 1) := by decide +kernel
theorem dL_law_270 : decode cL_law 270 = .ok (.iconst 3, 1) := by decide +kernel
theorem dL_law_271 : decode cL_law 271 = .ok (.iadd, 1) := by decide +kernel
theorem dL_law_272 : decode cL_law 272 = .ok (.iaload, 1) := by decide +kernel
theorem dL_law_273 : decode cL_law 273 = .ok (.invokevirtual 26, 3) := by decide +kernel
theorem dL_law_276 : decode cL_law 276 = .ok (.if_icmp .eq 1026, 3) := by decide +kernel
theorem dL_law_279 : decode cL_law 279 = .ok (.iconst 0, 1) := by decide +kernel
theorem dL_law_280 : decode cL_law 280 = .ok (.ireturn, 1) := by decide +kernel
theorem dL_law_281 : decode cL_law 281 = .ok (.aload_n 1, 1) := by decide +kernel
theorem dL_law_282 : decode cL_law 282 = .ok (.aload_n 0, 1) := by decide +kernel
theorem dL_law_283 : decode cL_law 283 = .ok (.iload_n 3, 1) := by decide +kernel
theorem dL_law_284 : decode cL_law 284 = .ok (.iconst 1, 1) := by decide +kernel
theorem dL_law_285 : decode cL_law 285 = .ok (.iadd, 1) := by decide +kernel
theorem dL_law_286 : decode cL_law 286 = .ok (.iaload, 1) := by decide +kernel
theorem dL_law_287 : decode cL_law 287 = .ok (.aload_n 0, 1) := by decide +kernel
theorem dL_law_288 : decode cL_law 288 = .ok (.iload_n 3, 1) := by decide +kernel
theorem dL_law_289 : decode cL_law 289 = .ok (.iconst 2, 1) := by decide +kernel
theorem dL_law_290 : decode cL_law 290 = .ok (.iadd, 1) := by decide +kernel
theorem dL_law_291 : decode cL_law 291 = .ok (.iaload, 1) := by decide +kernel
theorem dL_law_292 : decode cL_law 292 = .ok (.invokevirtual 27, 3) := by decide +kernel
theorem dL_law_295 : decode cL_law 295 = .ok (.aload_n 2, 1) := by decide +kernel
theorem dL_law_296 : decode cL_law 296 = .ok (.aload_n 0, 1) := by decide +kernel
theorem dL_law_297 : decode cL_law 297 = .ok (.iload_n 3, 1) := by decide +kernel
theorem dL_law_298 : decode cL_law 298 = .ok (.iconst 1, 1) := by decide +kernel
theorem dL_law_299 : decode cL_law 299 = .ok (.iadd, 1) := by decide +kernel
theorem dL_law_300 : decode cL_law 300 = .ok (.iaload, 1) := by decide +kernel
theorem dL_law_301 : decode cL_law 301 = .ok (.aload_n 0, 1) := by decide +kernel
theorem dL_law_302 : decode cL_law 302 = .ok (.iload_n 3, 1) := by decide +kernel
theorem dL_law_303 : decode cL_law 303 = .ok (.iconst 2, 1) := by decide +kernel
theorem dL_law_304 : decode cL_law 304 = .ok (.iadd, 1) := by decide +kernel
theorem dL_law_305 : decode cL_law 305 = .ok (.iaload, 1) := by decide +kernel
theorem dL_law_306 : decode cL_law 306 = .ok (.invokevirtual 31, 3) := by decide +kernel
theorem dL_law_309 : decode cL_law 309 = .ok (.lcmp, 1) := by decide +kernel
theorem dL_law_310 : decode cL_law 310 = .ok (.ifCond .eq 992, 3) := by decide +kernel
theorem dL_law_313 : decode cL_law 313 = .ok (.iconst 0, 1) := by decide +kernel
theorem dL_law_314 : decode cL_law 314 = .ok (.ireturn, 1) := by decide +kernel
theorem dL_law_315 : decode cL_law 315 = .ok (.aload_n 1, 1) := by decide +kernel
theorem dL_law_316 : decode cL_law 316 = .ok (.aload_n 0, 1) := by decide +kernel
theorem dL_law_317 : decode cL_law 317 = .ok (.iload_n 3, 1) := by decide +kernel
theorem dL_law_318 : decode cL_law 318 = .ok (.iconst 1, 1) := by decide +kernel
theorem dL_law_319 : decode cL_law 319 = .ok (.iadd, 1) := by decide +kernel
theorem dL_law_320 : decode cL_law 320 = .ok (.iaload, 1) := by decide +kernel
theorem dL_law_321 : decode cL_law 321 = .ok (.aload_n 0, 1) := by decide +kernel
theorem dL_law_322 : decode cL_law 322 = .ok (.iload_n 3, 1) := by decide +kernel
theorem dL_law_323 : decode cL_law 323 = .ok (.iconst 2, 1) := by decide +kernel
theorem dL_law_324 : decode cL_law 324 = .ok (.iadd, 1) := by decide +kernel
theorem dL_law_325 : decode cL_law 325 = .ok (.iaload, 1) := by decide +kernel
theorem dL_law_326 : decode cL_law 326 = .ok (.invokevirtual 32, 3) := by decide +kernel
theorem dL_law_329 : decode cL_law 329 = .ok (.aload_n 2, 1) := by decide +kernel
theorem dL_law_330 : decode cL_law 330 = .ok (.aload_n 0, 1) := by decide +kernel
theorem dL_law_331 : decode cL_law 331 = .ok (.iload_n 3, 1) := by decide +kernel
theorem dL_law_332 : decode cL_law 332 = .ok (.iconst 1, 1) := by decide +kernel
theorem dL_law_333 : decode cL_law 333 = .ok (.iadd, 1) := by decide +kernel
theorem dL_law_334 : decode cL_law 334 = .ok (.iaload, 1) := by decide +kernel
theorem dL_law_335 : decode cL_law 335 = .ok (.aload_n 0, 1) := by decide +kernel
theorem dL_law_336 : decode cL_law 336 = .ok (.iload_n 3, 1) := by decide +kernel
theorem dL_law_337 : decode cL_law 337 = .ok (.iconst 2, 1) := by decide +kernel
theorem dL_law_338 : decode cL_law 338 = .ok (.iadd, 1) := by decide +kernel
theorem dL_law_339 : decode cL_law 339 = .ok (.iaload, 1) := by decide +kernel
theorem dL_law_340 : decode cL_law 340 = .ok (.invokevirtual 36, 3) := by decide +kernel
theorem dL_law_343 : decode cL_law 343 = .ok (.if_icmp .eq 959, 3) := by decide +kernel
theorem dL_law_346 : decode cL_law 346 = .ok (.iconst 0, 1) := by decide +kernel
theorem dL_law_347 : decode cL_law 347 = .ok (.ireturn, 1) := by decide +kernel
theorem dL_law_348 : decode cL_law 348 = .ok (.aload_n 1, 1) := by decide +kernel
theorem dL_law_349 : decode cL_law 349 = .ok (.aload_n 0, 1) := by decide +kernel
theorem dL_law_350 : decode cL_law 350 = .ok (.iload_n 3, 1) := by decide +kernel
theorem dL_law_351 : decode cL_law 351 = .ok (.iconst 1, 1) := by decide +kernel
theorem dL_law_352 : decode cL_law 352 = .ok (.iadd, 1) := by decide +kernel
theorem dL_law_353 : decode cL_law 353 = .ok (.iaload, 1) := by decide +kernel
theorem dL_law_354 : decode cL_law 354 = .ok (.aload_n 0, 1) := by decide +kernel
theorem dL_law_355 : decode cL_law 355 = .ok (.iload_n 3, 1) := by decide +kernel
theorem dL_law_356 : decode cL_law 356 = .ok (.iconst 2, 1) := by decide +kernel
theorem dL_law_357 : decode cL_law 357 = .ok (.iadd, 1) := by decide +kernel
theorem dL_law_358 : decode cL_law 358 = .ok (.iaload, 1) := by decide +kernel
theorem dL_law_359 : decode cL_law 359 = .ok (.invokevirtual 37, 3) := by decide +kernel
theorem dL_law_362 : decode cL_law 362 = .ok (.aload_n 2, 1) := by decide +kernel
theorem dL_law_363 : decode cL_law 363 = .ok (.aload_n 0, 1) := by decide +kernel
theorem dL_law_364 : decode cL_law 364 = .ok (.iload_n 3, 1) := by decide +kernel
theorem dL_law_365 : decode cL_law 365 = .ok (.iconst 1, 1) := by decide +kernel
theorem dL_law_366 : decode cL_law 366 = .ok (.iadd, 1) := by decide +kernel
theorem dL_law_367 : decode cL_law 367 = .ok (.iaload, 1) := by decide +kernel
theorem dL_law_368 : decode cL_law 368 = .ok (.aload_n 0, 1) := by decide +kernel
theorem dL_law_369 : decode cL_law 369 = .ok (.iload_n 3, 1) := by decide +kernel
theorem dL_law_370 : decode cL_law 370 = .ok (.iconst 2, 1) := by decide +kernel
theorem dL_law_371 : decode cL_law 371 = .ok (.iadd, 1) := by decide +kernel
theorem dL_law_372 : decode cL_law 372 = .ok (.iaload, 1) := by decide +kernel
theorem dL_law_373 : decode cL_law 373 = .ok (.invokevirtual 40, 3) := by decide +kernel
theorem dL_law_376 : decode cL_law 376 = .ok (.if_icmp .eq 926, 3) := by decide +kernel
theorem dL_law_379 : decode cL_law 379 = .ok (.iconst 0, 1) := by decide +kernel
theorem dL_law_380 : decode cL_law 380 = .ok (.ireturn, 1) := by decide +kernel
theorem dL_law_381 : decode cL_law 381 = .ok (.aload_n 1, 1) := by decide +kernel
theorem dL_law_382 : decode cL_law 382 = .ok (.aload_n 0, 1) := by decide +kernel
theorem dL_law_383 : decode cL_law 383 = .ok (.iload_n 3, 1) := by decide +kernel
theorem dL_law_384 : decode cL_law 384 = .ok (.iconst 1, 1) := by decide +kernel
theorem dL_law_385 : decode cL_law 385 = .ok (.iadd, 1) := by decide +kernel
theorem dL_law_386 : decode cL_law 386 = .ok (.iaload, 1) := by decide +kernel
theorem dL_law_387 : decode cL_law 387 = .ok (.aload_n 0, 1) := by decide +kernel
theorem dL_law_388 : decode cL_law 388 = .ok (.iload_n 3, 1) := by decide +kernel
theorem dL_law_389 : decode cL_law 389 = .ok (.iconst 2, 1) := by decide +kernel
theorem dL_law_390 : decode cL_law 390 = .ok (.iadd, 1) := by decide +kernel
theorem dL_law_391 : decode cL_law 391 = .ok (.iaload, 1) := by decide +kernel
theorem dL_law_392 : decode cL_law 392 = .ok (.aload_n 0, 1) := by decide +kernel
theorem dL_law_393 : decode cL_law 393 = .ok (.iload_n 3, 1) := by decide +kernel
theorem dL_law_394 : decode cL_law 394 = .ok (.iconst 3, 1) := by decide +kernel
theorem dL_law_395 : decode cL_law 395 = .ok (.iadd, 1) := by decide +kernel
theorem dL_law_396 : decode cL_law 396 = .ok (.iaload, 1) := by decide +kernel
theorem dL_law_397 : decode cL_law 397 = .ok (.aload_n 0, 1) := by decide +kernel
theorem dL_law_398 : decode cL_law 398 = .ok (.iload_n 3, 1) := by decide +kernel
theorem dL_law_399 : decode cL_law 399 = .ok (.iconst 4, 1) := by decide +kernel
theorem dL_law_400 : decode cL_law 400 = .ok (.iadd, 1) := by decide +kernel
theorem dL_law_401 : decode cL_law 401 = .ok (.iaload, 1) := by decide +kernel
theorem dL_law_402 : decode cL_law 402 = .ok (.aload_n 0, 1) := by decide +kernel
theorem dL_law_403 : decode cL_law 403 = .ok (.iload_n 3, 1) := by decide +kernel
theorem dL_law_404 : decode cL_law 404 = .ok (.iconst 5, 1) := by decide +kernel
theorem dL_law_405 : decode cL_law 405 = .ok (.iadd, 1) := by decide +kernel
theorem dL_law_406 : decode cL_law 406 = .ok (.iaload, 1) := by decide +kernel
theorem dL_law_407 : decode cL_law 407 = .ok (.invokevirtual 41, 3) := by decide +kernel
theorem dL_law_410 : decode cL_law 410 = .ok (.aload_n 2, 1) := by decide +kernel
theorem dL_law_411 : decode cL_law 411 = .ok (.aload_n 0, 1) := by decide +kernel
theorem dL_law_412 : decode cL_law 412 = .ok (.iload_n 3, 1) := by decide +kernel
theorem dL_law_413 : decode cL_law 413 = .ok (.iconst 1, 1) := by decide +kernel
theorem dL_law_414 : decode cL_law 414 = .ok (.iadd, 1) := by decide +kernel
theorem dL_law_415 : decode cL_law 415 = .ok (.iaload, 1) := by decide +kernel
theorem dL_law_416 : decode cL_law 416 = .ok (.aload_n 0, 1) := by decide +kernel
theorem dL_law_417 : decode cL_law 417 = .ok (.iload_n 3, 1) := by decide +kernel
theorem dL_law_418 : decode cL_law 418 = .ok (.iconst 2, 1) := by decide +kernel
theorem dL_law_419 : decode cL_law 419 = .ok (.iadd, 1) := by decide +kernel
theorem dL_law_420 : decode cL_law 420 = .ok (.iaload, 1) := by decide +kernel
theorem dL_law_421 : decode cL_law 421 = .ok (.aload_n 0, 1) := by decide +kernel
theorem dL_law_422 : decode cL_law 422 = .ok (.iload_n 3, 1) := by decide +kernel
theorem dL_law_423 : decode cL_law 423 = .ok (.iconst 3, 1) := by decide +kernel
theorem dL_law_424 : decode cL_law 424 = .ok (.iadd, 1) := by decide +kernel
theorem dL_law_425 : decode cL_law 425 = .ok (.iaload, 1) := by decide +kernel
theorem dL_law_426 : decode cL_law 426 = .ok (.aload_n 0, 1) := by decide +kernel
theorem dL_law_427 : decode cL_law 427 = .ok (.iload_n 3, 1) := by decide +kernel
theorem dL_law_428 : decode cL_law 428 = .ok (.iconst 4, 1) := by decide +kernel
theorem dL_law_429 : decode cL_law 429 = .ok (.iadd, 1) := by decide +kernel
theorem dL_law_430 : decode cL_law 430 = .ok (.iaload, 1) := by decide +kernel
theorem dL_law_431 : decode cL_law 431 = .ok (.aload_n 0, 1) := by decide +kernel
theorem dL_law_432 : decode cL_law 432 = .ok (.iload_n 3, 1) := by decide +kernel
theorem dL_law_433 : decode cL_law 433 = .ok (.iconst 5, 1) := by decide +kernel
theorem dL_law_434 : decode cL_law 434 = .ok (.iadd, 1) := by decide +kernel
theorem dL_law_435 : decode cL_law 435 = .ok (.iaload, 1) := by decide +kernel
theorem dL_law_436 : decode cL_law 436 = .ok (.invokevirtual 45, 3) := by decide +kernel
theorem dL_law_439 : decode cL_law 439 = .ok (.if_icmp .eq 863, 3) := by decide +kernel
theorem dL_law_442 : decode cL_law 442 = .ok (.iconst 0, 1) := by decide +kernel
theorem dL_law_443 : decode cL_law 443 = .ok (.ireturn, 1) := by decide +kernel
theorem dL_law_444 : decode cL_law 444 = .ok (.aload_n 1, 1) := by decide +kernel
theorem dL_law_445 : decode cL_law 445 = .ok (.aload_n 0, 1) := by decide +kernel
theorem dL_law_446 : decode cL_law 446 = .ok (.iload_n 3, 1) := by decide +kernel
theorem dL_law_447 : decode cL_law 447 = .ok (.iconst 1, 1) := by decide +kernel
theorem dL_law_448 : decode cL_law 448 = .ok (.iadd, 1) := by decide +kernel
theorem dL_law_449 : decode cL_law 449 = .ok (.iaload, 1) := by decide +kernel
theorem dL_law_450 : decode cL_law 450 = .ok (.aload_n 0, 1) := by decide +kernel
theorem dL_law_451 : decode cL_law 451 = .ok (.iload_n 3, 1) := by decide +kernel
theorem dL_law_452 : decode cL_law 452 = .ok (.iconst 2, 1) := by decide +kernel
theorem dL_law_453 : decode cL_law 453 = .ok (.iadd, 1) := by decide +kernel
theorem dL_law_454 : decode cL_law 454 = .ok (.iaload, 1) := by decide +kernel
theorem dL_law_455 : decode cL_law 455 = .ok (.invokevirtual 46, 3) := by decide +kernel
theorem dL_law_458 : decode cL_law 458 = .ok (.aload_n 2, 1) := by decide +kernel
theorem dL_law_459 : decode cL_law 459 = .ok (.aload_n 0, 1) := by decide +kernel
theorem dL_law_460 : decode cL_law 460 = .ok (.iload_n 3, 1) := by decide +kernel
theorem dL_law_461 : decode cL_law 461 = .ok (.iconst 1, 1) := by decide +kernel
theorem dL_law_462 : decode cL_law 462 = .ok (.iadd, 1) := by decide +kernel
theorem dL_law_463 : decode cL_law 463 = .ok (.iaload, 1) := by decide +kernel
theorem dL_law_464 : decode cL_law 464 = .ok (.aload_n 0, 1) := by decide +kernel
theorem dL_law_465 : decode cL_law 465 = .ok (.iload_n 3, 1) := by decide +kernel
theorem dL_law_466 : decode cL_law 466 = .ok (.iconst 2, 1) := by decide +kernel
theorem dL_law_467 : decode cL_law 467 = .ok (.iadd, 1) := by decide +kernel
theorem dL_law_468 : decode cL_law 468 = .ok (.iaload, 1) := by decide +kernel
theorem dL_law_469 : decode cL_law 469 = .ok (.invokevirtual 49, 3) := by decide +kernel
theorem dL_law_472 : decode cL_law 472 = .ok (.if_icmp .eq 830, 3) := by decide +kernel
theorem dL_law_475 : decode cL_law 475 = .ok (.iconst 0, 1) := by decide +kernel
theorem dL_law_476 : decode cL_law 476 = .ok (.ireturn, 1) := by decide +kernel
theorem dL_law_477 : decode cL_law 477 = .ok (.aload_n 1, 1) := by decide +kernel
theorem dL_law_478 : decode cL_law 478 = .ok (.aload_n 0, 1) := by decide +kernel
theorem dL_law_479 : decode cL_law 479 = .ok (.iload_n 3, 1) := by decide +kernel
theorem dL_law_480 : decode cL_law 480 = .ok (.iconst 1, 1) := by decide +kernel
theorem dL_law_481 : decode cL_law 481 = .ok (.iadd, 1) := by decide +kernel
theorem dL_law_482 : decode cL_law 482 = .ok (.iaload, 1) := by decide +kernel
theorem dL_law_483 : decode cL_law 483 = .ok (.aload_n 0, 1) := by decide +kernel
theorem dL_law_484 : decode cL_law 484 = .ok (.iload_n 3, 1) := by decide +kernel
theorem dL_law_485 : decode cL_law 485 = .ok (.iconst 2, 1) := by decide +kernel
theorem dL_law_486 : decode cL_law 486 = .ok (.iadd, 1) := by decide +kernel
theorem dL_law_487 : decode cL_law 487 = .ok (.iaload, 1) := by decide +kernel
theorem dL_law_488 : decode cL_law 488 = .ok (.invokevirtual 50, 3) := by decide +kernel
theorem dL_law_491 : decode cL_law 491 = .ok (.aload_n 2, 1) := by decide +kernel
theorem dL_law_492 : decode cL_law 492 = .ok (.aload_n 0, 1) := by decide +kernel
theorem dL_law_493 : decode cL_law 493 = .ok (.iload_n 3, 1) := by decide +kernel
theorem dL_law_494 : decode cL_law 494 = .ok (.iconst 1, 1) := by decide +kernel
theorem dL_law_495 : decode cL_law 495 = .ok (.iadd, 1) := by decide +kernel
theorem dL_law_496 : decode cL_law 496 = .ok (.iaload, 1) := by decide +kernel
theorem dL_law_497 : decode cL_law 497 = .ok (.aload_n 0, 1) := by decide +kernel
theorem dL_law_498 : decode cL_law 498 = .ok (.iload_n 3, 1) := by decide +kernel
theorem dL_law_499 : decode cL_law 499 = .ok (.iconst 2, 1) := by decide +kernel
theorem dL_law_500 : decode cL_law 500 = .ok (.iadd, 1) := by decide +kernel
theorem dL_law_501 : decode cL_law 501 = .ok (.iaload, 1) := by decide +kernel
theorem dL_law_502 : decode cL_law 502 = .ok (.invokevirtual 53, 3) := by decide +kernel
theorem dL_law_505 : decode cL_law 505 = .ok (.if_icmp .eq 797, 3) := by decide +kernel
theorem dL_law_508 : decode cL_law 508 = .ok (.iconst 0, 1) := by decide +kernel
theorem dL_law_509 : decode cL_law 509 = .ok (.ireturn, 1) := by decide +kernel
theorem dL_law_510 : decode cL_law 510 = .ok (.aload_n 1, 1) := by decide +kernel
theorem dL_law_511 : decode cL_law 511 = .ok (.aload_n 0, 1) := by decide +kernel
theorem dL_law_512 : decode cL_law 512 = .ok (.iload_n 3, 1) := by decide +kernel
theorem dL_law_513 : decode cL_law 513 = .ok (.iconst 1, 1) := by decide +kernel
theorem dL_law_514 : decode cL_law 514 = .ok (.iadd, 1) := by decide +kernel
theorem dL_law_515 : decode cL_law 515 = .ok (.iaload, 1) := by decide +kernel
theorem dL_law_516 : decode cL_law 516 = .ok (.aload_n 0, 1) := by decide +kernel
theorem dL_law_517 : decode cL_law 517 = .ok (.iload_n 3, 1) := by decide +kernel
theorem dL_law_518 : decode cL_law 518 = .ok (.iconst 2, 1) := by decide +kernel
theorem dL_law_519 : decode cL_law 519 = .ok (.iadd, 1) := by decide +kernel
theorem dL_law_520 : decode cL_law 520 = .ok (.iaload, 1) := by decide +kernel
theorem dL_law_521 : decode cL_law 521 = .ok (.invokevirtual 54, 3) := by decide +kernel
theorem dL_law_524 : decode cL_law 524 = .ok (.aload_n 2, 1) := by decide +kernel
theorem dL_law_525 : decode cL_law 525 = .ok (.aload_n 0, 1) := by decide +kernel
theorem dL_law_526 : decode cL_law 526 = .ok (.iload_n 3, 1) := by decide +kernel
theorem dL_law_527 : decode cL_law 527 = .ok (.iconst 1, 1) := by decide +kernel
theorem dL_law_528 : decode cL_law 528 = .ok (.iadd, 1) := by decide +kernel
theorem dL_law_529 : decode cL_law 529 = .ok (.iaload, 1) := by decide +kernel
theorem dL_law_530 : decode cL_law 530 = .ok (.aload_n 0, 1) := by decide +kernel
theorem dL_law_531 : decode cL_law 531 = .ok (.iload_n 3, 1) := by decide +kernel
theorem dL_law_532 : decode cL_law 532 = .ok (.iconst 2, 1) := by decide +kernel
theorem dL_law_533 : decode cL_law 533 = .ok (.iadd, 1) := by decide +kernel
theorem dL_law_534 : decode cL_law 534 = .ok (.iaload, 1) := by decide +kernel
theorem dL_law_535 : decode cL_law 535 = .ok (.invokevirtual 57, 3) := by decide +kernel
theorem dL_law_538 : decode cL_law 538 = .ok (.if_icmp .eq 764, 3) := by decide +kernel
theorem dL_law_541 : decode cL_law 541 = .ok (.iconst 0, 1) := by decide +kernel
theorem dL_law_542 : decode cL_law 542 = .ok (.ireturn, 1) := by decide +kernel
theorem dL_law_543 : decode cL_law 543 = .ok (.aload_n 1, 1) := by decide +kernel
theorem dL_law_544 : decode cL_law 544 = .ok (.aload_n 0, 1) := by decide +kernel
theorem dL_law_545 : decode cL_law 545 = .ok (.iload_n 3, 1) := by decide +kernel
theorem dL_law_546 : decode cL_law 546 = .ok (.iconst 1, 1) := by decide +kernel
theorem dL_law_547 : decode cL_law 547 = .ok (.iadd, 1) := by decide +kernel
theorem dL_law_548 : decode cL_law 548 = .ok (.iaload, 1) := by decide +kernel
theorem dL_law_549 : decode cL_law 549 = .ok (.aload_n 0, 1) := by decide +kernel
theorem dL_law_550 : decode cL_law 550 = .ok (.iload_n 3, 1) := by decide +kernel
theorem dL_law_551 : decode cL_law 551 = .ok (.iconst 2, 1) := by decide +kernel
theorem dL_law_552 : decode cL_law 552 = .ok (.iadd, 1) := by decide +kernel
theorem dL_law_553 : decode cL_law 553 = .ok (.iaload, 1) := by decide +kernel
theorem dL_law_554 : decode cL_law 554 = .ok (.invokevirtual 58, 3) := by decide +kernel
theorem dL_law_557 : decode cL_law 557 = .ok (.aload_n 2, 1) := by decide +kernel
theorem dL_law_558 : decode cL_law 558 = .ok (.aload_n 0, 1) := by decide +kernel
theorem dL_law_559 : decode cL_law 559 = .ok (.iload_n 3, 1) := by decide +kernel
theorem dL_law_560 : decode cL_law 560 = .ok (.iconst 1, 1) := by decide +kernel
theorem dL_law_561 : decode cL_law 561 = .ok (.iadd, 1) := by decide +kernel
theorem dL_law_562 : decode cL_law 562 = .ok (.iaload, 1) := by decide +kernel
theorem dL_law_563 : decode cL_law 563 = .ok (.aload_n 0, 1) := by decide +kernel
theorem dL_law_564 : decode cL_law 564 = .ok (.iload_n 3, 1) := by decide +kernel
theorem dL_law_565 : decode cL_law 565 = .ok (.iconst 2, 1) := by decide +kernel
theorem dL_law_566 : decode cL_law 566 = .ok (.iadd, 1) := by decide +kernel
theorem dL_law_567 : decode cL_law 567 = .ok (.iaload, 1) := by decide +kernel
theorem dL_law_568 : decode cL_law 568 = .ok (.invokevirtual 61, 3) := by decide +kernel
theorem dL_law_571 : decode cL_law 571 = .ok (.if_icmp .eq 731, 3) := by decide +kernel
theorem dL_law_574 : decode cL_law 574 = .ok (.iconst 0, 1) := by decide +kernel
theorem dL_law_575 : decode cL_law 575 = .ok (.ireturn, 1) := by decide +kernel
theorem dL_law_576 : decode cL_law 576 = .ok (.aload_n 1, 1) := by decide +kernel
theorem dL_law_577 : decode cL_law 577 = .ok (.aload_n 0, 1) := by decide +kernel
theorem dL_law_578 : decode cL_law 578 = .ok (.iload_n 3, 1) := by decide +kernel
theorem dL_law_579 : decode cL_law 579 = .ok (.iconst 1, 1) := by decide +kernel
theorem dL_law_580 : decode cL_law 580 = .ok (.iadd, 1) := by decide +kernel
theorem dL_law_581 : decode cL_law 581 = .ok (.iaload, 1) := by decide +kernel
theorem dL_law_582 : decode cL_law 582 = .ok (.aload_n 0, 1) := by decide +kernel
theorem dL_law_583 : decode cL_law 583 = .ok (.iload_n 3, 1) := by decide +kernel
theorem dL_law_584 : decode cL_law 584 = .ok (.iconst 2, 1) := by decide +kernel
theorem dL_law_585 : decode cL_law 585 = .ok (.iadd, 1) := by decide +kernel
theorem dL_law_586 : decode cL_law 586 = .ok (.iaload, 1) := by decide +kernel
theorem dL_law_587 : decode cL_law 587 = .ok (.invokevirtual 62, 3) := by decide +kernel
theorem dL_law_590 : decode cL_law 590 = .ok (.aload_n 2, 1) := by decide +kernel
theorem dL_law_591 : decode cL_law 591 = .ok (.aload_n 0, 1) := by decide +kernel
theorem dL_law_592 : decode cL_law 592 = .ok (.iload_n 3, 1) := by decide +kernel
theorem dL_law_593 : decode cL_law 593 = .ok (.iconst 1, 1) := by decide +kernel
theorem dL_law_594 : decode cL_law 594 = .ok (.iadd, 1) := by decide +kernel
theorem dL_law_595 : decode cL_law 595 = .ok (.iaload, 1) := by decide +kernel
theorem dL_law_596 : decode cL_law 596 = .ok (.aload_n 0, 1) := by decide +kernel
theorem dL_law_597 : decode cL_law 597 = .ok (.iload_n 3, 1) := by decide +kernel
theorem dL_law_598 : decode cL_law 598 = .ok (.iconst 2, 1) := by decide +kernel
theorem dL_law_599 : decode cL_law 599 = .ok (.iadd, 1) := by decide +kernel
theorem dL_law_600 : decode cL_law 600 = .ok (.iaload, 1) := by decide +kernel
theorem dL_law_601 : decode cL_law 601 = .ok (.invokevirtual 65, 3) := by decide +kernel
theorem dL_law_604 : decode cL_law 604 = .ok (.lcmp, 1) := by decide +kernel
theorem dL_law_605 : decode cL_law 605 = .ok (.ifCond .eq 697, 3) := by decide +kernel
theorem dL_law_608 : decode cL_law 608 = .ok (.iconst 0, 1) := by decide +kernel
theorem dL_law_609 : decode cL_law 609 = .ok (.ireturn, 1) := by decide +kernel
theorem dL_law_610 : decode cL_law 610 = .ok (.aload_n 1, 1) := by decide +kernel
theorem dL_law_611 : decode cL_law 611 = .ok (.aload_n 0, 1) := by decide +kernel
theorem dL_law_612 : decode cL_law 612 = .ok (.iload_n 3, 1) := by decide +kernel
theorem dL_law_613 : decode cL_law 613 = .ok (.iconst 1, 1) := by decide +kernel
theorem dL_law_614 : decode cL_law 614 = .ok (.iadd, 1) := by decide +kernel
theorem dL_law_615 : decode cL_law 615 = .ok (.iaload, 1) := by decide +kernel
theorem dL_law_616 : decode cL_law 616 = .ok (.aload_n 0, 1) := by decide +kernel
theorem dL_law_617 : decode cL_law 617 = .ok (.iload_n 3, 1) := by decide +kernel
theorem dL_law_618 : decode cL_law 618 = .ok (.iconst 2, 1) := by decide +kernel
theorem dL_law_619 : decode cL_law 619 = .ok (.iadd, 1) := by decide +kernel
theorem dL_law_620 : decode cL_law 620 = .ok (.iaload, 1) := by decide +kernel
theorem dL_law_621 : decode cL_law 621 = .ok (.invokevirtual 66, 3) := by decide +kernel
theorem dL_law_624 : decode cL_law 624 = .ok (.aload_n 2, 1) := by decide +kernel
theorem dL_law_625 : decode cL_law 625 = .ok (.aload_n 0, 1) := by decide +kernel
theorem dL_law_626 : decode cL_law 626 = .ok (.iload_n 3, 1) := by decide +kernel
theorem dL_law_627 : decode cL_law 627 = .ok (.iconst 1, 1) := by decide +kernel
theorem dL_law_628 : decode cL_law 628 = .ok (.iadd, 1) := by decide +kernel
theorem dL_law_629 : decode cL_law 629 = .ok (.iaload, 1) := by decide +kernel
theorem dL_law_630 : decode cL_law 630 = .ok (.aload_n 0, 1) := by decide +kernel
theorem dL_law_631 : decode cL_law 631 = .ok (.iload_n 3, 1) := by decide +kernel
theorem dL_law_632 : decode cL_law 632 = .ok (.iconst 2, 1) := by decide +kernel
theorem dL_law_633 : decode cL_law 633 = .ok (.iadd, 1) := by decide +kernel
theorem dL_law_634 : decode cL_law 634 = .ok (.iaload, 1) := by decide +kernel
theorem dL_law_635 : decode cL_law 635 = .ok (.invokevirtual 69, 3) := by decide +kernel
theorem dL_law_638 : decode cL_law 638 = .ok (.if_icmp .eq 664, 3) := by decide +kernel
theorem dL_law_641 : decode cL_law 641 = .ok (.iconst 0, 1) := by decide +kernel
theorem dL_law_642 : decode cL_law 642 = .ok (.ireturn, 1) := by decide +kernel
theorem dL_law_643 : decode cL_law 643 = .ok (.aload_n 1, 1) := by decide +kernel
theorem dL_law_644 : decode cL_law 644 = .ok (.aload_n 0, 1) := by decide +kernel
theorem dL_law_645 : decode cL_law 645 = .ok (.iload_n 3, 1) := by decide +kernel
theorem dL_law_646 : decode cL_law 646 = .ok (.iconst 1, 1) := by decide +kernel
theorem dL_law_647 : decode cL_law 647 = .ok (.iadd, 1) := by decide +kernel
theorem dL_law_648 : decode cL_law 648 = .ok (.iaload, 1) := by decide +kernel
theorem dL_law_649 : decode cL_law 649 = .ok (.aload_n 0, 1) := by decide +kernel
theorem dL_law_650 : decode cL_law 650 = .ok (.iload_n 3, 1) := by decide +kernel
theorem dL_law_651 : decode cL_law 651 = .ok (.iconst 2, 1) := by decide +kernel
theorem dL_law_652 : decode cL_law 652 = .ok (.iadd, 1) := by decide +kernel
theorem dL_law_653 : decode cL_law 653 = .ok (.iaload, 1) := by decide +kernel
theorem dL_law_654 : decode cL_law 654 = .ok (.aload_n 0, 1) := by decide +kernel
theorem dL_law_655 : decode cL_law 655 = .ok (.iload_n 3, 1) := by decide +kernel
theorem dL_law_656 : decode cL_law 656 = .ok (.iconst 3, 1) := by decide +kernel
theorem dL_law_657 : decode cL_law 657 = .ok (.iadd, 1) := by decide +kernel
theorem dL_law_658 : decode cL_law 658 = .ok (.iaload, 1) := by decide +kernel
theorem dL_law_659 : decode cL_law 659 = .ok (.invokevirtual 70, 3) := by decide +kernel
theorem dL_law_662 : decode cL_law 662 = .ok (.aload_n 2, 1) := by decide +kernel
theorem dL_law_663 : decode cL_law 663 = .ok (.aload_n 0, 1) := by decide +kernel
theorem dL_law_664 : decode cL_law 664 = .ok (.iload_n 3, 1) := by decide +kernel
theorem dL_law_665 : decode cL_law 665 = .ok (.iconst 1, 1) := by decide +kernel
theorem dL_law_666 : decode cL_law 666 = .ok (.iadd, 1) := by decide +kernel
theorem dL_law_667 : decode cL_law 667 = .ok (.iaload, 1) := by decide +kernel
theorem dL_law_668 : decode cL_law 668 = .ok (.aload_n 0, 1) := by decide +kernel
theorem dL_law_669 : decode cL_law 669 = .ok (.iload_n 3, 1) := by decide +kernel
theorem dL_law_670 : decode cL_law 670 = .ok (.iconst 2, 1) := by decide +kernel
theorem dL_law_671 : decode cL_law 671 = .ok (.iadd, 1) := by decide +kernel
theorem dL_law_672 : decode cL_law 672 = .ok (.iaload, 1) := by decide +kernel
theorem dL_law_673 : decode cL_law 673 = .ok (.aload_n 0, 1) := by decide +kernel
theorem dL_law_674 : decode cL_law 674 = .ok (.iload_n 3, 1) := by decide +kernel
theorem dL_law_675 : decode cL_law 675 = .ok (.iconst 3, 1) := by decide +kernel
theorem dL_law_676 : decode cL_law 676 = .ok (.iadd, 1) := by decide +kernel
theorem dL_law_677 : decode cL_law 677 = .ok (.iaload, 1) := by decide +kernel
theorem dL_law_678 : decode cL_law 678 = .ok (.invokevirtual 73, 3) := by decide +kernel
theorem dL_law_681 : decode cL_law 681 = .ok (.if_icmp .eq 621, 3) := by decide +kernel
theorem dL_law_684 : decode cL_law 684 = .ok (.iconst 0, 1) := by decide +kernel
theorem dL_law_685 : decode cL_law 685 = .ok (.ireturn, 1) := by decide +kernel
theorem dL_law_686 : decode cL_law 686 = .ok (.aload_n 1, 1) := by decide +kernel
theorem dL_law_687 : decode cL_law 687 = .ok (.aload_n 0, 1) := by decide +kernel
theorem dL_law_688 : decode cL_law 688 = .ok (.iload_n 3, 1) := by decide +kernel
theorem dL_law_689 : decode cL_law 689 = .ok (.iconst 1, 1) := by decide +kernel
theorem dL_law_690 : decode cL_law 690 = .ok (.iadd, 1) := by decide +kernel
theorem dL_law_691 : decode cL_law 691 = .ok (.iaload, 1) := by decide +kernel
theorem dL_law_692 : decode cL_law 692 = .ok (.aload_n 0, 1) := by decide +kernel
theorem dL_law_693 : decode cL_law 693 = .ok (.iload_n 3, 1) := by decide +kernel
theorem dL_law_694 : decode cL_law 694 = .ok (.iconst 2, 1) := by decide +kernel
theorem dL_law_695 : decode cL_law 695 = .ok (.iadd, 1) := by decide +kernel
theorem dL_law_696 : decode cL_law 696 = .ok (.iaload, 1) := by decide +kernel
theorem dL_law_697 : decode cL_law 697 = .ok (.aload_n 0, 1) := by decide +kernel
theorem dL_law_698 : decode cL_law 698 = .ok (.iload_n 3, 1) := by decide +kernel
theorem dL_law_699 : decode cL_law 699 = .ok (.iconst 3, 1) := by decide +kernel
theorem dL_law_700 : decode cL_law 700 = .ok (.iadd, 1) := by decide +kernel
theorem dL_law_701 : decode cL_law 701 = .ok (.iaload, 1) := by decide +kernel
theorem dL_law_702 : decode cL_law 702 = .ok (.aload_n 0, 1) := by decide +kernel
theorem dL_law_703 : decode cL_law 703 = .ok (.iload_n 3, 1) := by decide +kernel
theorem dL_law_704 : decode cL_law 704 = .ok (.iconst 4, 1) := by decide +kernel
theorem dL_law_705 : decode cL_law 705 = .ok (.iadd, 1) := by decide +kernel
theorem dL_law_706 : decode cL_law 706 = .ok (.iaload, 1) := by decide +kernel
theorem dL_law_707 : decode cL_law 707 = .ok (.invokevirtual 74, 3) := by decide +kernel
theorem dL_law_710 : decode cL_law 710 = .ok (.aload_n 2, 1) := by decide +kernel
theorem dL_law_711 : decode cL_law 711 = .ok (.aload_n 0, 1) := by decide +kernel
theorem dL_law_712 : decode cL_law 712 = .ok (.iload_n 3, 1) := by decide +kernel
theorem dL_law_713 : decode cL_law 713 = .ok (.iconst 1, 1) := by decide +kernel
theorem dL_law_714 : decode cL_law 714 = .ok (.iadd, 1) := by decide +kernel
theorem dL_law_715 : decode cL_law 715 = .ok (.iaload, 1) := by decide +kernel
theorem dL_law_716 : decode cL_law 716 = .ok (.aload_n 0, 1) := by decide +kernel
theorem dL_law_717 : decode cL_law 717 = .ok (.iload_n 3, 1) := by decide +kernel
theorem dL_law_718 : decode cL_law 718 = .ok (.iconst 2, 1) := by decide +kernel
theorem dL_law_719 : decode cL_law 719 = .ok (.iadd, 1) := by decide +kernel
theorem dL_law_720 : decode cL_law 720 = .ok (.iaload, 1) := by decide +kernel
theorem dL_law_721 : decode cL_law 721 = .ok (.aload_n 0, 1) := by decide +kernel
theorem dL_law_722 : decode cL_law 722 = .ok (.iload_n 3, 1) := by decide +kernel
theorem dL_law_723 : decode cL_law 723 = .ok (.iconst 3, 1) := by decide +kernel
theorem dL_law_724 : decode cL_law 724 = .ok (.iadd, 1) := by decide +kernel
theorem dL_law_725 : decode cL_law 725 = .ok (.iaload, 1) := by decide +kernel
theorem dL_law_726 : decode cL_law 726 = .ok (.aload_n 0, 1) := by decide +kernel
theorem dL_law_727 : decode cL_law 727 = .ok (.iload_n 3, 1) := by decide +kernel
theorem dL_law_728 : decode cL_law 728 = .ok (.iconst 4, 1) := by decide +kernel
theorem dL_law_729 : decode cL_law 729 = .ok (.iadd, 1) := by decide +kernel
theorem dL_law_730 : decode cL_law 730 = .ok (.iaload, 1) := by decide +kernel
theorem dL_law_731 : decode cL_law 731 = .ok (.invokevirtual 78, 3) := by decide +kernel
theorem dL_law_734 : decode cL_law 734 = .ok (.if_icmp .eq 568, 3) := by decide +kernel
theorem dL_law_737 : decode cL_law 737 = .ok (.iconst 0, 1) := by decide +kernel
theorem dL_law_738 : decode cL_law 738 = .ok (.ireturn, 1) := by decide +kernel
theorem dL_law_739 : decode cL_law 739 = .ok (.aload_n 1, 1) := by decide +kernel
theorem dL_law_740 : decode cL_law 740 = .ok (.aload_n 0, 1) := by decide +kernel
theorem dL_law_741 : decode cL_law 741 = .ok (.iload_n 3, 1) := by decide +kernel
theorem dL_law_742 : decode cL_law 742 = .ok (.iconst 1, 1) := by decide +kernel
theorem dL_law_743 : decode cL_law 743 = .ok (.iadd, 1) := by decide +kernel
theorem dL_law_744 : decode cL_law 744 = .ok (.iaload, 1) := by decide +kernel
theorem dL_law_745 : decode cL_law 745 = .ok (.aload_n 0, 1) := by decide +kernel
theorem dL_law_746 : decode cL_law 746 = .ok (.iload_n 3, 1) := by decide +kernel
theorem dL_law_747 : decode cL_law 747 = .ok (.iconst 2, 1) := by decide +kernel
theorem dL_law_748 : decode cL_law 748 = .ok (.iadd, 1) := by decide +kernel
theorem dL_law_749 : decode cL_law 749 = .ok (.iaload, 1) := by decide +kernel
theorem dL_law_750 : decode cL_law 750 = .ok (.aload_n 0, 1) := by decide +kernel
theorem dL_law_751 : decode cL_law 751 = .ok (.iload_n 3, 1) := by decide +kernel
theorem dL_law_752 : decode cL_law 752 = .ok (.iconst 3, 1) := by decide +kernel
theorem dL_law_753 : decode cL_law 753 = .ok (.iadd, 1) := by decide +kernel
theorem dL_law_754 : decode cL_law 754 = .ok (.iaload, 1) := by decide +kernel
theorem dL_law_755 : decode cL_law 755 = .ok (.invokevirtual 79, 3) := by decide +kernel
theorem dL_law_758 : decode cL_law 758 = .ok (.aload_n 2, 1) := by decide +kernel
theorem dL_law_759 : decode cL_law 759 = .ok (.aload_n 0, 1) := by decide +kernel
theorem dL_law_760 : decode cL_law 760 = .ok (.iload_n 3, 1) := by decide +kernel
theorem dL_law_761 : decode cL_law 761 = .ok (.iconst 1, 1) := by decide +kernel
theorem dL_law_762 : decode cL_law 762 = .ok (.iadd, 1) := by decide +kernel
theorem dL_law_763 : decode cL_law 763 = .ok (.iaload, 1) := by decide +kernel
theorem dL_law_764 : decode cL_law 764 = .ok (.aload_n 0, 1) := by decide +kernel
theorem dL_law_765 : decode cL_law 765 = .ok (.iload_n 3, 1) := by decide +kernel
theorem dL_law_766 : decode cL_law 766 = .ok (.iconst 2, 1) := by decide +kernel
theorem dL_law_767 : decode cL_law 767 = .ok (.iadd, 1) := by decide +kernel
theorem dL_law_768 : decode cL_law 768 = .ok (.iaload, 1) := by decide +kernel
theorem dL_law_769 : decode cL_law 769 = .ok (.aload_n 0, 1) := by decide +kernel
theorem dL_law_770 : decode cL_law 770 = .ok (.iload_n 3, 1) := by decide +kernel
theorem dL_law_771 : decode cL_law 771 = .ok (.iconst 3, 1) := by decide +kernel
theorem dL_law_772 : decode cL_law 772 = .ok (.iadd, 1) := by decide +kernel
theorem dL_law_773 : decode cL_law 773 = .ok (.iaload, 1) := by decide +kernel
theorem dL_law_774 : decode cL_law 774 = .ok (.invokevirtual 83, 3) := by decide +kernel
theorem dL_law_777 : decode cL_law 777 = .ok (.lcmp, 1) := by decide +kernel
theorem dL_law_778 : decode cL_law 778 = .ok (.ifCond .eq 524, 3) := by decide +kernel
theorem dL_law_781 : decode cL_law 781 = .ok (.iconst 0, 1) := by decide +kernel
theorem dL_law_782 : decode cL_law 782 = .ok (.ireturn, 1) := by decide +kernel
theorem dL_law_783 : decode cL_law 783 = .ok (.aload_n 1, 1) := by decide +kernel
theorem dL_law_784 : decode cL_law 784 = .ok (.aload_n 0, 1) := by decide +kernel
theorem dL_law_785 : decode cL_law 785 = .ok (.iload_n 3, 1) := by decide +kernel
theorem dL_law_786 : decode cL_law 786 = .ok (.iconst 1, 1) := by decide +kernel
theorem dL_law_787 : decode cL_law 787 = .ok (.iadd, 1) := by decide +kernel
theorem dL_law_788 : decode cL_law 788 = .ok (.iaload, 1) := by decide +kernel
theorem dL_law_789 : decode cL_law 789 = .ok (.aload_n 0, 1) := by decide +kernel
theorem dL_law_790 : decode cL_law 790 = .ok (.iload_n 3, 1) := by decide +kernel
theorem dL_law_791 : decode cL_law 791 = .ok (.iconst 2, 1) := by decide +kernel
theorem dL_law_792 : decode cL_law 792 = .ok (.iadd, 1) := by decide +kernel
theorem dL_law_793 : decode cL_law 793 = .ok (.iaload, 1) := by decide +kernel
theorem dL_law_794 : decode cL_law 794 = .ok (.invokevirtual 84, 3) := by decide +kernel
theorem dL_law_797 : decode cL_law 797 = .ok (.aload_n 2, 1) := by decide +kernel
theorem dL_law_798 : decode cL_law 798 = .ok (.aload_n 0, 1) := by decide +kernel
theorem dL_law_799 : decode cL_law 799 = .ok (.iload_n 3, 1) := by decide +kernel
theorem dL_law_800 : decode cL_law 800 = .ok (.iconst 1, 1) := by decide +kernel
theorem dL_law_801 : decode cL_law 801 = .ok (.iadd, 1) := by decide +kernel
theorem dL_law_802 : decode cL_law 802 = .ok (.iaload, 1) := by decide +kernel
theorem dL_law_803 : decode cL_law 803 = .ok (.aload_n 0, 1) := by decide +kernel
theorem dL_law_804 : decode cL_law 804 = .ok (.iload_n 3, 1) := by decide +kernel
theorem dL_law_805 : decode cL_law 805 = .ok (.iconst 2, 1) := by decide +kernel
theorem dL_law_806 : decode cL_law 806 = .ok (.iadd, 1) := by decide +kernel
theorem dL_law_807 : decode cL_law 807 = .ok (.iaload, 1) := by decide +kernel
theorem dL_law_808 : decode cL_law 808 = .ok (.invokevirtual 87, 3) := by decide +kernel
theorem dL_law_811 : decode cL_law 811 = .ok (.lcmp, 1) := by decide +kernel
theorem dL_law_812 : decode cL_law 812 = .ok (.ifCond .eq 490, 3) := by decide +kernel
theorem dL_law_815 : decode cL_law 815 = .ok (.iconst 0, 1) := by decide +kernel
theorem dL_law_816 : decode cL_law 816 = .ok (.ireturn, 1) := by decide +kernel
theorem dL_law_817 : decode cL_law 817 = .ok (.aload_n 1, 1) := by decide +kernel
theorem dL_law_818 : decode cL_law 818 = .ok (.aload_n 0, 1) := by decide +kernel
theorem dL_law_819 : decode cL_law 819 = .ok (.iload_n 3, 1) := by decide +kernel
theorem dL_law_820 : decode cL_law 820 = .ok (.iconst 1, 1) := by decide +kernel
theorem dL_law_821 : decode cL_law 821 = .ok (.iadd, 1) := by decide +kernel
theorem dL_law_822 : decode cL_law 822 = .ok (.iaload, 1) := by decide +kernel
theorem dL_law_823 : decode cL_law 823 = .ok (.invokevirtual 88, 3) := by decide +kernel
theorem dL_law_826 : decode cL_law 826 = .ok (.aload_n 2, 1) := by decide +kernel
theorem dL_law_827 : decode cL_law 827 = .ok (.aload_n 0, 1) := by decide +kernel
theorem dL_law_828 : decode cL_law 828 = .ok (.iload_n 3, 1) := by decide +kernel
theorem dL_law_829 : decode cL_law 829 = .ok (.iconst 1, 1) := by decide +kernel
theorem dL_law_830 : decode cL_law 830 = .ok (.iadd, 1) := by decide +kernel
theorem dL_law_831 : decode cL_law 831 = .ok (.iaload, 1) := by decide +kernel
theorem dL_law_832 : decode cL_law 832 = .ok (.invokevirtual 91, 3) := by decide +kernel
theorem dL_law_835 : decode cL_law 835 = .ok (.if_icmp .eq 467, 3) := by decide +kernel
theorem dL_law_838 : decode cL_law 838 = .ok (.iconst 0, 1) := by decide +kernel
theorem dL_law_839 : decode cL_law 839 = .ok (.ireturn, 1) := by decide +kernel
theorem dL_law_840 : decode cL_law 840 = .ok (.aload_n 1, 1) := by decide +kernel
theorem dL_law_841 : decode cL_law 841 = .ok (.aload_n 0, 1) := by decide +kernel
theorem dL_law_842 : decode cL_law 842 = .ok (.iload_n 3, 1) := by decide +kernel
theorem dL_law_843 : decode cL_law 843 = .ok (.iconst 1, 1) := by decide +kernel
theorem dL_law_844 : decode cL_law 844 = .ok (.iadd, 1) := by decide +kernel
theorem dL_law_845 : decode cL_law 845 = .ok (.iaload, 1) := by decide +kernel
theorem dL_law_846 : decode cL_law 846 = .ok (.aload_n 0, 1) := by decide +kernel
theorem dL_law_847 : decode cL_law 847 = .ok (.iload_n 3, 1) := by decide +kernel
theorem dL_law_848 : decode cL_law 848 = .ok (.iconst 2, 1) := by decide +kernel
theorem dL_law_849 : decode cL_law 849 = .ok (.iadd, 1) := by decide +kernel
theorem dL_law_850 : decode cL_law 850 = .ok (.iaload, 1) := by decide +kernel
theorem dL_law_851 : decode cL_law 851 = .ok (.aload_n 0, 1) := by decide +kernel
theorem dL_law_852 : decode cL_law 852 = .ok (.iload_n 3, 1) := by decide +kernel
theorem dL_law_853 : decode cL_law 853 = .ok (.iconst 3, 1) := by decide +kernel
theorem dL_law_854 : decode cL_law 854 = .ok (.iadd, 1) := by decide +kernel
theorem dL_law_855 : decode cL_law 855 = .ok (.iaload, 1) := by decide +kernel
theorem dL_law_856 : decode cL_law 856 = .ok (.invokevirtual 92, 3) := by decide +kernel
theorem dL_law_859 : decode cL_law 859 = .ok (.aload_n 2, 1) := by decide +kernel
theorem dL_law_860 : decode cL_law 860 = .ok (.aload_n 0, 1) := by decide +kernel
theorem dL_law_861 : decode cL_law 861 = .ok (.iload_n 3, 1) := by decide +kernel
theorem dL_law_862 : decode cL_law 862 = .ok (.iconst 1, 1) := by decide +kernel
theorem dL_law_863 : decode cL_law 863 = .ok (.iadd, 1) := by decide +kernel
theorem dL_law_864 : decode cL_law 864 = .ok (.iaload, 1) := by decide +kernel
theorem dL_law_865 : decode cL_law 865 = .ok (.aload_n 0, 1) := by decide +kernel
theorem dL_law_866 : decode cL_law 866 = .ok (.iload_n 3, 1) := by decide +kernel
theorem dL_law_867 : decode cL_law 867 = .ok (.iconst 2, 1) := by decide +kernel
theorem dL_law_868 : decode cL_law 868 = .ok (.iadd, 1) := by decide +kernel
theorem dL_law_869 : decode cL_law 869 = .ok (.iaload, 1) := by decide +kernel
theorem dL_law_870 : decode cL_law 870 = .ok (.aload_n 0, 1) := by decide +kernel
theorem dL_law_871 : decode cL_law 871 = .ok (.iload_n 3, 1) := by decide +kernel
theorem dL_law_872 : decode cL_law 872 = .ok (.iconst 3, 1) := by decide +kernel
theorem dL_law_873 : decode cL_law 873 = .ok (.iadd, 1) := by decide +kernel
theorem dL_law_874 : decode cL_law 874 = .ok (.iaload, 1) := by decide +kernel
theorem dL_law_875 : decode cL_law 875 = .ok (.invokevirtual 95, 3) := by decide +kernel
theorem dL_law_878 : decode cL_law 878 = .ok (.lcmp, 1) := by decide +kernel
theorem dL_law_879 : decode cL_law 879 = .ok (.ifCond .eq 423, 3) := by decide +kernel
theorem dL_law_882 : decode cL_law 882 = .ok (.iconst 0, 1) := by decide +kernel
theorem dL_law_883 : decode cL_law 883 = .ok (.ireturn, 1) := by decide +kernel
theorem dL_law_884 : decode cL_law 884 = .ok (.aload_n 1, 1) := by decide +kernel
theorem dL_law_885 : decode cL_law 885 = .ok (.aload_n 0, 1) := by decide +kernel
theorem dL_law_886 : decode cL_law 886 = .ok (.iload_n 3, 1) := by decide +kernel
theorem dL_law_887 : decode cL_law 887 = .ok (.iconst 1, 1) := by decide +kernel
theorem dL_law_888 : decode cL_law 888 = .ok (.iadd, 1) := by decide +kernel
theorem dL_law_889 : decode cL_law 889 = .ok (.iaload, 1) := by decide +kernel
theorem dL_law_890 : decode cL_law 890 = .ok (.aload_n 0, 1) := by decide +kernel
theorem dL_law_891 : decode cL_law 891 = .ok (.iload_n 3, 1) := by decide +kernel
theorem dL_law_892 : decode cL_law 892 = .ok (.iconst 2, 1) := by decide +kernel
theorem dL_law_893 : decode cL_law 893 = .ok (.iadd, 1) := by decide +kernel
theorem dL_law_894 : decode cL_law 894 = .ok (.iaload, 1) := by decide +kernel
theorem dL_law_895 : decode cL_law 895 = .ok (.invokevirtual 96, 3) := by decide +kernel
theorem dL_law_898 : decode cL_law 898 = .ok (.aload_n 2, 1) := by decide +kernel
theorem dL_law_899 : decode cL_law 899 = .ok (.aload_n 0, 1) := by decide +kernel
theorem dL_law_900 : decode cL_law 900 = .ok (.iload_n 3, 1) := by decide +kernel
theorem dL_law_901 : decode cL_law 901 = .ok (.iconst 1, 1) := by decide +kernel
theorem dL_law_902 : decode cL_law 902 = .ok (.iadd, 1) := by decide +kernel
theorem dL_law_903 : decode cL_law 903 = .ok (.iaload, 1) := by decide +kernel
theorem dL_law_904 : decode cL_law 904 = .ok (.aload_n 0, 1) := by decide +kernel
theorem dL_law_905 : decode cL_law 905 = .ok (.iload_n 3, 1) := by decide +kernel
theorem dL_law_906 : decode cL_law 906 = .ok (.iconst 2, 1) := by decide +kernel
theorem dL_law_907 : decode cL_law 907 = .ok (.iadd, 1) := by decide +kernel
theorem dL_law_908 : decode cL_law 908 = .ok (.iaload, 1) := by decide +kernel
theorem dL_law_909 : decode cL_law 909 = .ok (.invokevirtual 99, 3) := by decide +kernel
theorem dL_law_912 : decode cL_law 912 = .ok (.lcmp, 1) := by decide +kernel
theorem dL_law_913 : decode cL_law 913 = .ok (.ifCond .eq 389, 3) := by decide +kernel
theorem dL_law_916 : decode cL_law 916 = .ok (.iconst 0, 1) := by decide +kernel
theorem dL_law_917 : decode cL_law 917 = .ok (.ireturn, 1) := by decide +kernel
theorem dL_law_918 : decode cL_law 918 = .ok (.aload_n 1, 1) := by decide +kernel
theorem dL_law_919 : decode cL_law 919 = .ok (.aload_n 0, 1) := by decide +kernel
theorem dL_law_920 : decode cL_law 920 = .ok (.iload_n 3, 1) := by decide +kernel
theorem dL_law_921 : decode cL_law 921 = .ok (.iconst 1, 1) := by decide +kernel
theorem dL_law_922 : decode cL_law 922 = .ok (.iadd, 1) := by decide +kernel
theorem dL_law_923 : decode cL_law 923 = .ok (.iaload, 1) := by decide +kernel
theorem dL_law_924 : decode cL_law 924 = .ok (.aload_n 0, 1) := by decide +kernel
theorem dL_law_925 : decode cL_law 925 = .ok (.iload_n 3, 1) := by decide +kernel
theorem dL_law_926 : decode cL_law 926 = .ok (.iconst 2, 1) := by decide +kernel
theorem dL_law_927 : decode cL_law 927 = .ok (.iadd, 1) := by decide +kernel
theorem dL_law_928 : decode cL_law 928 = .ok (.iaload, 1) := by decide +kernel
theorem dL_law_929 : decode cL_law 929 = .ok (.i2l, 1) := by decide +kernel
theorem dL_law_930 : decode cL_law 930 = .ok (.bipush 32, 2) := by decide +kernel
theorem dL_law_932 : decode cL_law 932 = .ok (.lshl, 1) := by decide +kernel
theorem dL_law_933 : decode cL_law 933 = .ok (.aload_n 0, 1) := by decide +kernel
theorem dL_law_934 : decode cL_law 934 = .ok (.iload_n 3, 1) := by decide +kernel
theorem dL_law_935 : decode cL_law 935 = .ok (.iconst 3, 1) := by decide +kernel
theorem dL_law_936 : decode cL_law 936 = .ok (.iadd, 1) := by decide +kernel
theorem dL_law_937 : decode cL_law 937 = .ok (.iaload, 1) := by decide +kernel
theorem dL_law_938 : decode cL_law 938 = .ok (.i2l, 1) := by decide +kernel
theorem dL_law_939 : decode cL_law 939 = .ok (.ldc2_w 100, 3) := by decide +kernel
theorem dL_law_942 : decode cL_law 942 = .ok (.land, 1) := by decide +kernel
theorem dL_law_943 : decode cL_law 943 = .ok (.lor, 1) := by decide +kernel
theorem dL_law_944 : decode cL_law 944 = .ok (.aload_n 0, 1) := by decide +kernel
theorem dL_law_945 : decode cL_law 945 = .ok (.iload_n 3, 1) := by decide +kernel
theorem dL_law_946 : decode cL_law 946 = .ok (.iconst 4, 1) := by decide +kernel
theorem dL_law_947 : decode cL_law 947 = .ok (.iadd, 1) := by decide +kernel
theorem dL_law_948 : decode cL_law 948 = .ok (.iaload, 1) := by decide +kernel
theorem dL_law_949 : decode cL_law 949 = .ok (.invokevirtual 102, 3) := by decide +kernel
theorem dL_law_952 : decode cL_law 952 = .ok (.aload_n 2, 1) := by decide +kernel
theorem dL_law_953 : decode cL_law 953 = .ok (.aload_n 0, 1) := by decide +kernel
theorem dL_law_954 : decode cL_law 954 = .ok (.iload_n 3, 1) := by decide +kernel
theorem dL_law_955 : decode cL_law 955 = .ok (.iconst 1, 1) := by decide +kernel
theorem dL_law_956 : decode cL_law 956 = .ok (.iadd, 1) := by decide +kernel
theorem dL_law_957 : decode cL_law 957 = .ok (.iaload, 1) := by decide +kernel
theorem dL_law_958 : decode cL_law 958 = .ok (.aload_n 0, 1) := by decide +kernel
theorem dL_law_959 : decode cL_law 959 = .ok (.iload_n 3, 1) := by decide +kernel
theorem dL_law_960 : decode cL_law 960 = .ok (.iconst 2, 1) := by decide +kernel
theorem dL_law_961 : decode cL_law 961 = .ok (.iadd, 1) := by decide +kernel
theorem dL_law_962 : decode cL_law 962 = .ok (.iaload, 1) := by decide +kernel
theorem dL_law_963 : decode cL_law 963 = .ok (.i2l, 1) := by decide +kernel
theorem dL_law_964 : decode cL_law 964 = .ok (.bipush 32, 2) := by decide +kernel
theorem dL_law_966 : decode cL_law 966 = .ok (.lshl, 1) := by decide +kernel
theorem dL_law_967 : decode cL_law 967 = .ok (.aload_n 0, 1) := by decide +kernel
theorem dL_law_968 : decode cL_law 968 = .ok (.iload_n 3, 1) := by decide +kernel
theorem dL_law_969 : decode cL_law 969 = .ok (.iconst 3, 1) := by decide +kernel
theorem dL_law_970 : decode cL_law 970 = .ok (.iadd, 1) := by decide +kernel
theorem dL_law_971 : decode cL_law 971 = .ok (.iaload, 1) := by decide +kernel
theorem dL_law_972 : decode cL_law 972 = .ok (.i2l, 1) := by decide +kernel
theorem dL_law_973 : decode cL_law 973 = .ok (.ldc2_w 100, 3) := by decide +kernel
theorem dL_law_976 : decode cL_law 976 = .ok (.land, 1) := by decide +kernel
theorem dL_law_977 : decode cL_law 977 = .ok (.lor, 1) := by decide +kernel
theorem dL_law_978 : decode cL_law 978 = .ok (.aload_n 0, 1) := by decide +kernel
theorem dL_law_979 : decode cL_law 979 = .ok (.iload_n 3, 1) := by decide +kernel
theorem dL_law_980 : decode cL_law 980 = .ok (.iconst 4, 1) := by decide +kernel
theorem dL_law_981 : decode cL_law 981 = .ok (.iadd, 1) := by decide +kernel
theorem dL_law_982 : decode cL_law 982 = .ok (.iaload, 1) := by decide +kernel
theorem dL_law_983 : decode cL_law 983 = .ok (.invokevirtual 106, 3) := by decide +kernel
theorem dL_law_986 : decode cL_law 986 = .ok (.if_icmp .eq 316, 3) := by decide +kernel
theorem dL_law_989 : decode cL_law 989 = .ok (.iconst 0, 1) := by decide +kernel
theorem dL_law_990 : decode cL_law 990 = .ok (.ireturn, 1) := by decide +kernel
theorem dL_law_991 : decode cL_law 991 = .ok (.aload_n 1, 1) := by decide +kernel
theorem dL_law_992 : decode cL_law 992 = .ok (.aload_n 0, 1) := by decide +kernel
theorem dL_law_993 : decode cL_law 993 = .ok (.iload_n 3, 1) := by decide +kernel
theorem dL_law_994 : decode cL_law 994 = .ok (.iconst 1, 1) := by decide +kernel
theorem dL_law_995 : decode cL_law 995 = .ok (.iadd, 1) := by decide +kernel
theorem dL_law_996 : decode cL_law 996 = .ok (.iaload, 1) := by decide +kernel
theorem dL_law_997 : decode cL_law 997 = .ok (.aload_n 0, 1) := by decide +kernel
theorem dL_law_998 : decode cL_law 998 = .ok (.iload_n 3, 1) := by decide +kernel
theorem dL_law_999 : decode cL_law 999 = .ok (.iconst 2, 1) := by decide +kernel
theorem dL_law_1000 : decode cL_law 1000 = .ok (.iadd, 1) := by decide +kernel
theorem dL_law_1001 : decode cL_law 1001 = .ok (.iaload, 1) := by decide +kernel
theorem dL_law_1002 : decode cL_law 1002 = .ok (.aload_n 0, 1) := by decide +kernel
theorem dL_law_1003 : decode cL_law 1003 = .ok (.iload_n 3, 1) := by decide +kernel
theorem dL_law_1004 : decode cL_law 1004 = .ok (.iconst 3, 1) := by decide +kernel
theorem dL_law_1005 : decode cL_law 1005 = .ok (.iadd, 1) := by decide +kernel
theorem dL_law_1006 : decode cL_law 1006 = .ok (.iaload, 1) := by decide +kernel
theorem dL_law_1007 : decode cL_law 1007 = .ok (.aload_n 0, 1) := by decide +kernel
theorem dL_law_1008 : decode cL_law 1008 = .ok (.iload_n 3, 1) := by decide +kernel
theorem dL_law_1009 : decode cL_law 1009 = .ok (.iconst 4, 1) := by decide +kernel
theorem dL_law_1010 : decode cL_law 1010 = .ok (.iadd, 1) := by decide +kernel
theorem dL_law_1011 : decode cL_law 1011 = .ok (.iaload, 1) := by decide +kernel
theorem dL_law_1012 : decode cL_law 1012 = .ok (.invokevirtual 107, 3) := by decide +kernel
theorem dL_law_1015 : decode cL_law 1015 = .ok (.aload_n 2, 1) := by decide +kernel
theorem dL_law_1016 : decode cL_law 1016 = .ok (.aload_n 0, 1) := by decide +kernel
theorem dL_law_1017 : decode cL_law 1017 = .ok (.iload_n 3, 1) := by decide +kernel
theorem dL_law_1018 : decode cL_law 1018 = .ok (.iconst 1, 1) := by decide +kernel
theorem dL_law_1019 : decode cL_law 1019 = .ok (.iadd, 1) := by decide +kernel
theorem dL_law_1020 : decode cL_law 1020 = .ok (.iaload, 1) := by decide +kernel
theorem dL_law_1021 : decode cL_law 1021 = .ok (.aload_n 0, 1) := by decide +kernel
theorem dL_law_1022 : decode cL_law 1022 = .ok (.iload_n 3, 1) := by decide +kernel
theorem dL_law_1023 : decode cL_law 1023 = .ok (.iconst 2, 1) := by decide +kernel
theorem dL_law_1024 : decode cL_law 1024 = .ok (.iadd, 1) := by decide +kernel
theorem dL_law_1025 : decode cL_law 1025 = .ok (.iaload, 1) := by decide +kernel
theorem dL_law_1026 : decode cL_law 1026 = .ok (.aload_n 0, 1) := by decide +kernel
theorem dL_law_1027 : decode cL_law 1027 = .ok (.iload_n 3, 1) := by decide +kernel
theorem dL_law_1028 : decode cL_law 1028 = .ok (.iconst 3, 1) := by decide +kernel
theorem dL_law_1029 : decode cL_law 1029 = .ok (.iadd, 1) := by decide +kernel
theorem dL_law_1030 : decode cL_law 1030 = .ok (.iaload, 1) := by decide +kernel
theorem dL_law_1031 : decode cL_law 1031 = .ok (.aload_n 0, 1) := by decide +kernel
theorem dL_law_1032 : decode cL_law 1032 = .ok (.iload_n 3, 1) := by decide +kernel
theorem dL_law_1033 : decode cL_law 1033 = .ok (.iconst 4, 1) := by decide +kernel
theorem dL_law_1034 : decode cL_law 1034 = .ok (.iadd, 1) := by decide +kernel
theorem dL_law_1035 : decode cL_law 1035 = .ok (.iaload, 1) := by decide +kernel
theorem dL_law_1036 : decode cL_law 1036 = .ok (.invokevirtual 110, 3) := by decide +kernel
theorem dL_law_1039 : decode cL_law 1039 = .ok (.if_icmp .eq 263, 3) := by decide +kernel
theorem dL_law_1042 : decode cL_law 1042 = .ok (.iconst 0, 1) := by decide +kernel
theorem dL_law_1043 : decode cL_law 1043 = .ok (.ireturn, 1) := by decide +kernel
theorem dL_law_1044 : decode cL_law 1044 = .ok (.aload_n 1, 1) := by decide +kernel
theorem dL_law_1045 : decode cL_law 1045 = .ok (.aload_n 0, 1) := by decide +kernel
theorem dL_law_1046 : decode cL_law 1046 = .ok (.iload_n 3, 1) := by decide +kernel
theorem dL_law_1047 : decode cL_law 1047 = .ok (.iconst 1, 1) := by decide +kernel
theorem dL_law_1048 : decode cL_law 1048 = .ok (.iadd, 1) := by decide +kernel
theorem dL_law_1049 : decode cL_law 1049 = .ok (.iaload, 1) := by decide +kernel
theorem dL_law_1050 : decode cL_law 1050 = .ok (.invokevirtual 111, 3) := by decide +kernel
theorem dL_law_1053 : decode cL_law 1053 = .ok (.aload_n 2, 1) := by decide +kernel
theorem dL_law_1054 : decode cL_law 1054 = .ok (.aload_n 0, 1) := by decide +kernel
theorem dL_law_1055 : decode cL_law 1055 = .ok (.iload_n 3, 1) := by decide +kernel
theorem dL_law_1056 : decode cL_law 1056 = .ok (.iconst 1, 1) := by decide +kernel
theorem dL_law_1057 : decode cL_law 1057 = .ok (.iadd, 1) := by decide +kernel
theorem dL_law_1058 : decode cL_law 1058 = .ok (.iaload, 1) := by decide +kernel
theorem dL_law_1059 : decode cL_law 1059 = .ok (.invokevirtual 114, 3) := by decide +kernel
theorem dL_law_1062 : decode cL_law 1062 = .ok (.if_icmp .eq 240, 3) := by decide +kernel
theorem dL_law_1065 : decode cL_law 1065 = .ok (.iconst 0, 1) := by decide +kernel
theorem dL_law_1066 : decode cL_law 1066 = .ok (.ireturn, 1) := by decide +kernel
theorem dL_law_1067 : decode cL_law 1067 = .ok (.aload_n 1, 1) := by decide +kernel
theorem dL_law_1068 : decode cL_law 1068 = .ok (.aload_n 0, 1) := by decide +kernel
theorem dL_law_1069 : decode cL_law 1069 = .ok (.iload_n 3, 1) := by decide +kernel
theorem dL_law_1070 : decode cL_law 1070 = .ok (.iconst 1, 1) := by decide +kernel
theorem dL_law_1071 : decode cL_law 1071 = .ok (.iadd, 1) := by decide +kernel
theorem dL_law_1072 : decode cL_law 1072 = .ok (.iaload, 1) := by decide +kernel
theorem dL_law_1073 : decode cL_law 1073 = .ok (.invokevirtual 115, 3) := by decide +kernel
theorem dL_law_1076 : decode cL_law 1076 = .ok (.aload_n 2, 1) := by decide +kernel
theorem dL_law_1077 : decode cL_law 1077 = .ok (.aload_n 0, 1) := by decide +kernel
theorem dL_law_1078 : decode cL_law 1078 = .ok (.iload_n 3, 1) := by decide +kernel
theorem dL_law_1079 : decode cL_law 1079 = .ok (.iconst 1, 1) := by decide +kernel
theorem dL_law_1080 : decode cL_law 1080 = .ok (.iadd, 1) := by decide +kernel
theorem dL_law_1081 : decode cL_law 1081 = .ok (.iaload, 1) := by decide +kernel
theorem dL_law_1082 : decode cL_law 1082 = .ok (.invokevirtual 118, 3) := by decide +kernel
theorem dL_law_1085 : decode cL_law 1085 = .ok (.if_icmp .eq 217, 3) := by decide +kernel
theorem dL_law_1088 : decode cL_law 1088 = .ok (.iconst 0, 1) := by decide +kernel
theorem dL_law_1089 : decode cL_law 1089 = .ok (.ireturn, 1) := by decide +kernel
theorem dL_law_1090 : decode cL_law 1090 = .ok (.aload_n 1, 1) := by decide +kernel
theorem dL_law_1091 : decode cL_law 1091 = .ok (.aload_n 0, 1) := by decide +kernel
theorem dL_law_1092 : decode cL_law 1092 = .ok (.iload_n 3, 1) := by decide +kernel
theorem dL_law_1093 : decode cL_law 1093 = .ok (.iconst 1, 1) := by decide +kernel
theorem dL_law_1094 : decode cL_law 1094 = .ok (.iadd, 1) := by decide +kernel
theorem dL_law_1095 : decode cL_law 1095 = .ok (.iaload, 1) := by decide +kernel
theorem dL_law_1096 : decode cL_law 1096 = .ok (.invokevirtual 119, 3) := by decide +kernel
theorem dL_law_1099 : decode cL_law 1099 = .ok (.aload_n 2, 1) := by decide +kernel
theorem dL_law_1100 : decode cL_law 1100 = .ok (.aload_n 0, 1) := by decide +kernel
theorem dL_law_1101 : decode cL_law 1101 = .ok (.iload_n 3, 1) := by decide +kernel
theorem dL_law_1102 : decode cL_law 1102 = .ok (.iconst 1, 1) := by decide +kernel
theorem dL_law_1103 : decode cL_law 1103 = .ok (.iadd, 1) := by decide +kernel
theorem dL_law_1104 : decode cL_law 1104 = .ok (.iaload, 1) := by decide +kernel
theorem dL_law_1105 : decode cL_law 1105 = .ok (.invokevirtual 122, 3) := by decide +kernel
theorem dL_law_1108 : decode cL_law 1108 = .ok (.if_icmp .eq 194, 3) := by decide +kernel
theorem dL_law_1111 : decode cL_law 1111 = .ok (.iconst 0, 1) := by decide +kernel
theorem dL_law_1112 : decode cL_law 1112 = .ok (.ireturn, 1) := by decide +kernel
theorem dL_law_1113 : decode cL_law 1113 = .ok (.aload_n 1, 1) := by decide +kernel
theorem dL_law_1114 : decode cL_law 1114 = .ok (.aload_n 0, 1) := by decide +kernel
theorem dL_law_1115 : decode cL_law 1115 = .ok (.iload_n 3, 1) := by decide +kernel
theorem dL_law_1116 : decode cL_law 1116 = .ok (.iconst 1, 1) := by decide +kernel
theorem dL_law_1117 : decode cL_law 1117 = .ok (.iadd, 1) := by decide +kernel
theorem dL_law_1118 : decode cL_law 1118 = .ok (.iaload, 1) := by decide +kernel
theorem dL_law_1119 : decode cL_law 1119 = .ok (.aload_n 0, 1) := by decide +kernel
theorem dL_law_1120 : decode cL_law 1120 = .ok (.iload_n 3, 1) := by decide +kernel
theorem dL_law_1121 : decode cL_law 1121 = .ok (.iconst 2, 1) := by decide +kernel
theorem dL_law_1122 : decode cL_law 1122 = .ok (.iadd, 1) := by decide +kernel
theorem dL_law_1123 : decode cL_law 1123 = .ok (.iaload, 1) := by decide +kernel
theorem dL_law_1124 : decode cL_law 1124 = .ok (.aload_n 0, 1) := by decide +kernel
theorem dL_law_1125 : decode cL_law 1125 = .ok (.iload_n 3, 1) := by decide +kernel
theorem dL_law_1126 : decode cL_law 1126 = .ok (.iconst 3, 1) := by decide +kernel
theorem dL_law_1127 : decode cL_law 1127 = .ok (.iadd, 1) := by decide +kernel
theorem dL_law_1128 : decode cL_law 1128 = .ok (.iaload, 1) := by decide +kernel
theorem dL_law_1129 : decode cL_law 1129 = .ok (.invokevirtual 123, 3) := by decide +kernel
theorem dL_law_1132 : decode cL_law 1132 = .ok (.aload_n 2, 1) := by decide +kernel
theorem dL_law_1133 : decode cL_law 1133 = .ok (.aload_n 0, 1) := by decide +kernel
theorem dL_law_1134 : decode cL_law 1134 = .ok (.iload_n 3, 1) := by decide +kernel
theorem dL_law_1135 : decode cL_law 1135 = .ok (.iconst 1, 1) := by decide +kernel
theorem dL_law_1136 : decode cL_law 1136 = .ok (.iadd, 1) := by decide +kernel
theorem dL_law_1137 : decode cL_law 1137 = .ok (.iaload, 1) := by decide +kernel
theorem dL_law_1138 : decode cL_law 1138 = .ok (.aload_n 0, 1) := by decide +kernel
theorem dL_law_1139 : decode cL_law 1139 = .ok (.iload_n 3, 1) := by decide +kernel
theorem dL_law_1140 : decode cL_law 1140 = .ok (.iconst 2, 1) := by decide +kernel
theorem dL_law_1141 : decode cL_law 1141 = .ok (.iadd, 1) := by decide +kernel
theorem dL_law_1142 : decode cL_law 1142 = .ok (.iaload, 1) := by decide +kernel
theorem dL_law_1143 : decode cL_law 1143 = .ok (.aload_n 0, 1) := by decide +kernel
theorem dL_law_1144 : decode cL_law 1144 = .ok (.iload_n 3, 1) := by decide +kernel
theorem dL_law_1145 : decode cL_law 1145 = .ok (.iconst 3, 1) := by decide +kernel
theorem dL_law_1146 : decode cL_law 1146 = .ok (.iadd, 1) := by decide +kernel
theorem dL_law_1147 : decode cL_law 1147 = .ok (.iaload, 1) := by decide +kernel
theorem dL_law_1148 : decode cL_law 1148 = .ok (.invokevirtual 126, 3) := by decide +kernel
theorem dL_law_1151 : decode cL_law 1151 = .ok (.if_icmp .eq 151, 3) := by decide +kernel
theorem dL_law_1154 : decode cL_law 1154 = .ok (.iconst 0, 1) := by decide +kernel
theorem dL_law_1155 : decode cL_law 1155 = .ok (.ireturn, 1) := by decide +kernel
theorem dL_law_1156 : decode cL_law 1156 = .ok (.aload_n 1, 1) := by decide +kernel
theorem dL_law_1157 : decode cL_law 1157 = .ok (.aload_n 0, 1) := by decide +kernel
theorem dL_law_1158 : decode cL_law 1158 = .ok (.iload_n 3, 1) := by decide +kernel
theorem dL_law_1159 : decode cL_law 1159 = .ok (.iconst 1, 1) := by decide +kernel
theorem dL_law_1160 : decode cL_law 1160 = .ok (.iadd, 1) := by decide +kernel
theorem dL_law_1161 : decode cL_law 1161 = .ok (.iaload, 1) := by decide +kernel
theorem dL_law_1162 : decode cL_law 1162 = .ok (.invokevirtual 127, 3) := by decide +kernel
theorem dL_law_1165 : decode cL_law 1165 = .ok (.aload_n 2, 1) := by decide +kernel
theorem dL_law_1166 : decode cL_law 1166 = .ok (.aload_n 0, 1) := by decide +kernel
theorem dL_law_1167 : decode cL_law 1167 = .ok (.iload_n 3, 1) := by decide +kernel
theorem dL_law_1168 : decode cL_law 1168 = .ok (.iconst 1, 1) := by decide +kernel
theorem dL_law_1169 : decode cL_law 1169 = .ok (.iadd, 1) := by decide +kernel
theorem dL_law_1170 : decode cL_law 1170 = .ok (.iaload, 1) := by decide +kernel
theorem dL_law_1171 : decode cL_law 1171 = .ok (.invokevirtual 130, 3) := by decide +kernel
theorem dL_law_1174 : decode cL_law 1174 = .ok (.if_icmp .eq 128, 3) := by decide +kernel
theorem dL_law_1177 : decode cL_law 1177 = .ok (.iconst 0, 1) := by decide +kernel
theorem dL_law_1178 : decode cL_law 1178 = .ok (.ireturn, 1) := by decide +kernel
theorem dL_law_1179 : decode cL_law 1179 = .ok (.aload_n 1, 1) := by decide +kernel
theorem dL_law_1180 : decode cL_law 1180 = .ok (.aload_n 0, 1) := by decide +kernel
theorem dL_law_1181 : decode cL_law 1181 = .ok (.iload_n 3, 1) := by decide +kernel
theorem dL_law_1182 : decode cL_law 1182 = .ok (.iconst 1, 1) := by decide +kernel
theorem dL_law_1183 : decode cL_law 1183 = .ok (.iadd, 1) := by decide +kernel
theorem dL_law_1184 : decode cL_law 1184 = .ok (.iaload, 1) := by decide +kernel
theorem dL_law_1185 : decode cL_law 1185 = .ok (.aload_n 0, 1) := by decide +kernel
theorem dL_law_1186 : decode cL_law 1186 = .ok (.iload_n 3, 1) := by decide +kernel
theorem dL_law_1187 : decode cL_law 1187 = .ok (.iconst 2, 1) := by decide +kernel
theorem dL_law_1188 : decode cL_law 1188 = .ok (.iadd, 1) := by decide +kernel
theorem dL_law_1189 : decode cL_law 1189 = .ok (.iaload, 1) := by decide +kernel
theorem dL_law_1190 : decode cL_law 1190 = .ok (.aload_n 0, 1) := by decide +kernel
theorem dL_law_1191 : decode cL_law 1191 = .ok (.iload_n 3, 1) := by decide +kernel
theorem dL_law_1192 : decode cL_law 1192 = .ok (.iconst 3, 1) := by decide +kernel
theorem dL_law_1193 : decode cL_law 1193 = .ok (.iadd, 1) := by decide +kernel
theorem dL_law_1194 : decode cL_law 1194 = .ok (.iaload, 1) := by decide +kernel
theorem dL_law_1195 : decode cL_law 1195 = .ok (.aload_n 0, 1) := by decide +kernel
theorem dL_law_1196 : decode cL_law 1196 = .ok (.iload_n 3, 1) := by decide +kernel
theorem dL_law_1197 : decode cL_law 1197 = .ok (.iconst 4, 1) := by decide +kernel
theorem dL_law_1198 : decode cL_law 1198 = .ok (.iadd, 1) := by decide +kernel
theorem dL_law_1199 : decode cL_law 1199 = .ok (.iaload, 1) := by decide +kernel
theorem dL_law_1200 : decode cL_law 1200 = .ok (.invokevirtual 131, 3) := by decide +kernel
theorem dL_law_1203 : decode cL_law 1203 = .ok (.aload_n 2, 1) := by decide +kernel
theorem dL_law_1204 : decode cL_law 1204 = .ok (.aload_n 0, 1) := by decide +kernel
theorem dL_law_1205 : decode cL_law 1205 = .ok (.iload_n 3, 1) := by decide +kernel
theorem dL_law_1206 : decode cL_law 1206 = .ok (.iconst 1, 1) := by decide +kernel
theorem dL_law_1207 : decode cL_law 1207 = .ok (.iadd, 1) := by decide +kernel
theorem dL_law_1208 : decode cL_law 1208 = .ok (.iaload, 1) := by decide +kernel
theorem dL_law_1209 : decode cL_law 1209 = .ok (.aload_n 0, 1) := by decide +kernel
theorem dL_law_1210 : decode cL_law 1210 = .ok (.iload_n 3, 1) := by decide +kernel
theorem dL_law_1211 : decode cL_law 1211 = .ok (.iconst 2, 1) := by decide +kernel
theorem dL_law_1212 : decode cL_law 1212 = .ok (.iadd, 1) := by decide +kernel
theorem dL_law_1213 : decode cL_law 1213 = .ok (.iaload, 1) := by decide +kernel
theorem dL_law_1214 : decode cL_law 1214 = .ok (.aload_n 0, 1) := by decide +kernel
theorem dL_law_1215 : decode cL_law 1215 = .ok (.iload_n 3, 1) := by decide +kernel
theorem dL_law_1216 : decode cL_law 1216 = .ok (.iconst 3, 1) := by decide +kernel
theorem dL_law_1217 : decode cL_law 1217 = .ok (.iadd, 1) := by decide +kernel
theorem dL_law_1218 : decode cL_law 1218 = .ok (.iaload, 1) := by decide +kernel
theorem dL_law_1219 : decode cL_law 1219 = .ok (.aload_n 0, 1) := by decide +kernel
theorem dL_law_1220 : decode cL_law 1220 = .ok (.iload_n 3, 1) := by decide +kernel
theorem dL_law_1221 : decode cL_law 1221 = .ok (.iconst 4, 1) := by decide +kernel
theorem dL_law_1222 : decode cL_law 1222 = .ok (.iadd, 1) := by decide +kernel
theorem dL_law_1223 : decode cL_law 1223 = .ok (.iaload, 1) := by decide +kernel
theorem dL_law_1224 : decode cL_law 1224 = .ok (.invokevirtual 134, 3) := by decide +kernel
theorem dL_law_1227 : decode cL_law 1227 = .ok (.if_icmp .eq 75, 3) := by decide +kernel
theorem dL_law_1230 : decode cL_law 1230 = .ok (.iconst 0, 1) := by decide +kernel
theorem dL_law_1231 : decode cL_law 1231 = .ok (.ireturn, 1) := by decide +kernel
theorem dL_law_1232 : decode cL_law 1232 = .ok (.aload_n 1, 1) := by decide +kernel
theorem dL_law_1233 : decode cL_law 1233 = .ok (.aload_n 0, 1) := by decide +kernel
theorem dL_law_1234 : decode cL_law 1234 = .ok (.iload_n 3, 1) := by decide +kernel
theorem dL_law_1235 : decode cL_law 1235 = .ok (.iconst 1, 1) := by decide +kernel
theorem dL_law_1236 : decode cL_law 1236 = .ok (.iadd, 1) := by decide +kernel
theorem dL_law_1237 : decode cL_law 1237 = .ok (.iaload, 1) := by decide +kernel
theorem dL_law_1238 : decode cL_law 1238 = .ok (.aload_n 0, 1) := by decide +kernel
theorem dL_law_1239 : decode cL_law 1239 = .ok (.iload_n 3, 1) := by decide +kernel
theorem dL_law_1240 : decode cL_law 1240 = .ok (.iconst 2, 1) := by decide +kernel
theorem dL_law_1241 : decode cL_law 1241 = .ok (.iadd, 1) := by decide +kernel
theorem dL_law_1242 : decode cL_law 1242 = .ok (.iaload, 1) := by decide +kernel
theorem dL_law_1243 : decode cL_law 1243 = .ok (.invokevirtual 135, 3) := by decide +kernel
theorem dL_law_1246 : decode cL_law 1246 = .ok (.aload_n 2, 1) := by decide +kernel
theorem dL_law_1247 : decode cL_law 1247 = .ok (.aload_n 0, 1) := by decide +kernel
theorem dL_law_1248 : decode cL_law 1248 = .ok (.iload_n 3, 1) := by decide +kernel
theorem dL_law_1249 : decode cL_law 1249 = .ok (.iconst 1, 1) := by decide +kernel
theorem dL_law_1250 : decode cL_law 1250 = .ok (.iadd, 1) := by decide +kernel
theorem dL_law_1251 : decode cL_law 1251 = .ok (.iaload, 1) := by decide +kernel
theorem dL_law_1252 : decode cL_law 1252 = .ok (.aload_n 0, 1) := by decide +kernel
theorem dL_law_1253 : decode cL_law 1253 = .ok (.iload_n 3, 1) := by decide +kernel
theorem dL_law_1254 : decode cL_law 1254 = .ok (.iconst 2, 1) := by decide +kernel
theorem dL_law_1255 : decode cL_law 1255 = .ok (.iadd, 1) := by decide +kernel
theorem dL_law_1256 : decode cL_law 1256 = .ok (.iaload, 1) := by decide +kernel
theorem dL_law_1257 : decode cL_law 1257 = .ok (.invokevirtual 138, 3) := by decide +kernel
theorem dL_law_1260 : decode cL_law 1260 = .ok (.if_icmp .eq 42, 3) := by decide +kernel
theorem dL_law_1263 : decode cL_law 1263 = .ok (.iconst 0, 1) := by decide +kernel
theorem dL_law_1264 : decode cL_law 1264 = .ok (.ireturn, 1) := by decide +kernel
theorem dL_law_1265 : decode cL_law 1265 = .ok (.aload_n 1, 1) := by decide +kernel
theorem dL_law_1266 : decode cL_law 1266 = .ok (.aload_n 0, 1) := by decide +kernel
theorem dL_law_1267 : decode cL_law 1267 = .ok (.iload_n 3, 1) := by decide +kernel
theorem dL_law_1268 : decode cL_law 1268 = .ok (.iconst 1, 1) := by decide +kernel
theorem dL_law_1269 : decode cL_law 1269 = .ok (.iadd, 1) := by decide +kernel
theorem dL_law_1270 : decode cL_law 1270 = .ok (.iaload, 1) := by decide +kernel
theorem dL_law_1271 : decode cL_law 1271 = .ok (.invokevirtual 139, 3) := by decide +kernel
theorem dL_law_1274 : decode cL_law 1274 = .ok (.aload_n 2, 1) := by decide +kernel
theorem dL_law_1275 : decode cL_law 1275 = .ok (.aload_n 0, 1) := by decide +kernel
theorem dL_law_1276 : decode cL_law 1276 = .ok (.iload_n 3, 1) := by decide +kernel
theorem dL_law_1277 : decode cL_law 1277 = .ok (.iconst 1, 1) := by decide +kernel
theorem dL_law_1278 : decode cL_law 1278 = .ok (.iadd, 1) := by decide +kernel
theorem dL_law_1279 : decode cL_law 1279 = .ok (.iaload, 1) := by decide +kernel
theorem dL_law_1280 : decode cL_law 1280 = .ok (.invokevirtual 142, 3) := by decide +kernel
theorem dL_law_1283 : decode cL_law 1283 = .ok (.if_icmp .eq 19, 3) := by decide +kernel
theorem dL_law_1286 : decode cL_law 1286 = .ok (.iconst 0, 1) := by decide +kernel
theorem dL_law_1287 : decode cL_law 1287 = .ok (.ireturn, 1) := by decide +kernel
theorem dL_law_1288 : decode cL_law 1288 = .ok (.aload_n 1, 1) := by decide +kernel
theorem dL_law_1289 : decode cL_law 1289 = .ok (.invokevirtual 143, 3) := by decide +kernel
theorem dL_law_1292 : decode cL_law 1292 = .ok (.aload_n 2, 1) := by decide +kernel
theorem dL_law_1293 : decode cL_law 1293 = .ok (.invokevirtual 147, 3) := by decide +kernel
theorem dL_law_1296 : decode cL_law 1296 = .ok (.lcmp, 1) := by decide +kernel
theorem dL_law_1297 : decode cL_law 1297 = .ok (.ifCond .eq 5, 3) := by decide +kernel
theorem dL_law_1300 : decode cL_law 1300 = .ok (.iconst 0, 1) := by decide +kernel
theorem dL_law_1301 : decode cL_law 1301 = .ok (.ireturn, 1) := by decide +kernel
theorem dL_law_1302 : decode cL_law 1302 = .ok (.iinc 3 6, 3) := by decide +kernel
theorem dL_law_1305 : decode cL_law 1305 = .ok (.goto (-1287), 3) := by decide +kernel
theorem dL_law_1308 : decode cL_law 1308 = .ok (.iconst 1, 1) := by decide +kernel
theorem dL_law_1309 : decode cL_law 1309 = .ok (.ireturn, 1) := by decide +kernel
end
section
/-! MEMORY: one world for both sides. A cell has a number (its tag); its address is given by a map; what changes are numbers alone: ints by tag and place, longs by tag and place. -/
abbrev Mem : Type := (Nat → Nat → Int32) × (Nat → Nat → Int64)
abbrev WG : Type := va_G × (Nat → Nat) × (Nat → ClassId)
abbrev MK : Type := MethodName × ByteArray × Nat × Option FieldType
abbrev QM : Type := Option Value → Mem → Prop
def sI (μ : Mem) (t i : Nat) (x : Int32) : Mem := (fun a b => if a = t ∧ b = i then x else μ.1 a b, μ.2)
def sL (μ : Mem) (t i : Nat) (x : Int64) : Mem := (μ.1, fun a b => if a = t ∧ b = i then x else μ.2 a b)
def bI (μ : Mem) (t : Nat) (f : Nat → Int32) : Mem := (fun a => if a = t then f else μ.1 a, μ.2)
def bL (μ : Mem) (t : Nat) (f : Nat → Int64) : Mem := (μ.1, fun a => if a = t then f else μ.2 a)
/-- the shape of each cell: an array (kind, length) or an object (class, its slots: a ref names a tag) -/
def shp (t : Nat) : (Nat × Nat) ⊕ (Nat × List Value) :=
  if t < 86 then
    if t < 7 then
      match t with
      | 0 => .inr (5, [.ref 1, .ref 2, .ref 3, .ref 4, .ref 5])
      | 1 => .inl (3, 8)
      | 2 => .inl (4, 6)
      | 3 => .inr (1, [.ref 39, .ref 6])
      | 4 => .inr (4, [.int 0, .int 0, .int 0, .int 0, .int 0, .int 0, .int 0])
      | 5 => .inr (0, [.long 0, .long 0, .long 0, .int 0, .int 0, .int 0, .int 0, .int 0, .int 0, .int 0])
      | _ => .inl (0, 10)
    else if t < 43 then
      match (t - 7) % 4 with
      | 0 => .inr (3, [.int 0, .int 0, .int 0, .ref (t + 1), .ref (t + 2), .ref (t + 3)])
      | 1 => .inl (1, 64)
      | 2 => .inl (1, 64)
      | _ => .inl (0, 64)
    else if t < 73 then
      match (t - 43) % 5 with
      | 0 => .inr (2, [.int 0, .ref (t + 1), .ref (t + 2), .ref (t + 3), .ref (t + 4)])
      | 1 => .inl (2, 64)
      | 2 => .inl (2, 64)
      | 3 => .inl (1, 64)
      | _ => .inl (2, 64)
    else
      match t - 73 with
      | 0 => .inr (6, [.ref 74, .ref 75, .ref 76, .ref 77, .ref 78, .ref 79, .ref 80, .ref 81, .int 0, .int 0, .ref 82, .int 0, .int 0, .int 0, .int 0, .int 0, .int 0, .int 0, .int 0, .int 0, .int 0, .int 0, .int 0, .int 0, .int 0, .int 0, .int 0, .int 0, .ref 83, .ref 84, .ref 85, .int 0])
      | 1 => .inl (0, 9)
      | 2 => .inl (1, 9)
      | 3 => .inl (1, 9)
      | 4 => .inl (1, 576)
      | 5 => .inl (1, 576)
      | 6 => .inl (1, 6)
      | 7 => .inl (2, 384)
      | 8 => .inl (2, 64)
      | 9 => .inl (0, 10)
      | 10 => .inl (1, 64)
      | 11 => .inl (1, 64)
      | _ => .inl (1, 64)
  else .inl (9, 0)
/-- what the arrays of references hold -/
def arf (t j : Nat) : Nat := if t = 1 then 7 + 4 * j else 43 + 5 * j
def slotV (G : WG) (μ : Mem) (t j : Nat) (v : Value) : Value := match v with
  | .int _ => .int (μ.1 t j)
  | .long _ => .long (μ.2 t j)
  | .ref u => .ref (G.2.1 u)
  | w => w
def fsOf (G : WG) (μ : Mem) (t : Nat) (sl : List Value) : List Value := sl.mapIdx (fun j v => slotV G μ t j v)
def arOf (G : WG) (μ : Mem) (t k n : Nat) : vp_A := (n, if k < 2 then .inl (μ.1 t) else if k = 2 then .inr (.inl (μ.2 t)) else .inr (.inr (.inr (.inr (fun j => some (G.2.1 (arf t j)))))))
def cellOf (G : WG) (μ : Mem) (t : Nat) : va_E := match shp t with
  | .inl q => .inl (G.2.2 q.1, arOf G μ t q.1 q.2)
  | .inr q => .inr (q.1, fsOf G μ t q.2)
def wsOf (G : WG) (μ : Mem) : va_W := (List.range 86).map (fun t => (G.2.1 t, cellOf G μ t))
def wTys (G : WG) : List (ClassId × FieldType) := [(G.2.2 0, .boolean), (G.2.2 1, .int), (G.2.2 2, .long), (G.2.2 3, .object RX3), (G.2.2 4, .object RX2)]
theorem shp_lt_l {t k n : Nat} (h : shp t = .inl (k, n)) (hk : k < 9) : t < 86 := by
  by_cases ht : t < 86
  · exact ht
  · unfold shp at h
    rw [if_neg ht] at h
    cases h
    omega
theorem shp_lt_r {t : Nat} {x : Nat × List Value} (h : shp t = .inr x) : t < 86 := by
  by_cases ht : t < 86
  · exact ht
  · unfold shp at h
    rw [if_neg ht] at h
    cases h
theorem wsOf_get {G : WG} {μ : Mem} {t : Nat} (ht : t < 86) : (wsOf G μ)[t]? = some (G.2.1 t, cellOf G μ t) := by
  simp [wsOf, List.getElem?_map, List.getElem?_range ht]
theorem wsOf_len {G : WG} {μ : Mem} : (wsOf G μ).length = 86 := by simp [wsOf]
theorem cellOf_congr {G : WG} {μ μ' : Mem} {t : Nat} (h1 : μ.1 t = μ'.1 t) (h2 : μ.2 t = μ'.2 t) : cellOf G μ t = cellOf G μ' t := by
  simp only [cellOf, fsOf, arOf, slotV, h1, h2]
theorem wsOf_set {G : WG} {μ μ' : Mem} {t : Nat} {c : va_E} (ht : t < 86) (h1 : ∀ q, q ≠ t → μ'.1 q = μ.1 q) (h2 : ∀ q, q ≠ t → μ'.2 q = μ.2 q) (hc : cellOf G μ' t = c) : (wsOf G μ).set t (G.2.1 t, c) = wsOf G μ' := by
  apply List.ext_getElem?
  intro i
  by_cases hi : i = t
  · subst hi
    rw [List.getElem?_set_self (by rw [wsOf_len]; exact ht), wsOf_get ht, hc]
  · rw [List.getElem?_set_ne (Ne.symm hi)]
    by_cases h8 : i < 86
    · rw [wsOf_get h8, wsOf_get h8, cellOf_congr (h1 i hi) (h2 i hi)]
    · rw [List.getElem?_eq_none (by rw [wsOf_len]; omega), List.getElem?_eq_none (by rw [wsOf_len]; omega)]
theorem cellOf_r {G : WG} {μ : Mem} {t ci : Nat} {sl : List Value} (h : shp t = .inr (ci, sl)) : cellOf G μ t = .inr (ci, fsOf G μ t sl) := by
  simp only [cellOf, h]
theorem cellOf_l {G : WG} {μ : Mem} {t k n : Nat} (h : shp t = .inl (k, n)) : cellOf G μ t = .inl (G.2.2 k, arOf G μ t k n) := by
  simp only [cellOf, h]
theorem ws_r {G : WG} {μ : Mem} {t ci : Nat} {sl : List Value} (h : shp t = .inr (ci, sl)) : (wsOf G μ)[t]? = some (G.2.1 t, .inr (ci, fsOf G μ t sl)) := by
  rw [wsOf_get (shp_lt_r h), cellOf_r h]
theorem ws_l {G : WG} {μ : Mem} {t k n : Nat} (h : shp t = .inl (k, n)) (hk : k < 9) : (wsOf G μ)[t]? = some (G.2.1 t, .inl (G.2.2 k, arOf G μ t k n)) := by
  rw [wsOf_get (shp_lt_l h hk), cellOf_l h]
theorem fsOf_get {G : WG} {μ : Mem} {t j : Nat} {sl : List Value} {v : Value} (h : sl[j]? = some v) : (fsOf G μ t sl)[j]? = some (slotV G μ t j v) := by
  rw [fsOf, List.getElem?_mapIdx, h]
  rfl
theorem fsOf_len {G : WG} {μ : Mem} {t : Nat} {sl : List Value} : (fsOf G μ t sl).length = sl.length := by simp [fsOf]
theorem sI_off {μ : Mem} {t i q : Nat} {x : Int32} (h : q ≠ t) : (sI μ t i x).1 q = μ.1 q := by
  funext b
  simp [sI, h]
theorem sL_off {μ : Mem} {t i q : Nat} {x : Int64} (h : q ≠ t) : (sL μ t i x).2 q = μ.2 q := by
  funext b
  simp [sL, h]
theorem fsOf_setI {G : WG} {μ : Mem} {t j : Nat} {sl : List Value} {x z : Int32} (h : sl[j]? = some (.int z)) : fsOf G (sI μ t j x) t sl = (fsOf G μ t sl).set j (.int x) := by
  apply List.ext_getElem?
  intro i
  by_cases hi : i = j
  · subst hi
    have hl : i < sl.length := (List.getElem?_eq_some_iff.mp h).1
    rw [List.getElem?_set_self (by rw [fsOf_len]; exact hl), fsOf_get h]
    simp [slotV, sI]
  · rw [List.getElem?_set_ne (Ne.symm hi), fsOf, fsOf, List.getElem?_mapIdx, List.getElem?_mapIdx]
    congr 1
    funext v
    cases v <;> simp [slotV, sI, hi]
theorem fsOf_setL {G : WG} {μ : Mem} {t j : Nat} {sl : List Value} {x z : Int64} (h : sl[j]? = some (.long z)) : fsOf G (sL μ t j x) t sl = (fsOf G μ t sl).set j (.long x) := by
  apply List.ext_getElem?
  intro i
  by_cases hi : i = j
  · subst hi
    have hl : i < sl.length := (List.getElem?_eq_some_iff.mp h).1
    rw [List.getElem?_set_self (by rw [fsOf_len]; exact hl), fsOf_get h]
    simp [slotV, sL]
  · rw [List.getElem?_set_ne (Ne.symm hi), fsOf, fsOf, List.getElem?_mapIdx, List.getElem?_mapIdx]
    congr 1
    funext v
    cases v <;> simp [slotV, sL, hi]
theorem ws_setI {G : WG} {μ : Mem} {t ci j : Nat} {sl : List Value} {x z : Int32} (h : shp t = .inr (ci, sl)) (hj : sl[j]? = some (.int z)) : (wsOf G μ).set t (G.2.1 t, .inr (ci, (fsOf G μ t sl).set j (.int x))) = wsOf G (sI μ t j x) :=
  wsOf_set (shp_lt_r h) (fun _ hq => sI_off hq) (fun _ _ => rfl) (by rw [cellOf_r h, fsOf_setI hj])
theorem ws_setL {G : WG} {μ : Mem} {t ci j : Nat} {sl : List Value} {x z : Int64} (h : shp t = .inr (ci, sl)) (hj : sl[j]? = some (.long z)) : (wsOf G μ).set t (G.2.1 t, .inr (ci, (fsOf G μ t sl).set j (.long x))) = wsOf G (sL μ t j x) :=
  wsOf_set (shp_lt_r h) (fun _ _ => rfl) (fun _ hq => sL_off hq) (by rw [cellOf_r h, fsOf_setL hj])
theorem bI_off {μ : Mem} {t q : Nat} {f : Nat → Int32} (h : q ≠ t) : (bI μ t f).1 q = μ.1 q := by simp [bI, h]
theorem bL_off {μ : Mem} {t q : Nat} {f : Nat → Int64} (h : q ≠ t) : (bL μ t f).2 q = μ.2 q := by simp [bL, h]
theorem bI_at {μ : Mem} {t : Nat} {f : Nat → Int32} : (bI μ t f).1 t = f := by simp [bI]
theorem bL_at {μ : Mem} {t : Nat} {f : Nat → Int64} : (bL μ t f).2 t = f := by simp [bL]
theorem sI_bI {μ : Mem} {t i : Nat} {x : Int32} : bI μ t (upd (μ.1 t) i x) = sI μ t i x := by
  unfold bI sI
  congr 1
  funext a b
  by_cases ha : a = t
  · subst ha
    by_cases hb : b = i <;> simp [upd, hb]
  · simp [ha]
theorem sL_bL {μ : Mem} {t i : Nat} {x : Int64} : bL μ t (vp_updL (μ.2 t) i x) = sL μ t i x := by
  unfold bL sL
  congr 1
  funext a b
  by_cases ha : a = t
  · subst ha
    by_cases hb : b = i <;> simp [vp_updL, hb]
  · simp [ha]
theorem ws_bI {G : WG} {μ : Mem} {t k n : Nat} {f : Nat → Int32} (h : shp t = .inl (k, n)) (hk : k < 2) : (wsOf G μ).set t (G.2.1 t, .inl (G.2.2 k, n, .inl f)) = wsOf G (bI μ t f) :=
  wsOf_set (shp_lt_l h (by omega)) (fun _ hq => bI_off hq) (fun _ _ => rfl) (by rw [cellOf_l h, arOf, if_pos hk, bI_at])
theorem ws_bL {G : WG} {μ : Mem} {t n : Nat} {f : Nat → Int64} (h : shp t = .inl (2, n)) : (wsOf G μ).set t (G.2.1 t, .inl (G.2.2 2, n, .inr (.inl f))) = wsOf G (bL μ t f) :=
  wsOf_set (shp_lt_l h (by omega)) (fun _ _ => rfl) (fun _ hq => bL_off hq) (by rw [cellOf_l h, arOf, if_neg (by omega), if_pos rfl, bL_at])
theorem ws_aI {G : WG} {μ : Mem} {t k n : Nat} (h : shp t = .inl (k, n)) (hk : k < 2) : (wsOf G μ)[t]? = some (G.2.1 t, .inl (G.2.2 k, n, .inl (μ.1 t))) := by
  rw [ws_l h (by omega), arOf, if_pos hk]
theorem ws_aL {G : WG} {μ : Mem} {t n : Nat} (h : shp t = .inl (2, n)) : (wsOf G μ)[t]? = some (G.2.1 t, .inl (G.2.2 2, n, .inr (.inl (μ.2 t)))) := by
  rw [ws_l h (by omega), arOf, if_neg (by omega), if_pos rfl]
theorem ws_aR {G : WG} {μ : Mem} {t k n : Nat} (h : shp t = .inl (k, n)) (hk : 2 < k) (hk9 : k < 9) : (wsOf G μ)[t]? = some (G.2.1 t, .inl (G.2.2 k, n, .inr (.inr (.inr (.inr (fun j => some (G.2.1 (arf t j)))))))) := by
  rw [ws_l h hk9, arOf, if_neg (by omega), if_neg (by omega)]
def wA (G : WG) (sz : Nat) : Nat → Prop := fun q => (∃ t, t < 86 ∧ q = G.2.1 t) ∨ sz ≤ q
def wD (G : WG) : Prop := ∀ i j : Nat, i < 86 → j < 86 → G.2.1 i = G.2.1 j → i = j
def wP (G : WG) (μ : Mem) (H : Heap) : Prop := va_P G.1 vwCl (wsOf G μ) H
theorem wsOf_at {G : WG} {μ : Mem} {k : Nat} {q : Nat × va_E} (h : (wsOf G μ)[k]? = some q) : k < 86 ∧ q.1 = G.2.1 k := by
  have hl : k < 86 := by
    have := (List.getElem?_eq_some_iff.mp h).1
    rw [wsOf_len] at this
    exact this
  rw [wsOf_get hl] at h
  cases h
  exact ⟨hl, rfl⟩
theorem wD.D {G : WG} {μ : Mem} {sz : Nat} (h : wD G) : va_D (wA G sz) (wsOf G μ) := by
  refine ⟨fun i j p q hi hj hpq => ?_, fun k q hk => ?_⟩
  · obtain ⟨a1, a2⟩ := wsOf_at hi
    obtain ⟨b1, b2⟩ := wsOf_at hj
    exact h i j a1 b1 (by rw [← a2, ← b2]; exact hpq)
  · obtain ⟨a1, a2⟩ := wsOf_at hk
    exact Or.inl ⟨k, a1, a2⟩
theorem wA_mono {G : WG} {a b : Nat} (h : a ≤ b) {q : Nat} (hq : wA G b q) : wA G a q := by
  rcases hq with h1 | h1
  · exact Or.inl h1
  · exact Or.inr (Nat.le_trans h h1)
def nW (U : State) : Prop := va_Nw (.methodLinkNest RX2 79 yX5_isWithin RX5) U
def wK (G : WG) (U : State) : Prop := va_K G.1 vwCl (wTys G) U ∧ nW U
theorem wK.warm {G : WG} {s U : State} (hW : s.WarmedH U.vm) (h : wK G s) : wK G U := ⟨va_K.moved hW.alike h.1, va_Nw.warmM hW h.2⟩
theorem wK.calling {G : WG} {U : State} {g : JFrame} {mk : MethodId} {a : Array Value} (h : wK G U) : wK G (U.calling g mk a) := ⟨va_K.moved (u := U) (U := U.calling g mk a) (Vm.Alike.refl U.vm) h.1, va_Nw.same rfl rfl h.2⟩
/-- the tables' words, those that stay -/
def wT : List Cond := lw_tbl.filter goodWord
abbrev wsM (k : MK) : List Cond := .code k.1 k.2.1 k.2.2.1 k.2.2.2 :: wT
abbrev rmD (d : Nat) : Room := { frames := d, cells := 0, slots := 0, locals := 40 * d }
def trV (G : WG) (v : Value) : Value := match v with
  | .ref t => .ref (G.2.1 t)
  | w => w
theorem trV_cat (G : WG) (v : Value) : (trV G v).category = v.category := by cases v <;> rfl
def wQ (G : WG) (Q : QM) (sz : Nat) : Array Value → State → Outcome → State → Prop := fun _ st oc t => (∃ (r : Option Value) (μ' : Mem), oc = .returned (r.map (trV G)) ∧ Q r μ' ∧ wP G μ' t.heap) ∧ va_F (wA G sz) st t
/-- method k, called with args in memory μ, with d calls' room: it returns, and Q holds of its answer and of the memory behind it -/
def MW (k : MK) (d : Nat) (as : List Value) (μ : Mem) (Q : QM) : Prop := ∀ (l : Launch) (G : WG) (sz : Nat), wD G → Met l k.1 (wsM k) (rmD d) (va_Pc (as.map (trV G)) (fun U => U.heap.size = sz ∧ wP G μ U.heap ∧ wK G U)) (wQ G Q sz) 0 0 (wA G sz)
def Cx (k : MK) (G : WG) (p : Program) (s : State) (m : MethodId) (args : Array Value) (meth : Method) (c : Code) : Prop := p.tables.exec = Jvm.exec ∧ c.code = k.2.1 ∧ meth.sig.returnType = k.2.2.2 ∧ (∀ w ∈ wsM k, w.before args s = true) ∧ s.vm.findClass k.1.cls = some m.cls ∧ meth.locks = false ∧ c.maxLocals = k.2.2.1 ∧ wD G ∧ wK G s
def lvh (G : WG) (ls : Array Slot) (n : Nat) (lv : List (Option Value)) : Prop := ls.size = n ∧ lv_wf ls ∧ ∀ (i : Nat) (v : Value), lv[i]? = some (some v) → ls[i]? = some (.val (trV G v))
/-- inside method k, at pc, with locals lv and stack st in memory μ: it goes on to its end, with Q -/
def WA (k : MK) (d : Nat) (Q : QM) (pc : Nat) (lv : List (Option Value)) (st : List Value) (μ : Mem) : Prop :=
  ∀ (G : WG) (p : Program) (l : Launch) (e : Env) (s : State) (m : MethodId) (args : Array Value) (below : List Frame) (meth : Method) (c : Code) (H : Heap) (locs : List Loc) (ls : Array Slot), Cx k G p s m args meth c → wP G μ H → va_S (wA G s.heap.size) s.heap H locs → lvh G ls k.2.2.1 lv →
    W p l e (rmD d) s m args below meth c H locs 0 0 (MQ below (wQ G Q s.heap.size) args s 0 0 (wA G s.heap.size)) (F0 m pc ls (st.map (trV G)))
/-! locals -/
def lvA : List Value → List (Option Value)
  | [] => []
  | v :: vs => match v with
    | .long x => some (.long x) :: none :: lvA vs
    | .double x => some (.double x) :: none :: lvA vs
    | w => some w :: lvA vs
def killP (lv : List (Option Value)) (i : Nat) : List (Option Value) := match i with
  | 0 => lv
  | j + 1 => match lv[j]? with
    | some (some (.long _)) => lv.set j none
    | some (some (.double _)) => lv.set j none
    | _ => lv
def stV (lv : List (Option Value)) (i : Nat) (v : Value) : List (Option Value) := (killP lv i).set i (some v)
def stW (lv : List (Option Value)) (i : Nat) (v : Value) : List (Option Value) := ((killP lv i).set i (some v)).set (i + 1) none
def aslF (G : WG) (lv : List (Option Value)) : List (Nat × Value) := (List.range lv.length).filterMap (fun j => match lv[j]? with
  | some (some v) => some (j, trV G v)
  | _ => none)
theorem aslF_mem {G : WG} {lv : List (Option Value)} {j : Nat} {v : Value} (h : lv[j]? = some (some v)) : (j, trV G v) ∈ aslF G lv := by
  have hl : j < lv.length := (List.getElem?_eq_some_iff.mp h).1
  refine List.mem_filterMap.mpr ⟨j, List.mem_range.mpr hl, ?_⟩
  simp only [h]
theorem aslF_of {G : WG} {lv : List (Option Value)} {q : Nat × Value} (h : q ∈ aslF G lv) : ∃ v, lv[q.1]? = some (some v) ∧ q.2 = trV G v := by
  obtain ⟨j, -, h2⟩ := List.mem_filterMap.mp h
  cases hj : lv[j]? with
  | none => simp [hj] at h2
  | some o =>
    cases o with
    | none => simp [hj] at h2
    | some v =>
      simp only [hj, Option.some.injEq] at h2
      subst h2
      exact ⟨v, hj, rfl⟩
theorem lvh.has {G : WG} {ls : Array Slot} {n : Nat} {lv : List (Option Value)} (h : lvh G ls n lv) : lv_has ls n (aslF G lv) := by
  refine ⟨h.1, h.2.1, fun q hq => ?_⟩
  obtain ⟨v, h1, h2⟩ := aslF_of hq
  rw [h2]
  exact h.2.2 _ _ h1
theorem lvh.at {G : WG} {ls : Array Slot} {n : Nat} {lv : List (Option Value)} (h : lvh G ls n lv) {i : Nat} {v : Value} (hi : lv[i]? = some (some v)) : ls[i]? = some (.val (trV G v)) := h.2.2 i v hi
theorem killP_get {lv : List (Option Value)} {i j : Nat} {w : Value} (h : (killP lv i)[j]? = some (some w)) : lv[j]? = some (some w) ∧ ¬ (j + 1 = i ∧ w.category = 2) := by
  cases i with
  | zero => exact ⟨h, by omega⟩
  | succ i =>
    unfold killP at h
    dsimp only at h
    have key : ∀ (o : Option Value), lv[i]? = some o → (lv.set i none)[j]? = some (some w) → lv[j]? = some (some w) ∧ ¬ (j + 1 = i + 1 ∧ w.category = 2) := by
      intro o ho hs
      by_cases hij : j = i
      · subst hij
        rw [List.getElem?_set_self (List.getElem?_eq_some_iff.mp ho).1] at hs
        cases hs
      · rw [List.getElem?_set_ne (Ne.symm hij)] at hs
        exact ⟨hs, by omega⟩
    split at h
    · rename_i x hx
      exact key _ hx h
    · rename_i x hx
      exact key _ hx h
    · rename_i n1 n2
      refine ⟨h, fun hh => ?_⟩
      obtain ⟨h1, h2⟩ := hh
      have hji : j = i := by omega
      subst hji
      cases w with
      | long x => exact n1 x h
      | double x => exact n2 x h
      | _ => simp [Value.category] at h2
theorem lvh_st {G : WG} {ls' : Array Slot} {n i : Nat} {lv : List (Option Value)} {v : Value} (h : lv_has ls' n ((i, trV G v) :: (aslF G lv).filter (fun q => !(q.1 == i) && !(q.1 + 1 == i && q.2.category == 2)))) : lvh G ls' n (stV lv i v) := by
  refine ⟨h.1, h.2.1, fun j w hj => ?_⟩
  unfold stV at hj
  by_cases hij : j = i
  · subst hij
    have hl : j < (killP lv j).length := by
      have := (List.getElem?_eq_some_iff.mp hj).1
      simpa using this
    rw [List.getElem?_set_self hl] at hj
    cases hj
    exact h.2.2 _ List.mem_cons_self
  · rw [List.getElem?_set_ne (Ne.symm hij)] at hj
    obtain ⟨h1, h2⟩ := killP_get hj
    refine h.2.2 (j, trV G w) (List.mem_cons_of_mem _ (List.mem_filter.mpr ⟨aslF_mem h1, ?_⟩))
    simp only [trV_cat]
    by_cases hc : j + 1 = i
    · have : ¬ w.category = 2 := fun q => h2 ⟨hc, q⟩
      simp [hij, this]
    · simp [hij, hc]
theorem lvh_sw {G : WG} {ls' : Array Slot} {n i : Nat} {lv : List (Option Value)} {v : Value} (h : lv_has ls' n ((i, trV G v) :: (aslF G lv).filter (fun q => !(q.1 == i) && (!(q.1 == i + 1) && !(q.1 + 1 == i && q.2.category == 2))))) : lvh G ls' n (stW lv i v) := by
  refine ⟨h.1, h.2.1, fun j w hj => ?_⟩
  unfold stW at hj
  by_cases hi1 : j = i + 1
  · subst hi1
    have hl : i + 1 < ((killP lv i).set i (some v)).length := by
      have := (List.getElem?_eq_some_iff.mp hj).1
      simpa using this
    rw [List.getElem?_set_self hl] at hj
    cases hj
  · rw [List.getElem?_set_ne (Ne.symm hi1)] at hj
    by_cases hij : j = i
    · subst hij
      have hl : j < (killP lv j).length := by
        have := (List.getElem?_eq_some_iff.mp hj).1
        simpa using this
      rw [List.getElem?_set_self hl] at hj
      cases hj
      exact h.2.2 _ List.mem_cons_self
    · rw [List.getElem?_set_ne (Ne.symm hij)] at hj
      obtain ⟨h1, h2⟩ := killP_get hj
      refine h.2.2 (j, trV G w) (List.mem_cons_of_mem _ (List.mem_filter.mpr ⟨aslF_mem h1, ?_⟩))
      simp only [trV_cat]
      by_cases hc : j + 1 = i
      · have : ¬ w.category = 2 := fun q => h2 ⟨hc, q⟩
        simp [hij, hi1, this]
      · simp [hij, hi1, hc]
theorem lvA_args {G : WG} : ∀ (vs : List Value) (o i : Nat) (v : Value), (lvA vs)[i]? = some (some v) → (o + i, trV G v) ∈ lv_args o (vs.map (trV G))
  | [], o, i, v, h => by simp [lvA] at h
  | a :: vs, o, i, v, h => by
    have ih := lvA_args (G := G) vs
    have two : ∀ (w : Value), w.category = 2 → lvA (a :: vs) = some a :: none :: lvA vs → w = a → (o + i, trV G v) ∈ lv_args o ((a :: vs).map (trV G)) := by
      intro w hw hA hwa
      subst hwa
      rw [hA] at h
      rw [List.map_cons, lv_args, if_pos (by rw [trV_cat]; exact hw)]
      match i, h with
      | 0, h => cases h; exact List.mem_cons_self
      | 1, h => cases h
      | i + 2, h =>
        have := ih (o + 2) i v (by simpa using h)
        rw [show o + (i + 2) = o + 2 + i by omega]
        exact List.mem_cons_of_mem _ this
    have one : ¬ a.category = 2 → lvA (a :: vs) = some a :: lvA vs → (o + i, trV G v) ∈ lv_args o ((a :: vs).map (trV G)) := by
      intro hw hA
      rw [hA] at h
      rw [List.map_cons, lv_args, if_neg (by rw [trV_cat]; exact hw)]
      match i, h with
      | 0, h => cases h; exact List.mem_cons_self
      | i + 1, h =>
        have := ih (o + 1) i v (by simpa using h)
        rw [show o + (i + 1) = o + 1 + i by omega]
        exact List.mem_cons_of_mem _ this
    cases a with
    | long x => exact two _ rfl rfl rfl
    | double x => exact two _ rfl rfl rfl
    | _ => exact one (by simp [Value.category]) rfl
theorem lvA_len (G : WG) : ∀ (vs : List Value), (lg_sl (vs.map (trV G))).length = (lvA vs).length
  | [] => rfl
  | a :: vs => by
    have ih := lvA_len G vs
    have e : lg_sl ((a :: vs).map (trV G)) = (if (trV G a).category = 2 then [.val (trV G a), .second] else [.val (trV G a)]) ++ lg_sl (vs.map (trV G)) := rfl
    rw [e, List.length_append, ih]
    cases a <;> simp [trV, Value.category, lvA] <;> omega
theorem lvh_entry {G : WG} {vs : List Value} {n : Nat} {lv : List (Option Value)} (hlv : lv = lvA vs ++ List.replicate (n - (lvA vs).length) none) (hn : (lvA vs).length ≤ n) : lvh G ((lg_sl (vs.map (trV G)) ++ List.replicate (n - (lg_sl (vs.map (trV G))).length) Slot.unset).toArray) n lv := by
  have h := lv_entry (vs.map (trV G)) (n := n) (by rw [lvA_len]; exact hn)
  refine ⟨h.1, h.2.1, fun i v hi => ?_⟩
  subst hlv
  by_cases hl : i < (lvA vs).length
  · rw [List.getElem?_append_left hl] at hi
    have := lvA_args (G := G) vs 0 i v hi
    rw [Nat.zero_add] at this
    exact h.2.2 _ this
  · rw [List.getElem?_append_right (by omega), List.getElem?_replicate] at hi
    split at hi <;> cases hi
theorem MW_of {k : MK} {d : Nat} {as : List Value} {μ : Mem} {Q : QM} (hy : plainName k.1.cls = true) (lv : List (Option Value)) (hlv : lv = lvA as ++ List.replicate (k.2.2.1 - (lvA as).length) none) (hn : (lvA as).length ≤ k.2.2.1) (h : WA k d Q 0 lv [] μ) : MW k d as μ Q := by
  intro l G sz hD
  refine Met.ofW (cc := k.2.1) (maxL := k.2.2.1) (ret := k.2.2.2) hy rfl ?_
  intro p e s m args below meth c s₁ B hml hv
  obtain ⟨rfl, hsz, hP, hK⟩ := hv
  subst hsz
  rw [lg_entry_eq]
  exact h G p l e s m _ below meth c s.heap [] _ ⟨B.exec, B.bytes, B.returns, atoms_spec (ws := wsM k) B.pre, findClass_of_methodNamed B.named, B.notSynchronized, hml, hD, hK⟩ hP va_S.rf (lvh_entry hlv hn)
theorem WA.mask {k : MK} {d : Nat} {Q : QM} {pc : Nat} {lv : List (Option Value)} {st : List Value} {μ : Mem} (lv' : List (Option Value)) (h : ∀ (i : Nat) (v : Value), lv'[i]? = some (some v) → lv[i]? = some (some v)) (kk : WA k d Q pc lv' st μ) : WA k d Q pc lv st μ :=
  fun G p l e s m args below meth c H locs ls C hP hS hl => kk G p l e s m args below meth c H locs ls C hP hS ⟨hl.1, hl.2.1, fun i v hi => hl.2.2 i v (h i v hi)⟩
/-- some locals forgotten -/
def frg : List (Option Value) → List Bool → List (Option Value)
  | o :: l, b :: bs => (if b then o else none) :: frg l bs
  | _, _ => []
theorem frg_get : ∀ (lv : List (Option Value)) (bs : List Bool) (i : Nat) (v : Value), (frg lv bs)[i]? = some (some v) → lv[i]? = some (some v)
  | [], bs, i, v, h => by simp [frg] at h
  | o :: l, [], i, v, h => by simp [frg] at h
  | o :: l, b :: bs, i, v, h => by
    match i with
    | 0 =>
      cases b
      · simp [frg] at h
      · simpa [frg] using h
    | i + 1 =>
      have := frg_get l bs i v (by simpa [frg] using h)
      simpa using this
theorem WA.frg {k : MK} {d : Nat} {Q : QM} {pc : Nat} {lv : List (Option Value)} {st : List Value} {μ : Mem} (bs : List Bool) (kk : WA k d Q pc (frg lv bs) st μ) : WA k d Q pc lv st μ := WA.mask _ (frg_get lv bs) kk
end
section
/-! ROWS: an instruction a row, over WA. What a branch tells is told of toInt. -/
theorem Int32.eq_toInt {x y : Int32} : x = y ↔ x.toInt = y.toInt := Int32.toInt_inj.symm
theorem z32 : (0 : Int32).toInt = 0 := by decide
theorem shp_n {t k n : Nat} (h : shp t = .inl (k, n)) : n ≤ 576 := by
  unfold shp at h
  split at h
  · split at h
    · split at h <;> cases h <;> decide
    · split at h
      · split at h <;> cases h <;> decide
      · split at h
        · split at h <;> cases h <;> decide
        · split at h <;> cases h <;> decide
  · cases h
    decide
section WAR
variable {k k' : MK} {d d' : Nat} {Q : QM} {pc : Nat} {lv : List (Option Value)} {st : List Value} {μ : Mem}
theorem wa_iadd {x y : Int32} (hd : decode k.2.1 pc = .ok (.iadd, 1)) (kk : WA k d Q (pc + 1) lv (.int (x + y) :: st) μ) : WA k d Q pc lv (.int y :: .int x :: st) μ :=
  fun G p l e s m args below meth c H locs ls C hP hS hl => lv_iadd C.1 C.2.1 hd (kk G p l e s m args below meth c H locs ls C hP hS hl)
theorem wa_isub {x y : Int32} (hd : decode k.2.1 pc = .ok (.isub, 1)) (kk : WA k d Q (pc + 1) lv (.int (x - y) :: st) μ) : WA k d Q pc lv (.int y :: .int x :: st) μ :=
  fun G p l e s m args below meth c H locs ls C hP hS hl => lv_isub C.1 C.2.1 hd (kk G p l e s m args below meth c H locs ls C hP hS hl)
theorem wa_imul {x y : Int32} (hd : decode k.2.1 pc = .ok (.imul, 1)) (kk : WA k d Q (pc + 1) lv (.int (x * y) :: st) μ) : WA k d Q pc lv (.int y :: .int x :: st) μ :=
  fun G p l e s m args below meth c H locs ls C hP hS hl => lv_imul C.1 C.2.1 hd (kk G p l e s m args below meth c H locs ls C hP hS hl)
theorem wa_iand {x y : Int32} (hd : decode k.2.1 pc = .ok (.iand, 1)) (kk : WA k d Q (pc + 1) lv (.int (x &&& y) :: st) μ) : WA k d Q pc lv (.int y :: .int x :: st) μ :=
  fun G p l e s m args below meth c H locs ls C hP hS hl => lv_iand C.1 C.2.1 hd (kk G p l e s m args below meth c H locs ls C hP hS hl)
theorem wa_ior {x y : Int32} (hd : decode k.2.1 pc = .ok (.ior, 1)) (kk : WA k d Q (pc + 1) lv (.int (x ||| y) :: st) μ) : WA k d Q pc lv (.int y :: .int x :: st) μ :=
  fun G p l e s m args below meth c H locs ls C hP hS hl => lv_ior C.1 C.2.1 hd (kk G p l e s m args below meth c H locs ls C hP hS hl)
theorem wa_ixor {x y : Int32} (hd : decode k.2.1 pc = .ok (.ixor, 1)) (kk : WA k d Q (pc + 1) lv (.int (x ^^^ y) :: st) μ) : WA k d Q pc lv (.int y :: .int x :: st) μ :=
  fun G p l e s m args below meth c H locs ls C hP hS hl => lv_ixor C.1 C.2.1 hd (kk G p l e s m args below meth c H locs ls C hP hS hl)
theorem wa_idiv {x y : Int32} (hd : decode k.2.1 pc = .ok (.idiv, 1)) (hne : ¬ y = 0) (kk : WA k d Q (pc + 1) lv (.int (x / y) :: st) μ) : WA k d Q pc lv (.int y :: .int x :: st) μ :=
  fun G p l e s m args below meth c H locs ls C hP hS hl => lv_idiv C.1 C.2.1 hd hne (kk G p l e s m args below meth c H locs ls C hP hS hl)
theorem wa_irem {x y : Int32} (hd : decode k.2.1 pc = .ok (.irem, 1)) (hne : ¬ y = 0) (kk : WA k d Q (pc + 1) lv (.int (x - x / y * y) :: st) μ) : WA k d Q pc lv (.int y :: .int x :: st) μ :=
  fun G p l e s m args below meth c H locs ls C hP hS hl => lv_irem C.1 C.2.1 hd hne (kk G p l e s m args below meth c H locs ls C hP hS hl)
theorem wa_ineg {x : Int32} (hd : decode k.2.1 pc = .ok (.ineg, 1)) (kk : WA k d Q (pc + 1) lv (.int (-x) :: st) μ) : WA k d Q pc lv (.int x :: st) μ :=
  fun G p l e s m args below meth c H locs ls C hP hS hl => lv_ineg C.1 C.2.1 hd (kk G p l e s m args below meth c H locs ls C hP hS hl)
theorem wa_ladd {x y : Int64} (hd : decode k.2.1 pc = .ok (.ladd, 1)) (kk : WA k d Q (pc + 1) lv (.long (x + y) :: st) μ) : WA k d Q pc lv (.long y :: .long x :: st) μ :=
  fun G p l e s m args below meth c H locs ls C hP hS hl => lv_ladd C.1 C.2.1 hd (kk G p l e s m args below meth c H locs ls C hP hS hl)
theorem wa_lsub {x y : Int64} (hd : decode k.2.1 pc = .ok (.lsub, 1)) (kk : WA k d Q (pc + 1) lv (.long (x - y) :: st) μ) : WA k d Q pc lv (.long y :: .long x :: st) μ :=
  fun G p l e s m args below meth c H locs ls C hP hS hl => lv_lsub C.1 C.2.1 hd (kk G p l e s m args below meth c H locs ls C hP hS hl)
theorem wa_lmul {x y : Int64} (hd : decode k.2.1 pc = .ok (.lmul, 1)) (kk : WA k d Q (pc + 1) lv (.long (x * y) :: st) μ) : WA k d Q pc lv (.long y :: .long x :: st) μ :=
  fun G p l e s m args below meth c H locs ls C hP hS hl => lv_lmul C.1 C.2.1 hd (kk G p l e s m args below meth c H locs ls C hP hS hl)
theorem wa_land {x y : Int64} (hd : decode k.2.1 pc = .ok (.land, 1)) (kk : WA k d Q (pc + 1) lv (.long (x &&& y) :: st) μ) : WA k d Q pc lv (.long y :: .long x :: st) μ :=
  fun G p l e s m args below meth c H locs ls C hP hS hl => lv_land C.1 C.2.1 hd (kk G p l e s m args below meth c H locs ls C hP hS hl)
theorem wa_lor {x y : Int64} (hd : decode k.2.1 pc = .ok (.lor, 1)) (kk : WA k d Q (pc + 1) lv (.long (x ||| y) :: st) μ) : WA k d Q pc lv (.long y :: .long x :: st) μ :=
  fun G p l e s m args below meth c H locs ls C hP hS hl => lv_lor C.1 C.2.1 hd (kk G p l e s m args below meth c H locs ls C hP hS hl)
theorem wa_lxor {x y : Int64} (hd : decode k.2.1 pc = .ok (.lxor, 1)) (kk : WA k d Q (pc + 1) lv (.long (x ^^^ y) :: st) μ) : WA k d Q pc lv (.long y :: .long x :: st) μ :=
  fun G p l e s m args below meth c H locs ls C hP hS hl => lv_lxor C.1 C.2.1 hd (kk G p l e s m args below meth c H locs ls C hP hS hl)
theorem wa_ldiv {x y : Int64} (hd : decode k.2.1 pc = .ok (.ldiv, 1)) (hne : ¬ y = 0) (kk : WA k d Q (pc + 1) lv (.long (x / y) :: st) μ) : WA k d Q pc lv (.long y :: .long x :: st) μ :=
  fun G p l e s m args below meth c H locs ls C hP hS hl => lv_ldiv C.1 C.2.1 hd hne (kk G p l e s m args below meth c H locs ls C hP hS hl)
theorem wa_lrem {x y : Int64} (hd : decode k.2.1 pc = .ok (.lrem, 1)) (hne : ¬ y = 0) (kk : WA k d Q (pc + 1) lv (.long (x - x / y * y) :: st) μ) : WA k d Q pc lv (.long y :: .long x :: st) μ :=
  fun G p l e s m args below meth c H locs ls C hP hS hl => lv_lrem C.1 C.2.1 hd hne (kk G p l e s m args below meth c H locs ls C hP hS hl)
theorem wa_lneg {x : Int64} (hd : decode k.2.1 pc = .ok (.lneg, 1)) (kk : WA k d Q (pc + 1) lv (.long (-x) :: st) μ) : WA k d Q pc lv (.long x :: st) μ :=
  fun G p l e s m args below meth c H locs ls C hP hS hl => lv_lneg C.1 C.2.1 hd (kk G p l e s m args below meth c H locs ls C hP hS hl)
theorem wa_ishl {x y : Int32} (hd : decode k.2.1 pc = .ok (.ishl, 1)) (kk : WA k d Q (pc + 1) lv (.int (x <<< (y &&& 31)) :: st) μ) : WA k d Q pc lv (.int y :: .int x :: st) μ :=
  fun G p l e s m args below meth c H locs ls C hP hS hl => lv_ishl C.1 C.2.1 hd (kk G p l e s m args below meth c H locs ls C hP hS hl)
theorem wa_ishr {x y : Int32} (hd : decode k.2.1 pc = .ok (.ishr, 1)) (kk : WA k d Q (pc + 1) lv (.int (x >>> (y &&& 31)) :: st) μ) : WA k d Q pc lv (.int y :: .int x :: st) μ :=
  fun G p l e s m args below meth c H locs ls C hP hS hl => lv_ishr C.1 C.2.1 hd (kk G p l e s m args below meth c H locs ls C hP hS hl)
theorem wa_iushr {x y : Int32} (hd : decode k.2.1 pc = .ok (.iushr, 1)) (kk : WA k d Q (pc + 1) lv (.int ((x.toUInt32 >>> (y.toUInt32 &&& Int32.toUInt32 31)).toInt32) :: st) μ) : WA k d Q pc lv (.int y :: .int x :: st) μ :=
  fun G p l e s m args below meth c H locs ls C hP hS hl => lv_iushr C.1 C.2.1 hd rfl (kk G p l e s m args below meth c H locs ls C hP hS hl)
theorem wa_lshr {x : Int64} {y : Int32} (hd : decode k.2.1 pc = .ok (.lshr, 1)) (kk : WA k d Q (pc + 1) lv (.long (x >>> (y.toInt64 &&& 63)) :: st) μ) : WA k d Q pc lv (.int y :: .long x :: st) μ :=
  fun G p l e s m args below meth c H locs ls C hP hS hl => lv_lshr C.1 C.2.1 hd rfl (kk G p l e s m args below meth c H locs ls C hP hS hl)
theorem wa_lshl {x : Int64} {y : Int32} (hd : decode k.2.1 pc = .ok (.lshl, 1)) (kk : WA k d Q (pc + 1) lv (.long (x <<< (y.toInt64 &&& 63)) :: st) μ) : WA k d Q pc lv (.int y :: .long x :: st) μ :=
  fun G p l e s m args below meth c H locs ls C hP hS hl => lv_lshl C.1 C.2.1 hd rfl (kk G p l e s m args below meth c H locs ls C hP hS hl)
theorem wa_i2l {x : Int32} (hd : decode k.2.1 pc = .ok (.i2l, 1)) (kk : WA k d Q (pc + 1) lv (.long x.toInt64 :: st) μ) : WA k d Q pc lv (.int x :: st) μ :=
  fun G p l e s m args below meth c H locs ls C hP hS hl => lv_i2l C.1 C.2.1 hd rfl (kk G p l e s m args below meth c H locs ls C hP hS hl)
theorem wa_l2i {x : Int64} (hd : decode k.2.1 pc = .ok (.l2i, 1)) (kk : WA k d Q (pc + 1) lv (.int x.toInt32 :: st) μ) : WA k d Q pc lv (.long x :: st) μ :=
  fun G p l e s m args below meth c H locs ls C hP hS hl => lv_l2i C.1 C.2.1 hd rfl (kk G p l e s m args below meth c H locs ls C hP hS hl)
theorem wa_lcmp {x y : Int64} (hd : decode k.2.1 pc = .ok (.lcmp, 1)) (kk : WA k d Q (pc + 1) lv (.int (lg_cmp x y) :: st) μ) : WA k d Q pc lv (.long y :: .long x :: st) μ :=
  fun G p l e s m args below meth c H locs ls C hP hS hl => W.lcmp C.1 C.2.1 hd (kk G p l e s m args below meth c H locs ls C hP hS hl)
theorem wa_dupr {t : Nat} (hd : decode k.2.1 pc = .ok (.dup, 1)) (kk : WA k d Q (pc + 1) lv (.ref t :: .ref t :: st) μ) : WA k d Q pc lv (.ref t :: st) μ :=
  fun G p l e s m args below meth c H locs ls C hP hS hl => lv_dup C.1 C.2.1 hd rfl (kk G p l e s m args below meth c H locs ls C hP hS hl)
theorem wa_dupi {x : Int32} (hd : decode k.2.1 pc = .ok (.dup, 1)) (kk : WA k d Q (pc + 1) lv (.int x :: .int x :: st) μ) : WA k d Q pc lv (.int x :: st) μ :=
  fun G p l e s m args below meth c H locs ls C hP hS hl => lv_dup C.1 C.2.1 hd rfl (kk G p l e s m args below meth c H locs ls C hP hS hl)
theorem wa_iconst {n : Int} (v : Int32) (hd : decode k.2.1 pc = .ok (.iconst n, 1)) (hv : Int32.ofInt n = v) (kk : WA k d Q (pc + 1) lv (.int v :: st) μ) : WA k d Q pc lv st μ :=
  fun G p l e s m args below meth c H locs ls C hP hS hl => lv_iconst C.1 C.2.1 hd hv (kk G p l e s m args below meth c H locs ls C hP hS hl)
theorem wa_bipush {n : Int} (v : Int32) (hd : decode k.2.1 pc = .ok (.bipush n, 2)) (hv : (Int8.ofInt n).toInt32 = v) (kk : WA k d Q (pc + 2) lv (.int v :: st) μ) : WA k d Q pc lv st μ :=
  fun G p l e s m args below meth c H locs ls C hP hS hl => lv_bipush C.1 C.2.1 hd hv (kk G p l e s m args below meth c H locs ls C hP hS hl)
theorem wa_sipush {n : Int} (v : Int32) (hd : decode k.2.1 pc = .ok (.sipush n, 3)) (hv : (Int16.ofInt n).toInt32 = v) (kk : WA k d Q (pc + 3) lv (.int v :: st) μ) : WA k d Q pc lv st μ :=
  fun G p l e s m args below meth c H locs ls C hP hS hl => lv_sipush C.1 C.2.1 hd hv (kk G p l e s m args below meth c H locs ls C hP hS hl)
theorem wa_lconst {n : Fin 2} (v : Int64) (hd : decode k.2.1 pc = .ok (.lconst n, 1)) (hv : Int64.ofNat (n : Nat) = v) (kk : WA k d Q (pc + 1) lv (.long v :: st) μ) : WA k d Q pc lv st μ :=
  fun G p l e s m args below meth c H locs ls C hP hS hl => lv_lconst C.1 C.2.1 hd hv (kk G p l e s m args below meth c H locs ls C hP hS hl)
theorem wa_ldc2 {index : Nat} (v : Int64) (hd : decode k.2.1 pc = .ok (.ldc2_w index, 3)) (hw : Cond.constantLong k.1.cls index v ∈ wT) (kk : WA k d Q (pc + 3) lv (.long v :: st) μ) : WA k d Q pc lv st μ :=
  fun G p l e s m args below meth c H locs ls C hP hS hl => lv_ldc2 C.1 C.2.1 C.2.2.2.2.1 (C.2.2.2.1 _ (List.mem_cons_of_mem _ hw)) hd (kk G p l e s m args below meth c H locs ls C hP hS hl)
theorem wa_ldc {index : Nat} (v : Int32) (hd : decode k.2.1 pc = .ok (.ldc index, 2)) (hw : Cond.constant k.1.cls index v ∈ wT) (kk : WA k d Q (pc + 2) lv (.int v :: st) μ) : WA k d Q pc lv st μ :=
  fun G p l e s m args below meth c H locs ls C hP hS hl => lv_ldc C.1 C.2.1 C.2.2.2.2.1 (C.2.2.2.1 _ (List.mem_cons_of_mem _ hw)) hd (kk G p l e s m args below meth c H locs ls C hP hS hl)
theorem wa_ldcw {index : Nat} (v : Int32) (hd : decode k.2.1 pc = .ok (.ldc_w index, 3)) (hw : Cond.constant k.1.cls index v ∈ wT) (kk : WA k d Q (pc + 3) lv (.int v :: st) μ) : WA k d Q pc lv st μ :=
  fun G p l e s m args below meth c H locs ls C hP hS hl => lv_ldcw C.1 C.2.1 C.2.2.2.2.1 (C.2.2.2.1 _ (List.mem_cons_of_mem _ hw)) hd (kk G p l e s m args below meth c H locs ls C hP hS hl)
theorem wa_iload_n {i : Fin 4} {x : Int32} (hd : decode k.2.1 pc = .ok (.iload_n i, 1)) (hx : lv[(i : Nat)]? = some (some (.int x))) (kk : WA k d Q (pc + 1) lv (.int x :: st) μ) : WA k d Q pc lv st μ :=
  fun G p l e s m args below meth c H locs ls C hP hS hl => lv_iload_n C.1 C.2.1 hd rfl (hl.at hx) (kk G p l e s m args below meth c H locs ls C hP hS hl)
theorem wa_iload {i : Nat} {x : Int32} (hd : decode k.2.1 pc = .ok (.iload i, 2)) (hx : lv[i]? = some (some (.int x))) (kk : WA k d Q (pc + 2) lv (.int x :: st) μ) : WA k d Q pc lv st μ :=
  fun G p l e s m args below meth c H locs ls C hP hS hl => lv_iload C.1 C.2.1 hd (hl.at hx) (kk G p l e s m args below meth c H locs ls C hP hS hl)
theorem wa_istore_n {i : Fin 4} {x : Int32} (hd : decode k.2.1 pc = .ok (.istore_n i, 1)) (hi : (i : Nat) < k.2.2.1) (kk : WA k d Q (pc + 1) (stV lv i (.int x)) st μ) : WA k d Q pc lv (.int x :: st) μ :=
  fun G p l e s m args below meth c H locs ls C hP hS hl => lv_istore_n C.1 C.2.1 hd rfl hl.has hi rfl (fun ls' hl' => kk G p l e s m args below meth c H locs ls' C hP hS (lvh_st (v := .int x) hl'))
theorem wa_istore {i : Nat} {x : Int32} (hd : decode k.2.1 pc = .ok (.istore i, 2)) (hi : i < k.2.2.1) (kk : WA k d Q (pc + 2) (stV lv i (.int x)) st μ) : WA k d Q pc lv (.int x :: st) μ :=
  fun G p l e s m args below meth c H locs ls C hP hS hl => lv_istore C.1 C.2.1 hd hl.has hi rfl (fun ls' hl' => kk G p l e s m args below meth c H locs ls' C hP hS (lvh_st (v := .int x) hl'))
theorem wa_lload_n {i : Fin 4} {x : Int64} (hd : decode k.2.1 pc = .ok (.lload_n i, 1)) (hx : lv[(i : Nat)]? = some (some (.long x))) (kk : WA k d Q (pc + 1) lv (.long x :: st) μ) : WA k d Q pc lv st μ :=
  fun G p l e s m args below meth c H locs ls C hP hS hl => lv_lload_n C.1 C.2.1 hd rfl (hl.at hx) (kk G p l e s m args below meth c H locs ls C hP hS hl)
theorem wa_lload {i : Nat} {x : Int64} (hd : decode k.2.1 pc = .ok (.lload i, 2)) (hx : lv[i]? = some (some (.long x))) (kk : WA k d Q (pc + 2) lv (.long x :: st) μ) : WA k d Q pc lv st μ :=
  fun G p l e s m args below meth c H locs ls C hP hS hl => lv_lload C.1 C.2.1 hd (hl.at hx) (kk G p l e s m args below meth c H locs ls C hP hS hl)
theorem wa_lstore_n {i : Fin 4} {x : Int64} (hd : decode k.2.1 pc = .ok (.lstore_n i, 1)) (hi : (i : Nat) + 1 < k.2.2.1) (kk : WA k d Q (pc + 1) (stW lv i (.long x)) st μ) : WA k d Q pc lv (.long x :: st) μ :=
  fun G p l e s m args below meth c H locs ls C hP hS hl => lv_lstore_n C.1 C.2.1 hd rfl hl.has hi rfl (fun ls' hl' => kk G p l e s m args below meth c H locs ls' C hP hS (lvh_sw (v := .long x) hl'))
theorem wa_lstore {i : Nat} {x : Int64} (hd : decode k.2.1 pc = .ok (.lstore i, 2)) (hi : i + 1 < k.2.2.1) (kk : WA k d Q (pc + 2) (stW lv i (.long x)) st μ) : WA k d Q pc lv (.long x :: st) μ :=
  fun G p l e s m args below meth c H locs ls C hP hS hl => lv_lstore C.1 C.2.1 hd hl.has hi rfl (fun ls' hl' => kk G p l e s m args below meth c H locs ls' C hP hS (lvh_sw (v := .long x) hl'))
theorem wa_aload_n {i : Fin 4} {x : Nat} (hd : decode k.2.1 pc = .ok (.aload_n i, 1)) (hx : lv[(i : Nat)]? = some (some (.ref x))) (kk : WA k d Q (pc + 1) lv (.ref x :: st) μ) : WA k d Q pc lv st μ :=
  fun G p l e s m args below meth c H locs ls C hP hS hl => lv_aload_n C.1 C.2.1 hd rfl (hl.at hx) (kk G p l e s m args below meth c H locs ls C hP hS hl)
theorem wa_aload {i : Nat} {x : Nat} (hd : decode k.2.1 pc = .ok (.aload i, 2)) (hx : lv[i]? = some (some (.ref x))) (kk : WA k d Q (pc + 2) lv (.ref x :: st) μ) : WA k d Q pc lv st μ :=
  fun G p l e s m args below meth c H locs ls C hP hS hl => lv_aload C.1 C.2.1 hd (hl.at hx) (kk G p l e s m args below meth c H locs ls C hP hS hl)
theorem wa_astore_n {i : Fin 4} {x : Nat} (hd : decode k.2.1 pc = .ok (.astore_n i, 1)) (hi : (i : Nat) < k.2.2.1) (kk : WA k d Q (pc + 1) (stV lv i (.ref x)) st μ) : WA k d Q pc lv (.ref x :: st) μ :=
  fun G p l e s m args below meth c H locs ls C hP hS hl => lv_astore_n C.1 C.2.1 hd rfl hl.has hi rfl (fun ls' hl' => kk G p l e s m args below meth c H locs ls' C hP hS (lvh_st (v := .ref x) hl'))
theorem wa_astore {i : Nat} {x : Nat} (hd : decode k.2.1 pc = .ok (.astore i, 2)) (hi : i < k.2.2.1) (kk : WA k d Q (pc + 2) (stV lv i (.ref x)) st μ) : WA k d Q pc lv (.ref x :: st) μ :=
  fun G p l e s m args below meth c H locs ls C hP hS hl => lv_astore C.1 C.2.1 hd hl.has hi rfl (fun ls' hl' => kk G p l e s m args below meth c H locs ls' C hP hS (lvh_st (v := .ref x) hl'))
theorem wa_iinc {i : Nat} {n : Int} {x : Int32} (v : Int32) (hd : decode k.2.1 pc = .ok (.iinc i n, 3)) (hx : lv[i]? = some (some (.int x))) (hv : Int32.ofInt n = v) (hi : i < k.2.2.1) (kk : WA k d Q (pc + 3) (stV lv i (.int (x + v))) st μ) : WA k d Q pc lv st μ := by
  intro G p l e s m args below meth c H locs ls C hP hS hl
  obtain ⟨j, hj⟩ := List.getElem?_of_mem (aslF_mem (G := G) hx)
  exact lv_iinc C.1 C.2.1 hd hl.has (k := j) hj (by rw [hv]) hi rfl (fun ls' hl' => kk G p l e s m args below meth c H locs ls' C hP hS (lvh_st (v := .int (x + v)) hl'))
theorem wa_goto {off : Int} (tgt : Nat) (hd : decode k.2.1 pc = .ok (.goto off, 3)) (ht : (pc : Int) + off = (tgt : Int)) (kk : WA k d Q tgt lv st μ) : WA k d Q pc lv st μ :=
  fun G p l e s m args below meth c H locs ls C hP hS hl => lv_goto C.1 C.2.1 hd ht (kk G p l e s m args below meth c H locs ls C hP hS hl)
theorem wa_if_eq {x : Int32} {off : Int} (tgt : Nat) (hd : decode k.2.1 pc = .ok (.ifCond .eq off, 3)) (ht : (pc : Int) + off = (tgt : Int)) (kt : x.toInt = 0 → WA k d Q tgt lv st μ) (kf : ¬ x.toInt = 0 → WA k d Q (pc + 3) lv st μ) : WA k d Q pc lv (.int x :: st) μ :=
  fun G p l e s m args below meth c H locs ls C hP hS hl => lv_if_eq C.1 C.2.1 hd ht (fun hh => kt (by first | simpa only [Int32.eq_toInt, z32] using hh | simpa [Int32.eq_toInt, z32] using hh) G p l e s m args below meth c H locs ls C hP hS hl) (fun hh => kf (by first | simpa only [Int32.eq_toInt, z32] using hh | simpa [Int32.eq_toInt, z32] using hh) G p l e s m args below meth c H locs ls C hP hS hl)
theorem wa_if_eqT {x : Int32} {off : Int} (tgt : Nat) (hd : decode k.2.1 pc = .ok (.ifCond .eq off, 3)) (ht : (pc : Int) + off = (tgt : Int)) (h : x.toInt = 0) (kt : WA k d Q tgt lv st μ) : WA k d Q pc lv (.int x :: st) μ := wa_if_eq tgt hd ht (fun _ => kt) (fun hh => absurd h hh)
theorem wa_if_eqF {x : Int32} {off : Int} (tgt : Nat) (hd : decode k.2.1 pc = .ok (.ifCond .eq off, 3)) (ht : (pc : Int) + off = (tgt : Int)) (h : ¬ x.toInt = 0) (kf : WA k d Q (pc + 3) lv st μ) : WA k d Q pc lv (.int x :: st) μ := wa_if_eq tgt hd ht (fun hh => absurd hh h) (fun _ => kf)
theorem wa_ic_eq {x y : Int32} {off : Int} (tgt : Nat) (hd : decode k.2.1 pc = .ok (.if_icmp .eq off, 3)) (ht : (pc : Int) + off = (tgt : Int)) (kt : x.toInt = y.toInt → WA k d Q tgt lv st μ) (kf : ¬ x.toInt = y.toInt → WA k d Q (pc + 3) lv st μ) : WA k d Q pc lv (.int y :: .int x :: st) μ :=
  fun G p l e s m args below meth c H locs ls C hP hS hl => lv_icmp_eq C.1 C.2.1 hd ht (fun hh => kt (by first | simpa only [Int32.eq_toInt, z32] using hh | simpa [Int32.eq_toInt, z32] using hh) G p l e s m args below meth c H locs ls C hP hS hl) (fun hh => kf (by first | simpa only [Int32.eq_toInt, z32] using hh | simpa [Int32.eq_toInt, z32] using hh) G p l e s m args below meth c H locs ls C hP hS hl)
theorem wa_ic_eqT {x y : Int32} {off : Int} (tgt : Nat) (hd : decode k.2.1 pc = .ok (.if_icmp .eq off, 3)) (ht : (pc : Int) + off = (tgt : Int)) (h : x.toInt = y.toInt) (kt : WA k d Q tgt lv st μ) : WA k d Q pc lv (.int y :: .int x :: st) μ := wa_ic_eq tgt hd ht (fun _ => kt) (fun hh => absurd h hh)
theorem wa_ic_eqF {x y : Int32} {off : Int} (tgt : Nat) (hd : decode k.2.1 pc = .ok (.if_icmp .eq off, 3)) (ht : (pc : Int) + off = (tgt : Int)) (h : ¬ x.toInt = y.toInt) (kf : WA k d Q (pc + 3) lv st μ) : WA k d Q pc lv (.int y :: .int x :: st) μ := wa_ic_eq tgt hd ht (fun hh => absurd hh h) (fun _ => kf)
theorem wa_if_ne {x : Int32} {off : Int} (tgt : Nat) (hd : decode k.2.1 pc = .ok (.ifCond .ne off, 3)) (ht : (pc : Int) + off = (tgt : Int)) (kt : ¬ x.toInt = 0 → WA k d Q tgt lv st μ) (kf : ¬ ¬ x.toInt = 0 → WA k d Q (pc + 3) lv st μ) : WA k d Q pc lv (.int x :: st) μ :=
  fun G p l e s m args below meth c H locs ls C hP hS hl => lv_if_ne C.1 C.2.1 hd ht (fun hh => kt (by first | simpa only [Int32.eq_toInt, z32] using hh | simpa [Int32.eq_toInt, z32] using hh) G p l e s m args below meth c H locs ls C hP hS hl) (fun hh => kf (by first | simpa only [Int32.eq_toInt, z32] using hh | simpa [Int32.eq_toInt, z32] using hh) G p l e s m args below meth c H locs ls C hP hS hl)
theorem wa_if_neT {x : Int32} {off : Int} (tgt : Nat) (hd : decode k.2.1 pc = .ok (.ifCond .ne off, 3)) (ht : (pc : Int) + off = (tgt : Int)) (h : ¬ x.toInt = 0) (kt : WA k d Q tgt lv st μ) : WA k d Q pc lv (.int x :: st) μ := wa_if_ne tgt hd ht (fun _ => kt) (fun hh => absurd h hh)
theorem wa_if_neF {x : Int32} {off : Int} (tgt : Nat) (hd : decode k.2.1 pc = .ok (.ifCond .ne off, 3)) (ht : (pc : Int) + off = (tgt : Int)) (h : ¬ ¬ x.toInt = 0) (kf : WA k d Q (pc + 3) lv st μ) : WA k d Q pc lv (.int x :: st) μ := wa_if_ne tgt hd ht (fun hh => absurd hh h) (fun _ => kf)
theorem wa_ic_ne {x y : Int32} {off : Int} (tgt : Nat) (hd : decode k.2.1 pc = .ok (.if_icmp .ne off, 3)) (ht : (pc : Int) + off = (tgt : Int)) (kt : ¬ x.toInt = y.toInt → WA k d Q tgt lv st μ) (kf : ¬ ¬ x.toInt = y.toInt → WA k d Q (pc + 3) lv st μ) : WA k d Q pc lv (.int y :: .int x :: st) μ :=
  fun G p l e s m args below meth c H locs ls C hP hS hl => lv_icmp_ne C.1 C.2.1 hd ht (fun hh => kt (by first | simpa only [Int32.eq_toInt, z32] using hh | simpa [Int32.eq_toInt, z32] using hh) G p l e s m args below meth c H locs ls C hP hS hl) (fun hh => kf (by first | simpa only [Int32.eq_toInt, z32] using hh | simpa [Int32.eq_toInt, z32] using hh) G p l e s m args below meth c H locs ls C hP hS hl)
theorem wa_ic_neT {x y : Int32} {off : Int} (tgt : Nat) (hd : decode k.2.1 pc = .ok (.if_icmp .ne off, 3)) (ht : (pc : Int) + off = (tgt : Int)) (h : ¬ x.toInt = y.toInt) (kt : WA k d Q tgt lv st μ) : WA k d Q pc lv (.int y :: .int x :: st) μ := wa_ic_ne tgt hd ht (fun _ => kt) (fun hh => absurd h hh)
theorem wa_ic_neF {x y : Int32} {off : Int} (tgt : Nat) (hd : decode k.2.1 pc = .ok (.if_icmp .ne off, 3)) (ht : (pc : Int) + off = (tgt : Int)) (h : ¬ ¬ x.toInt = y.toInt) (kf : WA k d Q (pc + 3) lv st μ) : WA k d Q pc lv (.int y :: .int x :: st) μ := wa_ic_ne tgt hd ht (fun hh => absurd hh h) (fun _ => kf)
theorem wa_if_lt {x : Int32} {off : Int} (tgt : Nat) (hd : decode k.2.1 pc = .ok (.ifCond .lt off, 3)) (ht : (pc : Int) + off = (tgt : Int)) (kt : x.toInt < 0 → WA k d Q tgt lv st μ) (kf : ¬ x.toInt < 0 → WA k d Q (pc + 3) lv st μ) : WA k d Q pc lv (.int x :: st) μ :=
  fun G p l e s m args below meth c H locs ls C hP hS hl => lv_if_lt C.1 C.2.1 hd ht (fun hh => kt (by first | simpa only [Int32.lt_iff_toInt_lt, z32] using hh | simpa [Int32.lt_iff_toInt_lt, z32] using hh) G p l e s m args below meth c H locs ls C hP hS hl) (fun hh => kf (by first | simpa only [Int32.lt_iff_toInt_lt, z32] using hh | simpa [Int32.lt_iff_toInt_lt, z32] using hh) G p l e s m args below meth c H locs ls C hP hS hl)
theorem wa_if_ltT {x : Int32} {off : Int} (tgt : Nat) (hd : decode k.2.1 pc = .ok (.ifCond .lt off, 3)) (ht : (pc : Int) + off = (tgt : Int)) (h : x.toInt < 0) (kt : WA k d Q tgt lv st μ) : WA k d Q pc lv (.int x :: st) μ := wa_if_lt tgt hd ht (fun _ => kt) (fun hh => absurd h hh)
theorem wa_if_ltF {x : Int32} {off : Int} (tgt : Nat) (hd : decode k.2.1 pc = .ok (.ifCond .lt off, 3)) (ht : (pc : Int) + off = (tgt : Int)) (h : ¬ x.toInt < 0) (kf : WA k d Q (pc + 3) lv st μ) : WA k d Q pc lv (.int x :: st) μ := wa_if_lt tgt hd ht (fun hh => absurd hh h) (fun _ => kf)
theorem wa_ic_lt {x y : Int32} {off : Int} (tgt : Nat) (hd : decode k.2.1 pc = .ok (.if_icmp .lt off, 3)) (ht : (pc : Int) + off = (tgt : Int)) (kt : x.toInt < y.toInt → WA k d Q tgt lv st μ) (kf : ¬ x.toInt < y.toInt → WA k d Q (pc + 3) lv st μ) : WA k d Q pc lv (.int y :: .int x :: st) μ :=
  fun G p l e s m args below meth c H locs ls C hP hS hl => lv_icmp_lt C.1 C.2.1 hd ht (fun hh => kt (by first | simpa only [Int32.lt_iff_toInt_lt, z32] using hh | simpa [Int32.lt_iff_toInt_lt, z32] using hh) G p l e s m args below meth c H locs ls C hP hS hl) (fun hh => kf (by first | simpa only [Int32.lt_iff_toInt_lt, z32] using hh | simpa [Int32.lt_iff_toInt_lt, z32] using hh) G p l e s m args below meth c H locs ls C hP hS hl)
theorem wa_ic_ltT {x y : Int32} {off : Int} (tgt : Nat) (hd : decode k.2.1 pc = .ok (.if_icmp .lt off, 3)) (ht : (pc : Int) + off = (tgt : Int)) (h : x.toInt < y.toInt) (kt : WA k d Q tgt lv st μ) : WA k d Q pc lv (.int y :: .int x :: st) μ := wa_ic_lt tgt hd ht (fun _ => kt) (fun hh => absurd h hh)
theorem wa_ic_ltF {x y : Int32} {off : Int} (tgt : Nat) (hd : decode k.2.1 pc = .ok (.if_icmp .lt off, 3)) (ht : (pc : Int) + off = (tgt : Int)) (h : ¬ x.toInt < y.toInt) (kf : WA k d Q (pc + 3) lv st μ) : WA k d Q pc lv (.int y :: .int x :: st) μ := wa_ic_lt tgt hd ht (fun hh => absurd hh h) (fun _ => kf)
theorem wa_if_ge {x : Int32} {off : Int} (tgt : Nat) (hd : decode k.2.1 pc = .ok (.ifCond .ge off, 3)) (ht : (pc : Int) + off = (tgt : Int)) (kt : 0 ≤ x.toInt → WA k d Q tgt lv st μ) (kf : ¬ 0 ≤ x.toInt → WA k d Q (pc + 3) lv st μ) : WA k d Q pc lv (.int x :: st) μ :=
  fun G p l e s m args below meth c H locs ls C hP hS hl => lv_if_ge C.1 C.2.1 hd ht (fun hh => kt (by first | simpa only [Int32.le_iff_toInt_le, z32] using hh | simpa [Int32.le_iff_toInt_le, z32] using hh) G p l e s m args below meth c H locs ls C hP hS hl) (fun hh => kf (by first | simpa only [Int32.le_iff_toInt_le, z32] using hh | simpa [Int32.le_iff_toInt_le, z32] using hh) G p l e s m args below meth c H locs ls C hP hS hl)
theorem wa_if_geT {x : Int32} {off : Int} (tgt : Nat) (hd : decode k.2.1 pc = .ok (.ifCond .ge off, 3)) (ht : (pc : Int) + off = (tgt : Int)) (h : 0 ≤ x.toInt) (kt : WA k d Q tgt lv st μ) : WA k d Q pc lv (.int x :: st) μ := wa_if_ge tgt hd ht (fun _ => kt) (fun hh => absurd h hh)
theorem wa_if_geF {x : Int32} {off : Int} (tgt : Nat) (hd : decode k.2.1 pc = .ok (.ifCond .ge off, 3)) (ht : (pc : Int) + off = (tgt : Int)) (h : ¬ 0 ≤ x.toInt) (kf : WA k d Q (pc + 3) lv st μ) : WA k d Q pc lv (.int x :: st) μ := wa_if_ge tgt hd ht (fun hh => absurd hh h) (fun _ => kf)
theorem wa_ic_ge {x y : Int32} {off : Int} (tgt : Nat) (hd : decode k.2.1 pc = .ok (.if_icmp .ge off, 3)) (ht : (pc : Int) + off = (tgt : Int)) (kt : y.toInt ≤ x.toInt → WA k d Q tgt lv st μ) (kf : ¬ y.toInt ≤ x.toInt → WA k d Q (pc + 3) lv st μ) : WA k d Q pc lv (.int y :: .int x :: st) μ :=
  fun G p l e s m args below meth c H locs ls C hP hS hl => lv_icmp_ge C.1 C.2.1 hd ht (fun hh => kt (by first | simpa only [Int32.le_iff_toInt_le, z32] using hh | simpa [Int32.le_iff_toInt_le, z32] using hh) G p l e s m args below meth c H locs ls C hP hS hl) (fun hh => kf (by first | simpa only [Int32.le_iff_toInt_le, z32] using hh | simpa [Int32.le_iff_toInt_le, z32] using hh) G p l e s m args below meth c H locs ls C hP hS hl)
theorem wa_ic_geT {x y : Int32} {off : Int} (tgt : Nat) (hd : decode k.2.1 pc = .ok (.if_icmp .ge off, 3)) (ht : (pc : Int) + off = (tgt : Int)) (h : y.toInt ≤ x.toInt) (kt : WA k d Q tgt lv st μ) : WA k d Q pc lv (.int y :: .int x :: st) μ := wa_ic_ge tgt hd ht (fun _ => kt) (fun hh => absurd h hh)
theorem wa_ic_geF {x y : Int32} {off : Int} (tgt : Nat) (hd : decode k.2.1 pc = .ok (.if_icmp .ge off, 3)) (ht : (pc : Int) + off = (tgt : Int)) (h : ¬ y.toInt ≤ x.toInt) (kf : WA k d Q (pc + 3) lv st μ) : WA k d Q pc lv (.int y :: .int x :: st) μ := wa_ic_ge tgt hd ht (fun hh => absurd hh h) (fun _ => kf)
theorem wa_if_gt {x : Int32} {off : Int} (tgt : Nat) (hd : decode k.2.1 pc = .ok (.ifCond .gt off, 3)) (ht : (pc : Int) + off = (tgt : Int)) (kt : 0 < x.toInt → WA k d Q tgt lv st μ) (kf : ¬ 0 < x.toInt → WA k d Q (pc + 3) lv st μ) : WA k d Q pc lv (.int x :: st) μ :=
  fun G p l e s m args below meth c H locs ls C hP hS hl => lv_if_gt C.1 C.2.1 hd ht (fun hh => kt (by first | simpa only [Int32.lt_iff_toInt_lt, z32] using hh | simpa [Int32.lt_iff_toInt_lt, z32] using hh) G p l e s m args below meth c H locs ls C hP hS hl) (fun hh => kf (by first | simpa only [Int32.lt_iff_toInt_lt, z32] using hh | simpa [Int32.lt_iff_toInt_lt, z32] using hh) G p l e s m args below meth c H locs ls C hP hS hl)
theorem wa_if_gtT {x : Int32} {off : Int} (tgt : Nat) (hd : decode k.2.1 pc = .ok (.ifCond .gt off, 3)) (ht : (pc : Int) + off = (tgt : Int)) (h : 0 < x.toInt) (kt : WA k d Q tgt lv st μ) : WA k d Q pc lv (.int x :: st) μ := wa_if_gt tgt hd ht (fun _ => kt) (fun hh => absurd h hh)
theorem wa_if_gtF {x : Int32} {off : Int} (tgt : Nat) (hd : decode k.2.1 pc = .ok (.ifCond .gt off, 3)) (ht : (pc : Int) + off = (tgt : Int)) (h : ¬ 0 < x.toInt) (kf : WA k d Q (pc + 3) lv st μ) : WA k d Q pc lv (.int x :: st) μ := wa_if_gt tgt hd ht (fun hh => absurd hh h) (fun _ => kf)
theorem wa_ic_gt {x y : Int32} {off : Int} (tgt : Nat) (hd : decode k.2.1 pc = .ok (.if_icmp .gt off, 3)) (ht : (pc : Int) + off = (tgt : Int)) (kt : y.toInt < x.toInt → WA k d Q tgt lv st μ) (kf : ¬ y.toInt < x.toInt → WA k d Q (pc + 3) lv st μ) : WA k d Q pc lv (.int y :: .int x :: st) μ :=
  fun G p l e s m args below meth c H locs ls C hP hS hl => lv_icmp_gt C.1 C.2.1 hd ht (fun hh => kt (by first | simpa only [Int32.lt_iff_toInt_lt, z32] using hh | simpa [Int32.lt_iff_toInt_lt, z32] using hh) G p l e s m args below meth c H locs ls C hP hS hl) (fun hh => kf (by first | simpa only [Int32.lt_iff_toInt_lt, z32] using hh | simpa [Int32.lt_iff_toInt_lt, z32] using hh) G p l e s m args below meth c H locs ls C hP hS hl)
theorem wa_ic_gtT {x y : Int32} {off : Int} (tgt : Nat) (hd : decode k.2.1 pc = .ok (.if_icmp .gt off, 3)) (ht : (pc : Int) + off = (tgt : Int)) (h : y.toInt < x.toInt) (kt : WA k d Q tgt lv st μ) : WA k d Q pc lv (.int y :: .int x :: st) μ := wa_ic_gt tgt hd ht (fun _ => kt) (fun hh => absurd h hh)
theorem wa_ic_gtF {x y : Int32} {off : Int} (tgt : Nat) (hd : decode k.2.1 pc = .ok (.if_icmp .gt off, 3)) (ht : (pc : Int) + off = (tgt : Int)) (h : ¬ y.toInt < x.toInt) (kf : WA k d Q (pc + 3) lv st μ) : WA k d Q pc lv (.int y :: .int x :: st) μ := wa_ic_gt tgt hd ht (fun hh => absurd hh h) (fun _ => kf)
theorem wa_if_le {x : Int32} {off : Int} (tgt : Nat) (hd : decode k.2.1 pc = .ok (.ifCond .le off, 3)) (ht : (pc : Int) + off = (tgt : Int)) (kt : x.toInt ≤ 0 → WA k d Q tgt lv st μ) (kf : ¬ x.toInt ≤ 0 → WA k d Q (pc + 3) lv st μ) : WA k d Q pc lv (.int x :: st) μ :=
  fun G p l e s m args below meth c H locs ls C hP hS hl => lv_if_le C.1 C.2.1 hd ht (fun hh => kt (by first | simpa only [Int32.le_iff_toInt_le, z32] using hh | simpa [Int32.le_iff_toInt_le, z32] using hh) G p l e s m args below meth c H locs ls C hP hS hl) (fun hh => kf (by first | simpa only [Int32.le_iff_toInt_le, z32] using hh | simpa [Int32.le_iff_toInt_le, z32] using hh) G p l e s m args below meth c H locs ls C hP hS hl)
theorem wa_if_leT {x : Int32} {off : Int} (tgt : Nat) (hd : decode k.2.1 pc = .ok (.ifCond .le off, 3)) (ht : (pc : Int) + off = (tgt : Int)) (h : x.toInt ≤ 0) (kt : WA k d Q tgt lv st μ) : WA k d Q pc lv (.int x :: st) μ := wa_if_le tgt hd ht (fun _ => kt) (fun hh => absurd h hh)
theorem wa_if_leF {x : Int32} {off : Int} (tgt : Nat) (hd : decode k.2.1 pc = .ok (.ifCond .le off, 3)) (ht : (pc : Int) + off = (tgt : Int)) (h : ¬ x.toInt ≤ 0) (kf : WA k d Q (pc + 3) lv st μ) : WA k d Q pc lv (.int x :: st) μ := wa_if_le tgt hd ht (fun hh => absurd hh h) (fun _ => kf)
theorem wa_ic_le {x y : Int32} {off : Int} (tgt : Nat) (hd : decode k.2.1 pc = .ok (.if_icmp .le off, 3)) (ht : (pc : Int) + off = (tgt : Int)) (kt : x.toInt ≤ y.toInt → WA k d Q tgt lv st μ) (kf : ¬ x.toInt ≤ y.toInt → WA k d Q (pc + 3) lv st μ) : WA k d Q pc lv (.int y :: .int x :: st) μ :=
  fun G p l e s m args below meth c H locs ls C hP hS hl => lv_icmp_le C.1 C.2.1 hd ht (fun hh => kt (by first | simpa only [Int32.le_iff_toInt_le, z32] using hh | simpa [Int32.le_iff_toInt_le, z32] using hh) G p l e s m args below meth c H locs ls C hP hS hl) (fun hh => kf (by first | simpa only [Int32.le_iff_toInt_le, z32] using hh | simpa [Int32.le_iff_toInt_le, z32] using hh) G p l e s m args below meth c H locs ls C hP hS hl)
theorem wa_ic_leT {x y : Int32} {off : Int} (tgt : Nat) (hd : decode k.2.1 pc = .ok (.if_icmp .le off, 3)) (ht : (pc : Int) + off = (tgt : Int)) (h : x.toInt ≤ y.toInt) (kt : WA k d Q tgt lv st μ) : WA k d Q pc lv (.int y :: .int x :: st) μ := wa_ic_le tgt hd ht (fun _ => kt) (fun hh => absurd h hh)
theorem wa_ic_leF {x y : Int32} {off : Int} (tgt : Nat) (hd : decode k.2.1 pc = .ok (.if_icmp .le off, 3)) (ht : (pc : Int) + off = (tgt : Int)) (h : ¬ x.toInt ≤ y.toInt) (kf : WA k d Q (pc + 3) lv st μ) : WA k d Q pc lv (.int y :: .int x :: st) μ := wa_ic_le tgt hd ht (fun hh => absurd hh h) (fun _ => kf)
theorem lgc_lt (x y : Int64) : (lg_cmp x y).toInt < 0 ↔ x.toInt < y.toInt := by
  unfold lg_cmp
  simp only [gt_iff_lt, Int64.lt_iff_toInt_lt, ← Int64.toInt_inj]
  have a1 : (1 : Int32).toInt = 1 := by decide
  have a2 : (-1 : Int32).toInt = -1 := by decide
  repeat' split
  all_goals first | rw [a1] | rw [a2] | rw [z32]
  all_goals omega
theorem lgc_eq (x y : Int64) : (lg_cmp x y).toInt = 0 ↔ x.toInt = y.toInt := by
  unfold lg_cmp
  simp only [gt_iff_lt, Int64.lt_iff_toInt_lt, ← Int64.toInt_inj]
  have a1 : (1 : Int32).toInt = 1 := by decide
  have a2 : (-1 : Int32).toInt = -1 := by decide
  repeat' split
  all_goals first | rw [a1] | rw [a2] | rw [z32]
  all_goals omega
theorem lgc_gt (x y : Int64) : 0 < (lg_cmp x y).toInt ↔ y.toInt < x.toInt := by
  unfold lg_cmp
  simp only [gt_iff_lt, Int64.lt_iff_toInt_lt, ← Int64.toInt_inj]
  have a1 : (1 : Int32).toInt = 1 := by decide
  have a2 : (-1 : Int32).toInt = -1 := by decide
  repeat' split
  all_goals first | rw [a1] | rw [a2] | rw [z32]
  all_goals omega
theorem lgc_ge (x y : Int64) : 0 ≤ (lg_cmp x y).toInt ↔ y.toInt ≤ x.toInt := by
  have := lgc_lt x y
  omega
theorem lgc_le (x y : Int64) : (lg_cmp x y).toInt ≤ 0 ↔ x.toInt ≤ y.toInt := by
  have := lgc_gt x y
  omega
theorem wa_lc_eq {x y : Int64} {off : Int} (tgt : Nat) (hd : decode k.2.1 pc = .ok (.lcmp, 1)) (hd2 : decode k.2.1 (pc + 1) = .ok (.ifCond .eq off, 3)) (ht : ((pc + 1 : Nat) : Int) + off = (tgt : Int)) (kt : x.toInt = y.toInt → WA k d Q tgt lv st μ) (kf : ¬ x.toInt = y.toInt → WA k d Q (pc + 4) lv st μ) : WA k d Q pc lv (.long y :: .long x :: st) μ :=
  wa_lcmp hd (wa_if_eq tgt hd2 ht (fun hh => kt (by rw [lgc_eq] at hh; exact hh)) (fun hh => kf (by rw [lgc_eq] at hh; exact hh)))
theorem wa_lc_eqT {x y : Int64} {off : Int} (tgt : Nat) (hd : decode k.2.1 pc = .ok (.lcmp, 1)) (hd2 : decode k.2.1 (pc + 1) = .ok (.ifCond .eq off, 3)) (ht : ((pc + 1 : Nat) : Int) + off = (tgt : Int)) (h : x.toInt = y.toInt) (kt : WA k d Q tgt lv st μ) : WA k d Q pc lv (.long y :: .long x :: st) μ := wa_lc_eq tgt hd hd2 ht (fun _ => kt) (fun hh => absurd h hh)
theorem wa_lc_eqF {x y : Int64} {off : Int} (tgt : Nat) (hd : decode k.2.1 pc = .ok (.lcmp, 1)) (hd2 : decode k.2.1 (pc + 1) = .ok (.ifCond .eq off, 3)) (ht : ((pc + 1 : Nat) : Int) + off = (tgt : Int)) (h : ¬ x.toInt = y.toInt) (kf : WA k d Q (pc + 4) lv st μ) : WA k d Q pc lv (.long y :: .long x :: st) μ := wa_lc_eq tgt hd hd2 ht (fun hh => absurd hh h) (fun _ => kf)
theorem wa_lc_ne {x y : Int64} {off : Int} (tgt : Nat) (hd : decode k.2.1 pc = .ok (.lcmp, 1)) (hd2 : decode k.2.1 (pc + 1) = .ok (.ifCond .ne off, 3)) (ht : ((pc + 1 : Nat) : Int) + off = (tgt : Int)) (kt : ¬ x.toInt = y.toInt → WA k d Q tgt lv st μ) (kf : ¬ ¬ x.toInt = y.toInt → WA k d Q (pc + 4) lv st μ) : WA k d Q pc lv (.long y :: .long x :: st) μ :=
  wa_lcmp hd (wa_if_ne tgt hd2 ht (fun hh => kt (by rw [lgc_eq] at hh; exact hh)) (fun hh => kf (by rw [lgc_eq] at hh; exact hh)))
theorem wa_lc_neT {x y : Int64} {off : Int} (tgt : Nat) (hd : decode k.2.1 pc = .ok (.lcmp, 1)) (hd2 : decode k.2.1 (pc + 1) = .ok (.ifCond .ne off, 3)) (ht : ((pc + 1 : Nat) : Int) + off = (tgt : Int)) (h : ¬ x.toInt = y.toInt) (kt : WA k d Q tgt lv st μ) : WA k d Q pc lv (.long y :: .long x :: st) μ := wa_lc_ne tgt hd hd2 ht (fun _ => kt) (fun hh => absurd h hh)
theorem wa_lc_neF {x y : Int64} {off : Int} (tgt : Nat) (hd : decode k.2.1 pc = .ok (.lcmp, 1)) (hd2 : decode k.2.1 (pc + 1) = .ok (.ifCond .ne off, 3)) (ht : ((pc + 1 : Nat) : Int) + off = (tgt : Int)) (h : ¬ ¬ x.toInt = y.toInt) (kf : WA k d Q (pc + 4) lv st μ) : WA k d Q pc lv (.long y :: .long x :: st) μ := wa_lc_ne tgt hd hd2 ht (fun hh => absurd hh h) (fun _ => kf)
theorem wa_lc_lt {x y : Int64} {off : Int} (tgt : Nat) (hd : decode k.2.1 pc = .ok (.lcmp, 1)) (hd2 : decode k.2.1 (pc + 1) = .ok (.ifCond .lt off, 3)) (ht : ((pc + 1 : Nat) : Int) + off = (tgt : Int)) (kt : x.toInt < y.toInt → WA k d Q tgt lv st μ) (kf : ¬ x.toInt < y.toInt → WA k d Q (pc + 4) lv st μ) : WA k d Q pc lv (.long y :: .long x :: st) μ :=
  wa_lcmp hd (wa_if_lt tgt hd2 ht (fun hh => kt (by rw [lgc_lt] at hh; exact hh)) (fun hh => kf (by rw [lgc_lt] at hh; exact hh)))
theorem wa_lc_ltT {x y : Int64} {off : Int} (tgt : Nat) (hd : decode k.2.1 pc = .ok (.lcmp, 1)) (hd2 : decode k.2.1 (pc + 1) = .ok (.ifCond .lt off, 3)) (ht : ((pc + 1 : Nat) : Int) + off = (tgt : Int)) (h : x.toInt < y.toInt) (kt : WA k d Q tgt lv st μ) : WA k d Q pc lv (.long y :: .long x :: st) μ := wa_lc_lt tgt hd hd2 ht (fun _ => kt) (fun hh => absurd h hh)
theorem wa_lc_ltF {x y : Int64} {off : Int} (tgt : Nat) (hd : decode k.2.1 pc = .ok (.lcmp, 1)) (hd2 : decode k.2.1 (pc + 1) = .ok (.ifCond .lt off, 3)) (ht : ((pc + 1 : Nat) : Int) + off = (tgt : Int)) (h : ¬ x.toInt < y.toInt) (kf : WA k d Q (pc + 4) lv st μ) : WA k d Q pc lv (.long y :: .long x :: st) μ := wa_lc_lt tgt hd hd2 ht (fun hh => absurd hh h) (fun _ => kf)
theorem wa_lc_ge {x y : Int64} {off : Int} (tgt : Nat) (hd : decode k.2.1 pc = .ok (.lcmp, 1)) (hd2 : decode k.2.1 (pc + 1) = .ok (.ifCond .ge off, 3)) (ht : ((pc + 1 : Nat) : Int) + off = (tgt : Int)) (kt : y.toInt ≤ x.toInt → WA k d Q tgt lv st μ) (kf : ¬ y.toInt ≤ x.toInt → WA k d Q (pc + 4) lv st μ) : WA k d Q pc lv (.long y :: .long x :: st) μ :=
  wa_lcmp hd (wa_if_ge tgt hd2 ht (fun hh => kt (by rw [lgc_ge] at hh; exact hh)) (fun hh => kf (by rw [lgc_ge] at hh; exact hh)))
theorem wa_lc_geT {x y : Int64} {off : Int} (tgt : Nat) (hd : decode k.2.1 pc = .ok (.lcmp, 1)) (hd2 : decode k.2.1 (pc + 1) = .ok (.ifCond .ge off, 3)) (ht : ((pc + 1 : Nat) : Int) + off = (tgt : Int)) (h : y.toInt ≤ x.toInt) (kt : WA k d Q tgt lv st μ) : WA k d Q pc lv (.long y :: .long x :: st) μ := wa_lc_ge tgt hd hd2 ht (fun _ => kt) (fun hh => absurd h hh)
theorem wa_lc_geF {x y : Int64} {off : Int} (tgt : Nat) (hd : decode k.2.1 pc = .ok (.lcmp, 1)) (hd2 : decode k.2.1 (pc + 1) = .ok (.ifCond .ge off, 3)) (ht : ((pc + 1 : Nat) : Int) + off = (tgt : Int)) (h : ¬ y.toInt ≤ x.toInt) (kf : WA k d Q (pc + 4) lv st μ) : WA k d Q pc lv (.long y :: .long x :: st) μ := wa_lc_ge tgt hd hd2 ht (fun hh => absurd hh h) (fun _ => kf)
theorem wa_lc_gt {x y : Int64} {off : Int} (tgt : Nat) (hd : decode k.2.1 pc = .ok (.lcmp, 1)) (hd2 : decode k.2.1 (pc + 1) = .ok (.ifCond .gt off, 3)) (ht : ((pc + 1 : Nat) : Int) + off = (tgt : Int)) (kt : y.toInt < x.toInt → WA k d Q tgt lv st μ) (kf : ¬ y.toInt < x.toInt → WA k d Q (pc + 4) lv st μ) : WA k d Q pc lv (.long y :: .long x :: st) μ :=
  wa_lcmp hd (wa_if_gt tgt hd2 ht (fun hh => kt (by rw [lgc_gt] at hh; exact hh)) (fun hh => kf (by rw [lgc_gt] at hh; exact hh)))
theorem wa_lc_gtT {x y : Int64} {off : Int} (tgt : Nat) (hd : decode k.2.1 pc = .ok (.lcmp, 1)) (hd2 : decode k.2.1 (pc + 1) = .ok (.ifCond .gt off, 3)) (ht : ((pc + 1 : Nat) : Int) + off = (tgt : Int)) (h : y.toInt < x.toInt) (kt : WA k d Q tgt lv st μ) : WA k d Q pc lv (.long y :: .long x :: st) μ := wa_lc_gt tgt hd hd2 ht (fun _ => kt) (fun hh => absurd h hh)
theorem wa_lc_gtF {x y : Int64} {off : Int} (tgt : Nat) (hd : decode k.2.1 pc = .ok (.lcmp, 1)) (hd2 : decode k.2.1 (pc + 1) = .ok (.ifCond .gt off, 3)) (ht : ((pc + 1 : Nat) : Int) + off = (tgt : Int)) (h : ¬ y.toInt < x.toInt) (kf : WA k d Q (pc + 4) lv st μ) : WA k d Q pc lv (.long y :: .long x :: st) μ := wa_lc_gt tgt hd hd2 ht (fun hh => absurd hh h) (fun _ => kf)
theorem wa_lc_le {x y : Int64} {off : Int} (tgt : Nat) (hd : decode k.2.1 pc = .ok (.lcmp, 1)) (hd2 : decode k.2.1 (pc + 1) = .ok (.ifCond .le off, 3)) (ht : ((pc + 1 : Nat) : Int) + off = (tgt : Int)) (kt : x.toInt ≤ y.toInt → WA k d Q tgt lv st μ) (kf : ¬ x.toInt ≤ y.toInt → WA k d Q (pc + 4) lv st μ) : WA k d Q pc lv (.long y :: .long x :: st) μ :=
  wa_lcmp hd (wa_if_le tgt hd2 ht (fun hh => kt (by rw [lgc_le] at hh; exact hh)) (fun hh => kf (by rw [lgc_le] at hh; exact hh)))
theorem wa_lc_leT {x y : Int64} {off : Int} (tgt : Nat) (hd : decode k.2.1 pc = .ok (.lcmp, 1)) (hd2 : decode k.2.1 (pc + 1) = .ok (.ifCond .le off, 3)) (ht : ((pc + 1 : Nat) : Int) + off = (tgt : Int)) (h : x.toInt ≤ y.toInt) (kt : WA k d Q tgt lv st μ) : WA k d Q pc lv (.long y :: .long x :: st) μ := wa_lc_le tgt hd hd2 ht (fun _ => kt) (fun hh => absurd h hh)
theorem wa_lc_leF {x y : Int64} {off : Int} (tgt : Nat) (hd : decode k.2.1 pc = .ok (.lcmp, 1)) (hd2 : decode k.2.1 (pc + 1) = .ok (.ifCond .le off, 3)) (ht : ((pc + 1 : Nat) : Int) + off = (tgt : Int)) (h : ¬ x.toInt ≤ y.toInt) (kf : WA k d Q (pc + 4) lv st μ) : WA k d Q pc lv (.long y :: .long x :: st) μ := wa_lc_le tgt hd hd2 ht (fun hh => absurd hh h) (fun _ => kf)
theorem wa_tsO {x : Int32} {dflt lo hi : Int} {offs : Array Int} {len : Nat} (tgt : Nat) (hd : decode k.2.1 pc = .ok (.tableswitch dflt lo hi offs, len)) (h : x.toInt < lo ∨ hi < x.toInt) (ht : (pc : Int) + dflt = (tgt : Int)) (kk : WA k d Q tgt lv st μ) : WA k d Q pc lv (.int x :: st) μ :=
  fun G p l e s m args below meth c H locs ls C hP hS hl => lv_tableOut C.1 C.2.1 hd h ht (kk G p l e s m args below meth c H locs ls C hP hS hl)
theorem wa_tsI {x : Int32} {dflt lo hi : Int} {offs : Array Int} {len : Nat} {off : Int} (tgt : Nat) (v : Int) (hd : decode k.2.1 pc = .ok (.tableswitch dflt lo hi offs, len)) (hv : x.toInt = v) (h1 : ¬ v < lo) (h2 : ¬ hi < v) (ho : offs[(v - lo).toNat]? = some off) (ht : (pc : Int) + off = (tgt : Int)) (kk : WA k d Q tgt lv st μ) : WA k d Q pc lv (.int x :: st) μ :=
  fun G p l e s m args below meth c H locs ls C hP hS hl => lv_tableIn C.1 C.2.1 hd (by rw [hv]; exact h1) (by rw [hv]; exact h2) (by rw [hv]; exact ho) ht (kk G p l e s m args below meth c H locs ls C hP hS hl)
theorem wa_ls {x : Int32} {dflt : Int} {ps : Array (Int × Int)} {len : Nat} {off : Int} (tgt : Nat) (hd : decode k.2.1 pc = .ok (.lookupswitch dflt ps, len)) (hp : (ps.toList.zip (ps.toList.drop 1)).all (fun (a, next) => a.1 < next.1) = true) (ho : Op.lookupswitch.offset ps.toList dflt x.toInt = off) (ht : (pc : Int) + off = (tgt : Int)) (kk : WA k d Q tgt lv st μ) : WA k d Q pc lv (.int x :: st) μ :=
  fun G p l e s m args below meth c H locs ls C hP hS hl => lv_lookup C.1 C.2.1 hd hp ho ht (kk G p l e s m args below meth c H locs ls C hP hS hl)
theorem wa_iret {x : Int32} {lvx : List (Option Value)} (hd : decode k.2.1 pc = .ok (.ireturn, 1)) (hr : k.2.2.2 = some .int) (hq : Q (some (.int x)) μ) : WA k d Q pc lvx [.int x] μ :=
  fun G p l e s m args below meth c H locs ls C hP hS hl => W.iret (v := x) C.1 C.2.1 (C.2.2.1.trans hr) (fun t ht hW => ⟨⟨some (.int x), μ, rfl, hq, by rw [ht]; exact hP⟩, hS.F ht⟩) hS.2.2 hd C.2.2.2.2.2.1
theorem wa_zret {x : Int32} {lvx : List (Option Value)} (hd : decode k.2.1 pc = .ok (.ireturn, 1)) (hr : k.2.2.2 = some .boolean) (hx : x &&& 1 = x) (hq : Q (some (.int x)) μ) : WA k d Q pc lvx [.int x] μ :=
  fun G p l e s m args below meth c H locs ls C hP hS hl => W.zret (v := x) C.1 C.2.1 (C.2.2.1.trans hr) (by show Value.int (x &&& 1) = _; rw [hx]) (fun t ht hW => ⟨⟨some (.int x), μ, rfl, hq, by rw [ht]; exact hP⟩, hS.F ht⟩) hS.2.2 hd C.2.2.2.2.2.1
theorem wa_lret {x : Int64} {lvx : List (Option Value)} (hd : decode k.2.1 pc = .ok (.lreturn, 1)) (hr : k.2.2.2 = some .long) (hq : Q (some (.long x)) μ) : WA k d Q pc lvx [.long x] μ :=
  fun G p l e s m args below meth c H locs ls C hP hS hl => W.lret (v := x) C.1 C.2.1 (C.2.2.1.trans hr) (fun t ht hW => ⟨⟨some (.long x), μ, rfl, hq, by rw [ht]; exact hP⟩, hS.F ht⟩) hS.2.2 hd C.2.2.2.2.2.1
theorem wa_vret {lvx : List (Option Value)} (hd : decode k.2.1 pc = .ok (.return_, 1)) (hr : k.2.2.2 = none) (hq : Q none μ) : WA k d Q pc lvx [] μ :=
  fun G p l e s m args below meth c H locs ls C hP hS hl => W.vret C.1 C.2.1 (C.2.2.1.trans hr) (fun t ht hW => ⟨⟨none, μ, rfl, hq, by rw [ht]; exact hP⟩, hS.F ht⟩) hS.2.2 hd C.2.2.2.2.2.1
/-- a field's words: read; written -/
def fG (own : String) (idx ci j : Nat) : Prop := ∃ (C : String) (T : u_T) (N : Nat), vwCl[ci]? = some (C, T, N) ∧ (∀ w ∈ u_ws C T N, w ∈ wT) ∧ j < N ∧ Cond.fieldLink own idx (T j).1 (T j).2.1 (T j).2.2.1 ∈ wT
def fW (ci j : Nat) (ty : FieldType) : Prop := ∃ (C : String) (T : u_T) (N : Nat) (ty0 : Nat → FieldType), vwCl[ci]? = some (C, T, N) ∧ (∀ i, i < N → parseFieldDescriptor (T i).2.2.1 = some (ty0 i)) ∧ (∀ a, a < N → ∀ b, b < N → a ≠ b → (T a).2.1 ≠ (T b).2.1) ∧ (T j).2.2.2 = false ∧ parseFieldDescriptor (T j).2.2.1 = some ty
theorem wa_getI {t ci j idx : Nat} {sl : List Value} {z : Int32} (hd : decode k.2.1 pc = .ok (.getfield idx, 3)) (hf : fG k.1.cls idx ci j) (hsh : shp t = .inr (ci, sl)) (hj : sl[j]? = some (.int z)) (kk : WA k d Q (pc + 3) lv (.int (μ.1 t j) :: st) μ) : WA k d Q pc lv (.ref t :: st) μ := by
  intro G p l e s m args below meth c H locs ls C hP hS hl
  obtain ⟨Cn, T, N, hc, hin, hjN, hlk⟩ := hf
  exact va_get (v := .int (μ.1 t j)) C.1 C.2.1 C.2.2.2.1 (fun w h => List.mem_cons_of_mem _ (hin w h)) C.2.2.2.2.1 C.2.2.2.2.2.2.2.2.1 hP t (ws_r hsh) hc j hjN (C.2.2.2.1 _ (List.mem_cons_of_mem _ hlk)) (fun _ h => h) (fsOf_get hj) hd (kk G p l e s m args below meth c H locs ls C hP hS hl)
theorem wa_getL {t ci j idx : Nat} {sl : List Value} {z : Int64} (hd : decode k.2.1 pc = .ok (.getfield idx, 3)) (hf : fG k.1.cls idx ci j) (hsh : shp t = .inr (ci, sl)) (hj : sl[j]? = some (.long z)) (kk : WA k d Q (pc + 3) lv (.long (μ.2 t j) :: st) μ) : WA k d Q pc lv (.ref t :: st) μ := by
  intro G p l e s m args below meth c H locs ls C hP hS hl
  obtain ⟨Cn, T, N, hc, hin, hjN, hlk⟩ := hf
  exact va_get (v := .long (μ.2 t j)) C.1 C.2.1 C.2.2.2.1 (fun w h => List.mem_cons_of_mem _ (hin w h)) C.2.2.2.2.1 C.2.2.2.2.2.2.2.2.1 hP t (ws_r hsh) hc j hjN (C.2.2.2.1 _ (List.mem_cons_of_mem _ hlk)) (fun _ h => h) (fsOf_get hj) hd (kk G p l e s m args below meth c H locs ls C hP hS hl)
theorem wa_getR {t ci j idx u : Nat} {sl : List Value} (hd : decode k.2.1 pc = .ok (.getfield idx, 3)) (hf : fG k.1.cls idx ci j) (hsh : shp t = .inr (ci, sl)) (hj : sl[j]? = some (.ref u)) (kk : WA k d Q (pc + 3) lv (.ref u :: st) μ) : WA k d Q pc lv (.ref t :: st) μ := by
  intro G p l e s m args below meth c H locs ls C hP hS hl
  obtain ⟨Cn, T, N, hc, hin, hjN, hlk⟩ := hf
  exact va_get (v := .ref (G.2.1 u)) C.1 C.2.1 C.2.2.2.1 (fun w h => List.mem_cons_of_mem _ (hin w h)) C.2.2.2.2.1 C.2.2.2.2.2.2.2.2.1 hP t (ws_r hsh) hc j hjN (C.2.2.2.1 _ (List.mem_cons_of_mem _ hlk)) (fun _ h => h) (fsOf_get hj) hd (kk G p l e s m args below meth c H locs ls C hP hS hl)
theorem wa_putX {t ci j idx : Nat} {sl : List Value} {x z : Int32} {ty : FieldType} (hd : decode k.2.1 pc = .ok (.putfield idx, 3)) (hf : fG k.1.cls idx ci j) (hw : fW ci j ty) (hn : narrow ty (.int x) = .int x) (hfit : fits ty (.int x) = true) (hsh : shp t = .inr (ci, sl)) (hj : sl[j]? = some (.int z)) (kk : WA k d Q (pc + 3) lv st (sI μ t j x)) : WA k d Q pc lv (.int x :: .ref t :: st) μ := by
  intro G p l e s m args below meth c H locs ls C hP hS hl
  obtain ⟨Cn, T, N, hc, hin, hjN, hlk⟩ := hf
  obtain ⟨Cn', T', N', ty0, hc', hty, hnm, hfin, hpt⟩ := hw
  cases hc.symm.trans hc'
  refine va_put (v := .int x) (ty := ty) C.1 C.2.1 C.2.2.2.1 (fun w h => List.mem_cons_of_mem _ (hin w h)) ty0 hty hnm C.2.2.2.2.1 C.2.2.2.2.2.2.2.2.1 hP C.2.2.2.2.2.2.2.1.D hS t (ws_r hsh) hc j hjN (C.2.2.2.1 _ (List.mem_cons_of_mem _ hlk)) (fun _ h => h) hfin hpt hn hfit (by rw [fsOf_len]; exact (List.getElem?_eq_some_iff.mp hj).1) hd (fun H1 locs1 hP1 _ hS1 => ?_)
  rw [ws_setI hsh hj] at hP1
  exact kk G p l e s m args below meth c H1 locs1 ls C hP1 hS1 hl
theorem wa_putI {t ci j idx : Nat} {sl : List Value} {x z : Int32} (hd : decode k.2.1 pc = .ok (.putfield idx, 3)) (hf : fG k.1.cls idx ci j) (hw : fW ci j .int) (hsh : shp t = .inr (ci, sl)) (hj : sl[j]? = some (.int z)) (kk : WA k d Q (pc + 3) lv st (sI μ t j x)) : WA k d Q pc lv (.int x :: .ref t :: st) μ := wa_putX hd hf hw rfl rfl hsh hj kk
theorem wa_putZ {t ci j idx : Nat} {sl : List Value} {x z : Int32} (hd : decode k.2.1 pc = .ok (.putfield idx, 3)) (hf : fG k.1.cls idx ci j) (hw : fW ci j .boolean) (hsh : shp t = .inr (ci, sl)) (hj : sl[j]? = some (.int z)) (hx : x = nI 0 ∨ x = nI 1) (kk : WA k d Q (pc + 3) lv st (sI μ t j x)) : WA k d Q pc lv (.int x :: .ref t :: st) μ := by
  refine wa_putX hd hf hw ?_ ?_ hsh hj kk <;> rcases hx with rfl | rfl <;> rfl
theorem wa_putL {t ci j idx : Nat} {sl : List Value} {x z : Int64} (hd : decode k.2.1 pc = .ok (.putfield idx, 3)) (hf : fG k.1.cls idx ci j) (hw : fW ci j .long) (hsh : shp t = .inr (ci, sl)) (hj : sl[j]? = some (.long z)) (kk : WA k d Q (pc + 3) lv st (sL μ t j x)) : WA k d Q pc lv (.long x :: .ref t :: st) μ := by
  intro G p l e s m args below meth c H locs ls C hP hS hl
  obtain ⟨Cn, T, N, hc, hin, hjN, hlk⟩ := hf
  obtain ⟨Cn', T', N', ty0, hc', hty, hnm, hfin, hpt⟩ := hw
  cases hc.symm.trans hc'
  refine va_put (v := .long x) (ty := .long) C.1 C.2.1 C.2.2.2.1 (fun w h => List.mem_cons_of_mem _ (hin w h)) ty0 hty hnm C.2.2.2.2.1 C.2.2.2.2.2.2.2.2.1 hP C.2.2.2.2.2.2.2.1.D hS t (ws_r hsh) hc j hjN (C.2.2.2.1 _ (List.mem_cons_of_mem _ hlk)) (fun _ h => h) hfin hpt rfl rfl (by rw [fsOf_len]; exact (List.getElem?_eq_some_iff.mp hj).1) hd (fun H1 locs1 hP1 _ hS1 => ?_)
  rw [ws_setL hsh hj] at hP1
  exact kk G p l e s m args below meth c H1 locs1 ls C hP1 hS1 hl
theorem wa_iald {t n : Nat} {i : Int32} (j : Nat) (hd : decode k.2.1 pc = .ok (.iaload, 1)) (hsh : shp t = .inl (1, n)) (hi : i = nI j) (hj : j < n) (kk : WA k d Q (pc + 1) lv (.int (μ.1 t j) :: st) μ) : WA k d Q pc lv (.int i :: .ref t :: st) μ := by
  intro G p l e s m args below meth c H locs ls C hP hS hl
  have hn := shp_n hsh
  have e2 : (nI j).toNatClampNeg = j := nI_clamp (by omega)
  subst hi
  refine va_iald C.1 C.2.1 C.2.2.2.2.2.2.2.2.1 hP t 1 (ws_aI hsh (by omega)) rfl (vp_in_nI hj (by omega)) hd ?_
  rw [e2]
  exact kk G p l e s m args below meth c H locs ls C hP hS hl
theorem wa_zald {t n : Nat} {i : Int32} (j : Nat) (hd : decode k.2.1 pc = .ok (.baload, 1)) (hsh : shp t = .inl (0, n)) (hi : i = nI j) (hj : j < n) (kk : WA k d Q (pc + 1) lv (.int (μ.1 t j) :: st) μ) : WA k d Q pc lv (.int i :: .ref t :: st) μ := by
  intro G p l e s m args below meth c H locs ls C hP hS hl
  have hn := shp_n hsh
  have e2 : (nI j).toNatClampNeg = j := nI_clamp (by omega)
  subst hi
  refine va_zald C.1 C.2.1 C.2.2.2.2.2.2.2.2.1 hP t 0 (ws_aI hsh (by omega)) rfl (vp_in_nI hj (by omega)) hd ?_
  rw [e2]
  exact kk G p l e s m args below meth c H locs ls C hP hS hl
theorem wa_lald {t n : Nat} {i : Int32} (j : Nat) (hd : decode k.2.1 pc = .ok (.laload, 1)) (hsh : shp t = .inl (2, n)) (hi : i = nI j) (hj : j < n) (kk : WA k d Q (pc + 1) lv (.long (μ.2 t j) :: st) μ) : WA k d Q pc lv (.int i :: .ref t :: st) μ := by
  intro G p l e s m args below meth c H locs ls C hP hS hl
  have hn := shp_n hsh
  have e2 : (nI j).toNatClampNeg = j := nI_clamp (by omega)
  subst hi
  refine va_lald C.1 C.2.1 C.2.2.2.2.2.2.2.2.1 hP t 2 (ws_aL hsh) rfl (vp_in_nI hj (by omega)) hd ?_
  rw [e2]
  exact kk G p l e s m args below meth c H locs ls C hP hS hl
theorem wa_aalS {t n : Nat} {i : Int32} (j : Nat) (hd : decode k.2.1 pc = .ok (.aaload, 1)) (hsh : shp t = .inl (3, n)) (hi : i = nI j) (hj : j < n) (kk : WA k d Q (pc + 1) lv (.ref (arf t j) :: st) μ) : WA k d Q pc lv (.int i :: .ref t :: st) μ := by
  intro G p l e s m args below meth c H locs ls C hP hS hl
  have hn := shp_n hsh
  have e2 : (nI j).toNatClampNeg = j := nI_clamp (by omega)
  subst hi
  refine va_aldq C.1 C.2.1 C.2.2.2.2.2.2.2.2.1 hP t 3 (ws_aR hsh (by omega) (by omega)) rfl (vp_in_nI hj (by omega)) hd ?_
  rw [e2]
  exact kk G p l e s m args below meth c H locs ls C hP hS hl
theorem wa_aalR {t n : Nat} {i : Int32} (j : Nat) (hd : decode k.2.1 pc = .ok (.aaload, 1)) (hsh : shp t = .inl (4, n)) (hi : i = nI j) (hj : j < n) (kk : WA k d Q (pc + 1) lv (.ref (arf t j) :: st) μ) : WA k d Q pc lv (.int i :: .ref t :: st) μ := by
  intro G p l e s m args below meth c H locs ls C hP hS hl
  have hn := shp_n hsh
  have e2 : (nI j).toNatClampNeg = j := nI_clamp (by omega)
  subst hi
  refine va_aldq C.1 C.2.1 C.2.2.2.2.2.2.2.2.1 hP t 4 (ws_aR hsh (by omega) (by omega)) rfl (vp_in_nI hj (by omega)) hd ?_
  rw [e2]
  exact kk G p l e s m args below meth c H locs ls C hP hS hl
theorem wa_iast {t n : Nat} {i : Int32} {x : Int32} (j : Nat) (hd : decode k.2.1 pc = .ok (.iastore, 1)) (hsh : shp t = .inl (1, n)) (hi : i = nI j) (hj : j < n) (kk : WA k d Q (pc + 1) lv st (sI μ t j x)) : WA k d Q pc lv (.int x :: .int i :: .ref t :: st) μ := by
  intro G p l e s m args below meth c H locs ls C hP hS hl
  have hn := shp_n hsh
  have e2 : (nI j).toNatClampNeg = j := nI_clamp (by omega)
  subst hi
  refine va_iast C.1 C.2.1 C.2.2.2.2.2.2.2.2.1 hP C.2.2.2.2.2.2.2.1.D hS t 1 (ws_aI hsh (by omega)) rfl (vp_in_nI hj (by omega)) hd (fun H1 locs1 hP1 _ hS1 => ?_)
  rw [e2, ws_bI hsh (by omega), sI_bI] at hP1
  exact kk G p l e s m args below meth c H1 locs1 ls C hP1 hS1 hl
theorem wa_zast {t n : Nat} {i : Int32} {x : Int32} (j : Nat) (hd : decode k.2.1 pc = .ok (.bastore, 1)) (hsh : shp t = .inl (0, n)) (hi : i = nI j) (hj : j < n) (hx : x = nI 0 ∨ x = nI 1) (kk : WA k d Q (pc + 1) lv st (sI μ t j x)) : WA k d Q pc lv (.int x :: .int i :: .ref t :: st) μ := by
  intro G p l e s m args below meth c H locs ls C hP hS hl
  have hn := shp_n hsh
  have e2 : (nI j).toNatClampNeg = j := nI_clamp (by omega)
  subst hi
  refine va_zast C.1 C.2.1 C.2.2.2.2.2.2.2.2.1 hP C.2.2.2.2.2.2.2.1.D hS t 0 (ws_aI hsh (by omega)) rfl (vp_in_nI hj (by omega)) hd (fun H1 locs1 hP1 _ hS1 => ?_)
  rw [e2, show vp_nar .boolean x = x by rcases hx with rfl | rfl <;> rfl, ws_bI hsh (by omega), sI_bI] at hP1
  exact kk G p l e s m args below meth c H1 locs1 ls C hP1 hS1 hl
theorem wa_last {t n : Nat} {i : Int32} {x : Int64} (j : Nat) (hd : decode k.2.1 pc = .ok (.lastore, 1)) (hsh : shp t = .inl (2, n)) (hi : i = nI j) (hj : j < n) (kk : WA k d Q (pc + 1) lv st (sL μ t j x)) : WA k d Q pc lv (.long x :: .int i :: .ref t :: st) μ := by
  intro G p l e s m args below meth c H locs ls C hP hS hl
  have hn := shp_n hsh
  have e2 : (nI j).toNatClampNeg = j := nI_clamp (by omega)
  subst hi
  refine va_last C.1 C.2.1 C.2.2.2.2.2.2.2.2.1 hP C.2.2.2.2.2.2.2.1.D hS t 2 (ws_aL hsh) rfl (vp_in_nI hj (by omega)) hd (fun H1 locs1 hP1 _ hS1 => ?_)
  rw [e2, ws_bL hsh, sL_bL] at hP1
  exact kk G p l e s m args below meth c H1 locs1 ls C hP1 hS1 hl
theorem wa_alenI {t n : Nat} (hd : decode k.2.1 pc = .ok (.arraylength, 1)) (hsh : shp t = .inl (1, n)) (kk : WA k d Q (pc + 1) lv (.int (nI n) :: st) μ) : WA k d Q pc lv (.ref t :: st) μ := by
  intro G p l e s m args below meth c H locs ls C hP hS hl
  exact va_alen C.1 C.2.1 C.2.2.2.2.2.2.2.2.1 hP t 1 (ws_aI hsh (by omega)) rfl rfl hd (kk G p l e s m args below meth c H locs ls C hP hS hl)
/-- a call's words -/
def lkC (k' : MK) (n : Nat) : Prop := Cond.initialized k'.1.cls ∈ wT ∧ Cond.code k'.1 k'.2.1 k'.2.2.1 k'.2.2.2 ∈ wT ∧ k'.1.cls ≠ "java/lang/invoke/MethodHandle" ∧ k'.1.cls ≠ "java/lang/invoke/VarHandle" ∧ (parseMethodDescriptor k'.1.desc).map (fun q => q.parameters.length) = some n
def lkV (k' : MK) (n : Nat) : Prop := lkC k' n ∧ Cond.instanceMethod k'.1 ∈ wT ∧ Cond.selects k'.1.cls k'.1 k'.1 ∈ wT
def lkS (k' : MK) (n : Nat) : Prop := lkC k' n ∧ Cond.static k'.1 ∈ wT
theorem wT_good {w : Cond} (h : w ∈ wT) : (w.onTables && w.keeps) = true ∨ ∃ ty, w = .arrayClass ty := good_of_word (List.mem_filter.mp h).2
theorem wsM_good (h : Cond.code k'.1 k'.2.1 k'.2.2.1 k'.2.2.2 ∈ wT) : GoodIn (wsM k) (wsM k') := by
  intro w hw
  rcases List.mem_cons.mp hw with rfl | hw
  · exact ⟨List.mem_cons_of_mem _ h, wT_good h⟩
  · exact ⟨List.mem_cons_of_mem _ hw, wT_good hw⟩
theorem good_app {big a b : List Cond} (ha : ∀ w ∈ a, w ∈ wT) (hw : ∀ w ∈ wT, w ∈ big) (hb : GoodIn big b) : GoodIn big (a ++ b) := by
  intro w h
  rcases List.mem_append.mp h with h | h
  · exact ⟨hw w (ha w h), wT_good (ha w h)⟩
  · exact hb w h
theorem wa_run {G : WG} {p : Program} {l : Launch} {e : Env} {R : Room} {s : State} {m : MethodId} {args : Array Value} {below : List Frame} {meth : Method} {c : Code} {H : Heap} {locs : List Loc} {cells slots : Nat} {QQ : State → Prop} {ls : Array Slot} {st0 rest : List Value} {a : Array Value} {Q' : QM} {pc : Nat}
    (hr : va_Run p l e R s m args below meth c H locs cells slots 0 0 (F0 m pc ls st0) rest (wQ G Q' H.size a) (wA G H.size)) (hS : va_S (wA G s.heap.size) s.heap H locs)
    (kk : ∀ (r : Option Value) (μ' : Mem) (H1 : Heap) (locs1 : List Loc), Q' r μ' → wP G μ' H1 → va_S (wA G s.heap.size) s.heap H1 locs1 → W p l e R s m args below meth c H1 locs1 cells slots QQ (F0 m (pc + 3) ls ((r.map (trV G)).toList ++ rest))) : W p l e R s m args below meth c H locs cells slots QQ (F0 m pc ls st0) := by
  intro T hT X
  obtain ⟨v, st₀, t, T', L, h0, X', hL, e1, e2, ⟨⟨r, μ', hv, hq, hp⟩, hz, hk⟩, st⟩ := hr T hT X
  cases hv
  rw [h0] at hz hk
  have hm : ∀ q, wA G H.size q → wA G s.heap.size q := fun q h => wA_mono hS.1 h
  obtain ⟨t2, a1, b1⟩ := kk r μ' T'.heap (locs ++ L) hq (by rw [e1]; exact hp)
    ⟨Nat.le_trans hS.1 (by rw [e1]; exact hz), fun q h1 h2 => by rw [e1, hk q (Nat.lt_of_lt_of_le h1 hS.1) (fun z => h2 (hm q z))]; exact hS.2.1 q h1 h2, fun q hq => by
      rcases List.mem_append.mp hq with h | h
      · exact hS.2.2 q h
      · exact hm _ (hL q h)⟩ T' rfl X'
  exact ⟨t2, st t2 a1, b1⟩
theorem toL_map (G : WG) (r : Option Value) (rest : List Value) : (r.map (trV G)).toList ++ rest.map (trV G) = (r.toList ++ rest).map (trV G) := by cases r <;> rfl
def catS : List Value → Nat
  | [] => 0
  | v :: vs => v.category + catS vs
theorem catS_eq (G : WG) : ∀ (vs : List Value), ((vs.map (trV G)).map fun v => v.category).sum = catS vs
  | [] => rfl
  | v :: vs => by
    have := catS_eq G vs
    simp only [List.map_cons, List.sum_cons, trV_cat, catS]
    omega
theorem blind_pc {G : WG} {vs : List Value} {sz : Nat} : FrameBlind (va_Pc (vs.map (trV G)) (fun U => U.heap.size = sz ∧ wP G μ U.heap ∧ wK G U)) := fun a U g mk q => by
  obtain ⟨q0, q1, q2, q3⟩ := q
  exact ⟨q0, q1, q2, q3.calling⟩
theorem wa_callV {t ci n idx : Nat} {as rest : List Value} {sl : List Value} {stk : List Value} (hd : decode k.2.1 pc = .ok (.invokevirtual idx, 3)) (hlink : Cond.methodLink k.1.cls idx k'.1 ∈ wT) (hk : lkV k' n) (hsh : shp t = .inr (ci, sl)) (hcl : (vwCl[ci]?).map (fun q => q.1) = some k'.1.cls) (hml : k'.2.2.1 ≤ 21) (hdd : d' + 1 ≤ d) (hst : stk = as.reverse ++ .ref t :: rest) (hlen : as.length = n) (hcat : catS rest ≤ 8) (hM : MW k' d' (.ref t :: as) μ (fun r μ' => WA k d Q (pc + 3) lv (r.toList ++ rest) μ')) : WA k d Q pc lv stk μ := by
  intro G p l e s m args below meth c H locs ls C hP hS hl
  obtain ⟨⟨h1, h2, h3, h4, h5⟩, h6, h7⟩ := hk
  have hts := C.2.2.2.1
  have hK := C.2.2.2.2.2.2.2.2
  subst hst
  have hbig : ∀ w ∈ wT, w ∈ wsM k := fun w h => List.mem_cons_of_mem _ h
  have hG : GoodIn (wsM k) (wsV k.1.cls idx k'.1.cls k'.1 (wsM k')) := good_app (fun w hw => by
    simp only [List.mem_cons, List.not_mem_nil, or_false] at hw
    rcases hw with rfl | rfl | rfl | rfl <;> assumption) hbig (wsM_good h2)
  obtain ⟨qc, hqc, hqn⟩ : ∃ qc : vw_C, vwCl[ci]? = some qc ∧ qc.1 = k'.1.cls := by
    cases hv : vwCl[ci]? with
    | none => rw [hv] at hcl; cases hcl
    | some qc => rw [hv] at hcl; exact ⟨qc, rfl, Option.some.inj hcl⟩
  have hrun := va_runV (l := l) (e := e) (below := below) (meth := meth) (locs := locs) (cells := 0) (slots := 0) (R := rmD d) (ret := k'.2.2.2) (As := as.map (trV G)) (rest := rest.map (trV G)) (g := F0 m pc ls ((as.reverse ++ .ref t :: rest).map (trV G))) (b := G.2.1 t) ⟨C.1, C.2.1, C.2.2.2.2.2.2.1, C.2.2.2.2.1, hts⟩ (hM l G H.size C.2.2.2.2.2.2.2.1)
    (cwV n hts hG rfl rfl rfl ⟨rfl, h3, h4, h5⟩ ⟨hdd, by show 8 + (k'.2.2.1 + 11) + 40 * d' ≤ 40 * d; omega⟩)
    ⟨blind_pc, by have := va_recv hK.1 hP hqc (ws_r hsh); rw [hqn] at this; exact this, fun U hU hW => ⟨rfl, by rw [hU], by rw [hU]; exact hP, hK.warm hW⟩⟩
    rfl (by rw [List.length_map]; exact hlen) hl.1 (by simp [trV]) (lv_room (by rw [catS_eq]; exact hcat)) hd ⟨Nat.zero_le _, Nat.zero_le _⟩
  refine wa_run hrun hS (fun r μ' H1 locs1 hq hP1 hS1 => ?_)
  rw [toL_map]
  exact hq G p l e s m args below meth c H1 locs1 ls C hP1 hS1 hl
theorem wa_callS {n idx : Nat} {as rest : List Value} {stk : List Value} (hd : decode k.2.1 pc = .ok (.invokestatic idx, 3)) (hlink : Cond.methodLink k.1.cls idx k'.1 ∈ wT) (hk : lkS k' n) (hml : k'.2.2.1 ≤ 21) (hdd : d' + 1 ≤ d) (hst : stk = as.reverse ++ rest) (hlen : as.length = n) (hcat : catS rest ≤ 8) (hM : MW k' d' as μ (fun r μ' => WA k d Q (pc + 3) lv (r.toList ++ rest) μ')) : WA k d Q pc lv stk μ := by
  intro G p l e s m args below meth c H locs ls C hP hS hl
  obtain ⟨⟨h1, h2, h3, h4, h5⟩, h6⟩ := hk
  have hts := C.2.2.2.1
  have hK := C.2.2.2.2.2.2.2.2
  subst hst
  have hbig : ∀ w ∈ wT, w ∈ wsM k := fun w h => List.mem_cons_of_mem _ h
  have hG : GoodIn (wsM k) (va_wsS k.1.cls idx k'.1 (wsM k')) := good_app (fun w hw => by
    simp only [List.mem_cons, List.not_mem_nil, or_false] at hw
    rcases hw with rfl | rfl | rfl <;> assumption) hbig (wsM_good h2)
  have hrun := va_runS (l := l) (e := e) (below := below) (meth := meth) (locs := locs) (cells := 0) (slots := 0) (R := rmD d) (ret := k'.2.2.2) (As := as.map (trV G)) (rest := rest.map (trV G)) (g := F0 m pc ls ((as.reverse ++ rest).map (trV G))) ⟨C.1, C.2.1, C.2.2.2.2.2.2.1, C.2.2.2.2.1, hts⟩ (hM l G H.size C.2.2.2.2.2.2.2.1)
    (va_cwS n hts hG rfl rfl rfl ⟨h3, h4, h5⟩ ⟨hdd, by show 8 + (k'.2.2.1 + 11) + 40 * d' ≤ 40 * d; omega⟩)
    ⟨blind_pc, fun U hU hW => ⟨rfl, by rw [hU], by rw [hU]; exact hP, hK.warm hW⟩⟩
    rfl (by rw [List.length_map]; exact hlen) hl.1 (by simp) (lv_room (by rw [catS_eq]; exact hcat)) hd ⟨Nat.zero_le _, Nat.zero_le _⟩
  refine wa_run hrun hS (fun r μ' H1 locs1 hq hP1 hS1 => ?_)
  rw [toL_map]
  exact hq G p l e s m args below meth c H1 locs1 ls C hP1 hS1 hl
/-- the one private static across the nest -/
theorem wa_callN {as rest : List Value} {stk : List Value} (hown : k.1.cls = RX2) (hd : decode k.2.1 pc = .ok (.invokestatic 79, 3)) (hy : k'.1 = yX5_isWithin) (hk : lkS k' 2) (hml : k'.2.2.1 ≤ 21) (hdd : d' + 1 ≤ d) (hst : stk = as.reverse ++ rest) (hlen : as.length = 2) (hcat : catS rest ≤ 8) (hM : MW k' d' as μ (fun r μ' => WA k d Q (pc + 3) lv (r.toList ++ rest) μ')) : WA k d Q pc lv stk μ := by
  intro G p l e s m args below meth c H locs ls C hP hS hl
  obtain ⟨⟨h1, h2, h3, h4, h5⟩, h6⟩ := hk
  have hts := C.2.2.2.1
  have hK := C.2.2.2.2.2.2.2.2
  subst hst
  have hn : va_Nw (.methodLinkNest k.1.cls 79 k'.1 RX5) s := by rw [hown, hy]; exact hK.2
  have hrun := va_runSN (l := l) (e := e) (below := below) (meth := meth) (locs := locs) (cells := 0) (slots := 0) (R := rmD d) (ret := k'.2.2.2) (As := as.map (trV G)) (rest := rest.map (trV G)) (g := F0 m pc ls ((as.reverse ++ rest).map (trV G))) ⟨C.1, C.2.1, C.2.2.2.2.2.2.1, C.2.2.2.2.1, hts⟩ (hM l G H.size C.2.2.2.2.2.2.2.1)
    ⟨va_cnB 2 hts (wsM_good h2) rfl rfl rfl hn (hts _ (List.mem_cons_of_mem _ h1)) ⟨h3, h4, h5⟩ ⟨hdd, by show 8 + (k'.2.2.1 + 11) + 40 * d' ≤ 40 * d; omega⟩, hts _ (List.mem_cons_of_mem _ h6), trivial⟩
    ⟨blind_pc, fun U hU hW => ⟨rfl, by rw [hU], by rw [hU]; exact hP, hK.warm hW⟩⟩
    rfl (by rw [List.length_map]; exact hlen) hl.1 (by simp) (lv_room (by rw [catS_eq]; exact hcat)) hd ⟨Nat.zero_le _, Nat.zero_le _⟩
  refine wa_run hrun hS (fun r μ' H1 locs1 hq hP1 hS1 => ?_)
  rw [toL_map]
  exact hq G p l e s m args below meth c H1 locs1 ls C hP1 hS1 hl
def lkA (own : String) (idx : Nat) : Prop := Cond.methodLink own idx arraycopyName ∈ wT ∧ Cond.native arraycopyName ∈ wT ∧ Cond.static arraycopyName ∈ wT ∧ Cond.initialized "java/lang/System" ∈ wT
theorem wa_copyI {t0 t1 n0 n1 idx : Nat} {i0 i1 im : Int32} (a b n : Nat) (hd : decode k.2.1 pc = .ok (.invokestatic idx, 3)) (hk : lkA k.1.cls idx) (h0 : shp t0 = .inl (1, n0)) (h1 : shp t1 = .inl (1, n1)) (e0 : i0 = nI a) (e1 : i1 = nI b) (e2 : im = nI n) (ha : a + n ≤ n0) (hb : b + n ≤ n1) (hdd : 1 ≤ d) (kk : WA k d Q (pc + 3) lv [] (bI μ t1 (va_cpy (μ.1 t0) (μ.1 t1) a b n))) : WA k d Q pc lv [.int im, .int i1, .ref t1, .int i0, .ref t0] μ := by
  intro G p l e s m args below meth c H locs ls C hP hS hl
  obtain ⟨k1, k2, k3, k4⟩ := hk
  have hn0 := shp_n h0
  have hn1 := shp_n h1
  have hts := C.2.2.2.1
  have z0 : (nI a).toNatClampNeg = a := nI_clamp (by omega)
  have z1 : (nI b).toNatClampNeg = b := nI_clamp (by omega)
  have z2 : (nI n).toNatClampNeg = n := nI_clamp (by omega)
  subst e0 e1 e2
  have hroom : (([] : List Value).map fun v => v.category).sum + (nativeFrameWords "java/lang/System" "arraycopy" 5 + 11) ≤ (rmD d).locals := by
    have hw : nativeFrameWords "java/lang/System" "arraycopy" 5 + 11 ≤ 40 := by decide +kernel
    show 0 + (nativeFrameWords "java/lang/System" "arraycopy" 5 + 11) ≤ 40 * d
    omega
  refine va_copyi (ty := .int) C.1 C.2.1 (C.2.2.2.2.2.2.1.trans hl.1.symm) C.2.2.2.2.1 (hts _ (List.mem_cons_of_mem _ k1)) (hts _ (List.mem_cons_of_mem _ k2)) (hts _ (List.mem_cons_of_mem _ k3)) (hts _ (List.mem_cons_of_mem _ k4)) C.2.2.2.2.2.2.2.2.1 hP C.2.2.2.2.2.2.2.1.D hS t0 t1 1 1 (ws_aI h0 (by omega)) (ws_aI h1 (by omega)) rfl rfl rfl (nI_pos (n := a) (by omega)) (nI_pos (n := b) (by omega)) (nI_pos (n := n) (by omega)) (by rw [z0, z2]; exact ha) (by rw [z1, z2]; exact hb) (fun _ _ => rfl) hdd hroom hd (fun H1 locs1 hP1 _ hS1 => ?_)
  rw [z0, z1, z2, ws_bI h1 (by omega)] at hP1
  exact kk G p l e s m args below meth c H1 locs1 ls C hP1 hS1 hl
theorem wa_copyL {t0 t1 n0 n1 idx : Nat} {i0 i1 im : Int32} (a b n : Nat) (hd : decode k.2.1 pc = .ok (.invokestatic idx, 3)) (hk : lkA k.1.cls idx) (h0 : shp t0 = .inl (2, n0)) (h1 : shp t1 = .inl (2, n1)) (e0 : i0 = nI a) (e1 : i1 = nI b) (e2 : im = nI n) (ha : a + n ≤ n0) (hb : b + n ≤ n1) (hdd : 1 ≤ d) (kk : WA k d Q (pc + 3) lv [] (bL μ t1 (va_cpy (μ.2 t0) (μ.2 t1) a b n))) : WA k d Q pc lv [.int im, .int i1, .ref t1, .int i0, .ref t0] μ := by
  intro G p l e s m args below meth c H locs ls C hP hS hl
  obtain ⟨k1, k2, k3, k4⟩ := hk
  have hn0 := shp_n h0
  have hn1 := shp_n h1
  have hts := C.2.2.2.1
  have z0 : (nI a).toNatClampNeg = a := nI_clamp (by omega)
  have z1 : (nI b).toNatClampNeg = b := nI_clamp (by omega)
  have z2 : (nI n).toNatClampNeg = n := nI_clamp (by omega)
  subst e0 e1 e2
  have hroom : (([] : List Value).map fun v => v.category).sum + (nativeFrameWords "java/lang/System" "arraycopy" 5 + 11) ≤ (rmD d).locals := by
    have hw : nativeFrameWords "java/lang/System" "arraycopy" 5 + 11 ≤ 40 := by decide +kernel
    show 0 + (nativeFrameWords "java/lang/System" "arraycopy" 5 + 11) ≤ 40 * d
    omega
  refine va_copyl (ty := .long) C.1 C.2.1 (C.2.2.2.2.2.2.1.trans hl.1.symm) C.2.2.2.2.1 (hts _ (List.mem_cons_of_mem _ k1)) (hts _ (List.mem_cons_of_mem _ k2)) (hts _ (List.mem_cons_of_mem _ k3)) (hts _ (List.mem_cons_of_mem _ k4)) C.2.2.2.2.2.2.2.2.1 hP C.2.2.2.2.2.2.2.1.D hS t0 t1 2 2 (ws_aL h0) (ws_aL h1) rfl rfl rfl (nI_pos (n := a) (by omega)) (nI_pos (n := b) (by omega)) (nI_pos (n := n) (by omega)) (by rw [z0, z2]; exact ha) (by rw [z1, z2]; exact hb) (fun _ _ => rfl) hdd hroom hd (fun H1 locs1 hP1 _ hS1 => ?_)
  rw [z0, z1, z2, ws_bL h1] at hP1
  exact kk G p l e s m args below meth c H1 locs1 ls C hP1 hS1 hl
end WAR
end
section
/-! LINKS: method keys, and the words that calls, fields and constants rest on -/
theorem tm {w : Cond} (i : Nat) (h : lw_tbl[i]? = some w) (g : goodWord w = true) : w ∈ wT := List.mem_filter.mpr ⟨List.mem_of_getElem? h, g⟩
theorem uw0 : ∀ w ∈ u_ws RX0 TX0 10, w ∈ wT := fun w h => List.mem_filter.mpr ⟨(by decide +kernel : ∀ w ∈ u_ws RX0 TX0 10, w ∈ lw_tbl) w h, List.all_eq_true.mp (by decide +kernel : (u_ws RX0 TX0 10).all goodWord = true) w h⟩
theorem fw0_0 : fW 0 0 .long := ⟨RX0, TX0, 10, tyX0, rfl, tyX0_ok, nmX0, rfl, by decide +kernel⟩
theorem fw0_1 : fW 0 1 .long := ⟨RX0, TX0, 10, tyX0, rfl, tyX0_ok, nmX0, rfl, by decide +kernel⟩
theorem fw0_2 : fW 0 2 .long := ⟨RX0, TX0, 10, tyX0, rfl, tyX0_ok, nmX0, rfl, by decide +kernel⟩
theorem fw0_3 : fW 0 3 .int := ⟨RX0, TX0, 10, tyX0, rfl, tyX0_ok, nmX0, rfl, by decide +kernel⟩
theorem fw0_4 : fW 0 4 .int := ⟨RX0, TX0, 10, tyX0, rfl, tyX0_ok, nmX0, rfl, by decide +kernel⟩
theorem fw0_5 : fW 0 5 .int := ⟨RX0, TX0, 10, tyX0, rfl, tyX0_ok, nmX0, rfl, by decide +kernel⟩
theorem fw0_6 : fW 0 6 .int := ⟨RX0, TX0, 10, tyX0, rfl, tyX0_ok, nmX0, rfl, by decide +kernel⟩
theorem fw0_7 : fW 0 7 .int := ⟨RX0, TX0, 10, tyX0, rfl, tyX0_ok, nmX0, rfl, by decide +kernel⟩
theorem fw0_8 : fW 0 8 .int := ⟨RX0, TX0, 10, tyX0, rfl, tyX0_ok, nmX0, rfl, by decide +kernel⟩
theorem fw0_9 : fW 0 9 .int := ⟨RX0, TX0, 10, tyX0, rfl, tyX0_ok, nmX0, rfl, by decide +kernel⟩
theorem uw1 : ∀ w ∈ u_ws RX1 TX1 2, w ∈ wT := fun w h => List.mem_filter.mpr ⟨(by decide +kernel : ∀ w ∈ u_ws RX1 TX1 2, w ∈ lw_tbl) w h, List.all_eq_true.mp (by decide +kernel : (u_ws RX1 TX1 2).all goodWord = true) w h⟩
theorem uw2 : ∀ w ∈ u_ws RX2 TX2 5, w ∈ wT := fun w h => List.mem_filter.mpr ⟨(by decide +kernel : ∀ w ∈ u_ws RX2 TX2 5, w ∈ lw_tbl) w h, List.all_eq_true.mp (by decide +kernel : (u_ws RX2 TX2 5).all goodWord = true) w h⟩
theorem fw2_0 : fW 2 0 .int := ⟨RX2, TX2, 5, tyX2, rfl, tyX2_ok, nmX2, rfl, by decide +kernel⟩
theorem uw3 : ∀ w ∈ u_ws RX3 TX3 6, w ∈ wT := fun w h => List.mem_filter.mpr ⟨(by decide +kernel : ∀ w ∈ u_ws RX3 TX3 6, w ∈ lw_tbl) w h, List.all_eq_true.mp (by decide +kernel : (u_ws RX3 TX3 6).all goodWord = true) w h⟩
theorem fw3_0 : fW 3 0 .boolean := ⟨RX3, TX3, 6, tyX3, rfl, tyX3_ok, nmX3, rfl, by decide +kernel⟩
theorem fw3_1 : fW 3 1 .int := ⟨RX3, TX3, 6, tyX3, rfl, tyX3_ok, nmX3, rfl, by decide +kernel⟩
theorem fw3_2 : fW 3 2 .int := ⟨RX3, TX3, 6, tyX3, rfl, tyX3_ok, nmX3, rfl, by decide +kernel⟩
theorem uw4 : ∀ w ∈ u_ws RX4 TX4 7, w ∈ wT := fun w h => List.mem_filter.mpr ⟨(by decide +kernel : ∀ w ∈ u_ws RX4 TX4 7, w ∈ lw_tbl) w h, List.all_eq_true.mp (by decide +kernel : (u_ws RX4 TX4 7).all goodWord = true) w h⟩
theorem fw4_0 : fW 4 0 .int := ⟨RX4, TX4, 7, tyX4, rfl, tyX4_ok, nmX4, rfl, by decide +kernel⟩
theorem fw4_1 : fW 4 1 .int := ⟨RX4, TX4, 7, tyX4, rfl, tyX4_ok, nmX4, rfl, by decide +kernel⟩
theorem fw4_2 : fW 4 2 .int := ⟨RX4, TX4, 7, tyX4, rfl, tyX4_ok, nmX4, rfl, by decide +kernel⟩
theorem fw4_3 : fW 4 3 .int := ⟨RX4, TX4, 7, tyX4, rfl, tyX4_ok, nmX4, rfl, by decide +kernel⟩
theorem fw4_4 : fW 4 4 .int := ⟨RX4, TX4, 7, tyX4, rfl, tyX4_ok, nmX4, rfl, by decide +kernel⟩
theorem fw4_5 : fW 4 5 .int := ⟨RX4, TX4, 7, tyX4, rfl, tyX4_ok, nmX4, rfl, by decide +kernel⟩
theorem fw4_6 : fW 4 6 .int := ⟨RX4, TX4, 7, tyX4, rfl, tyX4_ok, nmX4, rfl, by decide +kernel⟩
theorem uw5 : ∀ w ∈ u_ws RX5 TX5 5, w ∈ wT := fun w h => List.mem_filter.mpr ⟨(by decide +kernel : ∀ w ∈ u_ws RX5 TX5 5, w ∈ lw_tbl) w h, List.all_eq_true.mp (by decide +kernel : (u_ws RX5 TX5 5).all goodWord = true) w h⟩
theorem uw6 : ∀ w ∈ u_ws RX6 TX6 32, w ∈ wT := fun w h => List.mem_filter.mpr ⟨(by decide +kernel : ∀ w ∈ u_ws RX6 TX6 32, w ∈ lw_tbl) w h, List.all_eq_true.mp (by decide +kernel : (u_ws RX6 TX6 32).all goodWord = true) w h⟩
theorem fw6_8 : fW 6 8 .boolean := ⟨RX6, TX6, 32, tyX6, rfl, tyX6_ok, nmX6, rfl, by decide +kernel⟩
theorem fw6_9 : fW 6 9 .int := ⟨RX6, TX6, 32, tyX6, rfl, tyX6_ok, nmX6, rfl, by decide +kernel⟩
theorem fw6_11 : fW 6 11 .int := ⟨RX6, TX6, 32, tyX6, rfl, tyX6_ok, nmX6, rfl, by decide +kernel⟩
theorem fw6_12 : fW 6 12 .int := ⟨RX6, TX6, 32, tyX6, rfl, tyX6_ok, nmX6, rfl, by decide +kernel⟩
theorem fw6_13 : fW 6 13 .int := ⟨RX6, TX6, 32, tyX6, rfl, tyX6_ok, nmX6, rfl, by decide +kernel⟩
theorem fw6_14 : fW 6 14 .int := ⟨RX6, TX6, 32, tyX6, rfl, tyX6_ok, nmX6, rfl, by decide +kernel⟩
theorem fw6_15 : fW 6 15 .int := ⟨RX6, TX6, 32, tyX6, rfl, tyX6_ok, nmX6, rfl, by decide +kernel⟩
theorem fw6_16 : fW 6 16 .int := ⟨RX6, TX6, 32, tyX6, rfl, tyX6_ok, nmX6, rfl, by decide +kernel⟩
theorem fw6_17 : fW 6 17 .int := ⟨RX6, TX6, 32, tyX6, rfl, tyX6_ok, nmX6, rfl, by decide +kernel⟩
theorem fw6_18 : fW 6 18 .int := ⟨RX6, TX6, 32, tyX6, rfl, tyX6_ok, nmX6, rfl, by decide +kernel⟩
theorem fw6_19 : fW 6 19 .int := ⟨RX6, TX6, 32, tyX6, rfl, tyX6_ok, nmX6, rfl, by decide +kernel⟩
theorem fw6_20 : fW 6 20 .int := ⟨RX6, TX6, 32, tyX6, rfl, tyX6_ok, nmX6, rfl, by decide +kernel⟩
theorem fw6_21 : fW 6 21 .int := ⟨RX6, TX6, 32, tyX6, rfl, tyX6_ok, nmX6, rfl, by decide +kernel⟩
theorem fw6_22 : fW 6 22 .int := ⟨RX6, TX6, 32, tyX6, rfl, tyX6_ok, nmX6, rfl, by decide +kernel⟩
theorem fw6_23 : fW 6 23 .int := ⟨RX6, TX6, 32, tyX6, rfl, tyX6_ok, nmX6, rfl, by decide +kernel⟩
theorem fw6_24 : fW 6 24 .int := ⟨RX6, TX6, 32, tyX6, rfl, tyX6_ok, nmX6, rfl, by decide +kernel⟩
theorem fw6_25 : fW 6 25 .int := ⟨RX6, TX6, 32, tyX6, rfl, tyX6_ok, nmX6, rfl, by decide +kernel⟩
theorem fw6_26 : fW 6 26 .int := ⟨RX6, TX6, 32, tyX6, rfl, tyX6_ok, nmX6, rfl, by decide +kernel⟩
theorem fw6_27 : fW 6 27 .int := ⟨RX6, TX6, 32, tyX6, rfl, tyX6_ok, nmX6, rfl, by decide +kernel⟩
theorem fw6_31 : fW 6 31 .int := ⟨RX6, TX6, 32, tyX6, rfl, tyX6_ok, nmX6, rfl, by decide +kernel⟩
def kX5_init : MK := (yX5_init, cX5_init, 2, none)
def kX3_init : MK := (yX3_init, cX3_init, 1, none)
def kX2_init : MK := (yX2_init, cX2_init, 1, none)
def kX1_init : MK := (yX1_init, cX1_init, 1, none)
def kX4_init : MK := (yX4_init, cX4_init, 1, none)
def kX0_init : MK := (yX0_init, cX0_init, 1, none)
def kX5_sheet : MK := (yX5_sheet, cX5_sheet, 4, (some .int))
def kX5_isSheet : MK := (yX5_isSheet, cX5_isSheet, 1, (some .boolean))
def kX3_begin : MK := (yX3_begin, cX3_begin, 3, none)
def kJ7_fill_53178 : MK := (yJ7_fill_53178, cJ7_fill_53178, 4, none)
def kX5_drop : MK := (yX5_drop, cX5_drop, 3, (some .int))
def kX5_sheetFailure : MK := (yX5_sheetFailure, cX5_sheetFailure, 2, (some .int))
def kX3_isThere : MK := (yX3_isThere, cX3_isThere, 1, (some .boolean))
def kX3_end : MK := (yX3_end, cX3_end, 1, (some .int))
def kX5_put : MK := (yX5_put, cX5_put, 5, (some .int))
def kX5_sampleFailure : MK := (yX5_sampleFailure, cX5_sampleFailure, 4, (some .int))
def kX3_has : MK := (yX3_has, cX3_has, 2, (some .boolean))
def kX3_fits : MK := (yX3_fits, cX3_fits, 2, (some .boolean))
def kX3_tell : MK := (yX3_tell, cX3_tell, 3, none)
def kX5_get : MK := (yX5_get, cX5_get, 4, (some .long))
def kX3_isLost : MK := (yX3_isLost, cX3_isLost, 2, (some .boolean))
def kX3_valueAt : MK := (yX3_valueAt, cX3_valueAt, 2, (some .int))
def kX5_lose : MK := (yX5_lose, cX5_lose, 4, (some .int))
def kX3_forget : MK := (yX3_forget, cX3_forget, 2, none)
def kX5_stands : MK := (yX5_stands, cX5_stands, 4, (some .int))
def kX3_stateAt : MK := (yX3_stateAt, cX3_stateAt, 2, (some .int))
def kX5_copy : MK := (yX5_copy, cX5_copy, 8, (some .int))
def kX3_sort : MK := (yX3_sort, cX3_sort, 1, (some .int))
def kX3_hasStretch : MK := (yX3_hasStretch, cX3_hasStretch, 3, (some .boolean))
def kX3_take : MK := (yX3_take, cX3_take, 5, none)
def kX5_spikes : MK := (yX5_spikes, cX5_spikes, 3, (some .int))
def kX3_loseSpikes : MK := (yX3_loseSpikes, cX3_loseSpikes, 4, (some .int))
def kX3_isSpike : MK := (yX3_isSpike, cX3_isSpike, 5, (some .boolean))
def kJ9_abs_067f4 : MK := (yJ9_abs_067f4, cJ9_abs_067f4, 2, (some .long))
def kX5_fill : MK := (yX5_fill, cX5_fill, 3, (some .int))
def kX3_fillGaps : MK := (yX3_fillGaps, cX3_fillGaps, 6, (some .int))
def kX3_fillBetween : MK := (yX3_fillBetween, cX3_fillBetween, 9, none)
def kX5_about : MK := (yX5_about, cX5_about, 3, (some .int))
def kX3_fact : MK := (yX3_fact, cX3_fact, 2, (some .int))
def kX3_gaps : MK := (yX3_gaps, cX3_gaps, 3, (some .int))
def kX3_longestGap : MK := (yX3_longestGap, cX3_longestGap, 4, (some .int))
def kJ9_max_7cf53 : MK := (yJ9_max_7cf53, cJ9_max_7cf53, 2, (some .int))
def kX3_lostSamples : MK := (yX3_lostSamples, cX3_lostSamples, 1, (some .int))
def kX3_samplesThatStand : MK := (yX3_samplesThatStand, cX3_samplesThatStand, 4, (some .int))
def kX5_raise : MK := (yX5_raise, cX5_raise, 3, (some .int))
def kX5_isRow : MK := (yX5_isRow, cX5_isRow, 1, (some .boolean))
def kX2_take : MK := (yX2_take, cX2_take, 3, none)
def kX3_size : MK := (yX3_size, cX3_size, 1, (some .int))
def kX2_size : MK := (yX2_size, cX2_size, 1, (some .int))
def kX5_number : MK := (yX5_number, cX5_number, 3, (some .long))
def kX2_valueAt : MK := (yX2_valueAt, cX2_valueAt, 2, (some .long))
def kX5_turn : MK := (yX5_turn, cX5_turn, 3, (some .int))
def kX2_change : MK := (yX2_change, cX2_change, 3, (some .int))
def kX2_isPowerOfTwo : MK := (yX2_isPowerOfTwo, cX2_isPowerOfTwo, 1, (some .boolean))
def kX2_anyExceeds : MK := (yX2_anyExceeds, cX2_anyExceeds, 3, (some .boolean))
def kX2_exceeds : MK := (yX2_exceeds, cX2_exceeds, 6, (some .boolean))
def kX5_isWithin : MK := (yX5_isWithin, cX5_isWithin, 4, (some .boolean))
def kX2_makeLevel : MK := (yX2_makeLevel, cX2_makeLevel, 4, none)
def kX2_sum : MK := (yX2_sum, cX2_sum, 4, (some .long))
def kX2_makeFlat : MK := (yX2_makeFlat, cX2_makeFlat, 10, none)
def kX2_makeTwice : MK := (yX2_makeTwice, cX2_makeTwice, 8, none)
def kX2_makeTones : MK := (yX2_makeTones, cX2_makeTones, 7, none)
def kX2_toneMask : MK := (yX2_toneMask, cX2_toneMask, 5, (some .int))
def kJ6_bitCount_0f7a4 : MK := (yJ6_bitCount_0f7a4, cJ6_bitCount_0f7a4, 1, (some .int))
def kX2_becomeFresh : MK := (yX2_becomeFresh, cX2_becomeFresh, 2, (some .int))
def kX5_part : MK := (yX5_part, cX5_part, 4, (some .int))
def kX5_isStretch : MK := (yX5_isStretch, cX5_isStretch, 3, (some .boolean))
def kX2_keepOnly : MK := (yX2_keepOnly, cX2_keepOnly, 5, (some .int))
def kX5_mix : MK := (yX5_mix, cX5_mix, 5, (some .int))
def kX2_blend : MK := (yX2_blend, cX2_blend, 5, (some .int))
def kX5_force : MK := (yX5_force, cX5_force, 4, (some .long))
def kX2_squares : MK := (yX2_squares, cX2_squares, 6, (some .long))
def kX5_cross : MK := (yX5_cross, cX5_cross, 3, (some .long))
def kX2_products : MK := (yX2_products, cX2_products, 5, (some .long))
def kX5_waves : MK := (yX5_waves, cX5_waves, 2, (some .int))
def kX2_findWaves : MK := (yX2_findWaves, cX2_findWaves, 5, (some .int))
def kX5_wave : MK := (yX5_wave, cX5_wave, 4, (some .long))
def kX2_waveFact : MK := (yX2_waveFact, cX2_waveFact, 8, (some .long))
def kJ9_max_f86c9 : MK := (yJ9_max_f86c9, cJ9_max_f86c9, 4, (some .long))
def kJ9_min_f86c9 : MK := (yJ9_min_f86c9, cJ9_min_f86c9, 4, (some .long))
def kX5_third : MK := (yX5_third, cX5_third, 8, (some .long))
def kX2_highestTogether : MK := (yX2_highestTogether, cX2_highestTogether, 6, (some .long))
def kX2_sortIn : MK := (yX2_sortIn, cX2_sortIn, 6, none)
def kX5_commonDivisor : MK := (yX5_commonDivisor, cX5_commonDivisor, 4, (some .int))
def kX5_groups : MK := (yX5_groups, cX5_groups, 5, (some .int))
def kX2_wavesInRows : MK := (yX2_wavesInRows, cX2_wavesInRows, 7, (some .int))
def kX2_longestRowOfWaves : MK := (yX2_longestRowOfWaves, cX2_longestRowOfWaves, 7, (some .int))
def kX5_heading : MK := (yX5_heading, cX5_heading, 15, (some .int))
def kX5_eighth : MK := (yX5_eighth, cX5_eighth, 4, (some .int))
def kX5_send : MK := (yX5_send, cX5_send, 3, (some .int))
def kX1_load : MK := (yX1_load, cX1_load, 3, none)
def kX1_size : MK := (yX1_size, cX1_size, 1, (some .int))
def kX1_samplePacks : MK := (yX1_samplePacks, cX1_samplePacks, 1, (some .int))
def kX5_miss : MK := (yX5_miss, cX5_miss, 2, (some .int))
def kX1_forget : MK := (yX1_forget, cX1_forget, 3, (some .boolean))
def kX5_receive : MK := (yX5_receive, cX5_receive, 2, (some .int))
def kX1_wereSent : MK := (yX1_wereSent, cX1_wereSent, 1, (some .boolean))
def kX1_unload : MK := (yX1_unload, cX1_unload, 3, none)
def kX1_comes : MK := (yX1_comes, cX1_comes, 3, (some .boolean))
def kX1_lostBeside : MK := (yX1_lostBeside, cX1_lostBeside, 5, (some .int))
def kX5_rule : MK := (yX5_rule, cX5_rule, 4, (some .int))
def kX4_begin : MK := (yX4_begin, cX4_begin, 4, none)
def kX5_hear : MK := (yX5_hear, cX5_hear, 2, (some .int))
def kX4_take : MK := (yX4_take, cX4_take, 4, none)
def kX4_state : MK := (yX4_state, cX4_state, 1, (some .int))
def kX5_anchor : MK := (yX5_anchor, cX5_anchor, 5, (some .int))
def kX5_isPlace : MK := (yX5_isPlace, cX5_isPlace, 2, (some .boolean))
def kX0_begin : MK := (yX0_begin, cX0_begin, 5, none)
def kX5_fix : MK := (yX5_fix, cX5_fix, 3, (some .int))
def kX0_take : MK := (yX0_take, cX0_take, 3, none)
def kJ9_min_7cf53 : MK := (yJ9_min_7cf53, cJ9_min_7cf53, 2, (some .int))
def kX0_isOut : MK := (yX0_isOut, cX0_isOut, 9, (some .boolean))
def kX0_state : MK := (yX0_state, cX0_state, 1, (some .int))
def kX5_count : MK := (yX5_count, cX5_count, 2, (some .int))
def kX5_sheetsThere : MK := (yX5_sheetsThere, cX5_sheetsThere, 3, (some .int))
def kX1_lostPacks : MK := (yX1_lostPacks, cX1_lostPacks, 3, (some .int))
def kX4_heard : MK := (yX4_heard, cX4_heard, 1, (some .int))
def kX4_changes : MK := (yX4_changes, cX4_changes, 1, (some .int))
def kX0_places : MK := (yX0_places, cX0_places, 1, (some .int))
def kX0_outOnEnd : MK := (yX0_outOnEnd, cX0_outOnEnd, 1, (some .int))
def kX0_width : MK := (yX0_width, cX0_width, 1, (some .int))
def kX0_depth : MK := (yX0_depth, cX0_depth, 1, (some .int))
def kX5_digest : MK := (yX5_digest, cX5_digest, 4, (some .long))
def kX3_digestOn : MK := (yX3_digestOn, cX3_digestOn, 6, (some .long))
def kX2_digestOn : MK := (yX2_digestOn, cX2_digestOn, 6, (some .long))
def kX6_init : MK := (yX6_init, cX6_init, 1, none)
def kX6_sheet : MK := (yX6_sheet, cX6_sheet, 5, (some .int))
def kX6_in : MK := (yX6_in, cX6_in, 6, (some .boolean))
def kX6_drop : MK := (yX6_drop, cX6_drop, 3, (some .int))
def kX6_noSheet : MK := (yX6_noSheet, cX6_noSheet, 2, (some .int))
def kX6_put : MK := (yX6_put, cX6_put, 5, (some .int))
def kX6_fits : MK := (yX6_fits, cX6_fits, 2, (some .boolean))
def kX6_get : MK := (yX6_get, cX6_get, 4, (some .long))
def kX6_lose : MK := (yX6_lose, cX6_lose, 5, (some .int))
def kX6_stands : MK := (yX6_stands, cX6_stands, 4, (some .int))
def kX6_copy : MK := (yX6_copy, cX6_copy, 7, (some .int))
def kX6_spikes : MK := (yX6_spikes, cX6_spikes, 8, (some .int))
def kX6_fill : MK := (yX6_fill, cX6_fill, 13, (some .int))
def kX6_about : MK := (yX6_about, cX6_about, 3, (some .int))
def kX6_gaps : MK := (yX6_gaps, cX6_gaps, 7, (some .int))
def kX6_those : MK := (yX6_those, cX6_those, 5, (some .int))
def kX6_raise : MK := (yX6_raise, cX6_raise, 4, (some .int))
def kX6_isRow : MK := (yX6_isRow, cX6_isRow, 1, (some .boolean))
def kX6_number : MK := (yX6_number, cX6_number, 3, (some .long))
def kX6_turn : MK := (yX6_turn, cX6_turn, 14, (some .int))
def kX6_isPower : MK := (yX6_isPower, cX6_isPower, 2, (some .boolean))
def kX6_factor : MK := (yX6_factor, cX6_factor, 8, (some .long))
def kX6_part : MK := (yX6_part, cX6_part, 6, (some .int))
def kX6_mix : MK := (yX6_mix, cX6_mix, 6, (some .int))
def kX6_force : MK := (yX6_force, cX6_force, 9, (some .long))
def kX6_cross : MK := (yX6_cross, cX6_cross, 10, (some .long))
def kX6_waves : MK := (yX6_waves, cX6_waves, 2, (some .int))
def kX6_waveMany : MK := (yX6_waveMany, cX6_waveMany, 2, (some .int))
def kX6_findTurns : MK := (yX6_findTurns, cX6_findTurns, 7, none)
def kX6_wave : MK := (yX6_wave, cX6_wave, 4, (some .long))
def kX6_end : MK := (yX6_end, cX6_end, 9, (some .long))
def kX6_height : MK := (yX6_height, cX6_height, 3, (some .long))
def kX6_third : MK := (yX6_third, cX6_third, 10, (some .long))
def kX6_divisor : MK := (yX6_divisor, cX6_divisor, 10, (some .long))
def kX6_groups : MK := (yX6_groups, cX6_groups, 10, (some .int))
def kX6_heading : MK := (yX6_heading, cX6_heading, 11, (some .int))
def kX6_isNear : MK := (yX6_isNear, cX6_isNear, 4, (some .boolean))
def kX6_send : MK := (yX6_send, cX6_send, 5, (some .int))
def kX6_miss : MK := (yX6_miss, cX6_miss, 3, (some .int))
def kX6_receive : MK := (yX6_receive, cX6_receive, 5, (some .int))
def kX6_comes : MK := (yX6_comes, cX6_comes, 5, (some .boolean))
def kX6_rule : MK := (yX6_rule, cX6_rule, 4, (some .int))
def kX6_hear : MK := (yX6_hear, cX6_hear, 4, (some .int))
def kX6_anchor : MK := (yX6_anchor, cX6_anchor, 5, (some .int))
def kX6_isPlace : MK := (yX6_isPlace, cX6_isPlace, 2, (some .boolean))
def kX6_fix : MK := (yX6_fix, cX6_fix, 7, (some .int))
def kX6_count : MK := (yX6_count, cX6_count, 4, (some .int))
def kX6_digest : MK := (yX6_digest, cX6_digest, 5, (some .long))
theorem kvX5_sheet : lkV kX5_sheet 3 := ⟨⟨tm 31 (by decide +kernel) (by decide +kernel), tm 201 (by decide +kernel) (by decide +kernel), by decide +kernel, by decide +kernel, by decide +kernel⟩, tm 199 (by decide +kernel) (by decide +kernel), tm 200 (by decide +kernel) (by decide +kernel)⟩
theorem ksX5_isSheet : lkS kX5_isSheet 1 := ⟨⟨tm 31 (by decide +kernel) (by decide +kernel), tm 204 (by decide +kernel) (by decide +kernel), by decide +kernel, by decide +kernel, by decide +kernel⟩, tm 203 (by decide +kernel) (by decide +kernel)⟩
theorem kvX3_begin : lkV kX3_begin 2 := ⟨⟨tm 32 (by decide +kernel) (by decide +kernel), tm 208 (by decide +kernel) (by decide +kernel), by decide +kernel, by decide +kernel, by decide +kernel⟩, tm 206 (by decide +kernel) (by decide +kernel), tm 207 (by decide +kernel) (by decide +kernel)⟩
theorem ksJ7_fill_53178 : lkS kJ7_fill_53178 2 := ⟨⟨tm 38 (by decide +kernel) (by decide +kernel), tm 211 (by decide +kernel) (by decide +kernel), by decide +kernel, by decide +kernel, by decide +kernel⟩, tm 210 (by decide +kernel) (by decide +kernel)⟩
theorem kvX5_drop : lkV kX5_drop 1 := ⟨⟨tm 31 (by decide +kernel) (by decide +kernel), tm 215 (by decide +kernel) (by decide +kernel), by decide +kernel, by decide +kernel, by decide +kernel⟩, tm 213 (by decide +kernel) (by decide +kernel), tm 214 (by decide +kernel) (by decide +kernel)⟩
theorem kvX5_sheetFailure : lkV kX5_sheetFailure 1 := ⟨⟨tm 31 (by decide +kernel) (by decide +kernel), tm 219 (by decide +kernel) (by decide +kernel), by decide +kernel, by decide +kernel, by decide +kernel⟩, tm 218 (by decide +kernel) (by decide +kernel), tm 0 (by decide +kernel) (by decide +kernel)⟩
theorem kvX3_isThere : lkV kX3_isThere 0 := ⟨⟨tm 32 (by decide +kernel) (by decide +kernel), tm 223 (by decide +kernel) (by decide +kernel), by decide +kernel, by decide +kernel, by decide +kernel⟩, tm 221 (by decide +kernel) (by decide +kernel), tm 222 (by decide +kernel) (by decide +kernel)⟩
theorem kvX3_end : lkV kX3_end 0 := ⟨⟨tm 32 (by decide +kernel) (by decide +kernel), tm 227 (by decide +kernel) (by decide +kernel), by decide +kernel, by decide +kernel, by decide +kernel⟩, tm 225 (by decide +kernel) (by decide +kernel), tm 226 (by decide +kernel) (by decide +kernel)⟩
theorem kvX5_put : lkV kX5_put 3 := ⟨⟨tm 31 (by decide +kernel) (by decide +kernel), tm 231 (by decide +kernel) (by decide +kernel), by decide +kernel, by decide +kernel, by decide +kernel⟩, tm 229 (by decide +kernel) (by decide +kernel), tm 230 (by decide +kernel) (by decide +kernel)⟩
theorem kvX5_sampleFailure : lkV kX5_sampleFailure 2 := ⟨⟨tm 31 (by decide +kernel) (by decide +kernel), tm 235 (by decide +kernel) (by decide +kernel), by decide +kernel, by decide +kernel, by decide +kernel⟩, tm 234 (by decide +kernel) (by decide +kernel), tm 1 (by decide +kernel) (by decide +kernel)⟩
theorem kvX3_has : lkV kX3_has 1 := ⟨⟨tm 32 (by decide +kernel) (by decide +kernel), tm 239 (by decide +kernel) (by decide +kernel), by decide +kernel, by decide +kernel, by decide +kernel⟩, tm 237 (by decide +kernel) (by decide +kernel), tm 238 (by decide +kernel) (by decide +kernel)⟩
theorem kvX3_fits : lkV kX3_fits 1 := ⟨⟨tm 32 (by decide +kernel) (by decide +kernel), tm 243 (by decide +kernel) (by decide +kernel), by decide +kernel, by decide +kernel, by decide +kernel⟩, tm 241 (by decide +kernel) (by decide +kernel), tm 242 (by decide +kernel) (by decide +kernel)⟩
theorem kvX3_tell : lkV kX3_tell 2 := ⟨⟨tm 32 (by decide +kernel) (by decide +kernel), tm 247 (by decide +kernel) (by decide +kernel), by decide +kernel, by decide +kernel, by decide +kernel⟩, tm 245 (by decide +kernel) (by decide +kernel), tm 246 (by decide +kernel) (by decide +kernel)⟩
theorem kvX5_get : lkV kX5_get 2 := ⟨⟨tm 31 (by decide +kernel) (by decide +kernel), tm 251 (by decide +kernel) (by decide +kernel), by decide +kernel, by decide +kernel, by decide +kernel⟩, tm 249 (by decide +kernel) (by decide +kernel), tm 250 (by decide +kernel) (by decide +kernel)⟩
theorem kvX3_isLost : lkV kX3_isLost 1 := ⟨⟨tm 32 (by decide +kernel) (by decide +kernel), tm 256 (by decide +kernel) (by decide +kernel), by decide +kernel, by decide +kernel, by decide +kernel⟩, tm 254 (by decide +kernel) (by decide +kernel), tm 255 (by decide +kernel) (by decide +kernel)⟩
theorem kvX3_valueAt : lkV kX3_valueAt 1 := ⟨⟨tm 32 (by decide +kernel) (by decide +kernel), tm 261 (by decide +kernel) (by decide +kernel), by decide +kernel, by decide +kernel, by decide +kernel⟩, tm 259 (by decide +kernel) (by decide +kernel), tm 260 (by decide +kernel) (by decide +kernel)⟩
theorem kvX5_lose : lkV kX5_lose 2 := ⟨⟨tm 31 (by decide +kernel) (by decide +kernel), tm 265 (by decide +kernel) (by decide +kernel), by decide +kernel, by decide +kernel, by decide +kernel⟩, tm 263 (by decide +kernel) (by decide +kernel), tm 264 (by decide +kernel) (by decide +kernel)⟩
theorem kvX3_forget : lkV kX3_forget 1 := ⟨⟨tm 32 (by decide +kernel) (by decide +kernel), tm 269 (by decide +kernel) (by decide +kernel), by decide +kernel, by decide +kernel, by decide +kernel⟩, tm 267 (by decide +kernel) (by decide +kernel), tm 268 (by decide +kernel) (by decide +kernel)⟩
theorem kvX5_stands : lkV kX5_stands 2 := ⟨⟨tm 31 (by decide +kernel) (by decide +kernel), tm 273 (by decide +kernel) (by decide +kernel), by decide +kernel, by decide +kernel, by decide +kernel⟩, tm 271 (by decide +kernel) (by decide +kernel), tm 272 (by decide +kernel) (by decide +kernel)⟩
theorem kvX3_stateAt : lkV kX3_stateAt 1 := ⟨⟨tm 32 (by decide +kernel) (by decide +kernel), tm 277 (by decide +kernel) (by decide +kernel), by decide +kernel, by decide +kernel, by decide +kernel⟩, tm 275 (by decide +kernel) (by decide +kernel), tm 276 (by decide +kernel) (by decide +kernel)⟩
theorem kvX5_copy : lkV kX5_copy 5 := ⟨⟨tm 31 (by decide +kernel) (by decide +kernel), tm 281 (by decide +kernel) (by decide +kernel), by decide +kernel, by decide +kernel, by decide +kernel⟩, tm 279 (by decide +kernel) (by decide +kernel), tm 280 (by decide +kernel) (by decide +kernel)⟩
theorem kvX3_sort : lkV kX3_sort 0 := ⟨⟨tm 32 (by decide +kernel) (by decide +kernel), tm 285 (by decide +kernel) (by decide +kernel), by decide +kernel, by decide +kernel, by decide +kernel⟩, tm 283 (by decide +kernel) (by decide +kernel), tm 284 (by decide +kernel) (by decide +kernel)⟩
theorem kvX3_hasStretch : lkV kX3_hasStretch 2 := ⟨⟨tm 32 (by decide +kernel) (by decide +kernel), tm 289 (by decide +kernel) (by decide +kernel), by decide +kernel, by decide +kernel, by decide +kernel⟩, tm 287 (by decide +kernel) (by decide +kernel), tm 288 (by decide +kernel) (by decide +kernel)⟩
theorem kvX3_take : lkV kX3_take 4 := ⟨⟨tm 32 (by decide +kernel) (by decide +kernel), tm 293 (by decide +kernel) (by decide +kernel), by decide +kernel, by decide +kernel, by decide +kernel⟩, tm 291 (by decide +kernel) (by decide +kernel), tm 292 (by decide +kernel) (by decide +kernel)⟩
theorem kvX5_spikes : lkV kX5_spikes 2 := ⟨⟨tm 31 (by decide +kernel) (by decide +kernel), tm 300 (by decide +kernel) (by decide +kernel), by decide +kernel, by decide +kernel, by decide +kernel⟩, tm 298 (by decide +kernel) (by decide +kernel), tm 299 (by decide +kernel) (by decide +kernel)⟩
theorem kvX3_loseSpikes : lkV kX3_loseSpikes 1 := ⟨⟨tm 32 (by decide +kernel) (by decide +kernel), tm 304 (by decide +kernel) (by decide +kernel), by decide +kernel, by decide +kernel, by decide +kernel⟩, tm 302 (by decide +kernel) (by decide +kernel), tm 303 (by decide +kernel) (by decide +kernel)⟩
theorem kvX3_isSpike : lkV kX3_isSpike 2 := ⟨⟨tm 32 (by decide +kernel) (by decide +kernel), tm 308 (by decide +kernel) (by decide +kernel), by decide +kernel, by decide +kernel, by decide +kernel⟩, tm 307 (by decide +kernel) (by decide +kernel), tm 2 (by decide +kernel) (by decide +kernel)⟩
theorem ksJ9_abs_067f4 : lkS kJ9_abs_067f4 1 := ⟨⟨tm 40 (by decide +kernel) (by decide +kernel), tm 313 (by decide +kernel) (by decide +kernel), by decide +kernel, by decide +kernel, by decide +kernel⟩, tm 312 (by decide +kernel) (by decide +kernel)⟩
theorem kvX5_fill : lkV kX5_fill 2 := ⟨⟨tm 31 (by decide +kernel) (by decide +kernel), tm 318 (by decide +kernel) (by decide +kernel), by decide +kernel, by decide +kernel, by decide +kernel⟩, tm 316 (by decide +kernel) (by decide +kernel), tm 317 (by decide +kernel) (by decide +kernel)⟩
theorem kvX3_fillGaps : lkV kX3_fillGaps 1 := ⟨⟨tm 32 (by decide +kernel) (by decide +kernel), tm 322 (by decide +kernel) (by decide +kernel), by decide +kernel, by decide +kernel, by decide +kernel⟩, tm 320 (by decide +kernel) (by decide +kernel), tm 321 (by decide +kernel) (by decide +kernel)⟩
theorem kvX3_fillBetween : lkV kX3_fillBetween 2 := ⟨⟨tm 32 (by decide +kernel) (by decide +kernel), tm 326 (by decide +kernel) (by decide +kernel), by decide +kernel, by decide +kernel, by decide +kernel⟩, tm 325 (by decide +kernel) (by decide +kernel), tm 3 (by decide +kernel) (by decide +kernel)⟩
theorem kvX5_about : lkV kX5_about 2 := ⟨⟨tm 31 (by decide +kernel) (by decide +kernel), tm 330 (by decide +kernel) (by decide +kernel), by decide +kernel, by decide +kernel, by decide +kernel⟩, tm 328 (by decide +kernel) (by decide +kernel), tm 329 (by decide +kernel) (by decide +kernel)⟩
theorem kvX3_fact : lkV kX3_fact 1 := ⟨⟨tm 32 (by decide +kernel) (by decide +kernel), tm 334 (by decide +kernel) (by decide +kernel), by decide +kernel, by decide +kernel, by decide +kernel⟩, tm 332 (by decide +kernel) (by decide +kernel), tm 333 (by decide +kernel) (by decide +kernel)⟩
theorem kvX3_gaps : lkV kX3_gaps 0 := ⟨⟨tm 32 (by decide +kernel) (by decide +kernel), tm 338 (by decide +kernel) (by decide +kernel), by decide +kernel, by decide +kernel, by decide +kernel⟩, tm 337 (by decide +kernel) (by decide +kernel), tm 4 (by decide +kernel) (by decide +kernel)⟩
theorem kvX3_longestGap : lkV kX3_longestGap 0 := ⟨⟨tm 32 (by decide +kernel) (by decide +kernel), tm 342 (by decide +kernel) (by decide +kernel), by decide +kernel, by decide +kernel, by decide +kernel⟩, tm 341 (by decide +kernel) (by decide +kernel), tm 5 (by decide +kernel) (by decide +kernel)⟩
theorem ksJ9_max_7cf53 : lkS kJ9_max_7cf53 2 := ⟨⟨tm 40 (by decide +kernel) (by decide +kernel), tm 345 (by decide +kernel) (by decide +kernel), by decide +kernel, by decide +kernel, by decide +kernel⟩, tm 344 (by decide +kernel) (by decide +kernel)⟩
theorem kvX3_lostSamples : lkV kX3_lostSamples 0 := ⟨⟨tm 32 (by decide +kernel) (by decide +kernel), tm 349 (by decide +kernel) (by decide +kernel), by decide +kernel, by decide +kernel, by decide +kernel⟩, tm 347 (by decide +kernel) (by decide +kernel), tm 348 (by decide +kernel) (by decide +kernel)⟩
theorem kvX3_samplesThatStand : lkV kX3_samplesThatStand 1 := ⟨⟨tm 32 (by decide +kernel) (by decide +kernel), tm 353 (by decide +kernel) (by decide +kernel), by decide +kernel, by decide +kernel, by decide +kernel⟩, tm 352 (by decide +kernel) (by decide +kernel), tm 6 (by decide +kernel) (by decide +kernel)⟩
theorem kvX5_raise : lkV kX5_raise 2 := ⟨⟨tm 31 (by decide +kernel) (by decide +kernel), tm 357 (by decide +kernel) (by decide +kernel), by decide +kernel, by decide +kernel, by decide +kernel⟩, tm 355 (by decide +kernel) (by decide +kernel), tm 356 (by decide +kernel) (by decide +kernel)⟩
theorem ksX5_isRow : lkS kX5_isRow 1 := ⟨⟨tm 31 (by decide +kernel) (by decide +kernel), tm 360 (by decide +kernel) (by decide +kernel), by decide +kernel, by decide +kernel, by decide +kernel⟩, tm 359 (by decide +kernel) (by decide +kernel)⟩
theorem kvX2_take : lkV kX2_take 1 := ⟨⟨tm 33 (by decide +kernel) (by decide +kernel), tm 365 (by decide +kernel) (by decide +kernel), by decide +kernel, by decide +kernel, by decide +kernel⟩, tm 363 (by decide +kernel) (by decide +kernel), tm 364 (by decide +kernel) (by decide +kernel)⟩
theorem kvX3_size : lkV kX3_size 0 := ⟨⟨tm 32 (by decide +kernel) (by decide +kernel), tm 369 (by decide +kernel) (by decide +kernel), by decide +kernel, by decide +kernel, by decide +kernel⟩, tm 367 (by decide +kernel) (by decide +kernel), tm 368 (by decide +kernel) (by decide +kernel)⟩
theorem kvX2_size : lkV kX2_size 0 := ⟨⟨tm 33 (by decide +kernel) (by decide +kernel), tm 374 (by decide +kernel) (by decide +kernel), by decide +kernel, by decide +kernel, by decide +kernel⟩, tm 372 (by decide +kernel) (by decide +kernel), tm 373 (by decide +kernel) (by decide +kernel)⟩
theorem kvX5_number : lkV kX5_number 2 := ⟨⟨tm 31 (by decide +kernel) (by decide +kernel), tm 378 (by decide +kernel) (by decide +kernel), by decide +kernel, by decide +kernel, by decide +kernel⟩, tm 376 (by decide +kernel) (by decide +kernel), tm 377 (by decide +kernel) (by decide +kernel)⟩
theorem kvX2_valueAt : lkV kX2_valueAt 1 := ⟨⟨tm 33 (by decide +kernel) (by decide +kernel), tm 384 (by decide +kernel) (by decide +kernel), by decide +kernel, by decide +kernel, by decide +kernel⟩, tm 382 (by decide +kernel) (by decide +kernel), tm 383 (by decide +kernel) (by decide +kernel)⟩
theorem kvX5_turn : lkV kX5_turn 2 := ⟨⟨tm 31 (by decide +kernel) (by decide +kernel), tm 388 (by decide +kernel) (by decide +kernel), by decide +kernel, by decide +kernel, by decide +kernel⟩, tm 386 (by decide +kernel) (by decide +kernel), tm 387 (by decide +kernel) (by decide +kernel)⟩
theorem kvX2_change : lkV kX2_change 1 := ⟨⟨tm 33 (by decide +kernel) (by decide +kernel), tm 392 (by decide +kernel) (by decide +kernel), by decide +kernel, by decide +kernel, by decide +kernel⟩, tm 390 (by decide +kernel) (by decide +kernel), tm 391 (by decide +kernel) (by decide +kernel)⟩
theorem kvX2_isPowerOfTwo : lkV kX2_isPowerOfTwo 0 := ⟨⟨tm 33 (by decide +kernel) (by decide +kernel), tm 396 (by decide +kernel) (by decide +kernel), by decide +kernel, by decide +kernel, by decide +kernel⟩, tm 395 (by decide +kernel) (by decide +kernel), tm 7 (by decide +kernel) (by decide +kernel)⟩
theorem kvX2_anyExceeds : lkV kX2_anyExceeds 1 := ⟨⟨tm 33 (by decide +kernel) (by decide +kernel), tm 401 (by decide +kernel) (by decide +kernel), by decide +kernel, by decide +kernel, by decide +kernel⟩, tm 399 (by decide +kernel) (by decide +kernel), tm 400 (by decide +kernel) (by decide +kernel)⟩
theorem kvX2_exceeds : lkV kX2_exceeds 3 := ⟨⟨tm 33 (by decide +kernel) (by decide +kernel), tm 405 (by decide +kernel) (by decide +kernel), by decide +kernel, by decide +kernel, by decide +kernel⟩, tm 403 (by decide +kernel) (by decide +kernel), tm 404 (by decide +kernel) (by decide +kernel)⟩
theorem ksX5_isWithin : lkS kX5_isWithin 2 := ⟨⟨tm 31 (by decide +kernel) (by decide +kernel), tm 408 (by decide +kernel) (by decide +kernel), by decide +kernel, by decide +kernel, by decide +kernel⟩, tm 407 (by decide +kernel) (by decide +kernel)⟩
theorem kvX2_makeLevel : lkV kX2_makeLevel 0 := ⟨⟨tm 33 (by decide +kernel) (by decide +kernel), tm 412 (by decide +kernel) (by decide +kernel), by decide +kernel, by decide +kernel, by decide +kernel⟩, tm 411 (by decide +kernel) (by decide +kernel), tm 8 (by decide +kernel) (by decide +kernel)⟩
theorem kvX2_sum : lkV kX2_sum 0 := ⟨⟨tm 33 (by decide +kernel) (by decide +kernel), tm 416 (by decide +kernel) (by decide +kernel), by decide +kernel, by decide +kernel, by decide +kernel⟩, tm 415 (by decide +kernel) (by decide +kernel), tm 9 (by decide +kernel) (by decide +kernel)⟩
theorem kvX2_makeFlat : lkV kX2_makeFlat 0 := ⟨⟨tm 33 (by decide +kernel) (by decide +kernel), tm 420 (by decide +kernel) (by decide +kernel), by decide +kernel, by decide +kernel, by decide +kernel⟩, tm 419 (by decide +kernel) (by decide +kernel), tm 10 (by decide +kernel) (by decide +kernel)⟩
theorem kvX2_makeTwice : lkV kX2_makeTwice 0 := ⟨⟨tm 33 (by decide +kernel) (by decide +kernel), tm 425 (by decide +kernel) (by decide +kernel), by decide +kernel, by decide +kernel, by decide +kernel⟩, tm 424 (by decide +kernel) (by decide +kernel), tm 11 (by decide +kernel) (by decide +kernel)⟩
theorem kvX2_makeTones : lkV kX2_makeTones 0 := ⟨⟨tm 33 (by decide +kernel) (by decide +kernel), tm 429 (by decide +kernel) (by decide +kernel), by decide +kernel, by decide +kernel, by decide +kernel⟩, tm 428 (by decide +kernel) (by decide +kernel), tm 12 (by decide +kernel) (by decide +kernel)⟩
theorem kvX2_toneMask : lkV kX2_toneMask 1 := ⟨⟨tm 33 (by decide +kernel) (by decide +kernel), tm 433 (by decide +kernel) (by decide +kernel), by decide +kernel, by decide +kernel, by decide +kernel⟩, tm 432 (by decide +kernel) (by decide +kernel), tm 13 (by decide +kernel) (by decide +kernel)⟩
theorem ksJ6_bitCount_0f7a4 : lkS kJ6_bitCount_0f7a4 1 := ⟨⟨tm 41 (by decide +kernel) (by decide +kernel), tm 436 (by decide +kernel) (by decide +kernel), by decide +kernel, by decide +kernel, by decide +kernel⟩, tm 435 (by decide +kernel) (by decide +kernel)⟩
theorem kvX2_becomeFresh : lkV kX2_becomeFresh 0 := ⟨⟨tm 33 (by decide +kernel) (by decide +kernel), tm 443 (by decide +kernel) (by decide +kernel), by decide +kernel, by decide +kernel, by decide +kernel⟩, tm 442 (by decide +kernel) (by decide +kernel), tm 14 (by decide +kernel) (by decide +kernel)⟩
theorem kvX5_part : lkV kX5_part 3 := ⟨⟨tm 31 (by decide +kernel) (by decide +kernel), tm 449 (by decide +kernel) (by decide +kernel), by decide +kernel, by decide +kernel, by decide +kernel⟩, tm 447 (by decide +kernel) (by decide +kernel), tm 448 (by decide +kernel) (by decide +kernel)⟩
theorem ksX5_isStretch : lkS kX5_isStretch 3 := ⟨⟨tm 31 (by decide +kernel) (by decide +kernel), tm 452 (by decide +kernel) (by decide +kernel), by decide +kernel, by decide +kernel, by decide +kernel⟩, tm 451 (by decide +kernel) (by decide +kernel)⟩
theorem kvX2_keepOnly : lkV kX2_keepOnly 2 := ⟨⟨tm 33 (by decide +kernel) (by decide +kernel), tm 456 (by decide +kernel) (by decide +kernel), by decide +kernel, by decide +kernel, by decide +kernel⟩, tm 454 (by decide +kernel) (by decide +kernel), tm 455 (by decide +kernel) (by decide +kernel)⟩
theorem kvX5_mix : lkV kX5_mix 4 := ⟨⟨tm 31 (by decide +kernel) (by decide +kernel), tm 460 (by decide +kernel) (by decide +kernel), by decide +kernel, by decide +kernel, by decide +kernel⟩, tm 458 (by decide +kernel) (by decide +kernel), tm 459 (by decide +kernel) (by decide +kernel)⟩
theorem kvX2_blend : lkV kX2_blend 3 := ⟨⟨tm 33 (by decide +kernel) (by decide +kernel), tm 466 (by decide +kernel) (by decide +kernel), by decide +kernel, by decide +kernel, by decide +kernel⟩, tm 464 (by decide +kernel) (by decide +kernel), tm 465 (by decide +kernel) (by decide +kernel)⟩
theorem kvX5_force : lkV kX5_force 3 := ⟨⟨tm 31 (by decide +kernel) (by decide +kernel), tm 470 (by decide +kernel) (by decide +kernel), by decide +kernel, by decide +kernel, by decide +kernel⟩, tm 468 (by decide +kernel) (by decide +kernel), tm 469 (by decide +kernel) (by decide +kernel)⟩
theorem kvX2_squares : lkV kX2_squares 2 := ⟨⟨tm 33 (by decide +kernel) (by decide +kernel), tm 477 (by decide +kernel) (by decide +kernel), by decide +kernel, by decide +kernel, by decide +kernel⟩, tm 475 (by decide +kernel) (by decide +kernel), tm 476 (by decide +kernel) (by decide +kernel)⟩
theorem kvX5_cross : lkV kX5_cross 2 := ⟨⟨tm 31 (by decide +kernel) (by decide +kernel), tm 481 (by decide +kernel) (by decide +kernel), by decide +kernel, by decide +kernel, by decide +kernel⟩, tm 479 (by decide +kernel) (by decide +kernel), tm 480 (by decide +kernel) (by decide +kernel)⟩
theorem kvX2_products : lkV kX2_products 1 := ⟨⟨tm 33 (by decide +kernel) (by decide +kernel), tm 487 (by decide +kernel) (by decide +kernel), by decide +kernel, by decide +kernel, by decide +kernel⟩, tm 485 (by decide +kernel) (by decide +kernel), tm 486 (by decide +kernel) (by decide +kernel)⟩
theorem kvX5_waves : lkV kX5_waves 1 := ⟨⟨tm 31 (by decide +kernel) (by decide +kernel), tm 491 (by decide +kernel) (by decide +kernel), by decide +kernel, by decide +kernel, by decide +kernel⟩, tm 489 (by decide +kernel) (by decide +kernel), tm 490 (by decide +kernel) (by decide +kernel)⟩
theorem kvX2_findWaves : lkV kX2_findWaves 0 := ⟨⟨tm 33 (by decide +kernel) (by decide +kernel), tm 495 (by decide +kernel) (by decide +kernel), by decide +kernel, by decide +kernel, by decide +kernel⟩, tm 493 (by decide +kernel) (by decide +kernel), tm 494 (by decide +kernel) (by decide +kernel)⟩
theorem kvX5_wave : lkV kX5_wave 3 := ⟨⟨tm 31 (by decide +kernel) (by decide +kernel), tm 500 (by decide +kernel) (by decide +kernel), by decide +kernel, by decide +kernel, by decide +kernel⟩, tm 498 (by decide +kernel) (by decide +kernel), tm 499 (by decide +kernel) (by decide +kernel)⟩
theorem kvX2_waveFact : lkV kX2_waveFact 2 := ⟨⟨tm 33 (by decide +kernel) (by decide +kernel), tm 504 (by decide +kernel) (by decide +kernel), by decide +kernel, by decide +kernel, by decide +kernel⟩, tm 502 (by decide +kernel) (by decide +kernel), tm 503 (by decide +kernel) (by decide +kernel)⟩
theorem ksJ9_max_f86c9 : lkS kJ9_max_f86c9 2 := ⟨⟨tm 40 (by decide +kernel) (by decide +kernel), tm 507 (by decide +kernel) (by decide +kernel), by decide +kernel, by decide +kernel, by decide +kernel⟩, tm 506 (by decide +kernel) (by decide +kernel)⟩
theorem ksJ9_min_f86c9 : lkS kJ9_min_f86c9 2 := ⟨⟨tm 40 (by decide +kernel) (by decide +kernel), tm 510 (by decide +kernel) (by decide +kernel), by decide +kernel, by decide +kernel, by decide +kernel⟩, tm 509 (by decide +kernel) (by decide +kernel)⟩
theorem kvX5_third : lkV kX5_third 2 := ⟨⟨tm 31 (by decide +kernel) (by decide +kernel), tm 514 (by decide +kernel) (by decide +kernel), by decide +kernel, by decide +kernel, by decide +kernel⟩, tm 512 (by decide +kernel) (by decide +kernel), tm 513 (by decide +kernel) (by decide +kernel)⟩
theorem kvX2_highestTogether : lkV kX2_highestTogether 2 := ⟨⟨tm 33 (by decide +kernel) (by decide +kernel), tm 519 (by decide +kernel) (by decide +kernel), by decide +kernel, by decide +kernel, by decide +kernel⟩, tm 517 (by decide +kernel) (by decide +kernel), tm 518 (by decide +kernel) (by decide +kernel)⟩
theorem kvX2_sortIn : lkV kX2_sortIn 2 := ⟨⟨tm 33 (by decide +kernel) (by decide +kernel), tm 524 (by decide +kernel) (by decide +kernel), by decide +kernel, by decide +kernel, by decide +kernel⟩, tm 523 (by decide +kernel) (by decide +kernel), tm 15 (by decide +kernel) (by decide +kernel)⟩
theorem ksX5_commonDivisor : lkS kX5_commonDivisor 2 := ⟨⟨tm 31 (by decide +kernel) (by decide +kernel), tm 527 (by decide +kernel) (by decide +kernel), by decide +kernel, by decide +kernel, by decide +kernel⟩, tm 526 (by decide +kernel) (by decide +kernel)⟩
theorem kvX5_groups : lkV kX5_groups 3 := ⟨⟨tm 31 (by decide +kernel) (by decide +kernel), tm 531 (by decide +kernel) (by decide +kernel), by decide +kernel, by decide +kernel, by decide +kernel⟩, tm 529 (by decide +kernel) (by decide +kernel), tm 530 (by decide +kernel) (by decide +kernel)⟩
theorem kvX2_wavesInRows : lkV kX2_wavesInRows 1 := ⟨⟨tm 33 (by decide +kernel) (by decide +kernel), tm 535 (by decide +kernel) (by decide +kernel), by decide +kernel, by decide +kernel, by decide +kernel⟩, tm 533 (by decide +kernel) (by decide +kernel), tm 534 (by decide +kernel) (by decide +kernel)⟩
theorem kvX2_longestRowOfWaves : lkV kX2_longestRowOfWaves 1 := ⟨⟨tm 33 (by decide +kernel) (by decide +kernel), tm 540 (by decide +kernel) (by decide +kernel), by decide +kernel, by decide +kernel, by decide +kernel⟩, tm 538 (by decide +kernel) (by decide +kernel), tm 539 (by decide +kernel) (by decide +kernel)⟩
theorem kvX5_heading : lkV kX5_heading 4 := ⟨⟨tm 31 (by decide +kernel) (by decide +kernel), tm 544 (by decide +kernel) (by decide +kernel), by decide +kernel, by decide +kernel, by decide +kernel⟩, tm 542 (by decide +kernel) (by decide +kernel), tm 543 (by decide +kernel) (by decide +kernel)⟩
theorem ksX5_eighth : lkS kX5_eighth 2 := ⟨⟨tm 31 (by decide +kernel) (by decide +kernel), tm 548 (by decide +kernel) (by decide +kernel), by decide +kernel, by decide +kernel, by decide +kernel⟩, tm 547 (by decide +kernel) (by decide +kernel)⟩
theorem kvX5_send : lkV kX5_send 1 := ⟨⟨tm 31 (by decide +kernel) (by decide +kernel), tm 552 (by decide +kernel) (by decide +kernel), by decide +kernel, by decide +kernel, by decide +kernel⟩, tm 550 (by decide +kernel) (by decide +kernel), tm 551 (by decide +kernel) (by decide +kernel)⟩
theorem kvX1_load : lkV kX1_load 1 := ⟨⟨tm 34 (by decide +kernel) (by decide +kernel), tm 556 (by decide +kernel) (by decide +kernel), by decide +kernel, by decide +kernel, by decide +kernel⟩, tm 554 (by decide +kernel) (by decide +kernel), tm 555 (by decide +kernel) (by decide +kernel)⟩
theorem kvX1_size : lkV kX1_size 0 := ⟨⟨tm 34 (by decide +kernel) (by decide +kernel), tm 564 (by decide +kernel) (by decide +kernel), by decide +kernel, by decide +kernel, by decide +kernel⟩, tm 562 (by decide +kernel) (by decide +kernel), tm 563 (by decide +kernel) (by decide +kernel)⟩
theorem kvX1_samplePacks : lkV kX1_samplePacks 0 := ⟨⟨tm 34 (by decide +kernel) (by decide +kernel), tm 568 (by decide +kernel) (by decide +kernel), by decide +kernel, by decide +kernel, by decide +kernel⟩, tm 567 (by decide +kernel) (by decide +kernel), tm 16 (by decide +kernel) (by decide +kernel)⟩
theorem kvX5_miss : lkV kX5_miss 1 := ⟨⟨tm 31 (by decide +kernel) (by decide +kernel), tm 572 (by decide +kernel) (by decide +kernel), by decide +kernel, by decide +kernel, by decide +kernel⟩, tm 570 (by decide +kernel) (by decide +kernel), tm 571 (by decide +kernel) (by decide +kernel)⟩
theorem kvX1_forget : lkV kX1_forget 1 := ⟨⟨tm 34 (by decide +kernel) (by decide +kernel), tm 576 (by decide +kernel) (by decide +kernel), by decide +kernel, by decide +kernel, by decide +kernel⟩, tm 574 (by decide +kernel) (by decide +kernel), tm 575 (by decide +kernel) (by decide +kernel)⟩
theorem kvX5_receive : lkV kX5_receive 1 := ⟨⟨tm 31 (by decide +kernel) (by decide +kernel), tm 580 (by decide +kernel) (by decide +kernel), by decide +kernel, by decide +kernel, by decide +kernel⟩, tm 578 (by decide +kernel) (by decide +kernel), tm 579 (by decide +kernel) (by decide +kernel)⟩
theorem kvX1_wereSent : lkV kX1_wereSent 0 := ⟨⟨tm 34 (by decide +kernel) (by decide +kernel), tm 584 (by decide +kernel) (by decide +kernel), by decide +kernel, by decide +kernel, by decide +kernel⟩, tm 582 (by decide +kernel) (by decide +kernel), tm 583 (by decide +kernel) (by decide +kernel)⟩
theorem kvX1_unload : lkV kX1_unload 1 := ⟨⟨tm 34 (by decide +kernel) (by decide +kernel), tm 589 (by decide +kernel) (by decide +kernel), by decide +kernel, by decide +kernel, by decide +kernel⟩, tm 587 (by decide +kernel) (by decide +kernel), tm 588 (by decide +kernel) (by decide +kernel)⟩
theorem kvX1_comes : lkV kX1_comes 1 := ⟨⟨tm 34 (by decide +kernel) (by decide +kernel), tm 593 (by decide +kernel) (by decide +kernel), by decide +kernel, by decide +kernel, by decide +kernel⟩, tm 592 (by decide +kernel) (by decide +kernel), tm 17 (by decide +kernel) (by decide +kernel)⟩
theorem kvX1_lostBeside : lkV kX1_lostBeside 1 := ⟨⟨tm 34 (by decide +kernel) (by decide +kernel), tm 597 (by decide +kernel) (by decide +kernel), by decide +kernel, by decide +kernel, by decide +kernel⟩, tm 596 (by decide +kernel) (by decide +kernel), tm 18 (by decide +kernel) (by decide +kernel)⟩
theorem kvX5_rule : lkV kX5_rule 3 := ⟨⟨tm 31 (by decide +kernel) (by decide +kernel), tm 602 (by decide +kernel) (by decide +kernel), by decide +kernel, by decide +kernel, by decide +kernel⟩, tm 600 (by decide +kernel) (by decide +kernel), tm 601 (by decide +kernel) (by decide +kernel)⟩
theorem kvX4_begin : lkV kX4_begin 3 := ⟨⟨tm 35 (by decide +kernel) (by decide +kernel), tm 606 (by decide +kernel) (by decide +kernel), by decide +kernel, by decide +kernel, by decide +kernel⟩, tm 604 (by decide +kernel) (by decide +kernel), tm 605 (by decide +kernel) (by decide +kernel)⟩
theorem kvX5_hear : lkV kX5_hear 1 := ⟨⟨tm 31 (by decide +kernel) (by decide +kernel), tm 610 (by decide +kernel) (by decide +kernel), by decide +kernel, by decide +kernel, by decide +kernel⟩, tm 608 (by decide +kernel) (by decide +kernel), tm 609 (by decide +kernel) (by decide +kernel)⟩
theorem kvX4_take : lkV kX4_take 1 := ⟨⟨tm 35 (by decide +kernel) (by decide +kernel), tm 614 (by decide +kernel) (by decide +kernel), by decide +kernel, by decide +kernel, by decide +kernel⟩, tm 612 (by decide +kernel) (by decide +kernel), tm 613 (by decide +kernel) (by decide +kernel)⟩
theorem kvX4_state : lkV kX4_state 0 := ⟨⟨tm 35 (by decide +kernel) (by decide +kernel), tm 618 (by decide +kernel) (by decide +kernel), by decide +kernel, by decide +kernel, by decide +kernel⟩, tm 616 (by decide +kernel) (by decide +kernel), tm 617 (by decide +kernel) (by decide +kernel)⟩
theorem kvX5_anchor : lkV kX5_anchor 4 := ⟨⟨tm 31 (by decide +kernel) (by decide +kernel), tm 622 (by decide +kernel) (by decide +kernel), by decide +kernel, by decide +kernel, by decide +kernel⟩, tm 620 (by decide +kernel) (by decide +kernel), tm 621 (by decide +kernel) (by decide +kernel)⟩
theorem ksX5_isPlace : lkS kX5_isPlace 2 := ⟨⟨tm 31 (by decide +kernel) (by decide +kernel), tm 625 (by decide +kernel) (by decide +kernel), by decide +kernel, by decide +kernel, by decide +kernel⟩, tm 624 (by decide +kernel) (by decide +kernel)⟩
theorem kvX0_begin : lkV kX0_begin 4 := ⟨⟨tm 36 (by decide +kernel) (by decide +kernel), tm 631 (by decide +kernel) (by decide +kernel), by decide +kernel, by decide +kernel, by decide +kernel⟩, tm 629 (by decide +kernel) (by decide +kernel), tm 630 (by decide +kernel) (by decide +kernel)⟩
theorem kvX5_fix : lkV kX5_fix 2 := ⟨⟨tm 31 (by decide +kernel) (by decide +kernel), tm 635 (by decide +kernel) (by decide +kernel), by decide +kernel, by decide +kernel, by decide +kernel⟩, tm 633 (by decide +kernel) (by decide +kernel), tm 634 (by decide +kernel) (by decide +kernel)⟩
theorem kvX0_take : lkV kX0_take 2 := ⟨⟨tm 36 (by decide +kernel) (by decide +kernel), tm 639 (by decide +kernel) (by decide +kernel), by decide +kernel, by decide +kernel, by decide +kernel⟩, tm 637 (by decide +kernel) (by decide +kernel), tm 638 (by decide +kernel) (by decide +kernel)⟩
theorem ksJ9_min_7cf53 : lkS kJ9_min_7cf53 2 := ⟨⟨tm 40 (by decide +kernel) (by decide +kernel), tm 642 (by decide +kernel) (by decide +kernel), by decide +kernel, by decide +kernel, by decide +kernel⟩, tm 641 (by decide +kernel) (by decide +kernel)⟩
theorem kvX0_isOut : lkV kX0_isOut 2 := ⟨⟨tm 36 (by decide +kernel) (by decide +kernel), tm 647 (by decide +kernel) (by decide +kernel), by decide +kernel, by decide +kernel, by decide +kernel⟩, tm 646 (by decide +kernel) (by decide +kernel), tm 19 (by decide +kernel) (by decide +kernel)⟩
theorem kvX0_state : lkV kX0_state 0 := ⟨⟨tm 36 (by decide +kernel) (by decide +kernel), tm 651 (by decide +kernel) (by decide +kernel), by decide +kernel, by decide +kernel, by decide +kernel⟩, tm 649 (by decide +kernel) (by decide +kernel), tm 650 (by decide +kernel) (by decide +kernel)⟩
theorem kvX5_count : lkV kX5_count 1 := ⟨⟨tm 31 (by decide +kernel) (by decide +kernel), tm 655 (by decide +kernel) (by decide +kernel), by decide +kernel, by decide +kernel, by decide +kernel⟩, tm 653 (by decide +kernel) (by decide +kernel), tm 654 (by decide +kernel) (by decide +kernel)⟩
theorem kvX5_sheetsThere : lkV kX5_sheetsThere 0 := ⟨⟨tm 31 (by decide +kernel) (by decide +kernel), tm 659 (by decide +kernel) (by decide +kernel), by decide +kernel, by decide +kernel, by decide +kernel⟩, tm 658 (by decide +kernel) (by decide +kernel), tm 20 (by decide +kernel) (by decide +kernel)⟩
theorem kvX1_lostPacks : lkV kX1_lostPacks 0 := ⟨⟨tm 34 (by decide +kernel) (by decide +kernel), tm 663 (by decide +kernel) (by decide +kernel), by decide +kernel, by decide +kernel, by decide +kernel⟩, tm 661 (by decide +kernel) (by decide +kernel), tm 662 (by decide +kernel) (by decide +kernel)⟩
theorem kvX4_heard : lkV kX4_heard 0 := ⟨⟨tm 35 (by decide +kernel) (by decide +kernel), tm 667 (by decide +kernel) (by decide +kernel), by decide +kernel, by decide +kernel, by decide +kernel⟩, tm 665 (by decide +kernel) (by decide +kernel), tm 666 (by decide +kernel) (by decide +kernel)⟩
theorem kvX4_changes : lkV kX4_changes 0 := ⟨⟨tm 35 (by decide +kernel) (by decide +kernel), tm 671 (by decide +kernel) (by decide +kernel), by decide +kernel, by decide +kernel, by decide +kernel⟩, tm 669 (by decide +kernel) (by decide +kernel), tm 670 (by decide +kernel) (by decide +kernel)⟩
theorem kvX0_places : lkV kX0_places 0 := ⟨⟨tm 36 (by decide +kernel) (by decide +kernel), tm 675 (by decide +kernel) (by decide +kernel), by decide +kernel, by decide +kernel, by decide +kernel⟩, tm 673 (by decide +kernel) (by decide +kernel), tm 674 (by decide +kernel) (by decide +kernel)⟩
theorem kvX0_outOnEnd : lkV kX0_outOnEnd 0 := ⟨⟨tm 36 (by decide +kernel) (by decide +kernel), tm 679 (by decide +kernel) (by decide +kernel), by decide +kernel, by decide +kernel, by decide +kernel⟩, tm 677 (by decide +kernel) (by decide +kernel), tm 678 (by decide +kernel) (by decide +kernel)⟩
theorem kvX0_width : lkV kX0_width 0 := ⟨⟨tm 36 (by decide +kernel) (by decide +kernel), tm 683 (by decide +kernel) (by decide +kernel), by decide +kernel, by decide +kernel, by decide +kernel⟩, tm 681 (by decide +kernel) (by decide +kernel), tm 682 (by decide +kernel) (by decide +kernel)⟩
theorem kvX0_depth : lkV kX0_depth 0 := ⟨⟨tm 36 (by decide +kernel) (by decide +kernel), tm 687 (by decide +kernel) (by decide +kernel), by decide +kernel, by decide +kernel, by decide +kernel⟩, tm 685 (by decide +kernel) (by decide +kernel), tm 686 (by decide +kernel) (by decide +kernel)⟩
theorem kvX5_digest : lkV kX5_digest 0 := ⟨⟨tm 31 (by decide +kernel) (by decide +kernel), tm 691 (by decide +kernel) (by decide +kernel), by decide +kernel, by decide +kernel, by decide +kernel⟩, tm 689 (by decide +kernel) (by decide +kernel), tm 690 (by decide +kernel) (by decide +kernel)⟩
theorem kvX3_digestOn : lkV kX3_digestOn 1 := ⟨⟨tm 32 (by decide +kernel) (by decide +kernel), tm 698 (by decide +kernel) (by decide +kernel), by decide +kernel, by decide +kernel, by decide +kernel⟩, tm 696 (by decide +kernel) (by decide +kernel), tm 697 (by decide +kernel) (by decide +kernel)⟩
theorem kvX2_digestOn : lkV kX2_digestOn 1 := ⟨⟨tm 33 (by decide +kernel) (by decide +kernel), tm 704 (by decide +kernel) (by decide +kernel), by decide +kernel, by decide +kernel, by decide +kernel⟩, tm 702 (by decide +kernel) (by decide +kernel), tm 703 (by decide +kernel) (by decide +kernel)⟩
theorem kvX6_sheet : lkV kX6_sheet 3 := ⟨⟨tm 37 (by decide +kernel) (by decide +kernel), tm 812 (by decide +kernel) (by decide +kernel), by decide +kernel, by decide +kernel, by decide +kernel⟩, tm 810 (by decide +kernel) (by decide +kernel), tm 811 (by decide +kernel) (by decide +kernel)⟩
theorem ksX6_in : lkS kX6_in 3 := ⟨⟨tm 37 (by decide +kernel) (by decide +kernel), tm 816 (by decide +kernel) (by decide +kernel), by decide +kernel, by decide +kernel, by decide +kernel⟩, tm 815 (by decide +kernel) (by decide +kernel)⟩
theorem kvX6_drop : lkV kX6_drop 1 := ⟨⟨tm 37 (by decide +kernel) (by decide +kernel), tm 821 (by decide +kernel) (by decide +kernel), by decide +kernel, by decide +kernel, by decide +kernel⟩, tm 819 (by decide +kernel) (by decide +kernel), tm 820 (by decide +kernel) (by decide +kernel)⟩
theorem kvX6_noSheet : lkV kX6_noSheet 1 := ⟨⟨tm 37 (by decide +kernel) (by decide +kernel), tm 825 (by decide +kernel) (by decide +kernel), by decide +kernel, by decide +kernel, by decide +kernel⟩, tm 824 (by decide +kernel) (by decide +kernel), tm 21 (by decide +kernel) (by decide +kernel)⟩
theorem kvX6_put : lkV kX6_put 3 := ⟨⟨tm 37 (by decide +kernel) (by decide +kernel), tm 829 (by decide +kernel) (by decide +kernel), by decide +kernel, by decide +kernel, by decide +kernel⟩, tm 827 (by decide +kernel) (by decide +kernel), tm 828 (by decide +kernel) (by decide +kernel)⟩
theorem ksX6_fits : lkS kX6_fits 2 := ⟨⟨tm 37 (by decide +kernel) (by decide +kernel), tm 832 (by decide +kernel) (by decide +kernel), by decide +kernel, by decide +kernel, by decide +kernel⟩, tm 831 (by decide +kernel) (by decide +kernel)⟩
theorem kvX6_get : lkV kX6_get 2 := ⟨⟨tm 37 (by decide +kernel) (by decide +kernel), tm 840 (by decide +kernel) (by decide +kernel), by decide +kernel, by decide +kernel, by decide +kernel⟩, tm 838 (by decide +kernel) (by decide +kernel), tm 839 (by decide +kernel) (by decide +kernel)⟩
theorem kvX6_lose : lkV kX6_lose 2 := ⟨⟨tm 37 (by decide +kernel) (by decide +kernel), tm 847 (by decide +kernel) (by decide +kernel), by decide +kernel, by decide +kernel, by decide +kernel⟩, tm 845 (by decide +kernel) (by decide +kernel), tm 846 (by decide +kernel) (by decide +kernel)⟩
theorem kvX6_stands : lkV kX6_stands 2 := ⟨⟨tm 37 (by decide +kernel) (by decide +kernel), tm 851 (by decide +kernel) (by decide +kernel), by decide +kernel, by decide +kernel, by decide +kernel⟩, tm 849 (by decide +kernel) (by decide +kernel), tm 850 (by decide +kernel) (by decide +kernel)⟩
theorem kvX6_copy : lkV kX6_copy 5 := ⟨⟨tm 37 (by decide +kernel) (by decide +kernel), tm 855 (by decide +kernel) (by decide +kernel), by decide +kernel, by decide +kernel, by decide +kernel⟩, tm 853 (by decide +kernel) (by decide +kernel), tm 854 (by decide +kernel) (by decide +kernel)⟩
theorem kvX6_spikes : lkV kX6_spikes 2 := ⟨⟨tm 37 (by decide +kernel) (by decide +kernel), tm 859 (by decide +kernel) (by decide +kernel), by decide +kernel, by decide +kernel, by decide +kernel⟩, tm 857 (by decide +kernel) (by decide +kernel), tm 858 (by decide +kernel) (by decide +kernel)⟩
theorem kvX6_fill : lkV kX6_fill 2 := ⟨⟨tm 37 (by decide +kernel) (by decide +kernel), tm 863 (by decide +kernel) (by decide +kernel), by decide +kernel, by decide +kernel, by decide +kernel⟩, tm 861 (by decide +kernel) (by decide +kernel), tm 862 (by decide +kernel) (by decide +kernel)⟩
theorem kvX6_about : lkV kX6_about 2 := ⟨⟨tm 37 (by decide +kernel) (by decide +kernel), tm 868 (by decide +kernel) (by decide +kernel), by decide +kernel, by decide +kernel, by decide +kernel⟩, tm 866 (by decide +kernel) (by decide +kernel), tm 867 (by decide +kernel) (by decide +kernel)⟩
theorem kvX6_gaps : lkV kX6_gaps 2 := ⟨⟨tm 37 (by decide +kernel) (by decide +kernel), tm 873 (by decide +kernel) (by decide +kernel), by decide +kernel, by decide +kernel, by decide +kernel⟩, tm 872 (by decide +kernel) (by decide +kernel), tm 22 (by decide +kernel) (by decide +kernel)⟩
theorem kvX6_those : lkV kX6_those 2 := ⟨⟨tm 37 (by decide +kernel) (by decide +kernel), tm 877 (by decide +kernel) (by decide +kernel), by decide +kernel, by decide +kernel, by decide +kernel⟩, tm 876 (by decide +kernel) (by decide +kernel), tm 23 (by decide +kernel) (by decide +kernel)⟩
theorem kvX6_raise : lkV kX6_raise 2 := ⟨⟨tm 37 (by decide +kernel) (by decide +kernel), tm 881 (by decide +kernel) (by decide +kernel), by decide +kernel, by decide +kernel, by decide +kernel⟩, tm 879 (by decide +kernel) (by decide +kernel), tm 880 (by decide +kernel) (by decide +kernel)⟩
theorem ksX6_isRow : lkS kX6_isRow 1 := ⟨⟨tm 37 (by decide +kernel) (by decide +kernel), tm 884 (by decide +kernel) (by decide +kernel), by decide +kernel, by decide +kernel, by decide +kernel⟩, tm 883 (by decide +kernel) (by decide +kernel)⟩
theorem kvX6_number : lkV kX6_number 2 := ⟨⟨tm 37 (by decide +kernel) (by decide +kernel), tm 888 (by decide +kernel) (by decide +kernel), by decide +kernel, by decide +kernel, by decide +kernel⟩, tm 886 (by decide +kernel) (by decide +kernel), tm 887 (by decide +kernel) (by decide +kernel)⟩
theorem kvX6_turn : lkV kX6_turn 2 := ⟨⟨tm 37 (by decide +kernel) (by decide +kernel), tm 893 (by decide +kernel) (by decide +kernel), by decide +kernel, by decide +kernel, by decide +kernel⟩, tm 891 (by decide +kernel) (by decide +kernel), tm 892 (by decide +kernel) (by decide +kernel)⟩
theorem ksX6_isPower : lkS kX6_isPower 1 := ⟨⟨tm 37 (by decide +kernel) (by decide +kernel), tm 897 (by decide +kernel) (by decide +kernel), by decide +kernel, by decide +kernel, by decide +kernel⟩, tm 896 (by decide +kernel) (by decide +kernel)⟩
theorem ksX6_factor : lkS kX6_factor 4 := ⟨⟨tm 37 (by decide +kernel) (by decide +kernel), tm 902 (by decide +kernel) (by decide +kernel), by decide +kernel, by decide +kernel, by decide +kernel⟩, tm 901 (by decide +kernel) (by decide +kernel)⟩
theorem kvX6_part : lkV kX6_part 3 := ⟨⟨tm 37 (by decide +kernel) (by decide +kernel), tm 912 (by decide +kernel) (by decide +kernel), by decide +kernel, by decide +kernel, by decide +kernel⟩, tm 910 (by decide +kernel) (by decide +kernel), tm 911 (by decide +kernel) (by decide +kernel)⟩
theorem kvX6_mix : lkV kX6_mix 4 := ⟨⟨tm 37 (by decide +kernel) (by decide +kernel), tm 916 (by decide +kernel) (by decide +kernel), by decide +kernel, by decide +kernel, by decide +kernel⟩, tm 914 (by decide +kernel) (by decide +kernel), tm 915 (by decide +kernel) (by decide +kernel)⟩
theorem kvX6_force : lkV kX6_force 3 := ⟨⟨tm 37 (by decide +kernel) (by decide +kernel), tm 922 (by decide +kernel) (by decide +kernel), by decide +kernel, by decide +kernel, by decide +kernel⟩, tm 920 (by decide +kernel) (by decide +kernel), tm 921 (by decide +kernel) (by decide +kernel)⟩
theorem kvX6_cross : lkV kX6_cross 2 := ⟨⟨tm 37 (by decide +kernel) (by decide +kernel), tm 929 (by decide +kernel) (by decide +kernel), by decide +kernel, by decide +kernel, by decide +kernel⟩, tm 927 (by decide +kernel) (by decide +kernel), tm 928 (by decide +kernel) (by decide +kernel)⟩
theorem kvX6_waves : lkV kX6_waves 1 := ⟨⟨tm 37 (by decide +kernel) (by decide +kernel), tm 934 (by decide +kernel) (by decide +kernel), by decide +kernel, by decide +kernel, by decide +kernel⟩, tm 932 (by decide +kernel) (by decide +kernel), tm 933 (by decide +kernel) (by decide +kernel)⟩
theorem kvX6_waveMany : lkV kX6_waveMany 1 := ⟨⟨tm 37 (by decide +kernel) (by decide +kernel), tm 938 (by decide +kernel) (by decide +kernel), by decide +kernel, by decide +kernel, by decide +kernel⟩, tm 937 (by decide +kernel) (by decide +kernel), tm 24 (by decide +kernel) (by decide +kernel)⟩
theorem kvX6_findTurns : lkV kX6_findTurns 1 := ⟨⟨tm 37 (by decide +kernel) (by decide +kernel), tm 942 (by decide +kernel) (by decide +kernel), by decide +kernel, by decide +kernel, by decide +kernel⟩, tm 941 (by decide +kernel) (by decide +kernel), tm 25 (by decide +kernel) (by decide +kernel)⟩
theorem kvX6_wave : lkV kX6_wave 3 := ⟨⟨tm 37 (by decide +kernel) (by decide +kernel), tm 946 (by decide +kernel) (by decide +kernel), by decide +kernel, by decide +kernel, by decide +kernel⟩, tm 944 (by decide +kernel) (by decide +kernel), tm 945 (by decide +kernel) (by decide +kernel)⟩
theorem kvX6_end : lkV kX6_end 3 := ⟨⟨tm 37 (by decide +kernel) (by decide +kernel), tm 951 (by decide +kernel) (by decide +kernel), by decide +kernel, by decide +kernel, by decide +kernel⟩, tm 950 (by decide +kernel) (by decide +kernel), tm 26 (by decide +kernel) (by decide +kernel)⟩
theorem kvX6_height : lkV kX6_height 2 := ⟨⟨tm 37 (by decide +kernel) (by decide +kernel), tm 955 (by decide +kernel) (by decide +kernel), by decide +kernel, by decide +kernel, by decide +kernel⟩, tm 954 (by decide +kernel) (by decide +kernel), tm 27 (by decide +kernel) (by decide +kernel)⟩
theorem kvX6_third : lkV kX6_third 2 := ⟨⟨tm 37 (by decide +kernel) (by decide +kernel), tm 959 (by decide +kernel) (by decide +kernel), by decide +kernel, by decide +kernel, by decide +kernel⟩, tm 957 (by decide +kernel) (by decide +kernel), tm 958 (by decide +kernel) (by decide +kernel)⟩
theorem ksX6_divisor : lkS kX6_divisor 2 := ⟨⟨tm 37 (by decide +kernel) (by decide +kernel), tm 962 (by decide +kernel) (by decide +kernel), by decide +kernel, by decide +kernel, by decide +kernel⟩, tm 961 (by decide +kernel) (by decide +kernel)⟩
theorem kvX6_groups : lkV kX6_groups 3 := ⟨⟨tm 37 (by decide +kernel) (by decide +kernel), tm 966 (by decide +kernel) (by decide +kernel), by decide +kernel, by decide +kernel, by decide +kernel⟩, tm 964 (by decide +kernel) (by decide +kernel), tm 965 (by decide +kernel) (by decide +kernel)⟩
theorem kvX6_heading : lkV kX6_heading 4 := ⟨⟨tm 37 (by decide +kernel) (by decide +kernel), tm 970 (by decide +kernel) (by decide +kernel), by decide +kernel, by decide +kernel, by decide +kernel⟩, tm 968 (by decide +kernel) (by decide +kernel), tm 969 (by decide +kernel) (by decide +kernel)⟩
theorem kvX6_isNear : lkV kX6_isNear 1 := ⟨⟨tm 37 (by decide +kernel) (by decide +kernel), tm 975 (by decide +kernel) (by decide +kernel), by decide +kernel, by decide +kernel, by decide +kernel⟩, tm 974 (by decide +kernel) (by decide +kernel), tm 28 (by decide +kernel) (by decide +kernel)⟩
theorem kvX6_send : lkV kX6_send 1 := ⟨⟨tm 37 (by decide +kernel) (by decide +kernel), tm 981 (by decide +kernel) (by decide +kernel), by decide +kernel, by decide +kernel, by decide +kernel⟩, tm 979 (by decide +kernel) (by decide +kernel), tm 980 (by decide +kernel) (by decide +kernel)⟩
theorem kvX6_miss : lkV kX6_miss 1 := ⟨⟨tm 37 (by decide +kernel) (by decide +kernel), tm 985 (by decide +kernel) (by decide +kernel), by decide +kernel, by decide +kernel, by decide +kernel⟩, tm 983 (by decide +kernel) (by decide +kernel), tm 984 (by decide +kernel) (by decide +kernel)⟩
theorem kvX6_receive : lkV kX6_receive 1 := ⟨⟨tm 37 (by decide +kernel) (by decide +kernel), tm 989 (by decide +kernel) (by decide +kernel), by decide +kernel, by decide +kernel, by decide +kernel⟩, tm 987 (by decide +kernel) (by decide +kernel), tm 988 (by decide +kernel) (by decide +kernel)⟩
theorem kvX6_comes : lkV kX6_comes 1 := ⟨⟨tm 37 (by decide +kernel) (by decide +kernel), tm 993 (by decide +kernel) (by decide +kernel), by decide +kernel, by decide +kernel, by decide +kernel⟩, tm 992 (by decide +kernel) (by decide +kernel), tm 29 (by decide +kernel) (by decide +kernel)⟩
theorem kvX6_rule : lkV kX6_rule 3 := ⟨⟨tm 37 (by decide +kernel) (by decide +kernel), tm 997 (by decide +kernel) (by decide +kernel), by decide +kernel, by decide +kernel, by decide +kernel⟩, tm 995 (by decide +kernel) (by decide +kernel), tm 996 (by decide +kernel) (by decide +kernel)⟩
theorem kvX6_hear : lkV kX6_hear 1 := ⟨⟨tm 37 (by decide +kernel) (by decide +kernel), tm 1001 (by decide +kernel) (by decide +kernel), by decide +kernel, by decide +kernel, by decide +kernel⟩, tm 999 (by decide +kernel) (by decide +kernel), tm 1000 (by decide +kernel) (by decide +kernel)⟩
theorem kvX6_anchor : lkV kX6_anchor 4 := ⟨⟨tm 37 (by decide +kernel) (by decide +kernel), tm 1005 (by decide +kernel) (by decide +kernel), by decide +kernel, by decide +kernel, by decide +kernel⟩, tm 1003 (by decide +kernel) (by decide +kernel), tm 1004 (by decide +kernel) (by decide +kernel)⟩
theorem ksX6_isPlace : lkS kX6_isPlace 2 := ⟨⟨tm 37 (by decide +kernel) (by decide +kernel), tm 1008 (by decide +kernel) (by decide +kernel), by decide +kernel, by decide +kernel, by decide +kernel⟩, tm 1007 (by decide +kernel) (by decide +kernel)⟩
theorem kvX6_fix : lkV kX6_fix 2 := ⟨⟨tm 37 (by decide +kernel) (by decide +kernel), tm 1012 (by decide +kernel) (by decide +kernel), by decide +kernel, by decide +kernel, by decide +kernel⟩, tm 1010 (by decide +kernel) (by decide +kernel), tm 1011 (by decide +kernel) (by decide +kernel)⟩
theorem kvX6_count : lkV kX6_count 1 := ⟨⟨tm 37 (by decide +kernel) (by decide +kernel), tm 1016 (by decide +kernel) (by decide +kernel), by decide +kernel, by decide +kernel, by decide +kernel⟩, tm 1014 (by decide +kernel) (by decide +kernel), tm 1015 (by decide +kernel) (by decide +kernel)⟩
theorem kvX6_digest : lkV kX6_digest 0 := ⟨⟨tm 37 (by decide +kernel) (by decide +kernel), tm 1020 (by decide +kernel) (by decide +kernel), by decide +kernel, by decide +kernel, by decide +kernel⟩, tm 1018 (by decide +kernel) (by decide +kernel), tm 1019 (by decide +kernel) (by decide +kernel)⟩
theorem fgX3_22 : fG RX3 22 3 0 := ⟨RX3, TX3, 6, rfl, uw3, by decide, tm 57 (by decide +kernel) (by decide +kernel)⟩
theorem fgX3_26 : fG RX3 26 3 1 := ⟨RX3, TX3, 6, rfl, uw3, by decide, tm 58 (by decide +kernel) (by decide +kernel)⟩
theorem fgX3_30 : fG RX3 30 3 2 := ⟨RX3, TX3, 6, rfl, uw3, by decide, tm 59 (by decide +kernel) (by decide +kernel)⟩
theorem fgX3_9 : fG RX3 9 3 3 := ⟨RX3, TX3, 6, rfl, uw3, by decide, tm 60 (by decide +kernel) (by decide +kernel)⟩
theorem fgX3_15 : fG RX3 15 3 4 := ⟨RX3, TX3, 6, rfl, uw3, by decide, tm 61 (by decide +kernel) (by decide +kernel)⟩
theorem fgX3_18 : fG RX3 18 3 5 := ⟨RX3, TX3, 6, rfl, uw3, by decide, tm 62 (by decide +kernel) (by decide +kernel)⟩
theorem fgX2_25 : fG RX2 25 2 0 := ⟨RX2, TX2, 5, rfl, uw2, by decide, tm 85 (by decide +kernel) (by decide +kernel)⟩
theorem fgX2_9 : fG RX2 9 2 1 := ⟨RX2, TX2, 5, rfl, uw2, by decide, tm 86 (by decide +kernel) (by decide +kernel)⟩
theorem fgX2_15 : fG RX2 15 2 2 := ⟨RX2, TX2, 5, rfl, uw2, by decide, tm 87 (by decide +kernel) (by decide +kernel)⟩
theorem fgX2_18 : fG RX2 18 2 3 := ⟨RX2, TX2, 5, rfl, uw2, by decide, tm 88 (by decide +kernel) (by decide +kernel)⟩
theorem fgX2_22 : fG RX2 22 2 4 := ⟨RX2, TX2, 5, rfl, uw2, by decide, tm 89 (by decide +kernel) (by decide +kernel)⟩
theorem fgX1_10 : fG RX1 10 1 0 := ⟨RX1, TX1, 2, rfl, uw1, by decide, tm 110 (by decide +kernel) (by decide +kernel)⟩
theorem fgX1_16 : fG RX1 16 1 1 := ⟨RX1, TX1, 2, rfl, uw1, by decide, tm 111 (by decide +kernel) (by decide +kernel)⟩
theorem fgX4_7 : fG RX4 7 4 0 := ⟨RX4, TX4, 7, rfl, uw4, by decide, tm 123 (by decide +kernel) (by decide +kernel)⟩
theorem fgX4_13 : fG RX4 13 4 1 := ⟨RX4, TX4, 7, rfl, uw4, by decide, tm 124 (by decide +kernel) (by decide +kernel)⟩
theorem fgX4_16 : fG RX4 16 4 2 := ⟨RX4, TX4, 7, rfl, uw4, by decide, tm 125 (by decide +kernel) (by decide +kernel)⟩
theorem fgX4_19 : fG RX4 19 4 3 := ⟨RX4, TX4, 7, rfl, uw4, by decide, tm 126 (by decide +kernel) (by decide +kernel)⟩
theorem fgX4_22 : fG RX4 22 4 4 := ⟨RX4, TX4, 7, rfl, uw4, by decide, tm 127 (by decide +kernel) (by decide +kernel)⟩
theorem fgX4_25 : fG RX4 25 4 5 := ⟨RX4, TX4, 7, rfl, uw4, by decide, tm 128 (by decide +kernel) (by decide +kernel)⟩
theorem fgX4_28 : fG RX4 28 4 6 := ⟨RX4, TX4, 7, rfl, uw4, by decide, tm 129 (by decide +kernel) (by decide +kernel)⟩
theorem fgX0_13 : fG RX0 13 0 0 := ⟨RX0, TX0, 10, rfl, uw0, by decide, tm 151 (by decide +kernel) (by decide +kernel)⟩
theorem fgX0_17 : fG RX0 17 0 1 := ⟨RX0, TX0, 10, rfl, uw0, by decide, tm 152 (by decide +kernel) (by decide +kernel)⟩
theorem fgX0_20 : fG RX0 20 0 2 := ⟨RX0, TX0, 10, rfl, uw0, by decide, tm 153 (by decide +kernel) (by decide +kernel)⟩
theorem fgX0_7 : fG RX0 7 0 3 := ⟨RX0, TX0, 10, rfl, uw0, by decide, tm 154 (by decide +kernel) (by decide +kernel)⟩
theorem fgX0_23 : fG RX0 23 0 4 := ⟨RX0, TX0, 10, rfl, uw0, by decide, tm 155 (by decide +kernel) (by decide +kernel)⟩
theorem fgX0_26 : fG RX0 26 0 5 := ⟨RX0, TX0, 10, rfl, uw0, by decide, tm 156 (by decide +kernel) (by decide +kernel)⟩
theorem fgX0_29 : fG RX0 29 0 6 := ⟨RX0, TX0, 10, rfl, uw0, by decide, tm 157 (by decide +kernel) (by decide +kernel)⟩
theorem fgX0_38 : fG RX0 38 0 7 := ⟨RX0, TX0, 10, rfl, uw0, by decide, tm 158 (by decide +kernel) (by decide +kernel)⟩
theorem fgX0_44 : fG RX0 44 0 8 := ⟨RX0, TX0, 10, rfl, uw0, by decide, tm 159 (by decide +kernel) (by decide +kernel)⟩
theorem fgX0_47 : fG RX0 47 0 9 := ⟨RX0, TX0, 10, rfl, uw0, by decide, tm 160 (by decide +kernel) (by decide +kernel)⟩
theorem fgX5_11 : fG RX5 11 5 0 := ⟨RX5, TX5, 5, rfl, uw5, by decide, tm 182 (by decide +kernel) (by decide +kernel)⟩
theorem fgX5_18 : fG RX5 18 5 1 := ⟨RX5, TX5, 5, rfl, uw5, by decide, tm 183 (by decide +kernel) (by decide +kernel)⟩
theorem fgX5_26 : fG RX5 26 5 2 := ⟨RX5, TX5, 5, rfl, uw5, by decide, tm 184 (by decide +kernel) (by decide +kernel)⟩
theorem fgX5_33 : fG RX5 33 5 3 := ⟨RX5, TX5, 5, rfl, uw5, by decide, tm 185 (by decide +kernel) (by decide +kernel)⟩
theorem fgX5_40 : fG RX5 40 5 4 := ⟨RX5, TX5, 5, rfl, uw5, by decide, tm 186 (by decide +kernel) (by decide +kernel)⟩
theorem lmL_13 : Cond.methodLink RL 13 yX5_sheet ∈ wT := tm 198 (by decide +kernel) (by decide +kernel)
theorem lmX5_44 : Cond.methodLink RX5 44 yX5_isSheet ∈ wT := tm 202 (by decide +kernel) (by decide +kernel)
theorem lmX5_48 : Cond.methodLink RX5 48 yX3_begin ∈ wT := tm 205 (by decide +kernel) (by decide +kernel)
theorem lmX3_33 : Cond.methodLink RX3 33 yJ7_fill_53178 ∈ wT := tm 209 (by decide +kernel) (by decide +kernel)
theorem lmL_18 : Cond.methodLink RL 18 yX5_drop ∈ wT := tm 212 (by decide +kernel) (by decide +kernel)
theorem lmX5_52 : Cond.methodLink RX5 52 yX5_sheetFailure ∈ wT := tm 216 (by decide +kernel) (by decide +kernel)
theorem lmX5_87 : Cond.methodLink RX5 87 yX3_isThere ∈ wT := tm 220 (by decide +kernel) (by decide +kernel)
theorem lmX5_56 : Cond.methodLink RX5 56 yX3_end ∈ wT := tm 224 (by decide +kernel) (by decide +kernel)
theorem lmL_23 : Cond.methodLink RL 23 yX5_put ∈ wT := tm 228 (by decide +kernel) (by decide +kernel)
theorem lmX5_60 : Cond.methodLink RX5 60 yX5_sampleFailure ∈ wT := tm 232 (by decide +kernel) (by decide +kernel)
theorem lmX5_271 : Cond.methodLink RX5 271 yX3_has ∈ wT := tm 236 (by decide +kernel) (by decide +kernel)
theorem lmX5_64 : Cond.methodLink RX5 64 yX3_fits ∈ wT := tm 240 (by decide +kernel) (by decide +kernel)
theorem lmX5_67 : Cond.methodLink RX5 67 yX3_tell ∈ wT := tm 244 (by decide +kernel) (by decide +kernel)
theorem lmL_27 : Cond.methodLink RL 27 yX5_get ∈ wT := tm 248 (by decide +kernel) (by decide +kernel)
theorem lcX5_70 : Cond.constantLong RX5 70 (-5000000000000000000) ∈ wT := tm 252 (by decide +kernel) (by decide +kernel)
theorem lmX5_72 : Cond.methodLink RX5 72 yX3_isLost ∈ wT := tm 253 (by decide +kernel) (by decide +kernel)
theorem lcX5_75 : Cond.constantLong RX5 75 (-5000000000000000015) ∈ wT := tm 257 (by decide +kernel) (by decide +kernel)
theorem lmX5_77 : Cond.methodLink RX5 77 yX3_valueAt ∈ wT := tm 258 (by decide +kernel) (by decide +kernel)
theorem lmL_32 : Cond.methodLink RL 32 yX5_lose ∈ wT := tm 262 (by decide +kernel) (by decide +kernel)
theorem lmX5_80 : Cond.methodLink RX5 80 yX3_forget ∈ wT := tm 266 (by decide +kernel) (by decide +kernel)
theorem lmL_37 : Cond.methodLink RL 37 yX5_stands ∈ wT := tm 270 (by decide +kernel) (by decide +kernel)
theorem lmX5_84 : Cond.methodLink RX5 84 yX3_stateAt ∈ wT := tm 274 (by decide +kernel) (by decide +kernel)
theorem lmL_41 : Cond.methodLink RL 41 yX5_copy ∈ wT := tm 278 (by decide +kernel) (by decide +kernel)
theorem lmX5_91 : Cond.methodLink RX5 91 yX3_sort ∈ wT := tm 282 (by decide +kernel) (by decide +kernel)
theorem lmX5_94 : Cond.methodLink RX5 94 yX3_hasStretch ∈ wT := tm 286 (by decide +kernel) (by decide +kernel)
theorem lmX5_98 : Cond.methodLink RX5 98 yX3_take ∈ wT := tm 290 (by decide +kernel) (by decide +kernel)
theorem laX3_39 : lkA RX3 39 := ⟨tm 294 (by decide +kernel) (by decide +kernel), tm 296 (by decide +kernel) (by decide +kernel), tm 295 (by decide +kernel) (by decide +kernel), tm 39 (by decide +kernel) (by decide +kernel)⟩
theorem lmL_46 : Cond.methodLink RL 46 yX5_spikes ∈ wT := tm 297 (by decide +kernel) (by decide +kernel)
theorem lmX5_102 : Cond.methodLink RX5 102 yX3_loseSpikes ∈ wT := tm 301 (by decide +kernel) (by decide +kernel)
theorem lmX3_45 : Cond.methodLink RX3 45 yX3_isSpike ∈ wT := tm 305 (by decide +kernel) (by decide +kernel)
theorem lmX3_53 : Cond.methodLink RX3 53 yX3_isLost ∈ wT := tm 309 (by decide +kernel) (by decide +kernel)
theorem lcX3_57 : Cond.constantLong RX3 57 (2) ∈ wT := tm 310 (by decide +kernel) (by decide +kernel)
theorem lmX3_59 : Cond.methodLink RX3 59 yJ9_abs_067f4 ∈ wT := tm 311 (by decide +kernel) (by decide +kernel)
theorem lmX3_49 : Cond.methodLink RX3 49 yX3_forget ∈ wT := tm 314 (by decide +kernel) (by decide +kernel)
theorem lmL_50 : Cond.methodLink RL 50 yX5_fill ∈ wT := tm 315 (by decide +kernel) (by decide +kernel)
theorem lmX5_105 : Cond.methodLink RX5 105 yX3_fillGaps ∈ wT := tm 319 (by decide +kernel) (by decide +kernel)
theorem lmX3_65 : Cond.methodLink RX3 65 yX3_fillBetween ∈ wT := tm 323 (by decide +kernel) (by decide +kernel)
theorem lmL_54 : Cond.methodLink RL 54 yX5_about ∈ wT := tm 327 (by decide +kernel) (by decide +kernel)
theorem lmX5_108 : Cond.methodLink RX5 108 yX3_fact ∈ wT := tm 331 (by decide +kernel) (by decide +kernel)
theorem lmX3_69 : Cond.methodLink RX3 69 yX3_gaps ∈ wT := tm 335 (by decide +kernel) (by decide +kernel)
theorem lmX3_73 : Cond.methodLink RX3 73 yX3_longestGap ∈ wT := tm 339 (by decide +kernel) (by decide +kernel)
theorem lmX3_83 : Cond.methodLink RX3 83 yJ9_max_7cf53 ∈ wT := tm 343 (by decide +kernel) (by decide +kernel)
theorem lmX3_76 : Cond.methodLink RX3 76 yX3_lostSamples ∈ wT := tm 346 (by decide +kernel) (by decide +kernel)
theorem lmX3_79 : Cond.methodLink RX3 79 yX3_samplesThatStand ∈ wT := tm 350 (by decide +kernel) (by decide +kernel)
theorem lmL_58 : Cond.methodLink RL 58 yX5_raise ∈ wT := tm 354 (by decide +kernel) (by decide +kernel)
theorem lmX5_111 : Cond.methodLink RX5 111 yX5_isRow ∈ wT := tm 358 (by decide +kernel) (by decide +kernel)
theorem lmX5_114 : Cond.methodLink RX5 114 yX3_lostSamples ∈ wT := tm 361 (by decide +kernel) (by decide +kernel)
theorem lmX5_117 : Cond.methodLink RX5 117 yX2_take ∈ wT := tm 362 (by decide +kernel) (by decide +kernel)
theorem lmX2_29 : Cond.methodLink RX2 29 yX3_size ∈ wT := tm 366 (by decide +kernel) (by decide +kernel)
theorem lmX2_34 : Cond.methodLink RX2 34 yX3_valueAt ∈ wT := tm 370 (by decide +kernel) (by decide +kernel)
theorem lmX5_120 : Cond.methodLink RX5 120 yX2_size ∈ wT := tm 371 (by decide +kernel) (by decide +kernel)
theorem lmL_62 : Cond.methodLink RL 62 yX5_number ∈ wT := tm 375 (by decide +kernel) (by decide +kernel)
theorem lcX5_123 : Cond.constantLong RX5 123 (-5000000000000000002) ∈ wT := tm 379 (by decide +kernel) (by decide +kernel)
theorem lcX5_125 : Cond.constantLong RX5 125 (-5000000000000000013) ∈ wT := tm 380 (by decide +kernel) (by decide +kernel)
theorem lmX5_127 : Cond.methodLink RX5 127 yX2_valueAt ∈ wT := tm 381 (by decide +kernel) (by decide +kernel)
theorem lmL_66 : Cond.methodLink RL 66 yX5_turn ∈ wT := tm 385 (by decide +kernel) (by decide +kernel)
theorem lmX5_130 : Cond.methodLink RX5 130 yX2_change ∈ wT := tm 389 (by decide +kernel) (by decide +kernel)
theorem lmX2_38 : Cond.methodLink RX2 38 yX2_isPowerOfTwo ∈ wT := tm 393 (by decide +kernel) (by decide +kernel)
theorem lcX2_42 : Cond.constantLong RX2 42 (4000000000) ∈ wT := tm 397 (by decide +kernel) (by decide +kernel)
theorem lmX2_44 : Cond.methodLink RX2 44 yX2_anyExceeds ∈ wT := tm 398 (by decide +kernel) (by decide +kernel)
theorem lmX2_89 : Cond.methodLink RX2 89 yX2_exceeds ∈ wT := tm 402 (by decide +kernel) (by decide +kernel)
theorem lmX2_48 : Cond.methodLink RX2 48 yX2_makeLevel ∈ wT := tm 409 (by decide +kernel) (by decide +kernel)
theorem lmX2_63 : Cond.methodLink RX2 63 yX2_sum ∈ wT := tm 413 (by decide +kernel) (by decide +kernel)
theorem lmX2_51 : Cond.methodLink RX2 51 yX2_makeFlat ∈ wT := tm 417 (by decide +kernel) (by decide +kernel)
theorem lcX2_67 : Cond.constantLong RX2 67 (3) ∈ wT := tm 421 (by decide +kernel) (by decide +kernel)
theorem lmX2_54 : Cond.methodLink RX2 54 yX2_makeTwice ∈ wT := tm 422 (by decide +kernel) (by decide +kernel)
theorem lmX2_57 : Cond.methodLink RX2 57 yX2_makeTones ∈ wT := tm 426 (by decide +kernel) (by decide +kernel)
theorem lmX2_69 : Cond.methodLink RX2 69 yX2_toneMask ∈ wT := tm 430 (by decide +kernel) (by decide +kernel)
theorem lmX2_72 : Cond.methodLink RX2 72 yJ6_bitCount_0f7a4 ∈ wT := tm 434 (by decide +kernel) (by decide +kernel)
theorem lcJ6_265 : Cond.constant RJ6 265 (1431655765) ∈ wT := tm 437 (by decide +kernel) (by decide +kernel)
theorem lcJ6_266 : Cond.constant RJ6 266 (858993459) ∈ wT := tm 438 (by decide +kernel) (by decide +kernel)
theorem lcJ6_267 : Cond.constant RJ6 267 (252645135) ∈ wT := tm 439 (by decide +kernel) (by decide +kernel)
theorem lmX2_60 : Cond.methodLink RX2 60 yX2_becomeFresh ∈ wT := tm 440 (by decide +kernel) (by decide +kernel)
theorem lcX2_77 : Cond.constantLong RX2 77 (4000000000000000) ∈ wT := tm 444 (by decide +kernel) (by decide +kernel)
theorem laX2_83 : lkA RX2 83 := ⟨tm 445 (by decide +kernel) (by decide +kernel), tm 296 (by decide +kernel) (by decide +kernel), tm 295 (by decide +kernel) (by decide +kernel), tm 39 (by decide +kernel) (by decide +kernel)⟩
theorem lmL_70 : Cond.methodLink RL 70 yX5_part ∈ wT := tm 446 (by decide +kernel) (by decide +kernel)
theorem lmX5_133 : Cond.methodLink RX5 133 yX5_isStretch ∈ wT := tm 450 (by decide +kernel) (by decide +kernel)
theorem lmX5_137 : Cond.methodLink RX5 137 yX2_keepOnly ∈ wT := tm 453 (by decide +kernel) (by decide +kernel)
theorem lmL_74 : Cond.methodLink RL 74 yX5_mix ∈ wT := tm 457 (by decide +kernel) (by decide +kernel)
theorem lcX5_140 : Cond.constantLong RX5 140 (1000) ∈ wT := tm 461 (by decide +kernel) (by decide +kernel)
theorem lmX5_142 : Cond.methodLink RX5 142 yX5_isWithin ∈ wT := tm 462 (by decide +kernel) (by decide +kernel)
theorem lmX5_146 : Cond.methodLink RX5 146 yX2_blend ∈ wT := tm 463 (by decide +kernel) (by decide +kernel)
theorem lmL_79 : Cond.methodLink RL 79 yX5_force ∈ wT := tm 467 (by decide +kernel) (by decide +kernel)
theorem lcX5_150 : Cond.constantLong RX5 150 (200000000) ∈ wT := tm 471 (by decide +kernel) (by decide +kernel)
theorem lmX5_152 : Cond.methodLink RX5 152 yX2_exceeds ∈ wT := tm 472 (by decide +kernel) (by decide +kernel)
theorem lcX5_156 : Cond.constantLong RX5 156 (-5000000000000000016) ∈ wT := tm 473 (by decide +kernel) (by decide +kernel)
theorem lmX5_158 : Cond.methodLink RX5 158 yX2_squares ∈ wT := tm 474 (by decide +kernel) (by decide +kernel)
theorem lmL_84 : Cond.methodLink RL 84 yX5_cross ∈ wT := tm 478 (by decide +kernel) (by decide +kernel)
theorem lcX5_162 : Cond.constantLong RX5 162 (-5000000000000000003) ∈ wT := tm 482 (by decide +kernel) (by decide +kernel)
theorem lmX5_164 : Cond.methodLink RX5 164 yX2_anyExceeds ∈ wT := tm 483 (by decide +kernel) (by decide +kernel)
theorem lmX5_168 : Cond.methodLink RX5 168 yX2_products ∈ wT := tm 484 (by decide +kernel) (by decide +kernel)
theorem lmL_88 : Cond.methodLink RL 88 yX5_waves ∈ wT := tm 488 (by decide +kernel) (by decide +kernel)
theorem lmX5_172 : Cond.methodLink RX5 172 yX2_findWaves ∈ wT := tm 492 (by decide +kernel) (by decide +kernel)
theorem lmX2_93 : Cond.methodLink RX2 93 yJ9_max_7cf53 ∈ wT := tm 496 (by decide +kernel) (by decide +kernel)
theorem lmL_92 : Cond.methodLink RL 92 yX5_wave ∈ wT := tm 497 (by decide +kernel) (by decide +kernel)
theorem lmX5_175 : Cond.methodLink RX5 175 yX2_waveFact ∈ wT := tm 501 (by decide +kernel) (by decide +kernel)
theorem lmX2_99 : Cond.methodLink RX2 99 yJ9_max_f86c9 ∈ wT := tm 505 (by decide +kernel) (by decide +kernel)
theorem lmX2_102 : Cond.methodLink RX2 102 yJ9_min_f86c9 ∈ wT := tm 508 (by decide +kernel) (by decide +kernel)
theorem lmL_96 : Cond.methodLink RL 96 yX5_third ∈ wT := tm 511 (by decide +kernel) (by decide +kernel)
theorem lmX5_178 : Cond.methodLink RX5 178 yJ9_max_7cf53 ∈ wT := tm 515 (by decide +kernel) (by decide +kernel)
theorem lmX5_183 : Cond.methodLink RX5 183 yX2_highestTogether ∈ wT := tm 516 (by decide +kernel) (by decide +kernel)
theorem lmX2_105 : Cond.methodLink RX2 105 yX2_waveFact ∈ wT := tm 520 (by decide +kernel) (by decide +kernel)
theorem lmX2_109 : Cond.methodLink RX2 109 yX2_sortIn ∈ wT := tm 521 (by decide +kernel) (by decide +kernel)
theorem lmX5_186 : Cond.methodLink RX5 186 yX5_commonDivisor ∈ wT := tm 525 (by decide +kernel) (by decide +kernel)
theorem lmL_102 : Cond.methodLink RL 102 yX5_groups ∈ wT := tm 528 (by decide +kernel) (by decide +kernel)
theorem lmX5_190 : Cond.methodLink RX5 190 yX2_wavesInRows ∈ wT := tm 532 (by decide +kernel) (by decide +kernel)
theorem lmX2_113 : Cond.methodLink RX2 113 yX2_findWaves ∈ wT := tm 536 (by decide +kernel) (by decide +kernel)
theorem lmX5_194 : Cond.methodLink RX5 194 yX2_longestRowOfWaves ∈ wT := tm 537 (by decide +kernel) (by decide +kernel)
theorem lmL_107 : Cond.methodLink RL 107 yX5_heading ∈ wT := tm 541 (by decide +kernel) (by decide +kernel)
theorem lcX5_197 : Cond.constantLong RX5 197 (100) ∈ wT := tm 545 (by decide +kernel) (by decide +kernel)
theorem lmX5_199 : Cond.methodLink RX5 199 yX5_eighth ∈ wT := tm 546 (by decide +kernel) (by decide +kernel)
theorem lmL_111 : Cond.methodLink RL 111 yX5_send ∈ wT := tm 549 (by decide +kernel) (by decide +kernel)
theorem lmX5_203 : Cond.methodLink RX5 203 yX1_load ∈ wT := tm 553 (by decide +kernel) (by decide +kernel)
theorem lmX1_20 : Cond.methodLink RX1 20 yX3_sort ∈ wT := tm 557 (by decide +kernel) (by decide +kernel)
theorem lmX1_24 : Cond.methodLink RX1 24 yX3_size ∈ wT := tm 558 (by decide +kernel) (by decide +kernel)
theorem lmX1_27 : Cond.methodLink RX1 27 yX3_begin ∈ wT := tm 559 (by decide +kernel) (by decide +kernel)
theorem lmX1_31 : Cond.methodLink RX1 31 yX3_take ∈ wT := tm 560 (by decide +kernel) (by decide +kernel)
theorem lmX5_206 : Cond.methodLink RX5 206 yX1_size ∈ wT := tm 561 (by decide +kernel) (by decide +kernel)
theorem lmX1_39 : Cond.methodLink RX1 39 yX1_samplePacks ∈ wT := tm 565 (by decide +kernel) (by decide +kernel)
theorem lmL_115 : Cond.methodLink RL 115 yX5_miss ∈ wT := tm 569 (by decide +kernel) (by decide +kernel)
theorem lmX5_207 : Cond.methodLink RX5 207 yX1_forget ∈ wT := tm 573 (by decide +kernel) (by decide +kernel)
theorem lmL_119 : Cond.methodLink RL 119 yX5_receive ∈ wT := tm 577 (by decide +kernel) (by decide +kernel)
theorem lmX5_209 : Cond.methodLink RX5 209 yX1_wereSent ∈ wT := tm 581 (by decide +kernel) (by decide +kernel)
theorem lmX1_35 : Cond.methodLink RX1 35 yX3_isThere ∈ wT := tm 585 (by decide +kernel) (by decide +kernel)
theorem lmX5_212 : Cond.methodLink RX5 212 yX1_unload ∈ wT := tm 586 (by decide +kernel) (by decide +kernel)
theorem lmX1_42 : Cond.methodLink RX1 42 yX1_comes ∈ wT := tm 590 (by decide +kernel) (by decide +kernel)
theorem lmX1_50 : Cond.methodLink RX1 50 yX1_lostBeside ∈ wT := tm 594 (by decide +kernel) (by decide +kernel)
theorem lmX1_46 : Cond.methodLink RX1 46 yX3_forget ∈ wT := tm 598 (by decide +kernel) (by decide +kernel)
theorem lmL_123 : Cond.methodLink RL 123 yX5_rule ∈ wT := tm 599 (by decide +kernel) (by decide +kernel)
theorem lmX5_215 : Cond.methodLink RX5 215 yX4_begin ∈ wT := tm 603 (by decide +kernel) (by decide +kernel)
theorem lmL_127 : Cond.methodLink RL 127 yX5_hear ∈ wT := tm 607 (by decide +kernel) (by decide +kernel)
theorem lmX5_218 : Cond.methodLink RX5 218 yX4_take ∈ wT := tm 611 (by decide +kernel) (by decide +kernel)
theorem lmX5_220 : Cond.methodLink RX5 220 yX4_state ∈ wT := tm 615 (by decide +kernel) (by decide +kernel)
theorem lmL_131 : Cond.methodLink RL 131 yX5_anchor ∈ wT := tm 619 (by decide +kernel) (by decide +kernel)
theorem lmX5_223 : Cond.methodLink RX5 223 yX5_isPlace ∈ wT := tm 623 (by decide +kernel) (by decide +kernel)
theorem lcX5_269 : Cond.constantLong RX5 269 (1000000) ∈ wT := tm 626 (by decide +kernel) (by decide +kernel)
theorem lcX5_226 : Cond.constant RX5 226 (1000000) ∈ wT := tm 627 (by decide +kernel) (by decide +kernel)
theorem lmX5_227 : Cond.methodLink RX5 227 yX0_begin ∈ wT := tm 628 (by decide +kernel) (by decide +kernel)
theorem lmL_135 : Cond.methodLink RL 135 yX5_fix ∈ wT := tm 632 (by decide +kernel) (by decide +kernel)
theorem lmX5_230 : Cond.methodLink RX5 230 yX0_take ∈ wT := tm 636 (by decide +kernel) (by decide +kernel)
theorem lmX0_32 : Cond.methodLink RX0 32 yJ9_min_7cf53 ∈ wT := tm 640 (by decide +kernel) (by decide +kernel)
theorem lmX0_41 : Cond.methodLink RX0 41 yJ9_max_7cf53 ∈ wT := tm 643 (by decide +kernel) (by decide +kernel)
theorem lmX0_50 : Cond.methodLink RX0 50 yX0_isOut ∈ wT := tm 644 (by decide +kernel) (by decide +kernel)
theorem lmX5_232 : Cond.methodLink RX5 232 yX0_state ∈ wT := tm 648 (by decide +kernel) (by decide +kernel)
theorem lmL_139 : Cond.methodLink RL 139 yX5_count ∈ wT := tm 652 (by decide +kernel) (by decide +kernel)
theorem lmX5_233 : Cond.methodLink RX5 233 yX5_sheetsThere ∈ wT := tm 656 (by decide +kernel) (by decide +kernel)
theorem lmX5_236 : Cond.methodLink RX5 236 yX1_lostPacks ∈ wT := tm 660 (by decide +kernel) (by decide +kernel)
theorem lmX5_239 : Cond.methodLink RX5 239 yX4_heard ∈ wT := tm 664 (by decide +kernel) (by decide +kernel)
theorem lmX5_242 : Cond.methodLink RX5 242 yX4_changes ∈ wT := tm 668 (by decide +kernel) (by decide +kernel)
theorem lmX5_245 : Cond.methodLink RX5 245 yX0_places ∈ wT := tm 672 (by decide +kernel) (by decide +kernel)
theorem lmX5_248 : Cond.methodLink RX5 248 yX0_outOnEnd ∈ wT := tm 676 (by decide +kernel) (by decide +kernel)
theorem lmX5_251 : Cond.methodLink RX5 251 yX0_width ∈ wT := tm 680 (by decide +kernel) (by decide +kernel)
theorem lmX5_254 : Cond.methodLink RX5 254 yX0_depth ∈ wT := tm 684 (by decide +kernel) (by decide +kernel)
theorem lmL_143 : Cond.methodLink RL 143 yX5_digest ∈ wT := tm 688 (by decide +kernel) (by decide +kernel)
theorem lcX5_257 : Cond.constantLong RX5 257 (139) ∈ wT := tm 692 (by decide +kernel) (by decide +kernel)
theorem lcX5_259 : Cond.constantLong RX5 259 (31) ∈ wT := tm 693 (by decide +kernel) (by decide +kernel)
theorem lmX5_261 : Cond.methodLink RX5 261 yX5_count ∈ wT := tm 694 (by decide +kernel) (by decide +kernel)
theorem lmX5_264 : Cond.methodLink RX5 264 yX3_digestOn ∈ wT := tm 695 (by decide +kernel) (by decide +kernel)
theorem lcX3_87 : Cond.constantLong RX3 87 (31) ∈ wT := tm 699 (by decide +kernel) (by decide +kernel)
theorem lmX3_89 : Cond.methodLink RX3 89 yX3_fact ∈ wT := tm 700 (by decide +kernel) (by decide +kernel)
theorem lmX5_268 : Cond.methodLink RX5 268 yX2_digestOn ∈ wT := tm 701 (by decide +kernel) (by decide +kernel)
theorem lcX2_116 : Cond.constantLong RX2 116 (31) ∈ wT := tm 705 (by decide +kernel) (by decide +kernel)
theorem fgX6_7 : fG RX6 7 6 0 := ⟨RX6, TX6, 32, rfl, uw6, by decide, tm 712 (by decide +kernel) (by decide +kernel)⟩
theorem fgX6_13 : fG RX6 13 6 1 := ⟨RX6, TX6, 32, rfl, uw6, by decide, tm 713 (by decide +kernel) (by decide +kernel)⟩
theorem fgX6_17 : fG RX6 17 6 2 := ⟨RX6, TX6, 32, rfl, uw6, by decide, tm 714 (by decide +kernel) (by decide +kernel)⟩
theorem fgX6_20 : fG RX6 20 6 3 := ⟨RX6, TX6, 32, rfl, uw6, by decide, tm 715 (by decide +kernel) (by decide +kernel)⟩
theorem fgX6_23 : fG RX6 23 6 4 := ⟨RX6, TX6, 32, rfl, uw6, by decide, tm 716 (by decide +kernel) (by decide +kernel)⟩
theorem fgX6_26 : fG RX6 26 6 5 := ⟨RX6, TX6, 32, rfl, uw6, by decide, tm 717 (by decide +kernel) (by decide +kernel)⟩
theorem fgX6_29 : fG RX6 29 6 6 := ⟨RX6, TX6, 32, rfl, uw6, by decide, tm 718 (by decide +kernel) (by decide +kernel)⟩
theorem fgX6_33 : fG RX6 33 6 7 := ⟨RX6, TX6, 32, rfl, uw6, by decide, tm 719 (by decide +kernel) (by decide +kernel)⟩
theorem fgX6_179 : fG RX6 179 6 8 := ⟨RX6, TX6, 32, rfl, uw6, by decide, tm 720 (by decide +kernel) (by decide +kernel)⟩
theorem fgX6_183 : fG RX6 183 6 9 := ⟨RX6, TX6, 32, rfl, uw6, by decide, tm 721 (by decide +kernel) (by decide +kernel)⟩
theorem fgX6_36 : fG RX6 36 6 10 := ⟨RX6, TX6, 32, rfl, uw6, by decide, tm 722 (by decide +kernel) (by decide +kernel)⟩
theorem fgX6_39 : fG RX6 39 6 11 := ⟨RX6, TX6, 32, rfl, uw6, by decide, tm 723 (by decide +kernel) (by decide +kernel)⟩
theorem fgX6_43 : fG RX6 43 6 12 := ⟨RX6, TX6, 32, rfl, uw6, by decide, tm 724 (by decide +kernel) (by decide +kernel)⟩
theorem fgX6_189 : fG RX6 189 6 13 := ⟨RX6, TX6, 32, rfl, uw6, by decide, tm 725 (by decide +kernel) (by decide +kernel)⟩
theorem fgX6_192 : fG RX6 192 6 14 := ⟨RX6, TX6, 32, rfl, uw6, by decide, tm 726 (by decide +kernel) (by decide +kernel)⟩
theorem fgX6_195 : fG RX6 195 6 15 := ⟨RX6, TX6, 32, rfl, uw6, by decide, tm 727 (by decide +kernel) (by decide +kernel)⟩
theorem fgX6_198 : fG RX6 198 6 16 := ⟨RX6, TX6, 32, rfl, uw6, by decide, tm 728 (by decide +kernel) (by decide +kernel)⟩
theorem fgX6_201 : fG RX6 201 6 17 := ⟨RX6, TX6, 32, rfl, uw6, by decide, tm 729 (by decide +kernel) (by decide +kernel)⟩
theorem fgX6_207 : fG RX6 207 6 18 := ⟨RX6, TX6, 32, rfl, uw6, by decide, tm 730 (by decide +kernel) (by decide +kernel)⟩
theorem fgX6_210 : fG RX6 210 6 19 := ⟨RX6, TX6, 32, rfl, uw6, by decide, tm 731 (by decide +kernel) (by decide +kernel)⟩
theorem fgX6_213 : fG RX6 213 6 20 := ⟨RX6, TX6, 32, rfl, uw6, by decide, tm 732 (by decide +kernel) (by decide +kernel)⟩
theorem fgX6_46 : fG RX6 46 6 21 := ⟨RX6, TX6, 32, rfl, uw6, by decide, tm 733 (by decide +kernel) (by decide +kernel)⟩
theorem fgX6_216 : fG RX6 216 6 22 := ⟨RX6, TX6, 32, rfl, uw6, by decide, tm 734 (by decide +kernel) (by decide +kernel)⟩
theorem fgX6_219 : fG RX6 219 6 23 := ⟨RX6, TX6, 32, rfl, uw6, by decide, tm 735 (by decide +kernel) (by decide +kernel)⟩
theorem fgX6_222 : fG RX6 222 6 24 := ⟨RX6, TX6, 32, rfl, uw6, by decide, tm 736 (by decide +kernel) (by decide +kernel)⟩
theorem fgX6_225 : fG RX6 225 6 25 := ⟨RX6, TX6, 32, rfl, uw6, by decide, tm 737 (by decide +kernel) (by decide +kernel)⟩
theorem fgX6_228 : fG RX6 228 6 26 := ⟨RX6, TX6, 32, rfl, uw6, by decide, tm 738 (by decide +kernel) (by decide +kernel)⟩
theorem fgX6_231 : fG RX6 231 6 27 := ⟨RX6, TX6, 32, rfl, uw6, by decide, tm 739 (by decide +kernel) (by decide +kernel)⟩
theorem fgX6_49 : fG RX6 49 6 28 := ⟨RX6, TX6, 32, rfl, uw6, by decide, tm 740 (by decide +kernel) (by decide +kernel)⟩
theorem fgX6_52 : fG RX6 52 6 29 := ⟨RX6, TX6, 32, rfl, uw6, by decide, tm 741 (by decide +kernel) (by decide +kernel)⟩
theorem fgX6_55 : fG RX6 55 6 30 := ⟨RX6, TX6, 32, rfl, uw6, by decide, tm 742 (by decide +kernel) (by decide +kernel)⟩
theorem fgX6_143 : fG RX6 143 6 31 := ⟨RX6, TX6, 32, rfl, uw6, by decide, tm 743 (by decide +kernel) (by decide +kernel)⟩
theorem lmL_17 : Cond.methodLink RL 17 yX6_sheet ∈ wT := tm 809 (by decide +kernel) (by decide +kernel)
theorem lcX6_58 : Cond.constantLong RX6 58 (7) ∈ wT := tm 813 (by decide +kernel) (by decide +kernel)
theorem lmX6_60 : Cond.methodLink RX6 60 yX6_in ∈ wT := tm 814 (by decide +kernel) (by decide +kernel)
theorem lcX6_64 : Cond.constantLong RX6 64 (2) ∈ wT := tm 817 (by decide +kernel) (by decide +kernel)
theorem lmL_22 : Cond.methodLink RL 22 yX6_drop ∈ wT := tm 818 (by decide +kernel) (by decide +kernel)
theorem lmX6_66 : Cond.methodLink RX6 66 yX6_noSheet ∈ wT := tm 822 (by decide +kernel) (by decide +kernel)
theorem lmL_26 : Cond.methodLink RL 26 yX6_put ∈ wT := tm 826 (by decide +kernel) (by decide +kernel)
theorem lmX6_78 : Cond.methodLink RX6 78 yX6_fits ∈ wT := tm 830 (by decide +kernel) (by decide +kernel)
theorem lcX6_70 : Cond.constantLong RX6 70 (-128) ∈ wT := tm 833 (by decide +kernel) (by decide +kernel)
theorem lcX6_72 : Cond.constantLong RX6 72 (-32768) ∈ wT := tm 834 (by decide +kernel) (by decide +kernel)
theorem lcX6_74 : Cond.constantLong RX6 74 (127) ∈ wT := tm 835 (by decide +kernel) (by decide +kernel)
theorem lcX6_76 : Cond.constantLong RX6 76 (32767) ∈ wT := tm 836 (by decide +kernel) (by decide +kernel)
theorem lmL_31 : Cond.methodLink RL 31 yX6_get ∈ wT := tm 837 (by decide +kernel) (by decide +kernel)
theorem lcX6_82 : Cond.constantLong RX6 82 (-5000000000000000000) ∈ wT := tm 841 (by decide +kernel) (by decide +kernel)
theorem lcX6_84 : Cond.constantLong RX6 84 (-5000000000000000013) ∈ wT := tm 842 (by decide +kernel) (by decide +kernel)
theorem lcX6_86 : Cond.constantLong RX6 86 (-5000000000000000015) ∈ wT := tm 843 (by decide +kernel) (by decide +kernel)
theorem lmL_36 : Cond.methodLink RL 36 yX6_lose ∈ wT := tm 844 (by decide +kernel) (by decide +kernel)
theorem lmL_40 : Cond.methodLink RL 40 yX6_stands ∈ wT := tm 848 (by decide +kernel) (by decide +kernel)
theorem lmL_45 : Cond.methodLink RL 45 yX6_copy ∈ wT := tm 852 (by decide +kernel) (by decide +kernel)
theorem lmL_49 : Cond.methodLink RL 49 yX6_spikes ∈ wT := tm 856 (by decide +kernel) (by decide +kernel)
theorem lmL_53 : Cond.methodLink RL 53 yX6_fill ∈ wT := tm 860 (by decide +kernel) (by decide +kernel)
theorem lcX6_88 : Cond.constantLong RX6 88 (64) ∈ wT := tm 864 (by decide +kernel) (by decide +kernel)
theorem lmL_57 : Cond.methodLink RL 57 yX6_about ∈ wT := tm 865 (by decide +kernel) (by decide +kernel)
theorem lcX6_90 : Cond.constantLong RX6 90 (5) ∈ wT := tm 869 (by decide +kernel) (by decide +kernel)
theorem lmX6_92 : Cond.methodLink RX6 92 yX6_gaps ∈ wT := tm 870 (by decide +kernel) (by decide +kernel)
theorem lmX6_96 : Cond.methodLink RX6 96 yX6_those ∈ wT := tm 874 (by decide +kernel) (by decide +kernel)
theorem lmL_61 : Cond.methodLink RL 61 yX6_raise ∈ wT := tm 878 (by decide +kernel) (by decide +kernel)
theorem lmX6_100 : Cond.methodLink RX6 100 yX6_isRow ∈ wT := tm 882 (by decide +kernel) (by decide +kernel)
theorem lmL_65 : Cond.methodLink RL 65 yX6_number ∈ wT := tm 885 (by decide +kernel) (by decide +kernel)
theorem lcX6_104 : Cond.constantLong RX6 104 (-5000000000000000002) ∈ wT := tm 889 (by decide +kernel) (by decide +kernel)
theorem lmL_69 : Cond.methodLink RL 69 yX6_turn ∈ wT := tm 890 (by decide +kernel) (by decide +kernel)
theorem lcX6_106 : Cond.constantLong RX6 106 (3) ∈ wT := tm 894 (by decide +kernel) (by decide +kernel)
theorem lmX6_110 : Cond.methodLink RX6 110 yX6_isPower ∈ wT := tm 895 (by decide +kernel) (by decide +kernel)
theorem lcX6_113 : Cond.constantLong RX6 113 (-4000000000) ∈ wT := tm 898 (by decide +kernel) (by decide +kernel)
theorem lcX6_115 : Cond.constantLong RX6 115 (4000000000) ∈ wT := tm 899 (by decide +kernel) (by decide +kernel)
theorem lmX6_117 : Cond.methodLink RX6 117 yX6_factor ∈ wT := tm 900 (by decide +kernel) (by decide +kernel)
theorem lcX6_108 : Cond.constantLong RX6 108 (-1) ∈ wT := tm 903 (by decide +kernel) (by decide +kernel)
theorem lcX6_121 : Cond.constantLong RX6 121 (4294967295) ∈ wT := tm 904 (by decide +kernel) (by decide +kernel)
theorem lcX6_123 : Cond.constantLong RX6 123 (-1000000) ∈ wT := tm 905 (by decide +kernel) (by decide +kernel)
theorem lcX6_125 : Cond.constantLong RX6 125 (1000000) ∈ wT := tm 906 (by decide +kernel) (by decide +kernel)
theorem lcX6_127 : Cond.constantLong RX6 127 (-4000000000000000) ∈ wT := tm 907 (by decide +kernel) (by decide +kernel)
theorem lcX6_129 : Cond.constantLong RX6 129 (4000000000000000) ∈ wT := tm 908 (by decide +kernel) (by decide +kernel)
theorem lmL_73 : Cond.methodLink RL 73 yX6_part ∈ wT := tm 909 (by decide +kernel) (by decide +kernel)
theorem lmL_78 : Cond.methodLink RL 78 yX6_mix ∈ wT := tm 913 (by decide +kernel) (by decide +kernel)
theorem lcX6_131 : Cond.constantLong RX6 131 (-1000) ∈ wT := tm 917 (by decide +kernel) (by decide +kernel)
theorem lcX6_133 : Cond.constantLong RX6 133 (1000) ∈ wT := tm 918 (by decide +kernel) (by decide +kernel)
theorem lmL_83 : Cond.methodLink RL 83 yX6_force ∈ wT := tm 919 (by decide +kernel) (by decide +kernel)
theorem lcX6_135 : Cond.constantLong RX6 135 (-200000000) ∈ wT := tm 923 (by decide +kernel) (by decide +kernel)
theorem lcX6_137 : Cond.constantLong RX6 137 (200000000) ∈ wT := tm 924 (by decide +kernel) (by decide +kernel)
theorem lcX6_139 : Cond.constantLong RX6 139 (-5000000000000000016) ∈ wT := tm 925 (by decide +kernel) (by decide +kernel)
theorem lmL_87 : Cond.methodLink RL 87 yX6_cross ∈ wT := tm 926 (by decide +kernel) (by decide +kernel)
theorem lcX6_141 : Cond.constantLong RX6 141 (-5000000000000000003) ∈ wT := tm 930 (by decide +kernel) (by decide +kernel)
theorem lmL_91 : Cond.methodLink RL 91 yX6_waves ∈ wT := tm 931 (by decide +kernel) (by decide +kernel)
theorem lmX6_154 : Cond.methodLink RX6 154 yX6_waveMany ∈ wT := tm 935 (by decide +kernel) (by decide +kernel)
theorem lmX6_146 : Cond.methodLink RX6 146 yX6_findTurns ∈ wT := tm 939 (by decide +kernel) (by decide +kernel)
theorem lmL_95 : Cond.methodLink RL 95 yX6_wave ∈ wT := tm 943 (by decide +kernel) (by decide +kernel)
theorem lcX6_157 : Cond.constantLong RX6 157 (4) ∈ wT := tm 947 (by decide +kernel) (by decide +kernel)
theorem lmX6_150 : Cond.methodLink RX6 150 yX6_end ∈ wT := tm 948 (by decide +kernel) (by decide +kernel)
theorem lmX6_159 : Cond.methodLink RX6 159 yX6_height ∈ wT := tm 952 (by decide +kernel) (by decide +kernel)
theorem lmL_99 : Cond.methodLink RL 99 yX6_third ∈ wT := tm 956 (by decide +kernel) (by decide +kernel)
theorem lmX6_163 : Cond.methodLink RX6 163 yX6_divisor ∈ wT := tm 960 (by decide +kernel) (by decide +kernel)
theorem lmL_106 : Cond.methodLink RL 106 yX6_groups ∈ wT := tm 963 (by decide +kernel) (by decide +kernel)
theorem lmL_110 : Cond.methodLink RL 110 yX6_heading ∈ wT := tm 967 (by decide +kernel) (by decide +kernel)
theorem lcX6_167 : Cond.constantLong RX6 167 (100) ∈ wT := tm 971 (by decide +kernel) (by decide +kernel)
theorem lmX6_169 : Cond.methodLink RX6 169 yX6_isNear ∈ wT := tm 972 (by decide +kernel) (by decide +kernel)
theorem lmX6_172 : Cond.methodLink RX6 172 yX6_cross ∈ wT := tm 976 (by decide +kernel) (by decide +kernel)
theorem lmX6_175 : Cond.methodLink RX6 175 yX6_force ∈ wT := tm 977 (by decide +kernel) (by decide +kernel)
theorem lmL_114 : Cond.methodLink RL 114 yX6_send ∈ wT := tm 978 (by decide +kernel) (by decide +kernel)
theorem lmL_118 : Cond.methodLink RL 118 yX6_miss ∈ wT := tm 982 (by decide +kernel) (by decide +kernel)
theorem lmL_122 : Cond.methodLink RL 122 yX6_receive ∈ wT := tm 986 (by decide +kernel) (by decide +kernel)
theorem lmX6_186 : Cond.methodLink RX6 186 yX6_comes ∈ wT := tm 990 (by decide +kernel) (by decide +kernel)
theorem lmL_126 : Cond.methodLink RL 126 yX6_rule ∈ wT := tm 994 (by decide +kernel) (by decide +kernel)
theorem lmL_130 : Cond.methodLink RL 130 yX6_hear ∈ wT := tm 998 (by decide +kernel) (by decide +kernel)
theorem lmL_134 : Cond.methodLink RL 134 yX6_anchor ∈ wT := tm 1002 (by decide +kernel) (by decide +kernel)
theorem lmX6_204 : Cond.methodLink RX6 204 yX6_isPlace ∈ wT := tm 1006 (by decide +kernel) (by decide +kernel)
theorem lmL_138 : Cond.methodLink RL 138 yX6_fix ∈ wT := tm 1009 (by decide +kernel) (by decide +kernel)
theorem lmL_142 : Cond.methodLink RL 142 yX6_count ∈ wT := tm 1013 (by decide +kernel) (by decide +kernel)
theorem lmL_147 : Cond.methodLink RL 147 yX6_digest ∈ wT := tm 1017 (by decide +kernel) (by decide +kernel)
theorem lcX6_234 : Cond.constantLong RX6 234 (139) ∈ wT := tm 1021 (by decide +kernel) (by decide +kernel)
theorem lcX6_236 : Cond.constantLong RX6 236 (31) ∈ wT := tm 1022 (by decide +kernel) (by decide +kernel)
theorem lmX6_238 : Cond.methodLink RX6 238 yX6_count ∈ wT := tm 1023 (by decide +kernel) (by decide +kernel)
theorem lmX6_241 : Cond.methodLink RX6 241 yX6_about ∈ wT := tm 1024 (by decide +kernel) (by decide +kernel)
theorem lcL_100 : Cond.constantLong RL 100 (4294967295) ∈ wT := tm 1025 (by decide +kernel) (by decide +kernel)
end
section
/-! BASE: indices, reading behind writing, tags -/
theorem ix_a (a b : Nat) : nI a + nI b = nI (a + b) := nI_add a b
theorem ix_ma (a b c : Nat) : nI a * nI b + nI c = nI (a * b + c) := by rw [pk_mul, nI_add]
theorem ix_maa (a b c e : Nat) : nI a * nI b + nI c + nI e = nI (a * b + c + e) := by rw [pk_mul, nI_add, nI_add]
theorem ix_mama (a b c e f : Nat) : nI a * nI b + nI c + nI e + nI f = nI (a * b + c + e + f) := by rw [pk_mul, nI_add, nI_add, nI_add]
theorem r1s {μ : Mem} {t i a b : Nat} {x : Int32} (h : ¬ (a = t ∧ b = i)) : (sI μ t i x).1 a b = μ.1 a b := if_neg h
theorem r1n {μ : Mem} {t i a b : Nat} {x : Int32} (h : a ≠ t) : (sI μ t i x).1 a b = μ.1 a b := if_neg (fun q => h q.1)
theorem r1m {μ : Mem} {t i a b : Nat} {x : Int32} (h : b ≠ i) : (sI μ t i x).1 a b = μ.1 a b := if_neg (fun q => h q.2)
theorem r1e {μ : Mem} {t i : Nat} {x : Int32} : (sI μ t i x).1 t i = x := if_pos ⟨rfl, rfl⟩
theorem r1l {μ : Mem} {t i : Nat} {x : Int32} : (sI μ t i x).2 = μ.2 := rfl
theorem r2n {μ : Mem} {t i a b : Nat} {x : Int64} (h : a ≠ t) : (sL μ t i x).2 a b = μ.2 a b := if_neg (fun q => h q.1)
theorem r2m {μ : Mem} {t i a b : Nat} {x : Int64} (h : b ≠ i) : (sL μ t i x).2 a b = μ.2 a b := if_neg (fun q => h q.2)
theorem r2e {μ : Mem} {t i : Nat} {x : Int64} : (sL μ t i x).2 t i = x := if_pos ⟨rfl, rfl⟩
theorem r2l {μ : Mem} {t i : Nat} {x : Int64} : (sL μ t i x).1 = μ.1 := rfl
theorem rb1n {μ : Mem} {t a : Nat} {f : Nat → Int32} (h : a ≠ t) : (bI μ t f).1 a = μ.1 a := if_neg h
theorem rb1e {μ : Mem} {t : Nat} {f : Nat → Int32} : (bI μ t f).1 t = f := if_pos rfl
theorem rb1l {μ : Mem} {t : Nat} {f : Nat → Int32} : (bI μ t f).2 = μ.2 := rfl
theorem rb2n {μ : Mem} {t a : Nat} {f : Nat → Int64} (h : a ≠ t) : (bL μ t f).2 a = μ.2 a := if_neg h
theorem rb2e {μ : Mem} {t : Nat} {f : Nat → Int64} : (bL μ t f).2 t = f := if_pos rfl
theorem rb2l {μ : Mem} {t : Nat} {f : Nat → Int64} : (bL μ t f).1 = μ.1 := rfl
theorem bI_self (μ : Mem) (t : Nat) : bI μ t (μ.1 t) = μ := by
  unfold bI
  congr 1
  funext a
  by_cases h : a = t
  · rw [if_pos h, h]
  · rw [if_neg h]
theorem bL_self (μ : Mem) (t : Nat) : bL μ t (μ.2 t) = μ := by
  unfold bL
  congr 1
  funext a
  by_cases h : a = t
  · rw [if_pos h, h]
  · rw [if_neg h]
theorem bI_bI (μ : Mem) (t : Nat) (f g : Nat → Int32) : bI (bI μ t f) t g = bI μ t g := by
  unfold bI
  congr 1
  funext a
  by_cases h : a = t <;> simp [h]
theorem bL_bL (μ : Mem) (t : Nat) (f g : Nat → Int64) : bL (bL μ t f) t g = bL μ t g := by
  unfold bL
  congr 1
  funext a
  by_cases h : a = t <;> simp [h]
theorem bI_comm (μ : Mem) {t u : Nat} (f g : Nat → Int32) (h : t ≠ u) : bI (bI μ t f) u g = bI (bI μ u g) t f := by
  unfold bI
  congr 1
  funext a
  by_cases h1 : a = t
  · subst h1
    simp [h]
  · simp [h1]
theorem sIb (μ : Mem) (t i : Nat) (f : Nat → Int32) (x : Int32) : sI (bI μ t f) t i x = bI μ t (upd f i x) := by
  rw [← sI_bI, rb1e, bI_bI]
theorem sLb (μ : Mem) (t i : Nat) (f : Nat → Int64) (x : Int64) : sL (bL μ t f) t i x = bL μ t (vp_updL f i x) := by
  rw [← sL_bL, rb2e, bL_bL]
theorem sIb2 (μ : Mem) {t u : Nat} (i : Nat) (f g : Nat → Int32) (x : Int32) (h : t ≠ u) : sI (bI (bI μ t f) u g) t i x = bI (bI μ t (upd f i x)) u g := by
  rw [bI_comm _ _ _ h, sIb, bI_comm _ _ _ (Ne.symm h)]
/-- v at places below n -/
def fillF (f : Nat → Int32) (v : Int32) (n : Nat) : Nat → Int32 := fun b => if b < n then v else f b
theorem fillF_0 (f : Nat → Int32) (v : Int32) : fillF f v 0 = f := by
  funext b
  simp [fillF]
theorem fillF_s (f : Nat → Int32) (v : Int32) (n : Nat) : upd (fillF f v n) n v = fillF f v (n + 1) := by
  funext b
  by_cases h : b = n
  · subst h
    simp [upd, fillF]
  · simp only [upd, fillF, h, if_false]
    congr 1
    exact propext ⟨fun q => by omega, fun q => by omega⟩
/-- a SHEET's tag; a ROW's -/
def isS (t : Nat) : Prop := ∃ k, k < 9 ∧ t = 7 + 4 * k
def isR (t : Nat) : Prop := ∃ k, k < 6 ∧ t = 43 + 5 * k
theorem isS_sh {t : Nat} (h : isS t) : shp t = .inr (3, [.int 0, .int 0, .int 0, .ref (t + 1), .ref (t + 2), .ref (t + 3)]) ∧ shp (t + 1) = .inl (1, 64) ∧ shp (t + 2) = .inl (1, 64) ∧ shp (t + 3) = .inl (0, 64) := by
  obtain ⟨k, hk, rfl⟩ := h
  have : k = 0 ∨ k = 1 ∨ k = 2 ∨ k = 3 ∨ k = 4 ∨ k = 5 ∨ k = 6 ∨ k = 7 ∨ k = 8 := by omega
  rcases this with rfl | rfl | rfl | rfl | rfl | rfl | rfl | rfl | rfl <;> exact ⟨rfl, rfl, rfl, rfl⟩
theorem isR_sh {t : Nat} (h : isR t) : shp t = .inr (2, [.int 0, .ref (t + 1), .ref (t + 2), .ref (t + 3), .ref (t + 4)]) ∧ shp (t + 1) = .inl (2, 64) ∧ shp (t + 2) = .inl (2, 64) ∧ shp (t + 3) = .inl (1, 64) ∧ shp (t + 4) = .inl (2, 64) := by
  obtain ⟨k, hk, rfl⟩ := h
  have : k = 0 ∨ k = 1 ∨ k = 2 ∨ k = 3 ∨ k = 4 ∨ k = 5 := by omega
  rcases this with rfl | rfl | rfl | rfl | rfl | rfl <;> exact ⟨rfl, rfl, rfl, rfl, rfl⟩
def mxI (x y : Int32) : Int32 := if x.toInt < y.toInt then y else x
def mnI (x y : Int32) : Int32 := if y.toInt < x.toInt then y else x
def mxL (x y : Int64) : Int64 := if x.toInt < y.toInt then y else x
def mnL (x y : Int64) : Int64 := if y.toInt < x.toInt then y else x
def abL (x : Int64) : Int64 := if 0 ≤ x.toInt then x else -x
theorem z64 : (0 : Int64).toInt = 0 := by decide
/-- the ones of an int, as Integer.bitCount reckons them -/
def bcI (x : Int32) : Int32 :=
  let u := fun (a b : Int32) => (a.toUInt32 >>> (b.toUInt32 &&& Int32.toUInt32 31)).toInt32
  let x1 := x - (u x (nI 1) &&& 1431655765)
  let x2 := (x1 &&& 858993459) + (u x1 (nI 2) &&& 858993459)
  let x3 := (x2 + u x2 (nI 4)) &&& 252645135
  let x4 := x3 + u x3 (nI 8)
  let x5 := x4 + u x4 (nI 16)
  x5 &&& nI 63
/-! the JDK's own -/
section CALLS
variable {k k' : MK} {d d' : Nat} {Q : QM} {pc : Nat} {lv : List (Option Value)} {μ : Mem}
theorem wa_callV0 {t ci idx : Nat} {rest sl : List Value} (hd : decode k.2.1 pc = .ok (.invokevirtual idx, 3)) (hlink : Cond.methodLink k.1.cls idx k'.1 ∈ wT) (hk : lkV k' 0) (hsh : shp t = .inr (ci, sl)) (hcl : (vwCl[ci]?).map (fun q => q.1) = some k'.1.cls) (hml : k'.2.2.1 ≤ 21) (hdd : d' + 1 ≤ d) (hcat : catS rest ≤ 8) (hM : MW k' d' (.ref t :: []) μ (fun r μ' => WA k d Q (pc + 3) lv (r.toList ++ rest) μ')) : WA k d Q pc lv (.ref t :: rest) μ :=
  wa_callV (as := []) hd hlink hk hsh hcl hml hdd rfl rfl hcat hM
theorem wa_callS0 {idx : Nat} {rest : List Value} (hd : decode k.2.1 pc = .ok (.invokestatic idx, 3)) (hlink : Cond.methodLink k.1.cls idx k'.1 ∈ wT) (hk : lkS k' 0) (hml : k'.2.2.1 ≤ 21) (hdd : d' + 1 ≤ d) (hcat : catS rest ≤ 8) (hM : MW k' d' [] μ (fun r μ' => WA k d Q (pc + 3) lv (r.toList ++ rest) μ')) : WA k d Q pc lv (rest) μ :=
  wa_callS (as := []) hd hlink hk hml hdd rfl rfl hcat hM
theorem wa_callV1 {t ci idx : Nat} {a1 : Value} {rest sl : List Value} (hd : decode k.2.1 pc = .ok (.invokevirtual idx, 3)) (hlink : Cond.methodLink k.1.cls idx k'.1 ∈ wT) (hk : lkV k' 1) (hsh : shp t = .inr (ci, sl)) (hcl : (vwCl[ci]?).map (fun q => q.1) = some k'.1.cls) (hml : k'.2.2.1 ≤ 21) (hdd : d' + 1 ≤ d) (hcat : catS rest ≤ 8) (hM : MW k' d' (.ref t :: [a1]) μ (fun r μ' => WA k d Q (pc + 3) lv (r.toList ++ rest) μ')) : WA k d Q pc lv (a1 :: .ref t :: rest) μ :=
  wa_callV (as := [a1]) hd hlink hk hsh hcl hml hdd rfl rfl hcat hM
theorem wa_callS1 {idx : Nat} {a1 : Value} {rest : List Value} (hd : decode k.2.1 pc = .ok (.invokestatic idx, 3)) (hlink : Cond.methodLink k.1.cls idx k'.1 ∈ wT) (hk : lkS k' 1) (hml : k'.2.2.1 ≤ 21) (hdd : d' + 1 ≤ d) (hcat : catS rest ≤ 8) (hM : MW k' d' [a1] μ (fun r μ' => WA k d Q (pc + 3) lv (r.toList ++ rest) μ')) : WA k d Q pc lv (a1 :: rest) μ :=
  wa_callS (as := [a1]) hd hlink hk hml hdd rfl rfl hcat hM
theorem wa_callV2 {t ci idx : Nat} {a1 a2 : Value} {rest sl : List Value} (hd : decode k.2.1 pc = .ok (.invokevirtual idx, 3)) (hlink : Cond.methodLink k.1.cls idx k'.1 ∈ wT) (hk : lkV k' 2) (hsh : shp t = .inr (ci, sl)) (hcl : (vwCl[ci]?).map (fun q => q.1) = some k'.1.cls) (hml : k'.2.2.1 ≤ 21) (hdd : d' + 1 ≤ d) (hcat : catS rest ≤ 8) (hM : MW k' d' (.ref t :: [a1, a2]) μ (fun r μ' => WA k d Q (pc + 3) lv (r.toList ++ rest) μ')) : WA k d Q pc lv (a2 :: a1 :: .ref t :: rest) μ :=
  wa_callV (as := [a1, a2]) hd hlink hk hsh hcl hml hdd rfl rfl hcat hM
theorem wa_callS2 {idx : Nat} {a1 a2 : Value} {rest : List Value} (hd : decode k.2.1 pc = .ok (.invokestatic idx, 3)) (hlink : Cond.methodLink k.1.cls idx k'.1 ∈ wT) (hk : lkS k' 2) (hml : k'.2.2.1 ≤ 21) (hdd : d' + 1 ≤ d) (hcat : catS rest ≤ 8) (hM : MW k' d' [a1, a2] μ (fun r μ' => WA k d Q (pc + 3) lv (r.toList ++ rest) μ')) : WA k d Q pc lv (a2 :: a1 :: rest) μ :=
  wa_callS (as := [a1, a2]) hd hlink hk hml hdd rfl rfl hcat hM
theorem wa_callV3 {t ci idx : Nat} {a1 a2 a3 : Value} {rest sl : List Value} (hd : decode k.2.1 pc = .ok (.invokevirtual idx, 3)) (hlink : Cond.methodLink k.1.cls idx k'.1 ∈ wT) (hk : lkV k' 3) (hsh : shp t = .inr (ci, sl)) (hcl : (vwCl[ci]?).map (fun q => q.1) = some k'.1.cls) (hml : k'.2.2.1 ≤ 21) (hdd : d' + 1 ≤ d) (hcat : catS rest ≤ 8) (hM : MW k' d' (.ref t :: [a1, a2, a3]) μ (fun r μ' => WA k d Q (pc + 3) lv (r.toList ++ rest) μ')) : WA k d Q pc lv (a3 :: a2 :: a1 :: .ref t :: rest) μ :=
  wa_callV (as := [a1, a2, a3]) hd hlink hk hsh hcl hml hdd rfl rfl hcat hM
theorem wa_callS3 {idx : Nat} {a1 a2 a3 : Value} {rest : List Value} (hd : decode k.2.1 pc = .ok (.invokestatic idx, 3)) (hlink : Cond.methodLink k.1.cls idx k'.1 ∈ wT) (hk : lkS k' 3) (hml : k'.2.2.1 ≤ 21) (hdd : d' + 1 ≤ d) (hcat : catS rest ≤ 8) (hM : MW k' d' [a1, a2, a3] μ (fun r μ' => WA k d Q (pc + 3) lv (r.toList ++ rest) μ')) : WA k d Q pc lv (a3 :: a2 :: a1 :: rest) μ :=
  wa_callS (as := [a1, a2, a3]) hd hlink hk hml hdd rfl rfl hcat hM
theorem wa_callV4 {t ci idx : Nat} {a1 a2 a3 a4 : Value} {rest sl : List Value} (hd : decode k.2.1 pc = .ok (.invokevirtual idx, 3)) (hlink : Cond.methodLink k.1.cls idx k'.1 ∈ wT) (hk : lkV k' 4) (hsh : shp t = .inr (ci, sl)) (hcl : (vwCl[ci]?).map (fun q => q.1) = some k'.1.cls) (hml : k'.2.2.1 ≤ 21) (hdd : d' + 1 ≤ d) (hcat : catS rest ≤ 8) (hM : MW k' d' (.ref t :: [a1, a2, a3, a4]) μ (fun r μ' => WA k d Q (pc + 3) lv (r.toList ++ rest) μ')) : WA k d Q pc lv (a4 :: a3 :: a2 :: a1 :: .ref t :: rest) μ :=
  wa_callV (as := [a1, a2, a3, a4]) hd hlink hk hsh hcl hml hdd rfl rfl hcat hM
theorem wa_callS4 {idx : Nat} {a1 a2 a3 a4 : Value} {rest : List Value} (hd : decode k.2.1 pc = .ok (.invokestatic idx, 3)) (hlink : Cond.methodLink k.1.cls idx k'.1 ∈ wT) (hk : lkS k' 4) (hml : k'.2.2.1 ≤ 21) (hdd : d' + 1 ≤ d) (hcat : catS rest ≤ 8) (hM : MW k' d' [a1, a2, a3, a4] μ (fun r μ' => WA k d Q (pc + 3) lv (r.toList ++ rest) μ')) : WA k d Q pc lv (a4 :: a3 :: a2 :: a1 :: rest) μ :=
  wa_callS (as := [a1, a2, a3, a4]) hd hlink hk hml hdd rfl rfl hcat hM
theorem wa_callV5 {t ci idx : Nat} {a1 a2 a3 a4 a5 : Value} {rest sl : List Value} (hd : decode k.2.1 pc = .ok (.invokevirtual idx, 3)) (hlink : Cond.methodLink k.1.cls idx k'.1 ∈ wT) (hk : lkV k' 5) (hsh : shp t = .inr (ci, sl)) (hcl : (vwCl[ci]?).map (fun q => q.1) = some k'.1.cls) (hml : k'.2.2.1 ≤ 21) (hdd : d' + 1 ≤ d) (hcat : catS rest ≤ 8) (hM : MW k' d' (.ref t :: [a1, a2, a3, a4, a5]) μ (fun r μ' => WA k d Q (pc + 3) lv (r.toList ++ rest) μ')) : WA k d Q pc lv (a5 :: a4 :: a3 :: a2 :: a1 :: .ref t :: rest) μ :=
  wa_callV (as := [a1, a2, a3, a4, a5]) hd hlink hk hsh hcl hml hdd rfl rfl hcat hM
theorem wa_callS5 {idx : Nat} {a1 a2 a3 a4 a5 : Value} {rest : List Value} (hd : decode k.2.1 pc = .ok (.invokestatic idx, 3)) (hlink : Cond.methodLink k.1.cls idx k'.1 ∈ wT) (hk : lkS k' 5) (hml : k'.2.2.1 ≤ 21) (hdd : d' + 1 ≤ d) (hcat : catS rest ≤ 8) (hM : MW k' d' [a1, a2, a3, a4, a5] μ (fun r μ' => WA k d Q (pc + 3) lv (r.toList ++ rest) μ')) : WA k d Q pc lv (a5 :: a4 :: a3 :: a2 :: a1 :: rest) μ :=
  wa_callS (as := [a1, a2, a3, a4, a5]) hd hlink hk hml hdd rfl rfl hcat hM
theorem wa_callN2 {a1 a2 : Value} {rest : List Value} (hown : k.1.cls = RX2) (hd : decode k.2.1 pc = .ok (.invokestatic 79, 3)) (hy : k'.1 = yX5_isWithin) (hk : lkS k' 2) (hml : k'.2.2.1 ≤ 21) (hdd : d' + 1 ≤ d) (hcat : catS rest ≤ 8) (hM : MW k' d' [a1, a2] μ (fun r μ' => WA k d Q (pc + 3) lv (r.toList ++ rest) μ')) : WA k d Q pc lv (a2 :: a1 :: rest) μ :=
  wa_callN (as := [a1, a2]) hown hd hy hk hml hdd rfl rfl hcat hM
end CALLS
section MATH
variable {k : MK} {d : Nat} {Q : QM} {pc : Nat} {lv : List (Option Value)} {μ : Mem}
def lkM (y : MethodName) (bc : ByteArray) (ml : Nat) (ret : FieldType) : Prop := Cond.static y ∈ wT ∧ Cond.initialized "java/lang/Math" ∈ wT ∧ Cond.code y bc ml (some ret) ∈ wT
theorem lkM_mmaxI : lkM Lib.Math.max.name Lib.Math.max.code 2 .int := ⟨tm 344 (by decide +kernel) (by decide +kernel), tm 40 (by decide +kernel) (by decide +kernel), tm 345 (by decide +kernel) (by decide +kernel)⟩
theorem wa_mmaxI {idx : Nat} {x y : Int32} {rest : List Value} (hd : decode k.2.1 pc = .ok (.invokestatic idx, 3)) (hlink : Cond.methodLink k.1.cls idx Lib.Math.max.name ∈ wT) (hdd : 1 ≤ d) (hcat : catS rest ≤ 8) (kk : WA k d Q (pc + 3) lv (.int (mxI x y) :: rest) μ) : WA k d Q pc lv (.int y :: .int x :: rest) μ := by
  intro G p l e s m args below meth c H locs ls C hP hS hl
  have hts := C.2.2.2.1
  have ht : ∀ w, w ∈ wT → w.before args s = true := fun w h => hts w (List.mem_cons_of_mem _ h)
  obtain ⟨h1, h2, h3⟩ := lkM_mmaxI
  refine va_mmax C.1 C.2.1 (C.2.2.2.2.2.2.1.trans hl.1.symm) C.2.2.2.2.1 (ht _ hlink) (ht _ h1) (ht _ h2) (ht _ h3) (by show 1 ≤ d; exact hdd) (by rw [catS_eq]; show catS rest + 13 ≤ 40 * d; omega) (Nat.zero_le _) (Nat.zero_le _) hd ?_
  have emx : (if x < y then y else x) = mxI x y := by
    simp only [mxI, Int32.lt_iff_toInt_lt]
  rw [emx]
  exact kk G p l e s m args below meth c H locs ls C hP hS hl
theorem lkM_mminI : lkM Lib.Math.min.name Lib.Math.min.code 2 .int := ⟨tm 641 (by decide +kernel) (by decide +kernel), tm 40 (by decide +kernel) (by decide +kernel), tm 642 (by decide +kernel) (by decide +kernel)⟩
theorem wa_mminI {idx : Nat} {x y : Int32} {rest : List Value} (hd : decode k.2.1 pc = .ok (.invokestatic idx, 3)) (hlink : Cond.methodLink k.1.cls idx Lib.Math.min.name ∈ wT) (hdd : 1 ≤ d) (hcat : catS rest ≤ 8) (kk : WA k d Q (pc + 3) lv (.int (mnI x y) :: rest) μ) : WA k d Q pc lv (.int y :: .int x :: rest) μ := by
  intro G p l e s m args below meth c H locs ls C hP hS hl
  have hts := C.2.2.2.1
  have ht : ∀ w, w ∈ wT → w.before args s = true := fun w h => hts w (List.mem_cons_of_mem _ h)
  obtain ⟨h1, h2, h3⟩ := lkM_mminI
  refine va_mmin C.1 C.2.1 (C.2.2.2.2.2.2.1.trans hl.1.symm) C.2.2.2.2.1 (ht _ hlink) (ht _ h1) (ht _ h2) (ht _ h3) (by show 1 ≤ d; exact hdd) (by rw [catS_eq]; show catS rest + 13 ≤ 40 * d; omega) (Nat.zero_le _) (Nat.zero_le _) hd ?_
  have emx : (if y < x then y else x) = mnI x y := by
    simp only [mnI, Int32.lt_iff_toInt_lt]
  rw [emx]
  exact kk G p l e s m args below meth c H locs ls C hP hS hl
theorem lkM_mmaxL : lkM Lib.MathLoose.max_long.x Lib.MathLoose.max_long.code 4 .long := ⟨tm 506 (by decide +kernel) (by decide +kernel), tm 40 (by decide +kernel) (by decide +kernel), tm 507 (by decide +kernel) (by decide +kernel)⟩
theorem wa_mmaxL {idx : Nat} {x y : Int64} {rest : List Value} (hd : decode k.2.1 pc = .ok (.invokestatic idx, 3)) (hlink : Cond.methodLink k.1.cls idx Lib.MathLoose.max_long.x ∈ wT) (hdd : 1 ≤ d) (hcat : catS rest ≤ 8) (kk : WA k d Q (pc + 3) lv (.long (mxL x y) :: rest) μ) : WA k d Q pc lv (.long y :: .long x :: rest) μ := by
  intro G p l e s m args below meth c H locs ls C hP hS hl
  have hts := C.2.2.2.1
  have ht : ∀ w, w ∈ wT → w.before args s = true := fun w h => hts w (List.mem_cons_of_mem _ h)
  obtain ⟨h1, h2, h3⟩ := lkM_mmaxL
  refine va_mmax_long C.1 C.2.1 (C.2.2.2.2.2.2.1.trans hl.1.symm) C.2.2.2.2.1 (ht _ hlink) (ht _ h1) (ht _ h2) (ht _ h3) (by show 1 ≤ d; exact hdd) (by rw [catS_eq]; show catS rest + 15 ≤ 40 * d; omega) (Nat.zero_le _) (Nat.zero_le _) hd ?_
  have emx : (if y < x then x else y) = mxL x y := by
    simp only [mxL, Int64.lt_iff_toInt_lt]
    by_cases h1 : y.toInt < x.toInt
    · rw [if_pos h1, if_neg (by omega)]
    · by_cases h2 : x.toInt < y.toInt
      · rw [if_neg h1, if_pos h2]
      · rw [if_neg h1, if_neg h2]
        exact Int64.toInt_inj.mp (by omega)
  rw [emx]
  exact kk G p l e s m args below meth c H locs ls C hP hS hl
theorem lkM_mminL : lkM Lib.MathLoose.min_long.x Lib.MathLoose.min_long.code 4 .long := ⟨tm 509 (by decide +kernel) (by decide +kernel), tm 40 (by decide +kernel) (by decide +kernel), tm 510 (by decide +kernel) (by decide +kernel)⟩
theorem wa_mminL {idx : Nat} {x y : Int64} {rest : List Value} (hd : decode k.2.1 pc = .ok (.invokestatic idx, 3)) (hlink : Cond.methodLink k.1.cls idx Lib.MathLoose.min_long.x ∈ wT) (hdd : 1 ≤ d) (hcat : catS rest ≤ 8) (kk : WA k d Q (pc + 3) lv (.long (mnL x y) :: rest) μ) : WA k d Q pc lv (.long y :: .long x :: rest) μ := by
  intro G p l e s m args below meth c H locs ls C hP hS hl
  have hts := C.2.2.2.1
  have ht : ∀ w, w ∈ wT → w.before args s = true := fun w h => hts w (List.mem_cons_of_mem _ h)
  obtain ⟨h1, h2, h3⟩ := lkM_mminL
  refine va_mmin_long C.1 C.2.1 (C.2.2.2.2.2.2.1.trans hl.1.symm) C.2.2.2.2.1 (ht _ hlink) (ht _ h1) (ht _ h2) (ht _ h3) (by show 1 ≤ d; exact hdd) (by rw [catS_eq]; show catS rest + 15 ≤ 40 * d; omega) (Nat.zero_le _) (Nat.zero_le _) hd ?_
  have emx : (if y < x then y else x) = mnL x y := by
    simp only [mnL, Int64.lt_iff_toInt_lt]
  rw [emx]
  exact kk G p l e s m args below meth c H locs ls C hP hS hl
theorem lkM_mabsL : lkM Lib.MathLoose.abs_long.x Lib.MathLoose.abs_long.code 2 .long := ⟨tm 312 (by decide +kernel) (by decide +kernel), tm 40 (by decide +kernel) (by decide +kernel), tm 313 (by decide +kernel) (by decide +kernel)⟩
theorem wa_mabsL {idx : Nat} {x : Int64} {rest : List Value} (hd : decode k.2.1 pc = .ok (.invokestatic idx, 3)) (hlink : Cond.methodLink k.1.cls idx Lib.MathLoose.abs_long.x ∈ wT) (hdd : 1 ≤ d) (hcat : catS rest ≤ 8) (kk : WA k d Q (pc + 3) lv (.long (abL x) :: rest) μ) : WA k d Q pc lv (.long x :: rest) μ := by
  intro G p l e s m args below meth c H locs ls C hP hS hl
  have hts := C.2.2.2.1
  have ht : ∀ w, w ∈ wT → w.before args s = true := fun w h => hts w (List.mem_cons_of_mem _ h)
  obtain ⟨h1, h2, h3⟩ := lkM_mabsL
  refine va_mabs_long C.1 C.2.1 (C.2.2.2.2.2.2.1.trans hl.1.symm) C.2.2.2.2.1 (ht _ hlink) (ht _ h1) (ht _ h2) (ht _ h3) (by show 1 ≤ d; exact hdd) (by rw [catS_eq]; show catS rest + 13 ≤ 40 * d; omega) (Nat.zero_le _) (Nat.zero_le _) hd ?_
  have emx : (if 0 < x then x else -x) = abL x := by
    simp only [abL, Int64.lt_iff_toInt_lt, z64]
    by_cases h1 : 0 < x.toInt
    · rw [if_pos h1, if_pos (by omega)]
    · by_cases h2 : 0 ≤ x.toInt
      · have hx : x = 0 := Int64.toInt_inj.mp (by rw [z64]; omega)
        subst hx
        rfl
      · rw [if_neg h1, if_neg h2]
  rw [emx]
  exact kk G p l e s m args below meth c H locs ls C hP hS hl
end MATH
theorem wp_bitCount {d : Nat} {x : Int32} {μ : Mem} {Q : QM} (hQ : Q (some (.int (bcI x))) μ) : MW kJ6_bitCount_0f7a4 d [.int x] μ Q := by
  refine MW_of (by decide) [some (.int x)] rfl (Nat.le_of_ble_eq_true rfl) ?_
  refine wa_iload_n dJ6_bitCount_0f7a4_0 rfl ?_
  refine wa_iload_n dJ6_bitCount_0f7a4_1 rfl ?_
  refine wa_iconst (nI 1) dJ6_bitCount_0f7a4_2 (by decide) ?_
  refine wa_iushr dJ6_bitCount_0f7a4_3 ?_
  refine wa_ldcw (1431655765) dJ6_bitCount_0f7a4_4 lcJ6_265 ?_
  refine wa_iand dJ6_bitCount_0f7a4_7 ?_
  refine wa_isub dJ6_bitCount_0f7a4_8 ?_
  refine wa_istore_n dJ6_bitCount_0f7a4_9 (by decide) ?_
  refine wa_iload_n dJ6_bitCount_0f7a4_10 rfl ?_
  refine wa_ldcw (858993459) dJ6_bitCount_0f7a4_11 lcJ6_266 ?_
  refine wa_iand dJ6_bitCount_0f7a4_14 ?_
  refine wa_iload_n dJ6_bitCount_0f7a4_15 rfl ?_
  refine wa_iconst (nI 2) dJ6_bitCount_0f7a4_16 (by decide) ?_
  refine wa_iushr dJ6_bitCount_0f7a4_17 ?_
  refine wa_ldcw (858993459) dJ6_bitCount_0f7a4_18 lcJ6_266 ?_
  refine wa_iand dJ6_bitCount_0f7a4_21 ?_
  refine wa_iadd dJ6_bitCount_0f7a4_22 ?_
  refine wa_istore_n dJ6_bitCount_0f7a4_23 (by decide) ?_
  refine wa_iload_n dJ6_bitCount_0f7a4_24 rfl ?_
  refine wa_iload_n dJ6_bitCount_0f7a4_25 rfl ?_
  refine wa_iconst (nI 4) dJ6_bitCount_0f7a4_26 (by decide) ?_
  refine wa_iushr dJ6_bitCount_0f7a4_27 ?_
  refine wa_iadd dJ6_bitCount_0f7a4_28 ?_
  refine wa_ldcw (252645135) dJ6_bitCount_0f7a4_29 lcJ6_267 ?_
  refine wa_iand dJ6_bitCount_0f7a4_32 ?_
  refine wa_istore_n dJ6_bitCount_0f7a4_33 (by decide) ?_
  refine wa_iload_n dJ6_bitCount_0f7a4_34 rfl ?_
  refine wa_iload_n dJ6_bitCount_0f7a4_35 rfl ?_
  refine wa_bipush (nI 8) dJ6_bitCount_0f7a4_36 (by decide) ?_
  refine wa_iushr dJ6_bitCount_0f7a4_38 ?_
  refine wa_iadd dJ6_bitCount_0f7a4_39 ?_
  refine wa_istore_n dJ6_bitCount_0f7a4_40 (by decide) ?_
  refine wa_iload_n dJ6_bitCount_0f7a4_41 rfl ?_
  refine wa_iload_n dJ6_bitCount_0f7a4_42 rfl ?_
  refine wa_bipush (nI 16) dJ6_bitCount_0f7a4_43 (by decide) ?_
  refine wa_iushr dJ6_bitCount_0f7a4_45 ?_
  refine wa_iadd dJ6_bitCount_0f7a4_46 ?_
  refine wa_istore_n dJ6_bitCount_0f7a4_47 (by decide) ?_
  refine wa_iload_n dJ6_bitCount_0f7a4_48 rfl ?_
  refine wa_bipush (nI 63) dJ6_bitCount_0f7a4_49 (by decide) ?_
  refine wa_iand dJ6_bitCount_0f7a4_51 ?_
  refine wa_iret dJ6_bitCount_0f7a4_52 rfl ?_
  exact hQ
theorem wp_fill {d t n : Nat} {v : Int32} {μ : Mem} {Q : QM} (hs : shp t = .inl (1, n)) (hQ : Q none (bI μ t (fillF (μ.1 t) v n))) : MW kJ7_fill_53178 d [.ref t, .int v] μ Q := by
  refine MW_of (by decide) [some (.ref t), some (.int v), none, none] rfl (Nat.le_of_ble_eq_true rfl) ?_
  have hn := shp_n hs
  have loop : ∀ m i, i + m = n → WA kJ7_fill_53178 d Q 5 [some (.ref t), some (.int v), some (.int (nI i)), some (.int (nI n))] [] (bI μ t (fillF (μ.1 t) v i)) := by
    intro m
    induction m with
    | zero =>
      intro i hi
      refine wa_iload_n dJ7_fill_53178_5 rfl ?_
      refine wa_iload_n dJ7_fill_53178_6 rfl ?_
      refine wa_ic_geT 20 dJ7_fill_53178_7 (by decide) (by have := nI_toInt (n := n) (by omega); have := nI_toInt (n := i) (by omega); omega) ?_
      refine wa_vret dJ7_fill_53178_20 rfl ?_
      rw [show i = n by omega]; exact hQ
    | succ m ih =>
      intro i hi
      refine wa_iload_n dJ7_fill_53178_5 rfl ?_
      refine wa_iload_n dJ7_fill_53178_6 rfl ?_
      refine wa_ic_geF 20 dJ7_fill_53178_7 (by decide) (by have := nI_toInt (n := n) (by omega); have := nI_toInt (n := i) (by omega); omega) ?_
      refine wa_aload_n dJ7_fill_53178_10 rfl ?_
      refine wa_iload_n dJ7_fill_53178_11 rfl ?_
      refine wa_iload_n dJ7_fill_53178_12 rfl ?_
      refine wa_iast _ dJ7_fill_53178_13 (by first | assumption | rfl) (by first | with_reducible rfl | with_reducible assumption | with_reducible exact ix_ma _ _ _ | with_reducible exact ix_maa _ _ _ _ | with_reducible exact ix_a _ _ | with_reducible exact ix_mama _ _ _ _ _) (by omega) ?_
      refine wa_iinc (nI 1) dJ7_fill_53178_14 rfl (by decide) (by decide) ?_
      refine wa_goto 5 dJ7_fill_53178_17 (by decide) ?_
      rw [sIb, fillF_s, nI_add]; exact ih (i + 1) (by omega)
  refine wa_iconst (nI 0) dJ7_fill_53178_0 (by decide) ?_
  refine wa_istore_n dJ7_fill_53178_1 (by decide) ?_
  refine wa_aload_n dJ7_fill_53178_2 rfl ?_
  refine wa_alenI dJ7_fill_53178_3 (by first | assumption | rfl) ?_
  refine wa_istore_n dJ7_fill_53178_4 (by decide) ?_
  have h0 := loop n 0 (by omega); rw [fillF_0, bI_self] at h0; exact h0
end
section
/-! MOORING and WARNING of the class -/
theorem wp_X0_begin {d : Nat} {x y r m : Int32} {μ : Mem} {Q : QM} (hQ : Q none (sI (sI (sI (sL (sL (sL μ 5 0 x.toInt64) 5 1 y.toInt64) 5 2 r.toInt64) 5 3 m) 5 4 (nI 0)) 5 5 (nI 0))) : MW kX0_begin d [.ref 5, .int x, .int y, .int r, .int m] μ Q := by
  refine MW_of (by decide) [some (.ref 5), some (.int x), some (.int y), some (.int r), some (.int m)] rfl (Nat.le_of_ble_eq_true rfl) ?_
  refine wa_aload_n dX0_begin_0 rfl ?_
  refine wa_iload_n dX0_begin_1 rfl ?_
  refine wa_i2l dX0_begin_2 ?_
  refine wa_putL dX0_begin_3 fgX0_13 fw0_0 (by first | assumption | rfl) (by rfl) ?_
  refine wa_aload_n dX0_begin_6 rfl ?_
  refine wa_iload_n dX0_begin_7 rfl ?_
  refine wa_i2l dX0_begin_8 ?_
  refine wa_putL dX0_begin_9 fgX0_17 fw0_1 (by first | assumption | rfl) (by rfl) ?_
  refine wa_aload_n dX0_begin_12 rfl ?_
  refine wa_iload_n dX0_begin_13 rfl ?_
  refine wa_i2l dX0_begin_14 ?_
  refine wa_putL dX0_begin_15 fgX0_20 fw0_2 (by first | assumption | rfl) (by rfl) ?_
  refine wa_aload_n dX0_begin_18 rfl ?_
  refine wa_iload dX0_begin_19 rfl ?_
  refine wa_putI dX0_begin_21 fgX0_7 fw0_3 (by first | assumption | rfl) (by rfl) ?_
  refine wa_aload_n dX0_begin_24 rfl ?_
  refine wa_iconst (nI 0) dX0_begin_25 (by decide) ?_
  refine wa_putI dX0_begin_26 fgX0_23 fw0_4 (by first | assumption | rfl) (by rfl) ?_
  refine wa_aload_n dX0_begin_29 rfl ?_
  refine wa_iconst (nI 0) dX0_begin_30 (by decide) ?_
  refine wa_putI dX0_begin_31 fgX0_26 fw0_5 (by first | assumption | rfl) (by rfl) ?_
  refine wa_vret dX0_begin_34 rfl ?_
  exact hQ
def isOutP (μ : Mem) (x y : Int64) : Prop := (μ.2 5 2 * μ.2 5 2).toInt < ((x - μ.2 5 0) * (x - μ.2 5 0) + (y - μ.2 5 1) * (y - μ.2 5 1)).toInt
theorem wp_X0_isOut {d : Nat} {x y : Int64} {μ : Mem} {Q : QM} (h1 : isOutP μ x y → Q (some (.int (nI 1))) μ) (h0 : ¬ isOutP μ x y → Q (some (.int (nI 0))) μ) : MW kX0_isOut d [.ref 5, .long x, .long y] μ Q := by
  refine MW_of (by decide) [some (.ref 5), some (.long x), none, some (.long y), none, none, none, none, none] rfl (Nat.le_of_ble_eq_true rfl) ?_
  refine wa_lload_n dX0_isOut_0 rfl ?_
  refine wa_aload_n dX0_isOut_1 rfl ?_
  refine wa_getL dX0_isOut_2 fgX0_13 (by first | assumption | rfl) (by rfl) ?_
  refine wa_lsub dX0_isOut_5 ?_
  refine wa_lstore dX0_isOut_6 (by decide) ?_
  refine wa_lload_n dX0_isOut_8 rfl ?_
  refine wa_aload_n dX0_isOut_9 rfl ?_
  refine wa_getL dX0_isOut_10 fgX0_17 (by first | assumption | rfl) (by rfl) ?_
  refine wa_lsub dX0_isOut_13 ?_
  refine wa_lstore dX0_isOut_14 (by decide) ?_
  refine wa_lload dX0_isOut_16 rfl ?_
  refine wa_lload dX0_isOut_18 rfl ?_
  refine wa_lmul dX0_isOut_20 ?_
  refine wa_lload dX0_isOut_21 rfl ?_
  refine wa_lload dX0_isOut_23 rfl ?_
  refine wa_lmul dX0_isOut_25 ?_
  refine wa_ladd dX0_isOut_26 ?_
  refine wa_aload_n dX0_isOut_27 rfl ?_
  refine wa_getL dX0_isOut_28 fgX0_20 (by first | assumption | rfl) (by rfl) ?_
  refine wa_aload_n dX0_isOut_31 rfl ?_
  refine wa_getL dX0_isOut_32 fgX0_20 (by first | assumption | rfl) (by rfl) ?_
  refine wa_lmul dX0_isOut_35 ?_
  refine wa_lc_le 44 dX0_isOut_36 dX0_isOut_37 (by decide) (fun c36_1 => ?_) (fun c36_1 => ?_)
  · try simp (disch := omega) only [nI_toInt] at c36_1
    refine wa_iconst (nI 0) dX0_isOut_44 (by decide) ?_
    refine wa_zret dX0_isOut_45 rfl (by decide) ?_
    exact h0 (by unfold isOutP; omega)
  · try simp (disch := omega) only [nI_toInt] at c36_1
    refine wa_iconst (nI 1) dX0_isOut_40 (by decide) ?_
    refine wa_goto 45 dX0_isOut_41 (by decide) ?_
    refine wa_zret dX0_isOut_45 rfl (by decide) ?_
    exact h1 (by unfold isOutP; omega)
theorem wp_X0_places {d : Nat} {μ : Mem} {Q : QM} (hQ : Q (some (.int (μ.1 5 4))) μ) : MW kX0_places d [.ref 5] μ Q := by
  refine MW_of (by decide) [some (.ref 5)] rfl (Nat.le_of_ble_eq_true rfl) ?_
  refine wa_aload_n dX0_places_0 rfl ?_
  refine wa_getI dX0_places_1 fgX0_23 (by first | assumption | rfl) (by rfl) ?_
  refine wa_iret dX0_places_4 rfl ?_
  exact hQ
theorem wp_X0_outOnEnd {d : Nat} {μ : Mem} {Q : QM} (hQ : Q (some (.int (μ.1 5 5))) μ) : MW kX0_outOnEnd d [.ref 5] μ Q := by
  refine MW_of (by decide) [some (.ref 5)] rfl (Nat.le_of_ble_eq_true rfl) ?_
  refine wa_aload_n dX0_outOnEnd_0 rfl ?_
  refine wa_getI dX0_outOnEnd_1 fgX0_26 (by first | assumption | rfl) (by rfl) ?_
  refine wa_iret dX0_outOnEnd_4 rfl ?_
  exact hQ
theorem wp_X0_width {d : Nat} {μ : Mem} {Q : QM} (h0 : (μ.1 5 4).toInt = 0 → Q (some (.int (nI 0))) μ) (h1 : ¬ (μ.1 5 4).toInt = 0 → Q (some (.int (μ.1 5 7 - μ.1 5 6))) μ) : MW kX0_width d [.ref 5] μ Q := by
  refine MW_of (by decide) [some (.ref 5)] rfl (Nat.le_of_ble_eq_true rfl) ?_
  refine wa_aload_n dX0_width_0 rfl ?_
  refine wa_getI dX0_width_1 fgX0_23 (by first | assumption | rfl) (by rfl) ?_
  refine wa_if_ne 11 dX0_width_4 (by decide) (fun c4_1 => ?_) (fun c4_1 => ?_)
  · try simp (disch := omega) only [nI_toInt] at c4_1
    refine wa_aload_n dX0_width_11 rfl ?_
    refine wa_getI dX0_width_12 fgX0_38 (by first | assumption | rfl) (by rfl) ?_
    refine wa_aload_n dX0_width_15 rfl ?_
    refine wa_getI dX0_width_16 fgX0_29 (by first | assumption | rfl) (by rfl) ?_
    refine wa_isub dX0_width_19 ?_
    refine wa_iret dX0_width_20 rfl ?_
    exact h1 (by assumption)
  · try simp (disch := omega) only [nI_toInt] at c4_1
    refine wa_iconst (nI 0) dX0_width_7 (by decide) ?_
    refine wa_goto 20 dX0_width_8 (by decide) ?_
    refine wa_iret dX0_width_20 rfl ?_
    exact h0 (by omega)
theorem wp_X0_depth {d : Nat} {μ : Mem} {Q : QM} (h0 : (μ.1 5 4).toInt = 0 → Q (some (.int (nI 0))) μ) (h1 : ¬ (μ.1 5 4).toInt = 0 → Q (some (.int (μ.1 5 9 - μ.1 5 8))) μ) : MW kX0_depth d [.ref 5] μ Q := by
  refine MW_of (by decide) [some (.ref 5)] rfl (Nat.le_of_ble_eq_true rfl) ?_
  refine wa_aload_n dX0_depth_0 rfl ?_
  refine wa_getI dX0_depth_1 fgX0_23 (by first | assumption | rfl) (by rfl) ?_
  refine wa_if_ne 11 dX0_depth_4 (by decide) (fun c4_1 => ?_) (fun c4_1 => ?_)
  · try simp (disch := omega) only [nI_toInt] at c4_1
    refine wa_aload_n dX0_depth_11 rfl ?_
    refine wa_getI dX0_depth_12 fgX0_47 (by first | assumption | rfl) (by rfl) ?_
    refine wa_aload_n dX0_depth_15 rfl ?_
    refine wa_getI dX0_depth_16 fgX0_44 (by first | assumption | rfl) (by rfl) ?_
    refine wa_isub dX0_depth_19 ?_
    refine wa_iret dX0_depth_20 rfl ?_
    exact h1 (by assumption)
  · try simp (disch := omega) only [nI_toInt] at c4_1
    refine wa_iconst (nI 0) dX0_depth_7 (by decide) ?_
    refine wa_goto 20 dX0_depth_8 (by decide) ?_
    refine wa_iret dX0_depth_20 rfl ?_
    exact h0 (by omega)
theorem wp_X0_state {d : Nat} {μ : Mem} {Q : QM} (h0 : (μ.1 5 5).toInt = 0 → Q (some (.int (nI 0))) μ) (h1 : ¬ (μ.1 5 5).toInt = 0 → (μ.1 5 5).toInt < (μ.1 5 3).toInt → Q (some (.int (nI 1))) μ) (h2 : ¬ (μ.1 5 5).toInt = 0 → ¬ (μ.1 5 5).toInt < (μ.1 5 3).toInt → Q (some (.int (nI 2))) μ) : MW kX0_state d [.ref 5] μ Q := by
  refine MW_of (by decide) [some (.ref 5)] rfl (Nat.le_of_ble_eq_true rfl) ?_
  refine wa_aload_n dX0_state_0 rfl ?_
  refine wa_getI dX0_state_1 fgX0_26 (by first | assumption | rfl) (by rfl) ?_
  refine wa_if_ne 9 dX0_state_4 (by decide) (fun c4_1 => ?_) (fun c4_1 => ?_)
  · try simp (disch := omega) only [nI_toInt] at c4_1
    refine wa_aload_n dX0_state_9 rfl ?_
    refine wa_getI dX0_state_10 fgX0_26 (by first | assumption | rfl) (by rfl) ?_
    refine wa_aload_n dX0_state_13 rfl ?_
    refine wa_getI dX0_state_14 fgX0_7 (by first | assumption | rfl) (by rfl) ?_
    refine wa_ic_lt 24 dX0_state_17 (by decide) (fun c17_2 => ?_) (fun c17_2 => ?_)
    · try simp (disch := omega) only [nI_toInt] at c17_2
      refine wa_iconst (nI 1) dX0_state_24 (by decide) ?_
      refine wa_iret dX0_state_25 rfl ?_
      exact h1 (by assumption) (by assumption)
    · try simp (disch := omega) only [nI_toInt] at c17_2
      refine wa_iconst (nI 2) dX0_state_20 (by decide) ?_
      refine wa_goto 25 dX0_state_21 (by decide) ?_
      refine wa_iret dX0_state_25 rfl ?_
      exact h2 (by assumption) (by assumption)
  · try simp (disch := omega) only [nI_toInt] at c4_1
    refine wa_iconst (nI 0) dX0_state_7 (by decide) ?_
    refine wa_iret dX0_state_8 rfl ?_
    exact h0 (by omega)
/-- what the greatest and the least become -/
def mTake (μ : Mem) (x y : Int32) : Mem :=
  if (μ.1 5 4).toInt = 0 then sI (sI (sI (sI (sI μ 5 6 x) 5 7 x) 5 8 y) 5 9 y) 5 4 (μ.1 5 4 + nI 1)
  else sI (sI (sI (sI (sI μ 5 6 (mnI (μ.1 5 6) x)) 5 7 (mxI (μ.1 5 7) x)) 5 8 (mnI (μ.1 5 8) y)) 5 9 (mxI (μ.1 5 9) y)) 5 4 (μ.1 5 4 + nI 1)
theorem mTake_l (μ : Mem) (x y : Int32) : (mTake μ x y).2 = μ.2 := by
  unfold mTake
  split <;> rfl
theorem wp_X0_take {d : Nat} {x y : Int32} {μ : Mem} {Q : QM} (hd : 1 ≤ d) (h1 : isOutP μ x.toInt64 y.toInt64 → Q none (sI (mTake μ x y) 5 5 (μ.1 5 5 + nI 1))) (h0 : ¬ isOutP μ x.toInt64 y.toInt64 → Q none (sI (mTake μ x y) 5 5 (nI 0))) : MW kX0_take d [.ref 5, .int x, .int y] μ Q := by
  refine MW_of (by decide) [some (.ref 5), some (.int x), some (.int y)] rfl (Nat.le_of_ble_eq_true rfl) ?_
  have eo : ∀ {a b : Int64}, isOutP (mTake μ x y) a b = isOutP μ a b := by
    intro a b
    unfold isOutP
    rw [mTake_l]
  have e5 : (mTake μ x y).1 5 5 = μ.1 5 5 := by
    unfold mTake
    split <;> simp (disch := decide) only [r1m]
  have J : WA kX0_take d Q 102 [some (.ref 5), some (.int x), some (.int y)] [] (mTake μ x y) := by
    refine wa_aload_n dX0_take_102 rfl ?_
    refine wa_aload_n dX0_take_103 rfl ?_
    refine wa_iload_n dX0_take_104 rfl ?_
    refine wa_i2l dX0_take_105 ?_
    refine wa_iload_n dX0_take_106 rfl ?_
    refine wa_i2l dX0_take_107 ?_
    refine wa_callV2 (k' := kX0_isOut) (d' := 0) dX0_take_108 lmX0_50 kvX0_isOut (by first | assumption | rfl) (by rfl) (by decide) (by omega) (Nat.le_of_ble_eq_true rfl) ?_
    refine wp_X0_isOut (fun ho => ?_) (fun ho => ?_)
    · skip
      refine wa_if_eqF 123 dX0_take_111 (by decide) (by decide) ?_
      refine wa_aload_n dX0_take_114 rfl ?_
      refine wa_getI dX0_take_115 fgX0_26 (by first | assumption | rfl) (by rfl) ?_
      refine wa_iconst (nI 1) dX0_take_118 (by decide) ?_
      refine wa_iadd dX0_take_119 ?_
      refine wa_goto 124 dX0_take_120 (by decide) ?_
      refine wa_putI dX0_take_124 fgX0_26 fw0_5 (by first | assumption | rfl) (by rfl) ?_
      refine wa_vret dX0_take_127 rfl ?_
      rw [e5]; exact h1 (by rw [← eo]; exact ho)
    · skip
      refine wa_if_eqT 123 dX0_take_111 (by decide) (by decide) ?_
      refine wa_iconst (nI 0) dX0_take_123 (by decide) ?_
      refine wa_putI dX0_take_124 fgX0_26 fw0_5 (by first | assumption | rfl) (by rfl) ?_
      refine wa_vret dX0_take_127 rfl ?_
      exact h0 (by rw [← eo]; exact ho)
  by_cases hp : (μ.1 5 4).toInt = 0
  · rw [mTake, if_pos hp] at J
    refine wa_aload_n dX0_take_0 rfl ?_
    refine wa_aload_n dX0_take_1 rfl ?_
    refine wa_getI dX0_take_2 fgX0_23 (by first | assumption | rfl) (by rfl) ?_
    refine wa_if_neF 12 dX0_take_5 (by decide) (by first | omega | (simp (disch := decide) only [r1m]; omega)) ?_
    refine wa_iload_n dX0_take_8 rfl ?_
    refine wa_goto 20 dX0_take_9 (by decide) ?_
    refine wa_putI dX0_take_20 fgX0_29 fw0_6 (by first | assumption | rfl) (by rfl) ?_
    refine wa_aload_n dX0_take_23 rfl ?_
    refine wa_aload_n dX0_take_24 rfl ?_
    refine wa_getI dX0_take_25 fgX0_23 (by first | assumption | rfl) (by rfl) ?_
    refine wa_if_neF 35 dX0_take_28 (by decide) (by first | omega | (simp (disch := decide) only [r1m]; omega)) ?_
    refine wa_iload_n dX0_take_31 rfl ?_
    refine wa_goto 43 dX0_take_32 (by decide) ?_
    refine wa_putI dX0_take_43 fgX0_38 fw0_7 (by first | assumption | rfl) (by rfl) ?_
    refine wa_aload_n dX0_take_46 rfl ?_
    refine wa_aload_n dX0_take_47 rfl ?_
    refine wa_getI dX0_take_48 fgX0_23 (by first | assumption | rfl) (by rfl) ?_
    refine wa_if_neF 58 dX0_take_51 (by decide) (by first | omega | (simp (disch := decide) only [r1m]; omega)) ?_
    refine wa_iload_n dX0_take_54 rfl ?_
    refine wa_goto 66 dX0_take_55 (by decide) ?_
    refine wa_putI dX0_take_66 fgX0_44 fw0_8 (by first | assumption | rfl) (by rfl) ?_
    refine wa_aload_n dX0_take_69 rfl ?_
    refine wa_aload_n dX0_take_70 rfl ?_
    refine wa_getI dX0_take_71 fgX0_23 (by first | assumption | rfl) (by rfl) ?_
    refine wa_if_neF 81 dX0_take_74 (by decide) (by first | omega | (simp (disch := decide) only [r1m]; omega)) ?_
    refine wa_iload_n dX0_take_77 rfl ?_
    refine wa_goto 89 dX0_take_78 (by decide) ?_
    refine wa_putI dX0_take_89 fgX0_47 fw0_9 (by first | assumption | rfl) (by rfl) ?_
    refine wa_aload_n dX0_take_92 rfl ?_
    first | refine wa_dupr dX0_take_93 ?_ | refine wa_dupi dX0_take_93 ?_
    refine wa_getI dX0_take_94 fgX0_23 (by first | assumption | rfl) (by rfl) ?_
    refine wa_iconst (nI 1) dX0_take_97 (by decide) ?_
    refine wa_iadd dX0_take_98 ?_
    refine wa_putI dX0_take_99 fgX0_23 fw0_4 (by first | assumption | rfl) (by rfl) ?_
    exact J
  · rw [mTake, if_neg hp] at J
    refine wa_aload_n dX0_take_0 rfl ?_
    refine wa_aload_n dX0_take_1 rfl ?_
    refine wa_getI dX0_take_2 fgX0_23 (by first | assumption | rfl) (by rfl) ?_
    refine wa_if_neT 12 dX0_take_5 (by decide) (by first | exact hp | (simp (disch := decide) only [r1m]; exact hp)) ?_
    refine wa_aload_n dX0_take_12 rfl ?_
    refine wa_getI dX0_take_13 fgX0_29 (by first | assumption | rfl) (by rfl) ?_
    refine wa_iload_n dX0_take_16 rfl ?_
    refine wa_mminI dX0_take_17 lmX0_32 (by omega) (Nat.le_of_ble_eq_true rfl) ?_
    refine wa_putI dX0_take_20 fgX0_29 fw0_6 (by first | assumption | rfl) (by rfl) ?_
    refine wa_aload_n dX0_take_23 rfl ?_
    refine wa_aload_n dX0_take_24 rfl ?_
    refine wa_getI dX0_take_25 fgX0_23 (by first | assumption | rfl) (by rfl) ?_
    refine wa_if_neT 35 dX0_take_28 (by decide) (by first | exact hp | (simp (disch := decide) only [r1m]; exact hp)) ?_
    refine wa_aload_n dX0_take_35 rfl ?_
    refine wa_getI dX0_take_36 fgX0_38 (by first | assumption | rfl) (by rfl) ?_
    refine wa_iload_n dX0_take_39 rfl ?_
    refine wa_mmaxI dX0_take_40 lmX0_41 (by omega) (Nat.le_of_ble_eq_true rfl) ?_
    refine wa_putI dX0_take_43 fgX0_38 fw0_7 (by first | assumption | rfl) (by rfl) ?_
    refine wa_aload_n dX0_take_46 rfl ?_
    refine wa_aload_n dX0_take_47 rfl ?_
    refine wa_getI dX0_take_48 fgX0_23 (by first | assumption | rfl) (by rfl) ?_
    refine wa_if_neT 58 dX0_take_51 (by decide) (by first | exact hp | (simp (disch := decide) only [r1m]; exact hp)) ?_
    refine wa_aload_n dX0_take_58 rfl ?_
    refine wa_getI dX0_take_59 fgX0_44 (by first | assumption | rfl) (by rfl) ?_
    refine wa_iload_n dX0_take_62 rfl ?_
    refine wa_mminI dX0_take_63 lmX0_32 (by omega) (Nat.le_of_ble_eq_true rfl) ?_
    refine wa_putI dX0_take_66 fgX0_44 fw0_8 (by first | assumption | rfl) (by rfl) ?_
    refine wa_aload_n dX0_take_69 rfl ?_
    refine wa_aload_n dX0_take_70 rfl ?_
    refine wa_getI dX0_take_71 fgX0_23 (by first | assumption | rfl) (by rfl) ?_
    refine wa_if_neT 81 dX0_take_74 (by decide) (by first | exact hp | (simp (disch := decide) only [r1m]; exact hp)) ?_
    refine wa_aload_n dX0_take_81 rfl ?_
    refine wa_getI dX0_take_82 fgX0_47 (by first | assumption | rfl) (by rfl) ?_
    refine wa_iload_n dX0_take_85 rfl ?_
    refine wa_mmaxI dX0_take_86 lmX0_41 (by omega) (Nat.le_of_ble_eq_true rfl) ?_
    refine wa_putI dX0_take_89 fgX0_47 fw0_9 (by first | assumption | rfl) (by rfl) ?_
    refine wa_aload_n dX0_take_92 rfl ?_
    first | refine wa_dupr dX0_take_93 ?_ | refine wa_dupi dX0_take_93 ?_
    refine wa_getI dX0_take_94 fgX0_23 (by first | assumption | rfl) (by rfl) ?_
    refine wa_iconst (nI 1) dX0_take_97 (by decide) ?_
    refine wa_iadd dX0_take_98 ?_
    refine wa_putI dX0_take_99 fgX0_23 fw0_4 (by first | assumption | rfl) (by rfl) ?_
    exact J
theorem wp_X4_begin {d : Nat} {a b c : Int32} {μ : Mem} {Q : QM} (hQ : Q none (sI (sI (sI (sI (sI (sI (sI μ 4 0 a) 4 1 b) 4 2 c) 4 3 (nI 0)) 4 4 (nI 0)) 4 5 (nI 0)) 4 6 (nI 0))) : MW kX4_begin d [.ref 4, .int a, .int b, .int c] μ Q := by
  refine MW_of (by decide) [some (.ref 4), some (.int a), some (.int b), some (.int c)] rfl (Nat.le_of_ble_eq_true rfl) ?_
  refine wa_aload_n dX4_begin_0 rfl ?_
  refine wa_iload_n dX4_begin_1 rfl ?_
  refine wa_putI dX4_begin_2 fgX4_7 fw4_0 (by first | assumption | rfl) (by rfl) ?_
  refine wa_aload_n dX4_begin_5 rfl ?_
  refine wa_iload_n dX4_begin_6 rfl ?_
  refine wa_putI dX4_begin_7 fgX4_13 fw4_1 (by first | assumption | rfl) (by rfl) ?_
  refine wa_aload_n dX4_begin_10 rfl ?_
  refine wa_iload_n dX4_begin_11 rfl ?_
  refine wa_putI dX4_begin_12 fgX4_16 fw4_2 (by first | assumption | rfl) (by rfl) ?_
  refine wa_aload_n dX4_begin_15 rfl ?_
  refine wa_iconst (nI 0) dX4_begin_16 (by decide) ?_
  refine wa_putI dX4_begin_17 fgX4_19 fw4_3 (by first | assumption | rfl) (by rfl) ?_
  refine wa_aload_n dX4_begin_20 rfl ?_
  refine wa_iconst (nI 0) dX4_begin_21 (by decide) ?_
  refine wa_putI dX4_begin_22 fgX4_22 fw4_4 (by first | assumption | rfl) (by rfl) ?_
  refine wa_aload_n dX4_begin_25 rfl ?_
  refine wa_iconst (nI 0) dX4_begin_26 (by decide) ?_
  refine wa_putI dX4_begin_27 fgX4_25 fw4_5 (by first | assumption | rfl) (by rfl) ?_
  refine wa_aload_n dX4_begin_30 rfl ?_
  refine wa_iconst (nI 0) dX4_begin_31 (by decide) ?_
  refine wa_putI dX4_begin_32 fgX4_28 fw4_6 (by first | assumption | rfl) (by rfl) ?_
  refine wa_vret dX4_begin_35 rfl ?_
  exact hQ
theorem wp_X4_state {d : Nat} {μ : Mem} {Q : QM} (hQ : Q (some (.int (μ.1 4 3))) μ) : MW kX4_state d [.ref 4] μ Q := by
  refine MW_of (by decide) [some (.ref 4)] rfl (Nat.le_of_ble_eq_true rfl) ?_
  refine wa_aload_n dX4_state_0 rfl ?_
  refine wa_getI dX4_state_1 fgX4_19 (by first | assumption | rfl) (by rfl) ?_
  refine wa_iret dX4_state_4 rfl ?_
  exact hQ
theorem wp_X4_heard {d : Nat} {μ : Mem} {Q : QM} (hQ : Q (some (.int (μ.1 4 4))) μ) : MW kX4_heard d [.ref 4] μ Q := by
  refine MW_of (by decide) [some (.ref 4)] rfl (Nat.le_of_ble_eq_true rfl) ?_
  refine wa_aload_n dX4_heard_0 rfl ?_
  refine wa_getI dX4_heard_1 fgX4_22 (by first | assumption | rfl) (by rfl) ?_
  refine wa_iret dX4_heard_4 rfl ?_
  exact hQ
theorem wp_X4_changes {d : Nat} {μ : Mem} {Q : QM} (hQ : Q (some (.int (μ.1 4 5))) μ) : MW kX4_changes d [.ref 4] μ Q := by
  refine MW_of (by decide) [some (.ref 4)] rfl (Nat.le_of_ble_eq_true rfl) ?_
  refine wa_aload_n dX4_changes_0 rfl ?_
  refine wa_getI dX4_changes_1 fgX4_25 (by first | assumption | rfl) (by rfl) ?_
  refine wa_iret dX4_changes_4 rfl ?_
  exact hQ
def wNx (v on off st : Int32) : Int32 := if on.toInt ≤ v.toInt then nI 1 else if v.toInt ≤ off.toInt then nI 0 else st
theorem wp_X4_take {d : Nat} {v : Int32} {μ : Mem} {Q : QM}
    (hA : ¬ (wNx v (μ.1 4 0) (μ.1 4 1) (μ.1 4 3)).toInt = (μ.1 4 3).toInt → ¬ (0 < (μ.1 4 5).toInt ∧ (μ.1 4 4 + nI 1 - μ.1 4 6).toInt ≤ (μ.1 4 2).toInt) → Q none (sI (sI (sI (sI μ 4 4 (μ.1 4 4 + nI 1)) 4 3 (wNx v (μ.1 4 0) (μ.1 4 1) (μ.1 4 3))) 4 5 (μ.1 4 5 + nI 1)) 4 6 (μ.1 4 4 + nI 1)))
    (hB : ((wNx v (μ.1 4 0) (μ.1 4 1) (μ.1 4 3)).toInt = (μ.1 4 3).toInt ∨ (0 < (μ.1 4 5).toInt ∧ (μ.1 4 4 + nI 1 - μ.1 4 6).toInt ≤ (μ.1 4 2).toInt)) → Q none (sI μ 4 4 (μ.1 4 4 + nI 1))) : MW kX4_take d [.ref 4, .int v] μ Q := by
  refine MW_of (by decide) [some (.ref 4), some (.int v), none, none] rfl (Nat.le_of_ble_eq_true rfl) ?_
  have J1 : ∀ b : Int32, (b = nI 1 ∧ (0 < (μ.1 4 5).toInt ∧ (μ.1 4 4 + nI 1 - μ.1 4 6).toInt ≤ (μ.1 4 2).toInt)) ∨ (b = nI 0 ∧ ¬ (0 < (μ.1 4 5).toInt ∧ (μ.1 4 4 + nI 1 - μ.1 4 6).toInt ≤ (μ.1 4 2).toInt)) → WA kX4_take d Q 68 [some (.ref 4), some (.int v), some (.int (wNx v (μ.1 4 0) (μ.1 4 1) (μ.1 4 3))), some (.int b)] [] (sI μ 4 4 (μ.1 4 4 + nI 1)) := by
    intro b hb
    refine wa_iload_n dX4_take_68 rfl ?_
    refine wa_aload_n dX4_take_69 rfl ?_
    refine wa_getI dX4_take_70 fgX4_19 (by first | assumption | rfl) (by rfl) ?_
    refine wa_ic_eq 103 dX4_take_73 (by decide) (fun c73_1 => ?_) (fun c73_1 => ?_)
    · try simp (disch := omega) only [nI_toInt, r1m] at c73_1
      refine wa_vret dX4_take_103 rfl ?_
      exact hB (Or.inl (by assumption))
    · try simp (disch := omega) only [nI_toInt, r1m] at c73_1
      refine wa_iload_n dX4_take_76 rfl ?_
      refine wa_if_ne 103 dX4_take_77 (by decide) (fun c77_2 => ?_) (fun c77_2 => ?_)
      · try simp (disch := omega) only [nI_toInt, r1m] at c77_2
        refine wa_vret dX4_take_103 rfl ?_
        rcases hb with ⟨hb, hh⟩ | ⟨hb, hh⟩
        · exact hB (Or.inr hh)
        · exact absurd (show b.toInt = 0 by rw [hb]; decide) (by assumption)
      · try simp (disch := omega) only [nI_toInt, r1m] at c77_2
        refine wa_aload_n dX4_take_80 rfl ?_
        refine wa_iload_n dX4_take_81 rfl ?_
        refine wa_putI dX4_take_82 fgX4_19 fw4_3 (by first | assumption | rfl) (by rfl) ?_
        refine wa_aload_n dX4_take_85 rfl ?_
        first | refine wa_dupr dX4_take_86 ?_ | refine wa_dupi dX4_take_86 ?_
        refine wa_getI dX4_take_87 fgX4_25 (by first | assumption | rfl) (by rfl) ?_
        refine wa_iconst (nI 1) dX4_take_90 (by decide) ?_
        refine wa_iadd dX4_take_91 ?_
        refine wa_putI dX4_take_92 fgX4_25 fw4_5 (by first | assumption | rfl) (by rfl) ?_
        refine wa_aload_n dX4_take_95 rfl ?_
        refine wa_aload_n dX4_take_96 rfl ?_
        refine wa_getI dX4_take_97 fgX4_22 (by first | assumption | rfl) (by rfl) ?_
        refine wa_putI dX4_take_100 fgX4_28 fw4_6 (by first | assumption | rfl) (by rfl) ?_
        refine wa_vret dX4_take_103 rfl ?_
        rcases hb with ⟨hb, hh⟩ | ⟨hb, hh⟩
        · exact absurd (show ¬ b.toInt = 0 by rw [hb]; decide) c77_2
        · simp (disch := decide) only [r1m, r1e]
          exact hA (by assumption) hh
  have J : WA kX4_take d Q 38 [some (.ref 4), some (.int v), none, none] [.int (wNx v (μ.1 4 0) (μ.1 4 1) (μ.1 4 3))] (sI μ 4 4 (μ.1 4 4 + nI 1)) := by
    refine wa_istore_n dX4_take_38 (by decide) ?_
    refine wa_aload_n dX4_take_39 rfl ?_
    refine wa_getI dX4_take_40 fgX4_25 (by first | assumption | rfl) (by rfl) ?_
    refine wa_if_le 66 dX4_take_43 (by decide) (fun c43_1 => ?_) (fun c43_1 => ?_)
    · try simp (disch := omega) only [nI_toInt, r1m, r1e] at c43_1
      refine wa_iconst (nI 0) dX4_take_66 (by decide) ?_
      refine wa_istore_n dX4_take_67 (by decide) ?_
      exact J1 _ (Or.inr ⟨rfl, by omega⟩)
    · try simp (disch := omega) only [nI_toInt, r1m, r1e] at c43_1
      refine wa_aload_n dX4_take_46 rfl ?_
      refine wa_getI dX4_take_47 fgX4_22 (by first | assumption | rfl) (by rfl) ?_
      refine wa_aload_n dX4_take_50 rfl ?_
      refine wa_getI dX4_take_51 fgX4_28 (by first | assumption | rfl) (by rfl) ?_
      refine wa_isub dX4_take_54 ?_
      refine wa_aload_n dX4_take_55 rfl ?_
      refine wa_getI dX4_take_56 fgX4_16 (by first | assumption | rfl) (by rfl) ?_
      refine wa_ic_gt 66 dX4_take_59 (by decide) (fun c59_2 => ?_) (fun c59_2 => ?_)
      · try simp (disch := omega) only [nI_toInt, r1m, r1e] at c59_2
        refine wa_iconst (nI 0) dX4_take_66 (by decide) ?_
        refine wa_istore_n dX4_take_67 (by decide) ?_
        exact J1 _ (Or.inr ⟨rfl, by omega⟩)
      · try simp (disch := omega) only [nI_toInt, r1m, r1e] at c59_2
        refine wa_iconst (nI 1) dX4_take_62 (by decide) ?_
        refine wa_goto 67 dX4_take_63 (by decide) ?_
        refine wa_istore_n dX4_take_67 (by decide) ?_
        exact J1 _ (Or.inl ⟨rfl, by omega⟩)
  refine wa_aload_n dX4_take_0 rfl ?_
  first | refine wa_dupr dX4_take_1 ?_ | refine wa_dupi dX4_take_1 ?_
  refine wa_getI dX4_take_2 fgX4_22 (by first | assumption | rfl) (by rfl) ?_
  refine wa_iconst (nI 1) dX4_take_5 (by decide) ?_
  refine wa_iadd dX4_take_6 ?_
  refine wa_putI dX4_take_7 fgX4_22 fw4_4 (by first | assumption | rfl) (by rfl) ?_
  refine wa_iload_n dX4_take_10 rfl ?_
  refine wa_aload_n dX4_take_11 rfl ?_
  refine wa_getI dX4_take_12 fgX4_7 (by first | assumption | rfl) (by rfl) ?_
  refine wa_ic_lt 22 dX4_take_15 (by decide) (fun c15_1 => ?_) (fun c15_1 => ?_)
  · try simp (disch := omega) only [nI_toInt, r1m] at c15_1
    refine wa_iload_n dX4_take_22 rfl ?_
    refine wa_aload_n dX4_take_23 rfl ?_
    refine wa_getI dX4_take_24 fgX4_13 (by first | assumption | rfl) (by rfl) ?_
    refine wa_ic_gt 34 dX4_take_27 (by decide) (fun c27_2 => ?_) (fun c27_2 => ?_)
    · try simp (disch := omega) only [nI_toInt, r1m] at c27_2
      refine wa_aload_n dX4_take_34 rfl ?_
      refine wa_getI dX4_take_35 fgX4_19 (by first | assumption | rfl) (by rfl) ?_
      rw [wNx, if_neg (by omega), if_neg (by omega)] at J; rw [r1m (by decide)]; exact J
    · try simp (disch := omega) only [nI_toInt, r1m] at c27_2
      refine wa_iconst (nI 0) dX4_take_30 (by decide) ?_
      refine wa_goto 38 dX4_take_31 (by decide) ?_
      rw [wNx, if_neg (by omega), if_pos (by omega)] at J; exact J
  · try simp (disch := omega) only [nI_toInt, r1m] at c15_1
    refine wa_iconst (nI 1) dX4_take_18 (by decide) ?_
    refine wa_goto 38 dX4_take_19 (by decide) ?_
    rw [wNx, if_pos (by omega)] at J; exact J
end
section
/-! SHEETS of the class -/
theorem isS_mod {t : Nat} (h : isS t) : t % 4 = 3 ∧ 7 ≤ t ∧ t ≤ 39 := by
  obtain ⟨k, h1, h2⟩ := h
  omega
theorem isR_mod {t : Nat} (h : isR t) : t % 5 = 3 ∧ 43 ≤ t ∧ t ≤ 68 := by
  obtain ⟨k, h1, h2⟩ := h
  omega
theorem le_nI {a b : Nat} (h : a ≤ b) (hb : b < 2 ^ 31) : (nI a).toInt ≤ (nI b).toInt := by
  rw [nI_toInt hb, nI_toInt (by omega)]; omega
theorem nle_nI {a b : Nat} (h : b < a) (ha : a < 2 ^ 31) : ¬ (nI a).toInt ≤ (nI b).toInt := by
  rw [nI_toInt ha, nI_toInt (by omega)]; omega
theorem lt_nI {a b : Nat} (h : a < b) (hb : b < 2 ^ 31) : (nI a).toInt < (nI b).toInt := by
  rw [nI_toInt hb, nI_toInt (by omega)]; omega
theorem nlt_nI {a b : Nat} (h : b ≤ a) (ha : a < 2 ^ 31) : ¬ (nI a).toInt < (nI b).toInt := by
  rw [nI_toInt ha, nI_toInt (by omega)]; omega
/-- an int within 0 .. n - 1 is nI of a natural -/
theorem nI_ex {x : Int32} {n : Nat} (h0 : 0 ≤ x.toInt) (h1 : x.toInt < n) (hn : n < 2 ^ 31) : ∃ j, j < n ∧ x = nI j := by
  refine ⟨x.toInt.toNat, by omega, ?_⟩
  apply Int32.toInt_inj.mp
  rw [nI_toInt (by omega)]
  omega
theorem nI_0z : (nI 0).toInt = 0 := by decide
theorem nI_1z : (nI 1).toInt = 1 := by decide
theorem nI_2z : (nI 2).toInt = 2 := by decide
theorem wp_X3_begin {d t : Nat} {so n : Int32} {μ : Mem} {Q : QM} (ht : isS t) (hd : 1 ≤ d) (hQ : Q none (bI (bI (sI (sI (sI μ t 0 (nI 1)) t 1 so) t 2 n) (t + 1) (fillF (μ.1 (t + 1)) (nI 0) 64)) (t + 2) (fillF (μ.1 (t + 2)) (nI 1) 64))) : MW kX3_begin d [.ref t, .int so, .int n] μ Q := by
  obtain ⟨hs0t, hs1t, hs2t, hs3t⟩ := isS_sh ht
  have hmt := isS_mod ht
  refine MW_of (by decide) [some (.ref t), some (.int so), some (.int n)] rfl (Nat.le_of_ble_eq_true rfl) ?_
  refine wa_aload_n dX3_begin_0 rfl ?_
  refine wa_iconst (nI 1) dX3_begin_1 (by decide) ?_
  refine wa_putZ dX3_begin_2 fgX3_22 fw3_0 (by first | assumption | rfl) (by rfl) (Or.inr rfl) ?_
  refine wa_aload_n dX3_begin_5 rfl ?_
  refine wa_iload_n dX3_begin_6 rfl ?_
  refine wa_putI dX3_begin_7 fgX3_26 fw3_1 (by first | assumption | rfl) (by rfl) ?_
  refine wa_aload_n dX3_begin_10 rfl ?_
  refine wa_iload_n dX3_begin_11 rfl ?_
  refine wa_putI dX3_begin_12 fgX3_30 fw3_2 (by first | assumption | rfl) (by rfl) ?_
  refine wa_aload_n dX3_begin_15 rfl ?_
  refine wa_getR dX3_begin_16 fgX3_9 (by first | assumption | rfl) (by rfl) ?_
  refine wa_iconst (nI 0) dX3_begin_19 (by decide) ?_
  refine wa_callS2 (k' := kJ7_fill_53178) (d' := _) dX3_begin_20 lmX3_33 ksJ7_fill_53178 (by decide) (by omega) (Nat.le_of_ble_eq_true rfl) ?_
  refine wp_fill (by assumption) ?_
  refine wa_aload_n dX3_begin_23 rfl ?_
  refine wa_getR dX3_begin_24 fgX3_15 (by first | assumption | rfl) (by rfl) ?_
  refine wa_iconst (nI 1) dX3_begin_27 (by decide) ?_
  refine wa_callS2 (k' := kJ7_fill_53178) (d' := _) dX3_begin_28 lmX3_33 ksJ7_fill_53178 (by decide) (by omega) (Nat.le_of_ble_eq_true rfl) ?_
  refine wp_fill (by assumption) ?_
  refine wa_vret dX3_begin_31 rfl ?_
  simp (disch := omega) only [sI_off, bI_off]; exact hQ
theorem wp_X3_end {d t : Nat} {μ : Mem} {Q : QM} (ht : isS t) (hQ : Q (some (.int (μ.1 t 2))) (sI μ t 0 (nI 0))) : MW kX3_end d [.ref t] μ Q := by
  obtain ⟨hs0t, hs1t, hs2t, hs3t⟩ := isS_sh ht
  have hmt := isS_mod ht
  refine MW_of (by decide) [some (.ref t)] rfl (Nat.le_of_ble_eq_true rfl) ?_
  refine wa_aload_n dX3_end_0 rfl ?_
  refine wa_iconst (nI 0) dX3_end_1 (by decide) ?_
  refine wa_putZ dX3_end_2 fgX3_22 fw3_0 (by first | assumption | rfl) (by rfl) (Or.inl rfl) ?_
  refine wa_aload_n dX3_end_5 rfl ?_
  refine wa_getI dX3_end_6 fgX3_30 (by first | assumption | rfl) (by rfl) ?_
  refine wa_iret dX3_end_9 rfl ?_
  rw [r1m (by decide)]; exact hQ
theorem wp_X3_isThere {d t : Nat} {μ : Mem} {Q : QM} (ht : isS t) (hb : μ.1 t 0 = nI 0 ∨ μ.1 t 0 = nI 1) (h1 : μ.1 t 0 = nI 1 → Q (some (.int (nI 1))) μ) (h0 : μ.1 t 0 = nI 0 → Q (some (.int (nI 0))) μ) : MW kX3_isThere d [.ref t] μ Q := by
  obtain ⟨hs0t, hs1t, hs2t, hs3t⟩ := isS_sh ht
  have hmt := isS_mod ht
  refine MW_of (by decide) [some (.ref t)] rfl (Nat.le_of_ble_eq_true rfl) ?_
  refine wa_aload_n dX3_isThere_0 rfl ?_
  refine wa_getI dX3_isThere_1 fgX3_22 (by first | assumption | rfl) (by rfl) ?_
  refine wa_zret dX3_isThere_4 rfl (by rcases hb with h | h <;> rw [h] <;> decide) ?_
  rcases hb with h | h
  · rw [h]; exact h0 h
  · rw [h]; exact h1 h
theorem wp_X3_sort {d t : Nat} {μ : Mem} {Q : QM} (ht : isS t) (hQ : Q (some (.int (μ.1 t 1))) μ) : MW kX3_sort d [.ref t] μ Q := by
  obtain ⟨hs0t, hs1t, hs2t, hs3t⟩ := isS_sh ht
  have hmt := isS_mod ht
  refine MW_of (by decide) [some (.ref t)] rfl (Nat.le_of_ble_eq_true rfl) ?_
  refine wa_aload_n dX3_sort_0 rfl ?_
  refine wa_getI dX3_sort_1 fgX3_26 (by first | assumption | rfl) (by rfl) ?_
  refine wa_iret dX3_sort_4 rfl ?_
  exact hQ
theorem wp_X3_size {d t : Nat} {μ : Mem} {Q : QM} (ht : isS t) (hQ : Q (some (.int (μ.1 t 2))) μ) : MW kX3_size d [.ref t] μ Q := by
  obtain ⟨hs0t, hs1t, hs2t, hs3t⟩ := isS_sh ht
  have hmt := isS_mod ht
  refine MW_of (by decide) [some (.ref t)] rfl (Nat.le_of_ble_eq_true rfl) ?_
  refine wa_aload_n dX3_size_0 rfl ?_
  refine wa_getI dX3_size_1 fgX3_30 (by first | assumption | rfl) (by rfl) ?_
  refine wa_iret dX3_size_4 rfl ?_
  exact hQ
theorem wp_X3_has {d t n : Nat} {i : Int32} {μ : Mem} {Q : QM} (ht : isS t) (hn : μ.1 t 2 = nI n) (hn64 : n ≤ 64) (h1 : ∀ j, j < n → i = nI j → Q (some (.int (nI 1))) μ) (h0 : (i.toInt < 0 ∨ (n : Int) ≤ i.toInt) → Q (some (.int (nI 0))) μ) : MW kX3_has d [.ref t, .int i] μ Q := by
  obtain ⟨hs0t, hs1t, hs2t, hs3t⟩ := isS_sh ht
  have hmt := isS_mod ht
  refine MW_of (by decide) [some (.ref t), some (.int i)] rfl (Nat.le_of_ble_eq_true rfl) ?_
  refine wa_iload_n dX3_has_0 rfl ?_
  refine wa_if_lt 16 dX3_has_1 (by decide) (fun c1_1 => ?_) (fun c1_1 => ?_)
  · try simp (disch := omega) only [nI_toInt, hn] at c1_1
    refine wa_iconst (nI 0) dX3_has_16 (by decide) ?_
    refine wa_zret dX3_has_17 rfl (by decide) ?_
    exact h0 (by omega)
  · try simp (disch := omega) only [nI_toInt, hn] at c1_1
    refine wa_iload_n dX3_has_4 rfl ?_
    refine wa_aload_n dX3_has_5 rfl ?_
    refine wa_getI dX3_has_6 fgX3_30 (by first | assumption | rfl) (by rfl) ?_
    refine wa_ic_ge 16 dX3_has_9 (by decide) (fun c9_2 => ?_) (fun c9_2 => ?_)
    · try simp (disch := omega) only [nI_toInt, hn] at c9_2
      refine wa_iconst (nI 0) dX3_has_16 (by decide) ?_
      refine wa_zret dX3_has_17 rfl (by decide) ?_
      exact h0 (by omega)
    · try simp (disch := omega) only [nI_toInt, hn] at c9_2
      refine wa_iconst (nI 1) dX3_has_12 (by decide) ?_
      refine wa_goto 17 dX3_has_13 (by decide) ?_
      refine wa_zret dX3_has_17 rfl (by decide) ?_
      obtain ⟨j, hj, e⟩ := nI_ex (x := i) (n := n) (by omega) (by omega) (by omega)
      exact h1 j hj e
theorem wp_X3_hasStretch {d t n : Nat} {i m : Int32} {μ : Mem} {Q : QM} (ht : isS t) (hn : μ.1 t 2 = nI n) (hn64 : n ≤ 64) (hm : 0 ≤ m.toInt) (h1 : ∀ a q, i = nI a → m = nI q → a + q ≤ n → Q (some (.int (nI 1))) μ) (h0 : (i.toInt < 0 ∨ (n : Int) < i.toInt + m.toInt) → Q (some (.int (nI 0))) μ) : MW kX3_hasStretch d [.ref t, .int i, .int m] μ Q := by
  obtain ⟨hs0t, hs1t, hs2t, hs3t⟩ := isS_sh ht
  have hmt := isS_mod ht
  refine MW_of (by decide) [some (.ref t), some (.int i), some (.int m)] rfl (Nat.le_of_ble_eq_true rfl) ?_
  refine wa_iload_n dX3_hasStretch_0 rfl ?_
  refine wa_if_lt 26 dX3_hasStretch_1 (by decide) (fun c1_1 => ?_) (fun c1_1 => ?_)
  · try simp (disch := omega) only [nI_toInt, hn] at c1_1
    refine wa_iconst (nI 0) dX3_hasStretch_26 (by decide) ?_
    refine wa_zret dX3_hasStretch_27 rfl (by decide) ?_
    exact h0 (by omega)
  · try simp (disch := omega) only [nI_toInt, hn] at c1_1
    refine wa_iload_n dX3_hasStretch_4 rfl ?_
    refine wa_aload_n dX3_hasStretch_5 rfl ?_
    refine wa_getI dX3_hasStretch_6 fgX3_30 (by first | assumption | rfl) (by rfl) ?_
    refine wa_ic_gt 26 dX3_hasStretch_9 (by decide) (fun c9_2 => ?_) (fun c9_2 => ?_)
    · try simp (disch := omega) only [nI_toInt, hn] at c9_2
      refine wa_iconst (nI 0) dX3_hasStretch_26 (by decide) ?_
      refine wa_zret dX3_hasStretch_27 rfl (by decide) ?_
      exact h0 (by omega)
    · try simp (disch := omega) only [nI_toInt, hn] at c9_2
      refine wa_iload_n dX3_hasStretch_12 rfl ?_
      refine wa_aload_n dX3_hasStretch_13 rfl ?_
      refine wa_getI dX3_hasStretch_14 fgX3_30 (by first | assumption | rfl) (by rfl) ?_
      refine wa_iload_n dX3_hasStretch_17 rfl ?_
      refine wa_isub dX3_hasStretch_18 ?_
      refine wa_ic_gt 26 dX3_hasStretch_19 (by decide) (fun c19_3 => ?_) (fun c19_3 => ?_)
      · try simp (disch := omega) only [nI_toInt, hn] at c19_3
        refine wa_iconst (nI 0) dX3_hasStretch_26 (by decide) ?_
        refine wa_zret dX3_hasStretch_27 rfl (by decide) ?_
        obtain ⟨a, ha, rfl⟩ := nI_ex (x := i) (n := n + 1) (by omega) (by omega) (by omega)
        rw [pk_sub (by omega), nI_toInt (by omega)] at c19_3
        rw [nI_toInt (by omega)] at h0
        exact h0 (by omega)
      · try simp (disch := omega) only [nI_toInt, hn] at c19_3
        refine wa_iconst (nI 1) dX3_hasStretch_22 (by decide) ?_
        refine wa_goto 27 dX3_hasStretch_23 (by decide) ?_
        refine wa_zret dX3_hasStretch_27 rfl (by decide) ?_
        obtain ⟨a, ha, rfl⟩ := nI_ex (x := i) (n := n + 1) (by omega) (by omega) (by omega)
        rw [pk_sub (by omega), nI_toInt (by omega)] at c19_3
        obtain ⟨q, hq, rfl⟩ := nI_ex (x := m) (n := n + 1) (by omega) (by omega) (by omega)
        rw [nI_toInt (by omega)] at c19_3
        exact h1 a q rfl rfl (by omega)
/-- what fits a SORT -/
def fitsP (s v : Int) : Prop := (s = 0 → -128 ≤ v ∧ v ≤ 127) ∧ (s = 1 → -32768 ≤ v ∧ v ≤ 32767)
theorem wp_X3_fits {d t : Nat} {v : Int32} {μ : Mem} {Q : QM} (ht : isS t) (hs : μ.1 t 1 = nI 0 ∨ μ.1 t 1 = nI 1 ∨ μ.1 t 1 = nI 2) (h1 : fitsP (μ.1 t 1).toInt v.toInt → Q (some (.int (nI 1))) μ) (h0 : ¬ fitsP (μ.1 t 1).toInt v.toInt → Q (some (.int (nI 0))) μ) : MW kX3_fits d [.ref t, .int v] μ Q := by
  obtain ⟨hs0t, hs1t, hs2t, hs3t⟩ := isS_sh ht
  have hmt := isS_mod ht
  refine MW_of (by decide) [some (.ref t), some (.int v)] rfl (Nat.le_of_ble_eq_true rfl) ?_
  have e1 : (-128 : Int32).toInt = -128 := by decide
  have e2 : (-32768 : Int32).toInt = -32768 := by decide
  unfold fitsP at h1 h0
  rcases hs with hs | hs | hs
  · rw [hs, nI_0z] at h1 h0
    refine wa_aload_n dX3_fits_0 rfl ?_
    refine wa_getI dX3_fits_1 fgX3_26 (by first | assumption | rfl) (by rfl) ?_
    refine wa_ls (off := 28) 32 dX3_fits_4 (by decide) (by rw [hs]; decide) (by decide) ?_
    refine wa_iload_n dX3_fits_32 rfl ?_
    refine wa_bipush (-128) dX3_fits_33 (by decide) ?_
    refine wa_ic_lt 48 dX3_fits_35 (by decide) (fun c35_1 => ?_) (fun c35_1 => ?_)
    · try simp (disch := omega) only [nI_toInt, e1] at c35_1
      refine wa_iconst (nI 0) dX3_fits_48 (by decide) ?_
      refine wa_zret dX3_fits_49 rfl (by decide) ?_
      exact h0 (by omega)
    · try simp (disch := omega) only [nI_toInt, e1] at c35_1
      refine wa_iload_n dX3_fits_38 rfl ?_
      refine wa_bipush (nI 127) dX3_fits_39 (by decide) ?_
      refine wa_ic_gt 48 dX3_fits_41 (by decide) (fun c41_2 => ?_) (fun c41_2 => ?_)
      · try simp (disch := omega) only [nI_toInt, e1] at c41_2
        refine wa_iconst (nI 0) dX3_fits_48 (by decide) ?_
        refine wa_zret dX3_fits_49 rfl (by decide) ?_
        exact h0 (by omega)
      · try simp (disch := omega) only [nI_toInt, e1] at c41_2
        refine wa_iconst (nI 1) dX3_fits_44 (by decide) ?_
        refine wa_goto 49 dX3_fits_45 (by decide) ?_
        refine wa_zret dX3_fits_49 rfl (by decide) ?_
        exact h1 (by omega)
  · rw [hs, nI_1z] at h1 h0
    refine wa_aload_n dX3_fits_0 rfl ?_
    refine wa_getI dX3_fits_1 fgX3_26 (by first | assumption | rfl) (by rfl) ?_
    refine wa_ls (off := 46) 50 dX3_fits_4 (by decide) (by rw [hs]; decide) (by decide) ?_
    refine wa_iload_n dX3_fits_50 rfl ?_
    refine wa_sipush (-32768) dX3_fits_51 (by decide) ?_
    refine wa_ic_lt 68 dX3_fits_54 (by decide) (fun c54_1 => ?_) (fun c54_1 => ?_)
    · try simp (disch := omega) only [nI_toInt, e2] at c54_1
      refine wa_iconst (nI 0) dX3_fits_68 (by decide) ?_
      refine wa_zret dX3_fits_69 rfl (by decide) ?_
      exact h0 (by omega)
    · try simp (disch := omega) only [nI_toInt, e2] at c54_1
      refine wa_iload_n dX3_fits_57 rfl ?_
      refine wa_sipush (nI 32767) dX3_fits_58 (by decide) ?_
      refine wa_ic_gt 68 dX3_fits_61 (by decide) (fun c61_2 => ?_) (fun c61_2 => ?_)
      · try simp (disch := omega) only [nI_toInt, e2] at c61_2
        refine wa_iconst (nI 0) dX3_fits_68 (by decide) ?_
        refine wa_zret dX3_fits_69 rfl (by decide) ?_
        exact h0 (by omega)
      · try simp (disch := omega) only [nI_toInt, e2] at c61_2
        refine wa_iconst (nI 1) dX3_fits_64 (by decide) ?_
        refine wa_goto 69 dX3_fits_65 (by decide) ?_
        refine wa_zret dX3_fits_69 rfl (by decide) ?_
        exact h1 (by omega)
  · rw [hs, nI_2z] at h1 h0
    refine wa_aload_n dX3_fits_0 rfl ?_
    refine wa_getI dX3_fits_1 fgX3_26 (by first | assumption | rfl) (by rfl) ?_
    refine wa_ls (off := 66) 70 dX3_fits_4 (by decide) (by rw [hs]; decide) (by decide) ?_
    refine wa_iconst (nI 1) dX3_fits_70 (by decide) ?_
    refine wa_zret dX3_fits_71 rfl (by decide) ?_
    exact h1 (by omega)
theorem wp_X3_tell {d t j : Nat} {v : Int32} {μ : Mem} {Q : QM} (ht : isS t) (hj : j < 64) (hQ : Q none (sI (sI μ (t + 1) j v) (t + 2) j (nI 1))) : MW kX3_tell d [.ref t, .int (nI j), .int v] μ Q := by
  obtain ⟨hs0t, hs1t, hs2t, hs3t⟩ := isS_sh ht
  have hmt := isS_mod ht
  refine MW_of (by decide) [some (.ref t), some (.int (nI j)), some (.int v)] rfl (Nat.le_of_ble_eq_true rfl) ?_
  refine wa_aload_n dX3_tell_0 rfl ?_
  refine wa_getR dX3_tell_1 fgX3_9 (by first | assumption | rfl) (by rfl) ?_
  refine wa_iload_n dX3_tell_4 rfl ?_
  refine wa_iload_n dX3_tell_5 rfl ?_
  refine wa_iast _ dX3_tell_6 (by first | assumption | rfl) (by first | with_reducible rfl | with_reducible assumption | with_reducible exact ix_ma _ _ _ | with_reducible exact ix_maa _ _ _ _ | with_reducible exact ix_a _ _ | with_reducible exact ix_mama _ _ _ _ _) (by omega) ?_
  refine wa_aload_n dX3_tell_7 rfl ?_
  refine wa_getR dX3_tell_8 fgX3_15 (by first | assumption | rfl) (by rfl) ?_
  refine wa_iload_n dX3_tell_11 rfl ?_
  refine wa_iconst (nI 1) dX3_tell_12 (by decide) ?_
  refine wa_iast _ dX3_tell_13 (by first | assumption | rfl) (by first | with_reducible rfl | with_reducible assumption | with_reducible exact ix_ma _ _ _ | with_reducible exact ix_maa _ _ _ _ | with_reducible exact ix_a _ _ | with_reducible exact ix_mama _ _ _ _ _) (by omega) ?_
  refine wa_vret dX3_tell_14 rfl ?_
  exact hQ
theorem wp_X3_forget {d t j : Nat} {μ : Mem} {Q : QM} (ht : isS t) (hj : j < 64) (hQ : Q none (sI (sI μ (t + 1) j (nI 0)) (t + 2) j (nI 0))) : MW kX3_forget d [.ref t, .int (nI j)] μ Q := by
  obtain ⟨hs0t, hs1t, hs2t, hs3t⟩ := isS_sh ht
  have hmt := isS_mod ht
  refine MW_of (by decide) [some (.ref t), some (.int (nI j))] rfl (Nat.le_of_ble_eq_true rfl) ?_
  refine wa_aload_n dX3_forget_0 rfl ?_
  refine wa_getR dX3_forget_1 fgX3_9 (by first | assumption | rfl) (by rfl) ?_
  refine wa_iload_n dX3_forget_4 rfl ?_
  refine wa_iconst (nI 0) dX3_forget_5 (by decide) ?_
  refine wa_iast _ dX3_forget_6 (by first | assumption | rfl) (by first | with_reducible rfl | with_reducible assumption | with_reducible exact ix_ma _ _ _ | with_reducible exact ix_maa _ _ _ _ | with_reducible exact ix_a _ _ | with_reducible exact ix_mama _ _ _ _ _) (by omega) ?_
  refine wa_aload_n dX3_forget_7 rfl ?_
  refine wa_getR dX3_forget_8 fgX3_15 (by first | assumption | rfl) (by rfl) ?_
  refine wa_iload_n dX3_forget_11 rfl ?_
  refine wa_iconst (nI 0) dX3_forget_12 (by decide) ?_
  refine wa_iast _ dX3_forget_13 (by first | assumption | rfl) (by first | with_reducible rfl | with_reducible assumption | with_reducible exact ix_ma _ _ _ | with_reducible exact ix_maa _ _ _ _ | with_reducible exact ix_a _ _ | with_reducible exact ix_mama _ _ _ _ _) (by omega) ?_
  refine wa_vret dX3_forget_14 rfl ?_
  exact hQ
theorem wp_X3_isLost {d t j : Nat} {i : Int32} {μ : Mem} {Q : QM} (ht : isS t) (hi : i = nI j) (hj : j < 64) (h1 : (μ.1 (t + 2) j).toInt = 0 → Q (some (.int (nI 1))) μ) (h0 : ¬ (μ.1 (t + 2) j).toInt = 0 → Q (some (.int (nI 0))) μ) : MW kX3_isLost d [.ref t, .int i] μ Q := by
  obtain ⟨hs0t, hs1t, hs2t, hs3t⟩ := isS_sh ht
  have hmt := isS_mod ht
  refine MW_of (by decide) [some (.ref t), some (.int i)] rfl (Nat.le_of_ble_eq_true rfl) ?_
  refine wa_aload_n dX3_isLost_0 rfl ?_
  refine wa_getR dX3_isLost_1 fgX3_15 (by first | assumption | rfl) (by rfl) ?_
  refine wa_iload_n dX3_isLost_4 rfl ?_
  refine wa_iald _ dX3_isLost_5 (by first | assumption | rfl) (by first | with_reducible rfl | with_reducible assumption | with_reducible exact ix_ma _ _ _ | with_reducible exact ix_maa _ _ _ _ | with_reducible exact ix_a _ _ | with_reducible exact ix_mama _ _ _ _ _) (by omega) ?_
  refine wa_if_ne 13 dX3_isLost_6 (by decide) (fun c6_1 => ?_) (fun c6_1 => ?_)
  · try simp (disch := omega) only [nI_toInt] at c6_1
    refine wa_iconst (nI 0) dX3_isLost_13 (by decide) ?_
    refine wa_zret dX3_isLost_14 rfl (by decide) ?_
    exact h0 (by assumption)
  · try simp (disch := omega) only [nI_toInt] at c6_1
    refine wa_iconst (nI 1) dX3_isLost_9 (by decide) ?_
    refine wa_goto 14 dX3_isLost_10 (by decide) ?_
    refine wa_zret dX3_isLost_14 rfl (by decide) ?_
    exact h1 (by omega)
theorem wp_X3_stateAt {d t j : Nat} {i : Int32} {μ : Mem} {Q : QM} (ht : isS t) (hi : i = nI j) (hj : j < 64) (hQ : Q (some (.int (μ.1 (t + 2) j))) μ) : MW kX3_stateAt d [.ref t, .int i] μ Q := by
  obtain ⟨hs0t, hs1t, hs2t, hs3t⟩ := isS_sh ht
  have hmt := isS_mod ht
  refine MW_of (by decide) [some (.ref t), some (.int i)] rfl (Nat.le_of_ble_eq_true rfl) ?_
  refine wa_aload_n dX3_stateAt_0 rfl ?_
  refine wa_getR dX3_stateAt_1 fgX3_15 (by first | assumption | rfl) (by rfl) ?_
  refine wa_iload_n dX3_stateAt_4 rfl ?_
  refine wa_iald _ dX3_stateAt_5 (by first | assumption | rfl) (by first | with_reducible rfl | with_reducible assumption | with_reducible exact ix_ma _ _ _ | with_reducible exact ix_maa _ _ _ _ | with_reducible exact ix_a _ _ | with_reducible exact ix_mama _ _ _ _ _) (by omega) ?_
  refine wa_iret dX3_stateAt_6 rfl ?_
  exact hQ
theorem wp_X3_valueAt {d t j : Nat} {i : Int32} {μ : Mem} {Q : QM} (ht : isS t) (hi : i = nI j) (hj : j < 64) (hQ : Q (some (.int (μ.1 (t + 1) j))) μ) : MW kX3_valueAt d [.ref t, .int i] μ Q := by
  obtain ⟨hs0t, hs1t, hs2t, hs3t⟩ := isS_sh ht
  have hmt := isS_mod ht
  refine MW_of (by decide) [some (.ref t), some (.int i)] rfl (Nat.le_of_ble_eq_true rfl) ?_
  refine wa_aload_n dX3_valueAt_0 rfl ?_
  refine wa_getR dX3_valueAt_1 fgX3_9 (by first | assumption | rfl) (by rfl) ?_
  refine wa_iload_n dX3_valueAt_4 rfl ?_
  refine wa_iald _ dX3_valueAt_5 (by first | assumption | rfl) (by first | with_reducible rfl | with_reducible assumption | with_reducible exact ix_ma _ _ _ | with_reducible exact ix_maa _ _ _ _ | with_reducible exact ix_a _ _ | with_reducible exact ix_mama _ _ _ _ _) (by omega) ?_
  refine wa_iret dX3_valueAt_6 rfl ?_
  exact hQ
theorem wp_X3_take {d t u a b m : Nat} {μ : Mem} {Q : QM} (ht : isS t) (hu : isS u) (hd : 1 ≤ d) (ha : a + m ≤ 64) (hb : b + m ≤ 64) (hQ : Q none (bI (bI μ (t + 1) (va_cpy (μ.1 (u + 1)) (μ.1 (t + 1)) a b m)) (t + 2) (va_cpy (μ.1 (u + 2)) (μ.1 (t + 2)) a b m))) : MW kX3_take d [.ref t, .ref u, .int (nI a), .int (nI b), .int (nI m)] μ Q := by
  obtain ⟨hs0t, hs1t, hs2t, hs3t⟩ := isS_sh ht
  have hmt := isS_mod ht
  obtain ⟨hs0u, hs1u, hs2u, hs3u⟩ := isS_sh hu
  have hmu := isS_mod hu
  refine MW_of (by decide) [some (.ref t), some (.ref u), some (.int (nI a)), some (.int (nI b)), some (.int (nI m))] rfl (Nat.le_of_ble_eq_true rfl) ?_
  refine wa_aload_n dX3_take_0 rfl ?_
  refine wa_getR dX3_take_1 fgX3_9 (by first | assumption | rfl) (by rfl) ?_
  refine wa_iload_n dX3_take_4 rfl ?_
  refine wa_aload_n dX3_take_5 rfl ?_
  refine wa_getR dX3_take_6 fgX3_9 (by first | assumption | rfl) (by rfl) ?_
  refine wa_iload_n dX3_take_9 rfl ?_
  refine wa_iload dX3_take_10 rfl ?_
  refine wa_copyI a b m dX3_take_12 laX3_39 (by first | assumption | rfl) (by first | assumption | rfl) (by first | with_reducible rfl | with_reducible assumption | with_reducible exact ix_ma _ _ _ | with_reducible exact ix_maa _ _ _ _ | with_reducible exact ix_a _ _ | with_reducible exact ix_mama _ _ _ _ _) (by first | with_reducible rfl | with_reducible assumption | with_reducible exact ix_ma _ _ _ | with_reducible exact ix_maa _ _ _ _ | with_reducible exact ix_a _ _ | with_reducible exact ix_mama _ _ _ _ _) (by first | with_reducible rfl | with_reducible assumption | with_reducible exact ix_ma _ _ _ | with_reducible exact ix_maa _ _ _ _ | with_reducible exact ix_a _ _ | with_reducible exact ix_mama _ _ _ _ _) (by omega) (by omega) (by omega) ?_
  refine wa_aload_n dX3_take_15 rfl ?_
  refine wa_getR dX3_take_16 fgX3_15 (by first | assumption | rfl) (by rfl) ?_
  refine wa_iload_n dX3_take_19 rfl ?_
  refine wa_aload_n dX3_take_20 rfl ?_
  refine wa_getR dX3_take_21 fgX3_15 (by first | assumption | rfl) (by rfl) ?_
  refine wa_iload_n dX3_take_24 rfl ?_
  refine wa_iload dX3_take_25 rfl ?_
  refine wa_copyI a b m dX3_take_27 laX3_39 (by first | assumption | rfl) (by first | assumption | rfl) (by first | with_reducible rfl | with_reducible assumption | with_reducible exact ix_ma _ _ _ | with_reducible exact ix_maa _ _ _ _ | with_reducible exact ix_a _ _ | with_reducible exact ix_mama _ _ _ _ _) (by first | with_reducible rfl | with_reducible assumption | with_reducible exact ix_ma _ _ _ | with_reducible exact ix_maa _ _ _ _ | with_reducible exact ix_a _ _ | with_reducible exact ix_mama _ _ _ _ _) (by first | with_reducible rfl | with_reducible assumption | with_reducible exact ix_ma _ _ _ | with_reducible exact ix_maa _ _ _ _ | with_reducible exact ix_a _ _ | with_reducible exact ix_mama _ _ _ _ _) (by omega) (by omega) (by omega) ?_
  refine wa_vret dX3_take_30 rfl ?_
  simp (disch := omega) only [bI_off]; exact hQ
def cntN (f : Nat → Int32) (v : Int32) : Nat → Nat
  | 0 => 0
  | n + 1 => cntN f v n + (if (f n).toInt = v.toInt then 1 else 0)
theorem wp_X3_samplesThatStand {d t n : Nat} {s : Int32} {μ : Mem} {Q : QM} (ht : isS t) (hn : μ.1 t 2 = nI n) (hn64 : n ≤ 64) (hQ : Q (some (.int (nI (cntN (μ.1 (t + 2)) s n)))) μ) : MW kX3_samplesThatStand d [.ref t, .int s] μ Q := by
  obtain ⟨hs0t, hs1t, hs2t, hs3t⟩ := isS_sh ht
  have hmt := isS_mod ht
  refine MW_of (by decide) [some (.ref t), some (.int s), none, none] rfl (Nat.le_of_ble_eq_true rfl) ?_
  have loop : ∀ m i, i + m = n → WA kX3_samplesThatStand d Q 4 [some (.ref t), some (.int s), some (.int (nI (cntN (μ.1 (t + 2)) s i))), some (.int (nI i))] [] μ := by
    intro m
    induction m with
    | zero =>
      intro i hi
      obtain rfl : i = n := by omega
      refine wa_iload_n dX3_samplesThatStand_4 rfl ?_
      refine wa_aload_n dX3_samplesThatStand_5 rfl ?_
      refine wa_getI dX3_samplesThatStand_6 fgX3_30 (by first | assumption | rfl) (by rfl) ?_
      refine wa_ic_geT 31 dX3_samplesThatStand_9 (by decide) (by rw [hn]; exact le_nI (by omega) (by omega)) ?_
      refine wa_iload_n dX3_samplesThatStand_31 rfl ?_
      refine wa_iret dX3_samplesThatStand_32 rfl ?_
      exact hQ
    | succ m ih =>
      intro i hi
      have e := ih (i + 1) (by omega)
      refine wa_iload_n dX3_samplesThatStand_4 rfl ?_
      refine wa_aload_n dX3_samplesThatStand_5 rfl ?_
      refine wa_getI dX3_samplesThatStand_6 fgX3_30 (by first | assumption | rfl) (by rfl) ?_
      refine wa_ic_geF 31 dX3_samplesThatStand_9 (by decide) (by rw [hn]; exact nle_nI (by omega) (by omega)) ?_
      refine wa_aload_n dX3_samplesThatStand_12 rfl ?_
      refine wa_getR dX3_samplesThatStand_13 fgX3_15 (by first | assumption | rfl) (by rfl) ?_
      refine wa_iload_n dX3_samplesThatStand_16 rfl ?_
      refine wa_iald _ dX3_samplesThatStand_17 (by first | assumption | rfl) (by first | with_reducible rfl | with_reducible assumption | with_reducible exact ix_ma _ _ _ | with_reducible exact ix_maa _ _ _ _ | with_reducible exact ix_a _ _ | with_reducible exact ix_mama _ _ _ _ _) (by omega) ?_
      refine wa_iload_n dX3_samplesThatStand_18 rfl ?_
      refine wa_ic_ne 25 dX3_samplesThatStand_19 (by decide) (fun c19_1 => ?_) (fun c19_1 => ?_)
      · try simp (disch := omega) only [nI_toInt] at c19_1
        refine wa_iinc (nI 1) dX3_samplesThatStand_25 rfl (by decide) (by decide) ?_
        refine wa_goto 4 dX3_samplesThatStand_28 (by decide) ?_
        rw [cntN, if_neg (by assumption)] at e; simp only [nI_add]; exact e
      · try simp (disch := omega) only [nI_toInt] at c19_1
        refine wa_iinc (nI 1) dX3_samplesThatStand_22 rfl (by decide) (by decide) ?_
        refine wa_iinc (nI 1) dX3_samplesThatStand_25 rfl (by decide) (by decide) ?_
        refine wa_goto 4 dX3_samplesThatStand_28 (by decide) ?_
        rw [cntN, if_pos (by omega)] at e; simp only [nI_add]; exact e
  refine wa_iconst (nI 0) dX3_samplesThatStand_0 (by decide) ?_
  refine wa_istore_n dX3_samplesThatStand_1 (by decide) ?_
  refine wa_iconst (nI 0) dX3_samplesThatStand_2 (by decide) ?_
  refine wa_istore_n dX3_samplesThatStand_3 (by decide) ?_
  exact loop n 0 (by omega)
theorem wp_X3_lostSamples {d t n : Nat} {μ : Mem} {Q : QM} (ht : isS t) (hd : 1 ≤ d) (hn : μ.1 t 2 = nI n) (hn64 : n ≤ 64) (hQ : Q (some (.int (nI (cntN (μ.1 (t + 2)) (nI 0) n)))) μ) : MW kX3_lostSamples d [.ref t] μ Q := by
  obtain ⟨hs0t, hs1t, hs2t, hs3t⟩ := isS_sh ht
  have hmt := isS_mod ht
  refine MW_of (by decide) [some (.ref t)] rfl (Nat.le_of_ble_eq_true rfl) ?_
  refine wa_aload_n dX3_lostSamples_0 rfl ?_
  refine wa_iconst (nI 0) dX3_lostSamples_1 (by decide) ?_
  refine wa_callV1 (k' := kX3_samplesThatStand) (d' := 0) dX3_lostSamples_2 lmX3_79 kvX3_samplesThatStand (by first | assumption | rfl) (by rfl) (by decide) (by omega) (Nat.le_of_ble_eq_true rfl) ?_
  refine wp_X3_samplesThatStand (by assumption) (by assumption) (by assumption) ?_
  refine wa_iret dX3_lostSamples_5 rfl ?_
  exact hQ
end
section
/-! GAPS, SPIKES, filling, the digest of a SHEET -/
def runN (f : Nat → Int32) : Nat → Nat
  | 0 => 0
  | n + 1 => if (f n).toInt = 0 then runN f n + 1 else 0
def mostN (f : Nat → Int32) : Nat → Nat
  | 0 => 0
  | n + 1 => max (mostN f n) (runN f (n + 1))
def gapN (f : Nat → Int32) : Nat → Nat
  | 0 => 0
  | n + 1 => gapN f n + (if runN f (n + 1) = 1 then 1 else 0)
theorem runN_le (f : Nat → Int32) : ∀ n, runN f n ≤ n
  | 0 => Nat.le_refl 0
  | n + 1 => by
    have := runN_le f n
    rw [runN]
    split <;> omega
theorem mostN_le (f : Nat → Int32) : ∀ n, mostN f n ≤ n
  | 0 => Nat.le_refl 0
  | n + 1 => by
    have h1 := mostN_le f n
    have h2 := runN_le f (n + 1)
    rw [mostN]
    omega
theorem gapN_le (f : Nat → Int32) : ∀ n, gapN f n ≤ n
  | 0 => Nat.le_refl 0
  | n + 1 => by
    have h1 := gapN_le f n
    rw [gapN]
    split <;> omega
theorem cntN_le (f : Nat → Int32) (v : Int32) : ∀ n, cntN f v n ≤ n
  | 0 => Nat.le_refl 0
  | n + 1 => by
    have h1 := cntN_le f v n
    rw [cntN]
    split <;> omega
theorem run_new {f : Nat → Int32} {i : Nat} (h : (f i).toInt = 0) (h2 : i = 0 ∨ ¬ (f (i - 1)).toInt = 0) : runN f (i + 1) = 1 := by
  rw [runN, if_pos h]
  cases i with
  | zero => rfl
  | succ i =>
    rw [runN, if_neg (by simpa using h2)]
theorem run_old {f : Nat → Int32} {i : Nat} (h2 : ¬ i = 0) (h3 : (f (i - 1)).toInt = 0) : ¬ runN f (i + 1) = 1 := by
  cases i with
  | zero => exact absurd rfl h2
  | succ i =>
    have e1 : runN f (i + 1) = runN f i + 1 := by rw [runN, if_pos (by simpa using h3)]
    rw [show i + 1 + 1 = (i + 1) + 1 from rfl, runN, e1]
    split <;> omega
theorem run_not {f : Nat → Int32} {i : Nat} (h : ¬ (f i).toInt = 0) : ¬ runN f (i + 1) = 1 := by
  rw [runN, if_neg h]
  omega
theorem mxI_nI {a b : Nat} (ha : a < 2 ^ 31) (hb : b < 2 ^ 31) : mxI (nI a) (nI b) = nI (max a b) := by
  unfold mxI
  rw [nI_toInt ha, nI_toInt hb]
  split
  · rw [show max a b = b by omega]
  · rw [show max a b = a by omega]
theorem wp_X3_gaps {d t n : Nat} {μ : Mem} {Q : QM} (ht : isS t) (hd : 1 ≤ d) (hn : μ.1 t 2 = nI n) (hn64 : n ≤ 64) (hQ : Q (some (.int (nI (gapN (μ.1 (t + 2)) n)))) μ) : MW kX3_gaps d [.ref t] μ Q := by
  obtain ⟨hs0t, hs1t, hs2t, hs3t⟩ := isS_sh ht
  have hmt := isS_mod ht
  refine MW_of (by decide) [some (.ref t), none, none] rfl (Nat.le_of_ble_eq_true rfl) ?_
  have loop : ∀ m i, i + m = n → WA kX3_gaps d Q 4 [some (.ref t), some (.int (nI (gapN (μ.1 (t + 2)) i))), some (.int (nI i))] [] μ := by
    intro m
    induction m with
    | zero =>
      intro i hi
      obtain rfl : i = n := by omega
      refine wa_iload_n dX3_gaps_4 rfl ?_
      refine wa_aload_n dX3_gaps_5 rfl ?_
      refine wa_getI dX3_gaps_6 fgX3_30 (by first | assumption | rfl) (by rfl) ?_
      refine wa_ic_geT 43 dX3_gaps_9 (by decide) (by rw [hn]; exact le_nI (by omega) (by omega)) ?_
      refine wa_iload_n dX3_gaps_43 rfl ?_
      refine wa_iret dX3_gaps_44 rfl ?_
      exact hQ
    | succ m ih =>
      intro i hi
      have e := ih (i + 1) (by omega)
      refine wa_iload_n dX3_gaps_4 rfl ?_
      refine wa_aload_n dX3_gaps_5 rfl ?_
      refine wa_getI dX3_gaps_6 fgX3_30 (by first | assumption | rfl) (by rfl) ?_
      refine wa_ic_geF 43 dX3_gaps_9 (by decide) (by rw [hn]; exact nle_nI (by omega) (by omega)) ?_
      refine wa_aload_n dX3_gaps_12 rfl ?_
      refine wa_iload_n dX3_gaps_13 rfl ?_
      refine wa_callV1 (k' := kX3_isLost) (d' := 0) dX3_gaps_14 lmX3_53 kvX3_isLost (by first | assumption | rfl) (by rfl) (by decide) (by omega) (Nat.le_of_ble_eq_true rfl) ?_
      refine wp_X3_isLost (by assumption) (by first | with_reducible rfl | assumption) (by omega) (fun hl1 => ?_) (fun hl1 => ?_)
      · skip
        refine wa_if_eqF 37 dX3_gaps_17 (by decide) (by decide) ?_
        refine wa_iload_n dX3_gaps_20 rfl ?_
        refine wa_if_eq 34 dX3_gaps_21 (by decide) (fun c21_2 => ?_) (fun c21_2 => ?_)
        · try simp (disch := omega) only [nI_toInt] at c21_2
          refine wa_iinc (nI 1) dX3_gaps_34 rfl (by decide) (by decide) ?_
          refine wa_iinc (nI 1) dX3_gaps_37 rfl (by decide) (by decide) ?_
          refine wa_goto 4 dX3_gaps_40 (by decide) ?_
          rw [gapN, if_pos (run_new (by assumption) (by omega))] at e; simp only [nI_add]; exact e
        · try simp (disch := omega) only [nI_toInt] at c21_2
          refine wa_aload_n dX3_gaps_24 rfl ?_
          refine wa_iload_n dX3_gaps_25 rfl ?_
          refine wa_iconst (nI 1) dX3_gaps_26 (by decide) ?_
          refine wa_isub dX3_gaps_27 ?_
          refine wa_callV1 (k' := kX3_isLost) (d' := 0) dX3_gaps_28 lmX3_53 kvX3_isLost (by first | assumption | rfl) (by rfl) (by decide) (by omega) (Nat.le_of_ble_eq_true rfl) ?_
          refine wp_X3_isLost (by assumption) (pk_sub (a := i) (b := 1) (by omega)) (by omega) (fun hl3 => ?_) (fun hl3 => ?_)
          · skip
            refine wa_if_neT 37 dX3_gaps_31 (by decide) (by decide) ?_
            refine wa_iinc (nI 1) dX3_gaps_37 rfl (by decide) (by decide) ?_
            refine wa_goto 4 dX3_gaps_40 (by decide) ?_
            rw [gapN, if_neg (run_old (i := i) (by omega) (by assumption))] at e; simp only [nI_add]; exact e
          · skip
            refine wa_if_neF 37 dX3_gaps_31 (by decide) (by decide) ?_
            refine wa_iinc (nI 1) dX3_gaps_34 rfl (by decide) (by decide) ?_
            refine wa_iinc (nI 1) dX3_gaps_37 rfl (by decide) (by decide) ?_
            refine wa_goto 4 dX3_gaps_40 (by decide) ?_
            rw [gapN, if_pos (run_new (by assumption) (Or.inr (by assumption)))] at e; simp only [nI_add]; exact e
      · skip
        refine wa_if_eqT 37 dX3_gaps_17 (by decide) (by decide) ?_
        refine wa_iinc (nI 1) dX3_gaps_37 rfl (by decide) (by decide) ?_
        refine wa_goto 4 dX3_gaps_40 (by decide) ?_
        rw [gapN, if_neg (run_not (by assumption))] at e; simp only [nI_add]; exact e
  refine wa_iconst (nI 0) dX3_gaps_0 (by decide) ?_
  refine wa_istore_n dX3_gaps_1 (by decide) ?_
  refine wa_iconst (nI 0) dX3_gaps_2 (by decide) ?_
  refine wa_istore_n dX3_gaps_3 (by decide) ?_
  exact loop n 0 (by omega)
theorem wp_X3_longestGap {d t n : Nat} {μ : Mem} {Q : QM} (ht : isS t) (hd : 1 ≤ d) (hn : μ.1 t 2 = nI n) (hn64 : n ≤ 64) (hQ : Q (some (.int (nI (mostN (μ.1 (t + 2)) n)))) μ) : MW kX3_longestGap d [.ref t] μ Q := by
  obtain ⟨hs0t, hs1t, hs2t, hs3t⟩ := isS_sh ht
  have hmt := isS_mod ht
  refine MW_of (by decide) [some (.ref t), none, none, none] rfl (Nat.le_of_ble_eq_true rfl) ?_
  have loop : ∀ m i, i + m = n → WA kX3_longestGap d Q 6 [some (.ref t), some (.int (nI (mostN (μ.1 (t + 2)) i))), some (.int (nI (runN (μ.1 (t + 2)) i))), some (.int (nI i))] [] μ := by
    intro m
    induction m with
    | zero =>
      intro i hi
      obtain rfl : i = n := by omega
      refine wa_iload_n dX3_longestGap_6 rfl ?_
      refine wa_aload_n dX3_longestGap_7 rfl ?_
      refine wa_getI dX3_longestGap_8 fgX3_30 (by first | assumption | rfl) (by rfl) ?_
      refine wa_ic_geT 42 dX3_longestGap_11 (by decide) (by rw [hn]; exact le_nI (by omega) (by omega)) ?_
      refine wa_iload_n dX3_longestGap_42 rfl ?_
      refine wa_iret dX3_longestGap_43 rfl ?_
      exact hQ
    | succ m ih =>
      intro i hi
      have e := ih (i + 1) (by omega)
      have b1 := mostN_le (μ.1 (t + 2)) i
      have b2 := runN_le (μ.1 (t + 2)) i
      refine wa_iload_n dX3_longestGap_6 rfl ?_
      refine wa_aload_n dX3_longestGap_7 rfl ?_
      refine wa_getI dX3_longestGap_8 fgX3_30 (by first | assumption | rfl) (by rfl) ?_
      refine wa_ic_geF 42 dX3_longestGap_11 (by decide) (by rw [hn]; exact nle_nI (by omega) (by omega)) ?_
      refine wa_aload_n dX3_longestGap_14 rfl ?_
      refine wa_iload_n dX3_longestGap_15 rfl ?_
      refine wa_callV1 (k' := kX3_isLost) (d' := 0) dX3_longestGap_16 lmX3_53 kvX3_isLost (by first | assumption | rfl) (by rfl) (by decide) (by omega) (Nat.le_of_ble_eq_true rfl) ?_
      refine wp_X3_isLost (by assumption) (by first | with_reducible rfl | assumption) (by omega) (fun hl1 => ?_) (fun hl1 => ?_)
      · skip
        refine wa_if_eqF 28 dX3_longestGap_19 (by decide) (by decide) ?_
        refine wa_iload_n dX3_longestGap_22 rfl ?_
        refine wa_iconst (nI 1) dX3_longestGap_23 (by decide) ?_
        refine wa_iadd dX3_longestGap_24 ?_
        refine wa_goto 29 dX3_longestGap_25 (by decide) ?_
        refine wa_istore_n dX3_longestGap_29 (by decide) ?_
        refine wa_iload_n dX3_longestGap_30 rfl ?_
        refine wa_iload_n dX3_longestGap_31 rfl ?_
        refine wa_mmaxI dX3_longestGap_32 lmX3_83 (by omega) (Nat.le_of_ble_eq_true rfl) ?_
        refine wa_istore_n dX3_longestGap_35 (by decide) ?_
        refine wa_iinc (nI 1) dX3_longestGap_36 rfl (by decide) (by decide) ?_
        refine wa_goto 6 dX3_longestGap_39 (by decide) ?_
        rw [mostN, runN, if_pos (by assumption)] at e; simp only [nI_add]; rw [mxI_nI (by omega) (by omega)]; exact e
      · skip
        refine wa_if_eqT 28 dX3_longestGap_19 (by decide) (by decide) ?_
        refine wa_iconst (nI 0) dX3_longestGap_28 (by decide) ?_
        refine wa_istore_n dX3_longestGap_29 (by decide) ?_
        refine wa_iload_n dX3_longestGap_30 rfl ?_
        refine wa_iload_n dX3_longestGap_31 rfl ?_
        refine wa_mmaxI dX3_longestGap_32 lmX3_83 (by omega) (Nat.le_of_ble_eq_true rfl) ?_
        refine wa_istore_n dX3_longestGap_35 (by decide) ?_
        refine wa_iinc (nI 1) dX3_longestGap_36 rfl (by decide) (by decide) ?_
        refine wa_goto 6 dX3_longestGap_39 (by decide) ?_
        rw [mostN, runN, if_neg (by assumption)] at e; simp only [nI_add]; rw [mxI_nI (by omega) (by omega)]; exact e
  refine wa_iconst (nI 0) dX3_longestGap_0 (by decide) ?_
  refine wa_istore_n dX3_longestGap_1 (by decide) ?_
  refine wa_iconst (nI 0) dX3_longestGap_2 (by decide) ?_
  refine wa_istore_n dX3_longestGap_3 (by decide) ?_
  refine wa_iconst (nI 0) dX3_longestGap_4 (by decide) ?_
  refine wa_istore_n dX3_longestGap_5 (by decide) ?_
  exact loop n 0 (by omega)
/-- what about() tells -/
def fctN (f : Nat → Int32) (so : Int32) (n w : Nat) : Int32 := match w with
  | 0 => so
  | 1 => nI n
  | 2 => nI (gapN f n)
  | 3 => nI (mostN f n)
  | 4 => nI (cntN f (nI 0) n)
  | _ => nI (cntN f (nI 2) n)
theorem wp_X3_fact {d t n w : Nat} {μ : Mem} {Q : QM} (ht : isS t) (hd : 2 ≤ d) (hn : μ.1 t 2 = nI n) (hn64 : n ≤ 64) (hw : w < 6) (hQ : Q (some (.int (fctN (μ.1 (t + 2)) (μ.1 t 1) n w))) μ) : MW kX3_fact d [.ref t, .int (nI w)] μ Q := by
  obtain ⟨hs0t, hs1t, hs2t, hs3t⟩ := isS_sh ht
  have hmt := isS_mod ht
  refine MW_of (by decide) [some (.ref t), some (.int (nI w))] rfl (Nat.le_of_ble_eq_true rfl) ?_
  have : w = 0 ∨ w = 1 ∨ w = 2 ∨ w = 3 ∨ w = 4 ∨ w = 5 := by omega
  rcases this with rfl | rfl | rfl | rfl | rfl | rfl
  · refine wa_iload_n dX3_fact_0 rfl ?_
    refine wa_tsI 36 0 dX3_fact_1 (by decide) (by decide) (by decide) rfl (by decide) ?_
    refine wa_aload_n dX3_fact_36 rfl ?_
    refine wa_getI dX3_fact_37 fgX3_26 (by first | assumption | rfl) (by rfl) ?_
    refine wa_iret dX3_fact_40 rfl ?_
    exact hQ
  · refine wa_iload_n dX3_fact_0 rfl ?_
    refine wa_tsI 41 1 dX3_fact_1 (by decide) (by decide) (by decide) rfl (by decide) ?_
    refine wa_aload_n dX3_fact_41 rfl ?_
    refine wa_getI dX3_fact_42 fgX3_30 (by first | assumption | rfl) (by rfl) ?_
    refine wa_iret dX3_fact_45 rfl ?_
    rw [hn]; exact hQ
  · refine wa_iload_n dX3_fact_0 rfl ?_
    refine wa_tsI 46 2 dX3_fact_1 (by decide) (by decide) (by decide) rfl (by decide) ?_
    refine wa_aload_n dX3_fact_46 rfl ?_
    refine wa_callV0 (k' := kX3_gaps) (d' := 1) dX3_fact_47 lmX3_69 kvX3_gaps (by first | assumption | rfl) (by rfl) (by decide) (by omega) (Nat.le_of_ble_eq_true rfl) ?_
    refine wp_X3_gaps (by assumption) (by omega) (by assumption) (by assumption) ?_
    refine wa_iret dX3_fact_50 rfl ?_
    exact hQ
  · refine wa_iload_n dX3_fact_0 rfl ?_
    refine wa_tsI 51 3 dX3_fact_1 (by decide) (by decide) (by decide) rfl (by decide) ?_
    refine wa_aload_n dX3_fact_51 rfl ?_
    refine wa_callV0 (k' := kX3_longestGap) (d' := 1) dX3_fact_52 lmX3_73 kvX3_longestGap (by first | assumption | rfl) (by rfl) (by decide) (by omega) (Nat.le_of_ble_eq_true rfl) ?_
    refine wp_X3_longestGap (by assumption) (by omega) (by assumption) (by assumption) ?_
    refine wa_iret dX3_fact_55 rfl ?_
    exact hQ
  · refine wa_iload_n dX3_fact_0 rfl ?_
    refine wa_tsI 56 4 dX3_fact_1 (by decide) (by decide) (by decide) rfl (by decide) ?_
    refine wa_aload_n dX3_fact_56 rfl ?_
    refine wa_callV0 (k' := kX3_lostSamples) (d' := 1) dX3_fact_57 lmX3_76 kvX3_lostSamples (by first | assumption | rfl) (by rfl) (by decide) (by omega) (Nat.le_of_ble_eq_true rfl) ?_
    refine wp_X3_lostSamples (by assumption) (by omega) (by assumption) (by assumption) ?_
    refine wa_iret dX3_fact_60 rfl ?_
    exact hQ
  · refine wa_iload_n dX3_fact_0 rfl ?_
    refine wa_tsO 61 dX3_fact_1 (by decide) (by decide) ?_
    refine wa_aload_n dX3_fact_61 rfl ?_
    refine wa_iconst (nI 2) dX3_fact_62 (by decide) ?_
    refine wa_callV1 (k' := kX3_samplesThatStand) (d' := 0) dX3_fact_63 lmX3_79 kvX3_samplesThatStand (by first | assumption | rfl) (by rfl) (by decide) (by omega) (Nat.le_of_ble_eq_true rfl) ?_
    refine wp_X3_samplesThatStand (by assumption) (by assumption) (by assumption) ?_
    refine wa_iret dX3_fact_66 rfl ?_
    exact hQ
/-! the digest -/
def digF (h : Int64) (f : Nat → Int32) (so : Int32) (n : Nat) : Nat → Int64
  | 0 => h
  | w + 1 => 31 * digF h f so n w + (fctN f so n w).toInt64
def digS (h : Int64) (f v : Nat → Int32) : Nat → Int64
  | 0 => h
  | i + 1 => if (f i).toInt = 0 then 31 * digS h f v i + (f i).toInt64 else 31 * (31 * digS h f v i + (f i).toInt64) + (v i).toInt64
theorem wp_X3_digestOn {d t n : Nat} {h : Int64} {μ : Mem} {Q : QM} (ht : isS t) (hd : 3 ≤ d) (hn : μ.1 t 2 = nI n) (hn64 : n ≤ 64) (hQ : Q (some (.long (digS (digF h (μ.1 (t + 2)) (μ.1 t 1) n 6) (μ.1 (t + 2)) (μ.1 (t + 1)) n))) μ) : MW kX3_digestOn d [.ref t, .long h] μ Q := by
  obtain ⟨hs0t, hs1t, hs2t, hs3t⟩ := isS_sh ht
  have hmt := isS_mod ht
  refine MW_of (by decide) [some (.ref t), some (.long h), none, none, none, none] rfl (Nat.le_of_ble_eq_true rfl) ?_
  have loop2 : ∀ m i, i + m = n → WA kX3_digestOn d Q 35 [some (.ref t), some (.long h), none, some (.long (digS (digF h (μ.1 (t + 2)) (μ.1 t 1) n 6) (μ.1 (t + 2)) (μ.1 (t + 1)) i)), none, some (.int (nI i))] [] μ := by
    intro m
    induction m with
    | zero =>
      intro i hi
      obtain rfl : i = n := by omega
      refine wa_iload dX3_digestOn_35 rfl ?_
      refine wa_aload_n dX3_digestOn_37 rfl ?_
      refine wa_getI dX3_digestOn_38 fgX3_30 (by first | assumption | rfl) (by rfl) ?_
      refine wa_ic_geT 89 dX3_digestOn_41 (by decide) (by rw [hn]; exact le_nI (by omega) (by omega)) ?_
      refine wa_lload_n dX3_digestOn_89 rfl ?_
      refine wa_lret dX3_digestOn_90 rfl ?_
      exact hQ
    | succ m ih =>
      intro i hi
      have e := ih (i + 1) (by omega)
      refine wa_iload dX3_digestOn_35 rfl ?_
      refine wa_aload_n dX3_digestOn_37 rfl ?_
      refine wa_getI dX3_digestOn_38 fgX3_30 (by first | assumption | rfl) (by rfl) ?_
      refine wa_ic_geF 89 dX3_digestOn_41 (by decide) (by rw [hn]; exact nle_nI (by omega) (by omega)) ?_
      refine wa_ldc2 (31) dX3_digestOn_44 lcX3_87 ?_
      refine wa_lload_n dX3_digestOn_47 rfl ?_
      refine wa_lmul dX3_digestOn_48 ?_
      refine wa_aload_n dX3_digestOn_49 rfl ?_
      refine wa_getR dX3_digestOn_50 fgX3_15 (by first | assumption | rfl) (by rfl) ?_
      refine wa_iload dX3_digestOn_53 rfl ?_
      refine wa_iald _ dX3_digestOn_55 (by first | assumption | rfl) (by first | with_reducible rfl | with_reducible assumption | with_reducible exact ix_ma _ _ _ | with_reducible exact ix_maa _ _ _ _ | with_reducible exact ix_a _ _ | with_reducible exact ix_mama _ _ _ _ _) (by omega) ?_
      refine wa_i2l dX3_digestOn_56 ?_
      refine wa_ladd dX3_digestOn_57 ?_
      refine wa_lstore_n dX3_digestOn_58 (by decide) ?_
      refine wa_aload_n dX3_digestOn_59 rfl ?_
      refine wa_iload dX3_digestOn_60 rfl ?_
      refine wa_callV1 (k' := kX3_isLost) (d' := 0) dX3_digestOn_62 lmX3_53 kvX3_isLost (by first | assumption | rfl) (by rfl) (by decide) (by omega) (Nat.le_of_ble_eq_true rfl) ?_
      refine wp_X3_isLost (by assumption) (by first | with_reducible rfl | assumption) (by omega) (fun hl1 => ?_) (fun hl1 => ?_)
      · skip
        refine wa_if_neT 83 dX3_digestOn_65 (by decide) (by decide) ?_
        refine wa_iinc (nI 1) dX3_digestOn_83 rfl (by decide) (by decide) ?_
        refine wa_goto 35 dX3_digestOn_86 (by decide) ?_
        rw [digS, if_pos (by assumption)] at e; simp only [nI_add]; exact e
      · skip
        refine wa_if_neF 83 dX3_digestOn_65 (by decide) (by decide) ?_
        refine wa_ldc2 (31) dX3_digestOn_68 lcX3_87 ?_
        refine wa_lload_n dX3_digestOn_71 rfl ?_
        refine wa_lmul dX3_digestOn_72 ?_
        refine wa_aload_n dX3_digestOn_73 rfl ?_
        refine wa_getR dX3_digestOn_74 fgX3_9 (by first | assumption | rfl) (by rfl) ?_
        refine wa_iload dX3_digestOn_77 rfl ?_
        refine wa_iald _ dX3_digestOn_79 (by first | assumption | rfl) (by first | with_reducible rfl | with_reducible assumption | with_reducible exact ix_ma _ _ _ | with_reducible exact ix_maa _ _ _ _ | with_reducible exact ix_a _ _ | with_reducible exact ix_mama _ _ _ _ _) (by omega) ?_
        refine wa_i2l dX3_digestOn_80 ?_
        refine wa_ladd dX3_digestOn_81 ?_
        refine wa_lstore_n dX3_digestOn_82 (by decide) ?_
        refine wa_iinc (nI 1) dX3_digestOn_83 rfl (by decide) (by decide) ?_
        refine wa_goto 35 dX3_digestOn_86 (by decide) ?_
        rw [digS, if_neg (by assumption)] at e; simp only [nI_add]; exact e
  have loop1 : ∀ m w, w + m = 6 → WA kX3_digestOn d Q 5 [some (.ref t), some (.long h), none, some (.long (digF h (μ.1 (t + 2)) (μ.1 t 1) n w)), none, some (.int (nI w))] [] μ := by
    intro m
    induction m with
    | zero =>
      intro w hw
      obtain rfl : w = 6 := by omega
      refine wa_iload dX3_digestOn_5 rfl ?_
      refine wa_bipush (nI 6) dX3_digestOn_7 (by decide) ?_
      refine wa_ic_geT 32 dX3_digestOn_9 (by decide) (by decide) ?_
      refine wa_iconst (nI 0) dX3_digestOn_32 (by decide) ?_
      refine wa_istore dX3_digestOn_33 (by decide) ?_
      exact loop2 n 0 (by omega)
    | succ m ih =>
      intro w hw
      have e := ih (w + 1) (by omega)
      refine wa_iload dX3_digestOn_5 rfl ?_
      refine wa_bipush (nI 6) dX3_digestOn_7 (by decide) ?_
      refine wa_ic_geF 32 dX3_digestOn_9 (by decide) (nle_nI (by omega) (by omega)) ?_
      refine wa_ldc2 (31) dX3_digestOn_12 lcX3_87 ?_
      refine wa_lload_n dX3_digestOn_15 rfl ?_
      refine wa_lmul dX3_digestOn_16 ?_
      refine wa_aload_n dX3_digestOn_17 rfl ?_
      refine wa_iload dX3_digestOn_18 rfl ?_
      refine wa_callV1 (k' := kX3_fact) (d' := 2) dX3_digestOn_20 lmX3_89 kvX3_fact (by first | assumption | rfl) (by rfl) (by decide) (by omega) (Nat.le_of_ble_eq_true rfl) ?_
      refine wp_X3_fact (by assumption) (by omega) (by assumption) (by assumption) (by omega) ?_
      refine wa_i2l dX3_digestOn_23 ?_
      refine wa_ladd dX3_digestOn_24 ?_
      refine wa_lstore_n dX3_digestOn_25 (by decide) ?_
      refine wa_iinc (nI 1) dX3_digestOn_26 rfl (by decide) (by decide) ?_
      refine wa_goto 5 dX3_digestOn_29 (by decide) ?_
      rw [digF] at e; simp only [nI_add]; exact e
  refine wa_lload_n dX3_digestOn_0 rfl ?_
  refine wa_lstore_n dX3_digestOn_1 (by decide) ?_
  refine wa_iconst (nI 0) dX3_digestOn_2 (by decide) ?_
  refine wa_istore dX3_digestOn_3 (by decide) ?_
  exact loop1 6 0 (by omega)
/-! SPIKES -/
def bendE (v : Nat → Int32) (i : Nat) : Int64 := 2 * (v i).toInt64 - (v (i - 1)).toInt64 - (v (i + 1)).toInt64
def isSp (s v : Nat → Int32) (n : Nat) (d : Int32) (i : Nat) : Bool := decide (1 ≤ i ∧ i + 1 < n ∧ ¬ (s (i - 1)).toInt = 0 ∧ ¬ (s i).toInt = 0 ∧ ¬ (s (i + 1)).toInt = 0 ∧ (2 * d.toInt64).toInt < (abL (bendE v i)).toInt)
theorem wp_X3_isSpike {d t n j : Nat} {e : Int32} {μ : Mem} {Q : QM} (ht : isS t) (hd : 1 ≤ d) (hn : μ.1 t 2 = nI n) (hn64 : n ≤ 64) (hj : j < n) (h1 : isSp (μ.1 (t + 2)) (μ.1 (t + 1)) n e j = true → Q (some (.int (nI 1))) μ) (h0 : isSp (μ.1 (t + 2)) (μ.1 (t + 1)) n e j = false → Q (some (.int (nI 0))) μ) : MW kX3_isSpike d [.ref t, .int (nI j), .int e] μ Q := by
  obtain ⟨hs0t, hs1t, hs2t, hs3t⟩ := isS_sh ht
  have hmt := isS_mod ht
  refine MW_of (by decide) [some (.ref t), some (.int (nI j)), some (.int e), none, none] rfl (Nat.le_of_ble_eq_true rfl) ?_
  refine wa_iload_n dX3_isSpike_0 rfl ?_
  refine wa_iconst (nI 1) dX3_isSpike_1 (by decide) ?_
  refine wa_ic_lt 43 dX3_isSpike_2 (by decide) (fun c2_1 => ?_) (fun c2_1 => ?_)
  · try simp (disch := omega) only [nI_toInt, hn, nI_add] at c2_1
    refine wa_iconst (nI 0) dX3_isSpike_43 (by decide) ?_
    refine wa_zret dX3_isSpike_44 rfl (by decide) ?_
    exact h0 (decide_eq_false (fun q => by omega))
  · try simp (disch := omega) only [nI_toInt, hn, nI_add] at c2_1
    refine wa_iload_n dX3_isSpike_5 rfl ?_
    refine wa_iconst (nI 1) dX3_isSpike_6 (by decide) ?_
    refine wa_iadd dX3_isSpike_7 ?_
    refine wa_aload_n dX3_isSpike_8 rfl ?_
    refine wa_getI dX3_isSpike_9 fgX3_30 (by first | assumption | rfl) (by rfl) ?_
    refine wa_ic_ge 43 dX3_isSpike_12 (by decide) (fun c12_2 => ?_) (fun c12_2 => ?_)
    · try simp (disch := omega) only [nI_toInt, hn, nI_add] at c12_2
      refine wa_iconst (nI 0) dX3_isSpike_43 (by decide) ?_
      refine wa_zret dX3_isSpike_44 rfl (by decide) ?_
      exact h0 (decide_eq_false (fun q => by omega))
    · try simp (disch := omega) only [nI_toInt, hn, nI_add] at c12_2
      refine wa_aload_n dX3_isSpike_15 rfl ?_
      refine wa_iload_n dX3_isSpike_16 rfl ?_
      refine wa_iconst (nI 1) dX3_isSpike_17 (by decide) ?_
      refine wa_isub dX3_isSpike_18 ?_
      refine wa_callV1 (k' := kX3_isLost) (d' := 0) dX3_isSpike_19 lmX3_53 kvX3_isLost (by first | assumption | rfl) (by rfl) (by decide) (by omega) (Nat.le_of_ble_eq_true rfl) ?_
      refine wp_X3_isLost (by assumption) (pk_sub (a := j) (b := 1) (by omega)) (by omega) (fun hl3 => ?_) (fun hl3 => ?_)
      · skip
        refine wa_if_neT 43 dX3_isSpike_22 (by decide) (by decide) ?_
        refine wa_iconst (nI 0) dX3_isSpike_43 (by decide) ?_
        refine wa_zret dX3_isSpike_44 rfl (by decide) ?_
        exact h0 (decide_eq_false (fun q => by omega))
      · skip
        refine wa_if_neF 43 dX3_isSpike_22 (by decide) (by decide) ?_
        refine wa_aload_n dX3_isSpike_25 rfl ?_
        refine wa_iload_n dX3_isSpike_26 rfl ?_
        refine wa_callV1 (k' := kX3_isLost) (d' := 0) dX3_isSpike_27 lmX3_53 kvX3_isLost (by first | assumption | rfl) (by rfl) (by decide) (by omega) (Nat.le_of_ble_eq_true rfl) ?_
        refine wp_X3_isLost (by assumption) (by first | with_reducible rfl | assumption) (by omega) (fun hl4 => ?_) (fun hl4 => ?_)
        · skip
          refine wa_if_neT 43 dX3_isSpike_30 (by decide) (by decide) ?_
          refine wa_iconst (nI 0) dX3_isSpike_43 (by decide) ?_
          refine wa_zret dX3_isSpike_44 rfl (by decide) ?_
          exact h0 (decide_eq_false (fun q => by omega))
        · skip
          refine wa_if_neF 43 dX3_isSpike_30 (by decide) (by decide) ?_
          refine wa_aload_n dX3_isSpike_33 rfl ?_
          refine wa_iload_n dX3_isSpike_34 rfl ?_
          refine wa_iconst (nI 1) dX3_isSpike_35 (by decide) ?_
          refine wa_iadd dX3_isSpike_36 ?_
          refine wa_callV1 (k' := kX3_isLost) (d' := 0) dX3_isSpike_37 lmX3_53 kvX3_isLost (by first | assumption | rfl) (by rfl) (by decide) (by omega) (Nat.le_of_ble_eq_true rfl) ?_
          refine wp_X3_isLost (by assumption) (nI_add j 1) (by omega) (fun hl5 => ?_) (fun hl5 => ?_)
          · skip
            refine wa_if_eqF 45 dX3_isSpike_40 (by decide) (by decide) ?_
            refine wa_iconst (nI 0) dX3_isSpike_43 (by decide) ?_
            refine wa_zret dX3_isSpike_44 rfl (by decide) ?_
            exact h0 (decide_eq_false (fun q => by omega))
          · skip
            refine wa_if_eqT 45 dX3_isSpike_40 (by decide) (by decide) ?_
            refine wa_ldc2 (2) dX3_isSpike_45 lcX3_57 ?_
            refine wa_aload_n dX3_isSpike_48 rfl ?_
            refine wa_getR dX3_isSpike_49 fgX3_9 (by first | assumption | rfl) (by rfl) ?_
            refine wa_iload_n dX3_isSpike_52 rfl ?_
            refine wa_iald _ dX3_isSpike_53 (by first | assumption | rfl) (by first | with_reducible rfl | with_reducible assumption | with_reducible exact ix_ma _ _ _ | with_reducible exact ix_maa _ _ _ _ | with_reducible exact ix_a _ _ | with_reducible exact ix_mama _ _ _ _ _) (by omega) ?_
            refine wa_i2l dX3_isSpike_54 ?_
            refine wa_lmul dX3_isSpike_55 ?_
            refine wa_aload_n dX3_isSpike_56 rfl ?_
            refine wa_getR dX3_isSpike_57 fgX3_9 (by first | assumption | rfl) (by rfl) ?_
            refine wa_iload_n dX3_isSpike_60 rfl ?_
            refine wa_iconst (nI 1) dX3_isSpike_61 (by decide) ?_
            refine wa_isub dX3_isSpike_62 ?_
            refine wa_iald _ dX3_isSpike_63 (by first | assumption | rfl) (by exact pk_sub (a := j) (b := 1) (by omega)) (by omega) ?_
            refine wa_i2l dX3_isSpike_64 ?_
            refine wa_lsub dX3_isSpike_65 ?_
            refine wa_aload_n dX3_isSpike_66 rfl ?_
            refine wa_getR dX3_isSpike_67 fgX3_9 (by first | assumption | rfl) (by rfl) ?_
            refine wa_iload_n dX3_isSpike_70 rfl ?_
            refine wa_iconst (nI 1) dX3_isSpike_71 (by decide) ?_
            refine wa_iadd dX3_isSpike_72 ?_
            refine wa_iald _ dX3_isSpike_73 (by first | assumption | rfl) (by first | with_reducible rfl | with_reducible assumption | with_reducible exact ix_ma _ _ _ | with_reducible exact ix_maa _ _ _ _ | with_reducible exact ix_a _ _ | with_reducible exact ix_mama _ _ _ _ _) (by omega) ?_
            refine wa_i2l dX3_isSpike_74 ?_
            refine wa_lsub dX3_isSpike_75 ?_
            refine wa_lstore_n dX3_isSpike_76 (by decide) ?_
            refine wa_lload_n dX3_isSpike_77 rfl ?_
            refine wa_mabsL dX3_isSpike_78 lmX3_59 (by omega) (Nat.le_of_ble_eq_true rfl) ?_
            refine wa_ldc2 (2) dX3_isSpike_81 lcX3_57 ?_
            refine wa_iload_n dX3_isSpike_84 rfl ?_
            refine wa_i2l dX3_isSpike_85 ?_
            refine wa_lmul dX3_isSpike_86 ?_
            refine wa_lc_le 95 dX3_isSpike_87 dX3_isSpike_88 (by decide) (fun c87_6 => ?_) (fun c87_6 => ?_)
            · try simp (disch := omega) only [nI_toInt, hn, nI_add] at c87_6
              refine wa_iconst (nI 0) dX3_isSpike_95 (by decide) ?_
              refine wa_zret dX3_isSpike_96 rfl (by decide) ?_
              exact h0 (decide_eq_false (fun q => by unfold bendE at q; omega))
            · try simp (disch := omega) only [nI_toInt, hn, nI_add] at c87_6
              refine wa_iconst (nI 1) dX3_isSpike_91 (by decide) ?_
              refine wa_goto 96 dX3_isSpike_92 (by decide) ?_
              refine wa_zret dX3_isSpike_96 rfl (by decide) ?_
              exact h1 (decide_eq_true ⟨by omega, by omega, by assumption, by assumption, by assumption, by unfold bendE; omega⟩)
end
section
/-! losing SPIKES, filling GAPS -/
def spF (s v : Nat → Int32) (n : Nat) (d : Int32) (old : Nat → Int32) (m : Nat) : Nat → Int32 := fun b => if b < m then (if isSp s v n d b = true then nI 1 else nI 0) else old b
theorem spF_0 (s v : Nat → Int32) (n : Nat) (d : Int32) (old : Nat → Int32) : spF s v n d old 0 = old := by
  funext b
  simp [spF]
theorem spF_s (s v : Nat → Int32) (n : Nat) (d : Int32) (old : Nat → Int32) (m : Nat) {x : Int32} (hx : x = if isSp s v n d m = true then nI 1 else nI 0) : upd (spF s v n d old m) m x = spF s v n d old (m + 1) := by
  funext b
  by_cases h : b = m
  · subst h
    simp [upd, spF, hx]
  · simp only [upd, spF, h, if_false]
    by_cases h2 : b < m
    · rw [if_pos h2, if_pos (show b < m + 1 by omega)]
    · rw [if_neg h2, if_neg (show ¬ b < m + 1 by omega)]
/-- what is lost where p says so, below m -/
def lsF (p : Nat → Bool) (f : Nat → Int32) (m : Nat) : Nat → Int32 := fun b => if b < m ∧ p b = true then nI 0 else f b
theorem lsF_0 (p : Nat → Bool) (f : Nat → Int32) : lsF p f 0 = f := by
  funext b
  simp [lsF]
theorem lsF_y {p : Nat → Bool} {f : Nat → Int32} {m : Nat} (h : p m = true) : upd (lsF p f m) m (nI 0) = lsF p f (m + 1) := by
  funext b
  by_cases hb : b = m
  · subst hb
    simp [upd, lsF, h]
  · simp only [upd, lsF, hb, if_false]
    congr 1
    exact propext ⟨fun q => ⟨by omega, q.2⟩, fun q => ⟨by omega, q.2⟩⟩
theorem lsF_n {p : Nat → Bool} {f : Nat → Int32} {m : Nat} (h : ¬ p m = true) : lsF p f m = lsF p f (m + 1) := by
  funext b
  simp only [lsF]
  congr 1
  refine propext ⟨fun q => ⟨by omega, q.2⟩, fun q => ⟨?_, q.2⟩⟩
  by_cases hb : b = m
  · subst hb
    exact absurd q.2 h
  · omega
def bcN (p : Nat → Bool) : Nat → Nat
  | 0 => 0
  | n + 1 => bcN p n + (if p n = true then 1 else 0)
theorem wp_X3_loseSpikes {d t n : Nat} {e : Int32} {μ : Mem} {Q : QM} (ht : isS t) (hd : 2 ≤ d) (hn : μ.1 t 2 = nI n) (hn64 : n ≤ 64)
    (hQ : Q (some (.int (nI (bcN (isSp (μ.1 (t + 2)) (μ.1 (t + 1)) n e) n)))) (bI (bI (bI μ (t + 3) (spF (μ.1 (t + 2)) (μ.1 (t + 1)) n e (μ.1 (t + 3)) n)) (t + 1) (lsF (isSp (μ.1 (t + 2)) (μ.1 (t + 1)) n e) (μ.1 (t + 1)) n)) (t + 2) (lsF (isSp (μ.1 (t + 2)) (μ.1 (t + 1)) n e) (μ.1 (t + 2)) n))) : MW kX3_loseSpikes d [.ref t, .int e] μ Q := by
  obtain ⟨hs0t, hs1t, hs2t, hs3t⟩ := isS_sh ht
  have hmt := isS_mod ht
  refine MW_of (by decide) [some (.ref t), some (.int e), none, none] rfl (Nat.le_of_ble_eq_true rfl) ?_
  generalize hp : isSp (μ.1 (t + 2)) (μ.1 (t + 1)) n e = p at hQ
  generalize hF : spF (μ.1 (t + 2)) (μ.1 (t + 1)) n e (μ.1 (t + 3)) = F at hQ
  have hFv : ∀ m b, b < m → F m b = if p b = true then nI 1 else nI 0 := fun m b h => by
    rw [← hF, ← hp, spF, if_pos h]
  have loop2 : ∀ m i, i + m = n → WA kX3_loseSpikes d Q 32 [some (.ref t), some (.int e), some (.int (nI (bcN p i))), some (.int (nI i))] [] (bI (bI (bI μ (t + 3) (F n)) (t + 1) (lsF p (μ.1 (t + 1)) i)) (t + 2) (lsF p (μ.1 (t + 2)) i)) := by
    intro m
    induction m with
    | zero =>
      intro i hi
      obtain rfl : i = n := by omega
      refine wa_iload_n dX3_loseSpikes_32 rfl ?_
      refine wa_aload_n dX3_loseSpikes_33 rfl ?_
      refine wa_getI dX3_loseSpikes_34 fgX3_30 (by first | assumption | rfl) (by rfl) ?_
      refine wa_ic_geT 63 dX3_loseSpikes_37 (by decide) (by simp (disch := omega) only [bI_off]; rw [hn]; exact le_nI (by omega) (by omega)) ?_
      refine wa_iload_n dX3_loseSpikes_63 rfl ?_
      refine wa_iret dX3_loseSpikes_64 rfl ?_
      exact hQ
    | succ m ih =>
      intro i hi
      have e := ih (i + 1) (by omega)
      by_cases hpi : p i = true
      · refine wa_iload_n dX3_loseSpikes_32 rfl ?_
        refine wa_aload_n dX3_loseSpikes_33 rfl ?_
        refine wa_getI dX3_loseSpikes_34 fgX3_30 (by first | assumption | rfl) (by rfl) ?_
        refine wa_ic_geF 63 dX3_loseSpikes_37 (by decide) (by simp (disch := omega) only [bI_off]; rw [hn]; exact nle_nI (by omega) (by omega)) ?_
        refine wa_aload_n dX3_loseSpikes_40 rfl ?_
        refine wa_getR dX3_loseSpikes_41 fgX3_18 (by first | assumption | rfl) (by rfl) ?_
        refine wa_iload_n dX3_loseSpikes_44 rfl ?_
        refine wa_zald _ dX3_loseSpikes_45 (by first | assumption | rfl) (by first | with_reducible rfl | with_reducible assumption | with_reducible exact ix_ma _ _ _ | with_reducible exact ix_maa _ _ _ _ | with_reducible exact ix_a _ _ | with_reducible exact ix_mama _ _ _ _ _) (by omega) ?_
        refine wa_if_eqF 57 dX3_loseSpikes_46 (by decide) (by simp (disch := omega) only [bI_off, rb1e]; rw [hFv _ _ (by omega), if_pos hpi]; decide) ?_
        refine wa_aload_n dX3_loseSpikes_49 rfl ?_
        refine wa_iload_n dX3_loseSpikes_50 rfl ?_
        refine wa_callV1 (k' := kX3_forget) (d' := 0) dX3_loseSpikes_51 lmX3_49 kvX3_forget (by first | assumption | rfl) (by rfl) (by decide) (by omega) (Nat.le_of_ble_eq_true rfl) ?_
        refine wp_X3_forget (by assumption) (by omega) ?_
        refine wa_iinc (nI 1) dX3_loseSpikes_54 rfl (by decide) (by decide) ?_
        refine wa_iinc (nI 1) dX3_loseSpikes_57 rfl (by decide) (by decide) ?_
        refine wa_goto 32 dX3_loseSpikes_60 (by decide) ?_
        rw [sIb2 _ _ _ _ _ (by omega), sIb, lsF_y hpi, lsF_y hpi]
        rw [bcN, if_pos hpi] at e
        simp only [nI_add]
        exact e
      · refine wa_iload_n dX3_loseSpikes_32 rfl ?_
        refine wa_aload_n dX3_loseSpikes_33 rfl ?_
        refine wa_getI dX3_loseSpikes_34 fgX3_30 (by first | assumption | rfl) (by rfl) ?_
        refine wa_ic_geF 63 dX3_loseSpikes_37 (by decide) (by simp (disch := omega) only [bI_off]; rw [hn]; exact nle_nI (by omega) (by omega)) ?_
        refine wa_aload_n dX3_loseSpikes_40 rfl ?_
        refine wa_getR dX3_loseSpikes_41 fgX3_18 (by first | assumption | rfl) (by rfl) ?_
        refine wa_iload_n dX3_loseSpikes_44 rfl ?_
        refine wa_zald _ dX3_loseSpikes_45 (by first | assumption | rfl) (by first | with_reducible rfl | with_reducible assumption | with_reducible exact ix_ma _ _ _ | with_reducible exact ix_maa _ _ _ _ | with_reducible exact ix_a _ _ | with_reducible exact ix_mama _ _ _ _ _) (by omega) ?_
        refine wa_if_eqT 57 dX3_loseSpikes_46 (by decide) (by simp (disch := omega) only [bI_off, rb1e]; rw [hFv _ _ (by omega), if_neg hpi]; decide) ?_
        refine wa_iinc (nI 1) dX3_loseSpikes_57 rfl (by decide) (by decide) ?_
        refine wa_goto 32 dX3_loseSpikes_60 (by decide) ?_
        rw [bcN, if_neg hpi, ← lsF_n hpi, ← lsF_n hpi] at e
        simp only [nI_add]
        exact e
  have loop1 : ∀ m i, i + m = n → WA kX3_loseSpikes d Q 2 [some (.ref t), some (.int e), some (.int (nI i)), none] [] (bI μ (t + 3) (F i)) := by
    intro m
    induction m with
    | zero =>
      intro i hi
      obtain rfl : i = n := by omega
      refine wa_iload_n dX3_loseSpikes_2 rfl ?_
      refine wa_aload_n dX3_loseSpikes_3 rfl ?_
      refine wa_getI dX3_loseSpikes_4 fgX3_30 (by first | assumption | rfl) (by rfl) ?_
      refine wa_ic_geT 28 dX3_loseSpikes_7 (by decide) (by simp (disch := omega) only [bI_off]; rw [hn]; exact le_nI (by omega) (by omega)) ?_
      refine wa_iconst (nI 0) dX3_loseSpikes_28 (by decide) ?_
      refine wa_istore_n dX3_loseSpikes_29 (by decide) ?_
      refine wa_iconst (nI 0) dX3_loseSpikes_30 (by decide) ?_
      refine wa_istore_n dX3_loseSpikes_31 (by decide) ?_
      have e := loop2 i 0 (by omega)
      rw [lsF_0, lsF_0] at e
      have e1 : bI (bI (bI μ (t + 3) (F i)) (t + 1) (μ.1 (t + 1))) (t + 2) (μ.1 (t + 2)) = bI μ (t + 3) (F i) := by
        have a1 := bI_self (bI μ (t + 3) (F i)) (t + 1)
        rw [bI_off (by omega)] at a1
        have a2 := bI_self (bI μ (t + 3) (F i)) (t + 2)
        rw [bI_off (by omega)] at a2
        rw [a1, a2]
      rw [e1] at e
      exact e
    | succ m ih =>
      intro i hi
      have e0 := ih (i + 1) (by omega)
      refine wa_iload_n dX3_loseSpikes_2 rfl ?_
      refine wa_aload_n dX3_loseSpikes_3 rfl ?_
      refine wa_getI dX3_loseSpikes_4 fgX3_30 (by first | assumption | rfl) (by rfl) ?_
      refine wa_ic_geF 28 dX3_loseSpikes_7 (by decide) (by simp (disch := omega) only [bI_off]; rw [hn]; exact nle_nI (by omega) (by omega)) ?_
      refine wa_aload_n dX3_loseSpikes_10 rfl ?_
      refine wa_getR dX3_loseSpikes_11 fgX3_18 (by first | assumption | rfl) (by rfl) ?_
      refine wa_iload_n dX3_loseSpikes_14 rfl ?_
      refine wa_aload_n dX3_loseSpikes_15 rfl ?_
      refine wa_iload_n dX3_loseSpikes_16 rfl ?_
      refine wa_iload_n dX3_loseSpikes_17 rfl ?_
      refine wa_callV2 (k' := kX3_isSpike) (d' := 1) dX3_loseSpikes_18 lmX3_45 kvX3_isSpike (by first | assumption | rfl) (by rfl) (by decide) (by omega) (Nat.le_of_ble_eq_true rfl) ?_
      refine wp_X3_isSpike (n := n) (by assumption) (by omega) (by simp (disch := omega) only [bI_off]; exact hn) (by assumption) (by omega) (fun hq => ?_) (fun hq => ?_)
      · skip
        refine wa_zast _ dX3_loseSpikes_21 (by first | assumption | rfl) (by first | with_reducible rfl | with_reducible assumption | with_reducible exact ix_ma _ _ _ | with_reducible exact ix_maa _ _ _ _ | with_reducible exact ix_a _ _ | with_reducible exact ix_mama _ _ _ _ _) (by omega) (Or.inr rfl) ?_
        refine wa_iinc (nI 1) dX3_loseSpikes_22 rfl (by decide) (by decide) ?_
        refine wa_goto 2 dX3_loseSpikes_25 (by decide) ?_
        simp (disch := omega) only [bI_off] at hq
        rw [hp] at hq
        rw [sIb, ← hF, spF_s _ _ _ _ _ _ (by rw [hp, if_pos hq]), hF]
        simp only [nI_add]
        exact e0
      · skip
        refine wa_zast _ dX3_loseSpikes_21 (by first | assumption | rfl) (by first | with_reducible rfl | with_reducible assumption | with_reducible exact ix_ma _ _ _ | with_reducible exact ix_maa _ _ _ _ | with_reducible exact ix_a _ _ | with_reducible exact ix_mama _ _ _ _ _) (by omega) (Or.inl rfl) ?_
        refine wa_iinc (nI 1) dX3_loseSpikes_22 rfl (by decide) (by decide) ?_
        refine wa_goto 2 dX3_loseSpikes_25 (by decide) ?_
        simp (disch := omega) only [bI_off] at hq
        rw [hp] at hq
        rw [sIb, ← hF, spF_s _ _ _ _ _ _ (by rw [hp, hq]; rfl), hF]
        simp only [nI_add]
        exact e0
  refine wa_iconst (nI 0) dX3_loseSpikes_0 (by decide) ?_
  refine wa_istore_n dX3_loseSpikes_1 (by decide) ?_
  have e0 := loop1 n 0 (by omega)
  rw [← hF, spF_0, bI_self] at e0
  exact e0
/-! filling straight -/
def flV (x y : Int32) (g j : Nat) : Int32 := (x.toInt64 + (y.toInt64 - x.toInt64) * (nI j).toInt64 / (nI g).toInt64).toInt32
def fbV (v : Nat → Int32) (a e lim : Nat) : Nat → Int32 := fun b => if a < b ∧ b < lim then flV (v a) (v e) (e - a) (b - a) else v b
def fbS (s : Nat → Int32) (a lim : Nat) : Nat → Int32 := fun b => if a < b ∧ b < lim then nI 2 else s b
theorem fbV_0 (v : Nat → Int32) (a e : Nat) : fbV v a e (a + 1) = v := by
  funext b
  simp only [fbV]
  rw [if_neg (by omega)]
theorem fbS_0 (v : Nat → Int32) (a : Nat) : fbS v a (a + 1) = v := by
  funext b
  simp only [fbS]
  rw [if_neg (by omega)]
theorem fbV_s {v : Nat → Int32} {a e j : Nat} (h : 1 ≤ j) : upd (fbV v a e (a + j)) (a + j) (flV (v a) (v e) (e - a) j) = fbV v a e (a + (j + 1)) := by
  funext b
  by_cases hb : b = a + j
  · subst hb
    simp only [upd, fbV, if_true]
    rw [if_pos (by omega), show a + j - a = j by omega]
  · simp only [upd, fbV, hb, if_false]
    congr 1
    exact propext ⟨fun q => ⟨q.1, by omega⟩, fun q => ⟨q.1, by omega⟩⟩
theorem fbS_s {v : Nat → Int32} {a j : Nat} (h : 1 ≤ j) : upd (fbS v a (a + j)) (a + j) (nI 2) = fbS v a (a + (j + 1)) := by
  funext b
  by_cases hb : b = a + j
  · subst hb
    simp only [upd, fbS, if_true]
    rw [if_pos (by omega)]
  · simp only [upd, fbS, hb, if_false]
    congr 1
    exact propext ⟨fun q => ⟨q.1, by omega⟩, fun q => ⟨q.1, by omega⟩⟩
theorem nIl_ne {n : Nat} (h : 0 < n) (h2 : n < 2 ^ 31) : ¬ (nI n).toInt64 = 0 := by
  intro q
  have := congrArg Int64.toInt q
  rw [Int32.toInt_toInt64, nI_toInt h2, z64] at this
  omega
theorem wp_X3_fillBetween {d t a e : Nat} {x : Int32} {μ : Mem} {Q : QM} (ht : isS t) (hx : x = nI a) (hae : a < e) (he : e < 64) (hQ : Q none (bI (bI μ (t + 1) (fbV (μ.1 (t + 1)) a e e)) (t + 2) (fbS (μ.1 (t + 2)) a e))) : MW kX3_fillBetween d [.ref t, .int x, .int (nI e)] μ Q := by
  obtain ⟨hs0t, hs1t, hs2t, hs3t⟩ := isS_sh ht
  have hmt := isS_mod ht
  subst hx
  refine MW_of (by decide) [some (.ref t), some (.int (nI a)), some (.int (nI e)), none, none, none, none, none, none] rfl (Nat.le_of_ble_eq_true rfl) ?_
  have loop : ∀ m j, j + m = e - a → 1 ≤ j → WA kX3_fillBetween d Q 27 [some (.ref t), some (.int (nI a)), some (.int (nI e)), some (.long (μ.1 (t + 1) a).toInt64), none, some (.long ((μ.1 (t + 1) e).toInt64 - (μ.1 (t + 1) a).toInt64)), none, some (.int (nI (e - a))), some (.int (nI j))] [] (bI (bI μ (t + 1) (fbV (μ.1 (t + 1)) a e (a + j))) (t + 2) (fbS (μ.1 (t + 2)) a (a + j))) := by
    intro m
    induction m with
    | zero =>
      intro j hj h1
      obtain rfl : j = e - a := by omega
      refine wa_iload dX3_fillBetween_27 rfl ?_
      refine wa_iload dX3_fillBetween_29 rfl ?_
      refine wa_ic_geT 72 dX3_fillBetween_31 (by decide) (le_nI (by omega) (by omega)) ?_
      refine wa_vret dX3_fillBetween_72 rfl ?_
      rw [show a + (e - a) = e by omega]; exact hQ
    | succ m ih =>
      intro j hj h1
      have e0 := ih (j + 1) (by omega) (by omega)
      refine wa_iload dX3_fillBetween_27 rfl ?_
      refine wa_iload dX3_fillBetween_29 rfl ?_
      refine wa_ic_geF 72 dX3_fillBetween_31 (by decide) (nle_nI (by omega) (by omega)) ?_
      refine wa_aload_n dX3_fillBetween_34 rfl ?_
      refine wa_getR dX3_fillBetween_35 fgX3_9 (by first | assumption | rfl) (by rfl) ?_
      refine wa_iload_n dX3_fillBetween_38 rfl ?_
      refine wa_iload dX3_fillBetween_39 rfl ?_
      refine wa_iadd dX3_fillBetween_41 ?_
      refine wa_lload_n dX3_fillBetween_42 rfl ?_
      refine wa_lload dX3_fillBetween_43 rfl ?_
      refine wa_iload dX3_fillBetween_45 rfl ?_
      refine wa_i2l dX3_fillBetween_47 ?_
      refine wa_lmul dX3_fillBetween_48 ?_
      refine wa_iload dX3_fillBetween_49 rfl ?_
      refine wa_i2l dX3_fillBetween_51 ?_
      refine wa_ldiv dX3_fillBetween_52 (nIl_ne (by omega) (by omega)) ?_
      refine wa_ladd dX3_fillBetween_53 ?_
      refine wa_l2i dX3_fillBetween_54 ?_
      refine wa_iast _ dX3_fillBetween_55 (by first | assumption | rfl) (by first | with_reducible rfl | with_reducible assumption | with_reducible exact ix_ma _ _ _ | with_reducible exact ix_maa _ _ _ _ | with_reducible exact ix_a _ _ | with_reducible exact ix_mama _ _ _ _ _) (by omega) ?_
      refine wa_aload_n dX3_fillBetween_56 rfl ?_
      refine wa_getR dX3_fillBetween_57 fgX3_15 (by first | assumption | rfl) (by rfl) ?_
      refine wa_iload_n dX3_fillBetween_60 rfl ?_
      refine wa_iload dX3_fillBetween_61 rfl ?_
      refine wa_iadd dX3_fillBetween_63 ?_
      refine wa_iconst (nI 2) dX3_fillBetween_64 (by decide) ?_
      refine wa_iast _ dX3_fillBetween_65 (by first | assumption | rfl) (by first | with_reducible rfl | with_reducible assumption | with_reducible exact ix_ma _ _ _ | with_reducible exact ix_maa _ _ _ _ | with_reducible exact ix_a _ _ | with_reducible exact ix_mama _ _ _ _ _) (by omega) ?_
      refine wa_iinc (nI 1) dX3_fillBetween_66 rfl (by decide) (by decide) ?_
      refine wa_goto 27 dX3_fillBetween_69 (by decide) ?_
      rw [sIb2 _ _ _ _ _ (by omega), sIb]
      have a1 := fbV_s (v := μ.1 (t + 1)) (a := a) (e := e) h1
      unfold flV at a1
      rw [a1, fbS_s h1]
      simp only [nI_add]
      exact e0
  refine wa_aload_n dX3_fillBetween_0 rfl ?_
  refine wa_getR dX3_fillBetween_1 fgX3_9 (by first | assumption | rfl) (by rfl) ?_
  refine wa_iload_n dX3_fillBetween_4 rfl ?_
  refine wa_iald _ dX3_fillBetween_5 (by first | assumption | rfl) (by first | with_reducible rfl | with_reducible assumption | with_reducible exact ix_ma _ _ _ | with_reducible exact ix_maa _ _ _ _ | with_reducible exact ix_a _ _ | with_reducible exact ix_mama _ _ _ _ _) (by omega) ?_
  refine wa_i2l dX3_fillBetween_6 ?_
  refine wa_lstore_n dX3_fillBetween_7 (by decide) ?_
  refine wa_aload_n dX3_fillBetween_8 rfl ?_
  refine wa_getR dX3_fillBetween_9 fgX3_9 (by first | assumption | rfl) (by rfl) ?_
  refine wa_iload_n dX3_fillBetween_12 rfl ?_
  refine wa_iald _ dX3_fillBetween_13 (by first | assumption | rfl) (by first | with_reducible rfl | with_reducible assumption | with_reducible exact ix_ma _ _ _ | with_reducible exact ix_maa _ _ _ _ | with_reducible exact ix_a _ _ | with_reducible exact ix_mama _ _ _ _ _) (by omega) ?_
  refine wa_i2l dX3_fillBetween_14 ?_
  refine wa_lload_n dX3_fillBetween_15 rfl ?_
  refine wa_lsub dX3_fillBetween_16 ?_
  refine wa_lstore dX3_fillBetween_17 (by decide) ?_
  refine wa_iload_n dX3_fillBetween_19 rfl ?_
  refine wa_iload_n dX3_fillBetween_20 rfl ?_
  refine wa_isub dX3_fillBetween_21 ?_
  refine wa_istore dX3_fillBetween_22 (by decide) ?_
  refine wa_iconst (nI 1) dX3_fillBetween_24 (by decide) ?_
  refine wa_istore dX3_fillBetween_25 (by decide) ?_
  have e0 := loop (e - a - 1) 1 (by omega) (by omega)
  rw [fbV_0, fbS_0, bI_self, bI_self, ← pk_sub (show a ≤ e by omega)] at e0
  exact e0
end
section
/-! fill(): every GAP is closed where its end is met -/
def prvN (s : Nat → Int32) : Nat → Nat
  | 0 => 0
  | b + 1 => if (s b).toInt = 0 then prvN s b else b + 1
def fOk (s : Nat → Int32) (m : Int) (e : Nat) : Prop := ¬ (s e).toInt = 0 ∧ 0 < prvN s e ∧ (e : Int) - prvN s e ≤ m
def fOkB (s : Nat → Int32) (m : Int) (e : Nat) : Bool := decide (¬ (s e).toInt = 0 ∧ 0 < prvN s e ∧ (e : Int) - prvN s e ≤ m)
def fiV (s v : Nat → Int32) (m : Int) : Nat → (Nat → Int32)
  | 0 => v
  | e + 1 => if fOkB s m e = true then fbV (fiV s v m e) (prvN s e - 1) e e else fiV s v m e
def fiS (s : Nat → Int32) (m : Int) : Nat → (Nat → Int32)
  | 0 => s
  | e + 1 => if fOkB s m e = true then fbS (fiS s m e) (prvN s e - 1) e else fiS s m e
def fiC (s : Nat → Int32) (m : Int) : Nat → Nat
  | 0 => 0
  | e + 1 => if fOkB s m e = true then fiC s m e + (e - prvN s e) else fiC s m e
theorem prvN_le (s : Nat → Int32) : ∀ b, prvN s b ≤ b
  | 0 => Nat.le_refl 0
  | b + 1 => by
    have := prvN_le s b
    rw [prvN]
    split <;> omega
/-- behind the latest that stands, all are LOST -/
theorem prvN_gap (s : Nat → Int32) : ∀ b i, prvN s b ≤ i → i < b → (s i).toInt = 0
  | 0, i, _, h => by omega
  | b + 1, i, h1, h2 => by
    rw [prvN] at h1
    split at h1
    · rename_i hb
      by_cases hi : i = b
      · subst hi; exact hb
      · exact prvN_gap s b i h1 (by omega)
    · omega
theorem prvN_at (s : Nat → Int32) : ∀ b, 0 < prvN s b → ¬ (s (prvN s b - 1)).toInt = 0
  | 0, h => by simp [prvN] at h
  | b + 1, h => by
    rw [prvN] at h ⊢
    split at h
    · rename_i hb
      rw [if_pos hb]
      exact prvN_at s b h
    · rename_i hb
      rw [if_neg hb]
      simpa using hb
theorem fiS_ge (s : Nat → Int32) (m : Int) : ∀ e b, e ≤ b → fiS s m e b = s b
  | 0, b, _ => rfl
  | e + 1, b, h => by
    have ih := fiS_ge s m e b (by omega)
    rw [fiS]
    split
    · rw [fbS, if_neg (by omega)]
      exact ih
    · exact ih
theorem fiV_ge (s v : Nat → Int32) (m : Int) : ∀ e b, e ≤ b → fiV s v m e b = v b
  | 0, b, _ => rfl
  | e + 1, b, h => by
    have ih := fiV_ge s v m e b (by omega)
    rw [fiV]
    split
    · rw [fbV, if_neg (by omega)]
      exact ih
    · exact ih
theorem fiC_le (s : Nat → Int32) (m : Int) : ∀ e, fiC s m e ≤ prvN s e
  | 0 => Nat.le_refl 0
  | e + 1 => by
    have ih := fiC_le s m e
    have h2 := prvN_le s e
    rw [fiC, prvN]
    by_cases h : (s e).toInt = 0
    · have : ¬ fOkB s m e = true := by
        intro q
        exact (of_decide_eq_true q).1 h
      rw [if_neg this, if_pos h]
      exact ih
    · rw [if_neg h]
      split <;> omega
theorem wp_X3_fillGaps {d t n : Nat} {g : Int32} {μ : Mem} {Q : QM} (ht : isS t) (hd : 1 ≤ d) (hn : μ.1 t 2 = nI n) (hn64 : n ≤ 64)
    (hQ : Q (some (.int (nI (fiC (μ.1 (t + 2)) g.toInt n)))) (bI (bI μ (t + 1) (fiV (μ.1 (t + 2)) (μ.1 (t + 1)) g.toInt n)) (t + 2) (fiS (μ.1 (t + 2)) g.toInt n))) : MW kX3_fillGaps d [.ref t, .int g] μ Q := by
  obtain ⟨hs0t, hs1t, hs2t, hs3t⟩ := isS_sh ht
  have hmt := isS_mod ht
  refine MW_of (by decide) [some (.ref t), some (.int g), none, none, none, none] rfl (Nat.le_of_ble_eq_true rfl) ?_
  generalize hs : μ.1 (t + 2) = s at hQ
  generalize hv : μ.1 (t + 1) = v at hQ
  have loop : ∀ m i (x : Int32), i + m = n → x.toInt = (prvN s i : Int) - 1 → WA kX3_fillGaps d Q 7 [some (.ref t), some (.int g), some (.int (nI (fiC s g.toInt i))), some (.int x), some (.int (nI i)), none] [] (bI (bI μ (t + 1) (fiV s v g.toInt i)) (t + 2) (fiS s g.toInt i)) := by
    intro m
    induction m with
    | zero =>
      intro i x hi hx
      obtain rfl : i = n := by omega
      refine wa_iload dX3_fillGaps_7 rfl ?_
      refine wa_aload_n dX3_fillGaps_9 rfl ?_
      refine wa_getI dX3_fillGaps_10 fgX3_30 (by first | assumption | rfl) (by rfl) ?_
      refine wa_ic_geT 64 dX3_fillGaps_13 (by decide) (by simp (disch := omega) only [bI_off]; rw [hn]; exact le_nI (by omega) (by omega)) ?_
      refine wa_iload_n dX3_fillGaps_64 rfl ?_
      refine wa_iret dX3_fillGaps_65 rfl ?_
      exact hQ
    | succ m ih =>
      intro i x hi hx
      have hp := prvN_le s i
      have hc := fiC_le s g.toInt i
      have eS : fiS s g.toInt i i = s i := fiS_ge s g.toInt i i (Nat.le_refl i)
      by_cases h0 : (s i).toInt = 0
      · have e := ih (i + 1) x (by omega) (by rw [prvN, if_pos h0]; exact hx)
        have hno : ¬ fOkB s g.toInt i = true := fun q => (of_decide_eq_true q).1 h0
        rw [fiC, fiV, fiS, if_neg hno, if_neg hno, if_neg hno] at e
        refine wa_iload dX3_fillGaps_7 rfl ?_
        refine wa_aload_n dX3_fillGaps_9 rfl ?_
        refine wa_getI dX3_fillGaps_10 fgX3_30 (by first | assumption | rfl) (by rfl) ?_
        refine wa_ic_geF 64 dX3_fillGaps_13 (by decide) (by simp (disch := omega) only [bI_off]; rw [hn]; exact nle_nI (by omega) (by omega)) ?_
        refine wa_aload_n dX3_fillGaps_16 rfl ?_
        refine wa_iload dX3_fillGaps_17 rfl ?_
        refine wa_callV1 (k' := kX3_isLost) (d' := 0) dX3_fillGaps_19 lmX3_53 kvX3_isLost (by first | assumption | rfl) (by rfl) (by decide) (by omega) (Nat.le_of_ble_eq_true rfl) ?_
        refine wp_X3_isLost (by assumption) rfl (by omega) (fun hl => ?_) (fun hl => absurd (by rw [rb1e, eS]; exact h0) hl)
        refine wa_if_neT 58 dX3_fillGaps_22 (by decide) (by decide) ?_
        refine wa_iinc (nI 1) dX3_fillGaps_58 rfl (by decide) (by decide) ?_
        refine wa_goto 7 dX3_fillGaps_61 (by decide) ?_
        simp only [nI_add]; exact e
      · have hnx : (nI i).toInt = ((prvN s (i + 1) : Nat) : Int) - 1 := by
          rw [prvN, if_neg h0, nI_toInt (by omega)]
          omega
        have e := ih (i + 1) (nI i) (by omega) hnx
        have hgap : nI i - x - nI 1 = nI (i - prvN s i) := by
          have hxx : x = nI (prvN s i) - nI 1 := by
            apply Int32.toInt_inj.mp
            rw [hx]
            by_cases hz : prvN s i = 0
            · rw [hz]
              decide
            · rw [pk_sub (by omega), nI_toInt (by omega)]
              omega
          rw [hxx, ← pk_sub hp]
          generalize nI i = p
          generalize nI (prvN s i) = q
          generalize nI 1 = r
          apply Int32.toBitVec_inj.mp
          simp only [Int32.toBitVec_sub]
          generalize p.toBitVec = p
          generalize q.toBitVec = q
          generalize r.toBitVec = r
          bv_omega
        by_cases hok : fOkB s g.toInt i = true
        · have hok2 := of_decide_eq_true hok
          rw [fiC, fiV, fiS, if_pos hok, if_pos hok, if_pos hok] at e
          refine wa_iload dX3_fillGaps_7 rfl ?_
          refine wa_aload_n dX3_fillGaps_9 rfl ?_
          refine wa_getI dX3_fillGaps_10 fgX3_30 (by first | assumption | rfl) (by rfl) ?_
          refine wa_ic_geF 64 dX3_fillGaps_13 (by decide) (by simp (disch := omega) only [bI_off]; rw [hn]; exact nle_nI (by omega) (by omega)) ?_
          refine wa_aload_n dX3_fillGaps_16 rfl ?_
          refine wa_iload dX3_fillGaps_17 rfl ?_
          refine wa_callV1 (k' := kX3_isLost) (d' := 0) dX3_fillGaps_19 lmX3_53 kvX3_isLost (by first | assumption | rfl) (by rfl) (by decide) (by omega) (Nat.le_of_ble_eq_true rfl) ?_
          refine wp_X3_isLost (by assumption) rfl (by omega) (fun hl => absurd (by rw [rb1e, eS] at hl; exact hl) h0) (fun hl => ?_)
          refine wa_if_neF 58 dX3_fillGaps_22 (by decide) (by decide) ?_
          refine wa_iload dX3_fillGaps_25 rfl ?_
          refine wa_iload_n dX3_fillGaps_27 rfl ?_
          refine wa_isub dX3_fillGaps_28 ?_
          refine wa_iconst (nI 1) dX3_fillGaps_29 (by decide) ?_
          refine wa_isub dX3_fillGaps_30 ?_
          refine wa_istore dX3_fillGaps_31 (by decide) ?_
          refine wa_iload_n dX3_fillGaps_33 rfl ?_
          refine wa_if_ltF 55 dX3_fillGaps_34 (by decide) (by omega) ?_
          refine wa_iload dX3_fillGaps_37 rfl ?_
          refine wa_iload_n dX3_fillGaps_39 rfl ?_
          refine wa_ic_gtF 55 dX3_fillGaps_40 (by decide) (by rw [hgap, nI_toInt (by omega)]; omega) ?_
          refine wa_aload_n dX3_fillGaps_43 rfl ?_
          refine wa_iload_n dX3_fillGaps_44 rfl ?_
          refine wa_iload dX3_fillGaps_45 rfl ?_
          refine wa_callV2 (k' := kX3_fillBetween) (d' := 0) dX3_fillGaps_47 lmX3_65 kvX3_fillBetween (by first | assumption | rfl) (by rfl) (by decide) (by omega) (Nat.le_of_ble_eq_true rfl) ?_
          refine wp_X3_fillBetween (a := prvN s i - 1) (by assumption) (by apply Int32.toInt_inj.mp; rw [hx, nI_toInt (by omega)]; omega) (by omega) (by omega) ?_
          refine wa_iload_n dX3_fillGaps_50 rfl ?_
          refine wa_iload dX3_fillGaps_51 rfl ?_
          refine wa_iadd dX3_fillGaps_53 ?_
          refine wa_istore_n dX3_fillGaps_54 (by decide) ?_
          refine wa_iload dX3_fillGaps_55 rfl ?_
          refine wa_istore_n dX3_fillGaps_57 (by decide) ?_
          refine wa_iinc (nI 1) dX3_fillGaps_58 rfl (by decide) (by decide) ?_
          refine wa_goto 7 dX3_fillGaps_61 (by decide) ?_
          simp (disch := omega) only [bI_off, rb1e, hgap, nI_add]
          rw [bI_comm _ _ _ (show t + 2 ≠ t + 1 by omega), bI_bI, bI_bI]
          refine WA.frg [true, true, true, true, true, false] ?_
          exact e
        · rw [fiC, fiV, fiS, if_neg hok, if_neg hok, if_neg hok] at e
          have hk : x.toInt < 0 ∨ g.toInt < (i : Int) - prvN s i := by
            by_cases h1 : x.toInt < 0
            · exact Or.inl h1
            · refine Or.inr ?_
              by_cases h2 : g.toInt < (i : Int) - prvN s i
              · exact h2
              · exact absurd (decide_eq_true ⟨h0, by omega, by omega⟩) hok
          refine wa_iload dX3_fillGaps_7 rfl ?_
          refine wa_aload_n dX3_fillGaps_9 rfl ?_
          refine wa_getI dX3_fillGaps_10 fgX3_30 (by first | assumption | rfl) (by rfl) ?_
          refine wa_ic_geF 64 dX3_fillGaps_13 (by decide) (by simp (disch := omega) only [bI_off]; rw [hn]; exact nle_nI (by omega) (by omega)) ?_
          refine wa_aload_n dX3_fillGaps_16 rfl ?_
          refine wa_iload dX3_fillGaps_17 rfl ?_
          refine wa_callV1 (k' := kX3_isLost) (d' := 0) dX3_fillGaps_19 lmX3_53 kvX3_isLost (by first | assumption | rfl) (by rfl) (by decide) (by omega) (Nat.le_of_ble_eq_true rfl) ?_
          refine wp_X3_isLost (by assumption) rfl (by omega) (fun hl => absurd (by rw [rb1e, eS] at hl; exact hl) h0) (fun hl => ?_)
          refine wa_if_neF 58 dX3_fillGaps_22 (by decide) (by decide) ?_
          refine wa_iload dX3_fillGaps_25 rfl ?_
          refine wa_iload_n dX3_fillGaps_27 rfl ?_
          refine wa_isub dX3_fillGaps_28 ?_
          refine wa_iconst (nI 1) dX3_fillGaps_29 (by decide) ?_
          refine wa_isub dX3_fillGaps_30 ?_
          refine wa_istore dX3_fillGaps_31 (by decide) ?_
          refine wa_iload_n dX3_fillGaps_33 rfl ?_
          refine wa_if_lt 55 dX3_fillGaps_34 (by decide) (fun c34_2 => ?_) (fun c34_2 => ?_)
          · try simp (disch := omega) only [nI_toInt, hgap] at c34_2
            refine wa_iload dX3_fillGaps_55 rfl ?_
            refine wa_istore_n dX3_fillGaps_57 (by decide) ?_
            refine wa_iinc (nI 1) dX3_fillGaps_58 rfl (by decide) (by decide) ?_
            refine wa_goto 7 dX3_fillGaps_61 (by decide) ?_
            refine WA.frg [true, true, true, true, true, false] ?_
            simp only [nI_add]
            exact e
          · try simp (disch := omega) only [nI_toInt, hgap] at c34_2
            refine wa_iload dX3_fillGaps_37 rfl ?_
            refine wa_iload_n dX3_fillGaps_39 rfl ?_
            refine wa_ic_gt 55 dX3_fillGaps_40 (by decide) (fun c40_3 => ?_) (fun c40_3 => ?_)
            · try simp (disch := omega) only [nI_toInt, hgap] at c40_3
              refine wa_iload dX3_fillGaps_55 rfl ?_
              refine wa_istore_n dX3_fillGaps_57 (by decide) ?_
              refine wa_iinc (nI 1) dX3_fillGaps_58 rfl (by decide) (by decide) ?_
              refine wa_goto 7 dX3_fillGaps_61 (by decide) ?_
              refine WA.frg [true, true, true, true, true, false] ?_
              simp only [nI_add]
              exact e
            · try simp (disch := omega) only [nI_toInt, hgap] at c40_3
              rw [nI_toInt (by omega)] at *; omega
  refine wa_iconst (nI 0) dX3_fillGaps_0 (by decide) ?_
  refine wa_istore_n dX3_fillGaps_1 (by decide) ?_
  refine wa_iconst (-1) dX3_fillGaps_2 (by decide) ?_
  refine wa_istore_n dX3_fillGaps_3 (by decide) ?_
  refine wa_iconst (nI 0) dX3_fillGaps_4 (by decide) ?_
  refine wa_istore dX3_fillGaps_5 (by decide) ?_
  have e0 := loop n 0 (-1) (by omega) (by rw [prvN]; decide)
  have e1 : bI (bI μ (t + 1) v) (t + 2) s = μ := by rw [← hs, ← hv, bI_self, bI_self]
  rw [fiV, fiS, e1] at e0
  exact e0
end
