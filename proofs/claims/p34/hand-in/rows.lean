section
-- ===== PART A: goes FIRST, ahead of the names: the tables' words, and 'selects' of the private methods out of them =====
/-- a private method of a class that the tables say can be made, by its rows of tables_1 -/
def lw_okq (q : MethodName × Nat) : Prop := (q.1.cls ≠ "java/lang/invoke/MethodHandle" ∧ q.1.cls ≠ "java/lang/invoke/VarHandle") ∧ Cond.instantiable q.1.cls q.2 ∈ tables_1 ∧ Cond.privateMethod q.1 ∈ tables_1 ∧ Cond.instanceMethod q.1 ∈ tables_1
theorem lw_p0 : lw_okq (⟨"WaveBuoys$Row", "isPowerOfTwo", "()Z"⟩, 5) := ⟨⟨by decide +kernel, by decide +kernel⟩, List.mem_of_getElem? (i := 48) (by decide +kernel), List.mem_of_getElem? (i := 178) (by decide +kernel), List.mem_of_getElem? (i := 179) (by decide +kernel)⟩
theorem lw_p1 : lw_okq (⟨"WaveBuoys$Row", "makeLevel", "()V"⟩, 5) := ⟨⟨by decide +kernel, by decide +kernel⟩, List.mem_of_getElem? (i := 48) (by decide +kernel), List.mem_of_getElem? (i := 194) (by decide +kernel), List.mem_of_getElem? (i := 195) (by decide +kernel)⟩
theorem lw_p2 : lw_okq (⟨"WaveBuoys$Row", "sum", "()J"⟩, 5) := ⟨⟨by decide +kernel, by decide +kernel⟩, List.mem_of_getElem? (i := 48) (by decide +kernel), List.mem_of_getElem? (i := 198) (by decide +kernel), List.mem_of_getElem? (i := 199) (by decide +kernel)⟩
theorem lw_p3 : lw_okq (⟨"WaveBuoys$Row", "makeFlat", "()V"⟩, 5) := ⟨⟨by decide +kernel, by decide +kernel⟩, List.mem_of_getElem? (i := 48) (by decide +kernel), List.mem_of_getElem? (i := 202) (by decide +kernel), List.mem_of_getElem? (i := 203) (by decide +kernel)⟩
theorem lw_p4 : lw_okq (⟨"WaveBuoys$Row", "makeTwice", "()V"⟩, 5) := ⟨⟨by decide +kernel, by decide +kernel⟩, List.mem_of_getElem? (i := 48) (by decide +kernel), List.mem_of_getElem? (i := 207) (by decide +kernel), List.mem_of_getElem? (i := 208) (by decide +kernel)⟩
theorem lw_p5 : lw_okq (⟨"WaveBuoys$Row", "makeTones", "()V"⟩, 5) := ⟨⟨by decide +kernel, by decide +kernel⟩, List.mem_of_getElem? (i := 48) (by decide +kernel), List.mem_of_getElem? (i := 211) (by decide +kernel), List.mem_of_getElem? (i := 212) (by decide +kernel)⟩
theorem lw_p6 : lw_okq (⟨"WaveBuoys$Row", "toneMask", "(I)I"⟩, 5) := ⟨⟨by decide +kernel, by decide +kernel⟩, List.mem_of_getElem? (i := 48) (by decide +kernel), List.mem_of_getElem? (i := 215) (by decide +kernel), List.mem_of_getElem? (i := 216) (by decide +kernel)⟩
theorem lw_p7 : lw_okq (⟨"WaveBuoys$Row", "becomeFresh", "()I"⟩, 5) := ⟨⟨by decide +kernel, by decide +kernel⟩, List.mem_of_getElem? (i := 48) (by decide +kernel), List.mem_of_getElem? (i := 225) (by decide +kernel), List.mem_of_getElem? (i := 226) (by decide +kernel)⟩
theorem lw_p8 : lw_okq (⟨"WaveBuoys", "sampleFailure", "(II)I"⟩, 5) := ⟨⟨by decide +kernel, by decide +kernel⟩, List.mem_of_getElem? (i := 11) (by decide +kernel), List.mem_of_getElem? (i := 296) (by decide +kernel), List.mem_of_getElem? (i := 297) (by decide +kernel)⟩
theorem lw_p9 : lw_okq (⟨"WaveBuoys", "sheetFailure", "(I)I"⟩, 5) := ⟨⟨by decide +kernel, by decide +kernel⟩, List.mem_of_getElem? (i := 11) (by decide +kernel), List.mem_of_getElem? (i := 300) (by decide +kernel), List.mem_of_getElem? (i := 301) (by decide +kernel)⟩
theorem lw_p10 : lw_okq (⟨"WaveBuoys$Sheet", "samplesThatStand", "(I)I"⟩, 6) := ⟨⟨by decide +kernel, by decide +kernel⟩, List.mem_of_getElem? (i := 20) (by decide +kernel), List.mem_of_getElem? (i := 328) (by decide +kernel), List.mem_of_getElem? (i := 329) (by decide +kernel)⟩
def lw_privs_1 : List (MethodName × Nat) := [(⟨"WaveBuoys$Row", "isPowerOfTwo", "()Z"⟩, 5), (⟨"WaveBuoys$Row", "makeLevel", "()V"⟩, 5), (⟨"WaveBuoys$Row", "sum", "()J"⟩, 5), (⟨"WaveBuoys$Row", "makeFlat", "()V"⟩, 5), (⟨"WaveBuoys$Row", "makeTwice", "()V"⟩, 5), (⟨"WaveBuoys$Row", "makeTones", "()V"⟩, 5), (⟨"WaveBuoys$Row", "toneMask", "(I)I"⟩, 5), (⟨"WaveBuoys$Row", "becomeFresh", "()I"⟩, 5), (⟨"WaveBuoys", "sampleFailure", "(II)I"⟩, 5), (⟨"WaveBuoys", "sheetFailure", "(I)I"⟩, 5), (⟨"WaveBuoys$Sheet", "samplesThatStand", "(I)I"⟩, 6)]
theorem lw_r1 : ∀ q ∈ lw_privs_1, lw_okq q := List.forall_mem_cons.mpr ⟨lw_p0, List.forall_mem_cons.mpr ⟨lw_p1, List.forall_mem_cons.mpr ⟨lw_p2, List.forall_mem_cons.mpr ⟨lw_p3, List.forall_mem_cons.mpr ⟨lw_p4, List.forall_mem_cons.mpr ⟨lw_p5, List.forall_mem_cons.mpr ⟨lw_p6, List.forall_mem_cons.mpr ⟨lw_p7, List.forall_mem_cons.mpr ⟨lw_p8, List.forall_mem_cons.mpr ⟨lw_p9, List.forall_mem_cons.mpr ⟨lw_p10, fun _ h => absurd h List.not_mem_nil⟩⟩⟩⟩⟩⟩⟩⟩⟩⟩⟩
def lw_privs : List (MethodName × Nat) := lw_privs_1
def lw_tbl : List Cond := k2_sels lw_privs ++ tables_1
theorem lw_privs_ok : ∀ q ∈ lw_privs, lw_okq q := lw_r1
end
section
def RX0 : String := "WaveBuoys$Mooring"
def TX0 : u_T := fun k => match k with
  | 0 => ("WaveBuoys$Mooring", "anchorX", "J", false)
  | 1 => ("WaveBuoys$Mooring", "anchorY", "J", false)
  | 2 => ("WaveBuoys$Mooring", "reach", "J", false)
  | 3 => ("WaveBuoys$Mooring", "patience", "I", false)
  | 4 => ("WaveBuoys$Mooring", "places", "I", false)
  | 5 => ("WaveBuoys$Mooring", "outOnEnd", "I", false)
  | 6 => ("WaveBuoys$Mooring", "leastX", "I", false)
  | 7 => ("WaveBuoys$Mooring", "greatestX", "I", false)
  | 8 => ("WaveBuoys$Mooring", "leastY", "I", false)
  | _ => ("WaveBuoys$Mooring", "greatestY", "I", false)
def tyX0 : Nat → FieldType := fun k => match k with
  | 0 => .long
  | 1 => .long
  | 2 => .long
  | 3 => .int
  | 4 => .int
  | 5 => .int
  | 6 => .int
  | 7 => .int
  | 8 => .int
  | _ => .int
abbrev wsX00 : List Cond := u_ws RX0 TX0 10
theorem nmX0 : ∀ a, a < 10 → ∀ b, b < 10 → a ≠ b → (TX0 a).2.1 ≠ (TX0 b).2.1 := by decide +kernel
theorem tyX0_ok : ∀ k, k < 10 → parseFieldDescriptor (TX0 k).2.2.1 = some (tyX0 k) := by decide +kernel
abbrev cX0_init : ByteArray := prog_2_method_1_code
def yX0_init : MethodName := ⟨RX0, "<init>", "()V"⟩
def RX1 : String := "WaveBuoys$Packs"
def TX1 : u_T := fun k => match k with
  | 0 => ("WaveBuoys$Packs", "sent", "LWaveBuoys$Sheet;", true)
  | _ => ("WaveBuoys$Packs", "lost", "[Z", true)
def tyX1 : Nat → FieldType := fun k => match k with
  | 0 => .object "WaveBuoys$Sheet"
  | _ => .array .boolean
abbrev wsX10 : List Cond := u_ws RX1 TX1 2
theorem nmX1 : ∀ a, a < 2 → ∀ b, b < 2 → a ≠ b → (TX1 a).2.1 ≠ (TX1 b).2.1 := by decide +kernel
theorem tyX1_ok : ∀ k, k < 2 → parseFieldDescriptor (TX1 k).2.2.1 = some (tyX1 k) := by decide +kernel
abbrev cX1_init : ByteArray := prog_3_method_1_code
def yX1_init : MethodName := ⟨RX1, "<init>", "()V"⟩
def RX2 : String := "WaveBuoys$Row"
def TX2 : u_T := fun k => match k with
  | 0 => ("WaveBuoys$Row", "size", "I", false)
  | 1 => ("WaveBuoys$Row", "values", "[J", true)
  | 2 => ("WaveBuoys$Row", "fresh", "[J", true)
  | 3 => ("WaveBuoys$Row", "ups", "[I", true)
  | _ => ("WaveBuoys$Row", "heights", "[J", true)
def tyX2 : Nat → FieldType := fun k => match k with
  | 0 => .int
  | 1 => .array .long
  | 2 => .array .long
  | 3 => .array .int
  | _ => .array .long
abbrev wsX20 : List Cond := u_ws RX2 TX2 5
theorem nmX2 : ∀ a, a < 5 → ∀ b, b < 5 → a ≠ b → (TX2 a).2.1 ≠ (TX2 b).2.1 := by decide +kernel
theorem tyX2_ok : ∀ k, k < 5 → parseFieldDescriptor (TX2 k).2.2.1 = some (tyX2 k) := by decide +kernel
abbrev cX2_init : ByteArray := prog_4_method_1_code
def yX2_init : MethodName := ⟨RX2, "<init>", "()V"⟩
abbrev cX2_size : ByteArray := prog_4_method_2_code
def yX2_size : MethodName := ⟨RX2, "size", "()I"⟩
abbrev cX2_valueAt : ByteArray := prog_4_method_3_code
def yX2_valueAt : MethodName := ⟨RX2, "valueAt", "(I)J"⟩
abbrev cX2_take : ByteArray := prog_4_method_4_code
def yX2_take : MethodName := ⟨RX2, "take", "(LWaveBuoys$Sheet;)V"⟩
abbrev cX2_change : ByteArray := prog_4_method_5_code
def yX2_change : MethodName := ⟨RX2, "change", "(I)I"⟩
abbrev cX2_isPowerOfTwo : ByteArray := prog_4_method_6_code
def yX2_isPowerOfTwo : MethodName := ⟨RX2, "isPowerOfTwo", "()Z"⟩
abbrev cX2_makeLevel : ByteArray := prog_4_method_7_code
def yX2_makeLevel : MethodName := ⟨RX2, "makeLevel", "()V"⟩
abbrev cX2_makeFlat : ByteArray := prog_4_method_8_code
def yX2_makeFlat : MethodName := ⟨RX2, "makeFlat", "()V"⟩
abbrev cX2_makeTwice : ByteArray := prog_4_method_9_code
def yX2_makeTwice : MethodName := ⟨RX2, "makeTwice", "()V"⟩
abbrev cX2_makeTones : ByteArray := prog_4_method_10_code
def yX2_makeTones : MethodName := ⟨RX2, "makeTones", "()V"⟩
abbrev cX2_toneMask : ByteArray := prog_4_method_11_code
def yX2_toneMask : MethodName := ⟨RX2, "toneMask", "(I)I"⟩
abbrev cX2_sum : ByteArray := prog_4_method_12_code
def yX2_sum : MethodName := ⟨RX2, "sum", "()J"⟩
abbrev cX2_becomeFresh : ByteArray := prog_4_method_13_code
def yX2_becomeFresh : MethodName := ⟨RX2, "becomeFresh", "()I"⟩
abbrev cX2_blend : ByteArray := prog_4_method_15_code
def yX2_blend : MethodName := ⟨RX2, "blend", "(ILWaveBuoys$Row;I)I"⟩
abbrev cX2_anyExceeds : ByteArray := prog_4_method_16_code
def yX2_anyExceeds : MethodName := ⟨RX2, "anyExceeds", "(J)Z"⟩
abbrev cX2_exceeds : ByteArray := prog_4_method_17_code
def yX2_exceeds : MethodName := ⟨RX2, "exceeds", "(JII)Z"⟩
abbrev cX2_squares : ByteArray := prog_4_method_18_code
def yX2_squares : MethodName := ⟨RX2, "squares", "(II)J"⟩
abbrev cX2_products : ByteArray := prog_4_method_19_code
def yX2_products : MethodName := ⟨RX2, "products", "(LWaveBuoys$Row;)J"⟩
def RX3 : String := "WaveBuoys$Sheet"
def TX3 : u_T := fun k => match k with
  | 0 => ("WaveBuoys$Sheet", "there", "Z", false)
  | 1 => ("WaveBuoys$Sheet", "sort", "I", false)
  | 2 => ("WaveBuoys$Sheet", "size", "I", false)
  | 3 => ("WaveBuoys$Sheet", "values", "[I", true)
  | 4 => ("WaveBuoys$Sheet", "states", "[I", true)
  | _ => ("WaveBuoys$Sheet", "spiky", "[Z", true)
def tyX3 : Nat → FieldType := fun k => match k with
  | 0 => .boolean
  | 1 => .int
  | 2 => .int
  | 3 => .array .int
  | 4 => .array .int
  | _ => .array .boolean
abbrev wsX30 : List Cond := u_ws RX3 TX3 6
theorem nmX3 : ∀ a, a < 6 → ∀ b, b < 6 → a ≠ b → (TX3 a).2.1 ≠ (TX3 b).2.1 := by decide +kernel
theorem tyX3_ok : ∀ k, k < 6 → parseFieldDescriptor (TX3 k).2.2.1 = some (tyX3 k) := by decide +kernel
abbrev cX3_init : ByteArray := prog_5_method_1_code
def yX3_init : MethodName := ⟨RX3, "<init>", "()V"⟩
abbrev cX3_begin : ByteArray := prog_5_method_2_code
def yX3_begin : MethodName := ⟨RX3, "begin", "(II)V"⟩
abbrev cX3_isThere : ByteArray := prog_5_method_4_code
def yX3_isThere : MethodName := ⟨RX3, "isThere", "()Z"⟩
abbrev cX3_size : ByteArray := prog_5_method_6_code
def yX3_size : MethodName := ⟨RX3, "size", "()I"⟩
abbrev cX3_has : ByteArray := prog_5_method_7_code
def yX3_has : MethodName := ⟨RX3, "has", "(I)Z"⟩
abbrev cX3_fits : ByteArray := prog_5_method_9_code
def yX3_fits : MethodName := ⟨RX3, "fits", "(I)Z"⟩
abbrev cX3_tell : ByteArray := prog_5_method_10_code
def yX3_tell : MethodName := ⟨RX3, "tell", "(II)V"⟩
abbrev cX3_valueAt : ByteArray := prog_5_method_14_code
def yX3_valueAt : MethodName := ⟨RX3, "valueAt", "(I)I"⟩
abbrev cX3_lostSamples : ByteArray := prog_5_method_23_code
def yX3_lostSamples : MethodName := ⟨RX3, "lostSamples", "()I"⟩
abbrev cX3_samplesThatStand : ByteArray := prog_5_method_24_code
def yX3_samplesThatStand : MethodName := ⟨RX3, "samplesThatStand", "(I)I"⟩
def RX4 : String := "WaveBuoys$Warning"
def TX4 : u_T := fun k => match k with
  | 0 => ("WaveBuoys$Warning", "on", "I", false)
  | 1 => ("WaveBuoys$Warning", "off", "I", false)
  | 2 => ("WaveBuoys$Warning", "hold", "I", false)
  | 3 => ("WaveBuoys$Warning", "state", "I", false)
  | 4 => ("WaveBuoys$Warning", "heard", "I", false)
  | 5 => ("WaveBuoys$Warning", "changes", "I", false)
  | _ => ("WaveBuoys$Warning", "changedAt", "I", false)
def tyX4 : Nat → FieldType := fun k => match k with
  | 0 => .int
  | 1 => .int
  | 2 => .int
  | 3 => .int
  | 4 => .int
  | 5 => .int
  | _ => .int
abbrev wsX40 : List Cond := u_ws RX4 TX4 7
theorem nmX4 : ∀ a, a < 7 → ∀ b, b < 7 → a ≠ b → (TX4 a).2.1 ≠ (TX4 b).2.1 := by decide +kernel
theorem tyX4_ok : ∀ k, k < 7 → parseFieldDescriptor (TX4 k).2.2.1 = some (tyX4 k) := by decide +kernel
abbrev cX4_init : ByteArray := prog_6_method_1_code
def yX4_init : MethodName := ⟨RX4, "<init>", "()V"⟩
def RX5 : String := "WaveBuoys"
def TX5 : u_T := fun k => match k with
  | 0 => ("WaveBuoys", "sheets", "[LWaveBuoys$Sheet;", true)
  | 1 => ("WaveBuoys", "rows", "[LWaveBuoys$Row;", true)
  | 2 => ("WaveBuoys", "packs", "LWaveBuoys$Packs;", true)
  | 3 => ("WaveBuoys", "warning", "LWaveBuoys$Warning;", true)
  | _ => ("WaveBuoys", "mooring", "LWaveBuoys$Mooring;", true)
def tyX5 : Nat → FieldType := fun k => match k with
  | 0 => .array (.object "WaveBuoys$Sheet")
  | 1 => .array (.object "WaveBuoys$Row")
  | 2 => .object "WaveBuoys$Packs"
  | 3 => .object "WaveBuoys$Warning"
  | _ => .object "WaveBuoys$Mooring"
abbrev wsX50 : List Cond := u_ws RX5 TX5 5
theorem nmX5 : ∀ a, a < 5 → ∀ b, b < 5 → a ≠ b → (TX5 a).2.1 ≠ (TX5 b).2.1 := by decide +kernel
theorem tyX5_ok : ∀ k, k < 5 → parseFieldDescriptor (TX5 k).2.2.1 = some (tyX5 k) := by decide +kernel
abbrev cX5_init : ByteArray := prog_1_method_1_code
def yX5_init : MethodName := ⟨RX5, "<init>", "()V"⟩
abbrev cX5_sheet : ByteArray := prog_1_method_2_code
def yX5_sheet : MethodName := ⟨RX5, "sheet", "(III)I"⟩
abbrev cX5_put : ByteArray := prog_1_method_4_code
def yX5_put : MethodName := ⟨RX5, "put", "(III)I"⟩
abbrev cX5_raise : ByteArray := prog_1_method_12_code
def yX5_raise : MethodName := ⟨RX5, "raise", "(II)I"⟩
abbrev cX5_number : ByteArray := prog_1_method_13_code
def yX5_number : MethodName := ⟨RX5, "number", "(II)J"⟩
abbrev cX5_turn : ByteArray := prog_1_method_14_code
def yX5_turn : MethodName := ⟨RX5, "turn", "(II)I"⟩
abbrev cX5_mix : ByteArray := prog_1_method_16_code
def yX5_mix : MethodName := ⟨RX5, "mix", "(IIII)I"⟩
abbrev cX5_force : ByteArray := prog_1_method_17_code
def yX5_force : MethodName := ⟨RX5, "force", "(III)J"⟩
abbrev cX5_cross : ByteArray := prog_1_method_18_code
def yX5_cross : MethodName := ⟨RX5, "cross", "(II)J"⟩
abbrev cX5_isSheet : ByteArray := prog_1_method_33_code
def yX5_isSheet : MethodName := ⟨RX5, "isSheet", "(I)Z"⟩
abbrev cX5_isRow : ByteArray := prog_1_method_34_code
def yX5_isRow : MethodName := ⟨RX5, "isRow", "(I)Z"⟩
abbrev cX5_isStretch : ByteArray := prog_1_method_35_code
def yX5_isStretch : MethodName := ⟨RX5, "isStretch", "(III)Z"⟩
abbrev cX5_isWithin : ByteArray := prog_1_method_36_code
def yX5_isWithin : MethodName := ⟨RX5, "isWithin", "(JJ)Z"⟩
abbrev cX5_sheetFailure : ByteArray := prog_1_method_38_code
def yX5_sheetFailure : MethodName := ⟨RX5, "sheetFailure", "(I)I"⟩
abbrev cX5_sampleFailure : ByteArray := prog_1_method_39_code
def yX5_sampleFailure : MethodName := ⟨RX5, "sampleFailure", "(II)I"⟩
def RX6 : String := "WaveBuoysModel"
def TX6 : u_T := fun k => match k with
  | _ => ("", "", "", false)
def tyX6 : Nat → FieldType := fun k => match k with
  | _ => .int
abbrev wsX60 : List Cond := u_ws RX6 TX6 0
theorem nmX6 : ∀ a, a < 0 → ∀ b, b < 0 → a ≠ b → (TX6 a).2.1 ≠ (TX6 b).2.1 := by decide +kernel
theorem tyX6_ok : ∀ k, k < 0 → parseFieldDescriptor (TX6 k).2.2.1 = some (tyX6 k) := by decide +kernel
def RJ6 : String := "java/lang/Integer"
abbrev cJ6_bitCount_0f7a4 : ByteArray := prog_9_method_49_code
def yJ6_bitCount_0f7a4 : MethodName := ⟨RJ6, "bitCount", "(I)I"⟩
def RJ10 : String := "java/lang/System"
def RJ7 : String := "java/util/Arrays"
abbrev cJ7_fill_53178 : ByteArray := prog_11_method_103_code
def yJ7_fill_53178 : MethodName := ⟨RJ7, "fill", "([II)V"⟩
def RL : String := "WaveBuoysLaw"
abbrev cL_cell : ByteArray := method_2_code
def yL_cell : MethodName := ⟨RL, "cell", "([II)I"⟩
abbrev cL_up : ByteArray := method_3_code
def yL_up : MethodName := ⟨RL, "up", "(II)I"⟩
abbrev cL_raised : ByteArray := method_4_code
def yL_raised : MethodName := ⟨RL, "raised", "(LWaveBuoys;II[JI)Z"⟩
abbrev cL_law : ByteArray := code
def yL_law : MethodName := ⟨RL, "law", "([I)Z"⟩
abbrev vwCl : List vw_C := [(RX0, TX0, 10), (RX1, TX1, 2), (RX2, TX2, 5), (RX3, TX3, 6), (RX4, TX4, 7), (RX5, TX5, 5)]
end
section
theorem dX0_init_0 : decode cX0_init 0 = .ok (.aload_n 0, 1) := by decide +kernel
theorem dX0_init_1 : decode cX0_init 1 = .ok (.invokespecial 1, 3) := by decide +kernel
theorem dX0_init_4 : decode cX0_init 4 = .ok (.aload_n 0, 1) := by decide +kernel
theorem dX0_init_5 : decode cX0_init 5 = .ok (.iconst 1, 1) := by decide +kernel
theorem dX0_init_6 : decode cX0_init 6 = .ok (.putfield 7, 3) := by decide +kernel
theorem dX0_init_9 : decode cX0_init 9 = .ok (.return_, 1) := by decide +kernel
theorem dX1_init_0 : decode cX1_init 0 = .ok (.aload_n 0, 1) := by decide +kernel
theorem dX1_init_1 : decode cX1_init 1 = .ok (.invokespecial 1, 3) := by decide +kernel
theorem dX1_init_4 : decode cX1_init 4 = .ok (.aload_n 0, 1) := by decide +kernel
theorem dX1_init_5 : decode cX1_init 5 = .ok (.new 7, 3) := by decide +kernel
theorem dX1_init_8 : decode cX1_init 8 = .ok (.dup, 1) := by decide +kernel
theorem dX1_init_9 : decode cX1_init 9 = .ok (.invokespecial 9, 3) := by decide +kernel
theorem dX1_init_12 : decode cX1_init 12 = .ok (.putfield 10, 3) := by decide +kernel
theorem dX1_init_15 : decode cX1_init 15 = .ok (.aload_n 0, 1) := by decide +kernel
theorem dX1_init_16 : decode cX1_init 16 = .ok (.bipush 10, 2) := by decide +kernel
theorem dX1_init_18 : decode cX1_init 18 = .ok (.newarray .boolean, 2) := by decide +kernel
theorem dX1_init_20 : decode cX1_init 20 = .ok (.putfield 16, 3) := by decide +kernel
theorem dX1_init_23 : decode cX1_init 23 = .ok (.return_, 1) := by decide +kernel
theorem dX2_init_0 : decode cX2_init 0 = .ok (.aload_n 0, 1) := by decide +kernel
theorem dX2_init_1 : decode cX2_init 1 = .ok (.invokespecial 3, 3) := by decide +kernel
theorem dX2_init_4 : decode cX2_init 4 = .ok (.aload_n 0, 1) := by decide +kernel
theorem dX2_init_5 : decode cX2_init 5 = .ok (.bipush 64, 2) := by decide +kernel
theorem dX2_init_7 : decode cX2_init 7 = .ok (.newarray .long, 2) := by decide +kernel
theorem dX2_init_9 : decode cX2_init 9 = .ok (.putfield 9, 3) := by decide +kernel
theorem dX2_init_12 : decode cX2_init 12 = .ok (.aload_n 0, 1) := by decide +kernel
theorem dX2_init_13 : decode cX2_init 13 = .ok (.bipush 64, 2) := by decide +kernel
theorem dX2_init_15 : decode cX2_init 15 = .ok (.newarray .long, 2) := by decide +kernel
theorem dX2_init_17 : decode cX2_init 17 = .ok (.putfield 15, 3) := by decide +kernel
theorem dX2_init_20 : decode cX2_init 20 = .ok (.aload_n 0, 1) := by decide +kernel
theorem dX2_init_21 : decode cX2_init 21 = .ok (.bipush 64, 2) := by decide +kernel
theorem dX2_init_23 : decode cX2_init 23 = .ok (.newarray .int, 2) := by decide +kernel
theorem dX2_init_25 : decode cX2_init 25 = .ok (.putfield 18, 3) := by decide +kernel
theorem dX2_init_28 : decode cX2_init 28 = .ok (.aload_n 0, 1) := by decide +kernel
theorem dX2_init_29 : decode cX2_init 29 = .ok (.bipush 64, 2) := by decide +kernel
theorem dX2_init_31 : decode cX2_init 31 = .ok (.newarray .long, 2) := by decide +kernel
theorem dX2_init_33 : decode cX2_init 33 = .ok (.putfield 22, 3) := by decide +kernel
theorem dX2_init_36 : decode cX2_init 36 = .ok (.return_, 1) := by decide +kernel
theorem dX2_size_0 : decode cX2_size 0 = .ok (.aload_n 0, 1) := by decide +kernel
theorem dX2_size_1 : decode cX2_size 1 = .ok (.getfield 25, 3) := by decide +kernel
theorem dX2_size_4 : decode cX2_size 4 = .ok (.ireturn, 1) := by decide +kernel
theorem dX2_valueAt_0 : decode cX2_valueAt 0 = .ok (.aload_n 0, 1) := by decide +kernel
theorem dX2_valueAt_1 : decode cX2_valueAt 1 = .ok (.getfield 9, 3) := by decide +kernel
theorem dX2_valueAt_4 : decode cX2_valueAt 4 = .ok (.iload_n 1, 1) := by decide +kernel
theorem dX2_valueAt_5 : decode cX2_valueAt 5 = .ok (.laload, 1) := by decide +kernel
theorem dX2_valueAt_6 : decode cX2_valueAt 6 = .ok (.lreturn, 1) := by decide +kernel
theorem dX2_take_0 : decode cX2_take 0 = .ok (.aload_n 0, 1) := by decide +kernel
theorem dX2_take_1 : decode cX2_take 1 = .ok (.aload_n 1, 1) := by decide +kernel
theorem dX2_take_2 : decode cX2_take 2 = .ok (.invokevirtual 29, 3) := by decide +kernel
theorem dX2_take_5 : decode cX2_take 5 = .ok (.putfield 25, 3) := by decide +kernel
theorem dX2_take_8 : decode cX2_take 8 = .ok (.iconst 0, 1) := by decide +kernel
theorem dX2_take_9 : decode cX2_take 9 = .ok (.istore_n 2, 1) := by decide +kernel
theorem dX2_take_10 : decode cX2_take 10 = .ok (.iload_n 2, 1) := by decide +kernel
theorem dX2_take_11 : decode cX2_take 11 = .ok (.aload_n 0, 1) := by decide +kernel
theorem dX2_take_12 : decode cX2_take 12 = .ok (.getfield 25, 3) := by decide +kernel
theorem dX2_take_15 : decode cX2_take 15 = .ok (.if_icmp .ge 21, 3) := by decide +kernel
theorem dX2_take_18 : decode cX2_take 18 = .ok (.aload_n 0, 1) := by decide +kernel
theorem dX2_take_19 : decode cX2_take 19 = .ok (.getfield 9, 3) := by decide +kernel
theorem dX2_take_22 : decode cX2_take 22 = .ok (.iload_n 2, 1) := by decide +kernel
theorem dX2_take_23 : decode cX2_take 23 = .ok (.aload_n 1, 1) := by decide +kernel
theorem dX2_take_24 : decode cX2_take 24 = .ok (.iload_n 2, 1) := by decide +kernel
theorem dX2_take_25 : decode cX2_take 25 = .ok (.invokevirtual 34, 3) := by decide +kernel
theorem dX2_take_28 : decode cX2_take 28 = .ok (.i2l, 1) := by decide +kernel
theorem dX2_take_29 : decode cX2_take 29 = .ok (.lastore, 1) := by decide +kernel
theorem dX2_take_30 : decode cX2_take 30 = .ok (.iinc 2 1, 3) := by decide +kernel
theorem dX2_take_33 : decode cX2_take 33 = .ok (.goto (-23), 3) := by decide +kernel
theorem dX2_take_36 : decode cX2_take 36 = .ok (.return_, 1) := by decide +kernel
theorem dX2_change_0 : decode cX2_change 0 = .ok (.iload_n 1, 1) := by decide +kernel
theorem dX2_change_1 : decode cX2_change 1 = .ok (.iconst 1, 1) := by decide +kernel
theorem dX2_change_2 : decode cX2_change 2 = .ok (.if_icmp .eq 8, 3) := by decide +kernel
theorem dX2_change_5 : decode cX2_change 5 = .ok (.iload_n 1, 1) := by decide +kernel
theorem dX2_change_6 : decode cX2_change 6 = .ok (.iconst 2, 1) := by decide +kernel
theorem dX2_change_7 : decode cX2_change 7 = .ok (.if_icmp .ne 7, 3) := by decide +kernel
theorem dX2_change_10 : decode cX2_change 10 = .ok (.iconst 1, 1) := by decide +kernel
theorem dX2_change_11 : decode cX2_change 11 = .ok (.goto 4, 3) := by decide +kernel
theorem dX2_change_14 : decode cX2_change 14 = .ok (.iconst 0, 1) := by decide +kernel
theorem dX2_change_15 : decode cX2_change 15 = .ok (.istore_n 2, 1) := by decide +kernel
theorem dX2_change_16 : decode cX2_change 16 = .ok (.iload_n 2, 1) := by decide +kernel
theorem dX2_change_17 : decode cX2_change 17 = .ok (.ifCond .eq 11, 3) := by decide +kernel
theorem dX2_change_20 : decode cX2_change 20 = .ok (.aload_n 0, 1) := by decide +kernel
theorem dX2_change_21 : decode cX2_change 21 = .ok (.getfield 25, 3) := by decide +kernel
theorem dX2_change_24 : decode cX2_change 24 = .ok (.iconst 2, 1) := by decide +kernel
theorem dX2_change_25 : decode cX2_change 25 = .ok (.if_icmp .lt 15, 3) := by decide +kernel
theorem dX2_change_28 : decode cX2_change 28 = .ok (.iload_n 1, 1) := by decide +kernel
theorem dX2_change_29 : decode cX2_change 29 = .ok (.iconst 3, 1) := by decide +kernel
theorem dX2_change_30 : decode cX2_change 30 = .ok (.if_icmp .ne 13, 3) := by decide +kernel
theorem dX2_change_33 : decode cX2_change 33 = .ok (.aload_n 0, 1) := by decide +kernel
theorem dX2_change_34 : decode cX2_change 34 = .ok (.invokevirtual 38, 3) := by decide +kernel
theorem dX2_change_37 : decode cX2_change 37 = .ok (.ifCond .ne 6, 3) := by decide +kernel
theorem dX2_change_40 : decode cX2_change 40 = .ok (.bipush (-3), 2) := by decide +kernel
theorem dX2_change_42 : decode cX2_change 42 = .ok (.ireturn, 1) := by decide +kernel
theorem dX2_change_43 : decode cX2_change 43 = .ok (.iload_n 2, 1) := by decide +kernel
theorem dX2_change_44 : decode cX2_change 44 = .ok (.ifCond .eq 16, 3) := by decide +kernel
theorem dX2_change_47 : decode cX2_change 47 = .ok (.aload_n 0, 1) := by decide +kernel
theorem dX2_change_48 : decode cX2_change 48 = .ok (.ldc2_w 42, 3) := by decide +kernel
theorem dX2_change_51 : decode cX2_change 51 = .ok (.invokevirtual 44, 3) := by decide +kernel
theorem dX2_change_54 : decode cX2_change 54 = .ok (.ifCond .eq 6, 3) := by decide +kernel
theorem dX2_change_57 : decode cX2_change 57 = .ok (.bipush (-16), 2) := by decide +kernel
theorem dX2_change_59 : decode cX2_change 59 = .ok (.ireturn, 1) := by decide +kernel
theorem dX2_change_60 : decode cX2_change 60 = .ok (.iload_n 1, 1) := by decide +kernel
theorem dX2_change_61 : decode cX2_change 61 = .ok (.tableswitch 48 0 2 #[27, 34, 41], 27) := by decide +kernel
theorem dX2_change_88 : decode cX2_change 88 = .ok (.aload_n 0, 1) := by decide +kernel
theorem dX2_change_89 : decode cX2_change 89 = .ok (.invokevirtual 48, 3) := by decide +kernel
theorem dX2_change_92 : decode cX2_change 92 = .ok (.goto 21, 3) := by decide +kernel
theorem dX2_change_95 : decode cX2_change 95 = .ok (.aload_n 0, 1) := by decide +kernel
theorem dX2_change_96 : decode cX2_change 96 = .ok (.invokevirtual 51, 3) := by decide +kernel
theorem dX2_change_99 : decode cX2_change 99 = .ok (.goto 14, 3) := by decide +kernel
theorem dX2_change_102 : decode cX2_change 102 = .ok (.aload_n 0, 1) := by decide +kernel
theorem dX2_change_103 : decode cX2_change 103 = .ok (.invokevirtual 54, 3) := by decide +kernel
theorem dX2_change_106 : decode cX2_change 106 = .ok (.goto 7, 3) := by decide +kernel
theorem dX2_change_109 : decode cX2_change 109 = .ok (.aload_n 0, 1) := by decide +kernel
theorem dX2_change_110 : decode cX2_change 110 = .ok (.invokevirtual 57, 3) := by decide +kernel
theorem dX2_change_113 : decode cX2_change 113 = .ok (.aload_n 0, 1) := by decide +kernel
theorem dX2_change_114 : decode cX2_change 114 = .ok (.invokevirtual 60, 3) := by decide +kernel
theorem dX2_change_117 : decode cX2_change 117 = .ok (.ireturn, 1) := by decide +kernel
theorem dX2_isPowerOfTwo_0 : decode cX2_isPowerOfTwo 0 = .ok (.aload_n 0, 1) := by decide +kernel
theorem dX2_isPowerOfTwo_1 : decode cX2_isPowerOfTwo 1 = .ok (.getfield 25, 3) := by decide +kernel
theorem dX2_isPowerOfTwo_4 : decode cX2_isPowerOfTwo 4 = .ok (.ifCond .le 21, 3) := by decide +kernel
theorem dX2_isPowerOfTwo_7 : decode cX2_isPowerOfTwo 7 = .ok (.aload_n 0, 1) := by decide +kernel
theorem dX2_isPowerOfTwo_8 : decode cX2_isPowerOfTwo 8 = .ok (.getfield 25, 3) := by decide +kernel
theorem dX2_isPowerOfTwo_11 : decode cX2_isPowerOfTwo 11 = .ok (.aload_n 0, 1) := by decide +kernel
theorem dX2_isPowerOfTwo_12 : decode cX2_isPowerOfTwo 12 = .ok (.getfield 25, 3) := by decide +kernel
theorem dX2_isPowerOfTwo_15 : decode cX2_isPowerOfTwo 15 = .ok (.iconst 1, 1) := by decide +kernel
theorem dX2_isPowerOfTwo_16 : decode cX2_isPowerOfTwo 16 = .ok (.isub, 1) := by decide +kernel
theorem dX2_isPowerOfTwo_17 : decode cX2_isPowerOfTwo 17 = .ok (.iand, 1) := by decide +kernel
theorem dX2_isPowerOfTwo_18 : decode cX2_isPowerOfTwo 18 = .ok (.ifCond .ne 7, 3) := by decide +kernel
theorem dX2_isPowerOfTwo_21 : decode cX2_isPowerOfTwo 21 = .ok (.iconst 1, 1) := by decide +kernel
theorem dX2_isPowerOfTwo_22 : decode cX2_isPowerOfTwo 22 = .ok (.goto 4, 3) := by decide +kernel
theorem dX2_isPowerOfTwo_25 : decode cX2_isPowerOfTwo 25 = .ok (.iconst 0, 1) := by decide +kernel
theorem dX2_isPowerOfTwo_26 : decode cX2_isPowerOfTwo 26 = .ok (.ireturn, 1) := by decide +kernel
theorem dX2_makeLevel_0 : decode cX2_makeLevel 0 = .ok (.aload_n 0, 1) := by decide +kernel
theorem dX2_makeLevel_1 : decode cX2_makeLevel 1 = .ok (.invokevirtual 63, 3) := by decide +kernel
theorem dX2_makeLevel_4 : decode cX2_makeLevel 4 = .ok (.lstore_n 1, 1) := by decide +kernel
theorem dX2_makeLevel_5 : decode cX2_makeLevel 5 = .ok (.iconst 0, 1) := by decide +kernel
theorem dX2_makeLevel_6 : decode cX2_makeLevel 6 = .ok (.istore_n 3, 1) := by decide +kernel
theorem dX2_makeLevel_7 : decode cX2_makeLevel 7 = .ok (.iload_n 3, 1) := by decide +kernel
theorem dX2_makeLevel_8 : decode cX2_makeLevel 8 = .ok (.aload_n 0, 1) := by decide +kernel
theorem dX2_makeLevel_9 : decode cX2_makeLevel 9 = .ok (.getfield 25, 3) := by decide +kernel
theorem dX2_makeLevel_12 : decode cX2_makeLevel 12 = .ok (.if_icmp .ge 29, 3) := by decide +kernel
theorem dX2_makeLevel_15 : decode cX2_makeLevel 15 = .ok (.aload_n 0, 1) := by decide +kernel
theorem dX2_makeLevel_16 : decode cX2_makeLevel 16 = .ok (.getfield 15, 3) := by decide +kernel
theorem dX2_makeLevel_19 : decode cX2_makeLevel 19 = .ok (.iload_n 3, 1) := by decide +kernel
theorem dX2_makeLevel_20 : decode cX2_makeLevel 20 = .ok (.aload_n 0, 1) := by decide +kernel
theorem dX2_makeLevel_21 : decode cX2_makeLevel 21 = .ok (.getfield 25, 3) := by decide +kernel
theorem dX2_makeLevel_24 : decode cX2_makeLevel 24 = .ok (.i2l, 1) := by decide +kernel
theorem dX2_makeLevel_25 : decode cX2_makeLevel 25 = .ok (.aload_n 0, 1) := by decide +kernel
theorem dX2_makeLevel_26 : decode cX2_makeLevel 26 = .ok (.getfield 9, 3) := by decide +kernel
theorem dX2_makeLevel_29 : decode cX2_makeLevel 29 = .ok (.iload_n 3, 1) := by decide +kernel
theorem dX2_makeLevel_30 : decode cX2_makeLevel 30 = .ok (.laload, 1) := by decide +kernel
theorem dX2_makeLevel_31 : decode cX2_makeLevel 31 = .ok (.lmul, 1) := by decide +kernel
theorem dX2_makeLevel_32 : decode cX2_makeLevel 32 = .ok (.lload_n 1, 1) := by decide +kernel
theorem dX2_makeLevel_33 : decode cX2_makeLevel 33 = .ok (.lsub, 1) := by decide +kernel
theorem dX2_makeLevel_34 : decode cX2_makeLevel 34 = .ok (.lastore, 1) := by decide +kernel
theorem dX2_makeLevel_35 : decode cX2_makeLevel 35 = .ok (.iinc 3 1, 3) := by decide +kernel
theorem dX2_makeLevel_38 : decode cX2_makeLevel 38 = .ok (.goto (-31), 3) := by decide +kernel
theorem dX2_makeLevel_41 : decode cX2_makeLevel 41 = .ok (.return_, 1) := by decide +kernel
theorem dX2_makeFlat_0 : decode cX2_makeFlat 0 = .ok (.aload_n 0, 1) := by decide +kernel
theorem dX2_makeFlat_1 : decode cX2_makeFlat 1 = .ok (.getfield 25, 3) := by decide +kernel
theorem dX2_makeFlat_4 : decode cX2_makeFlat 4 = .ok (.i2l, 1) := by decide +kernel
theorem dX2_makeFlat_5 : decode cX2_makeFlat 5 = .ok (.lstore_n 1, 1) := by decide +kernel
theorem dX2_makeFlat_6 : decode cX2_makeFlat 6 = .ok (.lload_n 1, 1) := by decide +kernel
theorem dX2_makeFlat_7 : decode cX2_makeFlat 7 = .ok (.lload_n 1, 1) := by decide +kernel
theorem dX2_makeFlat_8 : decode cX2_makeFlat 8 = .ok (.lmul, 1) := by decide +kernel
theorem dX2_makeFlat_9 : decode cX2_makeFlat 9 = .ok (.lconst 1, 1) := by decide +kernel
theorem dX2_makeFlat_10 : decode cX2_makeFlat 10 = .ok (.lsub, 1) := by decide +kernel
theorem dX2_makeFlat_11 : decode cX2_makeFlat 11 = .ok (.lstore_n 3, 1) := by decide +kernel
theorem dX2_makeFlat_12 : decode cX2_makeFlat 12 = .ok (.aload_n 0, 1) := by decide +kernel
theorem dX2_makeFlat_13 : decode cX2_makeFlat 13 = .ok (.invokevirtual 63, 3) := by decide +kernel
theorem dX2_makeFlat_16 : decode cX2_makeFlat 16 = .ok (.lstore 5, 2) := by decide +kernel
theorem dX2_makeFlat_18 : decode cX2_makeFlat 18 = .ok (.lconst 0, 1) := by decide +kernel
theorem dX2_makeFlat_19 : decode cX2_makeFlat 19 = .ok (.lstore 7, 2) := by decide +kernel
theorem dX2_makeFlat_21 : decode cX2_makeFlat 21 = .ok (.iconst 0, 1) := by decide +kernel
theorem dX2_makeFlat_22 : decode cX2_makeFlat 22 = .ok (.istore 9, 2) := by decide +kernel
theorem dX2_makeFlat_24 : decode cX2_makeFlat 24 = .ok (.iload 9, 2) := by decide +kernel
theorem dX2_makeFlat_26 : decode cX2_makeFlat 26 = .ok (.aload_n 0, 1) := by decide +kernel
theorem dX2_makeFlat_27 : decode cX2_makeFlat 27 = .ok (.getfield 25, 3) := by decide +kernel
theorem dX2_makeFlat_30 : decode cX2_makeFlat 30 = .ok (.if_icmp .ge 31, 3) := by decide +kernel
theorem dX2_makeFlat_33 : decode cX2_makeFlat 33 = .ok (.lload 7, 2) := by decide +kernel
theorem dX2_makeFlat_35 : decode cX2_makeFlat 35 = .ok (.iconst 2, 1) := by decide +kernel
theorem dX2_makeFlat_36 : decode cX2_makeFlat 36 = .ok (.iload 9, 2) := by decide +kernel
theorem dX2_makeFlat_38 : decode cX2_makeFlat 38 = .ok (.imul, 1) := by decide +kernel
theorem dX2_makeFlat_39 : decode cX2_makeFlat 39 = .ok (.i2l, 1) := by decide +kernel
theorem dX2_makeFlat_40 : decode cX2_makeFlat 40 = .ok (.lload_n 1, 1) := by decide +kernel
theorem dX2_makeFlat_41 : decode cX2_makeFlat 41 = .ok (.lsub, 1) := by decide +kernel
theorem dX2_makeFlat_42 : decode cX2_makeFlat 42 = .ok (.lconst 1, 1) := by decide +kernel
theorem dX2_makeFlat_43 : decode cX2_makeFlat 43 = .ok (.ladd, 1) := by decide +kernel
theorem dX2_makeFlat_44 : decode cX2_makeFlat 44 = .ok (.aload_n 0, 1) := by decide +kernel
theorem dX2_makeFlat_45 : decode cX2_makeFlat 45 = .ok (.getfield 9, 3) := by decide +kernel
theorem dX2_makeFlat_48 : decode cX2_makeFlat 48 = .ok (.iload 9, 2) := by decide +kernel
theorem dX2_makeFlat_50 : decode cX2_makeFlat 50 = .ok (.laload, 1) := by decide +kernel
theorem dX2_makeFlat_51 : decode cX2_makeFlat 51 = .ok (.lmul, 1) := by decide +kernel
theorem dX2_makeFlat_52 : decode cX2_makeFlat 52 = .ok (.ladd, 1) := by decide +kernel
theorem dX2_makeFlat_53 : decode cX2_makeFlat 53 = .ok (.lstore 7, 2) := by decide +kernel
theorem dX2_makeFlat_55 : decode cX2_makeFlat 55 = .ok (.iinc 9 1, 3) := by decide +kernel
theorem dX2_makeFlat_58 : decode cX2_makeFlat 58 = .ok (.goto (-34), 3) := by decide +kernel
theorem dX2_makeFlat_61 : decode cX2_makeFlat 61 = .ok (.iconst 0, 1) := by decide +kernel
theorem dX2_makeFlat_62 : decode cX2_makeFlat 62 = .ok (.istore 9, 2) := by decide +kernel
theorem dX2_makeFlat_64 : decode cX2_makeFlat 64 = .ok (.iload 9, 2) := by decide +kernel
theorem dX2_makeFlat_66 : decode cX2_makeFlat 66 = .ok (.aload_n 0, 1) := by decide +kernel
theorem dX2_makeFlat_67 : decode cX2_makeFlat 67 = .ok (.getfield 25, 3) := by decide +kernel
theorem dX2_makeFlat_70 : decode cX2_makeFlat 70 = .ok (.if_icmp .ge 49, 3) := by decide +kernel
theorem dX2_makeFlat_73 : decode cX2_makeFlat 73 = .ok (.aload_n 0, 1) := by decide +kernel
theorem dX2_makeFlat_74 : decode cX2_makeFlat 74 = .ok (.getfield 15, 3) := by decide +kernel
theorem dX2_makeFlat_77 : decode cX2_makeFlat 77 = .ok (.iload 9, 2) := by decide +kernel
theorem dX2_makeFlat_79 : decode cX2_makeFlat 79 = .ok (.lload_n 1, 1) := by decide +kernel
theorem dX2_makeFlat_80 : decode cX2_makeFlat 80 = .ok (.lload_n 3, 1) := by decide +kernel
theorem dX2_makeFlat_81 : decode cX2_makeFlat 81 = .ok (.lmul, 1) := by decide +kernel
theorem dX2_makeFlat_82 : decode cX2_makeFlat 82 = .ok (.aload_n 0, 1) := by decide +kernel
theorem dX2_makeFlat_83 : decode cX2_makeFlat 83 = .ok (.getfield 9, 3) := by decide +kernel
theorem dX2_makeFlat_86 : decode cX2_makeFlat 86 = .ok (.iload 9, 2) := by decide +kernel
theorem dX2_makeFlat_88 : decode cX2_makeFlat 88 = .ok (.laload, 1) := by decide +kernel
theorem dX2_makeFlat_89 : decode cX2_makeFlat 89 = .ok (.lmul, 1) := by decide +kernel
theorem dX2_makeFlat_90 : decode cX2_makeFlat 90 = .ok (.lload_n 3, 1) := by decide +kernel
theorem dX2_makeFlat_91 : decode cX2_makeFlat 91 = .ok (.lload 5, 2) := by decide +kernel
theorem dX2_makeFlat_93 : decode cX2_makeFlat 93 = .ok (.lmul, 1) := by decide +kernel
theorem dX2_makeFlat_94 : decode cX2_makeFlat 94 = .ok (.lsub, 1) := by decide +kernel
theorem dX2_makeFlat_95 : decode cX2_makeFlat 95 = .ok (.ldc2_w 67, 3) := by decide +kernel
theorem dX2_makeFlat_98 : decode cX2_makeFlat 98 = .ok (.iconst 2, 1) := by decide +kernel
theorem dX2_makeFlat_99 : decode cX2_makeFlat 99 = .ok (.iload 9, 2) := by decide +kernel
theorem dX2_makeFlat_101 : decode cX2_makeFlat 101 = .ok (.imul, 1) := by decide +kernel
theorem dX2_makeFlat_102 : decode cX2_makeFlat 102 = .ok (.i2l, 1) := by decide +kernel
theorem dX2_makeFlat_103 : decode cX2_makeFlat 103 = .ok (.lload_n 1, 1) := by decide +kernel
theorem dX2_makeFlat_104 : decode cX2_makeFlat 104 = .ok (.lsub, 1) := by decide +kernel
theorem dX2_makeFlat_105 : decode cX2_makeFlat 105 = .ok (.lconst 1, 1) := by decide +kernel
theorem dX2_makeFlat_106 : decode cX2_makeFlat 106 = .ok (.ladd, 1) := by decide +kernel
theorem dX2_makeFlat_107 : decode cX2_makeFlat 107 = .ok (.lmul, 1) := by decide +kernel
theorem dX2_makeFlat_108 : decode cX2_makeFlat 108 = .ok (.lload 7, 2) := by decide +kernel
theorem dX2_makeFlat_110 : decode cX2_makeFlat 110 = .ok (.lmul, 1) := by decide +kernel
theorem dX2_makeFlat_111 : decode cX2_makeFlat 111 = .ok (.lsub, 1) := by decide +kernel
theorem dX2_makeFlat_112 : decode cX2_makeFlat 112 = .ok (.lastore, 1) := by decide +kernel
theorem dX2_makeFlat_113 : decode cX2_makeFlat 113 = .ok (.iinc 9 1, 3) := by decide +kernel
theorem dX2_makeFlat_116 : decode cX2_makeFlat 116 = .ok (.goto (-52), 3) := by decide +kernel
theorem dX2_makeFlat_119 : decode cX2_makeFlat 119 = .ok (.return_, 1) := by decide +kernel
theorem dX2_makeTwice_0 : decode cX2_makeTwice 0 = .ok (.lconst 0, 1) := by decide +kernel
theorem dX2_makeTwice_1 : decode cX2_makeTwice 1 = .ok (.lstore_n 1, 1) := by decide +kernel
theorem dX2_makeTwice_2 : decode cX2_makeTwice 2 = .ok (.lconst 0, 1) := by decide +kernel
theorem dX2_makeTwice_3 : decode cX2_makeTwice 3 = .ok (.lstore_n 3, 1) := by decide +kernel
theorem dX2_makeTwice_4 : decode cX2_makeTwice 4 = .ok (.iconst 0, 1) := by decide +kernel
theorem dX2_makeTwice_5 : decode cX2_makeTwice 5 = .ok (.istore 5, 2) := by decide +kernel
theorem dX2_makeTwice_7 : decode cX2_makeTwice 7 = .ok (.iload 5, 2) := by decide +kernel
theorem dX2_makeTwice_9 : decode cX2_makeTwice 9 = .ok (.aload_n 0, 1) := by decide +kernel
theorem dX2_makeTwice_10 : decode cX2_makeTwice 10 = .ok (.getfield 25, 3) := by decide +kernel
theorem dX2_makeTwice_13 : decode cX2_makeTwice 13 = .ok (.if_icmp .ge 31, 3) := by decide +kernel
theorem dX2_makeTwice_16 : decode cX2_makeTwice 16 = .ok (.aload_n 0, 1) := by decide +kernel
theorem dX2_makeTwice_17 : decode cX2_makeTwice 17 = .ok (.getfield 15, 3) := by decide +kernel
theorem dX2_makeTwice_20 : decode cX2_makeTwice 20 = .ok (.iload 5, 2) := by decide +kernel
theorem dX2_makeTwice_22 : decode cX2_makeTwice 22 = .ok (.lload_n 3, 1) := by decide +kernel
theorem dX2_makeTwice_23 : decode cX2_makeTwice 23 = .ok (.lastore, 1) := by decide +kernel
theorem dX2_makeTwice_24 : decode cX2_makeTwice 24 = .ok (.lload_n 1, 1) := by decide +kernel
theorem dX2_makeTwice_25 : decode cX2_makeTwice 25 = .ok (.aload_n 0, 1) := by decide +kernel
theorem dX2_makeTwice_26 : decode cX2_makeTwice 26 = .ok (.getfield 9, 3) := by decide +kernel
theorem dX2_makeTwice_29 : decode cX2_makeTwice 29 = .ok (.iload 5, 2) := by decide +kernel
theorem dX2_makeTwice_31 : decode cX2_makeTwice 31 = .ok (.laload, 1) := by decide +kernel
theorem dX2_makeTwice_32 : decode cX2_makeTwice 32 = .ok (.ladd, 1) := by decide +kernel
theorem dX2_makeTwice_33 : decode cX2_makeTwice 33 = .ok (.lstore_n 1, 1) := by decide +kernel
theorem dX2_makeTwice_34 : decode cX2_makeTwice 34 = .ok (.lload_n 3, 1) := by decide +kernel
theorem dX2_makeTwice_35 : decode cX2_makeTwice 35 = .ok (.lload_n 1, 1) := by decide +kernel
theorem dX2_makeTwice_36 : decode cX2_makeTwice 36 = .ok (.ladd, 1) := by decide +kernel
theorem dX2_makeTwice_37 : decode cX2_makeTwice 37 = .ok (.lstore_n 3, 1) := by decide +kernel
theorem dX2_makeTwice_38 : decode cX2_makeTwice 38 = .ok (.iinc 5 1, 3) := by decide +kernel
theorem dX2_makeTwice_41 : decode cX2_makeTwice 41 = .ok (.goto (-34), 3) := by decide +kernel
theorem dX2_makeTwice_44 : decode cX2_makeTwice 44 = .ok (.aload_n 0, 1) := by decide +kernel
theorem dX2_makeTwice_45 : decode cX2_makeTwice 45 = .ok (.getfield 25, 3) := by decide +kernel
theorem dX2_makeTwice_48 : decode cX2_makeTwice 48 = .ok (.ifCond .le 17, 3) := by decide +kernel
theorem dX2_makeTwice_51 : decode cX2_makeTwice 51 = .ok (.aload_n 0, 1) := by decide +kernel
theorem dX2_makeTwice_52 : decode cX2_makeTwice 52 = .ok (.getfield 15, 3) := by decide +kernel
theorem dX2_makeTwice_55 : decode cX2_makeTwice 55 = .ok (.aload_n 0, 1) := by decide +kernel
theorem dX2_makeTwice_56 : decode cX2_makeTwice 56 = .ok (.getfield 25, 3) := by decide +kernel
theorem dX2_makeTwice_59 : decode cX2_makeTwice 59 = .ok (.iconst 1, 1) := by decide +kernel
theorem dX2_makeTwice_60 : decode cX2_makeTwice 60 = .ok (.isub, 1) := by decide +kernel
theorem dX2_makeTwice_61 : decode cX2_makeTwice 61 = .ok (.laload, 1) := by decide +kernel
theorem dX2_makeTwice_62 : decode cX2_makeTwice 62 = .ok (.goto 4, 3) := by decide +kernel
theorem dX2_makeTwice_65 : decode cX2_makeTwice 65 = .ok (.lconst 0, 1) := by decide +kernel
theorem dX2_makeTwice_66 : decode cX2_makeTwice 66 = .ok (.lstore 5, 2) := by decide +kernel
theorem dX2_makeTwice_68 : decode cX2_makeTwice 68 = .ok (.iconst 0, 1) := by decide +kernel
theorem dX2_makeTwice_69 : decode cX2_makeTwice 69 = .ok (.istore 7, 2) := by decide +kernel
theorem dX2_makeTwice_71 : decode cX2_makeTwice 71 = .ok (.iload 7, 2) := by decide +kernel
theorem dX2_makeTwice_73 : decode cX2_makeTwice 73 = .ok (.aload_n 0, 1) := by decide +kernel
theorem dX2_makeTwice_74 : decode cX2_makeTwice 74 = .ok (.getfield 25, 3) := by decide +kernel
theorem dX2_makeTwice_77 : decode cX2_makeTwice 77 = .ok (.if_icmp .ge 38, 3) := by decide +kernel
theorem dX2_makeTwice_80 : decode cX2_makeTwice 80 = .ok (.aload_n 0, 1) := by decide +kernel
theorem dX2_makeTwice_81 : decode cX2_makeTwice 81 = .ok (.getfield 15, 3) := by decide +kernel
theorem dX2_makeTwice_84 : decode cX2_makeTwice 84 = .ok (.iload 7, 2) := by decide +kernel
theorem dX2_makeTwice_86 : decode cX2_makeTwice 86 = .ok (.aload_n 0, 1) := by decide +kernel
theorem dX2_makeTwice_87 : decode cX2_makeTwice 87 = .ok (.getfield 25, 3) := by decide +kernel
theorem dX2_makeTwice_90 : decode cX2_makeTwice 90 = .ok (.iconst 1, 1) := by decide +kernel
theorem dX2_makeTwice_91 : decode cX2_makeTwice 91 = .ok (.isub, 1) := by decide +kernel
theorem dX2_makeTwice_92 : decode cX2_makeTwice 92 = .ok (.i2l, 1) := by decide +kernel
theorem dX2_makeTwice_93 : decode cX2_makeTwice 93 = .ok (.aload_n 0, 1) := by decide +kernel
theorem dX2_makeTwice_94 : decode cX2_makeTwice 94 = .ok (.getfield 15, 3) := by decide +kernel
theorem dX2_makeTwice_97 : decode cX2_makeTwice 97 = .ok (.iload 7, 2) := by decide +kernel
theorem dX2_makeTwice_99 : decode cX2_makeTwice 99 = .ok (.laload, 1) := by decide +kernel
theorem dX2_makeTwice_100 : decode cX2_makeTwice 100 = .ok (.lmul, 1) := by decide +kernel
theorem dX2_makeTwice_101 : decode cX2_makeTwice 101 = .ok (.iload 7, 2) := by decide +kernel
theorem dX2_makeTwice_103 : decode cX2_makeTwice 103 = .ok (.i2l, 1) := by decide +kernel
theorem dX2_makeTwice_104 : decode cX2_makeTwice 104 = .ok (.lload 5, 2) := by decide +kernel
theorem dX2_makeTwice_106 : decode cX2_makeTwice 106 = .ok (.lmul, 1) := by decide +kernel
theorem dX2_makeTwice_107 : decode cX2_makeTwice 107 = .ok (.lsub, 1) := by decide +kernel
theorem dX2_makeTwice_108 : decode cX2_makeTwice 108 = .ok (.lastore, 1) := by decide +kernel
theorem dX2_makeTwice_109 : decode cX2_makeTwice 109 = .ok (.iinc 7 1, 3) := by decide +kernel
theorem dX2_makeTwice_112 : decode cX2_makeTwice 112 = .ok (.goto (-41), 3) := by decide +kernel
theorem dX2_makeTwice_115 : decode cX2_makeTwice 115 = .ok (.return_, 1) := by decide +kernel
theorem dX2_makeTones_0 : decode cX2_makeTones 0 = .ok (.iconst 0, 1) := by decide +kernel
theorem dX2_makeTones_1 : decode cX2_makeTones 1 = .ok (.istore_n 1, 1) := by decide +kernel
theorem dX2_makeTones_2 : decode cX2_makeTones 2 = .ok (.iload_n 1, 1) := by decide +kernel
theorem dX2_makeTones_3 : decode cX2_makeTones 3 = .ok (.aload_n 0, 1) := by decide +kernel
theorem dX2_makeTones_4 : decode cX2_makeTones 4 = .ok (.getfield 25, 3) := by decide +kernel
theorem dX2_makeTones_7 : decode cX2_makeTones 7 = .ok (.if_icmp .ge 88, 3) := by decide +kernel
theorem dX2_makeTones_10 : decode cX2_makeTones 10 = .ok (.aload_n 0, 1) := by decide +kernel
theorem dX2_makeTones_11 : decode cX2_makeTones 11 = .ok (.iload_n 1, 1) := by decide +kernel
theorem dX2_makeTones_12 : decode cX2_makeTones 12 = .ok (.invokevirtual 69, 3) := by decide +kernel
theorem dX2_makeTones_15 : decode cX2_makeTones 15 = .ok (.istore_n 2, 1) := by decide +kernel
theorem dX2_makeTones_16 : decode cX2_makeTones 16 = .ok (.lconst 0, 1) := by decide +kernel
theorem dX2_makeTones_17 : decode cX2_makeTones 17 = .ok (.lstore_n 3, 1) := by decide +kernel
theorem dX2_makeTones_18 : decode cX2_makeTones 18 = .ok (.iconst 0, 1) := by decide +kernel
theorem dX2_makeTones_19 : decode cX2_makeTones 19 = .ok (.istore 5, 2) := by decide +kernel
theorem dX2_makeTones_21 : decode cX2_makeTones 21 = .ok (.iload 5, 2) := by decide +kernel
theorem dX2_makeTones_23 : decode cX2_makeTones 23 = .ok (.aload_n 0, 1) := by decide +kernel
theorem dX2_makeTones_24 : decode cX2_makeTones 24 = .ok (.getfield 25, 3) := by decide +kernel
theorem dX2_makeTones_27 : decode cX2_makeTones 27 = .ok (.if_icmp .ge 55, 3) := by decide +kernel
theorem dX2_makeTones_30 : decode cX2_makeTones 30 = .ok (.iload 5, 2) := by decide +kernel
theorem dX2_makeTones_32 : decode cX2_makeTones 32 = .ok (.iload_n 2, 1) := by decide +kernel
theorem dX2_makeTones_33 : decode cX2_makeTones 33 = .ok (.iand, 1) := by decide +kernel
theorem dX2_makeTones_34 : decode cX2_makeTones 34 = .ok (.invokestatic 72, 3) := by decide +kernel
theorem dX2_makeTones_37 : decode cX2_makeTones 37 = .ok (.iconst 1, 1) := by decide +kernel
theorem dX2_makeTones_38 : decode cX2_makeTones 38 = .ok (.iand, 1) := by decide +kernel
theorem dX2_makeTones_39 : decode cX2_makeTones 39 = .ok (.iconst 1, 1) := by decide +kernel
theorem dX2_makeTones_40 : decode cX2_makeTones 40 = .ok (.if_icmp .ne 7, 3) := by decide +kernel
theorem dX2_makeTones_43 : decode cX2_makeTones 43 = .ok (.iconst 1, 1) := by decide +kernel
theorem dX2_makeTones_44 : decode cX2_makeTones 44 = .ok (.goto 4, 3) := by decide +kernel
theorem dX2_makeTones_47 : decode cX2_makeTones 47 = .ok (.iconst 0, 1) := by decide +kernel
theorem dX2_makeTones_48 : decode cX2_makeTones 48 = .ok (.istore 6, 2) := by decide +kernel
theorem dX2_makeTones_50 : decode cX2_makeTones 50 = .ok (.lload_n 3, 1) := by decide +kernel
theorem dX2_makeTones_51 : decode cX2_makeTones 51 = .ok (.iload 6, 2) := by decide +kernel
theorem dX2_makeTones_53 : decode cX2_makeTones 53 = .ok (.ifCond .eq 14, 3) := by decide +kernel
theorem dX2_makeTones_56 : decode cX2_makeTones 56 = .ok (.aload_n 0, 1) := by decide +kernel
theorem dX2_makeTones_57 : decode cX2_makeTones 57 = .ok (.getfield 9, 3) := by decide +kernel
theorem dX2_makeTones_60 : decode cX2_makeTones 60 = .ok (.iload 5, 2) := by decide +kernel
theorem dX2_makeTones_62 : decode cX2_makeTones 62 = .ok (.laload, 1) := by decide +kernel
theorem dX2_makeTones_63 : decode cX2_makeTones 63 = .ok (.lneg, 1) := by decide +kernel
theorem dX2_makeTones_64 : decode cX2_makeTones 64 = .ok (.goto 10, 3) := by decide +kernel
theorem dX2_makeTones_67 : decode cX2_makeTones 67 = .ok (.aload_n 0, 1) := by decide +kernel
theorem dX2_makeTones_68 : decode cX2_makeTones 68 = .ok (.getfield 9, 3) := by decide +kernel
theorem dX2_makeTones_71 : decode cX2_makeTones 71 = .ok (.iload 5, 2) := by decide +kernel
theorem dX2_makeTones_73 : decode cX2_makeTones 73 = .ok (.laload, 1) := by decide +kernel
theorem dX2_makeTones_74 : decode cX2_makeTones 74 = .ok (.ladd, 1) := by decide +kernel
theorem dX2_makeTones_75 : decode cX2_makeTones 75 = .ok (.lstore_n 3, 1) := by decide +kernel
theorem dX2_makeTones_76 : decode cX2_makeTones 76 = .ok (.iinc 5 1, 3) := by decide +kernel
theorem dX2_makeTones_79 : decode cX2_makeTones 79 = .ok (.goto (-58), 3) := by decide +kernel
theorem dX2_makeTones_82 : decode cX2_makeTones 82 = .ok (.aload_n 0, 1) := by decide +kernel
theorem dX2_makeTones_83 : decode cX2_makeTones 83 = .ok (.getfield 15, 3) := by decide +kernel
theorem dX2_makeTones_86 : decode cX2_makeTones 86 = .ok (.iload_n 1, 1) := by decide +kernel
theorem dX2_makeTones_87 : decode cX2_makeTones 87 = .ok (.lload_n 3, 1) := by decide +kernel
theorem dX2_makeTones_88 : decode cX2_makeTones 88 = .ok (.lastore, 1) := by decide +kernel
theorem dX2_makeTones_89 : decode cX2_makeTones 89 = .ok (.iinc 1 1, 3) := by decide +kernel
theorem dX2_makeTones_92 : decode cX2_makeTones 92 = .ok (.goto (-90), 3) := by decide +kernel
theorem dX2_makeTones_95 : decode cX2_makeTones 95 = .ok (.return_, 1) := by decide +kernel
theorem dX2_toneMask_0 : decode cX2_toneMask 0 = .ok (.iload_n 1, 1) := by decide +kernel
theorem dX2_toneMask_1 : decode cX2_toneMask 1 = .ok (.iload_n 1, 1) := by decide +kernel
theorem dX2_toneMask_2 : decode cX2_toneMask 2 = .ok (.iconst 1, 1) := by decide +kernel
theorem dX2_toneMask_3 : decode cX2_toneMask 3 = .ok (.ishr, 1) := by decide +kernel
theorem dX2_toneMask_4 : decode cX2_toneMask 4 = .ok (.ixor, 1) := by decide +kernel
theorem dX2_toneMask_5 : decode cX2_toneMask 5 = .ok (.istore_n 2, 1) := by decide +kernel
theorem dX2_toneMask_6 : decode cX2_toneMask 6 = .ok (.iconst 0, 1) := by decide +kernel
theorem dX2_toneMask_7 : decode cX2_toneMask 7 = .ok (.istore_n 3, 1) := by decide +kernel
theorem dX2_toneMask_8 : decode cX2_toneMask 8 = .ok (.iconst 0, 1) := by decide +kernel
theorem dX2_toneMask_9 : decode cX2_toneMask 9 = .ok (.istore 4, 2) := by decide +kernel
theorem dX2_toneMask_11 : decode cX2_toneMask 11 = .ok (.iload 4, 2) := by decide +kernel
theorem dX2_toneMask_13 : decode cX2_toneMask 13 = .ok (.bipush 6, 2) := by decide +kernel
theorem dX2_toneMask_15 : decode cX2_toneMask 15 = .ok (.if_icmp .ge 31, 3) := by decide +kernel
theorem dX2_toneMask_18 : decode cX2_toneMask 18 = .ok (.iconst 1, 1) := by decide +kernel
theorem dX2_toneMask_19 : decode cX2_toneMask 19 = .ok (.iload 4, 2) := by decide +kernel
theorem dX2_toneMask_21 : decode cX2_toneMask 21 = .ok (.ishl, 1) := by decide +kernel
theorem dX2_toneMask_22 : decode cX2_toneMask 22 = .ok (.aload_n 0, 1) := by decide +kernel
theorem dX2_toneMask_23 : decode cX2_toneMask 23 = .ok (.getfield 25, 3) := by decide +kernel
theorem dX2_toneMask_26 : decode cX2_toneMask 26 = .ok (.if_icmp .ge 20, 3) := by decide +kernel
theorem dX2_toneMask_29 : decode cX2_toneMask 29 = .ok (.iload_n 3, 1) := by decide +kernel
theorem dX2_toneMask_30 : decode cX2_toneMask 30 = .ok (.iconst 1, 1) := by decide +kernel
theorem dX2_toneMask_31 : decode cX2_toneMask 31 = .ok (.ishl, 1) := by decide +kernel
theorem dX2_toneMask_32 : decode cX2_toneMask 32 = .ok (.iload_n 2, 1) := by decide +kernel
theorem dX2_toneMask_33 : decode cX2_toneMask 33 = .ok (.iload 4, 2) := by decide +kernel
theorem dX2_toneMask_35 : decode cX2_toneMask 35 = .ok (.ishr, 1) := by decide +kernel
theorem dX2_toneMask_36 : decode cX2_toneMask 36 = .ok (.iconst 1, 1) := by decide +kernel
theorem dX2_toneMask_37 : decode cX2_toneMask 37 = .ok (.iand, 1) := by decide +kernel
theorem dX2_toneMask_38 : decode cX2_toneMask 38 = .ok (.ior, 1) := by decide +kernel
theorem dX2_toneMask_39 : decode cX2_toneMask 39 = .ok (.istore_n 3, 1) := by decide +kernel
theorem dX2_toneMask_40 : decode cX2_toneMask 40 = .ok (.iinc 4 1, 3) := by decide +kernel
theorem dX2_toneMask_43 : decode cX2_toneMask 43 = .ok (.goto (-32), 3) := by decide +kernel
theorem dX2_toneMask_46 : decode cX2_toneMask 46 = .ok (.iload_n 3, 1) := by decide +kernel
theorem dX2_toneMask_47 : decode cX2_toneMask 47 = .ok (.ireturn, 1) := by decide +kernel
theorem dX2_sum_0 : decode cX2_sum 0 = .ok (.lconst 0, 1) := by decide +kernel
theorem dX2_sum_1 : decode cX2_sum 1 = .ok (.lstore_n 1, 1) := by decide +kernel
theorem dX2_sum_2 : decode cX2_sum 2 = .ok (.iconst 0, 1) := by decide +kernel
theorem dX2_sum_3 : decode cX2_sum 3 = .ok (.istore_n 3, 1) := by decide +kernel
theorem dX2_sum_4 : decode cX2_sum 4 = .ok (.iload_n 3, 1) := by decide +kernel
theorem dX2_sum_5 : decode cX2_sum 5 = .ok (.aload_n 0, 1) := by decide +kernel
theorem dX2_sum_6 : decode cX2_sum 6 = .ok (.getfield 25, 3) := by decide +kernel
theorem dX2_sum_9 : decode cX2_sum 9 = .ok (.if_icmp .ge 18, 3) := by decide +kernel
theorem dX2_sum_12 : decode cX2_sum 12 = .ok (.lload_n 1, 1) := by decide +kernel
theorem dX2_sum_13 : decode cX2_sum 13 = .ok (.aload_n 0, 1) := by decide +kernel
theorem dX2_sum_14 : decode cX2_sum 14 = .ok (.getfield 9, 3) := by decide +kernel
theorem dX2_sum_17 : decode cX2_sum 17 = .ok (.iload_n 3, 1) := by decide +kernel
theorem dX2_sum_18 : decode cX2_sum 18 = .ok (.laload, 1) := by decide +kernel
theorem dX2_sum_19 : decode cX2_sum 19 = .ok (.ladd, 1) := by decide +kernel
theorem dX2_sum_20 : decode cX2_sum 20 = .ok (.lstore_n 1, 1) := by decide +kernel
theorem dX2_sum_21 : decode cX2_sum 21 = .ok (.iinc 3 1, 3) := by decide +kernel
theorem dX2_sum_24 : decode cX2_sum 24 = .ok (.goto (-20), 3) := by decide +kernel
theorem dX2_sum_27 : decode cX2_sum 27 = .ok (.lload_n 1, 1) := by decide +kernel
theorem dX2_sum_28 : decode cX2_sum 28 = .ok (.lreturn, 1) := by decide +kernel
theorem dX2_becomeFresh_0 : decode cX2_becomeFresh 0 = .ok (.iconst 0, 1) := by decide +kernel
theorem dX2_becomeFresh_1 : decode cX2_becomeFresh 1 = .ok (.istore_n 1, 1) := by decide +kernel
theorem dX2_becomeFresh_2 : decode cX2_becomeFresh 2 = .ok (.iload_n 1, 1) := by decide +kernel
theorem dX2_becomeFresh_3 : decode cX2_becomeFresh 3 = .ok (.aload_n 0, 1) := by decide +kernel
theorem dX2_becomeFresh_4 : decode cX2_becomeFresh 4 = .ok (.getfield 25, 3) := by decide +kernel
theorem dX2_becomeFresh_7 : decode cX2_becomeFresh 7 = .ok (.if_icmp .ge 27, 3) := by decide +kernel
theorem dX2_becomeFresh_10 : decode cX2_becomeFresh 10 = .ok (.aload_n 0, 1) := by decide +kernel
theorem dX2_becomeFresh_11 : decode cX2_becomeFresh 11 = .ok (.getfield 15, 3) := by decide +kernel
theorem dX2_becomeFresh_14 : decode cX2_becomeFresh 14 = .ok (.iload_n 1, 1) := by decide +kernel
theorem dX2_becomeFresh_15 : decode cX2_becomeFresh 15 = .ok (.laload, 1) := by decide +kernel
theorem dX2_becomeFresh_16 : decode cX2_becomeFresh 16 = .ok (.ldc2_w 77, 3) := by decide +kernel
theorem dX2_becomeFresh_19 : decode cX2_becomeFresh 19 = .ok (.invokestatic 79, 3) := by decide +kernel
theorem dX2_becomeFresh_22 : decode cX2_becomeFresh 22 = .ok (.ifCond .ne 6, 3) := by decide +kernel
theorem dX2_becomeFresh_25 : decode cX2_becomeFresh 25 = .ok (.bipush (-16), 2) := by decide +kernel
theorem dX2_becomeFresh_27 : decode cX2_becomeFresh 27 = .ok (.ireturn, 1) := by decide +kernel
theorem dX2_becomeFresh_28 : decode cX2_becomeFresh 28 = .ok (.iinc 1 1, 3) := by decide +kernel
theorem dX2_becomeFresh_31 : decode cX2_becomeFresh 31 = .ok (.goto (-29), 3) := by decide +kernel
theorem dX2_becomeFresh_34 : decode cX2_becomeFresh 34 = .ok (.aload_n 0, 1) := by decide +kernel
theorem dX2_becomeFresh_35 : decode cX2_becomeFresh 35 = .ok (.getfield 15, 3) := by decide +kernel
theorem dX2_becomeFresh_38 : decode cX2_becomeFresh 38 = .ok (.iconst 0, 1) := by decide +kernel
theorem dX2_becomeFresh_39 : decode cX2_becomeFresh 39 = .ok (.aload_n 0, 1) := by decide +kernel
theorem dX2_becomeFresh_40 : decode cX2_becomeFresh 40 = .ok (.getfield 9, 3) := by decide +kernel
theorem dX2_becomeFresh_43 : decode cX2_becomeFresh 43 = .ok (.iconst 0, 1) := by decide +kernel
theorem dX2_becomeFresh_44 : decode cX2_becomeFresh 44 = .ok (.aload_n 0, 1) := by decide +kernel
theorem dX2_becomeFresh_45 : decode cX2_becomeFresh 45 = .ok (.getfield 25, 3) := by decide +kernel
theorem dX2_becomeFresh_48 : decode cX2_becomeFresh 48 = .ok (.invokestatic 83, 3) := by decide +kernel
theorem dX2_becomeFresh_51 : decode cX2_becomeFresh 51 = .ok (.aload_n 0, 1) := by decide +kernel
theorem dX2_becomeFresh_52 : decode cX2_becomeFresh 52 = .ok (.getfield 25, 3) := by decide +kernel
theorem dX2_becomeFresh_55 : decode cX2_becomeFresh 55 = .ok (.ireturn, 1) := by decide +kernel
theorem dX2_blend_0 : decode cX2_blend 0 = .ok (.iconst 0, 1) := by decide +kernel
theorem dX2_blend_1 : decode cX2_blend 1 = .ok (.istore 4, 2) := by decide +kernel
theorem dX2_blend_3 : decode cX2_blend 3 = .ok (.iload 4, 2) := by decide +kernel
theorem dX2_blend_5 : decode cX2_blend 5 = .ok (.aload_n 0, 1) := by decide +kernel
theorem dX2_blend_6 : decode cX2_blend 6 = .ok (.getfield 25, 3) := by decide +kernel
theorem dX2_blend_9 : decode cX2_blend 9 = .ok (.if_icmp .ge 37, 3) := by decide +kernel
theorem dX2_blend_12 : decode cX2_blend 12 = .ok (.aload_n 0, 1) := by decide +kernel
theorem dX2_blend_13 : decode cX2_blend 13 = .ok (.getfield 15, 3) := by decide +kernel
theorem dX2_blend_16 : decode cX2_blend 16 = .ok (.iload 4, 2) := by decide +kernel
theorem dX2_blend_18 : decode cX2_blend 18 = .ok (.iload_n 1, 1) := by decide +kernel
theorem dX2_blend_19 : decode cX2_blend 19 = .ok (.i2l, 1) := by decide +kernel
theorem dX2_blend_20 : decode cX2_blend 20 = .ok (.aload_n 0, 1) := by decide +kernel
theorem dX2_blend_21 : decode cX2_blend 21 = .ok (.getfield 9, 3) := by decide +kernel
theorem dX2_blend_24 : decode cX2_blend 24 = .ok (.iload 4, 2) := by decide +kernel
theorem dX2_blend_26 : decode cX2_blend 26 = .ok (.laload, 1) := by decide +kernel
theorem dX2_blend_27 : decode cX2_blend 27 = .ok (.lmul, 1) := by decide +kernel
theorem dX2_blend_28 : decode cX2_blend 28 = .ok (.iload_n 3, 1) := by decide +kernel
theorem dX2_blend_29 : decode cX2_blend 29 = .ok (.i2l, 1) := by decide +kernel
theorem dX2_blend_30 : decode cX2_blend 30 = .ok (.aload_n 2, 1) := by decide +kernel
theorem dX2_blend_31 : decode cX2_blend 31 = .ok (.getfield 9, 3) := by decide +kernel
theorem dX2_blend_34 : decode cX2_blend 34 = .ok (.iload 4, 2) := by decide +kernel
theorem dX2_blend_36 : decode cX2_blend 36 = .ok (.laload, 1) := by decide +kernel
theorem dX2_blend_37 : decode cX2_blend 37 = .ok (.lmul, 1) := by decide +kernel
theorem dX2_blend_38 : decode cX2_blend 38 = .ok (.ladd, 1) := by decide +kernel
theorem dX2_blend_39 : decode cX2_blend 39 = .ok (.lastore, 1) := by decide +kernel
theorem dX2_blend_40 : decode cX2_blend 40 = .ok (.iinc 4 1, 3) := by decide +kernel
theorem dX2_blend_43 : decode cX2_blend 43 = .ok (.goto (-40), 3) := by decide +kernel
theorem dX2_blend_46 : decode cX2_blend 46 = .ok (.aload_n 0, 1) := by decide +kernel
theorem dX2_blend_47 : decode cX2_blend 47 = .ok (.invokevirtual 60, 3) := by decide +kernel
theorem dX2_blend_50 : decode cX2_blend 50 = .ok (.ireturn, 1) := by decide +kernel
theorem dX2_anyExceeds_0 : decode cX2_anyExceeds 0 = .ok (.aload_n 0, 1) := by decide +kernel
theorem dX2_anyExceeds_1 : decode cX2_anyExceeds 1 = .ok (.lload_n 1, 1) := by decide +kernel
theorem dX2_anyExceeds_2 : decode cX2_anyExceeds 2 = .ok (.iconst 0, 1) := by decide +kernel
theorem dX2_anyExceeds_3 : decode cX2_anyExceeds 3 = .ok (.bipush 64, 2) := by decide +kernel
theorem dX2_anyExceeds_5 : decode cX2_anyExceeds 5 = .ok (.invokevirtual 89, 3) := by decide +kernel
theorem dX2_anyExceeds_8 : decode cX2_anyExceeds 8 = .ok (.ireturn, 1) := by decide +kernel
theorem dX2_exceeds_0 : decode cX2_exceeds 0 = .ok (.iload_n 3, 1) := by decide +kernel
theorem dX2_exceeds_1 : decode cX2_exceeds 1 = .ok (.istore 5, 2) := by decide +kernel
theorem dX2_exceeds_3 : decode cX2_exceeds 3 = .ok (.iload 5, 2) := by decide +kernel
theorem dX2_exceeds_5 : decode cX2_exceeds 5 = .ok (.aload_n 0, 1) := by decide +kernel
theorem dX2_exceeds_6 : decode cX2_exceeds 6 = .ok (.getfield 25, 3) := by decide +kernel
theorem dX2_exceeds_9 : decode cX2_exceeds 9 = .ok (.if_icmp .ge 32, 3) := by decide +kernel
theorem dX2_exceeds_12 : decode cX2_exceeds 12 = .ok (.iload 5, 2) := by decide +kernel
theorem dX2_exceeds_14 : decode cX2_exceeds 14 = .ok (.iload 4, 2) := by decide +kernel
theorem dX2_exceeds_16 : decode cX2_exceeds 16 = .ok (.if_icmp .gt 25, 3) := by decide +kernel
theorem dX2_exceeds_19 : decode cX2_exceeds 19 = .ok (.aload_n 0, 1) := by decide +kernel
theorem dX2_exceeds_20 : decode cX2_exceeds 20 = .ok (.getfield 9, 3) := by decide +kernel
theorem dX2_exceeds_23 : decode cX2_exceeds 23 = .ok (.iload 5, 2) := by decide +kernel
theorem dX2_exceeds_25 : decode cX2_exceeds 25 = .ok (.laload, 1) := by decide +kernel
theorem dX2_exceeds_26 : decode cX2_exceeds 26 = .ok (.lload_n 1, 1) := by decide +kernel
theorem dX2_exceeds_27 : decode cX2_exceeds 27 = .ok (.invokestatic 79, 3) := by decide +kernel
theorem dX2_exceeds_30 : decode cX2_exceeds 30 = .ok (.ifCond .ne 5, 3) := by decide +kernel
theorem dX2_exceeds_33 : decode cX2_exceeds 33 = .ok (.iconst 1, 1) := by decide +kernel
theorem dX2_exceeds_34 : decode cX2_exceeds 34 = .ok (.ireturn, 1) := by decide +kernel
theorem dX2_exceeds_35 : decode cX2_exceeds 35 = .ok (.iinc 5 1, 3) := by decide +kernel
theorem dX2_exceeds_38 : decode cX2_exceeds 38 = .ok (.goto (-35), 3) := by decide +kernel
theorem dX2_exceeds_41 : decode cX2_exceeds 41 = .ok (.iconst 0, 1) := by decide +kernel
theorem dX2_exceeds_42 : decode cX2_exceeds 42 = .ok (.ireturn, 1) := by decide +kernel
theorem dX2_squares_0 : decode cX2_squares 0 = .ok (.lconst 0, 1) := by decide +kernel
theorem dX2_squares_1 : decode cX2_squares 1 = .ok (.lstore_n 3, 1) := by decide +kernel
theorem dX2_squares_2 : decode cX2_squares 2 = .ok (.iload_n 1, 1) := by decide +kernel
theorem dX2_squares_3 : decode cX2_squares 3 = .ok (.istore 5, 2) := by decide +kernel
theorem dX2_squares_5 : decode cX2_squares 5 = .ok (.iload 5, 2) := by decide +kernel
theorem dX2_squares_7 : decode cX2_squares 7 = .ok (.aload_n 0, 1) := by decide +kernel
theorem dX2_squares_8 : decode cX2_squares 8 = .ok (.getfield 25, 3) := by decide +kernel
theorem dX2_squares_11 : decode cX2_squares 11 = .ok (.if_icmp .ge 33, 3) := by decide +kernel
theorem dX2_squares_14 : decode cX2_squares 14 = .ok (.iload 5, 2) := by decide +kernel
theorem dX2_squares_16 : decode cX2_squares 16 = .ok (.iload_n 2, 1) := by decide +kernel
theorem dX2_squares_17 : decode cX2_squares 17 = .ok (.if_icmp .gt 27, 3) := by decide +kernel
theorem dX2_squares_20 : decode cX2_squares 20 = .ok (.lload_n 3, 1) := by decide +kernel
theorem dX2_squares_21 : decode cX2_squares 21 = .ok (.aload_n 0, 1) := by decide +kernel
theorem dX2_squares_22 : decode cX2_squares 22 = .ok (.getfield 9, 3) := by decide +kernel
theorem dX2_squares_25 : decode cX2_squares 25 = .ok (.iload 5, 2) := by decide +kernel
theorem dX2_squares_27 : decode cX2_squares 27 = .ok (.laload, 1) := by decide +kernel
theorem dX2_squares_28 : decode cX2_squares 28 = .ok (.aload_n 0, 1) := by decide +kernel
theorem dX2_squares_29 : decode cX2_squares 29 = .ok (.getfield 9, 3) := by decide +kernel
theorem dX2_squares_32 : decode cX2_squares 32 = .ok (.iload 5, 2) := by decide +kernel
theorem dX2_squares_34 : decode cX2_squares 34 = .ok (.laload, 1) := by decide +kernel
theorem dX2_squares_35 : decode cX2_squares 35 = .ok (.lmul, 1) := by decide +kernel
theorem dX2_squares_36 : decode cX2_squares 36 = .ok (.ladd, 1) := by decide +kernel
theorem dX2_squares_37 : decode cX2_squares 37 = .ok (.lstore_n 3, 1) := by decide +kernel
theorem dX2_squares_38 : decode cX2_squares 38 = .ok (.iinc 5 1, 3) := by decide +kernel
theorem dX2_squares_41 : decode cX2_squares 41 = .ok (.goto (-36), 3) := by decide +kernel
theorem dX2_squares_44 : decode cX2_squares 44 = .ok (.lload_n 3, 1) := by decide +kernel
theorem dX2_squares_45 : decode cX2_squares 45 = .ok (.lreturn, 1) := by decide +kernel
theorem dX2_products_0 : decode cX2_products 0 = .ok (.lconst 0, 1) := by decide +kernel
theorem dX2_products_1 : decode cX2_products 1 = .ok (.lstore_n 2, 1) := by decide +kernel
theorem dX2_products_2 : decode cX2_products 2 = .ok (.iconst 0, 1) := by decide +kernel
theorem dX2_products_3 : decode cX2_products 3 = .ok (.istore 4, 2) := by decide +kernel
theorem dX2_products_5 : decode cX2_products 5 = .ok (.iload 4, 2) := by decide +kernel
theorem dX2_products_7 : decode cX2_products 7 = .ok (.aload_n 0, 1) := by decide +kernel
theorem dX2_products_8 : decode cX2_products 8 = .ok (.getfield 25, 3) := by decide +kernel
theorem dX2_products_11 : decode cX2_products 11 = .ok (.if_icmp .ge 27, 3) := by decide +kernel
theorem dX2_products_14 : decode cX2_products 14 = .ok (.lload_n 2, 1) := by decide +kernel
theorem dX2_products_15 : decode cX2_products 15 = .ok (.aload_n 0, 1) := by decide +kernel
theorem dX2_products_16 : decode cX2_products 16 = .ok (.getfield 9, 3) := by decide +kernel
theorem dX2_products_19 : decode cX2_products 19 = .ok (.iload 4, 2) := by decide +kernel
theorem dX2_products_21 : decode cX2_products 21 = .ok (.laload, 1) := by decide +kernel
theorem dX2_products_22 : decode cX2_products 22 = .ok (.aload_n 1, 1) := by decide +kernel
theorem dX2_products_23 : decode cX2_products 23 = .ok (.getfield 9, 3) := by decide +kernel
theorem dX2_products_26 : decode cX2_products 26 = .ok (.iload 4, 2) := by decide +kernel
theorem dX2_products_28 : decode cX2_products 28 = .ok (.laload, 1) := by decide +kernel
theorem dX2_products_29 : decode cX2_products 29 = .ok (.lmul, 1) := by decide +kernel
theorem dX2_products_30 : decode cX2_products 30 = .ok (.ladd, 1) := by decide +kernel
theorem dX2_products_31 : decode cX2_products 31 = .ok (.lstore_n 2, 1) := by decide +kernel
theorem dX2_products_32 : decode cX2_products 32 = .ok (.iinc 4 1, 3) := by decide +kernel
theorem dX2_products_35 : decode cX2_products 35 = .ok (.goto (-30), 3) := by decide +kernel
theorem dX2_products_38 : decode cX2_products 38 = .ok (.lload_n 2, 1) := by decide +kernel
theorem dX2_products_39 : decode cX2_products 39 = .ok (.lreturn, 1) := by decide +kernel
theorem dX3_init_0 : decode cX3_init 0 = .ok (.aload_n 0, 1) := by decide +kernel
theorem dX3_init_1 : decode cX3_init 1 = .ok (.invokespecial 3, 3) := by decide +kernel
theorem dX3_init_4 : decode cX3_init 4 = .ok (.aload_n 0, 1) := by decide +kernel
theorem dX3_init_5 : decode cX3_init 5 = .ok (.bipush 64, 2) := by decide +kernel
theorem dX3_init_7 : decode cX3_init 7 = .ok (.newarray .int, 2) := by decide +kernel
theorem dX3_init_9 : decode cX3_init 9 = .ok (.putfield 9, 3) := by decide +kernel
theorem dX3_init_12 : decode cX3_init 12 = .ok (.aload_n 0, 1) := by decide +kernel
theorem dX3_init_13 : decode cX3_init 13 = .ok (.bipush 64, 2) := by decide +kernel
theorem dX3_init_15 : decode cX3_init 15 = .ok (.newarray .int, 2) := by decide +kernel
theorem dX3_init_17 : decode cX3_init 17 = .ok (.putfield 15, 3) := by decide +kernel
theorem dX3_init_20 : decode cX3_init 20 = .ok (.aload_n 0, 1) := by decide +kernel
theorem dX3_init_21 : decode cX3_init 21 = .ok (.bipush 64, 2) := by decide +kernel
theorem dX3_init_23 : decode cX3_init 23 = .ok (.newarray .boolean, 2) := by decide +kernel
theorem dX3_init_25 : decode cX3_init 25 = .ok (.putfield 18, 3) := by decide +kernel
theorem dX3_init_28 : decode cX3_init 28 = .ok (.return_, 1) := by decide +kernel
theorem dX3_begin_0 : decode cX3_begin 0 = .ok (.aload_n 0, 1) := by decide +kernel
theorem dX3_begin_1 : decode cX3_begin 1 = .ok (.iconst 1, 1) := by decide +kernel
theorem dX3_begin_2 : decode cX3_begin 2 = .ok (.putfield 22, 3) := by decide +kernel
theorem dX3_begin_5 : decode cX3_begin 5 = .ok (.aload_n 0, 1) := by decide +kernel
theorem dX3_begin_6 : decode cX3_begin 6 = .ok (.iload_n 1, 1) := by decide +kernel
theorem dX3_begin_7 : decode cX3_begin 7 = .ok (.putfield 26, 3) := by decide +kernel
theorem dX3_begin_10 : decode cX3_begin 10 = .ok (.aload_n 0, 1) := by decide +kernel
theorem dX3_begin_11 : decode cX3_begin 11 = .ok (.iload_n 2, 1) := by decide +kernel
theorem dX3_begin_12 : decode cX3_begin 12 = .ok (.putfield 30, 3) := by decide +kernel
theorem dX3_begin_15 : decode cX3_begin 15 = .ok (.aload_n 0, 1) := by decide +kernel
theorem dX3_begin_16 : decode cX3_begin 16 = .ok (.getfield 9, 3) := by decide +kernel
theorem dX3_begin_19 : decode cX3_begin 19 = .ok (.iconst 0, 1) := by decide +kernel
theorem dX3_begin_20 : decode cX3_begin 20 = .ok (.invokestatic 33, 3) := by decide +kernel
theorem dX3_begin_23 : decode cX3_begin 23 = .ok (.aload_n 0, 1) := by decide +kernel
theorem dX3_begin_24 : decode cX3_begin 24 = .ok (.getfield 15, 3) := by decide +kernel
theorem dX3_begin_27 : decode cX3_begin 27 = .ok (.iconst 1, 1) := by decide +kernel
theorem dX3_begin_28 : decode cX3_begin 28 = .ok (.invokestatic 33, 3) := by decide +kernel
theorem dX3_begin_31 : decode cX3_begin 31 = .ok (.return_, 1) := by decide +kernel
theorem dX3_isThere_0 : decode cX3_isThere 0 = .ok (.aload_n 0, 1) := by decide +kernel
theorem dX3_isThere_1 : decode cX3_isThere 1 = .ok (.getfield 22, 3) := by decide +kernel
theorem dX3_isThere_4 : decode cX3_isThere 4 = .ok (.ireturn, 1) := by decide +kernel
theorem dX3_size_0 : decode cX3_size 0 = .ok (.aload_n 0, 1) := by decide +kernel
theorem dX3_size_1 : decode cX3_size 1 = .ok (.getfield 30, 3) := by decide +kernel
theorem dX3_size_4 : decode cX3_size 4 = .ok (.ireturn, 1) := by decide +kernel
theorem dX3_has_0 : decode cX3_has 0 = .ok (.iload_n 1, 1) := by decide +kernel
theorem dX3_has_1 : decode cX3_has 1 = .ok (.ifCond .lt 15, 3) := by decide +kernel
theorem dX3_has_4 : decode cX3_has 4 = .ok (.iload_n 1, 1) := by decide +kernel
theorem dX3_has_5 : decode cX3_has 5 = .ok (.aload_n 0, 1) := by decide +kernel
theorem dX3_has_6 : decode cX3_has 6 = .ok (.getfield 30, 3) := by decide +kernel
theorem dX3_has_9 : decode cX3_has 9 = .ok (.if_icmp .ge 7, 3) := by decide +kernel
theorem dX3_has_12 : decode cX3_has 12 = .ok (.iconst 1, 1) := by decide +kernel
theorem dX3_has_13 : decode cX3_has 13 = .ok (.goto 4, 3) := by decide +kernel
theorem dX3_has_16 : decode cX3_has 16 = .ok (.iconst 0, 1) := by decide +kernel
theorem dX3_has_17 : decode cX3_has 17 = .ok (.ireturn, 1) := by decide +kernel
theorem dX3_fits_0 : decode cX3_fits 0 = .ok (.aload_n 0, 1) := by decide +kernel
theorem dX3_fits_1 : decode cX3_fits 1 = .ok (.getfield 26, 3) := by decide +kernel
theorem dX3_fits_4 : decode cX3_fits 4 = .ok (.lookupswitch 66 #[(0, 28), (1, 46)], 28) := by decide +kernel
theorem dX3_fits_32 : decode cX3_fits 32 = .ok (.iload_n 1, 1) := by decide +kernel
theorem dX3_fits_33 : decode cX3_fits 33 = .ok (.bipush (-128), 2) := by decide +kernel
theorem dX3_fits_35 : decode cX3_fits 35 = .ok (.if_icmp .lt 13, 3) := by decide +kernel
theorem dX3_fits_38 : decode cX3_fits 38 = .ok (.iload_n 1, 1) := by decide +kernel
theorem dX3_fits_39 : decode cX3_fits 39 = .ok (.bipush 127, 2) := by decide +kernel
theorem dX3_fits_41 : decode cX3_fits 41 = .ok (.if_icmp .gt 7, 3) := by decide +kernel
theorem dX3_fits_44 : decode cX3_fits 44 = .ok (.iconst 1, 1) := by decide +kernel
theorem dX3_fits_45 : decode cX3_fits 45 = .ok (.goto 4, 3) := by decide +kernel
theorem dX3_fits_48 : decode cX3_fits 48 = .ok (.iconst 0, 1) := by decide +kernel
theorem dX3_fits_49 : decode cX3_fits 49 = .ok (.ireturn, 1) := by decide +kernel
theorem dX3_fits_50 : decode cX3_fits 50 = .ok (.iload_n 1, 1) := by decide +kernel
theorem dX3_fits_51 : decode cX3_fits 51 = .ok (.sipush (-32768), 3) := by decide +kernel
theorem dX3_fits_54 : decode cX3_fits 54 = .ok (.if_icmp .lt 14, 3) := by decide +kernel
theorem dX3_fits_57 : decode cX3_fits 57 = .ok (.iload_n 1, 1) := by decide +kernel
theorem dX3_fits_58 : decode cX3_fits 58 = .ok (.sipush 32767, 3) := by decide +kernel
theorem dX3_fits_61 : decode cX3_fits 61 = .ok (.if_icmp .gt 7, 3) := by decide +kernel
theorem dX3_fits_64 : decode cX3_fits 64 = .ok (.iconst 1, 1) := by decide +kernel
theorem dX3_fits_65 : decode cX3_fits 65 = .ok (.goto 4, 3) := by decide +kernel
theorem dX3_fits_68 : decode cX3_fits 68 = .ok (.iconst 0, 1) := by decide +kernel
theorem dX3_fits_69 : decode cX3_fits 69 = .ok (.ireturn, 1) := by decide +kernel
theorem dX3_fits_70 : decode cX3_fits 70 = .ok (.iconst 1, 1) := by decide +kernel
theorem dX3_fits_71 : decode cX3_fits 71 = .ok (.ireturn, 1) := by decide +kernel
theorem dX3_tell_0 : decode cX3_tell 0 = .ok (.aload_n 0, 1) := by decide +kernel
theorem dX3_tell_1 : decode cX3_tell 1 = .ok (.getfield 9, 3) := by decide +kernel
theorem dX3_tell_4 : decode cX3_tell 4 = .ok (.iload_n 1, 1) := by decide +kernel
theorem dX3_tell_5 : decode cX3_tell 5 = .ok (.iload_n 2, 1) := by decide +kernel
theorem dX3_tell_6 : decode cX3_tell 6 = .ok (.iastore, 1) := by decide +kernel
theorem dX3_tell_7 : decode cX3_tell 7 = .ok (.aload_n 0, 1) := by decide +kernel
theorem dX3_tell_8 : decode cX3_tell 8 = .ok (.getfield 15, 3) := by decide +kernel
theorem dX3_tell_11 : decode cX3_tell 11 = .ok (.iload_n 1, 1) := by decide +kernel
theorem dX3_tell_12 : decode cX3_tell 12 = .ok (.iconst 1, 1) := by decide +kernel
theorem dX3_tell_13 : decode cX3_tell 13 = .ok (.iastore, 1) := by decide +kernel
theorem dX3_tell_14 : decode cX3_tell 14 = .ok (.return_, 1) := by decide +kernel
theorem dX3_valueAt_0 : decode cX3_valueAt 0 = .ok (.aload_n 0, 1) := by decide +kernel
theorem dX3_valueAt_1 : decode cX3_valueAt 1 = .ok (.getfield 9, 3) := by decide +kernel
theorem dX3_valueAt_4 : decode cX3_valueAt 4 = .ok (.iload_n 1, 1) := by decide +kernel
theorem dX3_valueAt_5 : decode cX3_valueAt 5 = .ok (.iaload, 1) := by decide +kernel
theorem dX3_valueAt_6 : decode cX3_valueAt 6 = .ok (.ireturn, 1) := by decide +kernel
theorem dX3_lostSamples_0 : decode cX3_lostSamples 0 = .ok (.aload_n 0, 1) := by decide +kernel
theorem dX3_lostSamples_1 : decode cX3_lostSamples 1 = .ok (.iconst 0, 1) := by decide +kernel
theorem dX3_lostSamples_2 : decode cX3_lostSamples 2 = .ok (.invokevirtual 79, 3) := by decide +kernel
theorem dX3_lostSamples_5 : decode cX3_lostSamples 5 = .ok (.ireturn, 1) := by decide +kernel
theorem dX3_samplesThatStand_0 : decode cX3_samplesThatStand 0 = .ok (.iconst 0, 1) := by decide +kernel
theorem dX3_samplesThatStand_1 : decode cX3_samplesThatStand 1 = .ok (.istore_n 2, 1) := by decide +kernel
theorem dX3_samplesThatStand_2 : decode cX3_samplesThatStand 2 = .ok (.iconst 0, 1) := by decide +kernel
theorem dX3_samplesThatStand_3 : decode cX3_samplesThatStand 3 = .ok (.istore_n 3, 1) := by decide +kernel
theorem dX3_samplesThatStand_4 : decode cX3_samplesThatStand 4 = .ok (.iload_n 3, 1) := by decide +kernel
theorem dX3_samplesThatStand_5 : decode cX3_samplesThatStand 5 = .ok (.aload_n 0, 1) := by decide +kernel
theorem dX3_samplesThatStand_6 : decode cX3_samplesThatStand 6 = .ok (.getfield 30, 3) := by decide +kernel
theorem dX3_samplesThatStand_9 : decode cX3_samplesThatStand 9 = .ok (.if_icmp .ge 22, 3) := by decide +kernel
theorem dX3_samplesThatStand_12 : decode cX3_samplesThatStand 12 = .ok (.aload_n 0, 1) := by decide +kernel
theorem dX3_samplesThatStand_13 : decode cX3_samplesThatStand 13 = .ok (.getfield 15, 3) := by decide +kernel
theorem dX3_samplesThatStand_16 : decode cX3_samplesThatStand 16 = .ok (.iload_n 3, 1) := by decide +kernel
theorem dX3_samplesThatStand_17 : decode cX3_samplesThatStand 17 = .ok (.iaload, 1) := by decide +kernel
theorem dX3_samplesThatStand_18 : decode cX3_samplesThatStand 18 = .ok (.iload_n 1, 1) := by decide +kernel
theorem dX3_samplesThatStand_19 : decode cX3_samplesThatStand 19 = .ok (.if_icmp .ne 6, 3) := by decide +kernel
theorem dX3_samplesThatStand_22 : decode cX3_samplesThatStand 22 = .ok (.iinc 2 1, 3) := by decide +kernel
theorem dX3_samplesThatStand_25 : decode cX3_samplesThatStand 25 = .ok (.iinc 3 1, 3) := by decide +kernel
theorem dX3_samplesThatStand_28 : decode cX3_samplesThatStand 28 = .ok (.goto (-24), 3) := by decide +kernel
theorem dX3_samplesThatStand_31 : decode cX3_samplesThatStand 31 = .ok (.iload_n 2, 1) := by decide +kernel
theorem dX3_samplesThatStand_32 : decode cX3_samplesThatStand 32 = .ok (.ireturn, 1) := by decide +kernel
theorem dX4_init_0 : decode cX4_init 0 = .ok (.aload_n 0, 1) := by decide +kernel
theorem dX4_init_1 : decode cX4_init 1 = .ok (.invokespecial 1, 3) := by decide +kernel
theorem dX4_init_4 : decode cX4_init 4 = .ok (.aload_n 0, 1) := by decide +kernel
theorem dX4_init_5 : decode cX4_init 5 = .ok (.bipush 100, 2) := by decide +kernel
theorem dX4_init_7 : decode cX4_init 7 = .ok (.putfield 7, 3) := by decide +kernel
theorem dX4_init_10 : decode cX4_init 10 = .ok (.aload_n 0, 1) := by decide +kernel
theorem dX4_init_11 : decode cX4_init 11 = .ok (.bipush 50, 2) := by decide +kernel
theorem dX4_init_13 : decode cX4_init 13 = .ok (.putfield 13, 3) := by decide +kernel
theorem dX4_init_16 : decode cX4_init 16 = .ok (.return_, 1) := by decide +kernel
theorem dX5_init_0 : decode cX5_init 0 = .ok (.aload_n 0, 1) := by decide +kernel
theorem dX5_init_1 : decode cX5_init 1 = .ok (.invokespecial 1, 3) := by decide +kernel
theorem dX5_init_4 : decode cX5_init 4 = .ok (.aload_n 0, 1) := by decide +kernel
theorem dX5_init_5 : decode cX5_init 5 = .ok (.bipush 8, 2) := by decide +kernel
theorem dX5_init_7 : decode cX5_init 7 = .ok (.anewarray 9, 3) := by decide +kernel
theorem dX5_init_10 : decode cX5_init 10 = .ok (.putfield 11, 3) := by decide +kernel
theorem dX5_init_13 : decode cX5_init 13 = .ok (.iconst 0, 1) := by decide +kernel
theorem dX5_init_14 : decode cX5_init 14 = .ok (.istore_n 1, 1) := by decide +kernel
theorem dX5_init_15 : decode cX5_init 15 = .ok (.iload_n 1, 1) := by decide +kernel
theorem dX5_init_16 : decode cX5_init 16 = .ok (.bipush 8, 2) := by decide +kernel
theorem dX5_init_18 : decode cX5_init 18 = .ok (.if_icmp .ge 22, 3) := by decide +kernel
theorem dX5_init_21 : decode cX5_init 21 = .ok (.aload_n 0, 1) := by decide +kernel
theorem dX5_init_22 : decode cX5_init 22 = .ok (.getfield 11, 3) := by decide +kernel
theorem dX5_init_25 : decode cX5_init 25 = .ok (.iload_n 1, 1) := by decide +kernel
theorem dX5_init_26 : decode cX5_init 26 = .ok (.new 9, 3) := by decide +kernel
theorem dX5_init_29 : decode cX5_init 29 = .ok (.dup, 1) := by decide +kernel
theorem dX5_init_30 : decode cX5_init 30 = .ok (.invokespecial 15, 3) := by decide +kernel
theorem dX5_init_33 : decode cX5_init 33 = .ok (.aastore, 1) := by decide +kernel
theorem dX5_init_34 : decode cX5_init 34 = .ok (.iinc 1 1, 3) := by decide +kernel
theorem dX5_init_37 : decode cX5_init 37 = .ok (.goto (-22), 3) := by decide +kernel
theorem dX5_init_40 : decode cX5_init 40 = .ok (.aload_n 0, 1) := by decide +kernel
theorem dX5_init_41 : decode cX5_init 41 = .ok (.bipush 6, 2) := by decide +kernel
theorem dX5_init_43 : decode cX5_init 43 = .ok (.anewarray 16, 3) := by decide +kernel
theorem dX5_init_46 : decode cX5_init 46 = .ok (.putfield 18, 3) := by decide +kernel
theorem dX5_init_49 : decode cX5_init 49 = .ok (.iconst 0, 1) := by decide +kernel
theorem dX5_init_50 : decode cX5_init 50 = .ok (.istore_n 1, 1) := by decide +kernel
theorem dX5_init_51 : decode cX5_init 51 = .ok (.iload_n 1, 1) := by decide +kernel
theorem dX5_init_52 : decode cX5_init 52 = .ok (.bipush 6, 2) := by decide +kernel
theorem dX5_init_54 : decode cX5_init 54 = .ok (.if_icmp .ge 22, 3) := by decide +kernel
theorem dX5_init_57 : decode cX5_init 57 = .ok (.aload_n 0, 1) := by decide +kernel
theorem dX5_init_58 : decode cX5_init 58 = .ok (.getfield 18, 3) := by decide +kernel
theorem dX5_init_61 : decode cX5_init 61 = .ok (.iload_n 1, 1) := by decide +kernel
theorem dX5_init_62 : decode cX5_init 62 = .ok (.new 16, 3) := by decide +kernel
theorem dX5_init_65 : decode cX5_init 65 = .ok (.dup, 1) := by decide +kernel
theorem dX5_init_66 : decode cX5_init 66 = .ok (.invokespecial 22, 3) := by decide +kernel
theorem dX5_init_69 : decode cX5_init 69 = .ok (.aastore, 1) := by decide +kernel
theorem dX5_init_70 : decode cX5_init 70 = .ok (.iinc 1 1, 3) := by decide +kernel
theorem dX5_init_73 : decode cX5_init 73 = .ok (.goto (-22), 3) := by decide +kernel
theorem dX5_init_76 : decode cX5_init 76 = .ok (.aload_n 0, 1) := by decide +kernel
theorem dX5_init_77 : decode cX5_init 77 = .ok (.new 23, 3) := by decide +kernel
theorem dX5_init_80 : decode cX5_init 80 = .ok (.dup, 1) := by decide +kernel
theorem dX5_init_81 : decode cX5_init 81 = .ok (.invokespecial 25, 3) := by decide +kernel
theorem dX5_init_84 : decode cX5_init 84 = .ok (.putfield 26, 3) := by decide +kernel
theorem dX5_init_87 : decode cX5_init 87 = .ok (.aload_n 0, 1) := by decide +kernel
theorem dX5_init_88 : decode cX5_init 88 = .ok (.new 30, 3) := by decide +kernel
theorem dX5_init_91 : decode cX5_init 91 = .ok (.dup, 1) := by decide +kernel
theorem dX5_init_92 : decode cX5_init 92 = .ok (.invokespecial 32, 3) := by decide +kernel
theorem dX5_init_95 : decode cX5_init 95 = .ok (.putfield 33, 3) := by decide +kernel
theorem dX5_init_98 : decode cX5_init 98 = .ok (.aload_n 0, 1) := by decide +kernel
theorem dX5_init_99 : decode cX5_init 99 = .ok (.new 37, 3) := by decide +kernel
theorem dX5_init_102 : decode cX5_init 102 = .ok (.dup, 1) := by decide +kernel
theorem dX5_init_103 : decode cX5_init 103 = .ok (.invokespecial 39, 3) := by decide +kernel
theorem dX5_init_106 : decode cX5_init 106 = .ok (.putfield 40, 3) := by decide +kernel
theorem dX5_init_109 : decode cX5_init 109 = .ok (.return_, 1) := by decide +kernel
theorem dX5_sheet_0 : decode cX5_sheet 0 = .ok (.iload_n 1, 1) := by decide +kernel
theorem dX5_sheet_1 : decode cX5_sheet 1 = .ok (.invokestatic 44, 3) := by decide +kernel
theorem dX5_sheet_4 : decode cX5_sheet 4 = .ok (.ifCond .eq 18, 3) := by decide +kernel
theorem dX5_sheet_7 : decode cX5_sheet 7 = .ok (.iload_n 2, 1) := by decide +kernel
theorem dX5_sheet_8 : decode cX5_sheet 8 = .ok (.ifCond .lt 14, 3) := by decide +kernel
theorem dX5_sheet_11 : decode cX5_sheet 11 = .ok (.iload_n 2, 1) := by decide +kernel
theorem dX5_sheet_12 : decode cX5_sheet 12 = .ok (.iconst 2, 1) := by decide +kernel
theorem dX5_sheet_13 : decode cX5_sheet 13 = .ok (.if_icmp .gt 9, 3) := by decide +kernel
theorem dX5_sheet_16 : decode cX5_sheet 16 = .ok (.iload_n 3, 1) := by decide +kernel
theorem dX5_sheet_17 : decode cX5_sheet 17 = .ok (.bipush 64, 2) := by decide +kernel
theorem dX5_sheet_19 : decode cX5_sheet 19 = .ok (.if_icmp .le 6, 3) := by decide +kernel
theorem dX5_sheet_22 : decode cX5_sheet 22 = .ok (.bipush (-2), 2) := by decide +kernel
theorem dX5_sheet_24 : decode cX5_sheet 24 = .ok (.ireturn, 1) := by decide +kernel
theorem dX5_sheet_25 : decode cX5_sheet 25 = .ok (.iload_n 3, 1) := by decide +kernel
theorem dX5_sheet_26 : decode cX5_sheet 26 = .ok (.ifCond .ge 6, 3) := by decide +kernel
theorem dX5_sheet_29 : decode cX5_sheet 29 = .ok (.bipush (-12), 2) := by decide +kernel
theorem dX5_sheet_31 : decode cX5_sheet 31 = .ok (.ireturn, 1) := by decide +kernel
theorem dX5_sheet_32 : decode cX5_sheet 32 = .ok (.aload_n 0, 1) := by decide +kernel
theorem dX5_sheet_33 : decode cX5_sheet 33 = .ok (.getfield 11, 3) := by decide +kernel
theorem dX5_sheet_36 : decode cX5_sheet 36 = .ok (.iload_n 1, 1) := by decide +kernel
theorem dX5_sheet_37 : decode cX5_sheet 37 = .ok (.aaload, 1) := by decide +kernel
theorem dX5_sheet_38 : decode cX5_sheet 38 = .ok (.iload_n 2, 1) := by decide +kernel
theorem dX5_sheet_39 : decode cX5_sheet 39 = .ok (.iload_n 3, 1) := by decide +kernel
theorem dX5_sheet_40 : decode cX5_sheet 40 = .ok (.invokevirtual 48, 3) := by decide +kernel
theorem dX5_sheet_43 : decode cX5_sheet 43 = .ok (.iconst 1, 1) := by decide +kernel
theorem dX5_sheet_44 : decode cX5_sheet 44 = .ok (.ireturn, 1) := by decide +kernel
theorem dX5_put_0 : decode cX5_put 0 = .ok (.aload_n 0, 1) := by decide +kernel
theorem dX5_put_1 : decode cX5_put 1 = .ok (.iload_n 1, 1) := by decide +kernel
theorem dX5_put_2 : decode cX5_put 2 = .ok (.iload_n 2, 1) := by decide +kernel
theorem dX5_put_3 : decode cX5_put 3 = .ok (.invokevirtual 60, 3) := by decide +kernel
theorem dX5_put_6 : decode cX5_put 6 = .ok (.istore 4, 2) := by decide +kernel
theorem dX5_put_8 : decode cX5_put 8 = .ok (.iload 4, 2) := by decide +kernel
theorem dX5_put_10 : decode cX5_put 10 = .ok (.ifCond .eq 6, 3) := by decide +kernel
theorem dX5_put_13 : decode cX5_put 13 = .ok (.iload 4, 2) := by decide +kernel
theorem dX5_put_15 : decode cX5_put 15 = .ok (.ireturn, 1) := by decide +kernel
theorem dX5_put_16 : decode cX5_put 16 = .ok (.aload_n 0, 1) := by decide +kernel
theorem dX5_put_17 : decode cX5_put 17 = .ok (.getfield 11, 3) := by decide +kernel
theorem dX5_put_20 : decode cX5_put 20 = .ok (.iload_n 1, 1) := by decide +kernel
theorem dX5_put_21 : decode cX5_put 21 = .ok (.aaload, 1) := by decide +kernel
theorem dX5_put_22 : decode cX5_put 22 = .ok (.iload_n 3, 1) := by decide +kernel
theorem dX5_put_23 : decode cX5_put 23 = .ok (.invokevirtual 64, 3) := by decide +kernel
theorem dX5_put_26 : decode cX5_put 26 = .ok (.ifCond .ne 6, 3) := by decide +kernel
theorem dX5_put_29 : decode cX5_put 29 = .ok (.bipush (-14), 2) := by decide +kernel
theorem dX5_put_31 : decode cX5_put 31 = .ok (.ireturn, 1) := by decide +kernel
theorem dX5_put_32 : decode cX5_put 32 = .ok (.aload_n 0, 1) := by decide +kernel
theorem dX5_put_33 : decode cX5_put 33 = .ok (.getfield 11, 3) := by decide +kernel
theorem dX5_put_36 : decode cX5_put 36 = .ok (.iload_n 1, 1) := by decide +kernel
theorem dX5_put_37 : decode cX5_put 37 = .ok (.aaload, 1) := by decide +kernel
theorem dX5_put_38 : decode cX5_put 38 = .ok (.iload_n 2, 1) := by decide +kernel
theorem dX5_put_39 : decode cX5_put 39 = .ok (.iload_n 3, 1) := by decide +kernel
theorem dX5_put_40 : decode cX5_put 40 = .ok (.invokevirtual 67, 3) := by decide +kernel
theorem dX5_put_43 : decode cX5_put 43 = .ok (.iconst 1, 1) := by decide +kernel
theorem dX5_put_44 : decode cX5_put 44 = .ok (.ireturn, 1) := by decide +kernel
theorem dX5_raise_0 : decode cX5_raise 0 = .ok (.iload_n 1, 1) := by decide +kernel
theorem dX5_raise_1 : decode cX5_raise 1 = .ok (.invokestatic 44, 3) := by decide +kernel
theorem dX5_raise_4 : decode cX5_raise 4 = .ok (.ifCond .eq 10, 3) := by decide +kernel
theorem dX5_raise_7 : decode cX5_raise 7 = .ok (.iload_n 2, 1) := by decide +kernel
theorem dX5_raise_8 : decode cX5_raise 8 = .ok (.invokestatic 111, 3) := by decide +kernel
theorem dX5_raise_11 : decode cX5_raise 11 = .ok (.ifCond .ne 6, 3) := by decide +kernel
theorem dX5_raise_14 : decode cX5_raise 14 = .ok (.bipush (-2), 2) := by decide +kernel
theorem dX5_raise_16 : decode cX5_raise 16 = .ok (.ireturn, 1) := by decide +kernel
theorem dX5_raise_17 : decode cX5_raise 17 = .ok (.aload_n 0, 1) := by decide +kernel
theorem dX5_raise_18 : decode cX5_raise 18 = .ok (.getfield 11, 3) := by decide +kernel
theorem dX5_raise_21 : decode cX5_raise 21 = .ok (.iload_n 1, 1) := by decide +kernel
theorem dX5_raise_22 : decode cX5_raise 22 = .ok (.aaload, 1) := by decide +kernel
theorem dX5_raise_23 : decode cX5_raise 23 = .ok (.invokevirtual 87, 3) := by decide +kernel
theorem dX5_raise_26 : decode cX5_raise 26 = .ok (.ifCond .ne 6, 3) := by decide +kernel
theorem dX5_raise_29 : decode cX5_raise 29 = .ok (.bipush (-10), 2) := by decide +kernel
theorem dX5_raise_31 : decode cX5_raise 31 = .ok (.ireturn, 1) := by decide +kernel
theorem dX5_raise_32 : decode cX5_raise 32 = .ok (.aload_n 0, 1) := by decide +kernel
theorem dX5_raise_33 : decode cX5_raise 33 = .ok (.getfield 11, 3) := by decide +kernel
theorem dX5_raise_36 : decode cX5_raise 36 = .ok (.iload_n 1, 1) := by decide +kernel
theorem dX5_raise_37 : decode cX5_raise 37 = .ok (.aaload, 1) := by decide +kernel
theorem dX5_raise_38 : decode cX5_raise 38 = .ok (.invokevirtual 114, 3) := by decide +kernel
theorem dX5_raise_41 : decode cX5_raise 41 = .ok (.ifCond .le 6, 3) := by decide +kernel
theorem dX5_raise_44 : decode cX5_raise 44 = .ok (.bipush (-15), 2) := by decide +kernel
theorem dX5_raise_46 : decode cX5_raise 46 = .ok (.ireturn, 1) := by decide +kernel
theorem dX5_raise_47 : decode cX5_raise 47 = .ok (.aload_n 0, 1) := by decide +kernel
theorem dX5_raise_48 : decode cX5_raise 48 = .ok (.getfield 18, 3) := by decide +kernel
theorem dX5_raise_51 : decode cX5_raise 51 = .ok (.iload_n 2, 1) := by decide +kernel
theorem dX5_raise_52 : decode cX5_raise 52 = .ok (.aaload, 1) := by decide +kernel
theorem dX5_raise_53 : decode cX5_raise 53 = .ok (.aload_n 0, 1) := by decide +kernel
theorem dX5_raise_54 : decode cX5_raise 54 = .ok (.getfield 11, 3) := by decide +kernel
theorem dX5_raise_57 : decode cX5_raise 57 = .ok (.iload_n 1, 1) := by decide +kernel
theorem dX5_raise_58 : decode cX5_raise 58 = .ok (.aaload, 1) := by decide +kernel
theorem dX5_raise_59 : decode cX5_raise 59 = .ok (.invokevirtual 117, 3) := by decide +kernel
theorem dX5_raise_62 : decode cX5_raise 62 = .ok (.aload_n 0, 1) := by decide +kernel
theorem dX5_raise_63 : decode cX5_raise 63 = .ok (.getfield 18, 3) := by decide +kernel
theorem dX5_raise_66 : decode cX5_raise 66 = .ok (.iload_n 2, 1) := by decide +kernel
theorem dX5_raise_67 : decode cX5_raise 67 = .ok (.aaload, 1) := by decide +kernel
theorem dX5_raise_68 : decode cX5_raise 68 = .ok (.invokevirtual 120, 3) := by decide +kernel
theorem dX5_raise_71 : decode cX5_raise 71 = .ok (.ireturn, 1) := by decide +kernel
theorem dX5_number_0 : decode cX5_number 0 = .ok (.iload_n 1, 1) := by decide +kernel
theorem dX5_number_1 : decode cX5_number 1 = .ok (.invokestatic 111, 3) := by decide +kernel
theorem dX5_number_4 : decode cX5_number 4 = .ok (.ifCond .ne 7, 3) := by decide +kernel
theorem dX5_number_7 : decode cX5_number 7 = .ok (.ldc2_w 123, 3) := by decide +kernel
theorem dX5_number_10 : decode cX5_number 10 = .ok (.lreturn, 1) := by decide +kernel
theorem dX5_number_11 : decode cX5_number 11 = .ok (.iload_n 2, 1) := by decide +kernel
theorem dX5_number_12 : decode cX5_number 12 = .ok (.ifCond .lt 16, 3) := by decide +kernel
theorem dX5_number_15 : decode cX5_number 15 = .ok (.iload_n 2, 1) := by decide +kernel
theorem dX5_number_16 : decode cX5_number 16 = .ok (.aload_n 0, 1) := by decide +kernel
theorem dX5_number_17 : decode cX5_number 17 = .ok (.getfield 18, 3) := by decide +kernel
theorem dX5_number_20 : decode cX5_number 20 = .ok (.iload_n 1, 1) := by decide +kernel
theorem dX5_number_21 : decode cX5_number 21 = .ok (.aaload, 1) := by decide +kernel
theorem dX5_number_22 : decode cX5_number 22 = .ok (.invokevirtual 120, 3) := by decide +kernel
theorem dX5_number_25 : decode cX5_number 25 = .ok (.if_icmp .lt 7, 3) := by decide +kernel
theorem dX5_number_28 : decode cX5_number 28 = .ok (.ldc2_w 125, 3) := by decide +kernel
theorem dX5_number_31 : decode cX5_number 31 = .ok (.lreturn, 1) := by decide +kernel
theorem dX5_number_32 : decode cX5_number 32 = .ok (.aload_n 0, 1) := by decide +kernel
theorem dX5_number_33 : decode cX5_number 33 = .ok (.getfield 18, 3) := by decide +kernel
theorem dX5_number_36 : decode cX5_number 36 = .ok (.iload_n 1, 1) := by decide +kernel
theorem dX5_number_37 : decode cX5_number 37 = .ok (.aaload, 1) := by decide +kernel
theorem dX5_number_38 : decode cX5_number 38 = .ok (.iload_n 2, 1) := by decide +kernel
theorem dX5_number_39 : decode cX5_number 39 = .ok (.invokevirtual 127, 3) := by decide +kernel
theorem dX5_number_42 : decode cX5_number 42 = .ok (.lreturn, 1) := by decide +kernel
theorem dX5_turn_0 : decode cX5_turn 0 = .ok (.iload_n 1, 1) := by decide +kernel
theorem dX5_turn_1 : decode cX5_turn 1 = .ok (.invokestatic 111, 3) := by decide +kernel
theorem dX5_turn_4 : decode cX5_turn 4 = .ok (.ifCond .eq 12, 3) := by decide +kernel
theorem dX5_turn_7 : decode cX5_turn 7 = .ok (.iload_n 2, 1) := by decide +kernel
theorem dX5_turn_8 : decode cX5_turn 8 = .ok (.ifCond .lt 8, 3) := by decide +kernel
theorem dX5_turn_11 : decode cX5_turn 11 = .ok (.iload_n 2, 1) := by decide +kernel
theorem dX5_turn_12 : decode cX5_turn 12 = .ok (.iconst 4, 1) := by decide +kernel
theorem dX5_turn_13 : decode cX5_turn 13 = .ok (.if_icmp .lt 6, 3) := by decide +kernel
theorem dX5_turn_16 : decode cX5_turn 16 = .ok (.bipush (-2), 2) := by decide +kernel
theorem dX5_turn_18 : decode cX5_turn 18 = .ok (.ireturn, 1) := by decide +kernel
theorem dX5_turn_19 : decode cX5_turn 19 = .ok (.aload_n 0, 1) := by decide +kernel
theorem dX5_turn_20 : decode cX5_turn 20 = .ok (.getfield 18, 3) := by decide +kernel
theorem dX5_turn_23 : decode cX5_turn 23 = .ok (.iload_n 1, 1) := by decide +kernel
theorem dX5_turn_24 : decode cX5_turn 24 = .ok (.aaload, 1) := by decide +kernel
theorem dX5_turn_25 : decode cX5_turn 25 = .ok (.iload_n 2, 1) := by decide +kernel
theorem dX5_turn_26 : decode cX5_turn 26 = .ok (.invokevirtual 130, 3) := by decide +kernel
theorem dX5_turn_29 : decode cX5_turn 29 = .ok (.ireturn, 1) := by decide +kernel
theorem dX5_mix_0 : decode cX5_mix 0 = .ok (.iload_n 1, 1) := by decide +kernel
theorem dX5_mix_1 : decode cX5_mix 1 = .ok (.invokestatic 111, 3) := by decide +kernel
theorem dX5_mix_4 : decode cX5_mix 4 = .ok (.ifCond .eq 33, 3) := by decide +kernel
theorem dX5_mix_7 : decode cX5_mix 7 = .ok (.iload_n 3, 1) := by decide +kernel
theorem dX5_mix_8 : decode cX5_mix 8 = .ok (.invokestatic 111, 3) := by decide +kernel
theorem dX5_mix_11 : decode cX5_mix 11 = .ok (.ifCond .eq 26, 3) := by decide +kernel
theorem dX5_mix_14 : decode cX5_mix 14 = .ok (.iload_n 2, 1) := by decide +kernel
theorem dX5_mix_15 : decode cX5_mix 15 = .ok (.i2l, 1) := by decide +kernel
theorem dX5_mix_16 : decode cX5_mix 16 = .ok (.ldc2_w 140, 3) := by decide +kernel
theorem dX5_mix_19 : decode cX5_mix 19 = .ok (.invokestatic 142, 3) := by decide +kernel
theorem dX5_mix_22 : decode cX5_mix 22 = .ok (.ifCond .eq 15, 3) := by decide +kernel
theorem dX5_mix_25 : decode cX5_mix 25 = .ok (.iload 4, 2) := by decide +kernel
theorem dX5_mix_27 : decode cX5_mix 27 = .ok (.i2l, 1) := by decide +kernel
theorem dX5_mix_28 : decode cX5_mix 28 = .ok (.ldc2_w 140, 3) := by decide +kernel
theorem dX5_mix_31 : decode cX5_mix 31 = .ok (.invokestatic 142, 3) := by decide +kernel
theorem dX5_mix_34 : decode cX5_mix 34 = .ok (.ifCond .ne 6, 3) := by decide +kernel
theorem dX5_mix_37 : decode cX5_mix 37 = .ok (.bipush (-2), 2) := by decide +kernel
theorem dX5_mix_39 : decode cX5_mix 39 = .ok (.ireturn, 1) := by decide +kernel
theorem dX5_mix_40 : decode cX5_mix 40 = .ok (.aload_n 0, 1) := by decide +kernel
theorem dX5_mix_41 : decode cX5_mix 41 = .ok (.getfield 18, 3) := by decide +kernel
theorem dX5_mix_44 : decode cX5_mix 44 = .ok (.iload_n 1, 1) := by decide +kernel
theorem dX5_mix_45 : decode cX5_mix 45 = .ok (.aaload, 1) := by decide +kernel
theorem dX5_mix_46 : decode cX5_mix 46 = .ok (.invokevirtual 120, 3) := by decide +kernel
theorem dX5_mix_49 : decode cX5_mix 49 = .ok (.aload_n 0, 1) := by decide +kernel
theorem dX5_mix_50 : decode cX5_mix 50 = .ok (.getfield 18, 3) := by decide +kernel
theorem dX5_mix_53 : decode cX5_mix 53 = .ok (.iload_n 3, 1) := by decide +kernel
theorem dX5_mix_54 : decode cX5_mix 54 = .ok (.aaload, 1) := by decide +kernel
theorem dX5_mix_55 : decode cX5_mix 55 = .ok (.invokevirtual 120, 3) := by decide +kernel
theorem dX5_mix_58 : decode cX5_mix 58 = .ok (.if_icmp .eq 6, 3) := by decide +kernel
theorem dX5_mix_61 : decode cX5_mix 61 = .ok (.bipush (-3), 2) := by decide +kernel
theorem dX5_mix_63 : decode cX5_mix 63 = .ok (.ireturn, 1) := by decide +kernel
theorem dX5_mix_64 : decode cX5_mix 64 = .ok (.aload_n 0, 1) := by decide +kernel
theorem dX5_mix_65 : decode cX5_mix 65 = .ok (.getfield 18, 3) := by decide +kernel
theorem dX5_mix_68 : decode cX5_mix 68 = .ok (.iload_n 1, 1) := by decide +kernel
theorem dX5_mix_69 : decode cX5_mix 69 = .ok (.aaload, 1) := by decide +kernel
theorem dX5_mix_70 : decode cX5_mix 70 = .ok (.iload_n 2, 1) := by decide +kernel
theorem dX5_mix_71 : decode cX5_mix 71 = .ok (.aload_n 0, 1) := by decide +kernel
theorem dX5_mix_72 : decode cX5_mix 72 = .ok (.getfield 18, 3) := by decide +kernel
theorem dX5_mix_75 : decode cX5_mix 75 = .ok (.iload_n 3, 1) := by decide +kernel
theorem dX5_mix_76 : decode cX5_mix 76 = .ok (.aaload, 1) := by decide +kernel
theorem dX5_mix_77 : decode cX5_mix 77 = .ok (.iload 4, 2) := by decide +kernel
theorem dX5_mix_79 : decode cX5_mix 79 = .ok (.invokevirtual 146, 3) := by decide +kernel
theorem dX5_mix_82 : decode cX5_mix 82 = .ok (.ireturn, 1) := by decide +kernel
theorem dX5_force_0 : decode cX5_force 0 = .ok (.iload_n 1, 1) := by decide +kernel
theorem dX5_force_1 : decode cX5_force 1 = .ok (.iload_n 2, 1) := by decide +kernel
theorem dX5_force_2 : decode cX5_force 2 = .ok (.iload_n 3, 1) := by decide +kernel
theorem dX5_force_3 : decode cX5_force 3 = .ok (.invokestatic 133, 3) := by decide +kernel
theorem dX5_force_6 : decode cX5_force 6 = .ok (.ifCond .ne 7, 3) := by decide +kernel
theorem dX5_force_9 : decode cX5_force 9 = .ok (.ldc2_w 123, 3) := by decide +kernel
theorem dX5_force_12 : decode cX5_force 12 = .ok (.lreturn, 1) := by decide +kernel
theorem dX5_force_13 : decode cX5_force 13 = .ok (.aload_n 0, 1) := by decide +kernel
theorem dX5_force_14 : decode cX5_force 14 = .ok (.getfield 18, 3) := by decide +kernel
theorem dX5_force_17 : decode cX5_force 17 = .ok (.iload_n 1, 1) := by decide +kernel
theorem dX5_force_18 : decode cX5_force 18 = .ok (.aaload, 1) := by decide +kernel
theorem dX5_force_19 : decode cX5_force 19 = .ok (.ldc2_w 150, 3) := by decide +kernel
theorem dX5_force_22 : decode cX5_force 22 = .ok (.iload_n 2, 1) := by decide +kernel
theorem dX5_force_23 : decode cX5_force 23 = .ok (.iload_n 3, 1) := by decide +kernel
theorem dX5_force_24 : decode cX5_force 24 = .ok (.invokevirtual 152, 3) := by decide +kernel
theorem dX5_force_27 : decode cX5_force 27 = .ok (.ifCond .eq 7, 3) := by decide +kernel
theorem dX5_force_30 : decode cX5_force 30 = .ok (.ldc2_w 156, 3) := by decide +kernel
theorem dX5_force_33 : decode cX5_force 33 = .ok (.lreturn, 1) := by decide +kernel
theorem dX5_force_34 : decode cX5_force 34 = .ok (.aload_n 0, 1) := by decide +kernel
theorem dX5_force_35 : decode cX5_force 35 = .ok (.getfield 18, 3) := by decide +kernel
theorem dX5_force_38 : decode cX5_force 38 = .ok (.iload_n 1, 1) := by decide +kernel
theorem dX5_force_39 : decode cX5_force 39 = .ok (.aaload, 1) := by decide +kernel
theorem dX5_force_40 : decode cX5_force 40 = .ok (.iload_n 2, 1) := by decide +kernel
theorem dX5_force_41 : decode cX5_force 41 = .ok (.iload_n 3, 1) := by decide +kernel
theorem dX5_force_42 : decode cX5_force 42 = .ok (.invokevirtual 158, 3) := by decide +kernel
theorem dX5_force_45 : decode cX5_force 45 = .ok (.lreturn, 1) := by decide +kernel
theorem dX5_cross_0 : decode cX5_cross 0 = .ok (.iload_n 1, 1) := by decide +kernel
theorem dX5_cross_1 : decode cX5_cross 1 = .ok (.invokestatic 111, 3) := by decide +kernel
theorem dX5_cross_4 : decode cX5_cross 4 = .ok (.ifCond .eq 10, 3) := by decide +kernel
theorem dX5_cross_7 : decode cX5_cross 7 = .ok (.iload_n 2, 1) := by decide +kernel
theorem dX5_cross_8 : decode cX5_cross 8 = .ok (.invokestatic 111, 3) := by decide +kernel
theorem dX5_cross_11 : decode cX5_cross 11 = .ok (.ifCond .ne 7, 3) := by decide +kernel
theorem dX5_cross_14 : decode cX5_cross 14 = .ok (.ldc2_w 123, 3) := by decide +kernel
theorem dX5_cross_17 : decode cX5_cross 17 = .ok (.lreturn, 1) := by decide +kernel
theorem dX5_cross_18 : decode cX5_cross 18 = .ok (.aload_n 0, 1) := by decide +kernel
theorem dX5_cross_19 : decode cX5_cross 19 = .ok (.getfield 18, 3) := by decide +kernel
theorem dX5_cross_22 : decode cX5_cross 22 = .ok (.iload_n 1, 1) := by decide +kernel
theorem dX5_cross_23 : decode cX5_cross 23 = .ok (.aaload, 1) := by decide +kernel
theorem dX5_cross_24 : decode cX5_cross 24 = .ok (.invokevirtual 120, 3) := by decide +kernel
theorem dX5_cross_27 : decode cX5_cross 27 = .ok (.aload_n 0, 1) := by decide +kernel
theorem dX5_cross_28 : decode cX5_cross 28 = .ok (.getfield 18, 3) := by decide +kernel
theorem dX5_cross_31 : decode cX5_cross 31 = .ok (.iload_n 2, 1) := by decide +kernel
theorem dX5_cross_32 : decode cX5_cross 32 = .ok (.aaload, 1) := by decide +kernel
theorem dX5_cross_33 : decode cX5_cross 33 = .ok (.invokevirtual 120, 3) := by decide +kernel
theorem dX5_cross_36 : decode cX5_cross 36 = .ok (.if_icmp .eq 7, 3) := by decide +kernel
theorem dX5_cross_39 : decode cX5_cross 39 = .ok (.ldc2_w 162, 3) := by decide +kernel
theorem dX5_cross_42 : decode cX5_cross 42 = .ok (.lreturn, 1) := by decide +kernel
theorem dX5_cross_43 : decode cX5_cross 43 = .ok (.aload_n 0, 1) := by decide +kernel
theorem dX5_cross_44 : decode cX5_cross 44 = .ok (.getfield 18, 3) := by decide +kernel
theorem dX5_cross_47 : decode cX5_cross 47 = .ok (.iload_n 1, 1) := by decide +kernel
theorem dX5_cross_48 : decode cX5_cross 48 = .ok (.aaload, 1) := by decide +kernel
theorem dX5_cross_49 : decode cX5_cross 49 = .ok (.ldc2_w 150, 3) := by decide +kernel
theorem dX5_cross_52 : decode cX5_cross 52 = .ok (.invokevirtual 164, 3) := by decide +kernel
theorem dX5_cross_55 : decode cX5_cross 55 = .ok (.ifCond .ne 18, 3) := by decide +kernel
theorem dX5_cross_58 : decode cX5_cross 58 = .ok (.aload_n 0, 1) := by decide +kernel
theorem dX5_cross_59 : decode cX5_cross 59 = .ok (.getfield 18, 3) := by decide +kernel
theorem dX5_cross_62 : decode cX5_cross 62 = .ok (.iload_n 2, 1) := by decide +kernel
theorem dX5_cross_63 : decode cX5_cross 63 = .ok (.aaload, 1) := by decide +kernel
theorem dX5_cross_64 : decode cX5_cross 64 = .ok (.ldc2_w 150, 3) := by decide +kernel
theorem dX5_cross_67 : decode cX5_cross 67 = .ok (.invokevirtual 164, 3) := by decide +kernel
theorem dX5_cross_70 : decode cX5_cross 70 = .ok (.ifCond .eq 7, 3) := by decide +kernel
theorem dX5_cross_73 : decode cX5_cross 73 = .ok (.ldc2_w 156, 3) := by decide +kernel
theorem dX5_cross_76 : decode cX5_cross 76 = .ok (.lreturn, 1) := by decide +kernel
theorem dX5_cross_77 : decode cX5_cross 77 = .ok (.aload_n 0, 1) := by decide +kernel
theorem dX5_cross_78 : decode cX5_cross 78 = .ok (.getfield 18, 3) := by decide +kernel
theorem dX5_cross_81 : decode cX5_cross 81 = .ok (.iload_n 1, 1) := by decide +kernel
theorem dX5_cross_82 : decode cX5_cross 82 = .ok (.aaload, 1) := by decide +kernel
theorem dX5_cross_83 : decode cX5_cross 83 = .ok (.aload_n 0, 1) := by decide +kernel
theorem dX5_cross_84 : decode cX5_cross 84 = .ok (.getfield 18, 3) := by decide +kernel
theorem dX5_cross_87 : decode cX5_cross 87 = .ok (.iload_n 2, 1) := by decide +kernel
theorem dX5_cross_88 : decode cX5_cross 88 = .ok (.aaload, 1) := by decide +kernel
theorem dX5_cross_89 : decode cX5_cross 89 = .ok (.invokevirtual 168, 3) := by decide +kernel
theorem dX5_cross_92 : decode cX5_cross 92 = .ok (.lreturn, 1) := by decide +kernel
theorem dX5_isSheet_0 : decode cX5_isSheet 0 = .ok (.iload_n 0, 1) := by decide +kernel
theorem dX5_isSheet_1 : decode cX5_isSheet 1 = .ok (.ifCond .lt 13, 3) := by decide +kernel
theorem dX5_isSheet_4 : decode cX5_isSheet 4 = .ok (.iload_n 0, 1) := by decide +kernel
theorem dX5_isSheet_5 : decode cX5_isSheet 5 = .ok (.bipush 8, 2) := by decide +kernel
theorem dX5_isSheet_7 : decode cX5_isSheet 7 = .ok (.if_icmp .ge 7, 3) := by decide +kernel
theorem dX5_isSheet_10 : decode cX5_isSheet 10 = .ok (.iconst 1, 1) := by decide +kernel
theorem dX5_isSheet_11 : decode cX5_isSheet 11 = .ok (.goto 4, 3) := by decide +kernel
theorem dX5_isSheet_14 : decode cX5_isSheet 14 = .ok (.iconst 0, 1) := by decide +kernel
theorem dX5_isSheet_15 : decode cX5_isSheet 15 = .ok (.ireturn, 1) := by decide +kernel
theorem dX5_isRow_0 : decode cX5_isRow 0 = .ok (.iload_n 0, 1) := by decide +kernel
theorem dX5_isRow_1 : decode cX5_isRow 1 = .ok (.ifCond .lt 13, 3) := by decide +kernel
theorem dX5_isRow_4 : decode cX5_isRow 4 = .ok (.iload_n 0, 1) := by decide +kernel
theorem dX5_isRow_5 : decode cX5_isRow 5 = .ok (.bipush 6, 2) := by decide +kernel
theorem dX5_isRow_7 : decode cX5_isRow 7 = .ok (.if_icmp .ge 7, 3) := by decide +kernel
theorem dX5_isRow_10 : decode cX5_isRow 10 = .ok (.iconst 1, 1) := by decide +kernel
theorem dX5_isRow_11 : decode cX5_isRow 11 = .ok (.goto 4, 3) := by decide +kernel
theorem dX5_isRow_14 : decode cX5_isRow 14 = .ok (.iconst 0, 1) := by decide +kernel
theorem dX5_isRow_15 : decode cX5_isRow 15 = .ok (.ireturn, 1) := by decide +kernel
theorem dX5_isStretch_0 : decode cX5_isStretch 0 = .ok (.iload_n 0, 1) := by decide +kernel
theorem dX5_isStretch_1 : decode cX5_isStretch 1 = .ok (.invokestatic 111, 3) := by decide +kernel
theorem dX5_isStretch_4 : decode cX5_isStretch 4 = .ok (.ifCond .eq 16, 3) := by decide +kernel
theorem dX5_isStretch_7 : decode cX5_isStretch 7 = .ok (.iload_n 1, 1) := by decide +kernel
theorem dX5_isStretch_8 : decode cX5_isStretch 8 = .ok (.ifCond .lt 12, 3) := by decide +kernel
theorem dX5_isStretch_11 : decode cX5_isStretch 11 = .ok (.iload_n 2, 1) := by decide +kernel
theorem dX5_isStretch_12 : decode cX5_isStretch 12 = .ok (.iload_n 1, 1) := by decide +kernel
theorem dX5_isStretch_13 : decode cX5_isStretch 13 = .ok (.if_icmp .lt 7, 3) := by decide +kernel
theorem dX5_isStretch_16 : decode cX5_isStretch 16 = .ok (.iconst 1, 1) := by decide +kernel
theorem dX5_isStretch_17 : decode cX5_isStretch 17 = .ok (.goto 4, 3) := by decide +kernel
theorem dX5_isStretch_20 : decode cX5_isStretch 20 = .ok (.iconst 0, 1) := by decide +kernel
theorem dX5_isStretch_21 : decode cX5_isStretch 21 = .ok (.ireturn, 1) := by decide +kernel
theorem dX5_isWithin_0 : decode cX5_isWithin 0 = .ok (.lload_n 0, 1) := by decide +kernel
theorem dX5_isWithin_1 : decode cX5_isWithin 1 = .ok (.lload_n 2, 1) := by decide +kernel
theorem dX5_isWithin_2 : decode cX5_isWithin 2 = .ok (.lneg, 1) := by decide +kernel
theorem dX5_isWithin_3 : decode cX5_isWithin 3 = .ok (.lcmp, 1) := by decide +kernel
theorem dX5_isWithin_4 : decode cX5_isWithin 4 = .ok (.ifCond .lt 13, 3) := by decide +kernel
theorem dX5_isWithin_7 : decode cX5_isWithin 7 = .ok (.lload_n 0, 1) := by decide +kernel
theorem dX5_isWithin_8 : decode cX5_isWithin 8 = .ok (.lload_n 2, 1) := by decide +kernel
theorem dX5_isWithin_9 : decode cX5_isWithin 9 = .ok (.lcmp, 1) := by decide +kernel
theorem dX5_isWithin_10 : decode cX5_isWithin 10 = .ok (.ifCond .gt 7, 3) := by decide +kernel
theorem dX5_isWithin_13 : decode cX5_isWithin 13 = .ok (.iconst 1, 1) := by decide +kernel
theorem dX5_isWithin_14 : decode cX5_isWithin 14 = .ok (.goto 4, 3) := by decide +kernel
theorem dX5_isWithin_17 : decode cX5_isWithin 17 = .ok (.iconst 0, 1) := by decide +kernel
theorem dX5_isWithin_18 : decode cX5_isWithin 18 = .ok (.ireturn, 1) := by decide +kernel
theorem dX5_sheetFailure_0 : decode cX5_sheetFailure 0 = .ok (.iload_n 1, 1) := by decide +kernel
theorem dX5_sheetFailure_1 : decode cX5_sheetFailure 1 = .ok (.invokestatic 44, 3) := by decide +kernel
theorem dX5_sheetFailure_4 : decode cX5_sheetFailure 4 = .ok (.ifCond .ne 6, 3) := by decide +kernel
theorem dX5_sheetFailure_7 : decode cX5_sheetFailure 7 = .ok (.bipush (-2), 2) := by decide +kernel
theorem dX5_sheetFailure_9 : decode cX5_sheetFailure 9 = .ok (.ireturn, 1) := by decide +kernel
theorem dX5_sheetFailure_10 : decode cX5_sheetFailure 10 = .ok (.aload_n 0, 1) := by decide +kernel
theorem dX5_sheetFailure_11 : decode cX5_sheetFailure 11 = .ok (.getfield 11, 3) := by decide +kernel
theorem dX5_sheetFailure_14 : decode cX5_sheetFailure 14 = .ok (.iload_n 1, 1) := by decide +kernel
theorem dX5_sheetFailure_15 : decode cX5_sheetFailure 15 = .ok (.aaload, 1) := by decide +kernel
theorem dX5_sheetFailure_16 : decode cX5_sheetFailure 16 = .ok (.invokevirtual 87, 3) := by decide +kernel
theorem dX5_sheetFailure_19 : decode cX5_sheetFailure 19 = .ok (.ifCond .eq 7, 3) := by decide +kernel
theorem dX5_sheetFailure_22 : decode cX5_sheetFailure 22 = .ok (.iconst 0, 1) := by decide +kernel
theorem dX5_sheetFailure_23 : decode cX5_sheetFailure 23 = .ok (.goto 5, 3) := by decide +kernel
theorem dX5_sheetFailure_26 : decode cX5_sheetFailure 26 = .ok (.bipush (-10), 2) := by decide +kernel
theorem dX5_sheetFailure_28 : decode cX5_sheetFailure 28 = .ok (.ireturn, 1) := by decide +kernel
theorem dX5_sampleFailure_0 : decode cX5_sampleFailure 0 = .ok (.aload_n 0, 1) := by decide +kernel
theorem dX5_sampleFailure_1 : decode cX5_sampleFailure 1 = .ok (.iload_n 1, 1) := by decide +kernel
theorem dX5_sampleFailure_2 : decode cX5_sampleFailure 2 = .ok (.invokevirtual 52, 3) := by decide +kernel
theorem dX5_sampleFailure_5 : decode cX5_sampleFailure 5 = .ok (.istore_n 3, 1) := by decide +kernel
theorem dX5_sampleFailure_6 : decode cX5_sampleFailure 6 = .ok (.iload_n 3, 1) := by decide +kernel
theorem dX5_sampleFailure_7 : decode cX5_sampleFailure 7 = .ok (.ifCond .eq 5, 3) := by decide +kernel
theorem dX5_sampleFailure_10 : decode cX5_sampleFailure 10 = .ok (.iload_n 3, 1) := by decide +kernel
theorem dX5_sampleFailure_11 : decode cX5_sampleFailure 11 = .ok (.ireturn, 1) := by decide +kernel
theorem dX5_sampleFailure_12 : decode cX5_sampleFailure 12 = .ok (.aload_n 0, 1) := by decide +kernel
theorem dX5_sampleFailure_13 : decode cX5_sampleFailure 13 = .ok (.getfield 11, 3) := by decide +kernel
theorem dX5_sampleFailure_16 : decode cX5_sampleFailure 16 = .ok (.iload_n 1, 1) := by decide +kernel
theorem dX5_sampleFailure_17 : decode cX5_sampleFailure 17 = .ok (.aaload, 1) := by decide +kernel
theorem dX5_sampleFailure_18 : decode cX5_sampleFailure 18 = .ok (.iload_n 2, 1) := by decide +kernel
theorem dX5_sampleFailure_19 : decode cX5_sampleFailure 19 = .ok (.invokevirtual 271, 3) := by decide +kernel
theorem dX5_sampleFailure_22 : decode cX5_sampleFailure 22 = .ok (.ifCond .eq 7, 3) := by decide +kernel
theorem dX5_sampleFailure_25 : decode cX5_sampleFailure 25 = .ok (.iconst 0, 1) := by decide +kernel
theorem dX5_sampleFailure_26 : decode cX5_sampleFailure 26 = .ok (.goto 5, 3) := by decide +kernel
theorem dX5_sampleFailure_29 : decode cX5_sampleFailure 29 = .ok (.bipush (-13), 2) := by decide +kernel
theorem dX5_sampleFailure_31 : decode cX5_sampleFailure 31 = .ok (.ireturn, 1) := by decide +kernel
theorem dJ6_bitCount_0f7a4_0 : decode cJ6_bitCount_0f7a4 0 = .ok (.iload_n 0, 1) := by decide +kernel
theorem dJ6_bitCount_0f7a4_1 : decode cJ6_bitCount_0f7a4 1 = .ok (.iload_n 0, 1) := by decide +kernel
theorem dJ6_bitCount_0f7a4_2 : decode cJ6_bitCount_0f7a4 2 = .ok (.iconst 1, 1) := by decide +kernel
theorem dJ6_bitCount_0f7a4_3 : decode cJ6_bitCount_0f7a4 3 = .ok (.iushr, 1) := by decide +kernel
theorem dJ6_bitCount_0f7a4_4 : decode cJ6_bitCount_0f7a4 4 = .ok (.ldc_w 265, 3) := by decide +kernel
theorem dJ6_bitCount_0f7a4_7 : decode cJ6_bitCount_0f7a4 7 = .ok (.iand, 1) := by decide +kernel
theorem dJ6_bitCount_0f7a4_8 : decode cJ6_bitCount_0f7a4 8 = .ok (.isub, 1) := by decide +kernel
theorem dJ6_bitCount_0f7a4_9 : decode cJ6_bitCount_0f7a4 9 = .ok (.istore_n 0, 1) := by decide +kernel
theorem dJ6_bitCount_0f7a4_10 : decode cJ6_bitCount_0f7a4 10 = .ok (.iload_n 0, 1) := by decide +kernel
theorem dJ6_bitCount_0f7a4_11 : decode cJ6_bitCount_0f7a4 11 = .ok (.ldc_w 266, 3) := by decide +kernel
theorem dJ6_bitCount_0f7a4_14 : decode cJ6_bitCount_0f7a4 14 = .ok (.iand, 1) := by decide +kernel
theorem dJ6_bitCount_0f7a4_15 : decode cJ6_bitCount_0f7a4 15 = .ok (.iload_n 0, 1) := by decide +kernel
theorem dJ6_bitCount_0f7a4_16 : decode cJ6_bitCount_0f7a4 16 = .ok (.iconst 2, 1) := by decide +kernel
theorem dJ6_bitCount_0f7a4_17 : decode cJ6_bitCount_0f7a4 17 = .ok (.iushr, 1) := by decide +kernel
theorem dJ6_bitCount_0f7a4_18 : decode cJ6_bitCount_0f7a4 18 = .ok (.ldc_w 266, 3) := by decide +kernel
theorem dJ6_bitCount_0f7a4_21 : decode cJ6_bitCount_0f7a4 21 = .ok (.iand, 1) := by decide +kernel
theorem dJ6_bitCount_0f7a4_22 : decode cJ6_bitCount_0f7a4 22 = .ok (.iadd, 1) := by decide +kernel
theorem dJ6_bitCount_0f7a4_23 : decode cJ6_bitCount_0f7a4 23 = .ok (.istore_n 0, 1) := by decide +kernel
theorem dJ6_bitCount_0f7a4_24 : decode cJ6_bitCount_0f7a4 24 = .ok (.iload_n 0, 1) := by decide +kernel
theorem dJ6_bitCount_0f7a4_25 : decode cJ6_bitCount_0f7a4 25 = .ok (.iload_n 0, 1) := by decide +kernel
theorem dJ6_bitCount_0f7a4_26 : decode cJ6_bitCount_0f7a4 26 = .ok (.iconst 4, 1) := by decide +kernel
theorem dJ6_bitCount_0f7a4_27 : decode cJ6_bitCount_0f7a4 27 = .ok (.iushr, 1) := by decide +kernel
theorem dJ6_bitCount_0f7a4_28 : decode cJ6_bitCount_0f7a4 28 = .ok (.iadd, 1) := by decide +kernel
theorem dJ6_bitCount_0f7a4_29 : decode cJ6_bitCount_0f7a4 29 = .ok (.ldc_w 267, 3) := by decide +kernel
theorem dJ6_bitCount_0f7a4_32 : decode cJ6_bitCount_0f7a4 32 = .ok (.iand, 1) := by decide +kernel
theorem dJ6_bitCount_0f7a4_33 : decode cJ6_bitCount_0f7a4 33 = .ok (.istore_n 0, 1) := by decide +kernel
theorem dJ6_bitCount_0f7a4_34 : decode cJ6_bitCount_0f7a4 34 = .ok (.iload_n 0, 1) := by decide +kernel
theorem dJ6_bitCount_0f7a4_35 : decode cJ6_bitCount_0f7a4 35 = .ok (.iload_n 0, 1) := by decide +kernel
theorem dJ6_bitCount_0f7a4_36 : decode cJ6_bitCount_0f7a4 36 = .ok (.bipush 8, 2) := by decide +kernel
theorem dJ6_bitCount_0f7a4_38 : decode cJ6_bitCount_0f7a4 38 = .ok (.iushr, 1) := by decide +kernel
theorem dJ6_bitCount_0f7a4_39 : decode cJ6_bitCount_0f7a4 39 = .ok (.iadd, 1) := by decide +kernel
theorem dJ6_bitCount_0f7a4_40 : decode cJ6_bitCount_0f7a4 40 = .ok (.istore_n 0, 1) := by decide +kernel
theorem dJ6_bitCount_0f7a4_41 : decode cJ6_bitCount_0f7a4 41 = .ok (.iload_n 0, 1) := by decide +kernel
theorem dJ6_bitCount_0f7a4_42 : decode cJ6_bitCount_0f7a4 42 = .ok (.iload_n 0, 1) := by decide +kernel
theorem dJ6_bitCount_0f7a4_43 : decode cJ6_bitCount_0f7a4 43 = .ok (.bipush 16, 2) := by decide +kernel
theorem dJ6_bitCount_0f7a4_45 : decode cJ6_bitCount_0f7a4 45 = .ok (.iushr, 1) := by decide +kernel
theorem dJ6_bitCount_0f7a4_46 : decode cJ6_bitCount_0f7a4 46 = .ok (.iadd, 1) := by decide +kernel
theorem dJ6_bitCount_0f7a4_47 : decode cJ6_bitCount_0f7a4 47 = .ok (.istore_n 0, 1) := by decide +kernel
theorem dJ6_bitCount_0f7a4_48 : decode cJ6_bitCount_0f7a4 48 = .ok (.iload_n 0, 1) := by decide +kernel
theorem dJ6_bitCount_0f7a4_49 : decode cJ6_bitCount_0f7a4 49 = .ok (.bipush 63, 2) := by decide +kernel
theorem dJ6_bitCount_0f7a4_51 : decode cJ6_bitCount_0f7a4 51 = .ok (.iand, 1) := by decide +kernel
theorem dJ6_bitCount_0f7a4_52 : decode cJ6_bitCount_0f7a4 52 = .ok (.ireturn, 1) := by decide +kernel
theorem dJ7_fill_53178_0 : decode cJ7_fill_53178 0 = .ok (.iconst 0, 1) := by decide +kernel
theorem dJ7_fill_53178_1 : decode cJ7_fill_53178 1 = .ok (.istore_n 2, 1) := by decide +kernel
theorem dJ7_fill_53178_2 : decode cJ7_fill_53178 2 = .ok (.aload_n 0, 1) := by decide +kernel
theorem dJ7_fill_53178_3 : decode cJ7_fill_53178 3 = .ok (.arraylength, 1) := by decide +kernel
theorem dJ7_fill_53178_4 : decode cJ7_fill_53178 4 = .ok (.istore_n 3, 1) := by decide +kernel
theorem dJ7_fill_53178_5 : decode cJ7_fill_53178 5 = .ok (.iload_n 2, 1) := by decide +kernel
theorem dJ7_fill_53178_6 : decode cJ7_fill_53178 6 = .ok (.iload_n 3, 1) := by decide +kernel
theorem dJ7_fill_53178_7 : decode cJ7_fill_53178 7 = .ok (.if_icmp .ge 13, 3) := by decide +kernel
theorem dJ7_fill_53178_10 : decode cJ7_fill_53178 10 = .ok (.aload_n 0, 1) := by decide +kernel
theorem dJ7_fill_53178_11 : decode cJ7_fill_53178 11 = .ok (.iload_n 2, 1) := by decide +kernel
theorem dJ7_fill_53178_12 : decode cJ7_fill_53178 12 = .ok (.iload_n 1, 1) := by decide +kernel
theorem dJ7_fill_53178_13 : decode cJ7_fill_53178 13 = .ok (.iastore, 1) := by decide +kernel
theorem dJ7_fill_53178_14 : decode cJ7_fill_53178 14 = .ok (.iinc 2 1, 3) := by decide +kernel
theorem dJ7_fill_53178_17 : decode cJ7_fill_53178 17 = .ok (.goto (-12), 3) := by decide +kernel
theorem dJ7_fill_53178_20 : decode cJ7_fill_53178 20 = .ok (.return_, 1) := by decide +kernel
theorem dL_cell_0 : decode cL_cell 0 = .ok (.iload_n 1, 1) := by decide +kernel
theorem dL_cell_1 : decode cL_cell 1 = .ok (.aload_n 0, 1) := by decide +kernel
theorem dL_cell_2 : decode cL_cell 2 = .ok (.arraylength, 1) := by decide +kernel
theorem dL_cell_3 : decode cL_cell 3 = .ok (.if_icmp .ge 9, 3) := by decide +kernel
theorem dL_cell_6 : decode cL_cell 6 = .ok (.aload_n 0, 1) := by decide +kernel
theorem dL_cell_7 : decode cL_cell 7 = .ok (.iload_n 1, 1) := by decide +kernel
theorem dL_cell_8 : decode cL_cell 8 = .ok (.iaload, 1) := by decide +kernel
theorem dL_cell_9 : decode cL_cell 9 = .ok (.goto 10, 3) := by decide +kernel
theorem dL_cell_12 : decode cL_cell 12 = .ok (.ldc 7, 2) := by decide +kernel
theorem dL_cell_14 : decode cL_cell 14 = .ok (.iload_n 1, 1) := by decide +kernel
theorem dL_cell_15 : decode cL_cell 15 = .ok (.bipush 9, 2) := by decide +kernel
theorem dL_cell_17 : decode cL_cell 17 = .ok (.iadd, 1) := by decide +kernel
theorem dL_cell_18 : decode cL_cell 18 = .ok (.imul, 1) := by decide +kernel
theorem dL_cell_19 : decode cL_cell 19 = .ok (.ireturn, 1) := by decide +kernel
theorem dL_up_0 : decode cL_up 0 = .ok (.iload_n 0, 1) := by decide +kernel
theorem dL_up_1 : decode cL_up 1 = .ok (.ldc 8, 2) := by decide +kernel
theorem dL_up_3 : decode cL_up 3 = .ok (.iand, 1) := by decide +kernel
theorem dL_up_4 : decode cL_up 4 = .ok (.iload_n 1, 1) := by decide +kernel
theorem dL_up_5 : decode cL_up 5 = .ok (.irem, 1) := by decide +kernel
theorem dL_up_6 : decode cL_up 6 = .ok (.ireturn, 1) := by decide +kernel
theorem dL_raised_0 : decode cL_raised 0 = .ok (.aload_n 0, 1) := by decide +kernel
theorem dL_raised_1 : decode cL_raised 1 = .ok (.iload_n 1, 1) := by decide +kernel
theorem dL_raised_2 : decode cL_raised 2 = .ok (.iconst 2, 1) := by decide +kernel
theorem dL_raised_3 : decode cL_raised 3 = .ok (.iload 4, 2) := by decide +kernel
theorem dL_raised_5 : decode cL_raised 5 = .ok (.invokevirtual 9, 3) := by decide +kernel
theorem dL_raised_8 : decode cL_raised 8 = .ok (.iconst 1, 1) := by decide +kernel
theorem dL_raised_9 : decode cL_raised 9 = .ok (.if_icmp .eq 5, 3) := by decide +kernel
theorem dL_raised_12 : decode cL_raised 12 = .ok (.iconst 0, 1) := by decide +kernel
theorem dL_raised_13 : decode cL_raised 13 = .ok (.ireturn, 1) := by decide +kernel
theorem dL_raised_14 : decode cL_raised 14 = .ok (.iconst 0, 1) := by decide +kernel
theorem dL_raised_15 : decode cL_raised 15 = .ok (.istore 5, 2) := by decide +kernel
theorem dL_raised_17 : decode cL_raised 17 = .ok (.iload 5, 2) := by decide +kernel
theorem dL_raised_19 : decode cL_raised 19 = .ok (.iload 4, 2) := by decide +kernel
theorem dL_raised_21 : decode cL_raised 21 = .ok (.if_icmp .ge 27, 3) := by decide +kernel
theorem dL_raised_24 : decode cL_raised 24 = .ok (.aload_n 0, 1) := by decide +kernel
theorem dL_raised_25 : decode cL_raised 25 = .ok (.iload_n 1, 1) := by decide +kernel
theorem dL_raised_26 : decode cL_raised 26 = .ok (.iload 5, 2) := by decide +kernel
theorem dL_raised_28 : decode cL_raised 28 = .ok (.aload_n 3, 1) := by decide +kernel
theorem dL_raised_29 : decode cL_raised 29 = .ok (.iload 5, 2) := by decide +kernel
theorem dL_raised_31 : decode cL_raised 31 = .ok (.laload, 1) := by decide +kernel
theorem dL_raised_32 : decode cL_raised 32 = .ok (.l2i, 1) := by decide +kernel
theorem dL_raised_33 : decode cL_raised 33 = .ok (.invokevirtual 15, 3) := by decide +kernel
theorem dL_raised_36 : decode cL_raised 36 = .ok (.iconst 1, 1) := by decide +kernel
theorem dL_raised_37 : decode cL_raised 37 = .ok (.if_icmp .eq 5, 3) := by decide +kernel
theorem dL_raised_40 : decode cL_raised 40 = .ok (.iconst 0, 1) := by decide +kernel
theorem dL_raised_41 : decode cL_raised 41 = .ok (.ireturn, 1) := by decide +kernel
theorem dL_raised_42 : decode cL_raised 42 = .ok (.iinc 5 1, 3) := by decide +kernel
theorem dL_raised_45 : decode cL_raised 45 = .ok (.goto (-28), 3) := by decide +kernel
theorem dL_raised_48 : decode cL_raised 48 = .ok (.aload_n 0, 1) := by decide +kernel
theorem dL_raised_49 : decode cL_raised 49 = .ok (.iload_n 1, 1) := by decide +kernel
theorem dL_raised_50 : decode cL_raised 50 = .ok (.iload_n 2, 1) := by decide +kernel
theorem dL_raised_51 : decode cL_raised 51 = .ok (.invokevirtual 18, 3) := by decide +kernel
theorem dL_raised_54 : decode cL_raised 54 = .ok (.iload 4, 2) := by decide +kernel
theorem dL_raised_56 : decode cL_raised 56 = .ok (.if_icmp .ne 7, 3) := by decide +kernel
theorem dL_raised_59 : decode cL_raised 59 = .ok (.iconst 1, 1) := by decide +kernel
theorem dL_raised_60 : decode cL_raised 60 = .ok (.goto 4, 3) := by decide +kernel
theorem dL_raised_63 : decode cL_raised 63 = .ok (.iconst 0, 1) := by decide +kernel
theorem dL_raised_64 : decode cL_raised 64 = .ok (.ireturn, 1) := by decide +kernel
theorem dL_law_0 : decode cL_law 0 = .ok (.new 10, 3) := by decide +kernel
theorem dL_law_3 : decode cL_law 3 = .ok (.dup, 1) := by decide +kernel
theorem dL_law_4 : decode cL_law 4 = .ok (.invokespecial 22, 3) := by decide +kernel
theorem dL_law_7 : decode cL_law 7 = .ok (.astore_n 1, 1) := by decide +kernel
theorem dL_law_8 : decode cL_law 8 = .ok (.iconst 1, 1) := by decide +kernel
theorem dL_law_9 : decode cL_law 9 = .ok (.aload_n 0, 1) := by decide +kernel
theorem dL_law_10 : decode cL_law 10 = .ok (.iconst 0, 1) := by decide +kernel
theorem dL_law_11 : decode cL_law 11 = .ok (.invokestatic 23, 3) := by decide +kernel
theorem dL_law_14 : decode cL_law 14 = .ok (.bipush 7, 2) := by decide +kernel
theorem dL_law_16 : decode cL_law 16 = .ok (.invokestatic 29, 3) := by decide +kernel
theorem dL_law_19 : decode cL_law 19 = .ok (.ishl, 1) := by decide +kernel
theorem dL_law_20 : decode cL_law 20 = .ok (.istore_n 2, 1) := by decide +kernel
theorem dL_law_21 : decode cL_law 21 = .ok (.bipush 64, 2) := by decide +kernel
theorem dL_law_23 : decode cL_law 23 = .ok (.newarray .long, 2) := by decide +kernel
theorem dL_law_25 : decode cL_law 25 = .ok (.astore_n 3, 1) := by decide +kernel
theorem dL_law_26 : decode cL_law 26 = .ok (.bipush 64, 2) := by decide +kernel
theorem dL_law_28 : decode cL_law 28 = .ok (.newarray .long, 2) := by decide +kernel
theorem dL_law_30 : decode cL_law 30 = .ok (.astore 4, 2) := by decide +kernel
theorem dL_law_32 : decode cL_law 32 = .ok (.lconst 0, 1) := by decide +kernel
theorem dL_law_33 : decode cL_law 33 = .ok (.lstore 5, 2) := by decide +kernel
theorem dL_law_35 : decode cL_law 35 = .ok (.iconst 0, 1) := by decide +kernel
theorem dL_law_36 : decode cL_law 36 = .ok (.istore 7, 2) := by decide +kernel
theorem dL_law_38 : decode cL_law 38 = .ok (.iload 7, 2) := by decide +kernel
theorem dL_law_40 : decode cL_law 40 = .ok (.iload_n 2, 1) := by decide +kernel
theorem dL_law_41 : decode cL_law 41 = .ok (.if_icmp .ge 66, 3) := by decide +kernel
theorem dL_law_44 : decode cL_law 44 = .ok (.aload_n 3, 1) := by decide +kernel
theorem dL_law_45 : decode cL_law 45 = .ok (.iload 7, 2) := by decide +kernel
theorem dL_law_47 : decode cL_law 47 = .ok (.aload_n 0, 1) := by decide +kernel
theorem dL_law_48 : decode cL_law 48 = .ok (.iconst 1, 1) := by decide +kernel
theorem dL_law_49 : decode cL_law 49 = .ok (.iload 7, 2) := by decide +kernel
theorem dL_law_51 : decode cL_law 51 = .ok (.iadd, 1) := by decide +kernel
theorem dL_law_52 : decode cL_law 52 = .ok (.invokestatic 23, 3) := by decide +kernel
theorem dL_law_55 : decode cL_law 55 = .ok (.sipush 2001, 3) := by decide +kernel
theorem dL_law_58 : decode cL_law 58 = .ok (.invokestatic 29, 3) := by decide +kernel
theorem dL_law_61 : decode cL_law 61 = .ok (.sipush 1000, 3) := by decide +kernel
theorem dL_law_64 : decode cL_law 64 = .ok (.isub, 1) := by decide +kernel
theorem dL_law_65 : decode cL_law 65 = .ok (.i2l, 1) := by decide +kernel
theorem dL_law_66 : decode cL_law 66 = .ok (.lastore, 1) := by decide +kernel
theorem dL_law_67 : decode cL_law 67 = .ok (.aload 4, 2) := by decide +kernel
theorem dL_law_69 : decode cL_law 69 = .ok (.iload 7, 2) := by decide +kernel
theorem dL_law_71 : decode cL_law 71 = .ok (.aload_n 0, 1) := by decide +kernel
theorem dL_law_72 : decode cL_law 72 = .ok (.bipush 70, 2) := by decide +kernel
theorem dL_law_74 : decode cL_law 74 = .ok (.iload 7, 2) := by decide +kernel
theorem dL_law_76 : decode cL_law 76 = .ok (.iadd, 1) := by decide +kernel
theorem dL_law_77 : decode cL_law 77 = .ok (.invokestatic 23, 3) := by decide +kernel
theorem dL_law_80 : decode cL_law 80 = .ok (.sipush 2001, 3) := by decide +kernel
theorem dL_law_83 : decode cL_law 83 = .ok (.invokestatic 29, 3) := by decide +kernel
theorem dL_law_86 : decode cL_law 86 = .ok (.sipush 1000, 3) := by decide +kernel
theorem dL_law_89 : decode cL_law 89 = .ok (.isub, 1) := by decide +kernel
theorem dL_law_90 : decode cL_law 90 = .ok (.i2l, 1) := by decide +kernel
theorem dL_law_91 : decode cL_law 91 = .ok (.lastore, 1) := by decide +kernel
theorem dL_law_92 : decode cL_law 92 = .ok (.lload 5, 2) := by decide +kernel
theorem dL_law_94 : decode cL_law 94 = .ok (.aload_n 3, 1) := by decide +kernel
theorem dL_law_95 : decode cL_law 95 = .ok (.iload 7, 2) := by decide +kernel
theorem dL_law_97 : decode cL_law 97 = .ok (.laload, 1) := by decide +kernel
theorem dL_law_98 : decode cL_law 98 = .ok (.ladd, 1) := by decide +kernel
theorem dL_law_99 : decode cL_law 99 = .ok (.lstore 5, 2) := by decide +kernel
theorem dL_law_101 : decode cL_law 101 = .ok (.iinc 7 1, 3) := by decide +kernel
theorem dL_law_104 : decode cL_law 104 = .ok (.goto (-66), 3) := by decide +kernel
theorem dL_law_107 : decode cL_law 107 = .ok (.aload_n 1, 1) := by decide +kernel
theorem dL_law_108 : decode cL_law 108 = .ok (.iconst 0, 1) := by decide +kernel
theorem dL_law_109 : decode cL_law 109 = .ok (.iconst 0, 1) := by decide +kernel
theorem dL_law_110 : decode cL_law 110 = .ok (.aload_n 3, 1) := by decide +kernel
theorem dL_law_111 : decode cL_law 111 = .ok (.iload_n 2, 1) := by decide +kernel
theorem dL_law_112 : decode cL_law 112 = .ok (.invokestatic 32, 3) := by decide +kernel
theorem dL_law_115 : decode cL_law 115 = .ok (.ifCond .eq 26, 3) := by decide +kernel
theorem dL_law_118 : decode cL_law 118 = .ok (.aload_n 1, 1) := by decide +kernel
theorem dL_law_119 : decode cL_law 119 = .ok (.iconst 1, 1) := by decide +kernel
theorem dL_law_120 : decode cL_law 120 = .ok (.iconst 1, 1) := by decide +kernel
theorem dL_law_121 : decode cL_law 121 = .ok (.aload 4, 2) := by decide +kernel
theorem dL_law_123 : decode cL_law 123 = .ok (.iload_n 2, 1) := by decide +kernel
theorem dL_law_124 : decode cL_law 124 = .ok (.invokestatic 32, 3) := by decide +kernel
theorem dL_law_127 : decode cL_law 127 = .ok (.ifCond .eq 14, 3) := by decide +kernel
theorem dL_law_130 : decode cL_law 130 = .ok (.aload_n 1, 1) := by decide +kernel
theorem dL_law_131 : decode cL_law 131 = .ok (.iconst 2, 1) := by decide +kernel
theorem dL_law_132 : decode cL_law 132 = .ok (.iconst 2, 1) := by decide +kernel
theorem dL_law_133 : decode cL_law 133 = .ok (.aload_n 3, 1) := by decide +kernel
theorem dL_law_134 : decode cL_law 134 = .ok (.iload_n 2, 1) := by decide +kernel
theorem dL_law_135 : decode cL_law 135 = .ok (.invokestatic 32, 3) := by decide +kernel
theorem dL_law_138 : decode cL_law 138 = .ok (.ifCond .ne 5, 3) := by decide +kernel
theorem dL_law_141 : decode cL_law 141 = .ok (.iconst 0, 1) := by decide +kernel
theorem dL_law_142 : decode cL_law 142 = .ok (.ireturn, 1) := by decide +kernel
theorem dL_law_143 : decode cL_law 143 = .ok (.aload_n 1, 1) := by decide +kernel
theorem dL_law_144 : decode cL_law 144 = .ok (.iconst 0, 1) := by decide +kernel
theorem dL_law_145 : decode cL_law 145 = .ok (.iconst 0, 1) := by decide +kernel
theorem dL_law_146 : decode cL_law 146 = .ok (.iload_n 2, 1) := by decide +kernel
theorem dL_law_147 : decode cL_law 147 = .ok (.invokevirtual 36, 3) := by decide +kernel
theorem dL_law_150 : decode cL_law 150 = .ok (.lstore 7, 2) := by decide +kernel
theorem dL_law_152 : decode cL_law 152 = .ok (.aload_n 1, 1) := by decide +kernel
theorem dL_law_153 : decode cL_law 153 = .ok (.iconst 0, 1) := by decide +kernel
theorem dL_law_154 : decode cL_law 154 = .ok (.iconst 1, 1) := by decide +kernel
theorem dL_law_155 : decode cL_law 155 = .ok (.invokevirtual 40, 3) := by decide +kernel
theorem dL_law_158 : decode cL_law 158 = .ok (.lstore 9, 2) := by decide +kernel
theorem dL_law_160 : decode cL_law 160 = .ok (.aload_n 0, 1) := by decide +kernel
theorem dL_law_161 : decode cL_law 161 = .ok (.sipush 140, 3) := by decide +kernel
theorem dL_law_164 : decode cL_law 164 = .ok (.invokestatic 23, 3) := by decide +kernel
theorem dL_law_167 : decode cL_law 167 = .ok (.bipush 9, 2) := by decide +kernel
theorem dL_law_169 : decode cL_law 169 = .ok (.invokestatic 29, 3) := by decide +kernel
theorem dL_law_172 : decode cL_law 172 = .ok (.iconst 4, 1) := by decide +kernel
theorem dL_law_173 : decode cL_law 173 = .ok (.isub, 1) := by decide +kernel
theorem dL_law_174 : decode cL_law 174 = .ok (.istore 11, 2) := by decide +kernel
theorem dL_law_176 : decode cL_law 176 = .ok (.aload_n 0, 1) := by decide +kernel
theorem dL_law_177 : decode cL_law 177 = .ok (.sipush 141, 3) := by decide +kernel
theorem dL_law_180 : decode cL_law 180 = .ok (.invokestatic 23, 3) := by decide +kernel
theorem dL_law_183 : decode cL_law 183 = .ok (.bipush 9, 2) := by decide +kernel
theorem dL_law_185 : decode cL_law 185 = .ok (.invokestatic 29, 3) := by decide +kernel
theorem dL_law_188 : decode cL_law 188 = .ok (.iconst 4, 1) := by decide +kernel
theorem dL_law_189 : decode cL_law 189 = .ok (.isub, 1) := by decide +kernel
theorem dL_law_190 : decode cL_law 190 = .ok (.istore 12, 2) := by decide +kernel
theorem dL_law_192 : decode cL_law 192 = .ok (.aload_n 1, 1) := by decide +kernel
theorem dL_law_193 : decode cL_law 193 = .ok (.iconst 2, 1) := by decide +kernel
theorem dL_law_194 : decode cL_law 194 = .ok (.iload 11, 2) := by decide +kernel
theorem dL_law_196 : decode cL_law 196 = .ok (.iconst 1, 1) := by decide +kernel
theorem dL_law_197 : decode cL_law 197 = .ok (.iload 12, 2) := by decide +kernel
theorem dL_law_199 : decode cL_law 199 = .ok (.invokevirtual 44, 3) := by decide +kernel
theorem dL_law_202 : decode cL_law 202 = .ok (.iload_n 2, 1) := by decide +kernel
theorem dL_law_203 : decode cL_law 203 = .ok (.if_icmp .ne 33, 3) := by decide +kernel
theorem dL_law_206 : decode cL_law 206 = .ok (.aload_n 1, 1) := by decide +kernel
theorem dL_law_207 : decode cL_law 207 = .ok (.iconst 0, 1) := by decide +kernel
theorem dL_law_208 : decode cL_law 208 = .ok (.iconst 3, 1) := by decide +kernel
theorem dL_law_209 : decode cL_law 209 = .ok (.invokevirtual 48, 3) := by decide +kernel
theorem dL_law_212 : decode cL_law 212 = .ok (.iload_n 2, 1) := by decide +kernel
theorem dL_law_213 : decode cL_law 213 = .ok (.if_icmp .ne 23, 3) := by decide +kernel
theorem dL_law_216 : decode cL_law 216 = .ok (.aload_n 1, 1) := by decide +kernel
theorem dL_law_217 : decode cL_law 217 = .ok (.iconst 1, 1) := by decide +kernel
theorem dL_law_218 : decode cL_law 218 = .ok (.iconst 3, 1) := by decide +kernel
theorem dL_law_219 : decode cL_law 219 = .ok (.invokevirtual 48, 3) := by decide +kernel
theorem dL_law_222 : decode cL_law 222 = .ok (.iload_n 2, 1) := by decide +kernel
theorem dL_law_223 : decode cL_law 223 = .ok (.if_icmp .ne 13, 3) := by decide +kernel
theorem dL_law_226 : decode cL_law 226 = .ok (.aload_n 1, 1) := by decide +kernel
theorem dL_law_227 : decode cL_law 227 = .ok (.iconst 2, 1) := by decide +kernel
theorem dL_law_228 : decode cL_law 228 = .ok (.iconst 3, 1) := by decide +kernel
theorem dL_law_229 : decode cL_law 229 = .ok (.invokevirtual 48, 3) := by decide +kernel
theorem dL_law_232 : decode cL_law 232 = .ok (.iload_n 2, 1) := by decide +kernel
theorem dL_law_233 : decode cL_law 233 = .ok (.if_icmp .eq 5, 3) := by decide +kernel
theorem dL_law_236 : decode cL_law 236 = .ok (.iconst 0, 1) := by decide +kernel
theorem dL_law_237 : decode cL_law 237 = .ok (.ireturn, 1) := by decide +kernel
theorem dL_law_238 : decode cL_law 238 = .ok (.aload_n 1, 1) := by decide +kernel
theorem dL_law_239 : decode cL_law 239 = .ok (.iconst 0, 1) := by decide +kernel
theorem dL_law_240 : decode cL_law 240 = .ok (.iconst 0, 1) := by decide +kernel
theorem dL_law_241 : decode cL_law 241 = .ok (.iload_n 2, 1) := by decide +kernel
theorem dL_law_242 : decode cL_law 242 = .ok (.invokevirtual 36, 3) := by decide +kernel
theorem dL_law_245 : decode cL_law 245 = .ok (.iload_n 2, 1) := by decide +kernel
theorem dL_law_246 : decode cL_law 246 = .ok (.i2l, 1) := by decide +kernel
theorem dL_law_247 : decode cL_law 247 = .ok (.lload 7, 2) := by decide +kernel
theorem dL_law_249 : decode cL_law 249 = .ok (.lmul, 1) := by decide +kernel
theorem dL_law_250 : decode cL_law 250 = .ok (.lcmp, 1) := by decide +kernel
theorem dL_law_251 : decode cL_law 251 = .ok (.ifCond .ne 30, 3) := by decide +kernel
theorem dL_law_254 : decode cL_law 254 = .ok (.aload_n 1, 1) := by decide +kernel
theorem dL_law_255 : decode cL_law 255 = .ok (.iconst 0, 1) := by decide +kernel
theorem dL_law_256 : decode cL_law 256 = .ok (.iconst 1, 1) := by decide +kernel
theorem dL_law_257 : decode cL_law 257 = .ok (.invokevirtual 40, 3) := by decide +kernel
theorem dL_law_260 : decode cL_law 260 = .ok (.iload_n 2, 1) := by decide +kernel
theorem dL_law_261 : decode cL_law 261 = .ok (.i2l, 1) := by decide +kernel
theorem dL_law_262 : decode cL_law 262 = .ok (.lload 9, 2) := by decide +kernel
theorem dL_law_264 : decode cL_law 264 = .ok (.lmul, 1) := by decide +kernel
theorem dL_law_265 : decode cL_law 265 = .ok (.lcmp, 1) := by decide +kernel
theorem dL_law_266 : decode cL_law 266 = .ok (.ifCond .ne 15, 3) := by decide +kernel
theorem dL_law_269 : decode cL_law 269 = .ok (.aload_n 1, 1) := by decide +kernel
theorem dL_law_270 : decode cL_law 270 = .ok (.iconst 0, 1) := by decide +kernel
theorem dL_law_271 : decode cL_law 271 = .ok (.iconst 0, 1) := by decide +kernel
theorem dL_law_272 : decode cL_law 272 = .ok (.invokevirtual 51, 3) := by decide +kernel
theorem dL_law_275 : decode cL_law 275 = .ok (.lload 5, 2) := by decide +kernel
theorem dL_law_277 : decode cL_law 277 = .ok (.lcmp, 1) := by decide +kernel
theorem dL_law_278 : decode cL_law 278 = .ok (.ifCond .eq 5, 3) := by decide +kernel
theorem dL_law_281 : decode cL_law 281 = .ok (.iconst 0, 1) := by decide +kernel
theorem dL_law_282 : decode cL_law 282 = .ok (.ireturn, 1) := by decide +kernel
theorem dL_law_283 : decode cL_law 283 = .ok (.aload_n 0, 1) := by decide +kernel
theorem dL_law_284 : decode cL_law 284 = .ok (.sipush 142, 3) := by decide +kernel
theorem dL_law_287 : decode cL_law 287 = .ok (.invokestatic 23, 3) := by decide +kernel
theorem dL_law_290 : decode cL_law 290 = .ok (.iload_n 2, 1) := by decide +kernel
theorem dL_law_291 : decode cL_law 291 = .ok (.invokestatic 29, 3) := by decide +kernel
theorem dL_law_294 : decode cL_law 294 = .ok (.istore 13, 2) := by decide +kernel
theorem dL_law_296 : decode cL_law 296 = .ok (.aload_n 1, 1) := by decide +kernel
theorem dL_law_297 : decode cL_law 297 = .ok (.iconst 0, 1) := by decide +kernel
theorem dL_law_298 : decode cL_law 298 = .ok (.iconst 0, 1) := by decide +kernel
theorem dL_law_299 : decode cL_law 299 = .ok (.iload 13, 2) := by decide +kernel
theorem dL_law_301 : decode cL_law 301 = .ok (.invokevirtual 36, 3) := by decide +kernel
theorem dL_law_304 : decode cL_law 304 = .ok (.iload 13, 2) := by decide +kernel
theorem dL_law_306 : decode cL_law 306 = .ok (.iconst 1, 1) := by decide +kernel
theorem dL_law_307 : decode cL_law 307 = .ok (.iadd, 1) := by decide +kernel
theorem dL_law_308 : decode cL_law 308 = .ok (.iload_n 2, 1) := by decide +kernel
theorem dL_law_309 : decode cL_law 309 = .ok (.if_icmp .ge 16, 3) := by decide +kernel
theorem dL_law_312 : decode cL_law 312 = .ok (.aload_n 1, 1) := by decide +kernel
theorem dL_law_313 : decode cL_law 313 = .ok (.iconst 0, 1) := by decide +kernel
theorem dL_law_314 : decode cL_law 314 = .ok (.iload 13, 2) := by decide +kernel
theorem dL_law_316 : decode cL_law 316 = .ok (.iconst 1, 1) := by decide +kernel
theorem dL_law_317 : decode cL_law 317 = .ok (.iadd, 1) := by decide +kernel
theorem dL_law_318 : decode cL_law 318 = .ok (.iload_n 2, 1) := by decide +kernel
theorem dL_law_319 : decode cL_law 319 = .ok (.invokevirtual 36, 3) := by decide +kernel
theorem dL_law_322 : decode cL_law 322 = .ok (.goto 4, 3) := by decide +kernel
theorem dL_law_325 : decode cL_law 325 = .ok (.lconst 0, 1) := by decide +kernel
theorem dL_law_326 : decode cL_law 326 = .ok (.ladd, 1) := by decide +kernel
theorem dL_law_327 : decode cL_law 327 = .ok (.lstore 14, 2) := by decide +kernel
theorem dL_law_329 : decode cL_law 329 = .ok (.lload 14, 2) := by decide +kernel
theorem dL_law_331 : decode cL_law 331 = .ok (.iload_n 2, 1) := by decide +kernel
theorem dL_law_332 : decode cL_law 332 = .ok (.i2l, 1) := by decide +kernel
theorem dL_law_333 : decode cL_law 333 = .ok (.lload 7, 2) := by decide +kernel
theorem dL_law_335 : decode cL_law 335 = .ok (.lmul, 1) := by decide +kernel
theorem dL_law_336 : decode cL_law 336 = .ok (.lcmp, 1) := by decide +kernel
theorem dL_law_337 : decode cL_law 337 = .ok (.ifCond .eq 5, 3) := by decide +kernel
theorem dL_law_340 : decode cL_law 340 = .ok (.iconst 0, 1) := by decide +kernel
theorem dL_law_341 : decode cL_law 341 = .ok (.ireturn, 1) := by decide +kernel
theorem dL_law_342 : decode cL_law 342 = .ok (.iconst (-1), 1) := by decide +kernel
theorem dL_law_343 : decode cL_law 343 = .ok (.istore 16, 2) := by decide +kernel
theorem dL_law_345 : decode cL_law 345 = .ok (.iconst 0, 1) := by decide +kernel
theorem dL_law_346 : decode cL_law 346 = .ok (.istore 17, 2) := by decide +kernel
theorem dL_law_348 : decode cL_law 348 = .ok (.iload 17, 2) := by decide +kernel
theorem dL_law_350 : decode cL_law 350 = .ok (.iload_n 2, 1) := by decide +kernel
theorem dL_law_351 : decode cL_law 351 = .ok (.if_icmp .ge 45, 3) := by decide +kernel
theorem dL_law_354 : decode cL_law 354 = .ok (.aload_n 1, 1) := by decide +kernel
theorem dL_law_355 : decode cL_law 355 = .ok (.iconst 2, 1) := by decide +kernel
theorem dL_law_356 : decode cL_law 356 = .ok (.iload 17, 2) := by decide +kernel
theorem dL_law_358 : decode cL_law 358 = .ok (.invokevirtual 51, 3) := by decide +kernel
theorem dL_law_361 : decode cL_law 361 = .ok (.iload 11, 2) := by decide +kernel
theorem dL_law_363 : decode cL_law 363 = .ok (.i2l, 1) := by decide +kernel
theorem dL_law_364 : decode cL_law 364 = .ok (.aload_n 1, 1) := by decide +kernel
theorem dL_law_365 : decode cL_law 365 = .ok (.iconst 0, 1) := by decide +kernel
theorem dL_law_366 : decode cL_law 366 = .ok (.iload 17, 2) := by decide +kernel
theorem dL_law_368 : decode cL_law 368 = .ok (.invokevirtual 51, 3) := by decide +kernel
theorem dL_law_371 : decode cL_law 371 = .ok (.lmul, 1) := by decide +kernel
theorem dL_law_372 : decode cL_law 372 = .ok (.iload 12, 2) := by decide +kernel
theorem dL_law_374 : decode cL_law 374 = .ok (.i2l, 1) := by decide +kernel
theorem dL_law_375 : decode cL_law 375 = .ok (.aload_n 1, 1) := by decide +kernel
theorem dL_law_376 : decode cL_law 376 = .ok (.iconst 1, 1) := by decide +kernel
theorem dL_law_377 : decode cL_law 377 = .ok (.iload 17, 2) := by decide +kernel
theorem dL_law_379 : decode cL_law 379 = .ok (.invokevirtual 51, 3) := by decide +kernel
theorem dL_law_382 : decode cL_law 382 = .ok (.lmul, 1) := by decide +kernel
theorem dL_law_383 : decode cL_law 383 = .ok (.ladd, 1) := by decide +kernel
theorem dL_law_384 : decode cL_law 384 = .ok (.lcmp, 1) := by decide +kernel
theorem dL_law_385 : decode cL_law 385 = .ok (.ifCond .eq 5, 3) := by decide +kernel
theorem dL_law_388 : decode cL_law 388 = .ok (.iconst 0, 1) := by decide +kernel
theorem dL_law_389 : decode cL_law 389 = .ok (.ireturn, 1) := by decide +kernel
theorem dL_law_390 : decode cL_law 390 = .ok (.iinc 17 1, 3) := by decide +kernel
theorem dL_law_393 : decode cL_law 393 = .ok (.goto (-45), 3) := by decide +kernel
theorem dL_law_396 : decode cL_law 396 = .ok (.aload_n 0, 1) := by decide +kernel
theorem dL_law_397 : decode cL_law 397 = .ok (.sipush 143, 3) := by decide +kernel
theorem dL_law_400 : decode cL_law 400 = .ok (.invokestatic 23, 3) := by decide +kernel
theorem dL_law_403 : decode cL_law 403 = .ok (.iload_n 2, 1) := by decide +kernel
theorem dL_law_404 : decode cL_law 404 = .ok (.invokestatic 29, 3) := by decide +kernel
theorem dL_law_407 : decode cL_law 407 = .ok (.istore 17, 2) := by decide +kernel
theorem dL_law_409 : decode cL_law 409 = .ok (.iconst 0, 1) := by decide +kernel
theorem dL_law_410 : decode cL_law 410 = .ok (.istore 18, 2) := by decide +kernel
theorem dL_law_412 : decode cL_law 412 = .ok (.iload 18, 2) := by decide +kernel
theorem dL_law_414 : decode cL_law 414 = .ok (.iload_n 2, 1) := by decide +kernel
theorem dL_law_415 : decode cL_law 415 = .ok (.if_icmp .ge 26, 3) := by decide +kernel
theorem dL_law_418 : decode cL_law 418 = .ok (.aload 4, 2) := by decide +kernel
theorem dL_law_420 : decode cL_law 420 = .ok (.iload 18, 2) := by decide +kernel
theorem dL_law_422 : decode cL_law 422 = .ok (.iload 18, 2) := by decide +kernel
theorem dL_law_424 : decode cL_law 424 = .ok (.iload 17, 2) := by decide +kernel
theorem dL_law_426 : decode cL_law 426 = .ok (.if_icmp .ne 7, 3) := by decide +kernel
theorem dL_law_429 : decode cL_law 429 = .ok (.lconst 1, 1) := by decide +kernel
theorem dL_law_430 : decode cL_law 430 = .ok (.goto 4, 3) := by decide +kernel
theorem dL_law_433 : decode cL_law 433 = .ok (.lconst 0, 1) := by decide +kernel
theorem dL_law_434 : decode cL_law 434 = .ok (.lastore, 1) := by decide +kernel
theorem dL_law_435 : decode cL_law 435 = .ok (.iinc 18 1, 3) := by decide +kernel
theorem dL_law_438 : decode cL_law 438 = .ok (.goto (-26), 3) := by decide +kernel
theorem dL_law_441 : decode cL_law 441 = .ok (.aload_n 1, 1) := by decide +kernel
theorem dL_law_442 : decode cL_law 442 = .ok (.iconst 3, 1) := by decide +kernel
theorem dL_law_443 : decode cL_law 443 = .ok (.iconst 3, 1) := by decide +kernel
theorem dL_law_444 : decode cL_law 444 = .ok (.aload 4, 2) := by decide +kernel
theorem dL_law_446 : decode cL_law 446 = .ok (.iload_n 2, 1) := by decide +kernel
theorem dL_law_447 : decode cL_law 447 = .ok (.invokestatic 32, 3) := by decide +kernel
theorem dL_law_450 : decode cL_law 450 = .ok (.ifCond .eq 13, 3) := by decide +kernel
theorem dL_law_453 : decode cL_law 453 = .ok (.aload_n 1, 1) := by decide +kernel
theorem dL_law_454 : decode cL_law 454 = .ok (.iconst 3, 1) := by decide +kernel
theorem dL_law_455 : decode cL_law 455 = .ok (.iconst 3, 1) := by decide +kernel
theorem dL_law_456 : decode cL_law 456 = .ok (.invokevirtual 48, 3) := by decide +kernel
theorem dL_law_459 : decode cL_law 459 = .ok (.iload_n 2, 1) := by decide +kernel
theorem dL_law_460 : decode cL_law 460 = .ok (.if_icmp .eq 5, 3) := by decide +kernel
theorem dL_law_463 : decode cL_law 463 = .ok (.iconst 0, 1) := by decide +kernel
theorem dL_law_464 : decode cL_law 464 = .ok (.ireturn, 1) := by decide +kernel
theorem dL_law_465 : decode cL_law 465 = .ok (.iconst 0, 1) := by decide +kernel
theorem dL_law_466 : decode cL_law 466 = .ok (.istore 16, 2) := by decide +kernel
theorem dL_law_468 : decode cL_law 468 = .ok (.iconst 1, 1) := by decide +kernel
theorem dL_law_469 : decode cL_law 469 = .ok (.istore 18, 2) := by decide +kernel
theorem dL_law_471 : decode cL_law 471 = .ok (.iload 18, 2) := by decide +kernel
theorem dL_law_473 : decode cL_law 473 = .ok (.iload_n 2, 1) := by decide +kernel
theorem dL_law_474 : decode cL_law 474 = .ok (.if_icmp .ge 39, 3) := by decide +kernel
theorem dL_law_477 : decode cL_law 477 = .ok (.iload 16, 2) := by decide +kernel
theorem dL_law_479 : decode cL_law 479 = .ok (.aload_n 1, 1) := by decide +kernel
theorem dL_law_480 : decode cL_law 480 = .ok (.iconst 3, 1) := by decide +kernel
theorem dL_law_481 : decode cL_law 481 = .ok (.iload 18, 2) := by decide +kernel
theorem dL_law_483 : decode cL_law 483 = .ok (.invokevirtual 51, 3) := by decide +kernel
theorem dL_law_486 : decode cL_law 486 = .ok (.aload_n 1, 1) := by decide +kernel
theorem dL_law_487 : decode cL_law 487 = .ok (.iconst 3, 1) := by decide +kernel
theorem dL_law_488 : decode cL_law 488 = .ok (.iload 18, 2) := by decide +kernel
theorem dL_law_490 : decode cL_law 490 = .ok (.iconst 1, 1) := by decide +kernel
theorem dL_law_491 : decode cL_law 491 = .ok (.isub, 1) := by decide +kernel
theorem dL_law_492 : decode cL_law 492 = .ok (.invokevirtual 51, 3) := by decide +kernel
theorem dL_law_495 : decode cL_law 495 = .ok (.lcmp, 1) := by decide +kernel
theorem dL_law_496 : decode cL_law 496 = .ok (.ifCond .ne 7, 3) := by decide +kernel
theorem dL_law_499 : decode cL_law 499 = .ok (.iconst 0, 1) := by decide +kernel
theorem dL_law_500 : decode cL_law 500 = .ok (.goto 4, 3) := by decide +kernel
theorem dL_law_503 : decode cL_law 503 = .ok (.iconst 1, 1) := by decide +kernel
theorem dL_law_504 : decode cL_law 504 = .ok (.iadd, 1) := by decide +kernel
theorem dL_law_505 : decode cL_law 505 = .ok (.istore 16, 2) := by decide +kernel
theorem dL_law_507 : decode cL_law 507 = .ok (.iinc 18 1, 3) := by decide +kernel
theorem dL_law_510 : decode cL_law 510 = .ok (.goto (-39), 3) := by decide +kernel
theorem dL_law_513 : decode cL_law 513 = .ok (.iload 16, 2) := by decide +kernel
theorem dL_law_515 : decode cL_law 515 = .ok (.iload 17, 2) := by decide +kernel
theorem dL_law_517 : decode cL_law 517 = .ok (.if_icmp .ne 13, 3) := by decide +kernel
theorem dL_law_520 : decode cL_law 520 = .ok (.aload_n 1, 1) := by decide +kernel
theorem dL_law_521 : decode cL_law 521 = .ok (.iconst 0, 1) := by decide +kernel
theorem dL_law_522 : decode cL_law 522 = .ok (.iconst 3, 1) := by decide +kernel
theorem dL_law_523 : decode cL_law 523 = .ok (.invokevirtual 48, 3) := by decide +kernel
theorem dL_law_526 : decode cL_law 526 = .ok (.iload_n 2, 1) := by decide +kernel
theorem dL_law_527 : decode cL_law 527 = .ok (.if_icmp .eq 5, 3) := by decide +kernel
theorem dL_law_530 : decode cL_law 530 = .ok (.iconst 0, 1) := by decide +kernel
theorem dL_law_531 : decode cL_law 531 = .ok (.ireturn, 1) := by decide +kernel
theorem dL_law_532 : decode cL_law 532 = .ok (.iconst 0, 1) := by decide +kernel
theorem dL_law_533 : decode cL_law 533 = .ok (.istore 18, 2) := by decide +kernel
theorem dL_law_535 : decode cL_law 535 = .ok (.iload 18, 2) := by decide +kernel
theorem dL_law_537 : decode cL_law 537 = .ok (.iload_n 2, 1) := by decide +kernel
theorem dL_law_538 : decode cL_law 538 = .ok (.if_icmp .ge 29, 3) := by decide +kernel
theorem dL_law_541 : decode cL_law 541 = .ok (.aload_n 1, 1) := by decide +kernel
theorem dL_law_542 : decode cL_law 542 = .ok (.iconst 0, 1) := by decide +kernel
theorem dL_law_543 : decode cL_law 543 = .ok (.iload 18, 2) := by decide +kernel
theorem dL_law_545 : decode cL_law 545 = .ok (.invokevirtual 51, 3) := by decide +kernel
theorem dL_law_548 : decode cL_law 548 = .ok (.iload_n 2, 1) := by decide +kernel
theorem dL_law_549 : decode cL_law 549 = .ok (.i2l, 1) := by decide +kernel
theorem dL_law_550 : decode cL_law 550 = .ok (.aload_n 3, 1) := by decide +kernel
theorem dL_law_551 : decode cL_law 551 = .ok (.iload 18, 2) := by decide +kernel
theorem dL_law_553 : decode cL_law 553 = .ok (.laload, 1) := by decide +kernel
theorem dL_law_554 : decode cL_law 554 = .ok (.lmul, 1) := by decide +kernel
theorem dL_law_555 : decode cL_law 555 = .ok (.lcmp, 1) := by decide +kernel
theorem dL_law_556 : decode cL_law 556 = .ok (.ifCond .eq 5, 3) := by decide +kernel
theorem dL_law_559 : decode cL_law 559 = .ok (.iconst 0, 1) := by decide +kernel
theorem dL_law_560 : decode cL_law 560 = .ok (.ireturn, 1) := by decide +kernel
theorem dL_law_561 : decode cL_law 561 = .ok (.iinc 18 1, 3) := by decide +kernel
theorem dL_law_564 : decode cL_law 564 = .ok (.goto (-29), 3) := by decide +kernel
theorem dL_law_567 : decode cL_law 567 = .ok (.iconst 1, 1) := by decide +kernel
theorem dL_law_568 : decode cL_law 568 = .ok (.ireturn, 1) := by decide +kernel
end
section
/-! MEMORY: the class's cells and the law's two arrays. A cell has a number (its tag); its address is given by a map; what changes are numbers alone: ints by tag and place, longs by tag and place. -/
abbrev Mem : Type := (Nat → Nat → Int32) × (Nat → Nat → Int64)
abbrev WG : Type := va_G × (Nat → Nat) × (Nat → ClassId)
abbrev MK : Type := MethodName × ByteArray × Nat × Option FieldType
abbrev QM : Type := Option Value → Mem → Prop
def sI (μ : Mem) (t i : Nat) (x : Int32) : Mem := (fun a b => if a = t ∧ b = i then x else μ.1 a b, μ.2)
def sL (μ : Mem) (t i : Nat) (x : Int64) : Mem := (μ.1, fun a b => if a = t ∧ b = i then x else μ.2 a b)
def bI (μ : Mem) (t : Nat) (f : Nat → Int32) : Mem := (fun a => if a = t then f else μ.1 a, μ.2)
def bL (μ : Mem) (t : Nat) (f : Nat → Int64) : Mem := (μ.1, fun a => if a = t then f else μ.2 a)
/-- the shape of each cell: an array (kind, length) or an object (class, its slots: a ref names a tag) -/
def shp (t : Nat) : (Nat × Nat) ⊕ (Nat × List Value) :=
  if t < 75 then
    if t < 7 then
      match t with
      | 0 => .inr (5, [.ref 1, .ref 2, .ref 3, .ref 4, .ref 5])
      | 1 => .inl (3, 8)
      | 2 => .inl (4, 6)
      | 3 => .inr (1, [.ref 39, .ref 6])
      | 4 => .inr (4, [.int 0, .int 0, .int 0, .int 0, .int 0, .int 0, .int 0])
      | 5 => .inr (0, [.long 0, .long 0, .long 0, .int 0, .int 0, .int 0, .int 0, .int 0, .int 0, .int 0])
      | _ => .inl (0, 10)
    else if t < 43 then
      match (t - 7) % 4 with
      | 0 => .inr (3, [.int 0, .int 0, .int 0, .ref (t + 1), .ref (t + 2), .ref (t + 3)])
      | 1 => .inl (1, 64)
      | 2 => .inl (1, 64)
      | _ => .inl (0, 64)
    else if t < 73 then
      match (t - 43) % 5 with
      | 0 => .inr (2, [.int 0, .ref (t + 1), .ref (t + 2), .ref (t + 3), .ref (t + 4)])
      | 1 => .inl (2, 64)
      | 2 => .inl (2, 64)
      | 3 => .inl (1, 64)
      | _ => .inl (2, 64)
    else .inl (2, 64)
  else .inl (9, 0)
/-- what the arrays of references hold -/
def arf (t j : Nat) : Nat := if t = 1 then 7 + 4 * j else 43 + 5 * j
def slotV (G : WG) (μ : Mem) (t j : Nat) (v : Value) : Value := match v with
  | .int _ => .int (μ.1 t j)
  | .long _ => .long (μ.2 t j)
  | .ref u => .ref (G.2.1 u)
  | w => w
def fsOf (G : WG) (μ : Mem) (t : Nat) (sl : List Value) : List Value := sl.mapIdx (fun j v => slotV G μ t j v)
def arOf (G : WG) (μ : Mem) (t k n : Nat) : vp_A := (n, if k < 2 then .inl (μ.1 t) else if k = 2 then .inr (.inl (μ.2 t)) else .inr (.inr (.inr (.inr (fun j => some (G.2.1 (arf t j)))))))
def cellOf (G : WG) (μ : Mem) (t : Nat) : va_E := match shp t with
  | .inl q => .inl (G.2.2 q.1, arOf G μ t q.1 q.2)
  | .inr q => .inr (q.1, fsOf G μ t q.2)
def wsOf (G : WG) (μ : Mem) : va_W := (List.range 75).map (fun t => (G.2.1 t, cellOf G μ t))
def wTys (G : WG) : List (ClassId × FieldType) := [(G.2.2 0, .boolean), (G.2.2 1, .int), (G.2.2 2, .long), (G.2.2 3, .object RX3), (G.2.2 4, .object RX2)]
theorem shp_lt_l {t k n : Nat} (h : shp t = .inl (k, n)) (hk : k < 9) : t < 75 := by
  by_cases ht : t < 75
  · exact ht
  · unfold shp at h
    rw [if_neg ht] at h
    cases h
    omega
theorem shp_lt_r {t : Nat} {x : Nat × List Value} (h : shp t = .inr x) : t < 75 := by
  by_cases ht : t < 75
  · exact ht
  · unfold shp at h
    rw [if_neg ht] at h
    cases h
theorem wsOf_get {G : WG} {μ : Mem} {t : Nat} (ht : t < 75) : (wsOf G μ)[t]? = some (G.2.1 t, cellOf G μ t) := by
  simp [wsOf, List.getElem?_map, List.getElem?_range ht]
theorem wsOf_len {G : WG} {μ : Mem} : (wsOf G μ).length = 75 := by simp [wsOf]
theorem cellOf_congr {G : WG} {μ μ' : Mem} {t : Nat} (h1 : μ.1 t = μ'.1 t) (h2 : μ.2 t = μ'.2 t) : cellOf G μ t = cellOf G μ' t := by
  simp only [cellOf, fsOf, arOf, slotV, h1, h2]
theorem wsOf_set {G : WG} {μ μ' : Mem} {t : Nat} {c : va_E} (ht : t < 75) (h1 : ∀ q, q ≠ t → μ'.1 q = μ.1 q) (h2 : ∀ q, q ≠ t → μ'.2 q = μ.2 q) (hc : cellOf G μ' t = c) : (wsOf G μ).set t (G.2.1 t, c) = wsOf G μ' := by
  apply List.ext_getElem?
  intro i
  by_cases hi : i = t
  · subst hi
    rw [List.getElem?_set_self (by rw [wsOf_len]; exact ht), wsOf_get ht, hc]
  · rw [List.getElem?_set_ne (Ne.symm hi)]
    by_cases h8 : i < 75
    · rw [wsOf_get h8, wsOf_get h8, cellOf_congr (h1 i hi) (h2 i hi)]
    · rw [List.getElem?_eq_none (by rw [wsOf_len]; omega), List.getElem?_eq_none (by rw [wsOf_len]; omega)]
theorem cellOf_r {G : WG} {μ : Mem} {t ci : Nat} {sl : List Value} (h : shp t = .inr (ci, sl)) : cellOf G μ t = .inr (ci, fsOf G μ t sl) := by
  simp only [cellOf, h]
theorem cellOf_l {G : WG} {μ : Mem} {t k n : Nat} (h : shp t = .inl (k, n)) : cellOf G μ t = .inl (G.2.2 k, arOf G μ t k n) := by
  simp only [cellOf, h]
theorem ws_r {G : WG} {μ : Mem} {t ci : Nat} {sl : List Value} (h : shp t = .inr (ci, sl)) : (wsOf G μ)[t]? = some (G.2.1 t, .inr (ci, fsOf G μ t sl)) := by
  rw [wsOf_get (shp_lt_r h), cellOf_r h]
theorem ws_l {G : WG} {μ : Mem} {t k n : Nat} (h : shp t = .inl (k, n)) (hk : k < 9) : (wsOf G μ)[t]? = some (G.2.1 t, .inl (G.2.2 k, arOf G μ t k n)) := by
  rw [wsOf_get (shp_lt_l h hk), cellOf_l h]
theorem fsOf_get {G : WG} {μ : Mem} {t j : Nat} {sl : List Value} {v : Value} (h : sl[j]? = some v) : (fsOf G μ t sl)[j]? = some (slotV G μ t j v) := by
  rw [fsOf, List.getElem?_mapIdx, h]
  rfl
theorem fsOf_len {G : WG} {μ : Mem} {t : Nat} {sl : List Value} : (fsOf G μ t sl).length = sl.length := by simp [fsOf]
theorem sI_off {μ : Mem} {t i q : Nat} {x : Int32} (h : q ≠ t) : (sI μ t i x).1 q = μ.1 q := by
  funext b
  simp [sI, h]
theorem sL_off {μ : Mem} {t i q : Nat} {x : Int64} (h : q ≠ t) : (sL μ t i x).2 q = μ.2 q := by
  funext b
  simp [sL, h]
theorem fsOf_setI {G : WG} {μ : Mem} {t j : Nat} {sl : List Value} {x z : Int32} (h : sl[j]? = some (.int z)) : fsOf G (sI μ t j x) t sl = (fsOf G μ t sl).set j (.int x) := by
  apply List.ext_getElem?
  intro i
  by_cases hi : i = j
  · subst hi
    have hl : i < sl.length := (List.getElem?_eq_some_iff.mp h).1
    rw [List.getElem?_set_self (by rw [fsOf_len]; exact hl), fsOf_get h]
    simp [slotV, sI]
  · rw [List.getElem?_set_ne (Ne.symm hi), fsOf, fsOf, List.getElem?_mapIdx, List.getElem?_mapIdx]
    congr 1
    funext v
    cases v <;> simp [slotV, sI, hi]
theorem fsOf_setL {G : WG} {μ : Mem} {t j : Nat} {sl : List Value} {x z : Int64} (h : sl[j]? = some (.long z)) : fsOf G (sL μ t j x) t sl = (fsOf G μ t sl).set j (.long x) := by
  apply List.ext_getElem?
  intro i
  by_cases hi : i = j
  · subst hi
    have hl : i < sl.length := (List.getElem?_eq_some_iff.mp h).1
    rw [List.getElem?_set_self (by rw [fsOf_len]; exact hl), fsOf_get h]
    simp [slotV, sL]
  · rw [List.getElem?_set_ne (Ne.symm hi), fsOf, fsOf, List.getElem?_mapIdx, List.getElem?_mapIdx]
    congr 1
    funext v
    cases v <;> simp [slotV, sL, hi]
theorem ws_setI {G : WG} {μ : Mem} {t ci j : Nat} {sl : List Value} {x z : Int32} (h : shp t = .inr (ci, sl)) (hj : sl[j]? = some (.int z)) : (wsOf G μ).set t (G.2.1 t, .inr (ci, (fsOf G μ t sl).set j (.int x))) = wsOf G (sI μ t j x) :=
  wsOf_set (shp_lt_r h) (fun _ hq => sI_off hq) (fun _ _ => rfl) (by rw [cellOf_r h, fsOf_setI hj])
theorem ws_setL {G : WG} {μ : Mem} {t ci j : Nat} {sl : List Value} {x z : Int64} (h : shp t = .inr (ci, sl)) (hj : sl[j]? = some (.long z)) : (wsOf G μ).set t (G.2.1 t, .inr (ci, (fsOf G μ t sl).set j (.long x))) = wsOf G (sL μ t j x) :=
  wsOf_set (shp_lt_r h) (fun _ _ => rfl) (fun _ hq => sL_off hq) (by rw [cellOf_r h, fsOf_setL hj])
theorem bI_off {μ : Mem} {t q : Nat} {f : Nat → Int32} (h : q ≠ t) : (bI μ t f).1 q = μ.1 q := by simp [bI, h]
theorem bL_off {μ : Mem} {t q : Nat} {f : Nat → Int64} (h : q ≠ t) : (bL μ t f).2 q = μ.2 q := by simp [bL, h]
theorem bI_at {μ : Mem} {t : Nat} {f : Nat → Int32} : (bI μ t f).1 t = f := by simp [bI]
theorem bL_at {μ : Mem} {t : Nat} {f : Nat → Int64} : (bL μ t f).2 t = f := by simp [bL]
theorem sI_bI {μ : Mem} {t i : Nat} {x : Int32} : bI μ t (upd (μ.1 t) i x) = sI μ t i x := by
  unfold bI sI
  congr 1
  funext a b
  by_cases ha : a = t
  · subst ha
    by_cases hb : b = i <;> simp [upd, hb]
  · simp [ha]
theorem sL_bL {μ : Mem} {t i : Nat} {x : Int64} : bL μ t (vp_updL (μ.2 t) i x) = sL μ t i x := by
  unfold bL sL
  congr 1
  funext a b
  by_cases ha : a = t
  · subst ha
    by_cases hb : b = i <;> simp [vp_updL, hb]
  · simp [ha]
theorem ws_bI {G : WG} {μ : Mem} {t k n : Nat} {f : Nat → Int32} (h : shp t = .inl (k, n)) (hk : k < 2) : (wsOf G μ).set t (G.2.1 t, .inl (G.2.2 k, n, .inl f)) = wsOf G (bI μ t f) :=
  wsOf_set (shp_lt_l h (by omega)) (fun _ hq => bI_off hq) (fun _ _ => rfl) (by rw [cellOf_l h, arOf, if_pos hk, bI_at])
theorem ws_bL {G : WG} {μ : Mem} {t n : Nat} {f : Nat → Int64} (h : shp t = .inl (2, n)) : (wsOf G μ).set t (G.2.1 t, .inl (G.2.2 2, n, .inr (.inl f))) = wsOf G (bL μ t f) :=
  wsOf_set (shp_lt_l h (by omega)) (fun _ _ => rfl) (fun _ hq => bL_off hq) (by rw [cellOf_l h, arOf, if_neg (by omega), if_pos rfl, bL_at])
theorem ws_aI {G : WG} {μ : Mem} {t k n : Nat} (h : shp t = .inl (k, n)) (hk : k < 2) : (wsOf G μ)[t]? = some (G.2.1 t, .inl (G.2.2 k, n, .inl (μ.1 t))) := by
  rw [ws_l h (by omega), arOf, if_pos hk]
theorem ws_aL {G : WG} {μ : Mem} {t n : Nat} (h : shp t = .inl (2, n)) : (wsOf G μ)[t]? = some (G.2.1 t, .inl (G.2.2 2, n, .inr (.inl (μ.2 t)))) := by
  rw [ws_l h (by omega), arOf, if_neg (by omega), if_pos rfl]
theorem ws_aR {G : WG} {μ : Mem} {t k n : Nat} (h : shp t = .inl (k, n)) (hk : 2 < k) (hk9 : k < 9) : (wsOf G μ)[t]? = some (G.2.1 t, .inl (G.2.2 k, n, .inr (.inr (.inr (.inr (fun j => some (G.2.1 (arf t j)))))))) := by
  rw [ws_l h hk9, arOf, if_neg (by omega), if_neg (by omega)]
def wA (G : WG) (sz : Nat) : Nat → Prop := fun q => (∃ t, t < 75 ∧ q = G.2.1 t) ∨ sz ≤ q
def wD (G : WG) : Prop := ∀ i j : Nat, i < 75 → j < 75 → G.2.1 i = G.2.1 j → i = j
def wP (G : WG) (μ : Mem) (H : Heap) : Prop := va_P G.1 vwCl (wsOf G μ) H
theorem wsOf_at {G : WG} {μ : Mem} {k : Nat} {q : Nat × va_E} (h : (wsOf G μ)[k]? = some q) : k < 75 ∧ q.1 = G.2.1 k := by
  have hl : k < 75 := by
    have := (List.getElem?_eq_some_iff.mp h).1
    rw [wsOf_len] at this
    exact this
  rw [wsOf_get hl] at h
  cases h
  exact ⟨hl, rfl⟩
theorem wD.D {G : WG} {μ : Mem} {sz : Nat} (h : wD G) : va_D (wA G sz) (wsOf G μ) := by
  refine ⟨fun i j p q hi hj hpq => ?_, fun k q hk => ?_⟩
  · obtain ⟨a1, a2⟩ := wsOf_at hi
    obtain ⟨b1, b2⟩ := wsOf_at hj
    exact h i j a1 b1 (by rw [← a2, ← b2]; exact hpq)
  · obtain ⟨a1, a2⟩ := wsOf_at hk
    exact Or.inl ⟨k, a1, a2⟩
theorem wA_mono {G : WG} {a b : Nat} (h : a ≤ b) {q : Nat} (hq : wA G b q) : wA G a q := by
  rcases hq with h1 | h1
  · exact Or.inl h1
  · exact Or.inr (Nat.le_trans h h1)
def nW (U : State) : Prop := va_Nw (.methodLinkNest RX2 79 yX5_isWithin RX5) U
def wK (G : WG) (U : State) : Prop := va_K G.1 vwCl (wTys G) U ∧ nW U
theorem wK.warm {G : WG} {s U : State} (hW : s.WarmedH U.vm) (h : wK G s) : wK G U := ⟨va_K.moved hW.alike h.1, va_Nw.warmM hW h.2⟩
theorem wK.calling {G : WG} {U : State} {g : JFrame} {mk : MethodId} {a : Array Value} (h : wK G U) : wK G (U.calling g mk a) := ⟨va_K.moved (u := U) (U := U.calling g mk a) (Vm.Alike.refl U.vm) h.1, va_Nw.same rfl rfl h.2⟩
/-- the tables' words, those that stay -/
def wT : List Cond := lw_tbl.filter goodWord
abbrev wsM (k : MK) : List Cond := .code k.1 k.2.1 k.2.2.1 k.2.2.2 :: wT
abbrev rmD (d : Nat) : Room := { frames := d, cells := 0, slots := 0, locals := 40 * d }
def trV (G : WG) (v : Value) : Value := match v with
  | .ref t => .ref (G.2.1 t)
  | w => w
theorem trV_cat (G : WG) (v : Value) : (trV G v).category = v.category := by cases v <;> rfl
def wQ (G : WG) (Q : QM) (sz : Nat) : Array Value → State → Outcome → State → Prop := fun _ st oc t => (∃ (r : Option Value) (μ' : Mem), oc = .returned (r.map (trV G)) ∧ Q r μ' ∧ wP G μ' t.heap) ∧ va_F (wA G sz) st t
/-- an answer is of the method's own type -/
def rOk (rt : Option FieldType) (r : Option Value) : Prop := match rt with
  | some .int => ∃ x, r = some (.int x)
  | some .long => ∃ x, r = some (.long x)
  | _ => True
def wR (rt : Option FieldType) (Q : QM) : QM := fun r μ => Q r μ ∧ rOk rt r
/-- method k, called with args in memory μ, with d calls' room: it returns, and Q holds of its answer and of the memory behind it -/
def MW (k : MK) (d : Nat) (as : List Value) (μ : Mem) (Q : QM) : Prop := ∀ (l : Launch) (G : WG) (sz : Nat), wD G → Met l k.1 (wsM k) (rmD d) (va_Pc (as.map (trV G)) (fun U => U.heap.size = sz ∧ wP G μ U.heap ∧ wK G U)) (wQ G (wR k.2.2.2 Q) sz) 0 0 (wA G sz)
def Cx (k : MK) (G : WG) (p : Program) (s : State) (m : MethodId) (args : Array Value) (meth : Method) (c : Code) : Prop := p.tables.exec = Jvm.exec ∧ c.code = k.2.1 ∧ meth.sig.returnType = k.2.2.2 ∧ (∀ w ∈ wsM k, w.before args s = true) ∧ s.vm.findClass k.1.cls = some m.cls ∧ meth.locks = false ∧ c.maxLocals = k.2.2.1 ∧ wD G ∧ wK G s
def lvh (G : WG) (ls : Array Slot) (n : Nat) (lv : List (Option Value)) : Prop := ls.size = n ∧ lv_wf ls ∧ ∀ (i : Nat) (v : Value), lv[i]? = some (some v) → ls[i]? = some (.val (trV G v))
/-- inside method k, at pc, with locals lv and stack st in memory μ: it goes on to its end, with Q -/
def WA (k : MK) (d : Nat) (Q : QM) (pc : Nat) (lv : List (Option Value)) (st : List Value) (μ : Mem) : Prop :=
  ∀ (G : WG) (p : Program) (l : Launch) (e : Env) (s : State) (m : MethodId) (args : Array Value) (below : List Frame) (meth : Method) (c : Code) (H : Heap) (locs : List Loc) (ls : Array Slot), Cx k G p s m args meth c → wP G μ H → va_S (wA G s.heap.size) s.heap H locs → lvh G ls k.2.2.1 lv →
    W p l e (rmD d) s m args below meth c H locs 0 0 (MQ below (wQ G (wR k.2.2.2 Q) s.heap.size) args s 0 0 (wA G s.heap.size)) (F0 m pc ls (st.map (trV G)))
/-! locals -/
def lvA : List Value → List (Option Value)
  | [] => []
  | v :: vs => match v with
    | .long x => some (.long x) :: none :: lvA vs
    | .double x => some (.double x) :: none :: lvA vs
    | w => some w :: lvA vs
def killP (lv : List (Option Value)) (i : Nat) : List (Option Value) := match i with
  | 0 => lv
  | j + 1 => match lv[j]? with
    | some (some (.long _)) => lv.set j none
    | some (some (.double _)) => lv.set j none
    | _ => lv
def stV (lv : List (Option Value)) (i : Nat) (v : Value) : List (Option Value) := (killP lv i).set i (some v)
def stW (lv : List (Option Value)) (i : Nat) (v : Value) : List (Option Value) := ((killP lv i).set i (some v)).set (i + 1) none
def aslF (G : WG) (lv : List (Option Value)) : List (Nat × Value) := (List.range lv.length).filterMap (fun j => match lv[j]? with
  | some (some v) => some (j, trV G v)
  | _ => none)
theorem aslF_mem {G : WG} {lv : List (Option Value)} {j : Nat} {v : Value} (h : lv[j]? = some (some v)) : (j, trV G v) ∈ aslF G lv := by
  have hl : j < lv.length := (List.getElem?_eq_some_iff.mp h).1
  refine List.mem_filterMap.mpr ⟨j, List.mem_range.mpr hl, ?_⟩
  simp only [h]
theorem aslF_of {G : WG} {lv : List (Option Value)} {q : Nat × Value} (h : q ∈ aslF G lv) : ∃ v, lv[q.1]? = some (some v) ∧ q.2 = trV G v := by
  obtain ⟨j, -, h2⟩ := List.mem_filterMap.mp h
  cases hj : lv[j]? with
  | none => simp [hj] at h2
  | some o =>
    cases o with
    | none => simp [hj] at h2
    | some v =>
      simp only [hj, Option.some.injEq] at h2
      subst h2
      exact ⟨v, hj, rfl⟩
theorem lvh.has {G : WG} {ls : Array Slot} {n : Nat} {lv : List (Option Value)} (h : lvh G ls n lv) : lv_has ls n (aslF G lv) := by
  refine ⟨h.1, h.2.1, fun q hq => ?_⟩
  obtain ⟨v, h1, h2⟩ := aslF_of hq
  rw [h2]
  exact h.2.2 _ _ h1
theorem lvh.at {G : WG} {ls : Array Slot} {n : Nat} {lv : List (Option Value)} (h : lvh G ls n lv) {i : Nat} {v : Value} (hi : lv[i]? = some (some v)) : ls[i]? = some (.val (trV G v)) := h.2.2 i v hi
theorem killP_get {lv : List (Option Value)} {i j : Nat} {w : Value} (h : (killP lv i)[j]? = some (some w)) : lv[j]? = some (some w) ∧ ¬ (j + 1 = i ∧ w.category = 2) := by
  cases i with
  | zero => exact ⟨h, by omega⟩
  | succ i =>
    unfold killP at h
    dsimp only at h
    have key : ∀ (o : Option Value), lv[i]? = some o → (lv.set i none)[j]? = some (some w) → lv[j]? = some (some w) ∧ ¬ (j + 1 = i + 1 ∧ w.category = 2) := by
      intro o ho hs
      by_cases hij : j = i
      · subst hij
        rw [List.getElem?_set_self (List.getElem?_eq_some_iff.mp ho).1] at hs
        cases hs
      · rw [List.getElem?_set_ne (Ne.symm hij)] at hs
        exact ⟨hs, by omega⟩
    split at h
    · rename_i x hx
      exact key _ hx h
    · rename_i x hx
      exact key _ hx h
    · rename_i n1 n2
      refine ⟨h, fun hh => ?_⟩
      obtain ⟨h1, h2⟩ := hh
      have hji : j = i := by omega
      subst hji
      cases w with
      | long x => exact n1 x h
      | double x => exact n2 x h
      | _ => simp [Value.category] at h2
theorem lvh_st {G : WG} {ls' : Array Slot} {n i : Nat} {lv : List (Option Value)} {v : Value} (h : lv_has ls' n ((i, trV G v) :: (aslF G lv).filter (fun q => !(q.1 == i) && !(q.1 + 1 == i && q.2.category == 2)))) : lvh G ls' n (stV lv i v) := by
  refine ⟨h.1, h.2.1, fun j w hj => ?_⟩
  unfold stV at hj
  by_cases hij : j = i
  · subst hij
    have hl : j < (killP lv j).length := by
      have := (List.getElem?_eq_some_iff.mp hj).1
      simpa using this
    rw [List.getElem?_set_self hl] at hj
    cases hj
    exact h.2.2 _ List.mem_cons_self
  · rw [List.getElem?_set_ne (Ne.symm hij)] at hj
    obtain ⟨h1, h2⟩ := killP_get hj
    refine h.2.2 (j, trV G w) (List.mem_cons_of_mem _ (List.mem_filter.mpr ⟨aslF_mem h1, ?_⟩))
    simp only [trV_cat]
    by_cases hc : j + 1 = i
    · have : ¬ w.category = 2 := fun q => h2 ⟨hc, q⟩
      simp [hij, this]
    · simp [hij, hc]
theorem lvh_sw {G : WG} {ls' : Array Slot} {n i : Nat} {lv : List (Option Value)} {v : Value} (h : lv_has ls' n ((i, trV G v) :: (aslF G lv).filter (fun q => !(q.1 == i) && (!(q.1 == i + 1) && !(q.1 + 1 == i && q.2.category == 2))))) : lvh G ls' n (stW lv i v) := by
  refine ⟨h.1, h.2.1, fun j w hj => ?_⟩
  unfold stW at hj
  by_cases hi1 : j = i + 1
  · subst hi1
    have hl : i + 1 < ((killP lv i).set i (some v)).length := by
      have := (List.getElem?_eq_some_iff.mp hj).1
      simpa using this
    rw [List.getElem?_set_self hl] at hj
    cases hj
  · rw [List.getElem?_set_ne (Ne.symm hi1)] at hj
    by_cases hij : j = i
    · subst hij
      have hl : j < (killP lv j).length := by
        have := (List.getElem?_eq_some_iff.mp hj).1
        simpa using this
      rw [List.getElem?_set_self hl] at hj
      cases hj
      exact h.2.2 _ List.mem_cons_self
    · rw [List.getElem?_set_ne (Ne.symm hij)] at hj
      obtain ⟨h1, h2⟩ := killP_get hj
      refine h.2.2 (j, trV G w) (List.mem_cons_of_mem _ (List.mem_filter.mpr ⟨aslF_mem h1, ?_⟩))
      simp only [trV_cat]
      by_cases hc : j + 1 = i
      · have : ¬ w.category = 2 := fun q => h2 ⟨hc, q⟩
        simp [hij, hi1, this]
      · simp [hij, hi1, hc]
theorem lvA_args {G : WG} : ∀ (vs : List Value) (o i : Nat) (v : Value), (lvA vs)[i]? = some (some v) → (o + i, trV G v) ∈ lv_args o (vs.map (trV G))
  | [], o, i, v, h => by simp [lvA] at h
  | a :: vs, o, i, v, h => by
    have ih := lvA_args (G := G) vs
    have two : ∀ (w : Value), w.category = 2 → lvA (a :: vs) = some a :: none :: lvA vs → w = a → (o + i, trV G v) ∈ lv_args o ((a :: vs).map (trV G)) := by
      intro w hw hA hwa
      subst hwa
      rw [hA] at h
      rw [List.map_cons, lv_args, if_pos (by rw [trV_cat]; exact hw)]
      match i, h with
      | 0, h => cases h; exact List.mem_cons_self
      | 1, h => cases h
      | i + 2, h =>
        have := ih (o + 2) i v (by simpa using h)
        rw [show o + (i + 2) = o + 2 + i by omega]
        exact List.mem_cons_of_mem _ this
    have one : ¬ a.category = 2 → lvA (a :: vs) = some a :: lvA vs → (o + i, trV G v) ∈ lv_args o ((a :: vs).map (trV G)) := by
      intro hw hA
      rw [hA] at h
      rw [List.map_cons, lv_args, if_neg (by rw [trV_cat]; exact hw)]
      match i, h with
      | 0, h => cases h; exact List.mem_cons_self
      | i + 1, h =>
        have := ih (o + 1) i v (by simpa using h)
        rw [show o + (i + 1) = o + 1 + i by omega]
        exact List.mem_cons_of_mem _ this
    cases a with
    | long x => exact two _ rfl rfl rfl
    | double x => exact two _ rfl rfl rfl
    | _ => exact one (by simp [Value.category]) rfl
theorem lvA_len (G : WG) : ∀ (vs : List Value), (lg_sl (vs.map (trV G))).length = (lvA vs).length
  | [] => rfl
  | a :: vs => by
    have ih := lvA_len G vs
    have e : lg_sl ((a :: vs).map (trV G)) = (if (trV G a).category = 2 then [.val (trV G a), .second] else [.val (trV G a)]) ++ lg_sl (vs.map (trV G)) := rfl
    rw [e, List.length_append, ih]
    cases a <;> simp [trV, Value.category, lvA] <;> omega
theorem lvh_entry {G : WG} {vs : List Value} {n : Nat} {lv : List (Option Value)} (hlv : lv = lvA vs ++ List.replicate (n - (lvA vs).length) none) (hn : (lvA vs).length ≤ n) : lvh G ((lg_sl (vs.map (trV G)) ++ List.replicate (n - (lg_sl (vs.map (trV G))).length) Slot.unset).toArray) n lv := by
  have h := lv_entry (vs.map (trV G)) (n := n) (by rw [lvA_len]; exact hn)
  refine ⟨h.1, h.2.1, fun i v hi => ?_⟩
  subst hlv
  by_cases hl : i < (lvA vs).length
  · rw [List.getElem?_append_left hl] at hi
    have := lvA_args (G := G) vs 0 i v hi
    rw [Nat.zero_add] at this
    exact h.2.2 _ this
  · rw [List.getElem?_append_right (by omega), List.getElem?_replicate] at hi
    split at hi <;> cases hi
theorem MW_of {k : MK} {d : Nat} {as : List Value} {μ : Mem} {Q : QM} (hy : plainName k.1.cls = true) (lv : List (Option Value)) (hlv : lv = lvA as ++ List.replicate (k.2.2.1 - (lvA as).length) none) (hn : (lvA as).length ≤ k.2.2.1) (h : WA k d Q 0 lv [] μ) : MW k d as μ Q := by
  intro l G sz hD
  refine Met.ofW (cc := k.2.1) (maxL := k.2.2.1) (ret := k.2.2.2) hy rfl ?_
  intro p e s m args below meth c s₁ B hml hv
  obtain ⟨rfl, hsz, hP, hK⟩ := hv
  subst hsz
  rw [lg_entry_eq]
  exact h G p l e s m _ below meth c s.heap [] _ ⟨B.exec, B.bytes, B.returns, atoms_spec (ws := wsM k) B.pre, findClass_of_methodNamed B.named, B.notSynchronized, hml, hD, hK⟩ hP va_S.rf (lvh_entry hlv hn)
theorem WA.mask {k : MK} {d : Nat} {Q : QM} {pc : Nat} {lv : List (Option Value)} {st : List Value} {μ : Mem} (lv' : List (Option Value)) (h : ∀ (i : Nat) (v : Value), lv'[i]? = some (some v) → lv[i]? = some (some v)) (kk : WA k d Q pc lv' st μ) : WA k d Q pc lv st μ :=
  fun G p l e s m args below meth c H locs ls C hP hS hl => kk G p l e s m args below meth c H locs ls C hP hS ⟨hl.1, hl.2.1, fun i v hi => hl.2.2 i v (h i v hi)⟩
/-- some locals forgotten -/
def frg : List (Option Value) → List Bool → List (Option Value)
  | o :: l, b :: bs => (if b then o else none) :: frg l bs
  | _, _ => []
theorem frg_get : ∀ (lv : List (Option Value)) (bs : List Bool) (i : Nat) (v : Value), (frg lv bs)[i]? = some (some v) → lv[i]? = some (some v)
  | [], bs, i, v, h => by simp [frg] at h
  | o :: l, [], i, v, h => by simp [frg] at h
  | o :: l, b :: bs, i, v, h => by
    match i with
    | 0 =>
      cases b
      · simp [frg] at h
      · simpa [frg] using h
    | i + 1 =>
      have := frg_get l bs i v (by simpa [frg] using h)
      simpa using this
theorem WA.frg {k : MK} {d : Nat} {Q : QM} {pc : Nat} {lv : List (Option Value)} {st : List Value} {μ : Mem} (bs : List Bool) (kk : WA k d Q pc (frg lv bs) st μ) : WA k d Q pc lv st μ := WA.mask _ (frg_get lv bs) kk
end
section
/-! ROWS: an instruction a row, over WA. What a branch tells is told of toInt. -/
theorem Int32.eq_toInt {x y : Int32} : x = y ↔ x.toInt = y.toInt := Int32.toInt_inj.symm
theorem z32 : (0 : Int32).toInt = 0 := by decide
theorem shp_n {t k n : Nat} (h : shp t = .inl (k, n)) : n ≤ 576 := by
  unfold shp at h
  split at h
  · split at h
    · split at h <;> cases h <;> decide
    · split at h
      · split at h <;> cases h <;> decide
      · split at h
        · split at h <;> cases h <;> decide
        · cases h
          decide
  · cases h
    decide
section WAR
variable {k k' : MK} {d d' : Nat} {Q : QM} {pc : Nat} {lv : List (Option Value)} {st : List Value} {μ : Mem}
theorem wa_iadd {x y : Int32} (hd : decode k.2.1 pc = .ok (.iadd, 1)) (kk : WA k d Q (pc + 1) lv (.int (x + y) :: st) μ) : WA k d Q pc lv (.int y :: .int x :: st) μ :=
  fun G p l e s m args below meth c H locs ls C hP hS hl => lv_iadd C.1 C.2.1 hd (kk G p l e s m args below meth c H locs ls C hP hS hl)
theorem wa_isub {x y : Int32} (hd : decode k.2.1 pc = .ok (.isub, 1)) (kk : WA k d Q (pc + 1) lv (.int (x - y) :: st) μ) : WA k d Q pc lv (.int y :: .int x :: st) μ :=
  fun G p l e s m args below meth c H locs ls C hP hS hl => lv_isub C.1 C.2.1 hd (kk G p l e s m args below meth c H locs ls C hP hS hl)
theorem wa_imul {x y : Int32} (hd : decode k.2.1 pc = .ok (.imul, 1)) (kk : WA k d Q (pc + 1) lv (.int (x * y) :: st) μ) : WA k d Q pc lv (.int y :: .int x :: st) μ :=
  fun G p l e s m args below meth c H locs ls C hP hS hl => lv_imul C.1 C.2.1 hd (kk G p l e s m args below meth c H locs ls C hP hS hl)
theorem wa_iand {x y : Int32} (hd : decode k.2.1 pc = .ok (.iand, 1)) (kk : WA k d Q (pc + 1) lv (.int (x &&& y) :: st) μ) : WA k d Q pc lv (.int y :: .int x :: st) μ :=
  fun G p l e s m args below meth c H locs ls C hP hS hl => lv_iand C.1 C.2.1 hd (kk G p l e s m args below meth c H locs ls C hP hS hl)
theorem wa_ior {x y : Int32} (hd : decode k.2.1 pc = .ok (.ior, 1)) (kk : WA k d Q (pc + 1) lv (.int (x ||| y) :: st) μ) : WA k d Q pc lv (.int y :: .int x :: st) μ :=
  fun G p l e s m args below meth c H locs ls C hP hS hl => lv_ior C.1 C.2.1 hd (kk G p l e s m args below meth c H locs ls C hP hS hl)
theorem wa_ixor {x y : Int32} (hd : decode k.2.1 pc = .ok (.ixor, 1)) (kk : WA k d Q (pc + 1) lv (.int (x ^^^ y) :: st) μ) : WA k d Q pc lv (.int y :: .int x :: st) μ :=
  fun G p l e s m args below meth c H locs ls C hP hS hl => lv_ixor C.1 C.2.1 hd (kk G p l e s m args below meth c H locs ls C hP hS hl)
theorem wa_idiv {x y : Int32} (hd : decode k.2.1 pc = .ok (.idiv, 1)) (hne : ¬ y = 0) (kk : WA k d Q (pc + 1) lv (.int (x / y) :: st) μ) : WA k d Q pc lv (.int y :: .int x :: st) μ :=
  fun G p l e s m args below meth c H locs ls C hP hS hl => lv_idiv C.1 C.2.1 hd hne (kk G p l e s m args below meth c H locs ls C hP hS hl)
theorem wa_irem {x y : Int32} (hd : decode k.2.1 pc = .ok (.irem, 1)) (hne : ¬ y = 0) (kk : WA k d Q (pc + 1) lv (.int (x - x / y * y) :: st) μ) : WA k d Q pc lv (.int y :: .int x :: st) μ :=
  fun G p l e s m args below meth c H locs ls C hP hS hl => lv_irem C.1 C.2.1 hd hne (kk G p l e s m args below meth c H locs ls C hP hS hl)
theorem wa_ineg {x : Int32} (hd : decode k.2.1 pc = .ok (.ineg, 1)) (kk : WA k d Q (pc + 1) lv (.int (-x) :: st) μ) : WA k d Q pc lv (.int x :: st) μ :=
  fun G p l e s m args below meth c H locs ls C hP hS hl => lv_ineg C.1 C.2.1 hd (kk G p l e s m args below meth c H locs ls C hP hS hl)
theorem wa_ladd {x y : Int64} (hd : decode k.2.1 pc = .ok (.ladd, 1)) (kk : WA k d Q (pc + 1) lv (.long (x + y) :: st) μ) : WA k d Q pc lv (.long y :: .long x :: st) μ :=
  fun G p l e s m args below meth c H locs ls C hP hS hl => lv_ladd C.1 C.2.1 hd (kk G p l e s m args below meth c H locs ls C hP hS hl)
theorem wa_lsub {x y : Int64} (hd : decode k.2.1 pc = .ok (.lsub, 1)) (kk : WA k d Q (pc + 1) lv (.long (x - y) :: st) μ) : WA k d Q pc lv (.long y :: .long x :: st) μ :=
  fun G p l e s m args below meth c H locs ls C hP hS hl => lv_lsub C.1 C.2.1 hd (kk G p l e s m args below meth c H locs ls C hP hS hl)
theorem wa_lmul {x y : Int64} (hd : decode k.2.1 pc = .ok (.lmul, 1)) (kk : WA k d Q (pc + 1) lv (.long (x * y) :: st) μ) : WA k d Q pc lv (.long y :: .long x :: st) μ :=
  fun G p l e s m args below meth c H locs ls C hP hS hl => lv_lmul C.1 C.2.1 hd (kk G p l e s m args below meth c H locs ls C hP hS hl)
theorem wa_land {x y : Int64} (hd : decode k.2.1 pc = .ok (.land, 1)) (kk : WA k d Q (pc + 1) lv (.long (x &&& y) :: st) μ) : WA k d Q pc lv (.long y :: .long x :: st) μ :=
  fun G p l e s m args below meth c H locs ls C hP hS hl => lv_land C.1 C.2.1 hd (kk G p l e s m args below meth c H locs ls C hP hS hl)
theorem wa_lor {x y : Int64} (hd : decode k.2.1 pc = .ok (.lor, 1)) (kk : WA k d Q (pc + 1) lv (.long (x ||| y) :: st) μ) : WA k d Q pc lv (.long y :: .long x :: st) μ :=
  fun G p l e s m args below meth c H locs ls C hP hS hl => lv_lor C.1 C.2.1 hd (kk G p l e s m args below meth c H locs ls C hP hS hl)
theorem wa_lxor {x y : Int64} (hd : decode k.2.1 pc = .ok (.lxor, 1)) (kk : WA k d Q (pc + 1) lv (.long (x ^^^ y) :: st) μ) : WA k d Q pc lv (.long y :: .long x :: st) μ :=
  fun G p l e s m args below meth c H locs ls C hP hS hl => lv_lxor C.1 C.2.1 hd (kk G p l e s m args below meth c H locs ls C hP hS hl)
theorem wa_ldiv {x y : Int64} (hd : decode k.2.1 pc = .ok (.ldiv, 1)) (hne : ¬ y = 0) (kk : WA k d Q (pc + 1) lv (.long (x / y) :: st) μ) : WA k d Q pc lv (.long y :: .long x :: st) μ :=
  fun G p l e s m args below meth c H locs ls C hP hS hl => lv_ldiv C.1 C.2.1 hd hne (kk G p l e s m args below meth c H locs ls C hP hS hl)
theorem wa_lrem {x y : Int64} (hd : decode k.2.1 pc = .ok (.lrem, 1)) (hne : ¬ y = 0) (kk : WA k d Q (pc + 1) lv (.long (x - x / y * y) :: st) μ) : WA k d Q pc lv (.long y :: .long x :: st) μ :=
  fun G p l e s m args below meth c H locs ls C hP hS hl => lv_lrem C.1 C.2.1 hd hne (kk G p l e s m args below meth c H locs ls C hP hS hl)
theorem wa_lneg {x : Int64} (hd : decode k.2.1 pc = .ok (.lneg, 1)) (kk : WA k d Q (pc + 1) lv (.long (-x) :: st) μ) : WA k d Q pc lv (.long x :: st) μ :=
  fun G p l e s m args below meth c H locs ls C hP hS hl => lv_lneg C.1 C.2.1 hd (kk G p l e s m args below meth c H locs ls C hP hS hl)
theorem wa_ishl {x y : Int32} (hd : decode k.2.1 pc = .ok (.ishl, 1)) (kk : WA k d Q (pc + 1) lv (.int (x <<< (y &&& 31)) :: st) μ) : WA k d Q pc lv (.int y :: .int x :: st) μ :=
  fun G p l e s m args below meth c H locs ls C hP hS hl => lv_ishl C.1 C.2.1 hd (kk G p l e s m args below meth c H locs ls C hP hS hl)
theorem wa_ishr {x y : Int32} (hd : decode k.2.1 pc = .ok (.ishr, 1)) (kk : WA k d Q (pc + 1) lv (.int (x >>> (y &&& 31)) :: st) μ) : WA k d Q pc lv (.int y :: .int x :: st) μ :=
  fun G p l e s m args below meth c H locs ls C hP hS hl => lv_ishr C.1 C.2.1 hd (kk G p l e s m args below meth c H locs ls C hP hS hl)
theorem wa_iushr {x y : Int32} (hd : decode k.2.1 pc = .ok (.iushr, 1)) (kk : WA k d Q (pc + 1) lv (.int ((x.toUInt32 >>> (y.toUInt32 &&& Int32.toUInt32 31)).toInt32) :: st) μ) : WA k d Q pc lv (.int y :: .int x :: st) μ :=
  fun G p l e s m args below meth c H locs ls C hP hS hl => lv_iushr C.1 C.2.1 hd rfl (kk G p l e s m args below meth c H locs ls C hP hS hl)
theorem wa_lshr {x : Int64} {y : Int32} (hd : decode k.2.1 pc = .ok (.lshr, 1)) (kk : WA k d Q (pc + 1) lv (.long (x >>> (y.toInt64 &&& 63)) :: st) μ) : WA k d Q pc lv (.int y :: .long x :: st) μ :=
  fun G p l e s m args below meth c H locs ls C hP hS hl => lv_lshr C.1 C.2.1 hd rfl (kk G p l e s m args below meth c H locs ls C hP hS hl)
theorem wa_lshl {x : Int64} {y : Int32} (hd : decode k.2.1 pc = .ok (.lshl, 1)) (kk : WA k d Q (pc + 1) lv (.long (x <<< (y.toInt64 &&& 63)) :: st) μ) : WA k d Q pc lv (.int y :: .long x :: st) μ :=
  fun G p l e s m args below meth c H locs ls C hP hS hl => lv_lshl C.1 C.2.1 hd rfl (kk G p l e s m args below meth c H locs ls C hP hS hl)
theorem wa_i2l {x : Int32} (hd : decode k.2.1 pc = .ok (.i2l, 1)) (kk : WA k d Q (pc + 1) lv (.long x.toInt64 :: st) μ) : WA k d Q pc lv (.int x :: st) μ :=
  fun G p l e s m args below meth c H locs ls C hP hS hl => lv_i2l C.1 C.2.1 hd rfl (kk G p l e s m args below meth c H locs ls C hP hS hl)
theorem wa_l2i {x : Int64} (hd : decode k.2.1 pc = .ok (.l2i, 1)) (kk : WA k d Q (pc + 1) lv (.int x.toInt32 :: st) μ) : WA k d Q pc lv (.long x :: st) μ :=
  fun G p l e s m args below meth c H locs ls C hP hS hl => lv_l2i C.1 C.2.1 hd rfl (kk G p l e s m args below meth c H locs ls C hP hS hl)
theorem wa_lcmp {x y : Int64} (hd : decode k.2.1 pc = .ok (.lcmp, 1)) (kk : WA k d Q (pc + 1) lv (.int (lg_cmp x y) :: st) μ) : WA k d Q pc lv (.long y :: .long x :: st) μ :=
  fun G p l e s m args below meth c H locs ls C hP hS hl => W.lcmp C.1 C.2.1 hd (kk G p l e s m args below meth c H locs ls C hP hS hl)
theorem wa_dupr {t : Nat} (hd : decode k.2.1 pc = .ok (.dup, 1)) (kk : WA k d Q (pc + 1) lv (.ref t :: .ref t :: st) μ) : WA k d Q pc lv (.ref t :: st) μ :=
  fun G p l e s m args below meth c H locs ls C hP hS hl => lv_dup C.1 C.2.1 hd rfl (kk G p l e s m args below meth c H locs ls C hP hS hl)
theorem wa_dupi {x : Int32} (hd : decode k.2.1 pc = .ok (.dup, 1)) (kk : WA k d Q (pc + 1) lv (.int x :: .int x :: st) μ) : WA k d Q pc lv (.int x :: st) μ :=
  fun G p l e s m args below meth c H locs ls C hP hS hl => lv_dup C.1 C.2.1 hd rfl (kk G p l e s m args below meth c H locs ls C hP hS hl)
theorem wa_iconst {n : Int} (v : Int32) (hd : decode k.2.1 pc = .ok (.iconst n, 1)) (hv : Int32.ofInt n = v) (kk : WA k d Q (pc + 1) lv (.int v :: st) μ) : WA k d Q pc lv st μ :=
  fun G p l e s m args below meth c H locs ls C hP hS hl => lv_iconst C.1 C.2.1 hd hv (kk G p l e s m args below meth c H locs ls C hP hS hl)
theorem wa_bipush {n : Int} (v : Int32) (hd : decode k.2.1 pc = .ok (.bipush n, 2)) (hv : (Int8.ofInt n).toInt32 = v) (kk : WA k d Q (pc + 2) lv (.int v :: st) μ) : WA k d Q pc lv st μ :=
  fun G p l e s m args below meth c H locs ls C hP hS hl => lv_bipush C.1 C.2.1 hd hv (kk G p l e s m args below meth c H locs ls C hP hS hl)
theorem wa_sipush {n : Int} (v : Int32) (hd : decode k.2.1 pc = .ok (.sipush n, 3)) (hv : (Int16.ofInt n).toInt32 = v) (kk : WA k d Q (pc + 3) lv (.int v :: st) μ) : WA k d Q pc lv st μ :=
  fun G p l e s m args below meth c H locs ls C hP hS hl => lv_sipush C.1 C.2.1 hd hv (kk G p l e s m args below meth c H locs ls C hP hS hl)
theorem wa_lconst {n : Fin 2} (v : Int64) (hd : decode k.2.1 pc = .ok (.lconst n, 1)) (hv : Int64.ofNat (n : Nat) = v) (kk : WA k d Q (pc + 1) lv (.long v :: st) μ) : WA k d Q pc lv st μ :=
  fun G p l e s m args below meth c H locs ls C hP hS hl => lv_lconst C.1 C.2.1 hd hv (kk G p l e s m args below meth c H locs ls C hP hS hl)
theorem wa_ldc2 {index : Nat} (v : Int64) (hd : decode k.2.1 pc = .ok (.ldc2_w index, 3)) (hw : Cond.constantLong k.1.cls index v ∈ wT) (kk : WA k d Q (pc + 3) lv (.long v :: st) μ) : WA k d Q pc lv st μ :=
  fun G p l e s m args below meth c H locs ls C hP hS hl => lv_ldc2 C.1 C.2.1 C.2.2.2.2.1 (C.2.2.2.1 _ (List.mem_cons_of_mem _ hw)) hd (kk G p l e s m args below meth c H locs ls C hP hS hl)
theorem wa_ldc {index : Nat} (v : Int32) (hd : decode k.2.1 pc = .ok (.ldc index, 2)) (hw : Cond.constant k.1.cls index v ∈ wT) (kk : WA k d Q (pc + 2) lv (.int v :: st) μ) : WA k d Q pc lv st μ :=
  fun G p l e s m args below meth c H locs ls C hP hS hl => lv_ldc C.1 C.2.1 C.2.2.2.2.1 (C.2.2.2.1 _ (List.mem_cons_of_mem _ hw)) hd (kk G p l e s m args below meth c H locs ls C hP hS hl)
theorem wa_ldcw {index : Nat} (v : Int32) (hd : decode k.2.1 pc = .ok (.ldc_w index, 3)) (hw : Cond.constant k.1.cls index v ∈ wT) (kk : WA k d Q (pc + 3) lv (.int v :: st) μ) : WA k d Q pc lv st μ :=
  fun G p l e s m args below meth c H locs ls C hP hS hl => lv_ldcw C.1 C.2.1 C.2.2.2.2.1 (C.2.2.2.1 _ (List.mem_cons_of_mem _ hw)) hd (kk G p l e s m args below meth c H locs ls C hP hS hl)
theorem wa_iload_n {i : Fin 4} {x : Int32} (hd : decode k.2.1 pc = .ok (.iload_n i, 1)) (hx : lv[(i : Nat)]? = some (some (.int x))) (kk : WA k d Q (pc + 1) lv (.int x :: st) μ) : WA k d Q pc lv st μ :=
  fun G p l e s m args below meth c H locs ls C hP hS hl => lv_iload_n C.1 C.2.1 hd rfl (hl.at hx) (kk G p l e s m args below meth c H locs ls C hP hS hl)
theorem wa_iload {i : Nat} {x : Int32} (hd : decode k.2.1 pc = .ok (.iload i, 2)) (hx : lv[i]? = some (some (.int x))) (kk : WA k d Q (pc + 2) lv (.int x :: st) μ) : WA k d Q pc lv st μ :=
  fun G p l e s m args below meth c H locs ls C hP hS hl => lv_iload C.1 C.2.1 hd (hl.at hx) (kk G p l e s m args below meth c H locs ls C hP hS hl)
theorem wa_istore_n {i : Fin 4} {x : Int32} (hd : decode k.2.1 pc = .ok (.istore_n i, 1)) (hi : (i : Nat) < k.2.2.1) (kk : WA k d Q (pc + 1) (stV lv i (.int x)) st μ) : WA k d Q pc lv (.int x :: st) μ :=
  fun G p l e s m args below meth c H locs ls C hP hS hl => lv_istore_n C.1 C.2.1 hd rfl hl.has hi rfl (fun ls' hl' => kk G p l e s m args below meth c H locs ls' C hP hS (lvh_st (v := .int x) hl'))
theorem wa_istore {i : Nat} {x : Int32} (hd : decode k.2.1 pc = .ok (.istore i, 2)) (hi : i < k.2.2.1) (kk : WA k d Q (pc + 2) (stV lv i (.int x)) st μ) : WA k d Q pc lv (.int x :: st) μ :=
  fun G p l e s m args below meth c H locs ls C hP hS hl => lv_istore C.1 C.2.1 hd hl.has hi rfl (fun ls' hl' => kk G p l e s m args below meth c H locs ls' C hP hS (lvh_st (v := .int x) hl'))
theorem wa_lload_n {i : Fin 4} {x : Int64} (hd : decode k.2.1 pc = .ok (.lload_n i, 1)) (hx : lv[(i : Nat)]? = some (some (.long x))) (kk : WA k d Q (pc + 1) lv (.long x :: st) μ) : WA k d Q pc lv st μ :=
  fun G p l e s m args below meth c H locs ls C hP hS hl => lv_lload_n C.1 C.2.1 hd rfl (hl.at hx) (kk G p l e s m args below meth c H locs ls C hP hS hl)
theorem wa_lload {i : Nat} {x : Int64} (hd : decode k.2.1 pc = .ok (.lload i, 2)) (hx : lv[i]? = some (some (.long x))) (kk : WA k d Q (pc + 2) lv (.long x :: st) μ) : WA k d Q pc lv st μ :=
  fun G p l e s m args below meth c H locs ls C hP hS hl => lv_lload C.1 C.2.1 hd (hl.at hx) (kk G p l e s m args below meth c H locs ls C hP hS hl)
theorem wa_lstore_n {i : Fin 4} {x : Int64} (hd : decode k.2.1 pc = .ok (.lstore_n i, 1)) (hi : (i : Nat) + 1 < k.2.2.1) (kk : WA k d Q (pc + 1) (stW lv i (.long x)) st μ) : WA k d Q pc lv (.long x :: st) μ :=
  fun G p l e s m args below meth c H locs ls C hP hS hl => lv_lstore_n C.1 C.2.1 hd rfl hl.has hi rfl (fun ls' hl' => kk G p l e s m args below meth c H locs ls' C hP hS (lvh_sw (v := .long x) hl'))
theorem wa_lstore {i : Nat} {x : Int64} (hd : decode k.2.1 pc = .ok (.lstore i, 2)) (hi : i + 1 < k.2.2.1) (kk : WA k d Q (pc + 2) (stW lv i (.long x)) st μ) : WA k d Q pc lv (.long x :: st) μ :=
  fun G p l e s m args below meth c H locs ls C hP hS hl => lv_lstore C.1 C.2.1 hd hl.has hi rfl (fun ls' hl' => kk G p l e s m args below meth c H locs ls' C hP hS (lvh_sw (v := .long x) hl'))
theorem wa_aload_n {i : Fin 4} {x : Nat} (hd : decode k.2.1 pc = .ok (.aload_n i, 1)) (hx : lv[(i : Nat)]? = some (some (.ref x))) (kk : WA k d Q (pc + 1) lv (.ref x :: st) μ) : WA k d Q pc lv st μ :=
  fun G p l e s m args below meth c H locs ls C hP hS hl => lv_aload_n C.1 C.2.1 hd rfl (hl.at hx) (kk G p l e s m args below meth c H locs ls C hP hS hl)
theorem wa_aload {i : Nat} {x : Nat} (hd : decode k.2.1 pc = .ok (.aload i, 2)) (hx : lv[i]? = some (some (.ref x))) (kk : WA k d Q (pc + 2) lv (.ref x :: st) μ) : WA k d Q pc lv st μ :=
  fun G p l e s m args below meth c H locs ls C hP hS hl => lv_aload C.1 C.2.1 hd (hl.at hx) (kk G p l e s m args below meth c H locs ls C hP hS hl)
theorem wa_astore_n {i : Fin 4} {x : Nat} (hd : decode k.2.1 pc = .ok (.astore_n i, 1)) (hi : (i : Nat) < k.2.2.1) (kk : WA k d Q (pc + 1) (stV lv i (.ref x)) st μ) : WA k d Q pc lv (.ref x :: st) μ :=
  fun G p l e s m args below meth c H locs ls C hP hS hl => lv_astore_n C.1 C.2.1 hd rfl hl.has hi rfl (fun ls' hl' => kk G p l e s m args below meth c H locs ls' C hP hS (lvh_st (v := .ref x) hl'))
theorem wa_astore {i : Nat} {x : Nat} (hd : decode k.2.1 pc = .ok (.astore i, 2)) (hi : i < k.2.2.1) (kk : WA k d Q (pc + 2) (stV lv i (.ref x)) st μ) : WA k d Q pc lv (.ref x :: st) μ :=
  fun G p l e s m args below meth c H locs ls C hP hS hl => lv_astore C.1 C.2.1 hd hl.has hi rfl (fun ls' hl' => kk G p l e s m args below meth c H locs ls' C hP hS (lvh_st (v := .ref x) hl'))
theorem wa_iinc {i : Nat} {n : Int} {x : Int32} (v : Int32) (hd : decode k.2.1 pc = .ok (.iinc i n, 3)) (hx : lv[i]? = some (some (.int x))) (hv : Int32.ofInt n = v) (hi : i < k.2.2.1) (kk : WA k d Q (pc + 3) (stV lv i (.int (x + v))) st μ) : WA k d Q pc lv st μ := by
  intro G p l e s m args below meth c H locs ls C hP hS hl
  obtain ⟨j, hj⟩ := List.getElem?_of_mem (aslF_mem (G := G) hx)
  exact lv_iinc C.1 C.2.1 hd hl.has (k := j) hj (by rw [hv]) hi rfl (fun ls' hl' => kk G p l e s m args below meth c H locs ls' C hP hS (lvh_st (v := .int (x + v)) hl'))
theorem wa_goto {off : Int} (tgt : Nat) (hd : decode k.2.1 pc = .ok (.goto off, 3)) (ht : (pc : Int) + off = (tgt : Int)) (kk : WA k d Q tgt lv st μ) : WA k d Q pc lv st μ :=
  fun G p l e s m args below meth c H locs ls C hP hS hl => lv_goto C.1 C.2.1 hd ht (kk G p l e s m args below meth c H locs ls C hP hS hl)
theorem wa_if_eq {x : Int32} {off : Int} (tgt : Nat) (hd : decode k.2.1 pc = .ok (.ifCond .eq off, 3)) (ht : (pc : Int) + off = (tgt : Int)) (kt : x.toInt = 0 → WA k d Q tgt lv st μ) (kf : ¬ x.toInt = 0 → WA k d Q (pc + 3) lv st μ) : WA k d Q pc lv (.int x :: st) μ :=
  fun G p l e s m args below meth c H locs ls C hP hS hl => lv_if_eq C.1 C.2.1 hd ht (fun hh => kt (by first | simpa only [Int32.eq_toInt, z32] using hh | simpa [Int32.eq_toInt, z32] using hh) G p l e s m args below meth c H locs ls C hP hS hl) (fun hh => kf (by first | simpa only [Int32.eq_toInt, z32] using hh | simpa [Int32.eq_toInt, z32] using hh) G p l e s m args below meth c H locs ls C hP hS hl)
theorem wa_if_eqT {x : Int32} {off : Int} (tgt : Nat) (hd : decode k.2.1 pc = .ok (.ifCond .eq off, 3)) (ht : (pc : Int) + off = (tgt : Int)) (h : x.toInt = 0) (kt : WA k d Q tgt lv st μ) : WA k d Q pc lv (.int x :: st) μ := wa_if_eq tgt hd ht (fun _ => kt) (fun hh => absurd h hh)
theorem wa_if_eqF {x : Int32} {off : Int} (tgt : Nat) (hd : decode k.2.1 pc = .ok (.ifCond .eq off, 3)) (ht : (pc : Int) + off = (tgt : Int)) (h : ¬ x.toInt = 0) (kf : WA k d Q (pc + 3) lv st μ) : WA k d Q pc lv (.int x :: st) μ := wa_if_eq tgt hd ht (fun hh => absurd hh h) (fun _ => kf)
theorem wa_ic_eq {x y : Int32} {off : Int} (tgt : Nat) (hd : decode k.2.1 pc = .ok (.if_icmp .eq off, 3)) (ht : (pc : Int) + off = (tgt : Int)) (kt : x.toInt = y.toInt → WA k d Q tgt lv st μ) (kf : ¬ x.toInt = y.toInt → WA k d Q (pc + 3) lv st μ) : WA k d Q pc lv (.int y :: .int x :: st) μ :=
  fun G p l e s m args below meth c H locs ls C hP hS hl => lv_icmp_eq C.1 C.2.1 hd ht (fun hh => kt (by first | simpa only [Int32.eq_toInt, z32] using hh | simpa [Int32.eq_toInt, z32] using hh) G p l e s m args below meth c H locs ls C hP hS hl) (fun hh => kf (by first | simpa only [Int32.eq_toInt, z32] using hh | simpa [Int32.eq_toInt, z32] using hh) G p l e s m args below meth c H locs ls C hP hS hl)
theorem wa_ic_eqT {x y : Int32} {off : Int} (tgt : Nat) (hd : decode k.2.1 pc = .ok (.if_icmp .eq off, 3)) (ht : (pc : Int) + off = (tgt : Int)) (h : x.toInt = y.toInt) (kt : WA k d Q tgt lv st μ) : WA k d Q pc lv (.int y :: .int x :: st) μ := wa_ic_eq tgt hd ht (fun _ => kt) (fun hh => absurd h hh)
theorem wa_ic_eqF {x y : Int32} {off : Int} (tgt : Nat) (hd : decode k.2.1 pc = .ok (.if_icmp .eq off, 3)) (ht : (pc : Int) + off = (tgt : Int)) (h : ¬ x.toInt = y.toInt) (kf : WA k d Q (pc + 3) lv st μ) : WA k d Q pc lv (.int y :: .int x :: st) μ := wa_ic_eq tgt hd ht (fun hh => absurd hh h) (fun _ => kf)
theorem wa_if_ne {x : Int32} {off : Int} (tgt : Nat) (hd : decode k.2.1 pc = .ok (.ifCond .ne off, 3)) (ht : (pc : Int) + off = (tgt : Int)) (kt : ¬ x.toInt = 0 → WA k d Q tgt lv st μ) (kf : ¬ ¬ x.toInt = 0 → WA k d Q (pc + 3) lv st μ) : WA k d Q pc lv (.int x :: st) μ :=
  fun G p l e s m args below meth c H locs ls C hP hS hl => lv_if_ne C.1 C.2.1 hd ht (fun hh => kt (by first | simpa only [Int32.eq_toInt, z32] using hh | simpa [Int32.eq_toInt, z32] using hh) G p l e s m args below meth c H locs ls C hP hS hl) (fun hh => kf (by first | simpa only [Int32.eq_toInt, z32] using hh | simpa [Int32.eq_toInt, z32] using hh) G p l e s m args below meth c H locs ls C hP hS hl)
theorem wa_if_neT {x : Int32} {off : Int} (tgt : Nat) (hd : decode k.2.1 pc = .ok (.ifCond .ne off, 3)) (ht : (pc : Int) + off = (tgt : Int)) (h : ¬ x.toInt = 0) (kt : WA k d Q tgt lv st μ) : WA k d Q pc lv (.int x :: st) μ := wa_if_ne tgt hd ht (fun _ => kt) (fun hh => absurd h hh)
theorem wa_if_neF {x : Int32} {off : Int} (tgt : Nat) (hd : decode k.2.1 pc = .ok (.ifCond .ne off, 3)) (ht : (pc : Int) + off = (tgt : Int)) (h : ¬ ¬ x.toInt = 0) (kf : WA k d Q (pc + 3) lv st μ) : WA k d Q pc lv (.int x :: st) μ := wa_if_ne tgt hd ht (fun hh => absurd hh h) (fun _ => kf)
theorem wa_ic_ne {x y : Int32} {off : Int} (tgt : Nat) (hd : decode k.2.1 pc = .ok (.if_icmp .ne off, 3)) (ht : (pc : Int) + off = (tgt : Int)) (kt : ¬ x.toInt = y.toInt → WA k d Q tgt lv st μ) (kf : ¬ ¬ x.toInt = y.toInt → WA k d Q (pc + 3) lv st μ) : WA k d Q pc lv (.int y :: .int x :: st) μ :=
  fun G p l e s m args below meth c H locs ls C hP hS hl => lv_icmp_ne C.1 C.2.1 hd ht (fun hh => kt (by first | simpa only [Int32.eq_toInt, z32] using hh | simpa [Int32.eq_toInt, z32] using hh) G p l e s m args below meth c H locs ls C hP hS hl) (fun hh => kf (by first | simpa only [Int32.eq_toInt, z32] using hh | simpa [Int32.eq_toInt, z32] using hh) G p l e s m args below meth c H locs ls C hP hS hl)
theorem wa_ic_neT {x y : Int32} {off : Int} (tgt : Nat) (hd : decode k.2.1 pc = .ok (.if_icmp .ne off, 3)) (ht : (pc : Int) + off = (tgt : Int)) (h : ¬ x.toInt = y.toInt) (kt : WA k d Q tgt lv st μ) : WA k d Q pc lv (.int y :: .int x :: st) μ := wa_ic_ne tgt hd ht (fun _ => kt) (fun hh => absurd h hh)
theorem wa_ic_neF {x y : Int32} {off : Int} (tgt : Nat) (hd : decode k.2.1 pc = .ok (.if_icmp .ne off, 3)) (ht : (pc : Int) + off = (tgt : Int)) (h : ¬ ¬ x.toInt = y.toInt) (kf : WA k d Q (pc + 3) lv st μ) : WA k d Q pc lv (.int y :: .int x :: st) μ := wa_ic_ne tgt hd ht (fun hh => absurd hh h) (fun _ => kf)
theorem wa_if_lt {x : Int32} {off : Int} (tgt : Nat) (hd : decode k.2.1 pc = .ok (.ifCond .lt off, 3)) (ht : (pc : Int) + off = (tgt : Int)) (kt : x.toInt < 0 → WA k d Q tgt lv st μ) (kf : ¬ x.toInt < 0 → WA k d Q (pc + 3) lv st μ) : WA k d Q pc lv (.int x :: st) μ :=
  fun G p l e s m args below meth c H locs ls C hP hS hl => lv_if_lt C.1 C.2.1 hd ht (fun hh => kt (by first | simpa only [Int32.lt_iff_toInt_lt, z32] using hh | simpa [Int32.lt_iff_toInt_lt, z32] using hh) G p l e s m args below meth c H locs ls C hP hS hl) (fun hh => kf (by first | simpa only [Int32.lt_iff_toInt_lt, z32] using hh | simpa [Int32.lt_iff_toInt_lt, z32] using hh) G p l e s m args below meth c H locs ls C hP hS hl)
theorem wa_if_ltT {x : Int32} {off : Int} (tgt : Nat) (hd : decode k.2.1 pc = .ok (.ifCond .lt off, 3)) (ht : (pc : Int) + off = (tgt : Int)) (h : x.toInt < 0) (kt : WA k d Q tgt lv st μ) : WA k d Q pc lv (.int x :: st) μ := wa_if_lt tgt hd ht (fun _ => kt) (fun hh => absurd h hh)
theorem wa_if_ltF {x : Int32} {off : Int} (tgt : Nat) (hd : decode k.2.1 pc = .ok (.ifCond .lt off, 3)) (ht : (pc : Int) + off = (tgt : Int)) (h : ¬ x.toInt < 0) (kf : WA k d Q (pc + 3) lv st μ) : WA k d Q pc lv (.int x :: st) μ := wa_if_lt tgt hd ht (fun hh => absurd hh h) (fun _ => kf)
theorem wa_ic_lt {x y : Int32} {off : Int} (tgt : Nat) (hd : decode k.2.1 pc = .ok (.if_icmp .lt off, 3)) (ht : (pc : Int) + off = (tgt : Int)) (kt : x.toInt < y.toInt → WA k d Q tgt lv st μ) (kf : ¬ x.toInt < y.toInt → WA k d Q (pc + 3) lv st μ) : WA k d Q pc lv (.int y :: .int x :: st) μ :=
  fun G p l e s m args below meth c H locs ls C hP hS hl => lv_icmp_lt C.1 C.2.1 hd ht (fun hh => kt (by first | simpa only [Int32.lt_iff_toInt_lt, z32] using hh | simpa [Int32.lt_iff_toInt_lt, z32] using hh) G p l e s m args below meth c H locs ls C hP hS hl) (fun hh => kf (by first | simpa only [Int32.lt_iff_toInt_lt, z32] using hh | simpa [Int32.lt_iff_toInt_lt, z32] using hh) G p l e s m args below meth c H locs ls C hP hS hl)
theorem wa_ic_ltT {x y : Int32} {off : Int} (tgt : Nat) (hd : decode k.2.1 pc = .ok (.if_icmp .lt off, 3)) (ht : (pc : Int) + off = (tgt : Int)) (h : x.toInt < y.toInt) (kt : WA k d Q tgt lv st μ) : WA k d Q pc lv (.int y :: .int x :: st) μ := wa_ic_lt tgt hd ht (fun _ => kt) (fun hh => absurd h hh)
theorem wa_ic_ltF {x y : Int32} {off : Int} (tgt : Nat) (hd : decode k.2.1 pc = .ok (.if_icmp .lt off, 3)) (ht : (pc : Int) + off = (tgt : Int)) (h : ¬ x.toInt < y.toInt) (kf : WA k d Q (pc + 3) lv st μ) : WA k d Q pc lv (.int y :: .int x :: st) μ := wa_ic_lt tgt hd ht (fun hh => absurd hh h) (fun _ => kf)
theorem wa_if_ge {x : Int32} {off : Int} (tgt : Nat) (hd : decode k.2.1 pc = .ok (.ifCond .ge off, 3)) (ht : (pc : Int) + off = (tgt : Int)) (kt : 0 ≤ x.toInt → WA k d Q tgt lv st μ) (kf : ¬ 0 ≤ x.toInt → WA k d Q (pc + 3) lv st μ) : WA k d Q pc lv (.int x :: st) μ :=
  fun G p l e s m args below meth c H locs ls C hP hS hl => lv_if_ge C.1 C.2.1 hd ht (fun hh => kt (by first | simpa only [Int32.le_iff_toInt_le, z32] using hh | simpa [Int32.le_iff_toInt_le, z32] using hh) G p l e s m args below meth c H locs ls C hP hS hl) (fun hh => kf (by first | simpa only [Int32.le_iff_toInt_le, z32] using hh | simpa [Int32.le_iff_toInt_le, z32] using hh) G p l e s m args below meth c H locs ls C hP hS hl)
theorem wa_if_geT {x : Int32} {off : Int} (tgt : Nat) (hd : decode k.2.1 pc = .ok (.ifCond .ge off, 3)) (ht : (pc : Int) + off = (tgt : Int)) (h : 0 ≤ x.toInt) (kt : WA k d Q tgt lv st μ) : WA k d Q pc lv (.int x :: st) μ := wa_if_ge tgt hd ht (fun _ => kt) (fun hh => absurd h hh)
theorem wa_if_geF {x : Int32} {off : Int} (tgt : Nat) (hd : decode k.2.1 pc = .ok (.ifCond .ge off, 3)) (ht : (pc : Int) + off = (tgt : Int)) (h : ¬ 0 ≤ x.toInt) (kf : WA k d Q (pc + 3) lv st μ) : WA k d Q pc lv (.int x :: st) μ := wa_if_ge tgt hd ht (fun hh => absurd hh h) (fun _ => kf)
theorem wa_ic_ge {x y : Int32} {off : Int} (tgt : Nat) (hd : decode k.2.1 pc = .ok (.if_icmp .ge off, 3)) (ht : (pc : Int) + off = (tgt : Int)) (kt : y.toInt ≤ x.toInt → WA k d Q tgt lv st μ) (kf : ¬ y.toInt ≤ x.toInt → WA k d Q (pc + 3) lv st μ) : WA k d Q pc lv (.int y :: .int x :: st) μ :=
  fun G p l e s m args below meth c H locs ls C hP hS hl => lv_icmp_ge C.1 C.2.1 hd ht (fun hh => kt (by first | simpa only [Int32.le_iff_toInt_le, z32] using hh | simpa [Int32.le_iff_toInt_le, z32] using hh) G p l e s m args below meth c H locs ls C hP hS hl) (fun hh => kf (by first | simpa only [Int32.le_iff_toInt_le, z32] using hh | simpa [Int32.le_iff_toInt_le, z32] using hh) G p l e s m args below meth c H locs ls C hP hS hl)
theorem wa_ic_geT {x y : Int32} {off : Int} (tgt : Nat) (hd : decode k.2.1 pc = .ok (.if_icmp .ge off, 3)) (ht : (pc : Int) + off = (tgt : Int)) (h : y.toInt ≤ x.toInt) (kt : WA k d Q tgt lv st μ) : WA k d Q pc lv (.int y :: .int x :: st) μ := wa_ic_ge tgt hd ht (fun _ => kt) (fun hh => absurd h hh)
theorem wa_ic_geF {x y : Int32} {off : Int} (tgt : Nat) (hd : decode k.2.1 pc = .ok (.if_icmp .ge off, 3)) (ht : (pc : Int) + off = (tgt : Int)) (h : ¬ y.toInt ≤ x.toInt) (kf : WA k d Q (pc + 3) lv st μ) : WA k d Q pc lv (.int y :: .int x :: st) μ := wa_ic_ge tgt hd ht (fun hh => absurd hh h) (fun _ => kf)
theorem wa_if_gt {x : Int32} {off : Int} (tgt : Nat) (hd : decode k.2.1 pc = .ok (.ifCond .gt off, 3)) (ht : (pc : Int) + off = (tgt : Int)) (kt : 0 < x.toInt → WA k d Q tgt lv st μ) (kf : ¬ 0 < x.toInt → WA k d Q (pc + 3) lv st μ) : WA k d Q pc lv (.int x :: st) μ :=
  fun G p l e s m args below meth c H locs ls C hP hS hl => lv_if_gt C.1 C.2.1 hd ht (fun hh => kt (by first | simpa only [Int32.lt_iff_toInt_lt, z32] using hh | simpa [Int32.lt_iff_toInt_lt, z32] using hh) G p l e s m args below meth c H locs ls C hP hS hl) (fun hh => kf (by first | simpa only [Int32.lt_iff_toInt_lt, z32] using hh | simpa [Int32.lt_iff_toInt_lt, z32] using hh) G p l e s m args below meth c H locs ls C hP hS hl)
theorem wa_if_gtT {x : Int32} {off : Int} (tgt : Nat) (hd : decode k.2.1 pc = .ok (.ifCond .gt off, 3)) (ht : (pc : Int) + off = (tgt : Int)) (h : 0 < x.toInt) (kt : WA k d Q tgt lv st μ) : WA k d Q pc lv (.int x :: st) μ := wa_if_gt tgt hd ht (fun _ => kt) (fun hh => absurd h hh)
theorem wa_if_gtF {x : Int32} {off : Int} (tgt : Nat) (hd : decode k.2.1 pc = .ok (.ifCond .gt off, 3)) (ht : (pc : Int) + off = (tgt : Int)) (h : ¬ 0 < x.toInt) (kf : WA k d Q (pc + 3) lv st μ) : WA k d Q pc lv (.int x :: st) μ := wa_if_gt tgt hd ht (fun hh => absurd hh h) (fun _ => kf)
theorem wa_ic_gt {x y : Int32} {off : Int} (tgt : Nat) (hd : decode k.2.1 pc = .ok (.if_icmp .gt off, 3)) (ht : (pc : Int) + off = (tgt : Int)) (kt : y.toInt < x.toInt → WA k d Q tgt lv st μ) (kf : ¬ y.toInt < x.toInt → WA k d Q (pc + 3) lv st μ) : WA k d Q pc lv (.int y :: .int x :: st) μ :=
  fun G p l e s m args below meth c H locs ls C hP hS hl => lv_icmp_gt C.1 C.2.1 hd ht (fun hh => kt (by first | simpa only [Int32.lt_iff_toInt_lt, z32] using hh | simpa [Int32.lt_iff_toInt_lt, z32] using hh) G p l e s m args below meth c H locs ls C hP hS hl) (fun hh => kf (by first | simpa only [Int32.lt_iff_toInt_lt, z32] using hh | simpa [Int32.lt_iff_toInt_lt, z32] using hh) G p l e s m args below meth c H locs ls C hP hS hl)
theorem wa_ic_gtT {x y : Int32} {off : Int} (tgt : Nat) (hd : decode k.2.1 pc = .ok (.if_icmp .gt off, 3)) (ht : (pc : Int) + off = (tgt : Int)) (h : y.toInt < x.toInt) (kt : WA k d Q tgt lv st μ) : WA k d Q pc lv (.int y :: .int x :: st) μ := wa_ic_gt tgt hd ht (fun _ => kt) (fun hh => absurd h hh)
theorem wa_ic_gtF {x y : Int32} {off : Int} (tgt : Nat) (hd : decode k.2.1 pc = .ok (.if_icmp .gt off, 3)) (ht : (pc : Int) + off = (tgt : Int)) (h : ¬ y.toInt < x.toInt) (kf : WA k d Q (pc + 3) lv st μ) : WA k d Q pc lv (.int y :: .int x :: st) μ := wa_ic_gt tgt hd ht (fun hh => absurd hh h) (fun _ => kf)
theorem wa_if_le {x : Int32} {off : Int} (tgt : Nat) (hd : decode k.2.1 pc = .ok (.ifCond .le off, 3)) (ht : (pc : Int) + off = (tgt : Int)) (kt : x.toInt ≤ 0 → WA k d Q tgt lv st μ) (kf : ¬ x.toInt ≤ 0 → WA k d Q (pc + 3) lv st μ) : WA k d Q pc lv (.int x :: st) μ :=
  fun G p l e s m args below meth c H locs ls C hP hS hl => lv_if_le C.1 C.2.1 hd ht (fun hh => kt (by first | simpa only [Int32.le_iff_toInt_le, z32] using hh | simpa [Int32.le_iff_toInt_le, z32] using hh) G p l e s m args below meth c H locs ls C hP hS hl) (fun hh => kf (by first | simpa only [Int32.le_iff_toInt_le, z32] using hh | simpa [Int32.le_iff_toInt_le, z32] using hh) G p l e s m args below meth c H locs ls C hP hS hl)
theorem wa_if_leT {x : Int32} {off : Int} (tgt : Nat) (hd : decode k.2.1 pc = .ok (.ifCond .le off, 3)) (ht : (pc : Int) + off = (tgt : Int)) (h : x.toInt ≤ 0) (kt : WA k d Q tgt lv st μ) : WA k d Q pc lv (.int x :: st) μ := wa_if_le tgt hd ht (fun _ => kt) (fun hh => absurd h hh)
theorem wa_if_leF {x : Int32} {off : Int} (tgt : Nat) (hd : decode k.2.1 pc = .ok (.ifCond .le off, 3)) (ht : (pc : Int) + off = (tgt : Int)) (h : ¬ x.toInt ≤ 0) (kf : WA k d Q (pc + 3) lv st μ) : WA k d Q pc lv (.int x :: st) μ := wa_if_le tgt hd ht (fun hh => absurd hh h) (fun _ => kf)
theorem wa_ic_le {x y : Int32} {off : Int} (tgt : Nat) (hd : decode k.2.1 pc = .ok (.if_icmp .le off, 3)) (ht : (pc : Int) + off = (tgt : Int)) (kt : x.toInt ≤ y.toInt → WA k d Q tgt lv st μ) (kf : ¬ x.toInt ≤ y.toInt → WA k d Q (pc + 3) lv st μ) : WA k d Q pc lv (.int y :: .int x :: st) μ :=
  fun G p l e s m args below meth c H locs ls C hP hS hl => lv_icmp_le C.1 C.2.1 hd ht (fun hh => kt (by first | simpa only [Int32.le_iff_toInt_le, z32] using hh | simpa [Int32.le_iff_toInt_le, z32] using hh) G p l e s m args below meth c H locs ls C hP hS hl) (fun hh => kf (by first | simpa only [Int32.le_iff_toInt_le, z32] using hh | simpa [Int32.le_iff_toInt_le, z32] using hh) G p l e s m args below meth c H locs ls C hP hS hl)
theorem wa_ic_leT {x y : Int32} {off : Int} (tgt : Nat) (hd : decode k.2.1 pc = .ok (.if_icmp .le off, 3)) (ht : (pc : Int) + off = (tgt : Int)) (h : x.toInt ≤ y.toInt) (kt : WA k d Q tgt lv st μ) : WA k d Q pc lv (.int y :: .int x :: st) μ := wa_ic_le tgt hd ht (fun _ => kt) (fun hh => absurd h hh)
theorem wa_ic_leF {x y : Int32} {off : Int} (tgt : Nat) (hd : decode k.2.1 pc = .ok (.if_icmp .le off, 3)) (ht : (pc : Int) + off = (tgt : Int)) (h : ¬ x.toInt ≤ y.toInt) (kf : WA k d Q (pc + 3) lv st μ) : WA k d Q pc lv (.int y :: .int x :: st) μ := wa_ic_le tgt hd ht (fun hh => absurd hh h) (fun _ => kf)
theorem lgc_lt (x y : Int64) : (lg_cmp x y).toInt < 0 ↔ x.toInt < y.toInt := by
  unfold lg_cmp
  simp only [gt_iff_lt, Int64.lt_iff_toInt_lt, ← Int64.toInt_inj]
  have a1 : (1 : Int32).toInt = 1 := by decide
  have a2 : (-1 : Int32).toInt = -1 := by decide
  repeat' split
  all_goals first | rw [a1] | rw [a2] | rw [z32]
  all_goals omega
theorem lgc_eq (x y : Int64) : (lg_cmp x y).toInt = 0 ↔ x.toInt = y.toInt := by
  unfold lg_cmp
  simp only [gt_iff_lt, Int64.lt_iff_toInt_lt, ← Int64.toInt_inj]
  have a1 : (1 : Int32).toInt = 1 := by decide
  have a2 : (-1 : Int32).toInt = -1 := by decide
  repeat' split
  all_goals first | rw [a1] | rw [a2] | rw [z32]
  all_goals omega
theorem lgc_gt (x y : Int64) : 0 < (lg_cmp x y).toInt ↔ y.toInt < x.toInt := by
  unfold lg_cmp
  simp only [gt_iff_lt, Int64.lt_iff_toInt_lt, ← Int64.toInt_inj]
  have a1 : (1 : Int32).toInt = 1 := by decide
  have a2 : (-1 : Int32).toInt = -1 := by decide
  repeat' split
  all_goals first | rw [a1] | rw [a2] | rw [z32]
  all_goals omega
theorem lgc_ge (x y : Int64) : 0 ≤ (lg_cmp x y).toInt ↔ y.toInt ≤ x.toInt := by
  have := lgc_lt x y
  omega
theorem lgc_le (x y : Int64) : (lg_cmp x y).toInt ≤ 0 ↔ x.toInt ≤ y.toInt := by
  have := lgc_gt x y
  omega
theorem wa_lc_eq {x y : Int64} {off : Int} (tgt : Nat) (hd : decode k.2.1 pc = .ok (.lcmp, 1)) (hd2 : decode k.2.1 (pc + 1) = .ok (.ifCond .eq off, 3)) (ht : ((pc + 1 : Nat) : Int) + off = (tgt : Int)) (kt : x.toInt = y.toInt → WA k d Q tgt lv st μ) (kf : ¬ x.toInt = y.toInt → WA k d Q (pc + 4) lv st μ) : WA k d Q pc lv (.long y :: .long x :: st) μ :=
  wa_lcmp hd (wa_if_eq tgt hd2 ht (fun hh => kt (by rw [lgc_eq] at hh; exact hh)) (fun hh => kf (by rw [lgc_eq] at hh; exact hh)))
theorem wa_lc_eqT {x y : Int64} {off : Int} (tgt : Nat) (hd : decode k.2.1 pc = .ok (.lcmp, 1)) (hd2 : decode k.2.1 (pc + 1) = .ok (.ifCond .eq off, 3)) (ht : ((pc + 1 : Nat) : Int) + off = (tgt : Int)) (h : x.toInt = y.toInt) (kt : WA k d Q tgt lv st μ) : WA k d Q pc lv (.long y :: .long x :: st) μ := wa_lc_eq tgt hd hd2 ht (fun _ => kt) (fun hh => absurd h hh)
theorem wa_lc_eqF {x y : Int64} {off : Int} (tgt : Nat) (hd : decode k.2.1 pc = .ok (.lcmp, 1)) (hd2 : decode k.2.1 (pc + 1) = .ok (.ifCond .eq off, 3)) (ht : ((pc + 1 : Nat) : Int) + off = (tgt : Int)) (h : ¬ x.toInt = y.toInt) (kf : WA k d Q (pc + 4) lv st μ) : WA k d Q pc lv (.long y :: .long x :: st) μ := wa_lc_eq tgt hd hd2 ht (fun hh => absurd hh h) (fun _ => kf)
theorem wa_lc_ne {x y : Int64} {off : Int} (tgt : Nat) (hd : decode k.2.1 pc = .ok (.lcmp, 1)) (hd2 : decode k.2.1 (pc + 1) = .ok (.ifCond .ne off, 3)) (ht : ((pc + 1 : Nat) : Int) + off = (tgt : Int)) (kt : ¬ x.toInt = y.toInt → WA k d Q tgt lv st μ) (kf : ¬ ¬ x.toInt = y.toInt → WA k d Q (pc + 4) lv st μ) : WA k d Q pc lv (.long y :: .long x :: st) μ :=
  wa_lcmp hd (wa_if_ne tgt hd2 ht (fun hh => kt (by rw [lgc_eq] at hh; exact hh)) (fun hh => kf (by rw [lgc_eq] at hh; exact hh)))
theorem wa_lc_neT {x y : Int64} {off : Int} (tgt : Nat) (hd : decode k.2.1 pc = .ok (.lcmp, 1)) (hd2 : decode k.2.1 (pc + 1) = .ok (.ifCond .ne off, 3)) (ht : ((pc + 1 : Nat) : Int) + off = (tgt : Int)) (h : ¬ x.toInt = y.toInt) (kt : WA k d Q tgt lv st μ) : WA k d Q pc lv (.long y :: .long x :: st) μ := wa_lc_ne tgt hd hd2 ht (fun _ => kt) (fun hh => absurd h hh)
theorem wa_lc_neF {x y : Int64} {off : Int} (tgt : Nat) (hd : decode k.2.1 pc = .ok (.lcmp, 1)) (hd2 : decode k.2.1 (pc + 1) = .ok (.ifCond .ne off, 3)) (ht : ((pc + 1 : Nat) : Int) + off = (tgt : Int)) (h : ¬ ¬ x.toInt = y.toInt) (kf : WA k d Q (pc + 4) lv st μ) : WA k d Q pc lv (.long y :: .long x :: st) μ := wa_lc_ne tgt hd hd2 ht (fun hh => absurd hh h) (fun _ => kf)
theorem wa_lc_lt {x y : Int64} {off : Int} (tgt : Nat) (hd : decode k.2.1 pc = .ok (.lcmp, 1)) (hd2 : decode k.2.1 (pc + 1) = .ok (.ifCond .lt off, 3)) (ht : ((pc + 1 : Nat) : Int) + off = (tgt : Int)) (kt : x.toInt < y.toInt → WA k d Q tgt lv st μ) (kf : ¬ x.toInt < y.toInt → WA k d Q (pc + 4) lv st μ) : WA k d Q pc lv (.long y :: .long x :: st) μ :=
  wa_lcmp hd (wa_if_lt tgt hd2 ht (fun hh => kt (by rw [lgc_lt] at hh; exact hh)) (fun hh => kf (by rw [lgc_lt] at hh; exact hh)))
theorem wa_lc_ltT {x y : Int64} {off : Int} (tgt : Nat) (hd : decode k.2.1 pc = .ok (.lcmp, 1)) (hd2 : decode k.2.1 (pc + 1) = .ok (.ifCond .lt off, 3)) (ht : ((pc + 1 : Nat) : Int) + off = (tgt : Int)) (h : x.toInt < y.toInt) (kt : WA k d Q tgt lv st μ) : WA k d Q pc lv (.long y :: .long x :: st) μ := wa_lc_lt tgt hd hd2 ht (fun _ => kt) (fun hh => absurd h hh)
theorem wa_lc_ltF {x y : Int64} {off : Int} (tgt : Nat) (hd : decode k.2.1 pc = .ok (.lcmp, 1)) (hd2 : decode k.2.1 (pc + 1) = .ok (.ifCond .lt off, 3)) (ht : ((pc + 1 : Nat) : Int) + off = (tgt : Int)) (h : ¬ x.toInt < y.toInt) (kf : WA k d Q (pc + 4) lv st μ) : WA k d Q pc lv (.long y :: .long x :: st) μ := wa_lc_lt tgt hd hd2 ht (fun hh => absurd hh h) (fun _ => kf)
theorem wa_lc_ge {x y : Int64} {off : Int} (tgt : Nat) (hd : decode k.2.1 pc = .ok (.lcmp, 1)) (hd2 : decode k.2.1 (pc + 1) = .ok (.ifCond .ge off, 3)) (ht : ((pc + 1 : Nat) : Int) + off = (tgt : Int)) (kt : y.toInt ≤ x.toInt → WA k d Q tgt lv st μ) (kf : ¬ y.toInt ≤ x.toInt → WA k d Q (pc + 4) lv st μ) : WA k d Q pc lv (.long y :: .long x :: st) μ :=
  wa_lcmp hd (wa_if_ge tgt hd2 ht (fun hh => kt (by rw [lgc_ge] at hh; exact hh)) (fun hh => kf (by rw [lgc_ge] at hh; exact hh)))
theorem wa_lc_geT {x y : Int64} {off : Int} (tgt : Nat) (hd : decode k.2.1 pc = .ok (.lcmp, 1)) (hd2 : decode k.2.1 (pc + 1) = .ok (.ifCond .ge off, 3)) (ht : ((pc + 1 : Nat) : Int) + off = (tgt : Int)) (h : y.toInt ≤ x.toInt) (kt : WA k d Q tgt lv st μ) : WA k d Q pc lv (.long y :: .long x :: st) μ := wa_lc_ge tgt hd hd2 ht (fun _ => kt) (fun hh => absurd h hh)
theorem wa_lc_geF {x y : Int64} {off : Int} (tgt : Nat) (hd : decode k.2.1 pc = .ok (.lcmp, 1)) (hd2 : decode k.2.1 (pc + 1) = .ok (.ifCond .ge off, 3)) (ht : ((pc + 1 : Nat) : Int) + off = (tgt : Int)) (h : ¬ y.toInt ≤ x.toInt) (kf : WA k d Q (pc + 4) lv st μ) : WA k d Q pc lv (.long y :: .long x :: st) μ := wa_lc_ge tgt hd hd2 ht (fun hh => absurd hh h) (fun _ => kf)
theorem wa_lc_gt {x y : Int64} {off : Int} (tgt : Nat) (hd : decode k.2.1 pc = .ok (.lcmp, 1)) (hd2 : decode k.2.1 (pc + 1) = .ok (.ifCond .gt off, 3)) (ht : ((pc + 1 : Nat) : Int) + off = (tgt : Int)) (kt : y.toInt < x.toInt → WA k d Q tgt lv st μ) (kf : ¬ y.toInt < x.toInt → WA k d Q (pc + 4) lv st μ) : WA k d Q pc lv (.long y :: .long x :: st) μ :=
  wa_lcmp hd (wa_if_gt tgt hd2 ht (fun hh => kt (by rw [lgc_gt] at hh; exact hh)) (fun hh => kf (by rw [lgc_gt] at hh; exact hh)))
theorem wa_lc_gtT {x y : Int64} {off : Int} (tgt : Nat) (hd : decode k.2.1 pc = .ok (.lcmp, 1)) (hd2 : decode k.2.1 (pc + 1) = .ok (.ifCond .gt off, 3)) (ht : ((pc + 1 : Nat) : Int) + off = (tgt : Int)) (h : y.toInt < x.toInt) (kt : WA k d Q tgt lv st μ) : WA k d Q pc lv (.long y :: .long x :: st) μ := wa_lc_gt tgt hd hd2 ht (fun _ => kt) (fun hh => absurd h hh)
theorem wa_lc_gtF {x y : Int64} {off : Int} (tgt : Nat) (hd : decode k.2.1 pc = .ok (.lcmp, 1)) (hd2 : decode k.2.1 (pc + 1) = .ok (.ifCond .gt off, 3)) (ht : ((pc + 1 : Nat) : Int) + off = (tgt : Int)) (h : ¬ y.toInt < x.toInt) (kf : WA k d Q (pc + 4) lv st μ) : WA k d Q pc lv (.long y :: .long x :: st) μ := wa_lc_gt tgt hd hd2 ht (fun hh => absurd hh h) (fun _ => kf)
theorem wa_lc_le {x y : Int64} {off : Int} (tgt : Nat) (hd : decode k.2.1 pc = .ok (.lcmp, 1)) (hd2 : decode k.2.1 (pc + 1) = .ok (.ifCond .le off, 3)) (ht : ((pc + 1 : Nat) : Int) + off = (tgt : Int)) (kt : x.toInt ≤ y.toInt → WA k d Q tgt lv st μ) (kf : ¬ x.toInt ≤ y.toInt → WA k d Q (pc + 4) lv st μ) : WA k d Q pc lv (.long y :: .long x :: st) μ :=
  wa_lcmp hd (wa_if_le tgt hd2 ht (fun hh => kt (by rw [lgc_le] at hh; exact hh)) (fun hh => kf (by rw [lgc_le] at hh; exact hh)))
theorem wa_lc_leT {x y : Int64} {off : Int} (tgt : Nat) (hd : decode k.2.1 pc = .ok (.lcmp, 1)) (hd2 : decode k.2.1 (pc + 1) = .ok (.ifCond .le off, 3)) (ht : ((pc + 1 : Nat) : Int) + off = (tgt : Int)) (h : x.toInt ≤ y.toInt) (kt : WA k d Q tgt lv st μ) : WA k d Q pc lv (.long y :: .long x :: st) μ := wa_lc_le tgt hd hd2 ht (fun _ => kt) (fun hh => absurd h hh)
theorem wa_lc_leF {x y : Int64} {off : Int} (tgt : Nat) (hd : decode k.2.1 pc = .ok (.lcmp, 1)) (hd2 : decode k.2.1 (pc + 1) = .ok (.ifCond .le off, 3)) (ht : ((pc + 1 : Nat) : Int) + off = (tgt : Int)) (h : ¬ x.toInt ≤ y.toInt) (kf : WA k d Q (pc + 4) lv st μ) : WA k d Q pc lv (.long y :: .long x :: st) μ := wa_lc_le tgt hd hd2 ht (fun hh => absurd hh h) (fun _ => kf)
theorem wa_tsO {x : Int32} {dflt lo hi : Int} {offs : Array Int} {len : Nat} (tgt : Nat) (hd : decode k.2.1 pc = .ok (.tableswitch dflt lo hi offs, len)) (h : x.toInt < lo ∨ hi < x.toInt) (ht : (pc : Int) + dflt = (tgt : Int)) (kk : WA k d Q tgt lv st μ) : WA k d Q pc lv (.int x :: st) μ :=
  fun G p l e s m args below meth c H locs ls C hP hS hl => lv_tableOut C.1 C.2.1 hd h ht (kk G p l e s m args below meth c H locs ls C hP hS hl)
theorem wa_tsI {x : Int32} {dflt lo hi : Int} {offs : Array Int} {len : Nat} {off : Int} (tgt : Nat) (v : Int) (hd : decode k.2.1 pc = .ok (.tableswitch dflt lo hi offs, len)) (hv : x.toInt = v) (h1 : ¬ v < lo) (h2 : ¬ hi < v) (ho : offs[(v - lo).toNat]? = some off) (ht : (pc : Int) + off = (tgt : Int)) (kk : WA k d Q tgt lv st μ) : WA k d Q pc lv (.int x :: st) μ :=
  fun G p l e s m args below meth c H locs ls C hP hS hl => lv_tableIn C.1 C.2.1 hd (by rw [hv]; exact h1) (by rw [hv]; exact h2) (by rw [hv]; exact ho) ht (kk G p l e s m args below meth c H locs ls C hP hS hl)
theorem wa_ls {x : Int32} {dflt : Int} {ps : Array (Int × Int)} {len : Nat} {off : Int} (tgt : Nat) (hd : decode k.2.1 pc = .ok (.lookupswitch dflt ps, len)) (hp : (ps.toList.zip (ps.toList.drop 1)).all (fun (a, next) => a.1 < next.1) = true) (ho : Op.lookupswitch.offset ps.toList dflt x.toInt = off) (ht : (pc : Int) + off = (tgt : Int)) (kk : WA k d Q tgt lv st μ) : WA k d Q pc lv (.int x :: st) μ :=
  fun G p l e s m args below meth c H locs ls C hP hS hl => lv_lookup C.1 C.2.1 hd hp ho ht (kk G p l e s m args below meth c H locs ls C hP hS hl)
theorem wa_iret {x : Int32} {lvx : List (Option Value)} (hd : decode k.2.1 pc = .ok (.ireturn, 1)) (hr : k.2.2.2 = some .int) (hq : Q (some (.int x)) μ) : WA k d Q pc lvx [.int x] μ :=
  fun G p l e s m args below meth c H locs ls C hP hS hl => W.iret (v := x) C.1 C.2.1 (C.2.2.1.trans hr) (fun t ht hW => ⟨⟨some (.int x), μ, rfl, ⟨hq, by rw [hr]; exact ⟨x, rfl⟩⟩, by rw [ht]; exact hP⟩, hS.F ht⟩) hS.2.2 hd C.2.2.2.2.2.1
theorem wa_zret {x : Int32} {lvx : List (Option Value)} (hd : decode k.2.1 pc = .ok (.ireturn, 1)) (hr : k.2.2.2 = some .boolean) (hx : x &&& 1 = x) (hq : Q (some (.int x)) μ) : WA k d Q pc lvx [.int x] μ :=
  fun G p l e s m args below meth c H locs ls C hP hS hl => W.zret (v := x) C.1 C.2.1 (C.2.2.1.trans hr) (by show Value.int (x &&& 1) = _; rw [hx]) (fun t ht hW => ⟨⟨some (.int x), μ, rfl, ⟨hq, by rw [hr]; exact trivial⟩, by rw [ht]; exact hP⟩, hS.F ht⟩) hS.2.2 hd C.2.2.2.2.2.1
theorem wa_lret {x : Int64} {lvx : List (Option Value)} (hd : decode k.2.1 pc = .ok (.lreturn, 1)) (hr : k.2.2.2 = some .long) (hq : Q (some (.long x)) μ) : WA k d Q pc lvx [.long x] μ :=
  fun G p l e s m args below meth c H locs ls C hP hS hl => W.lret (v := x) C.1 C.2.1 (C.2.2.1.trans hr) (fun t ht hW => ⟨⟨some (.long x), μ, rfl, ⟨hq, by rw [hr]; exact ⟨x, rfl⟩⟩, by rw [ht]; exact hP⟩, hS.F ht⟩) hS.2.2 hd C.2.2.2.2.2.1
theorem wa_vret {lvx : List (Option Value)} (hd : decode k.2.1 pc = .ok (.return_, 1)) (hr : k.2.2.2 = none) (hq : Q none μ) : WA k d Q pc lvx [] μ :=
  fun G p l e s m args below meth c H locs ls C hP hS hl => W.vret C.1 C.2.1 (C.2.2.1.trans hr) (fun t ht hW => ⟨⟨none, μ, rfl, ⟨hq, by rw [hr]; exact trivial⟩, by rw [ht]; exact hP⟩, hS.F ht⟩) hS.2.2 hd C.2.2.2.2.2.1
/-- a field's words: read; written -/
def fG (own : String) (idx ci j : Nat) : Prop := ∃ (C : String) (T : u_T) (N : Nat), vwCl[ci]? = some (C, T, N) ∧ (∀ w ∈ u_ws C T N, w ∈ wT) ∧ j < N ∧ Cond.fieldLink own idx (T j).1 (T j).2.1 (T j).2.2.1 ∈ wT
def fW (ci j : Nat) (ty : FieldType) : Prop := ∃ (C : String) (T : u_T) (N : Nat) (ty0 : Nat → FieldType), vwCl[ci]? = some (C, T, N) ∧ (∀ i, i < N → parseFieldDescriptor (T i).2.2.1 = some (ty0 i)) ∧ (∀ a, a < N → ∀ b, b < N → a ≠ b → (T a).2.1 ≠ (T b).2.1) ∧ (T j).2.2.2 = false ∧ parseFieldDescriptor (T j).2.2.1 = some ty
theorem wa_getI {t ci j idx : Nat} {sl : List Value} {z : Int32} (hd : decode k.2.1 pc = .ok (.getfield idx, 3)) (hf : fG k.1.cls idx ci j) (hsh : shp t = .inr (ci, sl)) (hj : sl[j]? = some (.int z)) (kk : WA k d Q (pc + 3) lv (.int (μ.1 t j) :: st) μ) : WA k d Q pc lv (.ref t :: st) μ := by
  intro G p l e s m args below meth c H locs ls C hP hS hl
  obtain ⟨Cn, T, N, hc, hin, hjN, hlk⟩ := hf
  exact va_get (v := .int (μ.1 t j)) C.1 C.2.1 C.2.2.2.1 (fun w h => List.mem_cons_of_mem _ (hin w h)) C.2.2.2.2.1 C.2.2.2.2.2.2.2.2.1 hP t (ws_r hsh) hc j hjN (C.2.2.2.1 _ (List.mem_cons_of_mem _ hlk)) (fun _ h => h) (fsOf_get hj) hd (kk G p l e s m args below meth c H locs ls C hP hS hl)
theorem wa_getL {t ci j idx : Nat} {sl : List Value} {z : Int64} (hd : decode k.2.1 pc = .ok (.getfield idx, 3)) (hf : fG k.1.cls idx ci j) (hsh : shp t = .inr (ci, sl)) (hj : sl[j]? = some (.long z)) (kk : WA k d Q (pc + 3) lv (.long (μ.2 t j) :: st) μ) : WA k d Q pc lv (.ref t :: st) μ := by
  intro G p l e s m args below meth c H locs ls C hP hS hl
  obtain ⟨Cn, T, N, hc, hin, hjN, hlk⟩ := hf
  exact va_get (v := .long (μ.2 t j)) C.1 C.2.1 C.2.2.2.1 (fun w h => List.mem_cons_of_mem _ (hin w h)) C.2.2.2.2.1 C.2.2.2.2.2.2.2.2.1 hP t (ws_r hsh) hc j hjN (C.2.2.2.1 _ (List.mem_cons_of_mem _ hlk)) (fun _ h => h) (fsOf_get hj) hd (kk G p l e s m args below meth c H locs ls C hP hS hl)
theorem wa_getR {t ci j idx u : Nat} {sl : List Value} (hd : decode k.2.1 pc = .ok (.getfield idx, 3)) (hf : fG k.1.cls idx ci j) (hsh : shp t = .inr (ci, sl)) (hj : sl[j]? = some (.ref u)) (kk : WA k d Q (pc + 3) lv (.ref u :: st) μ) : WA k d Q pc lv (.ref t :: st) μ := by
  intro G p l e s m args below meth c H locs ls C hP hS hl
  obtain ⟨Cn, T, N, hc, hin, hjN, hlk⟩ := hf
  exact va_get (v := .ref (G.2.1 u)) C.1 C.2.1 C.2.2.2.1 (fun w h => List.mem_cons_of_mem _ (hin w h)) C.2.2.2.2.1 C.2.2.2.2.2.2.2.2.1 hP t (ws_r hsh) hc j hjN (C.2.2.2.1 _ (List.mem_cons_of_mem _ hlk)) (fun _ h => h) (fsOf_get hj) hd (kk G p l e s m args below meth c H locs ls C hP hS hl)
theorem wa_putX {t ci j idx : Nat} {sl : List Value} {x z : Int32} {ty : FieldType} (hd : decode k.2.1 pc = .ok (.putfield idx, 3)) (hf : fG k.1.cls idx ci j) (hw : fW ci j ty) (hn : narrow ty (.int x) = .int x) (hfit : fits ty (.int x) = true) (hsh : shp t = .inr (ci, sl)) (hj : sl[j]? = some (.int z)) (kk : WA k d Q (pc + 3) lv st (sI μ t j x)) : WA k d Q pc lv (.int x :: .ref t :: st) μ := by
  intro G p l e s m args below meth c H locs ls C hP hS hl
  obtain ⟨Cn, T, N, hc, hin, hjN, hlk⟩ := hf
  obtain ⟨Cn', T', N', ty0, hc', hty, hnm, hfin, hpt⟩ := hw
  cases hc.symm.trans hc'
  refine va_put (v := .int x) (ty := ty) C.1 C.2.1 C.2.2.2.1 (fun w h => List.mem_cons_of_mem _ (hin w h)) ty0 hty hnm C.2.2.2.2.1 C.2.2.2.2.2.2.2.2.1 hP C.2.2.2.2.2.2.2.1.D hS t (ws_r hsh) hc j hjN (C.2.2.2.1 _ (List.mem_cons_of_mem _ hlk)) (fun _ h => h) hfin hpt hn hfit (by rw [fsOf_len]; exact (List.getElem?_eq_some_iff.mp hj).1) hd (fun H1 locs1 hP1 _ hS1 => ?_)
  rw [ws_setI hsh hj] at hP1
  exact kk G p l e s m args below meth c H1 locs1 ls C hP1 hS1 hl
theorem wa_putI {t ci j idx : Nat} {sl : List Value} {x z : Int32} (hd : decode k.2.1 pc = .ok (.putfield idx, 3)) (hf : fG k.1.cls idx ci j) (hw : fW ci j .int) (hsh : shp t = .inr (ci, sl)) (hj : sl[j]? = some (.int z)) (kk : WA k d Q (pc + 3) lv st (sI μ t j x)) : WA k d Q pc lv (.int x :: .ref t :: st) μ := wa_putX hd hf hw rfl rfl hsh hj kk
theorem wa_putZ {t ci j idx : Nat} {sl : List Value} {x z : Int32} (hd : decode k.2.1 pc = .ok (.putfield idx, 3)) (hf : fG k.1.cls idx ci j) (hw : fW ci j .boolean) (hsh : shp t = .inr (ci, sl)) (hj : sl[j]? = some (.int z)) (hx : x = nI 0 ∨ x = nI 1) (kk : WA k d Q (pc + 3) lv st (sI μ t j x)) : WA k d Q pc lv (.int x :: .ref t :: st) μ := by
  refine wa_putX hd hf hw ?_ ?_ hsh hj kk <;> rcases hx with rfl | rfl <;> rfl
theorem wa_putL {t ci j idx : Nat} {sl : List Value} {x z : Int64} (hd : decode k.2.1 pc = .ok (.putfield idx, 3)) (hf : fG k.1.cls idx ci j) (hw : fW ci j .long) (hsh : shp t = .inr (ci, sl)) (hj : sl[j]? = some (.long z)) (kk : WA k d Q (pc + 3) lv st (sL μ t j x)) : WA k d Q pc lv (.long x :: .ref t :: st) μ := by
  intro G p l e s m args below meth c H locs ls C hP hS hl
  obtain ⟨Cn, T, N, hc, hin, hjN, hlk⟩ := hf
  obtain ⟨Cn', T', N', ty0, hc', hty, hnm, hfin, hpt⟩ := hw
  cases hc.symm.trans hc'
  refine va_put (v := .long x) (ty := .long) C.1 C.2.1 C.2.2.2.1 (fun w h => List.mem_cons_of_mem _ (hin w h)) ty0 hty hnm C.2.2.2.2.1 C.2.2.2.2.2.2.2.2.1 hP C.2.2.2.2.2.2.2.1.D hS t (ws_r hsh) hc j hjN (C.2.2.2.1 _ (List.mem_cons_of_mem _ hlk)) (fun _ h => h) hfin hpt rfl rfl (by rw [fsOf_len]; exact (List.getElem?_eq_some_iff.mp hj).1) hd (fun H1 locs1 hP1 _ hS1 => ?_)
  rw [ws_setL hsh hj] at hP1
  exact kk G p l e s m args below meth c H1 locs1 ls C hP1 hS1 hl
theorem wa_iald {t n : Nat} {i : Int32} (j : Nat) (hd : decode k.2.1 pc = .ok (.iaload, 1)) (hsh : shp t = .inl (1, n)) (hi : i = nI j) (hj : j < n) (kk : WA k d Q (pc + 1) lv (.int (μ.1 t j) :: st) μ) : WA k d Q pc lv (.int i :: .ref t :: st) μ := by
  intro G p l e s m args below meth c H locs ls C hP hS hl
  have hn := shp_n hsh
  have e2 : (nI j).toNatClampNeg = j := nI_clamp (by omega)
  subst hi
  refine va_iald C.1 C.2.1 C.2.2.2.2.2.2.2.2.1 hP t 1 (ws_aI hsh (by omega)) rfl (vp_in_nI hj (by omega)) hd ?_
  rw [e2]
  exact kk G p l e s m args below meth c H locs ls C hP hS hl
theorem wa_zald {t n : Nat} {i : Int32} (j : Nat) (hd : decode k.2.1 pc = .ok (.baload, 1)) (hsh : shp t = .inl (0, n)) (hi : i = nI j) (hj : j < n) (kk : WA k d Q (pc + 1) lv (.int (μ.1 t j) :: st) μ) : WA k d Q pc lv (.int i :: .ref t :: st) μ := by
  intro G p l e s m args below meth c H locs ls C hP hS hl
  have hn := shp_n hsh
  have e2 : (nI j).toNatClampNeg = j := nI_clamp (by omega)
  subst hi
  refine va_zald C.1 C.2.1 C.2.2.2.2.2.2.2.2.1 hP t 0 (ws_aI hsh (by omega)) rfl (vp_in_nI hj (by omega)) hd ?_
  rw [e2]
  exact kk G p l e s m args below meth c H locs ls C hP hS hl
theorem wa_lald {t n : Nat} {i : Int32} (j : Nat) (hd : decode k.2.1 pc = .ok (.laload, 1)) (hsh : shp t = .inl (2, n)) (hi : i = nI j) (hj : j < n) (kk : WA k d Q (pc + 1) lv (.long (μ.2 t j) :: st) μ) : WA k d Q pc lv (.int i :: .ref t :: st) μ := by
  intro G p l e s m args below meth c H locs ls C hP hS hl
  have hn := shp_n hsh
  have e2 : (nI j).toNatClampNeg = j := nI_clamp (by omega)
  subst hi
  refine va_lald C.1 C.2.1 C.2.2.2.2.2.2.2.2.1 hP t 2 (ws_aL hsh) rfl (vp_in_nI hj (by omega)) hd ?_
  rw [e2]
  exact kk G p l e s m args below meth c H locs ls C hP hS hl
theorem wa_aalS {t n : Nat} {i : Int32} (j : Nat) (hd : decode k.2.1 pc = .ok (.aaload, 1)) (hsh : shp t = .inl (3, n)) (hi : i = nI j) (hj : j < n) (kk : WA k d Q (pc + 1) lv (.ref (arf t j) :: st) μ) : WA k d Q pc lv (.int i :: .ref t :: st) μ := by
  intro G p l e s m args below meth c H locs ls C hP hS hl
  have hn := shp_n hsh
  have e2 : (nI j).toNatClampNeg = j := nI_clamp (by omega)
  subst hi
  refine va_aldq C.1 C.2.1 C.2.2.2.2.2.2.2.2.1 hP t 3 (ws_aR hsh (by omega) (by omega)) rfl (vp_in_nI hj (by omega)) hd ?_
  rw [e2]
  exact kk G p l e s m args below meth c H locs ls C hP hS hl
theorem wa_aalR {t n : Nat} {i : Int32} (j : Nat) (hd : decode k.2.1 pc = .ok (.aaload, 1)) (hsh : shp t = .inl (4, n)) (hi : i = nI j) (hj : j < n) (kk : WA k d Q (pc + 1) lv (.ref (arf t j) :: st) μ) : WA k d Q pc lv (.int i :: .ref t :: st) μ := by
  intro G p l e s m args below meth c H locs ls C hP hS hl
  have hn := shp_n hsh
  have e2 : (nI j).toNatClampNeg = j := nI_clamp (by omega)
  subst hi
  refine va_aldq C.1 C.2.1 C.2.2.2.2.2.2.2.2.1 hP t 4 (ws_aR hsh (by omega) (by omega)) rfl (vp_in_nI hj (by omega)) hd ?_
  rw [e2]
  exact kk G p l e s m args below meth c H locs ls C hP hS hl
theorem wa_iast {t n : Nat} {i : Int32} {x : Int32} (j : Nat) (hd : decode k.2.1 pc = .ok (.iastore, 1)) (hsh : shp t = .inl (1, n)) (hi : i = nI j) (hj : j < n) (kk : WA k d Q (pc + 1) lv st (sI μ t j x)) : WA k d Q pc lv (.int x :: .int i :: .ref t :: st) μ := by
  intro G p l e s m args below meth c H locs ls C hP hS hl
  have hn := shp_n hsh
  have e2 : (nI j).toNatClampNeg = j := nI_clamp (by omega)
  subst hi
  refine va_iast C.1 C.2.1 C.2.2.2.2.2.2.2.2.1 hP C.2.2.2.2.2.2.2.1.D hS t 1 (ws_aI hsh (by omega)) rfl (vp_in_nI hj (by omega)) hd (fun H1 locs1 hP1 _ hS1 => ?_)
  rw [e2, ws_bI hsh (by omega), sI_bI] at hP1
  exact kk G p l e s m args below meth c H1 locs1 ls C hP1 hS1 hl
theorem wa_zast {t n : Nat} {i : Int32} {x : Int32} (j : Nat) (hd : decode k.2.1 pc = .ok (.bastore, 1)) (hsh : shp t = .inl (0, n)) (hi : i = nI j) (hj : j < n) (hx : x = nI 0 ∨ x = nI 1) (kk : WA k d Q (pc + 1) lv st (sI μ t j x)) : WA k d Q pc lv (.int x :: .int i :: .ref t :: st) μ := by
  intro G p l e s m args below meth c H locs ls C hP hS hl
  have hn := shp_n hsh
  have e2 : (nI j).toNatClampNeg = j := nI_clamp (by omega)
  subst hi
  refine va_zast C.1 C.2.1 C.2.2.2.2.2.2.2.2.1 hP C.2.2.2.2.2.2.2.1.D hS t 0 (ws_aI hsh (by omega)) rfl (vp_in_nI hj (by omega)) hd (fun H1 locs1 hP1 _ hS1 => ?_)
  rw [e2, show vp_nar .boolean x = x by rcases hx with rfl | rfl <;> rfl, ws_bI hsh (by omega), sI_bI] at hP1
  exact kk G p l e s m args below meth c H1 locs1 ls C hP1 hS1 hl
theorem wa_last {t n : Nat} {i : Int32} {x : Int64} (j : Nat) (hd : decode k.2.1 pc = .ok (.lastore, 1)) (hsh : shp t = .inl (2, n)) (hi : i = nI j) (hj : j < n) (kk : WA k d Q (pc + 1) lv st (sL μ t j x)) : WA k d Q pc lv (.long x :: .int i :: .ref t :: st) μ := by
  intro G p l e s m args below meth c H locs ls C hP hS hl
  have hn := shp_n hsh
  have e2 : (nI j).toNatClampNeg = j := nI_clamp (by omega)
  subst hi
  refine va_last C.1 C.2.1 C.2.2.2.2.2.2.2.2.1 hP C.2.2.2.2.2.2.2.1.D hS t 2 (ws_aL hsh) rfl (vp_in_nI hj (by omega)) hd (fun H1 locs1 hP1 _ hS1 => ?_)
  rw [e2, ws_bL hsh, sL_bL] at hP1
  exact kk G p l e s m args below meth c H1 locs1 ls C hP1 hS1 hl
theorem wa_alenI {t n : Nat} (hd : decode k.2.1 pc = .ok (.arraylength, 1)) (hsh : shp t = .inl (1, n)) (kk : WA k d Q (pc + 1) lv (.int (nI n) :: st) μ) : WA k d Q pc lv (.ref t :: st) μ := by
  intro G p l e s m args below meth c H locs ls C hP hS hl
  exact va_alen C.1 C.2.1 C.2.2.2.2.2.2.2.2.1 hP t 1 (ws_aI hsh (by omega)) rfl rfl hd (kk G p l e s m args below meth c H locs ls C hP hS hl)
/-- a call's words -/
def lkC (k' : MK) (n : Nat) : Prop := Cond.initialized k'.1.cls ∈ wT ∧ Cond.code k'.1 k'.2.1 k'.2.2.1 k'.2.2.2 ∈ wT ∧ k'.1.cls ≠ "java/lang/invoke/MethodHandle" ∧ k'.1.cls ≠ "java/lang/invoke/VarHandle" ∧ (parseMethodDescriptor k'.1.desc).map (fun q => q.parameters.length) = some n
def lkV (k' : MK) (n : Nat) : Prop := lkC k' n ∧ Cond.instanceMethod k'.1 ∈ wT ∧ Cond.selects k'.1.cls k'.1 k'.1 ∈ wT
def lkS (k' : MK) (n : Nat) : Prop := lkC k' n ∧ Cond.static k'.1 ∈ wT
theorem wT_good {w : Cond} (h : w ∈ wT) : (w.onTables && w.keeps) = true ∨ ∃ ty, w = .arrayClass ty := good_of_word (List.mem_filter.mp h).2
theorem wsM_good (h : Cond.code k'.1 k'.2.1 k'.2.2.1 k'.2.2.2 ∈ wT) : GoodIn (wsM k) (wsM k') := by
  intro w hw
  rcases List.mem_cons.mp hw with rfl | hw
  · exact ⟨List.mem_cons_of_mem _ h, wT_good h⟩
  · exact ⟨List.mem_cons_of_mem _ hw, wT_good hw⟩
theorem good_app {big a b : List Cond} (ha : ∀ w ∈ a, w ∈ wT) (hw : ∀ w ∈ wT, w ∈ big) (hb : GoodIn big b) : GoodIn big (a ++ b) := by
  intro w h
  rcases List.mem_append.mp h with h | h
  · exact ⟨hw w (ha w h), wT_good (ha w h)⟩
  · exact hb w h
theorem wa_run {G : WG} {p : Program} {l : Launch} {e : Env} {R : Room} {s : State} {m : MethodId} {args : Array Value} {below : List Frame} {meth : Method} {c : Code} {H : Heap} {locs : List Loc} {cells slots : Nat} {QQ : State → Prop} {ls : Array Slot} {st0 rest : List Value} {a : Array Value} {Q' : QM} {pc : Nat}
    (hr : va_Run p l e R s m args below meth c H locs cells slots 0 0 (F0 m pc ls st0) rest (wQ G Q' H.size a) (wA G H.size)) (hS : va_S (wA G s.heap.size) s.heap H locs)
    (kk : ∀ (r : Option Value) (μ' : Mem) (H1 : Heap) (locs1 : List Loc), Q' r μ' → wP G μ' H1 → va_S (wA G s.heap.size) s.heap H1 locs1 → W p l e R s m args below meth c H1 locs1 cells slots QQ (F0 m (pc + 3) ls ((r.map (trV G)).toList ++ rest))) : W p l e R s m args below meth c H locs cells slots QQ (F0 m pc ls st0) := by
  intro T hT X
  obtain ⟨v, st₀, t, T', L, h0, X', hL, e1, e2, ⟨⟨r, μ', hv, hq, hp⟩, hz, hk⟩, st⟩ := hr T hT X
  cases hv
  rw [h0] at hz hk
  have hm : ∀ q, wA G H.size q → wA G s.heap.size q := fun q h => wA_mono hS.1 h
  obtain ⟨t2, a1, b1⟩ := kk r μ' T'.heap (locs ++ L) hq (by rw [e1]; exact hp)
    ⟨Nat.le_trans hS.1 (by rw [e1]; exact hz), fun q h1 h2 => by rw [e1, hk q (Nat.lt_of_lt_of_le h1 hS.1) (fun z => h2 (hm q z))]; exact hS.2.1 q h1 h2, fun q hq => by
      rcases List.mem_append.mp hq with h | h
      · exact hS.2.2 q h
      · exact hm _ (hL q h)⟩ T' rfl X'
  exact ⟨t2, st t2 a1, b1⟩
theorem toL_map (G : WG) (r : Option Value) (rest : List Value) : (r.map (trV G)).toList ++ rest.map (trV G) = (r.toList ++ rest).map (trV G) := by cases r <;> rfl
def catS : List Value → Nat
  | [] => 0
  | v :: vs => v.category + catS vs
theorem catS_eq (G : WG) : ∀ (vs : List Value), ((vs.map (trV G)).map fun v => v.category).sum = catS vs
  | [] => rfl
  | v :: vs => by
    have := catS_eq G vs
    simp only [List.map_cons, List.sum_cons, trV_cat, catS]
    omega
theorem blind_pc {G : WG} {vs : List Value} {sz : Nat} : FrameBlind (va_Pc (vs.map (trV G)) (fun U => U.heap.size = sz ∧ wP G μ U.heap ∧ wK G U)) := fun a U g mk q => by
  obtain ⟨q0, q1, q2, q3⟩ := q
  exact ⟨q0, q1, q2, q3.calling⟩
theorem wa_callV {t ci n idx : Nat} {as rest : List Value} {sl : List Value} {stk : List Value} (hd : decode k.2.1 pc = .ok (.invokevirtual idx, 3)) (hlink : Cond.methodLink k.1.cls idx k'.1 ∈ wT) (hk : lkV k' n) (hsh : shp t = .inr (ci, sl)) (hcl : (vwCl[ci]?).map (fun q => q.1) = some k'.1.cls) (hml : k'.2.2.1 ≤ 21) (hdd : d' + 1 ≤ d) (hst : stk = as.reverse ++ .ref t :: rest) (hlen : as.length = n) (hcat : catS rest ≤ 8) (hM : MW k' d' (.ref t :: as) μ (fun r μ' => WA k d Q (pc + 3) lv (r.toList ++ rest) μ')) : WA k d Q pc lv stk μ := by
  intro G p l e s m args below meth c H locs ls C hP hS hl
  obtain ⟨⟨h1, h2, h3, h4, h5⟩, h6, h7⟩ := hk
  have hts := C.2.2.2.1
  have hK := C.2.2.2.2.2.2.2.2
  subst hst
  have hbig : ∀ w ∈ wT, w ∈ wsM k := fun w h => List.mem_cons_of_mem _ h
  have hG : GoodIn (wsM k) (wsV k.1.cls idx k'.1.cls k'.1 (wsM k')) := good_app (fun w hw => by
    simp only [List.mem_cons, List.not_mem_nil, or_false] at hw
    rcases hw with rfl | rfl | rfl | rfl <;> assumption) hbig (wsM_good h2)
  obtain ⟨qc, hqc, hqn⟩ : ∃ qc : vw_C, vwCl[ci]? = some qc ∧ qc.1 = k'.1.cls := by
    cases hv : vwCl[ci]? with
    | none => rw [hv] at hcl; cases hcl
    | some qc => rw [hv] at hcl; exact ⟨qc, rfl, Option.some.inj hcl⟩
  have hrun := va_runV (l := l) (e := e) (below := below) (meth := meth) (locs := locs) (cells := 0) (slots := 0) (R := rmD d) (ret := k'.2.2.2) (As := as.map (trV G)) (rest := rest.map (trV G)) (g := F0 m pc ls ((as.reverse ++ .ref t :: rest).map (trV G))) (b := G.2.1 t) ⟨C.1, C.2.1, C.2.2.2.2.2.2.1, C.2.2.2.2.1, hts⟩ (hM l G H.size C.2.2.2.2.2.2.2.1)
    (cwV n hts hG rfl rfl rfl ⟨rfl, h3, h4, h5⟩ ⟨hdd, by show 8 + (k'.2.2.1 + 11) + 40 * d' ≤ 40 * d; omega⟩)
    ⟨blind_pc, by have := va_recv hK.1 hP hqc (ws_r hsh); rw [hqn] at this; exact this, fun U hU hW => ⟨rfl, by rw [hU], by rw [hU]; exact hP, hK.warm hW⟩⟩
    rfl (by rw [List.length_map]; exact hlen) hl.1 (by simp [trV]) (lv_room (by rw [catS_eq]; exact hcat)) hd ⟨Nat.zero_le _, Nat.zero_le _⟩
  refine wa_run hrun hS (fun r μ' H1 locs1 hq hP1 hS1 => ?_)
  rw [toL_map]
  exact hq.1 G p l e s m args below meth c H1 locs1 ls C hP1 hS1 hl
theorem wa_callS {n idx : Nat} {as rest : List Value} {stk : List Value} (hd : decode k.2.1 pc = .ok (.invokestatic idx, 3)) (hlink : Cond.methodLink k.1.cls idx k'.1 ∈ wT) (hk : lkS k' n) (hml : k'.2.2.1 ≤ 21) (hdd : d' + 1 ≤ d) (hst : stk = as.reverse ++ rest) (hlen : as.length = n) (hcat : catS rest ≤ 8) (hM : MW k' d' as μ (fun r μ' => WA k d Q (pc + 3) lv (r.toList ++ rest) μ')) : WA k d Q pc lv stk μ := by
  intro G p l e s m args below meth c H locs ls C hP hS hl
  obtain ⟨⟨h1, h2, h3, h4, h5⟩, h6⟩ := hk
  have hts := C.2.2.2.1
  have hK := C.2.2.2.2.2.2.2.2
  subst hst
  have hbig : ∀ w ∈ wT, w ∈ wsM k := fun w h => List.mem_cons_of_mem _ h
  have hG : GoodIn (wsM k) (va_wsS k.1.cls idx k'.1 (wsM k')) := good_app (fun w hw => by
    simp only [List.mem_cons, List.not_mem_nil, or_false] at hw
    rcases hw with rfl | rfl | rfl <;> assumption) hbig (wsM_good h2)
  have hrun := va_runS (l := l) (e := e) (below := below) (meth := meth) (locs := locs) (cells := 0) (slots := 0) (R := rmD d) (ret := k'.2.2.2) (As := as.map (trV G)) (rest := rest.map (trV G)) (g := F0 m pc ls ((as.reverse ++ rest).map (trV G))) ⟨C.1, C.2.1, C.2.2.2.2.2.2.1, C.2.2.2.2.1, hts⟩ (hM l G H.size C.2.2.2.2.2.2.2.1)
    (va_cwS n hts hG rfl rfl rfl ⟨h3, h4, h5⟩ ⟨hdd, by show 8 + (k'.2.2.1 + 11) + 40 * d' ≤ 40 * d; omega⟩)
    ⟨blind_pc, fun U hU hW => ⟨rfl, by rw [hU], by rw [hU]; exact hP, hK.warm hW⟩⟩
    rfl (by rw [List.length_map]; exact hlen) hl.1 (by simp) (lv_room (by rw [catS_eq]; exact hcat)) hd ⟨Nat.zero_le _, Nat.zero_le _⟩
  refine wa_run hrun hS (fun r μ' H1 locs1 hq hP1 hS1 => ?_)
  rw [toL_map]
  exact hq.1 G p l e s m args below meth c H1 locs1 ls C hP1 hS1 hl
/-- the one private static across the nest -/
theorem wa_callN {as rest : List Value} {stk : List Value} (hown : k.1.cls = RX2) (hd : decode k.2.1 pc = .ok (.invokestatic 79, 3)) (hy : k'.1 = yX5_isWithin) (hk : lkS k' 2) (hml : k'.2.2.1 ≤ 21) (hdd : d' + 1 ≤ d) (hst : stk = as.reverse ++ rest) (hlen : as.length = 2) (hcat : catS rest ≤ 8) (hM : MW k' d' as μ (fun r μ' => WA k d Q (pc + 3) lv (r.toList ++ rest) μ')) : WA k d Q pc lv stk μ := by
  intro G p l e s m args below meth c H locs ls C hP hS hl
  obtain ⟨⟨h1, h2, h3, h4, h5⟩, h6⟩ := hk
  have hts := C.2.2.2.1
  have hK := C.2.2.2.2.2.2.2.2
  subst hst
  have hn : va_Nw (.methodLinkNest k.1.cls 79 k'.1 RX5) s := by rw [hown, hy]; exact hK.2
  have hrun := va_runSN (l := l) (e := e) (below := below) (meth := meth) (locs := locs) (cells := 0) (slots := 0) (R := rmD d) (ret := k'.2.2.2) (As := as.map (trV G)) (rest := rest.map (trV G)) (g := F0 m pc ls ((as.reverse ++ rest).map (trV G))) ⟨C.1, C.2.1, C.2.2.2.2.2.2.1, C.2.2.2.2.1, hts⟩ (hM l G H.size C.2.2.2.2.2.2.2.1)
    ⟨va_cnB 2 hts (wsM_good h2) rfl rfl rfl hn (hts _ (List.mem_cons_of_mem _ h1)) ⟨h3, h4, h5⟩ ⟨hdd, by show 8 + (k'.2.2.1 + 11) + 40 * d' ≤ 40 * d; omega⟩, hts _ (List.mem_cons_of_mem _ h6), trivial⟩
    ⟨blind_pc, fun U hU hW => ⟨rfl, by rw [hU], by rw [hU]; exact hP, hK.warm hW⟩⟩
    rfl (by rw [List.length_map]; exact hlen) hl.1 (by simp) (lv_room (by rw [catS_eq]; exact hcat)) hd ⟨Nat.zero_le _, Nat.zero_le _⟩
  refine wa_run hrun hS (fun r μ' H1 locs1 hq hP1 hS1 => ?_)
  rw [toL_map]
  exact hq.1 G p l e s m args below meth c H1 locs1 ls C hP1 hS1 hl
def lkA (own : String) (idx : Nat) : Prop := Cond.methodLink own idx arraycopyName ∈ wT ∧ Cond.native arraycopyName ∈ wT ∧ Cond.static arraycopyName ∈ wT ∧ Cond.initialized "java/lang/System" ∈ wT
theorem wa_copyI {t0 t1 n0 n1 idx : Nat} {i0 i1 im : Int32} (a b n : Nat) (hd : decode k.2.1 pc = .ok (.invokestatic idx, 3)) (hk : lkA k.1.cls idx) (h0 : shp t0 = .inl (1, n0)) (h1 : shp t1 = .inl (1, n1)) (e0 : i0 = nI a) (e1 : i1 = nI b) (e2 : im = nI n) (ha : a + n ≤ n0) (hb : b + n ≤ n1) (hdd : 1 ≤ d) (kk : WA k d Q (pc + 3) lv [] (bI μ t1 (va_cpy (μ.1 t0) (μ.1 t1) a b n))) : WA k d Q pc lv [.int im, .int i1, .ref t1, .int i0, .ref t0] μ := by
  intro G p l e s m args below meth c H locs ls C hP hS hl
  obtain ⟨k1, k2, k3, k4⟩ := hk
  have hn0 := shp_n h0
  have hn1 := shp_n h1
  have hts := C.2.2.2.1
  have z0 : (nI a).toNatClampNeg = a := nI_clamp (by omega)
  have z1 : (nI b).toNatClampNeg = b := nI_clamp (by omega)
  have z2 : (nI n).toNatClampNeg = n := nI_clamp (by omega)
  subst e0 e1 e2
  have hroom : (([] : List Value).map fun v => v.category).sum + (nativeFrameWords "java/lang/System" "arraycopy" 5 + 11) ≤ (rmD d).locals := by
    have hw : nativeFrameWords "java/lang/System" "arraycopy" 5 + 11 ≤ 40 := by decide +kernel
    show 0 + (nativeFrameWords "java/lang/System" "arraycopy" 5 + 11) ≤ 40 * d
    omega
  refine va_copyi (ty := .int) C.1 C.2.1 (C.2.2.2.2.2.2.1.trans hl.1.symm) C.2.2.2.2.1 (hts _ (List.mem_cons_of_mem _ k1)) (hts _ (List.mem_cons_of_mem _ k2)) (hts _ (List.mem_cons_of_mem _ k3)) (hts _ (List.mem_cons_of_mem _ k4)) C.2.2.2.2.2.2.2.2.1 hP C.2.2.2.2.2.2.2.1.D hS t0 t1 1 1 (ws_aI h0 (by omega)) (ws_aI h1 (by omega)) rfl rfl rfl (nI_pos (n := a) (by omega)) (nI_pos (n := b) (by omega)) (nI_pos (n := n) (by omega)) (by rw [z0, z2]; exact ha) (by rw [z1, z2]; exact hb) (fun _ _ => rfl) hdd hroom hd (fun H1 locs1 hP1 _ hS1 => ?_)
  rw [z0, z1, z2, ws_bI h1 (by omega)] at hP1
  exact kk G p l e s m args below meth c H1 locs1 ls C hP1 hS1 hl
theorem wa_copyL {t0 t1 n0 n1 idx : Nat} {i0 i1 im : Int32} (a b n : Nat) (hd : decode k.2.1 pc = .ok (.invokestatic idx, 3)) (hk : lkA k.1.cls idx) (h0 : shp t0 = .inl (2, n0)) (h1 : shp t1 = .inl (2, n1)) (e0 : i0 = nI a) (e1 : i1 = nI b) (e2 : im = nI n) (ha : a + n ≤ n0) (hb : b + n ≤ n1) (hdd : 1 ≤ d) (kk : WA k d Q (pc + 3) lv [] (bL μ t1 (va_cpy (μ.2 t0) (μ.2 t1) a b n))) : WA k d Q pc lv [.int im, .int i1, .ref t1, .int i0, .ref t0] μ := by
  intro G p l e s m args below meth c H locs ls C hP hS hl
  obtain ⟨k1, k2, k3, k4⟩ := hk
  have hn0 := shp_n h0
  have hn1 := shp_n h1
  have hts := C.2.2.2.1
  have z0 : (nI a).toNatClampNeg = a := nI_clamp (by omega)
  have z1 : (nI b).toNatClampNeg = b := nI_clamp (by omega)
  have z2 : (nI n).toNatClampNeg = n := nI_clamp (by omega)
  subst e0 e1 e2
  have hroom : (([] : List Value).map fun v => v.category).sum + (nativeFrameWords "java/lang/System" "arraycopy" 5 + 11) ≤ (rmD d).locals := by
    have hw : nativeFrameWords "java/lang/System" "arraycopy" 5 + 11 ≤ 40 := by decide +kernel
    show 0 + (nativeFrameWords "java/lang/System" "arraycopy" 5 + 11) ≤ 40 * d
    omega
  refine va_copyl (ty := .long) C.1 C.2.1 (C.2.2.2.2.2.2.1.trans hl.1.symm) C.2.2.2.2.1 (hts _ (List.mem_cons_of_mem _ k1)) (hts _ (List.mem_cons_of_mem _ k2)) (hts _ (List.mem_cons_of_mem _ k3)) (hts _ (List.mem_cons_of_mem _ k4)) C.2.2.2.2.2.2.2.2.1 hP C.2.2.2.2.2.2.2.1.D hS t0 t1 2 2 (ws_aL h0) (ws_aL h1) rfl rfl rfl (nI_pos (n := a) (by omega)) (nI_pos (n := b) (by omega)) (nI_pos (n := n) (by omega)) (by rw [z0, z2]; exact ha) (by rw [z1, z2]; exact hb) (fun _ _ => rfl) hdd hroom hd (fun H1 locs1 hP1 _ hS1 => ?_)
  rw [z0, z1, z2, ws_bL h1] at hP1
  exact kk G p l e s m args below meth c H1 locs1 ls C hP1 hS1 hl
end WAR
end
section
/-! LINKS: method keys, and the words that calls, fields and constants rest on -/
theorem tm {w : Cond} (i : Nat) (h : lw_tbl[i]? = some w) (g : goodWord w = true) : w ∈ wT := List.mem_filter.mpr ⟨List.mem_of_getElem? h, g⟩
theorem uw0 : ∀ w ∈ u_ws RX0 TX0 10, w ∈ wT := fun w h => List.mem_filter.mpr ⟨(by decide +kernel : ∀ w ∈ u_ws RX0 TX0 10, w ∈ lw_tbl) w h, List.all_eq_true.mp (by decide +kernel : (u_ws RX0 TX0 10).all goodWord = true) w h⟩
theorem fw0_0 : fW 0 0 .long := ⟨RX0, TX0, 10, tyX0, rfl, tyX0_ok, nmX0, rfl, by decide +kernel⟩
theorem fw0_1 : fW 0 1 .long := ⟨RX0, TX0, 10, tyX0, rfl, tyX0_ok, nmX0, rfl, by decide +kernel⟩
theorem fw0_2 : fW 0 2 .long := ⟨RX0, TX0, 10, tyX0, rfl, tyX0_ok, nmX0, rfl, by decide +kernel⟩
theorem fw0_3 : fW 0 3 .int := ⟨RX0, TX0, 10, tyX0, rfl, tyX0_ok, nmX0, rfl, by decide +kernel⟩
theorem fw0_4 : fW 0 4 .int := ⟨RX0, TX0, 10, tyX0, rfl, tyX0_ok, nmX0, rfl, by decide +kernel⟩
theorem fw0_5 : fW 0 5 .int := ⟨RX0, TX0, 10, tyX0, rfl, tyX0_ok, nmX0, rfl, by decide +kernel⟩
theorem fw0_6 : fW 0 6 .int := ⟨RX0, TX0, 10, tyX0, rfl, tyX0_ok, nmX0, rfl, by decide +kernel⟩
theorem fw0_7 : fW 0 7 .int := ⟨RX0, TX0, 10, tyX0, rfl, tyX0_ok, nmX0, rfl, by decide +kernel⟩
theorem fw0_8 : fW 0 8 .int := ⟨RX0, TX0, 10, tyX0, rfl, tyX0_ok, nmX0, rfl, by decide +kernel⟩
theorem fw0_9 : fW 0 9 .int := ⟨RX0, TX0, 10, tyX0, rfl, tyX0_ok, nmX0, rfl, by decide +kernel⟩
theorem uw1 : ∀ w ∈ u_ws RX1 TX1 2, w ∈ wT := fun w h => List.mem_filter.mpr ⟨(by decide +kernel : ∀ w ∈ u_ws RX1 TX1 2, w ∈ lw_tbl) w h, List.all_eq_true.mp (by decide +kernel : (u_ws RX1 TX1 2).all goodWord = true) w h⟩
theorem uw2 : ∀ w ∈ u_ws RX2 TX2 5, w ∈ wT := fun w h => List.mem_filter.mpr ⟨(by decide +kernel : ∀ w ∈ u_ws RX2 TX2 5, w ∈ lw_tbl) w h, List.all_eq_true.mp (by decide +kernel : (u_ws RX2 TX2 5).all goodWord = true) w h⟩
theorem fw2_0 : fW 2 0 .int := ⟨RX2, TX2, 5, tyX2, rfl, tyX2_ok, nmX2, rfl, by decide +kernel⟩
theorem uw3 : ∀ w ∈ u_ws RX3 TX3 6, w ∈ wT := fun w h => List.mem_filter.mpr ⟨(by decide +kernel : ∀ w ∈ u_ws RX3 TX3 6, w ∈ lw_tbl) w h, List.all_eq_true.mp (by decide +kernel : (u_ws RX3 TX3 6).all goodWord = true) w h⟩
theorem fw3_0 : fW 3 0 .boolean := ⟨RX3, TX3, 6, tyX3, rfl, tyX3_ok, nmX3, rfl, by decide +kernel⟩
theorem fw3_1 : fW 3 1 .int := ⟨RX3, TX3, 6, tyX3, rfl, tyX3_ok, nmX3, rfl, by decide +kernel⟩
theorem fw3_2 : fW 3 2 .int := ⟨RX3, TX3, 6, tyX3, rfl, tyX3_ok, nmX3, rfl, by decide +kernel⟩
theorem uw4 : ∀ w ∈ u_ws RX4 TX4 7, w ∈ wT := fun w h => List.mem_filter.mpr ⟨(by decide +kernel : ∀ w ∈ u_ws RX4 TX4 7, w ∈ lw_tbl) w h, List.all_eq_true.mp (by decide +kernel : (u_ws RX4 TX4 7).all goodWord = true) w h⟩
theorem fw4_0 : fW 4 0 .int := ⟨RX4, TX4, 7, tyX4, rfl, tyX4_ok, nmX4, rfl, by decide +kernel⟩
theorem fw4_1 : fW 4 1 .int := ⟨RX4, TX4, 7, tyX4, rfl, tyX4_ok, nmX4, rfl, by decide +kernel⟩
theorem fw4_2 : fW 4 2 .int := ⟨RX4, TX4, 7, tyX4, rfl, tyX4_ok, nmX4, rfl, by decide +kernel⟩
theorem fw4_3 : fW 4 3 .int := ⟨RX4, TX4, 7, tyX4, rfl, tyX4_ok, nmX4, rfl, by decide +kernel⟩
theorem fw4_4 : fW 4 4 .int := ⟨RX4, TX4, 7, tyX4, rfl, tyX4_ok, nmX4, rfl, by decide +kernel⟩
theorem fw4_5 : fW 4 5 .int := ⟨RX4, TX4, 7, tyX4, rfl, tyX4_ok, nmX4, rfl, by decide +kernel⟩
theorem fw4_6 : fW 4 6 .int := ⟨RX4, TX4, 7, tyX4, rfl, tyX4_ok, nmX4, rfl, by decide +kernel⟩
theorem uw5 : ∀ w ∈ u_ws RX5 TX5 5, w ∈ wT := fun w h => List.mem_filter.mpr ⟨(by decide +kernel : ∀ w ∈ u_ws RX5 TX5 5, w ∈ lw_tbl) w h, List.all_eq_true.mp (by decide +kernel : (u_ws RX5 TX5 5).all goodWord = true) w h⟩
def kX5_init : MK := (yX5_init, cX5_init, 2, none)
def kX3_init : MK := (yX3_init, cX3_init, 1, none)
def kX2_init : MK := (yX2_init, cX2_init, 1, none)
def kX1_init : MK := (yX1_init, cX1_init, 1, none)
def kX4_init : MK := (yX4_init, cX4_init, 1, none)
def kX0_init : MK := (yX0_init, cX0_init, 1, none)
def kX5_number : MK := (yX5_number, cX5_number, 3, (some .long))
def kX5_isRow : MK := (yX5_isRow, cX5_isRow, 1, (some .boolean))
def kX2_size : MK := (yX2_size, cX2_size, 1, (some .int))
def kX2_valueAt : MK := (yX2_valueAt, cX2_valueAt, 2, (some .long))
def kX5_turn : MK := (yX5_turn, cX5_turn, 3, (some .int))
def kX2_change : MK := (yX2_change, cX2_change, 3, (some .int))
def kX2_isPowerOfTwo : MK := (yX2_isPowerOfTwo, cX2_isPowerOfTwo, 1, (some .boolean))
def kX2_anyExceeds : MK := (yX2_anyExceeds, cX2_anyExceeds, 3, (some .boolean))
def kX2_exceeds : MK := (yX2_exceeds, cX2_exceeds, 6, (some .boolean))
def kX5_isWithin : MK := (yX5_isWithin, cX5_isWithin, 4, (some .boolean))
def kX2_makeLevel : MK := (yX2_makeLevel, cX2_makeLevel, 4, none)
def kX2_sum : MK := (yX2_sum, cX2_sum, 4, (some .long))
def kX2_makeFlat : MK := (yX2_makeFlat, cX2_makeFlat, 10, none)
def kX2_makeTwice : MK := (yX2_makeTwice, cX2_makeTwice, 8, none)
def kX2_makeTones : MK := (yX2_makeTones, cX2_makeTones, 7, none)
def kX2_toneMask : MK := (yX2_toneMask, cX2_toneMask, 5, (some .int))
def kJ6_bitCount_0f7a4 : MK := (yJ6_bitCount_0f7a4, cJ6_bitCount_0f7a4, 1, (some .int))
def kX2_becomeFresh : MK := (yX2_becomeFresh, cX2_becomeFresh, 2, (some .int))
def kX5_mix : MK := (yX5_mix, cX5_mix, 5, (some .int))
def kX2_blend : MK := (yX2_blend, cX2_blend, 5, (some .int))
def kX5_force : MK := (yX5_force, cX5_force, 4, (some .long))
def kX5_isStretch : MK := (yX5_isStretch, cX5_isStretch, 3, (some .boolean))
def kX2_squares : MK := (yX2_squares, cX2_squares, 6, (some .long))
def kX5_cross : MK := (yX5_cross, cX5_cross, 3, (some .long))
def kX2_products : MK := (yX2_products, cX2_products, 5, (some .long))
def kL_cell : MK := (yL_cell, cL_cell, 2, (some .int))
def kL_up : MK := (yL_up, cL_up, 2, (some .int))
def kL_raised : MK := (yL_raised, cL_raised, 6, (some .boolean))
def kX5_sheet : MK := (yX5_sheet, cX5_sheet, 4, (some .int))
def kX5_isSheet : MK := (yX5_isSheet, cX5_isSheet, 1, (some .boolean))
def kX3_begin : MK := (yX3_begin, cX3_begin, 3, none)
def kJ7_fill_53178 : MK := (yJ7_fill_53178, cJ7_fill_53178, 4, none)
def kX5_put : MK := (yX5_put, cX5_put, 5, (some .int))
def kX5_sampleFailure : MK := (yX5_sampleFailure, cX5_sampleFailure, 4, (some .int))
def kX5_sheetFailure : MK := (yX5_sheetFailure, cX5_sheetFailure, 2, (some .int))
def kX3_isThere : MK := (yX3_isThere, cX3_isThere, 1, (some .boolean))
def kX3_has : MK := (yX3_has, cX3_has, 2, (some .boolean))
def kX3_fits : MK := (yX3_fits, cX3_fits, 2, (some .boolean))
def kX3_tell : MK := (yX3_tell, cX3_tell, 3, none)
def kX5_raise : MK := (yX5_raise, cX5_raise, 3, (some .int))
def kX3_lostSamples : MK := (yX3_lostSamples, cX3_lostSamples, 1, (some .int))
def kX3_samplesThatStand : MK := (yX3_samplesThatStand, cX3_samplesThatStand, 4, (some .int))
def kX2_take : MK := (yX2_take, cX2_take, 3, none)
def kX3_size : MK := (yX3_size, cX3_size, 1, (some .int))
def kX3_valueAt : MK := (yX3_valueAt, cX3_valueAt, 2, (some .int))
theorem kvX5_number : lkV kX5_number 2 := ⟨⟨tm 12 (by decide +kernel) (by decide +kernel), tm 166 (by decide +kernel) (by decide +kernel), by decide +kernel, by decide +kernel, by decide +kernel⟩, tm 164 (by decide +kernel) (by decide +kernel), tm 165 (by decide +kernel) (by decide +kernel)⟩
theorem ksX5_isRow : lkS kX5_isRow 1 := ⟨⟨tm 12 (by decide +kernel) (by decide +kernel), tm 169 (by decide +kernel) (by decide +kernel), by decide +kernel, by decide +kernel, by decide +kernel⟩, tm 168 (by decide +kernel) (by decide +kernel)⟩
theorem kvX2_size : lkV kX2_size 0 := ⟨⟨tm 14 (by decide +kernel) (by decide +kernel), tm 174 (by decide +kernel) (by decide +kernel), by decide +kernel, by decide +kernel, by decide +kernel⟩, tm 172 (by decide +kernel) (by decide +kernel), tm 173 (by decide +kernel) (by decide +kernel)⟩
theorem kvX2_valueAt : lkV kX2_valueAt 1 := ⟨⟨tm 14 (by decide +kernel) (by decide +kernel), tm 179 (by decide +kernel) (by decide +kernel), by decide +kernel, by decide +kernel, by decide +kernel⟩, tm 177 (by decide +kernel) (by decide +kernel), tm 178 (by decide +kernel) (by decide +kernel)⟩
theorem kvX5_turn : lkV kX5_turn 2 := ⟨⟨tm 12 (by decide +kernel) (by decide +kernel), tm 183 (by decide +kernel) (by decide +kernel), by decide +kernel, by decide +kernel, by decide +kernel⟩, tm 181 (by decide +kernel) (by decide +kernel), tm 182 (by decide +kernel) (by decide +kernel)⟩
theorem kvX2_change : lkV kX2_change 1 := ⟨⟨tm 14 (by decide +kernel) (by decide +kernel), tm 187 (by decide +kernel) (by decide +kernel), by decide +kernel, by decide +kernel, by decide +kernel⟩, tm 185 (by decide +kernel) (by decide +kernel), tm 186 (by decide +kernel) (by decide +kernel)⟩
theorem kvX2_isPowerOfTwo : lkV kX2_isPowerOfTwo 0 := ⟨⟨tm 14 (by decide +kernel) (by decide +kernel), tm 191 (by decide +kernel) (by decide +kernel), by decide +kernel, by decide +kernel, by decide +kernel⟩, tm 190 (by decide +kernel) (by decide +kernel), tm 0 (by decide +kernel) (by decide +kernel)⟩
theorem kvX2_anyExceeds : lkV kX2_anyExceeds 1 := ⟨⟨tm 14 (by decide +kernel) (by decide +kernel), tm 196 (by decide +kernel) (by decide +kernel), by decide +kernel, by decide +kernel, by decide +kernel⟩, tm 194 (by decide +kernel) (by decide +kernel), tm 195 (by decide +kernel) (by decide +kernel)⟩
theorem kvX2_exceeds : lkV kX2_exceeds 3 := ⟨⟨tm 14 (by decide +kernel) (by decide +kernel), tm 200 (by decide +kernel) (by decide +kernel), by decide +kernel, by decide +kernel, by decide +kernel⟩, tm 198 (by decide +kernel) (by decide +kernel), tm 199 (by decide +kernel) (by decide +kernel)⟩
theorem ksX5_isWithin : lkS kX5_isWithin 2 := ⟨⟨tm 12 (by decide +kernel) (by decide +kernel), tm 203 (by decide +kernel) (by decide +kernel), by decide +kernel, by decide +kernel, by decide +kernel⟩, tm 202 (by decide +kernel) (by decide +kernel)⟩
theorem kvX2_makeLevel : lkV kX2_makeLevel 0 := ⟨⟨tm 14 (by decide +kernel) (by decide +kernel), tm 207 (by decide +kernel) (by decide +kernel), by decide +kernel, by decide +kernel, by decide +kernel⟩, tm 206 (by decide +kernel) (by decide +kernel), tm 1 (by decide +kernel) (by decide +kernel)⟩
theorem kvX2_sum : lkV kX2_sum 0 := ⟨⟨tm 14 (by decide +kernel) (by decide +kernel), tm 211 (by decide +kernel) (by decide +kernel), by decide +kernel, by decide +kernel, by decide +kernel⟩, tm 210 (by decide +kernel) (by decide +kernel), tm 2 (by decide +kernel) (by decide +kernel)⟩
theorem kvX2_makeFlat : lkV kX2_makeFlat 0 := ⟨⟨tm 14 (by decide +kernel) (by decide +kernel), tm 215 (by decide +kernel) (by decide +kernel), by decide +kernel, by decide +kernel, by decide +kernel⟩, tm 214 (by decide +kernel) (by decide +kernel), tm 3 (by decide +kernel) (by decide +kernel)⟩
theorem kvX2_makeTwice : lkV kX2_makeTwice 0 := ⟨⟨tm 14 (by decide +kernel) (by decide +kernel), tm 220 (by decide +kernel) (by decide +kernel), by decide +kernel, by decide +kernel, by decide +kernel⟩, tm 219 (by decide +kernel) (by decide +kernel), tm 4 (by decide +kernel) (by decide +kernel)⟩
theorem kvX2_makeTones : lkV kX2_makeTones 0 := ⟨⟨tm 14 (by decide +kernel) (by decide +kernel), tm 224 (by decide +kernel) (by decide +kernel), by decide +kernel, by decide +kernel, by decide +kernel⟩, tm 223 (by decide +kernel) (by decide +kernel), tm 5 (by decide +kernel) (by decide +kernel)⟩
theorem kvX2_toneMask : lkV kX2_toneMask 1 := ⟨⟨tm 14 (by decide +kernel) (by decide +kernel), tm 228 (by decide +kernel) (by decide +kernel), by decide +kernel, by decide +kernel, by decide +kernel⟩, tm 227 (by decide +kernel) (by decide +kernel), tm 6 (by decide +kernel) (by decide +kernel)⟩
theorem ksJ6_bitCount_0f7a4 : lkS kJ6_bitCount_0f7a4 1 := ⟨⟨tm 20 (by decide +kernel) (by decide +kernel), tm 231 (by decide +kernel) (by decide +kernel), by decide +kernel, by decide +kernel, by decide +kernel⟩, tm 230 (by decide +kernel) (by decide +kernel)⟩
theorem kvX2_becomeFresh : lkV kX2_becomeFresh 0 := ⟨⟨tm 14 (by decide +kernel) (by decide +kernel), tm 238 (by decide +kernel) (by decide +kernel), by decide +kernel, by decide +kernel, by decide +kernel⟩, tm 237 (by decide +kernel) (by decide +kernel), tm 7 (by decide +kernel) (by decide +kernel)⟩
theorem kvX5_mix : lkV kX5_mix 4 := ⟨⟨tm 12 (by decide +kernel) (by decide +kernel), tm 246 (by decide +kernel) (by decide +kernel), by decide +kernel, by decide +kernel, by decide +kernel⟩, tm 244 (by decide +kernel) (by decide +kernel), tm 245 (by decide +kernel) (by decide +kernel)⟩
theorem kvX2_blend : lkV kX2_blend 3 := ⟨⟨tm 14 (by decide +kernel) (by decide +kernel), tm 252 (by decide +kernel) (by decide +kernel), by decide +kernel, by decide +kernel, by decide +kernel⟩, tm 250 (by decide +kernel) (by decide +kernel), tm 251 (by decide +kernel) (by decide +kernel)⟩
theorem kvX5_force : lkV kX5_force 3 := ⟨⟨tm 12 (by decide +kernel) (by decide +kernel), tm 256 (by decide +kernel) (by decide +kernel), by decide +kernel, by decide +kernel, by decide +kernel⟩, tm 254 (by decide +kernel) (by decide +kernel), tm 255 (by decide +kernel) (by decide +kernel)⟩
theorem ksX5_isStretch : lkS kX5_isStretch 3 := ⟨⟨tm 12 (by decide +kernel) (by decide +kernel), tm 259 (by decide +kernel) (by decide +kernel), by decide +kernel, by decide +kernel, by decide +kernel⟩, tm 258 (by decide +kernel) (by decide +kernel)⟩
theorem kvX2_squares : lkV kX2_squares 2 := ⟨⟨tm 14 (by decide +kernel) (by decide +kernel), tm 266 (by decide +kernel) (by decide +kernel), by decide +kernel, by decide +kernel, by decide +kernel⟩, tm 264 (by decide +kernel) (by decide +kernel), tm 265 (by decide +kernel) (by decide +kernel)⟩
theorem kvX5_cross : lkV kX5_cross 2 := ⟨⟨tm 12 (by decide +kernel) (by decide +kernel), tm 270 (by decide +kernel) (by decide +kernel), by decide +kernel, by decide +kernel, by decide +kernel⟩, tm 268 (by decide +kernel) (by decide +kernel), tm 269 (by decide +kernel) (by decide +kernel)⟩
theorem kvX2_products : lkV kX2_products 1 := ⟨⟨tm 14 (by decide +kernel) (by decide +kernel), tm 276 (by decide +kernel) (by decide +kernel), by decide +kernel, by decide +kernel, by decide +kernel⟩, tm 274 (by decide +kernel) (by decide +kernel), tm 275 (by decide +kernel) (by decide +kernel)⟩
theorem ksL_cell : lkS kL_cell 2 := ⟨⟨tm 11 (by decide +kernel) (by decide +kernel), tm 279 (by decide +kernel) (by decide +kernel), by decide +kernel, by decide +kernel, by decide +kernel⟩, tm 278 (by decide +kernel) (by decide +kernel)⟩
theorem ksL_up : lkS kL_up 2 := ⟨⟨tm 11 (by decide +kernel) (by decide +kernel), tm 283 (by decide +kernel) (by decide +kernel), by decide +kernel, by decide +kernel, by decide +kernel⟩, tm 282 (by decide +kernel) (by decide +kernel)⟩
theorem ksL_raised : lkS kL_raised 5 := ⟨⟨tm 11 (by decide +kernel) (by decide +kernel), tm 287 (by decide +kernel) (by decide +kernel), by decide +kernel, by decide +kernel, by decide +kernel⟩, tm 286 (by decide +kernel) (by decide +kernel)⟩
theorem kvX5_sheet : lkV kX5_sheet 3 := ⟨⟨tm 12 (by decide +kernel) (by decide +kernel), tm 291 (by decide +kernel) (by decide +kernel), by decide +kernel, by decide +kernel, by decide +kernel⟩, tm 289 (by decide +kernel) (by decide +kernel), tm 290 (by decide +kernel) (by decide +kernel)⟩
theorem ksX5_isSheet : lkS kX5_isSheet 1 := ⟨⟨tm 12 (by decide +kernel) (by decide +kernel), tm 294 (by decide +kernel) (by decide +kernel), by decide +kernel, by decide +kernel, by decide +kernel⟩, tm 293 (by decide +kernel) (by decide +kernel)⟩
theorem kvX3_begin : lkV kX3_begin 2 := ⟨⟨tm 13 (by decide +kernel) (by decide +kernel), tm 298 (by decide +kernel) (by decide +kernel), by decide +kernel, by decide +kernel, by decide +kernel⟩, tm 296 (by decide +kernel) (by decide +kernel), tm 297 (by decide +kernel) (by decide +kernel)⟩
theorem ksJ7_fill_53178 : lkS kJ7_fill_53178 2 := ⟨⟨tm 18 (by decide +kernel) (by decide +kernel), tm 301 (by decide +kernel) (by decide +kernel), by decide +kernel, by decide +kernel, by decide +kernel⟩, tm 300 (by decide +kernel) (by decide +kernel)⟩
theorem kvX5_put : lkV kX5_put 3 := ⟨⟨tm 12 (by decide +kernel) (by decide +kernel), tm 305 (by decide +kernel) (by decide +kernel), by decide +kernel, by decide +kernel, by decide +kernel⟩, tm 303 (by decide +kernel) (by decide +kernel), tm 304 (by decide +kernel) (by decide +kernel)⟩
theorem kvX5_sampleFailure : lkV kX5_sampleFailure 2 := ⟨⟨tm 12 (by decide +kernel) (by decide +kernel), tm 309 (by decide +kernel) (by decide +kernel), by decide +kernel, by decide +kernel, by decide +kernel⟩, tm 308 (by decide +kernel) (by decide +kernel), tm 8 (by decide +kernel) (by decide +kernel)⟩
theorem kvX5_sheetFailure : lkV kX5_sheetFailure 1 := ⟨⟨tm 12 (by decide +kernel) (by decide +kernel), tm 313 (by decide +kernel) (by decide +kernel), by decide +kernel, by decide +kernel, by decide +kernel⟩, tm 312 (by decide +kernel) (by decide +kernel), tm 9 (by decide +kernel) (by decide +kernel)⟩
theorem kvX3_isThere : lkV kX3_isThere 0 := ⟨⟨tm 13 (by decide +kernel) (by decide +kernel), tm 317 (by decide +kernel) (by decide +kernel), by decide +kernel, by decide +kernel, by decide +kernel⟩, tm 315 (by decide +kernel) (by decide +kernel), tm 316 (by decide +kernel) (by decide +kernel)⟩
theorem kvX3_has : lkV kX3_has 1 := ⟨⟨tm 13 (by decide +kernel) (by decide +kernel), tm 321 (by decide +kernel) (by decide +kernel), by decide +kernel, by decide +kernel, by decide +kernel⟩, tm 319 (by decide +kernel) (by decide +kernel), tm 320 (by decide +kernel) (by decide +kernel)⟩
theorem kvX3_fits : lkV kX3_fits 1 := ⟨⟨tm 13 (by decide +kernel) (by decide +kernel), tm 325 (by decide +kernel) (by decide +kernel), by decide +kernel, by decide +kernel, by decide +kernel⟩, tm 323 (by decide +kernel) (by decide +kernel), tm 324 (by decide +kernel) (by decide +kernel)⟩
theorem kvX3_tell : lkV kX3_tell 2 := ⟨⟨tm 13 (by decide +kernel) (by decide +kernel), tm 329 (by decide +kernel) (by decide +kernel), by decide +kernel, by decide +kernel, by decide +kernel⟩, tm 327 (by decide +kernel) (by decide +kernel), tm 328 (by decide +kernel) (by decide +kernel)⟩
theorem kvX5_raise : lkV kX5_raise 2 := ⟨⟨tm 12 (by decide +kernel) (by decide +kernel), tm 333 (by decide +kernel) (by decide +kernel), by decide +kernel, by decide +kernel, by decide +kernel⟩, tm 331 (by decide +kernel) (by decide +kernel), tm 332 (by decide +kernel) (by decide +kernel)⟩
theorem kvX3_lostSamples : lkV kX3_lostSamples 0 := ⟨⟨tm 13 (by decide +kernel) (by decide +kernel), tm 337 (by decide +kernel) (by decide +kernel), by decide +kernel, by decide +kernel, by decide +kernel⟩, tm 335 (by decide +kernel) (by decide +kernel), tm 336 (by decide +kernel) (by decide +kernel)⟩
theorem kvX3_samplesThatStand : lkV kX3_samplesThatStand 1 := ⟨⟨tm 13 (by decide +kernel) (by decide +kernel), tm 341 (by decide +kernel) (by decide +kernel), by decide +kernel, by decide +kernel, by decide +kernel⟩, tm 340 (by decide +kernel) (by decide +kernel), tm 10 (by decide +kernel) (by decide +kernel)⟩
theorem kvX2_take : lkV kX2_take 1 := ⟨⟨tm 14 (by decide +kernel) (by decide +kernel), tm 345 (by decide +kernel) (by decide +kernel), by decide +kernel, by decide +kernel, by decide +kernel⟩, tm 343 (by decide +kernel) (by decide +kernel), tm 344 (by decide +kernel) (by decide +kernel)⟩
theorem kvX3_size : lkV kX3_size 0 := ⟨⟨tm 13 (by decide +kernel) (by decide +kernel), tm 349 (by decide +kernel) (by decide +kernel), by decide +kernel, by decide +kernel, by decide +kernel⟩, tm 347 (by decide +kernel) (by decide +kernel), tm 348 (by decide +kernel) (by decide +kernel)⟩
theorem kvX3_valueAt : lkV kX3_valueAt 1 := ⟨⟨tm 13 (by decide +kernel) (by decide +kernel), tm 353 (by decide +kernel) (by decide +kernel), by decide +kernel, by decide +kernel, by decide +kernel⟩, tm 351 (by decide +kernel) (by decide +kernel), tm 352 (by decide +kernel) (by decide +kernel)⟩
theorem fgX3_22 : fG RX3 22 3 0 := ⟨RX3, TX3, 6, rfl, uw3, by decide, tm 36 (by decide +kernel) (by decide +kernel)⟩
theorem fgX3_26 : fG RX3 26 3 1 := ⟨RX3, TX3, 6, rfl, uw3, by decide, tm 37 (by decide +kernel) (by decide +kernel)⟩
theorem fgX3_30 : fG RX3 30 3 2 := ⟨RX3, TX3, 6, rfl, uw3, by decide, tm 38 (by decide +kernel) (by decide +kernel)⟩
theorem fgX3_9 : fG RX3 9 3 3 := ⟨RX3, TX3, 6, rfl, uw3, by decide, tm 39 (by decide +kernel) (by decide +kernel)⟩
theorem fgX3_15 : fG RX3 15 3 4 := ⟨RX3, TX3, 6, rfl, uw3, by decide, tm 40 (by decide +kernel) (by decide +kernel)⟩
theorem fgX3_18 : fG RX3 18 3 5 := ⟨RX3, TX3, 6, rfl, uw3, by decide, tm 41 (by decide +kernel) (by decide +kernel)⟩
theorem fgX2_25 : fG RX2 25 2 0 := ⟨RX2, TX2, 5, rfl, uw2, by decide, tm 64 (by decide +kernel) (by decide +kernel)⟩
theorem fgX2_9 : fG RX2 9 2 1 := ⟨RX2, TX2, 5, rfl, uw2, by decide, tm 65 (by decide +kernel) (by decide +kernel)⟩
theorem fgX2_15 : fG RX2 15 2 2 := ⟨RX2, TX2, 5, rfl, uw2, by decide, tm 66 (by decide +kernel) (by decide +kernel)⟩
theorem fgX2_18 : fG RX2 18 2 3 := ⟨RX2, TX2, 5, rfl, uw2, by decide, tm 67 (by decide +kernel) (by decide +kernel)⟩
theorem fgX2_22 : fG RX2 22 2 4 := ⟨RX2, TX2, 5, rfl, uw2, by decide, tm 68 (by decide +kernel) (by decide +kernel)⟩
theorem fgX1_10 : fG RX1 10 1 0 := ⟨RX1, TX1, 2, rfl, uw1, by decide, tm 89 (by decide +kernel) (by decide +kernel)⟩
theorem fgX1_16 : fG RX1 16 1 1 := ⟨RX1, TX1, 2, rfl, uw1, by decide, tm 90 (by decide +kernel) (by decide +kernel)⟩
theorem fgX4_7 : fG RX4 7 4 0 := ⟨RX4, TX4, 7, rfl, uw4, by decide, tm 102 (by decide +kernel) (by decide +kernel)⟩
theorem fgX4_13 : fG RX4 13 4 1 := ⟨RX4, TX4, 7, rfl, uw4, by decide, tm 103 (by decide +kernel) (by decide +kernel)⟩
theorem fgX0_7 : fG RX0 7 0 3 := ⟨RX0, TX0, 10, rfl, uw0, by decide, tm 125 (by decide +kernel) (by decide +kernel)⟩
theorem fgX5_11 : fG RX5 11 5 0 := ⟨RX5, TX5, 5, rfl, uw5, by decide, tm 147 (by decide +kernel) (by decide +kernel)⟩
theorem fgX5_18 : fG RX5 18 5 1 := ⟨RX5, TX5, 5, rfl, uw5, by decide, tm 148 (by decide +kernel) (by decide +kernel)⟩
theorem fgX5_26 : fG RX5 26 5 2 := ⟨RX5, TX5, 5, rfl, uw5, by decide, tm 149 (by decide +kernel) (by decide +kernel)⟩
theorem fgX5_33 : fG RX5 33 5 3 := ⟨RX5, TX5, 5, rfl, uw5, by decide, tm 150 (by decide +kernel) (by decide +kernel)⟩
theorem fgX5_40 : fG RX5 40 5 4 := ⟨RX5, TX5, 5, rfl, uw5, by decide, tm 151 (by decide +kernel) (by decide +kernel)⟩
theorem lmL_51 : Cond.methodLink RL 51 yX5_number ∈ wT := tm 163 (by decide +kernel) (by decide +kernel)
theorem lmX5_111 : Cond.methodLink RX5 111 yX5_isRow ∈ wT := tm 167 (by decide +kernel) (by decide +kernel)
theorem lcX5_123 : Cond.constantLong RX5 123 (-5000000000000000002) ∈ wT := tm 170 (by decide +kernel) (by decide +kernel)
theorem lmX5_120 : Cond.methodLink RX5 120 yX2_size ∈ wT := tm 171 (by decide +kernel) (by decide +kernel)
theorem lcX5_125 : Cond.constantLong RX5 125 (-5000000000000000013) ∈ wT := tm 175 (by decide +kernel) (by decide +kernel)
theorem lmX5_127 : Cond.methodLink RX5 127 yX2_valueAt ∈ wT := tm 176 (by decide +kernel) (by decide +kernel)
theorem lmL_48 : Cond.methodLink RL 48 yX5_turn ∈ wT := tm 180 (by decide +kernel) (by decide +kernel)
theorem lmX5_130 : Cond.methodLink RX5 130 yX2_change ∈ wT := tm 184 (by decide +kernel) (by decide +kernel)
theorem lmX2_38 : Cond.methodLink RX2 38 yX2_isPowerOfTwo ∈ wT := tm 188 (by decide +kernel) (by decide +kernel)
theorem lcX2_42 : Cond.constantLong RX2 42 (4000000000) ∈ wT := tm 192 (by decide +kernel) (by decide +kernel)
theorem lmX2_44 : Cond.methodLink RX2 44 yX2_anyExceeds ∈ wT := tm 193 (by decide +kernel) (by decide +kernel)
theorem lmX2_89 : Cond.methodLink RX2 89 yX2_exceeds ∈ wT := tm 197 (by decide +kernel) (by decide +kernel)
theorem lmX2_48 : Cond.methodLink RX2 48 yX2_makeLevel ∈ wT := tm 204 (by decide +kernel) (by decide +kernel)
theorem lmX2_63 : Cond.methodLink RX2 63 yX2_sum ∈ wT := tm 208 (by decide +kernel) (by decide +kernel)
theorem lmX2_51 : Cond.methodLink RX2 51 yX2_makeFlat ∈ wT := tm 212 (by decide +kernel) (by decide +kernel)
theorem lcX2_67 : Cond.constantLong RX2 67 (3) ∈ wT := tm 216 (by decide +kernel) (by decide +kernel)
theorem lmX2_54 : Cond.methodLink RX2 54 yX2_makeTwice ∈ wT := tm 217 (by decide +kernel) (by decide +kernel)
theorem lmX2_57 : Cond.methodLink RX2 57 yX2_makeTones ∈ wT := tm 221 (by decide +kernel) (by decide +kernel)
theorem lmX2_69 : Cond.methodLink RX2 69 yX2_toneMask ∈ wT := tm 225 (by decide +kernel) (by decide +kernel)
theorem lmX2_72 : Cond.methodLink RX2 72 yJ6_bitCount_0f7a4 ∈ wT := tm 229 (by decide +kernel) (by decide +kernel)
theorem lcJ6_265 : Cond.constant RJ6 265 (1431655765) ∈ wT := tm 232 (by decide +kernel) (by decide +kernel)
theorem lcJ6_266 : Cond.constant RJ6 266 (858993459) ∈ wT := tm 233 (by decide +kernel) (by decide +kernel)
theorem lcJ6_267 : Cond.constant RJ6 267 (252645135) ∈ wT := tm 234 (by decide +kernel) (by decide +kernel)
theorem lmX2_60 : Cond.methodLink RX2 60 yX2_becomeFresh ∈ wT := tm 235 (by decide +kernel) (by decide +kernel)
theorem lcX2_77 : Cond.constantLong RX2 77 (4000000000000000) ∈ wT := tm 239 (by decide +kernel) (by decide +kernel)
theorem laX2_83 : lkA RX2 83 := ⟨tm 240 (by decide +kernel) (by decide +kernel), tm 242 (by decide +kernel) (by decide +kernel), tm 241 (by decide +kernel) (by decide +kernel), tm 19 (by decide +kernel) (by decide +kernel)⟩
theorem lmL_44 : Cond.methodLink RL 44 yX5_mix ∈ wT := tm 243 (by decide +kernel) (by decide +kernel)
theorem lcX5_140 : Cond.constantLong RX5 140 (1000) ∈ wT := tm 247 (by decide +kernel) (by decide +kernel)
theorem lmX5_142 : Cond.methodLink RX5 142 yX5_isWithin ∈ wT := tm 248 (by decide +kernel) (by decide +kernel)
theorem lmX5_146 : Cond.methodLink RX5 146 yX2_blend ∈ wT := tm 249 (by decide +kernel) (by decide +kernel)
theorem lmL_36 : Cond.methodLink RL 36 yX5_force ∈ wT := tm 253 (by decide +kernel) (by decide +kernel)
theorem lmX5_133 : Cond.methodLink RX5 133 yX5_isStretch ∈ wT := tm 257 (by decide +kernel) (by decide +kernel)
theorem lcX5_150 : Cond.constantLong RX5 150 (200000000) ∈ wT := tm 260 (by decide +kernel) (by decide +kernel)
theorem lmX5_152 : Cond.methodLink RX5 152 yX2_exceeds ∈ wT := tm 261 (by decide +kernel) (by decide +kernel)
theorem lcX5_156 : Cond.constantLong RX5 156 (-5000000000000000016) ∈ wT := tm 262 (by decide +kernel) (by decide +kernel)
theorem lmX5_158 : Cond.methodLink RX5 158 yX2_squares ∈ wT := tm 263 (by decide +kernel) (by decide +kernel)
theorem lmL_40 : Cond.methodLink RL 40 yX5_cross ∈ wT := tm 267 (by decide +kernel) (by decide +kernel)
theorem lcX5_162 : Cond.constantLong RX5 162 (-5000000000000000003) ∈ wT := tm 271 (by decide +kernel) (by decide +kernel)
theorem lmX5_164 : Cond.methodLink RX5 164 yX2_anyExceeds ∈ wT := tm 272 (by decide +kernel) (by decide +kernel)
theorem lmX5_168 : Cond.methodLink RX5 168 yX2_products ∈ wT := tm 273 (by decide +kernel) (by decide +kernel)
theorem lmL_23 : Cond.methodLink RL 23 yL_cell ∈ wT := tm 277 (by decide +kernel) (by decide +kernel)
theorem lcL_7 : Cond.constant RL 7 (1597334677) ∈ wT := tm 280 (by decide +kernel) (by decide +kernel)
theorem lmL_29 : Cond.methodLink RL 29 yL_up ∈ wT := tm 281 (by decide +kernel) (by decide +kernel)
theorem lcL_8 : Cond.constant RL 8 (2147483647) ∈ wT := tm 284 (by decide +kernel) (by decide +kernel)
theorem lmL_32 : Cond.methodLink RL 32 yL_raised ∈ wT := tm 285 (by decide +kernel) (by decide +kernel)
theorem lmL_9 : Cond.methodLink RL 9 yX5_sheet ∈ wT := tm 288 (by decide +kernel) (by decide +kernel)
theorem lmX5_44 : Cond.methodLink RX5 44 yX5_isSheet ∈ wT := tm 292 (by decide +kernel) (by decide +kernel)
theorem lmX5_48 : Cond.methodLink RX5 48 yX3_begin ∈ wT := tm 295 (by decide +kernel) (by decide +kernel)
theorem lmX3_33 : Cond.methodLink RX3 33 yJ7_fill_53178 ∈ wT := tm 299 (by decide +kernel) (by decide +kernel)
theorem lmL_15 : Cond.methodLink RL 15 yX5_put ∈ wT := tm 302 (by decide +kernel) (by decide +kernel)
theorem lmX5_60 : Cond.methodLink RX5 60 yX5_sampleFailure ∈ wT := tm 306 (by decide +kernel) (by decide +kernel)
theorem lmX5_52 : Cond.methodLink RX5 52 yX5_sheetFailure ∈ wT := tm 310 (by decide +kernel) (by decide +kernel)
theorem lmX5_87 : Cond.methodLink RX5 87 yX3_isThere ∈ wT := tm 314 (by decide +kernel) (by decide +kernel)
theorem lmX5_271 : Cond.methodLink RX5 271 yX3_has ∈ wT := tm 318 (by decide +kernel) (by decide +kernel)
theorem lmX5_64 : Cond.methodLink RX5 64 yX3_fits ∈ wT := tm 322 (by decide +kernel) (by decide +kernel)
theorem lmX5_67 : Cond.methodLink RX5 67 yX3_tell ∈ wT := tm 326 (by decide +kernel) (by decide +kernel)
theorem lmL_18 : Cond.methodLink RL 18 yX5_raise ∈ wT := tm 330 (by decide +kernel) (by decide +kernel)
theorem lmX5_114 : Cond.methodLink RX5 114 yX3_lostSamples ∈ wT := tm 334 (by decide +kernel) (by decide +kernel)
theorem lmX3_79 : Cond.methodLink RX3 79 yX3_samplesThatStand ∈ wT := tm 338 (by decide +kernel) (by decide +kernel)
theorem lmX5_117 : Cond.methodLink RX5 117 yX2_take ∈ wT := tm 342 (by decide +kernel) (by decide +kernel)
theorem lmX2_29 : Cond.methodLink RX2 29 yX3_size ∈ wT := tm 346 (by decide +kernel) (by decide +kernel)
theorem lmX2_34 : Cond.methodLink RX2 34 yX3_valueAt ∈ wT := tm 350 (by decide +kernel) (by decide +kernel)
end
section
/-! BASE: indices, reading behind writing, tags -/
theorem ix_a (a b : Nat) : nI a + nI b = nI (a + b) := nI_add a b
theorem ix_ma (a b c : Nat) : nI a * nI b + nI c = nI (a * b + c) := by rw [pk_mul, nI_add]
theorem ix_maa (a b c e : Nat) : nI a * nI b + nI c + nI e = nI (a * b + c + e) := by rw [pk_mul, nI_add, nI_add]
theorem ix_mama (a b c e f : Nat) : nI a * nI b + nI c + nI e + nI f = nI (a * b + c + e + f) := by rw [pk_mul, nI_add, nI_add, nI_add]
theorem r1s {μ : Mem} {t i a b : Nat} {x : Int32} (h : ¬ (a = t ∧ b = i)) : (sI μ t i x).1 a b = μ.1 a b := if_neg h
theorem r1n {μ : Mem} {t i a b : Nat} {x : Int32} (h : a ≠ t) : (sI μ t i x).1 a b = μ.1 a b := if_neg (fun q => h q.1)
theorem r1m {μ : Mem} {t i a b : Nat} {x : Int32} (h : b ≠ i) : (sI μ t i x).1 a b = μ.1 a b := if_neg (fun q => h q.2)
theorem r1e {μ : Mem} {t i : Nat} {x : Int32} : (sI μ t i x).1 t i = x := if_pos ⟨rfl, rfl⟩
theorem r1l {μ : Mem} {t i : Nat} {x : Int32} : (sI μ t i x).2 = μ.2 := rfl
theorem r2n {μ : Mem} {t i a b : Nat} {x : Int64} (h : a ≠ t) : (sL μ t i x).2 a b = μ.2 a b := if_neg (fun q => h q.1)
theorem r2m {μ : Mem} {t i a b : Nat} {x : Int64} (h : b ≠ i) : (sL μ t i x).2 a b = μ.2 a b := if_neg (fun q => h q.2)
theorem r2e {μ : Mem} {t i : Nat} {x : Int64} : (sL μ t i x).2 t i = x := if_pos ⟨rfl, rfl⟩
theorem r2l {μ : Mem} {t i : Nat} {x : Int64} : (sL μ t i x).1 = μ.1 := rfl
theorem rb1n {μ : Mem} {t a : Nat} {f : Nat → Int32} (h : a ≠ t) : (bI μ t f).1 a = μ.1 a := if_neg h
theorem rb1e {μ : Mem} {t : Nat} {f : Nat → Int32} : (bI μ t f).1 t = f := if_pos rfl
theorem rb1l {μ : Mem} {t : Nat} {f : Nat → Int32} : (bI μ t f).2 = μ.2 := rfl
theorem rb2n {μ : Mem} {t a : Nat} {f : Nat → Int64} (h : a ≠ t) : (bL μ t f).2 a = μ.2 a := if_neg h
theorem rb2e {μ : Mem} {t : Nat} {f : Nat → Int64} : (bL μ t f).2 t = f := if_pos rfl
theorem rb2l {μ : Mem} {t : Nat} {f : Nat → Int64} : (bL μ t f).1 = μ.1 := rfl
theorem bI_self (μ : Mem) (t : Nat) : bI μ t (μ.1 t) = μ := by
  unfold bI
  congr 1
  funext a
  by_cases h : a = t
  · rw [if_pos h, h]
  · rw [if_neg h]
theorem bL_self (μ : Mem) (t : Nat) : bL μ t (μ.2 t) = μ := by
  unfold bL
  congr 1
  funext a
  by_cases h : a = t
  · rw [if_pos h, h]
  · rw [if_neg h]
theorem bI_bI (μ : Mem) (t : Nat) (f g : Nat → Int32) : bI (bI μ t f) t g = bI μ t g := by
  unfold bI
  congr 1
  funext a
  by_cases h : a = t <;> simp [h]
theorem bL_bL (μ : Mem) (t : Nat) (f g : Nat → Int64) : bL (bL μ t f) t g = bL μ t g := by
  unfold bL
  congr 1
  funext a
  by_cases h : a = t <;> simp [h]
theorem bI_comm (μ : Mem) {t u : Nat} (f g : Nat → Int32) (h : t ≠ u) : bI (bI μ t f) u g = bI (bI μ u g) t f := by
  unfold bI
  congr 1
  funext a
  by_cases h1 : a = t
  · subst h1
    simp [h]
  · simp [h1]
theorem sIb (μ : Mem) (t i : Nat) (f : Nat → Int32) (x : Int32) : sI (bI μ t f) t i x = bI μ t (upd f i x) := by
  rw [← sI_bI, rb1e, bI_bI]
theorem sLb (μ : Mem) (t i : Nat) (f : Nat → Int64) (x : Int64) : sL (bL μ t f) t i x = bL μ t (vp_updL f i x) := by
  rw [← sL_bL, rb2e, bL_bL]
theorem sIb2 (μ : Mem) {t u : Nat} (i : Nat) (f g : Nat → Int32) (x : Int32) (h : t ≠ u) : sI (bI (bI μ t f) u g) t i x = bI (bI μ t (upd f i x)) u g := by
  rw [bI_comm _ _ _ h, sIb, bI_comm _ _ _ (Ne.symm h)]
/-- v at places below n -/
def fillF (f : Nat → Int32) (v : Int32) (n : Nat) : Nat → Int32 := fun b => if b < n then v else f b
theorem fillF_0 (f : Nat → Int32) (v : Int32) : fillF f v 0 = f := by
  funext b
  simp [fillF]
theorem fillF_s (f : Nat → Int32) (v : Int32) (n : Nat) : upd (fillF f v n) n v = fillF f v (n + 1) := by
  funext b
  by_cases h : b = n
  · subst h
    simp [upd, fillF]
  · simp only [upd, fillF, h, if_false]
    congr 1
    exact propext ⟨fun q => by omega, fun q => by omega⟩
/-- a SHEET's tag; a ROW's -/
def isS (t : Nat) : Prop := ∃ k, k < 9 ∧ t = 7 + 4 * k
def isR (t : Nat) : Prop := ∃ k, k < 6 ∧ t = 43 + 5 * k
theorem isS_sh {t : Nat} (h : isS t) : shp t = .inr (3, [.int 0, .int 0, .int 0, .ref (t + 1), .ref (t + 2), .ref (t + 3)]) ∧ shp (t + 1) = .inl (1, 64) ∧ shp (t + 2) = .inl (1, 64) ∧ shp (t + 3) = .inl (0, 64) := by
  obtain ⟨k, hk, rfl⟩ := h
  have : k = 0 ∨ k = 1 ∨ k = 2 ∨ k = 3 ∨ k = 4 ∨ k = 5 ∨ k = 6 ∨ k = 7 ∨ k = 8 := by omega
  rcases this with rfl | rfl | rfl | rfl | rfl | rfl | rfl | rfl | rfl <;> exact ⟨rfl, rfl, rfl, rfl⟩
theorem isR_sh {t : Nat} (h : isR t) : shp t = .inr (2, [.int 0, .ref (t + 1), .ref (t + 2), .ref (t + 3), .ref (t + 4)]) ∧ shp (t + 1) = .inl (2, 64) ∧ shp (t + 2) = .inl (2, 64) ∧ shp (t + 3) = .inl (1, 64) ∧ shp (t + 4) = .inl (2, 64) := by
  obtain ⟨k, hk, rfl⟩ := h
  have : k = 0 ∨ k = 1 ∨ k = 2 ∨ k = 3 ∨ k = 4 ∨ k = 5 := by omega
  rcases this with rfl | rfl | rfl | rfl | rfl | rfl <;> exact ⟨rfl, rfl, rfl, rfl, rfl⟩
def mxI (x y : Int32) : Int32 := if x.toInt < y.toInt then y else x
def mnI (x y : Int32) : Int32 := if y.toInt < x.toInt then y else x
def mxL (x y : Int64) : Int64 := if x.toInt < y.toInt then y else x
def mnL (x y : Int64) : Int64 := if y.toInt < x.toInt then y else x
def abL (x : Int64) : Int64 := if 0 ≤ x.toInt then x else -x
theorem z64 : (0 : Int64).toInt = 0 := by decide
/-- the ones of an int, as Integer.bitCount reckons them -/
def bcI (x : Int32) : Int32 :=
  let u := fun (a b : Int32) => (a.toUInt32 >>> (b.toUInt32 &&& Int32.toUInt32 31)).toInt32
  let x1 := x - (u x (nI 1) &&& 1431655765)
  let x2 := (x1 &&& 858993459) + (u x1 (nI 2) &&& 858993459)
  let x3 := (x2 + u x2 (nI 4)) &&& 252645135
  let x4 := x3 + u x3 (nI 8)
  let x5 := x4 + u x4 (nI 16)
  x5 &&& nI 63
/-! the JDK's own -/
section CALLS
variable {k k' : MK} {d d' : Nat} {Q : QM} {pc : Nat} {lv : List (Option Value)} {μ : Mem}
theorem wa_callV0 {t ci idx : Nat} {rest sl : List Value} (hd : decode k.2.1 pc = .ok (.invokevirtual idx, 3)) (hlink : Cond.methodLink k.1.cls idx k'.1 ∈ wT) (hk : lkV k' 0) (hsh : shp t = .inr (ci, sl)) (hcl : (vwCl[ci]?).map (fun q => q.1) = some k'.1.cls) (hml : k'.2.2.1 ≤ 21) (hdd : d' + 1 ≤ d) (hcat : catS rest ≤ 8) (hM : MW k' d' (.ref t :: []) μ (fun r μ' => WA k d Q (pc + 3) lv (r.toList ++ rest) μ')) : WA k d Q pc lv (.ref t :: rest) μ :=
  wa_callV (as := []) hd hlink hk hsh hcl hml hdd rfl rfl hcat hM
theorem wa_callS0 {idx : Nat} {rest : List Value} (hd : decode k.2.1 pc = .ok (.invokestatic idx, 3)) (hlink : Cond.methodLink k.1.cls idx k'.1 ∈ wT) (hk : lkS k' 0) (hml : k'.2.2.1 ≤ 21) (hdd : d' + 1 ≤ d) (hcat : catS rest ≤ 8) (hM : MW k' d' [] μ (fun r μ' => WA k d Q (pc + 3) lv (r.toList ++ rest) μ')) : WA k d Q pc lv (rest) μ :=
  wa_callS (as := []) hd hlink hk hml hdd rfl rfl hcat hM
theorem wa_callV1 {t ci idx : Nat} {a1 : Value} {rest sl : List Value} (hd : decode k.2.1 pc = .ok (.invokevirtual idx, 3)) (hlink : Cond.methodLink k.1.cls idx k'.1 ∈ wT) (hk : lkV k' 1) (hsh : shp t = .inr (ci, sl)) (hcl : (vwCl[ci]?).map (fun q => q.1) = some k'.1.cls) (hml : k'.2.2.1 ≤ 21) (hdd : d' + 1 ≤ d) (hcat : catS rest ≤ 8) (hM : MW k' d' (.ref t :: [a1]) μ (fun r μ' => WA k d Q (pc + 3) lv (r.toList ++ rest) μ')) : WA k d Q pc lv (a1 :: .ref t :: rest) μ :=
  wa_callV (as := [a1]) hd hlink hk hsh hcl hml hdd rfl rfl hcat hM
theorem wa_callS1 {idx : Nat} {a1 : Value} {rest : List Value} (hd : decode k.2.1 pc = .ok (.invokestatic idx, 3)) (hlink : Cond.methodLink k.1.cls idx k'.1 ∈ wT) (hk : lkS k' 1) (hml : k'.2.2.1 ≤ 21) (hdd : d' + 1 ≤ d) (hcat : catS rest ≤ 8) (hM : MW k' d' [a1] μ (fun r μ' => WA k d Q (pc + 3) lv (r.toList ++ rest) μ')) : WA k d Q pc lv (a1 :: rest) μ :=
  wa_callS (as := [a1]) hd hlink hk hml hdd rfl rfl hcat hM
theorem wa_callV2 {t ci idx : Nat} {a1 a2 : Value} {rest sl : List Value} (hd : decode k.2.1 pc = .ok (.invokevirtual idx, 3)) (hlink : Cond.methodLink k.1.cls idx k'.1 ∈ wT) (hk : lkV k' 2) (hsh : shp t = .inr (ci, sl)) (hcl : (vwCl[ci]?).map (fun q => q.1) = some k'.1.cls) (hml : k'.2.2.1 ≤ 21) (hdd : d' + 1 ≤ d) (hcat : catS rest ≤ 8) (hM : MW k' d' (.ref t :: [a1, a2]) μ (fun r μ' => WA k d Q (pc + 3) lv (r.toList ++ rest) μ')) : WA k d Q pc lv (a2 :: a1 :: .ref t :: rest) μ :=
  wa_callV (as := [a1, a2]) hd hlink hk hsh hcl hml hdd rfl rfl hcat hM
theorem wa_callS2 {idx : Nat} {a1 a2 : Value} {rest : List Value} (hd : decode k.2.1 pc = .ok (.invokestatic idx, 3)) (hlink : Cond.methodLink k.1.cls idx k'.1 ∈ wT) (hk : lkS k' 2) (hml : k'.2.2.1 ≤ 21) (hdd : d' + 1 ≤ d) (hcat : catS rest ≤ 8) (hM : MW k' d' [a1, a2] μ (fun r μ' => WA k d Q (pc + 3) lv (r.toList ++ rest) μ')) : WA k d Q pc lv (a2 :: a1 :: rest) μ :=
  wa_callS (as := [a1, a2]) hd hlink hk hml hdd rfl rfl hcat hM
theorem wa_callV3 {t ci idx : Nat} {a1 a2 a3 : Value} {rest sl : List Value} (hd : decode k.2.1 pc = .ok (.invokevirtual idx, 3)) (hlink : Cond.methodLink k.1.cls idx k'.1 ∈ wT) (hk : lkV k' 3) (hsh : shp t = .inr (ci, sl)) (hcl : (vwCl[ci]?).map (fun q => q.1) = some k'.1.cls) (hml : k'.2.2.1 ≤ 21) (hdd : d' + 1 ≤ d) (hcat : catS rest ≤ 8) (hM : MW k' d' (.ref t :: [a1, a2, a3]) μ (fun r μ' => WA k d Q (pc + 3) lv (r.toList ++ rest) μ')) : WA k d Q pc lv (a3 :: a2 :: a1 :: .ref t :: rest) μ :=
  wa_callV (as := [a1, a2, a3]) hd hlink hk hsh hcl hml hdd rfl rfl hcat hM
theorem wa_callS3 {idx : Nat} {a1 a2 a3 : Value} {rest : List Value} (hd : decode k.2.1 pc = .ok (.invokestatic idx, 3)) (hlink : Cond.methodLink k.1.cls idx k'.1 ∈ wT) (hk : lkS k' 3) (hml : k'.2.2.1 ≤ 21) (hdd : d' + 1 ≤ d) (hcat : catS rest ≤ 8) (hM : MW k' d' [a1, a2, a3] μ (fun r μ' => WA k d Q (pc + 3) lv (r.toList ++ rest) μ')) : WA k d Q pc lv (a3 :: a2 :: a1 :: rest) μ :=
  wa_callS (as := [a1, a2, a3]) hd hlink hk hml hdd rfl rfl hcat hM
theorem wa_callV4 {t ci idx : Nat} {a1 a2 a3 a4 : Value} {rest sl : List Value} (hd : decode k.2.1 pc = .ok (.invokevirtual idx, 3)) (hlink : Cond.methodLink k.1.cls idx k'.1 ∈ wT) (hk : lkV k' 4) (hsh : shp t = .inr (ci, sl)) (hcl : (vwCl[ci]?).map (fun q => q.1) = some k'.1.cls) (hml : k'.2.2.1 ≤ 21) (hdd : d' + 1 ≤ d) (hcat : catS rest ≤ 8) (hM : MW k' d' (.ref t :: [a1, a2, a3, a4]) μ (fun r μ' => WA k d Q (pc + 3) lv (r.toList ++ rest) μ')) : WA k d Q pc lv (a4 :: a3 :: a2 :: a1 :: .ref t :: rest) μ :=
  wa_callV (as := [a1, a2, a3, a4]) hd hlink hk hsh hcl hml hdd rfl rfl hcat hM
theorem wa_callS4 {idx : Nat} {a1 a2 a3 a4 : Value} {rest : List Value} (hd : decode k.2.1 pc = .ok (.invokestatic idx, 3)) (hlink : Cond.methodLink k.1.cls idx k'.1 ∈ wT) (hk : lkS k' 4) (hml : k'.2.2.1 ≤ 21) (hdd : d' + 1 ≤ d) (hcat : catS rest ≤ 8) (hM : MW k' d' [a1, a2, a3, a4] μ (fun r μ' => WA k d Q (pc + 3) lv (r.toList ++ rest) μ')) : WA k d Q pc lv (a4 :: a3 :: a2 :: a1 :: rest) μ :=
  wa_callS (as := [a1, a2, a3, a4]) hd hlink hk hml hdd rfl rfl hcat hM
theorem wa_callV5 {t ci idx : Nat} {a1 a2 a3 a4 a5 : Value} {rest sl : List Value} (hd : decode k.2.1 pc = .ok (.invokevirtual idx, 3)) (hlink : Cond.methodLink k.1.cls idx k'.1 ∈ wT) (hk : lkV k' 5) (hsh : shp t = .inr (ci, sl)) (hcl : (vwCl[ci]?).map (fun q => q.1) = some k'.1.cls) (hml : k'.2.2.1 ≤ 21) (hdd : d' + 1 ≤ d) (hcat : catS rest ≤ 8) (hM : MW k' d' (.ref t :: [a1, a2, a3, a4, a5]) μ (fun r μ' => WA k d Q (pc + 3) lv (r.toList ++ rest) μ')) : WA k d Q pc lv (a5 :: a4 :: a3 :: a2 :: a1 :: .ref t :: rest) μ :=
  wa_callV (as := [a1, a2, a3, a4, a5]) hd hlink hk hsh hcl hml hdd rfl rfl hcat hM
theorem wa_callS5 {idx : Nat} {a1 a2 a3 a4 a5 : Value} {rest : List Value} (hd : decode k.2.1 pc = .ok (.invokestatic idx, 3)) (hlink : Cond.methodLink k.1.cls idx k'.1 ∈ wT) (hk : lkS k' 5) (hml : k'.2.2.1 ≤ 21) (hdd : d' + 1 ≤ d) (hcat : catS rest ≤ 8) (hM : MW k' d' [a1, a2, a3, a4, a5] μ (fun r μ' => WA k d Q (pc + 3) lv (r.toList ++ rest) μ')) : WA k d Q pc lv (a5 :: a4 :: a3 :: a2 :: a1 :: rest) μ :=
  wa_callS (as := [a1, a2, a3, a4, a5]) hd hlink hk hml hdd rfl rfl hcat hM
theorem wa_callN2 {a1 a2 : Value} {rest : List Value} (hown : k.1.cls = RX2) (hd : decode k.2.1 pc = .ok (.invokestatic 79, 3)) (hy : k'.1 = yX5_isWithin) (hk : lkS k' 2) (hml : k'.2.2.1 ≤ 21) (hdd : d' + 1 ≤ d) (hcat : catS rest ≤ 8) (hM : MW k' d' [a1, a2] μ (fun r μ' => WA k d Q (pc + 3) lv (r.toList ++ rest) μ')) : WA k d Q pc lv (a2 :: a1 :: rest) μ :=
  wa_callN (as := [a1, a2]) hown hd hy hk hml hdd rfl rfl hcat hM
end CALLS
section MATH
variable {k : MK} {d : Nat} {Q : QM} {pc : Nat} {lv : List (Option Value)} {μ : Mem}
def lkM (y : MethodName) (bc : ByteArray) (ml : Nat) (ret : FieldType) : Prop := Cond.static y ∈ wT ∧ Cond.initialized "java/lang/Math" ∈ wT ∧ Cond.code y bc ml (some ret) ∈ wT
end MATH
theorem wp_bitCount {d : Nat} {x : Int32} {μ : Mem} {Q : QM} (hQ : Q (some (.int (bcI x))) μ) : MW kJ6_bitCount_0f7a4 d [.int x] μ Q := by
  refine MW_of (by decide) [some (.int x)] rfl (Nat.le_of_ble_eq_true rfl) ?_
  refine wa_iload_n dJ6_bitCount_0f7a4_0 rfl ?_
  refine wa_iload_n dJ6_bitCount_0f7a4_1 rfl ?_
  refine wa_iconst (nI 1) dJ6_bitCount_0f7a4_2 (by decide) ?_
  refine wa_iushr dJ6_bitCount_0f7a4_3 ?_
  refine wa_ldcw (1431655765) dJ6_bitCount_0f7a4_4 lcJ6_265 ?_
  refine wa_iand dJ6_bitCount_0f7a4_7 ?_
  refine wa_isub dJ6_bitCount_0f7a4_8 ?_
  refine wa_istore_n dJ6_bitCount_0f7a4_9 (by decide) ?_
  refine wa_iload_n dJ6_bitCount_0f7a4_10 rfl ?_
  refine wa_ldcw (858993459) dJ6_bitCount_0f7a4_11 lcJ6_266 ?_
  refine wa_iand dJ6_bitCount_0f7a4_14 ?_
  refine wa_iload_n dJ6_bitCount_0f7a4_15 rfl ?_
  refine wa_iconst (nI 2) dJ6_bitCount_0f7a4_16 (by decide) ?_
  refine wa_iushr dJ6_bitCount_0f7a4_17 ?_
  refine wa_ldcw (858993459) dJ6_bitCount_0f7a4_18 lcJ6_266 ?_
  refine wa_iand dJ6_bitCount_0f7a4_21 ?_
  refine wa_iadd dJ6_bitCount_0f7a4_22 ?_
  refine wa_istore_n dJ6_bitCount_0f7a4_23 (by decide) ?_
  refine wa_iload_n dJ6_bitCount_0f7a4_24 rfl ?_
  refine wa_iload_n dJ6_bitCount_0f7a4_25 rfl ?_
  refine wa_iconst (nI 4) dJ6_bitCount_0f7a4_26 (by decide) ?_
  refine wa_iushr dJ6_bitCount_0f7a4_27 ?_
  refine wa_iadd dJ6_bitCount_0f7a4_28 ?_
  refine wa_ldcw (252645135) dJ6_bitCount_0f7a4_29 lcJ6_267 ?_
  refine wa_iand dJ6_bitCount_0f7a4_32 ?_
  refine wa_istore_n dJ6_bitCount_0f7a4_33 (by decide) ?_
  refine wa_iload_n dJ6_bitCount_0f7a4_34 rfl ?_
  refine wa_iload_n dJ6_bitCount_0f7a4_35 rfl ?_
  refine wa_bipush (nI 8) dJ6_bitCount_0f7a4_36 (by decide) ?_
  refine wa_iushr dJ6_bitCount_0f7a4_38 ?_
  refine wa_iadd dJ6_bitCount_0f7a4_39 ?_
  refine wa_istore_n dJ6_bitCount_0f7a4_40 (by decide) ?_
  refine wa_iload_n dJ6_bitCount_0f7a4_41 rfl ?_
  refine wa_iload_n dJ6_bitCount_0f7a4_42 rfl ?_
  refine wa_bipush (nI 16) dJ6_bitCount_0f7a4_43 (by decide) ?_
  refine wa_iushr dJ6_bitCount_0f7a4_45 ?_
  refine wa_iadd dJ6_bitCount_0f7a4_46 ?_
  refine wa_istore_n dJ6_bitCount_0f7a4_47 (by decide) ?_
  refine wa_iload_n dJ6_bitCount_0f7a4_48 rfl ?_
  refine wa_bipush (nI 63) dJ6_bitCount_0f7a4_49 (by decide) ?_
  refine wa_iand dJ6_bitCount_0f7a4_51 ?_
  refine wa_iret dJ6_bitCount_0f7a4_52 rfl ?_
  exact hQ
theorem wp_fill {d t n : Nat} {v : Int32} {μ : Mem} {Q : QM} (hs : shp t = .inl (1, n)) (hQ : Q none (bI μ t (fillF (μ.1 t) v n))) : MW kJ7_fill_53178 d [.ref t, .int v] μ Q := by
  refine MW_of (by decide) [some (.ref t), some (.int v), none, none] rfl (Nat.le_of_ble_eq_true rfl) ?_
  have hn := shp_n hs
  have loop : ∀ m i, i + m = n → WA kJ7_fill_53178 d Q 5 [some (.ref t), some (.int v), some (.int (nI i)), some (.int (nI n))] [] (bI μ t (fillF (μ.1 t) v i)) := by
    intro m
    induction m with
    | zero =>
      intro i hi
      refine wa_iload_n dJ7_fill_53178_5 rfl ?_
      refine wa_iload_n dJ7_fill_53178_6 rfl ?_
      refine wa_ic_geT 20 dJ7_fill_53178_7 (by decide) (by have := nI_toInt (n := n) (by omega); have := nI_toInt (n := i) (by omega); omega) ?_
      refine wa_vret dJ7_fill_53178_20 rfl ?_
      rw [show i = n by omega]; exact hQ
    | succ m ih =>
      intro i hi
      refine wa_iload_n dJ7_fill_53178_5 rfl ?_
      refine wa_iload_n dJ7_fill_53178_6 rfl ?_
      refine wa_ic_geF 20 dJ7_fill_53178_7 (by decide) (by have := nI_toInt (n := n) (by omega); have := nI_toInt (n := i) (by omega); omega) ?_
      refine wa_aload_n dJ7_fill_53178_10 rfl ?_
      refine wa_iload_n dJ7_fill_53178_11 rfl ?_
      refine wa_iload_n dJ7_fill_53178_12 rfl ?_
      refine wa_iast _ dJ7_fill_53178_13 (by first | assumption | rfl) (by first | with_reducible rfl | with_reducible assumption | with_reducible exact ix_ma _ _ _ | with_reducible exact ix_maa _ _ _ _ | with_reducible exact ix_a _ _ | with_reducible exact ix_mama _ _ _ _ _) (by omega) ?_
      refine wa_iinc (nI 1) dJ7_fill_53178_14 rfl (by decide) (by decide) ?_
      refine wa_goto 5 dJ7_fill_53178_17 (by decide) ?_
      rw [sIb, fillF_s, nI_add]; exact ih (i + 1) (by omega)
  refine wa_iconst (nI 0) dJ7_fill_53178_0 (by decide) ?_
  refine wa_istore_n dJ7_fill_53178_1 (by decide) ?_
  refine wa_aload_n dJ7_fill_53178_2 rfl ?_
  refine wa_alenI dJ7_fill_53178_3 (by first | assumption | rfl) ?_
  refine wa_istore_n dJ7_fill_53178_4 (by decide) ?_
  have h0 := loop n 0 (by omega); rw [fillF_0, bI_self] at h0; exact h0
end
section
/-! SHEETS of the class -/
theorem isS_mod {t : Nat} (h : isS t) : t % 4 = 3 ∧ 7 ≤ t ∧ t ≤ 39 := by
  obtain ⟨k, h1, h2⟩ := h
  omega
theorem isR_mod {t : Nat} (h : isR t) : t % 5 = 3 ∧ 43 ≤ t ∧ t ≤ 68 := by
  obtain ⟨k, h1, h2⟩ := h
  omega
theorem le_nI {a b : Nat} (h : a ≤ b) (hb : b < 2 ^ 31) : (nI a).toInt ≤ (nI b).toInt := by
  rw [nI_toInt hb, nI_toInt (by omega)]; omega
theorem nle_nI {a b : Nat} (h : b < a) (ha : a < 2 ^ 31) : ¬ (nI a).toInt ≤ (nI b).toInt := by
  rw [nI_toInt ha, nI_toInt (by omega)]; omega
theorem lt_nI {a b : Nat} (h : a < b) (hb : b < 2 ^ 31) : (nI a).toInt < (nI b).toInt := by
  rw [nI_toInt hb, nI_toInt (by omega)]; omega
theorem nlt_nI {a b : Nat} (h : b ≤ a) (ha : a < 2 ^ 31) : ¬ (nI a).toInt < (nI b).toInt := by
  rw [nI_toInt ha, nI_toInt (by omega)]; omega
/-- an int within 0 .. n - 1 is nI of a natural -/
theorem nI_ex {x : Int32} {n : Nat} (h0 : 0 ≤ x.toInt) (h1 : x.toInt < n) (hn : n < 2 ^ 31) : ∃ j, j < n ∧ x = nI j := by
  refine ⟨x.toInt.toNat, by omega, ?_⟩
  apply Int32.toInt_inj.mp
  rw [nI_toInt (by omega)]
  omega
theorem nI_0z : (nI 0).toInt = 0 := by decide
theorem nI_1z : (nI 1).toInt = 1 := by decide
theorem nI_2z : (nI 2).toInt = 2 := by decide
theorem wp_X3_begin {d t : Nat} {so n : Int32} {μ : Mem} {Q : QM} (ht : isS t) (hd : 1 ≤ d) (hQ : Q none (bI (bI (sI (sI (sI μ t 0 (nI 1)) t 1 so) t 2 n) (t + 1) (fillF (μ.1 (t + 1)) (nI 0) 64)) (t + 2) (fillF (μ.1 (t + 2)) (nI 1) 64))) : MW kX3_begin d [.ref t, .int so, .int n] μ Q := by
  obtain ⟨hs0t, hs1t, hs2t, hs3t⟩ := isS_sh ht
  have hmt := isS_mod ht
  refine MW_of (by decide) [some (.ref t), some (.int so), some (.int n)] rfl (Nat.le_of_ble_eq_true rfl) ?_
  refine wa_aload_n dX3_begin_0 rfl ?_
  refine wa_iconst (nI 1) dX3_begin_1 (by decide) ?_
  refine wa_putZ dX3_begin_2 fgX3_22 fw3_0 (by first | assumption | rfl) (by rfl) (Or.inr rfl) ?_
  refine wa_aload_n dX3_begin_5 rfl ?_
  refine wa_iload_n dX3_begin_6 rfl ?_
  refine wa_putI dX3_begin_7 fgX3_26 fw3_1 (by first | assumption | rfl) (by rfl) ?_
  refine wa_aload_n dX3_begin_10 rfl ?_
  refine wa_iload_n dX3_begin_11 rfl ?_
  refine wa_putI dX3_begin_12 fgX3_30 fw3_2 (by first | assumption | rfl) (by rfl) ?_
  refine wa_aload_n dX3_begin_15 rfl ?_
  refine wa_getR dX3_begin_16 fgX3_9 (by first | assumption | rfl) (by rfl) ?_
  refine wa_iconst (nI 0) dX3_begin_19 (by decide) ?_
  refine wa_callS2 (k' := kJ7_fill_53178) (d' := _) dX3_begin_20 lmX3_33 ksJ7_fill_53178 (by decide) (by omega) (Nat.le_of_ble_eq_true rfl) ?_
  refine wp_fill (by assumption) ?_
  refine wa_aload_n dX3_begin_23 rfl ?_
  refine wa_getR dX3_begin_24 fgX3_15 (by first | assumption | rfl) (by rfl) ?_
  refine wa_iconst (nI 1) dX3_begin_27 (by decide) ?_
  refine wa_callS2 (k' := kJ7_fill_53178) (d' := _) dX3_begin_28 lmX3_33 ksJ7_fill_53178 (by decide) (by omega) (Nat.le_of_ble_eq_true rfl) ?_
  refine wp_fill (by assumption) ?_
  refine wa_vret dX3_begin_31 rfl ?_
  simp (disch := omega) only [sI_off, bI_off]; exact hQ
theorem wp_X3_isThere {d t : Nat} {μ : Mem} {Q : QM} (ht : isS t) (hb : μ.1 t 0 = nI 0 ∨ μ.1 t 0 = nI 1) (h1 : μ.1 t 0 = nI 1 → Q (some (.int (nI 1))) μ) (h0 : μ.1 t 0 = nI 0 → Q (some (.int (nI 0))) μ) : MW kX3_isThere d [.ref t] μ Q := by
  obtain ⟨hs0t, hs1t, hs2t, hs3t⟩ := isS_sh ht
  have hmt := isS_mod ht
  refine MW_of (by decide) [some (.ref t)] rfl (Nat.le_of_ble_eq_true rfl) ?_
  refine wa_aload_n dX3_isThere_0 rfl ?_
  refine wa_getI dX3_isThere_1 fgX3_22 (by first | assumption | rfl) (by rfl) ?_
  refine wa_zret dX3_isThere_4 rfl (by rcases hb with h | h <;> rw [h] <;> decide) ?_
  rcases hb with h | h
  · rw [h]; exact h0 h
  · rw [h]; exact h1 h
theorem wp_X3_size {d t : Nat} {μ : Mem} {Q : QM} (ht : isS t) (hQ : Q (some (.int (μ.1 t 2))) μ) : MW kX3_size d [.ref t] μ Q := by
  obtain ⟨hs0t, hs1t, hs2t, hs3t⟩ := isS_sh ht
  have hmt := isS_mod ht
  refine MW_of (by decide) [some (.ref t)] rfl (Nat.le_of_ble_eq_true rfl) ?_
  refine wa_aload_n dX3_size_0 rfl ?_
  refine wa_getI dX3_size_1 fgX3_30 (by first | assumption | rfl) (by rfl) ?_
  refine wa_iret dX3_size_4 rfl ?_
  exact hQ
theorem wp_X3_has {d t n : Nat} {i : Int32} {μ : Mem} {Q : QM} (ht : isS t) (hn : μ.1 t 2 = nI n) (hn64 : n ≤ 64) (h1 : ∀ j, j < n → i = nI j → Q (some (.int (nI 1))) μ) (h0 : (i.toInt < 0 ∨ (n : Int) ≤ i.toInt) → Q (some (.int (nI 0))) μ) : MW kX3_has d [.ref t, .int i] μ Q := by
  obtain ⟨hs0t, hs1t, hs2t, hs3t⟩ := isS_sh ht
  have hmt := isS_mod ht
  refine MW_of (by decide) [some (.ref t), some (.int i)] rfl (Nat.le_of_ble_eq_true rfl) ?_
  refine wa_iload_n dX3_has_0 rfl ?_
  refine wa_if_lt 16 dX3_has_1 (by decide) (fun c1_1 => ?_) (fun c1_1 => ?_)
  · try simp (disch := omega) only [nI_toInt, hn] at c1_1
    refine wa_iconst (nI 0) dX3_has_16 (by decide) ?_
    refine wa_zret dX3_has_17 rfl (by decide) ?_
    exact h0 (by omega)
  · try simp (disch := omega) only [nI_toInt, hn] at c1_1
    refine wa_iload_n dX3_has_4 rfl ?_
    refine wa_aload_n dX3_has_5 rfl ?_
    refine wa_getI dX3_has_6 fgX3_30 (by first | assumption | rfl) (by rfl) ?_
    refine wa_ic_ge 16 dX3_has_9 (by decide) (fun c9_2 => ?_) (fun c9_2 => ?_)
    · try simp (disch := omega) only [nI_toInt, hn] at c9_2
      refine wa_iconst (nI 0) dX3_has_16 (by decide) ?_
      refine wa_zret dX3_has_17 rfl (by decide) ?_
      exact h0 (by omega)
    · try simp (disch := omega) only [nI_toInt, hn] at c9_2
      refine wa_iconst (nI 1) dX3_has_12 (by decide) ?_
      refine wa_goto 17 dX3_has_13 (by decide) ?_
      refine wa_zret dX3_has_17 rfl (by decide) ?_
      obtain ⟨j, hj, e⟩ := nI_ex (x := i) (n := n) (by omega) (by omega) (by omega)
      exact h1 j hj e
/-- what fits a SORT -/
def fitsP (s v : Int) : Prop := (s = 0 → -128 ≤ v ∧ v ≤ 127) ∧ (s = 1 → -32768 ≤ v ∧ v ≤ 32767)
theorem wp_X3_fits {d t : Nat} {v : Int32} {μ : Mem} {Q : QM} (ht : isS t) (hs : μ.1 t 1 = nI 0 ∨ μ.1 t 1 = nI 1 ∨ μ.1 t 1 = nI 2) (h1 : fitsP (μ.1 t 1).toInt v.toInt → Q (some (.int (nI 1))) μ) (h0 : ¬ fitsP (μ.1 t 1).toInt v.toInt → Q (some (.int (nI 0))) μ) : MW kX3_fits d [.ref t, .int v] μ Q := by
  obtain ⟨hs0t, hs1t, hs2t, hs3t⟩ := isS_sh ht
  have hmt := isS_mod ht
  refine MW_of (by decide) [some (.ref t), some (.int v)] rfl (Nat.le_of_ble_eq_true rfl) ?_
  have e1 : (-128 : Int32).toInt = -128 := by decide
  have e2 : (-32768 : Int32).toInt = -32768 := by decide
  unfold fitsP at h1 h0
  rcases hs with hs | hs | hs
  · rw [hs, nI_0z] at h1 h0
    refine wa_aload_n dX3_fits_0 rfl ?_
    refine wa_getI dX3_fits_1 fgX3_26 (by first | assumption | rfl) (by rfl) ?_
    refine wa_ls (off := 28) 32 dX3_fits_4 (by decide) (by rw [hs]; decide) (by decide) ?_
    refine wa_iload_n dX3_fits_32 rfl ?_
    refine wa_bipush (-128) dX3_fits_33 (by decide) ?_
    refine wa_ic_lt 48 dX3_fits_35 (by decide) (fun c35_1 => ?_) (fun c35_1 => ?_)
    · try simp (disch := omega) only [nI_toInt, e1] at c35_1
      refine wa_iconst (nI 0) dX3_fits_48 (by decide) ?_
      refine wa_zret dX3_fits_49 rfl (by decide) ?_
      exact h0 (by omega)
    · try simp (disch := omega) only [nI_toInt, e1] at c35_1
      refine wa_iload_n dX3_fits_38 rfl ?_
      refine wa_bipush (nI 127) dX3_fits_39 (by decide) ?_
      refine wa_ic_gt 48 dX3_fits_41 (by decide) (fun c41_2 => ?_) (fun c41_2 => ?_)
      · try simp (disch := omega) only [nI_toInt, e1] at c41_2
        refine wa_iconst (nI 0) dX3_fits_48 (by decide) ?_
        refine wa_zret dX3_fits_49 rfl (by decide) ?_
        exact h0 (by omega)
      · try simp (disch := omega) only [nI_toInt, e1] at c41_2
        refine wa_iconst (nI 1) dX3_fits_44 (by decide) ?_
        refine wa_goto 49 dX3_fits_45 (by decide) ?_
        refine wa_zret dX3_fits_49 rfl (by decide) ?_
        exact h1 (by omega)
  · rw [hs, nI_1z] at h1 h0
    refine wa_aload_n dX3_fits_0 rfl ?_
    refine wa_getI dX3_fits_1 fgX3_26 (by first | assumption | rfl) (by rfl) ?_
    refine wa_ls (off := 46) 50 dX3_fits_4 (by decide) (by rw [hs]; decide) (by decide) ?_
    refine wa_iload_n dX3_fits_50 rfl ?_
    refine wa_sipush (-32768) dX3_fits_51 (by decide) ?_
    refine wa_ic_lt 68 dX3_fits_54 (by decide) (fun c54_1 => ?_) (fun c54_1 => ?_)
    · try simp (disch := omega) only [nI_toInt, e2] at c54_1
      refine wa_iconst (nI 0) dX3_fits_68 (by decide) ?_
      refine wa_zret dX3_fits_69 rfl (by decide) ?_
      exact h0 (by omega)
    · try simp (disch := omega) only [nI_toInt, e2] at c54_1
      refine wa_iload_n dX3_fits_57 rfl ?_
      refine wa_sipush (nI 32767) dX3_fits_58 (by decide) ?_
      refine wa_ic_gt 68 dX3_fits_61 (by decide) (fun c61_2 => ?_) (fun c61_2 => ?_)
      · try simp (disch := omega) only [nI_toInt, e2] at c61_2
        refine wa_iconst (nI 0) dX3_fits_68 (by decide) ?_
        refine wa_zret dX3_fits_69 rfl (by decide) ?_
        exact h0 (by omega)
      · try simp (disch := omega) only [nI_toInt, e2] at c61_2
        refine wa_iconst (nI 1) dX3_fits_64 (by decide) ?_
        refine wa_goto 69 dX3_fits_65 (by decide) ?_
        refine wa_zret dX3_fits_69 rfl (by decide) ?_
        exact h1 (by omega)
  · rw [hs, nI_2z] at h1 h0
    refine wa_aload_n dX3_fits_0 rfl ?_
    refine wa_getI dX3_fits_1 fgX3_26 (by first | assumption | rfl) (by rfl) ?_
    refine wa_ls (off := 66) 70 dX3_fits_4 (by decide) (by rw [hs]; decide) (by decide) ?_
    refine wa_iconst (nI 1) dX3_fits_70 (by decide) ?_
    refine wa_zret dX3_fits_71 rfl (by decide) ?_
    exact h1 (by omega)
theorem wp_X3_tell {d t j : Nat} {v : Int32} {μ : Mem} {Q : QM} (ht : isS t) (hj : j < 64) (hQ : Q none (sI (sI μ (t + 1) j v) (t + 2) j (nI 1))) : MW kX3_tell d [.ref t, .int (nI j), .int v] μ Q := by
  obtain ⟨hs0t, hs1t, hs2t, hs3t⟩ := isS_sh ht
  have hmt := isS_mod ht
  refine MW_of (by decide) [some (.ref t), some (.int (nI j)), some (.int v)] rfl (Nat.le_of_ble_eq_true rfl) ?_
  refine wa_aload_n dX3_tell_0 rfl ?_
  refine wa_getR dX3_tell_1 fgX3_9 (by first | assumption | rfl) (by rfl) ?_
  refine wa_iload_n dX3_tell_4 rfl ?_
  refine wa_iload_n dX3_tell_5 rfl ?_
  refine wa_iast _ dX3_tell_6 (by first | assumption | rfl) (by first | with_reducible rfl | with_reducible assumption | with_reducible exact ix_ma _ _ _ | with_reducible exact ix_maa _ _ _ _ | with_reducible exact ix_a _ _ | with_reducible exact ix_mama _ _ _ _ _) (by omega) ?_
  refine wa_aload_n dX3_tell_7 rfl ?_
  refine wa_getR dX3_tell_8 fgX3_15 (by first | assumption | rfl) (by rfl) ?_
  refine wa_iload_n dX3_tell_11 rfl ?_
  refine wa_iconst (nI 1) dX3_tell_12 (by decide) ?_
  refine wa_iast _ dX3_tell_13 (by first | assumption | rfl) (by first | with_reducible rfl | with_reducible assumption | with_reducible exact ix_ma _ _ _ | with_reducible exact ix_maa _ _ _ _ | with_reducible exact ix_a _ _ | with_reducible exact ix_mama _ _ _ _ _) (by omega) ?_
  refine wa_vret dX3_tell_14 rfl ?_
  exact hQ
theorem wp_X3_valueAt {d t j : Nat} {i : Int32} {μ : Mem} {Q : QM} (ht : isS t) (hi : i = nI j) (hj : j < 64) (hQ : Q (some (.int (μ.1 (t + 1) j))) μ) : MW kX3_valueAt d [.ref t, .int i] μ Q := by
  obtain ⟨hs0t, hs1t, hs2t, hs3t⟩ := isS_sh ht
  have hmt := isS_mod ht
  refine MW_of (by decide) [some (.ref t), some (.int i)] rfl (Nat.le_of_ble_eq_true rfl) ?_
  refine wa_aload_n dX3_valueAt_0 rfl ?_
  refine wa_getR dX3_valueAt_1 fgX3_9 (by first | assumption | rfl) (by rfl) ?_
  refine wa_iload_n dX3_valueAt_4 rfl ?_
  refine wa_iald _ dX3_valueAt_5 (by first | assumption | rfl) (by first | with_reducible rfl | with_reducible assumption | with_reducible exact ix_ma _ _ _ | with_reducible exact ix_maa _ _ _ _ | with_reducible exact ix_a _ _ | with_reducible exact ix_mama _ _ _ _ _) (by omega) ?_
  refine wa_iret dX3_valueAt_6 rfl ?_
  exact hQ
def cntN (f : Nat → Int32) (v : Int32) : Nat → Nat
  | 0 => 0
  | n + 1 => cntN f v n + (if (f n).toInt = v.toInt then 1 else 0)
theorem wp_X3_samplesThatStand {d t n : Nat} {s : Int32} {μ : Mem} {Q : QM} (ht : isS t) (hn : μ.1 t 2 = nI n) (hn64 : n ≤ 64) (hQ : Q (some (.int (nI (cntN (μ.1 (t + 2)) s n)))) μ) : MW kX3_samplesThatStand d [.ref t, .int s] μ Q := by
  obtain ⟨hs0t, hs1t, hs2t, hs3t⟩ := isS_sh ht
  have hmt := isS_mod ht
  refine MW_of (by decide) [some (.ref t), some (.int s), none, none] rfl (Nat.le_of_ble_eq_true rfl) ?_
  have loop : ∀ m i, i + m = n → WA kX3_samplesThatStand d Q 4 [some (.ref t), some (.int s), some (.int (nI (cntN (μ.1 (t + 2)) s i))), some (.int (nI i))] [] μ := by
    intro m
    induction m with
    | zero =>
      intro i hi
      obtain rfl : i = n := by omega
      refine wa_iload_n dX3_samplesThatStand_4 rfl ?_
      refine wa_aload_n dX3_samplesThatStand_5 rfl ?_
      refine wa_getI dX3_samplesThatStand_6 fgX3_30 (by first | assumption | rfl) (by rfl) ?_
      refine wa_ic_geT 31 dX3_samplesThatStand_9 (by decide) (by rw [hn]; exact le_nI (by omega) (by omega)) ?_
      refine wa_iload_n dX3_samplesThatStand_31 rfl ?_
      refine wa_iret dX3_samplesThatStand_32 rfl ?_
      exact hQ
    | succ m ih =>
      intro i hi
      have e := ih (i + 1) (by omega)
      refine wa_iload_n dX3_samplesThatStand_4 rfl ?_
      refine wa_aload_n dX3_samplesThatStand_5 rfl ?_
      refine wa_getI dX3_samplesThatStand_6 fgX3_30 (by first | assumption | rfl) (by rfl) ?_
      refine wa_ic_geF 31 dX3_samplesThatStand_9 (by decide) (by rw [hn]; exact nle_nI (by omega) (by omega)) ?_
      refine wa_aload_n dX3_samplesThatStand_12 rfl ?_
      refine wa_getR dX3_samplesThatStand_13 fgX3_15 (by first | assumption | rfl) (by rfl) ?_
      refine wa_iload_n dX3_samplesThatStand_16 rfl ?_
      refine wa_iald _ dX3_samplesThatStand_17 (by first | assumption | rfl) (by first | with_reducible rfl | with_reducible assumption | with_reducible exact ix_ma _ _ _ | with_reducible exact ix_maa _ _ _ _ | with_reducible exact ix_a _ _ | with_reducible exact ix_mama _ _ _ _ _) (by omega) ?_
      refine wa_iload_n dX3_samplesThatStand_18 rfl ?_
      refine wa_ic_ne 25 dX3_samplesThatStand_19 (by decide) (fun c19_1 => ?_) (fun c19_1 => ?_)
      · try simp (disch := omega) only [nI_toInt] at c19_1
        refine wa_iinc (nI 1) dX3_samplesThatStand_25 rfl (by decide) (by decide) ?_
        refine wa_goto 4 dX3_samplesThatStand_28 (by decide) ?_
        rw [cntN, if_neg (by assumption)] at e; simp only [nI_add]; exact e
      · try simp (disch := omega) only [nI_toInt] at c19_1
        refine wa_iinc (nI 1) dX3_samplesThatStand_22 rfl (by decide) (by decide) ?_
        refine wa_iinc (nI 1) dX3_samplesThatStand_25 rfl (by decide) (by decide) ?_
        refine wa_goto 4 dX3_samplesThatStand_28 (by decide) ?_
        rw [cntN, if_pos (by omega)] at e; simp only [nI_add]; exact e
  refine wa_iconst (nI 0) dX3_samplesThatStand_0 (by decide) ?_
  refine wa_istore_n dX3_samplesThatStand_1 (by decide) ?_
  refine wa_iconst (nI 0) dX3_samplesThatStand_2 (by decide) ?_
  refine wa_istore_n dX3_samplesThatStand_3 (by decide) ?_
  exact loop n 0 (by omega)
theorem wp_X3_lostSamples {d t n : Nat} {μ : Mem} {Q : QM} (ht : isS t) (hd : 1 ≤ d) (hn : μ.1 t 2 = nI n) (hn64 : n ≤ 64) (hQ : Q (some (.int (nI (cntN (μ.1 (t + 2)) (nI 0) n)))) μ) : MW kX3_lostSamples d [.ref t] μ Q := by
  obtain ⟨hs0t, hs1t, hs2t, hs3t⟩ := isS_sh ht
  have hmt := isS_mod ht
  refine MW_of (by decide) [some (.ref t)] rfl (Nat.le_of_ble_eq_true rfl) ?_
  refine wa_aload_n dX3_lostSamples_0 rfl ?_
  refine wa_iconst (nI 0) dX3_lostSamples_1 (by decide) ?_
  refine wa_callV1 (k' := kX3_samplesThatStand) (d' := 0) dX3_lostSamples_2 lmX3_79 kvX3_samplesThatStand (by first | assumption | rfl) (by rfl) (by decide) (by omega) (Nat.le_of_ble_eq_true rfl) ?_
  refine wp_X3_samplesThatStand (by assumption) (by assumption) (by assumption) ?_
  refine wa_iret dX3_lostSamples_5 rfl ?_
  exact hQ
end
section
/-! ROWS of the class: numbers -/
theorem wp_X5_isWithin {d : Nat} {v s : Int64} {μ : Mem} {Q : QM} (h1 : ((-s).toInt ≤ v.toInt ∧ v.toInt ≤ s.toInt) → Q (some (.int (nI 1))) μ) (h0 : ¬ ((-s).toInt ≤ v.toInt ∧ v.toInt ≤ s.toInt) → Q (some (.int (nI 0))) μ) : MW kX5_isWithin d [.long v, .long s] μ Q := by
  refine MW_of (by decide) [some (.long v), none, some (.long s), none] rfl (Nat.le_of_ble_eq_true rfl) ?_
  refine wa_lload_n dX5_isWithin_0 rfl ?_
  refine wa_lload_n dX5_isWithin_1 rfl ?_
  refine wa_lneg dX5_isWithin_2 ?_
  refine wa_lc_lt 17 dX5_isWithin_3 dX5_isWithin_4 (by decide) (fun c3_1 => ?_) (fun c3_1 => ?_)
  · try simp (disch := omega) only [nI_toInt] at c3_1
    refine wa_iconst (nI 0) dX5_isWithin_17 (by decide) ?_
    refine wa_zret dX5_isWithin_18 rfl (by decide) ?_
    exact h0 (by omega)
  · try simp (disch := omega) only [nI_toInt] at c3_1
    refine wa_lload_n dX5_isWithin_7 rfl ?_
    refine wa_lload_n dX5_isWithin_8 rfl ?_
    refine wa_lc_gt 17 dX5_isWithin_9 dX5_isWithin_10 (by decide) (fun c9_2 => ?_) (fun c9_2 => ?_)
    · try simp (disch := omega) only [nI_toInt] at c9_2
      refine wa_iconst (nI 0) dX5_isWithin_17 (by decide) ?_
      refine wa_zret dX5_isWithin_18 rfl (by decide) ?_
      exact h0 (by omega)
    · try simp (disch := omega) only [nI_toInt] at c9_2
      refine wa_iconst (nI 1) dX5_isWithin_13 (by decide) ?_
      refine wa_goto 18 dX5_isWithin_14 (by decide) ?_
      refine wa_zret dX5_isWithin_18 rfl (by decide) ?_
      exact h1 (by omega)
theorem wp_X2_size {d t : Nat} {μ : Mem} {Q : QM} (ht : isR t) (hQ : Q (some (.int (μ.1 t 0))) μ) : MW kX2_size d [.ref t] μ Q := by
  obtain ⟨hr0t, hr1t, hr2t, hr3t, hr4t⟩ := isR_sh ht
  have hmt := isR_mod ht
  refine MW_of (by decide) [some (.ref t)] rfl (Nat.le_of_ble_eq_true rfl) ?_
  refine wa_aload_n dX2_size_0 rfl ?_
  refine wa_getI dX2_size_1 fgX2_25 (by first | assumption | rfl) (by rfl) ?_
  refine wa_iret dX2_size_4 rfl ?_
  exact hQ
theorem wp_X2_valueAt {d t j : Nat} {i : Int32} {μ : Mem} {Q : QM} (ht : isR t) (hi : i = nI j) (hj : j < 64) (hQ : Q (some (.long (μ.2 (t + 1) j))) μ) : MW kX2_valueAt d [.ref t, .int i] μ Q := by
  obtain ⟨hr0t, hr1t, hr2t, hr3t, hr4t⟩ := isR_sh ht
  have hmt := isR_mod ht
  refine MW_of (by decide) [some (.ref t), some (.int i)] rfl (Nat.le_of_ble_eq_true rfl) ?_
  refine wa_aload_n dX2_valueAt_0 rfl ?_
  refine wa_getR dX2_valueAt_1 fgX2_9 (by first | assumption | rfl) (by rfl) ?_
  refine wa_iload_n dX2_valueAt_4 rfl ?_
  refine wa_lald _ dX2_valueAt_5 (by first | assumption | rfl) (by first | with_reducible rfl | with_reducible assumption | with_reducible exact ix_ma _ _ _ | with_reducible exact ix_maa _ _ _ _ | with_reducible exact ix_a _ _ | with_reducible exact ix_mama _ _ _ _ _) (by omega) ?_
  refine wa_lret dX2_valueAt_6 rfl ?_
  exact hQ
/-- g at places below m -/
def frF (g old : Nat → Int64) (m : Nat) : Nat → Int64 := fun b => if b < m then g b else old b
theorem frF_0 (g old : Nat → Int64) : frF g old 0 = old := by
  funext b
  simp [frF]
theorem frF_s (g old : Nat → Int64) (m : Nat) : vp_updL (frF g old m) m (g m) = frF g old (m + 1) := by
  funext b
  by_cases h : b = m
  · subst h
    simp [vp_updL, frF]
  · simp only [vp_updL, frF, h, if_false]
    congr 1
    exact propext ⟨fun q => by omega, fun q => by omega⟩
theorem wp_X2_take {d t u n : Nat} {μ : Mem} {Q : QM} (ht : isR t) (hu : isS u) (hd : 1 ≤ d) (hn : μ.1 u 2 = nI n) (hn64 : n ≤ 64) (hQ : Q none (bL (sI μ t 0 (nI n)) (t + 1) (frF (fun i => (μ.1 (u + 1) i).toInt64) (μ.2 (t + 1)) n))) : MW kX2_take d [.ref t, .ref u] μ Q := by
  obtain ⟨hr0t, hr1t, hr2t, hr3t, hr4t⟩ := isR_sh ht
  have hmt := isR_mod ht
  obtain ⟨hs0u, hs1u, hs2u, hs3u⟩ := isS_sh hu
  have hmu := isS_mod hu
  refine MW_of (by decide) [some (.ref t), some (.ref u), none] rfl (Nat.le_of_ble_eq_true rfl) ?_
  have loop : ∀ m i, i + m = n → WA kX2_take d Q 10 [some (.ref t), some (.ref u), some (.int (nI i))] [] (bL (sI μ t 0 (nI n)) (t + 1) (frF (fun i => (μ.1 (u + 1) i).toInt64) (μ.2 (t + 1)) i)) := by
    intro m
    induction m with
    | zero =>
      intro i hi
      obtain rfl : i = n := by omega
      refine wa_iload_n dX2_take_10 rfl ?_
      refine wa_aload_n dX2_take_11 rfl ?_
      refine wa_getI dX2_take_12 fgX2_25 (by first | assumption | rfl) (by rfl) ?_
      refine wa_ic_geT 36 dX2_take_15 (by decide) (by rw [rb2l, r1e]; exact le_nI (by omega) (by omega)) ?_
      refine wa_vret dX2_take_36 rfl ?_
      exact hQ
    | succ m ih =>
      intro i hi
      have e := ih (i + 1) (by omega)
      refine wa_iload_n dX2_take_10 rfl ?_
      refine wa_aload_n dX2_take_11 rfl ?_
      refine wa_getI dX2_take_12 fgX2_25 (by first | assumption | rfl) (by rfl) ?_
      refine wa_ic_geF 36 dX2_take_15 (by decide) (by rw [rb2l, r1e]; exact nle_nI (by omega) (by omega)) ?_
      refine wa_aload_n dX2_take_18 rfl ?_
      refine wa_getR dX2_take_19 fgX2_9 (by first | assumption | rfl) (by rfl) ?_
      refine wa_iload_n dX2_take_22 rfl ?_
      refine wa_aload_n dX2_take_23 rfl ?_
      refine wa_iload_n dX2_take_24 rfl ?_
      refine wa_callV1 (k' := kX3_valueAt) (d' := 0) dX2_take_25 lmX2_34 kvX3_valueAt (by first | assumption | rfl) (by rfl) (by decide) (by omega) (Nat.le_of_ble_eq_true rfl) ?_
      refine wp_X3_valueAt (by assumption) (by first | with_reducible rfl | assumption) (by omega) ?_
      refine wa_i2l dX2_take_28 ?_
      refine wa_last _ dX2_take_29 (by first | assumption | rfl) (by first | with_reducible rfl | with_reducible assumption | with_reducible exact ix_ma _ _ _ | with_reducible exact ix_maa _ _ _ _ | with_reducible exact ix_a _ _ | with_reducible exact ix_mama _ _ _ _ _) (by omega) ?_
      refine wa_iinc (nI 1) dX2_take_30 rfl (by decide) (by decide) ?_
      refine wa_goto 10 dX2_take_33 (by decide) ?_
      rw [sLb, rb2l, r1n (by omega)]
      have a1 := frF_s (fun i => (μ.1 (u + 1) i).toInt64) (μ.2 (t + 1)) i
      rw [a1]
      simp only [nI_add]
      exact e
  refine wa_aload_n dX2_take_0 rfl ?_
  refine wa_aload_n dX2_take_1 rfl ?_
  refine wa_callV0 (k' := kX3_size) (d' := 0) dX2_take_2 lmX2_29 kvX3_size (by first | assumption | rfl) (by rfl) (by decide) (by omega) (Nat.le_of_ble_eq_true rfl) ?_
  refine wp_X3_size (by assumption) ?_
  refine wa_putI dX2_take_5 fgX2_25 fw2_0 (by first | assumption | rfl) (by rfl) ?_
  refine wa_iconst (nI 0) dX2_take_8 (by decide) ?_
  refine wa_istore_n dX2_take_9 (by decide) ?_
  have e0 := loop n 0 (by omega)
  rw [frF_0, ← r1l (μ := μ) (t := t) (i := 0) (x := nI n), bL_self] at e0
  rw [hn]
  exact e0
def sumL (v : Nat → Int64) : Nat → Int64
  | 0 => 0
  | n + 1 => sumL v n + v n
theorem wp_X2_sum {d t n : Nat} {μ : Mem} {Q : QM} (ht : isR t) (hn : μ.1 t 0 = nI n) (hn64 : n ≤ 64) (hQ : Q (some (.long (sumL (μ.2 (t + 1)) n))) μ) : MW kX2_sum d [.ref t] μ Q := by
  obtain ⟨hr0t, hr1t, hr2t, hr3t, hr4t⟩ := isR_sh ht
  have hmt := isR_mod ht
  refine MW_of (by decide) [some (.ref t), none, none, none] rfl (Nat.le_of_ble_eq_true rfl) ?_
  have loop : ∀ m i, i + m = n → WA kX2_sum d Q 4 [some (.ref t), some (.long (sumL (μ.2 (t + 1)) i)), none, some (.int (nI i))] [] μ := by
    intro m
    induction m with
    | zero =>
      intro i hi
      obtain rfl : i = n := by omega
      refine wa_iload_n dX2_sum_4 rfl ?_
      refine wa_aload_n dX2_sum_5 rfl ?_
      refine wa_getI dX2_sum_6 fgX2_25 (by first | assumption | rfl) (by rfl) ?_
      refine wa_ic_geT 27 dX2_sum_9 (by decide) (by rw [hn]; exact le_nI (by omega) (by omega)) ?_
      refine wa_lload_n dX2_sum_27 rfl ?_
      refine wa_lret dX2_sum_28 rfl ?_
      exact hQ
    | succ m ih =>
      intro i hi
      have e := ih (i + 1) (by omega)
      refine wa_iload_n dX2_sum_4 rfl ?_
      refine wa_aload_n dX2_sum_5 rfl ?_
      refine wa_getI dX2_sum_6 fgX2_25 (by first | assumption | rfl) (by rfl) ?_
      refine wa_ic_geF 27 dX2_sum_9 (by decide) (by rw [hn]; exact nle_nI (by omega) (by omega)) ?_
      refine wa_lload_n dX2_sum_12 rfl ?_
      refine wa_aload_n dX2_sum_13 rfl ?_
      refine wa_getR dX2_sum_14 fgX2_9 (by first | assumption | rfl) (by rfl) ?_
      refine wa_iload_n dX2_sum_17 rfl ?_
      refine wa_lald _ dX2_sum_18 (by first | assumption | rfl) (by first | with_reducible rfl | with_reducible assumption | with_reducible exact ix_ma _ _ _ | with_reducible exact ix_maa _ _ _ _ | with_reducible exact ix_a _ _ | with_reducible exact ix_mama _ _ _ _ _) (by omega) ?_
      refine wa_ladd dX2_sum_19 ?_
      refine wa_lstore_n dX2_sum_20 (by decide) ?_
      refine wa_iinc (nI 1) dX2_sum_21 rfl (by decide) (by decide) ?_
      refine wa_goto 4 dX2_sum_24 (by decide) ?_
      simp only [nI_add]; exact e
  refine wa_lconst (0) dX2_sum_0 (by decide) ?_
  refine wa_lstore_n dX2_sum_1 (by decide) ?_
  refine wa_iconst (nI 0) dX2_sum_2 (by decide) ?_
  refine wa_istore_n dX2_sum_3 (by decide) ?_
  exact loop n 0 (by omega)
/-! what turn() makes -/
def gLev (v : Nat → Int64) (n i : Nat) : Int64 := (nI n).toInt64 * v i - sumL v n
theorem wp_X2_makeLevel {d t n : Nat} {μ : Mem} {Q : QM} (ht : isR t) (hd : 1 ≤ d) (hn : μ.1 t 0 = nI n) (hn64 : n ≤ 64) (hQ : Q none (bL μ (t + 2) (frF (gLev (μ.2 (t + 1)) n) (μ.2 (t + 2)) n))) : MW kX2_makeLevel d [.ref t] μ Q := by
  obtain ⟨hr0t, hr1t, hr2t, hr3t, hr4t⟩ := isR_sh ht
  have hmt := isR_mod ht
  refine MW_of (by decide) [some (.ref t), none, none, none] rfl (Nat.le_of_ble_eq_true rfl) ?_
  have loop : ∀ m i, i + m = n → WA kX2_makeLevel d Q 7 [some (.ref t), some (.long (sumL (μ.2 (t + 1)) n)), none, some (.int (nI i))] [] (bL μ (t + 2) (frF (gLev (μ.2 (t + 1)) n) (μ.2 (t + 2)) i)) := by
    intro m
    induction m with
    | zero =>
      intro i hi
      obtain rfl : i = n := by omega
      refine wa_iload_n dX2_makeLevel_7 rfl ?_
      refine wa_aload_n dX2_makeLevel_8 rfl ?_
      refine wa_getI dX2_makeLevel_9 fgX2_25 (by first | assumption | rfl) (by rfl) ?_
      refine wa_ic_geT 41 dX2_makeLevel_12 (by decide) (by rw [rb2l, hn]; exact le_nI (by omega) (by omega)) ?_
      refine wa_vret dX2_makeLevel_41 rfl ?_
      exact hQ
    | succ m ih =>
      intro i hi
      have e := ih (i + 1) (by omega)
      refine wa_iload_n dX2_makeLevel_7 rfl ?_
      refine wa_aload_n dX2_makeLevel_8 rfl ?_
      refine wa_getI dX2_makeLevel_9 fgX2_25 (by first | assumption | rfl) (by rfl) ?_
      refine wa_ic_geF 41 dX2_makeLevel_12 (by decide) (by rw [rb2l, hn]; exact nle_nI (by omega) (by omega)) ?_
      refine wa_aload_n dX2_makeLevel_15 rfl ?_
      refine wa_getR dX2_makeLevel_16 fgX2_15 (by first | assumption | rfl) (by rfl) ?_
      refine wa_iload_n dX2_makeLevel_19 rfl ?_
      refine wa_aload_n dX2_makeLevel_20 rfl ?_
      refine wa_getI dX2_makeLevel_21 fgX2_25 (by first | assumption | rfl) (by rfl) ?_
      refine wa_i2l dX2_makeLevel_24 ?_
      refine wa_aload_n dX2_makeLevel_25 rfl ?_
      refine wa_getR dX2_makeLevel_26 fgX2_9 (by first | assumption | rfl) (by rfl) ?_
      refine wa_iload_n dX2_makeLevel_29 rfl ?_
      refine wa_lald _ dX2_makeLevel_30 (by first | assumption | rfl) (by first | with_reducible rfl | with_reducible assumption | with_reducible exact ix_ma _ _ _ | with_reducible exact ix_maa _ _ _ _ | with_reducible exact ix_a _ _ | with_reducible exact ix_mama _ _ _ _ _) (by omega) ?_
      refine wa_lmul dX2_makeLevel_31 ?_
      refine wa_lload_n dX2_makeLevel_32 rfl ?_
      refine wa_lsub dX2_makeLevel_33 ?_
      refine wa_last _ dX2_makeLevel_34 (by first | assumption | rfl) (by first | with_reducible rfl | with_reducible assumption | with_reducible exact ix_ma _ _ _ | with_reducible exact ix_maa _ _ _ _ | with_reducible exact ix_a _ _ | with_reducible exact ix_mama _ _ _ _ _) (by omega) ?_
      refine wa_iinc (nI 1) dX2_makeLevel_35 rfl (by decide) (by decide) ?_
      refine wa_goto 7 dX2_makeLevel_38 (by decide) ?_
      rw [sLb, rb2l, hn, bL_off (by omega)]
      have a1 := frF_s (gLev (μ.2 (t + 1)) n) (μ.2 (t + 2)) i
      unfold gLev at a1
      unfold gLev
      rw [a1]
      simp only [nI_add]
      exact e
  refine wa_aload_n dX2_makeLevel_0 rfl ?_
  refine wa_callV0 (k' := kX2_sum) (d' := 0) dX2_makeLevel_1 lmX2_63 kvX2_sum (by first | assumption | rfl) (by rfl) (by decide) (by omega) (Nat.le_of_ble_eq_true rfl) ?_
  refine wp_X2_sum (by assumption) (by assumption) (by assumption) ?_
  refine wa_lstore_n dX2_makeLevel_4 (by decide) ?_
  refine wa_iconst (nI 0) dX2_makeLevel_5 (by decide) ?_
  refine wa_istore_n dX2_makeLevel_6 (by decide) ?_
  have e0 := loop n 0 (by omega)
  rw [frF_0, bL_self] at e0
  exact e0
def slpS (v : Nat → Int64) (N : Int64) : Nat → Int64
  | 0 => 0
  | k + 1 => slpS v N k + ((nI 2 * nI k).toInt64 - N + 1) * v k
def gFlat (v : Nat → Int64) (n i : Nat) : Int64 := (nI n).toInt64 * ((nI n).toInt64 * (nI n).toInt64 - 1) * v i - ((nI n).toInt64 * (nI n).toInt64 - 1) * sumL v n - 3 * ((nI 2 * nI i).toInt64 - (nI n).toInt64 + 1) * slpS v (nI n).toInt64 n
theorem wp_X2_makeFlat {d t n : Nat} {μ : Mem} {Q : QM} (ht : isR t) (hd : 1 ≤ d) (hn : μ.1 t 0 = nI n) (hn64 : n ≤ 64) (hQ : Q none (bL μ (t + 2) (frF (gFlat (μ.2 (t + 1)) n) (μ.2 (t + 2)) n))) : MW kX2_makeFlat d [.ref t] μ Q := by
  obtain ⟨hr0t, hr1t, hr2t, hr3t, hr4t⟩ := isR_sh ht
  have hmt := isR_mod ht
  refine MW_of (by decide) [some (.ref t), none, none, none, none, none, none, none, none, none] rfl (Nat.le_of_ble_eq_true rfl) ?_
  have loop2 : ∀ m i, i + m = n → WA kX2_makeFlat d Q 64 [some (.ref t), some (.long (nI n).toInt64), none, some (.long ((nI n).toInt64 * (nI n).toInt64 - 1)), none, some (.long (sumL (μ.2 (t + 1)) n)), none, some (.long (slpS (μ.2 (t + 1)) (nI n).toInt64 n)), none, some (.int (nI i))] [] (bL μ (t + 2) (frF (gFlat (μ.2 (t + 1)) n) (μ.2 (t + 2)) i)) := by
    intro m
    induction m with
    | zero =>
      intro i hi
      obtain rfl : i = n := by omega
      refine wa_iload dX2_makeFlat_64 rfl ?_
      refine wa_aload_n dX2_makeFlat_66 rfl ?_
      refine wa_getI dX2_makeFlat_67 fgX2_25 (by first | assumption | rfl) (by rfl) ?_
      refine wa_ic_geT 119 dX2_makeFlat_70 (by decide) (by rw [rb2l, hn]; exact le_nI (by omega) (by omega)) ?_
      refine wa_vret dX2_makeFlat_119 rfl ?_
      exact hQ
    | succ m ih =>
      intro i hi
      have e := ih (i + 1) (by omega)
      refine wa_iload dX2_makeFlat_64 rfl ?_
      refine wa_aload_n dX2_makeFlat_66 rfl ?_
      refine wa_getI dX2_makeFlat_67 fgX2_25 (by first | assumption | rfl) (by rfl) ?_
      refine wa_ic_geF 119 dX2_makeFlat_70 (by decide) (by rw [rb2l, hn]; exact nle_nI (by omega) (by omega)) ?_
      refine wa_aload_n dX2_makeFlat_73 rfl ?_
      refine wa_getR dX2_makeFlat_74 fgX2_15 (by first | assumption | rfl) (by rfl) ?_
      refine wa_iload dX2_makeFlat_77 rfl ?_
      refine wa_lload_n dX2_makeFlat_79 rfl ?_
      refine wa_lload_n dX2_makeFlat_80 rfl ?_
      refine wa_lmul dX2_makeFlat_81 ?_
      refine wa_aload_n dX2_makeFlat_82 rfl ?_
      refine wa_getR dX2_makeFlat_83 fgX2_9 (by first | assumption | rfl) (by rfl) ?_
      refine wa_iload dX2_makeFlat_86 rfl ?_
      refine wa_lald _ dX2_makeFlat_88 (by first | assumption | rfl) (by first | with_reducible rfl | with_reducible assumption | with_reducible exact ix_ma _ _ _ | with_reducible exact ix_maa _ _ _ _ | with_reducible exact ix_a _ _ | with_reducible exact ix_mama _ _ _ _ _) (by omega) ?_
      refine wa_lmul dX2_makeFlat_89 ?_
      refine wa_lload_n dX2_makeFlat_90 rfl ?_
      refine wa_lload dX2_makeFlat_91 rfl ?_
      refine wa_lmul dX2_makeFlat_93 ?_
      refine wa_lsub dX2_makeFlat_94 ?_
      refine wa_ldc2 (3) dX2_makeFlat_95 lcX2_67 ?_
      refine wa_iconst (nI 2) dX2_makeFlat_98 (by decide) ?_
      refine wa_iload dX2_makeFlat_99 rfl ?_
      refine wa_imul dX2_makeFlat_101 ?_
      refine wa_i2l dX2_makeFlat_102 ?_
      refine wa_lload_n dX2_makeFlat_103 rfl ?_
      refine wa_lsub dX2_makeFlat_104 ?_
      refine wa_lconst (1) dX2_makeFlat_105 (by decide) ?_
      refine wa_ladd dX2_makeFlat_106 ?_
      refine wa_lmul dX2_makeFlat_107 ?_
      refine wa_lload dX2_makeFlat_108 rfl ?_
      refine wa_lmul dX2_makeFlat_110 ?_
      refine wa_lsub dX2_makeFlat_111 ?_
      refine wa_last _ dX2_makeFlat_112 (by first | assumption | rfl) (by first | with_reducible rfl | with_reducible assumption | with_reducible exact ix_ma _ _ _ | with_reducible exact ix_maa _ _ _ _ | with_reducible exact ix_a _ _ | with_reducible exact ix_mama _ _ _ _ _) (by omega) ?_
      refine wa_iinc (nI 1) dX2_makeFlat_113 rfl (by decide) (by decide) ?_
      refine wa_goto 64 dX2_makeFlat_116 (by decide) ?_
      rw [sLb, bL_off (by omega)]
      have a1 := frF_s (gFlat (μ.2 (t + 1)) n) (μ.2 (t + 2)) i
      unfold gFlat at a1
      unfold gFlat
      rw [a1]
      simp only [nI_add]
      exact e
  have loop1 : ∀ m i, i + m = n → WA kX2_makeFlat d Q 24 [some (.ref t), some (.long (nI n).toInt64), none, some (.long ((nI n).toInt64 * (nI n).toInt64 - 1)), none, some (.long (sumL (μ.2 (t + 1)) n)), none, some (.long (slpS (μ.2 (t + 1)) (nI n).toInt64 i)), none, some (.int (nI i))] [] μ := by
    intro m
    induction m with
    | zero =>
      intro i hi
      obtain rfl : i = n := by omega
      refine wa_iload dX2_makeFlat_24 rfl ?_
      refine wa_aload_n dX2_makeFlat_26 rfl ?_
      refine wa_getI dX2_makeFlat_27 fgX2_25 (by first | assumption | rfl) (by rfl) ?_
      refine wa_ic_geT 61 dX2_makeFlat_30 (by decide) (by rw [hn]; exact le_nI (by omega) (by omega)) ?_
      refine wa_iconst (nI 0) dX2_makeFlat_61 (by decide) ?_
      refine wa_istore dX2_makeFlat_62 (by decide) ?_
      have e0 := loop2 i 0 (by omega)
      rw [frF_0, bL_self] at e0
      exact e0
    | succ m ih =>
      intro i hi
      have e := ih (i + 1) (by omega)
      refine wa_iload dX2_makeFlat_24 rfl ?_
      refine wa_aload_n dX2_makeFlat_26 rfl ?_
      refine wa_getI dX2_makeFlat_27 fgX2_25 (by first | assumption | rfl) (by rfl) ?_
      refine wa_ic_geF 61 dX2_makeFlat_30 (by decide) (by rw [hn]; exact nle_nI (by omega) (by omega)) ?_
      refine wa_lload dX2_makeFlat_33 rfl ?_
      refine wa_iconst (nI 2) dX2_makeFlat_35 (by decide) ?_
      refine wa_iload dX2_makeFlat_36 rfl ?_
      refine wa_imul dX2_makeFlat_38 ?_
      refine wa_i2l dX2_makeFlat_39 ?_
      refine wa_lload_n dX2_makeFlat_40 rfl ?_
      refine wa_lsub dX2_makeFlat_41 ?_
      refine wa_lconst (1) dX2_makeFlat_42 (by decide) ?_
      refine wa_ladd dX2_makeFlat_43 ?_
      refine wa_aload_n dX2_makeFlat_44 rfl ?_
      refine wa_getR dX2_makeFlat_45 fgX2_9 (by first | assumption | rfl) (by rfl) ?_
      refine wa_iload dX2_makeFlat_48 rfl ?_
      refine wa_lald _ dX2_makeFlat_50 (by first | assumption | rfl) (by first | with_reducible rfl | with_reducible assumption | with_reducible exact ix_ma _ _ _ | with_reducible exact ix_maa _ _ _ _ | with_reducible exact ix_a _ _ | with_reducible exact ix_mama _ _ _ _ _) (by omega) ?_
      refine wa_lmul dX2_makeFlat_51 ?_
      refine wa_ladd dX2_makeFlat_52 ?_
      refine wa_lstore dX2_makeFlat_53 (by decide) ?_
      refine wa_iinc (nI 1) dX2_makeFlat_55 rfl (by decide) (by decide) ?_
      refine wa_goto 24 dX2_makeFlat_58 (by decide) ?_
      rw [slpS] at e; simp only [nI_add]; exact e
  refine wa_aload_n dX2_makeFlat_0 rfl ?_
  refine wa_getI dX2_makeFlat_1 fgX2_25 (by first | assumption | rfl) (by rfl) ?_
  refine wa_i2l dX2_makeFlat_4 ?_
  refine wa_lstore_n dX2_makeFlat_5 (by decide) ?_
  refine wa_lload_n dX2_makeFlat_6 rfl ?_
  refine wa_lload_n dX2_makeFlat_7 rfl ?_
  refine wa_lmul dX2_makeFlat_8 ?_
  refine wa_lconst (1) dX2_makeFlat_9 (by decide) ?_
  refine wa_lsub dX2_makeFlat_10 ?_
  refine wa_lstore_n dX2_makeFlat_11 (by decide) ?_
  refine wa_aload_n dX2_makeFlat_12 rfl ?_
  refine wa_callV0 (k' := kX2_sum) (d' := 0) dX2_makeFlat_13 lmX2_63 kvX2_sum (by first | assumption | rfl) (by rfl) (by decide) (by omega) (Nat.le_of_ble_eq_true rfl) ?_
  refine wp_X2_sum (by assumption) (by assumption) (by assumption) ?_
  refine wa_lstore dX2_makeFlat_16 (by decide) ?_
  refine wa_lconst (0) dX2_makeFlat_18 (by decide) ?_
  refine wa_lstore dX2_makeFlat_19 (by decide) ?_
  refine wa_iconst (nI 0) dX2_makeFlat_21 (by decide) ?_
  refine wa_istore dX2_makeFlat_22 (by decide) ?_
  rw [hn]; exact loop1 n 0 (by omega)
def oncS (v : Nat → Int64) : Nat → Int64
  | 0 => 0
  | i + 1 => oncS v i + v i
def twcS (v : Nat → Int64) : Nat → Int64
  | 0 => 0
  | i + 1 => twcS v i + oncS v (i + 1)
def gTwi (v : Nat → Int64) (n i : Nat) : Int64 := (nI n - nI 1).toInt64 * twcS v i - (nI i).toInt64 * twcS v (n - 1)
theorem wp_X2_makeTwice {d t n : Nat} {μ : Mem} {Q : QM} (ht : isR t) (hn : μ.1 t 0 = nI n) (hn64 : n ≤ 64) (hn2 : 2 ≤ n) (hQ : Q none (bL μ (t + 2) (frF (gTwi (μ.2 (t + 1)) n) (μ.2 (t + 2)) n))) : MW kX2_makeTwice d [.ref t] μ Q := by
  obtain ⟨hr0t, hr1t, hr2t, hr3t, hr4t⟩ := isR_sh ht
  have hmt := isR_mod ht
  refine MW_of (by decide) [some (.ref t), none, none, none, none, none, none, none] rfl (Nat.le_of_ble_eq_true rfl) ?_
  have loop2 : ∀ m i, i + m = n → WA kX2_makeTwice d Q 71 [some (.ref t), none, none, none, none, some (.long (twcS (μ.2 (t + 1)) (n - 1))), none, some (.int (nI i))] [] (bL μ (t + 2) (frF (gTwi (μ.2 (t + 1)) n) (frF (twcS (μ.2 (t + 1))) (μ.2 (t + 2)) n) i)) := by
    intro m
    induction m with
    | zero =>
      intro i hi
      obtain rfl : i = n := by omega
      refine wa_iload dX2_makeTwice_71 rfl ?_
      refine wa_aload_n dX2_makeTwice_73 rfl ?_
      refine wa_getI dX2_makeTwice_74 fgX2_25 (by first | assumption | rfl) (by rfl) ?_
      refine wa_ic_geT 115 dX2_makeTwice_77 (by decide) (by rw [rb2l, hn]; exact le_nI (by omega) (by omega)) ?_
      refine wa_vret dX2_makeTwice_115 rfl ?_
      have a1 : frF (gTwi (μ.2 (t + 1)) i) (frF (twcS (μ.2 (t + 1))) (μ.2 (t + 2)) i) i = frF (gTwi (μ.2 (t + 1)) i) (μ.2 (t + 2)) i := by
        funext b
        simp only [frF]
        by_cases hb : b < i <;> simp [hb]
      rw [a1]
      exact hQ
    | succ m ih =>
      intro i hi
      have e := ih (i + 1) (by omega)
      refine wa_iload dX2_makeTwice_71 rfl ?_
      refine wa_aload_n dX2_makeTwice_73 rfl ?_
      refine wa_getI dX2_makeTwice_74 fgX2_25 (by first | assumption | rfl) (by rfl) ?_
      refine wa_ic_geF 115 dX2_makeTwice_77 (by decide) (by rw [rb2l, hn]; exact nle_nI (by omega) (by omega)) ?_
      refine wa_aload_n dX2_makeTwice_80 rfl ?_
      refine wa_getR dX2_makeTwice_81 fgX2_15 (by first | assumption | rfl) (by rfl) ?_
      refine wa_iload dX2_makeTwice_84 rfl ?_
      refine wa_aload_n dX2_makeTwice_86 rfl ?_
      refine wa_getI dX2_makeTwice_87 fgX2_25 (by first | assumption | rfl) (by rfl) ?_
      refine wa_iconst (nI 1) dX2_makeTwice_90 (by decide) ?_
      refine wa_isub dX2_makeTwice_91 ?_
      refine wa_i2l dX2_makeTwice_92 ?_
      refine wa_aload_n dX2_makeTwice_93 rfl ?_
      refine wa_getR dX2_makeTwice_94 fgX2_15 (by first | assumption | rfl) (by rfl) ?_
      refine wa_iload dX2_makeTwice_97 rfl ?_
      refine wa_lald _ dX2_makeTwice_99 (by first | assumption | rfl) (by first | with_reducible rfl | with_reducible assumption | with_reducible exact ix_ma _ _ _ | with_reducible exact ix_maa _ _ _ _ | with_reducible exact ix_a _ _ | with_reducible exact ix_mama _ _ _ _ _) (by omega) ?_
      refine wa_lmul dX2_makeTwice_100 ?_
      refine wa_iload dX2_makeTwice_101 rfl ?_
      refine wa_i2l dX2_makeTwice_103 ?_
      refine wa_lload dX2_makeTwice_104 rfl ?_
      refine wa_lmul dX2_makeTwice_106 ?_
      refine wa_lsub dX2_makeTwice_107 ?_
      refine wa_last _ dX2_makeTwice_108 (by first | assumption | rfl) (by first | with_reducible rfl | with_reducible assumption | with_reducible exact ix_ma _ _ _ | with_reducible exact ix_maa _ _ _ _ | with_reducible exact ix_a _ _ | with_reducible exact ix_mama _ _ _ _ _) (by omega) ?_
      refine wa_iinc (nI 1) dX2_makeTwice_109 rfl (by decide) (by decide) ?_
      refine wa_goto 71 dX2_makeTwice_112 (by decide) ?_
      rw [sLb, rb2l, hn, rb2e]
      have a0 : frF (gTwi (μ.2 (t + 1)) n) (frF (twcS (μ.2 (t + 1))) (μ.2 (t + 2)) n) i i = twcS (μ.2 (t + 1)) i := by
        simp only [frF]
        rw [if_neg (by omega), if_pos (by omega)]
      have a1 := frF_s (gTwi (μ.2 (t + 1)) n) (frF (twcS (μ.2 (t + 1))) (μ.2 (t + 2)) n) i
      rw [a0]
      unfold gTwi at a1
      unfold gTwi
      rw [a1]
      simp only [nI_add]
      exact e
  have loop1 : ∀ m i, i + m = n → WA kX2_makeTwice d Q 7 [some (.ref t), some (.long (oncS (μ.2 (t + 1)) i)), none, some (.long (twcS (μ.2 (t + 1)) i)), none, some (.int (nI i)), none, none] [] (bL μ (t + 2) (frF (twcS (μ.2 (t + 1))) (μ.2 (t + 2)) i)) := by
    intro m
    induction m with
    | zero =>
      intro i hi
      obtain rfl : i = n := by omega
      refine wa_iload dX2_makeTwice_7 rfl ?_
      refine wa_aload_n dX2_makeTwice_9 rfl ?_
      refine wa_getI dX2_makeTwice_10 fgX2_25 (by first | assumption | rfl) (by rfl) ?_
      refine wa_ic_geT 44 dX2_makeTwice_13 (by decide) (by rw [rb2l, hn]; exact le_nI (by omega) (by omega)) ?_
      refine wa_aload_n dX2_makeTwice_44 rfl ?_
      refine wa_getI dX2_makeTwice_45 fgX2_25 (by first | assumption | rfl) (by rfl) ?_
      refine wa_if_leF 65 dX2_makeTwice_48 (by decide) (by rw [rb2l, hn, nI_toInt (by omega)]; omega) ?_
      refine wa_aload_n dX2_makeTwice_51 rfl ?_
      refine wa_getR dX2_makeTwice_52 fgX2_15 (by first | assumption | rfl) (by rfl) ?_
      refine wa_aload_n dX2_makeTwice_55 rfl ?_
      refine wa_getI dX2_makeTwice_56 fgX2_25 (by first | assumption | rfl) (by rfl) ?_
      refine wa_iconst (nI 1) dX2_makeTwice_59 (by decide) ?_
      refine wa_isub dX2_makeTwice_60 ?_
      refine wa_lald _ dX2_makeTwice_61 (by first | assumption | rfl) (by rw [rb2l, hn]; exact pk_sub (a := i) (b := 1) (by omega)) (by omega) ?_
      refine wa_goto 66 dX2_makeTwice_62 (by decide) ?_
      refine wa_lstore dX2_makeTwice_66 (by decide) ?_
      refine wa_iconst (nI 0) dX2_makeTwice_68 (by decide) ?_
      refine wa_istore dX2_makeTwice_69 (by decide) ?_
      have e0 := loop2 i 0 (by omega)
      rw [frF_0] at e0
      rw [rb2e, show frF (twcS (μ.2 (t + 1))) (μ.2 (t + 2)) i (i - 1) = twcS (μ.2 (t + 1)) (i - 1) by simp only [frF]; rw [if_pos (by omega)]]
      refine WA.frg [true, false, false, false, false, true, true, true] ?_
      exact e0
    | succ m ih =>
      intro i hi
      have e := ih (i + 1) (by omega)
      refine wa_iload dX2_makeTwice_7 rfl ?_
      refine wa_aload_n dX2_makeTwice_9 rfl ?_
      refine wa_getI dX2_makeTwice_10 fgX2_25 (by first | assumption | rfl) (by rfl) ?_
      refine wa_ic_geF 44 dX2_makeTwice_13 (by decide) (by rw [rb2l, hn]; exact nle_nI (by omega) (by omega)) ?_
      refine wa_aload_n dX2_makeTwice_16 rfl ?_
      refine wa_getR dX2_makeTwice_17 fgX2_15 (by first | assumption | rfl) (by rfl) ?_
      refine wa_iload dX2_makeTwice_20 rfl ?_
      refine wa_lload_n dX2_makeTwice_22 rfl ?_
      refine wa_last _ dX2_makeTwice_23 (by first | assumption | rfl) (by first | with_reducible rfl | with_reducible assumption | with_reducible exact ix_ma _ _ _ | with_reducible exact ix_maa _ _ _ _ | with_reducible exact ix_a _ _ | with_reducible exact ix_mama _ _ _ _ _) (by omega) ?_
      refine wa_lload_n dX2_makeTwice_24 rfl ?_
      refine wa_aload_n dX2_makeTwice_25 rfl ?_
      refine wa_getR dX2_makeTwice_26 fgX2_9 (by first | assumption | rfl) (by rfl) ?_
      refine wa_iload dX2_makeTwice_29 rfl ?_
      refine wa_lald _ dX2_makeTwice_31 (by first | assumption | rfl) (by first | with_reducible rfl | with_reducible assumption | with_reducible exact ix_ma _ _ _ | with_reducible exact ix_maa _ _ _ _ | with_reducible exact ix_a _ _ | with_reducible exact ix_mama _ _ _ _ _) (by omega) ?_
      refine wa_ladd dX2_makeTwice_32 ?_
      refine wa_lstore_n dX2_makeTwice_33 (by decide) ?_
      refine wa_lload_n dX2_makeTwice_34 rfl ?_
      refine wa_lload_n dX2_makeTwice_35 rfl ?_
      refine wa_ladd dX2_makeTwice_36 ?_
      refine wa_lstore_n dX2_makeTwice_37 (by decide) ?_
      refine wa_iinc (nI 1) dX2_makeTwice_38 rfl (by decide) (by decide) ?_
      refine wa_goto 7 dX2_makeTwice_41 (by decide) ?_
      rw [sLb, frF_s, bL_off (by omega)]
      rw [twcS, oncS] at e
      simp only [nI_add]
      exact e
  refine wa_lconst (0) dX2_makeTwice_0 (by decide) ?_
  refine wa_lstore_n dX2_makeTwice_1 (by decide) ?_
  refine wa_lconst (0) dX2_makeTwice_2 (by decide) ?_
  refine wa_lstore_n dX2_makeTwice_3 (by decide) ?_
  refine wa_iconst (nI 0) dX2_makeTwice_4 (by decide) ?_
  refine wa_istore dX2_makeTwice_5 (by decide) ?_
  have e0 := loop1 n 0 (by omega)
  rw [frF_0, bL_self] at e0
  exact e0
end
section
/-! ROWS of the class: TONES, and what is done with numbers -/
def tmF (g : Int32) : Nat → Int32
  | 0 => nI 0
  | b + 1 => (tmF g b <<< (nI 1 &&& 31)) ||| ((g >>> (nI b &&& 31)) &&& nI 1)
def grI (k : Nat) : Int32 := nI k ^^^ (nI k >>> (nI 1 &&& 31))
theorem shl1 : ∀ b, b < 7 → (nI 1 <<< (nI b &&& 31)).toInt = ((2 ^ b : Nat) : Int) := by decide
theorem wp_X2_toneMask {d t p k : Nat} {μ : Mem} {Q : QM} (ht : isR t) (hn : μ.1 t 0 = nI (2 ^ p)) (hp : p ≤ 6) (hQ : Q (some (.int (tmF (grI k) p))) μ) : MW kX2_toneMask d [.ref t, .int (nI k)] μ Q := by
  obtain ⟨hr0t, hr1t, hr2t, hr3t, hr4t⟩ := isR_sh ht
  have hmt := isR_mod ht
  refine MW_of (by decide) [some (.ref t), some (.int (nI k)), none, none, none] rfl (Nat.le_of_ble_eq_true rfl) ?_
  have hpp : ∀ b, b ≤ 6 → 2 ^ b < 2 ^ 31 := by decide
  have hz := hpp p hp
  have loop : ∀ m b, b + m = p → WA kX2_toneMask d Q 11 [some (.ref t), some (.int (nI k)), some (.int (grI k)), some (.int (tmF (grI k) b)), some (.int (nI b))] [] μ := by
    intro m
    induction m with
    | zero =>
      intro b hb
      obtain rfl : b = p := by omega
      by_cases h6 : b = 6
      · refine wa_iload dX2_toneMask_11 rfl ?_
        refine wa_bipush (nI 6) dX2_toneMask_13 (by decide) ?_
        refine wa_ic_geT 46 dX2_toneMask_15 (by decide) (le_nI (by omega) (by omega)) ?_
        refine wa_iload_n dX2_toneMask_46 rfl ?_
        refine wa_iret dX2_toneMask_47 rfl ?_
        exact hQ
      · refine wa_iload dX2_toneMask_11 rfl ?_
        refine wa_bipush (nI 6) dX2_toneMask_13 (by decide) ?_
        refine wa_ic_geF 46 dX2_toneMask_15 (by decide) (nle_nI (by omega) (by omega)) ?_
        refine wa_iconst (nI 1) dX2_toneMask_18 (by decide) ?_
        refine wa_iload dX2_toneMask_19 rfl ?_
        refine wa_ishl dX2_toneMask_21 ?_
        refine wa_aload_n dX2_toneMask_22 rfl ?_
        refine wa_getI dX2_toneMask_23 fgX2_25 (by first | assumption | rfl) (by rfl) ?_
        refine wa_ic_geT 46 dX2_toneMask_26 (by decide) (by rw [hn, shl1 b (by omega), nI_toInt hz]; omega) ?_
        refine wa_iload_n dX2_toneMask_46 rfl ?_
        refine wa_iret dX2_toneMask_47 rfl ?_
        exact hQ
    | succ m ih =>
      intro b hb
      have e := ih (b + 1) (by omega)
      have hlt : 2 ^ b < 2 ^ p := Nat.pow_lt_pow_right (by omega) (by omega)
      refine wa_iload dX2_toneMask_11 rfl ?_
      refine wa_bipush (nI 6) dX2_toneMask_13 (by decide) ?_
      refine wa_ic_geF 46 dX2_toneMask_15 (by decide) (nle_nI (by omega) (by omega)) ?_
      refine wa_iconst (nI 1) dX2_toneMask_18 (by decide) ?_
      refine wa_iload dX2_toneMask_19 rfl ?_
      refine wa_ishl dX2_toneMask_21 ?_
      refine wa_aload_n dX2_toneMask_22 rfl ?_
      refine wa_getI dX2_toneMask_23 fgX2_25 (by first | assumption | rfl) (by rfl) ?_
      refine wa_ic_geF 46 dX2_toneMask_26 (by decide) (by rw [hn, shl1 b (by omega), nI_toInt hz]; omega) ?_
      refine wa_iload_n dX2_toneMask_29 rfl ?_
      refine wa_iconst (nI 1) dX2_toneMask_30 (by decide) ?_
      refine wa_ishl dX2_toneMask_31 ?_
      refine wa_iload_n dX2_toneMask_32 rfl ?_
      refine wa_iload dX2_toneMask_33 rfl ?_
      refine wa_ishr dX2_toneMask_35 ?_
      refine wa_iconst (nI 1) dX2_toneMask_36 (by decide) ?_
      refine wa_iand dX2_toneMask_37 ?_
      refine wa_ior dX2_toneMask_38 ?_
      refine wa_istore_n dX2_toneMask_39 (by decide) ?_
      refine wa_iinc (nI 1) dX2_toneMask_40 rfl (by decide) (by decide) ?_
      refine wa_goto 11 dX2_toneMask_43 (by decide) ?_
      rw [tmF] at e; simp only [nI_add]; exact e
  refine wa_iload_n dX2_toneMask_0 rfl ?_
  refine wa_iload_n dX2_toneMask_1 rfl ?_
  refine wa_iconst (nI 1) dX2_toneMask_2 (by decide) ?_
  refine wa_ishr dX2_toneMask_3 ?_
  refine wa_ixor dX2_toneMask_4 ?_
  refine wa_istore_n dX2_toneMask_5 (by decide) ?_
  refine wa_iconst (nI 0) dX2_toneMask_6 (by decide) ?_
  refine wa_istore_n dX2_toneMask_7 (by decide) ?_
  refine wa_iconst (nI 0) dX2_toneMask_8 (by decide) ?_
  refine wa_istore dX2_toneMask_9 (by decide) ?_
  exact loop p 0 (by omega)
def oddB (i : Nat) (mask : Int32) : Bool := decide ((bcI (nI i &&& mask) &&& nI 1).toInt = 1)
def tonS (v : Nat → Int64) (mask : Int32) : Nat → Int64
  | 0 => 0
  | i + 1 => tonS v mask i + (if oddB i mask = true then -(v i) else v i)
def gTon (v : Nat → Int64) (n p k : Nat) : Int64 := tonS v (tmF (grI k) p) n
theorem wp_X2_makeTones {d t n p : Nat} {μ : Mem} {Q : QM} (ht : isR t) (hd : 1 ≤ d) (hn : μ.1 t 0 = nI n) (hnp : n = 2 ^ p) (hp : p ≤ 6) (hn64 : n ≤ 64) (hQ : Q none (bL μ (t + 2) (frF (gTon (μ.2 (t + 1)) n p) (μ.2 (t + 2)) n))) : MW kX2_makeTones d [.ref t] μ Q := by
  obtain ⟨hr0t, hr1t, hr2t, hr3t, hr4t⟩ := isR_sh ht
  have hmt := isR_mod ht
  refine MW_of (by decide) [some (.ref t), none, none, none, none, none, none] rfl (Nat.le_of_ble_eq_true rfl) ?_
  have hn' : ∀ F, (bL μ (t + 2) F).1 t 0 = nI (2 ^ p) := fun F => by rw [rb2l, hn, hnp]
  have inner : ∀ k, k < n → WA kX2_makeTones d Q 2 [some (.ref t), some (.int (nI (k + 1))), none, none, none, none, none] [] (bL μ (t + 2) (frF (gTon (μ.2 (t + 1)) n p) (μ.2 (t + 2)) (k + 1))) → ∀ m i, i + m = n → WA kX2_makeTones d Q 21 [some (.ref t), some (.int (nI k)), some (.int (tmF (grI k) p)), some (.long (tonS (μ.2 (t + 1)) (tmF (grI k) p) i)), none, some (.int (nI i)), none] [] (bL μ (t + 2) (frF (gTon (μ.2 (t + 1)) n p) (μ.2 (t + 2)) k)) := by
    intro k hk K m
    induction m with
    | zero =>
      intro i hi
      obtain rfl : i = n := by omega
      refine wa_iload dX2_makeTones_21 rfl ?_
      refine wa_aload_n dX2_makeTones_23 rfl ?_
      refine wa_getI dX2_makeTones_24 fgX2_25 (by first | assumption | rfl) (by rfl) ?_
      refine wa_ic_geT 82 dX2_makeTones_27 (by decide) (by rw [rb2l, hn]; exact le_nI (by omega) (by omega)) ?_
      refine wa_aload_n dX2_makeTones_82 rfl ?_
      refine wa_getR dX2_makeTones_83 fgX2_15 (by first | assumption | rfl) (by rfl) ?_
      refine wa_iload_n dX2_makeTones_86 rfl ?_
      refine wa_lload_n dX2_makeTones_87 rfl ?_
      refine wa_last _ dX2_makeTones_88 (by first | assumption | rfl) (by first | with_reducible rfl | with_reducible assumption | with_reducible exact ix_ma _ _ _ | with_reducible exact ix_maa _ _ _ _ | with_reducible exact ix_a _ _ | with_reducible exact ix_mama _ _ _ _ _) (by omega) ?_
      refine wa_iinc (nI 1) dX2_makeTones_89 rfl (by decide) (by decide) ?_
      refine wa_goto 2 dX2_makeTones_92 (by decide) ?_
      have a1 := frF_s (gTon (μ.2 (t + 1)) i p) (μ.2 (t + 2)) k
      rw [sLb]
      unfold gTon at a1
      unfold gTon
      rw [a1]
      simp only [nI_add]
      refine WA.frg [true, true, false, false, false, false, false] ?_
      exact K
    | succ m ih =>
      intro i hi
      have e := ih (i + 1) (by omega)
      refine wa_iload dX2_makeTones_21 rfl ?_
      refine wa_aload_n dX2_makeTones_23 rfl ?_
      refine wa_getI dX2_makeTones_24 fgX2_25 (by first | assumption | rfl) (by rfl) ?_
      refine wa_ic_geF 82 dX2_makeTones_27 (by decide) (by rw [rb2l, hn]; exact nle_nI (by omega) (by omega)) ?_
      refine wa_iload dX2_makeTones_30 rfl ?_
      refine wa_iload_n dX2_makeTones_32 rfl ?_
      refine wa_iand dX2_makeTones_33 ?_
      refine wa_callS1 (k' := kJ6_bitCount_0f7a4) (d' := _) dX2_makeTones_34 lmX2_72 ksJ6_bitCount_0f7a4 (by decide) (by omega) (Nat.le_of_ble_eq_true rfl) ?_
      refine wp_bitCount ?_
      refine wa_iconst (nI 1) dX2_makeTones_37 (by decide) ?_
      refine wa_iand dX2_makeTones_38 ?_
      refine wa_iconst (nI 1) dX2_makeTones_39 (by decide) ?_
      refine wa_ic_ne 47 dX2_makeTones_40 (by decide) (fun c40_2 => ?_) (fun c40_2 => ?_)
      · try simp (disch := omega) only [nI_toInt] at c40_2
        refine wa_iconst (nI 0) dX2_makeTones_47 (by decide) ?_
        refine wa_istore dX2_makeTones_48 (by decide) ?_
        refine wa_lload_n dX2_makeTones_50 rfl ?_
        refine wa_iload dX2_makeTones_51 rfl ?_
        refine wa_if_eqT 67 dX2_makeTones_53 (by decide) (by decide) ?_
        refine wa_aload_n dX2_makeTones_67 rfl ?_
        refine wa_getR dX2_makeTones_68 fgX2_9 (by first | assumption | rfl) (by rfl) ?_
        refine wa_iload dX2_makeTones_71 rfl ?_
        refine wa_lald _ dX2_makeTones_73 (by first | assumption | rfl) (by first | with_reducible rfl | with_reducible assumption | with_reducible exact ix_ma _ _ _ | with_reducible exact ix_maa _ _ _ _ | with_reducible exact ix_a _ _ | with_reducible exact ix_mama _ _ _ _ _) (by omega) ?_
        refine wa_ladd dX2_makeTones_74 ?_
        refine wa_lstore_n dX2_makeTones_75 (by decide) ?_
        refine wa_iinc (nI 1) dX2_makeTones_76 rfl (by decide) (by decide) ?_
        refine wa_goto 21 dX2_makeTones_79 (by decide) ?_
        have ho : ¬ oddB i (tmF (grI k) p) = true := fun q => by
          have := of_decide_eq_true q
          omega
        rw [tonS, if_neg ho] at e
        rw [bL_off (by omega)]
        simp only [nI_add]
        refine WA.frg [true, true, true, true, false, true, false] ?_
        exact e
      · try simp (disch := omega) only [nI_toInt] at c40_2
        refine wa_iconst (nI 1) dX2_makeTones_43 (by decide) ?_
        refine wa_goto 48 dX2_makeTones_44 (by decide) ?_
        refine wa_istore dX2_makeTones_48 (by decide) ?_
        refine wa_lload_n dX2_makeTones_50 rfl ?_
        refine wa_iload dX2_makeTones_51 rfl ?_
        refine wa_if_eqF 67 dX2_makeTones_53 (by decide) (by decide) ?_
        refine wa_aload_n dX2_makeTones_56 rfl ?_
        refine wa_getR dX2_makeTones_57 fgX2_9 (by first | assumption | rfl) (by rfl) ?_
        refine wa_iload dX2_makeTones_60 rfl ?_
        refine wa_lald _ dX2_makeTones_62 (by first | assumption | rfl) (by first | with_reducible rfl | with_reducible assumption | with_reducible exact ix_ma _ _ _ | with_reducible exact ix_maa _ _ _ _ | with_reducible exact ix_a _ _ | with_reducible exact ix_mama _ _ _ _ _) (by omega) ?_
        refine wa_lneg dX2_makeTones_63 ?_
        refine wa_goto 74 dX2_makeTones_64 (by decide) ?_
        refine wa_ladd dX2_makeTones_74 ?_
        refine wa_lstore_n dX2_makeTones_75 (by decide) ?_
        refine wa_iinc (nI 1) dX2_makeTones_76 rfl (by decide) (by decide) ?_
        refine wa_goto 21 dX2_makeTones_79 (by decide) ?_
        have ho : oddB i (tmF (grI k) p) = true := decide_eq_true (by omega)
        rw [tonS, if_pos ho] at e
        rw [bL_off (by omega)]
        simp only [nI_add]
        refine WA.frg [true, true, true, true, false, true, false] ?_
        exact e
  have outer : ∀ m k, k + m = n → WA kX2_makeTones d Q 2 [some (.ref t), some (.int (nI k)), none, none, none, none, none] [] (bL μ (t + 2) (frF (gTon (μ.2 (t + 1)) n p) (μ.2 (t + 2)) k)) := by
    intro m
    induction m with
    | zero =>
      intro k hk
      obtain rfl : k = n := by omega
      refine wa_iload_n dX2_makeTones_2 rfl ?_
      refine wa_aload_n dX2_makeTones_3 rfl ?_
      refine wa_getI dX2_makeTones_4 fgX2_25 (by first | assumption | rfl) (by rfl) ?_
      refine wa_ic_geT 95 dX2_makeTones_7 (by decide) (by rw [rb2l, hn]; exact le_nI (by omega) (by omega)) ?_
      refine wa_vret dX2_makeTones_95 rfl ?_
      exact hQ
    | succ m ih =>
      intro k hk
      have e := inner k (by omega) (ih (k + 1) (by omega)) n 0 (by omega)
      refine wa_iload_n dX2_makeTones_2 rfl ?_
      refine wa_aload_n dX2_makeTones_3 rfl ?_
      refine wa_getI dX2_makeTones_4 fgX2_25 (by first | assumption | rfl) (by rfl) ?_
      refine wa_ic_geF 95 dX2_makeTones_7 (by decide) (by rw [rb2l, hn]; exact nle_nI (by omega) (by omega)) ?_
      refine wa_aload_n dX2_makeTones_10 rfl ?_
      refine wa_iload_n dX2_makeTones_11 rfl ?_
      refine wa_callV1 (k' := kX2_toneMask) (d' := 0) dX2_makeTones_12 lmX2_69 kvX2_toneMask (by first | assumption | rfl) (by rfl) (by decide) (by omega) (Nat.le_of_ble_eq_true rfl) ?_
      refine wp_X2_toneMask (p := p) (by assumption) (hn' _) (by assumption) ?_
      refine wa_istore_n dX2_makeTones_15 (by decide) ?_
      refine wa_lconst (0) dX2_makeTones_16 (by decide) ?_
      refine wa_lstore_n dX2_makeTones_17 (by decide) ?_
      refine wa_iconst (nI 0) dX2_makeTones_18 (by decide) ?_
      refine wa_istore dX2_makeTones_19 (by decide) ?_
      exact e
  refine wa_iconst (nI 0) dX2_makeTones_0 (by decide) ?_
  refine wa_istore_n dX2_makeTones_1 (by decide) ?_
  have e0 := outer n 0 (by omega)
  rw [frF_0, bL_self] at e0
  exact e0
def P2 (n : Nat) : Prop := ∃ p, p ≤ 6 ∧ n = 2 ^ p
theorem P2_pos : ∀ p, p ≤ 6 → 0 < (nI (2 ^ p)).toInt ∧ (nI (2 ^ p) &&& (nI (2 ^ p) - nI 1)).toInt = 0 := by decide
theorem P2_neg : ∀ n, n ≤ 64 → 0 < n → (nI n &&& (nI n - nI 1)).toInt = 0 → n = 1 ∨ n = 2 ∨ n = 4 ∨ n = 8 ∨ n = 16 ∨ n = 32 ∨ n = 64 := by decide +kernel
theorem P2_of {n : Nat} (h : n ≤ 64) (h0 : 0 < n) (h1 : (nI n &&& (nI n - nI 1)).toInt = 0) : P2 n := by
  rcases P2_neg n h h0 h1 with h | h | h | h | h | h | h
  · exact ⟨0, by omega, h⟩
  · exact ⟨1, by omega, h⟩
  · exact ⟨2, by omega, h⟩
  · exact ⟨3, by omega, h⟩
  · exact ⟨4, by omega, h⟩
  · exact ⟨5, by omega, h⟩
  · exact ⟨6, by omega, h⟩
theorem wp_X2_isPowerOfTwo {d t n : Nat} {μ : Mem} {Q : QM} (ht : isR t) (hn : μ.1 t 0 = nI n) (hn64 : n ≤ 64) (h1 : P2 n → Q (some (.int (nI 1))) μ) (h0 : ¬ P2 n → Q (some (.int (nI 0))) μ) : MW kX2_isPowerOfTwo d [.ref t] μ Q := by
  obtain ⟨hr0t, hr1t, hr2t, hr3t, hr4t⟩ := isR_sh ht
  have hmt := isR_mod ht
  refine MW_of (by decide) [some (.ref t)] rfl (Nat.le_of_ble_eq_true rfl) ?_
  refine wa_aload_n dX2_isPowerOfTwo_0 rfl ?_
  refine wa_getI dX2_isPowerOfTwo_1 fgX2_25 (by first | assumption | rfl) (by rfl) ?_
  refine wa_if_le 25 dX2_isPowerOfTwo_4 (by decide) (fun c4_1 => ?_) (fun c4_1 => ?_)
  · try simp (disch := omega) only [nI_toInt, hn] at c4_1
    refine wa_iconst (nI 0) dX2_isPowerOfTwo_25 (by decide) ?_
    refine wa_zret dX2_isPowerOfTwo_26 rfl (by decide) ?_
    refine h0 (fun q => ?_)
    obtain ⟨p, hp, rfl⟩ := q
    have := P2_pos p hp
    have := Nat.two_pow_pos p
    omega
  · try simp (disch := omega) only [nI_toInt, hn] at c4_1
    refine wa_aload_n dX2_isPowerOfTwo_7 rfl ?_
    refine wa_getI dX2_isPowerOfTwo_8 fgX2_25 (by first | assumption | rfl) (by rfl) ?_
    refine wa_aload_n dX2_isPowerOfTwo_11 rfl ?_
    refine wa_getI dX2_isPowerOfTwo_12 fgX2_25 (by first | assumption | rfl) (by rfl) ?_
    refine wa_iconst (nI 1) dX2_isPowerOfTwo_15 (by decide) ?_
    refine wa_isub dX2_isPowerOfTwo_16 ?_
    refine wa_iand dX2_isPowerOfTwo_17 ?_
    refine wa_if_ne 25 dX2_isPowerOfTwo_18 (by decide) (fun c18_2 => ?_) (fun c18_2 => ?_)
    · try simp (disch := omega) only [nI_toInt, hn] at c18_2
      refine wa_iconst (nI 0) dX2_isPowerOfTwo_25 (by decide) ?_
      refine wa_zret dX2_isPowerOfTwo_26 rfl (by decide) ?_
      refine h0 (fun q => ?_)
      obtain ⟨p, hp, rfl⟩ := q
      have := P2_pos p hp
      omega
    · try simp (disch := omega) only [nI_toInt, hn] at c18_2
      refine wa_iconst (nI 1) dX2_isPowerOfTwo_21 (by decide) ?_
      refine wa_goto 26 dX2_isPowerOfTwo_22 (by decide) ?_
      refine wa_zret dX2_isPowerOfTwo_26 rfl (by decide) ?_
      exact h1 (P2_of hn64 (by omega) (by omega))
/-- all within B -/
def inB (f : Nat → Int64) (n : Nat) (B : Int) : Prop := ∀ i, i < n → -B ≤ (f i).toInt ∧ (f i).toInt ≤ B
theorem k4e15 : (4000000000000000 : Int64).toInt = 4000000000000000 ∧ (-4000000000000000 : Int64).toInt = -4000000000000000 := by decide
theorem wp_X2_becomeFresh {d t n : Nat} {μ : Mem} {Q : QM} (ht : isR t) (hd : 1 ≤ d) (hn : μ.1 t 0 = nI n) (hn64 : n ≤ 64) (h0 : ¬ inB (μ.2 (t + 2)) n 4000000000000000 → Q (some (.int (-16))) μ) (h1 : inB (μ.2 (t + 2)) n 4000000000000000 → Q (some (.int (nI n))) (bL μ (t + 1) (va_cpy (μ.2 (t + 2)) (μ.2 (t + 1)) 0 0 n))) : MW kX2_becomeFresh d [.ref t] μ Q := by
  obtain ⟨hr0t, hr1t, hr2t, hr3t, hr4t⟩ := isR_sh ht
  have hmt := isR_mod ht
  refine MW_of (by decide) [some (.ref t), none] rfl (Nat.le_of_ble_eq_true rfl) ?_
  have hB : ∀ x : Int64, (-(4000000000000000 : Int64)).toInt ≤ x.toInt ∧ x.toInt ≤ (4000000000000000 : Int64).toInt ↔ (-4000000000000000 : Int) ≤ x.toInt ∧ x.toInt ≤ 4000000000000000 := by
    intro x
    have a := k4e15.1
    have b := k4e15.2
    rw [a, b]
  have loop : ∀ m i, i + m = n → inB (μ.2 (t + 2)) i 4000000000000000 → WA kX2_becomeFresh d Q 2 [some (.ref t), some (.int (nI i))] [] μ := by
    intro m
    induction m with
    | zero =>
      intro i hi hb
      obtain rfl : i = n := by omega
      refine wa_iload_n dX2_becomeFresh_2 rfl ?_
      refine wa_aload_n dX2_becomeFresh_3 rfl ?_
      refine wa_getI dX2_becomeFresh_4 fgX2_25 (by first | assumption | rfl) (by rfl) ?_
      refine wa_ic_geT 34 dX2_becomeFresh_7 (by decide) (by rw [hn]; exact le_nI (by omega) (by omega)) ?_
      refine wa_aload_n dX2_becomeFresh_34 rfl ?_
      refine wa_getR dX2_becomeFresh_35 fgX2_15 (by first | assumption | rfl) (by rfl) ?_
      refine wa_iconst (nI 0) dX2_becomeFresh_38 (by decide) ?_
      refine wa_aload_n dX2_becomeFresh_39 rfl ?_
      refine wa_getR dX2_becomeFresh_40 fgX2_9 (by first | assumption | rfl) (by rfl) ?_
      refine wa_iconst (nI 0) dX2_becomeFresh_43 (by decide) ?_
      refine wa_aload_n dX2_becomeFresh_44 rfl ?_
      refine wa_getI dX2_becomeFresh_45 fgX2_25 (by first | assumption | rfl) (by rfl) ?_
      rw [hn]
      refine wa_copyL 0 0 i dX2_becomeFresh_48 laX2_83 (by first | assumption | rfl) (by first | assumption | rfl) (by first | with_reducible rfl | with_reducible assumption | with_reducible exact ix_ma _ _ _ | with_reducible exact ix_maa _ _ _ _ | with_reducible exact ix_a _ _ | with_reducible exact ix_mama _ _ _ _ _) (by first | with_reducible rfl | with_reducible assumption | with_reducible exact ix_ma _ _ _ | with_reducible exact ix_maa _ _ _ _ | with_reducible exact ix_a _ _ | with_reducible exact ix_mama _ _ _ _ _) (by first | with_reducible rfl | with_reducible assumption | with_reducible exact ix_ma _ _ _ | with_reducible exact ix_maa _ _ _ _ | with_reducible exact ix_a _ _ | with_reducible exact ix_mama _ _ _ _ _) (by omega) (by omega) (by omega) ?_
      refine wa_aload_n dX2_becomeFresh_51 rfl ?_
      refine wa_getI dX2_becomeFresh_52 fgX2_25 (by first | assumption | rfl) (by rfl) ?_
      refine wa_iret dX2_becomeFresh_55 rfl ?_
      rw [rb2l, hn]; exact h1 hb
    | succ m ih =>
      intro i hi hb
      refine wa_iload_n dX2_becomeFresh_2 rfl ?_
      refine wa_aload_n dX2_becomeFresh_3 rfl ?_
      refine wa_getI dX2_becomeFresh_4 fgX2_25 (by first | assumption | rfl) (by rfl) ?_
      refine wa_ic_geF 34 dX2_becomeFresh_7 (by decide) (by rw [hn]; exact nle_nI (by omega) (by omega)) ?_
      refine wa_aload_n dX2_becomeFresh_10 rfl ?_
      refine wa_getR dX2_becomeFresh_11 fgX2_15 (by first | assumption | rfl) (by rfl) ?_
      refine wa_iload_n dX2_becomeFresh_14 rfl ?_
      refine wa_lald _ dX2_becomeFresh_15 (by first | assumption | rfl) (by first | with_reducible rfl | with_reducible assumption | with_reducible exact ix_ma _ _ _ | with_reducible exact ix_maa _ _ _ _ | with_reducible exact ix_a _ _ | with_reducible exact ix_mama _ _ _ _ _) (by omega) ?_
      refine wa_ldc2 (4000000000000000) dX2_becomeFresh_16 lcX2_77 ?_
      refine wa_callN2 (k' := kX5_isWithin) (d' := 0) rfl dX2_becomeFresh_19 rfl ksX5_isWithin (by decide) (by omega) (Nat.le_of_ble_eq_true rfl) ?_
      refine wp_X5_isWithin (fun hw => ?_) (fun hw => ?_)
      · skip
        refine wa_if_neT 28 dX2_becomeFresh_22 (by decide) (by decide) ?_
        refine wa_iinc (nI 1) dX2_becomeFresh_28 rfl (by decide) (by decide) ?_
        refine wa_goto 2 dX2_becomeFresh_31 (by decide) ?_
        rw [hB] at hw
        simp only [nI_add]
        refine ih (i + 1) (by omega) (fun j hj => ?_)
        by_cases hji : j = i
        · rw [hji]; exact hw
        · exact hb j (by omega)
      · skip
        refine wa_if_neF 28 dX2_becomeFresh_22 (by decide) (by decide) ?_
        refine wa_bipush (-16) dX2_becomeFresh_25 (by decide) ?_
        refine wa_iret dX2_becomeFresh_27 rfl ?_
        rw [hB] at hw; exact h0 (fun q => hw (q i (by omega)))
  refine wa_iconst (nI 0) dX2_becomeFresh_0 (by decide) ?_
  refine wa_istore_n dX2_becomeFresh_1 (by decide) ?_
  exact loop n 0 (by omega) (fun j hj => by omega)
end
section
/-! ROWS of the class: bounds, sums, what turn() does -/
def excB (v : Nat → Int64) (a n : Nat) (b B : Int) : Prop := ∀ j, a ≤ j → j < n → (j : Int) ≤ b → -B ≤ (v j).toInt ∧ (v j).toInt ≤ B
theorem wp_X2_exceeds {d t a n : Nat} {ms : Int64} {to : Int32} {B : Int} {μ : Mem} {Q : QM} (ht : isR t) (hd : 1 ≤ d) (hn : μ.1 t 0 = nI n) (hn64 : n ≤ 64) (hB : ms.toInt = B ∧ (-ms).toInt = -B) (ha : a < 2 ^ 31) (h1 : ¬ excB (μ.2 (t + 1)) a n to.toInt B → Q (some (.int (nI 1))) μ) (h0 : excB (μ.2 (t + 1)) a n to.toInt B → Q (some (.int (nI 0))) μ) : MW kX2_exceeds d [.ref t, .long ms, .int (nI a), .int to] μ Q := by
  obtain ⟨hr0t, hr1t, hr2t, hr3t, hr4t⟩ := isR_sh ht
  have hmt := isR_mod ht
  refine MW_of (by decide) [some (.ref t), some (.long ms), none, some (.int (nI a)), some (.int to), none] rfl (Nat.le_of_ble_eq_true rfl) ?_
  have loop : ∀ m i, n ≤ i + m → a ≤ i → i < 2 ^ 31 → excB (μ.2 (t + 1)) a i to.toInt B → WA kX2_exceeds d Q 3 [some (.ref t), some (.long ms), none, some (.int (nI a)), some (.int to), some (.int (nI i))] [] μ := by
    intro m
    induction m with
    | zero =>
      intro i hi hai h31 hb
      refine wa_iload dX2_exceeds_3 rfl ?_
      refine wa_aload_n dX2_exceeds_5 rfl ?_
      refine wa_getI dX2_exceeds_6 fgX2_25 (by first | assumption | rfl) (by rfl) ?_
      refine wa_ic_geT 41 dX2_exceeds_9 (by decide) (by rw [hn]; exact le_nI (by omega) (by omega)) ?_
      refine wa_iconst (nI 0) dX2_exceeds_41 (by decide) ?_
      refine wa_zret dX2_exceeds_42 rfl (by decide) ?_
      exact h0 (fun j h1 h2 h3 => hb j h1 (by omega) h3)
    | succ m ih =>
      intro i hi hai h31 hb
      by_cases hin : i < n
      · refine wa_iload dX2_exceeds_3 rfl ?_
        refine wa_aload_n dX2_exceeds_5 rfl ?_
        refine wa_getI dX2_exceeds_6 fgX2_25 (by first | assumption | rfl) (by rfl) ?_
        refine wa_ic_geF 41 dX2_exceeds_9 (by decide) (by rw [hn]; exact nle_nI (by omega) (by omega)) ?_
        refine wa_iload dX2_exceeds_12 rfl ?_
        refine wa_iload dX2_exceeds_14 rfl ?_
        refine wa_ic_gt 41 dX2_exceeds_16 (by decide) (fun c16_1 => ?_) (fun c16_1 => ?_)
        · try simp (disch := omega) only [nI_toInt] at c16_1
          refine wa_iconst (nI 0) dX2_exceeds_41 (by decide) ?_
          refine wa_zret dX2_exceeds_42 rfl (by decide) ?_
          exact h0 (fun j q1 q2 q3 => hb j q1 (by omega) q3)
        · try simp (disch := omega) only [nI_toInt] at c16_1
          refine wa_aload_n dX2_exceeds_19 rfl ?_
          refine wa_getR dX2_exceeds_20 fgX2_9 (by first | assumption | rfl) (by rfl) ?_
          refine wa_iload dX2_exceeds_23 rfl ?_
          refine wa_lald _ dX2_exceeds_25 (by first | assumption | rfl) (by first | with_reducible rfl | with_reducible assumption | with_reducible exact ix_ma _ _ _ | with_reducible exact ix_maa _ _ _ _ | with_reducible exact ix_a _ _ | with_reducible exact ix_mama _ _ _ _ _) (by omega) ?_
          refine wa_lload_n dX2_exceeds_26 rfl ?_
          refine wa_callN2 (k' := kX5_isWithin) (d' := 0) rfl dX2_exceeds_27 rfl ksX5_isWithin (by decide) (by omega) (Nat.le_of_ble_eq_true rfl) ?_
          refine wp_X5_isWithin (fun hw => ?_) (fun hw => ?_)
          · skip
            refine wa_if_neT 35 dX2_exceeds_30 (by decide) (by decide) ?_
            refine wa_iinc (nI 1) dX2_exceeds_35 rfl (by decide) (by decide) ?_
            refine wa_goto 3 dX2_exceeds_38 (by decide) ?_
            rw [hB.1, hB.2] at hw
            simp only [nI_add]
            refine ih (i + 1) (by omega) (by omega) (by omega) (fun j q1 q2 q3 => ?_)
            by_cases hji : j = i
            · rw [hji]; exact hw
            · exact hb j q1 (by omega) q3
          · skip
            refine wa_if_neF 35 dX2_exceeds_30 (by decide) (by decide) ?_
            refine wa_iconst (nI 1) dX2_exceeds_33 (by decide) ?_
            refine wa_zret dX2_exceeds_34 rfl (by decide) ?_
            rw [hB.1, hB.2] at hw; exact h1 (fun q => hw (q i hai hin (by omega)))
      · refine wa_iload dX2_exceeds_3 rfl ?_
        refine wa_aload_n dX2_exceeds_5 rfl ?_
        refine wa_getI dX2_exceeds_6 fgX2_25 (by first | assumption | rfl) (by rfl) ?_
        refine wa_ic_geT 41 dX2_exceeds_9 (by decide) (by rw [hn]; exact le_nI (by omega) (by omega)) ?_
        refine wa_iconst (nI 0) dX2_exceeds_41 (by decide) ?_
        refine wa_zret dX2_exceeds_42 rfl (by decide) ?_
        exact h0 (fun j q1 q2 q3 => hb j q1 (by omega) q3)
  refine wa_iload_n dX2_exceeds_0 rfl ?_
  refine wa_istore dX2_exceeds_1 (by decide) ?_
  exact loop 64 a (by omega) (by omega) ha (fun j h1 h2 _ => by omega)
theorem excB_all {v : Nat → Int64} {n : Nat} {b B : Int} (hb : (n : Int) ≤ b) : excB v 0 n b B ↔ inB v n B :=
  ⟨fun h i hi => h i (by omega) hi (by omega), fun h j _ h2 _ => h j h2⟩
theorem wp_X2_anyExceeds {d t n : Nat} {ms : Int64} {B : Int} {μ : Mem} {Q : QM} (ht : isR t) (hd : 2 ≤ d) (hn : μ.1 t 0 = nI n) (hn64 : n ≤ 64) (hB : ms.toInt = B ∧ (-ms).toInt = -B) (h1 : ¬ inB (μ.2 (t + 1)) n B → Q (some (.int (nI 1))) μ) (h0 : inB (μ.2 (t + 1)) n B → Q (some (.int (nI 0))) μ) : MW kX2_anyExceeds d [.ref t, .long ms] μ Q := by
  obtain ⟨hr0t, hr1t, hr2t, hr3t, hr4t⟩ := isR_sh ht
  have hmt := isR_mod ht
  refine MW_of (by decide) [some (.ref t), some (.long ms), none] rfl (Nat.le_of_ble_eq_true rfl) ?_
  have hz : (nI 64).toInt = 64 := by decide
  refine wa_aload_n dX2_anyExceeds_0 rfl ?_
  refine wa_lload_n dX2_anyExceeds_1 rfl ?_
  refine wa_iconst (nI 0) dX2_anyExceeds_2 (by decide) ?_
  refine wa_bipush (nI 64) dX2_anyExceeds_3 (by decide) ?_
  refine wa_callV3 (k' := kX2_exceeds) (d' := 1) dX2_anyExceeds_5 lmX2_89 kvX2_exceeds (by first | assumption | rfl) (by rfl) (by decide) (by omega) (Nat.le_of_ble_eq_true rfl) ?_
  refine wp_X2_exceeds (n := n) (a := 0) (by assumption) (by omega) (by assumption) (by assumption) hB (by omega) (fun hx => ?_) (fun hx => ?_)
  · skip
    refine wa_zret dX2_anyExceeds_8 rfl (by decide) ?_
    rw [hz, excB_all (by omega)] at hx; exact h1 hx
  · skip
    refine wa_zret dX2_anyExceeds_8 rfl (by decide) ?_
    rw [hz, excB_all (by omega)] at hx; exact h0 hx
theorem k4e9 : (4000000000 : Int64).toInt = 4000000000 ∧ (-(4000000000 : Int64)).toInt = -4000000000 := by decide
theorem k2e8 : (200000000 : Int64).toInt = 200000000 ∧ (-(200000000 : Int64)).toInt = -200000000 := by decide
theorem k1e3 : (1000 : Int64).toInt = 1000 ∧ (-(1000 : Int64)).toInt = -1000 := by decide
def sqF (v : Nat → Int64) (b : Int) (n : Nat) : Nat → Nat → Int64 → Int64
  | 0, _, acc => acc
  | m + 1, i, acc => if i < n ∧ (i : Int) ≤ b then sqF v b n m (i + 1) (acc + v i * v i) else acc
theorem wp_X2_squares {d t a n : Nat} {to : Int32} {μ : Mem} {Q : QM} (ht : isR t) (hn : μ.1 t 0 = nI n) (hn64 : n ≤ 64) (ha : a < 2 ^ 31) (hQ : Q (some (.long (sqF (μ.2 (t + 1)) to.toInt n 64 a 0))) μ) : MW kX2_squares d [.ref t, .int (nI a), .int to] μ Q := by
  obtain ⟨hr0t, hr1t, hr2t, hr3t, hr4t⟩ := isR_sh ht
  have hmt := isR_mod ht
  refine MW_of (by decide) [some (.ref t), some (.int (nI a)), some (.int to), none, none, none] rfl (Nat.le_of_ble_eq_true rfl) ?_
  have loop : ∀ m i acc, n ≤ i + m → i < 2 ^ 31 → Q (some (.long (sqF (μ.2 (t + 1)) to.toInt n m i acc))) μ → WA kX2_squares d Q 5 [some (.ref t), some (.int (nI a)), some (.int to), some (.long acc), none, some (.int (nI i))] [] μ := by
    intro m
    induction m with
    | zero =>
      intro i acc hi h31 hQ
      refine wa_iload dX2_squares_5 rfl ?_
      refine wa_aload_n dX2_squares_7 rfl ?_
      refine wa_getI dX2_squares_8 fgX2_25 (by first | assumption | rfl) (by rfl) ?_
      refine wa_ic_geT 44 dX2_squares_11 (by decide) (by rw [hn]; exact le_nI (by omega) (by omega)) ?_
      refine wa_lload_n dX2_squares_44 rfl ?_
      refine wa_lret dX2_squares_45 rfl ?_
      exact hQ
    | succ m ih =>
      intro i acc hi h31 hQ
      by_cases hin : i < n
      · refine wa_iload dX2_squares_5 rfl ?_
        refine wa_aload_n dX2_squares_7 rfl ?_
        refine wa_getI dX2_squares_8 fgX2_25 (by first | assumption | rfl) (by rfl) ?_
        refine wa_ic_geF 44 dX2_squares_11 (by decide) (by rw [hn]; exact nle_nI (by omega) (by omega)) ?_
        refine wa_iload dX2_squares_14 rfl ?_
        refine wa_iload_n dX2_squares_16 rfl ?_
        refine wa_ic_gt 44 dX2_squares_17 (by decide) (fun c17_1 => ?_) (fun c17_1 => ?_)
        · try simp (disch := omega) only [nI_toInt] at c17_1
          refine wa_lload_n dX2_squares_44 rfl ?_
          refine wa_lret dX2_squares_45 rfl ?_
          rw [sqF, if_neg (by omega)] at hQ; exact hQ
        · try simp (disch := omega) only [nI_toInt] at c17_1
          refine wa_lload_n dX2_squares_20 rfl ?_
          refine wa_aload_n dX2_squares_21 rfl ?_
          refine wa_getR dX2_squares_22 fgX2_9 (by first | assumption | rfl) (by rfl) ?_
          refine wa_iload dX2_squares_25 rfl ?_
          refine wa_lald _ dX2_squares_27 (by first | assumption | rfl) (by first | with_reducible rfl | with_reducible assumption | with_reducible exact ix_ma _ _ _ | with_reducible exact ix_maa _ _ _ _ | with_reducible exact ix_a _ _ | with_reducible exact ix_mama _ _ _ _ _) (by omega) ?_
          refine wa_aload_n dX2_squares_28 rfl ?_
          refine wa_getR dX2_squares_29 fgX2_9 (by first | assumption | rfl) (by rfl) ?_
          refine wa_iload dX2_squares_32 rfl ?_
          refine wa_lald _ dX2_squares_34 (by first | assumption | rfl) (by first | with_reducible rfl | with_reducible assumption | with_reducible exact ix_ma _ _ _ | with_reducible exact ix_maa _ _ _ _ | with_reducible exact ix_a _ _ | with_reducible exact ix_mama _ _ _ _ _) (by omega) ?_
          refine wa_lmul dX2_squares_35 ?_
          refine wa_ladd dX2_squares_36 ?_
          refine wa_lstore_n dX2_squares_37 (by decide) ?_
          refine wa_iinc (nI 1) dX2_squares_38 rfl (by decide) (by decide) ?_
          refine wa_goto 5 dX2_squares_41 (by decide) ?_
          rw [sqF, if_pos (by omega)] at hQ
          simp only [nI_add]
          exact ih (i + 1) _ (by omega) (by omega) hQ
      · refine wa_iload dX2_squares_5 rfl ?_
        refine wa_aload_n dX2_squares_7 rfl ?_
        refine wa_getI dX2_squares_8 fgX2_25 (by first | assumption | rfl) (by rfl) ?_
        refine wa_ic_geT 44 dX2_squares_11 (by decide) (by rw [hn]; exact le_nI (by omega) (by omega)) ?_
        refine wa_lload_n dX2_squares_44 rfl ?_
        refine wa_lret dX2_squares_45 rfl ?_
        rw [sqF, if_neg (by omega)] at hQ; exact hQ
  refine wa_lconst (0) dX2_squares_0 (by decide) ?_
  refine wa_lstore_n dX2_squares_1 (by decide) ?_
  refine wa_iload_n dX2_squares_2 rfl ?_
  refine wa_istore dX2_squares_3 (by decide) ?_
  exact loop 64 a 0 (by omega) ha hQ
def prS (v w : Nat → Int64) : Nat → Int64
  | 0 => 0
  | n + 1 => prS v w n + v n * w n
theorem wp_X2_products {d t u n : Nat} {μ : Mem} {Q : QM} (ht : isR t) (hu : isR u) (hn : μ.1 t 0 = nI n) (hn64 : n ≤ 64) (hQ : Q (some (.long (prS (μ.2 (t + 1)) (μ.2 (u + 1)) n))) μ) : MW kX2_products d [.ref t, .ref u] μ Q := by
  obtain ⟨hr0t, hr1t, hr2t, hr3t, hr4t⟩ := isR_sh ht
  have hmt := isR_mod ht
  obtain ⟨hr0u, hr1u, hr2u, hr3u, hr4u⟩ := isR_sh hu
  have hmu := isR_mod hu
  refine MW_of (by decide) [some (.ref t), some (.ref u), none, none, none] rfl (Nat.le_of_ble_eq_true rfl) ?_
  have loop : ∀ m i, i + m = n → WA kX2_products d Q 5 [some (.ref t), some (.ref u), some (.long (prS (μ.2 (t + 1)) (μ.2 (u + 1)) i)), none, some (.int (nI i))] [] μ := by
    intro m
    induction m with
    | zero =>
      intro i hi
      obtain rfl : i = n := by omega
      refine wa_iload dX2_products_5 rfl ?_
      refine wa_aload_n dX2_products_7 rfl ?_
      refine wa_getI dX2_products_8 fgX2_25 (by first | assumption | rfl) (by rfl) ?_
      refine wa_ic_geT 38 dX2_products_11 (by decide) (by rw [hn]; exact le_nI (by omega) (by omega)) ?_
      refine wa_lload_n dX2_products_38 rfl ?_
      refine wa_lret dX2_products_39 rfl ?_
      exact hQ
    | succ m ih =>
      intro i hi
      have e := ih (i + 1) (by omega)
      refine wa_iload dX2_products_5 rfl ?_
      refine wa_aload_n dX2_products_7 rfl ?_
      refine wa_getI dX2_products_8 fgX2_25 (by first | assumption | rfl) (by rfl) ?_
      refine wa_ic_geF 38 dX2_products_11 (by decide) (by rw [hn]; exact nle_nI (by omega) (by omega)) ?_
      refine wa_lload_n dX2_products_14 rfl ?_
      refine wa_aload_n dX2_products_15 rfl ?_
      refine wa_getR dX2_products_16 fgX2_9 (by first | assumption | rfl) (by rfl) ?_
      refine wa_iload dX2_products_19 rfl ?_
      refine wa_lald _ dX2_products_21 (by first | assumption | rfl) (by first | with_reducible rfl | with_reducible assumption | with_reducible exact ix_ma _ _ _ | with_reducible exact ix_maa _ _ _ _ | with_reducible exact ix_a _ _ | with_reducible exact ix_mama _ _ _ _ _) (by omega) ?_
      refine wa_aload_n dX2_products_22 rfl ?_
      refine wa_getR dX2_products_23 fgX2_9 (by first | assumption | rfl) (by rfl) ?_
      refine wa_iload dX2_products_26 rfl ?_
      refine wa_lald _ dX2_products_28 (by first | assumption | rfl) (by first | with_reducible rfl | with_reducible assumption | with_reducible exact ix_ma _ _ _ | with_reducible exact ix_maa _ _ _ _ | with_reducible exact ix_a _ _ | with_reducible exact ix_mama _ _ _ _ _) (by omega) ?_
      refine wa_lmul dX2_products_29 ?_
      refine wa_ladd dX2_products_30 ?_
      refine wa_lstore_n dX2_products_31 (by decide) ?_
      refine wa_iinc (nI 1) dX2_products_32 rfl (by decide) (by decide) ?_
      refine wa_goto 5 dX2_products_35 (by decide) ?_
      simp only [nI_add]; exact e
  refine wa_lconst (0) dX2_products_0 (by decide) ?_
  refine wa_lstore_n dX2_products_1 (by decide) ?_
  refine wa_iconst (nI 0) dX2_products_2 (by decide) ?_
  refine wa_istore dX2_products_3 (by decide) ?_
  exact loop n 0 (by omega)
def digR (h : Int64) (v : Nat → Int64) : Nat → Int64
  | 0 => h
  | i + 1 => 31 * digR h v i + v i
def kOut (a b : Int) (i : Nat) : Bool := decide ((i : Int) < a ∨ b < (i : Int))
def kpF (a b : Int) (v : Nat → Int64) (m : Nat) : Nat → Int64 := fun i => if i < m ∧ kOut a b i = true then 0 else v i
def kpN (a b : Int) (v : Nat → Int64) : Nat → Nat
  | 0 => 0
  | n + 1 => kpN a b v n + (if kOut a b n = true ∧ ¬ (v n).toInt = 0 then 1 else 0)
theorem kpF_0 (a b : Int) (v : Nat → Int64) : kpF a b v 0 = v := by
  funext i
  simp [kpF]
theorem kpF_y {a b : Int} {v : Nat → Int64} {m : Nat} (h : kOut a b m = true) : vp_updL (kpF a b v m) m 0 = kpF a b v (m + 1) := by
  funext i
  by_cases hi : i = m
  · subst hi
    simp [vp_updL, kpF, h]
  · simp only [vp_updL, kpF, hi, if_false]
    congr 1
    exact propext ⟨fun q => ⟨by omega, q.2⟩, fun q => ⟨by omega, q.2⟩⟩
theorem kpF_n {a b : Int} {v : Nat → Int64} {m : Nat} (h : ¬ kOut a b m = true) : kpF a b v m = kpF a b v (m + 1) := by
  funext i
  simp only [kpF]
  congr 1
  refine propext ⟨fun q => ⟨by omega, q.2⟩, fun q => ⟨?_, q.2⟩⟩
  by_cases hb : i = m
  · subst hb
    exact absurd q.2 h
  · omega
def gMix (v w : Nat → Int64) (p q : Int32) (i : Nat) : Int64 := p.toInt64 * v i + q.toInt64 * w i
theorem inB_frF {g old : Nat → Int64} {n : Nat} {B : Int} : inB (frF g old n) n B ↔ inB g n B := by
  unfold inB frF
  refine ⟨fun h i hi => ?_, fun h i hi => ?_⟩
  · have := h i hi
    rw [if_pos hi] at this
    exact this
  · rw [if_pos hi]
    exact h i hi
theorem wp_X2_blend {d t u n : Nat} {p q : Int32} {μ : Mem} {Q : QM} (ht : isR t) (hu : isR u) (hd : 2 ≤ d) (hn : μ.1 t 0 = nI n) (hn64 : n ≤ 64) (h0 : ¬ inB (gMix (μ.2 (t + 1)) (μ.2 (u + 1)) p q) n 4000000000000000 → Q (some (.int (-16))) (bL μ (t + 2) (frF (gMix (μ.2 (t + 1)) (μ.2 (u + 1)) p q) (μ.2 (t + 2)) n)))
    (h1 : inB (gMix (μ.2 (t + 1)) (μ.2 (u + 1)) p q) n 4000000000000000 → Q (some (.int (nI n))) (bL (bL μ (t + 2) (frF (gMix (μ.2 (t + 1)) (μ.2 (u + 1)) p q) (μ.2 (t + 2)) n)) (t + 1) (va_cpy (frF (gMix (μ.2 (t + 1)) (μ.2 (u + 1)) p q) (μ.2 (t + 2)) n) (μ.2 (t + 1)) 0 0 n))) : MW kX2_blend d [.ref t, .int p, .ref u, .int q] μ Q := by
  obtain ⟨hr0t, hr1t, hr2t, hr3t, hr4t⟩ := isR_sh ht
  have hmt := isR_mod ht
  obtain ⟨hr0u, hr1u, hr2u, hr3u, hr4u⟩ := isR_sh hu
  have hmu := isR_mod hu
  refine MW_of (by decide) [some (.ref t), some (.int p), some (.ref u), some (.int q), none] rfl (Nat.le_of_ble_eq_true rfl) ?_
  have loop : ∀ m i, i + m = n → WA kX2_blend d Q 3 [some (.ref t), some (.int p), some (.ref u), some (.int q), some (.int (nI i))] [] (bL μ (t + 2) (frF (gMix (μ.2 (t + 1)) (μ.2 (u + 1)) p q) (μ.2 (t + 2)) i)) := by
    intro m
    induction m with
    | zero =>
      intro i hi
      obtain rfl : i = n := by omega
      refine wa_iload dX2_blend_3 rfl ?_
      refine wa_aload_n dX2_blend_5 rfl ?_
      refine wa_getI dX2_blend_6 fgX2_25 (by first | assumption | rfl) (by rfl) ?_
      refine wa_ic_geT 46 dX2_blend_9 (by decide) (by rw [rb2l, hn]; exact le_nI (by omega) (by omega)) ?_
      refine wa_aload_n dX2_blend_46 rfl ?_
      refine wa_callV0 (k' := kX2_becomeFresh) (d' := 1) dX2_blend_47 lmX2_60 kvX2_becomeFresh (by first | assumption | rfl) (by rfl) (by decide) (by omega) (Nat.le_of_ble_eq_true rfl) ?_
      refine wp_X2_becomeFresh (n := i) (by assumption) (by omega) (by rw [rb2l]; exact hn) (by assumption) (fun hb => ?_) (fun hb => ?_)
      · skip
        refine wa_iret dX2_blend_50 rfl ?_
        rw [rb2e, inB_frF] at hb; exact h0 hb
      · skip
        refine wa_iret dX2_blend_50 rfl ?_
        rw [rb2e, inB_frF] at hb; have e := h1 hb; rw [rb2e, bL_off (by omega)]; exact e
    | succ m ih =>
      intro i hi
      have e := ih (i + 1) (by omega)
      refine wa_iload dX2_blend_3 rfl ?_
      refine wa_aload_n dX2_blend_5 rfl ?_
      refine wa_getI dX2_blend_6 fgX2_25 (by first | assumption | rfl) (by rfl) ?_
      refine wa_ic_geF 46 dX2_blend_9 (by decide) (by rw [rb2l, hn]; exact nle_nI (by omega) (by omega)) ?_
      refine wa_aload_n dX2_blend_12 rfl ?_
      refine wa_getR dX2_blend_13 fgX2_15 (by first | assumption | rfl) (by rfl) ?_
      refine wa_iload dX2_blend_16 rfl ?_
      refine wa_iload_n dX2_blend_18 rfl ?_
      refine wa_i2l dX2_blend_19 ?_
      refine wa_aload_n dX2_blend_20 rfl ?_
      refine wa_getR dX2_blend_21 fgX2_9 (by first | assumption | rfl) (by rfl) ?_
      refine wa_iload dX2_blend_24 rfl ?_
      refine wa_lald _ dX2_blend_26 (by first | assumption | rfl) (by first | with_reducible rfl | with_reducible assumption | with_reducible exact ix_ma _ _ _ | with_reducible exact ix_maa _ _ _ _ | with_reducible exact ix_a _ _ | with_reducible exact ix_mama _ _ _ _ _) (by omega) ?_
      refine wa_lmul dX2_blend_27 ?_
      refine wa_iload_n dX2_blend_28 rfl ?_
      refine wa_i2l dX2_blend_29 ?_
      refine wa_aload_n dX2_blend_30 rfl ?_
      refine wa_getR dX2_blend_31 fgX2_9 (by first | assumption | rfl) (by rfl) ?_
      refine wa_iload dX2_blend_34 rfl ?_
      refine wa_lald _ dX2_blend_36 (by first | assumption | rfl) (by first | with_reducible rfl | with_reducible assumption | with_reducible exact ix_ma _ _ _ | with_reducible exact ix_maa _ _ _ _ | with_reducible exact ix_a _ _ | with_reducible exact ix_mama _ _ _ _ _) (by omega) ?_
      refine wa_lmul dX2_blend_37 ?_
      refine wa_ladd dX2_blend_38 ?_
      refine wa_last _ dX2_blend_39 (by first | assumption | rfl) (by first | with_reducible rfl | with_reducible assumption | with_reducible exact ix_ma _ _ _ | with_reducible exact ix_maa _ _ _ _ | with_reducible exact ix_a _ _ | with_reducible exact ix_mama _ _ _ _ _) (by omega) ?_
      refine wa_iinc (nI 1) dX2_blend_40 rfl (by decide) (by decide) ?_
      refine wa_goto 3 dX2_blend_43 (by decide) ?_
      have a1 := frF_s (gMix (μ.2 (t + 1)) (μ.2 (u + 1)) p q) (μ.2 (t + 2)) i
      rw [sLb, bL_off (by omega), bL_off (by omega)]
      unfold gMix at a1
      unfold gMix
      rw [a1]
      simp only [nI_add]
      exact e
  refine wa_iconst (nI 0) dX2_blend_0 (by decide) ?_
  refine wa_istore dX2_blend_1 (by decide) ?_
  have e0 := loop n 0 (by omega)
  rw [frF_0, bL_self] at e0
  exact e0
/-! turn() -/
def tNO (n w : Nat) : Prop := ((w = 1 ∨ w = 2) ∧ n < 2) ∨ (w = 3 ∧ ¬ P2 n)
def gW (v : Nat → Int64) (n w : Nat) : Nat → Int64 := match w with
  | 0 => gLev v n
  | 1 => gFlat v n
  | 2 => gTwi v n
  | _ => gTon v n (Nat.log2 n)
theorem wp_X2_change {d t n w : Nat} {μ : Mem} {Q : QM} (ht : isR t) (hd : 3 ≤ d) (hn : μ.1 t 0 = nI n) (hn64 : n ≤ 64) (hw : w < 4)
    (hNO : tNO n w → Q (some (.int (-3))) μ) (hF : ¬ tNO n w → (w = 1 ∨ w = 2) → ¬ inB (μ.2 (t + 1)) n 4000000000 → Q (some (.int (-16))) μ)
    (hG : ¬ tNO n w → ((w = 1 ∨ w = 2) → inB (μ.2 (t + 1)) n 4000000000) → ¬ inB (gW (μ.2 (t + 1)) n w) n 4000000000000000 → Q (some (.int (-16))) (bL μ (t + 2) (frF (gW (μ.2 (t + 1)) n w) (μ.2 (t + 2)) n)))
    (hH : ¬ tNO n w → ((w = 1 ∨ w = 2) → inB (μ.2 (t + 1)) n 4000000000) → inB (gW (μ.2 (t + 1)) n w) n 4000000000000000 → Q (some (.int (nI n))) (bL (bL μ (t + 2) (frF (gW (μ.2 (t + 1)) n w) (μ.2 (t + 2)) n)) (t + 1) (va_cpy (frF (gW (μ.2 (t + 1)) n w) (μ.2 (t + 2)) n) (μ.2 (t + 1)) 0 0 n))) : MW kX2_change d [.ref t, .int (nI w)] μ Q := by
  obtain ⟨hr0t, hr1t, hr2t, hr3t, hr4t⟩ := isR_sh ht
  have hmt := isR_mod ht
  refine MW_of (by decide) [some (.ref t), some (.int (nI w)), none] rfl (Nat.le_of_ble_eq_true rfl) ?_
  have K : ¬ tNO n w → ((w = 1 ∨ w = 2) → inB (μ.2 (t + 1)) n 4000000000) → ∀ z, WA kX2_change d Q 113 [some (.ref t), some (.int (nI w)), some (.int z)] [] (bL μ (t + 2) (frF (gW (μ.2 (t + 1)) n w) (μ.2 (t + 2)) n)) := by
    intro k1 k2 z
    refine wa_aload_n dX2_change_113 rfl ?_
    refine wa_callV0 (k' := kX2_becomeFresh) (d' := 1) dX2_change_114 lmX2_60 kvX2_becomeFresh (by first | assumption | rfl) (by rfl) (by decide) (by omega) (Nat.le_of_ble_eq_true rfl) ?_
    refine wp_X2_becomeFresh (n := n) (by assumption) (by omega) (by rw [rb2l]; exact hn) (by assumption) (fun hb => ?_) (fun hb => ?_)
    · skip
      refine wa_iret dX2_change_117 rfl ?_
      rw [rb2e, inB_frF] at hb; exact hG k1 k2 hb
    · skip
      refine wa_iret dX2_change_117 rfl ?_
      rw [rb2e, inB_frF] at hb; have e := hH k1 k2 hb; rw [rb2e, bL_off (by omega)]; exact e
  have : w = 0 ∨ w = 1 ∨ w = 2 ∨ w = 3 := by omega
  rcases this with rfl | rfl | rfl | rfl
  · refine wa_iload_n dX2_change_0 rfl ?_
    refine wa_iconst (nI 1) dX2_change_1 (by decide) ?_
    refine wa_ic_eqF 10 dX2_change_2 (by decide) (by decide) ?_
    refine wa_iload_n dX2_change_5 rfl ?_
    refine wa_iconst (nI 2) dX2_change_6 (by decide) ?_
    refine wa_ic_neT 14 dX2_change_7 (by decide) (by decide) ?_
    refine wa_iconst (nI 0) dX2_change_14 (by decide) ?_
    refine wa_istore_n dX2_change_15 (by decide) ?_
    refine wa_iload_n dX2_change_16 rfl ?_
    refine wa_if_eqT 28 dX2_change_17 (by decide) (by decide) ?_
    refine wa_iload_n dX2_change_28 rfl ?_
    refine wa_iconst (nI 3) dX2_change_29 (by decide) ?_
    refine wa_ic_neT 43 dX2_change_30 (by decide) (by decide) ?_
    refine wa_iload_n dX2_change_43 rfl ?_
    refine wa_if_eqT 60 dX2_change_44 (by decide) (by decide) ?_
    refine wa_iload_n dX2_change_60 rfl ?_
    refine wa_tsI 88 0 dX2_change_61 (by decide) (by decide) (by decide) rfl (by decide) ?_
    refine wa_aload_n dX2_change_88 rfl ?_
    refine wa_callV0 (k' := kX2_makeLevel) (d' := 1) dX2_change_89 lmX2_48 kvX2_makeLevel (by first | assumption | rfl) (by rfl) (by decide) (by omega) (Nat.le_of_ble_eq_true rfl) ?_
    refine wp_X2_makeLevel (n := n) (by assumption) (by omega) (by assumption) (by assumption) ?_
    refine wa_goto 113 dX2_change_92 (by decide) ?_
    exact K (by unfold tNO; omega) (by omega) _
  · refine wa_iload_n dX2_change_0 rfl ?_
    refine wa_iconst (nI 1) dX2_change_1 (by decide) ?_
    refine wa_ic_eqT 10 dX2_change_2 (by decide) (by decide) ?_
    refine wa_iconst (nI 1) dX2_change_10 (by decide) ?_
    refine wa_goto 15 dX2_change_11 (by decide) ?_
    refine wa_istore_n dX2_change_15 (by decide) ?_
    refine wa_iload_n dX2_change_16 rfl ?_
    refine wa_if_eqF 28 dX2_change_17 (by decide) (by decide) ?_
    refine wa_aload_n dX2_change_20 rfl ?_
    refine wa_getI dX2_change_21 fgX2_25 (by first | assumption | rfl) (by rfl) ?_
    refine wa_iconst (nI 2) dX2_change_24 (by decide) ?_
    refine wa_ic_lt 40 dX2_change_25 (by decide) (fun c25_1 => ?_) (fun c25_1 => ?_)
    · try simp (disch := omega) only [nI_toInt, hn] at c25_1
      refine wa_bipush (-3) dX2_change_40 (by decide) ?_
      refine wa_iret dX2_change_42 rfl ?_
      exact hNO (Or.inl ⟨by omega, by omega⟩)
    · try simp (disch := omega) only [nI_toInt, hn] at c25_1
      refine wa_iload_n dX2_change_28 rfl ?_
      refine wa_iconst (nI 3) dX2_change_29 (by decide) ?_
      refine wa_ic_neT 43 dX2_change_30 (by decide) (by decide) ?_
      refine wa_iload_n dX2_change_43 rfl ?_
      refine wa_if_eqF 60 dX2_change_44 (by decide) (by decide) ?_
      refine wa_aload_n dX2_change_47 rfl ?_
      refine wa_ldc2 (4000000000) dX2_change_48 lcX2_42 ?_
      refine wa_callV1 (k' := kX2_anyExceeds) (d' := 2) dX2_change_51 lmX2_44 kvX2_anyExceeds (by first | assumption | rfl) (by rfl) (by decide) (by omega) (Nat.le_of_ble_eq_true rfl) ?_
      refine wp_X2_anyExceeds (B := 4000000000) (by assumption) (by omega) (by assumption) (by assumption) k4e9 (fun hx => ?_) (fun hx => ?_)
      · skip
        refine wa_if_eqF 60 dX2_change_54 (by decide) (by decide) ?_
        refine wa_bipush (-16) dX2_change_57 (by decide) ?_
        refine wa_iret dX2_change_59 rfl ?_
        exact hF (by unfold tNO; omega) (by omega) hx
      · skip
        refine wa_if_eqT 60 dX2_change_54 (by decide) (by decide) ?_
        refine wa_iload_n dX2_change_60 rfl ?_
        refine wa_tsI 95 1 dX2_change_61 (by decide) (by decide) (by decide) rfl (by decide) ?_
        refine wa_aload_n dX2_change_95 rfl ?_
        refine wa_callV0 (k' := kX2_makeFlat) (d' := 1) dX2_change_96 lmX2_51 kvX2_makeFlat (by first | assumption | rfl) (by rfl) (by decide) (by omega) (Nat.le_of_ble_eq_true rfl) ?_
        refine wp_X2_makeFlat (n := n) (by assumption) (by omega) (by assumption) (by assumption) ?_
        refine wa_goto 113 dX2_change_99 (by decide) ?_
        exact K (by unfold tNO; omega) (fun _ => hx) _
  · refine wa_iload_n dX2_change_0 rfl ?_
    refine wa_iconst (nI 1) dX2_change_1 (by decide) ?_
    refine wa_ic_eqF 10 dX2_change_2 (by decide) (by decide) ?_
    refine wa_iload_n dX2_change_5 rfl ?_
    refine wa_iconst (nI 2) dX2_change_6 (by decide) ?_
    refine wa_ic_neF 14 dX2_change_7 (by decide) (by decide) ?_
    refine wa_iconst (nI 1) dX2_change_10 (by decide) ?_
    refine wa_goto 15 dX2_change_11 (by decide) ?_
    refine wa_istore_n dX2_change_15 (by decide) ?_
    refine wa_iload_n dX2_change_16 rfl ?_
    refine wa_if_eqF 28 dX2_change_17 (by decide) (by decide) ?_
    refine wa_aload_n dX2_change_20 rfl ?_
    refine wa_getI dX2_change_21 fgX2_25 (by first | assumption | rfl) (by rfl) ?_
    refine wa_iconst (nI 2) dX2_change_24 (by decide) ?_
    refine wa_ic_lt 40 dX2_change_25 (by decide) (fun c25_1 => ?_) (fun c25_1 => ?_)
    · try simp (disch := omega) only [nI_toInt, hn] at c25_1
      refine wa_bipush (-3) dX2_change_40 (by decide) ?_
      refine wa_iret dX2_change_42 rfl ?_
      exact hNO (Or.inl ⟨by omega, by omega⟩)
    · try simp (disch := omega) only [nI_toInt, hn] at c25_1
      refine wa_iload_n dX2_change_28 rfl ?_
      refine wa_iconst (nI 3) dX2_change_29 (by decide) ?_
      refine wa_ic_neT 43 dX2_change_30 (by decide) (by decide) ?_
      refine wa_iload_n dX2_change_43 rfl ?_
      refine wa_if_eqF 60 dX2_change_44 (by decide) (by decide) ?_
      refine wa_aload_n dX2_change_47 rfl ?_
      refine wa_ldc2 (4000000000) dX2_change_48 lcX2_42 ?_
      refine wa_callV1 (k' := kX2_anyExceeds) (d' := 2) dX2_change_51 lmX2_44 kvX2_anyExceeds (by first | assumption | rfl) (by rfl) (by decide) (by omega) (Nat.le_of_ble_eq_true rfl) ?_
      refine wp_X2_anyExceeds (B := 4000000000) (by assumption) (by omega) (by assumption) (by assumption) k4e9 (fun hx => ?_) (fun hx => ?_)
      · skip
        refine wa_if_eqF 60 dX2_change_54 (by decide) (by decide) ?_
        refine wa_bipush (-16) dX2_change_57 (by decide) ?_
        refine wa_iret dX2_change_59 rfl ?_
        exact hF (by unfold tNO; omega) (by omega) hx
      · skip
        refine wa_if_eqT 60 dX2_change_54 (by decide) (by decide) ?_
        refine wa_iload_n dX2_change_60 rfl ?_
        refine wa_tsI 102 2 dX2_change_61 (by decide) (by decide) (by decide) rfl (by decide) ?_
        refine wa_aload_n dX2_change_102 rfl ?_
        refine wa_callV0 (k' := kX2_makeTwice) (d' := 0) dX2_change_103 lmX2_54 kvX2_makeTwice (by first | assumption | rfl) (by rfl) (by decide) (by omega) (Nat.le_of_ble_eq_true rfl) ?_
        refine wp_X2_makeTwice (n := n) (by assumption) (by assumption) (by assumption) (by omega) ?_
        refine wa_goto 113 dX2_change_106 (by decide) ?_
        exact K (by unfold tNO; omega) (fun _ => hx) _
  · have K3 : P2 n → WA kX2_change d Q 109 [some (.ref t), some (.int (nI 3)), some (.int (nI 0))] [] μ := by
      intro hp2
      obtain ⟨p, hp, hnp⟩ := hp2
      have K' := K (fun q => by
        rcases q with ⟨q, _⟩ | ⟨_, q⟩
        · omega
        · exact q ⟨p, hp, hnp⟩) (by omega) (nI 0)
      have hl : Nat.log2 n = p := by rw [hnp]; exact Nat.log2_two_pow
      simp only [gW, hl] at K'
      refine wa_aload_n dX2_change_109 rfl ?_
      refine wa_callV0 (k' := kX2_makeTones) (d' := 1) dX2_change_110 lmX2_57 kvX2_makeTones (by first | assumption | rfl) (by rfl) (by decide) (by omega) (Nat.le_of_ble_eq_true rfl) ?_
      refine wp_X2_makeTones (n := n) (p := p) (by assumption) (by omega) (by assumption) hnp hp (by assumption) ?_
      exact K'
    refine wa_iload_n dX2_change_0 rfl ?_
    refine wa_iconst (nI 1) dX2_change_1 (by decide) ?_
    refine wa_ic_eqF 10 dX2_change_2 (by decide) (by decide) ?_
    refine wa_iload_n dX2_change_5 rfl ?_
    refine wa_iconst (nI 2) dX2_change_6 (by decide) ?_
    refine wa_ic_neT 14 dX2_change_7 (by decide) (by decide) ?_
    refine wa_iconst (nI 0) dX2_change_14 (by decide) ?_
    refine wa_istore_n dX2_change_15 (by decide) ?_
    refine wa_iload_n dX2_change_16 rfl ?_
    refine wa_if_eqT 28 dX2_change_17 (by decide) (by decide) ?_
    refine wa_iload_n dX2_change_28 rfl ?_
    refine wa_iconst (nI 3) dX2_change_29 (by decide) ?_
    refine wa_ic_neF 43 dX2_change_30 (by decide) (by decide) ?_
    refine wa_aload_n dX2_change_33 rfl ?_
    refine wa_callV0 (k' := kX2_isPowerOfTwo) (d' := 0) dX2_change_34 lmX2_38 kvX2_isPowerOfTwo (by first | assumption | rfl) (by rfl) (by decide) (by omega) (Nat.le_of_ble_eq_true rfl) ?_
    refine wp_X2_isPowerOfTwo (by assumption) (by assumption) (by assumption) (fun hp2 => ?_) (fun hp2 => ?_)
    · skip
      refine wa_if_neT 43 dX2_change_37 (by decide) (by decide) ?_
      refine wa_iload_n dX2_change_43 rfl ?_
      refine wa_if_eqT 60 dX2_change_44 (by decide) (by decide) ?_
      refine wa_iload_n dX2_change_60 rfl ?_
      refine wa_tsO 109 dX2_change_61 (by decide) (by decide) ?_
      exact K3 hp2
    · skip
      refine wa_if_neF 43 dX2_change_37 (by decide) (by decide) ?_
      refine wa_bipush (-3) dX2_change_40 (by decide) ?_
      refine wa_iret dX2_change_42 rfl ?_
      exact hNO (Or.inr ⟨rfl, hp2⟩)
end
section
/-! WaveBuoys itself: what several calls need -/
def oob (x : Int32) (n : Int) : Prop := x.toInt < 0 ∨ n ≤ x.toInt
theorem wp_X5_isSheet {d : Nat} {k : Int32} {μ : Mem} {Q : QM} (h1 : ∀ j, j < 8 → k = nI j → Q (some (.int (nI 1))) μ) (h0 : oob k 8 → Q (some (.int (nI 0))) μ) : MW kX5_isSheet d [.int k] μ Q := by
  refine MW_of (by decide) [some (.int k)] rfl (Nat.le_of_ble_eq_true rfl) ?_
  unfold oob at h0
  refine wa_iload_n dX5_isSheet_0 rfl ?_
  refine wa_if_lt 14 dX5_isSheet_1 (by decide) (fun c1_1 => ?_) (fun c1_1 => ?_)
  · try simp (disch := omega) only [nI_toInt, Int32.toInt_toInt64] at c1_1
    refine wa_iconst (nI 0) dX5_isSheet_14 (by decide) ?_
    refine wa_zret dX5_isSheet_15 rfl (by decide) ?_
    exact h0 (by omega)
  · try simp (disch := omega) only [nI_toInt, Int32.toInt_toInt64] at c1_1
    refine wa_iload_n dX5_isSheet_4 rfl ?_
    refine wa_bipush (nI 8) dX5_isSheet_5 (by decide) ?_
    refine wa_ic_ge 14 dX5_isSheet_7 (by decide) (fun c7_2 => ?_) (fun c7_2 => ?_)
    · try simp (disch := omega) only [nI_toInt, Int32.toInt_toInt64] at c7_2
      refine wa_iconst (nI 0) dX5_isSheet_14 (by decide) ?_
      refine wa_zret dX5_isSheet_15 rfl (by decide) ?_
      exact h0 (by omega)
    · try simp (disch := omega) only [nI_toInt, Int32.toInt_toInt64] at c7_2
      refine wa_iconst (nI 1) dX5_isSheet_10 (by decide) ?_
      refine wa_goto 15 dX5_isSheet_11 (by decide) ?_
      refine wa_zret dX5_isSheet_15 rfl (by decide) ?_
      obtain ⟨j, hj, e⟩ := nI_ex (x := k) (n := 8) (by omega) (by omega) (by omega)
      exact h1 j hj e
theorem wp_X5_isRow {d : Nat} {k : Int32} {μ : Mem} {Q : QM} (h1 : ∀ j, j < 6 → k = nI j → Q (some (.int (nI 1))) μ) (h0 : oob k 6 → Q (some (.int (nI 0))) μ) : MW kX5_isRow d [.int k] μ Q := by
  refine MW_of (by decide) [some (.int k)] rfl (Nat.le_of_ble_eq_true rfl) ?_
  unfold oob at h0
  refine wa_iload_n dX5_isRow_0 rfl ?_
  refine wa_if_lt 14 dX5_isRow_1 (by decide) (fun c1_1 => ?_) (fun c1_1 => ?_)
  · try simp (disch := omega) only [nI_toInt, Int32.toInt_toInt64] at c1_1
    refine wa_iconst (nI 0) dX5_isRow_14 (by decide) ?_
    refine wa_zret dX5_isRow_15 rfl (by decide) ?_
    exact h0 (by omega)
  · try simp (disch := omega) only [nI_toInt, Int32.toInt_toInt64] at c1_1
    refine wa_iload_n dX5_isRow_4 rfl ?_
    refine wa_bipush (nI 6) dX5_isRow_5 (by decide) ?_
    refine wa_ic_ge 14 dX5_isRow_7 (by decide) (fun c7_2 => ?_) (fun c7_2 => ?_)
    · try simp (disch := omega) only [nI_toInt, Int32.toInt_toInt64] at c7_2
      refine wa_iconst (nI 0) dX5_isRow_14 (by decide) ?_
      refine wa_zret dX5_isRow_15 rfl (by decide) ?_
      exact h0 (by omega)
    · try simp (disch := omega) only [nI_toInt, Int32.toInt_toInt64] at c7_2
      refine wa_iconst (nI 1) dX5_isRow_10 (by decide) ?_
      refine wa_goto 15 dX5_isRow_11 (by decide) ?_
      refine wa_zret dX5_isRow_15 rfl (by decide) ?_
      obtain ⟨j, hj, e⟩ := nI_ex (x := k) (n := 6) (by omega) (by omega) (by omega)
      exact h1 j hj e
theorem wp_X5_isStretch {d : Nat} {k a b : Int32} {μ : Mem} {Q : QM} (hd : 1 ≤ d) (h1 : ∀ r, r < 6 → k = nI r → 0 ≤ a.toInt → a.toInt ≤ b.toInt → Q (some (.int (nI 1))) μ) (h0 : (oob k 6 ∨ a.toInt < 0 ∨ b.toInt < a.toInt) → Q (some (.int (nI 0))) μ) : MW kX5_isStretch d [.int k, .int a, .int b] μ Q := by
  refine MW_of (by decide) [some (.int k), some (.int a), some (.int b)] rfl (Nat.le_of_ble_eq_true rfl) ?_
  refine wa_iload_n dX5_isStretch_0 rfl ?_
  refine wa_callS1 (k' := kX5_isRow) (d' := 0) dX5_isStretch_1 lmX5_111 ksX5_isRow (by decide) (by omega) (Nat.le_of_ble_eq_true rfl) ?_
  refine wp_X5_isRow (fun r hr hrk => ?_) (fun hoob => ?_)
  · skip
    refine wa_if_eqF 20 dX5_isStretch_4 (by decide) (by decide) ?_
    refine wa_iload_n dX5_isStretch_7 rfl ?_
    refine wa_if_lt 20 dX5_isStretch_8 (by decide) (fun c8_2 => ?_) (fun c8_2 => ?_)
    · try simp (disch := omega) only [nI_toInt, Int32.toInt_toInt64] at c8_2
      refine wa_iconst (nI 0) dX5_isStretch_20 (by decide) ?_
      refine wa_zret dX5_isStretch_21 rfl (by decide) ?_
      exact h0 (by omega)
    · try simp (disch := omega) only [nI_toInt, Int32.toInt_toInt64] at c8_2
      refine wa_iload_n dX5_isStretch_11 rfl ?_
      refine wa_iload_n dX5_isStretch_12 rfl ?_
      refine wa_ic_lt 20 dX5_isStretch_13 (by decide) (fun c13_3 => ?_) (fun c13_3 => ?_)
      · try simp (disch := omega) only [nI_toInt, Int32.toInt_toInt64] at c13_3
        refine wa_iconst (nI 0) dX5_isStretch_20 (by decide) ?_
        refine wa_zret dX5_isStretch_21 rfl (by decide) ?_
        exact h0 (by omega)
      · try simp (disch := omega) only [nI_toInt, Int32.toInt_toInt64] at c13_3
        refine wa_iconst (nI 1) dX5_isStretch_16 (by decide) ?_
        refine wa_goto 21 dX5_isStretch_17 (by decide) ?_
        refine wa_zret dX5_isStretch_21 rfl (by decide) ?_
        exact h1 r hr hrk (by omega) (by omega)
  · skip
    refine wa_if_eqT 20 dX5_isStretch_4 (by decide) (by decide) ?_
    refine wa_iconst (nI 0) dX5_isStretch_20 (by decide) ?_
    refine wa_zret dX5_isStretch_21 rfl (by decide) ?_
    exact h0 (Or.inl hoob)
def thOk (μ : Mem) : Prop := ∀ j, j < 8 → μ.1 (7 + 4 * j) 0 = nI 0 ∨ μ.1 (7 + 4 * j) 0 = nI 1
theorem isS_k {j : Nat} (h : j < 9) : isS (7 + 4 * j) := ⟨j, h, rfl⟩
theorem isR_k {j : Nat} (h : j < 6) : isR (43 + 5 * j) := ⟨j, h, rfl⟩
theorem wp_X5_sheetFailure {d : Nat} {k : Int32} {μ : Mem} {Q : QM} (hd : 1 ≤ d) (hth : thOk μ) (hB : oob k 8 → Q (some (.int (-2))) μ) (hN : ∀ j, j < 8 → k = nI j → μ.1 (7 + 4 * j) 0 = nI 0 → Q (some (.int (-10))) μ) (hF : ∀ j, j < 8 → k = nI j → μ.1 (7 + 4 * j) 0 = nI 1 → Q (some (.int (nI 0))) μ) : MW kX5_sheetFailure d [.ref 0, .int k] μ Q := by
  refine MW_of (by decide) [some (.ref 0), some (.int k)] rfl (Nat.le_of_ble_eq_true rfl) ?_
  refine wa_iload_n dX5_sheetFailure_0 rfl ?_
  refine wa_callS1 (k' := kX5_isSheet) (d' := 0) dX5_sheetFailure_1 lmX5_44 ksX5_isSheet (by decide) (by omega) (Nat.le_of_ble_eq_true rfl) ?_
  refine wp_X5_isSheet (fun j hj hk => ?_) (fun hoob => ?_)
  · skip
    refine wa_if_neT 10 dX5_sheetFailure_4 (by decide) (by decide) ?_
    refine wa_aload_n dX5_sheetFailure_10 rfl ?_
    refine wa_getR dX5_sheetFailure_11 fgX5_11 (by first | assumption | rfl) (by rfl) ?_
    refine wa_iload_n dX5_sheetFailure_14 rfl ?_
    refine wa_aalS _ dX5_sheetFailure_15 (by first | assumption | rfl) (by exact hk) (by omega) ?_
    rw [show arf 1 j = 7 + 4 * j from rfl]; have hS := isS_k (show j < 9 by omega); have hsh := (isS_sh hS).1
    refine wa_callV0 (k' := kX3_isThere) (d' := 0) dX5_sheetFailure_16 lmX5_87 kvX3_isThere (by first | assumption | rfl) (by rfl) (by decide) (by omega) (Nat.le_of_ble_eq_true rfl) ?_
    refine wp_X3_isThere (isS_k (by omega)) (hth j hj) (fun h => ?_) (fun h => ?_)
    · skip
      refine wa_if_eqF 26 dX5_sheetFailure_19 (by decide) (by decide) ?_
      refine wa_iconst (nI 0) dX5_sheetFailure_22 (by decide) ?_
      refine wa_goto 28 dX5_sheetFailure_23 (by decide) ?_
      refine wa_iret dX5_sheetFailure_28 rfl ?_
      exact hF j hj hk h
    · skip
      refine wa_if_eqT 26 dX5_sheetFailure_19 (by decide) (by decide) ?_
      refine wa_bipush (-10) dX5_sheetFailure_26 (by decide) ?_
      refine wa_iret dX5_sheetFailure_28 rfl ?_
      exact hN j hj hk h
  · skip
    refine wa_if_neF 10 dX5_sheetFailure_4 (by decide) (by decide) ?_
    refine wa_bipush (-2) dX5_sheetFailure_7 (by decide) ?_
    refine wa_iret dX5_sheetFailure_9 rfl ?_
    exact hB hoob
theorem wp_X5_sampleFailure {d : Nat} {k i : Int32} {sz : Nat → Nat} {μ : Mem} {Q : QM} (hd : 2 ≤ d) (hth : thOk μ) (hsz : ∀ j, j < 8 → μ.1 (7 + 4 * j) 2 = nI (sz j) ∧ sz j ≤ 64) (hB : oob k 8 → Q (some (.int (-2))) μ) (hN : ∀ j, j < 8 → k = nI j → μ.1 (7 + 4 * j) 0 = nI 0 → Q (some (.int (-10))) μ) (hP : ∀ j, j < 8 → k = nI j → μ.1 (7 + 4 * j) 0 = nI 1 → (i.toInt < 0 ∨ (sz j : Int) ≤ i.toInt) → Q (some (.int (-13))) μ) (hF : ∀ j, j < 8 → k = nI j → μ.1 (7 + 4 * j) 0 = nI 1 → ∀ a, a < sz j → i = nI a → Q (some (.int (nI 0))) μ) : MW kX5_sampleFailure d [.ref 0, .int k, .int i] μ Q := by
  refine MW_of (by decide) [some (.ref 0), some (.int k), some (.int i), none] rfl (Nat.le_of_ble_eq_true rfl) ?_
  refine wa_aload_n dX5_sampleFailure_0 rfl ?_
  refine wa_iload_n dX5_sampleFailure_1 rfl ?_
  refine wa_callV1 (k' := kX5_sheetFailure) (d' := 1) dX5_sampleFailure_2 lmX5_52 kvX5_sheetFailure (by first | assumption | rfl) (by rfl) (by decide) (by omega) (Nat.le_of_ble_eq_true rfl) ?_
  refine wp_X5_sheetFailure (by omega) hth (fun hoob => ?_) (fun j hj hk h => ?_) (fun j hj hk h => ?_)
  · skip
    refine wa_istore_n dX5_sampleFailure_5 (by decide) ?_
    refine wa_iload_n dX5_sampleFailure_6 rfl ?_
    refine wa_if_eqF 12 dX5_sampleFailure_7 (by decide) (by decide) ?_
    refine wa_iload_n dX5_sampleFailure_10 rfl ?_
    refine wa_iret dX5_sampleFailure_11 rfl ?_
    exact hB hoob
  · skip
    refine wa_istore_n dX5_sampleFailure_5 (by decide) ?_
    refine wa_iload_n dX5_sampleFailure_6 rfl ?_
    refine wa_if_eqF 12 dX5_sampleFailure_7 (by decide) (by decide) ?_
    refine wa_iload_n dX5_sampleFailure_10 rfl ?_
    refine wa_iret dX5_sampleFailure_11 rfl ?_
    exact hN j hj hk h
  · skip
    refine wa_istore_n dX5_sampleFailure_5 (by decide) ?_
    refine wa_iload_n dX5_sampleFailure_6 rfl ?_
    refine wa_if_eqT 12 dX5_sampleFailure_7 (by decide) (by decide) ?_
    refine wa_aload_n dX5_sampleFailure_12 rfl ?_
    refine wa_getR dX5_sampleFailure_13 fgX5_11 (by first | assumption | rfl) (by rfl) ?_
    refine wa_iload_n dX5_sampleFailure_16 rfl ?_
    refine wa_aalS _ dX5_sampleFailure_17 (by first | assumption | rfl) (by exact hk) (by omega) ?_
    refine wa_iload_n dX5_sampleFailure_18 rfl ?_
    rw [show arf 1 j = 7 + 4 * j from rfl]; have hS := isS_k (show j < 9 by omega); have hsh := (isS_sh hS).1
    refine wa_callV1 (k' := kX3_has) (d' := 0) dX5_sampleFailure_19 lmX5_271 kvX3_has (by first | assumption | rfl) (by rfl) (by decide) (by omega) (Nat.le_of_ble_eq_true rfl) ?_
    refine wp_X3_has (isS_k (by omega)) (hsz j hj).1 (hsz j hj).2 (fun a ha hia => ?_) (fun hia => ?_)
    · skip
      refine wa_if_eqF 29 dX5_sampleFailure_22 (by decide) (by decide) ?_
      refine wa_iconst (nI 0) dX5_sampleFailure_25 (by decide) ?_
      refine wa_goto 31 dX5_sampleFailure_26 (by decide) ?_
      refine wa_iret dX5_sampleFailure_31 rfl ?_
      exact hF j hj hk h a ha hia
    · skip
      refine wa_if_eqT 29 dX5_sampleFailure_22 (by decide) (by decide) ?_
      refine wa_bipush (-13) dX5_sampleFailure_29 (by decide) ?_
      refine wa_iret dX5_sampleFailure_31 rfl ?_
      exact hP j hj hk h hia
/-! the way -/
end
section
/-! SUMS as whole numbers, and what turn() makes of them -/
theorem zand32 (x : Int64) : (x &&& 4294967295).toInt = x.toInt % 4294967296 := by
  rw [← Int64.toInt_toBitVec, ← Int64.toInt_toBitVec x, Int64.toBitVec_and]
  have e1 : (x.toBitVec &&& Int64.toBitVec 4294967295).toNat = x.toBitVec.toNat % 4294967296 := by
    rw [BitVec.toNat_and]
    exact Nat.and_two_pow_sub_one_eq_mod x.toBitVec.toNat 32
  have h1 := x.toBitVec.isLt
  rw [BitVec.toInt_eq_toNat_cond, BitVec.toInt_eq_toNat_cond, e1]
  split <;> split <;> omega
theorem zshr32 (x : Int64) : (x >>> 32).toInt = x.toInt / 4294967296 := by
  rw [← Int64.toInt_toBitVec, Int64.toBitVec_shiftRight]
  simp [BitVec.toInt_sshiftRight, Int.shiftRight_eq_div_pow]
theorem zin {x : Int} (h1 : -9000000000000000000 ≤ x) (h2 : x ≤ 9000000000000000000) : (Int64.ofInt x).toInt = x := Int64.toInt_ofInt_of_le (by omega) (by omega)
theorem zshl32 (x : Int64) : x <<< 32 = Int64.ofInt (x.toInt * 4294967296) := by
  rw [Int64.ofInt_mul, Int64.ofInt_toInt]
  apply Int64.toBitVec_inj.1
  rw [Int64.toBitVec_shiftLeft, Int64.toBitVec_mul]
  have e1 : (Int64.toBitVec 32).smod 64 = 32#64 := by decide
  have e2 : (Int64.ofInt 4294967296).toBitVec = BitVec.twoPow 64 32 := by decide
  rw [e1, e2, BitVec.shiftLeft_eq', ← BitVec.shiftLeft_eq_mul_twoPow]
  rfl
def sumZ (f : Nat → Int) : Nat → Int
  | 0 => 0
  | n + 1 => sumZ f n + f n
theorem sumZ_congr {f g : Nat → Int} : ∀ {m : Nat}, (∀ k, k < m → f k = g k) → sumZ f m = sumZ g m
  | 0, _ => rfl
  | m + 1, h => by
    rw [sumZ, sumZ, sumZ_congr (fun k hk => h k (by omega)), h m (by omega)]
theorem sumZ_le {f : Nat → Int} {C : Int} : ∀ {m : Nat}, (∀ k, k < m → -C ≤ f k ∧ f k ≤ C) → -(m * C) ≤ sumZ f m ∧ sumZ f m ≤ m * C
  | 0, _ => by simp [sumZ]
  | m + 1, h => by
    have ih := sumZ_le (m := m) (fun k hk => h k (by omega))
    have := h m (by omega)
    rw [sumZ]
    have e : ((m + 1 : Nat) : Int) * C = m * C + C := by grind
    rw [e]
    omega
theorem zmul_le {f x C B : Int} (h1 : -C ≤ f) (h2 : f ≤ C) (h3 : -B ≤ x) (h4 : x ≤ B) : -(C * B) ≤ f * x ∧ f * x ≤ C * B := by
  have hC : 0 ≤ C := by omega
  have hB : 0 ≤ B := by omega
  have a1 : 0 ≤ (C - f) * (B + x) := Int.mul_nonneg (by omega) (by omega)
  have a2 : 0 ≤ (C + f) * (B - x) := Int.mul_nonneg (by omega) (by omega)
  have a3 : 0 ≤ (C - f) * (B - x) := Int.mul_nonneg (by omega) (by omega)
  have a4 : 0 ≤ (C + f) * (B + x) := Int.mul_nonneg (by omega) (by omega)
  constructor <;> grind
theorem lev_sum (V : Nat → Int) (n : Int) (i : Nat) : ∀ m, sumZ (fun k => ((if i = k then n else 0) - 1) * V k) m = (if i < m then n * V i else 0) - sumZ V m
  | 0 => by simp [sumZ]
  | m + 1 => by
    have ih := lev_sum V n i m
    simp only [sumZ, ih]
    by_cases h : i = m
    · subst h
      simp
      grind
    · grind
theorem flat_sum (V : Nat → Int) (n A B : Int) (i : Nat) : ∀ m, sumZ (fun k => ((if i = k then n * A else 0) - A - B * (2 * k - n + 1)) * V k) m = (if i < m then n * A * V i else 0) - A * sumZ V m - B * sumZ (fun k => (2 * k - n + 1) * V k) m
  | 0 => by simp [sumZ]
  | m + 1 => by
    have ih := flat_sum V n A B i m
    simp only [sumZ, ih]
    by_cases h : i = m
    · subst h
      simp
      grind
    · grind
def onZ (V : Nat → Int) : Nat → Int
  | 0 => 0
  | i + 1 => onZ V i + V i
def twZ (V : Nat → Int) : Nat → Int
  | 0 => 0
  | i + 1 => twZ V i + onZ V (i + 1)
theorem on_sum (V : Nat → Int) : ∀ i, onZ V i = sumZ V i
  | 0 => rfl
  | i + 1 => by rw [onZ, sumZ, on_sum V i]
/-- what is beyond counts nothing -/
theorem cut_sum (f V : Nat → Int) (i : Nat) : ∀ m, i ≤ m → sumZ (fun k => (if k < i then f k else 0) * V k) m = sumZ (fun k => f k * V k) i
  | 0, h => by
    obtain rfl : i = 0 := by omega
    rfl
  | m + 1, h => by
    by_cases hi : i = m + 1
    · subst hi
      exact sumZ_congr (fun k hk => by rw [if_pos hk])
    · rw [sumZ, cut_sum f V i m (by omega), if_neg (by omega)]
      omega
theorem tw_sum (V : Nat → Int) : ∀ i, twZ V i = sumZ (fun k => ((i : Int) - k) * V k) i
  | 0 => rfl
  | i + 1 => by
    rw [twZ, tw_sum V i, on_sum, sumZ, sumZ]
    have : ∀ m, sumZ (fun k => (((i + 1 : Nat) : Int) - k) * V k) m = sumZ (fun k => ((i : Int) - k) * V k) m + sumZ V m := by
      intro m
      induction m with
      | zero => rfl
      | succ m ih =>
        simp only [sumZ, ih]
        grind
    rw [this i]
    grind
theorem sumZ_mul (c : Int) (f : Nat → Int) : ∀ m, sumZ (fun k => c * f k) m = c * sumZ f m
  | 0 => by simp [sumZ]
  | m + 1 => by
    simp only [sumZ, sumZ_mul c f m]
    grind
theorem sumZ_sub (f g : Nat → Int) : ∀ m, sumZ (fun k => f k - g k) m = sumZ f m - sumZ g m
  | 0 => by simp [sumZ]
  | m + 1 => by
    simp only [sumZ, sumZ_sub f g m]
    omega
theorem sumZ_hl (F V : Nat → Int) : ∀ m, sumZ (fun k => F k * V k) m = sumZ (fun k => F k * (V k / 4294967296)) m * 4294967296 + sumZ (fun k => F k * (V k % 4294967296)) m
  | 0 => by simp [sumZ]
  | m + 1 => by
    have e := Int.mul_ediv_add_emod (V m) 4294967296
    have ih := sumZ_hl F V m
    simp only [sumZ]
    rw [ih]
    generalize V m / 4294967296 = a at e ⊢
    generalize V m % 4294967296 = b at e ⊢
    rw [← e]
    grind
theorem twi_sum (V : Nat → Int) (n i : Nat) (hi : i < n) (f : Nat → Int)
    (hf : ∀ k, k < n → f k = (if k < i then ((n : Int) - 1) * ((i : Int) - k) else 0) - (if k < n - 1 then (i : Int) * ((n : Int) - 1 - k) else 0)) :
    sumZ (fun k => f k * V k) n = ((n : Int) - 1) * twZ V i - i * twZ V (n - 1) := by
  have e1 := cut_sum (fun k => ((n : Int) - 1) * ((i : Int) - k)) V i n (by omega)
  have e2 := cut_sum (fun k => (i : Int) * ((n : Int) - 1 - k)) V (n - 1) n (by omega)
  rw [tw_sum, tw_sum, ← sumZ_mul, ← sumZ_mul]
  rw [sumZ_congr (g := fun k => (if k < i then ((n : Int) - 1) * ((i : Int) - k) else 0) * V k - (if k < n - 1 then (i : Int) * ((n : Int) - 1 - k) else 0) * V k) (fun k hk => by rw [hf k hk, Int.sub_mul]), sumZ_sub, e1, e2]
  congr 1
  · exact sumZ_congr (fun k hk => by grind)
  · exact sumZ_congr (fun k hk => by
      have : ((n - 1 : Nat) : Int) = (n : Int) - 1 := by omega
      rw [this]
      grind)
theorem z_nI {n : Nat} (h : n < 2 ^ 31) : (nI n).toInt64 = Int64.ofInt n := by
  rw [← Int64.ofInt_int32ToInt, nI_toInt h]
theorem z_to (x : Int64) : x = Int64.ofInt x.toInt := (Int64.ofInt_toInt x).symm
theorem z_32 {x : Int} (h1 : -2147483648 ≤ x) (h2 : x ≤ 2147483647) : (Int32.ofInt x).toInt64 = Int64.ofInt x := by
  rw [← Int64.ofInt_int32ToInt, Int32.toInt_ofInt_of_le (by omega) (by omega)]
theorem z_n (n : Nat) : nI n = Int32.ofInt n := by
  show Int32.ofNat n = Int32.ofInt n
  rw [Int32.ofInt_eq_ofNat]
theorem z_1 : (1 : Int64) = Int64.ofInt 1 := rfl
theorem z_3 : (3 : Int64) = Int64.ofInt 3 := rfl
/-- the numbers, as they count -/
def vZ (v : Nat → Int64) (k : Nat) : Int := (v k).toInt
theorem z_v (v : Nat → Int64) (k : Nat) : v k = Int64.ofInt (vZ v k) := z_to _
theorem z_sum (v : Nat → Int64) : ∀ n, sumL v n = Int64.ofInt (sumZ (vZ v) n)
  | 0 => rfl
  | n + 1 => by rw [sumL, sumZ, z_sum v n, z_v v n, Int64.ofInt_add]
theorem z_slp (v : Nat → Int64) (N : Nat) (hN : N < 65) : ∀ n, n < 65 → slpS v (nI N).toInt64 n = Int64.ofInt (sumZ (fun k => (2 * (k : Int) - N + 1) * vZ v k) n)
  | 0, _ => rfl
  | n + 1, h => by
    rw [slpS, sumZ, z_slp v N hN n (by omega), z_v v n, z_1, z_nI (by omega), pk_mul, z_nI (by omega)]
    simp only [← Int64.ofInt_mul, ← Int64.ofInt_add, ← Int64.ofInt_sub]
    congr 1
def fcZ (w n i k : Nat) : Int := match w with
  | 0 => (if i = k then (n : Int) else 0) - 1
  | 1 => (if i = k then (n : Int) * ((n : Int) * n - 1) else 0) - ((n : Int) * n - 1) - 3 * (2 * (i : Int) - n + 1) * (2 * (k : Int) - n + 1)
  | 2 => (if k < i then ((n : Int) - 1) * ((i : Int) - k) else 0) - (if k < n - 1 then (i : Int) * ((n : Int) - 1 - k) else 0)
  | _ => if oddB k (tmF (grI i) (Nat.log2 n)) = true then -1 else 1
theorem z_onc (v : Nat → Int64) : ∀ i, oncS v i = Int64.ofInt (onZ (vZ v) i)
  | 0 => rfl
  | i + 1 => by rw [oncS, onZ, z_onc v i, z_v v i, Int64.ofInt_add]
theorem z_twc (v : Nat → Int64) : ∀ i, twcS v i = Int64.ofInt (twZ (vZ v) i)
  | 0 => rfl
  | i + 1 => by rw [twcS, twZ, z_twc v i, z_onc v (i + 1), Int64.ofInt_add]
theorem z_ton (v : Nat → Int64) (mask : Int32) : ∀ n, tonS v mask n = Int64.ofInt (sumZ (fun k => (if oddB k mask = true then -1 else 1) * vZ v k) n)
  | 0 => rfl
  | n + 1 => by
    rw [tonS, sumZ, z_ton v mask n, Int64.ofInt_add]
    congr 1
    by_cases h : oddB n mask = true
    · rw [if_pos h, if_pos h, z_v v n, Int64.neg_ofInt]
      congr 1
      omega
    · rw [if_neg h, if_neg h, z_v v n]
      congr 1
      omega
theorem z_gW (v : Nat → Int64) {n w i : Nat} (hn : n ≤ 64) (hw : w < 4) (hi : i < n) : gW v n w i = Int64.ofInt (sumZ (fun k => fcZ w n i k * vZ v k) n) := by
  have hh : w = 0 ∨ w = 1 ∨ w = 2 ∨ w = 3 := by omega
  rcases hh with rfl | rfl | rfl | rfl
  · show gLev v n i = Int64.ofInt (sumZ (fun k => ((if i = k then (n : Int) else 0) - 1) * vZ v k) n)
    rw [lev_sum, if_pos hi, gLev, z_nI (by omega), z_v v i, z_sum]
    simp only [← Int64.ofInt_mul, ← Int64.ofInt_sub]
  · show gFlat v n i = Int64.ofInt (sumZ (fun k => ((if i = k then (n : Int) * ((n : Int) * n - 1) else 0) - ((n : Int) * n - 1) - 3 * (2 * (i : Int) - n + 1) * (2 * (k : Int) - n + 1)) * vZ v k) n)
    rw [flat_sum, if_pos hi, gFlat, z_slp v n (by omega) n (by omega), z_nI (by omega), z_v v i, z_sum, z_1, z_3, pk_mul, z_nI (by omega)]
    simp only [← Int64.ofInt_mul, ← Int64.ofInt_sub, ← Int64.ofInt_add]
    congr 1
  · show gTwi v n i = Int64.ofInt (sumZ (fun k => ((if k < i then ((n : Int) - 1) * ((i : Int) - k) else 0) - (if k < n - 1 then (i : Int) * ((n : Int) - 1 - k) else 0)) * vZ v k) n)
    rw [twi_sum (vZ v) n i hi (fun k => (if k < i then ((n : Int) - 1) * ((i : Int) - k) else 0) - (if k < n - 1 then (i : Int) * ((n : Int) - 1 - k) else 0)) (fun k _ => rfl), gTwi, pk_sub (by omega), z_nI (by omega), z_nI (by omega), z_twc, z_twc]
    simp only [← Int64.ofInt_mul, ← Int64.ofInt_sub]
    congr 1
    have : ((n - 1 : Nat) : Int) = (n : Int) - 1 := by omega
    rw [this]
  · exact z_ton v (tmF (grI i) (Nat.log2 n)) n
theorem fcZ_le {w n i k : Nat} (hn : n ≤ 64) (hw : w < 4) (hi : i < n) (hk : k < n) : -300000 ≤ fcZ w n i k ∧ fcZ w n i k ≤ 300000 := by
  have hh : w = 0 ∨ w = 1 ∨ w = 2 ∨ w = 3 := by omega
  rcases hh with rfl | rfl | rfl | rfl
  · simp only [fcZ]
    split <;> omega
  · simp only [fcZ]
    have a1 := zmul_le (f := (n : Int)) (x := n) (C := 64) (B := 64) (by omega) (by omega) (by omega) (by omega)
    have a2 := zmul_le (f := (n : Int)) (x := (n : Int) * n - 1) (C := 64) (B := 4097) (by omega) (by omega) (by omega) (by omega)
    have a3 := zmul_le (f := 3 * (2 * (i : Int) - n + 1)) (x := 2 * (k : Int) - n + 1) (C := 192) (B := 64) (by omega) (by omega) (by omega) (by omega)
    generalize (n : Int) * ((n : Int) * n - 1) = A at a2 ⊢
    generalize (n : Int) * n = B at a1 a2 ⊢
    generalize 3 * (2 * (i : Int) - n + 1) * (2 * (k : Int) - n + 1) = D at a3 ⊢
    split <;> omega
  · simp only [fcZ]
    have a1 := zmul_le (f := (n : Int) - 1) (x := (i : Int) - k) (C := 64) (B := 64) (by omega) (by omega) (by omega) (by omega)
    have a2 := zmul_le (f := (i : Int)) (x := (n : Int) - 1 - k) (C := 64) (B := 64) (by omega) (by omega) (by omega) (by omega)
    generalize ((n : Int) - 1) * ((i : Int) - k) = A at a1 ⊢
    generalize (i : Int) * ((n : Int) - 1 - k) = B at a2 ⊢
    split <;> split <;> omega
  · simp only [fcZ]
    split <;> omega
/-- no sum of turn() wraps -/
theorem gW_in (v : Nat → Int64) {n w i : Nat} (hn : n ≤ 64) (hw : w < 4) (hi : i < n) (hv : inB v n 4000000000000000) (h4 : w = 1 ∨ w = 2 → inB v n 4000000000) : -9000000000000000000 ≤ sumZ (fun k => fcZ w n i k * vZ v k) n ∧ sumZ (fun k => fcZ w n i k * vZ v k) n ≤ 9000000000000000000 := by
  have hh : w = 0 ∨ (w = 1 ∨ w = 2) ∨ w = 3 := by omega
  rcases hh with rfl | h12 | rfl
  · have e : sumZ (fun k => fcZ 0 n i k * vZ v k) n = n * vZ v i - sumZ (vZ v) n := by
      have e0 := lev_sum (vZ v) n i n
      rw [if_pos hi] at e0
      exact e0
    have a1 := zmul_le (f := (n : Int)) (x := vZ v i) (C := 64) (B := 4000000000000000) (by omega) (by omega) (hv i hi).1 (hv i hi).2
    have a2 := sumZ_le (f := vZ v) (C := 4000000000000000) (m := n) (fun k hk => hv k hk)
    rw [e]
    generalize (n : Int) * vZ v i = A at a1 ⊢
    omega
  · have a2 := sumZ_le (f := fun k => fcZ w n i k * vZ v k) (C := 300000 * 4000000000) (m := n) (fun k hk => zmul_le (fcZ_le hn hw hi hk).1 (fcZ_le hn hw hi hk).2 (h4 h12 k hk).1 (h4 h12 k hk).2)
    omega
  · have a2 := sumZ_le (f := fun k => fcZ 3 n i k * vZ v k) (C := 1 * 4000000000000000) (m := n) (fun k hk => zmul_le (by simp only [fcZ]; split <;> omega) (by simp only [fcZ]; split <;> omega) (hv k hk).1 (hv k hk).2)
    omega
/-- in two parts, and put together -/
def suZ (F : Nat → Int) (v : Nat → Int64) (k : Nat) : Int64 := Int64.ofInt (sumZ (fun k => F k * (vZ v k / 4294967296)) k)
def slZ (F : Nat → Int) (v : Nat → Int64) (k : Nat) : Int64 := Int64.ofInt (sumZ (fun k => F k * (vZ v k % 4294967296)) k)
theorem suZ_s (F : Nat → Int) (v : Nat → Int64) (k : Nat) : suZ F v k + Int64.ofInt (F k) * (v k >>> 32) = suZ F v (k + 1) := by
  rw [suZ, suZ, sumZ, z_to (v k >>> 32), zshr32, Int64.ofInt_add, Int64.ofInt_mul]
  rfl
theorem slZ_s (F : Nat → Int) (v : Nat → Int64) (k : Nat) : slZ F v k + Int64.ofInt (F k) * (v k &&& 4294967295) = slZ F v (k + 1) := by
  rw [slZ, slZ, sumZ, z_to (v k &&& 4294967295), zand32, Int64.ofInt_add, Int64.ofInt_mul]
  rfl
theorem two_z (F : Nat → Int) (v : Nat → Int64) {n : Nat} (hn : n ≤ 64) (hF : ∀ k, k < n → -300000 ≤ F k ∧ F k ≤ 300000) (hv : inB v n 4000000000000000) : ∃ U L : Int, (suZ F v n + (slZ F v n >>> 32)).toInt = U ∧ sumZ (fun k => F k * vZ v k) n = U * 4294967296 + L ∧ 0 ≤ L ∧ L < 4294967296 ∧ ((suZ F v n + (slZ F v n >>> 32)) <<< 32) + (slZ F v n &&& 4294967295) = Int64.ofInt (sumZ (fun k => F k * vZ v k) n) := by
  have b1 := sumZ_le (f := fun k => F k * (vZ v k / 4294967296)) (C := 300000 * 1000000) (m := n) (fun k hk => by
    have hb := hv k hk
    exact zmul_le (hF k hk).1 (hF k hk).2 (by unfold vZ; omega) (by unfold vZ; omega))
  have b2 := sumZ_le (f := fun k => F k * (vZ v k % 4294967296)) (C := 300000 * 4294967296) (m := n) (fun k hk => by
    exact zmul_le (hF k hk).1 (hF k hk).2 (by omega) (by omega))
  have e0 := sumZ_hl F (vZ v) n
  have t1 : (suZ F v n).toInt = sumZ (fun k => F k * (vZ v k / 4294967296)) n := by
    rw [suZ]
    exact zin (by omega) (by omega)
  have t2 : (slZ F v n).toInt = sumZ (fun k => F k * (vZ v k % 4294967296)) n := by
    rw [slZ]
    exact zin (by omega) (by omega)
  generalize sumZ (fun k => F k * (vZ v k / 4294967296)) n = SU at b1 e0 t1
  generalize sumZ (fun k => F k * (vZ v k % 4294967296)) n = SL at b2 e0 t2
  have t3 : suZ F v n + (slZ F v n >>> 32) = Int64.ofInt (SU + SL / 4294967296) := by
    rw [z_to (suZ F v n), z_to (slZ F v n >>> 32), zshr32, t1, t2, Int64.ofInt_add]
  have t4 : (Int64.ofInt (SU + SL / 4294967296)).toInt = SU + SL / 4294967296 := zin (by omega) (by omega)
  refine ⟨SU + SL / 4294967296, SL % 4294967296, by rw [t3, t4], by omega, by omega, by omega, ?_⟩
  rw [t3, zshl32, t4, z_to (slZ F v n &&& 4294967295), zand32, t2, ← Int64.ofInt_add]
  congr 1
  omega
/-- the model's own way to a TONE's mask: what is turned so far, what is left -/
def mtT (i : Nat) : Nat → Int32 × Int32
  | 0 => (nI 0, grI i)
  | b + 1 => (nI 2 * (mtT i b).1 + ((mtT i b).2 &&& nI 1), (mtT i b).2 >>> (nI 1 &&& 31))
theorem mt_eq : ∀ p, p < 7 → ∀ i, i < 64 → (mtT i p).1 = tmF (grI i) p ∧ (tmF (grI i) p) = nI (tmF (grI i) p).toInt.toNat ∧ (tmF (grI i) p).toInt.toNat < 64 := by decide +kernel
def orX : Nat → Nat → Int32 → Int32
  | 0, _, o => o
  | m + 1, c, o => if c = 0 then o else orX m (c / 2) (o ^^^ (nI c &&& nI 1))
theorem or_eq : ∀ c, c < 64 → ((orX 7 c (nI 0)).toInt = 1 ↔ (bcI (nI c) &&& nI 1).toInt = 1) := by decide +kernel
theorem z_and : ∀ t, t < 64 → ∀ k, k < 64 → nI t &&& nI k = nI (t &&& k) ∧ t &&& k < 64 := by decide +kernel
theorem z_half : ∀ c, c < 64 → nI c >>> (nI 1 &&& 31) = nI (c / 2) := by decide +kernel
theorem p2_k : ∀ b, b ≤ 6 → nI 2 * nI (2 ^ b) = nI (2 ^ (b + 1)) := by decide
end
section
/-! SUMS: the signs of TONES, in whole numbers -/
theorem x4_ (a b x y : Bool) : ((a ^^ b) ^^ (x ^^ y)) = ((a ^^ x) ^^ (b ^^ y)) := by cases a <;> cases b <;> cases x <;> cases y <;> rfl
def prN (c : Nat) : Nat → Bool
  | 0 => false
  | b + 1 => (prN c b ^^ c.testBit b)
theorem prN_x (a b : Nat) : ∀ m, prN (a ^^^ b) m = (prN a m ^^ prN b m)
  | 0 => rfl
  | m + 1 => by rw [prN, prN, prN, prN_x a b m, Nat.testBit_xor, x4_]
theorem prN_0 : ∀ m, prN 0 m = false
  | 0 => rfl
  | m + 1 => by rw [prN, prN_0 m, Nat.zero_testBit]; rfl
/-- a number's bits turned about -/
def mkN (g : Nat) : Nat → Nat
  | 0 => 0
  | b + 1 => mkN g b * 2 + (g / 2 ^ b) % 2
/-- is the SIGN of place i in TONE k minus, of 2 ^ p numbers -/
def sgB (p i k : Nat) : Bool := prN (i &&& mkN (k ^^^ (k / 2)) p) 6
theorem mk_tm : ∀ p, p < 7 → ∀ k, k < 64 → tmF (grI k) p = nI (mkN (k ^^^ (k / 2)) p) ∧ mkN (k ^^^ (k / 2)) p < 64 := by decide +kernel
theorem ob_pr : ∀ c, c < 64 → decide ((bcI (nI c) &&& nI 1).toInt = 1) = prN c 6 := by decide +kernel
theorem odd_sg {p i k : Nat} (hp : p < 7) (hi : i < 64) (hk : k < 64) : oddB i (tmF (grI k) p) = sgB p i k := by
  obtain ⟨h1, h2⟩ := mk_tm p hp k hk
  obtain ⟨h3, h4⟩ := z_and i hi (mkN (k ^^^ (k / 2)) p) h2
  rw [oddB, h1, h3, ob_pr _ h4, sgB]
theorem sg_sym : ∀ p, p < 7 → ∀ i, i < 2 ^ p → ∀ k, k < 2 ^ p → sgB p i k = sgB p k i := by decide +kernel
theorem sg_x (p i j k : Nat) : sgB p (i ^^^ j) k = (sgB p i k ^^ sgB p j k) := by rw [sgB, sgB, sgB, Nat.and_xor_distrib_right, prN_x]
theorem sg_0 : ∀ p, p < 7 → mkN (0 ^^^ (0 / 2)) p = 0 := by decide
theorem sg_i0 {p i : Nat} (hp : p < 7) : sgB p i 0 = false := by rw [sgB, sg_0 p hp, Nat.and_zero, prN_0]
def sgZ (b : Bool) : Int := if b = true then -1 else 1
theorem sgZ_x (a b : Bool) : sgZ (a ^^ b) = sgZ a * sgZ b := by cases a <;> cases b <;> rfl
theorem sgZ_s (a : Bool) : sgZ a * sgZ a = 1 := by cases a <;> rfl
theorem sgZ_le (a : Bool) : -1 ≤ sgZ a ∧ sgZ a ≤ 1 := by cases a <;> decide
theorem sg_sum : ∀ p, p < 7 → ∀ c, c < 2 ^ p → ¬ c = 0 → sumZ (fun k => sgZ (sgB p c k)) (2 ^ p) = 0 := by decide +kernel
theorem sum_one : ∀ n, sumZ (fun _ => 1) n = n
  | 0 => rfl
  | n + 1 => by rw [sumZ, sum_one n]; omega
theorem xor_ne {i j : Nat} (h : ¬ i = j) : ¬ i ^^^ j = 0 := fun q => h (by
  have e1 : (i ^^^ j) ^^^ j = i := by rw [Nat.xor_assoc, Nat.xor_self, Nat.xor_zero]
  rw [q, Nat.zero_xor] at e1
  exact e1.symm)
theorem sg_orth {p i j : Nat} (hp : p < 7) (hi : i < 2 ^ p) (hj : j < 2 ^ p) : sumZ (fun k => sgZ (sgB p i k) * sgZ (sgB p j k)) (2 ^ p) = if i = j then ((2 ^ p : Nat) : Int) else 0 := by
  by_cases h : i = j
  · subst h
    rw [if_pos rfl, sumZ_congr (g := fun _ => 1) (fun k _ => sgZ_s _), sum_one]
  · rw [if_neg h, ← sg_sum p hp (i ^^^ j) (Nat.xor_lt_two_pow hi hj) (xor_ne h)]
    exact sumZ_congr (fun k _ => by rw [sg_x, sgZ_x])
theorem sumZ_add (f g : Nat → Int) : ∀ m, sumZ (fun k => f k + g k) m = sumZ f m + sumZ g m
  | 0 => by simp [sumZ]
  | m + 1 => by
    simp only [sumZ, sumZ_add f g m]
    omega
theorem sumZ_nil : ∀ m, sumZ (fun _ => 0) m = 0
  | 0 => rfl
  | m + 1 => by rw [sumZ, sumZ_nil m]; rfl
theorem sumZ_swap (f : Nat → Nat → Int) (n : Nat) : ∀ m, sumZ (fun k => sumZ (fun j => f k j) n) m = sumZ (fun j => sumZ (fun k => f k j) m) n
  | 0 => by
    simp only [sumZ]
    exact (sumZ_nil n).symm
  | m + 1 => by
    rw [sumZ, sumZ_swap f n m, ← sumZ_add]
    rfl
theorem sumZ_dl (V : Nat → Int) (c : Int) (i : Nat) : ∀ m, sumZ (fun j => (if i = j then c else 0) * V j) m = if i < m then c * V i else 0
  | 0 => by simp [sumZ]
  | m + 1 => by
    have ih := sumZ_dl V c i m
    rw [sumZ, ih]
    by_cases h : i = m
    · subst h
      rw [if_neg (by omega), if_pos rfl, if_pos (by omega)]
      omega
    · rw [if_neg h]
      by_cases h2 : i < m
      · rw [if_pos h2, if_pos (by omega)]
        omega
      · rw [if_neg h2, if_neg (by omega)]
        omega
/-- TONE k of the numbers V -/
def tonZ (V : Nat → Int) (p k : Nat) : Int := sumZ (fun i => sgZ (sgB p i k) * V i) (2 ^ p)
theorem ton_inv {p i : Nat} (hp : p < 7) (hi : i < 2 ^ p) (V : Nat → Int) : sumZ (fun k => sgZ (sgB p i k) * tonZ V p k) (2 ^ p) = ((2 ^ p : Nat) : Int) * V i := by
  have e1 : sumZ (fun k => sgZ (sgB p i k) * tonZ V p k) (2 ^ p) = sumZ (fun k => sumZ (fun j => sgZ (sgB p i k) * (sgZ (sgB p j k) * V j)) (2 ^ p)) (2 ^ p) := sumZ_congr (fun k _ => by rw [tonZ, sumZ_mul])
  rw [e1, sumZ_swap]
  have e2 : sumZ (fun j => sumZ (fun k => sgZ (sgB p i k) * (sgZ (sgB p j k) * V j)) (2 ^ p)) (2 ^ p) = sumZ (fun j => (if i = j then ((2 ^ p : Nat) : Int) else 0) * V j) (2 ^ p) := sumZ_congr (fun j hj => by
    rw [← sg_orth hp hi hj, Int.mul_comm, ← sumZ_mul]
    exact sumZ_congr (fun k _ => by grind))
  rw [e2, sumZ_dl, if_pos hi]
theorem ton_par {p : Nat} (hp : p < 7) (V U : Nat → Int) : sumZ (fun k => tonZ V p k * tonZ U p k) (2 ^ p) = ((2 ^ p : Nat) : Int) * sumZ (fun i => V i * U i) (2 ^ p) := by
  have e1 : sumZ (fun k => tonZ V p k * tonZ U p k) (2 ^ p) = sumZ (fun k => sumZ (fun i => tonZ U p k * (sgZ (sgB p i k) * V i)) (2 ^ p)) (2 ^ p) := sumZ_congr (fun k _ => by rw [sumZ_mul, Int.mul_comm, tonZ.eq_def V])
  rw [e1, sumZ_swap, ← sumZ_mul]
  refine sumZ_congr (fun i hi => ?_)
  have e2 : sumZ (fun k => tonZ U p k * (sgZ (sgB p i k) * V i)) (2 ^ p) = V i * sumZ (fun k => sgZ (sgB p i k) * tonZ U p k) (2 ^ p) := by
    rw [← sumZ_mul]
    exact sumZ_congr (fun k _ => by grind)
  rw [e2, ton_inv hp hi]
  grind
theorem ton_two {p k : Nat} (hp : p < 7) (hk : k < 2 ^ p) (V : Nat → Int) : tonZ (tonZ V p) p k = ((2 ^ p : Nat) : Int) * V k := by
  rw [← ton_inv hp hk, tonZ]
  exact sumZ_congr (fun i hi => by rw [sg_sym p hp i hi k hk])
theorem ton_0 {p : Nat} (hp : p < 7) (V : Nat → Int) : tonZ V p 0 = sumZ V (2 ^ p) := by
  rw [tonZ]
  refine sumZ_congr (fun i _ => ?_)
  rw [sg_i0 hp]
  show 1 * V i = V i
  omega
theorem ton_lin (V U : Nat → Int) (a b : Int) (p k : Nat) : tonZ (fun i => a * V i + b * U i) p k = a * tonZ V p k + b * tonZ U p k := by
  rw [tonZ, tonZ, tonZ, ← sumZ_mul, ← sumZ_mul, ← sumZ_add]
  exact sumZ_congr (fun i _ => by grind)
theorem ton_unit {p t k : Nat} (ht : t < 2 ^ p) : tonZ (fun i => if i = t then 1 else 0) p k = sgZ (sgB p t k) := by
  have e1 : tonZ (fun i => if i = t then 1 else 0) p k = sumZ (fun i => (if t = i then 1 else 0) * sgZ (sgB p i k)) (2 ^ p) := by
    rw [tonZ]
    refine sumZ_congr (fun i _ => ?_)
    by_cases h : i = t
    · rw [if_pos h, if_pos h.symm]
      omega
    · rw [if_neg h, if_neg (fun q => h q.symm)]
      omega
  rw [e1, sumZ_dl, if_pos ht]
  omega
theorem ton_le {V : Nat → Int} {B : Int} {p : Nat} (hp : p < 7) (h : ∀ i, i < 2 ^ p → -B ≤ V i ∧ V i ≤ B) (k : Nat) : -(64 * B) ≤ tonZ V p k ∧ tonZ V p k ≤ 64 * B := by
  have hB : 0 ≤ B := by have := h 0 (Nat.two_pow_pos p); omega
  have h64 : ∀ q, q < 7 → 2 ^ q ≤ 64 := by decide
  have hn := h64 p hp
  have a1 := sumZ_le (f := fun i => sgZ (sgB p i k) * V i) (C := B) (m := 2 ^ p) (fun i hi => by
    have h1 := h i hi
    show -B ≤ sgZ (sgB p i k) * V i ∧ sgZ (sgB p i k) * V i ≤ B
    cases sgB p i k
    · show -B ≤ 1 * V i ∧ 1 * V i ≤ B
      omega
    · show -B ≤ -1 * V i ∧ -1 * V i ≤ B
      omega)
  have a2 : ((2 ^ p : Nat) : Int) * B ≤ 64 * B := Int.mul_le_mul_of_nonneg_right (by omega) hB
  rw [tonZ]
  omega
/-- how often the signs of TONES of place t change, up to place m -/
def flN (p t : Nat) : Nat → Nat
  | 0 => 0
  | m + 1 => flN p t m + (if sgB p t (m + 1) = sgB p t m then 0 else 1)
theorem fl_end : ∀ p, p < 7 → ∀ t, t < 2 ^ p → flN p t (2 ^ p - 1) = t := by decide +kernel
theorem fl_le (p t : Nat) : ∀ m, flN p t m ≤ m
  | 0 => Nat.le_refl 0
  | m + 1 => by
    have := fl_le p t m
    rw [flN]
    split <;> omega
theorem sgZ_inj : ∀ a b : Bool, (Int64.ofInt (sgZ a)).toInt = (Int64.ofInt (sgZ b)).toInt ↔ a = b := by decide
/-- the squares of those from a to b, together -/
def frZ (V : Nat → Int) (a : Nat) (b : Int) (n : Nat) : Int := sumZ (fun i => if a ≤ i ∧ (i : Int) ≤ b then V i * V i else 0) n
theorem fr_all {V : Nat → Int} {n : Nat} {b : Int} (hb : (n : Int) ≤ b) : frZ V 0 b n = sumZ (fun i => V i * V i) n := sumZ_congr (fun i hi => by rw [if_pos ⟨by omega, by omega⟩])
theorem fr_two (V : Nat → Int) {a n : Nat} : frZ V 0 (a : Int) n + frZ V (a + 1) (n : Int) n = sumZ (fun i => V i * V i) n := by
  rw [frZ, frZ, ← sumZ_add]
  refine sumZ_congr (fun i hi => ?_)
  by_cases h : i ≤ a
  · rw [if_pos ⟨by omega, by omega⟩, if_neg (by omega)]
    omega
  · rw [if_neg (by omega), if_pos ⟨by omega, by omega⟩]
    omega
theorem fr_one (V : Nat → Int) {a n : Nat} (h : n ≤ a + 1) : frZ V 0 (a : Int) n = sumZ (fun i => V i * V i) n := sumZ_congr (fun i hi => by rw [if_pos ⟨by omega, by omega⟩])
/-! the class's sums -/
theorem z_pr {v w : Nat → Int64} {V U : Nat → Int} : ∀ {n : Nat}, (∀ i, i < n → v i = Int64.ofInt (V i)) → (∀ i, i < n → w i = Int64.ofInt (U i)) → prS v w n = Int64.ofInt (sumZ (fun i => V i * U i) n)
  | 0, _, _ => rfl
  | n + 1, h1, h2 => by
    rw [prS, sumZ, z_pr (n := n) (fun i hi => h1 i (by omega)) (fun i hi => h2 i (by omega)), h1 n (by omega), h2 n (by omega), Int64.ofInt_add, Int64.ofInt_mul]
theorem fr_low (V : Nat → Int) (a : Nat) (b : Int) : ∀ m, m ≤ a → frZ V a b m = 0
  | 0, _ => rfl
  | m + 1, h => by
    have ih := fr_low V a b m (by omega)
    rw [frZ] at ih ⊢
    rw [sumZ, ih, if_neg (by omega)]
    rfl
theorem fr_high (V : Nat → Int) (a : Nat) (b : Int) (i : Nat) : ∀ m, b < (i : Int) → frZ V a b (i + m) = frZ V a b i
  | 0, _ => rfl
  | m + 1, h => by
    have ih := fr_high V a b i m h
    show frZ V a b (i + m) + (if a ≤ i + m ∧ ((i + m : Nat) : Int) ≤ b then V (i + m) * V (i + m) else 0) = frZ V a b i
    rw [ih, if_neg (by omega)]
    omega
theorem z_sq {v : Nat → Int64} {V : Nat → Int} {n a : Nat} {b : Int} (h : ∀ i, i < n → v i = Int64.ofInt (V i)) : ∀ m i, n ≤ i + m → i ≤ n → a ≤ i → sqF v b n m i (Int64.ofInt (frZ V a b i)) = Int64.ofInt (frZ V a b n)
  | 0, i, h1, h2, _ => by
    rw [sqF, show i = n by omega]
  | m + 1, i, h1, h2, h3 => by
    rw [sqF]
    by_cases q : i < n ∧ (i : Int) ≤ b
    · rw [if_pos q, h i q.1, ← Int64.ofInt_mul, ← Int64.ofInt_add]
      have e : frZ V a b i + V i * V i = frZ V a b (i + 1) := by
        rw [frZ, frZ, sumZ, if_pos ⟨h3, q.2⟩]
      rw [e]
      exact z_sq h m (i + 1) (by omega) (by omega) (by omega)
    · rw [if_neg q]
      by_cases q2 : i = n
      · rw [q2]
      · have := fr_high V a b i (n - i) (by omega)
        rw [show i + (n - i) = n by omega] at this
        rw [this]
theorem z_sq0 {v : Nat → Int64} {V : Nat → Int} {n a : Nat} {b : Int} (h : ∀ i, i < n → v i = Int64.ofInt (V i)) (hn : n ≤ 64) (ha : a ≤ n) : sqF v b n 64 a 0 = Int64.ofInt (frZ V a b n) := by
  have := z_sq (b := b) h 64 a (by omega) ha (Nat.le_refl a)
  rw [fr_low V a b a (Nat.le_refl a)] at this
  exact this
theorem z_tn {v : Nat → Int64} {V : Nat → Int} {p k : Nat} (hp : p < 7) (hk : k < 64) : ∀ {n : Nat}, n ≤ 64 → (∀ i, i < n → v i = Int64.ofInt (V i)) → tonS v (tmF (grI k) p) n = Int64.ofInt (sumZ (fun i => sgZ (sgB p i k) * V i) n)
  | 0, _, _ => rfl
  | n + 1, hn, h => by
    rw [tonS, sumZ, z_tn hp hk (n := n) (by omega) (fun i hi => h i (by omega)), Int64.ofInt_add, odd_sg hp (by omega) hk, h n (by omega)]
    cases sgB p n k
    · rw [if_neg (by decide)]
      congr 2
      show V n = 1 * V n
      omega
    · rw [if_pos rfl, Int64.neg_ofInt]
      congr 2
      show -V n = -1 * V n
      omega
theorem inB_z {v : Nat → Int64} {V : Nat → Int} {n : Nat} {B C : Int} (h : ∀ i, i < n → v i = Int64.ofInt (V i)) (hV : ∀ i, i < n → -C ≤ V i ∧ V i ≤ C) (hC : C ≤ B) (hB : C ≤ 4000000000000000) : inB v n B := fun i hi => by
  have := hV i hi
  rw [h i hi, zin (by omega) (by omega)]
  omega
theorem cpy_lt {f g : Nat → Int64} {n i : Nat} (h : i < n) : va_cpy f g 0 0 n i = f i := by
  show (if 0 ≤ i ∧ i < 0 + n then f (0 + (i - 0)) else g i) = f i
  rw [if_pos (by omega)]
  congr 1
  omega
theorem nI_nn {x : Int32} (h : 0 ≤ x.toInt) : ∃ m, m < 2 ^ 31 ∧ x = nI m := by
  have := x.toInt_lt
  refine ⟨x.toInt.toNat, by omega, ?_⟩
  apply Int32.toInt_inj.mp
  rw [nI_toInt (by omega)]
  omega
end
section
/-! THE CALLS: what the law's calls do, told in whole numbers -/
def RowIs (μ : Mem) (r n : Nat) (V : Nat → Int) : Prop := μ.1 (43 + 5 * r) 0 = nI n ∧ ∀ i, i < n → μ.2 (43 + 5 * r + 1) i = Int64.ofInt (V i)
def ShIs (μ : Mem) (k n : Nat) : Prop := μ.1 (7 + 4 * k) 0 = nI 1 ∧ μ.1 (7 + 4 * k) 1 = nI 2 ∧ μ.1 (7 + 4 * k) 2 = nI n ∧ ∀ i, i < n → μ.1 (7 + 4 * k + 2) i = nI 1
/-- all tags but those from a on, below b, stay -/
def Kp (μ ν : Mem) (a b : Nat) : Prop := ∀ t, ¬ (a ≤ t ∧ t < b) → ν.1 t = μ.1 t ∧ ν.2 t = μ.2 t
def bnd (V : Nat → Int) (n : Nat) (B : Int) : Prop := ∀ i, i < n → -B ≤ V i ∧ V i ≤ B
theorem nob8 {k : Nat} (h : k < 8) : ¬ oob (nI k) 8 := by
  unfold oob
  rw [nI_toInt (by omega)]
  omega
theorem nob6 {k : Nat} (h : k < 6) : ¬ oob (nI k) 6 := by
  unfold oob
  rw [nI_toInt (by omega)]
  omega
theorem cntN_z {f : Nat → Int32} : ∀ {n : Nat}, (∀ i, i < n → f i = nI 1) → cntN f (nI 0) n = 0
  | 0, _ => rfl
  | n + 1, h => by
    rw [cntN, cntN_z (n := n) (fun i hi => h i (by omega)), h n (by omega), if_neg (by decide)]
theorem wp_sheet {d k n : Nat} {μ : Mem} {Q : QM} (hd : 2 ≤ d) (hk : k < 8) (hn : n ≤ 64) (hQ : ∀ ν, ShIs ν k n → Kp μ ν (7 + 4 * k) (11 + 4 * k) → Q (some (.int (nI 1))) ν) : MW kX5_sheet d [.ref 0, .int (nI k), .int (nI 2), .int (nI n)] μ Q := by
  have hS := isS_k (show k < 9 by omega)
  have hsh := (isS_sh hS).1
  refine MW_of (by decide) [some (.ref 0), some (.int (nI k)), some (.int (nI 2)), some (.int (nI n))] rfl (Nat.le_of_ble_eq_true rfl) ?_
  refine wa_iload_n dX5_sheet_0 rfl ?_
  refine wa_callS1 (k' := kX5_isSheet) (d' := 0) dX5_sheet_1 lmX5_44 ksX5_isSheet (by decide) (by omega) (Nat.le_of_ble_eq_true rfl) ?_
  refine wp_X5_isSheet (fun j_ hj_ e_ => ?_) (fun q_ => absurd q_ (nob8 hk))
  refine wa_if_eqF 22 dX5_sheet_4 (by decide) (by decide) ?_
  refine wa_iload_n dX5_sheet_7 rfl ?_
  refine wa_if_ltF 22 dX5_sheet_8 (by decide) (by decide) ?_
  refine wa_iload_n dX5_sheet_11 rfl ?_
  refine wa_iconst (nI 2) dX5_sheet_12 (by decide) ?_
  refine wa_ic_gtF 22 dX5_sheet_13 (by decide) (by decide) ?_
  refine wa_iload_n dX5_sheet_16 rfl ?_
  refine wa_bipush (nI 64) dX5_sheet_17 (by decide) ?_
  refine wa_ic_leT 25 dX5_sheet_19 (by decide) (le_nI (by omega) (by omega)) ?_
  refine wa_iload_n dX5_sheet_25 rfl ?_
  refine wa_if_geT 32 dX5_sheet_26 (by decide) (by rw [nI_toInt (by omega)]; omega) ?_
  refine wa_aload_n dX5_sheet_32 rfl ?_
  refine wa_getR dX5_sheet_33 fgX5_11 (by first | assumption | rfl) (by rfl) ?_
  refine wa_iload_n dX5_sheet_36 rfl ?_
  refine wa_aalS _ dX5_sheet_37 (by first | assumption | rfl) (by first | with_reducible rfl | with_reducible assumption | with_reducible exact ix_ma _ _ _ | with_reducible exact ix_maa _ _ _ _ | with_reducible exact ix_a _ _ | with_reducible exact ix_mama _ _ _ _ _) (by omega) ?_
  rw [show arf 1 k = 7 + 4 * k from rfl]
  refine wa_iload_n dX5_sheet_38 rfl ?_
  refine wa_iload_n dX5_sheet_39 rfl ?_
  refine wa_callV2 (k' := kX3_begin) (d' := 1) dX5_sheet_40 lmX5_48 kvX3_begin (by first | assumption | rfl) (by rfl) (by decide) (by omega) (Nat.le_of_ble_eq_true rfl) ?_
  refine wp_X3_begin hS (by omega) ?_
  refine wa_iconst (nI 1) dX5_sheet_43 (by decide) ?_
  refine wa_iret dX5_sheet_44 rfl ?_
  refine hQ _ ⟨?_, ?_, ?_, fun i hi => ?_⟩ (fun t ht => ?_)
  · simp (disch := omega) only [sI_off, bI_off, sL_off, bL_off, r1l, r2l, rb1l, rb2l, r1m, r2m, rb1e, rb2e, r1e, r2e]
  · simp (disch := omega) only [sI_off, bI_off, sL_off, bL_off, r1l, r2l, rb1l, rb2l, r1m, r2m, rb1e, rb2e, r1e, r2e]
  · simp (disch := omega) only [sI_off, bI_off, sL_off, bL_off, r1l, r2l, rb1l, rb2l, r1m, r2m, rb1e, rb2e, r1e, r2e]
  · simp (disch := omega) only [sI_off, bI_off, sL_off, bL_off, r1l, r2l, rb1l, rb2l, r1m, r2m, rb1e, rb2e, r1e, r2e]
    rw [fillF, if_pos (by omega)]
  · have h0 : t ≠ 7 + 4 * k := by omega
    have h1 : t ≠ 7 + 4 * k + 1 := by omega
    have h2 : t ≠ 7 + 4 * k + 2 := by omega
    exact ⟨by rw [bI_off h2, bI_off h1, sI_off h0, sI_off h0, sI_off h0], rfl⟩
theorem wp_shF {d k n : Nat} {μ : Mem} {Q : QM} (hd : 1 ≤ d) (hk : k < 8) (hs : ShIs μ k n) (hQ : Q (some (.int (nI 0))) μ) : MW kX5_sheetFailure d [.ref 0, .int (nI k)] μ Q := by
  have hS := isS_k (show k < 9 by omega)
  have hsh := (isS_sh hS).1
  refine MW_of (by decide) [some (.ref 0), some (.int (nI k))] rfl (Nat.le_of_ble_eq_true rfl) ?_
  refine wa_iload_n dX5_sheetFailure_0 rfl ?_
  refine wa_callS1 (k' := kX5_isSheet) (d' := 0) dX5_sheetFailure_1 lmX5_44 ksX5_isSheet (by decide) (by omega) (Nat.le_of_ble_eq_true rfl) ?_
  refine wp_X5_isSheet (fun j_ hj_ e_ => ?_) (fun q_ => absurd q_ (nob8 hk))
  refine wa_if_neT 10 dX5_sheetFailure_4 (by decide) (by decide) ?_
  refine wa_aload_n dX5_sheetFailure_10 rfl ?_
  refine wa_getR dX5_sheetFailure_11 fgX5_11 (by first | assumption | rfl) (by rfl) ?_
  refine wa_iload_n dX5_sheetFailure_14 rfl ?_
  refine wa_aalS _ dX5_sheetFailure_15 (by first | assumption | rfl) (by first | with_reducible rfl | with_reducible assumption | with_reducible exact ix_ma _ _ _ | with_reducible exact ix_maa _ _ _ _ | with_reducible exact ix_a _ _ | with_reducible exact ix_mama _ _ _ _ _) (by omega) ?_
  rw [show arf 1 k = 7 + 4 * k from rfl]
  refine wa_callV0 (k' := kX3_isThere) (d' := 0) dX5_sheetFailure_16 lmX5_87 kvX3_isThere (by first | assumption | rfl) (by rfl) (by decide) (by omega) (Nat.le_of_ble_eq_true rfl) ?_
  refine wp_X3_isThere hS (Or.inr hs.1) (fun h_ => ?_) (fun h_ => absurd (h_.symm.trans hs.1) (by decide))
  refine wa_if_eqF 26 dX5_sheetFailure_19 (by decide) (by decide) ?_
  refine wa_iconst (nI 0) dX5_sheetFailure_22 (by decide) ?_
  refine wa_goto 28 dX5_sheetFailure_23 (by decide) ?_
  refine wa_iret dX5_sheetFailure_28 rfl ?_
  exact hQ
theorem wp_saF {d k n i : Nat} {μ : Mem} {Q : QM} (hd : 2 ≤ d) (hk : k < 8) (hn : n ≤ 64) (hi : i < n) (hs : ShIs μ k n) (hQ : Q (some (.int (nI 0))) μ) : MW kX5_sampleFailure d [.ref 0, .int (nI k), .int (nI i)] μ Q := by
  have hS := isS_k (show k < 9 by omega)
  have hsh := (isS_sh hS).1
  refine MW_of (by decide) [some (.ref 0), some (.int (nI k)), some (.int (nI i)), none] rfl (Nat.le_of_ble_eq_true rfl) ?_
  refine wa_aload_n dX5_sampleFailure_0 rfl ?_
  refine wa_iload_n dX5_sampleFailure_1 rfl ?_
  refine wa_callV1 (k' := kX5_sheetFailure) (d' := 1) dX5_sampleFailure_2 lmX5_52 kvX5_sheetFailure (by first | assumption | rfl) (by rfl) (by decide) (by omega) (Nat.le_of_ble_eq_true rfl) ?_
  refine wp_shF (n := n) (by omega) hk hs ?_
  refine wa_istore_n dX5_sampleFailure_5 (by decide) ?_
  refine wa_iload_n dX5_sampleFailure_6 rfl ?_
  refine wa_if_eqT 12 dX5_sampleFailure_7 (by decide) (by decide) ?_
  refine wa_aload_n dX5_sampleFailure_12 rfl ?_
  refine wa_getR dX5_sampleFailure_13 fgX5_11 (by first | assumption | rfl) (by rfl) ?_
  refine wa_iload_n dX5_sampleFailure_16 rfl ?_
  refine wa_aalS _ dX5_sampleFailure_17 (by first | assumption | rfl) (by first | with_reducible rfl | with_reducible assumption | with_reducible exact ix_ma _ _ _ | with_reducible exact ix_maa _ _ _ _ | with_reducible exact ix_a _ _ | with_reducible exact ix_mama _ _ _ _ _) (by omega) ?_
  refine wa_iload_n dX5_sampleFailure_18 rfl ?_
  rw [show arf 1 k = 7 + 4 * k from rfl]
  refine wa_callV1 (k' := kX3_has) (d' := 0) dX5_sampleFailure_19 lmX5_271 kvX3_has (by first | assumption | rfl) (by rfl) (by decide) (by omega) (Nat.le_of_ble_eq_true rfl) ?_
  refine wp_X3_has hS hs.2.2.1 hn (fun a_ ha_ q_ => ?_) (fun q_ => absurd q_ (by rw [nI_toInt (by omega)]; omega))
  refine wa_if_eqF 29 dX5_sampleFailure_22 (by decide) (by decide) ?_
  refine wa_iconst (nI 0) dX5_sampleFailure_25 (by decide) ?_
  refine wa_goto 31 dX5_sampleFailure_26 (by decide) ?_
  refine wa_iret dX5_sampleFailure_31 rfl ?_
  exact hQ
theorem wp_put {d k n i : Nat} {v : Int32} {μ : Mem} {Q : QM} (hd : 3 ≤ d) (hk : k < 8) (hn : n ≤ 64) (hi : i < n) (hs : ShIs μ k n) (hQ : Q (some (.int (nI 1))) (sI (sI μ (7 + 4 * k + 1) i v) (7 + 4 * k + 2) i (nI 1))) : MW kX5_put d [.ref 0, .int (nI k), .int (nI i), .int v] μ Q := by
  have hS := isS_k (show k < 9 by omega)
  have hsh := (isS_sh hS).1
  refine MW_of (by decide) [some (.ref 0), some (.int (nI k)), some (.int (nI i)), some (.int v), none] rfl (Nat.le_of_ble_eq_true rfl) ?_
  refine wa_aload_n dX5_put_0 rfl ?_
  refine wa_iload_n dX5_put_1 rfl ?_
  refine wa_iload_n dX5_put_2 rfl ?_
  refine wa_callV2 (k' := kX5_sampleFailure) (d' := 2) dX5_put_3 lmX5_60 kvX5_sampleFailure (by first | assumption | rfl) (by rfl) (by decide) (by omega) (Nat.le_of_ble_eq_true rfl) ?_
  refine wp_saF (n := n) (by omega) hk hn hi hs ?_
  refine wa_istore dX5_put_6 (by decide) ?_
  refine wa_iload dX5_put_8 rfl ?_
  refine wa_if_eqT 16 dX5_put_10 (by decide) (by decide) ?_
  refine wa_aload_n dX5_put_16 rfl ?_
  refine wa_getR dX5_put_17 fgX5_11 (by first | assumption | rfl) (by rfl) ?_
  refine wa_iload_n dX5_put_20 rfl ?_
  refine wa_aalS _ dX5_put_21 (by first | assumption | rfl) (by first | with_reducible rfl | with_reducible assumption | with_reducible exact ix_ma _ _ _ | with_reducible exact ix_maa _ _ _ _ | with_reducible exact ix_a _ _ | with_reducible exact ix_mama _ _ _ _ _) (by omega) ?_
  rw [show arf 1 k = 7 + 4 * k from rfl]
  refine wa_iload_n dX5_put_22 rfl ?_
  refine wa_callV1 (k' := kX3_fits) (d' := 0) dX5_put_23 lmX5_64 kvX3_fits (by first | assumption | rfl) (by rfl) (by decide) (by omega) (Nat.le_of_ble_eq_true rfl) ?_
  refine wp_X3_fits hS (Or.inr (Or.inr hs.2.1)) (fun h_ => ?_) (fun h_ => absurd (by rw [hs.2.1]; exact ⟨fun q_ => absurd q_ (by decide), fun q_ => absurd q_ (by decide)⟩) h_)
  refine wa_if_neT 32 dX5_put_26 (by decide) (by decide) ?_
  refine wa_aload_n dX5_put_32 rfl ?_
  refine wa_getR dX5_put_33 fgX5_11 (by first | assumption | rfl) (by rfl) ?_
  refine wa_iload_n dX5_put_36 rfl ?_
  refine wa_aalS _ dX5_put_37 (by first | assumption | rfl) (by first | with_reducible rfl | with_reducible assumption | with_reducible exact ix_ma _ _ _ | with_reducible exact ix_maa _ _ _ _ | with_reducible exact ix_a _ _ | with_reducible exact ix_mama _ _ _ _ _) (by omega) ?_
  rw [show arf 1 k = 7 + 4 * k from rfl]
  refine wa_iload_n dX5_put_38 rfl ?_
  refine wa_iload_n dX5_put_39 rfl ?_
  refine wa_callV2 (k' := kX3_tell) (d' := 0) dX5_put_40 lmX5_67 kvX3_tell (by first | assumption | rfl) (by rfl) (by decide) (by omega) (Nat.le_of_ble_eq_true rfl) ?_
  refine wp_X3_tell hS (by omega) ?_
  refine wa_iconst (nI 1) dX5_put_43 (by decide) ?_
  refine wa_iret dX5_put_44 rfl ?_
  exact hQ
theorem wp_raise {d k r n : Nat} {μ : Mem} {Q : QM} (hd : 2 ≤ d) (hk : k < 8) (hr : r < 6) (hn : n ≤ 64) (hs : ShIs μ k n) (hQ : Q (some (.int (nI n))) (bL (sI μ (43 + 5 * r) 0 (nI n)) (43 + 5 * r + 1) (frF (fun i => (μ.1 (7 + 4 * k + 1) i).toInt64) (μ.2 (43 + 5 * r + 1)) n))) : MW kX5_raise d [.ref 0, .int (nI k), .int (nI r)] μ Q := by
  have hS := isS_k (show k < 9 by omega)
  have hsh := (isS_sh hS).1
  have hR := isR_k hr
  have hrh := (isR_sh hR).1
  have hmS := isS_mod hS
  have hmR := isR_mod hR
  refine MW_of (by decide) [some (.ref 0), some (.int (nI k)), some (.int (nI r))] rfl (Nat.le_of_ble_eq_true rfl) ?_
  refine wa_iload_n dX5_raise_0 rfl ?_
  refine wa_callS1 (k' := kX5_isSheet) (d' := 0) dX5_raise_1 lmX5_44 ksX5_isSheet (by decide) (by omega) (Nat.le_of_ble_eq_true rfl) ?_
  refine wp_X5_isSheet (fun j_ hj_ e_ => ?_) (fun q_ => absurd q_ (nob8 hk))
  refine wa_if_eqF 14 dX5_raise_4 (by decide) (by decide) ?_
  refine wa_iload_n dX5_raise_7 rfl ?_
  refine wa_callS1 (k' := kX5_isRow) (d' := 0) dX5_raise_8 lmX5_111 ksX5_isRow (by decide) (by omega) (Nat.le_of_ble_eq_true rfl) ?_
  refine wp_X5_isRow (fun j_ hj_ e_ => ?_) (fun q_ => absurd q_ (nob6 hr))
  refine wa_if_neT 17 dX5_raise_11 (by decide) (by decide) ?_
  refine wa_aload_n dX5_raise_17 rfl ?_
  refine wa_getR dX5_raise_18 fgX5_11 (by first | assumption | rfl) (by rfl) ?_
  refine wa_iload_n dX5_raise_21 rfl ?_
  refine wa_aalS _ dX5_raise_22 (by first | assumption | rfl) (by first | with_reducible rfl | with_reducible assumption | with_reducible exact ix_ma _ _ _ | with_reducible exact ix_maa _ _ _ _ | with_reducible exact ix_a _ _ | with_reducible exact ix_mama _ _ _ _ _) (by omega) ?_
  rw [show arf 1 k = 7 + 4 * k from rfl]
  refine wa_callV0 (k' := kX3_isThere) (d' := 0) dX5_raise_23 lmX5_87 kvX3_isThere (by first | assumption | rfl) (by rfl) (by decide) (by omega) (Nat.le_of_ble_eq_true rfl) ?_
  refine wp_X3_isThere hS (Or.inr hs.1) (fun h_ => ?_) (fun h_ => absurd (h_.symm.trans hs.1) (by decide))
  refine wa_if_neT 32 dX5_raise_26 (by decide) (by decide) ?_
  refine wa_aload_n dX5_raise_32 rfl ?_
  refine wa_getR dX5_raise_33 fgX5_11 (by first | assumption | rfl) (by rfl) ?_
  refine wa_iload_n dX5_raise_36 rfl ?_
  refine wa_aalS _ dX5_raise_37 (by first | assumption | rfl) (by first | with_reducible rfl | with_reducible assumption | with_reducible exact ix_ma _ _ _ | with_reducible exact ix_maa _ _ _ _ | with_reducible exact ix_a _ _ | with_reducible exact ix_mama _ _ _ _ _) (by omega) ?_
  rw [show arf 1 k = 7 + 4 * k from rfl]
  refine wa_callV0 (k' := kX3_lostSamples) (d' := 1) dX5_raise_38 lmX5_114 kvX3_lostSamples (by first | assumption | rfl) (by rfl) (by decide) (by omega) (Nat.le_of_ble_eq_true rfl) ?_
  refine wp_X3_lostSamples hS (by omega) hs.2.2.1 hn ?_
  rw [cntN_z hs.2.2.2]
  refine wa_if_leT 47 dX5_raise_41 (by decide) (by decide) ?_
  refine wa_aload_n dX5_raise_47 rfl ?_
  refine wa_getR dX5_raise_48 fgX5_18 (by first | assumption | rfl) (by rfl) ?_
  refine wa_iload_n dX5_raise_51 rfl ?_
  refine wa_aalR _ dX5_raise_52 (by first | assumption | rfl) (by first | with_reducible rfl | with_reducible assumption | with_reducible exact ix_ma _ _ _ | with_reducible exact ix_maa _ _ _ _ | with_reducible exact ix_a _ _ | with_reducible exact ix_mama _ _ _ _ _) (by omega) ?_
  rw [show arf 2 r = 43 + 5 * r from rfl]
  refine wa_aload_n dX5_raise_53 rfl ?_
  refine wa_getR dX5_raise_54 fgX5_11 (by first | assumption | rfl) (by rfl) ?_
  refine wa_iload_n dX5_raise_57 rfl ?_
  refine wa_aalS _ dX5_raise_58 (by first | assumption | rfl) (by first | with_reducible rfl | with_reducible assumption | with_reducible exact ix_ma _ _ _ | with_reducible exact ix_maa _ _ _ _ | with_reducible exact ix_a _ _ | with_reducible exact ix_mama _ _ _ _ _) (by omega) ?_
  rw [show arf 1 k = 7 + 4 * k from rfl]
  refine wa_callV1 (k' := kX2_take) (d' := 1) dX5_raise_59 lmX5_117 kvX2_take (by first | assumption | rfl) (by rfl) (by decide) (by omega) (Nat.le_of_ble_eq_true rfl) ?_
  refine wp_X2_take hR hS (by omega) hs.2.2.1 hn ?_
  refine wa_aload_n dX5_raise_62 rfl ?_
  refine wa_getR dX5_raise_63 fgX5_18 (by first | assumption | rfl) (by rfl) ?_
  refine wa_iload_n dX5_raise_66 rfl ?_
  refine wa_aalR _ dX5_raise_67 (by first | assumption | rfl) (by first | with_reducible rfl | with_reducible assumption | with_reducible exact ix_ma _ _ _ | with_reducible exact ix_maa _ _ _ _ | with_reducible exact ix_a _ _ | with_reducible exact ix_mama _ _ _ _ _) (by omega) ?_
  rw [show arf 2 r = 43 + 5 * r from rfl]
  refine wa_callV0 (k' := kX2_size) (d' := 0) dX5_raise_68 lmX5_120 kvX2_size (by first | assumption | rfl) (by rfl) (by decide) (by omega) (Nat.le_of_ble_eq_true rfl) ?_
  refine wp_X2_size hR ?_
  refine wa_iret dX5_raise_71 rfl ?_
  rw [rb2l, r1e]
  exact hQ
theorem wp_number {d r n i : Nat} {V : Nat → Int} {μ : Mem} {Q : QM} (hd : 1 ≤ d) (hr : r < 6) (hn : n ≤ 64) (hi : i < n) (h : RowIs μ r n V) (hQ : Q (some (.long (Int64.ofInt (V i)))) μ) : MW kX5_number d [.ref 0, .int (nI r), .int (nI i)] μ Q := by
  have hR := isR_k hr
  have hrh := (isR_sh hR).1
  refine MW_of (by decide) [some (.ref 0), some (.int (nI r)), some (.int (nI i))] rfl (Nat.le_of_ble_eq_true rfl) ?_
  refine wa_iload_n dX5_number_0 rfl ?_
  refine wa_callS1 (k' := kX5_isRow) (d' := 0) dX5_number_1 lmX5_111 ksX5_isRow (by decide) (by omega) (Nat.le_of_ble_eq_true rfl) ?_
  refine wp_X5_isRow (fun j_ hj_ e_ => ?_) (fun q_ => absurd q_ (nob6 hr))
  refine wa_if_neT 11 dX5_number_4 (by decide) (by decide) ?_
  refine wa_iload_n dX5_number_11 rfl ?_
  refine wa_if_ltF 28 dX5_number_12 (by decide) (by rw [nI_toInt (by omega)]; omega) ?_
  refine wa_iload_n dX5_number_15 rfl ?_
  refine wa_aload_n dX5_number_16 rfl ?_
  refine wa_getR dX5_number_17 fgX5_18 (by first | assumption | rfl) (by rfl) ?_
  refine wa_iload_n dX5_number_20 rfl ?_
  refine wa_aalR _ dX5_number_21 (by first | assumption | rfl) (by first | with_reducible rfl | with_reducible assumption | with_reducible exact ix_ma _ _ _ | with_reducible exact ix_maa _ _ _ _ | with_reducible exact ix_a _ _ | with_reducible exact ix_mama _ _ _ _ _) (by omega) ?_
  rw [show arf 2 r = 43 + 5 * r from rfl]
  refine wa_callV0 (k' := kX2_size) (d' := 0) dX5_number_22 lmX5_120 kvX2_size (by first | assumption | rfl) (by rfl) (by decide) (by omega) (Nat.le_of_ble_eq_true rfl) ?_
  refine wp_X2_size hR ?_
  rw [h.1]
  refine wa_ic_ltT 32 dX5_number_25 (by decide) (lt_nI (by omega) (by omega)) ?_
  refine wa_aload_n dX5_number_32 rfl ?_
  refine wa_getR dX5_number_33 fgX5_18 (by first | assumption | rfl) (by rfl) ?_
  refine wa_iload_n dX5_number_36 rfl ?_
  refine wa_aalR _ dX5_number_37 (by first | assumption | rfl) (by first | with_reducible rfl | with_reducible assumption | with_reducible exact ix_ma _ _ _ | with_reducible exact ix_maa _ _ _ _ | with_reducible exact ix_a _ _ | with_reducible exact ix_mama _ _ _ _ _) (by omega) ?_
  rw [show arf 2 r = 43 + 5 * r from rfl]
  refine wa_iload_n dX5_number_38 rfl ?_
  refine wa_callV1 (k' := kX2_valueAt) (d' := 0) dX5_number_39 lmX5_127 kvX2_valueAt (by first | assumption | rfl) (by rfl) (by decide) (by omega) (Nat.le_of_ble_eq_true rfl) ?_
  refine wp_X2_valueAt hR rfl (by omega) ?_
  refine wa_lret dX5_number_42 rfl ?_
  rw [h.2 i hi]
  exact hQ
theorem wp_tones {d r n p : Nat} {V : Nat → Int} {μ : Mem} {Q : QM} (hd : 4 ≤ d) (hr : r < 6) (hp : p < 7) (hnp : n = 2 ^ p) (hn : n ≤ 64) (h : RowIs μ r n V) (hb : bnd V n 1000000) (hQ : ∀ ν, RowIs ν r n (tonZ V p) → Kp μ ν (43 + 5 * r) (48 + 5 * r) → Q (some (.int (nI n))) ν) : MW kX5_turn d [.ref 0, .int (nI r), .int (nI 3)] μ Q := by
  have hR := isR_k hr
  have hrh := (isR_sh hR).1
  have hlog : Nat.log2 n = p := by rw [hnp, Nat.log2_two_pow]
  have hg : ∀ i, i < n → gTon (μ.2 (43 + 5 * r + 1)) n (Nat.log2 n) i = Int64.ofInt (tonZ V p i) := fun i hi => by
    rw [gTon, hlog, z_tn hp (by omega) hn h.2, tonZ, hnp]
  have hin : inB (gW (μ.2 (43 + 5 * r + 1)) n 3) n 4000000000000000 := inB_z (C := 64000000) hg (fun i _ => by have := ton_le hp (fun j hj => hb j (by omega)) i; omega) (by omega) (by omega)
  have hno : ¬ tNO n 3 := by
    rintro (⟨q_, -⟩ | ⟨-, q_⟩)
    · omega
    · exact q_ ⟨p, by omega, hnp⟩
  refine MW_of (by decide) [some (.ref 0), some (.int (nI r)), some (.int (nI 3))] rfl (Nat.le_of_ble_eq_true rfl) ?_
  refine wa_iload_n dX5_turn_0 rfl ?_
  refine wa_callS1 (k' := kX5_isRow) (d' := 0) dX5_turn_1 lmX5_111 ksX5_isRow (by decide) (by omega) (Nat.le_of_ble_eq_true rfl) ?_
  refine wp_X5_isRow (fun j_ hj_ e_ => ?_) (fun q_ => absurd q_ (nob6 hr))
  refine wa_if_eqF 16 dX5_turn_4 (by decide) (by decide) ?_
  refine wa_iload_n dX5_turn_7 rfl ?_
  refine wa_if_ltF 16 dX5_turn_8 (by decide) (by decide) ?_
  refine wa_iload_n dX5_turn_11 rfl ?_
  refine wa_iconst (nI 4) dX5_turn_12 (by decide) ?_
  refine wa_ic_ltT 19 dX5_turn_13 (by decide) (by decide) ?_
  refine wa_aload_n dX5_turn_19 rfl ?_
  refine wa_getR dX5_turn_20 fgX5_18 (by first | assumption | rfl) (by rfl) ?_
  refine wa_iload_n dX5_turn_23 rfl ?_
  refine wa_aalR _ dX5_turn_24 (by first | assumption | rfl) (by first | with_reducible rfl | with_reducible assumption | with_reducible exact ix_ma _ _ _ | with_reducible exact ix_maa _ _ _ _ | with_reducible exact ix_a _ _ | with_reducible exact ix_mama _ _ _ _ _) (by omega) ?_
  rw [show arf 2 r = 43 + 5 * r from rfl]
  refine wa_iload_n dX5_turn_25 rfl ?_
  refine wa_callV1 (k' := kX2_change) (d' := 3) dX5_turn_26 lmX5_130 kvX2_change (by first | assumption | rfl) (by rfl) (by decide) (by omega) (Nat.le_of_ble_eq_true rfl) ?_
  refine wp_X2_change (w := 3) hR (by omega) h.1 hn (by omega) (fun q_ => absurd q_ hno) (fun _ q_ => absurd q_ (by omega)) (fun _ _ q_ => absurd hin q_) (fun _ _ _ => ?_)
  refine wa_iret dX5_turn_29 rfl ?_
  refine hQ _ ⟨?_, fun i hi => ?_⟩ (fun t ht => ?_)
  · rw [rb2l, rb2l]
    exact h.1
  · rw [rb2e, cpy_lt hi, frF, if_pos hi]
    exact hg i hi
  · exact ⟨rfl, by rw [bL_off (by omega), bL_off (by omega)]⟩
theorem wp_mix {d r u n : Nat} {a b : Int} {V U : Nat → Int} {μ : Mem} {Q : QM} (hd : 3 ≤ d) (hr : r < 6) (hu : u < 6) (hn : n ≤ 64) (ha : -1000 ≤ a ∧ a ≤ 1000) (hb : -1000 ≤ b ∧ b ≤ 1000) (h : RowIs μ r n V) (g : RowIs μ u n U) (hV : bnd V n 1000000) (hU : bnd U n 1000000) (hQ : ∀ ν, RowIs ν r n (fun i => a * V i + b * U i) → Kp μ ν (43 + 5 * r) (48 + 5 * r) → Q (some (.int (nI n))) ν) : MW kX5_mix d [.ref 0, .int (nI r), .int (Int32.ofInt a), .int (nI u), .int (Int32.ofInt b)] μ Q := by
  have hR := isR_k hr
  have hrh := (isR_sh hR).1
  have hU1 := isR_k hu
  have huh := (isR_sh hU1).1
  have ea : ∀ x : Int, -1000 ≤ x ∧ x ≤ 1000 → (-(1000 : Int64)).toInt ≤ (Int32.ofInt x).toInt64.toInt ∧ (Int32.ofInt x).toInt64.toInt ≤ (1000 : Int64).toInt := fun x hx => by
    rw [k1e3.1, k1e3.2, Int32.toInt_toInt64, Int32.toInt_ofInt_of_le (by omega) (by omega)]
    omega
  have hg : ∀ i, i < n → gMix (μ.2 (43 + 5 * r + 1)) (μ.2 (43 + 5 * u + 1)) (Int32.ofInt a) (Int32.ofInt b) i = Int64.ofInt (a * V i + b * U i) := fun i hi => by
    rw [gMix, z_32 (by omega) (by omega), z_32 (by omega) (by omega), h.2 i hi, g.2 i hi, ← Int64.ofInt_mul, ← Int64.ofInt_mul, ← Int64.ofInt_add]
  have hin : inB (gMix (μ.2 (43 + 5 * r + 1)) (μ.2 (43 + 5 * u + 1)) (Int32.ofInt a) (Int32.ofInt b)) n 4000000000000000 := inB_z (C := 2000000000) hg (fun i hi => by
    have h1 := hV i hi
    have h2 := hU i hi
    have h3 := zmul_le ha.1 ha.2 h1.1 h1.2
    have h4 := zmul_le hb.1 hb.2 h2.1 h2.2
    omega) (by omega) (by omega)
  refine MW_of (by decide) [some (.ref 0), some (.int (nI r)), some (.int (Int32.ofInt a)), some (.int (nI u)), some (.int (Int32.ofInt b))] rfl (Nat.le_of_ble_eq_true rfl) ?_
  refine wa_iload_n dX5_mix_0 rfl ?_
  refine wa_callS1 (k' := kX5_isRow) (d' := 0) dX5_mix_1 lmX5_111 ksX5_isRow (by decide) (by omega) (Nat.le_of_ble_eq_true rfl) ?_
  refine wp_X5_isRow (fun j_ hj_ e_ => ?_) (fun q_ => absurd q_ (nob6 hr))
  refine wa_if_eqF 37 dX5_mix_4 (by decide) (by decide) ?_
  refine wa_iload_n dX5_mix_7 rfl ?_
  refine wa_callS1 (k' := kX5_isRow) (d' := 0) dX5_mix_8 lmX5_111 ksX5_isRow (by decide) (by omega) (Nat.le_of_ble_eq_true rfl) ?_
  refine wp_X5_isRow (fun j_ hj_ e_ => ?_) (fun q_ => absurd q_ (nob6 hu))
  refine wa_if_eqF 37 dX5_mix_11 (by decide) (by decide) ?_
  refine wa_iload_n dX5_mix_14 rfl ?_
  refine wa_i2l dX5_mix_15 ?_
  refine wa_ldc2 (1000) dX5_mix_16 lcX5_140 ?_
  refine wa_callS2 (k' := kX5_isWithin) (d' := 0) dX5_mix_19 lmX5_142 ksX5_isWithin (by decide) (by omega) (Nat.le_of_ble_eq_true rfl) ?_
  refine wp_X5_isWithin (fun _ => ?_) (fun q_ => absurd (ea a ha) q_)
  refine wa_if_eqF 37 dX5_mix_22 (by decide) (by decide) ?_
  refine wa_iload dX5_mix_25 rfl ?_
  refine wa_i2l dX5_mix_27 ?_
  refine wa_ldc2 (1000) dX5_mix_28 lcX5_140 ?_
  refine wa_callS2 (k' := kX5_isWithin) (d' := 0) dX5_mix_31 lmX5_142 ksX5_isWithin (by decide) (by omega) (Nat.le_of_ble_eq_true rfl) ?_
  refine wp_X5_isWithin (fun _ => ?_) (fun q_ => absurd (ea b hb) q_)
  refine wa_if_neT 40 dX5_mix_34 (by decide) (by decide) ?_
  refine wa_aload_n dX5_mix_40 rfl ?_
  refine wa_getR dX5_mix_41 fgX5_18 (by first | assumption | rfl) (by rfl) ?_
  refine wa_iload_n dX5_mix_44 rfl ?_
  refine wa_aalR _ dX5_mix_45 (by first | assumption | rfl) (by first | with_reducible rfl | with_reducible assumption | with_reducible exact ix_ma _ _ _ | with_reducible exact ix_maa _ _ _ _ | with_reducible exact ix_a _ _ | with_reducible exact ix_mama _ _ _ _ _) (by omega) ?_
  rw [show arf 2 r = 43 + 5 * r from rfl]
  refine wa_callV0 (k' := kX2_size) (d' := 0) dX5_mix_46 lmX5_120 kvX2_size (by first | assumption | rfl) (by rfl) (by decide) (by omega) (Nat.le_of_ble_eq_true rfl) ?_
  refine wp_X2_size hR ?_
  rw [h.1]
  refine wa_aload_n dX5_mix_49 rfl ?_
  refine wa_getR dX5_mix_50 fgX5_18 (by first | assumption | rfl) (by rfl) ?_
  refine wa_iload_n dX5_mix_53 rfl ?_
  refine wa_aalR _ dX5_mix_54 (by first | assumption | rfl) (by first | with_reducible rfl | with_reducible assumption | with_reducible exact ix_ma _ _ _ | with_reducible exact ix_maa _ _ _ _ | with_reducible exact ix_a _ _ | with_reducible exact ix_mama _ _ _ _ _) (by omega) ?_
  rw [show arf 2 u = 43 + 5 * u from rfl]
  refine wa_callV0 (k' := kX2_size) (d' := 0) dX5_mix_55 lmX5_120 kvX2_size (by first | assumption | rfl) (by rfl) (by decide) (by omega) (Nat.le_of_ble_eq_true rfl) ?_
  refine wp_X2_size hU1 ?_
  rw [g.1]
  refine wa_ic_eqT 64 dX5_mix_58 (by decide) (rfl) ?_
  refine wa_aload_n dX5_mix_64 rfl ?_
  refine wa_getR dX5_mix_65 fgX5_18 (by first | assumption | rfl) (by rfl) ?_
  refine wa_iload_n dX5_mix_68 rfl ?_
  refine wa_aalR _ dX5_mix_69 (by first | assumption | rfl) (by first | with_reducible rfl | with_reducible assumption | with_reducible exact ix_ma _ _ _ | with_reducible exact ix_maa _ _ _ _ | with_reducible exact ix_a _ _ | with_reducible exact ix_mama _ _ _ _ _) (by omega) ?_
  rw [show arf 2 r = 43 + 5 * r from rfl]
  refine wa_iload_n dX5_mix_70 rfl ?_
  refine wa_aload_n dX5_mix_71 rfl ?_
  refine wa_getR dX5_mix_72 fgX5_18 (by first | assumption | rfl) (by rfl) ?_
  refine wa_iload_n dX5_mix_75 rfl ?_
  refine wa_aalR _ dX5_mix_76 (by first | assumption | rfl) (by first | with_reducible rfl | with_reducible assumption | with_reducible exact ix_ma _ _ _ | with_reducible exact ix_maa _ _ _ _ | with_reducible exact ix_a _ _ | with_reducible exact ix_mama _ _ _ _ _) (by omega) ?_
  rw [show arf 2 u = 43 + 5 * u from rfl]
  refine wa_iload dX5_mix_77 rfl ?_
  refine wa_callV3 (k' := kX2_blend) (d' := 2) dX5_mix_79 lmX5_146 kvX2_blend (by first | assumption | rfl) (by rfl) (by decide) (by omega) (Nat.le_of_ble_eq_true rfl) ?_
  refine wp_X2_blend hR hU1 (by omega) h.1 hn (fun q_ => absurd hin q_) (fun _ => ?_)
  refine wa_iret dX5_mix_82 rfl ?_
  refine hQ _ ⟨?_, fun i hi => ?_⟩ (fun t ht => ?_)
  · rw [rb2l, rb2l]
    exact h.1
  · rw [rb2e, cpy_lt hi, frF, if_pos hi]
    exact hg i hi
  · exact ⟨rfl, by rw [bL_off (by omega), bL_off (by omega)]⟩
theorem wp_force {d r n a b : Nat} {V : Nat → Int} {μ : Mem} {Q : QM} (hd : 2 ≤ d) (hr : r < 6) (hn : n ≤ 64) (hab : a ≤ b) (hb : b ≤ 64) (han : a ≤ n) (h : RowIs μ r n V) (hV : bnd V n 100000000) (hQ : Q (some (.long (Int64.ofInt (frZ V a b n)))) μ) : MW kX5_force d [.ref 0, .int (nI r), .int (nI a), .int (nI b)] μ Q := by
  have hR := isR_k hr
  have hrh := (isR_sh hR).1
  have eb : (nI b).toInt = (b : Int) := nI_toInt (by omega)
  have hno : ¬ (oob (nI r) 6 ∨ (nI a).toInt < 0 ∨ (nI b).toInt < (nI a).toInt) := by
    have ea : (nI a).toInt = (a : Int) := nI_toInt (by omega)
    rintro (q_ | q_ | q_)
    · exact nob6 hr q_
    · omega
    · omega
  refine MW_of (by decide) [some (.ref 0), some (.int (nI r)), some (.int (nI a)), some (.int (nI b))] rfl (Nat.le_of_ble_eq_true rfl) ?_
  refine wa_iload_n dX5_force_0 rfl ?_
  refine wa_iload_n dX5_force_1 rfl ?_
  refine wa_iload_n dX5_force_2 rfl ?_
  refine wa_callS3 (k' := kX5_isStretch) (d' := 1) dX5_force_3 lmX5_133 ksX5_isStretch (by decide) (by omega) (Nat.le_of_ble_eq_true rfl) ?_
  refine wp_X5_isStretch (by omega) (fun r_ hr_ hk_ h0_ hab_ => ?_) (fun q_ => absurd q_ hno)
  refine wa_if_neT 13 dX5_force_6 (by decide) (by decide) ?_
  refine wa_aload_n dX5_force_13 rfl ?_
  refine wa_getR dX5_force_14 fgX5_18 (by first | assumption | rfl) (by rfl) ?_
  refine wa_iload_n dX5_force_17 rfl ?_
  refine wa_aalR _ dX5_force_18 (by first | assumption | rfl) (by first | with_reducible rfl | with_reducible assumption | with_reducible exact ix_ma _ _ _ | with_reducible exact ix_maa _ _ _ _ | with_reducible exact ix_a _ _ | with_reducible exact ix_mama _ _ _ _ _) (by omega) ?_
  rw [show arf 2 r = 43 + 5 * r from rfl]
  refine wa_ldc2 (200000000) dX5_force_19 lcX5_150 ?_
  refine wa_iload_n dX5_force_22 rfl ?_
  refine wa_iload_n dX5_force_23 rfl ?_
  refine wa_callV3 (k' := kX2_exceeds) (d' := 1) dX5_force_24 lmX5_152 kvX2_exceeds (by first | assumption | rfl) (by rfl) (by decide) (by omega) (Nat.le_of_ble_eq_true rfl) ?_
  refine wp_X2_exceeds (a := a) (n := n) hR (by omega) h.1 hn k2e8 (by omega) (fun q_ => absurd (fun j_ _ h2_ _ => inB_z (B := 200000000) h.2 hV (by omega) (by omega) j_ h2_) q_) (fun _ => ?_)
  refine wa_if_eqT 34 dX5_force_27 (by decide) (by decide) ?_
  refine wa_aload_n dX5_force_34 rfl ?_
  refine wa_getR dX5_force_35 fgX5_18 (by first | assumption | rfl) (by rfl) ?_
  refine wa_iload_n dX5_force_38 rfl ?_
  refine wa_aalR _ dX5_force_39 (by first | assumption | rfl) (by first | with_reducible rfl | with_reducible assumption | with_reducible exact ix_ma _ _ _ | with_reducible exact ix_maa _ _ _ _ | with_reducible exact ix_a _ _ | with_reducible exact ix_mama _ _ _ _ _) (by omega) ?_
  rw [show arf 2 r = 43 + 5 * r from rfl]
  refine wa_iload_n dX5_force_40 rfl ?_
  refine wa_iload_n dX5_force_41 rfl ?_
  refine wa_callV2 (k' := kX2_squares) (d' := 0) dX5_force_42 lmX5_158 kvX2_squares (by first | assumption | rfl) (by rfl) (by decide) (by omega) (Nat.le_of_ble_eq_true rfl) ?_
  refine wp_X2_squares (a := a) (n := n) hR h.1 hn (by omega) ?_
  refine wa_lret dX5_force_45 rfl ?_
  rw [eb, z_sq0 h.2 hn han]
  exact hQ
theorem wp_cross {d r u n : Nat} {V U : Nat → Int} {μ : Mem} {Q : QM} (hd : 3 ≤ d) (hr : r < 6) (hu : u < 6) (hn : n ≤ 64) (h : RowIs μ r n V) (g : RowIs μ u n U) (hV : bnd V n 100000000) (hU : bnd U n 100000000) (hQ : Q (some (.long (Int64.ofInt (sumZ (fun i => V i * U i) n)))) μ) : MW kX5_cross d [.ref 0, .int (nI r), .int (nI u)] μ Q := by
  have hR := isR_k hr
  have hrh := (isR_sh hR).1
  have hU1 := isR_k hu
  have huh := (isR_sh hU1).1
  refine MW_of (by decide) [some (.ref 0), some (.int (nI r)), some (.int (nI u))] rfl (Nat.le_of_ble_eq_true rfl) ?_
  refine wa_iload_n dX5_cross_0 rfl ?_
  refine wa_callS1 (k' := kX5_isRow) (d' := 0) dX5_cross_1 lmX5_111 ksX5_isRow (by decide) (by omega) (Nat.le_of_ble_eq_true rfl) ?_
  refine wp_X5_isRow (fun j_ hj_ e_ => ?_) (fun q_ => absurd q_ (nob6 hr))
  refine wa_if_eqF 14 dX5_cross_4 (by decide) (by decide) ?_
  refine wa_iload_n dX5_cross_7 rfl ?_
  refine wa_callS1 (k' := kX5_isRow) (d' := 0) dX5_cross_8 lmX5_111 ksX5_isRow (by decide) (by omega) (Nat.le_of_ble_eq_true rfl) ?_
  refine wp_X5_isRow (fun j_ hj_ e_ => ?_) (fun q_ => absurd q_ (nob6 hu))
  refine wa_if_neT 18 dX5_cross_11 (by decide) (by decide) ?_
  refine wa_aload_n dX5_cross_18 rfl ?_
  refine wa_getR dX5_cross_19 fgX5_18 (by first | assumption | rfl) (by rfl) ?_
  refine wa_iload_n dX5_cross_22 rfl ?_
  refine wa_aalR _ dX5_cross_23 (by first | assumption | rfl) (by first | with_reducible rfl | with_reducible assumption | with_reducible exact ix_ma _ _ _ | with_reducible exact ix_maa _ _ _ _ | with_reducible exact ix_a _ _ | with_reducible exact ix_mama _ _ _ _ _) (by omega) ?_
  rw [show arf 2 r = 43 + 5 * r from rfl]
  refine wa_callV0 (k' := kX2_size) (d' := 0) dX5_cross_24 lmX5_120 kvX2_size (by first | assumption | rfl) (by rfl) (by decide) (by omega) (Nat.le_of_ble_eq_true rfl) ?_
  refine wp_X2_size hR ?_
  rw [h.1]
  refine wa_aload_n dX5_cross_27 rfl ?_
  refine wa_getR dX5_cross_28 fgX5_18 (by first | assumption | rfl) (by rfl) ?_
  refine wa_iload_n dX5_cross_31 rfl ?_
  refine wa_aalR _ dX5_cross_32 (by first | assumption | rfl) (by first | with_reducible rfl | with_reducible assumption | with_reducible exact ix_ma _ _ _ | with_reducible exact ix_maa _ _ _ _ | with_reducible exact ix_a _ _ | with_reducible exact ix_mama _ _ _ _ _) (by omega) ?_
  rw [show arf 2 u = 43 + 5 * u from rfl]
  refine wa_callV0 (k' := kX2_size) (d' := 0) dX5_cross_33 lmX5_120 kvX2_size (by first | assumption | rfl) (by rfl) (by decide) (by omega) (Nat.le_of_ble_eq_true rfl) ?_
  refine wp_X2_size hU1 ?_
  rw [g.1]
  refine wa_ic_eqT 43 dX5_cross_36 (by decide) (rfl) ?_
  refine wa_aload_n dX5_cross_43 rfl ?_
  refine wa_getR dX5_cross_44 fgX5_18 (by first | assumption | rfl) (by rfl) ?_
  refine wa_iload_n dX5_cross_47 rfl ?_
  refine wa_aalR _ dX5_cross_48 (by first | assumption | rfl) (by first | with_reducible rfl | with_reducible assumption | with_reducible exact ix_ma _ _ _ | with_reducible exact ix_maa _ _ _ _ | with_reducible exact ix_a _ _ | with_reducible exact ix_mama _ _ _ _ _) (by omega) ?_
  rw [show arf 2 r = 43 + 5 * r from rfl]
  refine wa_ldc2 (200000000) dX5_cross_49 lcX5_150 ?_
  refine wa_callV1 (k' := kX2_anyExceeds) (d' := 2) dX5_cross_52 lmX5_164 kvX2_anyExceeds (by first | assumption | rfl) (by rfl) (by decide) (by omega) (Nat.le_of_ble_eq_true rfl) ?_
  refine wp_X2_anyExceeds (n := n) hR (by omega) h.1 hn k2e8 (fun q_ => absurd (inB_z h.2 hV (by omega) (by omega)) q_) (fun _ => ?_)
  refine wa_if_neF 73 dX5_cross_55 (by decide) (by decide) ?_
  refine wa_aload_n dX5_cross_58 rfl ?_
  refine wa_getR dX5_cross_59 fgX5_18 (by first | assumption | rfl) (by rfl) ?_
  refine wa_iload_n dX5_cross_62 rfl ?_
  refine wa_aalR _ dX5_cross_63 (by first | assumption | rfl) (by first | with_reducible rfl | with_reducible assumption | with_reducible exact ix_ma _ _ _ | with_reducible exact ix_maa _ _ _ _ | with_reducible exact ix_a _ _ | with_reducible exact ix_mama _ _ _ _ _) (by omega) ?_
  rw [show arf 2 u = 43 + 5 * u from rfl]
  refine wa_ldc2 (200000000) dX5_cross_64 lcX5_150 ?_
  refine wa_callV1 (k' := kX2_anyExceeds) (d' := 2) dX5_cross_67 lmX5_164 kvX2_anyExceeds (by first | assumption | rfl) (by rfl) (by decide) (by omega) (Nat.le_of_ble_eq_true rfl) ?_
  refine wp_X2_anyExceeds (n := n) hU1 (by omega) g.1 hn k2e8 (fun q_ => absurd (inB_z g.2 hU (by omega) (by omega)) q_) (fun _ => ?_)
  refine wa_if_eqT 77 dX5_cross_70 (by decide) (by decide) ?_
  refine wa_aload_n dX5_cross_77 rfl ?_
  refine wa_getR dX5_cross_78 fgX5_18 (by first | assumption | rfl) (by rfl) ?_
  refine wa_iload_n dX5_cross_81 rfl ?_
  refine wa_aalR _ dX5_cross_82 (by first | assumption | rfl) (by first | with_reducible rfl | with_reducible assumption | with_reducible exact ix_ma _ _ _ | with_reducible exact ix_maa _ _ _ _ | with_reducible exact ix_a _ _ | with_reducible exact ix_mama _ _ _ _ _) (by omega) ?_
  rw [show arf 2 r = 43 + 5 * r from rfl]
  refine wa_aload_n dX5_cross_83 rfl ?_
  refine wa_getR dX5_cross_84 fgX5_18 (by first | assumption | rfl) (by rfl) ?_
  refine wa_iload_n dX5_cross_87 rfl ?_
  refine wa_aalR _ dX5_cross_88 (by first | assumption | rfl) (by first | with_reducible rfl | with_reducible assumption | with_reducible exact ix_ma _ _ _ | with_reducible exact ix_maa _ _ _ _ | with_reducible exact ix_a _ _ | with_reducible exact ix_mama _ _ _ _ _) (by omega) ?_
  rw [show arf 2 u = 43 + 5 * u from rfl]
  refine wa_callV1 (k' := kX2_products) (d' := 0) dX5_cross_89 lmX5_168 kvX2_products (by first | assumption | rfl) (by rfl) (by decide) (by omega) (Nat.le_of_ble_eq_true rfl) ?_
  refine wp_X2_products (n := n) hR hU1 h.1 hn ?_
  refine wa_lret dX5_cross_92 rfl ?_
  rw [z_pr h.2 g.2]
  exact hQ
end
section
/-! THE LAW'S OWN: a sheet of numbers, raised to a row -/
def ArrIs (μ : Mem) (t n : Nat) (V : Nat → Int) : Prop := ∀ i, i < n → μ.2 t i = Int64.ofInt (V i)
/-- all tags but those of sheet k and row r stay -/
def Kp2 (μ ν : Mem) (k r : Nat) : Prop := ∀ t, ¬ (7 + 4 * k ≤ t ∧ t < 11 + 4 * k) → ¬ (43 + 5 * r ≤ t ∧ t < 48 + 5 * r) → ν.1 t = μ.1 t ∧ ν.2 t = μ.2 t
theorem wp_raised {d k r t n : Nat} {V : Nat → Int} {μ : Mem} {Q : QM} (hd : 4 ≤ d) (hk : k < 8) (hr : r < 6) (hn : n ≤ 64) (hsh : shp t = .inl (2, 64)) (ht : 73 ≤ t) (hA : ArrIs μ t n V) (hV : bnd V n 2000000000) (hQ : ∀ ν, RowIs ν r n V → Kp2 μ ν k r → Q (some (.int (nI 1))) ν) : MW kL_raised d [.ref 0, .int (nI k), .int (nI r), .ref t, .int (nI n)] μ Q := by
  refine MW_of (by decide) [some (.ref 0), some (.int (nI k)), some (.int (nI r)), some (.ref t), some (.int (nI n)), none] rfl (Nat.le_of_ble_eq_true rfl) ?_
  have loop : ∀ m i, i + m = n → ∀ ν, ShIs ν k n → Kp μ ν (7 + 4 * k) (11 + 4 * k) → (∀ j, j < i → ν.1 (7 + 4 * k + 1) j = Int32.ofInt (V j)) → WA kL_raised d Q 17 [some (.ref 0), some (.int (nI k)), some (.int (nI r)), some (.ref t), some (.int (nI n)), some (.int (nI i))] [] ν := by
    intro m
    induction m with
    | zero =>
      intro i hi ν hs hkp hv
      obtain rfl : i = n := by omega
      refine wa_iload dL_raised_17 rfl ?_
      refine wa_iload dL_raised_19 rfl ?_
      refine wa_ic_geT 48 dL_raised_21 (by decide) (le_nI (by omega) (by omega)) ?_
      refine wa_aload_n dL_raised_48 rfl ?_
      refine wa_iload_n dL_raised_49 rfl ?_
      refine wa_iload_n dL_raised_50 rfl ?_
      refine wa_callV2 (k' := kX5_raise) (d' := 2) dL_raised_51 lmL_18 kvX5_raise (by first | assumption | rfl) (by rfl) (by decide) (by omega) (Nat.le_of_ble_eq_true rfl) ?_
      refine wp_raise (n := i) (by omega) hk hr hn hs ?_
      refine wa_iload dL_raised_54 rfl ?_
      refine wa_ic_neF 63 dL_raised_56 (by decide) (fun q_ => q_ rfl) ?_
      refine wa_iconst (nI 1) dL_raised_59 (by decide) ?_
      refine wa_goto 64 dL_raised_60 (by decide) ?_
      refine wa_zret dL_raised_64 rfl (by decide) ?_
      refine hQ _ ⟨?_, fun j hj => ?_⟩ (fun q hq1 hq2 => ?_)
      · rw [rb2l, r1e]
      · rw [rb2e, frF, if_pos hj, hv j hj, z_32 (by have := hV j hj; omega) (by have := hV j hj; omega)]
      · have hq := hkp q hq1
        exact ⟨by rw [rb2l, sI_off (by omega), hq.1], by rw [bL_off (by omega), r1l, hq.2]⟩
    | succ m ih =>
      intro i hi ν hs hkp hv
      have e := ih (i + 1) (by omega) (sI (sI ν (7 + 4 * k + 1) i (Int32.ofInt (V i))) (7 + 4 * k + 2) i (nI 1)) ⟨?_, ?_, ?_, fun j hj => ?_⟩ (fun q hq => ?_) (fun j hj => ?_)
      · refine wa_iload dL_raised_17 rfl ?_
        refine wa_iload dL_raised_19 rfl ?_
        refine wa_ic_geF 48 dL_raised_21 (by decide) (nle_nI (by omega) (by omega)) ?_
        refine wa_aload_n dL_raised_24 rfl ?_
        refine wa_iload_n dL_raised_25 rfl ?_
        refine wa_iload dL_raised_26 rfl ?_
        refine wa_aload_n dL_raised_28 rfl ?_
        refine wa_iload dL_raised_29 rfl ?_
        refine wa_lald _ dL_raised_31 (by first | assumption | rfl) (by first | with_reducible rfl | with_reducible assumption | with_reducible exact ix_ma _ _ _ | with_reducible exact ix_maa _ _ _ _ | with_reducible exact ix_a _ _ | with_reducible exact ix_mama _ _ _ _ _) (by omega) ?_
        rw [(hkp t (by omega)).2, hA i (by omega)]
        refine wa_l2i dL_raised_32 ?_
        rw [Int64.toInt32_ofInt]
        refine wa_callV3 (k' := kX5_put) (d' := 3) dL_raised_33 lmL_15 kvX5_put (by first | assumption | rfl) (by rfl) (by decide) (by omega) (Nat.le_of_ble_eq_true rfl) ?_
        refine wp_put (n := n) (by omega) hk hn (by omega) hs ?_
        refine wa_iconst (nI 1) dL_raised_36 (by decide) ?_
        refine wa_ic_eqT 42 dL_raised_37 (by decide) (by decide) ?_
        refine wa_iinc (nI 1) dL_raised_42 rfl (by decide) (by decide) ?_
        refine wa_goto 17 dL_raised_45 (by decide) ?_
        simp only [nI_add]
        exact e
      · rw [sI_off (by omega), sI_off (by omega)]
        exact hs.1
      · rw [sI_off (by omega), sI_off (by omega)]
        exact hs.2.1
      · rw [sI_off (by omega), sI_off (by omega)]
        exact hs.2.2.1
      · by_cases hji : j = i
        · subst hji
          rw [r1e]
        · rw [r1m hji, sI_off (by omega)]
          exact hs.2.2.2 j hj
      · have h := hkp q hq
        exact ⟨by rw [sI_off (by omega), sI_off (by omega), h.1], h.2⟩
      · rw [sI_off (by omega)]
        by_cases hji : j = i
        · subst hji
          rw [r1e]
        · rw [r1m hji]
          exact hv j (by omega)
  refine wa_aload_n dL_raised_0 rfl ?_
  refine wa_iload_n dL_raised_1 rfl ?_
  refine wa_iconst (nI 2) dL_raised_2 (by decide) ?_
  refine wa_iload dL_raised_3 rfl ?_
  refine wa_callV3 (k' := kX5_sheet) (d' := 2) dL_raised_5 lmL_9 kvX5_sheet (by first | assumption | rfl) (by rfl) (by decide) (by omega) (Nat.le_of_ble_eq_true rfl) ?_
  refine wp_sheet (by omega) hk hn (fun ν hs_ hk_ => ?_)
  refine wa_iconst (nI 1) dL_raised_8 (by decide) ?_
  refine wa_ic_eqT 14 dL_raised_9 (by decide) (by decide) ?_
  refine wa_iconst (nI 0) dL_raised_14 (by decide) ?_
  refine wa_istore dL_raised_15 (by decide) ?_
  exact loop n 0 (by omega) ν hs_ hk_ (fun j hj => absurd hj (by omega))
end
section
/-! MAKING: the words of the constructors, a new array of a known class, and the contracts of the inner constructors -/
theorem mo0 : Cond.methodLink RX0 1 objectInit ∈ wT := tm 124 (by decide +kernel) (by decide +kernel)
theorem mo1 : Cond.methodLink RX1 1 objectInit ∈ wT := tm 86 (by decide +kernel) (by decide +kernel)
theorem mo2 : Cond.methodLink RX2 3 objectInit ∈ wT := tm 63 (by decide +kernel) (by decide +kernel)
theorem mo3 : Cond.methodLink RX3 3 objectInit ∈ wT := tm 35 (by decide +kernel) (by decide +kernel)
theorem mo4 : Cond.methodLink RX4 1 objectInit ∈ wT := tm 101 (by decide +kernel) (by decide +kernel)
theorem mo5 : Cond.methodLink RX5 1 objectInit ∈ wT := tm 26 (by decide +kernel) (by decide +kernel)
theorem moI : Cond.instanceMethod objectInit ∈ wT := tm 27 (by decide +kernel) (by decide +kernel)
theorem moC : Cond.code objectInit ⟨#[0xb1]⟩ 1 none ∈ wT := tm 28 (by decide +kernel) (by decide +kernel)
theorem ac_int : Cond.arrayClass .int ∈ wT := tm 55 (by decide +kernel) (by decide +kernel)
theorem ac_boolean : Cond.arrayClass .boolean ∈ wT := tm 56 (by decide +kernel) (by decide +kernel)
theorem ac_long : Cond.arrayClass .long ∈ wT := tm 80 (by decide +kernel) (by decide +kernel)
theorem clL_10 : Cond.classLink RL 10 RX5 ∈ wT := tm 21 (by decide +kernel) (by decide +kernel)
theorem iaX5 : Cond.instantiable RX5 5 ∈ wT := tm 22 (by decide +kernel) (by decide +kernel)
theorem clX5_9 : Cond.classLink RX5 9 RX3 ∈ wT := tm 29 (by decide +kernel) (by decide +kernel)
theorem iaX3 : Cond.instantiable RX3 6 ∈ wT := tm 31 (by decide +kernel) (by decide +kernel)
theorem clX5_16 : Cond.classLink RX5 16 RX2 ∈ wT := tm 57 (by decide +kernel) (by decide +kernel)
theorem iaX2 : Cond.instantiable RX2 5 ∈ wT := tm 59 (by decide +kernel) (by decide +kernel)
theorem clX5_23 : Cond.classLink RX5 23 RX1 ∈ wT := tm 81 (by decide +kernel) (by decide +kernel)
theorem iaX1 : Cond.instantiable RX1 2 ∈ wT := tm 82 (by decide +kernel) (by decide +kernel)
theorem clX1_7 : Cond.classLink RX1 7 RX3 ∈ wT := tm 87 (by decide +kernel) (by decide +kernel)
theorem clX5_30 : Cond.classLink RX5 30 RX4 ∈ wT := tm 96 (by decide +kernel) (by decide +kernel)
theorem iaX4 : Cond.instantiable RX4 7 ∈ wT := tm 97 (by decide +kernel) (by decide +kernel)
theorem clX5_37 : Cond.classLink RX5 37 RX0 ∈ wT := tm 119 (by decide +kernel) (by decide +kernel)
theorem iaX0 : Cond.instantiable RX0 10 ∈ wT := tm 120 (by decide +kernel) (by decide +kernel)
theorem in0 : Cond.initialized RX0 ∈ wT := tm 17 (by decide +kernel) (by decide +kernel)
theorem co0 : Cond.code yX0_init cX0_init 1 none ∈ wT := tm 123 (by decide +kernel) (by decide +kernel)
theorem im0 : Cond.instanceMethod yX0_init ∈ wT := tm 122 (by decide +kernel) (by decide +kernel)
theorem in1 : Cond.initialized RX1 ∈ wT := tm 15 (by decide +kernel) (by decide +kernel)
theorem co1 : Cond.code yX1_init cX1_init 1 none ∈ wT := tm 85 (by decide +kernel) (by decide +kernel)
theorem im1 : Cond.instanceMethod yX1_init ∈ wT := tm 84 (by decide +kernel) (by decide +kernel)
theorem in2 : Cond.initialized RX2 ∈ wT := tm 14 (by decide +kernel) (by decide +kernel)
theorem co2 : Cond.code yX2_init cX2_init 1 none ∈ wT := tm 62 (by decide +kernel) (by decide +kernel)
theorem im2 : Cond.instanceMethod yX2_init ∈ wT := tm 61 (by decide +kernel) (by decide +kernel)
theorem in3 : Cond.initialized RX3 ∈ wT := tm 13 (by decide +kernel) (by decide +kernel)
theorem co3 : Cond.code yX3_init cX3_init 1 none ∈ wT := tm 34 (by decide +kernel) (by decide +kernel)
theorem im3 : Cond.instanceMethod yX3_init ∈ wT := tm 33 (by decide +kernel) (by decide +kernel)
theorem in4 : Cond.initialized RX4 ∈ wT := tm 16 (by decide +kernel) (by decide +kernel)
theorem co4 : Cond.code yX4_init cX4_init 1 none ∈ wT := tm 100 (by decide +kernel) (by decide +kernel)
theorem im4 : Cond.instanceMethod yX4_init ∈ wT := tm 99 (by decide +kernel) (by decide +kernel)
theorem in5 : Cond.initialized RX5 ∈ wT := tm 12 (by decide +kernel) (by decide +kernel)
theorem co5 : Cond.code yX5_init cX5_init 2 none ∈ wT := tm 25 (by decide +kernel) (by decide +kernel)
theorem im5 : Cond.instanceMethod yX5_init ∈ wT := tm 24 (by decide +kernel) (by decide +kernel)
theorem fl0_7 : Cond.fieldLink RX0 7 "WaveBuoys$Mooring" "patience" "I" ∈ wT := tm 125 (by decide +kernel) (by decide +kernel)
theorem fl1_10 : Cond.fieldLink RX1 10 "WaveBuoys$Packs" "sent" "LWaveBuoys$Sheet;" ∈ wT := tm 89 (by decide +kernel) (by decide +kernel)
theorem fl1_16 : Cond.fieldLink RX1 16 "WaveBuoys$Packs" "lost" "[Z" ∈ wT := tm 90 (by decide +kernel) (by decide +kernel)
theorem fl2_9 : Cond.fieldLink RX2 9 "WaveBuoys$Row" "values" "[J" ∈ wT := tm 65 (by decide +kernel) (by decide +kernel)
theorem fl2_15 : Cond.fieldLink RX2 15 "WaveBuoys$Row" "fresh" "[J" ∈ wT := tm 66 (by decide +kernel) (by decide +kernel)
theorem fl2_18 : Cond.fieldLink RX2 18 "WaveBuoys$Row" "ups" "[I" ∈ wT := tm 67 (by decide +kernel) (by decide +kernel)
theorem fl2_22 : Cond.fieldLink RX2 22 "WaveBuoys$Row" "heights" "[J" ∈ wT := tm 68 (by decide +kernel) (by decide +kernel)
theorem fl3_9 : Cond.fieldLink RX3 9 "WaveBuoys$Sheet" "values" "[I" ∈ wT := tm 39 (by decide +kernel) (by decide +kernel)
theorem fl3_15 : Cond.fieldLink RX3 15 "WaveBuoys$Sheet" "states" "[I" ∈ wT := tm 40 (by decide +kernel) (by decide +kernel)
theorem fl3_18 : Cond.fieldLink RX3 18 "WaveBuoys$Sheet" "spiky" "[Z" ∈ wT := tm 41 (by decide +kernel) (by decide +kernel)
theorem fl4_7 : Cond.fieldLink RX4 7 "WaveBuoys$Warning" "on" "I" ∈ wT := tm 102 (by decide +kernel) (by decide +kernel)
theorem fl4_13 : Cond.fieldLink RX4 13 "WaveBuoys$Warning" "off" "I" ∈ wT := tm 103 (by decide +kernel) (by decide +kernel)
theorem fl5_11 : Cond.fieldLink RX5 11 "WaveBuoys" "sheets" "[LWaveBuoys$Sheet;" ∈ wT := tm 147 (by decide +kernel) (by decide +kernel)
theorem fl5_18 : Cond.fieldLink RX5 18 "WaveBuoys" "rows" "[LWaveBuoys$Row;" ∈ wT := tm 148 (by decide +kernel) (by decide +kernel)
theorem fl5_26 : Cond.fieldLink RX5 26 "WaveBuoys" "packs" "LWaveBuoys$Packs;" ∈ wT := tm 149 (by decide +kernel) (by decide +kernel)
theorem fl5_33 : Cond.fieldLink RX5 33 "WaveBuoys" "warning" "LWaveBuoys$Warning;" ∈ wT := tm 150 (by decide +kernel) (by decide +kernel)
theorem fl5_40 : Cond.fieldLink RX5 40 "WaveBuoys" "mooring" "LWaveBuoys$Mooring;" ∈ wT := tm 151 (by decide +kernel) (by decide +kernel)
def kW (G : WG) (U : State) : Prop := wK G U ∧ va_Nw (.methodLinkNest RX5 15 yX3_init RX5) U ∧ va_Nw (.methodLinkNest RX5 22 yX2_init RX5) U ∧ va_Nw (.methodLinkNest RX5 25 yX1_init RX5) U ∧ va_Nw (.methodLinkNest RX1 9 yX3_init RX5) U ∧ va_Nw (.methodLinkNest RX5 32 yX4_init RX5) U ∧ va_Nw (.methodLinkNest RX5 39 yX0_init RX5) U ∧ va_AO RX3 U ∧ va_AO RX2 U
theorem kW.warm {G : WG} {s U : State} (hW : s.WarmedH U.vm) (h : kW G s) : kW G U := ⟨h.1.warm hW, va_Nw.warmM hW h.2.1, va_Nw.warmM hW h.2.2.1, va_Nw.warmM hW h.2.2.2.1, va_Nw.warmM hW h.2.2.2.2.1, va_Nw.warmM hW h.2.2.2.2.2.1, va_Nw.warmM hW h.2.2.2.2.2.2.1, h.2.2.2.2.2.2.2.1.moved hW.alike, h.2.2.2.2.2.2.2.2.moved hW.alike⟩
theorem kW.calling {G : WG} {U : State} {g : JFrame} {mk : MethodId} {a : Array Value} (h : kW G U) : kW G (U.calling g mk a) := ⟨h.1.calling, va_Nw.same rfl rfl h.2.1, va_Nw.same rfl rfl h.2.2.1, va_Nw.same rfl rfl h.2.2.2.1, va_Nw.same rfl rfl h.2.2.2.2.1, va_Nw.same rfl rfl h.2.2.2.2.2.1, va_Nw.same rfl rfl h.2.2.2.2.2.2.1, va_AO.moved (u := U) (U := U.calling g mk a) (Vm.Alike.refl U.vm) h.2.2.2.2.2.2.2.1, va_AO.moved (u := U) (U := U.calling g mk a) (Vm.Alike.refl U.vm) h.2.2.2.2.2.2.2.2⟩
theorem kW.nX5_15 {G : WG} {U : State} (h : kW G U) : va_Nw (.methodLinkNest RX5 15 yX3_init RX5) U := h.2.1
theorem kW.nX5_22 {G : WG} {U : State} (h : kW G U) : va_Nw (.methodLinkNest RX5 22 yX2_init RX5) U := h.2.2.1
theorem kW.nX5_25 {G : WG} {U : State} (h : kW G U) : va_Nw (.methodLinkNest RX5 25 yX1_init RX5) U := h.2.2.2.1
theorem kW.nX1_9 {G : WG} {U : State} (h : kW G U) : va_Nw (.methodLinkNest RX1 9 yX3_init RX5) U := h.2.2.2.2.1
theorem kW.nX5_32 {G : WG} {U : State} (h : kW G U) : va_Nw (.methodLinkNest RX5 32 yX4_init RX5) U := h.2.2.2.2.2.1
theorem kW.nX5_39 {G : WG} {U : State} (h : kW G U) : va_Nw (.methodLinkNest RX5 39 yX0_init RX5) U := h.2.2.2.2.2.2.1
theorem kW.aS {G : WG} {U : State} (h : kW G U) : va_AO RX3 U := h.2.2.2.2.2.2.2.1
theorem kW.aR {G : WG} {U : State} (h : kW G U) : va_AO RX2 U := h.2.2.2.2.2.2.2.2
section WX
variable {p : Program} {l : Launch} {e : Env} {R : Room} {s : State} {m : MethodId} {args : Array Value} {below : List Frame} {meth : Method} {c : Code} {H : Heap} {locs : List Loc} {cells slots : Nat} {Q : State → Prop}
variable {cc : ByteArray} {pc : Nat} {ls : Array Slot} {rest : List Value} {G : WG} {A : Nat → Prop} {ws : va_W} {H0 : Heap}
/-- a new array: its class is the one that G has -/
theorem wx_newa (hexec : p.tables.exec = Jvm.exec) (hb : c.code = cc) {atype : ArrayType} {ty : FieldType} (k : Nat) (harr : (Cond.arrayClass (newarray.typeOf atype)).before args s = true) (hty : newarray.typeOf atype = ty) (hk : (wTys G)[k]? = some (G.2.2 k, ty)) (hp : ∀ c', va_RA s c' ty → s.vm.findClass ("[" ++ ty.toString) = some c') (hK : kW G s) (hP : va_P G.1 vwCl ws H) (hD : va_D A ws) (hS : va_S A H0 H locs) (hA : ∀ q, H0.size ≤ q → A q)
    {n : Int32} {N' : Nat} {a0 : vp_A} (ha : ∀ cA : ClassId, vp_cell cA a0 = arrV cA N' (fun _ => defaultValue ty)) (hn : ¬ n < 0) (hN : n.toNatClampNeg = N') (hbytes : N' * componentBytes ty ≤ 536870912) (hcells : cells + 1 ≤ R.cells) (hslots : slots + N' ≤ R.slots) (hdg : decode cc pc = .ok (.newarray atype, 2))
    (kk : ∀ (q : Nat) (H1 : Heap), va_P G.1 vwCl (ws ++ [(q, .inl (G.2.2 k, a0))]) H1 → va_D A (ws ++ [(q, .inl (G.2.2 k, a0))]) → va_S A H0 H1 locs →
      W p l e R s m args below meth c H1 locs (cells + 1) (slots + N') Q (F0 m (pc + 2) ls (.ref q :: rest))) : W p l e R s m args below meth c H locs cells slots Q (F0 m pc ls (.int n :: rest)) := by
  refine va_newa hexec hb harr hty hK.1.1 hP hD hS hA ha hn hN hbytes hcells hslots hdg (fun q cA H1 hK1 hP1 hD1 hS1 => ?_)
  have h1 := (hK1.2 5 (cA, ty) rfl).2
  have h2 := (hK.1.1.2 k _ hk).2
  have e_ : cA = G.2.2 k := Option.some.inj ((hp _ h1).symm.trans (hp _ h2))
  subst e_
  exact kk q H1 hP1 hD1 hS1
/-- a new array of references -/
theorem wx_newq (hexec : p.tables.exec = Jvm.exec) (hb : c.code = cc) {own C : String} {index : Nat} (k : Nat) (hown : s.vm.findClass own = some m.cls) (hclink : (Cond.classLink own index C).before args s = true) (hover : va_AO C s) (hk : (wTys G)[k]? = some (G.2.2 k, .object C)) (hK : kW G s) (hP : va_P G.1 vwCl ws H) (hD : va_D A ws) (hS : va_S A H0 H locs) (hA : ∀ q, H0.size ≤ q → A q)
    {n : Int32} {N' : Nat} (hn : ¬ n < 0) (hN : n.toNatClampNeg = N') (hbytes : N' * 4 ≤ 536870912) (hcells : cells + 1 ≤ R.cells) (hslots : slots + N' ≤ R.slots) (hdg : decode cc pc = .ok (.anewarray index, 3))
    (kk : ∀ (q : Nat) (H1 : Heap), va_P G.1 vwCl (ws ++ [(q, .inl (G.2.2 k, N', .inr (.inr (.inr (.inr (fun _ => none))))))]) H1 → va_D A (ws ++ [(q, .inl (G.2.2 k, N', .inr (.inr (.inr (.inr (fun _ => none))))))]) → va_S A H0 H1 locs →
      W p l e R s m args below meth c H1 locs (cells + 1) (slots + N') Q (F0 m (pc + 3) ls (.ref q :: rest))) : W p l e R s m args below meth c H locs cells slots Q (F0 m pc ls (.int n :: rest)) := by
  refine va_newq hexec hb hown hclink hover hK.1.1 hP hD hS hA hn hN hbytes hcells hslots hdg (fun q cA H1 hK1 hP1 hD1 hS1 => ?_)
  obtain ⟨_, _, _, _, _, h1⟩ := (hK1.2 5 (cA, .object C) rfl).2
  obtain ⟨_, _, _, _, _, h2⟩ := (hK.1.1.2 k _ hk).2
  have e_ : cA = G.2.2 k := Option.some.inj (h1.symm.trans h2)
  subst e_
  exact kk q H1 hP1 hD1 hS1
end WX
section WJ
variable {A0 : Nat → Prop} {D : va_G} {cl : List vw_C} {wr w1 : va_W} {x : Nat × va_E} {H H0 H1 : Heap} {locs : List Loc}
theorem wx_last : [wr.length].map (fun i => (wr ++ [x])[i]?) = [x].map some := by
  simp
theorem wx_range : ∀ (w : va_W) (y : va_W), (List.range w.length).map (fun i => (w ++ y)[i]?) = w.map some := by
  intro w y
  apply List.ext_getElem?
  intro i
  rw [List.getElem?_map, List.getElem?_map]
  by_cases h : i < w.length
  · rw [List.getElem?_range h, Option.map_some, List.getElem?_append_left h]
    cases hx : w[i]? with
    | none => exact absurd (List.getElem?_eq_none_iff.mp hx) (by omega)
    | some v => rfl
  · rw [List.getElem?_eq_none (by simp; omega), List.getElem?_eq_none (by omega)]
    rfl
theorem va_nd_of : ∀ (l : List Nat), l.Nodup → va_nd l = true
  | [], _ => rfl
  | a :: l, h => by
    have h' := List.nodup_cons.mp h
    rw [va_nd, va_nd_of l h'.2]
    simp [h'.1]
theorem wx_P (hP : va_P D cl (wr ++ [x]) H) : va_P D cl [x] H := hP.sub [wr.length] (by simp)
theorem wx_D (hD : va_D A0 (wr ++ [x])) : va_D (fun _ => True) [x] := (hD.sub [wr.length] rfl wx_last).weaken (fun _ _ _ _ => trivial)
theorem wx_F (hD : va_D A0 (wr ++ [x])) (hS : va_S A0 H0 H locs) (hA : ∀ q, H0.size ≤ q → A0 q) : ∀ q, va_A [x] H.size q → A0 q := va_free hD hS hA [wr.length] wx_last
theorem wx_join (hP : va_P D cl (wr ++ [x]) H) (hD : va_D A0 (wr ++ [x])) (hk : ∀ q : Nat, q < H.size → ¬ va_A [x] H.size q → H1[q]? = H[q]?) (hF : ∀ q, va_A [x] H.size q → A0 q) (hP1 : va_P D cl w1 H1) (hD1 : va_D (va_A [x] H.size) w1) : va_P D cl (wr ++ w1) H1 ∧ va_D A0 (wr ++ w1) :=
  va_join hP hD [wr.length] (List.range wr.length) wx_last (wx_range wr [x]) (va_nd_of _ List.nodup_range) (fun i hi q => by
    have h1 := List.mem_range.mp hi
    have h2 := List.mem_singleton.mp q
    omega) hk hF hP1 hD1
end WJ
theorem kx_blind {G : WG} {h0 sz : Nat} {e0 : va_E} : FrameBlind (va_Pc [.ref h0] (fun U => U.heap.size = sz ∧ va_P G.1 vwCl [(h0, e0)] U.heap ∧ kW G U ∧ va_D (fun _ => True) [(h0, e0)])) := fun a U g mk q => by
  obtain ⟨q0, q1, qP, qK, qD⟩ := q
  exact ⟨q0, q1, qP, qK.calling, qD⟩
def wX0 (_ : WG) (h0 : Nat) (_ : List Nat) : va_W := [(h0, .inr (0, [.long 0, .long 0, .long 0, .int (nI 1), .int 0, .int 0, .int 0, .int 0, .int 0, .int 0]))]
def bX0 : va_E := .inr (0, [.long 0, .long 0, .long 0, .int 0, .int 0, .int 0, .int 0, .int 0, .int 0, .int 0])
set_option maxHeartbeats 4000000 in
set_option maxRecDepth 100000 in
theorem c_X0 (l : Launch) (G : WG) (h0 sz : Nat) : Met l yX0_init (wsM kX0_init) ({ frames := 1, cells := 0, slots := 0, locals := 12 }) (va_Pc [.ref h0] (fun U => U.heap.size = sz ∧ va_P G.1 vwCl [(h0, bX0)] U.heap ∧ kW G U ∧ va_D (fun _ => True) [(h0, bX0)])) (va_Qv (fun _ : List Nat => True) (fun u t => va_P G.1 vwCl (wX0 G h0 u) t.heap ∧ va_D (va_A [(h0, bX0)] sz) (wX0 G h0 u)) (va_A [(h0, bX0)] sz)) 0 0 (va_A [(h0, bX0)] sz) := by
  refine Met.ofW (cc := cX0_init) (maxL := 1) (ret := none) (by decide) rfl ?_
  intro p e s m args below meth c s₁ B hml hv
  obtain ⟨rfl, hsz, hP, hK, hD0⟩ := hv
  have hx := B.exec
  have hb := B.bytes
  have hr := B.returns
  have hts := atoms_spec (ws := wsM kX0_init) B.pre
  have hw : ∀ {w : Cond}, w ∈ wT → w.before _ s = true := fun h => hts _ (List.mem_cons_of_mem _ h)
  have hown : s.vm.findClass RX0 = some m.cls := findClass_of_methodNamed B.named
  have hlocks := B.notSynchronized
  have hin : meth.name = "<init>" := (name_of_methodNamed B.named B.method).1
  subst hsz
  have hD := hD0.self (sz := s.heap.size)
  generalize hAe : va_A [(h0, bX0)] s.heap.size = A at hD ⊢
  have hA : ∀ q : Nat, s.heap.size ≤ q → A q := fun q h => by rw [← hAe]; exact Or.inr h
  have hS : va_S A s.heap s.heap [] := va_S.rf
  have hP : va_P G.1 vwCl [(h0, .inr (0, [.long 0, .long 0, .long 0, .int 0, .int 0, .int 0, .int 0, .int 0, .int 0, .int 0]))] s.heap := hP
  have hD : va_D A [(h0, .inr (0, [.long 0, .long 0, .long 0, .int 0, .int 0, .int 0, .int 0, .int 0, .int 0, .int 0]))] := hD
  have hl := lv_entry ([.ref h0]) (n := 1) (Nat.le_of_ble_eq_true rfl)
  rw [lg_entry_eq]
  generalize (lg_sl ([.ref h0]) ++ List.replicate (1 - (lg_sl ([.ref h0])).length) Slot.unset).toArray = ls at hl ⊢
  have hl : lv_has ls 1 [(0, .ref h0)] := hl
  refine lv_aload_n hx hb dX0_init_0 rfl (lv_at hl 0 rfl) ?_
  refine W.objInit hx hb hown (hw mo0) (hw moI) (hw moC) rfl (by rw [hml]; exact hl.1) rfl dX0_init_1 (Nat.le_of_ble_eq_true rfl) (Nat.le_of_ble_eq_true rfl) ?_
  refine W.eq (g2 := F0 m 4 ls []) rfl ?_
  refine lv_aload_n hx hb dX0_init_4 rfl (lv_at hl 0 rfl) ?_
  refine lv_iconst (v := nI 1) hx hb dX0_init_5 (by decide) ?_
  refine va_put (D := G.1) (ci := 0) (v := .int (nI 1)) (ty := .int) (C := RX0) (T := TX0) (N := 10) hx hb hts (fun w h => List.mem_cons_of_mem _ (uw0 w h)) tyX0 tyX0_ok nmX0 hown hK.1.1 hP hD hS 0 rfl rfl 3 (by decide) (hw fl0_7) (fun _ h9 => h9) rfl (by decide +kernel) rfl rfl (Nat.le_of_ble_eq_true rfl) dX0_init_6 (fun H locs hP hD hS => ?_)
  have hP : va_P G.1 vwCl [(h0, .inr (0, [.long 0, .long 0, .long 0, .int (nI 1), .int 0, .int 0, .int 0, .int 0, .int 0, .int 0]))] H := hP
  have hD : va_D A [(h0, .inr (0, [.long 0, .long 0, .long 0, .int (nI 1), .int 0, .int 0, .int 0, .int 0, .int 0, .int 0]))] := hD
  exact W.vret hx hb hr (fun t ht hW => ⟨⟨[], rfl, trivial, by rw [ht]; exact hP, hD⟩, hS.F ht⟩) hS.2.2 dX0_init_9 hlocks
def wX4 (_ : WG) (h0 : Nat) (_ : List Nat) : va_W := [(h0, .inr (4, [.int (nI 100), .int (nI 50), .int 0, .int 0, .int 0, .int 0, .int 0]))]
def bX4 : va_E := .inr (4, [.int 0, .int 0, .int 0, .int 0, .int 0, .int 0, .int 0])
set_option maxHeartbeats 4000000 in
set_option maxRecDepth 100000 in
theorem c_X4 (l : Launch) (G : WG) (h0 sz : Nat) : Met l yX4_init (wsM kX4_init) ({ frames := 1, cells := 0, slots := 0, locals := 12 }) (va_Pc [.ref h0] (fun U => U.heap.size = sz ∧ va_P G.1 vwCl [(h0, bX4)] U.heap ∧ kW G U ∧ va_D (fun _ => True) [(h0, bX4)])) (va_Qv (fun _ : List Nat => True) (fun u t => va_P G.1 vwCl (wX4 G h0 u) t.heap ∧ va_D (va_A [(h0, bX4)] sz) (wX4 G h0 u)) (va_A [(h0, bX4)] sz)) 0 0 (va_A [(h0, bX4)] sz) := by
  refine Met.ofW (cc := cX4_init) (maxL := 1) (ret := none) (by decide) rfl ?_
  intro p e s m args below meth c s₁ B hml hv
  obtain ⟨rfl, hsz, hP, hK, hD0⟩ := hv
  have hx := B.exec
  have hb := B.bytes
  have hr := B.returns
  have hts := atoms_spec (ws := wsM kX4_init) B.pre
  have hw : ∀ {w : Cond}, w ∈ wT → w.before _ s = true := fun h => hts _ (List.mem_cons_of_mem _ h)
  have hown : s.vm.findClass RX4 = some m.cls := findClass_of_methodNamed B.named
  have hlocks := B.notSynchronized
  have hin : meth.name = "<init>" := (name_of_methodNamed B.named B.method).1
  subst hsz
  have hD := hD0.self (sz := s.heap.size)
  generalize hAe : va_A [(h0, bX4)] s.heap.size = A at hD ⊢
  have hA : ∀ q : Nat, s.heap.size ≤ q → A q := fun q h => by rw [← hAe]; exact Or.inr h
  have hS : va_S A s.heap s.heap [] := va_S.rf
  have hP : va_P G.1 vwCl [(h0, .inr (4, [.int 0, .int 0, .int 0, .int 0, .int 0, .int 0, .int 0]))] s.heap := hP
  have hD : va_D A [(h0, .inr (4, [.int 0, .int 0, .int 0, .int 0, .int 0, .int 0, .int 0]))] := hD
  have hl := lv_entry ([.ref h0]) (n := 1) (Nat.le_of_ble_eq_true rfl)
  rw [lg_entry_eq]
  generalize (lg_sl ([.ref h0]) ++ List.replicate (1 - (lg_sl ([.ref h0])).length) Slot.unset).toArray = ls at hl ⊢
  have hl : lv_has ls 1 [(0, .ref h0)] := hl
  refine lv_aload_n hx hb dX4_init_0 rfl (lv_at hl 0 rfl) ?_
  refine W.objInit hx hb hown (hw mo4) (hw moI) (hw moC) rfl (by rw [hml]; exact hl.1) rfl dX4_init_1 (Nat.le_of_ble_eq_true rfl) (Nat.le_of_ble_eq_true rfl) ?_
  refine W.eq (g2 := F0 m 4 ls []) rfl ?_
  refine lv_aload_n hx hb dX4_init_4 rfl (lv_at hl 0 rfl) ?_
  refine lv_bipush (v := nI 100) hx hb dX4_init_5 (by decide) ?_
  refine va_put (D := G.1) (ci := 4) (v := .int (nI 100)) (ty := .int) (C := RX4) (T := TX4) (N := 7) hx hb hts (fun w h => List.mem_cons_of_mem _ (uw4 w h)) tyX4 tyX4_ok nmX4 hown hK.1.1 hP hD hS 0 rfl rfl 0 (by decide) (hw fl4_7) (fun _ h9 => h9) rfl (by decide +kernel) rfl rfl (Nat.le_of_ble_eq_true rfl) dX4_init_7 (fun H locs hP hD hS => ?_)
  have hP : va_P G.1 vwCl [(h0, .inr (4, [.int (nI 100), .int 0, .int 0, .int 0, .int 0, .int 0, .int 0]))] H := hP
  have hD : va_D A [(h0, .inr (4, [.int (nI 100), .int 0, .int 0, .int 0, .int 0, .int 0, .int 0]))] := hD
  refine lv_aload_n hx hb dX4_init_10 rfl (lv_at hl 0 rfl) ?_
  refine lv_bipush (v := nI 50) hx hb dX4_init_11 (by decide) ?_
  refine va_put (D := G.1) (ci := 4) (v := .int (nI 50)) (ty := .int) (C := RX4) (T := TX4) (N := 7) hx hb hts (fun w h => List.mem_cons_of_mem _ (uw4 w h)) tyX4 tyX4_ok nmX4 hown hK.1.1 hP hD hS 0 rfl rfl 1 (by decide) (hw fl4_13) (fun _ h9 => h9) rfl (by decide +kernel) rfl rfl (Nat.le_of_ble_eq_true rfl) dX4_init_13 (fun H locs hP hD hS => ?_)
  have hP : va_P G.1 vwCl [(h0, .inr (4, [.int (nI 100), .int (nI 50), .int 0, .int 0, .int 0, .int 0, .int 0]))] H := hP
  have hD : va_D A [(h0, .inr (4, [.int (nI 100), .int (nI 50), .int 0, .int 0, .int 0, .int 0, .int 0]))] := hD
  exact W.vret hx hb hr (fun t ht hW => ⟨⟨[], rfl, trivial, by rw [ht]; exact hP, hD⟩, hS.F ht⟩) hS.2.2 dX4_init_16 hlocks
def wX3 (G : WG) (h0 : Nat) (u : List Nat) : va_W := [(h0, .inr (3, [.int 0, .int 0, .int 0, .ref (u.getD 0 0), .ref (u.getD 1 0), .ref (u.getD 2 0)])), (u.getD 0 0, .inl (G.2.2 1, 64, .inl (fun _ => nI 0))), (u.getD 1 0, .inl (G.2.2 1, 64, .inl (fun _ => nI 0))), (u.getD 2 0, .inl (G.2.2 0, 64, .inl (fun _ => nI 0)))]
def bX3 : va_E := .inr (3, [.int 0, .int 0, .int 0, .null, .null, .null])
set_option maxHeartbeats 4000000 in
set_option maxRecDepth 100000 in
theorem c_X3 (l : Launch) (G : WG) (h0 sz : Nat) : Met l yX3_init (wsM kX3_init) ({ frames := 1, cells := 3, slots := 192, locals := 12 }) (va_Pc [.ref h0] (fun U => U.heap.size = sz ∧ va_P G.1 vwCl [(h0, bX3)] U.heap ∧ kW G U ∧ va_D (fun _ => True) [(h0, bX3)])) (va_Qv (fun _ : List Nat => True) (fun u t => va_P G.1 vwCl (wX3 G h0 u) t.heap ∧ va_D (va_A [(h0, bX3)] sz) (wX3 G h0 u)) (va_A [(h0, bX3)] sz)) 3 192 (va_A [(h0, bX3)] sz) := by
  refine Met.ofW (cc := cX3_init) (maxL := 1) (ret := none) (by decide) rfl ?_
  intro p e s m args below meth c s₁ B hml hv
  obtain ⟨rfl, hsz, hP, hK, hD0⟩ := hv
  have hx := B.exec
  have hb := B.bytes
  have hr := B.returns
  have hts := atoms_spec (ws := wsM kX3_init) B.pre
  have hw : ∀ {w : Cond}, w ∈ wT → w.before _ s = true := fun h => hts _ (List.mem_cons_of_mem _ h)
  have hown : s.vm.findClass RX3 = some m.cls := findClass_of_methodNamed B.named
  have hlocks := B.notSynchronized
  have hin : meth.name = "<init>" := (name_of_methodNamed B.named B.method).1
  subst hsz
  have hD := hD0.self (sz := s.heap.size)
  generalize hAe : va_A [(h0, bX3)] s.heap.size = A at hD ⊢
  have hA : ∀ q : Nat, s.heap.size ≤ q → A q := fun q h => by rw [← hAe]; exact Or.inr h
  have hS : va_S A s.heap s.heap [] := va_S.rf
  have hP : va_P G.1 vwCl [(h0, .inr (3, [.int 0, .int 0, .int 0, .null, .null, .null]))] s.heap := hP
  have hD : va_D A [(h0, .inr (3, [.int 0, .int 0, .int 0, .null, .null, .null]))] := hD
  have hl := lv_entry ([.ref h0]) (n := 1) (Nat.le_of_ble_eq_true rfl)
  rw [lg_entry_eq]
  generalize (lg_sl ([.ref h0]) ++ List.replicate (1 - (lg_sl ([.ref h0])).length) Slot.unset).toArray = ls at hl ⊢
  have hl : lv_has ls 1 [(0, .ref h0)] := hl
  refine lv_aload_n hx hb dX3_init_0 rfl (lv_at hl 0 rfl) ?_
  refine W.objInit hx hb hown (hw mo3) (hw moI) (hw moC) rfl (by rw [hml]; exact hl.1) rfl dX3_init_1 (Nat.le_of_ble_eq_true rfl) (Nat.le_of_ble_eq_true rfl) ?_
  refine W.eq (g2 := F0 m 4 ls []) rfl ?_
  refine lv_aload_n hx hb dX3_init_4 rfl (lv_at hl 0 rfl) ?_
  refine lv_bipush (v := nI 64) hx hb dX3_init_5 (by decide) ?_
  refine wx_newa (atype := .int) (N' := 64) (a0 := (64, .inl (fun _ => nI 0))) hx hb 1 (hw ac_int) rfl rfl (fun _ h => h) hK hP hD hS hA (fun _ => rfl) (by decide) (by decide) (Nat.le_of_ble_eq_true rfl) (Nat.le_of_ble_eq_true rfl) (Nat.le_of_ble_eq_true rfl) dX3_init_7 (fun q7 H hP hD hS => ?_)
  have hP : va_P G.1 vwCl [(h0, .inr (3, [.int 0, .int 0, .int 0, .null, .null, .null])), (q7, .inl (G.2.2 1, 64, .inl (fun _ => nI 0)))] H := hP
  have hD : va_D A [(h0, .inr (3, [.int 0, .int 0, .int 0, .null, .null, .null])), (q7, .inl (G.2.2 1, 64, .inl (fun _ => nI 0)))] := hD
  refine W.widen (k := 1) (n := 64) (Nat.le_of_ble_eq_true rfl) (Nat.le_of_ble_eq_true rfl) ?_
  refine va_putF (D := G.1) (ci := 3) (v := .ref q7) (ty := .array .int) (C := RX3) (T := TX3) (N := 6) hx hb hts (fun w h => List.mem_cons_of_mem _ (uw3 w h)) tyX3 tyX3_ok nmX3 hown hK.1.1 hP hD hS 0 rfl rfl 3 (by decide) (hw fl3_9) (fun _ h9 => h9) rfl hin rfl (by decide +kernel) rfl rfl (Nat.le_of_ble_eq_true rfl) dX3_init_9 (fun H locs hP hD hS => ?_)
  have hP : va_P G.1 vwCl [(h0, .inr (3, [.int 0, .int 0, .int 0, .ref q7, .null, .null])), (q7, .inl (G.2.2 1, 64, .inl (fun _ => nI 0)))] H := hP
  have hD : va_D A [(h0, .inr (3, [.int 0, .int 0, .int 0, .ref q7, .null, .null])), (q7, .inl (G.2.2 1, 64, .inl (fun _ => nI 0)))] := hD
  refine lv_aload_n hx hb dX3_init_12 rfl (lv_at hl 0 rfl) ?_
  refine lv_bipush (v := nI 64) hx hb dX3_init_13 (by decide) ?_
  refine wx_newa (atype := .int) (N' := 64) (a0 := (64, .inl (fun _ => nI 0))) hx hb 1 (hw ac_int) rfl rfl (fun _ h => h) hK hP hD hS hA (fun _ => rfl) (by decide) (by decide) (Nat.le_of_ble_eq_true rfl) (Nat.le_of_ble_eq_true rfl) (Nat.le_of_ble_eq_true rfl) dX3_init_15 (fun q15 H hP hD hS => ?_)
  have hP : va_P G.1 vwCl [(h0, .inr (3, [.int 0, .int 0, .int 0, .ref q7, .null, .null])), (q7, .inl (G.2.2 1, 64, .inl (fun _ => nI 0))), (q15, .inl (G.2.2 1, 64, .inl (fun _ => nI 0)))] H := hP
  have hD : va_D A [(h0, .inr (3, [.int 0, .int 0, .int 0, .ref q7, .null, .null])), (q7, .inl (G.2.2 1, 64, .inl (fun _ => nI 0))), (q15, .inl (G.2.2 1, 64, .inl (fun _ => nI 0)))] := hD
  refine W.widen (k := 2) (n := 128) (Nat.le_of_ble_eq_true rfl) (Nat.le_of_ble_eq_true rfl) ?_
  refine va_putF (D := G.1) (ci := 3) (v := .ref q15) (ty := .array .int) (C := RX3) (T := TX3) (N := 6) hx hb hts (fun w h => List.mem_cons_of_mem _ (uw3 w h)) tyX3 tyX3_ok nmX3 hown hK.1.1 hP hD hS 0 rfl rfl 4 (by decide) (hw fl3_15) (fun _ h9 => h9) rfl hin rfl (by decide +kernel) rfl rfl (Nat.le_of_ble_eq_true rfl) dX3_init_17 (fun H locs hP hD hS => ?_)
  have hP : va_P G.1 vwCl [(h0, .inr (3, [.int 0, .int 0, .int 0, .ref q7, .ref q15, .null])), (q7, .inl (G.2.2 1, 64, .inl (fun _ => nI 0))), (q15, .inl (G.2.2 1, 64, .inl (fun _ => nI 0)))] H := hP
  have hD : va_D A [(h0, .inr (3, [.int 0, .int 0, .int 0, .ref q7, .ref q15, .null])), (q7, .inl (G.2.2 1, 64, .inl (fun _ => nI 0))), (q15, .inl (G.2.2 1, 64, .inl (fun _ => nI 0)))] := hD
  refine lv_aload_n hx hb dX3_init_20 rfl (lv_at hl 0 rfl) ?_
  refine lv_bipush (v := nI 64) hx hb dX3_init_21 (by decide) ?_
  refine wx_newa (atype := .boolean) (N' := 64) (a0 := (64, .inl (fun _ => nI 0))) hx hb 0 (hw ac_boolean) rfl rfl (fun _ h => h) hK hP hD hS hA (fun _ => rfl) (by decide) (by decide) (Nat.le_of_ble_eq_true rfl) (Nat.le_of_ble_eq_true rfl) (Nat.le_of_ble_eq_true rfl) dX3_init_23 (fun q23 H hP hD hS => ?_)
  have hP : va_P G.1 vwCl [(h0, .inr (3, [.int 0, .int 0, .int 0, .ref q7, .ref q15, .null])), (q7, .inl (G.2.2 1, 64, .inl (fun _ => nI 0))), (q15, .inl (G.2.2 1, 64, .inl (fun _ => nI 0))), (q23, .inl (G.2.2 0, 64, .inl (fun _ => nI 0)))] H := hP
  have hD : va_D A [(h0, .inr (3, [.int 0, .int 0, .int 0, .ref q7, .ref q15, .null])), (q7, .inl (G.2.2 1, 64, .inl (fun _ => nI 0))), (q15, .inl (G.2.2 1, 64, .inl (fun _ => nI 0))), (q23, .inl (G.2.2 0, 64, .inl (fun _ => nI 0)))] := hD
  refine W.widen (k := 3) (n := 192) (Nat.le_of_ble_eq_true rfl) (Nat.le_of_ble_eq_true rfl) ?_
  refine va_putF (D := G.1) (ci := 3) (v := .ref q23) (ty := .array .boolean) (C := RX3) (T := TX3) (N := 6) hx hb hts (fun w h => List.mem_cons_of_mem _ (uw3 w h)) tyX3 tyX3_ok nmX3 hown hK.1.1 hP hD hS 0 rfl rfl 5 (by decide) (hw fl3_18) (fun _ h9 => h9) rfl hin rfl (by decide +kernel) rfl rfl (Nat.le_of_ble_eq_true rfl) dX3_init_25 (fun H locs hP hD hS => ?_)
  have hP : va_P G.1 vwCl [(h0, .inr (3, [.int 0, .int 0, .int 0, .ref q7, .ref q15, .ref q23])), (q7, .inl (G.2.2 1, 64, .inl (fun _ => nI 0))), (q15, .inl (G.2.2 1, 64, .inl (fun _ => nI 0))), (q23, .inl (G.2.2 0, 64, .inl (fun _ => nI 0)))] H := hP
  have hD : va_D A [(h0, .inr (3, [.int 0, .int 0, .int 0, .ref q7, .ref q15, .ref q23])), (q7, .inl (G.2.2 1, 64, .inl (fun _ => nI 0))), (q15, .inl (G.2.2 1, 64, .inl (fun _ => nI 0))), (q23, .inl (G.2.2 0, 64, .inl (fun _ => nI 0)))] := hD
  exact W.vret hx hb hr (fun t ht hW => ⟨⟨[q7, q15, q23], rfl, trivial, by rw [ht]; exact hP, hD⟩, hS.F ht⟩) hS.2.2 dX3_init_28 hlocks
def wX2 (G : WG) (h0 : Nat) (u : List Nat) : va_W := [(h0, .inr (2, [.int 0, .ref (u.getD 0 0), .ref (u.getD 1 0), .ref (u.getD 2 0), .ref (u.getD 3 0)])), (u.getD 0 0, .inl (G.2.2 2, 64, .inr (.inl (fun _ => 0)))), (u.getD 1 0, .inl (G.2.2 2, 64, .inr (.inl (fun _ => 0)))), (u.getD 2 0, .inl (G.2.2 1, 64, .inl (fun _ => nI 0))), (u.getD 3 0, .inl (G.2.2 2, 64, .inr (.inl (fun _ => 0))))]
def bX2 : va_E := .inr (2, [.int 0, .null, .null, .null, .null])
set_option maxHeartbeats 4000000 in
set_option maxRecDepth 100000 in
theorem c_X2 (l : Launch) (G : WG) (h0 sz : Nat) : Met l yX2_init (wsM kX2_init) ({ frames := 1, cells := 4, slots := 256, locals := 12 }) (va_Pc [.ref h0] (fun U => U.heap.size = sz ∧ va_P G.1 vwCl [(h0, bX2)] U.heap ∧ kW G U ∧ va_D (fun _ => True) [(h0, bX2)])) (va_Qv (fun _ : List Nat => True) (fun u t => va_P G.1 vwCl (wX2 G h0 u) t.heap ∧ va_D (va_A [(h0, bX2)] sz) (wX2 G h0 u)) (va_A [(h0, bX2)] sz)) 4 256 (va_A [(h0, bX2)] sz) := by
  refine Met.ofW (cc := cX2_init) (maxL := 1) (ret := none) (by decide) rfl ?_
  intro p e s m args below meth c s₁ B hml hv
  obtain ⟨rfl, hsz, hP, hK, hD0⟩ := hv
  have hx := B.exec
  have hb := B.bytes
  have hr := B.returns
  have hts := atoms_spec (ws := wsM kX2_init) B.pre
  have hw : ∀ {w : Cond}, w ∈ wT → w.before _ s = true := fun h => hts _ (List.mem_cons_of_mem _ h)
  have hown : s.vm.findClass RX2 = some m.cls := findClass_of_methodNamed B.named
  have hlocks := B.notSynchronized
  have hin : meth.name = "<init>" := (name_of_methodNamed B.named B.method).1
  subst hsz
  have hD := hD0.self (sz := s.heap.size)
  generalize hAe : va_A [(h0, bX2)] s.heap.size = A at hD ⊢
  have hA : ∀ q : Nat, s.heap.size ≤ q → A q := fun q h => by rw [← hAe]; exact Or.inr h
  have hS : va_S A s.heap s.heap [] := va_S.rf
  have hP : va_P G.1 vwCl [(h0, .inr (2, [.int 0, .null, .null, .null, .null]))] s.heap := hP
  have hD : va_D A [(h0, .inr (2, [.int 0, .null, .null, .null, .null]))] := hD
  have hl := lv_entry ([.ref h0]) (n := 1) (Nat.le_of_ble_eq_true rfl)
  rw [lg_entry_eq]
  generalize (lg_sl ([.ref h0]) ++ List.replicate (1 - (lg_sl ([.ref h0])).length) Slot.unset).toArray = ls at hl ⊢
  have hl : lv_has ls 1 [(0, .ref h0)] := hl
  refine lv_aload_n hx hb dX2_init_0 rfl (lv_at hl 0 rfl) ?_
  refine W.objInit hx hb hown (hw mo2) (hw moI) (hw moC) rfl (by rw [hml]; exact hl.1) rfl dX2_init_1 (Nat.le_of_ble_eq_true rfl) (Nat.le_of_ble_eq_true rfl) ?_
  refine W.eq (g2 := F0 m 4 ls []) rfl ?_
  refine lv_aload_n hx hb dX2_init_4 rfl (lv_at hl 0 rfl) ?_
  refine lv_bipush (v := nI 64) hx hb dX2_init_5 (by decide) ?_
  refine wx_newa (atype := .long) (N' := 64) (a0 := (64, .inr (.inl (fun _ => 0)))) hx hb 2 (hw ac_long) rfl rfl (fun _ h => h) hK hP hD hS hA (fun _ => rfl) (by decide) (by decide) (Nat.le_of_ble_eq_true rfl) (Nat.le_of_ble_eq_true rfl) (Nat.le_of_ble_eq_true rfl) dX2_init_7 (fun q7 H hP hD hS => ?_)
  have hP : va_P G.1 vwCl [(h0, .inr (2, [.int 0, .null, .null, .null, .null])), (q7, .inl (G.2.2 2, 64, .inr (.inl (fun _ => 0))))] H := hP
  have hD : va_D A [(h0, .inr (2, [.int 0, .null, .null, .null, .null])), (q7, .inl (G.2.2 2, 64, .inr (.inl (fun _ => 0))))] := hD
  refine W.widen (k := 1) (n := 64) (Nat.le_of_ble_eq_true rfl) (Nat.le_of_ble_eq_true rfl) ?_
  refine va_putF (D := G.1) (ci := 2) (v := .ref q7) (ty := .array .long) (C := RX2) (T := TX2) (N := 5) hx hb hts (fun w h => List.mem_cons_of_mem _ (uw2 w h)) tyX2 tyX2_ok nmX2 hown hK.1.1 hP hD hS 0 rfl rfl 1 (by decide) (hw fl2_9) (fun _ h9 => h9) rfl hin rfl (by decide +kernel) rfl rfl (Nat.le_of_ble_eq_true rfl) dX2_init_9 (fun H locs hP hD hS => ?_)
  have hP : va_P G.1 vwCl [(h0, .inr (2, [.int 0, .ref q7, .null, .null, .null])), (q7, .inl (G.2.2 2, 64, .inr (.inl (fun _ => 0))))] H := hP
  have hD : va_D A [(h0, .inr (2, [.int 0, .ref q7, .null, .null, .null])), (q7, .inl (G.2.2 2, 64, .inr (.inl (fun _ => 0))))] := hD
  refine lv_aload_n hx hb dX2_init_12 rfl (lv_at hl 0 rfl) ?_
  refine lv_bipush (v := nI 64) hx hb dX2_init_13 (by decide) ?_
  refine wx_newa (atype := .long) (N' := 64) (a0 := (64, .inr (.inl (fun _ => 0)))) hx hb 2 (hw ac_long) rfl rfl (fun _ h => h) hK hP hD hS hA (fun _ => rfl) (by decide) (by decide) (Nat.le_of_ble_eq_true rfl) (Nat.le_of_ble_eq_true rfl) (Nat.le_of_ble_eq_true rfl) dX2_init_15 (fun q15 H hP hD hS => ?_)
  have hP : va_P G.1 vwCl [(h0, .inr (2, [.int 0, .ref q7, .null, .null, .null])), (q7, .inl (G.2.2 2, 64, .inr (.inl (fun _ => 0)))), (q15, .inl (G.2.2 2, 64, .inr (.inl (fun _ => 0))))] H := hP
  have hD : va_D A [(h0, .inr (2, [.int 0, .ref q7, .null, .null, .null])), (q7, .inl (G.2.2 2, 64, .inr (.inl (fun _ => 0)))), (q15, .inl (G.2.2 2, 64, .inr (.inl (fun _ => 0))))] := hD
  refine W.widen (k := 2) (n := 128) (Nat.le_of_ble_eq_true rfl) (Nat.le_of_ble_eq_true rfl) ?_
  refine va_putF (D := G.1) (ci := 2) (v := .ref q15) (ty := .array .long) (C := RX2) (T := TX2) (N := 5) hx hb hts (fun w h => List.mem_cons_of_mem _ (uw2 w h)) tyX2 tyX2_ok nmX2 hown hK.1.1 hP hD hS 0 rfl rfl 2 (by decide) (hw fl2_15) (fun _ h9 => h9) rfl hin rfl (by decide +kernel) rfl rfl (Nat.le_of_ble_eq_true rfl) dX2_init_17 (fun H locs hP hD hS => ?_)
  have hP : va_P G.1 vwCl [(h0, .inr (2, [.int 0, .ref q7, .ref q15, .null, .null])), (q7, .inl (G.2.2 2, 64, .inr (.inl (fun _ => 0)))), (q15, .inl (G.2.2 2, 64, .inr (.inl (fun _ => 0))))] H := hP
  have hD : va_D A [(h0, .inr (2, [.int 0, .ref q7, .ref q15, .null, .null])), (q7, .inl (G.2.2 2, 64, .inr (.inl (fun _ => 0)))), (q15, .inl (G.2.2 2, 64, .inr (.inl (fun _ => 0))))] := hD
  refine lv_aload_n hx hb dX2_init_20 rfl (lv_at hl 0 rfl) ?_
  refine lv_bipush (v := nI 64) hx hb dX2_init_21 (by decide) ?_
  refine wx_newa (atype := .int) (N' := 64) (a0 := (64, .inl (fun _ => nI 0))) hx hb 1 (hw ac_int) rfl rfl (fun _ h => h) hK hP hD hS hA (fun _ => rfl) (by decide) (by decide) (Nat.le_of_ble_eq_true rfl) (Nat.le_of_ble_eq_true rfl) (Nat.le_of_ble_eq_true rfl) dX2_init_23 (fun q23 H hP hD hS => ?_)
  have hP : va_P G.1 vwCl [(h0, .inr (2, [.int 0, .ref q7, .ref q15, .null, .null])), (q7, .inl (G.2.2 2, 64, .inr (.inl (fun _ => 0)))), (q15, .inl (G.2.2 2, 64, .inr (.inl (fun _ => 0)))), (q23, .inl (G.2.2 1, 64, .inl (fun _ => nI 0)))] H := hP
  have hD : va_D A [(h0, .inr (2, [.int 0, .ref q7, .ref q15, .null, .null])), (q7, .inl (G.2.2 2, 64, .inr (.inl (fun _ => 0)))), (q15, .inl (G.2.2 2, 64, .inr (.inl (fun _ => 0)))), (q23, .inl (G.2.2 1, 64, .inl (fun _ => nI 0)))] := hD
  refine W.widen (k := 3) (n := 192) (Nat.le_of_ble_eq_true rfl) (Nat.le_of_ble_eq_true rfl) ?_
  refine va_putF (D := G.1) (ci := 2) (v := .ref q23) (ty := .array .int) (C := RX2) (T := TX2) (N := 5) hx hb hts (fun w h => List.mem_cons_of_mem _ (uw2 w h)) tyX2 tyX2_ok nmX2 hown hK.1.1 hP hD hS 0 rfl rfl 3 (by decide) (hw fl2_18) (fun _ h9 => h9) rfl hin rfl (by decide +kernel) rfl rfl (Nat.le_of_ble_eq_true rfl) dX2_init_25 (fun H locs hP hD hS => ?_)
  have hP : va_P G.1 vwCl [(h0, .inr (2, [.int 0, .ref q7, .ref q15, .ref q23, .null])), (q7, .inl (G.2.2 2, 64, .inr (.inl (fun _ => 0)))), (q15, .inl (G.2.2 2, 64, .inr (.inl (fun _ => 0)))), (q23, .inl (G.2.2 1, 64, .inl (fun _ => nI 0)))] H := hP
  have hD : va_D A [(h0, .inr (2, [.int 0, .ref q7, .ref q15, .ref q23, .null])), (q7, .inl (G.2.2 2, 64, .inr (.inl (fun _ => 0)))), (q15, .inl (G.2.2 2, 64, .inr (.inl (fun _ => 0)))), (q23, .inl (G.2.2 1, 64, .inl (fun _ => nI 0)))] := hD
  refine lv_aload_n hx hb dX2_init_28 rfl (lv_at hl 0 rfl) ?_
  refine lv_bipush (v := nI 64) hx hb dX2_init_29 (by decide) ?_
  refine wx_newa (atype := .long) (N' := 64) (a0 := (64, .inr (.inl (fun _ => 0)))) hx hb 2 (hw ac_long) rfl rfl (fun _ h => h) hK hP hD hS hA (fun _ => rfl) (by decide) (by decide) (Nat.le_of_ble_eq_true rfl) (Nat.le_of_ble_eq_true rfl) (Nat.le_of_ble_eq_true rfl) dX2_init_31 (fun q31 H hP hD hS => ?_)
  have hP : va_P G.1 vwCl [(h0, .inr (2, [.int 0, .ref q7, .ref q15, .ref q23, .null])), (q7, .inl (G.2.2 2, 64, .inr (.inl (fun _ => 0)))), (q15, .inl (G.2.2 2, 64, .inr (.inl (fun _ => 0)))), (q23, .inl (G.2.2 1, 64, .inl (fun _ => nI 0))), (q31, .inl (G.2.2 2, 64, .inr (.inl (fun _ => 0))))] H := hP
  have hD : va_D A [(h0, .inr (2, [.int 0, .ref q7, .ref q15, .ref q23, .null])), (q7, .inl (G.2.2 2, 64, .inr (.inl (fun _ => 0)))), (q15, .inl (G.2.2 2, 64, .inr (.inl (fun _ => 0)))), (q23, .inl (G.2.2 1, 64, .inl (fun _ => nI 0))), (q31, .inl (G.2.2 2, 64, .inr (.inl (fun _ => 0))))] := hD
  refine W.widen (k := 4) (n := 256) (Nat.le_of_ble_eq_true rfl) (Nat.le_of_ble_eq_true rfl) ?_
  refine va_putF (D := G.1) (ci := 2) (v := .ref q31) (ty := .array .long) (C := RX2) (T := TX2) (N := 5) hx hb hts (fun w h => List.mem_cons_of_mem _ (uw2 w h)) tyX2 tyX2_ok nmX2 hown hK.1.1 hP hD hS 0 rfl rfl 4 (by decide) (hw fl2_22) (fun _ h9 => h9) rfl hin rfl (by decide +kernel) rfl rfl (Nat.le_of_ble_eq_true rfl) dX2_init_33 (fun H locs hP hD hS => ?_)
  have hP : va_P G.1 vwCl [(h0, .inr (2, [.int 0, .ref q7, .ref q15, .ref q23, .ref q31])), (q7, .inl (G.2.2 2, 64, .inr (.inl (fun _ => 0)))), (q15, .inl (G.2.2 2, 64, .inr (.inl (fun _ => 0)))), (q23, .inl (G.2.2 1, 64, .inl (fun _ => nI 0))), (q31, .inl (G.2.2 2, 64, .inr (.inl (fun _ => 0))))] H := hP
  have hD : va_D A [(h0, .inr (2, [.int 0, .ref q7, .ref q15, .ref q23, .ref q31])), (q7, .inl (G.2.2 2, 64, .inr (.inl (fun _ => 0)))), (q15, .inl (G.2.2 2, 64, .inr (.inl (fun _ => 0)))), (q23, .inl (G.2.2 1, 64, .inl (fun _ => nI 0))), (q31, .inl (G.2.2 2, 64, .inr (.inl (fun _ => 0))))] := hD
  exact W.vret hx hb hr (fun t ht hW => ⟨⟨[q7, q15, q23, q31], rfl, trivial, by rw [ht]; exact hP, hD⟩, hS.F ht⟩) hS.2.2 dX2_init_36 hlocks
def wX1 (G : WG) (h0 : Nat) (u : List Nat) : va_W := [(h0, .inr (1, [.ref (u.getD 0 0), .ref (u.getD 4 0)])), (u.getD 0 0, .inr (3, [.int 0, .int 0, .int 0, .ref (u.getD 1 0), .ref (u.getD 2 0), .ref (u.getD 3 0)])), (u.getD 1 0, .inl (G.2.2 1, 64, .inl (fun _ => nI 0))), (u.getD 2 0, .inl (G.2.2 1, 64, .inl (fun _ => nI 0))), (u.getD 3 0, .inl (G.2.2 0, 64, .inl (fun _ => nI 0))), (u.getD 4 0, .inl (G.2.2 0, 10, .inl (fun _ => nI 0)))]
def bX1 : va_E := .inr (1, [.null, .null])
set_option maxHeartbeats 4000000 in
set_option maxRecDepth 100000 in
theorem c_X1 (l : Launch) (G : WG) (h0 sz : Nat) : Met l yX1_init (wsM kX1_init) ({ frames := 2, cells := 5, slots := 208, locals := 32 }) (va_Pc [.ref h0] (fun U => U.heap.size = sz ∧ va_P G.1 vwCl [(h0, bX1)] U.heap ∧ kW G U ∧ va_D (fun _ => True) [(h0, bX1)])) (va_Qv (fun _ : List Nat => True) (fun u t => va_P G.1 vwCl (wX1 G h0 u) t.heap ∧ va_D (va_A [(h0, bX1)] sz) (wX1 G h0 u)) (va_A [(h0, bX1)] sz)) 5 208 (va_A [(h0, bX1)] sz) := by
  refine Met.ofW (cc := cX1_init) (maxL := 1) (ret := none) (by decide) rfl ?_
  intro p e s m args below meth c s₁ B hml hv
  obtain ⟨rfl, hsz, hP, hK, hD0⟩ := hv
  have hx := B.exec
  have hb := B.bytes
  have hr := B.returns
  have hts := atoms_spec (ws := wsM kX1_init) B.pre
  have hw : ∀ {w : Cond}, w ∈ wT → w.before _ s = true := fun h => hts _ (List.mem_cons_of_mem _ h)
  have hown : s.vm.findClass RX1 = some m.cls := findClass_of_methodNamed B.named
  have hlocks := B.notSynchronized
  have hin : meth.name = "<init>" := (name_of_methodNamed B.named B.method).1
  subst hsz
  have hD := hD0.self (sz := s.heap.size)
  generalize hAe : va_A [(h0, bX1)] s.heap.size = A at hD ⊢
  have hA : ∀ q : Nat, s.heap.size ≤ q → A q := fun q h => by rw [← hAe]; exact Or.inr h
  have hS : va_S A s.heap s.heap [] := va_S.rf
  have hP : va_P G.1 vwCl [(h0, .inr (1, [.null, .null]))] s.heap := hP
  have hD : va_D A [(h0, .inr (1, [.null, .null]))] := hD
  have hl := lv_entry ([.ref h0]) (n := 1) (Nat.le_of_ble_eq_true rfl)
  rw [lg_entry_eq]
  generalize (lg_sl ([.ref h0]) ++ List.replicate (1 - (lg_sl ([.ref h0])).length) Slot.unset).toArray = ls at hl ⊢
  have hl : lv_has ls 1 [(0, .ref h0)] := hl
  refine lv_aload_n hx hb dX1_init_0 rfl (lv_at hl 0 rfl) ?_
  refine W.objInit hx hb hown (hw mo1) (hw moI) (hw moC) rfl (by rw [hml]; exact hl.1) rfl dX1_init_1 (Nat.le_of_ble_eq_true rfl) (Nat.le_of_ble_eq_true rfl) ?_
  refine W.eq (g2 := F0 m 4 ls []) rfl ?_
  refine lv_aload_n hx hb dX1_init_4 rfl (lv_at hl 0 rfl) ?_
  refine va_new (ci := 3) (fs := [.int 0, .int 0, .int 0, .null, .null, .null]) (C := RX3) (T := TX3) (N := 6) hx hb hts (fun w h => List.mem_cons_of_mem _ (uw3 w h)) tyX3 tyX3_ok hown (hw clX1_7) (hw iaX3) (hw in3) hK.1.1 hP hD hS hA rfl (fun j hj => by rcases (show j = 0 ∨ j = 1 ∨ j = 2 ∨ j = 3 ∨ j = 4 ∨ j = 5 by omega) with rfl | rfl | rfl | rfl | rfl | rfl <;> rfl) (Nat.le_of_ble_eq_true rfl) (Nat.le_of_ble_eq_true rfl) dX1_init_5 (fun q5 H hP hD hS => ?_)
  have hP : va_P G.1 vwCl ([(h0, .inr (1, [.null, .null]))] ++ [(q5, .inr (3, [.int 0, .int 0, .int 0, .null, .null, .null]))]) H := hP
  have hD : va_D A ([(h0, .inr (1, [.null, .null]))] ++ [(q5, .inr (3, [.int 0, .int 0, .int 0, .null, .null, .null]))]) := hD
  refine W.widen (k := 1) (n := 6) (Nat.le_of_ble_eq_true rfl) (Nat.le_of_ble_eq_true rfl) ?_
  refine lv_dup hx hb dX1_init_8 rfl ?_
  have hPc := wx_P hP
  have hDc := wx_D hD
  have hFc := wx_F hD hS hA
  refine va_callv (va_runIN (As := []) (rest := [.ref q5, .ref h0]) (host := RX5) ⟨hx, hb, hml, hown, hts⟩ (c_X3 l G q5 H.size) ⟨va_cnB 0 hts (wsM_good (k := kX1_init) (k' := kX3_init) co3) rfl rfl rfl hK.nX1_9 (hw in3) ⟨by decide, by decide, by decide +kernel⟩ ⟨Nat.le_of_ble_eq_true rfl, Nat.le_of_ble_eq_true rfl⟩, rfl, hw im3⟩ ⟨kx_blind, fun U hU hW => ⟨rfl, by rw [hU], by rw [hU]; exact hPc, hK.warm hW, hDc⟩⟩ rfl rfl hl.1 rfl (lv_room (Nat.le_of_ble_eq_true rfl)) dX1_init_9 ⟨Nat.le_of_ble_eq_true rfl, Nat.le_of_ble_eq_true rfl⟩) hS (fun q _ h => hFc q h) hFc (fun v t H1 locs ht hvm hw0 hB hz1 hk1 hS => ?_)
  obtain ⟨hP1, hD1⟩ := hB
  rw [ht] at hP1
  obtain ⟨hP, hD⟩ := wx_join hP hD hk1 hFc hP1 hD1
  generalize H1 = H at hP hS ⊢
  have hP : va_P G.1 vwCl [(h0, .inr (1, [.null, .null])), (q5, .inr (3, [.int 0, .int 0, .int 0, .ref (v.getD 0 0), .ref (v.getD 1 0), .ref (v.getD 2 0)])), ((v.getD 0 0), .inl (G.2.2 1, 64, .inl (fun _ => nI 0))), ((v.getD 1 0), .inl (G.2.2 1, 64, .inl (fun _ => nI 0))), ((v.getD 2 0), .inl (G.2.2 0, 64, .inl (fun _ => nI 0)))] H := hP
  have hD : va_D A [(h0, .inr (1, [.null, .null])), (q5, .inr (3, [.int 0, .int 0, .int 0, .ref (v.getD 0 0), .ref (v.getD 1 0), .ref (v.getD 2 0)])), ((v.getD 0 0), .inl (G.2.2 1, 64, .inl (fun _ => nI 0))), ((v.getD 1 0), .inl (G.2.2 1, 64, .inl (fun _ => nI 0))), ((v.getD 2 0), .inl (G.2.2 0, 64, .inl (fun _ => nI 0)))] := hD
  refine W.widen (k := 4) (n := 198) (Nat.le_of_ble_eq_true rfl) (Nat.le_of_ble_eq_true rfl) ?_
  refine va_putF (D := G.1) (ci := 1) (v := .ref q5) (ty := .object "WaveBuoys$Sheet") (C := RX1) (T := TX1) (N := 2) hx hb hts (fun w h => List.mem_cons_of_mem _ (uw1 w h)) tyX1 tyX1_ok nmX1 hown hK.1.1 hP hD hS 0 rfl rfl 0 (by decide) (hw fl1_10) (fun _ h9 => h9) rfl hin rfl (by decide +kernel) rfl rfl (Nat.le_of_ble_eq_true rfl) dX1_init_12 (fun H locs hP hD hS => ?_)
  have hP : va_P G.1 vwCl [(h0, .inr (1, [.ref q5, .null])), (q5, .inr (3, [.int 0, .int 0, .int 0, .ref (v.getD 0 0), .ref (v.getD 1 0), .ref (v.getD 2 0)])), ((v.getD 0 0), .inl (G.2.2 1, 64, .inl (fun _ => nI 0))), ((v.getD 1 0), .inl (G.2.2 1, 64, .inl (fun _ => nI 0))), ((v.getD 2 0), .inl (G.2.2 0, 64, .inl (fun _ => nI 0)))] H := hP
  have hD : va_D A [(h0, .inr (1, [.ref q5, .null])), (q5, .inr (3, [.int 0, .int 0, .int 0, .ref (v.getD 0 0), .ref (v.getD 1 0), .ref (v.getD 2 0)])), ((v.getD 0 0), .inl (G.2.2 1, 64, .inl (fun _ => nI 0))), ((v.getD 1 0), .inl (G.2.2 1, 64, .inl (fun _ => nI 0))), ((v.getD 2 0), .inl (G.2.2 0, 64, .inl (fun _ => nI 0)))] := hD
  refine lv_aload_n hx hb dX1_init_15 rfl (lv_at hl 0 rfl) ?_
  refine lv_bipush (v := nI 10) hx hb dX1_init_16 (by decide) ?_
  refine wx_newa (atype := .boolean) (N' := 10) (a0 := (10, .inl (fun _ => nI 0))) hx hb 0 (hw ac_boolean) rfl rfl (fun _ h => h) hK hP hD hS hA (fun _ => rfl) (by decide) (by decide) (Nat.le_of_ble_eq_true rfl) (Nat.le_of_ble_eq_true rfl) (Nat.le_of_ble_eq_true rfl) dX1_init_18 (fun q18 H hP hD hS => ?_)
  have hP : va_P G.1 vwCl [(h0, .inr (1, [.ref q5, .null])), (q5, .inr (3, [.int 0, .int 0, .int 0, .ref (v.getD 0 0), .ref (v.getD 1 0), .ref (v.getD 2 0)])), ((v.getD 0 0), .inl (G.2.2 1, 64, .inl (fun _ => nI 0))), ((v.getD 1 0), .inl (G.2.2 1, 64, .inl (fun _ => nI 0))), ((v.getD 2 0), .inl (G.2.2 0, 64, .inl (fun _ => nI 0))), (q18, .inl (G.2.2 0, 10, .inl (fun _ => nI 0)))] H := hP
  have hD : va_D A [(h0, .inr (1, [.ref q5, .null])), (q5, .inr (3, [.int 0, .int 0, .int 0, .ref (v.getD 0 0), .ref (v.getD 1 0), .ref (v.getD 2 0)])), ((v.getD 0 0), .inl (G.2.2 1, 64, .inl (fun _ => nI 0))), ((v.getD 1 0), .inl (G.2.2 1, 64, .inl (fun _ => nI 0))), ((v.getD 2 0), .inl (G.2.2 0, 64, .inl (fun _ => nI 0))), (q18, .inl (G.2.2 0, 10, .inl (fun _ => nI 0)))] := hD
  refine W.widen (k := 5) (n := 208) (Nat.le_of_ble_eq_true rfl) (Nat.le_of_ble_eq_true rfl) ?_
  refine va_putF (D := G.1) (ci := 1) (v := .ref q18) (ty := .array .boolean) (C := RX1) (T := TX1) (N := 2) hx hb hts (fun w h => List.mem_cons_of_mem _ (uw1 w h)) tyX1 tyX1_ok nmX1 hown hK.1.1 hP hD hS 0 rfl rfl 1 (by decide) (hw fl1_16) (fun _ h9 => h9) rfl hin rfl (by decide +kernel) rfl rfl (Nat.le_of_ble_eq_true rfl) dX1_init_20 (fun H locs hP hD hS => ?_)
  have hP : va_P G.1 vwCl [(h0, .inr (1, [.ref q5, .ref q18])), (q5, .inr (3, [.int 0, .int 0, .int 0, .ref (v.getD 0 0), .ref (v.getD 1 0), .ref (v.getD 2 0)])), ((v.getD 0 0), .inl (G.2.2 1, 64, .inl (fun _ => nI 0))), ((v.getD 1 0), .inl (G.2.2 1, 64, .inl (fun _ => nI 0))), ((v.getD 2 0), .inl (G.2.2 0, 64, .inl (fun _ => nI 0))), (q18, .inl (G.2.2 0, 10, .inl (fun _ => nI 0)))] H := hP
  have hD : va_D A [(h0, .inr (1, [.ref q5, .ref q18])), (q5, .inr (3, [.int 0, .int 0, .int 0, .ref (v.getD 0 0), .ref (v.getD 1 0), .ref (v.getD 2 0)])), ((v.getD 0 0), .inl (G.2.2 1, 64, .inl (fun _ => nI 0))), ((v.getD 1 0), .inl (G.2.2 1, 64, .inl (fun _ => nI 0))), ((v.getD 2 0), .inl (G.2.2 0, 64, .inl (fun _ => nI 0))), (q18, .inl (G.2.2 0, 10, .inl (fun _ => nI 0)))] := hD
  exact W.vret hx hb hr (fun t ht hW => ⟨⟨[q5, (v.getD 0 0), (v.getD 1 0), (v.getD 2 0), q18], rfl, trivial, by rw [ht]; exact hP, hD⟩, hS.F ht⟩) hS.2.2 dX1_init_23 hlocks
end
section
/-! MAKING: WaveBuoys() -/
def bX5 : va_E := .inr (5, [.null, .null, .null, .null, .null])
abbrev arS (G : WG) (n : Nat) (k : Nat) (f : Nat → Option Nat) : va_E := .inl (G.2.2 k, n, .inr (.inr (.inr (.inr f))))
/-- the first i SHEETS lie in R, four cells each -/
def shOk (G : WG) (R : va_W) (f : Nat → Option Nat) (i : Nat) : Prop := ∀ j, j < i → ∃ a u, f j = some a ∧ ∀ k, k < 4 → R[4 * j + k]? = (wX3 G a u)[k]?
def rwOk (G : WG) (R : va_W) (f : Nat → Option Nat) (i : Nat) : Prop := ∀ j, j < i → ∃ a u, f j = some a ∧ ∀ k, k < 5 → R[32 + 5 * j + k]? = (wX2 G a u)[k]?
theorem shOk.app {G : WG} {R y : va_W} {f : Nat → Option Nat} {i : Nat} (h : shOk G R f i) (hl : 4 * i ≤ R.length) : shOk G (R ++ y) f i := fun j hj => by
  obtain ⟨a, u, h1, h2⟩ := h j hj
  exact ⟨a, u, h1, fun k hk => by rw [List.getElem?_append_left (by omega)]; exact h2 k hk⟩
theorem rwOk.app {G : WG} {R y : va_W} {f : Nat → Option Nat} {i : Nat} (h : rwOk G R f i) (hl : 32 + 5 * i ≤ R.length) : rwOk G (R ++ y) f i := fun j hj => by
  obtain ⟨a, u, h1, h2⟩ := h j hj
  exact ⟨a, u, h1, fun k hk => by rw [List.getElem?_append_left (by omega)]; exact h2 k hk⟩
theorem shOk.push {G : WG} {R : va_W} {f : Nat → Option Nat} {i a : Nat} {u : List Nat} (h : shOk G R f i) (hl : R.length = 4 * i) : shOk G (R ++ wX3 G a u) (va_up f i (some a)) (i + 1) := by
  intro j hj
  by_cases hji : j = i
  · subst hji
    refine ⟨a, u, by simp [va_up], fun k hk => ?_⟩
    rw [List.getElem?_append_right (by omega), hl, show 4 * j + k - 4 * j = k by omega]
  · obtain ⟨b, v, h1, h2⟩ := h j (by omega)
    refine ⟨b, v, by simp [va_up, hji, h1], fun k hk => ?_⟩
    rw [List.getElem?_append_left (by omega)]
    exact h2 k hk
theorem rwOk.push {G : WG} {R : va_W} {f : Nat → Option Nat} {i a : Nat} {u : List Nat} (h : rwOk G R f i) (hl : R.length = 32 + 5 * i) : rwOk G (R ++ wX2 G a u) (va_up f i (some a)) (i + 1) := by
  intro j hj
  by_cases hji : j = i
  · subst hji
    refine ⟨a, u, by simp [va_up], fun k hk => ?_⟩
    rw [List.getElem?_append_right (by omega), hl, show 32 + 5 * j + k - (32 + 5 * j) = k by omega]
  · obtain ⟨b, v, h1, h2⟩ := h j (by omega)
    refine ⟨b, v, by simp [va_up, hji, h1], fun k hk => ?_⟩
    rw [List.getElem?_append_left (by omega)]
    exact h2 k hk
/-- what WaveBuoys() leaves -/
def rawX5 (G : WG) (h0 : Nat) (L : va_W) : Prop := ∃ (qa qb : Nat) (f f2 : Nat → Option Nat) (R : va_W) (qp : Nat) (u : List Nat) (qw qm : Nat), R.length = 62 ∧ shOk G R f 8 ∧ rwOk G R f2 6 ∧
  L = ((([(h0, .inr (5, [.ref qa, .ref qb, .ref qp, .ref qw, .ref qm])), (qa, arS G 8 3 f), (qb, arS G 6 4 f2)] ++ R) ++ wX1 G qp u) ++ wX4 G qw []) ++ wX0 G qm []
set_option maxHeartbeats 8000000 in
set_option maxRecDepth 100000 in
theorem c_X5 (l : Launch) (G : WG) (h0 sz : Nat) : Met l yX5_init (wsM kX5_init) ({ frames := 3, cells := 72, slots := 3391, locals := 52 }) (va_Pc [.ref h0] (fun U => U.heap.size = sz ∧ va_P G.1 vwCl [(h0, bX5)] U.heap ∧ kW G U ∧ va_D (fun _ => True) [(h0, bX5)])) (va_Qv (fun L : va_W => rawX5 G h0 L) (fun L t => va_P G.1 vwCl L t.heap ∧ va_D (va_A [(h0, bX5)] sz) L) (va_A [(h0, bX5)] sz)) 72 3391 (va_A [(h0, bX5)] sz) := by
  refine Met.ofW (cc := cX5_init) (maxL := 2) (ret := none) (by decide) rfl ?_
  intro p e s m args below meth c s₁ B hml hv
  obtain ⟨rfl, hsz, hP, hK, hD0⟩ := hv
  have hx := B.exec
  have hb := B.bytes
  have hr := B.returns
  have hts := atoms_spec (ws := wsM kX5_init) B.pre
  have hw : ∀ {w : Cond}, w ∈ wT → w.before _ s = true := fun h => hts _ (List.mem_cons_of_mem _ h)
  have hown : s.vm.findClass RX5 = some m.cls := findClass_of_methodNamed B.named
  have hlocks := B.notSynchronized
  have hin : meth.name = "<init>" := (name_of_methodNamed B.named B.method).1
  subst hsz
  have hD := hD0.self (sz := s.heap.size)
  generalize hAe : va_A [(h0, bX5)] s.heap.size = A at hD ⊢
  have hA : ∀ q : Nat, s.heap.size ≤ q → A q := fun q h => by rw [← hAe]; exact Or.inr h
  have hS : va_S A s.heap s.heap [] := va_S.rf
  have hP : va_P G.1 vwCl [(h0, .inr (5, [.null, .null, .null, .null, .null]))] s.heap := hP
  have hD : va_D A [(h0, .inr (5, [.null, .null, .null, .null, .null]))] := hD
  have hl := lv_entry ([.ref h0]) (n := 2) (Nat.le_of_ble_eq_true rfl)
  rw [lg_entry_eq]
  generalize (lg_sl ([.ref h0]) ++ List.replicate (2 - (lg_sl ([.ref h0])).length) Slot.unset).toArray = ls at hl ⊢
  have hl : lv_has ls 2 [(0, .ref h0)] := hl
  -- behind both loops
  have fin : ∀ (qa qb : Nat) (f f2 : Nat → Option Nat) (R : va_W) (H : Heap) (locs : List Loc) (ls : Array Slot), R.length = 62 → shOk G R f 8 → rwOk G R f2 6 → va_P G.1 vwCl ([(h0, .inr (5, [.ref qa, .ref qb, .null, .null, .null])), (qa, arS G 8 3 f), (qb, arS G 6 4 f2)] ++ R) H → va_D A ([(h0, .inr (5, [.ref qa, .ref qb, .null, .null, .null])), (qa, arS G 8 3 f), (qb, arS G 6 4 f2)] ++ R) → va_S A s.heap H locs → lv_has ls 2 [(0, .ref h0)] → W p l e (headSpec (wsM kX5_init) { frames := 3, cells := 72, slots := 3391, locals := 52 }).room s m #[Value.ref h0] below meth c H locs 64 3164 (MQ below (va_Qv (fun L : va_W => rawX5 G h0 L) (fun L t => va_P G.1 vwCl L t.heap ∧ va_D A L) A) #[Value.ref h0] s 72 3391 A) (F0 m 76 ls []) := by
    intro qa qb f f2 R H locs ls hR hsh hrw hP hD hS hl
    refine lv_aload_n hx hb dX5_init_76 rfl (lv_at hl 0 rfl) ?_
    refine va_new (ci := 1) (fs := [.null, .null]) (C := RX1) (T := TX1) (N := 2) hx hb hts (fun w h => List.mem_cons_of_mem _ (uw1 w h)) tyX1 tyX1_ok hown (hw clX5_23) (hw iaX1) (hw in1) hK.1.1 hP hD hS hA rfl (fun j hj => by rcases (show j = 0 ∨ j = 1 by omega) with rfl | rfl <;> rfl) (Nat.le_of_ble_eq_true rfl) (Nat.le_of_ble_eq_true rfl) dX5_init_77 (fun qp H hP hD hS => ?_)
    refine W.widen (k := 65) (n := 3166) (Nat.le_of_ble_eq_true rfl) (Nat.le_of_ble_eq_true rfl) ?_
    refine lv_dup hx hb dX5_init_80 rfl ?_
    have hPc := wx_P hP
    have hDc := wx_D hD
    have hFc := wx_F hD hS hA
    refine va_callv (va_runIN (As := []) (rest := [.ref qp, .ref h0]) (host := RX5) ⟨hx, hb, hml, hown, hts⟩ (c_X1 l G qp H.size) ⟨va_cnB 0 hts (wsM_good (k := kX5_init) (k' := kX1_init) co1) rfl rfl rfl hK.nX5_25 (hw in1) ⟨by decide, by decide, by decide +kernel⟩ ⟨Nat.le_of_ble_eq_true rfl, Nat.le_of_ble_eq_true rfl⟩, rfl, hw im1⟩ ⟨kx_blind, fun U hU hW => ⟨rfl, by rw [hU], by rw [hU]; exact hPc, hK.warm hW, hDc⟩⟩ rfl rfl hl.1 rfl (lv_room (Nat.le_of_ble_eq_true rfl)) dX5_init_81 ⟨Nat.le_of_ble_eq_true rfl, Nat.le_of_ble_eq_true rfl⟩) hS (fun q _ h => hFc q h) hFc (fun u t H1 locs ht hvm hw0 hB hz1 hk1 hS => ?_)
    obtain ⟨hP1, hD1⟩ := hB
    rw [ht] at hP1
    obtain ⟨hP, hD⟩ := wx_join hP hD hk1 hFc hP1 hD1
    generalize H1 = H at hP hS ⊢
    refine W.widen (k := 70) (n := 3374) (Nat.le_of_ble_eq_true rfl) (Nat.le_of_ble_eq_true rfl) ?_
    refine va_putF (D := G.1) (ci := 5) (v := .ref qp) (ty := .object "WaveBuoys$Packs") (C := RX5) (T := TX5) (N := 5) hx hb hts (fun w h => List.mem_cons_of_mem _ (uw5 w h)) tyX5 tyX5_ok nmX5 hown hK.1.1 hP hD hS 0 rfl rfl 2 (by decide) (hw fl5_26) (fun _ h9 => h9) rfl hin rfl (by decide +kernel) rfl rfl (Nat.le_of_ble_eq_true rfl) dX5_init_84 (fun H locs hP hD hS => ?_)
    have hP : va_P G.1 vwCl (([(h0, .inr (5, [.ref qa, .ref qb, .ref qp, .null, .null])), (qa, arS G 8 3 f), (qb, arS G 6 4 f2)] ++ R) ++ wX1 G qp u) H := hP
    have hD : va_D A (([(h0, .inr (5, [.ref qa, .ref qb, .ref qp, .null, .null])), (qa, arS G 8 3 f), (qb, arS G 6 4 f2)] ++ R) ++ wX1 G qp u) := hD
    refine lv_aload_n hx hb dX5_init_87 rfl (lv_at hl 0 rfl) ?_
    refine va_new (ci := 4) (fs := [.int 0, .int 0, .int 0, .int 0, .int 0, .int 0, .int 0]) (C := RX4) (T := TX4) (N := 7) hx hb hts (fun w h => List.mem_cons_of_mem _ (uw4 w h)) tyX4 tyX4_ok hown (hw clX5_30) (hw iaX4) (hw in4) hK.1.1 hP hD hS hA rfl (fun j hj => by rcases (show j = 0 ∨ j = 1 ∨ j = 2 ∨ j = 3 ∨ j = 4 ∨ j = 5 ∨ j = 6 by omega) with rfl | rfl | rfl | rfl | rfl | rfl | rfl <;> rfl) (Nat.le_of_ble_eq_true rfl) (Nat.le_of_ble_eq_true rfl) dX5_init_88 (fun qw H hP hD hS => ?_)
    refine W.widen (k := 71) (n := 3381) (Nat.le_of_ble_eq_true rfl) (Nat.le_of_ble_eq_true rfl) ?_
    refine lv_dup hx hb dX5_init_91 rfl ?_
    have hPc := wx_P hP
    have hDc := wx_D hD
    have hFc := wx_F hD hS hA
    refine va_callv (va_runIN (As := []) (rest := [.ref qw, .ref h0]) (host := RX5) ⟨hx, hb, hml, hown, hts⟩ (c_X4 l G qw H.size) ⟨va_cnB 0 hts (wsM_good (k := kX5_init) (k' := kX4_init) co4) rfl rfl rfl hK.nX5_32 (hw in4) ⟨by decide, by decide, by decide +kernel⟩ ⟨Nat.le_of_ble_eq_true rfl, Nat.le_of_ble_eq_true rfl⟩, rfl, hw im4⟩ ⟨kx_blind, fun U hU hW => ⟨rfl, by rw [hU], by rw [hU]; exact hPc, hK.warm hW, hDc⟩⟩ rfl rfl hl.1 rfl (lv_room (Nat.le_of_ble_eq_true rfl)) dX5_init_92 ⟨Nat.le_of_ble_eq_true rfl, Nat.le_of_ble_eq_true rfl⟩) hS (fun q _ h => hFc q h) hFc (fun u4 t H1 locs ht hvm hw0 hB hz1 hk1 hS => ?_)
    obtain ⟨hP1, hD1⟩ := hB
    rw [ht] at hP1
    obtain ⟨hP, hD⟩ := wx_join hP hD hk1 hFc hP1 hD1
    generalize H1 = H at hP hS ⊢
    refine W.widen (k := 71) (n := 3381) (Nat.le_of_ble_eq_true rfl) (Nat.le_of_ble_eq_true rfl) ?_
    refine va_putF (D := G.1) (ci := 5) (v := .ref qw) (ty := .object "WaveBuoys$Warning") (C := RX5) (T := TX5) (N := 5) hx hb hts (fun w h => List.mem_cons_of_mem _ (uw5 w h)) tyX5 tyX5_ok nmX5 hown hK.1.1 hP hD hS 0 rfl rfl 3 (by decide) (hw fl5_33) (fun _ h9 => h9) rfl hin rfl (by decide +kernel) rfl rfl (Nat.le_of_ble_eq_true rfl) dX5_init_95 (fun H locs hP hD hS => ?_)
    have hP : va_P G.1 vwCl ((([(h0, .inr (5, [.ref qa, .ref qb, .ref qp, .ref qw, .null])), (qa, arS G 8 3 f), (qb, arS G 6 4 f2)] ++ R) ++ wX1 G qp u) ++ wX4 G qw []) H := hP
    have hD : va_D A ((([(h0, .inr (5, [.ref qa, .ref qb, .ref qp, .ref qw, .null])), (qa, arS G 8 3 f), (qb, arS G 6 4 f2)] ++ R) ++ wX1 G qp u) ++ wX4 G qw []) := hD
    refine lv_aload_n hx hb dX5_init_98 rfl (lv_at hl 0 rfl) ?_
    refine va_new (ci := 0) (fs := [.long 0, .long 0, .long 0, .int 0, .int 0, .int 0, .int 0, .int 0, .int 0, .int 0]) (C := RX0) (T := TX0) (N := 10) hx hb hts (fun w h => List.mem_cons_of_mem _ (uw0 w h)) tyX0 tyX0_ok hown (hw clX5_37) (hw iaX0) (hw in0) hK.1.1 hP hD hS hA rfl (fun j hj => by rcases (show j = 0 ∨ j = 1 ∨ j = 2 ∨ j = 3 ∨ j = 4 ∨ j = 5 ∨ j = 6 ∨ j = 7 ∨ j = 8 ∨ j = 9 by omega) with rfl | rfl | rfl | rfl | rfl | rfl | rfl | rfl | rfl | rfl <;> rfl) (Nat.le_of_ble_eq_true rfl) (Nat.le_of_ble_eq_true rfl) dX5_init_99 (fun qm H hP hD hS => ?_)
    refine W.widen (k := 72) (n := 3391) (Nat.le_of_ble_eq_true rfl) (Nat.le_of_ble_eq_true rfl) ?_
    refine lv_dup hx hb dX5_init_102 rfl ?_
    have hPc := wx_P hP
    have hDc := wx_D hD
    have hFc := wx_F hD hS hA
    refine va_callv (va_runIN (As := []) (rest := [.ref qm, .ref h0]) (host := RX5) ⟨hx, hb, hml, hown, hts⟩ (c_X0 l G qm H.size) ⟨va_cnB 0 hts (wsM_good (k := kX5_init) (k' := kX0_init) co0) rfl rfl rfl hK.nX5_39 (hw in0) ⟨by decide, by decide, by decide +kernel⟩ ⟨Nat.le_of_ble_eq_true rfl, Nat.le_of_ble_eq_true rfl⟩, rfl, hw im0⟩ ⟨kx_blind, fun U hU hW => ⟨rfl, by rw [hU], by rw [hU]; exact hPc, hK.warm hW, hDc⟩⟩ rfl rfl hl.1 rfl (lv_room (Nat.le_of_ble_eq_true rfl)) dX5_init_103 ⟨Nat.le_of_ble_eq_true rfl, Nat.le_of_ble_eq_true rfl⟩) hS (fun q _ h => hFc q h) hFc (fun u0 t H1 locs ht hvm hw0 hB hz1 hk1 hS => ?_)
    obtain ⟨hP1, hD1⟩ := hB
    rw [ht] at hP1
    obtain ⟨hP, hD⟩ := wx_join hP hD hk1 hFc hP1 hD1
    generalize H1 = H at hP hS ⊢
    refine W.widen (k := 72) (n := 3391) (Nat.le_of_ble_eq_true rfl) (Nat.le_of_ble_eq_true rfl) ?_
    refine va_putF (D := G.1) (ci := 5) (v := .ref qm) (ty := .object "WaveBuoys$Mooring") (C := RX5) (T := TX5) (N := 5) hx hb hts (fun w h => List.mem_cons_of_mem _ (uw5 w h)) tyX5 tyX5_ok nmX5 hown hK.1.1 hP hD hS 0 rfl rfl 4 (by decide) (hw fl5_40) (fun _ h9 => h9) rfl hin rfl (by decide +kernel) rfl rfl (Nat.le_of_ble_eq_true rfl) dX5_init_106 (fun H locs hP hD hS => ?_)
    have hP : va_P G.1 vwCl (((([(h0, .inr (5, [.ref qa, .ref qb, .ref qp, .ref qw, .ref qm])), (qa, arS G 8 3 f), (qb, arS G 6 4 f2)] ++ R) ++ wX1 G qp u) ++ wX4 G qw []) ++ wX0 G qm []) H := hP
    have hD : va_D A (((([(h0, .inr (5, [.ref qa, .ref qb, .ref qp, .ref qw, .ref qm])), (qa, arS G 8 3 f), (qb, arS G 6 4 f2)] ++ R) ++ wX1 G qp u) ++ wX4 G qw []) ++ wX0 G qm []) := hD
    exact W.vret hx hb hr (fun t ht hW => ⟨⟨_, rfl, ⟨qa, qb, f, f2, R, qp, u, qw, qm, hR, hsh, hrw, rfl⟩, by rw [ht]; exact hP, hD⟩, hS.F ht⟩) hS.2.2 dX5_init_109 hlocks
  -- the ROWS
  have loop2 : ∀ mm i, i + mm = 6 → ∀ (qa qb : Nat) (f f2 : Nat → Option Nat) (R : va_W) (H : Heap) (locs : List Loc) (ls : Array Slot), R.length = 32 + 5 * i → shOk G R f 8 → rwOk G R f2 i → va_P G.1 vwCl ([(h0, .inr (5, [.ref qa, .ref qb, .null, .null, .null])), (qa, arS G 8 3 f), (qb, arS G 6 4 f2)] ++ R) H → va_D A ([(h0, .inr (5, [.ref qa, .ref qb, .null, .null, .null])), (qa, arS G 8 3 f), (qb, arS G 6 4 f2)] ++ R) → va_S A s.heap H locs → lv_has ls 2 [(0, .ref h0), (1, .int (nI i))] → W p l e (headSpec (wsM kX5_init) { frames := 3, cells := 72, slots := 3391, locals := 52 }).room s m #[Value.ref h0] below meth c H locs (34 + 5 * i) (1598 + 261 * i) (MQ below (va_Qv (fun L : va_W => rawX5 G h0 L) (fun L t => va_P G.1 vwCl L t.heap ∧ va_D A L) A) #[Value.ref h0] s 72 3391 A) (F0 m 51 ls []) := by
    intro mm
    induction mm with
    | zero =>
      intro i hi qa qb f f2 R H locs ls hR hsh hrw hP hD hS hl
      obtain rfl : i = 6 := by omega
      refine lv_iload_n hx hb dX5_init_51 rfl (lv_at hl 1 rfl) ?_
      refine lv_bipush (v := nI 6) hx hb dX5_init_52 (by decide) ?_
      refine lv_icmp_ge (tgt := 76) hx hb dX5_init_54 (by decide) (fun _ => ?_) (fun q => absurd (by decide) q)
      exact fin qa qb f f2 R H locs ls hR hsh hrw hP hD hS (lv_sub hl [0] rfl)
    | succ mm ih =>
      intro i hi qa qb f f2 R H locs ls hR hsh hrw hP hD hS hl
      refine lv_iload_n hx hb dX5_init_51 rfl (lv_at hl 1 rfl) ?_
      refine lv_bipush (v := nI 6) hx hb dX5_init_52 (by decide) ?_
      refine lv_icmp_ge (tgt := 76) hx hb dX5_init_54 (by decide) (fun q => absurd q (by
        rw [Int32.le_iff_toInt_le, nI_toInt (by omega), nI_toInt (by omega)]
        omega)) (fun _ => ?_)
      refine lv_aload_n hx hb dX5_init_57 rfl (lv_at hl 0 rfl) ?_
      refine va_get (D := G.1) (ci := 5) (v := .ref qb) (C := RX5) (T := TX5) (N := 5) hx hb hts (fun w h => List.mem_cons_of_mem _ (uw5 w h)) hown hK.1.1 hP 0 rfl rfl 1 (by decide) (hw fl5_18) (fun _ h9 => h9) rfl dX5_init_58 ?_
      refine lv_iload_n hx hb dX5_init_61 rfl (lv_at hl 1 rfl) ?_
      refine va_new (ci := 2) (fs := [.int 0, .null, .null, .null, .null]) (C := RX2) (T := TX2) (N := 5) hx hb hts (fun w h => List.mem_cons_of_mem _ (uw2 w h)) tyX2 tyX2_ok hown (hw clX5_16) (hw iaX2) (hw in2) hK.1.1 hP hD hS hA rfl (fun j hj => by rcases (show j = 0 ∨ j = 1 ∨ j = 2 ∨ j = 3 ∨ j = 4 by omega) with rfl | rfl | rfl | rfl | rfl <;> rfl) (by show 34 + 5 * i + 1 ≤ 72; omega) (by show 1598 + 261 * i + 5 ≤ 3391; omega) dX5_init_62 (fun qs H hP hD hS => ?_)
      refine lv_dup hx hb dX5_init_65 rfl ?_
      have hPc := wx_P hP
      have hDc := wx_D hD
      have hFc := wx_F hD hS hA
      refine va_callv (va_runIN (As := []) (rest := [.ref qs, .int (nI i), .ref qb]) (host := RX5) ⟨hx, hb, hml, hown, hts⟩ (c_X2 l G qs H.size) ⟨va_cnB 0 hts (wsM_good (k := kX5_init) (k' := kX2_init) co2) rfl rfl rfl hK.nX5_22 (hw in2) ⟨by decide, by decide, by decide +kernel⟩ ⟨Nat.le_of_ble_eq_true rfl, Nat.le_of_ble_eq_true rfl⟩, rfl, hw im2⟩ ⟨kx_blind, fun U hU hW => ⟨rfl, by rw [hU], by rw [hU]; exact hPc, hK.warm hW, hDc⟩⟩ rfl rfl hl.1 rfl (lv_room (Nat.le_of_ble_eq_true rfl)) dX5_init_66 ⟨by show 34 + 5 * i + 1 + 4 ≤ 72; omega, by show 1598 + 261 * i + 5 + 256 ≤ 3391; omega⟩) hS (fun q _ h => hFc q h) hFc (fun u t H1 locs ht hvm hw0 hB hz1 hk1 hS => ?_)
      obtain ⟨hP1, hD1⟩ := hB
      rw [ht] at hP1
      obtain ⟨hP, hD⟩ := wx_join hP hD hk1 hFc hP1 hD1
      generalize H1 = H at hP hS ⊢
      refine W.widen (k := 34 + 5 * (i + 1)) (n := 1598 + 261 * (i + 1)) (by omega) (by omega) ?_
      refine va_astq (ci := 2) (r := (RX2, TX2, 5)) (n := 6) (vs := [.int 0, .ref (u.getD 0 0), .ref (u.getD 1 0), .ref (u.getD 2 0), .ref (u.getD 3 0)]) (f := f2) hx hb hK.1.1 hP hD hS 2 4 ([(h0, .inr (5, [.ref qa, .ref qb, .null, .null, .null])), (qa, arS G 8 3 f), (qb, arS G 6 4 f2)] ++ R).length rfl rfl (by rw [List.getElem?_append_right (Nat.le_refl _), Nat.sub_self]; rfl) rfl (vp_in_nI (show i < 6 by omega) (by omega)) dX5_init_69 (fun H locs hP hD hS => ?_)
      rw [nI_clamp (by omega)] at hP hD
      have hP : va_P G.1 vwCl ([(h0, .inr (5, [.ref qa, .ref qb, .null, .null, .null])), (qa, arS G 8 3 f), (qb, arS G 6 4 (va_up f2 i (some qs)))] ++ (R ++ wX2 G qs u)) H := by
        rw [← List.append_assoc]
        exact hP
      have hD : va_D A ([(h0, .inr (5, [.ref qa, .ref qb, .null, .null, .null])), (qa, arS G 8 3 f), (qb, arS G 6 4 (va_up f2 i (some qs)))] ++ (R ++ wX2 G qs u)) := by
        rw [← List.append_assoc]
        exact hD
      refine lv_iinc (v := nI (i + 1)) (lv' := [(1, .int (nI (i + 1))), (0, .ref h0)]) hx hb dX5_init_70 hl (k := 1) rfl (nI_1 i) (by decide) rfl (fun ls hl => ?_)
      refine lv_goto (tgt := 51) hx hb dX5_init_73 (by decide) ?_
      exact ih (i + 1) (by omega) qa qb f (va_up f2 i (some qs)) (R ++ wX2 G qs u) H locs ls (by rw [List.length_append, hR]; show 32 + 5 * i + 5 = _; omega) (hsh.app (by omega)) (hrw.push hR) hP hD hS (lv_sub hl [1, 0] rfl)
  -- the SHEETS
  have loop1 : ∀ mm i, i + mm = 8 → ∀ (qa : Nat) (f : Nat → Option Nat) (R : va_W) (H : Heap) (locs : List Loc) (ls : Array Slot), R.length = 4 * i → shOk G R f i → va_P G.1 vwCl ([(h0, .inr (5, [.ref qa, .null, .null, .null, .null])), (qa, arS G 8 3 f)] ++ R) H → va_D A ([(h0, .inr (5, [.ref qa, .null, .null, .null, .null])), (qa, arS G 8 3 f)] ++ R) → va_S A s.heap H locs → lv_has ls 2 [(0, .ref h0), (1, .int (nI i))] → W p l e (headSpec (wsM kX5_init) { frames := 3, cells := 72, slots := 3391, locals := 52 }).room s m #[Value.ref h0] below meth c H locs (1 + 4 * i) (8 + 198 * i) (MQ below (va_Qv (fun L : va_W => rawX5 G h0 L) (fun L t => va_P G.1 vwCl L t.heap ∧ va_D A L) A) #[Value.ref h0] s 72 3391 A) (F0 m 15 ls []) := by
    intro mm
    induction mm with
    | zero =>
      intro i hi qa f R H locs ls hR hsh hP hD hS hl
      obtain rfl : i = 8 := by omega
      refine lv_iload_n hx hb dX5_init_15 rfl (lv_at hl 1 rfl) ?_
      refine lv_bipush (v := nI 8) hx hb dX5_init_16 (by decide) ?_
      refine lv_icmp_ge (tgt := 40) hx hb dX5_init_18 (by decide) (fun _ => ?_) (fun q => absurd (by decide) q)
      refine lv_aload_n hx hb dX5_init_40 rfl (lv_at hl 0 rfl) ?_
      refine lv_bipush (v := nI 6) hx hb dX5_init_41 (by decide) ?_
      refine wx_newq (N' := 6) hx hb 4 hown (hw clX5_16) hK.aR rfl hK hP hD hS hA (by decide) (by decide) (Nat.le_of_ble_eq_true rfl) (Nat.le_of_ble_eq_true rfl) (Nat.le_of_ble_eq_true rfl) dX5_init_43 (fun qb H hP hD hS => ?_)
      refine W.widen (k := 34) (n := 1598) (Nat.le_of_ble_eq_true rfl) (Nat.le_of_ble_eq_true rfl) ?_
      refine va_putF (D := G.1) (ci := 5) (v := .ref qb) (ty := .array (.object "WaveBuoys$Row")) (C := RX5) (T := TX5) (N := 5) hx hb hts (fun w h => List.mem_cons_of_mem _ (uw5 w h)) tyX5 tyX5_ok nmX5 hown hK.1.1 hP hD hS 0 rfl rfl 1 (by decide) (hw fl5_18) (fun _ h9 => h9) rfl hin rfl (by decide +kernel) rfl rfl (Nat.le_of_ble_eq_true rfl) dX5_init_46 (fun H locs hP hD hS => ?_)
      have hP : va_P G.1 vwCl (([(h0, .inr (5, [.ref qa, .ref qb, .null, .null, .null])), (qa, arS G 8 3 f)] ++ R) ++ [(qb, arS G 6 4 (fun _ => none))]) H := hP
      have hD : va_D A (([(h0, .inr (5, [.ref qa, .ref qb, .null, .null, .null])), (qa, arS G 8 3 f)] ++ R) ++ [(qb, arS G 6 4 (fun _ => none))]) := hD
      have hP := hP.swap
      have hD := hD.swap
      refine lv_iconst (v := nI 0) hx hb dX5_init_49 (by decide) ?_
      refine lv_istore_n (lv' := [(1, .int (nI 0)), (0, .ref h0)]) hx hb dX5_init_50 rfl hl (by decide) rfl (fun ls hl => ?_)
      exact loop2 6 0 (by omega) qa qb f (fun _ => none) R H locs ls (by omega) hsh (fun j hj => absurd hj (by omega)) hP hD hS (lv_sub hl [1, 0] rfl)
    | succ mm ih =>
      intro i hi qa f R H locs ls hR hsh hP hD hS hl
      refine lv_iload_n hx hb dX5_init_15 rfl (lv_at hl 1 rfl) ?_
      refine lv_bipush (v := nI 8) hx hb dX5_init_16 (by decide) ?_
      refine lv_icmp_ge (tgt := 40) hx hb dX5_init_18 (by decide) (fun q => absurd q (by
        rw [Int32.le_iff_toInt_le, nI_toInt (by omega), nI_toInt (by omega)]
        omega)) (fun _ => ?_)
      refine lv_aload_n hx hb dX5_init_21 rfl (lv_at hl 0 rfl) ?_
      refine va_get (D := G.1) (ci := 5) (v := .ref qa) (C := RX5) (T := TX5) (N := 5) hx hb hts (fun w h => List.mem_cons_of_mem _ (uw5 w h)) hown hK.1.1 hP 0 rfl rfl 0 (by decide) (hw fl5_11) (fun _ h9 => h9) rfl dX5_init_22 ?_
      refine lv_iload_n hx hb dX5_init_25 rfl (lv_at hl 1 rfl) ?_
      refine va_new (ci := 3) (fs := [.int 0, .int 0, .int 0, .null, .null, .null]) (C := RX3) (T := TX3) (N := 6) hx hb hts (fun w h => List.mem_cons_of_mem _ (uw3 w h)) tyX3 tyX3_ok hown (hw clX5_9) (hw iaX3) (hw in3) hK.1.1 hP hD hS hA rfl (fun j hj => by rcases (show j = 0 ∨ j = 1 ∨ j = 2 ∨ j = 3 ∨ j = 4 ∨ j = 5 by omega) with rfl | rfl | rfl | rfl | rfl | rfl <;> rfl) (by show 1 + 4 * i + 1 ≤ 72; omega) (by show 8 + 198 * i + 6 ≤ 3391; omega) dX5_init_26 (fun qs H hP hD hS => ?_)
      refine lv_dup hx hb dX5_init_29 rfl ?_
      have hPc := wx_P hP
      have hDc := wx_D hD
      have hFc := wx_F hD hS hA
      refine va_callv (va_runIN (As := []) (rest := [.ref qs, .int (nI i), .ref qa]) (host := RX5) ⟨hx, hb, hml, hown, hts⟩ (c_X3 l G qs H.size) ⟨va_cnB 0 hts (wsM_good (k := kX5_init) (k' := kX3_init) co3) rfl rfl rfl hK.nX5_15 (hw in3) ⟨by decide, by decide, by decide +kernel⟩ ⟨Nat.le_of_ble_eq_true rfl, Nat.le_of_ble_eq_true rfl⟩, rfl, hw im3⟩ ⟨kx_blind, fun U hU hW => ⟨rfl, by rw [hU], by rw [hU]; exact hPc, hK.warm hW, hDc⟩⟩ rfl rfl hl.1 rfl (lv_room (Nat.le_of_ble_eq_true rfl)) dX5_init_30 ⟨by show 1 + 4 * i + 1 + 3 ≤ 72; omega, by show 8 + 198 * i + 6 + 192 ≤ 3391; omega⟩) hS (fun q _ h => hFc q h) hFc (fun u t H1 locs ht hvm hw0 hB hz1 hk1 hS => ?_)
      obtain ⟨hP1, hD1⟩ := hB
      rw [ht] at hP1
      obtain ⟨hP, hD⟩ := wx_join hP hD hk1 hFc hP1 hD1
      generalize H1 = H at hP hS ⊢
      refine W.widen (k := 1 + 4 * (i + 1)) (n := 8 + 198 * (i + 1)) (by omega) (by omega) ?_
      refine va_astq (ci := 3) (r := (RX3, TX3, 6)) (n := 8) (vs := [.int 0, .int 0, .int 0, .ref (u.getD 0 0), .ref (u.getD 1 0), .ref (u.getD 2 0)]) (f := f) hx hb hK.1.1 hP hD hS 1 3 ([(h0, .inr (5, [.ref qa, .null, .null, .null, .null])), (qa, arS G 8 3 f)] ++ R).length rfl rfl (by rw [List.getElem?_append_right (Nat.le_refl _), Nat.sub_self]; rfl) rfl (vp_in_nI (show i < 8 by omega) (by omega)) dX5_init_33 (fun H locs hP hD hS => ?_)
      rw [nI_clamp (by omega)] at hP hD
      have hP : va_P G.1 vwCl ([(h0, .inr (5, [.ref qa, .null, .null, .null, .null])), (qa, arS G 8 3 (va_up f i (some qs)))] ++ (R ++ wX3 G qs u)) H := by
        rw [← List.append_assoc]
        exact hP
      have hD : va_D A ([(h0, .inr (5, [.ref qa, .null, .null, .null, .null])), (qa, arS G 8 3 (va_up f i (some qs)))] ++ (R ++ wX3 G qs u)) := by
        rw [← List.append_assoc]
        exact hD
      refine lv_iinc (v := nI (i + 1)) (lv' := [(1, .int (nI (i + 1))), (0, .ref h0)]) hx hb dX5_init_34 hl (k := 1) rfl (nI_1 i) (by decide) rfl (fun ls hl => ?_)
      refine lv_goto (tgt := 15) hx hb dX5_init_37 (by decide) ?_
      exact ih (i + 1) (by omega) qa (va_up f i (some qs)) (R ++ wX3 G qs u) H locs ls (by rw [List.length_append, hR]; show 4 * i + 4 = _; omega) (hsh.push hR) hP hD hS (lv_sub hl [1, 0] rfl)
  refine lv_aload_n hx hb dX5_init_0 rfl (lv_at hl 0 rfl) ?_
  refine W.objInit hx hb hown (hw mo5) (hw moI) (hw moC) rfl (by rw [hml]; exact hl.1) rfl dX5_init_1 (Nat.le_of_ble_eq_true rfl) (Nat.le_of_ble_eq_true rfl) ?_
  refine W.eq (g2 := F0 m 4 ls []) rfl ?_
  refine lv_aload_n hx hb dX5_init_4 rfl (lv_at hl 0 rfl) ?_
  refine lv_bipush (v := nI 8) hx hb dX5_init_5 (by decide) ?_
  refine wx_newq (N' := 8) hx hb 3 hown (hw clX5_9) hK.aS rfl hK hP hD hS hA (by decide) (by decide) (Nat.le_of_ble_eq_true rfl) (Nat.le_of_ble_eq_true rfl) (Nat.le_of_ble_eq_true rfl) dX5_init_7 (fun qa H hP hD hS => ?_)
  refine W.widen (k := 1) (n := 8) (Nat.le_of_ble_eq_true rfl) (Nat.le_of_ble_eq_true rfl) ?_
  refine va_putF (D := G.1) (ci := 5) (v := .ref qa) (ty := .array (.object "WaveBuoys$Sheet")) (C := RX5) (T := TX5) (N := 5) hx hb hts (fun w h => List.mem_cons_of_mem _ (uw5 w h)) tyX5 tyX5_ok nmX5 hown hK.1.1 hP hD hS 0 rfl rfl 0 (by decide) (hw fl5_11) (fun _ h9 => h9) rfl hin rfl (by decide +kernel) rfl rfl (Nat.le_of_ble_eq_true rfl) dX5_init_10 (fun H locs hP hD hS => ?_)
  refine lv_iconst (v := nI 0) hx hb dX5_init_13 (by decide) ?_
  refine lv_istore_n (lv' := [(1, .int (nI 0)), (0, .ref h0)]) hx hb dX5_init_14 rfl hl (by decide) rfl (fun ls hl => ?_)
  exact loop1 8 0 (by omega) qa (fun _ => none) [] H locs ls rfl (fun j hj => absurd hj (by omega)) hP hD hS (lv_sub hl [1, 0] rfl)
end
section
/-! THE START: the memory behind the constructor and the two arrays, and that their cells are it -/
def muZ : Mem := (fun t i => if t = 4 then (if i = 0 then nI 100 else if i = 1 then nI 50 else nI 0) else if t = 5 then (if i = 3 then nI 1 else nI 0) else nI 0, fun _ _ => 0)
/-- the law's two arrays, ahead of any number; behind them uM tells the script's address too -/
def wXY (G : WG) (qM : Nat) (uM : List Nat) : va_W := [(qM, .inl (G.2.2 2, 64, .inr (.inl (fun _ => 0)))), (uM.getD 0 0, .inl (G.2.2 2, 64, .inr (.inl (fun _ => 0))))]
theorem cell_congr {cA : ClassId} {n : Nat} {f g : Nat → Option Nat} (h : ∀ j, j < n → f j = g j) : vp_cell cA (n, .inr (.inr (.inr (.inr f)))) = vp_cell cA (n, .inr (.inr (.inr (.inr g)))) := by
  rw [vp_cell_q, vp_cell_q]
  have e_ : (fun j : Fin n => va_rf (f j.val)) = fun j : Fin n => va_rf (g j.val) := funext fun j => by rw [h j.val j.isLt]
  simp only [arrV]
  rw [e_]
/-- the address of each tag -/
def gF (h0 qa qb qp qw qm qM : Nat) (S Rw : Nat → Nat × List Nat) (u uM : List Nat) : Nat → Nat := fun t =>
  if t < 7 then (match t with
    | 0 => h0
    | 1 => qa
    | 2 => qb
    | 3 => qp
    | 4 => qw
    | 5 => qm
    | _ => u.getD 4 0)
  else if t < 39 then (match (t - 7) % 4 with
    | 0 => (S ((t - 7) / 4)).1
    | k + 1 => (S ((t - 7) / 4)).2.getD k 0)
  else if t < 43 then u.getD (t - 39) 0
  else if t < 73 then (match (t - 43) % 5 with
    | 0 => (Rw ((t - 43) / 5)).1
    | k + 1 => (Rw ((t - 43) / 5)).2.getD k 0)
  else if t = 73 then qM else uM.getD (t - 74) 0
/-- where each tag's cell lies in the list -/
def psF (t : Nat) : Nat := if t < 3 then t else if t = 3 then 65 else if t = 4 then 71 else if t = 5 then 72 else if t = 6 then 70 else if t < 39 then 3 + (t - 7) else if t < 43 then 66 + (t - 39) else if t < 73 then 35 + (t - 43) else t
theorem psF_inj0 : ∀ i, i < 75 → ∀ j, j < 75 → psF i = psF j → i = j := by decide +kernel
theorem psF_inj : ∀ i j, i < 75 → j < 75 → psF i = psF j → i = j := fun i j hi hj h => psF_inj0 i hi j hj h
def fsL (G : WG) (μ : Mem) (t : Nat) : Nat → List Value → List Value
  | _, [] => []
  | j, v :: vs => slotV G μ t j v :: fsL G μ t (j + 1) vs
theorem fsL_get {G : WG} {μ : Mem} {t : Nat} : ∀ (sl : List Value) (j i : Nat), (fsL G μ t j sl)[i]? = (sl[i]?).map (fun v => slotV G μ t (j + i) v)
  | [], j, i => by simp [fsL]
  | v :: vs, j, 0 => rfl
  | v :: vs, j, i + 1 => by
    have ih := fsL_get (G := G) (μ := μ) (t := t) vs (j + 1) i
    rw [fsL, List.getElem?_cons_succ, List.getElem?_cons_succ, ih, show j + 1 + i = j + (i + 1) by omega]
theorem fsOf_L {G : WG} {μ : Mem} {t : Nat} {sl : List Value} : fsOf G μ t sl = fsL G μ t 0 sl := by
  apply List.ext_getElem?
  intro i
  rw [fsL_get, fsOf, List.getElem?_mapIdx, Nat.zero_add]
def cellE (G : WG) (μ : Mem) (t : Nat) : va_E := match shp t with
  | .inl q => .inl (G.2.2 q.1, arOf G μ t q.1 q.2)
  | .inr q => .inr (q.1, fsL G μ t 0 q.2)
theorem cellE_of {G : WG} {μ : Mem} {t : Nat} : cellOf G μ t = cellE G μ t := by
  unfold cellOf cellE
  cases h : shp t with
  | inl q => rfl
  | inr q => simp only [fsOf_L]
theorem ap_at {x y : va_W} {n k : Nat} (h : x.length = n) : (x ++ y)[n + k]? = y[k]? := by
  rw [List.getElem?_append_right (by omega), show n + k - x.length = k by omega]
theorem gF_s {h0 qa qb qp qw qm qM : Nat} {S Rw : Nat → Nat × List Nat} {u uM : List Nat} {j : Nat} (hj : j < 8) : gF h0 qa qb qp qw qm qM S Rw u uM (7 + 4 * j) = (S j).1 := by
  unfold gF
  rw [if_neg (by omega), if_pos (by omega), show (7 + 4 * j - 7) % 4 = 0 by omega, show (7 + 4 * j - 7) / 4 = j by omega]
theorem gF_r {h0 qa qb qp qw qm qM : Nat} {S Rw : Nat → Nat × List Nat} {u uM : List Nat} {j : Nat} (hj : j < 6) : gF h0 qa qb qp qw qm qM S Rw u uM (43 + 5 * j) = (Rw j).1 := by
  unfold gF
  rw [if_neg (by omega), if_neg (by omega), if_neg (by omega), if_pos (by omega), show (43 + 5 * j - 43) % 5 = 0 by omega, show (43 + 5 * j - 43) / 5 = j by omega]
set_option maxHeartbeats 16000000 in
set_option maxRecDepth 100000 in
theorem made {G0 : WG} {A : Nat → Prop} {h0 qM : Nat} {L : va_W} {uM : List Nat} {H : Heap} (hr : rawX5 G0 h0 L) (hP : va_P G0.1 vwCl (L ++ wXY G0 qM uM) H) (hD : va_D A (L ++ wXY G0 qM uM)) : ∃ g : Nat → Nat, g 0 = h0 ∧ g 73 = qM ∧ g 74 = uM.getD 0 0 ∧ g 75 = uM.getD 1 0 ∧ wD (G0.1, g, G0.2.2) ∧ wP (G0.1, g, G0.2.2) muZ H ∧ ∀ t, t < 75 → A (g t) := by
  obtain ⟨qa, qb, f, f2, R, qp, u, qw, qm, hR, hsh, hrw, rfl⟩ := hr
  obtain ⟨S, hS⟩ : ∃ S : Nat → Nat × List Nat, ∀ j, j < 8 → f j = some (S j).1 ∧ ∀ k, k < 4 → R[4 * j + k]? = (wX3 G0 (S j).1 (S j).2)[k]? := by
    have h : ∀ j, ∃ x : Nat × List Nat, j < 8 → f j = some x.1 ∧ ∀ k, k < 4 → R[4 * j + k]? = (wX3 G0 x.1 x.2)[k]? := fun j => by
      by_cases hj : j < 8
      · obtain ⟨a, v, h1, h2⟩ := hsh j hj
        exact ⟨(a, v), fun _ => ⟨h1, h2⟩⟩
      · exact ⟨(0, []), fun q => absurd q hj⟩
    exact ⟨fun j => Classical.choose (h j), fun j => Classical.choose_spec (h j)⟩
  obtain ⟨T, hT⟩ : ∃ T : Nat → Nat × List Nat, ∀ j, j < 6 → f2 j = some (T j).1 ∧ ∀ k, k < 5 → R[32 + 5 * j + k]? = (wX2 G0 (T j).1 (T j).2)[k]? := by
    have h : ∀ j, ∃ x : Nat × List Nat, j < 6 → f2 j = some x.1 ∧ ∀ k, k < 5 → R[32 + 5 * j + k]? = (wX2 G0 x.1 x.2)[k]? := fun j => by
      by_cases hj : j < 6
      · obtain ⟨a, v, h1, h2⟩ := hrw j hj
        exact ⟨(a, v), fun _ => ⟨h1, h2⟩⟩
      · exact ⟨(0, []), fun q => absurd q hj⟩
    exact ⟨fun j => Classical.choose (h j), fun j => Classical.choose_spec (h j)⟩
  -- the arrays of references, told by the tags
  have hP1 := va_P.set (e := arS G0 8 3 (fun j => some (gF h0 qa qb qp qw qm qM S T u uM (arf 1 j)))) hP hD (p := 1) (a := qa) (e0 := arS G0 8 3 f) rfl (by
    have h := hP 1 (qa, arS G0 8 3 f) rfl
    have e_ : vp_cell (G0.2.2 3) (8, .inr (.inr (.inr (.inr f)))) = vp_cell (G0.2.2 3) (8, .inr (.inr (.inr (.inr (fun j => some (gF h0 qa qb qp qw qm qM S T u uM (arf 1 j))))))) := cell_congr (fun j hj => by
      rw [(hS j hj).1]
      show _ = some (gF h0 qa qb qp qw qm qM S T u uM (7 + 4 * j))
      rw [gF_s hj])
    show H[qa]? = some (vp_cell _ _)
    rw [← e_]
    exact h) (fun q _ => rfl)
  have hD1 := va_D.set (e := arS G0 8 3 (fun j => some (gF h0 qa qb qp qw qm qM S T u uM (arf 1 j)))) hD (p := 1) (a := qa) (e0 := arS G0 8 3 f) rfl
  have hP2 := va_P.set (e := arS G0 6 4 (fun j => some (gF h0 qa qb qp qw qm qM S T u uM (arf 2 j)))) hP1 hD1 (p := 2) (a := qb) (e0 := arS G0 6 4 f2) rfl (by
    have h := hP1 2 (qb, arS G0 6 4 f2) rfl
    have e_ : vp_cell (G0.2.2 4) (6, .inr (.inr (.inr (.inr f2)))) = vp_cell (G0.2.2 4) (6, .inr (.inr (.inr (.inr (fun j => some (gF h0 qa qb qp qw qm qM S T u uM (arf 2 j))))))) := cell_congr (fun j hj => by
      rw [(hT j hj).1]
      show _ = some (gF h0 qa qb qp qw qm qM S T u uM (43 + 5 * j))
      rw [gF_r hj])
    show H[qb]? = some (vp_cell _ _)
    rw [← e_]
    exact h) (fun q _ => rfl)
  have hD2 := va_D.set (e := arS G0 6 4 (fun j => some (gF h0 qa qb qp qw qm qM S T u uM (arf 2 j)))) hD1 (p := 2) (a := qb) (e0 := arS G0 6 4 f2) rfl
  generalize hL : (((((([(h0, .inr (5, [.ref qa, .ref qb, .ref qp, .ref qw, .ref qm])), (qa, arS G0 8 3 f), (qb, arS G0 6 4 f2)] ++ R) ++ wX1 G0 qp u) ++ wX4 G0 qw []) ++ wX0 G0 qm []) ++ wXY G0 qM uM).set 1 (qa, arS G0 8 3 (fun j => some (gF h0 qa qb qp qw qm qM S T u uM (arf 1 j))))).set 2 (qb, arS G0 6 4 (fun j => some (gF h0 qa qb qp qw qm qM S T u uM (arf 2 j)))) = L2 at hP2 hD2
  have hL2 : L2 = (((([(h0, .inr (5, [.ref qa, .ref qb, .ref qp, .ref qw, .ref qm])), (qa, arS G0 8 3 (fun j => some (gF h0 qa qb qp qw qm qM S T u uM (arf 1 j)))), (qb, arS G0 6 4 (fun j => some (gF h0 qa qb qp qw qm qM S T u uM (arf 2 j))))] ++ R) ++ wX1 G0 qp u) ++ wX4 G0 qw []) ++ wX0 G0 qm []) ++ wXY G0 qM uM := hL.symm
  generalize hpre : [(h0, Sum.inr (5, [Value.ref qa, Value.ref qb, Value.ref qp, Value.ref qw, Value.ref qm])), (qa, arS G0 8 3 (fun j => some (gF h0 qa qb qp qw qm qM S T u uM (arf 1 j)))), (qb, arS G0 6 4 (fun j => some (gF h0 qa qb qp qw qm qM S T u uM (arf 2 j))))] = pre at hL2
  have l3 : pre.length = 3 := by rw [← hpre]; rfl
  have l1 : (pre ++ R).length = 65 := by rw [List.length_append, l3, hR]
  have l2 : ((pre ++ R) ++ wX1 G0 qp u).length = 71 := by rw [List.length_append, l1]; rfl
  have l4 : (((pre ++ R) ++ wX1 G0 qp u) ++ wX4 G0 qw []).length = 72 := by rw [List.length_append, l2]; rfl
  have l5 : ((((pre ++ R) ++ wX1 G0 qp u) ++ wX4 G0 qw []) ++ wX0 G0 qm []).length = 73 := by rw [List.length_append, l4]; rfl
  have gP : ∀ k, k < 3 → L2[k]? = pre[k]? := fun k hk => by
    rw [hL2, List.getElem?_append_left (by omega), List.getElem?_append_left (by omega), List.getElem?_append_left (by omega), List.getElem?_append_left (by omega), List.getElem?_append_left (by omega)]
  have gR : ∀ k, k < 62 → L2[3 + k]? = R[k]? := fun k hk => by
    rw [hL2, List.getElem?_append_left (by omega), List.getElem?_append_left (by omega), List.getElem?_append_left (by omega), List.getElem?_append_left (by omega), ap_at l3]
  have g1 : ∀ k, k < 6 → L2[65 + k]? = (wX1 G0 qp u)[k]? := fun k hk => by
    rw [hL2, List.getElem?_append_left (by omega), List.getElem?_append_left (by omega), List.getElem?_append_left (by omega), ap_at l1]
  have g4 : L2[71]? = (wX4 G0 qw [])[0]? := by
    rw [hL2, List.getElem?_append_left (by omega), List.getElem?_append_left (by omega)]
    exact ap_at (k := 0) l2
  have g0 : L2[72]? = (wX0 G0 qm [])[0]? := by
    rw [hL2, List.getElem?_append_left (by omega)]
    exact ap_at (k := 0) l4
  have gM : ∀ k, k < 2 → L2[73 + k]? = (wXY G0 qM uM)[k]? := fun k hk => by
    rw [hL2, ap_at l5]
  clear hL hP hD hP1 hD1 hL2
  have claim : ∀ t, t < 75 → L2[psF t]? = some (gF h0 qa qb qp qw qm qM S T u uM t, cellE (G0.1, gF h0 qa qb qp qw qm qM S T u uM, G0.2.2) muZ t) := by
    intro t ht
    match t, ht with
    | 0, _ => exact (gP 0 (by decide)).trans (by rw [← hpre]; rfl)
    | 1, _ => exact (gP 1 (by decide)).trans (by rw [← hpre]; rfl)
    | 2, _ => exact (gP 2 (by decide)).trans (by rw [← hpre]; rfl)
    | 3, _ => exact (g1 0 (by decide)).trans rfl
    | 4, _ => exact g4.trans rfl
    | 5, _ => exact g0.trans rfl
    | 6, _ => exact (g1 5 (by decide)).trans rfl
    | 7, _ => exact (gR 0 (by decide)).trans (((hS 0 (by decide)).2 0 (by decide)).trans rfl)
    | 8, _ => exact (gR 1 (by decide)).trans (((hS 0 (by decide)).2 1 (by decide)).trans rfl)
    | 9, _ => exact (gR 2 (by decide)).trans (((hS 0 (by decide)).2 2 (by decide)).trans rfl)
    | 10, _ => exact (gR 3 (by decide)).trans (((hS 0 (by decide)).2 3 (by decide)).trans rfl)
    | 11, _ => exact (gR 4 (by decide)).trans (((hS 1 (by decide)).2 0 (by decide)).trans rfl)
    | 12, _ => exact (gR 5 (by decide)).trans (((hS 1 (by decide)).2 1 (by decide)).trans rfl)
    | 13, _ => exact (gR 6 (by decide)).trans (((hS 1 (by decide)).2 2 (by decide)).trans rfl)
    | 14, _ => exact (gR 7 (by decide)).trans (((hS 1 (by decide)).2 3 (by decide)).trans rfl)
    | 15, _ => exact (gR 8 (by decide)).trans (((hS 2 (by decide)).2 0 (by decide)).trans rfl)
    | 16, _ => exact (gR 9 (by decide)).trans (((hS 2 (by decide)).2 1 (by decide)).trans rfl)
    | 17, _ => exact (gR 10 (by decide)).trans (((hS 2 (by decide)).2 2 (by decide)).trans rfl)
    | 18, _ => exact (gR 11 (by decide)).trans (((hS 2 (by decide)).2 3 (by decide)).trans rfl)
    | 19, _ => exact (gR 12 (by decide)).trans (((hS 3 (by decide)).2 0 (by decide)).trans rfl)
    | 20, _ => exact (gR 13 (by decide)).trans (((hS 3 (by decide)).2 1 (by decide)).trans rfl)
    | 21, _ => exact (gR 14 (by decide)).trans (((hS 3 (by decide)).2 2 (by decide)).trans rfl)
    | 22, _ => exact (gR 15 (by decide)).trans (((hS 3 (by decide)).2 3 (by decide)).trans rfl)
    | 23, _ => exact (gR 16 (by decide)).trans (((hS 4 (by decide)).2 0 (by decide)).trans rfl)
    | 24, _ => exact (gR 17 (by decide)).trans (((hS 4 (by decide)).2 1 (by decide)).trans rfl)
    | 25, _ => exact (gR 18 (by decide)).trans (((hS 4 (by decide)).2 2 (by decide)).trans rfl)
    | 26, _ => exact (gR 19 (by decide)).trans (((hS 4 (by decide)).2 3 (by decide)).trans rfl)
    | 27, _ => exact (gR 20 (by decide)).trans (((hS 5 (by decide)).2 0 (by decide)).trans rfl)
    | 28, _ => exact (gR 21 (by decide)).trans (((hS 5 (by decide)).2 1 (by decide)).trans rfl)
    | 29, _ => exact (gR 22 (by decide)).trans (((hS 5 (by decide)).2 2 (by decide)).trans rfl)
    | 30, _ => exact (gR 23 (by decide)).trans (((hS 5 (by decide)).2 3 (by decide)).trans rfl)
    | 31, _ => exact (gR 24 (by decide)).trans (((hS 6 (by decide)).2 0 (by decide)).trans rfl)
    | 32, _ => exact (gR 25 (by decide)).trans (((hS 6 (by decide)).2 1 (by decide)).trans rfl)
    | 33, _ => exact (gR 26 (by decide)).trans (((hS 6 (by decide)).2 2 (by decide)).trans rfl)
    | 34, _ => exact (gR 27 (by decide)).trans (((hS 6 (by decide)).2 3 (by decide)).trans rfl)
    | 35, _ => exact (gR 28 (by decide)).trans (((hS 7 (by decide)).2 0 (by decide)).trans rfl)
    | 36, _ => exact (gR 29 (by decide)).trans (((hS 7 (by decide)).2 1 (by decide)).trans rfl)
    | 37, _ => exact (gR 30 (by decide)).trans (((hS 7 (by decide)).2 2 (by decide)).trans rfl)
    | 38, _ => exact (gR 31 (by decide)).trans (((hS 7 (by decide)).2 3 (by decide)).trans rfl)
    | 39, _ => exact (g1 1 (by decide)).trans rfl
    | 40, _ => exact (g1 2 (by decide)).trans rfl
    | 41, _ => exact (g1 3 (by decide)).trans rfl
    | 42, _ => exact (g1 4 (by decide)).trans rfl
    | 43, _ => exact (gR 32 (by decide)).trans (((hT 0 (by decide)).2 0 (by decide)).trans rfl)
    | 44, _ => exact (gR 33 (by decide)).trans (((hT 0 (by decide)).2 1 (by decide)).trans rfl)
    | 45, _ => exact (gR 34 (by decide)).trans (((hT 0 (by decide)).2 2 (by decide)).trans rfl)
    | 46, _ => exact (gR 35 (by decide)).trans (((hT 0 (by decide)).2 3 (by decide)).trans rfl)
    | 47, _ => exact (gR 36 (by decide)).trans (((hT 0 (by decide)).2 4 (by decide)).trans rfl)
    | 48, _ => exact (gR 37 (by decide)).trans (((hT 1 (by decide)).2 0 (by decide)).trans rfl)
    | 49, _ => exact (gR 38 (by decide)).trans (((hT 1 (by decide)).2 1 (by decide)).trans rfl)
    | 50, _ => exact (gR 39 (by decide)).trans (((hT 1 (by decide)).2 2 (by decide)).trans rfl)
    | 51, _ => exact (gR 40 (by decide)).trans (((hT 1 (by decide)).2 3 (by decide)).trans rfl)
    | 52, _ => exact (gR 41 (by decide)).trans (((hT 1 (by decide)).2 4 (by decide)).trans rfl)
    | 53, _ => exact (gR 42 (by decide)).trans (((hT 2 (by decide)).2 0 (by decide)).trans rfl)
    | 54, _ => exact (gR 43 (by decide)).trans (((hT 2 (by decide)).2 1 (by decide)).trans rfl)
    | 55, _ => exact (gR 44 (by decide)).trans (((hT 2 (by decide)).2 2 (by decide)).trans rfl)
    | 56, _ => exact (gR 45 (by decide)).trans (((hT 2 (by decide)).2 3 (by decide)).trans rfl)
    | 57, _ => exact (gR 46 (by decide)).trans (((hT 2 (by decide)).2 4 (by decide)).trans rfl)
    | 58, _ => exact (gR 47 (by decide)).trans (((hT 3 (by decide)).2 0 (by decide)).trans rfl)
    | 59, _ => exact (gR 48 (by decide)).trans (((hT 3 (by decide)).2 1 (by decide)).trans rfl)
    | 60, _ => exact (gR 49 (by decide)).trans (((hT 3 (by decide)).2 2 (by decide)).trans rfl)
    | 61, _ => exact (gR 50 (by decide)).trans (((hT 3 (by decide)).2 3 (by decide)).trans rfl)
    | 62, _ => exact (gR 51 (by decide)).trans (((hT 3 (by decide)).2 4 (by decide)).trans rfl)
    | 63, _ => exact (gR 52 (by decide)).trans (((hT 4 (by decide)).2 0 (by decide)).trans rfl)
    | 64, _ => exact (gR 53 (by decide)).trans (((hT 4 (by decide)).2 1 (by decide)).trans rfl)
    | 65, _ => exact (gR 54 (by decide)).trans (((hT 4 (by decide)).2 2 (by decide)).trans rfl)
    | 66, _ => exact (gR 55 (by decide)).trans (((hT 4 (by decide)).2 3 (by decide)).trans rfl)
    | 67, _ => exact (gR 56 (by decide)).trans (((hT 4 (by decide)).2 4 (by decide)).trans rfl)
    | 68, _ => exact (gR 57 (by decide)).trans (((hT 5 (by decide)).2 0 (by decide)).trans rfl)
    | 69, _ => exact (gR 58 (by decide)).trans (((hT 5 (by decide)).2 1 (by decide)).trans rfl)
    | 70, _ => exact (gR 59 (by decide)).trans (((hT 5 (by decide)).2 2 (by decide)).trans rfl)
    | 71, _ => exact (gR 60 (by decide)).trans (((hT 5 (by decide)).2 3 (by decide)).trans rfl)
    | 72, _ => exact (gR 61 (by decide)).trans (((hT 5 (by decide)).2 4 (by decide)).trans rfl)
    | 73, _ => exact (gM 0 (by decide)).trans rfl
    | 74, _ => exact (gM 1 (by decide)).trans rfl
    | n + 75, h => exact absurd h (by omega)
  refine ⟨gF h0 qa qb qp qw qm qM S T u uM, rfl, rfl, rfl, rfl, ?_, ?_, ?_⟩
  · intro i j hi hj hij
    exact psF_inj i j hi hj (hD2.1 _ _ _ _ (claim i hi) (claim j hj) hij)
  · intro k q hk
    obtain ⟨hk75, -⟩ := wsOf_at hk
    rw [wsOf_get hk75, cellE_of] at hk
    cases hk
    exact hP2 _ _ (claim k hk75)
  · intro t ht
    exact hD2.2 _ _ (claim t ht)
end
section
/-! THE CLAIM OUT OF ONE WALK OF THE LAW'S BODY. Your part is whole_start (and what it stands on); all else here is the same for every law, but numbers. -/
def R_law : String := "WaveBuoysLaw"
def lw_P (b : Addr) (xs : List Int32) (args : Array Value) (s : State) : Prop := args = #[.ref b] ∧ s.IntsAt b xs ∧ xs.length ≤ 260 ∧ (Jvm.Cond.and given_1 narrow_1).before args s = true
def lw_Q (_ : Array Value) (s : State) (o : Outcome) (t : State) : Prop := o = .returned (some (.int 1)) ∧ Framed s o t [] 600000 7302250
def lw_Z (below : List Frame) (a : Array Value) (s : State) : State → Prop := fun t => ∃ o, t.status = .running ∧ Ended t below o ∧ lw_Q a s o t
/-- the law's own end, with 1 on the stack, nothing written that was there before, its room as the claim has it -/
theorem lw_ret {p : Program} {l : Launch} {e : Env} {s : State} {m : MethodId} {below : List Frame} {meth : Method} {c : Code} {b : Nat} (hx : p.tables.exec = Jvm.exec) (hb : c.code = code) (hr : meth.sig.returnType = ret) (hlocks : meth.locks = false) {pc : Nat} {H : Heap} {ls : Array Slot} (hdg : decode code pc = .ok (.ireturn, 1)) : W p l e room_1 s m #[Value.ref b] below meth c H [] 600000 7302250 (lw_Z below #[Value.ref b] s) (F0 m pc ls [.int 1]) := by
  intro T hT X
  obtain ⟨fs, hret, hrun, hended, hW, hframe⟩ := X.leave (v := some (.int 1)) (hlocks := hlocks) (fun h => by rw [hr] at h; cases h)
  have hmeth' : T.vm.method? m = some meth := X.method'
  refine ⟨T.setFrames fs, ?_, .returned (some (.int 1)), hrun, hended, rfl, ⟨_, rfl⟩, hW, hframe⟩
  jvm_step X.here [X.here.top, hx, hb, hdg, hmeth', hr, ret, narrow_b1]
  (try refine ⟨rfl, ?_⟩); (try refine ⟨rfl, ?_⟩)
  first | (intro acts; rw [hret _ acts rfl rfl rfl]) | rw [hret _ _ rfl rfl rfl]
  exact Steps.refl _
/-- what holds at the law's entry: the machine, the code, the tables' words (any of lw_tbl by 'hts w (by decide +kernel)'), the script of L ints xs at the cell b, what the Statement gives of the start (any of its parts by flat_of_before) -/
def lw_At (p : Program) (s : State) (m : MethodId) (meth : Method) (c : Code) (b L : Nat) (xs : Nat → Int32) : Prop :=
  p.tables.exec = Jvm.exec ∧ c.code = code ∧ meth.sig.returnType = ret ∧ c.maxLocals = 19 ∧ s.vm.findClass R_law = some m.cls ∧ (∀ w ∈ lw_tbl, w.before #[Value.ref b] s = true) ∧ va_X b L xs s s.heap ∧ b < s.heap.size ∧ meth.locks = false ∧ (Jvm.Cond.and given_1 narrow_1).before #[Value.ref b] s = true
theorem ntX2_79 : Cond.methodLinkNest RX2 79 yX5_isWithin RX5 ∈ lw_tbl := List.mem_of_getElem? (i := 201) (by decide +kernel)
theorem wT_tbl {w : Cond} (h : w ∈ wT) : w ∈ lw_tbl := (List.mem_filter.mp h).1
theorem zand31 (x : Int32) : (x &&& 2147483647).toInt = x.toInt % 2147483648 := by
  rw [← Int32.toInt_toBitVec, ← Int32.toInt_toBitVec x, Int32.toBitVec_and]
  have e1 : (x.toBitVec &&& Int32.toBitVec 2147483647).toNat = x.toBitVec.toNat % 2147483648 := by
    rw [BitVec.toNat_and]
    exact Nat.and_two_pow_sub_one_eq_mod x.toBitVec.toNat 31
  have h1 := x.toBitVec.isLt
  rw [BitVec.toInt_eq_toNat_cond, BitVec.toInt_eq_toNat_cond, e1]
  split <;> split <;> omega
theorem up_v (x : Int32) {q : Nat} (h0 : 0 < q) (hq : q < 2 ^ 31) : ∃ r, r < q ∧ (x &&& 2147483647) - (x &&& 2147483647) / nI q * nI q = nI r := by
  obtain ⟨a, ha, ea⟩ := nI_nn (x := x &&& 2147483647) (by rw [zand31]; omega)
  have h1 := Nat.mod_lt a h0
  have h2 := Nat.div_add_mod a q
  have h3 := Nat.div_mul_le_self a q
  refine ⟨a - a / q * q, ?_, ?_⟩
  · rw [Nat.mul_comm] at h2
    omega
  · rw [ea, pk_div ha h0 hq, pk_mul, pk_sub h3]
set_option maxHeartbeats 4000000 in
set_option maxRecDepth 100000 in
theorem c_cell (l : Launch) (b L j : Nat) (xs : Nat → Int32) (H0 : Heap) (hL : L < 2 ^ 30) (hj : j < 2 ^ 30) : Met l yL_cell (wsM kL_cell) (rmD 0) (va_Pc [.ref b, .int (nI j)] (fun U => U.heap = H0 ∧ b < H0.size ∧ va_X b L xs U H0)) (fun _ _ oc t => (∃ v : Int32, oc = .returned (some (.int v))) ∧ t.heap = H0) 0 0 (fun _ => False) := by
  refine Met.ofW (cc := cL_cell) (maxL := 2) (ret := some .int) (by decide) rfl ?_
  intro p e s m args below meth c s₁ B hml hv
  obtain ⟨rfl, rfl, hbl, hX⟩ := hv
  have hx := B.exec
  have hb := B.bytes
  have hr := B.returns
  have hts := atoms_spec (ws := wsM kL_cell) B.pre
  have hw : ∀ {w : Cond}, w ∈ wT → w.before _ s = true := fun h => hts _ (List.mem_cons_of_mem _ h)
  have hown : s.vm.findClass RL = some m.cls := findClass_of_methodNamed B.named
  have hlocks := B.notSynchronized
  have hS : va_S (fun _ => False) s.heap s.heap [] := va_S.rf
  have hl := lv_entry ([.ref b, .int (nI j)]) (n := 2) (Nat.le_of_ble_eq_true rfl)
  rw [lg_entry_eq]
  generalize (lg_sl ([.ref b, .int (nI j)]) ++ List.replicate (2 - (lg_sl ([.ref b, .int (nI j)])).length) Slot.unset).toArray = ls at hl ⊢
  have hl : lv_has ls 2 [(0, .ref b), (1, .int (nI j))] := hl
  refine lv_iload_n hx hb dL_cell_0 rfl (lv_at hl 1 rfl) ?_
  refine lv_aload_n hx hb dL_cell_1 rfl (lv_at hl 0 rfl) ?_
  refine va_slen hx hb hX hbl (fun h => h) hS dL_cell_2 ?_
  refine lv_icmp_ge (tgt := 12) hx hb dL_cell_3 (by decide) (fun hge => ?_) (fun hlt => ?_)
  · refine lv_ldc hx hb hown (hw lcL_7) dL_cell_12 ?_
    refine lv_iload_n hx hb dL_cell_14 rfl (lv_at hl 1 rfl) ?_
    refine lv_bipush (v := nI 9) hx hb dL_cell_15 (by decide) ?_
    refine lv_iadd hx hb dL_cell_17 ?_
    refine lv_imul hx hb dL_cell_18 ?_
    exact W.iret hx hb hr (fun t ht _ => ⟨⟨_, rfl⟩, ht⟩) (fun q h => absurd h List.not_mem_nil) dL_cell_19 hlocks
  · refine lv_aload_n hx hb dL_cell_6 rfl (lv_at hl 0 rfl) ?_
    refine lv_iload_n hx hb dL_cell_7 rfl (lv_at hl 1 rfl) ?_
    have hjL : j < L := by
      refine Nat.lt_of_not_le (fun q => hlt ?_)
      exact nI_le q (by omega)
    refine va_sld hx hb hX hbl (fun h => h) hS (vp_in_nI hjL (by omega)) dL_cell_8 ?_
    refine lv_goto (tgt := 19) hx hb dL_cell_9 (by decide) ?_
    exact W.iret hx hb hr (fun t ht _ => ⟨⟨_, rfl⟩, ht⟩) (fun q h => absurd h List.not_mem_nil) dL_cell_19 hlocks
set_option maxHeartbeats 4000000 in
set_option maxRecDepth 100000 in
theorem c_up (l : Launch) (x : Int32) (q : Nat) (H0 : Heap) (h0 : 0 < q) (hq : q < 2 ^ 31) : Met l yL_up (wsM kL_up) (rmD 0) (va_Pc [.int x, .int (nI q)] (fun U => U.heap = H0)) (fun _ _ oc t => (∃ r, r < q ∧ oc = .returned (some (.int (nI r)))) ∧ t.heap = H0) 0 0 (fun _ => False) := by
  refine Met.ofW (cc := cL_up) (maxL := 2) (ret := some .int) (by decide) rfl ?_
  intro p e s m args below meth c s₁ B hml hv
  obtain ⟨rfl, rfl⟩ := hv
  have hx := B.exec
  have hb := B.bytes
  have hr := B.returns
  have hts := atoms_spec (ws := wsM kL_up) B.pre
  have hw : ∀ {w : Cond}, w ∈ wT → w.before _ s = true := fun h => hts _ (List.mem_cons_of_mem _ h)
  have hown : s.vm.findClass RL = some m.cls := findClass_of_methodNamed B.named
  have hlocks := B.notSynchronized
  have hl := lv_entry ([.int x, .int (nI q)]) (n := 2) (Nat.le_of_ble_eq_true rfl)
  rw [lg_entry_eq]
  generalize (lg_sl ([.int x, .int (nI q)]) ++ List.replicate (2 - (lg_sl ([.int x, .int (nI q)])).length) Slot.unset).toArray = ls at hl ⊢
  have hl : lv_has ls 2 [(0, .int x), (1, .int (nI q))] := hl
  obtain ⟨r, hr1, hr2⟩ := up_v x h0 hq
  refine lv_iload_n hx hb dL_up_0 rfl (lv_at hl 0 rfl) ?_
  refine lv_ldc hx hb hown (hw lcL_8) dL_up_1 ?_
  refine lv_iand hx hb dL_up_3 ?_
  refine lv_iload_n hx hb dL_up_4 rfl (lv_at hl 1 rfl) ?_
  refine lv_irem hx hb dL_up_5 (nI_ne0 h0 hq) ?_
  rw [hr2]
  exact W.iret hx hb hr (fun t ht _ => ⟨⟨r, hr1, rfl⟩, ht⟩) (fun q h => absurd h List.not_mem_nil) dL_up_6 hlocks
section LAW
variable {p : Program} {l : Launch} {e : Env} {s : State} {m : MethodId} {below : List Frame} {meth : Method} {c : Code} {b L : Nat} {xs : Nat → Int32} {G : WG}
theorem good_S {own : String} {idx : Nat} {k' : MK} {n : Nat} (hlink : Cond.methodLink own idx k'.1 ∈ wT) (hk : lkS k' n) : GoodIn lw_tbl (va_wsS own idx k'.1 (wsM k')) := by
  obtain ⟨⟨h1, h2, h3, h4, h5⟩, h6⟩ := hk
  exact good_app (fun w hw => by
    simp only [List.mem_cons, List.not_mem_nil, or_false] at hw
    rcases hw with rfl | rfl | rfl <;> assumption) (fun w h => wT_tbl h) (by
    intro w hw
    rcases List.mem_cons.mp hw with rfl | hw
    · exact ⟨wT_tbl h2, wT_good h2⟩
    · exact ⟨wT_tbl hw, wT_good hw⟩)
theorem lmL_23' : Cond.methodLink RL 23 kL_cell.1 ∈ wT := lmL_23
theorem lmL_29' : Cond.methodLink RL 29 kL_up.1 ∈ wT := lmL_29
/-- a call that leaves the heap as it is -/
theorem w_still {y : MethodName} {H : Heap} {locs : List Loc} {cells slots : Nat} {Q : State → Prop} {pc : Nat} {ls : Array Slot} {st0 rest : List Value} {a : Array Value} {R : Option Value → Prop} {QQ : Array Value → State → Outcome → State → Prop}
    (hr : va_Run p l e room_1 s m #[Value.ref b] below meth c H locs cells slots 0 0 (F0 m pc ls st0) rest (QQ a) (fun _ => False)) (hQ : ∀ st v t, QQ a st (.returned v) t → R v ∧ t.heap = H)
    (kk : ∀ v, R v → W p l e room_1 s m #[Value.ref b] below meth c H locs cells slots Q (F0 m (pc + 3) ls (v.toList ++ rest))) : W p l e room_1 s m #[Value.ref b] below meth c H locs cells slots Q (F0 m pc ls st0) := by
  intro T hT X
  obtain ⟨v, st₀, t, T', LL, h0, X', hL, e1, e2, hq, st⟩ := hr T hT X
  obtain ⟨q1, q2⟩ := hQ _ _ _ hq
  have eL : LL = [] := by
    cases LL with
    | nil => rfl
    | cons q _ => exact (hL q List.mem_cons_self).elim
  subst eL
  rw [List.append_nil] at X'
  obtain ⟨t2, a1, b1⟩ := kk v q1 T' (by rw [e1, q2]) X'
  exact ⟨t2, st t2 a1, b1⟩
theorem w_cell {H : Heap} {locs : List Loc} {cells slots : Nat} {Q : State → Prop} {pc : Nat} {ls : Array Slot} {rest : List Value} {j : Nat} (hc : cells ≤ 600000) (hs : slots ≤ 7302250) (C : lw_At p s m meth c b L xs) (hL : L ≤ 260) (hS : va_S (fun q : Nat => s.heap.size ≤ q) s.heap H locs) (hsz : ls.size = 19) (hj : j < 2 ^ 30) (hcat : (rest.map fun v => v.category).sum ≤ 8) (hd : decode cL_law pc = .ok (.invokestatic 23, 3))
    (kk : ∀ v : Int32, W p l e room_1 s m #[Value.ref b] below meth c H locs cells slots Q (F0 m (pc + 3) ls (.int v :: rest))) : W p l e room_1 s m #[Value.ref b] below meth c H locs cells slots Q (F0 m pc ls (.int (nI j) :: .ref b :: rest)) := by
  have hts := C.2.2.2.2.2.1
  have hX := C.2.2.2.2.2.2.1
  have hbl := C.2.2.2.2.2.2.2.1
  have hX1 : va_X b L xs s H := hX.kept (hS.2.1 b hbl (Nat.not_le.mpr hbl))
  have hk := ksL_cell
  refine w_still (y := yL_cell) (R := fun v => ∃ x : Int32, v = some (.int x)) (va_runS (l := l) (e := e) (below := below) (meth := meth) (locs := locs) (cells := cells) (slots := slots) (R := room_1) (ret := some .int) (As := [.ref b, .int (nI j)]) (rest := rest) (g := F0 m pc ls (.int (nI j) :: .ref b :: rest)) ⟨C.1, C.2.1, C.2.2.2.1, C.2.2.2.2.1, hts⟩ (c_cell l b L j xs H (by omega) hj)
    (va_cwS 2 hts (good_S lmL_23' hk) rfl rfl rfl ⟨hk.1.2.2.1, hk.1.2.2.2.1, hk.1.2.2.2.2⟩ ⟨Nat.le_of_ble_eq_true rfl, Nat.le_of_ble_eq_true rfl⟩)
    ⟨fun a U g mk q => ⟨q.1, q.2.1, q.2.2.1, va_X.moved (u := U) (U := U.calling g mk a) (Vm.Alike.refl U.vm) q.2.2.2⟩, fun U hU hW => ⟨rfl, hU, Nat.lt_of_lt_of_le hbl hS.1, hX1.moved hW.alike⟩⟩
    rfl rfl hsz rfl (lv_room hcat) hd ⟨hc, hs⟩) (fun st v t q => ?_) (fun v q => ?_)
  · obtain ⟨⟨x, hx⟩, ht⟩ := q
    cases hx
    exact ⟨⟨x, rfl⟩, ht⟩
  · obtain ⟨x, rfl⟩ := q
    exact kk x
theorem w_up {H : Heap} {locs : List Loc} {cells slots : Nat} {Q : State → Prop} {pc : Nat} {ls : Array Slot} {rest : List Value} {q : Nat} {x : Int32} (hc : cells ≤ 600000) (hs : slots ≤ 7302250) (C : lw_At p s m meth c b L xs) (hsz : ls.size = 19) (h0 : 0 < q) (hq : q < 2 ^ 31) (hcat : (rest.map fun v => v.category).sum ≤ 8) (hd : decode cL_law pc = .ok (.invokestatic 29, 3))
    (kk : ∀ r, r < q → W p l e room_1 s m #[Value.ref b] below meth c H locs cells slots Q (F0 m (pc + 3) ls (.int (nI r) :: rest))) : W p l e room_1 s m #[Value.ref b] below meth c H locs cells slots Q (F0 m pc ls (.int (nI q) :: .int x :: rest)) := by
  have hts := C.2.2.2.2.2.1
  have hk := ksL_up
  refine w_still (y := yL_up) (R := fun v => ∃ r, r < q ∧ v = some (.int (nI r))) (va_runS (l := l) (e := e) (below := below) (meth := meth) (locs := locs) (cells := cells) (slots := slots) (R := room_1) (ret := some .int) (As := [.int x, .int (nI q)]) (rest := rest) (g := F0 m pc ls (.int (nI q) :: .int x :: rest)) ⟨C.1, C.2.1, C.2.2.2.1, C.2.2.2.2.1, hts⟩ (c_up l x q H h0 hq)
    (va_cwS 2 hts (good_S lmL_29' hk) rfl rfl rfl ⟨hk.1.2.2.1, hk.1.2.2.2.1, hk.1.2.2.2.2⟩ ⟨Nat.le_of_ble_eq_true rfl, Nat.le_of_ble_eq_true rfl⟩)
    ⟨fun a U g mk z => ⟨z.1, z.2⟩, fun U hU hW => ⟨rfl, hU⟩⟩
    rfl rfl hsz rfl (lv_room hcat) hd ⟨hc, hs⟩) (fun st v t z => ?_) (fun v z => ?_)
  · obtain ⟨⟨r, hr, hx⟩, ht⟩ := z
    cases hx
    exact ⟨⟨r, hr, rfl⟩, ht⟩
  · obtain ⟨r, hr, rfl⟩ := z
    exact kk r hr
/-- what holds all through the law, once the object and the two arrays are made -/
def LK (p : Program) (s : State) (m : MethodId) (meth : Method) (c : Code) (b L : Nat) (xs : Nat → Int32) (G : WG) : Prop := lw_At p s m meth c b L xs ∧ L ≤ 260 ∧ wD G ∧ wK G s ∧ (∀ t, t < 75 → s.heap.size ≤ G.2.1 t) ∧ G.2.1 75 = b
/-- inside the law, at pc, with locals lv and stack st in memory μ: it comes to its end with true -/
def WL (p : Program) (l : Launch) (e : Env) (s : State) (m : MethodId) (below : List Frame) (meth : Method) (c : Code) (b : Nat) (G : WG) (pc : Nat) (lv : List (Option Value)) (st : List Value) (μ : Mem) : Prop := ∀ (H : Heap) (locs : List Loc) (ls : Array Slot), wP G μ H → va_S (fun q : Nat => s.heap.size ≤ q) s.heap H locs → lvh G ls 19 lv → W p l e room_1 s m #[Value.ref b] below meth c H locs 100 8000 (lw_Z below #[Value.ref b] s) (F0 m pc ls (st.map (trV G)))
variable {k' : MK} {pc : Nat} {lv : List (Option Value)} {st : List Value} {μ : Mem}
theorem LK.D {μ : Mem} (C : LK p s m meth c b L xs G) : va_D (fun q : Nat => s.heap.size ≤ q) (wsOf G μ) := ⟨fun i j x y hi hj hxy => (wD.D (sz := 0) (μ := μ) C.2.2.1).1 i j x y hi hj hxy, fun k q hk => by
  obtain ⟨a1, a2⟩ := wsOf_at hk
  rw [a2]
  exact C.2.2.2.2.1 k a1⟩
theorem wl_lo {lv lv' : List (Option Value)} (h : lv = lv') (kk : WL p l e s m below meth c b G pc lv' st μ) : WL p l e s m below meth c b G pc lv st μ := by rw [h]; exact kk
theorem wl_mask {lv : List (Option Value)} (lv' : List (Option Value)) (h : ∀ (i : Nat) (v : Value), lv'[i]? = some (some v) → lv[i]? = some (some v)) (kk : WL p l e s m below meth c b G pc lv' st μ) : WL p l e s m below meth c b G pc lv st μ :=
  fun H locs ls hP hS hl => kk H locs ls hP hS ⟨hl.1, hl.2.1, fun i v hi => hl.2.2 i v (h i v hi)⟩
theorem wl_frg (bs : List Bool) (kk : WL p l e s m below meth c b G pc (frg lv bs) st μ) : WL p l e s m below meth c b G pc lv st μ := wl_mask _ (frg_get lv bs) kk
theorem wl_cell {k : Int32} (C : LK p s m meth c b L xs G) (j : Nat) (hd : decode cL_law pc = .ok (.invokestatic 23, 3)) (hk : k = nI j) (hj : j < 2 ^ 30) (hcat : catS st ≤ 8) (kk : ∀ v : Int32, WL p l e s m below meth c b G (pc + 3) lv (.int v :: st) μ) : WL p l e s m below meth c b G pc lv (.int k :: .ref 75 :: st) μ := by
  intro H locs ls hP hS hl
  subst hk
  show W p l e room_1 s m #[Value.ref b] below meth c H locs 100 8000 (lw_Z below #[Value.ref b] s) (F0 m pc ls (.int (nI j) :: .ref (G.2.1 75) :: st.map (trV G)))
  rw [C.2.2.2.2.2]
  exact w_cell (Nat.le_of_ble_eq_true rfl) (Nat.le_of_ble_eq_true rfl) C.1 C.2.1 hS hl.1 hj (by rw [catS_eq]; exact hcat) hd (fun v => kk v H locs ls hP hS hl)
theorem wl_up {x : Int32} {q : Nat} (C : LK p s m meth c b L xs G) (hd : decode cL_law pc = .ok (.invokestatic 29, 3)) (h0 : 0 < q) (hq : q < 2 ^ 31) (hcat : catS st ≤ 8) (kk : ∀ r, r < q → WL p l e s m below meth c b G (pc + 3) lv (.int (nI r) :: st) μ) : WL p l e s m below meth c b G pc lv (.int (nI q) :: .int x :: st) μ :=
  fun H locs ls hP hS hl => w_up (Nat.le_of_ble_eq_true rfl) (Nat.le_of_ble_eq_true rfl) C.1 hl.1 h0 hq (by rw [catS_eq]; exact hcat) hd (fun r hr => kk r hr H locs ls hP hS hl)
theorem wl_run {H : Heap} {locs : List Loc} {ls : Array Slot} {st0 rest : List Value} {a : Array Value} {Q' : QM} (C : LK p s m meth c b L xs G)
    (hr : va_Run p l e room_1 s m #[Value.ref b] below meth c H locs 100 8000 0 0 (F0 m pc ls st0) rest (wQ G Q' H.size a) (wA G H.size)) (hS : va_S (fun q : Nat => s.heap.size ≤ q) s.heap H locs)
    (kk : ∀ (r : Option Value) (μ' : Mem) (H1 : Heap) (locs1 : List Loc), Q' r μ' → wP G μ' H1 → va_S (fun q : Nat => s.heap.size ≤ q) s.heap H1 locs1 → W p l e room_1 s m #[Value.ref b] below meth c H1 locs1 100 8000 (lw_Z below #[Value.ref b] s) (F0 m (pc + 3) ls ((r.map (trV G)).toList ++ rest))) : W p l e room_1 s m #[Value.ref b] below meth c H locs 100 8000 (lw_Z below #[Value.ref b] s) (F0 m pc ls st0) := by
  intro T hT X
  obtain ⟨v, st₀, t, T', LL, h0, X', hL, e1, e2, ⟨⟨r, μ', hv, hq, hp⟩, hz, hk⟩, st⟩ := hr T hT X
  cases hv
  rw [h0] at hz hk
  have hm : ∀ q, wA G H.size q → s.heap.size ≤ q := fun q h => by
    rcases h with ⟨t0, ht0, rfl⟩ | h
    · exact C.2.2.2.2.1 t0 ht0
    · exact Nat.le_trans hS.1 h
  obtain ⟨t2, a1, b1⟩ := kk r μ' T'.heap (locs ++ LL) hq (by rw [e1]; exact hp)
    ⟨Nat.le_trans hS.1 (by rw [e1]; exact hz), fun q h1 h2 => by rw [e1, hk q (Nat.lt_of_lt_of_le h1 hS.1) (fun z => h2 (hm q z))]; exact hS.2.1 q h1 h2, fun q hq => by
      rcases List.mem_append.mp hq with h | h
      · exact hS.2.2 q h
      · exact hm _ (hL q h)⟩ T' rfl X'
  exact ⟨t2, st t2 a1, b1⟩
theorem wl_callV {t ci n idx : Nat} {as rest : List Value} {sl : List Value} {stk : List Value} (C : LK p s m meth c b L xs G) (hd : decode cL_law pc = .ok (.invokevirtual idx, 3)) (hlink : Cond.methodLink RL idx k'.1 ∈ wT) (hk : lkV k' n) (hsh : shp t = .inr (ci, sl)) (hcl : (vwCl[ci]?).map (fun q => q.1) = some k'.1.cls) (hml : k'.2.2.1 ≤ 21) (hst : stk = as.reverse ++ .ref t :: rest) (hlen : as.length = n) (hcat : catS rest ≤ 8) (hM : MW k' 4 (.ref t :: as) μ (fun r μ' => WL p l e s m below meth c b G (pc + 3) lv (r.toList ++ rest) μ')) : WL p l e s m below meth c b G pc lv stk μ := by
  intro H locs ls hP hS hl
  obtain ⟨⟨h1, h2, h3, h4, h5⟩, h6, h7⟩ := hk
  have hts := C.1.2.2.2.2.2.1
  have hK := C.2.2.2.1
  subst hst
  have hG : GoodIn lw_tbl (wsV RL idx k'.1.cls k'.1 (wsM k')) := good_app (fun w hw => by
    simp only [List.mem_cons, List.not_mem_nil, or_false] at hw
    rcases hw with rfl | rfl | rfl | rfl <;> assumption) (fun w h => wT_tbl h) (by
    intro w hw
    rcases List.mem_cons.mp hw with rfl | hw
    · exact ⟨wT_tbl h2, wT_good h2⟩
    · exact ⟨wT_tbl hw, wT_good hw⟩)
  obtain ⟨qc, hqc, hqn⟩ : ∃ qc : vw_C, vwCl[ci]? = some qc ∧ qc.1 = k'.1.cls := by
    cases hv : vwCl[ci]? with
    | none => rw [hv] at hcl; cases hcl
    | some qc => rw [hv] at hcl; exact ⟨qc, rfl, Option.some.inj hcl⟩
  have hrun := va_runV (l := l) (e := e) (below := below) (meth := meth) (locs := locs) (cells := 100) (slots := 8000) (R := room_1) (ret := k'.2.2.2) (As := as.map (trV G)) (rest := rest.map (trV G)) (g := F0 m pc ls ((as.reverse ++ .ref t :: rest).map (trV G))) (b := G.2.1 t) ⟨C.1.1, C.1.2.1, C.1.2.2.2.1, C.1.2.2.2.2.1, hts⟩ (hM l G H.size C.2.2.1)
    (cwV n hts hG rfl rfl rfl ⟨rfl, h3, h4, h5⟩ ⟨Nat.le_of_ble_eq_true rfl, by show 8 + (k'.2.2.1 + 11) + 40 * 4 ≤ 230; omega⟩)
    ⟨blind_pc, by have := va_recv hK.1 hP hqc (ws_r hsh); rw [hqn] at this; exact this, fun U hU hW => ⟨rfl, by rw [hU], by rw [hU]; exact hP, hK.warm hW⟩⟩
    rfl (by rw [List.length_map]; exact hlen) hl.1 (by simp [trV]) (lv_room (by rw [catS_eq]; exact hcat)) hd ⟨Nat.le_of_ble_eq_true rfl, Nat.le_of_ble_eq_true rfl⟩
  refine wl_run C hrun hS (fun r μ' H1 locs1 hq hP1 hS1 => ?_)
  rw [toL_map]
  exact hq.1 H1 locs1 ls hP1 hS1 hl
theorem wl_callS {n idx : Nat} {as rest : List Value} {stk : List Value} (C : LK p s m meth c b L xs G) (hd : decode cL_law pc = .ok (.invokestatic idx, 3)) (hlink : Cond.methodLink RL idx k'.1 ∈ wT) (hk : lkS k' n) (hml : k'.2.2.1 ≤ 21) (hst : stk = as.reverse ++ rest) (hlen : as.length = n) (hcat : catS rest ≤ 8) (hM : MW k' 4 as μ (fun r μ' => WL p l e s m below meth c b G (pc + 3) lv (r.toList ++ rest) μ')) : WL p l e s m below meth c b G pc lv stk μ := by
  intro H locs ls hP hS hl
  have hts := C.1.2.2.2.2.2.1
  have hK := C.2.2.2.1
  subst hst
  have hrun := va_runS (l := l) (e := e) (below := below) (meth := meth) (locs := locs) (cells := 100) (slots := 8000) (R := room_1) (ret := k'.2.2.2) (As := as.map (trV G)) (rest := rest.map (trV G)) (g := F0 m pc ls ((as.reverse ++ rest).map (trV G))) ⟨C.1.1, C.1.2.1, C.1.2.2.2.1, C.1.2.2.2.2.1, hts⟩ (hM l G H.size C.2.2.1)
    (va_cwS n hts (good_S hlink hk) rfl rfl rfl ⟨hk.1.2.2.1, hk.1.2.2.2.1, hk.1.2.2.2.2⟩ ⟨Nat.le_of_ble_eq_true rfl, by show 8 + (k'.2.2.1 + 11) + 40 * 4 ≤ 230; omega⟩)
    ⟨blind_pc, fun U hU hW => ⟨rfl, by rw [hU], by rw [hU]; exact hP, hK.warm hW⟩⟩
    rfl (by rw [List.length_map]; exact hlen) hl.1 (by simp) (lv_room (by rw [catS_eq]; exact hcat)) hd ⟨Nat.le_of_ble_eq_true rfl, Nat.le_of_ble_eq_true rfl⟩
  refine wl_run C hrun hS (fun r μ' H1 locs1 hq hP1 hS1 => ?_)
  rw [toL_map]
  exact hq.1 H1 locs1 ls hP1 hS1 hl
theorem wl_lald {t n : Nat} {i : Int32} (C : LK p s m meth c b L xs G) (j : Nat) (hd : decode cL_law pc = .ok (.laload, 1)) (hsh : shp t = .inl (2, n)) (hi : i = nI j) (hj : j < n) (kk : WL p l e s m below meth c b G (pc + 1) lv (.long (μ.2 t j) :: st) μ) : WL p l e s m below meth c b G pc lv (.int i :: .ref t :: st) μ := by
  intro H locs ls hP hS hl
  have hn := shp_n hsh
  have e2 : (nI j).toNatClampNeg = j := nI_clamp (by omega)
  subst hi
  refine va_lald C.1.1 C.1.2.1 C.2.2.2.1.1 hP t 2 (ws_aL hsh) rfl (vp_in_nI hj (by omega)) hd ?_
  rw [e2]
  exact kk H locs ls hP hS hl
theorem wl_last {t n : Nat} {i : Int32} {x : Int64} (C : LK p s m meth c b L xs G) (j : Nat) (hd : decode cL_law pc = .ok (.lastore, 1)) (hsh : shp t = .inl (2, n)) (hi : i = nI j) (hj : j < n) (kk : WL p l e s m below meth c b G (pc + 1) lv st (sL μ t j x)) : WL p l e s m below meth c b G pc lv (.long x :: .int i :: .ref t :: st) μ := by
  intro H locs ls hP hS hl
  have hn := shp_n hsh
  have e2 : (nI j).toNatClampNeg = j := nI_clamp (by omega)
  subst hi
  refine va_last C.1.1 C.1.2.1 C.2.2.2.1.1 hP C.D hS t 2 (ws_aL hsh) rfl (vp_in_nI hj (by omega)) hd (fun H1 locs1 hP1 _ hS1 => ?_)
  rw [e2, ws_bL hsh, sL_bL] at hP1
  exact kk H1 locs1 ls hP1 hS1 hl
theorem wl_end (C : LK p s m meth c b L xs G) : WL p l e s m below meth c b G 567 lv [] μ := by
  intro H locs ls hP hS hl
  refine lv_iconst (v := 1) C.1.1 C.1.2.1 dL_law_567 (by decide) ?_
  refine va_forget (fun q hq => hS.2.2 q hq) ?_
  refine W.widen (k := 600000) (n := 7302250) (Nat.le_of_ble_eq_true rfl) (Nat.le_of_ble_eq_true rfl) ?_
  exact lw_ret C.1.1 C.1.2.1 C.1.2.2.1 C.1.2.2.2.2.2.2.2.2.1 dL_law_568
theorem wl_callV1 {t ci idx : Nat} {a1 : Value} {rest sl : List Value} (C : LK p s m meth c b L xs G) (hd : decode cL_law pc = .ok (.invokevirtual idx, 3)) (hlink : Cond.methodLink RL idx k'.1 ∈ wT) (hk : lkV k' 1) (hsh : shp t = .inr (ci, sl)) (hcl : (vwCl[ci]?).map (fun q => q.1) = some k'.1.cls) (hml : k'.2.2.1 ≤ 21) (hcat : catS rest ≤ 8) (hM : MW k' 4 (.ref t :: [a1]) μ (fun r μ' => WL p l e s m below meth c b G (pc + 3) lv (r.toList ++ rest) μ')) : WL p l e s m below meth c b G pc lv (a1 :: .ref t :: rest) μ :=
  wl_callV (as := [a1]) C hd hlink hk hsh hcl hml rfl rfl hcat hM
theorem wl_callV2 {t ci idx : Nat} {a1 a2 : Value} {rest sl : List Value} (C : LK p s m meth c b L xs G) (hd : decode cL_law pc = .ok (.invokevirtual idx, 3)) (hlink : Cond.methodLink RL idx k'.1 ∈ wT) (hk : lkV k' 2) (hsh : shp t = .inr (ci, sl)) (hcl : (vwCl[ci]?).map (fun q => q.1) = some k'.1.cls) (hml : k'.2.2.1 ≤ 21) (hcat : catS rest ≤ 8) (hM : MW k' 4 (.ref t :: [a1, a2]) μ (fun r μ' => WL p l e s m below meth c b G (pc + 3) lv (r.toList ++ rest) μ')) : WL p l e s m below meth c b G pc lv (a2 :: a1 :: .ref t :: rest) μ :=
  wl_callV (as := [a1, a2]) C hd hlink hk hsh hcl hml rfl rfl hcat hM
theorem wl_callV3 {t ci idx : Nat} {a1 a2 a3 : Value} {rest sl : List Value} (C : LK p s m meth c b L xs G) (hd : decode cL_law pc = .ok (.invokevirtual idx, 3)) (hlink : Cond.methodLink RL idx k'.1 ∈ wT) (hk : lkV k' 3) (hsh : shp t = .inr (ci, sl)) (hcl : (vwCl[ci]?).map (fun q => q.1) = some k'.1.cls) (hml : k'.2.2.1 ≤ 21) (hcat : catS rest ≤ 8) (hM : MW k' 4 (.ref t :: [a1, a2, a3]) μ (fun r μ' => WL p l e s m below meth c b G (pc + 3) lv (r.toList ++ rest) μ')) : WL p l e s m below meth c b G pc lv (a3 :: a2 :: a1 :: .ref t :: rest) μ :=
  wl_callV (as := [a1, a2, a3]) C hd hlink hk hsh hcl hml rfl rfl hcat hM
theorem wl_callV4 {t ci idx : Nat} {a1 a2 a3 a4 : Value} {rest sl : List Value} (C : LK p s m meth c b L xs G) (hd : decode cL_law pc = .ok (.invokevirtual idx, 3)) (hlink : Cond.methodLink RL idx k'.1 ∈ wT) (hk : lkV k' 4) (hsh : shp t = .inr (ci, sl)) (hcl : (vwCl[ci]?).map (fun q => q.1) = some k'.1.cls) (hml : k'.2.2.1 ≤ 21) (hcat : catS rest ≤ 8) (hM : MW k' 4 (.ref t :: [a1, a2, a3, a4]) μ (fun r μ' => WL p l e s m below meth c b G (pc + 3) lv (r.toList ++ rest) μ')) : WL p l e s m below meth c b G pc lv (a4 :: a3 :: a2 :: a1 :: .ref t :: rest) μ :=
  wl_callV (as := [a1, a2, a3, a4]) C hd hlink hk hsh hcl hml rfl rfl hcat hM
theorem wl_callS5 {idx : Nat} {a1 a2 a3 a4 a5 : Value} {rest : List Value} (C : LK p s m meth c b L xs G) (hd : decode cL_law pc = .ok (.invokestatic idx, 3)) (hlink : Cond.methodLink RL idx k'.1 ∈ wT) (hk : lkS k' 5) (hml : k'.2.2.1 ≤ 21) (hcat : catS rest ≤ 8) (hM : MW k' 4 [a1, a2, a3, a4, a5] μ (fun r μ' => WL p l e s m below meth c b G (pc + 3) lv (r.toList ++ rest) μ')) : WL p l e s m below meth c b G pc lv (a5 :: a4 :: a3 :: a2 :: a1 :: rest) μ :=
  wl_callS (as := [a1, a2, a3, a4, a5]) C hd hlink hk hml rfl rfl hcat hM
theorem wl_iadd {x y : Int32} (C : LK p s m meth c b L xs G) (hd : decode cL_law pc = .ok (.iadd, 1)) (kk : WL p l e s m below meth c b G (pc + 1) lv (.int (x + y) :: st) μ) : WL p l e s m below meth c b G pc lv (.int y :: .int x :: st) μ :=
  fun H locs ls hP hS hl => lv_iadd C.1.1 C.1.2.1 hd (kk H locs ls hP hS hl)
theorem wl_isub {x y : Int32} (C : LK p s m meth c b L xs G) (hd : decode cL_law pc = .ok (.isub, 1)) (kk : WL p l e s m below meth c b G (pc + 1) lv (.int (x - y) :: st) μ) : WL p l e s m below meth c b G pc lv (.int y :: .int x :: st) μ :=
  fun H locs ls hP hS hl => lv_isub C.1.1 C.1.2.1 hd (kk H locs ls hP hS hl)
theorem wl_ladd {x y : Int64} (C : LK p s m meth c b L xs G) (hd : decode cL_law pc = .ok (.ladd, 1)) (kk : WL p l e s m below meth c b G (pc + 1) lv (.long (x + y) :: st) μ) : WL p l e s m below meth c b G pc lv (.long y :: .long x :: st) μ :=
  fun H locs ls hP hS hl => lv_ladd C.1.1 C.1.2.1 hd (kk H locs ls hP hS hl)
theorem wl_lmul {x y : Int64} (C : LK p s m meth c b L xs G) (hd : decode cL_law pc = .ok (.lmul, 1)) (kk : WL p l e s m below meth c b G (pc + 1) lv (.long (x * y) :: st) μ) : WL p l e s m below meth c b G pc lv (.long y :: .long x :: st) μ :=
  fun H locs ls hP hS hl => lv_lmul C.1.1 C.1.2.1 hd (kk H locs ls hP hS hl)
theorem wl_i2l {x : Int32} (C : LK p s m meth c b L xs G) (hd : decode cL_law pc = .ok (.i2l, 1)) (kk : WL p l e s m below meth c b G (pc + 1) lv (.long x.toInt64 :: st) μ) : WL p l e s m below meth c b G pc lv (.int x :: st) μ :=
  fun H locs ls hP hS hl => lv_i2l C.1.1 C.1.2.1 hd rfl (kk H locs ls hP hS hl)
theorem wl_iconst {n : Int} (C : LK p s m meth c b L xs G) (v : Int32) (hd : decode cL_law pc = .ok (.iconst n, 1)) (hv : Int32.ofInt n = v) (kk : WL p l e s m below meth c b G (pc + 1) lv (.int v :: st) μ) : WL p l e s m below meth c b G pc lv st μ :=
  fun H locs ls hP hS hl => lv_iconst C.1.1 C.1.2.1 hd hv (kk H locs ls hP hS hl)
theorem wl_bipush {n : Int} (C : LK p s m meth c b L xs G) (v : Int32) (hd : decode cL_law pc = .ok (.bipush n, 2)) (hv : (Int8.ofInt n).toInt32 = v) (kk : WL p l e s m below meth c b G (pc + 2) lv (.int v :: st) μ) : WL p l e s m below meth c b G pc lv st μ :=
  fun H locs ls hP hS hl => lv_bipush C.1.1 C.1.2.1 hd hv (kk H locs ls hP hS hl)
theorem wl_sipush {n : Int} (C : LK p s m meth c b L xs G) (v : Int32) (hd : decode cL_law pc = .ok (.sipush n, 3)) (hv : (Int16.ofInt n).toInt32 = v) (kk : WL p l e s m below meth c b G (pc + 3) lv (.int v :: st) μ) : WL p l e s m below meth c b G pc lv st μ :=
  fun H locs ls hP hS hl => lv_sipush C.1.1 C.1.2.1 hd hv (kk H locs ls hP hS hl)
theorem wl_lconst {n : Fin 2} (C : LK p s m meth c b L xs G) (v : Int64) (hd : decode cL_law pc = .ok (.lconst n, 1)) (hv : Int64.ofNat (n : Nat) = v) (kk : WL p l e s m below meth c b G (pc + 1) lv (.long v :: st) μ) : WL p l e s m below meth c b G pc lv st μ :=
  fun H locs ls hP hS hl => lv_lconst C.1.1 C.1.2.1 hd hv (kk H locs ls hP hS hl)
theorem wl_iload_n {i : Fin 4} {x : Int32} (C : LK p s m meth c b L xs G) (hd : decode cL_law pc = .ok (.iload_n i, 1)) (hx : lv[(i : Nat)]? = some (some (.int x))) (kk : WL p l e s m below meth c b G (pc + 1) lv (.int x :: st) μ) : WL p l e s m below meth c b G pc lv st μ :=
  fun H locs ls hP hS hl => lv_iload_n C.1.1 C.1.2.1 hd rfl (hl.at hx) (kk H locs ls hP hS hl)
theorem wl_iload {i : Nat} {x : Int32} (C : LK p s m meth c b L xs G) (hd : decode cL_law pc = .ok (.iload i, 2)) (hx : lv[i]? = some (some (.int x))) (kk : WL p l e s m below meth c b G (pc + 2) lv (.int x :: st) μ) : WL p l e s m below meth c b G pc lv st μ :=
  fun H locs ls hP hS hl => lv_iload C.1.1 C.1.2.1 hd (hl.at hx) (kk H locs ls hP hS hl)
theorem wl_istore_n {i : Fin 4} {x : Int32} (C : LK p s m meth c b L xs G) (hd : decode cL_law pc = .ok (.istore_n i, 1)) (hi : (i : Nat) < 19) (kk : WL p l e s m below meth c b G (pc + 1) (stV lv i (.int x)) st μ) : WL p l e s m below meth c b G pc lv (.int x :: st) μ :=
  fun H locs ls hP hS hl => lv_istore_n C.1.1 C.1.2.1 hd rfl hl.has hi rfl (fun ls' hl' => kk H locs ls' hP hS (lvh_st (v := .int x) hl'))
theorem wl_istore {i : Nat} {x : Int32} (C : LK p s m meth c b L xs G) (hd : decode cL_law pc = .ok (.istore i, 2)) (hi : i < 19) (kk : WL p l e s m below meth c b G (pc + 2) (stV lv i (.int x)) st μ) : WL p l e s m below meth c b G pc lv (.int x :: st) μ :=
  fun H locs ls hP hS hl => lv_istore C.1.1 C.1.2.1 hd hl.has hi rfl (fun ls' hl' => kk H locs ls' hP hS (lvh_st (v := .int x) hl'))
theorem wl_lload_n {i : Fin 4} {x : Int64} (C : LK p s m meth c b L xs G) (hd : decode cL_law pc = .ok (.lload_n i, 1)) (hx : lv[(i : Nat)]? = some (some (.long x))) (kk : WL p l e s m below meth c b G (pc + 1) lv (.long x :: st) μ) : WL p l e s m below meth c b G pc lv st μ :=
  fun H locs ls hP hS hl => lv_lload_n C.1.1 C.1.2.1 hd rfl (hl.at hx) (kk H locs ls hP hS hl)
theorem wl_lload {i : Nat} {x : Int64} (C : LK p s m meth c b L xs G) (hd : decode cL_law pc = .ok (.lload i, 2)) (hx : lv[i]? = some (some (.long x))) (kk : WL p l e s m below meth c b G (pc + 2) lv (.long x :: st) μ) : WL p l e s m below meth c b G pc lv st μ :=
  fun H locs ls hP hS hl => lv_lload C.1.1 C.1.2.1 hd (hl.at hx) (kk H locs ls hP hS hl)
theorem wl_lstore_n {i : Fin 4} {x : Int64} (C : LK p s m meth c b L xs G) (hd : decode cL_law pc = .ok (.lstore_n i, 1)) (hi : (i : Nat) + 1 < 19) (kk : WL p l e s m below meth c b G (pc + 1) (stW lv i (.long x)) st μ) : WL p l e s m below meth c b G pc lv (.long x :: st) μ :=
  fun H locs ls hP hS hl => lv_lstore_n C.1.1 C.1.2.1 hd rfl hl.has hi rfl (fun ls' hl' => kk H locs ls' hP hS (lvh_sw (v := .long x) hl'))
theorem wl_lstore {i : Nat} {x : Int64} (C : LK p s m meth c b L xs G) (hd : decode cL_law pc = .ok (.lstore i, 2)) (hi : i + 1 < 19) (kk : WL p l e s m below meth c b G (pc + 2) (stW lv i (.long x)) st μ) : WL p l e s m below meth c b G pc lv (.long x :: st) μ :=
  fun H locs ls hP hS hl => lv_lstore C.1.1 C.1.2.1 hd hl.has hi rfl (fun ls' hl' => kk H locs ls' hP hS (lvh_sw (v := .long x) hl'))
theorem wl_aload_n {i : Fin 4} {x : Nat} (C : LK p s m meth c b L xs G) (hd : decode cL_law pc = .ok (.aload_n i, 1)) (hx : lv[(i : Nat)]? = some (some (.ref x))) (kk : WL p l e s m below meth c b G (pc + 1) lv (.ref x :: st) μ) : WL p l e s m below meth c b G pc lv st μ :=
  fun H locs ls hP hS hl => lv_aload_n C.1.1 C.1.2.1 hd rfl (hl.at hx) (kk H locs ls hP hS hl)
theorem wl_aload {i : Nat} {x : Nat} (C : LK p s m meth c b L xs G) (hd : decode cL_law pc = .ok (.aload i, 2)) (hx : lv[i]? = some (some (.ref x))) (kk : WL p l e s m below meth c b G (pc + 2) lv (.ref x :: st) μ) : WL p l e s m below meth c b G pc lv st μ :=
  fun H locs ls hP hS hl => lv_aload C.1.1 C.1.2.1 hd (hl.at hx) (kk H locs ls hP hS hl)
theorem wl_iinc {i : Nat} {n : Int} {x : Int32} (C : LK p s m meth c b L xs G) (v : Int32) (hd : decode cL_law pc = .ok (.iinc i n, 3)) (hx : lv[i]? = some (some (.int x))) (hv : Int32.ofInt n = v) (hi : i < 19) (kk : WL p l e s m below meth c b G (pc + 3) (stV lv i (.int (x + v))) st μ) : WL p l e s m below meth c b G pc lv st μ := by
  intro H locs ls hP hS hl
  obtain ⟨j, hj⟩ := List.getElem?_of_mem (aslF_mem (G := G) hx)
  exact lv_iinc C.1.1 C.1.2.1 hd hl.has (k := j) hj (by rw [hv]) hi rfl (fun ls' hl' => kk H locs ls' hP hS (lvh_st (v := .int (x + v)) hl'))
theorem wl_goto {off : Int} (C : LK p s m meth c b L xs G) (tgt : Nat) (hd : decode cL_law pc = .ok (.goto off, 3)) (ht : (pc : Int) + off = (tgt : Int)) (kk : WL p l e s m below meth c b G tgt lv st μ) : WL p l e s m below meth c b G pc lv st μ :=
  fun H locs ls hP hS hl => lv_goto C.1.1 C.1.2.1 hd ht (kk H locs ls hP hS hl)
theorem wl_if_eq {x : Int32} {off : Int} (C : LK p s m meth c b L xs G) (tgt : Nat) (hd : decode cL_law pc = .ok (.ifCond .eq off, 3)) (ht : (pc : Int) + off = (tgt : Int)) (kt : x.toInt = 0 → WL p l e s m below meth c b G tgt lv st μ) (kf : ¬ x.toInt = 0 → WL p l e s m below meth c b G (pc + 3) lv st μ) : WL p l e s m below meth c b G pc lv (.int x :: st) μ :=
  fun H locs ls hP hS hl => lv_if_eq C.1.1 C.1.2.1 hd ht (fun hh => kt (by first | simpa only [Int32.eq_toInt, z32] using hh | simpa [Int32.eq_toInt, z32] using hh) H locs ls hP hS hl) (fun hh => kf (by first | simpa only [Int32.eq_toInt, z32] using hh | simpa [Int32.eq_toInt, z32] using hh) H locs ls hP hS hl)
theorem wl_if_eqT {x : Int32} {off : Int} (C : LK p s m meth c b L xs G) (tgt : Nat) (hd : decode cL_law pc = .ok (.ifCond .eq off, 3)) (ht : (pc : Int) + off = (tgt : Int)) (h : x.toInt = 0) (kt : WL p l e s m below meth c b G tgt lv st μ) : WL p l e s m below meth c b G pc lv (.int x :: st) μ := wl_if_eq C tgt hd ht (fun _ => kt) (fun hh => absurd h hh)
theorem wl_if_eqF {x : Int32} {off : Int} (C : LK p s m meth c b L xs G) (tgt : Nat) (hd : decode cL_law pc = .ok (.ifCond .eq off, 3)) (ht : (pc : Int) + off = (tgt : Int)) (h : ¬ x.toInt = 0) (kf : WL p l e s m below meth c b G (pc + 3) lv st μ) : WL p l e s m below meth c b G pc lv (.int x :: st) μ := wl_if_eq C tgt hd ht (fun hh => absurd hh h) (fun _ => kf)
theorem wl_ic_eq {x y : Int32} {off : Int} (C : LK p s m meth c b L xs G) (tgt : Nat) (hd : decode cL_law pc = .ok (.if_icmp .eq off, 3)) (ht : (pc : Int) + off = (tgt : Int)) (kt : x.toInt = y.toInt → WL p l e s m below meth c b G tgt lv st μ) (kf : ¬ x.toInt = y.toInt → WL p l e s m below meth c b G (pc + 3) lv st μ) : WL p l e s m below meth c b G pc lv (.int y :: .int x :: st) μ :=
  fun H locs ls hP hS hl => lv_icmp_eq C.1.1 C.1.2.1 hd ht (fun hh => kt (by first | simpa only [Int32.eq_toInt, z32] using hh | simpa [Int32.eq_toInt, z32] using hh) H locs ls hP hS hl) (fun hh => kf (by first | simpa only [Int32.eq_toInt, z32] using hh | simpa [Int32.eq_toInt, z32] using hh) H locs ls hP hS hl)
theorem wl_ic_eqT {x y : Int32} {off : Int} (C : LK p s m meth c b L xs G) (tgt : Nat) (hd : decode cL_law pc = .ok (.if_icmp .eq off, 3)) (ht : (pc : Int) + off = (tgt : Int)) (h : x.toInt = y.toInt) (kt : WL p l e s m below meth c b G tgt lv st μ) : WL p l e s m below meth c b G pc lv (.int y :: .int x :: st) μ := wl_ic_eq C tgt hd ht (fun _ => kt) (fun hh => absurd h hh)
theorem wl_ic_eqF {x y : Int32} {off : Int} (C : LK p s m meth c b L xs G) (tgt : Nat) (hd : decode cL_law pc = .ok (.if_icmp .eq off, 3)) (ht : (pc : Int) + off = (tgt : Int)) (h : ¬ x.toInt = y.toInt) (kf : WL p l e s m below meth c b G (pc + 3) lv st μ) : WL p l e s m below meth c b G pc lv (.int y :: .int x :: st) μ := wl_ic_eq C tgt hd ht (fun hh => absurd hh h) (fun _ => kf)
theorem wl_if_ne {x : Int32} {off : Int} (C : LK p s m meth c b L xs G) (tgt : Nat) (hd : decode cL_law pc = .ok (.ifCond .ne off, 3)) (ht : (pc : Int) + off = (tgt : Int)) (kt : ¬ x.toInt = 0 → WL p l e s m below meth c b G tgt lv st μ) (kf : ¬ ¬ x.toInt = 0 → WL p l e s m below meth c b G (pc + 3) lv st μ) : WL p l e s m below meth c b G pc lv (.int x :: st) μ :=
  fun H locs ls hP hS hl => lv_if_ne C.1.1 C.1.2.1 hd ht (fun hh => kt (by first | simpa only [Int32.eq_toInt, z32] using hh | simpa [Int32.eq_toInt, z32] using hh) H locs ls hP hS hl) (fun hh => kf (by first | simpa only [Int32.eq_toInt, z32] using hh | simpa [Int32.eq_toInt, z32] using hh) H locs ls hP hS hl)
theorem wl_if_neT {x : Int32} {off : Int} (C : LK p s m meth c b L xs G) (tgt : Nat) (hd : decode cL_law pc = .ok (.ifCond .ne off, 3)) (ht : (pc : Int) + off = (tgt : Int)) (h : ¬ x.toInt = 0) (kt : WL p l e s m below meth c b G tgt lv st μ) : WL p l e s m below meth c b G pc lv (.int x :: st) μ := wl_if_ne C tgt hd ht (fun _ => kt) (fun hh => absurd h hh)
theorem wl_if_neF {x : Int32} {off : Int} (C : LK p s m meth c b L xs G) (tgt : Nat) (hd : decode cL_law pc = .ok (.ifCond .ne off, 3)) (ht : (pc : Int) + off = (tgt : Int)) (h : ¬ ¬ x.toInt = 0) (kf : WL p l e s m below meth c b G (pc + 3) lv st μ) : WL p l e s m below meth c b G pc lv (.int x :: st) μ := wl_if_ne C tgt hd ht (fun hh => absurd hh h) (fun _ => kf)
theorem wl_ic_ne {x y : Int32} {off : Int} (C : LK p s m meth c b L xs G) (tgt : Nat) (hd : decode cL_law pc = .ok (.if_icmp .ne off, 3)) (ht : (pc : Int) + off = (tgt : Int)) (kt : ¬ x.toInt = y.toInt → WL p l e s m below meth c b G tgt lv st μ) (kf : ¬ ¬ x.toInt = y.toInt → WL p l e s m below meth c b G (pc + 3) lv st μ) : WL p l e s m below meth c b G pc lv (.int y :: .int x :: st) μ :=
  fun H locs ls hP hS hl => lv_icmp_ne C.1.1 C.1.2.1 hd ht (fun hh => kt (by first | simpa only [Int32.eq_toInt, z32] using hh | simpa [Int32.eq_toInt, z32] using hh) H locs ls hP hS hl) (fun hh => kf (by first | simpa only [Int32.eq_toInt, z32] using hh | simpa [Int32.eq_toInt, z32] using hh) H locs ls hP hS hl)
theorem wl_ic_neT {x y : Int32} {off : Int} (C : LK p s m meth c b L xs G) (tgt : Nat) (hd : decode cL_law pc = .ok (.if_icmp .ne off, 3)) (ht : (pc : Int) + off = (tgt : Int)) (h : ¬ x.toInt = y.toInt) (kt : WL p l e s m below meth c b G tgt lv st μ) : WL p l e s m below meth c b G pc lv (.int y :: .int x :: st) μ := wl_ic_ne C tgt hd ht (fun _ => kt) (fun hh => absurd h hh)
theorem wl_ic_neF {x y : Int32} {off : Int} (C : LK p s m meth c b L xs G) (tgt : Nat) (hd : decode cL_law pc = .ok (.if_icmp .ne off, 3)) (ht : (pc : Int) + off = (tgt : Int)) (h : ¬ ¬ x.toInt = y.toInt) (kf : WL p l e s m below meth c b G (pc + 3) lv st μ) : WL p l e s m below meth c b G pc lv (.int y :: .int x :: st) μ := wl_ic_ne C tgt hd ht (fun hh => absurd hh h) (fun _ => kf)
theorem wl_if_lt {x : Int32} {off : Int} (C : LK p s m meth c b L xs G) (tgt : Nat) (hd : decode cL_law pc = .ok (.ifCond .lt off, 3)) (ht : (pc : Int) + off = (tgt : Int)) (kt : x.toInt < 0 → WL p l e s m below meth c b G tgt lv st μ) (kf : ¬ x.toInt < 0 → WL p l e s m below meth c b G (pc + 3) lv st μ) : WL p l e s m below meth c b G pc lv (.int x :: st) μ :=
  fun H locs ls hP hS hl => lv_if_lt C.1.1 C.1.2.1 hd ht (fun hh => kt (by first | simpa only [Int32.lt_iff_toInt_lt, z32] using hh | simpa [Int32.lt_iff_toInt_lt, z32] using hh) H locs ls hP hS hl) (fun hh => kf (by first | simpa only [Int32.lt_iff_toInt_lt, z32] using hh | simpa [Int32.lt_iff_toInt_lt, z32] using hh) H locs ls hP hS hl)
theorem wl_if_ltT {x : Int32} {off : Int} (C : LK p s m meth c b L xs G) (tgt : Nat) (hd : decode cL_law pc = .ok (.ifCond .lt off, 3)) (ht : (pc : Int) + off = (tgt : Int)) (h : x.toInt < 0) (kt : WL p l e s m below meth c b G tgt lv st μ) : WL p l e s m below meth c b G pc lv (.int x :: st) μ := wl_if_lt C tgt hd ht (fun _ => kt) (fun hh => absurd h hh)
theorem wl_if_ltF {x : Int32} {off : Int} (C : LK p s m meth c b L xs G) (tgt : Nat) (hd : decode cL_law pc = .ok (.ifCond .lt off, 3)) (ht : (pc : Int) + off = (tgt : Int)) (h : ¬ x.toInt < 0) (kf : WL p l e s m below meth c b G (pc + 3) lv st μ) : WL p l e s m below meth c b G pc lv (.int x :: st) μ := wl_if_lt C tgt hd ht (fun hh => absurd hh h) (fun _ => kf)
theorem wl_ic_lt {x y : Int32} {off : Int} (C : LK p s m meth c b L xs G) (tgt : Nat) (hd : decode cL_law pc = .ok (.if_icmp .lt off, 3)) (ht : (pc : Int) + off = (tgt : Int)) (kt : x.toInt < y.toInt → WL p l e s m below meth c b G tgt lv st μ) (kf : ¬ x.toInt < y.toInt → WL p l e s m below meth c b G (pc + 3) lv st μ) : WL p l e s m below meth c b G pc lv (.int y :: .int x :: st) μ :=
  fun H locs ls hP hS hl => lv_icmp_lt C.1.1 C.1.2.1 hd ht (fun hh => kt (by first | simpa only [Int32.lt_iff_toInt_lt, z32] using hh | simpa [Int32.lt_iff_toInt_lt, z32] using hh) H locs ls hP hS hl) (fun hh => kf (by first | simpa only [Int32.lt_iff_toInt_lt, z32] using hh | simpa [Int32.lt_iff_toInt_lt, z32] using hh) H locs ls hP hS hl)
theorem wl_ic_ltT {x y : Int32} {off : Int} (C : LK p s m meth c b L xs G) (tgt : Nat) (hd : decode cL_law pc = .ok (.if_icmp .lt off, 3)) (ht : (pc : Int) + off = (tgt : Int)) (h : x.toInt < y.toInt) (kt : WL p l e s m below meth c b G tgt lv st μ) : WL p l e s m below meth c b G pc lv (.int y :: .int x :: st) μ := wl_ic_lt C tgt hd ht (fun _ => kt) (fun hh => absurd h hh)
theorem wl_ic_ltF {x y : Int32} {off : Int} (C : LK p s m meth c b L xs G) (tgt : Nat) (hd : decode cL_law pc = .ok (.if_icmp .lt off, 3)) (ht : (pc : Int) + off = (tgt : Int)) (h : ¬ x.toInt < y.toInt) (kf : WL p l e s m below meth c b G (pc + 3) lv st μ) : WL p l e s m below meth c b G pc lv (.int y :: .int x :: st) μ := wl_ic_lt C tgt hd ht (fun hh => absurd hh h) (fun _ => kf)
theorem wl_if_ge {x : Int32} {off : Int} (C : LK p s m meth c b L xs G) (tgt : Nat) (hd : decode cL_law pc = .ok (.ifCond .ge off, 3)) (ht : (pc : Int) + off = (tgt : Int)) (kt : 0 ≤ x.toInt → WL p l e s m below meth c b G tgt lv st μ) (kf : ¬ 0 ≤ x.toInt → WL p l e s m below meth c b G (pc + 3) lv st μ) : WL p l e s m below meth c b G pc lv (.int x :: st) μ :=
  fun H locs ls hP hS hl => lv_if_ge C.1.1 C.1.2.1 hd ht (fun hh => kt (by first | simpa only [Int32.le_iff_toInt_le, z32] using hh | simpa [Int32.le_iff_toInt_le, z32] using hh) H locs ls hP hS hl) (fun hh => kf (by first | simpa only [Int32.le_iff_toInt_le, z32] using hh | simpa [Int32.le_iff_toInt_le, z32] using hh) H locs ls hP hS hl)
theorem wl_if_geT {x : Int32} {off : Int} (C : LK p s m meth c b L xs G) (tgt : Nat) (hd : decode cL_law pc = .ok (.ifCond .ge off, 3)) (ht : (pc : Int) + off = (tgt : Int)) (h : 0 ≤ x.toInt) (kt : WL p l e s m below meth c b G tgt lv st μ) : WL p l e s m below meth c b G pc lv (.int x :: st) μ := wl_if_ge C tgt hd ht (fun _ => kt) (fun hh => absurd h hh)
theorem wl_if_geF {x : Int32} {off : Int} (C : LK p s m meth c b L xs G) (tgt : Nat) (hd : decode cL_law pc = .ok (.ifCond .ge off, 3)) (ht : (pc : Int) + off = (tgt : Int)) (h : ¬ 0 ≤ x.toInt) (kf : WL p l e s m below meth c b G (pc + 3) lv st μ) : WL p l e s m below meth c b G pc lv (.int x :: st) μ := wl_if_ge C tgt hd ht (fun hh => absurd hh h) (fun _ => kf)
theorem wl_ic_ge {x y : Int32} {off : Int} (C : LK p s m meth c b L xs G) (tgt : Nat) (hd : decode cL_law pc = .ok (.if_icmp .ge off, 3)) (ht : (pc : Int) + off = (tgt : Int)) (kt : y.toInt ≤ x.toInt → WL p l e s m below meth c b G tgt lv st μ) (kf : ¬ y.toInt ≤ x.toInt → WL p l e s m below meth c b G (pc + 3) lv st μ) : WL p l e s m below meth c b G pc lv (.int y :: .int x :: st) μ :=
  fun H locs ls hP hS hl => lv_icmp_ge C.1.1 C.1.2.1 hd ht (fun hh => kt (by first | simpa only [Int32.le_iff_toInt_le, z32] using hh | simpa [Int32.le_iff_toInt_le, z32] using hh) H locs ls hP hS hl) (fun hh => kf (by first | simpa only [Int32.le_iff_toInt_le, z32] using hh | simpa [Int32.le_iff_toInt_le, z32] using hh) H locs ls hP hS hl)
theorem wl_ic_geT {x y : Int32} {off : Int} (C : LK p s m meth c b L xs G) (tgt : Nat) (hd : decode cL_law pc = .ok (.if_icmp .ge off, 3)) (ht : (pc : Int) + off = (tgt : Int)) (h : y.toInt ≤ x.toInt) (kt : WL p l e s m below meth c b G tgt lv st μ) : WL p l e s m below meth c b G pc lv (.int y :: .int x :: st) μ := wl_ic_ge C tgt hd ht (fun _ => kt) (fun hh => absurd h hh)
theorem wl_ic_geF {x y : Int32} {off : Int} (C : LK p s m meth c b L xs G) (tgt : Nat) (hd : decode cL_law pc = .ok (.if_icmp .ge off, 3)) (ht : (pc : Int) + off = (tgt : Int)) (h : ¬ y.toInt ≤ x.toInt) (kf : WL p l e s m below meth c b G (pc + 3) lv st μ) : WL p l e s m below meth c b G pc lv (.int y :: .int x :: st) μ := wl_ic_ge C tgt hd ht (fun hh => absurd hh h) (fun _ => kf)
theorem wl_if_gt {x : Int32} {off : Int} (C : LK p s m meth c b L xs G) (tgt : Nat) (hd : decode cL_law pc = .ok (.ifCond .gt off, 3)) (ht : (pc : Int) + off = (tgt : Int)) (kt : 0 < x.toInt → WL p l e s m below meth c b G tgt lv st μ) (kf : ¬ 0 < x.toInt → WL p l e s m below meth c b G (pc + 3) lv st μ) : WL p l e s m below meth c b G pc lv (.int x :: st) μ :=
  fun H locs ls hP hS hl => lv_if_gt C.1.1 C.1.2.1 hd ht (fun hh => kt (by first | simpa only [Int32.lt_iff_toInt_lt, z32] using hh | simpa [Int32.lt_iff_toInt_lt, z32] using hh) H locs ls hP hS hl) (fun hh => kf (by first | simpa only [Int32.lt_iff_toInt_lt, z32] using hh | simpa [Int32.lt_iff_toInt_lt, z32] using hh) H locs ls hP hS hl)
theorem wl_if_gtT {x : Int32} {off : Int} (C : LK p s m meth c b L xs G) (tgt : Nat) (hd : decode cL_law pc = .ok (.ifCond .gt off, 3)) (ht : (pc : Int) + off = (tgt : Int)) (h : 0 < x.toInt) (kt : WL p l e s m below meth c b G tgt lv st μ) : WL p l e s m below meth c b G pc lv (.int x :: st) μ := wl_if_gt C tgt hd ht (fun _ => kt) (fun hh => absurd h hh)
theorem wl_if_gtF {x : Int32} {off : Int} (C : LK p s m meth c b L xs G) (tgt : Nat) (hd : decode cL_law pc = .ok (.ifCond .gt off, 3)) (ht : (pc : Int) + off = (tgt : Int)) (h : ¬ 0 < x.toInt) (kf : WL p l e s m below meth c b G (pc + 3) lv st μ) : WL p l e s m below meth c b G pc lv (.int x :: st) μ := wl_if_gt C tgt hd ht (fun hh => absurd hh h) (fun _ => kf)
theorem wl_ic_gt {x y : Int32} {off : Int} (C : LK p s m meth c b L xs G) (tgt : Nat) (hd : decode cL_law pc = .ok (.if_icmp .gt off, 3)) (ht : (pc : Int) + off = (tgt : Int)) (kt : y.toInt < x.toInt → WL p l e s m below meth c b G tgt lv st μ) (kf : ¬ y.toInt < x.toInt → WL p l e s m below meth c b G (pc + 3) lv st μ) : WL p l e s m below meth c b G pc lv (.int y :: .int x :: st) μ :=
  fun H locs ls hP hS hl => lv_icmp_gt C.1.1 C.1.2.1 hd ht (fun hh => kt (by first | simpa only [Int32.lt_iff_toInt_lt, z32] using hh | simpa [Int32.lt_iff_toInt_lt, z32] using hh) H locs ls hP hS hl) (fun hh => kf (by first | simpa only [Int32.lt_iff_toInt_lt, z32] using hh | simpa [Int32.lt_iff_toInt_lt, z32] using hh) H locs ls hP hS hl)
theorem wl_ic_gtT {x y : Int32} {off : Int} (C : LK p s m meth c b L xs G) (tgt : Nat) (hd : decode cL_law pc = .ok (.if_icmp .gt off, 3)) (ht : (pc : Int) + off = (tgt : Int)) (h : y.toInt < x.toInt) (kt : WL p l e s m below meth c b G tgt lv st μ) : WL p l e s m below meth c b G pc lv (.int y :: .int x :: st) μ := wl_ic_gt C tgt hd ht (fun _ => kt) (fun hh => absurd h hh)
theorem wl_ic_gtF {x y : Int32} {off : Int} (C : LK p s m meth c b L xs G) (tgt : Nat) (hd : decode cL_law pc = .ok (.if_icmp .gt off, 3)) (ht : (pc : Int) + off = (tgt : Int)) (h : ¬ y.toInt < x.toInt) (kf : WL p l e s m below meth c b G (pc + 3) lv st μ) : WL p l e s m below meth c b G pc lv (.int y :: .int x :: st) μ := wl_ic_gt C tgt hd ht (fun hh => absurd hh h) (fun _ => kf)
theorem wl_if_le {x : Int32} {off : Int} (C : LK p s m meth c b L xs G) (tgt : Nat) (hd : decode cL_law pc = .ok (.ifCond .le off, 3)) (ht : (pc : Int) + off = (tgt : Int)) (kt : x.toInt ≤ 0 → WL p l e s m below meth c b G tgt lv st μ) (kf : ¬ x.toInt ≤ 0 → WL p l e s m below meth c b G (pc + 3) lv st μ) : WL p l e s m below meth c b G pc lv (.int x :: st) μ :=
  fun H locs ls hP hS hl => lv_if_le C.1.1 C.1.2.1 hd ht (fun hh => kt (by first | simpa only [Int32.le_iff_toInt_le, z32] using hh | simpa [Int32.le_iff_toInt_le, z32] using hh) H locs ls hP hS hl) (fun hh => kf (by first | simpa only [Int32.le_iff_toInt_le, z32] using hh | simpa [Int32.le_iff_toInt_le, z32] using hh) H locs ls hP hS hl)
theorem wl_if_leT {x : Int32} {off : Int} (C : LK p s m meth c b L xs G) (tgt : Nat) (hd : decode cL_law pc = .ok (.ifCond .le off, 3)) (ht : (pc : Int) + off = (tgt : Int)) (h : x.toInt ≤ 0) (kt : WL p l e s m below meth c b G tgt lv st μ) : WL p l e s m below meth c b G pc lv (.int x :: st) μ := wl_if_le C tgt hd ht (fun _ => kt) (fun hh => absurd h hh)
theorem wl_if_leF {x : Int32} {off : Int} (C : LK p s m meth c b L xs G) (tgt : Nat) (hd : decode cL_law pc = .ok (.ifCond .le off, 3)) (ht : (pc : Int) + off = (tgt : Int)) (h : ¬ x.toInt ≤ 0) (kf : WL p l e s m below meth c b G (pc + 3) lv st μ) : WL p l e s m below meth c b G pc lv (.int x :: st) μ := wl_if_le C tgt hd ht (fun hh => absurd hh h) (fun _ => kf)
theorem wl_ic_le {x y : Int32} {off : Int} (C : LK p s m meth c b L xs G) (tgt : Nat) (hd : decode cL_law pc = .ok (.if_icmp .le off, 3)) (ht : (pc : Int) + off = (tgt : Int)) (kt : x.toInt ≤ y.toInt → WL p l e s m below meth c b G tgt lv st μ) (kf : ¬ x.toInt ≤ y.toInt → WL p l e s m below meth c b G (pc + 3) lv st μ) : WL p l e s m below meth c b G pc lv (.int y :: .int x :: st) μ :=
  fun H locs ls hP hS hl => lv_icmp_le C.1.1 C.1.2.1 hd ht (fun hh => kt (by first | simpa only [Int32.le_iff_toInt_le, z32] using hh | simpa [Int32.le_iff_toInt_le, z32] using hh) H locs ls hP hS hl) (fun hh => kf (by first | simpa only [Int32.le_iff_toInt_le, z32] using hh | simpa [Int32.le_iff_toInt_le, z32] using hh) H locs ls hP hS hl)
theorem wl_ic_leT {x y : Int32} {off : Int} (C : LK p s m meth c b L xs G) (tgt : Nat) (hd : decode cL_law pc = .ok (.if_icmp .le off, 3)) (ht : (pc : Int) + off = (tgt : Int)) (h : x.toInt ≤ y.toInt) (kt : WL p l e s m below meth c b G tgt lv st μ) : WL p l e s m below meth c b G pc lv (.int y :: .int x :: st) μ := wl_ic_le C tgt hd ht (fun _ => kt) (fun hh => absurd h hh)
theorem wl_ic_leF {x y : Int32} {off : Int} (C : LK p s m meth c b L xs G) (tgt : Nat) (hd : decode cL_law pc = .ok (.if_icmp .le off, 3)) (ht : (pc : Int) + off = (tgt : Int)) (h : ¬ x.toInt ≤ y.toInt) (kf : WL p l e s m below meth c b G (pc + 3) lv st μ) : WL p l e s m below meth c b G pc lv (.int y :: .int x :: st) μ := wl_ic_le C tgt hd ht (fun hh => absurd hh h) (fun _ => kf)
theorem wl_lcmp {x y : Int64} (C : LK p s m meth c b L xs G) (hd : decode cL_law pc = .ok (.lcmp, 1)) (kk : WL p l e s m below meth c b G (pc + 1) lv (.int (lg_cmp x y) :: st) μ) : WL p l e s m below meth c b G pc lv (.long y :: .long x :: st) μ :=
  fun H locs ls hP hS hl => W.lcmp C.1.1 C.1.2.1 hd (kk H locs ls hP hS hl)
theorem wl_lc_eq {x y : Int64} {off : Int} (C : LK p s m meth c b L xs G) (tgt : Nat) (hd : decode cL_law pc = .ok (.lcmp, 1)) (hd2 : decode cL_law (pc + 1) = .ok (.ifCond .eq off, 3)) (ht : ((pc + 1 : Nat) : Int) + off = (tgt : Int)) (kt : x.toInt = y.toInt → WL p l e s m below meth c b G tgt lv st μ) (kf : ¬ x.toInt = y.toInt → WL p l e s m below meth c b G (pc + 4) lv st μ) : WL p l e s m below meth c b G pc lv (.long y :: .long x :: st) μ :=
  wl_lcmp C hd (wl_if_eq C tgt hd2 ht (fun hh => kt (by rw [lgc_eq] at hh; exact hh)) (fun hh => kf (by rw [lgc_eq] at hh; exact hh)))
theorem wl_lc_eqT {x y : Int64} {off : Int} (C : LK p s m meth c b L xs G) (tgt : Nat) (hd : decode cL_law pc = .ok (.lcmp, 1)) (hd2 : decode cL_law (pc + 1) = .ok (.ifCond .eq off, 3)) (ht : ((pc + 1 : Nat) : Int) + off = (tgt : Int)) (h : x.toInt = y.toInt) (kt : WL p l e s m below meth c b G tgt lv st μ) : WL p l e s m below meth c b G pc lv (.long y :: .long x :: st) μ := wl_lc_eq C tgt hd hd2 ht (fun _ => kt) (fun hh => absurd h hh)
theorem wl_lc_eqF {x y : Int64} {off : Int} (C : LK p s m meth c b L xs G) (tgt : Nat) (hd : decode cL_law pc = .ok (.lcmp, 1)) (hd2 : decode cL_law (pc + 1) = .ok (.ifCond .eq off, 3)) (ht : ((pc + 1 : Nat) : Int) + off = (tgt : Int)) (h : ¬ x.toInt = y.toInt) (kf : WL p l e s m below meth c b G (pc + 4) lv st μ) : WL p l e s m below meth c b G pc lv (.long y :: .long x :: st) μ := wl_lc_eq C tgt hd hd2 ht (fun hh => absurd hh h) (fun _ => kf)
theorem wl_lc_ne {x y : Int64} {off : Int} (C : LK p s m meth c b L xs G) (tgt : Nat) (hd : decode cL_law pc = .ok (.lcmp, 1)) (hd2 : decode cL_law (pc + 1) = .ok (.ifCond .ne off, 3)) (ht : ((pc + 1 : Nat) : Int) + off = (tgt : Int)) (kt : ¬ x.toInt = y.toInt → WL p l e s m below meth c b G tgt lv st μ) (kf : ¬ ¬ x.toInt = y.toInt → WL p l e s m below meth c b G (pc + 4) lv st μ) : WL p l e s m below meth c b G pc lv (.long y :: .long x :: st) μ :=
  wl_lcmp C hd (wl_if_ne C tgt hd2 ht (fun hh => kt (by rw [lgc_eq] at hh; exact hh)) (fun hh => kf (by rw [lgc_eq] at hh; exact hh)))
theorem wl_lc_neT {x y : Int64} {off : Int} (C : LK p s m meth c b L xs G) (tgt : Nat) (hd : decode cL_law pc = .ok (.lcmp, 1)) (hd2 : decode cL_law (pc + 1) = .ok (.ifCond .ne off, 3)) (ht : ((pc + 1 : Nat) : Int) + off = (tgt : Int)) (h : ¬ x.toInt = y.toInt) (kt : WL p l e s m below meth c b G tgt lv st μ) : WL p l e s m below meth c b G pc lv (.long y :: .long x :: st) μ := wl_lc_ne C tgt hd hd2 ht (fun _ => kt) (fun hh => absurd h hh)
theorem wl_lc_neF {x y : Int64} {off : Int} (C : LK p s m meth c b L xs G) (tgt : Nat) (hd : decode cL_law pc = .ok (.lcmp, 1)) (hd2 : decode cL_law (pc + 1) = .ok (.ifCond .ne off, 3)) (ht : ((pc + 1 : Nat) : Int) + off = (tgt : Int)) (h : ¬ ¬ x.toInt = y.toInt) (kf : WL p l e s m below meth c b G (pc + 4) lv st μ) : WL p l e s m below meth c b G pc lv (.long y :: .long x :: st) μ := wl_lc_ne C tgt hd hd2 ht (fun hh => absurd hh h) (fun _ => kf)
theorem wl_lc_lt {x y : Int64} {off : Int} (C : LK p s m meth c b L xs G) (tgt : Nat) (hd : decode cL_law pc = .ok (.lcmp, 1)) (hd2 : decode cL_law (pc + 1) = .ok (.ifCond .lt off, 3)) (ht : ((pc + 1 : Nat) : Int) + off = (tgt : Int)) (kt : x.toInt < y.toInt → WL p l e s m below meth c b G tgt lv st μ) (kf : ¬ x.toInt < y.toInt → WL p l e s m below meth c b G (pc + 4) lv st μ) : WL p l e s m below meth c b G pc lv (.long y :: .long x :: st) μ :=
  wl_lcmp C hd (wl_if_lt C tgt hd2 ht (fun hh => kt (by rw [lgc_lt] at hh; exact hh)) (fun hh => kf (by rw [lgc_lt] at hh; exact hh)))
theorem wl_lc_ltT {x y : Int64} {off : Int} (C : LK p s m meth c b L xs G) (tgt : Nat) (hd : decode cL_law pc = .ok (.lcmp, 1)) (hd2 : decode cL_law (pc + 1) = .ok (.ifCond .lt off, 3)) (ht : ((pc + 1 : Nat) : Int) + off = (tgt : Int)) (h : x.toInt < y.toInt) (kt : WL p l e s m below meth c b G tgt lv st μ) : WL p l e s m below meth c b G pc lv (.long y :: .long x :: st) μ := wl_lc_lt C tgt hd hd2 ht (fun _ => kt) (fun hh => absurd h hh)
theorem wl_lc_ltF {x y : Int64} {off : Int} (C : LK p s m meth c b L xs G) (tgt : Nat) (hd : decode cL_law pc = .ok (.lcmp, 1)) (hd2 : decode cL_law (pc + 1) = .ok (.ifCond .lt off, 3)) (ht : ((pc + 1 : Nat) : Int) + off = (tgt : Int)) (h : ¬ x.toInt < y.toInt) (kf : WL p l e s m below meth c b G (pc + 4) lv st μ) : WL p l e s m below meth c b G pc lv (.long y :: .long x :: st) μ := wl_lc_lt C tgt hd hd2 ht (fun hh => absurd hh h) (fun _ => kf)
theorem wl_lc_ge {x y : Int64} {off : Int} (C : LK p s m meth c b L xs G) (tgt : Nat) (hd : decode cL_law pc = .ok (.lcmp, 1)) (hd2 : decode cL_law (pc + 1) = .ok (.ifCond .ge off, 3)) (ht : ((pc + 1 : Nat) : Int) + off = (tgt : Int)) (kt : y.toInt ≤ x.toInt → WL p l e s m below meth c b G tgt lv st μ) (kf : ¬ y.toInt ≤ x.toInt → WL p l e s m below meth c b G (pc + 4) lv st μ) : WL p l e s m below meth c b G pc lv (.long y :: .long x :: st) μ :=
  wl_lcmp C hd (wl_if_ge C tgt hd2 ht (fun hh => kt (by rw [lgc_ge] at hh; exact hh)) (fun hh => kf (by rw [lgc_ge] at hh; exact hh)))
theorem wl_lc_geT {x y : Int64} {off : Int} (C : LK p s m meth c b L xs G) (tgt : Nat) (hd : decode cL_law pc = .ok (.lcmp, 1)) (hd2 : decode cL_law (pc + 1) = .ok (.ifCond .ge off, 3)) (ht : ((pc + 1 : Nat) : Int) + off = (tgt : Int)) (h : y.toInt ≤ x.toInt) (kt : WL p l e s m below meth c b G tgt lv st μ) : WL p l e s m below meth c b G pc lv (.long y :: .long x :: st) μ := wl_lc_ge C tgt hd hd2 ht (fun _ => kt) (fun hh => absurd h hh)
theorem wl_lc_geF {x y : Int64} {off : Int} (C : LK p s m meth c b L xs G) (tgt : Nat) (hd : decode cL_law pc = .ok (.lcmp, 1)) (hd2 : decode cL_law (pc + 1) = .ok (.ifCond .ge off, 3)) (ht : ((pc + 1 : Nat) : Int) + off = (tgt : Int)) (h : ¬ y.toInt ≤ x.toInt) (kf : WL p l e s m below meth c b G (pc + 4) lv st μ) : WL p l e s m below meth c b G pc lv (.long y :: .long x :: st) μ := wl_lc_ge C tgt hd hd2 ht (fun hh => absurd hh h) (fun _ => kf)
theorem wl_lc_gt {x y : Int64} {off : Int} (C : LK p s m meth c b L xs G) (tgt : Nat) (hd : decode cL_law pc = .ok (.lcmp, 1)) (hd2 : decode cL_law (pc + 1) = .ok (.ifCond .gt off, 3)) (ht : ((pc + 1 : Nat) : Int) + off = (tgt : Int)) (kt : y.toInt < x.toInt → WL p l e s m below meth c b G tgt lv st μ) (kf : ¬ y.toInt < x.toInt → WL p l e s m below meth c b G (pc + 4) lv st μ) : WL p l e s m below meth c b G pc lv (.long y :: .long x :: st) μ :=
  wl_lcmp C hd (wl_if_gt C tgt hd2 ht (fun hh => kt (by rw [lgc_gt] at hh; exact hh)) (fun hh => kf (by rw [lgc_gt] at hh; exact hh)))
theorem wl_lc_gtT {x y : Int64} {off : Int} (C : LK p s m meth c b L xs G) (tgt : Nat) (hd : decode cL_law pc = .ok (.lcmp, 1)) (hd2 : decode cL_law (pc + 1) = .ok (.ifCond .gt off, 3)) (ht : ((pc + 1 : Nat) : Int) + off = (tgt : Int)) (h : y.toInt < x.toInt) (kt : WL p l e s m below meth c b G tgt lv st μ) : WL p l e s m below meth c b G pc lv (.long y :: .long x :: st) μ := wl_lc_gt C tgt hd hd2 ht (fun _ => kt) (fun hh => absurd h hh)
theorem wl_lc_gtF {x y : Int64} {off : Int} (C : LK p s m meth c b L xs G) (tgt : Nat) (hd : decode cL_law pc = .ok (.lcmp, 1)) (hd2 : decode cL_law (pc + 1) = .ok (.ifCond .gt off, 3)) (ht : ((pc + 1 : Nat) : Int) + off = (tgt : Int)) (h : ¬ y.toInt < x.toInt) (kf : WL p l e s m below meth c b G (pc + 4) lv st μ) : WL p l e s m below meth c b G pc lv (.long y :: .long x :: st) μ := wl_lc_gt C tgt hd hd2 ht (fun hh => absurd hh h) (fun _ => kf)
theorem wl_lc_le {x y : Int64} {off : Int} (C : LK p s m meth c b L xs G) (tgt : Nat) (hd : decode cL_law pc = .ok (.lcmp, 1)) (hd2 : decode cL_law (pc + 1) = .ok (.ifCond .le off, 3)) (ht : ((pc + 1 : Nat) : Int) + off = (tgt : Int)) (kt : x.toInt ≤ y.toInt → WL p l e s m below meth c b G tgt lv st μ) (kf : ¬ x.toInt ≤ y.toInt → WL p l e s m below meth c b G (pc + 4) lv st μ) : WL p l e s m below meth c b G pc lv (.long y :: .long x :: st) μ :=
  wl_lcmp C hd (wl_if_le C tgt hd2 ht (fun hh => kt (by rw [lgc_le] at hh; exact hh)) (fun hh => kf (by rw [lgc_le] at hh; exact hh)))
theorem wl_lc_leT {x y : Int64} {off : Int} (C : LK p s m meth c b L xs G) (tgt : Nat) (hd : decode cL_law pc = .ok (.lcmp, 1)) (hd2 : decode cL_law (pc + 1) = .ok (.ifCond .le off, 3)) (ht : ((pc + 1 : Nat) : Int) + off = (tgt : Int)) (h : x.toInt ≤ y.toInt) (kt : WL p l e s m below meth c b G tgt lv st μ) : WL p l e s m below meth c b G pc lv (.long y :: .long x :: st) μ := wl_lc_le C tgt hd hd2 ht (fun _ => kt) (fun hh => absurd h hh)
theorem wl_lc_leF {x y : Int64} {off : Int} (C : LK p s m meth c b L xs G) (tgt : Nat) (hd : decode cL_law pc = .ok (.lcmp, 1)) (hd2 : decode cL_law (pc + 1) = .ok (.ifCond .le off, 3)) (ht : ((pc + 1 : Nat) : Int) + off = (tgt : Int)) (h : ¬ x.toInt ≤ y.toInt) (kf : WL p l e s m below meth c b G (pc + 4) lv st μ) : WL p l e s m below meth c b G pc lv (.long y :: .long x :: st) μ := wl_lc_le C tgt hd hd2 ht (fun hh => absurd hh h) (fun _ => kf)
end LAW
end
section
/-! THE LAW, from its end on: the last loop, the changes of sign, the row of one -/
theorem RowIs.fr {μ ν : Mem} {r n : Nat} {V : Nat → Int} (h0 : ν.1 (43 + 5 * r) = μ.1 (43 + 5 * r)) (h1 : ν.2 (43 + 5 * r + 1) = μ.2 (43 + 5 * r + 1)) (h : RowIs μ r n V) : RowIs ν r n V := ⟨by rw [h0]; exact h.1, fun i hi => by rw [h1]; exact h.2 i hi⟩
theorem ArrIs.fr {μ ν : Mem} {t n : Nat} {V : Nat → Int} (h1 : ν.2 t = μ.2 t) (h : ArrIs μ t n V) : ArrIs ν t n V := fun i hi => by rw [h1]; exact h i hi
theorem RowIs.co {μ : Mem} {r n : Nat} {V W : Nat → Int} (e : ∀ i, i < n → V i = W i) (h : RowIs μ r n V) : RowIs μ r n W := ⟨h.1, fun i hi => by rw [← e i hi]; exact h.2 i hi⟩
def unZ (t i : Nat) : Int := if i = t then 1 else 0
theorem sh73 : shp 73 = .inl (2, 64) := rfl
theorem sh74 : shp 74 = .inl (2, 64) := rfl
section LAW1
variable {p : Program} {l : Launch} {e : Env} {s : State} {m : MethodId} {below : List Frame} {meth : Method} {c : Code} {b L : Nat} {xs : Nat → Int32} {G : WG}
theorem wl_535 (C : LK p s m meth c b L xs G) {n : Nat} {V : Nat → Int} {μ : Mem} (hn : n ≤ 64) (h0 : RowIs μ 0 n (fun k => (n : Int) * V k)) (hA : ArrIs μ 73 n V) : ∀ mm i, i + mm = n → WL p l e s m below meth c b G 535 [some (.ref 75), some (.ref 0), some (.int (nI n)), some (.ref 73), none, none, none, none, none, none, none, none, none, none, none, none, none, none, some (.int (nI i))] [] μ := by
  have hs := sh73
  intro mm
  induction mm with
  | zero =>
    intro i hi
    obtain rfl : i = n := by omega
    refine wl_iload C dL_law_535 rfl ?_
    refine wl_iload_n C dL_law_537 rfl ?_
    refine wl_ic_geT C 567 dL_law_538 (by decide) (le_nI (by omega) (by omega)) ?_
    exact wl_end C
  | succ mm ih =>
    intro i hi
    have e_ := ih (i + 1) (by omega)
    refine wl_iload C dL_law_535 rfl ?_
    refine wl_iload_n C dL_law_537 rfl ?_
    refine wl_ic_geF C 567 dL_law_538 (by decide) (nle_nI (by omega) (by omega)) ?_
    refine wl_aload_n C dL_law_541 rfl ?_
    refine wl_iconst C (nI 0) dL_law_542 (by decide) ?_
    refine wl_iload C dL_law_543 rfl ?_
    refine wl_callV2 C (k' := kX5_number) dL_law_545 lmL_51 kvX5_number (by first | assumption | rfl) (by rfl) (by decide) (Nat.le_of_ble_eq_true rfl) ?_
    refine wp_number (n := n) (by omega) (by omega) hn (by omega) h0 ?_
    refine wl_iload_n C dL_law_548 rfl ?_
    refine wl_i2l C dL_law_549 ?_
    refine wl_aload_n C dL_law_550 rfl ?_
    refine wl_iload C dL_law_551 rfl ?_
    refine wl_lald C _ dL_law_553 (by first | assumption | rfl) (by first | with_reducible rfl | with_reducible assumption | with_reducible exact ix_ma _ _ _ | with_reducible exact ix_maa _ _ _ _ | with_reducible exact ix_a _ _ | with_reducible exact ix_mama _ _ _ _ _) (by omega) ?_
    refine wl_lmul C dL_law_554 ?_
    rw [hA i (by omega), z_nI (by omega), ← Int64.ofInt_mul]
    refine wl_lc_eqT C 561 dL_law_555 dL_law_556 (by decide) (rfl) ?_
    refine wl_iinc C (nI 1) dL_law_561 rfl (by decide) (by decide) ?_
    refine wl_goto C 535 dL_law_564 (by decide) ?_
    simp only [nI_add]
    exact e_
theorem wl_471 (C : LK p s m meth c b L xs G) {n q t : Nat} {μ : Mem} (hn : n ≤ 64) (h3 : RowIs μ 3 n (fun k => sgZ (sgB q t k))) (K : WL p l e s m below meth c b G 513 [some (.ref 75), some (.ref 0), some (.int (nI n)), some (.ref 73), none, none, none, none, none, none, none, none, none, none, none, none, some (.int (nI (flN q t (n - 1)))), some (.int (nI t)), some (.int (nI n))] [] μ) : ∀ mm j, j + 1 + mm = n → WL p l e s m below meth c b G 471 [some (.ref 75), some (.ref 0), some (.int (nI n)), some (.ref 73), none, none, none, none, none, none, none, none, none, none, none, none, some (.int (nI (flN q t j))), some (.int (nI t)), some (.int (nI (j + 1)))] [] μ := by
  intro mm
  induction mm with
  | zero =>
    intro j hj
    obtain rfl : n = j + 1 := by omega
    rw [Nat.add_sub_cancel] at K
    refine wl_iload C dL_law_471 rfl ?_
    refine wl_iload_n C dL_law_473 rfl ?_
    refine wl_ic_geT C 513 dL_law_474 (by decide) (le_nI (by omega) (by omega)) ?_
    exact K
  | succ mm ih =>
    intro j hj
    have e_ := ih (j + 1) (by omega)
    refine wl_iload C dL_law_471 rfl ?_
    refine wl_iload_n C dL_law_473 rfl ?_
    refine wl_ic_geF C 513 dL_law_474 (by decide) (nle_nI (by omega) (by omega)) ?_
    refine wl_iload C dL_law_477 rfl ?_
    refine wl_aload_n C dL_law_479 rfl ?_
    refine wl_iconst C (nI 3) dL_law_480 (by decide) ?_
    refine wl_iload C dL_law_481 rfl ?_
    refine wl_callV2 C (k' := kX5_number) dL_law_483 lmL_51 kvX5_number (by first | assumption | rfl) (by rfl) (by decide) (Nat.le_of_ble_eq_true rfl) ?_
    refine wp_number (n := n) (by omega) (by omega) hn (by omega) h3 ?_
    refine wl_aload_n C dL_law_486 rfl ?_
    refine wl_iconst C (nI 3) dL_law_487 (by decide) ?_
    refine wl_iload C dL_law_488 rfl ?_
    refine wl_iconst C (nI 1) dL_law_490 (by decide) ?_
    refine wl_isub C dL_law_491 ?_
    rw [pk_sub (show 1 ≤ j + 1 by omega), Nat.add_sub_cancel]
    refine wl_callV2 C (k' := kX5_number) dL_law_492 lmL_51 kvX5_number (by first | assumption | rfl) (by rfl) (by decide) (Nat.le_of_ble_eq_true rfl) ?_
    refine wp_number (n := n) (by omega) (by omega) hn (by omega) h3 ?_
    refine wl_lc_ne C 503 dL_law_495 dL_law_496 (by decide) (fun c495_3 => ?_) (fun c495_3 => ?_)
    · try simp (disch := omega) only [nI_toInt, Int32.toInt_toInt64] at c495_3
      refine wl_iconst C (nI 1) dL_law_503 (by decide) ?_
      refine wl_iadd C dL_law_504 ?_
      refine wl_istore C dL_law_505 (by decide) ?_
      refine wl_iinc C (nI 1) dL_law_507 rfl (by decide) (by decide) ?_
      refine wl_goto C 471 dL_law_510 (by decide) ?_
      have a_ : ¬ sgB q t (j + 1) = sgB q t j := fun q_ => c495_3 ((sgZ_inj _ _).mpr q_)
      rw [flN, if_neg a_] at e_
      simp only [nI_add]
      exact e_
    · try simp (disch := omega) only [nI_toInt, Int32.toInt_toInt64] at c495_3
      refine wl_iconst C (nI 0) dL_law_499 (by decide) ?_
      refine wl_goto C 504 dL_law_500 (by decide) ?_
      refine wl_iadd C dL_law_504 ?_
      refine wl_istore C dL_law_505 (by decide) ?_
      refine wl_iinc C (nI 1) dL_law_507 rfl (by decide) (by decide) ?_
      refine wl_goto C 471 dL_law_510 (by decide) ?_
      have a_ : sgB q t (j + 1) = sgB q t j := (sgZ_inj _ _).mp (Decidable.not_not.mp c495_3)
      rw [flN, if_pos a_] at e_
      simp only [nI_add]
      exact e_
end LAW1
end
section
/-! THE LAW: the row of one, its tones, the loop over three rows -/
section LAW2
variable {p : Program} {l : Launch} {e : Env} {s : State} {m : MethodId} {below : List Frame} {meth : Method} {c : Code} {b L : Nat} {xs : Nat → Int32} {G : WG}
theorem ton_b {V : Nat → Int} {q n : Nat} {B D : Int} (hq : q < 7) (hnq : n = 2 ^ q) (hV : bnd V n B) (hD : 64 * B ≤ D) : bnd (tonZ V q) n D := fun i _ => by
  have := ton_le hq (fun j hj => hV j (by omega)) i
  omega
theorem wl_513 (C : LK p s m meth c b L xs G) {n q t : Nat} {V : Nat → Int} {μ : Mem} (hn : n ≤ 64) (hq : q < 7) (hnq : n = 2 ^ q) (h0 : RowIs μ 0 n (tonZ V q)) (hV : bnd V n 1000) (hA : ArrIs μ 73 n V) : WL p l e s m below meth c b G 513 [some (.ref 75), some (.ref 0), some (.int (nI n)), some (.ref 73), none, none, none, none, none, none, none, none, none, none, none, none, some (.int (nI t)), some (.int (nI t)), some (.int (nI n))] [] μ := by
  refine wl_iload C dL_law_513 rfl ?_
  refine wl_iload C dL_law_515 rfl ?_
  refine wl_ic_neF C 530 dL_law_517 (by decide) (fun q_ => q_ rfl) ?_
  refine wl_aload_n C dL_law_520 rfl ?_
  refine wl_iconst C (nI 0) dL_law_521 (by decide) ?_
  refine wl_iconst C (nI 3) dL_law_522 (by decide) ?_
  refine wl_callV2 C (k' := kX5_turn) dL_law_523 lmL_48 kvX5_turn (by first | assumption | rfl) (by rfl) (by decide) (Nat.le_of_ble_eq_true rfl) ?_
  refine wp_tones (p := q) (by omega) (by omega) hq hnq hn h0 (ton_b hq hnq hV (by omega)) (fun ν h1_ hk_ => ?_)
  refine wl_iload_n C dL_law_526 rfl ?_
  refine wl_ic_eqT C 532 dL_law_527 (by decide) (rfl) ?_
  refine wl_iconst C (nI 0) dL_law_532 (by decide) ?_
  refine wl_istore C dL_law_533 (by decide) ?_
  refine wl_frg [true, true, true, true, false, false, false, false, false, false, false, false, false, false, false, false, false, false, true] ?_
  exact wl_535 C hn (h1_.co (fun i hi => by rw [ton_two hq (by omega), hnq])) (hA.fr (hk_ 73 (by omega)).2) n 0 (by omega)
theorem wl_441 (C : LK p s m meth c b L xs G) {n q t : Nat} {V : Nat → Int} {μ : Mem} (hn : n ≤ 64) (hq : q < 7) (hnq : n = 2 ^ q) (ht : t < n) (h0 : RowIs μ 0 n (tonZ V q)) (hV : bnd V n 1000) (hA : ArrIs μ 73 n V) (hU : ArrIs μ 74 n (unZ t)) : WL p l e s m below meth c b G 441 [some (.ref 75), some (.ref 0), some (.int (nI n)), some (.ref 73), some (.ref 74), none, none, none, none, none, none, none, none, none, none, none, none, some (.int (nI t)), some (.int (nI n))] [] μ := by
  have hB : ∀ B : Int, 1 ≤ B → bnd (unZ t) n B := fun B hB i _ => by
    unfold unZ
    split <;> omega
  refine wl_aload_n C dL_law_441 rfl ?_
  refine wl_iconst C (nI 3) dL_law_442 (by decide) ?_
  refine wl_iconst C (nI 3) dL_law_443 (by decide) ?_
  refine wl_aload C dL_law_444 rfl ?_
  refine wl_iload_n C dL_law_446 rfl ?_
  refine wl_callS5 C (k' := kL_raised) dL_law_447 lmL_32 ksL_raised (by decide) (Nat.le_of_ble_eq_true rfl) ?_
  refine wp_raised (by omega) (by omega) (by omega) hn sh74 (by omega) hU (hB _ (by omega)) (fun ν h3_ hk_ => ?_)
  refine wl_if_eqF C 463 dL_law_450 (by decide) (by decide) ?_
  refine wl_aload_n C dL_law_453 rfl ?_
  refine wl_iconst C (nI 3) dL_law_454 (by decide) ?_
  refine wl_iconst C (nI 3) dL_law_455 (by decide) ?_
  refine wl_callV2 C (k' := kX5_turn) dL_law_456 lmL_48 kvX5_turn (by first | assumption | rfl) (by rfl) (by decide) (Nat.le_of_ble_eq_true rfl) ?_
  refine wp_tones (p := q) (by omega) (by omega) hq hnq hn h3_ (hB _ (by omega)) (fun ν2 h4_ hk2_ => ?_)
  refine wl_iload_n C dL_law_459 rfl ?_
  refine wl_ic_eqT C 465 dL_law_460 (by decide) (rfl) ?_
  refine wl_iconst C (nI 0) dL_law_465 (by decide) ?_
  refine wl_istore C dL_law_466 (by decide) ?_
  refine wl_iconst C (nI 1) dL_law_468 (by decide) ?_
  refine wl_istore C dL_law_469 (by decide) ?_
  have a0 : RowIs ν2 0 n (tonZ V q) := (h0.fr (hk_ (43 + 5 * 0) (by omega) (by omega)).1 (hk_ (43 + 5 * 0 + 1) (by omega) (by omega)).2).fr (hk2_ (43 + 5 * 0) (by omega)).1 (hk2_ (43 + 5 * 0 + 1) (by omega)).2
  have a1 : ArrIs ν2 73 n V := (hA.fr (hk_ 73 (by omega) (by omega)).2).fr (hk2_ 73 (by omega)).2
  have a2 : RowIs ν2 3 n (fun k => sgZ (sgB q t k)) := h4_.co (fun i hi => ton_unit (by omega))
  have a3 := wl_513 (p := p) (l := l) (e := e) (s := s) (m := m) (below := below) (meth := meth) (c := c) (t := t) C hn hq hnq a0 hV a1
  have a4 : flN q t (n - 1) = t := by rw [hnq]; exact fl_end q hq t (by omega)
  refine wl_frg [true, true, true, true, false, false, false, false, false, false, false, false, false, false, false, false, true, true, true] ?_
  exact wl_471 C hn a2 (by rw [a4]; exact a3) (n - 1) 0 (by omega)
theorem wl_412 (C : LK p s m meth c b L xs G) {n q t : Nat} {V : Nat → Int} (hn : n ≤ 64) (hq : q < 7) (hnq : n = 2 ^ q) (ht : t < n) (hV : bnd V n 1000) : ∀ mm i, i + mm = n → ∀ ν, RowIs ν 0 n (tonZ V q) → ArrIs ν 73 n V → ArrIs ν 74 i (unZ t) → WL p l e s m below meth c b G 412 [some (.ref 75), some (.ref 0), some (.int (nI n)), some (.ref 73), some (.ref 74), none, none, none, none, none, none, none, none, none, none, none, none, some (.int (nI t)), some (.int (nI i))] [] ν := by
  have hs := sh74
  intro mm
  induction mm with
  | zero =>
    intro i hi ν h0 hA hU
    obtain rfl : i = n := by omega
    refine wl_iload C dL_law_412 rfl ?_
    refine wl_iload_n C dL_law_414 rfl ?_
    refine wl_ic_geT C 441 dL_law_415 (by decide) (le_nI (by omega) (by omega)) ?_
    exact wl_441 C hn hq hnq ht h0 hV hA hU
  | succ mm ih =>
    intro i hi ν h0 hA hU
    have e_ : ∀ x, x = Int64.ofInt (unZ t i) → WL p l e s m below meth c b G 412 [some (.ref 75), some (.ref 0), some (.int (nI n)), some (.ref 73), some (.ref 74), none, none, none, none, none, none, none, none, none, none, none, none, some (.int (nI t)), some (.int (nI (i + 1)))] [] (sL ν 74 i x) := fun x hx => ih (i + 1) (by omega) _ (h0.fr rfl (sL_off (by omega))) (hA.fr (sL_off (by omega))) (fun j hj => by
      by_cases hji : j = i
      · subst hji
        rw [r2e, hx]
      · rw [r2m hji]
        exact hU j (by omega))
    refine wl_iload C dL_law_412 rfl ?_
    refine wl_iload_n C dL_law_414 rfl ?_
    refine wl_ic_geF C 441 dL_law_415 (by decide) (nle_nI (by omega) (by omega)) ?_
    refine wl_aload C dL_law_418 rfl ?_
    refine wl_iload C dL_law_420 rfl ?_
    refine wl_iload C dL_law_422 rfl ?_
    refine wl_iload C dL_law_424 rfl ?_
    refine wl_ic_ne C 433 dL_law_426 (by decide) (fun c426_1 => ?_) (fun c426_1 => ?_)
    · try simp (disch := omega) only [nI_toInt, Int32.toInt_toInt64] at c426_1
      refine wl_lconst C (0) dL_law_433 (by decide) ?_
      refine wl_last C _ dL_law_434 (by first | assumption | rfl) (by first | with_reducible rfl | with_reducible assumption | with_reducible exact ix_ma _ _ _ | with_reducible exact ix_maa _ _ _ _ | with_reducible exact ix_a _ _ | with_reducible exact ix_mama _ _ _ _ _) (by omega) ?_
      refine wl_iinc C (nI 1) dL_law_435 rfl (by decide) (by decide) ?_
      refine wl_goto C 412 dL_law_438 (by decide) ?_
      have a_ : unZ t i = 0 := by unfold unZ; rw [if_neg (by omega)]
      simp only [nI_add]
      exact e_ 0 (by rw [a_]; rfl)
    · try simp (disch := omega) only [nI_toInt, Int32.toInt_toInt64] at c426_1
      refine wl_lconst C (1) dL_law_429 (by decide) ?_
      refine wl_goto C 434 dL_law_430 (by decide) ?_
      refine wl_last C _ dL_law_434 (by first | assumption | rfl) (by first | with_reducible rfl | with_reducible assumption | with_reducible exact ix_ma _ _ _ | with_reducible exact ix_maa _ _ _ _ | with_reducible exact ix_a _ _ | with_reducible exact ix_mama _ _ _ _ _) (by omega) ?_
      refine wl_iinc C (nI 1) dL_law_435 rfl (by decide) (by decide) ?_
      refine wl_goto C 412 dL_law_438 (by decide) ?_
      have a_ : unZ t i = 1 := by unfold unZ; rw [if_pos (by omega)]
      simp only [nI_add]
      exact e_ 1 (by rw [a_]; rfl)
theorem wl_348 (C : LK p s m meth c b L xs G) {n q : Nat} {a1 a2 : Int} {V U : Nat → Int} {μ : Mem} (hn : n ≤ 64) (hq : q < 7) (hnq : n = 2 ^ q) (ha1 : -4 ≤ a1 ∧ a1 ≤ 4) (ha2 : -4 ≤ a2 ∧ a2 ≤ 4) (hV : bnd V n 1000) (h0 : RowIs μ 0 n (tonZ V q)) (h1 : RowIs μ 1 n (tonZ U q)) (h2 : RowIs μ 2 n (fun i => a1 * tonZ V q i + a2 * tonZ U q i)) (hA : ArrIs μ 73 n V) : ∀ mm i, i + mm = n → WL p l e s m below meth c b G 348 [some (.ref 75), some (.ref 0), some (.int (nI n)), some (.ref 73), some (.ref 74), none, none, none, none, none, none, some (.int (Int32.ofInt a1)), some (.int (Int32.ofInt a2)), none, none, none, none, some (.int (nI i)), none] [] μ := by
  have hn0 : 0 < n := by have := Nat.two_pow_pos q; omega
  intro mm
  induction mm with
  | zero =>
    intro i hi
    obtain rfl : i = n := by omega
    refine wl_iload C dL_law_348 rfl ?_
    refine wl_iload_n C dL_law_350 rfl ?_
    refine wl_ic_geT C 396 dL_law_351 (by decide) (le_nI (by omega) (by omega)) ?_
    refine wl_aload_n C dL_law_396 rfl ?_
    refine wl_sipush C (nI 143) dL_law_397 (by decide) ?_
    refine wl_cell C _ dL_law_400 (by first | with_reducible rfl | with_reducible exact ix_a _ _) (by omega) (Nat.le_of_ble_eq_true rfl) (fun v_400 => ?_)
    refine wl_iload_n C dL_law_403 rfl ?_
    refine wl_up C dL_law_404 (by omega) (by omega) (Nat.le_of_ble_eq_true rfl) (fun r_404 hr_404 => ?_)
    refine wl_istore C dL_law_407 (by decide) ?_
    refine wl_iconst C (nI 0) dL_law_409 (by decide) ?_
    refine wl_istore C dL_law_410 (by decide) ?_
    refine wl_frg [true, true, true, true, true, false, false, false, false, false, false, false, false, false, false, false, false, true, true] ?_
    exact wl_412 C hn hq hnq hr_404 hV i 0 (by omega) μ h0 hA (fun j hj => absurd hj (by omega))
  | succ mm ih =>
    intro i hi
    have e_ := ih (i + 1) (by omega)
    refine wl_iload C dL_law_348 rfl ?_
    refine wl_iload_n C dL_law_350 rfl ?_
    refine wl_ic_geF C 396 dL_law_351 (by decide) (nle_nI (by omega) (by omega)) ?_
    refine wl_aload_n C dL_law_354 rfl ?_
    refine wl_iconst C (nI 2) dL_law_355 (by decide) ?_
    refine wl_iload C dL_law_356 rfl ?_
    refine wl_callV2 C (k' := kX5_number) dL_law_358 lmL_51 kvX5_number (by first | assumption | rfl) (by rfl) (by decide) (Nat.le_of_ble_eq_true rfl) ?_
    refine wp_number (n := n) (by omega) (by omega) hn (by omega) h2 ?_
    refine wl_iload C dL_law_361 rfl ?_
    refine wl_i2l C dL_law_363 ?_
    refine wl_aload_n C dL_law_364 rfl ?_
    refine wl_iconst C (nI 0) dL_law_365 (by decide) ?_
    refine wl_iload C dL_law_366 rfl ?_
    refine wl_callV2 C (k' := kX5_number) dL_law_368 lmL_51 kvX5_number (by first | assumption | rfl) (by rfl) (by decide) (Nat.le_of_ble_eq_true rfl) ?_
    refine wp_number (n := n) (by omega) (by omega) hn (by omega) h0 ?_
    refine wl_lmul C dL_law_371 ?_
    refine wl_iload C dL_law_372 rfl ?_
    refine wl_i2l C dL_law_374 ?_
    refine wl_aload_n C dL_law_375 rfl ?_
    refine wl_iconst C (nI 1) dL_law_376 (by decide) ?_
    refine wl_iload C dL_law_377 rfl ?_
    refine wl_callV2 C (k' := kX5_number) dL_law_379 lmL_51 kvX5_number (by first | assumption | rfl) (by rfl) (by decide) (Nat.le_of_ble_eq_true rfl) ?_
    refine wp_number (n := n) (by omega) (by omega) hn (by omega) h1 ?_
    refine wl_lmul C dL_law_382 ?_
    refine wl_ladd C dL_law_383 ?_
    rw [z_32 (by omega) (by omega), z_32 (by omega) (by omega), ← Int64.ofInt_mul, ← Int64.ofInt_mul, ← Int64.ofInt_add]
    refine wl_lc_eqT C 390 dL_law_384 dL_law_385 (by decide) (rfl) ?_
    refine wl_iinc C (nI 1) dL_law_390 rfl (by decide) (by decide) ?_
    refine wl_goto C 348 dL_law_393 (by decide) ?_
    simp only [nI_add]
    exact e_
end LAW2
end
section
/-! THE LAW: what is held against what, from the three rows on -/
theorem nI_subZ (a b : Nat) : nI a - nI b = Int32.ofInt ((a : Int) - (b : Int)) := by rw [z_n, z_n, ← Int32.ofInt_sub]
section LAW3
variable {p : Program} {l : Launch} {e : Env} {s : State} {m : MethodId} {below : List Frame} {meth : Method} {c : Code} {b L : Nat} {xs : Nat → Int32} {G : WG}
theorem wl_283 (C : LK p s m meth c b L xs G) {n q : Nat} {a1 a2 fv : Int} {V U : Nat → Int} {μ : Mem} (hn : n ≤ 64) (hq : q < 7) (hnq : n = 2 ^ q) (ha1 : -4 ≤ a1 ∧ a1 ≤ 4) (ha2 : -4 ≤ a2 ∧ a2 ≤ 4) (hV : bnd V n 1000) (h0 : RowIs μ 0 n (tonZ V q)) (h1 : RowIs μ 1 n (tonZ U q)) (h2 : RowIs μ 2 n (fun i => a1 * tonZ V q i + a2 * tonZ U q i)) (hA : ArrIs μ 73 n V) (hf : sumZ (fun i => tonZ V q i * tonZ V q i) n = (n : Int) * fv) : WL p l e s m below meth c b G 283 [some (.ref 75), some (.ref 0), some (.int (nI n)), some (.ref 73), some (.ref 74), none, none, some (.long (Int64.ofInt fv)), none, none, none, some (.int (Int32.ofInt a1)), some (.int (Int32.ofInt a2)), none, none, none, none, none, none] [] μ := by
  have hn0 : 0 < n := by have := Nat.two_pow_pos q; omega
  have hT : bnd (tonZ V q) n 100000000 := ton_b hq hnq hV (by omega)
  refine wl_aload_n C dL_law_283 rfl ?_
  refine wl_sipush C (nI 142) dL_law_284 (by decide) ?_
  refine wl_cell C _ dL_law_287 (by first | with_reducible rfl | with_reducible exact ix_a _ _) (by omega) (Nat.le_of_ble_eq_true rfl) (fun v_287 => ?_)
  refine wl_iload_n C dL_law_290 rfl ?_
  refine wl_up C dL_law_291 (by omega) (by omega) (Nat.le_of_ble_eq_true rfl) (fun r_291 hr_291 => ?_)
  refine wl_istore C dL_law_294 (by decide) ?_
  refine wl_aload_n C dL_law_296 rfl ?_
  refine wl_iconst C (nI 0) dL_law_297 (by decide) ?_
  refine wl_iconst C (nI 0) dL_law_298 (by decide) ?_
  refine wl_iload C dL_law_299 rfl ?_
  refine wl_callV3 C (k' := kX5_force) dL_law_301 lmL_36 kvX5_force (by first | assumption | rfl) (by rfl) (by decide) (Nat.le_of_ble_eq_true rfl) ?_
  refine wp_force (n := n) (a := 0) (b := r_291) (by omega) (by omega) hn (by omega) (by omega) (by omega) h0 hT ?_
  refine wl_iload C dL_law_304 rfl ?_
  refine wl_iconst C (nI 1) dL_law_306 (by decide) ?_
  refine wl_iadd C dL_law_307 ?_
  refine wl_iload_n C dL_law_308 rfl ?_
  rw [nI_add]
  refine wl_ic_ge C 325 dL_law_309 (by decide) (fun c309_2 => ?_) (fun c309_2 => ?_)
  · try simp (disch := omega) only [nI_toInt, Int32.toInt_toInt64] at c309_2
    refine wl_lconst C (0) dL_law_325 (by decide) ?_
    refine wl_ladd C dL_law_326 ?_
    rw [show (0 : Int64) = Int64.ofInt 0 from rfl, ← Int64.ofInt_add, Int.add_zero, fr_one (tonZ V q) (by omega)]
    refine wl_lstore C dL_law_327 (by decide) ?_
    refine wl_lload C dL_law_329 rfl ?_
    refine wl_iload_n C dL_law_331 rfl ?_
    refine wl_i2l C dL_law_332 ?_
    refine wl_lload C dL_law_333 rfl ?_
    refine wl_lmul C dL_law_335 ?_
    rw [z_nI (by omega), ← Int64.ofInt_mul, hf]
    refine wl_lc_eqT C 342 dL_law_336 dL_law_337 (by decide) (rfl) ?_
    refine wl_iconst C (-1) dL_law_342 (by decide) ?_
    refine wl_istore C dL_law_343 (by decide) ?_
    refine wl_iconst C (nI 0) dL_law_345 (by decide) ?_
    refine wl_istore C dL_law_346 (by decide) ?_
    refine wl_frg [true, true, true, true, true, false, false, false, false, false, false, true, true, false, false, false, false, true, false] ?_
    exact wl_348 C hn hq hnq ha1 ha2 hV h0 h1 h2 hA n 0 (by omega)
  · try simp (disch := omega) only [nI_toInt, Int32.toInt_toInt64] at c309_2
    refine wl_aload_n C dL_law_312 rfl ?_
    refine wl_iconst C (nI 0) dL_law_313 (by decide) ?_
    refine wl_iload C dL_law_314 rfl ?_
    refine wl_iconst C (nI 1) dL_law_316 (by decide) ?_
    refine wl_iadd C dL_law_317 ?_
    rw [nI_add]
    refine wl_iload_n C dL_law_318 rfl ?_
    refine wl_callV3 C (k' := kX5_force) dL_law_319 lmL_36 kvX5_force (by first | assumption | rfl) (by rfl) (by decide) (Nat.le_of_ble_eq_true rfl) ?_
    refine wp_force (n := n) (a := r_291 + 1) (b := n) (by omega) (by omega) hn (by omega) (by omega) (by omega) h0 hT ?_
    refine wl_goto C 326 dL_law_322 (by decide) ?_
    refine wl_ladd C dL_law_326 ?_
    rw [← Int64.ofInt_add, fr_two]
    refine wl_lstore C dL_law_327 (by decide) ?_
    refine wl_lload C dL_law_329 rfl ?_
    refine wl_iload_n C dL_law_331 rfl ?_
    refine wl_i2l C dL_law_332 ?_
    refine wl_lload C dL_law_333 rfl ?_
    refine wl_lmul C dL_law_335 ?_
    rw [z_nI (by omega), ← Int64.ofInt_mul, hf]
    refine wl_lc_eqT C 342 dL_law_336 dL_law_337 (by decide) (rfl) ?_
    refine wl_iconst C (-1) dL_law_342 (by decide) ?_
    refine wl_istore C dL_law_343 (by decide) ?_
    refine wl_iconst C (nI 0) dL_law_345 (by decide) ?_
    refine wl_istore C dL_law_346 (by decide) ?_
    refine wl_frg [true, true, true, true, true, false, false, false, false, false, false, true, true, false, false, false, false, true, false] ?_
    exact wl_348 C hn hq hnq ha1 ha2 hV h0 h1 h2 hA n 0 (by omega)
theorem wl_238 (C : LK p s m meth c b L xs G) {n q : Nat} {a1 a2 fv cv : Int} {V U : Nat → Int} {μ : Mem} (hn : n ≤ 64) (hq : q < 7) (hnq : n = 2 ^ q) (ha1 : -4 ≤ a1 ∧ a1 ≤ 4) (ha2 : -4 ≤ a2 ∧ a2 ≤ 4) (hV : bnd V n 1000) (hU : bnd U n 1000) (h0 : RowIs μ 0 n (tonZ V q)) (h1 : RowIs μ 1 n (tonZ U q)) (h2 : RowIs μ 2 n (fun i => a1 * tonZ V q i + a2 * tonZ U q i)) (hA : ArrIs μ 73 n V) (hf : sumZ (fun i => tonZ V q i * tonZ V q i) n = (n : Int) * fv) (hc : sumZ (fun i => tonZ V q i * tonZ U q i) n = (n : Int) * cv) : WL p l e s m below meth c b G 238 [some (.ref 75), some (.ref 0), some (.int (nI n)), some (.ref 73), some (.ref 74), some (.long (Int64.ofInt (sumZ V n))), none, some (.long (Int64.ofInt fv)), none, some (.long (Int64.ofInt cv)), none, some (.int (Int32.ofInt a1)), some (.int (Int32.ofInt a2)), none, none, none, none, none, none] [] μ := by
  have hn0 : 0 < n := by have := Nat.two_pow_pos q; omega
  have hT : bnd (tonZ V q) n 100000000 := ton_b hq hnq hV (by omega)
  have hR : bnd (tonZ U q) n 100000000 := ton_b hq hnq hU (by omega)
  have hz : tonZ V q 0 = sumZ V n := by rw [ton_0 hq, hnq]
  refine wl_aload_n C dL_law_238 rfl ?_
  refine wl_iconst C (nI 0) dL_law_239 (by decide) ?_
  refine wl_iconst C (nI 0) dL_law_240 (by decide) ?_
  refine wl_iload_n C dL_law_241 rfl ?_
  refine wl_callV3 C (k' := kX5_force) dL_law_242 lmL_36 kvX5_force (by first | assumption | rfl) (by rfl) (by decide) (Nat.le_of_ble_eq_true rfl) ?_
  refine wp_force (n := n) (a := 0) (b := n) (by omega) (by omega) hn (by omega) (by omega) (by omega) h0 hT ?_
  refine wl_iload_n C dL_law_245 rfl ?_
  refine wl_i2l C dL_law_246 ?_
  refine wl_lload C dL_law_247 rfl ?_
  refine wl_lmul C dL_law_249 ?_
  rw [z_nI (by omega), ← Int64.ofInt_mul, fr_all (Int.le_refl _), hf]
  refine wl_lc_neF C 281 dL_law_250 dL_law_251 (by decide) (fun q_ => q_ rfl) ?_
  refine wl_aload_n C dL_law_254 rfl ?_
  refine wl_iconst C (nI 0) dL_law_255 (by decide) ?_
  refine wl_iconst C (nI 1) dL_law_256 (by decide) ?_
  refine wl_callV2 C (k' := kX5_cross) dL_law_257 lmL_40 kvX5_cross (by first | assumption | rfl) (by rfl) (by decide) (Nat.le_of_ble_eq_true rfl) ?_
  refine wp_cross (n := n) (by omega) (by omega) (by omega) hn h0 h1 hT hR ?_
  refine wl_iload_n C dL_law_260 rfl ?_
  refine wl_i2l C dL_law_261 ?_
  refine wl_lload C dL_law_262 rfl ?_
  refine wl_lmul C dL_law_264 ?_
  rw [z_nI (by omega), ← Int64.ofInt_mul, hc]
  refine wl_lc_neF C 281 dL_law_265 dL_law_266 (by decide) (fun q_ => q_ rfl) ?_
  refine wl_aload_n C dL_law_269 rfl ?_
  refine wl_iconst C (nI 0) dL_law_270 (by decide) ?_
  refine wl_iconst C (nI 0) dL_law_271 (by decide) ?_
  refine wl_callV2 C (k' := kX5_number) dL_law_272 lmL_51 kvX5_number (by first | assumption | rfl) (by rfl) (by decide) (Nat.le_of_ble_eq_true rfl) ?_
  refine wp_number (n := n) (i := 0) (by omega) (by omega) hn (by omega) h0 ?_
  refine wl_lload C dL_law_275 rfl ?_
  rw [hz]
  refine wl_lc_eqT C 283 dL_law_277 dL_law_278 (by decide) (rfl) ?_
  refine wl_frg [true, true, true, true, true, false, false, true, false, false, false, true, true, false, false, false, false, false, false] ?_
  exact wl_283 C hn hq hnq ha1 ha2 hV h0 h1 h2 hA hf
theorem wl_192 (C : LK p s m meth c b L xs G) {n q : Nat} {a1 a2 : Int} {V U : Nat → Int} {μ : Mem} (hn : n ≤ 64) (hq : q < 7) (hnq : n = 2 ^ q) (ha1 : -4 ≤ a1 ∧ a1 ≤ 4) (ha2 : -4 ≤ a2 ∧ a2 ≤ 4) (hV : bnd V n 1000) (hU : bnd U n 1000) (h0 : RowIs μ 0 n V) (h1 : RowIs μ 1 n U) (h2 : RowIs μ 2 n V) (hA : ArrIs μ 73 n V) : WL p l e s m below meth c b G 192 [some (.ref 75), some (.ref 0), some (.int (nI n)), some (.ref 73), some (.ref 74), some (.long (Int64.ofInt (sumZ V n))), none, some (.long (Int64.ofInt (sumZ (fun i => V i * V i) n))), none, some (.long (Int64.ofInt (sumZ (fun i => V i * U i) n))), none, some (.int (Int32.ofInt a1)), some (.int (Int32.ofInt a2)), none, none, none, none, none, none] [] μ := by
  have hV6 : bnd V n 1000000 := fun i hi => by have := hV i hi; omega
  have hU6 : bnd U n 1000000 := fun i hi => by have := hU i hi; omega
  have hM : bnd (fun i => a1 * V i + a2 * U i) n 1000000 := fun i hi => by
    have h3 := zmul_le ha1.1 ha1.2 (hV i hi).1 (hV i hi).2
    have h4 := zmul_le ha2.1 ha2.2 (hU i hi).1 (hU i hi).2
    show -1000000 ≤ a1 * V i + a2 * U i ∧ a1 * V i + a2 * U i ≤ 1000000
    omega
  refine wl_aload_n C dL_law_192 rfl ?_
  refine wl_iconst C (nI 2) dL_law_193 (by decide) ?_
  refine wl_iload C dL_law_194 rfl ?_
  refine wl_iconst C (nI 1) dL_law_196 (by decide) ?_
  refine wl_iload C dL_law_197 rfl ?_
  refine wl_callV4 C (k' := kX5_mix) dL_law_199 lmL_44 kvX5_mix (by first | assumption | rfl) (by rfl) (by decide) (Nat.le_of_ble_eq_true rfl) ?_
  refine wp_mix (by omega) (by omega) (by omega) hn (by omega) (by omega) h2 h1 hV6 hU6 (fun ν1 g2_ k1_ => ?_)
  refine wl_iload_n C dL_law_202 rfl ?_
  refine wl_ic_neF C 236 dL_law_203 (by decide) (fun q_ => q_ rfl) ?_
  have b0_ := h0.fr (k1_ (43 + 5 * 0) (by omega)).1 (k1_ (43 + 5 * 0 + 1) (by omega)).2; have b1_ := h1.fr (k1_ (43 + 5 * 1) (by omega)).1 (k1_ (43 + 5 * 1 + 1) (by omega)).2; have bA_ := hA.fr (k1_ 73 (by omega)).2
  refine wl_aload_n C dL_law_206 rfl ?_
  refine wl_iconst C (nI 0) dL_law_207 (by decide) ?_
  refine wl_iconst C (nI 3) dL_law_208 (by decide) ?_
  refine wl_callV2 C (k' := kX5_turn) dL_law_209 lmL_48 kvX5_turn (by first | assumption | rfl) (by rfl) (by decide) (Nat.le_of_ble_eq_true rfl) ?_
  refine wp_tones (p := q) (by omega) (by omega) hq hnq hn b0_ hV6 (fun ν2 t0_ k2_ => ?_)
  refine wl_iload_n C dL_law_212 rfl ?_
  refine wl_ic_neF C 236 dL_law_213 (by decide) (fun q_ => q_ rfl) ?_
  have c1_ := b1_.fr (k2_ (43 + 5 * 1) (by omega)).1 (k2_ (43 + 5 * 1 + 1) (by omega)).2; have c2_ := g2_.fr (k2_ (43 + 5 * 2) (by omega)).1 (k2_ (43 + 5 * 2 + 1) (by omega)).2; have cA_ := bA_.fr (k2_ 73 (by omega)).2
  refine wl_aload_n C dL_law_216 rfl ?_
  refine wl_iconst C (nI 1) dL_law_217 (by decide) ?_
  refine wl_iconst C (nI 3) dL_law_218 (by decide) ?_
  refine wl_callV2 C (k' := kX5_turn) dL_law_219 lmL_48 kvX5_turn (by first | assumption | rfl) (by rfl) (by decide) (Nat.le_of_ble_eq_true rfl) ?_
  refine wp_tones (p := q) (by omega) (by omega) hq hnq hn c1_ hU6 (fun ν3 t1_ k3_ => ?_)
  refine wl_iload_n C dL_law_222 rfl ?_
  refine wl_ic_neF C 236 dL_law_223 (by decide) (fun q_ => q_ rfl) ?_
  have d0_ := t0_.fr (k3_ (43 + 5 * 0) (by omega)).1 (k3_ (43 + 5 * 0 + 1) (by omega)).2; have d2_ := c2_.fr (k3_ (43 + 5 * 2) (by omega)).1 (k3_ (43 + 5 * 2 + 1) (by omega)).2; have dA_ := cA_.fr (k3_ 73 (by omega)).2
  refine wl_aload_n C dL_law_226 rfl ?_
  refine wl_iconst C (nI 2) dL_law_227 (by decide) ?_
  refine wl_iconst C (nI 3) dL_law_228 (by decide) ?_
  refine wl_callV2 C (k' := kX5_turn) dL_law_229 lmL_48 kvX5_turn (by first | assumption | rfl) (by rfl) (by decide) (Nat.le_of_ble_eq_true rfl) ?_
  refine wp_tones (p := q) (by omega) (by omega) hq hnq hn d2_ hM (fun ν4 t2_ k4_ => ?_)
  refine wl_iload_n C dL_law_232 rfl ?_
  refine wl_ic_eqT C 238 dL_law_233 (by decide) (rfl) ?_
  have e0_ := d0_.fr (k4_ (43 + 5 * 0) (by omega)).1 (k4_ (43 + 5 * 0 + 1) (by omega)).2
  have e1_ := t1_.fr (k4_ (43 + 5 * 1) (by omega)).1 (k4_ (43 + 5 * 1 + 1) (by omega)).2
  have eA_ := dA_.fr (k4_ 73 (by omega)).2
  exact wl_238 C hn hq hnq ha1 ha2 hV hU e0_ e1_ (t2_.co (fun i _ => ton_lin V U a1 a2 q i)) eA_ (by rw [hnq]; exact ton_par hq V V) (by rw [hnq]; exact ton_par hq V U)
theorem wl_107 (C : LK p s m meth c b L xs G) {n q : Nat} {V U : Nat → Int} {μ : Mem} (hn : n ≤ 64) (hq : q < 7) (hnq : n = 2 ^ q) (hV : bnd V n 1000) (hU : bnd U n 1000) (hA : ArrIs μ 73 n V) (hB : ArrIs μ 74 n U) : WL p l e s m below meth c b G 107 [some (.ref 75), some (.ref 0), some (.int (nI n)), some (.ref 73), some (.ref 74), some (.long (Int64.ofInt (sumZ V n))), none, none, none, none, none, none, none, none, none, none, none, none, none] [] μ := by
  have hV8 : bnd V n 100000000 := fun i hi => by have := hV i hi; omega
  have hU8 : bnd U n 100000000 := fun i hi => by have := hU i hi; omega
  have hV9 : bnd V n 2000000000 := fun i hi => by have := hV i hi; omega
  have hU9 : bnd U n 2000000000 := fun i hi => by have := hU i hi; omega
  refine wl_aload_n C dL_law_107 rfl ?_
  refine wl_iconst C (nI 0) dL_law_108 (by decide) ?_
  refine wl_iconst C (nI 0) dL_law_109 (by decide) ?_
  refine wl_aload_n C dL_law_110 rfl ?_
  refine wl_iload_n C dL_law_111 rfl ?_
  refine wl_callS5 C (k' := kL_raised) dL_law_112 lmL_32 ksL_raised (by decide) (Nat.le_of_ble_eq_true rfl) ?_
  refine wp_raised (by omega) (by omega) (by omega) hn sh73 (by omega) hA hV9 (fun ν1 h0_ k1_ => ?_)
  refine wl_if_eqF C 141 dL_law_115 (by decide) (by decide) ?_
  have bA_ := hA.fr (k1_ 73 (by omega) (by omega)).2; have bB_ := hB.fr (k1_ 74 (by omega) (by omega)).2
  refine wl_aload_n C dL_law_118 rfl ?_
  refine wl_iconst C (nI 1) dL_law_119 (by decide) ?_
  refine wl_iconst C (nI 1) dL_law_120 (by decide) ?_
  refine wl_aload C dL_law_121 rfl ?_
  refine wl_iload_n C dL_law_123 rfl ?_
  refine wl_callS5 C (k' := kL_raised) dL_law_124 lmL_32 ksL_raised (by decide) (Nat.le_of_ble_eq_true rfl) ?_
  refine wp_raised (by omega) (by omega) (by omega) hn sh74 (by omega) bB_ hU9 (fun ν2 h1_ k2_ => ?_)
  refine wl_if_eqF C 141 dL_law_127 (by decide) (by decide) ?_
  have cA_ := bA_.fr (k2_ 73 (by omega) (by omega)).2; have c0_ := h0_.fr (k2_ (43 + 5 * 0) (by omega) (by omega)).1 (k2_ (43 + 5 * 0 + 1) (by omega) (by omega)).2
  refine wl_aload_n C dL_law_130 rfl ?_
  refine wl_iconst C (nI 2) dL_law_131 (by decide) ?_
  refine wl_iconst C (nI 2) dL_law_132 (by decide) ?_
  refine wl_aload_n C dL_law_133 rfl ?_
  refine wl_iload_n C dL_law_134 rfl ?_
  refine wl_callS5 C (k' := kL_raised) dL_law_135 lmL_32 ksL_raised (by decide) (Nat.le_of_ble_eq_true rfl) ?_
  refine wp_raised (by omega) (by omega) (by omega) hn sh73 (by omega) cA_ hV9 (fun ν3 h2_ k3_ => ?_)
  refine wl_if_neT C 143 dL_law_138 (by decide) (by decide) ?_
  have dA_ := cA_.fr (k3_ 73 (by omega) (by omega)).2; have d0_ := c0_.fr (k3_ (43 + 5 * 0) (by omega) (by omega)).1 (k3_ (43 + 5 * 0 + 1) (by omega) (by omega)).2; have d1_ := h1_.fr (k3_ (43 + 5 * 1) (by omega) (by omega)).1 (k3_ (43 + 5 * 1 + 1) (by omega) (by omega)).2
  refine wl_aload_n C dL_law_143 rfl ?_
  refine wl_iconst C (nI 0) dL_law_144 (by decide) ?_
  refine wl_iconst C (nI 0) dL_law_145 (by decide) ?_
  refine wl_iload_n C dL_law_146 rfl ?_
  refine wl_callV3 C (k' := kX5_force) dL_law_147 lmL_36 kvX5_force (by first | assumption | rfl) (by rfl) (by decide) (Nat.le_of_ble_eq_true rfl) ?_
  refine wp_force (n := n) (a := 0) (b := n) (by omega) (by omega) hn (by omega) (by omega) (by omega) d0_ hV8 ?_
  rw [fr_all (Int.le_refl _)]
  refine wl_lstore C dL_law_150 (by decide) ?_
  refine wl_aload_n C dL_law_152 rfl ?_
  refine wl_iconst C (nI 0) dL_law_153 (by decide) ?_
  refine wl_iconst C (nI 1) dL_law_154 (by decide) ?_
  refine wl_callV2 C (k' := kX5_cross) dL_law_155 lmL_40 kvX5_cross (by first | assumption | rfl) (by rfl) (by decide) (Nat.le_of_ble_eq_true rfl) ?_
  refine wp_cross (n := n) (by omega) (by omega) (by omega) hn d0_ d1_ hV8 hU8 ?_
  refine wl_lstore C dL_law_158 (by decide) ?_
  refine wl_aload_n C dL_law_160 rfl ?_
  refine wl_sipush C (nI 140) dL_law_161 (by decide) ?_
  refine wl_cell C _ dL_law_164 (by first | with_reducible rfl | with_reducible exact ix_a _ _) (by omega) (Nat.le_of_ble_eq_true rfl) (fun v_164 => ?_)
  refine wl_bipush C (nI 9) dL_law_167 (by decide) ?_
  refine wl_up C dL_law_169 (by omega) (by omega) (Nat.le_of_ble_eq_true rfl) (fun r_169 hr_169 => ?_)
  refine wl_iconst C (nI 4) dL_law_172 (by decide) ?_
  refine wl_isub C dL_law_173 ?_
  rw [nI_subZ]
  refine wl_istore C dL_law_174 (by decide) ?_
  refine wl_lo (lv' := [some (.ref 75), some (.ref 0), some (.int (nI n)), some (.ref 73), some (.ref 74), some (.long (Int64.ofInt (sumZ V n))), none, some (.long (Int64.ofInt (sumZ (fun i => V i * V i) n))), none, some (.long (Int64.ofInt (sumZ (fun i => V i * U i) n))), none, some (.int (Int32.ofInt ((r_169 : Int) - ((4 : Nat) : Int)))), none, none, none, none, none, none, none]) rfl ?_
  refine wl_aload_n C dL_law_176 rfl ?_
  refine wl_sipush C (nI 141) dL_law_177 (by decide) ?_
  refine wl_cell C _ dL_law_180 (by first | with_reducible rfl | with_reducible exact ix_a _ _) (by omega) (Nat.le_of_ble_eq_true rfl) (fun v_180 => ?_)
  refine wl_bipush C (nI 9) dL_law_183 (by decide) ?_
  refine wl_up C dL_law_185 (by omega) (by omega) (Nat.le_of_ble_eq_true rfl) (fun r_185 hr_185 => ?_)
  refine wl_iconst C (nI 4) dL_law_188 (by decide) ?_
  refine wl_isub C dL_law_189 ?_
  rw [nI_subZ]
  refine wl_istore C dL_law_190 (by decide) ?_
  exact wl_192 C hn hq hnq (by omega) (by omega) hV hU d0_ d1_ h2_ dA_
end LAW3
end
section
/-! THE LAW: its first loop, that fills the two arrays -/
def upZ (V : Nat → Int) (i : Nat) (x : Int) (j : Nat) : Int := if j = i then x else V j
theorem upZ_sum {V : Nat → Int} {i : Nat} {x : Int} : sumZ (upZ V i x) (i + 1) = sumZ V i + x := by
  rw [sumZ, sumZ_congr (g := V) (fun k hk => by rw [upZ, if_neg (by omega)]), upZ, if_pos rfl]
theorem upZ_bnd {V : Nat → Int} {i : Nat} {x B : Int} (h : bnd V i B) (hx : -B ≤ x ∧ x ≤ B) : bnd (upZ V i x) (i + 1) B := fun j hj => by
  by_cases hji : j = i
  · rw [upZ, if_pos hji]
    exact hx
  · rw [upZ, if_neg hji]
    exact h j (by omega)
theorem upZ_arr {ν : Mem} {t i : Nat} {V : Nat → Int} {x : Int} (h : ArrIs ν t i V) : ArrIs (sL ν t i (Int64.ofInt x)) t (i + 1) (upZ V i x) := fun j hj => by
  by_cases hji : j = i
  · subst hji
    rw [r2e, upZ, if_pos rfl]
  · rw [r2m hji, upZ, if_neg hji]
    exact h j (by omega)
section LAW4
variable {p : Program} {l : Launch} {e : Env} {s : State} {m : MethodId} {below : List Frame} {meth : Method} {c : Code} {b L : Nat} {xs : Nat → Int32} {G : WG}
theorem wl_38 (C : LK p s m meth c b L xs G) {n q : Nat} (hn : n ≤ 64) (hq : q < 7) (hnq : n = 2 ^ q) : ∀ mm i, i + mm = n → ∀ (V U : Nat → Int) (ν : Mem), ArrIs ν 73 i V → ArrIs ν 74 i U → bnd V i 1000 → bnd U i 1000 → WL p l e s m below meth c b G 38 [some (.ref 75), some (.ref 0), some (.int (nI n)), some (.ref 73), some (.ref 74), some (.long (Int64.ofInt (sumZ V i))), none, some (.int (nI i)), none, none, none, none, none, none, none, none, none, none, none] [] ν := by
  have hs3 := sh73
  have hs4 := sh74
  intro mm
  induction mm with
  | zero =>
    intro i hi V U ν hA hB hV hU
    obtain rfl : i = n := by omega
    refine wl_iload C dL_law_38 rfl ?_
    refine wl_iload_n C dL_law_40 rfl ?_
    refine wl_ic_geT C 107 dL_law_41 (by decide) (le_nI (by omega) (by omega)) ?_
    refine wl_frg [true, true, true, true, true, true, false, false, false, false, false, false, false, false, false, false, false, false, false] ?_
    exact wl_107 C hn hq hnq hV hU hA hB
  | succ mm ih =>
    intro i hi V U ν hA hB hV hU
    refine wl_iload C dL_law_38 rfl ?_
    refine wl_iload_n C dL_law_40 rfl ?_
    refine wl_ic_geF C 107 dL_law_41 (by decide) (nle_nI (by omega) (by omega)) ?_
    refine wl_aload_n C dL_law_44 rfl ?_
    refine wl_iload C dL_law_45 rfl ?_
    refine wl_aload_n C dL_law_47 rfl ?_
    refine wl_iconst C (nI 1) dL_law_48 (by decide) ?_
    refine wl_iload C dL_law_49 rfl ?_
    refine wl_iadd C dL_law_51 ?_
    refine wl_cell C _ dL_law_52 (by first | with_reducible rfl | with_reducible exact ix_a _ _) (by omega) (Nat.le_of_ble_eq_true rfl) (fun v_52 => ?_)
    refine wl_sipush C (nI 2001) dL_law_55 (by decide) ?_
    refine wl_up C dL_law_58 (by omega) (by omega) (Nat.le_of_ble_eq_true rfl) (fun r_58 hr_58 => ?_)
    refine wl_sipush C (nI 1000) dL_law_61 (by decide) ?_
    refine wl_isub C dL_law_64 ?_
    rw [nI_subZ]
    refine wl_i2l C dL_law_65 ?_
    rw [z_32 (by omega) (by omega)]
    refine wl_last C _ dL_law_66 (by first | assumption | rfl) (by first | with_reducible rfl | with_reducible assumption | with_reducible exact ix_ma _ _ _ | with_reducible exact ix_maa _ _ _ _ | with_reducible exact ix_a _ _ | with_reducible exact ix_mama _ _ _ _ _) (by omega) ?_
    refine wl_aload C dL_law_67 rfl ?_
    refine wl_iload C dL_law_69 rfl ?_
    refine wl_aload_n C dL_law_71 rfl ?_
    refine wl_bipush C (nI 70) dL_law_72 (by decide) ?_
    refine wl_iload C dL_law_74 rfl ?_
    refine wl_iadd C dL_law_76 ?_
    refine wl_cell C _ dL_law_77 (by first | with_reducible rfl | with_reducible exact ix_a _ _) (by omega) (Nat.le_of_ble_eq_true rfl) (fun v_77 => ?_)
    refine wl_sipush C (nI 2001) dL_law_80 (by decide) ?_
    refine wl_up C dL_law_83 (by omega) (by omega) (Nat.le_of_ble_eq_true rfl) (fun r_83 hr_83 => ?_)
    refine wl_sipush C (nI 1000) dL_law_86 (by decide) ?_
    refine wl_isub C dL_law_89 ?_
    rw [nI_subZ]
    refine wl_i2l C dL_law_90 ?_
    rw [z_32 (by omega) (by omega)]
    refine wl_last C _ dL_law_91 (by first | assumption | rfl) (by first | with_reducible rfl | with_reducible assumption | with_reducible exact ix_ma _ _ _ | with_reducible exact ix_maa _ _ _ _ | with_reducible exact ix_a _ _ | with_reducible exact ix_mama _ _ _ _ _) (by omega) ?_
    refine wl_lload C dL_law_92 rfl ?_
    refine wl_aload_n C dL_law_94 rfl ?_
    refine wl_iload C dL_law_95 rfl ?_
    refine wl_lald C _ dL_law_97 (by first | assumption | rfl) (by first | with_reducible rfl | with_reducible assumption | with_reducible exact ix_ma _ _ _ | with_reducible exact ix_maa _ _ _ _ | with_reducible exact ix_a _ _ | with_reducible exact ix_mama _ _ _ _ _) (by omega) ?_
    rw [sL_off (show (73 : Nat) ≠ 74 by omega), r2e]
    refine wl_ladd C dL_law_98 ?_
    rw [← Int64.ofInt_add]
    refine wl_lstore C dL_law_99 (by decide) ?_
    refine wl_iinc C (nI 1) dL_law_101 rfl (by decide) (by decide) ?_
    refine wl_goto C 38 dL_law_104 (by decide) ?_
    have e_ := ih (i + 1) (by omega) (upZ V i ((r_58 : Int) - ((1000 : Nat) : Int))) (upZ U i ((r_83 : Int) - ((1000 : Nat) : Int))) (sL (sL ν 73 i (Int64.ofInt ((r_58 : Int) - ((1000 : Nat) : Int)))) 74 i (Int64.ofInt ((r_83 : Int) - ((1000 : Nat) : Int)))) ((upZ_arr hA).fr (sL_off (by omega))) (upZ_arr (hB.fr (sL_off (by omega)))) (upZ_bnd hV (by omega)) (upZ_bnd hU (by omega))
    rw [upZ_sum] at e_
    simp only [nI_add]
    exact e_
end LAW4
end
section
/-! THE CLAIM: the law from its entry -/
theorem ntX5_15 : Cond.methodLinkNest RX5 15 yX3_init RX5 ∈ lw_tbl := List.mem_of_getElem? (i := 32) (by decide +kernel)
theorem ntX5_22 : Cond.methodLinkNest RX5 22 yX2_init RX5 ∈ lw_tbl := List.mem_of_getElem? (i := 60) (by decide +kernel)
theorem ntX5_25 : Cond.methodLinkNest RX5 25 yX1_init RX5 ∈ lw_tbl := List.mem_of_getElem? (i := 83) (by decide +kernel)
theorem ntX1_9 : Cond.methodLinkNest RX1 9 yX3_init RX5 ∈ lw_tbl := List.mem_of_getElem? (i := 88) (by decide +kernel)
theorem ntX5_32 : Cond.methodLinkNest RX5 32 yX4_init RX5 ∈ lw_tbl := List.mem_of_getElem? (i := 98) (by decide +kernel)
theorem ntX5_39 : Cond.methodLinkNest RX5 39 yX0_init RX5 ∈ lw_tbl := List.mem_of_getElem? (i := 121) (by decide +kernel)
theorem aoX3 : Cond.arrayOver (.object RX3) ∈ lw_tbl := List.mem_of_getElem? (i := 30) (by decide +kernel)
theorem aoX2 : Cond.arrayOver (.object RX2) ∈ lw_tbl := List.mem_of_getElem? (i := 58) (by decide +kernel)
theorem lmL_22i : Cond.methodLink RL 22 yX5_init ∈ wT := tm 23 (by decide +kernel) (by decide +kernel)
theorem good_tbl {k : MK} (h : Cond.code k.1 k.2.1 k.2.2.1 k.2.2.2 ∈ wT) : GoodIn lw_tbl (wsM k) := by
  intro w hw
  rcases List.mem_cons.mp hw with rfl | hw
  · exact ⟨wT_tbl h, wT_good h⟩
  · exact ⟨wT_tbl hw, wT_good hw⟩
theorem good5 : GoodIn lw_tbl (wsM kX5_init) := good_tbl co5
theorem shlI : ∀ r, r < 7 → nI 1 <<< (nI r &&& 31) = nI (2 ^ r) := by decide
theorem of_ac {args : Array Value} {s : State} {ty : FieldType} (h : (Cond.arrayClass ty).before args s = true) : ∃ cA, ArrOfT s cA ty ∧ s.vm.findClass ("[" ++ ty.toString) = some cA := by
  obtain ⟨cA, kA, comp, h1, h2, h3⟩ := Cond.arrayClass_spec h
  exact ⟨cA, fun n z => ⟨fun k h => (by cases h), kA, h2, comp, h3⟩, h1⟩
theorem of_ao {args : Array Value} {s : State} {C : String} (h : (Cond.arrayOver (.object C)).before args s = true) : ∃ cA, ArrOfT s cA (.object C) ∧ va_RA s cA (.object C) := by
  obtain ⟨comp, cA, kA, h1, h2, h3, h4, h5⟩ := Cond.arrayOver_spec h
  exact ⟨cA, fun n z => ⟨fun k h => (by cases h), kA, h3, comp, h4⟩, kA, comp, h3, h4, h1, h5⟩
set_option maxHeartbeats 4000000 in
set_option maxRecDepth 100000 in
theorem whole_start {p : Program} {e : Env} {s : State} {m : MethodId} {below : List Frame} {meth : Method} {c : Code} (l : Launch) (hflags : l.flags = flags0) {b L : Nat} {xs : Nat → Int32} (hL : L ≤ 260) (C0 : lw_At p s m meth c b L xs) : W p l e room_1 s m #[Value.ref b] below meth c s.heap [] 0 0 (lw_Z below #[Value.ref b] s) (entryFrame m ([Value.ref b] : List Value).toArray 19) := by
  obtain ⟨hx, hb, hr, hml, hown, hts, hX, hbl, hlocks, hgv⟩ := id C0
  have hw : ∀ {w : Cond}, w ∈ wT → w.before #[Value.ref b] s = true := fun h => hts _ (wT_tbl h)
  have hA : ∀ q : Nat, s.heap.size ≤ q → (fun q : Nat => s.heap.size ≤ q) q := fun _ h => h
  obtain ⟨c0, d0, k0⟩ := u_known (C := RX0) (T := TX0) (N := 10) hts (fun w h => wT_tbl (uw0 w h)) (hw iaX0)
  obtain ⟨c1, d1, k1⟩ := u_known (C := RX1) (T := TX1) (N := 2) hts (fun w h => wT_tbl (uw1 w h)) (hw iaX1)
  obtain ⟨c2, d2, k2⟩ := u_known (C := RX2) (T := TX2) (N := 5) hts (fun w h => wT_tbl (uw2 w h)) (hw iaX2)
  obtain ⟨c3, d3, k3⟩ := u_known (C := RX3) (T := TX3) (N := 6) hts (fun w h => wT_tbl (uw3 w h)) (hw iaX3)
  obtain ⟨c4, d4, k4⟩ := u_known (C := RX4) (T := TX4) (N := 7) hts (fun w h => wT_tbl (uw4 w h)) (hw iaX4)
  obtain ⟨c5, d5, k5⟩ := u_known (C := RX5) (T := TX5) (N := 5) hts (fun w h => wT_tbl (uw5 w h)) (hw iaX5)
  obtain ⟨D, hD0⟩ : ∃ D : va_G, ∀ (k : Nat) (q : vw_C), vwCl[k]? = some q → u_Kn s q.1 q.2.1 q.2.2 (D.1 k) (D.2 k) := by
    refine ⟨(fun k => match k with
      | 0 => c0
      | 1 => c1
      | 2 => c2
      | 3 => c3
      | 4 => c4
      | _ => c5, fun k => match k with
      | 0 => d0
      | 1 => d1
      | 2 => d2
      | 3 => d3
      | 4 => d4
      | _ => d5), ?_⟩
    intro k q hq
    match k, hq with
    | 0, hq => cases hq; exact k0
    | 1, hq => cases hq; exact k1
    | 2, hq => cases hq; exact k2
    | 3, hq => cases hq; exact k3
    | 4, hq => cases hq; exact k4
    | 5, hq => cases hq; exact k5
    | k + 6, hq => simp [vwCl] at hq
  obtain ⟨cZ, z1, z2⟩ := of_ac (hw ac_boolean)
  obtain ⟨cI, i1, i2⟩ := of_ac (hw ac_int)
  obtain ⟨cJ, j1, j2⟩ := of_ac (hw ac_long)
  obtain ⟨cS, s1, s2⟩ := of_ao (hts _ aoX3)
  obtain ⟨cR, r1, r2⟩ := of_ao (hts _ aoX2)
  obtain ⟨ca, hca⟩ : ∃ ca : Nat → ClassId, ca 0 = cZ ∧ ca 1 = cI ∧ ca 2 = cJ ∧ ca 3 = cS ∧ ca 4 = cR := ⟨fun k => match k with
      | 0 => cZ
      | 1 => cI
      | 2 => cJ
      | 3 => cS
      | _ => cR, rfl, rfl, rfl, rfl, rfl⟩
  obtain ⟨e0, e1, e2, e3, e4⟩ := hca
  subst e0 e1 e2 e3 e4
  have hwK : ∀ g : Nat → Nat, wK (D, g, ca) s := fun g => by
    refine ⟨⟨hD0, fun k q hk => ?_⟩, va_Nw.of rfl (hts _ ntX2_79)⟩
    match k, hk with
    | 0, hk => cases hk; exact ⟨z1, z2⟩
    | 1, hk => cases hk; exact ⟨i1, i2⟩
    | 2, hk => cases hk; exact ⟨j1, j2⟩
    | 3, hk => cases hk; exact ⟨s1, s2⟩
    | 4, hk => cases hk; exact ⟨r1, r2⟩
    | k + 5, hk => simp [wTys] at hk
  obtain ⟨G, hGd⟩ : ∃ G : WG, G = (D, (fun _ => 0), ca) := ⟨_, rfl⟩
  have hG1 : G.1 = D := by rw [hGd]
  have hG2 : G.2.2 = ca := by rw [hGd]
  have hK : kW G s := by
    rw [hGd]
    exact ⟨hwK _, va_Nw.of rfl (hts _ ntX5_15), va_Nw.of rfl (hts _ ntX5_22), va_Nw.of rfl (hts _ ntX5_25), va_Nw.of rfl (hts _ ntX1_9), va_Nw.of rfl (hts _ ntX5_32), va_Nw.of rfl (hts _ ntX5_39), va_AO.of (hts _ aoX3), va_AO.of (hts _ aoX2)⟩
  have hS : va_S (fun q : Nat => s.heap.size ≤ q) s.heap s.heap [] := va_S.rf
  have hP : va_P G.1 vwCl [] s.heap := fun k q h => by simp at h
  have hD : va_D (fun q : Nat => s.heap.size ≤ q) [] := ⟨fun i j p q h => by simp at h, fun k q h => by simp at h⟩
  have hl := lv_entry ([.ref b]) (n := 19) (Nat.le_of_ble_eq_true rfl)
  rw [lg_entry_eq]
  generalize (lg_sl ([.ref b]) ++ List.replicate (19 - (lg_sl ([.ref b])).length) Slot.unset).toArray = ls at hl ⊢
  have hl : lv_has ls 19 [(0, .ref b)] := hl
  have hown : s.vm.findClass RL = some m.cls := hown
  -- new WaveBuoys()
  refine va_new (ci := 5) (fs := [.null, .null, .null, .null, .null]) (C := RX5) (T := TX5) (N := 5) hx hb hts (fun w h => wT_tbl (uw5 w h)) tyX5 tyX5_ok hown (hw clL_10) (hw iaX5) (hw in5) hK.1.1 hP hD hS hA rfl (fun j hj => by rcases (show j = 0 ∨ j = 1 ∨ j = 2 ∨ j = 3 ∨ j = 4 by omega) with rfl | rfl | rfl | rfl | rfl <;> rfl) (Nat.le_of_ble_eq_true rfl) (Nat.le_of_ble_eq_true rfl) dL_law_0 (fun qx H hP hD hS => ?_)
  refine W.widen (k := 1) (n := 5) (Nat.le_of_ble_eq_true rfl) (Nat.le_of_ble_eq_true rfl) ?_
  refine lv_dup hx hb dL_law_3 rfl ?_
  have hPc := wx_P hP
  have hDc := wx_D hD
  have hFc := wx_F hD hS hA
  refine va_callv (va_runI (As := []) (rest := [.ref qx]) ⟨hx, hb, hml, hown, hts⟩ (c_X5 l G qx H.size) (cwI 0 hts (good5) rfl rfl rfl (hw in5) (hw lmL_22i) (hw im5) rfl ⟨by decide, by decide, by decide +kernel⟩ ⟨Nat.le_of_ble_eq_true rfl, Nat.le_of_ble_eq_true rfl⟩) ⟨kx_blind, fun U hU hW => ⟨rfl, by rw [hU], by rw [hU]; exact hPc, hK.warm hW, hDc⟩⟩ rfl rfl hl.1 rfl (lv_room (Nat.le_of_ble_eq_true rfl)) dL_law_4 ⟨Nat.le_of_ble_eq_true rfl, Nat.le_of_ble_eq_true rfl⟩) hS (fun q _ h => hFc q h) hFc (fun L5 t H1 locs ht hvm hraw hB hz1 hk1 hS => ?_)
  obtain ⟨hP1, hD1⟩ := hB
  rw [ht] at hP1
  obtain ⟨hP, hD⟩ := wx_join hP hD hk1 hFc hP1 hD1
  generalize H1 = H at hP hS ⊢
  have hP : va_P G.1 vwCl L5 H := hP
  have hD : va_D (fun q : Nat => s.heap.size ≤ q) L5 := hD
  refine W.widen (k := 73) (n := 3396) (Nat.le_of_ble_eq_true rfl) (Nat.le_of_ble_eq_true rfl) ?_
  refine lv_astore_n (lv' := [(1, .ref qx), (0, .ref b)]) hx hb dL_law_7 rfl hl (by decide) rfl (fun ls hl => ?_)
  -- n
  refine lv_iconst (v := nI 1) hx hb dL_law_8 (by decide) ?_
  refine lv_aload_n hx hb dL_law_9 rfl (lv_at hl 1 rfl) ?_
  refine lv_iconst (v := nI 0) hx hb dL_law_10 (by decide) ?_
  refine w_cell (Nat.le_of_ble_eq_true rfl) (Nat.le_of_ble_eq_true rfl) C0 hL hS hl.1 (by omega) (Nat.le_of_ble_eq_true rfl) dL_law_11 (fun v0 => ?_)
  refine lv_bipush (v := nI 7) hx hb dL_law_14 (by decide) ?_
  refine w_up (Nat.le_of_ble_eq_true rfl) (Nat.le_of_ble_eq_true rfl) C0 hl.1 (by omega) (by omega) (Nat.le_of_ble_eq_true rfl) dL_law_16 (fun r hr7 => ?_)
  refine lv_ishl hx hb dL_law_19 ?_
  rw [shlI r hr7]
  refine lv_istore_n (lv' := [(2, .int (nI (2 ^ r))), (1, .ref qx), (0, .ref b)]) hx hb dL_law_20 rfl hl (by decide) rfl (fun ls hl => ?_)
  -- the two arrays
  refine lv_bipush (v := nI 64) hx hb dL_law_21 (by decide) ?_
  refine wx_newa (atype := .long) (N' := 64) (a0 := (64, .inr (.inl (fun _ => 0)))) hx hb 2 (hw ac_long) rfl rfl (fun _ h => h) hK hP hD hS hA (fun _ => rfl) (by decide) (by decide) (Nat.le_of_ble_eq_true rfl) (Nat.le_of_ble_eq_true rfl) (Nat.le_of_ble_eq_true rfl) dL_law_23 (fun q3 H hP hD hS => ?_)
  refine W.widen (k := 74) (n := 3460) (Nat.le_of_ble_eq_true rfl) (Nat.le_of_ble_eq_true rfl) ?_
  refine lv_astore_n (lv' := [(3, .ref q3), (2, .int (nI (2 ^ r))), (1, .ref qx), (0, .ref b)]) hx hb dL_law_25 rfl hl (by decide) rfl (fun ls hl => ?_)
  refine lv_bipush (v := nI 64) hx hb dL_law_26 (by decide) ?_
  refine wx_newa (atype := .long) (N' := 64) (a0 := (64, .inr (.inl (fun _ => 0)))) hx hb 2 (hw ac_long) rfl rfl (fun _ h => h) hK hP hD hS hA (fun _ => rfl) (by decide) (by decide) (Nat.le_of_ble_eq_true rfl) (Nat.le_of_ble_eq_true rfl) (Nat.le_of_ble_eq_true rfl) dL_law_28 (fun q4 H hP hD hS => ?_)
  refine W.widen (k := 75) (n := 3524) (Nat.le_of_ble_eq_true rfl) (Nat.le_of_ble_eq_true rfl) ?_
  refine lv_astore (lv' := [(4, .ref q4), (3, .ref q3), (2, .int (nI (2 ^ r))), (1, .ref qx), (0, .ref b)]) hx hb dL_law_30 hl (by decide) rfl (fun ls hl => ?_)
  refine lv_lconst (v := 0) hx hb dL_law_32 (by decide) ?_
  refine lv_lstore (lv' := [(5, .long 0), (4, .ref q4), (3, .ref q3), (2, .int (nI (2 ^ r))), (1, .ref qx), (0, .ref b)]) hx hb dL_law_33 hl (by decide) rfl (fun ls hl => ?_)
  refine lv_iconst (v := nI 0) hx hb dL_law_35 (by decide) ?_
  refine lv_istore (lv' := [(7, .int (nI 0)), (5, .long 0), (4, .ref q4), (3, .ref q3), (2, .int (nI (2 ^ r))), (1, .ref qx), (0, .ref b)]) hx hb dL_law_36 hl (by decide) rfl (fun ls hl => ?_)
  refine W.widen (k := 100) (n := 8000) (Nat.le_of_ble_eq_true rfl) (Nat.le_of_ble_eq_true rfl) ?_
  have eL : (L5 ++ [(q3, (Sum.inl (G.2.2 2, 64, .inr (.inl (fun _ => 0))) : va_E))]) ++ [(q4, .inl (G.2.2 2, 64, .inr (.inl (fun _ => 0))))] = L5 ++ wXY G q3 [q4, b] := by
    rw [List.append_assoc]
    rfl
  rw [eL] at hP hD
  obtain ⟨g, g0, g73, g74, g75, hwD, hwP, hwA⟩ := made hraw hP hD
  have g74 : g 74 = q4 := g74
  have g75 : g 75 = b := g75
  subst g0
  subst g73
  subst g74
  rw [hG1, hG2] at hwD hwP
  have h64 : ∀ q, q < 7 → 2 ^ q ≤ 64 := by decide
  refine wl_38 (L := L) (xs := xs) (G := (D, g, ca)) ⟨C0, hL, hwD, hwK g, hwA, g75⟩ (n := 2 ^ r) (q := r) (h64 r hr7) hr7 rfl (2 ^ r) 0 (by omega) (fun _ => 0) (fun _ => 0) muZ (fun i hi => absurd hi (by omega)) (fun i hi => absurd hi (by omega)) (fun i hi => absurd hi (by omega)) (fun i hi => absurd hi (by omega)) H _ ls hwP hS ⟨hl.1, hl.2.1, fun i v hi => ?_⟩
  match i, hi with
  | 0, hi =>
    cases hi
    show ls[0]? = some (.val (.ref (g 75)))
    rw [g75]
    exact lv_at hl 6 rfl
  | 1, hi => cases hi; exact lv_at hl 5 rfl
  | 2, hi => cases hi; exact lv_at hl 4 rfl
  | 3, hi => cases hi; exact lv_at hl 3 rfl
  | 4, hi => cases hi; exact lv_at hl 2 rfl
  | 5, hi => cases hi; exact lv_at hl 1 rfl
  | 6, hi => cases hi
  | 7, hi => cases hi; exact lv_at hl 0 rfl
  | 8, hi => cases hi
  | 9, hi => cases hi
  | 10, hi => cases hi
  | 11, hi => cases hi
  | 12, hi => cases hi
  | 13, hi => cases hi
  | 14, hi => cases hi
  | 15, hi => cases hi
  | 16, hi => cases hi
  | 17, hi => cases hi
  | 18, hi => cases hi
  | i + 19, hi => cases hi
set_option maxHeartbeats 4000000 in
theorem lw_walk (l : Launch) (hflags : l.flags = flags0) (b : Addr) (xs : List Int32) : MetFree l x (headSpec (Jvm.Cond.code x code maxLocals ret :: tables_1) room_1) (lw_P b xs) (fun _ _ _ _ _ => True) lw_Q := by
  refine MetFree.of_bodyS (code := code) (maxLocals := maxLocals) (ret := ret) (by decide) ?_ ?_
  · intro args s m h hn
    obtain ⟨meth, c, h1, h2, h3, h4, h5, h6, -, -⟩ := Cond.code_spec hn (atoms_spec (ws := Jvm.Cond.code x code maxLocals ret :: tables_1) h _ List.mem_cons_self)
    exact ⟨meth, c, h1, h2, h3, h4, h5, h6⟩
  · intro p e s m args below meth c s₁ B hml0 hP _
    obtain ⟨rfl, hx, hbd, hgv⟩ := hP
    obtain ⟨scr, harrAt, hlist, hof, hsmall⟩ := hx
    obtain ⟨hcb, hkn, -, -⟩ := State.arrayAt?_spec harrAt
    have hown : s.vm.findClass R_law = some m.cls := findClass_of_methodNamed B.named
    have hts0 : ∀ c ∈ (Jvm.Cond.code x code maxLocals ret :: tables_1), c.before #[Value.ref b] s = true := atoms_spec (ws := Jvm.Cond.code x code maxLocals ret :: tables_1) B.pre
    have hts : ∀ w ∈ lw_tbl, w.before #[Value.ref b] s = true := k2_hts_sels lw_privs (fun w hw => hts0 w (List.mem_cons_of_mem _ hw)) lw_privs_ok
    have hml : c.maxLocals = 19 := B.maxLocals_eq (hts0 _ List.mem_cons_self)
    have X₀ : Stand p l e room_1 s m #[Value.ref b] below meth c s₁ [] 0 0 := Stand.of_body B
    have hh0 : s₁.heap = s.heap := by rw [B.state]; rfl
    have hsz : scr.slots.size = xs.length := by rw [← Array.length_toList, hlist, List.length_map]
    have hval : ∀ j : Nat, j < xs.length → scr.slots[j]? = some (.int (xs.getD j 0)) := fun j hj => by
      rw [← Array.getElem?_toList, hlist]
      simp [hj]
    have hbl : b < s.heap.size := (Array.getElem?_eq_some_iff.mp hcb).1
    have hX : va_X b xs.length (fun j => xs.getD j 0) s s.heap := ⟨scr, hcb, hof, hkn, hsz, hval⟩
    have K : W p l e room_1 s m #[Value.ref b] below meth c s₁.heap [] 0 0 (lw_Z below #[Value.ref b] s) (entryFrame m ([Value.ref b] : List Value).toArray 19) := by
      rw [hh0]
      exact whole_start l hflags hbd ⟨B.exec, B.bytes, B.returns, hml, hown, hts, hX, hbl, B.notSynchronized, hgv⟩
    obtain ⟨t, a1, o, b1, b2, b3⟩ := K s₁ rfl X₀
    exact ⟨t, o, a1, b1, b2, b3⟩
theorem lw_pre_spec {args : Array Value} {s : State} (h : (Jvm.Cond.and given_1 narrow_1).before args s = true) (hr : rest_1_c.before args s = true) : ∃ (b : Addr) (xs : List Int32), lw_P b xs args s := by
  have hs := flat_of_before _ h
  have hq := flat_of_before _ hr
  have hc : (Cond.count 1).before args s = true := hs _ (by decide +kernel)
  have harr : (Cond.arrayOf (.arg 0) .int).before args s = true := hs _ (by decide +kernel)
  have hle : (Cond.le (.length (.arg 0)) (.int 260)).before args s = true := hs _ (by decide +kernel)
  have hlen : (Cond.isInt (.length (.arg 0))).before args s = true := hq _ (by decide +kernel)
  have hall : (Cond.all (.arg 0) (.isInt (.elem (.arg 0) (.index 0)))).before args s = true := hq _ (by decide +kernel)
  obtain ⟨b, xs, hb, hx⟩ := State.ints_of_pre rfl harr hlen hall
  have hsm : xs.length < 2 ^ 31 := hx.choose_spec.2.2.2
  have hev : (Term.length (.arg 0)).eval args s none [] s = some (.int xs.length.toInt32) := hx.length_eval hb
  have hv := Cond.le_ints hev (show (Term.int 260).eval args s none [] s = some (.int 260) from rfl)
  have hd : xs.length.toInt32 ≤ 260 := by
    simpa [Cond.before, Cond.holds, hv] using hle
  have hN : xs.length ≤ 260 := (Int32.ofNat_le_ofNat hsm (by decide)).mp (show Int32.ofNat xs.length ≤ Int32.ofNat 260 from hd)
  exact ⟨b, xs, Cond.one_arg hc (show args[0]? = some (.ref b) from hb), hx, hN, h⟩
theorem lw_comes (l : Launch) (hflags : l.flags = flags0) : Comes l x (Jvm.Cond.code x code maxLocals ret :: tables_1) room_1 (fun tb e args s => Calls_1 tb e args s ∧ rest_1 tb e args s ∧ Pre_1 tb e args s)
    (fun _ _ args s o t => lw_Q args s o t) := by
  intro p e ha hc hk s m args below hf hfit hheap happ hpre
  obtain ⟨b, xs, hP⟩ := lw_pre_spec hpre.2.2 hpre.2.1
  obtain ⟨k, o, h1, h2, h3, hQ⟩ := lw_walk l hflags b xs p e ha hc hk s m args below hf ((Spec.applies_iff_loose hf).mp happ).1 hP trivial
  exact ⟨k, o, h1, h2, h3, hQ⟩
theorem lw_frame {s t : State} {o : Outcome} {args : Array Value} (h : Framed s o t [] 600000 7302250) :
    Framed s o t (fieldLocs frame_1_writes args s ++ arrayLocs frame_1_arrays args s ++ staticLocs frame_1_statics s) 600000 7302250 := h
theorem lw_limb (L : Cond) (hL : ∀ (args : Array Value) (s t : State), L.after args s (.returned (some (.int 1))) t = true) :
    ArmFor flags0 classFile x code maxLocals ret World_1 tables_1 room_1 Calls_1 rest_1 Pre_1
      (fun tb e a s o t => postC L tb e a s o t ∧ Framed s o t (fieldLocs frame_1_writes a s ++ arrayLocs frame_1_arrays a s ++ staticLocs frame_1_statics s) 600000 7302250) := by
  intro l hflags _ _ p e ha hc hk s m args below hf hfit hheap happ hpre
  obtain ⟨k, o, h1, h2, h3, rfl, hF⟩ := lw_comes l hflags p e ha hc hk s m args below hf hfit hheap happ hpre
  exact ⟨k, _, h1, h2, h3, hL args s _, lw_frame hF⟩
theorem i_vc : Claimed_1_1 ∧ Claimed_1_2 := ⟨lw_limb limb_1_1 (fun args s t => by simp [limb_1_1, Cond.after, Cond.holds, Cond.value]), lw_limb limb_1_2 (fun args s t => Cond.after_iff.mpr (by
  first | (rw [show limb_1_2 = Cond.eq .result (.int 1) from rfl, Cond.eq_ints (x := 1) (y := 1) rfl rfl]; simp; done) | (simp [limb_1_2, Cond.value, Term.eval]; done)))⟩
end
