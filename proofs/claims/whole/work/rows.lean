section
-- ===== PART A: goes FIRST, ahead of the names: the tables' words, and 'selects' of the private methods out of them =====
/-- a private method of a class that the tables say can be made, by its rows of tables_1 -/
def lw_okq (q : MethodName × Nat) : Prop := (q.1.cls ≠ "java/lang/invoke/MethodHandle" ∧ q.1.cls ≠ "java/lang/invoke/VarHandle") ∧ Cond.instantiable q.1.cls q.2 ∈ tables_1 ∧ Cond.privateMethod q.1 ∈ tables_1 ∧ Cond.instanceMethod q.1 ∈ tables_1
theorem lw_p0 : lw_okq (⟨"RequestCutter", "scanCounted", "()I"⟩, 5) := ⟨⟨by decide +kernel, by decide +kernel⟩, List.mem_of_getElem? (i := 9) (by decide +kernel), List.mem_of_getElem? (i := 145) (by decide +kernel), List.mem_of_getElem? (i := 146) (by decide +kernel)⟩
theorem lw_p1 : lw_okq (⟨"RequestCutter", "scanLine", "(IIII)I"⟩, 5) := ⟨⟨by decide +kernel, by decide +kernel⟩, List.mem_of_getElem? (i := 9) (by decide +kernel), List.mem_of_getElem? (i := 150) (by decide +kernel), List.mem_of_getElem? (i := 151) (by decide +kernel)⟩
theorem lw_p2 : lw_okq (⟨"RequestCutter", "findLineStop", "(I)I"⟩, 5) := ⟨⟨by decide +kernel, by decide +kernel⟩, List.mem_of_getElem? (i := 9) (by decide +kernel), List.mem_of_getElem? (i := 154) (by decide +kernel), List.mem_of_getElem? (i := 155) (by decide +kernel)⟩
theorem lw_p3 : lw_okq (⟨"RequestCutter", "tell", "(I)I"⟩, 5) := ⟨⟨by decide +kernel, by decide +kernel⟩, List.mem_of_getElem? (i := 9) (by decide +kernel), List.mem_of_getElem? (i := 158) (by decide +kernel), List.mem_of_getElem? (i := 159) (by decide +kernel)⟩
theorem lw_p4 : lw_okq (⟨"RequestCutter", "readNumber", "(II)Z"⟩, 5) := ⟨⟨by decide +kernel, by decide +kernel⟩, List.mem_of_getElem? (i := 9) (by decide +kernel), List.mem_of_getElem? (i := 162) (by decide +kernel), List.mem_of_getElem? (i := 163) (by decide +kernel)⟩
theorem lw_p5 : lw_okq (⟨"RequestCutter", "scanWord", "(I)I"⟩, 5) := ⟨⟨by decide +kernel, by decide +kernel⟩, List.mem_of_getElem? (i := 9) (by decide +kernel), List.mem_of_getElem? (i := 166) (by decide +kernel), List.mem_of_getElem? (i := 167) (by decide +kernel)⟩
theorem lw_p6 : lw_okq (⟨"RequestCutter", "scanWordEnd", "(I)I"⟩, 5) := ⟨⟨by decide +kernel, by decide +kernel⟩, List.mem_of_getElem? (i := 9) (by decide +kernel), List.mem_of_getElem? (i := 183) (by decide +kernel), List.mem_of_getElem? (i := 184) (by decide +kernel)⟩
theorem lw_p7 : lw_okq (⟨"RequestCutter", "scanPlain", "()I"⟩, 5) := ⟨⟨by decide +kernel, by decide +kernel⟩, List.mem_of_getElem? (i := 9) (by decide +kernel), List.mem_of_getElem? (i := 187) (by decide +kernel), List.mem_of_getElem? (i := 188) (by decide +kernel)⟩
theorem lw_p8 : lw_okq (⟨"RequestCutter", "findLineFeed", "()I"⟩, 5) := ⟨⟨by decide +kernel, by decide +kernel⟩, List.mem_of_getElem? (i := 9) (by decide +kernel), List.mem_of_getElem? (i := 191) (by decide +kernel), List.mem_of_getElem? (i := 192) (by decide +kernel)⟩
theorem lw_p9 : lw_okq (⟨"RequestCutter", "addPlainWords", "(I)V"⟩, 5) := ⟨⟨by decide +kernel, by decide +kernel⟩, List.mem_of_getElem? (i := 9) (by decide +kernel), List.mem_of_getElem? (i := 196) (by decide +kernel), List.mem_of_getElem? (i := 197) (by decide +kernel)⟩
theorem lw_p10 : lw_okq (⟨"RequestCutterModel", "lay", "(I)V"⟩, 11) := ⟨⟨by decide +kernel, by decide +kernel⟩, List.mem_of_getElem? (i := 242) (by decide +kernel), List.mem_of_getElem? (i := 287) (by decide +kernel), List.mem_of_getElem? (i := 288) (by decide +kernel)⟩
theorem lw_p11 : lw_okq (⟨"RequestCutterModel", "go", "(I)V"⟩, 11) := ⟨⟨by decide +kernel, by decide +kernel⟩, List.mem_of_getElem? (i := 242) (by decide +kernel), List.mem_of_getElem? (i := 303) (by decide +kernel), List.mem_of_getElem? (i := 304) (by decide +kernel)⟩
theorem lw_p12 : lw_okq (⟨"RequestCutterModel", "cutTold", "()Z"⟩, 11) := ⟨⟨by decide +kernel, by decide +kernel⟩, List.mem_of_getElem? (i := 242) (by decide +kernel), List.mem_of_getElem? (i := 311) (by decide +kernel), List.mem_of_getElem? (i := 312) (by decide +kernel)⟩
theorem lw_p13 : lw_okq (⟨"RequestCutterModel", "line", "()I"⟩, 11) := ⟨⟨by decide +kernel, by decide +kernel⟩, List.mem_of_getElem? (i := 242) (by decide +kernel), List.mem_of_getElem? (i := 315) (by decide +kernel), List.mem_of_getElem? (i := 316) (by decide +kernel)⟩
theorem lw_p14 : lw_okq (⟨"RequestCutterModel", "told", "()Z"⟩, 11) := ⟨⟨by decide +kernel, by decide +kernel⟩, List.mem_of_getElem? (i := 242) (by decide +kernel), List.mem_of_getElem? (i := 321) (by decide +kernel), List.mem_of_getElem? (i := 322) (by decide +kernel)⟩
theorem lw_p15 : lw_okq (⟨"RequestCutterModel", "must", "(I)I"⟩, 11) := ⟨⟨by decide +kernel, by decide +kernel⟩, List.mem_of_getElem? (i := 242) (by decide +kernel), List.mem_of_getElem? (i := 325) (by decide +kernel), List.mem_of_getElem? (i := 326) (by decide +kernel)⟩
def lw_privs_1 : List (MethodName × Nat) := [(⟨"RequestCutter", "scanCounted", "()I"⟩, 5), (⟨"RequestCutter", "scanLine", "(IIII)I"⟩, 5), (⟨"RequestCutter", "findLineStop", "(I)I"⟩, 5), (⟨"RequestCutter", "tell", "(I)I"⟩, 5), (⟨"RequestCutter", "readNumber", "(II)Z"⟩, 5), (⟨"RequestCutter", "scanWord", "(I)I"⟩, 5), (⟨"RequestCutter", "scanWordEnd", "(I)I"⟩, 5), (⟨"RequestCutter", "scanPlain", "()I"⟩, 5), (⟨"RequestCutter", "findLineFeed", "()I"⟩, 5), (⟨"RequestCutter", "addPlainWords", "(I)V"⟩, 5), (⟨"RequestCutterModel", "lay", "(I)V"⟩, 11), (⟨"RequestCutterModel", "go", "(I)V"⟩, 11), (⟨"RequestCutterModel", "cutTold", "()Z"⟩, 11), (⟨"RequestCutterModel", "line", "()I"⟩, 11), (⟨"RequestCutterModel", "told", "()Z"⟩, 11), (⟨"RequestCutterModel", "must", "(I)I"⟩, 11)]
theorem lw_r1 : ∀ q ∈ lw_privs_1, lw_okq q := List.forall_mem_cons.mpr ⟨lw_p0, List.forall_mem_cons.mpr ⟨lw_p1, List.forall_mem_cons.mpr ⟨lw_p2, List.forall_mem_cons.mpr ⟨lw_p3, List.forall_mem_cons.mpr ⟨lw_p4, List.forall_mem_cons.mpr ⟨lw_p5, List.forall_mem_cons.mpr ⟨lw_p6, List.forall_mem_cons.mpr ⟨lw_p7, List.forall_mem_cons.mpr ⟨lw_p8, List.forall_mem_cons.mpr ⟨lw_p9, List.forall_mem_cons.mpr ⟨lw_p10, List.forall_mem_cons.mpr ⟨lw_p11, List.forall_mem_cons.mpr ⟨lw_p12, List.forall_mem_cons.mpr ⟨lw_p13, List.forall_mem_cons.mpr ⟨lw_p14, List.forall_mem_cons.mpr ⟨lw_p15, fun _ h => absurd h List.not_mem_nil⟩⟩⟩⟩⟩⟩⟩⟩⟩⟩⟩⟩⟩⟩⟩⟩
theorem lw_p16 : lw_okq (⟨"RequestCutterModel", "word", "(II)V"⟩, 11) := ⟨⟨by decide +kernel, by decide +kernel⟩, List.mem_of_getElem? (i := 242) (by decide +kernel), List.mem_of_getElem? (i := 329) (by decide +kernel), List.mem_of_getElem? (i := 330) (by decide +kernel)⟩
theorem lw_p17 : lw_okq (⟨"RequestCutterModel", "cutLine", "()Z"⟩, 11) := ⟨⟨by decide +kernel, by decide +kernel⟩, List.mem_of_getElem? (i := 242) (by decide +kernel), List.mem_of_getElem? (i := 333) (by decide +kernel), List.mem_of_getElem? (i := 334) (by decide +kernel)⟩
def lw_privs_2 : List (MethodName × Nat) := [(⟨"RequestCutterModel", "word", "(II)V"⟩, 11), (⟨"RequestCutterModel", "cutLine", "()Z"⟩, 11)]
theorem lw_r2 : ∀ q ∈ lw_privs_2, lw_okq q := List.forall_mem_cons.mpr ⟨lw_p16, List.forall_mem_cons.mpr ⟨lw_p17, fun _ h => absurd h List.not_mem_nil⟩⟩
def lw_privs : List (MethodName × Nat) := lw_privs_1 ++ (lw_privs_2)
def lw_tbl : List Cond := k2_sels lw_privs ++ tables_1
theorem lw_privs_ok : ∀ q ∈ lw_privs, lw_okq q := by
  show ∀ q ∈ lw_privs_1 ++ (lw_privs_2), lw_okq q
  exact List.forall_mem_append.mpr ⟨lw_r1, lw_r2⟩
end
section
def TX0 : u_T := fun k => match k with
  | 0 => ("RequestCutter$ByteRow", "limit", "I", true)
  | 1 => ("RequestCutter$ByteRow", "bytes", "[B", false)
  | _ => ("RequestCutter$ByteRow", "count", "I", false)
def tyX0 : Nat → FieldType := fun k => match k with
  | 0 => .int
  | 1 => .array .byte
  | _ => .int
theorem nmX0 : ∀ a, a < 3 → ∀ b, b < 3 → a ≠ b → (TX0 a).2.1 ≠ (TX0 b).2.1 := by decide +kernel
theorem tyX0_ok : ∀ k, k < 3 → parseFieldDescriptor (TX0 k).2.2.1 = some (tyX0 k) := by decide +kernel
def TX1 : u_T := fun k => match k with
  | 0 => ("RequestCutter$WordRow", "bytes", "LRequestCutter$ByteRow;", true)
  | 1 => ("RequestCutter$WordRow", "starts", "[I", false)
  | 2 => ("RequestCutter$WordRow", "sizes", "[I", false)
  | _ => ("RequestCutter$WordRow", "count", "I", false)
def tyX1 : Nat → FieldType := fun k => match k with
  | 0 => .object "RequestCutter$ByteRow"
  | 1 => .array .int
  | 2 => .array .int
  | _ => .int
theorem nmX1 : ∀ a, a < 4 → ∀ b, b < 4 → a ≠ b → (TX1 a).2.1 ≠ (TX1 b).2.1 := by decide +kernel
theorem tyX1_ok : ∀ k, k < 4 → parseFieldDescriptor (TX1 k).2.2.1 = some (tyX1 k) := by decide +kernel
def TX2 : u_T := fun k => match k with
  | 0 => ("RequestCutter", "tape", "LRequestCutter$ByteRow;", true)
  | 1 => ("RequestCutter", "input", "LRequestCutter$ByteRow;", true)
  | 2 => ("RequestCutter", "words", "LRequestCutter$WordRow;", true)
  | 3 => ("RequestCutter", "latestFault", "I", false)
  | _ => ("RequestCutter", "lineNumber", "I", false)
def tyX2 : Nat → FieldType := fun k => match k with
  | 0 => .object "RequestCutter$ByteRow"
  | 1 => .object "RequestCutter$ByteRow"
  | 2 => .object "RequestCutter$WordRow"
  | 3 => .int
  | _ => .int
theorem nmX2 : ∀ a, a < 5 → ∀ b, b < 5 → a ≠ b → (TX2 a).2.1 ≠ (TX2 b).2.1 := by decide +kernel
theorem tyX2_ok : ∀ k, k < 5 → parseFieldDescriptor (TX2 k).2.2.1 = some (tyX2 k) := by decide +kernel
def TX3 : u_T := fun k => match k with
  | 0 => ("RequestCutterModel", "tape", "[B", true)
  | 1 => ("RequestCutterModel", "input", "[B", true)
  | 2 => ("RequestCutterModel", "kept", "[B", true)
  | 3 => ("RequestCutterModel", "from", "[I", true)
  | 4 => ("RequestCutterModel", "long1", "[I", true)
  | 5 => ("RequestCutterModel", "taped", "I", false)
  | 6 => ("RequestCutterModel", "waits", "I", false)
  | 7 => ("RequestCutterModel", "words", "I", false)
  | 8 => ("RequestCutterModel", "keptSize", "I", false)
  | 9 => ("RequestCutterModel", "fault", "I", false)
  | _ => ("RequestCutterModel", "at", "I", false)
def tyX3 : Nat → FieldType := fun k => match k with
  | 0 => .array .byte
  | 1 => .array .byte
  | 2 => .array .byte
  | 3 => .array .int
  | 4 => .array .int
  | 5 => .int
  | 6 => .int
  | 7 => .int
  | 8 => .int
  | 9 => .int
  | _ => .int
theorem nmX3 : ∀ a, a < 11 → ∀ b, b < 11 → a ≠ b → (TX3 a).2.1 ≠ (TX3 b).2.1 := by decide +kernel
theorem tyX3_ok : ∀ k, k < 11 → parseFieldDescriptor (TX3 k).2.2.1 = some (tyX3 k) := by decide +kernel
abbrev cX2_init : ByteArray := prog_1_method_1_code
def yX2_init : MethodName := ⟨"RequestCutter", "<init>", "()V"⟩
abbrev cX0_init : ByteArray := prog_2_method_1_code
def yX0_init : MethodName := ⟨"RequestCutter$ByteRow", "<init>", "(I)V"⟩
abbrev cX1_init : ByteArray := prog_3_method_1_code
def yX1_init : MethodName := ⟨"RequestCutter$WordRow", "<init>", "()V"⟩
abbrev cX2_feed : ByteArray := prog_1_method_2_code
def yX2_feed : MethodName := ⟨"RequestCutter", "feed", "(IIIII)Z"⟩
abbrev cX0_makeRoom : ByteArray := prog_2_method_5_code
def yX0_makeRoom : MethodName := ⟨"RequestCutter$ByteRow", "makeRoom", "(I)Z"⟩
abbrev cJ7_copyB : ByteArray := prog_9_method_121_code
def yJ7_copyB : MethodName := ⟨"java/util/Arrays", "copyOf", "([BI)[B"⟩
abbrev cX0_addNumber : ByteArray := prog_2_method_6_code
def yX0_addNumber : MethodName := ⟨"RequestCutter$ByteRow", "addNumber", "(I)V"⟩
abbrev cX2_end : ByteArray := prog_1_method_3_code
def yX2_end : MethodName := ⟨"RequestCutter", "end", "(I)Z"⟩
abbrev cX0_keepFirst : ByteArray := prog_2_method_8_code
def yX0_keepFirst : MethodName := ⟨"RequestCutter$ByteRow", "keepFirst", "(I)Z"⟩
abbrev cX2_arrive : ByteArray := prog_1_method_4_code
def yX2_arrive : MethodName := ⟨"RequestCutter", "arrive", "()I"⟩
abbrev cX0_count : ByteArray := prog_2_method_2_code
def yX0_count : MethodName := ⟨"RequestCutter$ByteRow", "count", "()I"⟩
abbrev cX0_addFirstOf : ByteArray := prog_2_method_7_code
def yX0_addFirstOf : MethodName := ⟨"RequestCutter$ByteRow", "addFirstOf", "(LRequestCutter$ByteRow;I)Z"⟩
abbrev cX0_clear : ByteArray := prog_2_method_4_code
def yX0_clear : MethodName := ⟨"RequestCutter$ByteRow", "clear", "()V"⟩
abbrev cX2_cut : ByteArray := prog_1_method_5_code
def yX2_cut : MethodName := ⟨"RequestCutter", "cut", "()I"⟩
abbrev cX1_clear : ByteArray := prog_3_method_3_code
def yX1_clear : MethodName := ⟨"RequestCutter$WordRow", "clear", "()V"⟩
abbrev cX0_at : ByteArray := prog_2_method_3_code
def yX0_at : MethodName := ⟨"RequestCutter$ByteRow", "at", "(I)I"⟩
abbrev cX2_scanCounted : ByteArray := prog_1_method_11_code
def yX2_scanCounted : MethodName := ⟨"RequestCutter", "scanCounted", "()I"⟩
abbrev cX2_scanLine : ByteArray := prog_1_method_14_code
def yX2_scanLine : MethodName := ⟨"RequestCutter", "scanLine", "(IIII)I"⟩
abbrev cX2_findLineStop : ByteArray := prog_1_method_15_code
def yX2_findLineStop : MethodName := ⟨"RequestCutter", "findLineStop", "(I)I"⟩
abbrev cX2_tell : ByteArray := prog_1_method_20_code
def yX2_tell : MethodName := ⟨"RequestCutter", "tell", "(I)I"⟩
abbrev cX2_readNumber : ByteArray := prog_1_method_16_code
def yX2_readNumber : MethodName := ⟨"RequestCutter", "readNumber", "(II)Z"⟩
abbrev cX2_scanWord : ByteArray := prog_1_method_12_code
def yX2_scanWord : MethodName := ⟨"RequestCutter", "scanWord", "(I)I"⟩
abbrev cX1_add : ByteArray := prog_3_method_4_code
def yX1_add : MethodName := ⟨"RequestCutter$WordRow", "add", "(II)V"⟩
abbrev cJ7_copyI : ByteArray := prog_9_method_123_code
def yJ7_copyI : MethodName := ⟨"java/util/Arrays", "copyOf", "([II)[I"⟩
abbrev cX2_scanWordEnd : ByteArray := prog_1_method_13_code
def yX2_scanWordEnd : MethodName := ⟨"RequestCutter", "scanWordEnd", "(I)I"⟩
abbrev cX2_scanPlain : ByteArray := prog_1_method_17_code
def yX2_scanPlain : MethodName := ⟨"RequestCutter", "scanPlain", "()I"⟩
abbrev cX2_findLineFeed : ByteArray := prog_1_method_18_code
def yX2_findLineFeed : MethodName := ⟨"RequestCutter", "findLineFeed", "()I"⟩
abbrev cX2_addPlainWords : ByteArray := prog_1_method_19_code
def yX2_addPlainWords : MethodName := ⟨"RequestCutter", "addPlainWords", "(I)V"⟩
abbrev cX1_keepBytes : ByteArray := prog_3_method_5_code
def yX1_keepBytes : MethodName := ⟨"RequestCutter$WordRow", "keepBytes", "(LRequestCutter$ByteRow;I)V"⟩
abbrev cX0_removeFirst : ByteArray := prog_2_method_9_code
def yX0_removeFirst : MethodName := ⟨"RequestCutter$ByteRow", "removeFirst", "(I)Z"⟩
abbrev cX1_count : ByteArray := prog_3_method_2_code
def yX1_count : MethodName := ⟨"RequestCutter$WordRow", "count", "()I"⟩
abbrev cX2_fault : ByteArray := prog_1_method_6_code
def yX2_fault : MethodName := ⟨"RequestCutter", "fault", "()I"⟩
abbrev cX2_size : ByteArray := prog_1_method_7_code
def yX2_size : MethodName := ⟨"RequestCutter", "size", "(I)I"⟩
abbrev cX1_sizeOf : ByteArray := prog_3_method_6_code
def yX1_sizeOf : MethodName := ⟨"RequestCutter$WordRow", "sizeOf", "(I)I"⟩
abbrev cX2_byteOf : ByteArray := prog_1_method_8_code
def yX2_byteOf : MethodName := ⟨"RequestCutter", "byteOf", "(II)I"⟩
abbrev cX1_byteAt : ByteArray := prog_3_method_7_code
def yX1_byteAt : MethodName := ⟨"RequestCutter$WordRow", "byteAt", "(II)I"⟩
abbrev cX2_drop : ByteArray := prog_1_method_9_code
def yX2_drop : MethodName := ⟨"RequestCutter", "drop", "(I)Z"⟩
abbrev cX2_waiting : ByteArray := prog_1_method_10_code
def yX2_waiting : MethodName := ⟨"RequestCutter", "waiting", "()I"⟩
abbrev cX3_init : ByteArray := prog_5_method_1_code
def yX3_init : MethodName := ⟨"RequestCutterModel", "<init>", "()V"⟩
abbrev cX3_feed : ByteArray := prog_5_method_3_code
def yX3_feed : MethodName := ⟨"RequestCutterModel", "feed", "(IIIII)Z"⟩
abbrev cX3_lay : ByteArray := prog_5_method_2_code
def yX3_lay : MethodName := ⟨"RequestCutterModel", "lay", "(I)V"⟩
abbrev cX3_end : ByteArray := prog_5_method_4_code
def yX3_end : MethodName := ⟨"RequestCutterModel", "end", "(I)Z"⟩
abbrev cX3_arrive : ByteArray := prog_5_method_5_code
def yX3_arrive : MethodName := ⟨"RequestCutterModel", "arrive", "()I"⟩
abbrev cX3_drop : ByteArray := prog_5_method_7_code
def yX3_drop : MethodName := ⟨"RequestCutterModel", "drop", "(I)Z"⟩
abbrev cX3_go : ByteArray := prog_5_method_6_code
def yX3_go : MethodName := ⟨"RequestCutterModel", "go", "(I)V"⟩
abbrev cX3_cut : ByteArray := prog_5_method_14_code
def yX3_cut : MethodName := ⟨"RequestCutterModel", "cut", "()I"⟩
abbrev cX3_cutTold : ByteArray := prog_5_method_12_code
def yX3_cutTold : MethodName := ⟨"RequestCutterModel", "cutTold", "()Z"⟩
abbrev cX3_line : ByteArray := prog_5_method_8_code
def yX3_line : MethodName := ⟨"RequestCutterModel", "line", "()I"⟩
abbrev cX3_told : ByteArray := prog_5_method_11_code
def yX3_told : MethodName := ⟨"RequestCutterModel", "told", "()Z"⟩
abbrev cX3_must : ByteArray := prog_5_method_10_code
def yX3_must : MethodName := ⟨"RequestCutterModel", "must", "(I)I"⟩
abbrev cX3_word : ByteArray := prog_5_method_9_code
def yX3_word : MethodName := ⟨"RequestCutterModel", "word", "(II)V"⟩
abbrev cX3_cutLine : ByteArray := prog_5_method_13_code
def yX3_cutLine : MethodName := ⟨"RequestCutterModel", "cutLine", "()Z"⟩
abbrev cX3_fault : ByteArray := prog_5_method_15_code
def yX3_fault : MethodName := ⟨"RequestCutterModel", "fault", "()I"⟩
abbrev cX3_size : ByteArray := prog_5_method_16_code
def yX3_size : MethodName := ⟨"RequestCutterModel", "size", "(I)I"⟩
abbrev cX3_byteOf : ByteArray := prog_5_method_17_code
def yX3_byteOf : MethodName := ⟨"RequestCutterModel", "byteOf", "(II)I"⟩
abbrev cX3_waiting : ByteArray := prog_5_method_18_code
def yX3_waiting : MethodName := ⟨"RequestCutterModel", "waiting", "()I"⟩
def yL_law : MethodName := ⟨"RequestCutterLaw", "law", "([I)Z"⟩
abbrev vwCl : List vw_C := [("RequestCutter$ByteRow", TX0, 3), ("RequestCutter$WordRow", TX1, 4), ("RequestCutter", TX2, 5), ("RequestCutterModel", TX3, 11)]
def lw_g : List Cond := lw_tbl.filter goodWord
theorem tw_0 : Cond.selects "RequestCutter" yX2_scanCounted yX2_scanCounted ∈ lw_g := List.mem_filter.mpr ⟨List.mem_of_getElem? (i := 0) rfl, rfl⟩
theorem tw_1 : Cond.selects "RequestCutter" yX2_scanLine yX2_scanLine ∈ lw_g := List.mem_filter.mpr ⟨List.mem_of_getElem? (i := 1) rfl, rfl⟩
theorem tw_2 : Cond.selects "RequestCutter" yX2_findLineStop yX2_findLineStop ∈ lw_g := List.mem_filter.mpr ⟨List.mem_of_getElem? (i := 2) rfl, rfl⟩
theorem tw_3 : Cond.selects "RequestCutter" yX2_tell yX2_tell ∈ lw_g := List.mem_filter.mpr ⟨List.mem_of_getElem? (i := 3) rfl, rfl⟩
theorem tw_4 : Cond.selects "RequestCutter" yX2_readNumber yX2_readNumber ∈ lw_g := List.mem_filter.mpr ⟨List.mem_of_getElem? (i := 4) rfl, rfl⟩
theorem tw_5 : Cond.selects "RequestCutter" yX2_scanWord yX2_scanWord ∈ lw_g := List.mem_filter.mpr ⟨List.mem_of_getElem? (i := 5) rfl, rfl⟩
theorem tw_6 : Cond.selects "RequestCutter" yX2_scanWordEnd yX2_scanWordEnd ∈ lw_g := List.mem_filter.mpr ⟨List.mem_of_getElem? (i := 6) rfl, rfl⟩
theorem tw_7 : Cond.selects "RequestCutter" yX2_scanPlain yX2_scanPlain ∈ lw_g := List.mem_filter.mpr ⟨List.mem_of_getElem? (i := 7) rfl, rfl⟩
theorem tw_8 : Cond.selects "RequestCutter" yX2_findLineFeed yX2_findLineFeed ∈ lw_g := List.mem_filter.mpr ⟨List.mem_of_getElem? (i := 8) rfl, rfl⟩
theorem tw_9 : Cond.selects "RequestCutter" yX2_addPlainWords yX2_addPlainWords ∈ lw_g := List.mem_filter.mpr ⟨List.mem_of_getElem? (i := 9) rfl, rfl⟩
theorem tw_10 : Cond.selects "RequestCutterModel" yX3_lay yX3_lay ∈ lw_g := List.mem_filter.mpr ⟨List.mem_of_getElem? (i := 10) rfl, rfl⟩
theorem tw_11 : Cond.selects "RequestCutterModel" yX3_go yX3_go ∈ lw_g := List.mem_filter.mpr ⟨List.mem_of_getElem? (i := 11) rfl, rfl⟩
theorem tw_12 : Cond.selects "RequestCutterModel" yX3_cutTold yX3_cutTold ∈ lw_g := List.mem_filter.mpr ⟨List.mem_of_getElem? (i := 12) rfl, rfl⟩
theorem tw_13 : Cond.selects "RequestCutterModel" yX3_line yX3_line ∈ lw_g := List.mem_filter.mpr ⟨List.mem_of_getElem? (i := 13) rfl, rfl⟩
theorem tw_14 : Cond.selects "RequestCutterModel" yX3_told yX3_told ∈ lw_g := List.mem_filter.mpr ⟨List.mem_of_getElem? (i := 14) rfl, rfl⟩
theorem tw_15 : Cond.selects "RequestCutterModel" yX3_must yX3_must ∈ lw_g := List.mem_filter.mpr ⟨List.mem_of_getElem? (i := 15) rfl, rfl⟩
theorem tw_16 : Cond.selects "RequestCutterModel" yX3_word yX3_word ∈ lw_g := List.mem_filter.mpr ⟨List.mem_of_getElem? (i := 16) rfl, rfl⟩
theorem tw_17 : Cond.selects "RequestCutterModel" yX3_cutLine yX3_cutLine ∈ lw_g := List.mem_filter.mpr ⟨List.mem_of_getElem? (i := 17) rfl, rfl⟩
theorem tw_18 : Cond.initialized "RequestCutterLaw" ∈ lw_g := List.mem_filter.mpr ⟨List.mem_of_getElem? (i := 18) rfl, rfl⟩
theorem tw_19 : Cond.initialized "RequestCutter" ∈ lw_g := List.mem_filter.mpr ⟨List.mem_of_getElem? (i := 19) rfl, rfl⟩
theorem tw_20 : Cond.initialized "RequestCutter$ByteRow" ∈ lw_g := List.mem_filter.mpr ⟨List.mem_of_getElem? (i := 20) rfl, rfl⟩
theorem tw_21 : Cond.initialized "RequestCutter$WordRow" ∈ lw_g := List.mem_filter.mpr ⟨List.mem_of_getElem? (i := 21) rfl, rfl⟩
theorem tw_22 : Cond.initialized "RequestCutterModel" ∈ lw_g := List.mem_filter.mpr ⟨List.mem_of_getElem? (i := 22) rfl, rfl⟩
theorem tw_23 : Cond.initialized "java/lang/Math" ∈ lw_g := List.mem_filter.mpr ⟨List.mem_of_getElem? (i := 23) rfl, rfl⟩
theorem tw_24 : Cond.initialized "java/util/Arrays" ∈ lw_g := List.mem_filter.mpr ⟨List.mem_of_getElem? (i := 24) rfl, rfl⟩
theorem tw_25 : Cond.initialized "java/lang/System" ∈ lw_g := List.mem_filter.mpr ⟨List.mem_of_getElem? (i := 25) rfl, rfl⟩
theorem tw_26 : Cond.classLink "RequestCutterLaw" 7 "RequestCutter" ∈ lw_g := List.mem_filter.mpr ⟨List.mem_of_getElem? (i := 26) rfl, rfl⟩
theorem tw_27 : Cond.instantiable "RequestCutter" 5 ∈ lw_g := List.mem_filter.mpr ⟨List.mem_of_getElem? (i := 27) rfl, rfl⟩
theorem tw_28 : Cond.methodLink "RequestCutterLaw" 9 yX2_init ∈ lw_g := List.mem_filter.mpr ⟨List.mem_of_getElem? (i := 28) rfl, rfl⟩
theorem tw_29 : Cond.instanceMethod yX2_init ∈ lw_g := List.mem_filter.mpr ⟨List.mem_of_getElem? (i := 29) rfl, rfl⟩
theorem tw_30 : Cond.code yX2_init prog_1_method_1_code 1 none ∈ lw_g := List.mem_filter.mpr ⟨List.mem_of_getElem? (i := 30) rfl, rfl⟩
theorem tw_31 : Cond.methodLink "RequestCutter" 1 objectInit ∈ lw_g := List.mem_filter.mpr ⟨List.mem_of_getElem? (i := 31) rfl, rfl⟩
theorem tw_32 : Cond.instanceMethod objectInit ∈ lw_g := List.mem_filter.mpr ⟨List.mem_of_getElem? (i := 32) rfl, rfl⟩
theorem tw_33 : Cond.code objectInit object_method_1_code 1 none ∈ lw_g := List.mem_filter.mpr ⟨List.mem_of_getElem? (i := 33) rfl, rfl⟩
theorem tw_34 : Cond.classLink "RequestCutter" 7 "RequestCutter$ByteRow" ∈ lw_g := List.mem_filter.mpr ⟨List.mem_of_getElem? (i := 34) rfl, rfl⟩
theorem tw_35 : Cond.instantiable "RequestCutter$ByteRow" 3 ∈ lw_g := List.mem_filter.mpr ⟨List.mem_of_getElem? (i := 35) rfl, rfl⟩
theorem tw_36 : Cond.methodLink "RequestCutter" 11 yX0_init ∈ lw_g := List.mem_filter.mpr ⟨List.mem_of_getElem? (i := 36) rfl, rfl⟩
theorem tw_37 : Cond.instanceMethod yX0_init ∈ lw_g := List.mem_filter.mpr ⟨List.mem_of_getElem? (i := 37) rfl, rfl⟩
theorem tw_38 : Cond.code yX0_init prog_2_method_1_code 2 none ∈ lw_g := List.mem_filter.mpr ⟨List.mem_of_getElem? (i := 38) rfl, rfl⟩
theorem tw_39 : Cond.methodLink "RequestCutter$ByteRow" 3 objectInit ∈ lw_g := List.mem_filter.mpr ⟨List.mem_of_getElem? (i := 39) rfl, rfl⟩
theorem tw_40 : Cond.fieldLink "RequestCutter$ByteRow" 9 "RequestCutter$ByteRow" "limit" "I" ∈ lw_g := List.mem_filter.mpr ⟨List.mem_of_getElem? (i := 40) rfl, rfl⟩
theorem tw_41 : Cond.fieldLink "RequestCutter$ByteRow" 15 "RequestCutter$ByteRow" "bytes" "[B" ∈ lw_g := List.mem_filter.mpr ⟨List.mem_of_getElem? (i := 41) rfl, rfl⟩
theorem tw_42 : Cond.fieldLink "RequestCutter$ByteRow" 19 "RequestCutter$ByteRow" "count" "I" ∈ lw_g := List.mem_filter.mpr ⟨List.mem_of_getElem? (i := 42) rfl, rfl⟩
theorem tw_43 : Cond.laysFinal "RequestCutter$ByteRow" "RequestCutter$ByteRow" "limit" "I" ∈ lw_g := List.mem_filter.mpr ⟨List.mem_of_getElem? (i := 43) rfl, rfl⟩
theorem tw_45 : Cond.lays "RequestCutter$ByteRow" "RequestCutter$ByteRow" "bytes" "[B" ∈ lw_g := List.mem_filter.mpr ⟨List.mem_of_getElem? (i := 45) rfl, rfl⟩
theorem tw_47 : Cond.lays "RequestCutter$ByteRow" "RequestCutter$ByteRow" "count" "I" ∈ lw_g := List.mem_filter.mpr ⟨List.mem_of_getElem? (i := 47) rfl, rfl⟩
theorem tw_50 : Cond.arrayClass .byte ∈ lw_g := List.mem_filter.mpr ⟨List.mem_of_getElem? (i := 50) rfl, rfl⟩
theorem tw_51 : Cond.constant "RequestCutter" 18 (65536) ∈ lw_g := List.mem_filter.mpr ⟨List.mem_of_getElem? (i := 51) rfl, rfl⟩
theorem tw_52 : Cond.classLink "RequestCutter" 22 "RequestCutter$WordRow" ∈ lw_g := List.mem_filter.mpr ⟨List.mem_of_getElem? (i := 52) rfl, rfl⟩
theorem tw_53 : Cond.instantiable "RequestCutter$WordRow" 4 ∈ lw_g := List.mem_filter.mpr ⟨List.mem_of_getElem? (i := 53) rfl, rfl⟩
theorem tw_54 : Cond.methodLink "RequestCutter" 24 yX1_init ∈ lw_g := List.mem_filter.mpr ⟨List.mem_of_getElem? (i := 54) rfl, rfl⟩
theorem tw_55 : Cond.instanceMethod yX1_init ∈ lw_g := List.mem_filter.mpr ⟨List.mem_of_getElem? (i := 55) rfl, rfl⟩
theorem tw_56 : Cond.code yX1_init prog_3_method_1_code 1 none ∈ lw_g := List.mem_filter.mpr ⟨List.mem_of_getElem? (i := 56) rfl, rfl⟩
theorem tw_57 : Cond.methodLink "RequestCutter$WordRow" 3 objectInit ∈ lw_g := List.mem_filter.mpr ⟨List.mem_of_getElem? (i := 57) rfl, rfl⟩
theorem tw_58 : Cond.classLink "RequestCutter$WordRow" 9 "RequestCutter$ByteRow" ∈ lw_g := List.mem_filter.mpr ⟨List.mem_of_getElem? (i := 58) rfl, rfl⟩
theorem tw_59 : Cond.constant "RequestCutter$WordRow" 11 (65536) ∈ lw_g := List.mem_filter.mpr ⟨List.mem_of_getElem? (i := 59) rfl, rfl⟩
theorem tw_60 : Cond.methodLink "RequestCutter$WordRow" 12 yX0_init ∈ lw_g := List.mem_filter.mpr ⟨List.mem_of_getElem? (i := 60) rfl, rfl⟩
theorem tw_61 : Cond.fieldLink "RequestCutter$WordRow" 15 "RequestCutter$WordRow" "bytes" "LRequestCutter$ByteRow;" ∈ lw_g := List.mem_filter.mpr ⟨List.mem_of_getElem? (i := 61) rfl, rfl⟩
theorem tw_62 : Cond.fieldLink "RequestCutter$WordRow" 21 "RequestCutter$WordRow" "starts" "[I" ∈ lw_g := List.mem_filter.mpr ⟨List.mem_of_getElem? (i := 62) rfl, rfl⟩
theorem tw_63 : Cond.fieldLink "RequestCutter$WordRow" 25 "RequestCutter$WordRow" "sizes" "[I" ∈ lw_g := List.mem_filter.mpr ⟨List.mem_of_getElem? (i := 63) rfl, rfl⟩
theorem tw_64 : Cond.fieldLink "RequestCutter$WordRow" 28 "RequestCutter$WordRow" "count" "I" ∈ lw_g := List.mem_filter.mpr ⟨List.mem_of_getElem? (i := 64) rfl, rfl⟩
theorem tw_65 : Cond.laysFinal "RequestCutter$WordRow" "RequestCutter$WordRow" "bytes" "LRequestCutter$ByteRow;" ∈ lw_g := List.mem_filter.mpr ⟨List.mem_of_getElem? (i := 65) rfl, rfl⟩
theorem tw_67 : Cond.lays "RequestCutter$WordRow" "RequestCutter$WordRow" "starts" "[I" ∈ lw_g := List.mem_filter.mpr ⟨List.mem_of_getElem? (i := 67) rfl, rfl⟩
theorem tw_69 : Cond.lays "RequestCutter$WordRow" "RequestCutter$WordRow" "sizes" "[I" ∈ lw_g := List.mem_filter.mpr ⟨List.mem_of_getElem? (i := 69) rfl, rfl⟩
theorem tw_71 : Cond.lays "RequestCutter$WordRow" "RequestCutter$WordRow" "count" "I" ∈ lw_g := List.mem_filter.mpr ⟨List.mem_of_getElem? (i := 71) rfl, rfl⟩
theorem tw_74 : Cond.arrayClass .int ∈ lw_g := List.mem_filter.mpr ⟨List.mem_of_getElem? (i := 74) rfl, rfl⟩
theorem tw_75 : Cond.fieldLink "RequestCutter" 14 "RequestCutter" "tape" "LRequestCutter$ByteRow;" ∈ lw_g := List.mem_filter.mpr ⟨List.mem_of_getElem? (i := 75) rfl, rfl⟩
theorem tw_76 : Cond.fieldLink "RequestCutter" 19 "RequestCutter" "input" "LRequestCutter$ByteRow;" ∈ lw_g := List.mem_filter.mpr ⟨List.mem_of_getElem? (i := 76) rfl, rfl⟩
theorem tw_77 : Cond.fieldLink "RequestCutter" 25 "RequestCutter" "words" "LRequestCutter$WordRow;" ∈ lw_g := List.mem_filter.mpr ⟨List.mem_of_getElem? (i := 77) rfl, rfl⟩
theorem tw_78 : Cond.fieldLink "RequestCutter" 29 "RequestCutter" "latestFault" "I" ∈ lw_g := List.mem_filter.mpr ⟨List.mem_of_getElem? (i := 78) rfl, rfl⟩
theorem tw_79 : Cond.fieldLink "RequestCutter" 33 "RequestCutter" "lineNumber" "I" ∈ lw_g := List.mem_filter.mpr ⟨List.mem_of_getElem? (i := 79) rfl, rfl⟩
theorem tw_80 : Cond.laysFinal "RequestCutter" "RequestCutter" "tape" "LRequestCutter$ByteRow;" ∈ lw_g := List.mem_filter.mpr ⟨List.mem_of_getElem? (i := 80) rfl, rfl⟩
theorem tw_82 : Cond.laysFinal "RequestCutter" "RequestCutter" "input" "LRequestCutter$ByteRow;" ∈ lw_g := List.mem_filter.mpr ⟨List.mem_of_getElem? (i := 82) rfl, rfl⟩
theorem tw_84 : Cond.laysFinal "RequestCutter" "RequestCutter" "words" "LRequestCutter$WordRow;" ∈ lw_g := List.mem_filter.mpr ⟨List.mem_of_getElem? (i := 84) rfl, rfl⟩
theorem tw_86 : Cond.lays "RequestCutter" "RequestCutter" "latestFault" "I" ∈ lw_g := List.mem_filter.mpr ⟨List.mem_of_getElem? (i := 86) rfl, rfl⟩
theorem tw_88 : Cond.lays "RequestCutter" "RequestCutter" "lineNumber" "I" ∈ lw_g := List.mem_filter.mpr ⟨List.mem_of_getElem? (i := 88) rfl, rfl⟩
theorem tw_91 : Cond.methodLink "RequestCutterLaw" 13 yX2_feed ∈ lw_g := List.mem_filter.mpr ⟨List.mem_of_getElem? (i := 91) rfl, rfl⟩
theorem tw_92 : Cond.instanceMethod yX2_feed ∈ lw_g := List.mem_filter.mpr ⟨List.mem_of_getElem? (i := 92) rfl, rfl⟩
theorem tw_93 : Cond.selects "RequestCutter" yX2_feed yX2_feed ∈ lw_g := List.mem_filter.mpr ⟨List.mem_of_getElem? (i := 93) rfl, rfl⟩
theorem tw_94 : Cond.code yX2_feed prog_1_method_2_code 6 (some .boolean) ∈ lw_g := List.mem_filter.mpr ⟨List.mem_of_getElem? (i := 94) rfl, rfl⟩
theorem tw_95 : Cond.methodLink "RequestCutter" 36 yX0_makeRoom ∈ lw_g := List.mem_filter.mpr ⟨List.mem_of_getElem? (i := 95) rfl, rfl⟩
theorem tw_96 : Cond.instanceMethod yX0_makeRoom ∈ lw_g := List.mem_filter.mpr ⟨List.mem_of_getElem? (i := 96) rfl, rfl⟩
theorem tw_97 : Cond.selects "RequestCutter$ByteRow" yX0_makeRoom yX0_makeRoom ∈ lw_g := List.mem_filter.mpr ⟨List.mem_of_getElem? (i := 97) rfl, rfl⟩
theorem tw_98 : Cond.code yX0_makeRoom prog_2_method_5_code 4 (some .boolean) ∈ lw_g := List.mem_filter.mpr ⟨List.mem_of_getElem? (i := 98) rfl, rfl⟩
theorem tw_99 : Cond.methodLink "RequestCutter$ByteRow" 22 Lib.Math.max.name ∈ lw_g := List.mem_filter.mpr ⟨List.mem_of_getElem? (i := 99) rfl, rfl⟩
theorem tw_100 : Cond.static Lib.Math.max.name ∈ lw_g := List.mem_filter.mpr ⟨List.mem_of_getElem? (i := 100) rfl, rfl⟩
theorem tw_101 : Cond.code Lib.Math.max.name prog_7_method_65_code 2 (some .int) ∈ lw_g := List.mem_filter.mpr ⟨List.mem_of_getElem? (i := 101) rfl, rfl⟩
theorem tw_102 : Cond.methodLink "RequestCutter$ByteRow" 28 Lib.Math.min.name ∈ lw_g := List.mem_filter.mpr ⟨List.mem_of_getElem? (i := 102) rfl, rfl⟩
theorem tw_103 : Cond.static Lib.Math.min.name ∈ lw_g := List.mem_filter.mpr ⟨List.mem_of_getElem? (i := 103) rfl, rfl⟩
theorem tw_104 : Cond.code Lib.Math.min.name prog_7_method_69_code 2 (some .int) ∈ lw_g := List.mem_filter.mpr ⟨List.mem_of_getElem? (i := 104) rfl, rfl⟩
theorem tw_105 : Cond.methodLink "RequestCutter$ByteRow" 31 yJ7_copyB ∈ lw_g := List.mem_filter.mpr ⟨List.mem_of_getElem? (i := 105) rfl, rfl⟩
theorem tw_106 : Cond.static yJ7_copyB ∈ lw_g := List.mem_filter.mpr ⟨List.mem_of_getElem? (i := 106) rfl, rfl⟩
theorem tw_107 : Cond.code yJ7_copyB prog_9_method_121_code 3 (some (.array .byte)) ∈ lw_g := List.mem_filter.mpr ⟨List.mem_of_getElem? (i := 107) rfl, rfl⟩
theorem tw_108 : Cond.methodLink "java/util/Arrays" 310 ⟨"[B", "clone", "()Ljava/lang/Object;"⟩ ∈ lw_g := List.mem_filter.mpr ⟨List.mem_of_getElem? (i := 108) rfl, rfl⟩
theorem tw_110 : Cond.native ⟨"java/lang/Object", "clone", "()Ljava/lang/Object;"⟩ ∈ lw_g := List.mem_filter.mpr ⟨List.mem_of_getElem? (i := 110) rfl, rfl⟩
theorem tw_111 : Cond.instanceMethod ⟨"java/lang/Object", "clone", "()Ljava/lang/Object;"⟩ ∈ lw_g := List.mem_filter.mpr ⟨List.mem_of_getElem? (i := 111) rfl, rfl⟩
theorem tw_112 : Cond.selects "[B" ⟨"[B", "clone", "()Ljava/lang/Object;"⟩ ⟨"java/lang/Object", "clone", "()Ljava/lang/Object;"⟩ ∈ lw_g := List.mem_filter.mpr ⟨List.mem_of_getElem? (i := 112) rfl, rfl⟩
theorem tw_114 : Cond.classLink "java/util/Arrays" 311 "[B" ∈ lw_g := List.mem_filter.mpr ⟨List.mem_of_getElem? (i := 114) rfl, rfl⟩
theorem tw_115 : Cond.methodLink "java/util/Arrays" 304 Lib.Math.min.name ∈ lw_g := List.mem_filter.mpr ⟨List.mem_of_getElem? (i := 115) rfl, rfl⟩
theorem tw_116 : Cond.methodLink "java/util/Arrays" 150 arraycopyName ∈ lw_g := List.mem_filter.mpr ⟨List.mem_of_getElem? (i := 116) rfl, rfl⟩
theorem tw_117 : Cond.static arraycopyName ∈ lw_g := List.mem_filter.mpr ⟨List.mem_of_getElem? (i := 117) rfl, rfl⟩
theorem tw_118 : Cond.native arraycopyName ∈ lw_g := List.mem_filter.mpr ⟨List.mem_of_getElem? (i := 118) rfl, rfl⟩
theorem tw_119 : Cond.methodLink "RequestCutter" 40 yX0_addNumber ∈ lw_g := List.mem_filter.mpr ⟨List.mem_of_getElem? (i := 119) rfl, rfl⟩
theorem tw_120 : Cond.instanceMethod yX0_addNumber ∈ lw_g := List.mem_filter.mpr ⟨List.mem_of_getElem? (i := 120) rfl, rfl⟩
theorem tw_121 : Cond.selects "RequestCutter$ByteRow" yX0_addNumber yX0_addNumber ∈ lw_g := List.mem_filter.mpr ⟨List.mem_of_getElem? (i := 121) rfl, rfl⟩
theorem tw_122 : Cond.code yX0_addNumber prog_2_method_6_code 3 none ∈ lw_g := List.mem_filter.mpr ⟨List.mem_of_getElem? (i := 122) rfl, rfl⟩
theorem tw_123 : Cond.methodLink "RequestCutterLaw" 18 yX2_end ∈ lw_g := List.mem_filter.mpr ⟨List.mem_of_getElem? (i := 123) rfl, rfl⟩
theorem tw_124 : Cond.instanceMethod yX2_end ∈ lw_g := List.mem_filter.mpr ⟨List.mem_of_getElem? (i := 124) rfl, rfl⟩
theorem tw_125 : Cond.selects "RequestCutter" yX2_end yX2_end ∈ lw_g := List.mem_filter.mpr ⟨List.mem_of_getElem? (i := 125) rfl, rfl⟩
theorem tw_126 : Cond.code yX2_end prog_1_method_3_code 2 (some .boolean) ∈ lw_g := List.mem_filter.mpr ⟨List.mem_of_getElem? (i := 126) rfl, rfl⟩
theorem tw_127 : Cond.methodLink "RequestCutter" 43 yX0_keepFirst ∈ lw_g := List.mem_filter.mpr ⟨List.mem_of_getElem? (i := 127) rfl, rfl⟩
theorem tw_128 : Cond.instanceMethod yX0_keepFirst ∈ lw_g := List.mem_filter.mpr ⟨List.mem_of_getElem? (i := 128) rfl, rfl⟩
theorem tw_129 : Cond.selects "RequestCutter$ByteRow" yX0_keepFirst yX0_keepFirst ∈ lw_g := List.mem_filter.mpr ⟨List.mem_of_getElem? (i := 129) rfl, rfl⟩
theorem tw_130 : Cond.code yX0_keepFirst prog_2_method_8_code 2 (some .boolean) ∈ lw_g := List.mem_filter.mpr ⟨List.mem_of_getElem? (i := 130) rfl, rfl⟩
theorem tw_131 : Cond.methodLink "RequestCutterLaw" 23 yX2_arrive ∈ lw_g := List.mem_filter.mpr ⟨List.mem_of_getElem? (i := 131) rfl, rfl⟩
theorem tw_132 : Cond.instanceMethod yX2_arrive ∈ lw_g := List.mem_filter.mpr ⟨List.mem_of_getElem? (i := 132) rfl, rfl⟩
theorem tw_133 : Cond.selects "RequestCutter" yX2_arrive yX2_arrive ∈ lw_g := List.mem_filter.mpr ⟨List.mem_of_getElem? (i := 133) rfl, rfl⟩
theorem tw_134 : Cond.code yX2_arrive prog_1_method_4_code 2 (some .int) ∈ lw_g := List.mem_filter.mpr ⟨List.mem_of_getElem? (i := 134) rfl, rfl⟩
theorem tw_135 : Cond.methodLink "RequestCutter" 46 yX0_count ∈ lw_g := List.mem_filter.mpr ⟨List.mem_of_getElem? (i := 135) rfl, rfl⟩
theorem tw_136 : Cond.instanceMethod yX0_count ∈ lw_g := List.mem_filter.mpr ⟨List.mem_of_getElem? (i := 136) rfl, rfl⟩
theorem tw_137 : Cond.selects "RequestCutter$ByteRow" yX0_count yX0_count ∈ lw_g := List.mem_filter.mpr ⟨List.mem_of_getElem? (i := 137) rfl, rfl⟩
theorem tw_138 : Cond.code yX0_count prog_2_method_2_code 1 (some .int) ∈ lw_g := List.mem_filter.mpr ⟨List.mem_of_getElem? (i := 138) rfl, rfl⟩
theorem tw_139 : Cond.methodLink "RequestCutter" 50 yX0_addFirstOf ∈ lw_g := List.mem_filter.mpr ⟨List.mem_of_getElem? (i := 139) rfl, rfl⟩
theorem tw_140 : Cond.instanceMethod yX0_addFirstOf ∈ lw_g := List.mem_filter.mpr ⟨List.mem_of_getElem? (i := 140) rfl, rfl⟩
theorem tw_141 : Cond.selects "RequestCutter$ByteRow" yX0_addFirstOf yX0_addFirstOf ∈ lw_g := List.mem_filter.mpr ⟨List.mem_of_getElem? (i := 141) rfl, rfl⟩
theorem tw_142 : Cond.code yX0_addFirstOf prog_2_method_7_code 3 (some .boolean) ∈ lw_g := List.mem_filter.mpr ⟨List.mem_of_getElem? (i := 142) rfl, rfl⟩
theorem tw_143 : Cond.methodLink "RequestCutter$ByteRow" 37 yX0_makeRoom ∈ lw_g := List.mem_filter.mpr ⟨List.mem_of_getElem? (i := 143) rfl, rfl⟩
theorem tw_144 : Cond.methodLink "RequestCutter$ByteRow" 41 arraycopyName ∈ lw_g := List.mem_filter.mpr ⟨List.mem_of_getElem? (i := 144) rfl, rfl⟩
theorem tw_145 : Cond.methodLink "RequestCutter" 54 yX0_clear ∈ lw_g := List.mem_filter.mpr ⟨List.mem_of_getElem? (i := 145) rfl, rfl⟩
theorem tw_146 : Cond.instanceMethod yX0_clear ∈ lw_g := List.mem_filter.mpr ⟨List.mem_of_getElem? (i := 146) rfl, rfl⟩
theorem tw_147 : Cond.selects "RequestCutter$ByteRow" yX0_clear yX0_clear ∈ lw_g := List.mem_filter.mpr ⟨List.mem_of_getElem? (i := 147) rfl, rfl⟩
theorem tw_148 : Cond.code yX0_clear prog_2_method_4_code 1 none ∈ lw_g := List.mem_filter.mpr ⟨List.mem_of_getElem? (i := 148) rfl, rfl⟩
theorem tw_149 : Cond.methodLink "RequestCutterLaw" 28 yX2_cut ∈ lw_g := List.mem_filter.mpr ⟨List.mem_of_getElem? (i := 149) rfl, rfl⟩
theorem tw_150 : Cond.instanceMethod yX2_cut ∈ lw_g := List.mem_filter.mpr ⟨List.mem_of_getElem? (i := 150) rfl, rfl⟩
theorem tw_151 : Cond.selects "RequestCutter" yX2_cut yX2_cut ∈ lw_g := List.mem_filter.mpr ⟨List.mem_of_getElem? (i := 151) rfl, rfl⟩
theorem tw_152 : Cond.code yX2_cut prog_1_method_5_code 2 (some .int) ∈ lw_g := List.mem_filter.mpr ⟨List.mem_of_getElem? (i := 152) rfl, rfl⟩
theorem tw_153 : Cond.methodLink "RequestCutter" 57 yX1_clear ∈ lw_g := List.mem_filter.mpr ⟨List.mem_of_getElem? (i := 153) rfl, rfl⟩
theorem tw_154 : Cond.instanceMethod yX1_clear ∈ lw_g := List.mem_filter.mpr ⟨List.mem_of_getElem? (i := 154) rfl, rfl⟩
theorem tw_155 : Cond.selects "RequestCutter$WordRow" yX1_clear yX1_clear ∈ lw_g := List.mem_filter.mpr ⟨List.mem_of_getElem? (i := 155) rfl, rfl⟩
theorem tw_156 : Cond.code yX1_clear prog_3_method_3_code 1 none ∈ lw_g := List.mem_filter.mpr ⟨List.mem_of_getElem? (i := 156) rfl, rfl⟩
theorem tw_157 : Cond.methodLink "RequestCutter$WordRow" 32 yX0_clear ∈ lw_g := List.mem_filter.mpr ⟨List.mem_of_getElem? (i := 157) rfl, rfl⟩
theorem tw_158 : Cond.methodLink "RequestCutter" 58 yX0_at ∈ lw_g := List.mem_filter.mpr ⟨List.mem_of_getElem? (i := 158) rfl, rfl⟩
theorem tw_159 : Cond.instanceMethod yX0_at ∈ lw_g := List.mem_filter.mpr ⟨List.mem_of_getElem? (i := 159) rfl, rfl⟩
theorem tw_160 : Cond.selects "RequestCutter$ByteRow" yX0_at yX0_at ∈ lw_g := List.mem_filter.mpr ⟨List.mem_of_getElem? (i := 160) rfl, rfl⟩
theorem tw_161 : Cond.code yX0_at prog_2_method_3_code 2 (some .int) ∈ lw_g := List.mem_filter.mpr ⟨List.mem_of_getElem? (i := 161) rfl, rfl⟩
theorem tw_162 : Cond.methodLink "RequestCutter" 62 yX2_scanCounted ∈ lw_g := List.mem_filter.mpr ⟨List.mem_of_getElem? (i := 162) rfl, rfl⟩
theorem tw_164 : Cond.instanceMethod yX2_scanCounted ∈ lw_g := List.mem_filter.mpr ⟨List.mem_of_getElem? (i := 164) rfl, rfl⟩
theorem tw_165 : Cond.code yX2_scanCounted prog_1_method_11_code 4 (some .int) ∈ lw_g := List.mem_filter.mpr ⟨List.mem_of_getElem? (i := 165) rfl, rfl⟩
theorem tw_166 : Cond.constant "RequestCutter" 83 (-999999) ∈ lw_g := List.mem_filter.mpr ⟨List.mem_of_getElem? (i := 166) rfl, rfl⟩
theorem tw_167 : Cond.methodLink "RequestCutter" 84 yX2_scanLine ∈ lw_g := List.mem_filter.mpr ⟨List.mem_of_getElem? (i := 167) rfl, rfl⟩
theorem tw_169 : Cond.instanceMethod yX2_scanLine ∈ lw_g := List.mem_filter.mpr ⟨List.mem_of_getElem? (i := 169) rfl, rfl⟩
theorem tw_170 : Cond.code yX2_scanLine prog_1_method_14_code 6 (some .int) ∈ lw_g := List.mem_filter.mpr ⟨List.mem_of_getElem? (i := 170) rfl, rfl⟩
theorem tw_171 : Cond.methodLink "RequestCutter" 101 yX2_findLineStop ∈ lw_g := List.mem_filter.mpr ⟨List.mem_of_getElem? (i := 171) rfl, rfl⟩
theorem tw_173 : Cond.instanceMethod yX2_findLineStop ∈ lw_g := List.mem_filter.mpr ⟨List.mem_of_getElem? (i := 173) rfl, rfl⟩
theorem tw_174 : Cond.code yX2_findLineStop prog_1_method_15_code 3 (some .int) ∈ lw_g := List.mem_filter.mpr ⟨List.mem_of_getElem? (i := 174) rfl, rfl⟩
theorem tw_175 : Cond.methodLink "RequestCutter" 91 yX2_tell ∈ lw_g := List.mem_filter.mpr ⟨List.mem_of_getElem? (i := 175) rfl, rfl⟩
theorem tw_177 : Cond.instanceMethod yX2_tell ∈ lw_g := List.mem_filter.mpr ⟨List.mem_of_getElem? (i := 177) rfl, rfl⟩
theorem tw_178 : Cond.code yX2_tell prog_1_method_20_code 2 (some .int) ∈ lw_g := List.mem_filter.mpr ⟨List.mem_of_getElem? (i := 178) rfl, rfl⟩
theorem tw_179 : Cond.methodLink "RequestCutter" 104 yX2_readNumber ∈ lw_g := List.mem_filter.mpr ⟨List.mem_of_getElem? (i := 179) rfl, rfl⟩
theorem tw_181 : Cond.instanceMethod yX2_readNumber ∈ lw_g := List.mem_filter.mpr ⟨List.mem_of_getElem? (i := 181) rfl, rfl⟩
theorem tw_182 : Cond.code yX2_readNumber prog_1_method_16_code 8 (some .boolean) ∈ lw_g := List.mem_filter.mpr ⟨List.mem_of_getElem? (i := 182) rfl, rfl⟩
theorem tw_183 : Cond.methodLink "RequestCutter" 88 yX2_scanWord ∈ lw_g := List.mem_filter.mpr ⟨List.mem_of_getElem? (i := 183) rfl, rfl⟩
theorem tw_185 : Cond.instanceMethod yX2_scanWord ∈ lw_g := List.mem_filter.mpr ⟨List.mem_of_getElem? (i := 185) rfl, rfl⟩
theorem tw_186 : Cond.code yX2_scanWord prog_1_method_12_code 4 (some .int) ∈ lw_g := List.mem_filter.mpr ⟨List.mem_of_getElem? (i := 186) rfl, rfl⟩
theorem tw_187 : Cond.methodLink "RequestCutter" 94 yX1_add ∈ lw_g := List.mem_filter.mpr ⟨List.mem_of_getElem? (i := 187) rfl, rfl⟩
theorem tw_188 : Cond.instanceMethod yX1_add ∈ lw_g := List.mem_filter.mpr ⟨List.mem_of_getElem? (i := 188) rfl, rfl⟩
theorem tw_189 : Cond.selects "RequestCutter$WordRow" yX1_add yX1_add ∈ lw_g := List.mem_filter.mpr ⟨List.mem_of_getElem? (i := 189) rfl, rfl⟩
theorem tw_190 : Cond.code yX1_add prog_3_method_4_code 4 none ∈ lw_g := List.mem_filter.mpr ⟨List.mem_of_getElem? (i := 190) rfl, rfl⟩
theorem tw_191 : Cond.methodLink "RequestCutter$WordRow" 35 Lib.Math.min.name ∈ lw_g := List.mem_filter.mpr ⟨List.mem_of_getElem? (i := 191) rfl, rfl⟩
theorem tw_192 : Cond.methodLink "RequestCutter$WordRow" 41 yJ7_copyI ∈ lw_g := List.mem_filter.mpr ⟨List.mem_of_getElem? (i := 192) rfl, rfl⟩
theorem tw_193 : Cond.static yJ7_copyI ∈ lw_g := List.mem_filter.mpr ⟨List.mem_of_getElem? (i := 193) rfl, rfl⟩
theorem tw_194 : Cond.code yJ7_copyI prog_9_method_123_code 3 (some (.array .int)) ∈ lw_g := List.mem_filter.mpr ⟨List.mem_of_getElem? (i := 194) rfl, rfl⟩
theorem tw_195 : Cond.methodLink "java/util/Arrays" 316 ⟨"[I", "clone", "()Ljava/lang/Object;"⟩ ∈ lw_g := List.mem_filter.mpr ⟨List.mem_of_getElem? (i := 195) rfl, rfl⟩
theorem tw_197 : Cond.selects "[I" ⟨"[I", "clone", "()Ljava/lang/Object;"⟩ ⟨"java/lang/Object", "clone", "()Ljava/lang/Object;"⟩ ∈ lw_g := List.mem_filter.mpr ⟨List.mem_of_getElem? (i := 197) rfl, rfl⟩
theorem tw_199 : Cond.classLink "java/util/Arrays" 317 "[I" ∈ lw_g := List.mem_filter.mpr ⟨List.mem_of_getElem? (i := 199) rfl, rfl⟩
theorem tw_200 : Cond.methodLink "RequestCutter" 98 yX2_scanWordEnd ∈ lw_g := List.mem_filter.mpr ⟨List.mem_of_getElem? (i := 200) rfl, rfl⟩
theorem tw_202 : Cond.instanceMethod yX2_scanWordEnd ∈ lw_g := List.mem_filter.mpr ⟨List.mem_of_getElem? (i := 202) rfl, rfl⟩
theorem tw_203 : Cond.code yX2_scanWordEnd prog_1_method_13_code 4 (some .int) ∈ lw_g := List.mem_filter.mpr ⟨List.mem_of_getElem? (i := 203) rfl, rfl⟩
theorem tw_204 : Cond.methodLink "RequestCutter" 65 yX2_scanPlain ∈ lw_g := List.mem_filter.mpr ⟨List.mem_of_getElem? (i := 204) rfl, rfl⟩
theorem tw_206 : Cond.instanceMethod yX2_scanPlain ∈ lw_g := List.mem_filter.mpr ⟨List.mem_of_getElem? (i := 206) rfl, rfl⟩
theorem tw_207 : Cond.code yX2_scanPlain prog_1_method_17_code 3 (some .int) ∈ lw_g := List.mem_filter.mpr ⟨List.mem_of_getElem? (i := 207) rfl, rfl⟩
theorem tw_208 : Cond.methodLink "RequestCutter" 108 yX2_findLineFeed ∈ lw_g := List.mem_filter.mpr ⟨List.mem_of_getElem? (i := 208) rfl, rfl⟩
theorem tw_210 : Cond.instanceMethod yX2_findLineFeed ∈ lw_g := List.mem_filter.mpr ⟨List.mem_of_getElem? (i := 210) rfl, rfl⟩
theorem tw_211 : Cond.code yX2_findLineFeed prog_1_method_18_code 3 (some .int) ∈ lw_g := List.mem_filter.mpr ⟨List.mem_of_getElem? (i := 211) rfl, rfl⟩
theorem tw_212 : Cond.methodLink "RequestCutter" 114 Lib.Math.min.name ∈ lw_g := List.mem_filter.mpr ⟨List.mem_of_getElem? (i := 212) rfl, rfl⟩
theorem tw_213 : Cond.methodLink "RequestCutter" 111 yX2_addPlainWords ∈ lw_g := List.mem_filter.mpr ⟨List.mem_of_getElem? (i := 213) rfl, rfl⟩
theorem tw_215 : Cond.instanceMethod yX2_addPlainWords ∈ lw_g := List.mem_filter.mpr ⟨List.mem_of_getElem? (i := 215) rfl, rfl⟩
theorem tw_216 : Cond.code yX2_addPlainWords prog_1_method_19_code 4 none ∈ lw_g := List.mem_filter.mpr ⟨List.mem_of_getElem? (i := 216) rfl, rfl⟩
theorem tw_217 : Cond.methodLink "RequestCutter" 68 yX1_keepBytes ∈ lw_g := List.mem_filter.mpr ⟨List.mem_of_getElem? (i := 217) rfl, rfl⟩
theorem tw_218 : Cond.instanceMethod yX1_keepBytes ∈ lw_g := List.mem_filter.mpr ⟨List.mem_of_getElem? (i := 218) rfl, rfl⟩
theorem tw_219 : Cond.selects "RequestCutter$WordRow" yX1_keepBytes yX1_keepBytes ∈ lw_g := List.mem_filter.mpr ⟨List.mem_of_getElem? (i := 219) rfl, rfl⟩
theorem tw_220 : Cond.code yX1_keepBytes prog_3_method_5_code 3 none ∈ lw_g := List.mem_filter.mpr ⟨List.mem_of_getElem? (i := 220) rfl, rfl⟩
theorem tw_221 : Cond.methodLink "RequestCutter$WordRow" 47 yX0_addFirstOf ∈ lw_g := List.mem_filter.mpr ⟨List.mem_of_getElem? (i := 221) rfl, rfl⟩
theorem tw_222 : Cond.methodLink "RequestCutter" 72 yX0_removeFirst ∈ lw_g := List.mem_filter.mpr ⟨List.mem_of_getElem? (i := 222) rfl, rfl⟩
theorem tw_223 : Cond.instanceMethod yX0_removeFirst ∈ lw_g := List.mem_filter.mpr ⟨List.mem_of_getElem? (i := 223) rfl, rfl⟩
theorem tw_224 : Cond.selects "RequestCutter$ByteRow" yX0_removeFirst yX0_removeFirst ∈ lw_g := List.mem_filter.mpr ⟨List.mem_of_getElem? (i := 224) rfl, rfl⟩
theorem tw_225 : Cond.code yX0_removeFirst prog_2_method_9_code 2 (some .boolean) ∈ lw_g := List.mem_filter.mpr ⟨List.mem_of_getElem? (i := 225) rfl, rfl⟩
theorem tw_226 : Cond.methodLink "RequestCutter" 75 yX1_count ∈ lw_g := List.mem_filter.mpr ⟨List.mem_of_getElem? (i := 226) rfl, rfl⟩
theorem tw_227 : Cond.instanceMethod yX1_count ∈ lw_g := List.mem_filter.mpr ⟨List.mem_of_getElem? (i := 227) rfl, rfl⟩
theorem tw_228 : Cond.selects "RequestCutter$WordRow" yX1_count yX1_count ∈ lw_g := List.mem_filter.mpr ⟨List.mem_of_getElem? (i := 228) rfl, rfl⟩
theorem tw_229 : Cond.code yX1_count prog_3_method_2_code 1 (some .int) ∈ lw_g := List.mem_filter.mpr ⟨List.mem_of_getElem? (i := 229) rfl, rfl⟩
theorem tw_230 : Cond.methodLink "RequestCutterLaw" 32 yX2_fault ∈ lw_g := List.mem_filter.mpr ⟨List.mem_of_getElem? (i := 230) rfl, rfl⟩
theorem tw_231 : Cond.instanceMethod yX2_fault ∈ lw_g := List.mem_filter.mpr ⟨List.mem_of_getElem? (i := 231) rfl, rfl⟩
theorem tw_232 : Cond.selects "RequestCutter" yX2_fault yX2_fault ∈ lw_g := List.mem_filter.mpr ⟨List.mem_of_getElem? (i := 232) rfl, rfl⟩
theorem tw_233 : Cond.code yX2_fault prog_1_method_6_code 1 (some .int) ∈ lw_g := List.mem_filter.mpr ⟨List.mem_of_getElem? (i := 233) rfl, rfl⟩
theorem tw_234 : Cond.methodLink "RequestCutterLaw" 36 yX2_size ∈ lw_g := List.mem_filter.mpr ⟨List.mem_of_getElem? (i := 234) rfl, rfl⟩
theorem tw_235 : Cond.instanceMethod yX2_size ∈ lw_g := List.mem_filter.mpr ⟨List.mem_of_getElem? (i := 235) rfl, rfl⟩
theorem tw_236 : Cond.selects "RequestCutter" yX2_size yX2_size ∈ lw_g := List.mem_filter.mpr ⟨List.mem_of_getElem? (i := 236) rfl, rfl⟩
theorem tw_237 : Cond.code yX2_size prog_1_method_7_code 2 (some .int) ∈ lw_g := List.mem_filter.mpr ⟨List.mem_of_getElem? (i := 237) rfl, rfl⟩
theorem tw_238 : Cond.methodLink "RequestCutter" 76 yX1_sizeOf ∈ lw_g := List.mem_filter.mpr ⟨List.mem_of_getElem? (i := 238) rfl, rfl⟩
theorem tw_239 : Cond.instanceMethod yX1_sizeOf ∈ lw_g := List.mem_filter.mpr ⟨List.mem_of_getElem? (i := 239) rfl, rfl⟩
theorem tw_240 : Cond.selects "RequestCutter$WordRow" yX1_sizeOf yX1_sizeOf ∈ lw_g := List.mem_filter.mpr ⟨List.mem_of_getElem? (i := 240) rfl, rfl⟩
theorem tw_241 : Cond.code yX1_sizeOf prog_3_method_6_code 2 (some .int) ∈ lw_g := List.mem_filter.mpr ⟨List.mem_of_getElem? (i := 241) rfl, rfl⟩
theorem tw_242 : Cond.methodLink "RequestCutterLaw" 41 yX2_byteOf ∈ lw_g := List.mem_filter.mpr ⟨List.mem_of_getElem? (i := 242) rfl, rfl⟩
theorem tw_243 : Cond.instanceMethod yX2_byteOf ∈ lw_g := List.mem_filter.mpr ⟨List.mem_of_getElem? (i := 243) rfl, rfl⟩
theorem tw_244 : Cond.selects "RequestCutter" yX2_byteOf yX2_byteOf ∈ lw_g := List.mem_filter.mpr ⟨List.mem_of_getElem? (i := 244) rfl, rfl⟩
theorem tw_245 : Cond.code yX2_byteOf prog_1_method_8_code 3 (some .int) ∈ lw_g := List.mem_filter.mpr ⟨List.mem_of_getElem? (i := 245) rfl, rfl⟩
theorem tw_246 : Cond.methodLink "RequestCutter" 79 yX1_byteAt ∈ lw_g := List.mem_filter.mpr ⟨List.mem_of_getElem? (i := 246) rfl, rfl⟩
theorem tw_247 : Cond.instanceMethod yX1_byteAt ∈ lw_g := List.mem_filter.mpr ⟨List.mem_of_getElem? (i := 247) rfl, rfl⟩
theorem tw_248 : Cond.selects "RequestCutter$WordRow" yX1_byteAt yX1_byteAt ∈ lw_g := List.mem_filter.mpr ⟨List.mem_of_getElem? (i := 248) rfl, rfl⟩
theorem tw_249 : Cond.code yX1_byteAt prog_3_method_7_code 3 (some .int) ∈ lw_g := List.mem_filter.mpr ⟨List.mem_of_getElem? (i := 249) rfl, rfl⟩
theorem tw_250 : Cond.methodLink "RequestCutter$WordRow" 51 yX0_at ∈ lw_g := List.mem_filter.mpr ⟨List.mem_of_getElem? (i := 250) rfl, rfl⟩
theorem tw_251 : Cond.methodLink "RequestCutterLaw" 46 yX2_drop ∈ lw_g := List.mem_filter.mpr ⟨List.mem_of_getElem? (i := 251) rfl, rfl⟩
theorem tw_252 : Cond.instanceMethod yX2_drop ∈ lw_g := List.mem_filter.mpr ⟨List.mem_of_getElem? (i := 252) rfl, rfl⟩
theorem tw_253 : Cond.selects "RequestCutter" yX2_drop yX2_drop ∈ lw_g := List.mem_filter.mpr ⟨List.mem_of_getElem? (i := 253) rfl, rfl⟩
theorem tw_254 : Cond.code yX2_drop prog_1_method_9_code 2 (some .boolean) ∈ lw_g := List.mem_filter.mpr ⟨List.mem_of_getElem? (i := 254) rfl, rfl⟩
theorem tw_255 : Cond.methodLink "RequestCutterLaw" 50 yX2_waiting ∈ lw_g := List.mem_filter.mpr ⟨List.mem_of_getElem? (i := 255) rfl, rfl⟩
theorem tw_256 : Cond.instanceMethod yX2_waiting ∈ lw_g := List.mem_filter.mpr ⟨List.mem_of_getElem? (i := 256) rfl, rfl⟩
theorem tw_257 : Cond.selects "RequestCutter" yX2_waiting yX2_waiting ∈ lw_g := List.mem_filter.mpr ⟨List.mem_of_getElem? (i := 257) rfl, rfl⟩
theorem tw_258 : Cond.code yX2_waiting prog_1_method_10_code 1 (some .int) ∈ lw_g := List.mem_filter.mpr ⟨List.mem_of_getElem? (i := 258) rfl, rfl⟩
theorem tw_259 : Cond.classLink "RequestCutterLaw" 10 "RequestCutterModel" ∈ lw_g := List.mem_filter.mpr ⟨List.mem_of_getElem? (i := 259) rfl, rfl⟩
theorem tw_260 : Cond.instantiable "RequestCutterModel" 11 ∈ lw_g := List.mem_filter.mpr ⟨List.mem_of_getElem? (i := 260) rfl, rfl⟩
theorem tw_261 : Cond.methodLink "RequestCutterLaw" 12 yX3_init ∈ lw_g := List.mem_filter.mpr ⟨List.mem_of_getElem? (i := 261) rfl, rfl⟩
theorem tw_262 : Cond.instanceMethod yX3_init ∈ lw_g := List.mem_filter.mpr ⟨List.mem_of_getElem? (i := 262) rfl, rfl⟩
theorem tw_263 : Cond.code yX3_init prog_5_method_1_code 1 none ∈ lw_g := List.mem_filter.mpr ⟨List.mem_of_getElem? (i := 263) rfl, rfl⟩
theorem tw_264 : Cond.methodLink "RequestCutterModel" 1 objectInit ∈ lw_g := List.mem_filter.mpr ⟨List.mem_of_getElem? (i := 264) rfl, rfl⟩
theorem tw_265 : Cond.constant "RequestCutterModel" 13 (65536) ∈ lw_g := List.mem_filter.mpr ⟨List.mem_of_getElem? (i := 265) rfl, rfl⟩
theorem tw_266 : Cond.fieldLink "RequestCutterModel" 7 "RequestCutterModel" "tape" "[B" ∈ lw_g := List.mem_filter.mpr ⟨List.mem_of_getElem? (i := 266) rfl, rfl⟩
theorem tw_267 : Cond.fieldLink "RequestCutterModel" 14 "RequestCutterModel" "input" "[B" ∈ lw_g := List.mem_filter.mpr ⟨List.mem_of_getElem? (i := 267) rfl, rfl⟩
theorem tw_268 : Cond.fieldLink "RequestCutterModel" 17 "RequestCutterModel" "kept" "[B" ∈ lw_g := List.mem_filter.mpr ⟨List.mem_of_getElem? (i := 268) rfl, rfl⟩
theorem tw_269 : Cond.fieldLink "RequestCutterModel" 20 "RequestCutterModel" "from" "[I" ∈ lw_g := List.mem_filter.mpr ⟨List.mem_of_getElem? (i := 269) rfl, rfl⟩
theorem tw_270 : Cond.fieldLink "RequestCutterModel" 24 "RequestCutterModel" "long1" "[I" ∈ lw_g := List.mem_filter.mpr ⟨List.mem_of_getElem? (i := 270) rfl, rfl⟩
theorem tw_271 : Cond.fieldLink "RequestCutterModel" 27 "RequestCutterModel" "taped" "I" ∈ lw_g := List.mem_filter.mpr ⟨List.mem_of_getElem? (i := 271) rfl, rfl⟩
theorem tw_272 : Cond.fieldLink "RequestCutterModel" 35 "RequestCutterModel" "waits" "I" ∈ lw_g := List.mem_filter.mpr ⟨List.mem_of_getElem? (i := 272) rfl, rfl⟩
theorem tw_273 : Cond.fieldLink "RequestCutterModel" 46 "RequestCutterModel" "words" "I" ∈ lw_g := List.mem_filter.mpr ⟨List.mem_of_getElem? (i := 273) rfl, rfl⟩
theorem tw_274 : Cond.fieldLink "RequestCutterModel" 49 "RequestCutterModel" "keptSize" "I" ∈ lw_g := List.mem_filter.mpr ⟨List.mem_of_getElem? (i := 274) rfl, rfl⟩
theorem tw_275 : Cond.fieldLink "RequestCutterModel" 56 "RequestCutterModel" "fault" "I" ∈ lw_g := List.mem_filter.mpr ⟨List.mem_of_getElem? (i := 275) rfl, rfl⟩
theorem tw_276 : Cond.fieldLink "RequestCutterModel" 41 "RequestCutterModel" "at" "I" ∈ lw_g := List.mem_filter.mpr ⟨List.mem_of_getElem? (i := 276) rfl, rfl⟩
theorem tw_277 : Cond.laysFinal "RequestCutterModel" "RequestCutterModel" "tape" "[B" ∈ lw_g := List.mem_filter.mpr ⟨List.mem_of_getElem? (i := 277) rfl, rfl⟩
theorem tw_279 : Cond.laysFinal "RequestCutterModel" "RequestCutterModel" "input" "[B" ∈ lw_g := List.mem_filter.mpr ⟨List.mem_of_getElem? (i := 279) rfl, rfl⟩
theorem tw_281 : Cond.laysFinal "RequestCutterModel" "RequestCutterModel" "kept" "[B" ∈ lw_g := List.mem_filter.mpr ⟨List.mem_of_getElem? (i := 281) rfl, rfl⟩
theorem tw_283 : Cond.laysFinal "RequestCutterModel" "RequestCutterModel" "from" "[I" ∈ lw_g := List.mem_filter.mpr ⟨List.mem_of_getElem? (i := 283) rfl, rfl⟩
theorem tw_285 : Cond.laysFinal "RequestCutterModel" "RequestCutterModel" "long1" "[I" ∈ lw_g := List.mem_filter.mpr ⟨List.mem_of_getElem? (i := 285) rfl, rfl⟩
theorem tw_287 : Cond.lays "RequestCutterModel" "RequestCutterModel" "taped" "I" ∈ lw_g := List.mem_filter.mpr ⟨List.mem_of_getElem? (i := 287) rfl, rfl⟩
theorem tw_289 : Cond.lays "RequestCutterModel" "RequestCutterModel" "waits" "I" ∈ lw_g := List.mem_filter.mpr ⟨List.mem_of_getElem? (i := 289) rfl, rfl⟩
theorem tw_291 : Cond.lays "RequestCutterModel" "RequestCutterModel" "words" "I" ∈ lw_g := List.mem_filter.mpr ⟨List.mem_of_getElem? (i := 291) rfl, rfl⟩
theorem tw_293 : Cond.lays "RequestCutterModel" "RequestCutterModel" "keptSize" "I" ∈ lw_g := List.mem_filter.mpr ⟨List.mem_of_getElem? (i := 293) rfl, rfl⟩
theorem tw_295 : Cond.lays "RequestCutterModel" "RequestCutterModel" "fault" "I" ∈ lw_g := List.mem_filter.mpr ⟨List.mem_of_getElem? (i := 295) rfl, rfl⟩
theorem tw_297 : Cond.lays "RequestCutterModel" "RequestCutterModel" "at" "I" ∈ lw_g := List.mem_filter.mpr ⟨List.mem_of_getElem? (i := 297) rfl, rfl⟩
theorem tw_300 : Cond.methodLink "RequestCutterLaw" 17 yX3_feed ∈ lw_g := List.mem_filter.mpr ⟨List.mem_of_getElem? (i := 300) rfl, rfl⟩
theorem tw_301 : Cond.instanceMethod yX3_feed ∈ lw_g := List.mem_filter.mpr ⟨List.mem_of_getElem? (i := 301) rfl, rfl⟩
theorem tw_302 : Cond.selects "RequestCutterModel" yX3_feed yX3_feed ∈ lw_g := List.mem_filter.mpr ⟨List.mem_of_getElem? (i := 302) rfl, rfl⟩
theorem tw_303 : Cond.code yX3_feed prog_5_method_3_code 6 (some .boolean) ∈ lw_g := List.mem_filter.mpr ⟨List.mem_of_getElem? (i := 303) rfl, rfl⟩
theorem tw_304 : Cond.methodLink "RequestCutterModel" 31 yX3_lay ∈ lw_g := List.mem_filter.mpr ⟨List.mem_of_getElem? (i := 304) rfl, rfl⟩
theorem tw_306 : Cond.instanceMethod yX3_lay ∈ lw_g := List.mem_filter.mpr ⟨List.mem_of_getElem? (i := 306) rfl, rfl⟩
theorem tw_307 : Cond.code yX3_lay prog_5_method_2_code 3 none ∈ lw_g := List.mem_filter.mpr ⟨List.mem_of_getElem? (i := 307) rfl, rfl⟩
theorem tw_308 : Cond.methodLink "RequestCutterLaw" 22 yX3_end ∈ lw_g := List.mem_filter.mpr ⟨List.mem_of_getElem? (i := 308) rfl, rfl⟩
theorem tw_309 : Cond.instanceMethod yX3_end ∈ lw_g := List.mem_filter.mpr ⟨List.mem_of_getElem? (i := 309) rfl, rfl⟩
theorem tw_310 : Cond.selects "RequestCutterModel" yX3_end yX3_end ∈ lw_g := List.mem_filter.mpr ⟨List.mem_of_getElem? (i := 310) rfl, rfl⟩
theorem tw_311 : Cond.code yX3_end prog_5_method_4_code 2 (some .boolean) ∈ lw_g := List.mem_filter.mpr ⟨List.mem_of_getElem? (i := 311) rfl, rfl⟩
theorem tw_312 : Cond.methodLink "RequestCutterLaw" 27 yX3_arrive ∈ lw_g := List.mem_filter.mpr ⟨List.mem_of_getElem? (i := 312) rfl, rfl⟩
theorem tw_313 : Cond.instanceMethod yX3_arrive ∈ lw_g := List.mem_filter.mpr ⟨List.mem_of_getElem? (i := 313) rfl, rfl⟩
theorem tw_314 : Cond.selects "RequestCutterModel" yX3_arrive yX3_arrive ∈ lw_g := List.mem_filter.mpr ⟨List.mem_of_getElem? (i := 314) rfl, rfl⟩
theorem tw_315 : Cond.code yX3_arrive prog_5_method_5_code 3 (some .int) ∈ lw_g := List.mem_filter.mpr ⟨List.mem_of_getElem? (i := 315) rfl, rfl⟩
theorem tw_316 : Cond.methodLink "RequestCutterLaw" 49 yX3_drop ∈ lw_g := List.mem_filter.mpr ⟨List.mem_of_getElem? (i := 316) rfl, rfl⟩
theorem tw_317 : Cond.instanceMethod yX3_drop ∈ lw_g := List.mem_filter.mpr ⟨List.mem_of_getElem? (i := 317) rfl, rfl⟩
theorem tw_318 : Cond.selects "RequestCutterModel" yX3_drop yX3_drop ∈ lw_g := List.mem_filter.mpr ⟨List.mem_of_getElem? (i := 318) rfl, rfl⟩
theorem tw_319 : Cond.code yX3_drop prog_5_method_7_code 2 (some .boolean) ∈ lw_g := List.mem_filter.mpr ⟨List.mem_of_getElem? (i := 319) rfl, rfl⟩
theorem tw_320 : Cond.methodLink "RequestCutterModel" 38 yX3_go ∈ lw_g := List.mem_filter.mpr ⟨List.mem_of_getElem? (i := 320) rfl, rfl⟩
theorem tw_322 : Cond.instanceMethod yX3_go ∈ lw_g := List.mem_filter.mpr ⟨List.mem_of_getElem? (i := 322) rfl, rfl⟩
theorem tw_323 : Cond.code yX3_go prog_5_method_6_code 3 none ∈ lw_g := List.mem_filter.mpr ⟨List.mem_of_getElem? (i := 323) rfl, rfl⟩
theorem tw_324 : Cond.methodLink "RequestCutterLaw" 31 yX3_cut ∈ lw_g := List.mem_filter.mpr ⟨List.mem_of_getElem? (i := 324) rfl, rfl⟩
theorem tw_325 : Cond.instanceMethod yX3_cut ∈ lw_g := List.mem_filter.mpr ⟨List.mem_of_getElem? (i := 325) rfl, rfl⟩
theorem tw_326 : Cond.selects "RequestCutterModel" yX3_cut yX3_cut ∈ lw_g := List.mem_filter.mpr ⟨List.mem_of_getElem? (i := 326) rfl, rfl⟩
theorem tw_327 : Cond.code yX3_cut prog_5_method_14_code 2 (some .int) ∈ lw_g := List.mem_filter.mpr ⟨List.mem_of_getElem? (i := 327) rfl, rfl⟩
theorem tw_328 : Cond.methodLink "RequestCutterModel" 71 yX3_cutTold ∈ lw_g := List.mem_filter.mpr ⟨List.mem_of_getElem? (i := 328) rfl, rfl⟩
theorem tw_330 : Cond.instanceMethod yX3_cutTold ∈ lw_g := List.mem_filter.mpr ⟨List.mem_of_getElem? (i := 330) rfl, rfl⟩
theorem tw_331 : Cond.code yX3_cutTold prog_5_method_12_code 4 (some .boolean) ∈ lw_g := List.mem_filter.mpr ⟨List.mem_of_getElem? (i := 331) rfl, rfl⟩
theorem tw_332 : Cond.methodLink "RequestCutterModel" 59 yX3_line ∈ lw_g := List.mem_filter.mpr ⟨List.mem_of_getElem? (i := 332) rfl, rfl⟩
theorem tw_334 : Cond.instanceMethod yX3_line ∈ lw_g := List.mem_filter.mpr ⟨List.mem_of_getElem? (i := 334) rfl, rfl⟩
theorem tw_335 : Cond.code yX3_line prog_5_method_8_code 8 (some .int) ∈ lw_g := List.mem_filter.mpr ⟨List.mem_of_getElem? (i := 335) rfl, rfl⟩
theorem tw_336 : Cond.constant "RequestCutterModel" 44 (-1000001) ∈ lw_g := List.mem_filter.mpr ⟨List.mem_of_getElem? (i := 336) rfl, rfl⟩
theorem tw_337 : Cond.constant "RequestCutterModel" 45 (-1000000) ∈ lw_g := List.mem_filter.mpr ⟨List.mem_of_getElem? (i := 337) rfl, rfl⟩
theorem tw_338 : Cond.methodLink "RequestCutterModel" 67 yX3_told ∈ lw_g := List.mem_filter.mpr ⟨List.mem_of_getElem? (i := 338) rfl, rfl⟩
theorem tw_340 : Cond.instanceMethod yX3_told ∈ lw_g := List.mem_filter.mpr ⟨List.mem_of_getElem? (i := 340) rfl, rfl⟩
theorem tw_341 : Cond.code yX3_told prog_5_method_11_code 6 (some .boolean) ∈ lw_g := List.mem_filter.mpr ⟨List.mem_of_getElem? (i := 341) rfl, rfl⟩
theorem tw_342 : Cond.methodLink "RequestCutterModel" 52 yX3_must ∈ lw_g := List.mem_filter.mpr ⟨List.mem_of_getElem? (i := 342) rfl, rfl⟩
theorem tw_344 : Cond.instanceMethod yX3_must ∈ lw_g := List.mem_filter.mpr ⟨List.mem_of_getElem? (i := 344) rfl, rfl⟩
theorem tw_345 : Cond.code yX3_must prog_5_method_10_code 3 (some .int) ∈ lw_g := List.mem_filter.mpr ⟨List.mem_of_getElem? (i := 345) rfl, rfl⟩
theorem tw_346 : Cond.methodLink "RequestCutterModel" 63 yX3_word ∈ lw_g := List.mem_filter.mpr ⟨List.mem_of_getElem? (i := 346) rfl, rfl⟩
theorem tw_348 : Cond.instanceMethod yX3_word ∈ lw_g := List.mem_filter.mpr ⟨List.mem_of_getElem? (i := 348) rfl, rfl⟩
theorem tw_349 : Cond.code yX3_word prog_5_method_9_code 4 none ∈ lw_g := List.mem_filter.mpr ⟨List.mem_of_getElem? (i := 349) rfl, rfl⟩
theorem tw_350 : Cond.methodLink "RequestCutterModel" 74 yX3_cutLine ∈ lw_g := List.mem_filter.mpr ⟨List.mem_of_getElem? (i := 350) rfl, rfl⟩
theorem tw_352 : Cond.instanceMethod yX3_cutLine ∈ lw_g := List.mem_filter.mpr ⟨List.mem_of_getElem? (i := 352) rfl, rfl⟩
theorem tw_353 : Cond.code yX3_cutLine prog_5_method_13_code 5 (some .boolean) ∈ lw_g := List.mem_filter.mpr ⟨List.mem_of_getElem? (i := 353) rfl, rfl⟩
theorem tw_354 : Cond.methodLink "RequestCutterLaw" 35 yX3_fault ∈ lw_g := List.mem_filter.mpr ⟨List.mem_of_getElem? (i := 354) rfl, rfl⟩
theorem tw_355 : Cond.instanceMethod yX3_fault ∈ lw_g := List.mem_filter.mpr ⟨List.mem_of_getElem? (i := 355) rfl, rfl⟩
theorem tw_356 : Cond.selects "RequestCutterModel" yX3_fault yX3_fault ∈ lw_g := List.mem_filter.mpr ⟨List.mem_of_getElem? (i := 356) rfl, rfl⟩
theorem tw_357 : Cond.code yX3_fault prog_5_method_15_code 1 (some .int) ∈ lw_g := List.mem_filter.mpr ⟨List.mem_of_getElem? (i := 357) rfl, rfl⟩
theorem tw_358 : Cond.methodLink "RequestCutterLaw" 40 yX3_size ∈ lw_g := List.mem_filter.mpr ⟨List.mem_of_getElem? (i := 358) rfl, rfl⟩
theorem tw_359 : Cond.instanceMethod yX3_size ∈ lw_g := List.mem_filter.mpr ⟨List.mem_of_getElem? (i := 359) rfl, rfl⟩
theorem tw_360 : Cond.selects "RequestCutterModel" yX3_size yX3_size ∈ lw_g := List.mem_filter.mpr ⟨List.mem_of_getElem? (i := 360) rfl, rfl⟩
theorem tw_361 : Cond.code yX3_size prog_5_method_16_code 2 (some .int) ∈ lw_g := List.mem_filter.mpr ⟨List.mem_of_getElem? (i := 361) rfl, rfl⟩
theorem tw_362 : Cond.methodLink "RequestCutterLaw" 45 yX3_byteOf ∈ lw_g := List.mem_filter.mpr ⟨List.mem_of_getElem? (i := 362) rfl, rfl⟩
theorem tw_363 : Cond.instanceMethod yX3_byteOf ∈ lw_g := List.mem_filter.mpr ⟨List.mem_of_getElem? (i := 363) rfl, rfl⟩
theorem tw_364 : Cond.selects "RequestCutterModel" yX3_byteOf yX3_byteOf ∈ lw_g := List.mem_filter.mpr ⟨List.mem_of_getElem? (i := 364) rfl, rfl⟩
theorem tw_365 : Cond.code yX3_byteOf prog_5_method_17_code 3 (some .int) ∈ lw_g := List.mem_filter.mpr ⟨List.mem_of_getElem? (i := 365) rfl, rfl⟩
theorem tw_366 : Cond.methodLink "RequestCutterModel" 77 yX3_size ∈ lw_g := List.mem_filter.mpr ⟨List.mem_of_getElem? (i := 366) rfl, rfl⟩
theorem tw_367 : Cond.methodLink "RequestCutterLaw" 53 yX3_waiting ∈ lw_g := List.mem_filter.mpr ⟨List.mem_of_getElem? (i := 367) rfl, rfl⟩
theorem tw_368 : Cond.instanceMethod yX3_waiting ∈ lw_g := List.mem_filter.mpr ⟨List.mem_of_getElem? (i := 368) rfl, rfl⟩
theorem tw_369 : Cond.selects "RequestCutterModel" yX3_waiting yX3_waiting ∈ lw_g := List.mem_filter.mpr ⟨List.mem_of_getElem? (i := 369) rfl, rfl⟩
theorem tw_370 : Cond.code yX3_waiting prog_5_method_18_code 1 (some .int) ∈ lw_g := List.mem_filter.mpr ⟨List.mem_of_getElem? (i := 370) rfl, rfl⟩
theorem inX0 : ∀ w ∈ u_ws "RequestCutter$ByteRow" TX0 3, w ∈ lw_g := List.forall_mem_cons.mpr ⟨tw_43, List.forall_mem_cons.mpr ⟨tw_45, List.forall_mem_cons.mpr ⟨tw_47, fun _ h => absurd h List.not_mem_nil⟩⟩⟩
theorem inX1 : ∀ w ∈ u_ws "RequestCutter$WordRow" TX1 4, w ∈ lw_g := List.forall_mem_cons.mpr ⟨tw_65, List.forall_mem_cons.mpr ⟨tw_67, List.forall_mem_cons.mpr ⟨tw_69, List.forall_mem_cons.mpr ⟨tw_71, fun _ h => absurd h List.not_mem_nil⟩⟩⟩⟩
theorem inX2 : ∀ w ∈ u_ws "RequestCutter" TX2 5, w ∈ lw_g := List.forall_mem_cons.mpr ⟨tw_80, List.forall_mem_cons.mpr ⟨tw_82, List.forall_mem_cons.mpr ⟨tw_84, List.forall_mem_cons.mpr ⟨tw_86, List.forall_mem_cons.mpr ⟨tw_88, fun _ h => absurd h List.not_mem_nil⟩⟩⟩⟩⟩
theorem inX3 : ∀ w ∈ u_ws "RequestCutterModel" TX3 11, w ∈ lw_g := List.forall_mem_cons.mpr ⟨tw_277, List.forall_mem_cons.mpr ⟨tw_279, List.forall_mem_cons.mpr ⟨tw_281, List.forall_mem_cons.mpr ⟨tw_283, List.forall_mem_cons.mpr ⟨tw_285, List.forall_mem_cons.mpr ⟨tw_287, List.forall_mem_cons.mpr ⟨tw_289, List.forall_mem_cons.mpr ⟨tw_291, List.forall_mem_cons.mpr ⟨tw_293, List.forall_mem_cons.mpr ⟨tw_295, List.forall_mem_cons.mpr ⟨tw_297, fun _ h => absurd h List.not_mem_nil⟩⟩⟩⟩⟩⟩⟩⟩⟩⟩⟩
abbrev wX2_init : List Cond := .code yX2_init cX2_init 1 none :: lw_g
abbrev wX0_init : List Cond := .code yX0_init cX0_init 2 none :: lw_g
abbrev wX1_init : List Cond := .code yX1_init cX1_init 1 none :: lw_g
abbrev wX2_feed : List Cond := .code yX2_feed cX2_feed 6 (some .boolean) :: lw_g
abbrev wX0_makeRoom : List Cond := .code yX0_makeRoom cX0_makeRoom 4 (some .boolean) :: lw_g
abbrev wJ7_copyB : List Cond := .code yJ7_copyB cJ7_copyB 3 (some (.array .byte)) :: lw_g
abbrev wX0_addNumber : List Cond := .code yX0_addNumber cX0_addNumber 3 none :: lw_g
abbrev wX2_end : List Cond := .code yX2_end cX2_end 2 (some .boolean) :: lw_g
abbrev wX0_keepFirst : List Cond := .code yX0_keepFirst cX0_keepFirst 2 (some .boolean) :: lw_g
abbrev wX2_arrive : List Cond := .code yX2_arrive cX2_arrive 2 (some .int) :: lw_g
abbrev wX0_count : List Cond := .code yX0_count cX0_count 1 (some .int) :: lw_g
abbrev wX0_addFirstOf : List Cond := .code yX0_addFirstOf cX0_addFirstOf 3 (some .boolean) :: lw_g
abbrev wX0_clear : List Cond := .code yX0_clear cX0_clear 1 none :: lw_g
abbrev wX2_cut : List Cond := .code yX2_cut cX2_cut 2 (some .int) :: lw_g
abbrev wX1_clear : List Cond := .code yX1_clear cX1_clear 1 none :: lw_g
abbrev wX0_at : List Cond := .code yX0_at cX0_at 2 (some .int) :: lw_g
abbrev wX2_scanCounted : List Cond := .code yX2_scanCounted cX2_scanCounted 4 (some .int) :: lw_g
abbrev wX2_scanLine : List Cond := .code yX2_scanLine cX2_scanLine 6 (some .int) :: lw_g
abbrev wX2_findLineStop : List Cond := .code yX2_findLineStop cX2_findLineStop 3 (some .int) :: lw_g
abbrev wX2_tell : List Cond := .code yX2_tell cX2_tell 2 (some .int) :: lw_g
abbrev wX2_readNumber : List Cond := .code yX2_readNumber cX2_readNumber 8 (some .boolean) :: lw_g
abbrev wX2_scanWord : List Cond := .code yX2_scanWord cX2_scanWord 4 (some .int) :: lw_g
abbrev wX1_add : List Cond := .code yX1_add cX1_add 4 none :: lw_g
abbrev wJ7_copyI : List Cond := .code yJ7_copyI cJ7_copyI 3 (some (.array .int)) :: lw_g
abbrev wX2_scanWordEnd : List Cond := .code yX2_scanWordEnd cX2_scanWordEnd 4 (some .int) :: lw_g
abbrev wX2_scanPlain : List Cond := .code yX2_scanPlain cX2_scanPlain 3 (some .int) :: lw_g
abbrev wX2_findLineFeed : List Cond := .code yX2_findLineFeed cX2_findLineFeed 3 (some .int) :: lw_g
abbrev wX2_addPlainWords : List Cond := .code yX2_addPlainWords cX2_addPlainWords 4 none :: lw_g
abbrev wX1_keepBytes : List Cond := .code yX1_keepBytes cX1_keepBytes 3 none :: lw_g
abbrev wX0_removeFirst : List Cond := .code yX0_removeFirst cX0_removeFirst 2 (some .boolean) :: lw_g
abbrev wX1_count : List Cond := .code yX1_count cX1_count 1 (some .int) :: lw_g
abbrev wX2_fault : List Cond := .code yX2_fault cX2_fault 1 (some .int) :: lw_g
abbrev wX2_size : List Cond := .code yX2_size cX2_size 2 (some .int) :: lw_g
abbrev wX1_sizeOf : List Cond := .code yX1_sizeOf cX1_sizeOf 2 (some .int) :: lw_g
abbrev wX2_byteOf : List Cond := .code yX2_byteOf cX2_byteOf 3 (some .int) :: lw_g
abbrev wX1_byteAt : List Cond := .code yX1_byteAt cX1_byteAt 3 (some .int) :: lw_g
abbrev wX2_drop : List Cond := .code yX2_drop cX2_drop 2 (some .boolean) :: lw_g
abbrev wX2_waiting : List Cond := .code yX2_waiting cX2_waiting 1 (some .int) :: lw_g
abbrev wX3_init : List Cond := .code yX3_init cX3_init 1 none :: lw_g
abbrev wX3_feed : List Cond := .code yX3_feed cX3_feed 6 (some .boolean) :: lw_g
abbrev wX3_lay : List Cond := .code yX3_lay cX3_lay 3 none :: lw_g
abbrev wX3_end : List Cond := .code yX3_end cX3_end 2 (some .boolean) :: lw_g
abbrev wX3_arrive : List Cond := .code yX3_arrive cX3_arrive 3 (some .int) :: lw_g
abbrev wX3_drop : List Cond := .code yX3_drop cX3_drop 2 (some .boolean) :: lw_g
abbrev wX3_go : List Cond := .code yX3_go cX3_go 3 none :: lw_g
abbrev wX3_cut : List Cond := .code yX3_cut cX3_cut 2 (some .int) :: lw_g
abbrev wX3_cutTold : List Cond := .code yX3_cutTold cX3_cutTold 4 (some .boolean) :: lw_g
abbrev wX3_line : List Cond := .code yX3_line cX3_line 8 (some .int) :: lw_g
abbrev wX3_told : List Cond := .code yX3_told cX3_told 6 (some .boolean) :: lw_g
abbrev wX3_must : List Cond := .code yX3_must cX3_must 3 (some .int) :: lw_g
abbrev wX3_word : List Cond := .code yX3_word cX3_word 4 none :: lw_g
abbrev wX3_cutLine : List Cond := .code yX3_cutLine cX3_cutLine 5 (some .boolean) :: lw_g
abbrev wX3_fault : List Cond := .code yX3_fault cX3_fault 1 (some .int) :: lw_g
abbrev wX3_size : List Cond := .code yX3_size cX3_size 2 (some .int) :: lw_g
abbrev wX3_byteOf : List Cond := .code yX3_byteOf cX3_byteOf 3 (some .int) :: lw_g
abbrev wX3_waiting : List Cond := .code yX3_waiting cX3_waiting 1 (some .int) :: lw_g
theorem lw_g_in {w : Cond} (h : w ∈ lw_g) : w ∈ lw_tbl := (List.mem_filter.mp h).1
theorem gd_of {w : Cond} (h : w ∈ lw_g) : (w.onTables && w.keeps) = true ∨ ∃ ty, w = .arrayClass ty := good_of_word (List.mem_filter.mp h).2
/-- a virtual call's words, in a method's list -/
theorem gd_V {x0 : Cond} {own C : String} {idx : Nat} {y : MethodName} {b : ByteArray} {n : Nat} {r : Option FieldType} (h1 : Cond.methodLink own idx y ∈ lw_g) (h2 : Cond.instanceMethod y ∈ lw_g) (h3 : Cond.selects C y y ∈ lw_g) (h4 : Cond.initialized C ∈ lw_g) (h5 : Cond.code y b n r ∈ lw_g) : GoodIn (x0 :: lw_g) (wsV own idx C y (.code y b n r :: lw_g)) := by
  intro w hw
  have hm : w ∈ lw_g := by
    rcases List.mem_append.mp hw with h | h
    · rcases List.mem_cons.mp h with rfl | h
      · exact h1
      rcases List.mem_cons.mp h with rfl | h
      · exact h2
      rcases List.mem_cons.mp h with rfl | h
      · exact h3
      rcases List.mem_cons.mp h with rfl | h
      · exact h4
      exact absurd h List.not_mem_nil
    · rcases List.mem_cons.mp h with rfl | h
      · exact h5
      · exact h
  exact ⟨List.mem_cons_of_mem _ hm, gd_of hm⟩
/-- .. in the law's -/
theorem gd_VL {own C : String} {idx : Nat} {y : MethodName} {b : ByteArray} {n : Nat} {r : Option FieldType} (h1 : Cond.methodLink own idx y ∈ lw_g) (h2 : Cond.instanceMethod y ∈ lw_g) (h3 : Cond.selects C y y ∈ lw_g) (h4 : Cond.initialized C ∈ lw_g) (h5 : Cond.code y b n r ∈ lw_g) : GoodIn lw_g (wsV own idx C y (.code y b n r :: lw_g)) := fun w hw => by
  have h := gd_V (x0 := Cond.code y b n r) h1 h2 h3 h4 h5 w hw
  rcases List.mem_cons.mp h.1 with rfl | q
  · exact ⟨h5, h.2⟩
  · exact ⟨q, h.2⟩
/-- a constructor's -/
theorem gd_I {x0 : Cond} {y : MethodName} {b : ByteArray} {n : Nat} {r : Option FieldType} (h5 : Cond.code y b n r ∈ lw_g) : GoodIn (x0 :: lw_g) (.code y b n r :: lw_g) := by
  intro w hw
  have hm : w ∈ lw_g := by
    rcases List.mem_cons.mp hw with rfl | h
    · exact h5
    · exact h
  exact ⟨List.mem_cons_of_mem _ hm, gd_of hm⟩
theorem gd_IL {y : MethodName} {b : ByteArray} {n : Nat} {r : Option FieldType} (h5 : Cond.code y b n r ∈ lw_g) : GoodIn lw_g (.code y b n r :: lw_g) := by
  intro w hw
  have hm : w ∈ lw_g := by
    rcases List.mem_cons.mp hw with rfl | h
    · exact h5
    · exact h
  exact ⟨hm, gd_of hm⟩
/-- a static call's -/
theorem gd_S {x0 : Cond} {own : String} {idx : Nat} {y : MethodName} {b : ByteArray} {n : Nat} {r : Option FieldType} (h1 : Cond.methodLink own idx y ∈ lw_g) (h2 : Cond.static y ∈ lw_g) (h4 : Cond.initialized y.cls ∈ lw_g) (h5 : Cond.code y b n r ∈ lw_g) : GoodIn (x0 :: lw_g) (va_wsS own idx y (.code y b n r :: lw_g)) := by
  intro w hw
  have hm : w ∈ lw_g := by
    rcases List.mem_append.mp hw with h | h
    · rcases List.mem_cons.mp h with rfl | h
      · exact h1
      rcases List.mem_cons.mp h with rfl | h
      · exact h2
      rcases List.mem_cons.mp h with rfl | h
      · exact h4
      exact absurd h List.not_mem_nil
    · rcases List.mem_cons.mp h with rfl | h
      · exact h5
      · exact h
  exact ⟨List.mem_cons_of_mem _ hm, gd_of hm⟩
end
section
theorem dX0_init_0 : decode cX0_init 0 = .ok (.aload_n 0, 1) := by decide +kernel
theorem dX0_init_1 : decode cX0_init 1 = .ok (.invokespecial 3, 3) := by decide +kernel
theorem dX0_init_4 : decode cX0_init 4 = .ok (.aload_n 0, 1) := by decide +kernel
theorem dX0_init_5 : decode cX0_init 5 = .ok (.iload_n 1, 1) := by decide +kernel
theorem dX0_init_6 : decode cX0_init 6 = .ok (.putfield 9, 3) := by decide +kernel
theorem dX0_init_9 : decode cX0_init 9 = .ok (.aload_n 0, 1) := by decide +kernel
theorem dX0_init_10 : decode cX0_init 10 = .ok (.bipush 64, 2) := by decide +kernel
theorem dX0_init_12 : decode cX0_init 12 = .ok (.newarray .byte, 2) := by decide +kernel
theorem dX0_init_14 : decode cX0_init 14 = .ok (.putfield 15, 3) := by decide +kernel
theorem dX0_init_17 : decode cX0_init 17 = .ok (.aload_n 0, 1) := by decide +kernel
theorem dX0_init_18 : decode cX0_init 18 = .ok (.iconst 0, 1) := by decide +kernel
theorem dX0_init_19 : decode cX0_init 19 = .ok (.putfield 19, 3) := by decide +kernel
theorem dX0_init_22 : decode cX0_init 22 = .ok (.return_, 1) := by decide +kernel
theorem dX1_init_0 : decode cX1_init 0 = .ok (.aload_n 0, 1) := by decide +kernel
theorem dX1_init_1 : decode cX1_init 1 = .ok (.invokespecial 3, 3) := by decide +kernel
theorem dX1_init_4 : decode cX1_init 4 = .ok (.aload_n 0, 1) := by decide +kernel
theorem dX1_init_5 : decode cX1_init 5 = .ok (.new 9, 3) := by decide +kernel
theorem dX1_init_8 : decode cX1_init 8 = .ok (.dup, 1) := by decide +kernel
theorem dX1_init_9 : decode cX1_init 9 = .ok (.ldc 11, 2) := by decide +kernel
theorem dX1_init_11 : decode cX1_init 11 = .ok (.invokespecial 12, 3) := by decide +kernel
theorem dX1_init_14 : decode cX1_init 14 = .ok (.putfield 15, 3) := by decide +kernel
theorem dX1_init_17 : decode cX1_init 17 = .ok (.aload_n 0, 1) := by decide +kernel
theorem dX1_init_18 : decode cX1_init 18 = .ok (.bipush 8, 2) := by decide +kernel
theorem dX1_init_20 : decode cX1_init 20 = .ok (.newarray .int, 2) := by decide +kernel
theorem dX1_init_22 : decode cX1_init 22 = .ok (.putfield 21, 3) := by decide +kernel
theorem dX1_init_25 : decode cX1_init 25 = .ok (.aload_n 0, 1) := by decide +kernel
theorem dX1_init_26 : decode cX1_init 26 = .ok (.bipush 8, 2) := by decide +kernel
theorem dX1_init_28 : decode cX1_init 28 = .ok (.newarray .int, 2) := by decide +kernel
theorem dX1_init_30 : decode cX1_init 30 = .ok (.putfield 25, 3) := by decide +kernel
theorem dX1_init_33 : decode cX1_init 33 = .ok (.aload_n 0, 1) := by decide +kernel
theorem dX1_init_34 : decode cX1_init 34 = .ok (.iconst 0, 1) := by decide +kernel
theorem dX1_init_35 : decode cX1_init 35 = .ok (.putfield 28, 3) := by decide +kernel
theorem dX1_init_38 : decode cX1_init 38 = .ok (.return_, 1) := by decide +kernel
theorem dX0_makeRoom_0 : decode cX0_makeRoom 0 = .ok (.iload_n 1, 1) := by decide +kernel
theorem dX0_makeRoom_1 : decode cX0_makeRoom 1 = .ok (.ifCond .lt 16, 3) := by decide +kernel
theorem dX0_makeRoom_4 : decode cX0_makeRoom 4 = .ok (.iload_n 1, 1) := by decide +kernel
theorem dX0_makeRoom_5 : decode cX0_makeRoom 5 = .ok (.aload_n 0, 1) := by decide +kernel
theorem dX0_makeRoom_6 : decode cX0_makeRoom 6 = .ok (.getfield 9, 3) := by decide +kernel
theorem dX0_makeRoom_9 : decode cX0_makeRoom 9 = .ok (.aload_n 0, 1) := by decide +kernel
theorem dX0_makeRoom_10 : decode cX0_makeRoom 10 = .ok (.getfield 19, 3) := by decide +kernel
theorem dX0_makeRoom_13 : decode cX0_makeRoom 13 = .ok (.isub, 1) := by decide +kernel
theorem dX0_makeRoom_14 : decode cX0_makeRoom 14 = .ok (.if_icmp .le 5, 3) := by decide +kernel
theorem dX0_makeRoom_17 : decode cX0_makeRoom 17 = .ok (.iconst 0, 1) := by decide +kernel
theorem dX0_makeRoom_18 : decode cX0_makeRoom 18 = .ok (.ireturn, 1) := by decide +kernel
theorem dX0_makeRoom_19 : decode cX0_makeRoom 19 = .ok (.aload_n 0, 1) := by decide +kernel
theorem dX0_makeRoom_20 : decode cX0_makeRoom 20 = .ok (.getfield 19, 3) := by decide +kernel
theorem dX0_makeRoom_23 : decode cX0_makeRoom 23 = .ok (.iload_n 1, 1) := by decide +kernel
theorem dX0_makeRoom_24 : decode cX0_makeRoom 24 = .ok (.iadd, 1) := by decide +kernel
theorem dX0_makeRoom_25 : decode cX0_makeRoom 25 = .ok (.istore_n 2, 1) := by decide +kernel
theorem dX0_makeRoom_26 : decode cX0_makeRoom 26 = .ok (.iload_n 2, 1) := by decide +kernel
theorem dX0_makeRoom_27 : decode cX0_makeRoom 27 = .ok (.aload_n 0, 1) := by decide +kernel
theorem dX0_makeRoom_28 : decode cX0_makeRoom 28 = .ok (.getfield 15, 3) := by decide +kernel
theorem dX0_makeRoom_31 : decode cX0_makeRoom 31 = .ok (.arraylength, 1) := by decide +kernel
theorem dX0_makeRoom_32 : decode cX0_makeRoom 32 = .ok (.if_icmp .le 34, 3) := by decide +kernel
theorem dX0_makeRoom_35 : decode cX0_makeRoom 35 = .ok (.iload_n 2, 1) := by decide +kernel
theorem dX0_makeRoom_36 : decode cX0_makeRoom 36 = .ok (.iconst 2, 1) := by decide +kernel
theorem dX0_makeRoom_37 : decode cX0_makeRoom 37 = .ok (.aload_n 0, 1) := by decide +kernel
theorem dX0_makeRoom_38 : decode cX0_makeRoom 38 = .ok (.getfield 15, 3) := by decide +kernel
theorem dX0_makeRoom_41 : decode cX0_makeRoom 41 = .ok (.arraylength, 1) := by decide +kernel
theorem dX0_makeRoom_42 : decode cX0_makeRoom 42 = .ok (.imul, 1) := by decide +kernel
theorem dX0_makeRoom_43 : decode cX0_makeRoom 43 = .ok (.invokestatic 22, 3) := by decide +kernel
theorem dX0_makeRoom_46 : decode cX0_makeRoom 46 = .ok (.istore_n 3, 1) := by decide +kernel
theorem dX0_makeRoom_47 : decode cX0_makeRoom 47 = .ok (.aload_n 0, 1) := by decide +kernel
theorem dX0_makeRoom_48 : decode cX0_makeRoom 48 = .ok (.aload_n 0, 1) := by decide +kernel
theorem dX0_makeRoom_49 : decode cX0_makeRoom 49 = .ok (.getfield 15, 3) := by decide +kernel
theorem dX0_makeRoom_52 : decode cX0_makeRoom 52 = .ok (.aload_n 0, 1) := by decide +kernel
theorem dX0_makeRoom_53 : decode cX0_makeRoom 53 = .ok (.getfield 9, 3) := by decide +kernel
theorem dX0_makeRoom_56 : decode cX0_makeRoom 56 = .ok (.iload_n 3, 1) := by decide +kernel
theorem dX0_makeRoom_57 : decode cX0_makeRoom 57 = .ok (.invokestatic 28, 3) := by decide +kernel
theorem dX0_makeRoom_60 : decode cX0_makeRoom 60 = .ok (.invokestatic 31, 3) := by decide +kernel
theorem dX0_makeRoom_63 : decode cX0_makeRoom 63 = .ok (.putfield 15, 3) := by decide +kernel
theorem dX0_makeRoom_66 : decode cX0_makeRoom 66 = .ok (.iconst 1, 1) := by decide +kernel
theorem dX0_makeRoom_67 : decode cX0_makeRoom 67 = .ok (.ireturn, 1) := by decide +kernel
theorem dJ7_copyB_0 : decode cJ7_copyB 0 = .ok (.iload_n 1, 1) := by decide +kernel
theorem dJ7_copyB_1 : decode cJ7_copyB 1 = .ok (.aload_n 0, 1) := by decide +kernel
theorem dJ7_copyB_2 : decode cJ7_copyB 2 = .ok (.arraylength, 1) := by decide +kernel
theorem dJ7_copyB_3 : decode cJ7_copyB 3 = .ok (.if_icmp .ne 11, 3) := by decide +kernel
theorem dJ7_copyB_6 : decode cJ7_copyB 6 = .ok (.aload_n 0, 1) := by decide +kernel
theorem dJ7_copyB_7 : decode cJ7_copyB 7 = .ok (.invokevirtual 310, 3) := by decide +kernel
theorem dJ7_copyB_10 : decode cJ7_copyB 10 = .ok (.checkcast 311, 3) := by decide +kernel
theorem dJ7_copyB_13 : decode cJ7_copyB 13 = .ok (.areturn, 1) := by decide +kernel
theorem dJ7_copyB_14 : decode cJ7_copyB 14 = .ok (.iload_n 1, 1) := by decide +kernel
theorem dJ7_copyB_15 : decode cJ7_copyB 15 = .ok (.newarray .byte, 2) := by decide +kernel
theorem dJ7_copyB_17 : decode cJ7_copyB 17 = .ok (.astore_n 2, 1) := by decide +kernel
theorem dJ7_copyB_18 : decode cJ7_copyB 18 = .ok (.aload_n 0, 1) := by decide +kernel
theorem dJ7_copyB_19 : decode cJ7_copyB 19 = .ok (.iconst 0, 1) := by decide +kernel
theorem dJ7_copyB_20 : decode cJ7_copyB 20 = .ok (.aload_n 2, 1) := by decide +kernel
theorem dJ7_copyB_21 : decode cJ7_copyB 21 = .ok (.iconst 0, 1) := by decide +kernel
theorem dJ7_copyB_22 : decode cJ7_copyB 22 = .ok (.aload_n 0, 1) := by decide +kernel
theorem dJ7_copyB_23 : decode cJ7_copyB 23 = .ok (.arraylength, 1) := by decide +kernel
theorem dJ7_copyB_24 : decode cJ7_copyB 24 = .ok (.iload_n 1, 1) := by decide +kernel
theorem dJ7_copyB_25 : decode cJ7_copyB 25 = .ok (.invokestatic 304, 3) := by decide +kernel
theorem dJ7_copyB_28 : decode cJ7_copyB 28 = .ok (.invokestatic 150, 3) := by decide +kernel
theorem dJ7_copyB_31 : decode cJ7_copyB 31 = .ok (.aload_n 2, 1) := by decide +kernel
theorem dJ7_copyB_32 : decode cJ7_copyB 32 = .ok (.areturn, 1) := by decide +kernel
theorem dX0_addNumber_0 : decode cX0_addNumber 0 = .ok (.bipush 24, 2) := by decide +kernel
theorem dX0_addNumber_2 : decode cX0_addNumber 2 = .ok (.istore_n 2, 1) := by decide +kernel
theorem dX0_addNumber_3 : decode cX0_addNumber 3 = .ok (.iload_n 2, 1) := by decide +kernel
theorem dX0_addNumber_4 : decode cX0_addNumber 4 = .ok (.ifCond .lt 44, 3) := by decide +kernel
theorem dX0_addNumber_7 : decode cX0_addNumber 7 = .ok (.aload_n 0, 1) := by decide +kernel
theorem dX0_addNumber_8 : decode cX0_addNumber 8 = .ok (.getfield 19, 3) := by decide +kernel
theorem dX0_addNumber_11 : decode cX0_addNumber 11 = .ok (.aload_n 0, 1) := by decide +kernel
theorem dX0_addNumber_12 : decode cX0_addNumber 12 = .ok (.getfield 15, 3) := by decide +kernel
theorem dX0_addNumber_15 : decode cX0_addNumber 15 = .ok (.arraylength, 1) := by decide +kernel
theorem dX0_addNumber_16 : decode cX0_addNumber 16 = .ok (.if_icmp .ge 26, 3) := by decide +kernel
theorem dX0_addNumber_19 : decode cX0_addNumber 19 = .ok (.aload_n 0, 1) := by decide +kernel
theorem dX0_addNumber_20 : decode cX0_addNumber 20 = .ok (.getfield 15, 3) := by decide +kernel
theorem dX0_addNumber_23 : decode cX0_addNumber 23 = .ok (.aload_n 0, 1) := by decide +kernel
theorem dX0_addNumber_24 : decode cX0_addNumber 24 = .ok (.getfield 19, 3) := by decide +kernel
theorem dX0_addNumber_27 : decode cX0_addNumber 27 = .ok (.iload_n 1, 1) := by decide +kernel
theorem dX0_addNumber_28 : decode cX0_addNumber 28 = .ok (.iload_n 2, 1) := by decide +kernel
theorem dX0_addNumber_29 : decode cX0_addNumber 29 = .ok (.iushr, 1) := by decide +kernel
theorem dX0_addNumber_30 : decode cX0_addNumber 30 = .ok (.i2b, 1) := by decide +kernel
theorem dX0_addNumber_31 : decode cX0_addNumber 31 = .ok (.bastore, 1) := by decide +kernel
theorem dX0_addNumber_32 : decode cX0_addNumber 32 = .ok (.aload_n 0, 1) := by decide +kernel
theorem dX0_addNumber_33 : decode cX0_addNumber 33 = .ok (.dup, 1) := by decide +kernel
theorem dX0_addNumber_34 : decode cX0_addNumber 34 = .ok (.getfield 19, 3) := by decide +kernel
theorem dX0_addNumber_37 : decode cX0_addNumber 37 = .ok (.iconst 1, 1) := by decide +kernel
theorem dX0_addNumber_38 : decode cX0_addNumber 38 = .ok (.iadd, 1) := by decide +kernel
theorem dX0_addNumber_39 : decode cX0_addNumber 39 = .ok (.putfield 19, 3) := by decide +kernel
theorem dX0_addNumber_42 : decode cX0_addNumber 42 = .ok (.iinc 2 (-8), 3) := by decide +kernel
theorem dX0_addNumber_45 : decode cX0_addNumber 45 = .ok (.goto (-42), 3) := by decide +kernel
theorem dX0_addNumber_48 : decode cX0_addNumber 48 = .ok (.return_, 1) := by decide +kernel
theorem dX0_keepFirst_0 : decode cX0_keepFirst 0 = .ok (.iload_n 1, 1) := by decide +kernel
theorem dX0_keepFirst_1 : decode cX0_keepFirst 1 = .ok (.ifCond .lt 11, 3) := by decide +kernel
theorem dX0_keepFirst_4 : decode cX0_keepFirst 4 = .ok (.iload_n 1, 1) := by decide +kernel
theorem dX0_keepFirst_5 : decode cX0_keepFirst 5 = .ok (.aload_n 0, 1) := by decide +kernel
theorem dX0_keepFirst_6 : decode cX0_keepFirst 6 = .ok (.getfield 19, 3) := by decide +kernel
theorem dX0_keepFirst_9 : decode cX0_keepFirst 9 = .ok (.if_icmp .le 5, 3) := by decide +kernel
theorem dX0_keepFirst_12 : decode cX0_keepFirst 12 = .ok (.iconst 0, 1) := by decide +kernel
theorem dX0_keepFirst_13 : decode cX0_keepFirst 13 = .ok (.ireturn, 1) := by decide +kernel
theorem dX0_keepFirst_14 : decode cX0_keepFirst 14 = .ok (.aload_n 0, 1) := by decide +kernel
theorem dX0_keepFirst_15 : decode cX0_keepFirst 15 = .ok (.iload_n 1, 1) := by decide +kernel
theorem dX0_keepFirst_16 : decode cX0_keepFirst 16 = .ok (.putfield 19, 3) := by decide +kernel
theorem dX0_keepFirst_19 : decode cX0_keepFirst 19 = .ok (.iconst 1, 1) := by decide +kernel
theorem dX0_keepFirst_20 : decode cX0_keepFirst 20 = .ok (.ireturn, 1) := by decide +kernel
theorem dX0_count_0 : decode cX0_count 0 = .ok (.aload_n 0, 1) := by decide +kernel
theorem dX0_count_1 : decode cX0_count 1 = .ok (.getfield 19, 3) := by decide +kernel
theorem dX0_count_4 : decode cX0_count 4 = .ok (.ireturn, 1) := by decide +kernel
theorem dX0_addFirstOf_0 : decode cX0_addFirstOf 0 = .ok (.iload_n 2, 1) := by decide +kernel
theorem dX0_addFirstOf_1 : decode cX0_addFirstOf 1 = .ok (.ifCond .lt 19, 3) := by decide +kernel
theorem dX0_addFirstOf_4 : decode cX0_addFirstOf 4 = .ok (.iload_n 2, 1) := by decide +kernel
theorem dX0_addFirstOf_5 : decode cX0_addFirstOf 5 = .ok (.aload_n 1, 1) := by decide +kernel
theorem dX0_addFirstOf_6 : decode cX0_addFirstOf 6 = .ok (.getfield 19, 3) := by decide +kernel
theorem dX0_addFirstOf_9 : decode cX0_addFirstOf 9 = .ok (.if_icmp .gt 11, 3) := by decide +kernel
theorem dX0_addFirstOf_12 : decode cX0_addFirstOf 12 = .ok (.aload_n 0, 1) := by decide +kernel
theorem dX0_addFirstOf_13 : decode cX0_addFirstOf 13 = .ok (.iload_n 2, 1) := by decide +kernel
theorem dX0_addFirstOf_14 : decode cX0_addFirstOf 14 = .ok (.invokevirtual 37, 3) := by decide +kernel
theorem dX0_addFirstOf_17 : decode cX0_addFirstOf 17 = .ok (.ifCond .ne 5, 3) := by decide +kernel
theorem dX0_addFirstOf_20 : decode cX0_addFirstOf 20 = .ok (.iconst 0, 1) := by decide +kernel
theorem dX0_addFirstOf_21 : decode cX0_addFirstOf 21 = .ok (.ireturn, 1) := by decide +kernel
theorem dX0_addFirstOf_22 : decode cX0_addFirstOf 22 = .ok (.aload_n 1, 1) := by decide +kernel
theorem dX0_addFirstOf_23 : decode cX0_addFirstOf 23 = .ok (.getfield 15, 3) := by decide +kernel
theorem dX0_addFirstOf_26 : decode cX0_addFirstOf 26 = .ok (.iconst 0, 1) := by decide +kernel
theorem dX0_addFirstOf_27 : decode cX0_addFirstOf 27 = .ok (.aload_n 0, 1) := by decide +kernel
theorem dX0_addFirstOf_28 : decode cX0_addFirstOf 28 = .ok (.getfield 15, 3) := by decide +kernel
theorem dX0_addFirstOf_31 : decode cX0_addFirstOf 31 = .ok (.aload_n 0, 1) := by decide +kernel
theorem dX0_addFirstOf_32 : decode cX0_addFirstOf 32 = .ok (.getfield 19, 3) := by decide +kernel
theorem dX0_addFirstOf_35 : decode cX0_addFirstOf 35 = .ok (.iload_n 2, 1) := by decide +kernel
theorem dX0_addFirstOf_36 : decode cX0_addFirstOf 36 = .ok (.invokestatic 41, 3) := by decide +kernel
theorem dX0_addFirstOf_39 : decode cX0_addFirstOf 39 = .ok (.aload_n 0, 1) := by decide +kernel
theorem dX0_addFirstOf_40 : decode cX0_addFirstOf 40 = .ok (.dup, 1) := by decide +kernel
theorem dX0_addFirstOf_41 : decode cX0_addFirstOf 41 = .ok (.getfield 19, 3) := by decide +kernel
theorem dX0_addFirstOf_44 : decode cX0_addFirstOf 44 = .ok (.iload_n 2, 1) := by decide +kernel
theorem dX0_addFirstOf_45 : decode cX0_addFirstOf 45 = .ok (.iadd, 1) := by decide +kernel
theorem dX0_addFirstOf_46 : decode cX0_addFirstOf 46 = .ok (.putfield 19, 3) := by decide +kernel
theorem dX0_addFirstOf_49 : decode cX0_addFirstOf 49 = .ok (.iconst 1, 1) := by decide +kernel
theorem dX0_addFirstOf_50 : decode cX0_addFirstOf 50 = .ok (.ireturn, 1) := by decide +kernel
theorem dX0_clear_0 : decode cX0_clear 0 = .ok (.aload_n 0, 1) := by decide +kernel
theorem dX0_clear_1 : decode cX0_clear 1 = .ok (.iconst 0, 1) := by decide +kernel
theorem dX0_clear_2 : decode cX0_clear 2 = .ok (.putfield 19, 3) := by decide +kernel
theorem dX0_clear_5 : decode cX0_clear 5 = .ok (.return_, 1) := by decide +kernel
theorem dX1_clear_0 : decode cX1_clear 0 = .ok (.aload_n 0, 1) := by decide +kernel
theorem dX1_clear_1 : decode cX1_clear 1 = .ok (.iconst 0, 1) := by decide +kernel
theorem dX1_clear_2 : decode cX1_clear 2 = .ok (.putfield 28, 3) := by decide +kernel
theorem dX1_clear_5 : decode cX1_clear 5 = .ok (.aload_n 0, 1) := by decide +kernel
theorem dX1_clear_6 : decode cX1_clear 6 = .ok (.getfield 15, 3) := by decide +kernel
theorem dX1_clear_9 : decode cX1_clear 9 = .ok (.invokevirtual 32, 3) := by decide +kernel
theorem dX1_clear_12 : decode cX1_clear 12 = .ok (.return_, 1) := by decide +kernel
theorem dX0_at_0 : decode cX0_at 0 = .ok (.iload_n 1, 1) := by decide +kernel
theorem dX0_at_1 : decode cX0_at 1 = .ok (.ifCond .lt 24, 3) := by decide +kernel
theorem dX0_at_4 : decode cX0_at 4 = .ok (.iload_n 1, 1) := by decide +kernel
theorem dX0_at_5 : decode cX0_at 5 = .ok (.aload_n 0, 1) := by decide +kernel
theorem dX0_at_6 : decode cX0_at 6 = .ok (.getfield 19, 3) := by decide +kernel
theorem dX0_at_9 : decode cX0_at 9 = .ok (.if_icmp .ge 16, 3) := by decide +kernel
theorem dX0_at_12 : decode cX0_at 12 = .ok (.aload_n 0, 1) := by decide +kernel
theorem dX0_at_13 : decode cX0_at 13 = .ok (.getfield 15, 3) := by decide +kernel
theorem dX0_at_16 : decode cX0_at 16 = .ok (.iload_n 1, 1) := by decide +kernel
theorem dX0_at_17 : decode cX0_at 17 = .ok (.baload, 1) := by decide +kernel
theorem dX0_at_18 : decode cX0_at 18 = .ok (.sipush 255, 3) := by decide +kernel
theorem dX0_at_21 : decode cX0_at 21 = .ok (.iand, 1) := by decide +kernel
theorem dX0_at_22 : decode cX0_at 22 = .ok (.goto 4, 3) := by decide +kernel
theorem dX0_at_25 : decode cX0_at 25 = .ok (.iconst (-1), 1) := by decide +kernel
theorem dX0_at_26 : decode cX0_at 26 = .ok (.ireturn, 1) := by decide +kernel
theorem dX1_add_0 : decode cX1_add 0 = .ok (.aload_n 0, 1) := by decide +kernel
theorem dX1_add_1 : decode cX1_add 1 = .ok (.getfield 28, 3) := by decide +kernel
theorem dX1_add_4 : decode cX1_add 4 = .ok (.sipush 1024, 3) := by decide +kernel
theorem dX1_add_7 : decode cX1_add 7 = .ok (.if_icmp .lt 4, 3) := by decide +kernel
theorem dX1_add_10 : decode cX1_add 10 = .ok (.return_, 1) := by decide +kernel
theorem dX1_add_11 : decode cX1_add 11 = .ok (.aload_n 0, 1) := by decide +kernel
theorem dX1_add_12 : decode cX1_add 12 = .ok (.getfield 28, 3) := by decide +kernel
theorem dX1_add_15 : decode cX1_add 15 = .ok (.aload_n 0, 1) := by decide +kernel
theorem dX1_add_16 : decode cX1_add 16 = .ok (.getfield 21, 3) := by decide +kernel
theorem dX1_add_19 : decode cX1_add 19 = .ok (.arraylength, 1) := by decide +kernel
theorem dX1_add_20 : decode cX1_add 20 = .ok (.if_icmp .ge 15, 3) := by decide +kernel
theorem dX1_add_23 : decode cX1_add 23 = .ok (.aload_n 0, 1) := by decide +kernel
theorem dX1_add_24 : decode cX1_add 24 = .ok (.getfield 28, 3) := by decide +kernel
theorem dX1_add_27 : decode cX1_add 27 = .ok (.aload_n 0, 1) := by decide +kernel
theorem dX1_add_28 : decode cX1_add 28 = .ok (.getfield 25, 3) := by decide +kernel
theorem dX1_add_31 : decode cX1_add 31 = .ok (.arraylength, 1) := by decide +kernel
theorem dX1_add_32 : decode cX1_add 32 = .ok (.if_icmp .lt 40, 3) := by decide +kernel
theorem dX1_add_35 : decode cX1_add 35 = .ok (.sipush 1024, 3) := by decide +kernel
theorem dX1_add_38 : decode cX1_add 38 = .ok (.iconst 2, 1) := by decide +kernel
theorem dX1_add_39 : decode cX1_add 39 = .ok (.aload_n 0, 1) := by decide +kernel
theorem dX1_add_40 : decode cX1_add 40 = .ok (.getfield 28, 3) := by decide +kernel
theorem dX1_add_43 : decode cX1_add 43 = .ok (.imul, 1) := by decide +kernel
theorem dX1_add_44 : decode cX1_add 44 = .ok (.invokestatic 35, 3) := by decide +kernel
theorem dX1_add_47 : decode cX1_add 47 = .ok (.istore_n 3, 1) := by decide +kernel
theorem dX1_add_48 : decode cX1_add 48 = .ok (.aload_n 0, 1) := by decide +kernel
theorem dX1_add_49 : decode cX1_add 49 = .ok (.aload_n 0, 1) := by decide +kernel
theorem dX1_add_50 : decode cX1_add 50 = .ok (.getfield 21, 3) := by decide +kernel
theorem dX1_add_53 : decode cX1_add 53 = .ok (.iload_n 3, 1) := by decide +kernel
theorem dX1_add_54 : decode cX1_add 54 = .ok (.invokestatic 41, 3) := by decide +kernel
theorem dX1_add_57 : decode cX1_add 57 = .ok (.putfield 21, 3) := by decide +kernel
theorem dX1_add_60 : decode cX1_add 60 = .ok (.aload_n 0, 1) := by decide +kernel
theorem dX1_add_61 : decode cX1_add 61 = .ok (.aload_n 0, 1) := by decide +kernel
theorem dX1_add_62 : decode cX1_add 62 = .ok (.getfield 25, 3) := by decide +kernel
theorem dX1_add_65 : decode cX1_add 65 = .ok (.iload_n 3, 1) := by decide +kernel
theorem dX1_add_66 : decode cX1_add 66 = .ok (.invokestatic 41, 3) := by decide +kernel
theorem dX1_add_69 : decode cX1_add 69 = .ok (.putfield 25, 3) := by decide +kernel
theorem dX1_add_72 : decode cX1_add 72 = .ok (.aload_n 0, 1) := by decide +kernel
theorem dX1_add_73 : decode cX1_add 73 = .ok (.getfield 21, 3) := by decide +kernel
theorem dX1_add_76 : decode cX1_add 76 = .ok (.aload_n 0, 1) := by decide +kernel
theorem dX1_add_77 : decode cX1_add 77 = .ok (.getfield 28, 3) := by decide +kernel
theorem dX1_add_80 : decode cX1_add 80 = .ok (.iload_n 1, 1) := by decide +kernel
theorem dX1_add_81 : decode cX1_add 81 = .ok (.iastore, 1) := by decide +kernel
theorem dX1_add_82 : decode cX1_add 82 = .ok (.aload_n 0, 1) := by decide +kernel
theorem dX1_add_83 : decode cX1_add 83 = .ok (.getfield 25, 3) := by decide +kernel
theorem dX1_add_86 : decode cX1_add 86 = .ok (.aload_n 0, 1) := by decide +kernel
theorem dX1_add_87 : decode cX1_add 87 = .ok (.getfield 28, 3) := by decide +kernel
theorem dX1_add_90 : decode cX1_add 90 = .ok (.iload_n 2, 1) := by decide +kernel
theorem dX1_add_91 : decode cX1_add 91 = .ok (.iastore, 1) := by decide +kernel
theorem dX1_add_92 : decode cX1_add 92 = .ok (.aload_n 0, 1) := by decide +kernel
theorem dX1_add_93 : decode cX1_add 93 = .ok (.dup, 1) := by decide +kernel
theorem dX1_add_94 : decode cX1_add 94 = .ok (.getfield 28, 3) := by decide +kernel
theorem dX1_add_97 : decode cX1_add 97 = .ok (.iconst 1, 1) := by decide +kernel
theorem dX1_add_98 : decode cX1_add 98 = .ok (.iadd, 1) := by decide +kernel
theorem dX1_add_99 : decode cX1_add 99 = .ok (.putfield 28, 3) := by decide +kernel
theorem dX1_add_102 : decode cX1_add 102 = .ok (.return_, 1) := by decide +kernel
theorem dJ7_copyI_0 : decode cJ7_copyI 0 = .ok (.iload_n 1, 1) := by decide +kernel
theorem dJ7_copyI_1 : decode cJ7_copyI 1 = .ok (.aload_n 0, 1) := by decide +kernel
theorem dJ7_copyI_2 : decode cJ7_copyI 2 = .ok (.arraylength, 1) := by decide +kernel
theorem dJ7_copyI_3 : decode cJ7_copyI 3 = .ok (.if_icmp .ne 11, 3) := by decide +kernel
theorem dJ7_copyI_6 : decode cJ7_copyI 6 = .ok (.aload_n 0, 1) := by decide +kernel
theorem dJ7_copyI_7 : decode cJ7_copyI 7 = .ok (.invokevirtual 316, 3) := by decide +kernel
theorem dJ7_copyI_10 : decode cJ7_copyI 10 = .ok (.checkcast 317, 3) := by decide +kernel
theorem dJ7_copyI_13 : decode cJ7_copyI 13 = .ok (.areturn, 1) := by decide +kernel
theorem dJ7_copyI_14 : decode cJ7_copyI 14 = .ok (.iload_n 1, 1) := by decide +kernel
theorem dJ7_copyI_15 : decode cJ7_copyI 15 = .ok (.newarray .int, 2) := by decide +kernel
theorem dJ7_copyI_17 : decode cJ7_copyI 17 = .ok (.astore_n 2, 1) := by decide +kernel
theorem dJ7_copyI_18 : decode cJ7_copyI 18 = .ok (.aload_n 0, 1) := by decide +kernel
theorem dJ7_copyI_19 : decode cJ7_copyI 19 = .ok (.iconst 0, 1) := by decide +kernel
theorem dJ7_copyI_20 : decode cJ7_copyI 20 = .ok (.aload_n 2, 1) := by decide +kernel
theorem dJ7_copyI_21 : decode cJ7_copyI 21 = .ok (.iconst 0, 1) := by decide +kernel
theorem dJ7_copyI_22 : decode cJ7_copyI 22 = .ok (.aload_n 0, 1) := by decide +kernel
theorem dJ7_copyI_23 : decode cJ7_copyI 23 = .ok (.arraylength, 1) := by decide +kernel
theorem dJ7_copyI_24 : decode cJ7_copyI 24 = .ok (.iload_n 1, 1) := by decide +kernel
theorem dJ7_copyI_25 : decode cJ7_copyI 25 = .ok (.invokestatic 304, 3) := by decide +kernel
theorem dJ7_copyI_28 : decode cJ7_copyI 28 = .ok (.invokestatic 150, 3) := by decide +kernel
theorem dJ7_copyI_31 : decode cJ7_copyI 31 = .ok (.aload_n 2, 1) := by decide +kernel
theorem dJ7_copyI_32 : decode cJ7_copyI 32 = .ok (.areturn, 1) := by decide +kernel
theorem dX1_keepBytes_0 : decode cX1_keepBytes 0 = .ok (.aload_n 0, 1) := by decide +kernel
theorem dX1_keepBytes_1 : decode cX1_keepBytes 1 = .ok (.getfield 15, 3) := by decide +kernel
theorem dX1_keepBytes_4 : decode cX1_keepBytes 4 = .ok (.aload_n 1, 1) := by decide +kernel
theorem dX1_keepBytes_5 : decode cX1_keepBytes 5 = .ok (.iload_n 2, 1) := by decide +kernel
theorem dX1_keepBytes_6 : decode cX1_keepBytes 6 = .ok (.invokevirtual 47, 3) := by decide +kernel
theorem dX1_keepBytes_9 : decode cX1_keepBytes 9 = .ok (.pop, 1) := by decide +kernel
theorem dX1_keepBytes_10 : decode cX1_keepBytes 10 = .ok (.return_, 1) := by decide +kernel
theorem dX0_removeFirst_0 : decode cX0_removeFirst 0 = .ok (.iload_n 1, 1) := by decide +kernel
theorem dX0_removeFirst_1 : decode cX0_removeFirst 1 = .ok (.ifCond .lt 11, 3) := by decide +kernel
theorem dX0_removeFirst_4 : decode cX0_removeFirst 4 = .ok (.iload_n 1, 1) := by decide +kernel
theorem dX0_removeFirst_5 : decode cX0_removeFirst 5 = .ok (.aload_n 0, 1) := by decide +kernel
theorem dX0_removeFirst_6 : decode cX0_removeFirst 6 = .ok (.getfield 19, 3) := by decide +kernel
theorem dX0_removeFirst_9 : decode cX0_removeFirst 9 = .ok (.if_icmp .le 5, 3) := by decide +kernel
theorem dX0_removeFirst_12 : decode cX0_removeFirst 12 = .ok (.iconst 0, 1) := by decide +kernel
theorem dX0_removeFirst_13 : decode cX0_removeFirst 13 = .ok (.ireturn, 1) := by decide +kernel
theorem dX0_removeFirst_14 : decode cX0_removeFirst 14 = .ok (.aload_n 0, 1) := by decide +kernel
theorem dX0_removeFirst_15 : decode cX0_removeFirst 15 = .ok (.getfield 15, 3) := by decide +kernel
theorem dX0_removeFirst_18 : decode cX0_removeFirst 18 = .ok (.iload_n 1, 1) := by decide +kernel
theorem dX0_removeFirst_19 : decode cX0_removeFirst 19 = .ok (.aload_n 0, 1) := by decide +kernel
theorem dX0_removeFirst_20 : decode cX0_removeFirst 20 = .ok (.getfield 15, 3) := by decide +kernel
theorem dX0_removeFirst_23 : decode cX0_removeFirst 23 = .ok (.iconst 0, 1) := by decide +kernel
theorem dX0_removeFirst_24 : decode cX0_removeFirst 24 = .ok (.aload_n 0, 1) := by decide +kernel
theorem dX0_removeFirst_25 : decode cX0_removeFirst 25 = .ok (.getfield 19, 3) := by decide +kernel
theorem dX0_removeFirst_28 : decode cX0_removeFirst 28 = .ok (.iload_n 1, 1) := by decide +kernel
theorem dX0_removeFirst_29 : decode cX0_removeFirst 29 = .ok (.isub, 1) := by decide +kernel
theorem dX0_removeFirst_30 : decode cX0_removeFirst 30 = .ok (.invokestatic 41, 3) := by decide +kernel
theorem dX0_removeFirst_33 : decode cX0_removeFirst 33 = .ok (.aload_n 0, 1) := by decide +kernel
theorem dX0_removeFirst_34 : decode cX0_removeFirst 34 = .ok (.dup, 1) := by decide +kernel
theorem dX0_removeFirst_35 : decode cX0_removeFirst 35 = .ok (.getfield 19, 3) := by decide +kernel
theorem dX0_removeFirst_38 : decode cX0_removeFirst 38 = .ok (.iload_n 1, 1) := by decide +kernel
theorem dX0_removeFirst_39 : decode cX0_removeFirst 39 = .ok (.isub, 1) := by decide +kernel
theorem dX0_removeFirst_40 : decode cX0_removeFirst 40 = .ok (.putfield 19, 3) := by decide +kernel
theorem dX0_removeFirst_43 : decode cX0_removeFirst 43 = .ok (.iconst 1, 1) := by decide +kernel
theorem dX0_removeFirst_44 : decode cX0_removeFirst 44 = .ok (.ireturn, 1) := by decide +kernel
theorem dX1_count_0 : decode cX1_count 0 = .ok (.aload_n 0, 1) := by decide +kernel
theorem dX1_count_1 : decode cX1_count 1 = .ok (.getfield 28, 3) := by decide +kernel
theorem dX1_count_4 : decode cX1_count 4 = .ok (.ireturn, 1) := by decide +kernel
theorem dX1_sizeOf_0 : decode cX1_sizeOf 0 = .ok (.iload_n 1, 1) := by decide +kernel
theorem dX1_sizeOf_1 : decode cX1_sizeOf 1 = .ok (.ifCond .lt 20, 3) := by decide +kernel
theorem dX1_sizeOf_4 : decode cX1_sizeOf 4 = .ok (.iload_n 1, 1) := by decide +kernel
theorem dX1_sizeOf_5 : decode cX1_sizeOf 5 = .ok (.aload_n 0, 1) := by decide +kernel
theorem dX1_sizeOf_6 : decode cX1_sizeOf 6 = .ok (.getfield 28, 3) := by decide +kernel
theorem dX1_sizeOf_9 : decode cX1_sizeOf 9 = .ok (.if_icmp .ge 12, 3) := by decide +kernel
theorem dX1_sizeOf_12 : decode cX1_sizeOf 12 = .ok (.aload_n 0, 1) := by decide +kernel
theorem dX1_sizeOf_13 : decode cX1_sizeOf 13 = .ok (.getfield 25, 3) := by decide +kernel
theorem dX1_sizeOf_16 : decode cX1_sizeOf 16 = .ok (.iload_n 1, 1) := by decide +kernel
theorem dX1_sizeOf_17 : decode cX1_sizeOf 17 = .ok (.iaload, 1) := by decide +kernel
theorem dX1_sizeOf_18 : decode cX1_sizeOf 18 = .ok (.goto 4, 3) := by decide +kernel
theorem dX1_sizeOf_21 : decode cX1_sizeOf 21 = .ok (.iconst (-1), 1) := by decide +kernel
theorem dX1_sizeOf_22 : decode cX1_sizeOf 22 = .ok (.ireturn, 1) := by decide +kernel
theorem dX1_byteAt_0 : decode cX1_byteAt 0 = .ok (.iload_n 1, 1) := by decide +kernel
theorem dX1_byteAt_1 : decode cX1_byteAt 1 = .ok (.ifCond .lt 25, 3) := by decide +kernel
theorem dX1_byteAt_4 : decode cX1_byteAt 4 = .ok (.iload_n 1, 1) := by decide +kernel
theorem dX1_byteAt_5 : decode cX1_byteAt 5 = .ok (.aload_n 0, 1) := by decide +kernel
theorem dX1_byteAt_6 : decode cX1_byteAt 6 = .ok (.getfield 28, 3) := by decide +kernel
theorem dX1_byteAt_9 : decode cX1_byteAt 9 = .ok (.if_icmp .ge 17, 3) := by decide +kernel
theorem dX1_byteAt_12 : decode cX1_byteAt 12 = .ok (.iload_n 2, 1) := by decide +kernel
theorem dX1_byteAt_13 : decode cX1_byteAt 13 = .ok (.ifCond .lt 13, 3) := by decide +kernel
theorem dX1_byteAt_16 : decode cX1_byteAt 16 = .ok (.iload_n 2, 1) := by decide +kernel
theorem dX1_byteAt_17 : decode cX1_byteAt 17 = .ok (.aload_n 0, 1) := by decide +kernel
theorem dX1_byteAt_18 : decode cX1_byteAt 18 = .ok (.getfield 25, 3) := by decide +kernel
theorem dX1_byteAt_21 : decode cX1_byteAt 21 = .ok (.iload_n 1, 1) := by decide +kernel
theorem dX1_byteAt_22 : decode cX1_byteAt 22 = .ok (.iaload, 1) := by decide +kernel
theorem dX1_byteAt_23 : decode cX1_byteAt 23 = .ok (.if_icmp .lt 5, 3) := by decide +kernel
theorem dX1_byteAt_26 : decode cX1_byteAt 26 = .ok (.iconst (-1), 1) := by decide +kernel
theorem dX1_byteAt_27 : decode cX1_byteAt 27 = .ok (.ireturn, 1) := by decide +kernel
theorem dX1_byteAt_28 : decode cX1_byteAt 28 = .ok (.aload_n 0, 1) := by decide +kernel
theorem dX1_byteAt_29 : decode cX1_byteAt 29 = .ok (.getfield 15, 3) := by decide +kernel
theorem dX1_byteAt_32 : decode cX1_byteAt 32 = .ok (.aload_n 0, 1) := by decide +kernel
theorem dX1_byteAt_33 : decode cX1_byteAt 33 = .ok (.getfield 21, 3) := by decide +kernel
theorem dX1_byteAt_36 : decode cX1_byteAt 36 = .ok (.iload_n 1, 1) := by decide +kernel
theorem dX1_byteAt_37 : decode cX1_byteAt 37 = .ok (.iaload, 1) := by decide +kernel
theorem dX1_byteAt_38 : decode cX1_byteAt 38 = .ok (.iload_n 2, 1) := by decide +kernel
theorem dX1_byteAt_39 : decode cX1_byteAt 39 = .ok (.iadd, 1) := by decide +kernel
theorem dX1_byteAt_40 : decode cX1_byteAt 40 = .ok (.invokevirtual 51, 3) := by decide +kernel
theorem dX1_byteAt_43 : decode cX1_byteAt 43 = .ok (.ireturn, 1) := by decide +kernel
end
section
theorem dX2_init_0 : decode cX2_init 0 = .ok (.aload_n 0, 1) := by decide +kernel
theorem dX2_init_1 : decode cX2_init 1 = .ok (.invokespecial 1, 3) := by decide +kernel
theorem dX2_init_4 : decode cX2_init 4 = .ok (.aload_n 0, 1) := by decide +kernel
theorem dX2_init_5 : decode cX2_init 5 = .ok (.new 7, 3) := by decide +kernel
theorem dX2_init_8 : decode cX2_init 8 = .ok (.dup, 1) := by decide +kernel
theorem dX2_init_9 : decode cX2_init 9 = .ok (.sipush 10240, 3) := by decide +kernel
theorem dX2_init_12 : decode cX2_init 12 = .ok (.invokespecial 11, 3) := by decide +kernel
theorem dX2_init_15 : decode cX2_init 15 = .ok (.putfield 14, 3) := by decide +kernel
theorem dX2_init_18 : decode cX2_init 18 = .ok (.aload_n 0, 1) := by decide +kernel
theorem dX2_init_19 : decode cX2_init 19 = .ok (.new 7, 3) := by decide +kernel
theorem dX2_init_22 : decode cX2_init 22 = .ok (.dup, 1) := by decide +kernel
theorem dX2_init_23 : decode cX2_init 23 = .ok (.ldc 18, 2) := by decide +kernel
theorem dX2_init_25 : decode cX2_init 25 = .ok (.invokespecial 11, 3) := by decide +kernel
theorem dX2_init_28 : decode cX2_init 28 = .ok (.putfield 19, 3) := by decide +kernel
theorem dX2_init_31 : decode cX2_init 31 = .ok (.aload_n 0, 1) := by decide +kernel
theorem dX2_init_32 : decode cX2_init 32 = .ok (.new 22, 3) := by decide +kernel
theorem dX2_init_35 : decode cX2_init 35 = .ok (.dup, 1) := by decide +kernel
theorem dX2_init_36 : decode cX2_init 36 = .ok (.invokespecial 24, 3) := by decide +kernel
theorem dX2_init_39 : decode cX2_init 39 = .ok (.putfield 25, 3) := by decide +kernel
theorem dX2_init_42 : decode cX2_init 42 = .ok (.aload_n 0, 1) := by decide +kernel
theorem dX2_init_43 : decode cX2_init 43 = .ok (.iconst 0, 1) := by decide +kernel
theorem dX2_init_44 : decode cX2_init 44 = .ok (.putfield 29, 3) := by decide +kernel
theorem dX2_init_47 : decode cX2_init 47 = .ok (.aload_n 0, 1) := by decide +kernel
theorem dX2_init_48 : decode cX2_init 48 = .ok (.iconst 0, 1) := by decide +kernel
theorem dX2_init_49 : decode cX2_init 49 = .ok (.putfield 33, 3) := by decide +kernel
theorem dX2_init_52 : decode cX2_init 52 = .ok (.return_, 1) := by decide +kernel
theorem dX2_feed_0 : decode cX2_feed 0 = .ok (.aload_n 0, 1) := by decide +kernel
theorem dX2_feed_1 : decode cX2_feed 1 = .ok (.getfield 14, 3) := by decide +kernel
theorem dX2_feed_4 : decode cX2_feed 4 = .ok (.bipush 20, 2) := by decide +kernel
theorem dX2_feed_6 : decode cX2_feed 6 = .ok (.invokevirtual 36, 3) := by decide +kernel
theorem dX2_feed_9 : decode cX2_feed 9 = .ok (.ifCond .ne 5, 3) := by decide +kernel
theorem dX2_feed_12 : decode cX2_feed 12 = .ok (.iconst 0, 1) := by decide +kernel
theorem dX2_feed_13 : decode cX2_feed 13 = .ok (.ireturn, 1) := by decide +kernel
theorem dX2_feed_14 : decode cX2_feed 14 = .ok (.aload_n 0, 1) := by decide +kernel
theorem dX2_feed_15 : decode cX2_feed 15 = .ok (.getfield 14, 3) := by decide +kernel
theorem dX2_feed_18 : decode cX2_feed 18 = .ok (.iload_n 1, 1) := by decide +kernel
theorem dX2_feed_19 : decode cX2_feed 19 = .ok (.invokevirtual 40, 3) := by decide +kernel
theorem dX2_feed_22 : decode cX2_feed 22 = .ok (.aload_n 0, 1) := by decide +kernel
theorem dX2_feed_23 : decode cX2_feed 23 = .ok (.getfield 14, 3) := by decide +kernel
theorem dX2_feed_26 : decode cX2_feed 26 = .ok (.iload_n 2, 1) := by decide +kernel
theorem dX2_feed_27 : decode cX2_feed 27 = .ok (.invokevirtual 40, 3) := by decide +kernel
theorem dX2_feed_30 : decode cX2_feed 30 = .ok (.aload_n 0, 1) := by decide +kernel
theorem dX2_feed_31 : decode cX2_feed 31 = .ok (.getfield 14, 3) := by decide +kernel
theorem dX2_feed_34 : decode cX2_feed 34 = .ok (.iload_n 3, 1) := by decide +kernel
theorem dX2_feed_35 : decode cX2_feed 35 = .ok (.invokevirtual 40, 3) := by decide +kernel
theorem dX2_feed_38 : decode cX2_feed 38 = .ok (.aload_n 0, 1) := by decide +kernel
theorem dX2_feed_39 : decode cX2_feed 39 = .ok (.getfield 14, 3) := by decide +kernel
theorem dX2_feed_42 : decode cX2_feed 42 = .ok (.iload 4, 2) := by decide +kernel
theorem dX2_feed_44 : decode cX2_feed 44 = .ok (.invokevirtual 40, 3) := by decide +kernel
theorem dX2_feed_47 : decode cX2_feed 47 = .ok (.aload_n 0, 1) := by decide +kernel
theorem dX2_feed_48 : decode cX2_feed 48 = .ok (.getfield 14, 3) := by decide +kernel
theorem dX2_feed_51 : decode cX2_feed 51 = .ok (.iload 5, 2) := by decide +kernel
theorem dX2_feed_53 : decode cX2_feed 53 = .ok (.invokevirtual 40, 3) := by decide +kernel
theorem dX2_feed_56 : decode cX2_feed 56 = .ok (.iconst 1, 1) := by decide +kernel
theorem dX2_feed_57 : decode cX2_feed 57 = .ok (.ireturn, 1) := by decide +kernel
theorem dX2_end_0 : decode cX2_end 0 = .ok (.aload_n 0, 1) := by decide +kernel
theorem dX2_end_1 : decode cX2_end 1 = .ok (.getfield 14, 3) := by decide +kernel
theorem dX2_end_4 : decode cX2_end 4 = .ok (.iload_n 1, 1) := by decide +kernel
theorem dX2_end_5 : decode cX2_end 5 = .ok (.invokevirtual 43, 3) := by decide +kernel
theorem dX2_end_8 : decode cX2_end 8 = .ok (.ireturn, 1) := by decide +kernel
theorem dX2_arrive_0 : decode cX2_arrive 0 = .ok (.aload_n 0, 1) := by decide +kernel
theorem dX2_arrive_1 : decode cX2_arrive 1 = .ok (.getfield 19, 3) := by decide +kernel
theorem dX2_arrive_4 : decode cX2_arrive 4 = .ok (.aload_n 0, 1) := by decide +kernel
theorem dX2_arrive_5 : decode cX2_arrive 5 = .ok (.getfield 14, 3) := by decide +kernel
theorem dX2_arrive_8 : decode cX2_arrive 8 = .ok (.aload_n 0, 1) := by decide +kernel
theorem dX2_arrive_9 : decode cX2_arrive 9 = .ok (.getfield 14, 3) := by decide +kernel
theorem dX2_arrive_12 : decode cX2_arrive 12 = .ok (.invokevirtual 46, 3) := by decide +kernel
theorem dX2_arrive_15 : decode cX2_arrive 15 = .ok (.invokevirtual 50, 3) := by decide +kernel
theorem dX2_arrive_18 : decode cX2_arrive 18 = .ok (.istore_n 1, 1) := by decide +kernel
theorem dX2_arrive_19 : decode cX2_arrive 19 = .ok (.aload_n 0, 1) := by decide +kernel
theorem dX2_arrive_20 : decode cX2_arrive 20 = .ok (.getfield 14, 3) := by decide +kernel
theorem dX2_arrive_23 : decode cX2_arrive 23 = .ok (.invokevirtual 54, 3) := by decide +kernel
theorem dX2_arrive_26 : decode cX2_arrive 26 = .ok (.iload_n 1, 1) := by decide +kernel
theorem dX2_arrive_27 : decode cX2_arrive 27 = .ok (.ifCond .eq 13, 3) := by decide +kernel
theorem dX2_arrive_30 : decode cX2_arrive 30 = .ok (.aload_n 0, 1) := by decide +kernel
theorem dX2_arrive_31 : decode cX2_arrive 31 = .ok (.getfield 19, 3) := by decide +kernel
theorem dX2_arrive_34 : decode cX2_arrive 34 = .ok (.invokevirtual 46, 3) := by decide +kernel
theorem dX2_arrive_37 : decode cX2_arrive 37 = .ok (.goto 4, 3) := by decide +kernel
theorem dX2_arrive_40 : decode cX2_arrive 40 = .ok (.iconst (-1), 1) := by decide +kernel
theorem dX2_arrive_41 : decode cX2_arrive 41 = .ok (.ireturn, 1) := by decide +kernel
theorem dX2_cut_0 : decode cX2_cut 0 = .ok (.aload_n 0, 1) := by decide +kernel
theorem dX2_cut_1 : decode cX2_cut 1 = .ok (.iconst 0, 1) := by decide +kernel
theorem dX2_cut_2 : decode cX2_cut 2 = .ok (.putfield 29, 3) := by decide +kernel
theorem dX2_cut_5 : decode cX2_cut 5 = .ok (.aload_n 0, 1) := by decide +kernel
theorem dX2_cut_6 : decode cX2_cut 6 = .ok (.getfield 25, 3) := by decide +kernel
theorem dX2_cut_9 : decode cX2_cut 9 = .ok (.invokevirtual 57, 3) := by decide +kernel
theorem dX2_cut_12 : decode cX2_cut 12 = .ok (.aload_n 0, 1) := by decide +kernel
theorem dX2_cut_13 : decode cX2_cut 13 = .ok (.getfield 19, 3) := by decide +kernel
theorem dX2_cut_16 : decode cX2_cut 16 = .ok (.iconst 0, 1) := by decide +kernel
theorem dX2_cut_17 : decode cX2_cut 17 = .ok (.invokevirtual 58, 3) := by decide +kernel
theorem dX2_cut_20 : decode cX2_cut 20 = .ok (.bipush 42, 2) := by decide +kernel
theorem dX2_cut_22 : decode cX2_cut 22 = .ok (.if_icmp .ne 10, 3) := by decide +kernel
theorem dX2_cut_25 : decode cX2_cut 25 = .ok (.aload_n 0, 1) := by decide +kernel
theorem dX2_cut_26 : decode cX2_cut 26 = .ok (.invokevirtual 62, 3) := by decide +kernel
theorem dX2_cut_29 : decode cX2_cut 29 = .ok (.goto 7, 3) := by decide +kernel
theorem dX2_cut_32 : decode cX2_cut 32 = .ok (.aload_n 0, 1) := by decide +kernel
theorem dX2_cut_33 : decode cX2_cut 33 = .ok (.invokevirtual 65, 3) := by decide +kernel
theorem dX2_cut_36 : decode cX2_cut 36 = .ok (.istore_n 1, 1) := by decide +kernel
theorem dX2_cut_37 : decode cX2_cut 37 = .ok (.iload_n 1, 1) := by decide +kernel
theorem dX2_cut_38 : decode cX2_cut 38 = .ok (.ifCond .ge 12, 3) := by decide +kernel
theorem dX2_cut_41 : decode cX2_cut 41 = .ok (.aload_n 0, 1) := by decide +kernel
theorem dX2_cut_42 : decode cX2_cut 42 = .ok (.getfield 25, 3) := by decide +kernel
theorem dX2_cut_45 : decode cX2_cut 45 = .ok (.invokevirtual 57, 3) := by decide +kernel
theorem dX2_cut_48 : decode cX2_cut 48 = .ok (.iload_n 1, 1) := by decide +kernel
theorem dX2_cut_49 : decode cX2_cut 49 = .ok (.ireturn, 1) := by decide +kernel
theorem dX2_cut_50 : decode cX2_cut 50 = .ok (.aload_n 0, 1) := by decide +kernel
theorem dX2_cut_51 : decode cX2_cut 51 = .ok (.getfield 25, 3) := by decide +kernel
theorem dX2_cut_54 : decode cX2_cut 54 = .ok (.aload_n 0, 1) := by decide +kernel
theorem dX2_cut_55 : decode cX2_cut 55 = .ok (.getfield 19, 3) := by decide +kernel
theorem dX2_cut_58 : decode cX2_cut 58 = .ok (.iload_n 1, 1) := by decide +kernel
theorem dX2_cut_59 : decode cX2_cut 59 = .ok (.invokevirtual 68, 3) := by decide +kernel
theorem dX2_cut_62 : decode cX2_cut 62 = .ok (.aload_n 0, 1) := by decide +kernel
theorem dX2_cut_63 : decode cX2_cut 63 = .ok (.getfield 19, 3) := by decide +kernel
theorem dX2_cut_66 : decode cX2_cut 66 = .ok (.iload_n 1, 1) := by decide +kernel
theorem dX2_cut_67 : decode cX2_cut 67 = .ok (.invokevirtual 72, 3) := by decide +kernel
theorem dX2_cut_70 : decode cX2_cut 70 = .ok (.pop, 1) := by decide +kernel
theorem dX2_cut_71 : decode cX2_cut 71 = .ok (.aload_n 0, 1) := by decide +kernel
theorem dX2_cut_72 : decode cX2_cut 72 = .ok (.getfield 25, 3) := by decide +kernel
theorem dX2_cut_75 : decode cX2_cut 75 = .ok (.invokevirtual 75, 3) := by decide +kernel
theorem dX2_cut_78 : decode cX2_cut 78 = .ok (.ireturn, 1) := by decide +kernel
theorem dX2_scanCounted_0 : decode cX2_scanCounted 0 = .ok (.aload_n 0, 1) := by decide +kernel
theorem dX2_scanCounted_1 : decode cX2_scanCounted 1 = .ok (.iconst 0, 1) := by decide +kernel
theorem dX2_scanCounted_2 : decode cX2_scanCounted 2 = .ok (.ldc 83, 2) := by decide +kernel
theorem dX2_scanCounted_4 : decode cX2_scanCounted 4 = .ok (.sipush 1024, 3) := by decide +kernel
theorem dX2_scanCounted_7 : decode cX2_scanCounted 7 = .ok (.iconst 1, 1) := by decide +kernel
theorem dX2_scanCounted_8 : decode cX2_scanCounted 8 = .ok (.invokevirtual 84, 3) := by decide +kernel
theorem dX2_scanCounted_11 : decode cX2_scanCounted 11 = .ok (.istore_n 1, 1) := by decide +kernel
theorem dX2_scanCounted_12 : decode cX2_scanCounted 12 = .ok (.aload_n 0, 1) := by decide +kernel
theorem dX2_scanCounted_13 : decode cX2_scanCounted 13 = .ok (.getfield 33, 3) := by decide +kernel
theorem dX2_scanCounted_16 : decode cX2_scanCounted 16 = .ok (.istore_n 2, 1) := by decide +kernel
theorem dX2_scanCounted_17 : decode cX2_scanCounted 17 = .ok (.iconst 0, 1) := by decide +kernel
theorem dX2_scanCounted_18 : decode cX2_scanCounted 18 = .ok (.istore_n 3, 1) := by decide +kernel
theorem dX2_scanCounted_19 : decode cX2_scanCounted 19 = .ok (.iload_n 3, 1) := by decide +kernel
theorem dX2_scanCounted_20 : decode cX2_scanCounted 20 = .ok (.iload_n 2, 1) := by decide +kernel
theorem dX2_scanCounted_21 : decode cX2_scanCounted 21 = .ok (.if_icmp .ge 19, 3) := by decide +kernel
theorem dX2_scanCounted_24 : decode cX2_scanCounted 24 = .ok (.iload_n 1, 1) := by decide +kernel
theorem dX2_scanCounted_25 : decode cX2_scanCounted 25 = .ok (.ifCond .lt 15, 3) := by decide +kernel
theorem dX2_scanCounted_28 : decode cX2_scanCounted 28 = .ok (.aload_n 0, 1) := by decide +kernel
theorem dX2_scanCounted_29 : decode cX2_scanCounted 29 = .ok (.iload_n 1, 1) := by decide +kernel
theorem dX2_scanCounted_30 : decode cX2_scanCounted 30 = .ok (.invokevirtual 88, 3) := by decide +kernel
theorem dX2_scanCounted_33 : decode cX2_scanCounted 33 = .ok (.istore_n 1, 1) := by decide +kernel
theorem dX2_scanCounted_34 : decode cX2_scanCounted 34 = .ok (.iinc 3 1, 3) := by decide +kernel
theorem dX2_scanCounted_37 : decode cX2_scanCounted 37 = .ok (.goto (-18), 3) := by decide +kernel
theorem dX2_scanCounted_40 : decode cX2_scanCounted 40 = .ok (.iload_n 1, 1) := by decide +kernel
theorem dX2_scanCounted_41 : decode cX2_scanCounted 41 = .ok (.ireturn, 1) := by decide +kernel
theorem dX2_scanLine_0 : decode cX2_scanLine 0 = .ok (.aload_n 0, 1) := by decide +kernel
theorem dX2_scanLine_1 : decode cX2_scanLine 1 = .ok (.iload_n 1, 1) := by decide +kernel
theorem dX2_scanLine_2 : decode cX2_scanLine 2 = .ok (.invokevirtual 101, 3) := by decide +kernel
theorem dX2_scanLine_5 : decode cX2_scanLine 5 = .ok (.istore 5, 2) := by decide +kernel
theorem dX2_scanLine_7 : decode cX2_scanLine 7 = .ok (.iload 5, 2) := by decide +kernel
theorem dX2_scanLine_9 : decode cX2_scanLine 9 = .ok (.iconst (-1), 1) := by decide +kernel
theorem dX2_scanLine_10 : decode cX2_scanLine 10 = .ok (.if_icmp .ne 28, 3) := by decide +kernel
theorem dX2_scanLine_13 : decode cX2_scanLine 13 = .ok (.aload_n 0, 1) := by decide +kernel
theorem dX2_scanLine_14 : decode cX2_scanLine 14 = .ok (.getfield 19, 3) := by decide +kernel
theorem dX2_scanLine_17 : decode cX2_scanLine 17 = .ok (.invokevirtual 46, 3) := by decide +kernel
theorem dX2_scanLine_20 : decode cX2_scanLine 20 = .ok (.iload_n 1, 1) := by decide +kernel
theorem dX2_scanLine_21 : decode cX2_scanLine 21 = .ok (.isub, 1) := by decide +kernel
theorem dX2_scanLine_22 : decode cX2_scanLine 22 = .ok (.bipush 16, 2) := by decide +kernel
theorem dX2_scanLine_24 : decode cX2_scanLine 24 = .ok (.if_icmp .lt 12, 3) := by decide +kernel
theorem dX2_scanLine_27 : decode cX2_scanLine 27 = .ok (.aload_n 0, 1) := by decide +kernel
theorem dX2_scanLine_28 : decode cX2_scanLine 28 = .ok (.iload 4, 2) := by decide +kernel
theorem dX2_scanLine_30 : decode cX2_scanLine 30 = .ok (.invokevirtual 91, 3) := by decide +kernel
theorem dX2_scanLine_33 : decode cX2_scanLine 33 = .ok (.goto 4, 3) := by decide +kernel
theorem dX2_scanLine_36 : decode cX2_scanLine 36 = .ok (.iconst (-1), 1) := by decide +kernel
theorem dX2_scanLine_37 : decode cX2_scanLine 37 = .ok (.ireturn, 1) := by decide +kernel
theorem dX2_scanLine_38 : decode cX2_scanLine 38 = .ok (.aload_n 0, 1) := by decide +kernel
theorem dX2_scanLine_39 : decode cX2_scanLine 39 = .ok (.iload_n 1, 1) := by decide +kernel
theorem dX2_scanLine_40 : decode cX2_scanLine 40 = .ok (.iconst 1, 1) := by decide +kernel
theorem dX2_scanLine_41 : decode cX2_scanLine 41 = .ok (.iadd, 1) := by decide +kernel
theorem dX2_scanLine_42 : decode cX2_scanLine 42 = .ok (.iload 5, 2) := by decide +kernel
theorem dX2_scanLine_44 : decode cX2_scanLine 44 = .ok (.invokevirtual 104, 3) := by decide +kernel
theorem dX2_scanLine_47 : decode cX2_scanLine 47 = .ok (.ifCond .eq 19, 3) := by decide +kernel
theorem dX2_scanLine_50 : decode cX2_scanLine 50 = .ok (.aload_n 0, 1) := by decide +kernel
theorem dX2_scanLine_51 : decode cX2_scanLine 51 = .ok (.getfield 33, 3) := by decide +kernel
theorem dX2_scanLine_54 : decode cX2_scanLine 54 = .ok (.iload_n 2, 1) := by decide +kernel
theorem dX2_scanLine_55 : decode cX2_scanLine 55 = .ok (.if_icmp .lt 11, 3) := by decide +kernel
theorem dX2_scanLine_58 : decode cX2_scanLine 58 = .ok (.aload_n 0, 1) := by decide +kernel
theorem dX2_scanLine_59 : decode cX2_scanLine 59 = .ok (.getfield 33, 3) := by decide +kernel
theorem dX2_scanLine_62 : decode cX2_scanLine 62 = .ok (.iload_n 3, 1) := by decide +kernel
theorem dX2_scanLine_63 : decode cX2_scanLine 63 = .ok (.if_icmp .le 10, 3) := by decide +kernel
theorem dX2_scanLine_66 : decode cX2_scanLine 66 = .ok (.aload_n 0, 1) := by decide +kernel
theorem dX2_scanLine_67 : decode cX2_scanLine 67 = .ok (.iload 4, 2) := by decide +kernel
theorem dX2_scanLine_69 : decode cX2_scanLine 69 = .ok (.invokevirtual 91, 3) := by decide +kernel
theorem dX2_scanLine_72 : decode cX2_scanLine 72 = .ok (.ireturn, 1) := by decide +kernel
theorem dX2_scanLine_73 : decode cX2_scanLine 73 = .ok (.iload 5, 2) := by decide +kernel
theorem dX2_scanLine_75 : decode cX2_scanLine 75 = .ok (.iconst 2, 1) := by decide +kernel
theorem dX2_scanLine_76 : decode cX2_scanLine 76 = .ok (.iadd, 1) := by decide +kernel
theorem dX2_scanLine_77 : decode cX2_scanLine 77 = .ok (.ireturn, 1) := by decide +kernel
theorem dX2_findLineStop_0 : decode cX2_findLineStop 0 = .ok (.iload_n 1, 1) := by decide +kernel
theorem dX2_findLineStop_1 : decode cX2_findLineStop 1 = .ok (.iconst 1, 1) := by decide +kernel
theorem dX2_findLineStop_2 : decode cX2_findLineStop 2 = .ok (.iadd, 1) := by decide +kernel
theorem dX2_findLineStop_3 : decode cX2_findLineStop 3 = .ok (.istore_n 2, 1) := by decide +kernel
theorem dX2_findLineStop_4 : decode cX2_findLineStop 4 = .ok (.iload_n 2, 1) := by decide +kernel
theorem dX2_findLineStop_5 : decode cX2_findLineStop 5 = .ok (.iload_n 1, 1) := by decide +kernel
theorem dX2_findLineStop_6 : decode cX2_findLineStop 6 = .ok (.bipush 16, 2) := by decide +kernel
theorem dX2_findLineStop_8 : decode cX2_findLineStop 8 = .ok (.iadd, 1) := by decide +kernel
theorem dX2_findLineStop_9 : decode cX2_findLineStop 9 = .ok (.iconst 1, 1) := by decide +kernel
theorem dX2_findLineStop_10 : decode cX2_findLineStop 10 = .ok (.isub, 1) := by decide +kernel
theorem dX2_findLineStop_11 : decode cX2_findLineStop 11 = .ok (.if_icmp .ge 39, 3) := by decide +kernel
theorem dX2_findLineStop_14 : decode cX2_findLineStop 14 = .ok (.aload_n 0, 1) := by decide +kernel
theorem dX2_findLineStop_15 : decode cX2_findLineStop 15 = .ok (.getfield 19, 3) := by decide +kernel
theorem dX2_findLineStop_18 : decode cX2_findLineStop 18 = .ok (.iload_n 2, 1) := by decide +kernel
theorem dX2_findLineStop_19 : decode cX2_findLineStop 19 = .ok (.invokevirtual 58, 3) := by decide +kernel
theorem dX2_findLineStop_22 : decode cX2_findLineStop 22 = .ok (.bipush 13, 2) := by decide +kernel
theorem dX2_findLineStop_24 : decode cX2_findLineStop 24 = .ok (.if_icmp .ne 20, 3) := by decide +kernel
theorem dX2_findLineStop_27 : decode cX2_findLineStop 27 = .ok (.aload_n 0, 1) := by decide +kernel
theorem dX2_findLineStop_28 : decode cX2_findLineStop 28 = .ok (.getfield 19, 3) := by decide +kernel
theorem dX2_findLineStop_31 : decode cX2_findLineStop 31 = .ok (.iload_n 2, 1) := by decide +kernel
theorem dX2_findLineStop_32 : decode cX2_findLineStop 32 = .ok (.iconst 1, 1) := by decide +kernel
theorem dX2_findLineStop_33 : decode cX2_findLineStop 33 = .ok (.iadd, 1) := by decide +kernel
theorem dX2_findLineStop_34 : decode cX2_findLineStop 34 = .ok (.invokevirtual 58, 3) := by decide +kernel
theorem dX2_findLineStop_37 : decode cX2_findLineStop 37 = .ok (.bipush 10, 2) := by decide +kernel
theorem dX2_findLineStop_39 : decode cX2_findLineStop 39 = .ok (.if_icmp .ne 5, 3) := by decide +kernel
theorem dX2_findLineStop_42 : decode cX2_findLineStop 42 = .ok (.iload_n 2, 1) := by decide +kernel
theorem dX2_findLineStop_43 : decode cX2_findLineStop 43 = .ok (.ireturn, 1) := by decide +kernel
theorem dX2_findLineStop_44 : decode cX2_findLineStop 44 = .ok (.iinc 2 1, 3) := by decide +kernel
theorem dX2_findLineStop_47 : decode cX2_findLineStop 47 = .ok (.goto (-43), 3) := by decide +kernel
theorem dX2_findLineStop_50 : decode cX2_findLineStop 50 = .ok (.iconst (-1), 1) := by decide +kernel
theorem dX2_findLineStop_51 : decode cX2_findLineStop 51 = .ok (.ireturn, 1) := by decide +kernel
theorem dX2_tell_0 : decode cX2_tell 0 = .ok (.aload_n 0, 1) := by decide +kernel
theorem dX2_tell_1 : decode cX2_tell 1 = .ok (.iload_n 1, 1) := by decide +kernel
theorem dX2_tell_2 : decode cX2_tell 2 = .ok (.putfield 29, 3) := by decide +kernel
theorem dX2_tell_5 : decode cX2_tell 5 = .ok (.bipush (-2), 2) := by decide +kernel
theorem dX2_tell_7 : decode cX2_tell 7 = .ok (.ireturn, 1) := by decide +kernel
theorem dX2_readNumber_0 : decode cX2_readNumber 0 = .ok (.aload_n 0, 1) := by decide +kernel
theorem dX2_readNumber_1 : decode cX2_readNumber 1 = .ok (.getfield 19, 3) := by decide +kernel
theorem dX2_readNumber_4 : decode cX2_readNumber 4 = .ok (.iload_n 1, 1) := by decide +kernel
theorem dX2_readNumber_5 : decode cX2_readNumber 5 = .ok (.invokevirtual 58, 3) := by decide +kernel
theorem dX2_readNumber_8 : decode cX2_readNumber 8 = .ok (.bipush 45, 2) := by decide +kernel
theorem dX2_readNumber_10 : decode cX2_readNumber 10 = .ok (.if_icmp .ne 7, 3) := by decide +kernel
theorem dX2_readNumber_13 : decode cX2_readNumber 13 = .ok (.iconst 1, 1) := by decide +kernel
theorem dX2_readNumber_14 : decode cX2_readNumber 14 = .ok (.goto 4, 3) := by decide +kernel
theorem dX2_readNumber_17 : decode cX2_readNumber 17 = .ok (.iconst 0, 1) := by decide +kernel
theorem dX2_readNumber_18 : decode cX2_readNumber 18 = .ok (.istore_n 3, 1) := by decide +kernel
theorem dX2_readNumber_19 : decode cX2_readNumber 19 = .ok (.iload_n 3, 1) := by decide +kernel
theorem dX2_readNumber_20 : decode cX2_readNumber 20 = .ok (.ifCond .eq 9, 3) := by decide +kernel
theorem dX2_readNumber_23 : decode cX2_readNumber 23 = .ok (.iload_n 1, 1) := by decide +kernel
theorem dX2_readNumber_24 : decode cX2_readNumber 24 = .ok (.iconst 1, 1) := by decide +kernel
theorem dX2_readNumber_25 : decode cX2_readNumber 25 = .ok (.iadd, 1) := by decide +kernel
theorem dX2_readNumber_26 : decode cX2_readNumber 26 = .ok (.goto 4, 3) := by decide +kernel
theorem dX2_readNumber_29 : decode cX2_readNumber 29 = .ok (.iload_n 1, 1) := by decide +kernel
theorem dX2_readNumber_30 : decode cX2_readNumber 30 = .ok (.istore 4, 2) := by decide +kernel
theorem dX2_readNumber_32 : decode cX2_readNumber 32 = .ok (.iload_n 2, 1) := by decide +kernel
theorem dX2_readNumber_33 : decode cX2_readNumber 33 = .ok (.iload 4, 2) := by decide +kernel
theorem dX2_readNumber_35 : decode cX2_readNumber 35 = .ok (.if_icmp .le 12, 3) := by decide +kernel
theorem dX2_readNumber_38 : decode cX2_readNumber 38 = .ok (.iload_n 2, 1) := by decide +kernel
theorem dX2_readNumber_39 : decode cX2_readNumber 39 = .ok (.iload 4, 2) := by decide +kernel
theorem dX2_readNumber_41 : decode cX2_readNumber 41 = .ok (.isub, 1) := by decide +kernel
theorem dX2_readNumber_42 : decode cX2_readNumber 42 = .ok (.bipush 6, 2) := by decide +kernel
theorem dX2_readNumber_44 : decode cX2_readNumber 44 = .ok (.if_icmp .le 5, 3) := by decide +kernel
theorem dX2_readNumber_47 : decode cX2_readNumber 47 = .ok (.iconst 0, 1) := by decide +kernel
theorem dX2_readNumber_48 : decode cX2_readNumber 48 = .ok (.ireturn, 1) := by decide +kernel
theorem dX2_readNumber_49 : decode cX2_readNumber 49 = .ok (.iconst 0, 1) := by decide +kernel
theorem dX2_readNumber_50 : decode cX2_readNumber 50 = .ok (.istore 5, 2) := by decide +kernel
theorem dX2_readNumber_52 : decode cX2_readNumber 52 = .ok (.iload 4, 2) := by decide +kernel
theorem dX2_readNumber_54 : decode cX2_readNumber 54 = .ok (.istore 6, 2) := by decide +kernel
theorem dX2_readNumber_56 : decode cX2_readNumber 56 = .ok (.iload 6, 2) := by decide +kernel
theorem dX2_readNumber_58 : decode cX2_readNumber 58 = .ok (.iload_n 2, 1) := by decide +kernel
theorem dX2_readNumber_59 : decode cX2_readNumber 59 = .ok (.if_icmp .ge 49, 3) := by decide +kernel
theorem dX2_readNumber_62 : decode cX2_readNumber 62 = .ok (.aload_n 0, 1) := by decide +kernel
theorem dX2_readNumber_63 : decode cX2_readNumber 63 = .ok (.getfield 19, 3) := by decide +kernel
theorem dX2_readNumber_66 : decode cX2_readNumber 66 = .ok (.iload 6, 2) := by decide +kernel
theorem dX2_readNumber_68 : decode cX2_readNumber 68 = .ok (.invokevirtual 58, 3) := by decide +kernel
theorem dX2_readNumber_71 : decode cX2_readNumber 71 = .ok (.istore 7, 2) := by decide +kernel
theorem dX2_readNumber_73 : decode cX2_readNumber 73 = .ok (.iload 7, 2) := by decide +kernel
theorem dX2_readNumber_75 : decode cX2_readNumber 75 = .ok (.bipush 48, 2) := by decide +kernel
theorem dX2_readNumber_77 : decode cX2_readNumber 77 = .ok (.if_icmp .lt 10, 3) := by decide +kernel
theorem dX2_readNumber_80 : decode cX2_readNumber 80 = .ok (.iload 7, 2) := by decide +kernel
theorem dX2_readNumber_82 : decode cX2_readNumber 82 = .ok (.bipush 57, 2) := by decide +kernel
theorem dX2_readNumber_84 : decode cX2_readNumber 84 = .ok (.if_icmp .le 5, 3) := by decide +kernel
theorem dX2_readNumber_87 : decode cX2_readNumber 87 = .ok (.iconst 0, 1) := by decide +kernel
theorem dX2_readNumber_88 : decode cX2_readNumber 88 = .ok (.ireturn, 1) := by decide +kernel
theorem dX2_readNumber_89 : decode cX2_readNumber 89 = .ok (.iload 5, 2) := by decide +kernel
theorem dX2_readNumber_91 : decode cX2_readNumber 91 = .ok (.bipush 10, 2) := by decide +kernel
theorem dX2_readNumber_93 : decode cX2_readNumber 93 = .ok (.imul, 1) := by decide +kernel
theorem dX2_readNumber_94 : decode cX2_readNumber 94 = .ok (.iload 7, 2) := by decide +kernel
theorem dX2_readNumber_96 : decode cX2_readNumber 96 = .ok (.bipush 48, 2) := by decide +kernel
theorem dX2_readNumber_98 : decode cX2_readNumber 98 = .ok (.isub, 1) := by decide +kernel
theorem dX2_readNumber_99 : decode cX2_readNumber 99 = .ok (.iadd, 1) := by decide +kernel
theorem dX2_readNumber_100 : decode cX2_readNumber 100 = .ok (.istore 5, 2) := by decide +kernel
theorem dX2_readNumber_102 : decode cX2_readNumber 102 = .ok (.iinc 6 1, 3) := by decide +kernel
theorem dX2_readNumber_105 : decode cX2_readNumber 105 = .ok (.goto (-49), 3) := by decide +kernel
theorem dX2_readNumber_108 : decode cX2_readNumber 108 = .ok (.aload_n 0, 1) := by decide +kernel
theorem dX2_readNumber_109 : decode cX2_readNumber 109 = .ok (.iload_n 3, 1) := by decide +kernel
theorem dX2_readNumber_110 : decode cX2_readNumber 110 = .ok (.ifCond .eq 9, 3) := by decide +kernel
theorem dX2_readNumber_113 : decode cX2_readNumber 113 = .ok (.iload 5, 2) := by decide +kernel
theorem dX2_readNumber_115 : decode cX2_readNumber 115 = .ok (.ineg, 1) := by decide +kernel
theorem dX2_readNumber_116 : decode cX2_readNumber 116 = .ok (.goto 5, 3) := by decide +kernel
theorem dX2_readNumber_119 : decode cX2_readNumber 119 = .ok (.iload 5, 2) := by decide +kernel
theorem dX2_readNumber_121 : decode cX2_readNumber 121 = .ok (.putfield 33, 3) := by decide +kernel
theorem dX2_readNumber_124 : decode cX2_readNumber 124 = .ok (.iconst 1, 1) := by decide +kernel
theorem dX2_readNumber_125 : decode cX2_readNumber 125 = .ok (.ireturn, 1) := by decide +kernel
theorem dX2_scanWord_0 : decode cX2_scanWord 0 = .ok (.aload_n 0, 1) := by decide +kernel
theorem dX2_scanWord_1 : decode cX2_scanWord 1 = .ok (.getfield 19, 3) := by decide +kernel
theorem dX2_scanWord_4 : decode cX2_scanWord 4 = .ok (.iload_n 1, 1) := by decide +kernel
theorem dX2_scanWord_5 : decode cX2_scanWord 5 = .ok (.invokevirtual 58, 3) := by decide +kernel
theorem dX2_scanWord_8 : decode cX2_scanWord 8 = .ok (.istore_n 2, 1) := by decide +kernel
theorem dX2_scanWord_9 : decode cX2_scanWord 9 = .ok (.iload_n 2, 1) := by decide +kernel
theorem dX2_scanWord_10 : decode cX2_scanWord 10 = .ok (.iconst (-1), 1) := by decide +kernel
theorem dX2_scanWord_11 : decode cX2_scanWord 11 = .ok (.if_icmp .ne 5, 3) := by decide +kernel
theorem dX2_scanWord_14 : decode cX2_scanWord 14 = .ok (.iconst (-1), 1) := by decide +kernel
theorem dX2_scanWord_15 : decode cX2_scanWord 15 = .ok (.ireturn, 1) := by decide +kernel
theorem dX2_scanWord_16 : decode cX2_scanWord 16 = .ok (.iload_n 2, 1) := by decide +kernel
theorem dX2_scanWord_17 : decode cX2_scanWord 17 = .ok (.bipush 36, 2) := by decide +kernel
theorem dX2_scanWord_19 : decode cX2_scanWord 19 = .ok (.if_icmp .eq 9, 3) := by decide +kernel
theorem dX2_scanWord_22 : decode cX2_scanWord 22 = .ok (.aload_n 0, 1) := by decide +kernel
theorem dX2_scanWord_23 : decode cX2_scanWord 23 = .ok (.iconst 2, 1) := by decide +kernel
theorem dX2_scanWord_24 : decode cX2_scanWord 24 = .ok (.invokevirtual 91, 3) := by decide +kernel
theorem dX2_scanWord_27 : decode cX2_scanWord 27 = .ok (.ireturn, 1) := by decide +kernel
theorem dX2_scanWord_28 : decode cX2_scanWord 28 = .ok (.aload_n 0, 1) := by decide +kernel
theorem dX2_scanWord_29 : decode cX2_scanWord 29 = .ok (.iload_n 1, 1) := by decide +kernel
theorem dX2_scanWord_30 : decode cX2_scanWord 30 = .ok (.iconst 0, 1) := by decide +kernel
theorem dX2_scanWord_31 : decode cX2_scanWord 31 = .ok (.sipush 16384, 3) := by decide +kernel
theorem dX2_scanWord_34 : decode cX2_scanWord 34 = .ok (.iconst 3, 1) := by decide +kernel
theorem dX2_scanWord_35 : decode cX2_scanWord 35 = .ok (.invokevirtual 84, 3) := by decide +kernel
theorem dX2_scanWord_38 : decode cX2_scanWord 38 = .ok (.istore_n 3, 1) := by decide +kernel
theorem dX2_scanWord_39 : decode cX2_scanWord 39 = .ok (.iload_n 3, 1) := by decide +kernel
theorem dX2_scanWord_40 : decode cX2_scanWord 40 = .ok (.ifCond .ge 5, 3) := by decide +kernel
theorem dX2_scanWord_43 : decode cX2_scanWord 43 = .ok (.iload_n 3, 1) := by decide +kernel
theorem dX2_scanWord_44 : decode cX2_scanWord 44 = .ok (.ireturn, 1) := by decide +kernel
theorem dX2_scanWord_45 : decode cX2_scanWord 45 = .ok (.aload_n 0, 1) := by decide +kernel
theorem dX2_scanWord_46 : decode cX2_scanWord 46 = .ok (.getfield 25, 3) := by decide +kernel
theorem dX2_scanWord_49 : decode cX2_scanWord 49 = .ok (.iload_n 3, 1) := by decide +kernel
theorem dX2_scanWord_50 : decode cX2_scanWord 50 = .ok (.aload_n 0, 1) := by decide +kernel
theorem dX2_scanWord_51 : decode cX2_scanWord 51 = .ok (.getfield 33, 3) := by decide +kernel
theorem dX2_scanWord_54 : decode cX2_scanWord 54 = .ok (.invokevirtual 94, 3) := by decide +kernel
theorem dX2_scanWord_57 : decode cX2_scanWord 57 = .ok (.aload_n 0, 1) := by decide +kernel
theorem dX2_scanWord_58 : decode cX2_scanWord 58 = .ok (.iload_n 3, 1) := by decide +kernel
theorem dX2_scanWord_59 : decode cX2_scanWord 59 = .ok (.aload_n 0, 1) := by decide +kernel
theorem dX2_scanWord_60 : decode cX2_scanWord 60 = .ok (.getfield 33, 3) := by decide +kernel
theorem dX2_scanWord_63 : decode cX2_scanWord 63 = .ok (.iadd, 1) := by decide +kernel
theorem dX2_scanWord_64 : decode cX2_scanWord 64 = .ok (.invokevirtual 98, 3) := by decide +kernel
theorem dX2_scanWord_67 : decode cX2_scanWord 67 = .ok (.ireturn, 1) := by decide +kernel
theorem dX2_scanWordEnd_0 : decode cX2_scanWordEnd 0 = .ok (.aload_n 0, 1) := by decide +kernel
theorem dX2_scanWordEnd_1 : decode cX2_scanWordEnd 1 = .ok (.getfield 19, 3) := by decide +kernel
theorem dX2_scanWordEnd_4 : decode cX2_scanWordEnd 4 = .ok (.iload_n 1, 1) := by decide +kernel
theorem dX2_scanWordEnd_5 : decode cX2_scanWordEnd 5 = .ok (.invokevirtual 58, 3) := by decide +kernel
theorem dX2_scanWordEnd_8 : decode cX2_scanWordEnd 8 = .ok (.istore_n 2, 1) := by decide +kernel
theorem dX2_scanWordEnd_9 : decode cX2_scanWordEnd 9 = .ok (.aload_n 0, 1) := by decide +kernel
theorem dX2_scanWordEnd_10 : decode cX2_scanWordEnd 10 = .ok (.getfield 19, 3) := by decide +kernel
theorem dX2_scanWordEnd_13 : decode cX2_scanWordEnd 13 = .ok (.iload_n 1, 1) := by decide +kernel
theorem dX2_scanWordEnd_14 : decode cX2_scanWordEnd 14 = .ok (.iconst 1, 1) := by decide +kernel
theorem dX2_scanWordEnd_15 : decode cX2_scanWordEnd 15 = .ok (.iadd, 1) := by decide +kernel
theorem dX2_scanWordEnd_16 : decode cX2_scanWordEnd 16 = .ok (.invokevirtual 58, 3) := by decide +kernel
theorem dX2_scanWordEnd_19 : decode cX2_scanWordEnd 19 = .ok (.istore_n 3, 1) := by decide +kernel
theorem dX2_scanWordEnd_20 : decode cX2_scanWordEnd 20 = .ok (.iload_n 2, 1) := by decide +kernel
theorem dX2_scanWordEnd_21 : decode cX2_scanWordEnd 21 = .ok (.iconst (-1), 1) := by decide +kernel
theorem dX2_scanWordEnd_22 : decode cX2_scanWordEnd 22 = .ok (.if_icmp .ne 5, 3) := by decide +kernel
theorem dX2_scanWordEnd_25 : decode cX2_scanWordEnd 25 = .ok (.iconst (-1), 1) := by decide +kernel
theorem dX2_scanWordEnd_26 : decode cX2_scanWordEnd 26 = .ok (.ireturn, 1) := by decide +kernel
theorem dX2_scanWordEnd_27 : decode cX2_scanWordEnd 27 = .ok (.iload_n 2, 1) := by decide +kernel
theorem dX2_scanWordEnd_28 : decode cX2_scanWordEnd 28 = .ok (.bipush 13, 2) := by decide +kernel
theorem dX2_scanWordEnd_30 : decode cX2_scanWordEnd 30 = .ok (.if_icmp .eq 9, 3) := by decide +kernel
theorem dX2_scanWordEnd_33 : decode cX2_scanWordEnd 33 = .ok (.aload_n 0, 1) := by decide +kernel
theorem dX2_scanWordEnd_34 : decode cX2_scanWordEnd 34 = .ok (.iconst 4, 1) := by decide +kernel
theorem dX2_scanWordEnd_35 : decode cX2_scanWordEnd 35 = .ok (.invokevirtual 91, 3) := by decide +kernel
theorem dX2_scanWordEnd_38 : decode cX2_scanWordEnd 38 = .ok (.ireturn, 1) := by decide +kernel
theorem dX2_scanWordEnd_39 : decode cX2_scanWordEnd 39 = .ok (.iload_n 3, 1) := by decide +kernel
theorem dX2_scanWordEnd_40 : decode cX2_scanWordEnd 40 = .ok (.iconst (-1), 1) := by decide +kernel
theorem dX2_scanWordEnd_41 : decode cX2_scanWordEnd 41 = .ok (.if_icmp .ne 5, 3) := by decide +kernel
theorem dX2_scanWordEnd_44 : decode cX2_scanWordEnd 44 = .ok (.iconst (-1), 1) := by decide +kernel
theorem dX2_scanWordEnd_45 : decode cX2_scanWordEnd 45 = .ok (.ireturn, 1) := by decide +kernel
theorem dX2_scanWordEnd_46 : decode cX2_scanWordEnd 46 = .ok (.iload_n 3, 1) := by decide +kernel
theorem dX2_scanWordEnd_47 : decode cX2_scanWordEnd 47 = .ok (.bipush 10, 2) := by decide +kernel
theorem dX2_scanWordEnd_49 : decode cX2_scanWordEnd 49 = .ok (.if_icmp .ne 9, 3) := by decide +kernel
theorem dX2_scanWordEnd_52 : decode cX2_scanWordEnd 52 = .ok (.iload_n 1, 1) := by decide +kernel
theorem dX2_scanWordEnd_53 : decode cX2_scanWordEnd 53 = .ok (.iconst 2, 1) := by decide +kernel
theorem dX2_scanWordEnd_54 : decode cX2_scanWordEnd 54 = .ok (.iadd, 1) := by decide +kernel
theorem dX2_scanWordEnd_55 : decode cX2_scanWordEnd 55 = .ok (.goto 8, 3) := by decide +kernel
theorem dX2_scanWordEnd_58 : decode cX2_scanWordEnd 58 = .ok (.aload_n 0, 1) := by decide +kernel
theorem dX2_scanWordEnd_59 : decode cX2_scanWordEnd 59 = .ok (.iconst 4, 1) := by decide +kernel
theorem dX2_scanWordEnd_60 : decode cX2_scanWordEnd 60 = .ok (.invokevirtual 91, 3) := by decide +kernel
theorem dX2_scanWordEnd_63 : decode cX2_scanWordEnd 63 = .ok (.ireturn, 1) := by decide +kernel
theorem dX2_scanPlain_0 : decode cX2_scanPlain 0 = .ok (.aload_n 0, 1) := by decide +kernel
theorem dX2_scanPlain_1 : decode cX2_scanPlain 1 = .ok (.invokevirtual 108, 3) := by decide +kernel
theorem dX2_scanPlain_4 : decode cX2_scanPlain 4 = .ok (.istore_n 1, 1) := by decide +kernel
theorem dX2_scanPlain_5 : decode cX2_scanPlain 5 = .ok (.iload_n 1, 1) := by decide +kernel
theorem dX2_scanPlain_6 : decode cX2_scanPlain 6 = .ok (.iconst (-1), 1) := by decide +kernel
theorem dX2_scanPlain_7 : decode cX2_scanPlain 7 = .ok (.if_icmp .ne 26, 3) := by decide +kernel
theorem dX2_scanPlain_10 : decode cX2_scanPlain 10 = .ok (.aload_n 0, 1) := by decide +kernel
theorem dX2_scanPlain_11 : decode cX2_scanPlain 11 = .ok (.getfield 19, 3) := by decide +kernel
theorem dX2_scanPlain_14 : decode cX2_scanPlain 14 = .ok (.invokevirtual 46, 3) := by decide +kernel
theorem dX2_scanPlain_17 : decode cX2_scanPlain 17 = .ok (.sipush 2048, 3) := by decide +kernel
theorem dX2_scanPlain_20 : decode cX2_scanPlain 20 = .ok (.if_icmp .lt 11, 3) := by decide +kernel
theorem dX2_scanPlain_23 : decode cX2_scanPlain 23 = .ok (.aload_n 0, 1) := by decide +kernel
theorem dX2_scanPlain_24 : decode cX2_scanPlain 24 = .ok (.iconst 5, 1) := by decide +kernel
theorem dX2_scanPlain_25 : decode cX2_scanPlain 25 = .ok (.invokevirtual 91, 3) := by decide +kernel
theorem dX2_scanPlain_28 : decode cX2_scanPlain 28 = .ok (.goto 4, 3) := by decide +kernel
theorem dX2_scanPlain_31 : decode cX2_scanPlain 31 = .ok (.iconst (-1), 1) := by decide +kernel
theorem dX2_scanPlain_32 : decode cX2_scanPlain 32 = .ok (.ireturn, 1) := by decide +kernel
theorem dX2_scanPlain_33 : decode cX2_scanPlain 33 = .ok (.aload_n 0, 1) := by decide +kernel
theorem dX2_scanPlain_34 : decode cX2_scanPlain 34 = .ok (.getfield 19, 3) := by decide +kernel
theorem dX2_scanPlain_37 : decode cX2_scanPlain 37 = .ok (.iload_n 1, 1) := by decide +kernel
theorem dX2_scanPlain_38 : decode cX2_scanPlain 38 = .ok (.iconst 1, 1) := by decide +kernel
theorem dX2_scanPlain_39 : decode cX2_scanPlain 39 = .ok (.isub, 1) := by decide +kernel
theorem dX2_scanPlain_40 : decode cX2_scanPlain 40 = .ok (.invokevirtual 58, 3) := by decide +kernel
theorem dX2_scanPlain_43 : decode cX2_scanPlain 43 = .ok (.bipush 13, 2) := by decide +kernel
theorem dX2_scanPlain_45 : decode cX2_scanPlain 45 = .ok (.if_icmp .ne 7, 3) := by decide +kernel
theorem dX2_scanPlain_48 : decode cX2_scanPlain 48 = .ok (.iconst 1, 1) := by decide +kernel
theorem dX2_scanPlain_49 : decode cX2_scanPlain 49 = .ok (.goto 4, 3) := by decide +kernel
theorem dX2_scanPlain_52 : decode cX2_scanPlain 52 = .ok (.iconst 0, 1) := by decide +kernel
theorem dX2_scanPlain_53 : decode cX2_scanPlain 53 = .ok (.istore_n 2, 1) := by decide +kernel
theorem dX2_scanPlain_54 : decode cX2_scanPlain 54 = .ok (.aload_n 0, 1) := by decide +kernel
theorem dX2_scanPlain_55 : decode cX2_scanPlain 55 = .ok (.iload_n 2, 1) := by decide +kernel
theorem dX2_scanPlain_56 : decode cX2_scanPlain 56 = .ok (.ifCond .eq 9, 3) := by decide +kernel
theorem dX2_scanPlain_59 : decode cX2_scanPlain 59 = .ok (.iload_n 1, 1) := by decide +kernel
theorem dX2_scanPlain_60 : decode cX2_scanPlain 60 = .ok (.iconst 1, 1) := by decide +kernel
theorem dX2_scanPlain_61 : decode cX2_scanPlain 61 = .ok (.isub, 1) := by decide +kernel
theorem dX2_scanPlain_62 : decode cX2_scanPlain 62 = .ok (.goto 4, 3) := by decide +kernel
theorem dX2_scanPlain_65 : decode cX2_scanPlain 65 = .ok (.iload_n 1, 1) := by decide +kernel
theorem dX2_scanPlain_66 : decode cX2_scanPlain 66 = .ok (.invokevirtual 111, 3) := by decide +kernel
theorem dX2_scanPlain_69 : decode cX2_scanPlain 69 = .ok (.iload_n 1, 1) := by decide +kernel
theorem dX2_scanPlain_70 : decode cX2_scanPlain 70 = .ok (.iconst 1, 1) := by decide +kernel
theorem dX2_scanPlain_71 : decode cX2_scanPlain 71 = .ok (.iadd, 1) := by decide +kernel
theorem dX2_scanPlain_72 : decode cX2_scanPlain 72 = .ok (.ireturn, 1) := by decide +kernel
theorem dX2_findLineFeed_0 : decode cX2_findLineFeed 0 = .ok (.aload_n 0, 1) := by decide +kernel
theorem dX2_findLineFeed_1 : decode cX2_findLineFeed 1 = .ok (.getfield 19, 3) := by decide +kernel
theorem dX2_findLineFeed_4 : decode cX2_findLineFeed 4 = .ok (.invokevirtual 46, 3) := by decide +kernel
theorem dX2_findLineFeed_7 : decode cX2_findLineFeed 7 = .ok (.sipush 2048, 3) := by decide +kernel
theorem dX2_findLineFeed_10 : decode cX2_findLineFeed 10 = .ok (.invokestatic 114, 3) := by decide +kernel
theorem dX2_findLineFeed_13 : decode cX2_findLineFeed 13 = .ok (.istore_n 1, 1) := by decide +kernel
theorem dX2_findLineFeed_14 : decode cX2_findLineFeed 14 = .ok (.iconst 0, 1) := by decide +kernel
theorem dX2_findLineFeed_15 : decode cX2_findLineFeed 15 = .ok (.istore_n 2, 1) := by decide +kernel
theorem dX2_findLineFeed_16 : decode cX2_findLineFeed 16 = .ok (.iload_n 2, 1) := by decide +kernel
theorem dX2_findLineFeed_17 : decode cX2_findLineFeed 17 = .ok (.iload_n 1, 1) := by decide +kernel
theorem dX2_findLineFeed_18 : decode cX2_findLineFeed 18 = .ok (.if_icmp .ge 24, 3) := by decide +kernel
theorem dX2_findLineFeed_21 : decode cX2_findLineFeed 21 = .ok (.aload_n 0, 1) := by decide +kernel
theorem dX2_findLineFeed_22 : decode cX2_findLineFeed 22 = .ok (.getfield 19, 3) := by decide +kernel
theorem dX2_findLineFeed_25 : decode cX2_findLineFeed 25 = .ok (.iload_n 2, 1) := by decide +kernel
theorem dX2_findLineFeed_26 : decode cX2_findLineFeed 26 = .ok (.invokevirtual 58, 3) := by decide +kernel
theorem dX2_findLineFeed_29 : decode cX2_findLineFeed 29 = .ok (.bipush 10, 2) := by decide +kernel
theorem dX2_findLineFeed_31 : decode cX2_findLineFeed 31 = .ok (.if_icmp .ne 5, 3) := by decide +kernel
theorem dX2_findLineFeed_34 : decode cX2_findLineFeed 34 = .ok (.iload_n 2, 1) := by decide +kernel
theorem dX2_findLineFeed_35 : decode cX2_findLineFeed 35 = .ok (.ireturn, 1) := by decide +kernel
theorem dX2_findLineFeed_36 : decode cX2_findLineFeed 36 = .ok (.iinc 2 1, 3) := by decide +kernel
theorem dX2_findLineFeed_39 : decode cX2_findLineFeed 39 = .ok (.goto (-23), 3) := by decide +kernel
theorem dX2_findLineFeed_42 : decode cX2_findLineFeed 42 = .ok (.iconst (-1), 1) := by decide +kernel
theorem dX2_findLineFeed_43 : decode cX2_findLineFeed 43 = .ok (.ireturn, 1) := by decide +kernel
theorem dX2_addPlainWords_0 : decode cX2_addPlainWords 0 = .ok (.iconst 0, 1) := by decide +kernel
theorem dX2_addPlainWords_1 : decode cX2_addPlainWords 1 = .ok (.istore_n 2, 1) := by decide +kernel
theorem dX2_addPlainWords_2 : decode cX2_addPlainWords 2 = .ok (.iconst 0, 1) := by decide +kernel
theorem dX2_addPlainWords_3 : decode cX2_addPlainWords 3 = .ok (.istore_n 3, 1) := by decide +kernel
theorem dX2_addPlainWords_4 : decode cX2_addPlainWords 4 = .ok (.iload_n 3, 1) := by decide +kernel
theorem dX2_addPlainWords_5 : decode cX2_addPlainWords 5 = .ok (.iload_n 1, 1) := by decide +kernel
theorem dX2_addPlainWords_6 : decode cX2_addPlainWords 6 = .ok (.if_icmp .gt 47, 3) := by decide +kernel
theorem dX2_addPlainWords_9 : decode cX2_addPlainWords 9 = .ok (.iload_n 3, 1) := by decide +kernel
theorem dX2_addPlainWords_10 : decode cX2_addPlainWords 10 = .ok (.iload_n 1, 1) := by decide +kernel
theorem dX2_addPlainWords_11 : decode cX2_addPlainWords 11 = .ok (.if_icmp .eq 16, 3) := by decide +kernel
theorem dX2_addPlainWords_14 : decode cX2_addPlainWords 14 = .ok (.aload_n 0, 1) := by decide +kernel
theorem dX2_addPlainWords_15 : decode cX2_addPlainWords 15 = .ok (.getfield 19, 3) := by decide +kernel
theorem dX2_addPlainWords_18 : decode cX2_addPlainWords 18 = .ok (.iload_n 3, 1) := by decide +kernel
theorem dX2_addPlainWords_19 : decode cX2_addPlainWords 19 = .ok (.invokevirtual 58, 3) := by decide +kernel
theorem dX2_addPlainWords_22 : decode cX2_addPlainWords 22 = .ok (.bipush 32, 2) := by decide +kernel
theorem dX2_addPlainWords_24 : decode cX2_addPlainWords 24 = .ok (.if_icmp .ne 23, 3) := by decide +kernel
theorem dX2_addPlainWords_27 : decode cX2_addPlainWords 27 = .ok (.iload_n 3, 1) := by decide +kernel
theorem dX2_addPlainWords_28 : decode cX2_addPlainWords 28 = .ok (.iload_n 2, 1) := by decide +kernel
theorem dX2_addPlainWords_29 : decode cX2_addPlainWords 29 = .ok (.if_icmp .le 14, 3) := by decide +kernel
theorem dX2_addPlainWords_32 : decode cX2_addPlainWords 32 = .ok (.aload_n 0, 1) := by decide +kernel
theorem dX2_addPlainWords_33 : decode cX2_addPlainWords 33 = .ok (.getfield 25, 3) := by decide +kernel
theorem dX2_addPlainWords_36 : decode cX2_addPlainWords 36 = .ok (.iload_n 2, 1) := by decide +kernel
theorem dX2_addPlainWords_37 : decode cX2_addPlainWords 37 = .ok (.iload_n 3, 1) := by decide +kernel
theorem dX2_addPlainWords_38 : decode cX2_addPlainWords 38 = .ok (.iload_n 2, 1) := by decide +kernel
theorem dX2_addPlainWords_39 : decode cX2_addPlainWords 39 = .ok (.isub, 1) := by decide +kernel
theorem dX2_addPlainWords_40 : decode cX2_addPlainWords 40 = .ok (.invokevirtual 94, 3) := by decide +kernel
theorem dX2_addPlainWords_43 : decode cX2_addPlainWords 43 = .ok (.iload_n 3, 1) := by decide +kernel
theorem dX2_addPlainWords_44 : decode cX2_addPlainWords 44 = .ok (.iconst 1, 1) := by decide +kernel
theorem dX2_addPlainWords_45 : decode cX2_addPlainWords 45 = .ok (.iadd, 1) := by decide +kernel
theorem dX2_addPlainWords_46 : decode cX2_addPlainWords 46 = .ok (.istore_n 2, 1) := by decide +kernel
theorem dX2_addPlainWords_47 : decode cX2_addPlainWords 47 = .ok (.iinc 3 1, 3) := by decide +kernel
theorem dX2_addPlainWords_50 : decode cX2_addPlainWords 50 = .ok (.goto (-46), 3) := by decide +kernel
theorem dX2_addPlainWords_53 : decode cX2_addPlainWords 53 = .ok (.return_, 1) := by decide +kernel
theorem dX2_fault_0 : decode cX2_fault 0 = .ok (.aload_n 0, 1) := by decide +kernel
theorem dX2_fault_1 : decode cX2_fault 1 = .ok (.getfield 29, 3) := by decide +kernel
theorem dX2_fault_4 : decode cX2_fault 4 = .ok (.ireturn, 1) := by decide +kernel
theorem dX2_size_0 : decode cX2_size 0 = .ok (.aload_n 0, 1) := by decide +kernel
theorem dX2_size_1 : decode cX2_size 1 = .ok (.getfield 25, 3) := by decide +kernel
theorem dX2_size_4 : decode cX2_size 4 = .ok (.iload_n 1, 1) := by decide +kernel
theorem dX2_size_5 : decode cX2_size 5 = .ok (.invokevirtual 76, 3) := by decide +kernel
theorem dX2_size_8 : decode cX2_size 8 = .ok (.ireturn, 1) := by decide +kernel
theorem dX2_byteOf_0 : decode cX2_byteOf 0 = .ok (.aload_n 0, 1) := by decide +kernel
theorem dX2_byteOf_1 : decode cX2_byteOf 1 = .ok (.getfield 25, 3) := by decide +kernel
theorem dX2_byteOf_4 : decode cX2_byteOf 4 = .ok (.iload_n 1, 1) := by decide +kernel
theorem dX2_byteOf_5 : decode cX2_byteOf 5 = .ok (.iload_n 2, 1) := by decide +kernel
theorem dX2_byteOf_6 : decode cX2_byteOf 6 = .ok (.invokevirtual 79, 3) := by decide +kernel
theorem dX2_byteOf_9 : decode cX2_byteOf 9 = .ok (.ireturn, 1) := by decide +kernel
theorem dX2_drop_0 : decode cX2_drop 0 = .ok (.aload_n 0, 1) := by decide +kernel
theorem dX2_drop_1 : decode cX2_drop 1 = .ok (.getfield 19, 3) := by decide +kernel
theorem dX2_drop_4 : decode cX2_drop 4 = .ok (.iload_n 1, 1) := by decide +kernel
theorem dX2_drop_5 : decode cX2_drop 5 = .ok (.invokevirtual 72, 3) := by decide +kernel
theorem dX2_drop_8 : decode cX2_drop 8 = .ok (.ireturn, 1) := by decide +kernel
theorem dX2_waiting_0 : decode cX2_waiting 0 = .ok (.aload_n 0, 1) := by decide +kernel
theorem dX2_waiting_1 : decode cX2_waiting 1 = .ok (.getfield 19, 3) := by decide +kernel
theorem dX2_waiting_4 : decode cX2_waiting 4 = .ok (.invokevirtual 46, 3) := by decide +kernel
theorem dX2_waiting_7 : decode cX2_waiting 7 = .ok (.ireturn, 1) := by decide +kernel
end
section
theorem dX3_init_0 : decode cX3_init 0 = .ok (.aload_n 0, 1) := by decide +kernel
theorem dX3_init_1 : decode cX3_init 1 = .ok (.invokespecial 1, 3) := by decide +kernel
theorem dX3_init_4 : decode cX3_init 4 = .ok (.aload_n 0, 1) := by decide +kernel
theorem dX3_init_5 : decode cX3_init 5 = .ok (.sipush 10240, 3) := by decide +kernel
theorem dX3_init_8 : decode cX3_init 8 = .ok (.newarray .byte, 2) := by decide +kernel
theorem dX3_init_10 : decode cX3_init 10 = .ok (.putfield 7, 3) := by decide +kernel
theorem dX3_init_13 : decode cX3_init 13 = .ok (.aload_n 0, 1) := by decide +kernel
theorem dX3_init_14 : decode cX3_init 14 = .ok (.ldc 13, 2) := by decide +kernel
theorem dX3_init_16 : decode cX3_init 16 = .ok (.newarray .byte, 2) := by decide +kernel
theorem dX3_init_18 : decode cX3_init 18 = .ok (.putfield 14, 3) := by decide +kernel
theorem dX3_init_21 : decode cX3_init 21 = .ok (.aload_n 0, 1) := by decide +kernel
theorem dX3_init_22 : decode cX3_init 22 = .ok (.ldc 13, 2) := by decide +kernel
theorem dX3_init_24 : decode cX3_init 24 = .ok (.newarray .byte, 2) := by decide +kernel
theorem dX3_init_26 : decode cX3_init 26 = .ok (.putfield 17, 3) := by decide +kernel
theorem dX3_init_29 : decode cX3_init 29 = .ok (.aload_n 0, 1) := by decide +kernel
theorem dX3_init_30 : decode cX3_init 30 = .ok (.sipush 1025, 3) := by decide +kernel
theorem dX3_init_33 : decode cX3_init 33 = .ok (.newarray .int, 2) := by decide +kernel
theorem dX3_init_35 : decode cX3_init 35 = .ok (.putfield 20, 3) := by decide +kernel
theorem dX3_init_38 : decode cX3_init 38 = .ok (.aload_n 0, 1) := by decide +kernel
theorem dX3_init_39 : decode cX3_init 39 = .ok (.sipush 1025, 3) := by decide +kernel
theorem dX3_init_42 : decode cX3_init 42 = .ok (.newarray .int, 2) := by decide +kernel
theorem dX3_init_44 : decode cX3_init 44 = .ok (.putfield 24, 3) := by decide +kernel
theorem dX3_init_47 : decode cX3_init 47 = .ok (.return_, 1) := by decide +kernel
theorem dX3_feed_0 : decode cX3_feed 0 = .ok (.aload_n 0, 1) := by decide +kernel
theorem dX3_feed_1 : decode cX3_feed 1 = .ok (.getfield 27, 3) := by decide +kernel
theorem dX3_feed_4 : decode cX3_feed 4 = .ok (.bipush 20, 2) := by decide +kernel
theorem dX3_feed_6 : decode cX3_feed 6 = .ok (.iadd, 1) := by decide +kernel
theorem dX3_feed_7 : decode cX3_feed 7 = .ok (.sipush 10240, 3) := by decide +kernel
theorem dX3_feed_10 : decode cX3_feed 10 = .ok (.if_icmp .le 5, 3) := by decide +kernel
theorem dX3_feed_13 : decode cX3_feed 13 = .ok (.iconst 0, 1) := by decide +kernel
theorem dX3_feed_14 : decode cX3_feed 14 = .ok (.ireturn, 1) := by decide +kernel
theorem dX3_feed_15 : decode cX3_feed 15 = .ok (.aload_n 0, 1) := by decide +kernel
theorem dX3_feed_16 : decode cX3_feed 16 = .ok (.iload_n 1, 1) := by decide +kernel
theorem dX3_feed_17 : decode cX3_feed 17 = .ok (.invokevirtual 31, 3) := by decide +kernel
theorem dX3_feed_20 : decode cX3_feed 20 = .ok (.aload_n 0, 1) := by decide +kernel
theorem dX3_feed_21 : decode cX3_feed 21 = .ok (.iload_n 2, 1) := by decide +kernel
theorem dX3_feed_22 : decode cX3_feed 22 = .ok (.invokevirtual 31, 3) := by decide +kernel
theorem dX3_feed_25 : decode cX3_feed 25 = .ok (.aload_n 0, 1) := by decide +kernel
theorem dX3_feed_26 : decode cX3_feed 26 = .ok (.iload_n 3, 1) := by decide +kernel
theorem dX3_feed_27 : decode cX3_feed 27 = .ok (.invokevirtual 31, 3) := by decide +kernel
theorem dX3_feed_30 : decode cX3_feed 30 = .ok (.aload_n 0, 1) := by decide +kernel
theorem dX3_feed_31 : decode cX3_feed 31 = .ok (.iload 4, 2) := by decide +kernel
theorem dX3_feed_33 : decode cX3_feed 33 = .ok (.invokevirtual 31, 3) := by decide +kernel
theorem dX3_feed_36 : decode cX3_feed 36 = .ok (.aload_n 0, 1) := by decide +kernel
theorem dX3_feed_37 : decode cX3_feed 37 = .ok (.iload 5, 2) := by decide +kernel
theorem dX3_feed_39 : decode cX3_feed 39 = .ok (.invokevirtual 31, 3) := by decide +kernel
theorem dX3_feed_42 : decode cX3_feed 42 = .ok (.iconst 1, 1) := by decide +kernel
theorem dX3_feed_43 : decode cX3_feed 43 = .ok (.ireturn, 1) := by decide +kernel
theorem dX3_lay_0 : decode cX3_lay 0 = .ok (.bipush 24, 2) := by decide +kernel
theorem dX3_lay_2 : decode cX3_lay 2 = .ok (.istore_n 2, 1) := by decide +kernel
theorem dX3_lay_3 : decode cX3_lay 3 = .ok (.iload_n 2, 1) := by decide +kernel
theorem dX3_lay_4 : decode cX3_lay 4 = .ok (.ifCond .lt 32, 3) := by decide +kernel
theorem dX3_lay_7 : decode cX3_lay 7 = .ok (.aload_n 0, 1) := by decide +kernel
theorem dX3_lay_8 : decode cX3_lay 8 = .ok (.getfield 7, 3) := by decide +kernel
theorem dX3_lay_11 : decode cX3_lay 11 = .ok (.aload_n 0, 1) := by decide +kernel
theorem dX3_lay_12 : decode cX3_lay 12 = .ok (.getfield 27, 3) := by decide +kernel
theorem dX3_lay_15 : decode cX3_lay 15 = .ok (.iload_n 1, 1) := by decide +kernel
theorem dX3_lay_16 : decode cX3_lay 16 = .ok (.iload_n 2, 1) := by decide +kernel
theorem dX3_lay_17 : decode cX3_lay 17 = .ok (.ishr, 1) := by decide +kernel
theorem dX3_lay_18 : decode cX3_lay 18 = .ok (.i2b, 1) := by decide +kernel
theorem dX3_lay_19 : decode cX3_lay 19 = .ok (.bastore, 1) := by decide +kernel
theorem dX3_lay_20 : decode cX3_lay 20 = .ok (.aload_n 0, 1) := by decide +kernel
theorem dX3_lay_21 : decode cX3_lay 21 = .ok (.dup, 1) := by decide +kernel
theorem dX3_lay_22 : decode cX3_lay 22 = .ok (.getfield 27, 3) := by decide +kernel
theorem dX3_lay_25 : decode cX3_lay 25 = .ok (.iconst 1, 1) := by decide +kernel
theorem dX3_lay_26 : decode cX3_lay 26 = .ok (.iadd, 1) := by decide +kernel
theorem dX3_lay_27 : decode cX3_lay 27 = .ok (.putfield 27, 3) := by decide +kernel
theorem dX3_lay_30 : decode cX3_lay 30 = .ok (.iinc 2 (-8), 3) := by decide +kernel
theorem dX3_lay_33 : decode cX3_lay 33 = .ok (.goto (-30), 3) := by decide +kernel
theorem dX3_lay_36 : decode cX3_lay 36 = .ok (.return_, 1) := by decide +kernel
theorem dX3_end_0 : decode cX3_end 0 = .ok (.iload_n 1, 1) := by decide +kernel
theorem dX3_end_1 : decode cX3_end 1 = .ok (.ifCond .lt 11, 3) := by decide +kernel
theorem dX3_end_4 : decode cX3_end 4 = .ok (.iload_n 1, 1) := by decide +kernel
theorem dX3_end_5 : decode cX3_end 5 = .ok (.aload_n 0, 1) := by decide +kernel
theorem dX3_end_6 : decode cX3_end 6 = .ok (.getfield 27, 3) := by decide +kernel
theorem dX3_end_9 : decode cX3_end 9 = .ok (.if_icmp .le 5, 3) := by decide +kernel
theorem dX3_end_12 : decode cX3_end 12 = .ok (.iconst 0, 1) := by decide +kernel
theorem dX3_end_13 : decode cX3_end 13 = .ok (.ireturn, 1) := by decide +kernel
theorem dX3_end_14 : decode cX3_end 14 = .ok (.aload_n 0, 1) := by decide +kernel
theorem dX3_end_15 : decode cX3_end 15 = .ok (.iload_n 1, 1) := by decide +kernel
theorem dX3_end_16 : decode cX3_end 16 = .ok (.putfield 27, 3) := by decide +kernel
theorem dX3_end_19 : decode cX3_end 19 = .ok (.iconst 1, 1) := by decide +kernel
theorem dX3_end_20 : decode cX3_end 20 = .ok (.ireturn, 1) := by decide +kernel
theorem dX3_arrive_0 : decode cX3_arrive 0 = .ok (.aload_n 0, 1) := by decide +kernel
theorem dX3_arrive_1 : decode cX3_arrive 1 = .ok (.getfield 27, 3) := by decide +kernel
theorem dX3_arrive_4 : decode cX3_arrive 4 = .ok (.istore_n 1, 1) := by decide +kernel
theorem dX3_arrive_5 : decode cX3_arrive 5 = .ok (.aload_n 0, 1) := by decide +kernel
theorem dX3_arrive_6 : decode cX3_arrive 6 = .ok (.iconst 0, 1) := by decide +kernel
theorem dX3_arrive_7 : decode cX3_arrive 7 = .ok (.putfield 27, 3) := by decide +kernel
theorem dX3_arrive_10 : decode cX3_arrive 10 = .ok (.aload_n 0, 1) := by decide +kernel
theorem dX3_arrive_11 : decode cX3_arrive 11 = .ok (.getfield 35, 3) := by decide +kernel
theorem dX3_arrive_14 : decode cX3_arrive 14 = .ok (.iload_n 1, 1) := by decide +kernel
theorem dX3_arrive_15 : decode cX3_arrive 15 = .ok (.iadd, 1) := by decide +kernel
theorem dX3_arrive_16 : decode cX3_arrive 16 = .ok (.ldc 13, 2) := by decide +kernel
theorem dX3_arrive_18 : decode cX3_arrive 18 = .ok (.if_icmp .le 5, 3) := by decide +kernel
theorem dX3_arrive_21 : decode cX3_arrive 21 = .ok (.iconst (-1), 1) := by decide +kernel
theorem dX3_arrive_22 : decode cX3_arrive 22 = .ok (.ireturn, 1) := by decide +kernel
theorem dX3_arrive_23 : decode cX3_arrive 23 = .ok (.iconst 0, 1) := by decide +kernel
theorem dX3_arrive_24 : decode cX3_arrive 24 = .ok (.istore_n 2, 1) := by decide +kernel
theorem dX3_arrive_25 : decode cX3_arrive 25 = .ok (.iload_n 2, 1) := by decide +kernel
theorem dX3_arrive_26 : decode cX3_arrive 26 = .ok (.iload_n 1, 1) := by decide +kernel
theorem dX3_arrive_27 : decode cX3_arrive 27 = .ok (.if_icmp .ge 26, 3) := by decide +kernel
theorem dX3_arrive_30 : decode cX3_arrive 30 = .ok (.aload_n 0, 1) := by decide +kernel
theorem dX3_arrive_31 : decode cX3_arrive 31 = .ok (.getfield 14, 3) := by decide +kernel
theorem dX3_arrive_34 : decode cX3_arrive 34 = .ok (.aload_n 0, 1) := by decide +kernel
theorem dX3_arrive_35 : decode cX3_arrive 35 = .ok (.getfield 35, 3) := by decide +kernel
theorem dX3_arrive_38 : decode cX3_arrive 38 = .ok (.iload_n 2, 1) := by decide +kernel
theorem dX3_arrive_39 : decode cX3_arrive 39 = .ok (.iadd, 1) := by decide +kernel
theorem dX3_arrive_40 : decode cX3_arrive 40 = .ok (.aload_n 0, 1) := by decide +kernel
theorem dX3_arrive_41 : decode cX3_arrive 41 = .ok (.getfield 7, 3) := by decide +kernel
theorem dX3_arrive_44 : decode cX3_arrive 44 = .ok (.iload_n 2, 1) := by decide +kernel
theorem dX3_arrive_45 : decode cX3_arrive 45 = .ok (.baload, 1) := by decide +kernel
theorem dX3_arrive_46 : decode cX3_arrive 46 = .ok (.bastore, 1) := by decide +kernel
theorem dX3_arrive_47 : decode cX3_arrive 47 = .ok (.iinc 2 1, 3) := by decide +kernel
theorem dX3_arrive_50 : decode cX3_arrive 50 = .ok (.goto (-25), 3) := by decide +kernel
theorem dX3_arrive_53 : decode cX3_arrive 53 = .ok (.aload_n 0, 1) := by decide +kernel
theorem dX3_arrive_54 : decode cX3_arrive 54 = .ok (.dup, 1) := by decide +kernel
theorem dX3_arrive_55 : decode cX3_arrive 55 = .ok (.getfield 35, 3) := by decide +kernel
theorem dX3_arrive_58 : decode cX3_arrive 58 = .ok (.iload_n 1, 1) := by decide +kernel
theorem dX3_arrive_59 : decode cX3_arrive 59 = .ok (.iadd, 1) := by decide +kernel
theorem dX3_arrive_60 : decode cX3_arrive 60 = .ok (.putfield 35, 3) := by decide +kernel
theorem dX3_arrive_63 : decode cX3_arrive 63 = .ok (.aload_n 0, 1) := by decide +kernel
theorem dX3_arrive_64 : decode cX3_arrive 64 = .ok (.getfield 35, 3) := by decide +kernel
theorem dX3_arrive_67 : decode cX3_arrive 67 = .ok (.ireturn, 1) := by decide +kernel
theorem dX3_drop_0 : decode cX3_drop 0 = .ok (.iload_n 1, 1) := by decide +kernel
theorem dX3_drop_1 : decode cX3_drop 1 = .ok (.ifCond .lt 11, 3) := by decide +kernel
theorem dX3_drop_4 : decode cX3_drop 4 = .ok (.iload_n 1, 1) := by decide +kernel
theorem dX3_drop_5 : decode cX3_drop 5 = .ok (.aload_n 0, 1) := by decide +kernel
theorem dX3_drop_6 : decode cX3_drop 6 = .ok (.getfield 35, 3) := by decide +kernel
theorem dX3_drop_9 : decode cX3_drop 9 = .ok (.if_icmp .le 5, 3) := by decide +kernel
theorem dX3_drop_12 : decode cX3_drop 12 = .ok (.iconst 0, 1) := by decide +kernel
theorem dX3_drop_13 : decode cX3_drop 13 = .ok (.ireturn, 1) := by decide +kernel
theorem dX3_drop_14 : decode cX3_drop 14 = .ok (.aload_n 0, 1) := by decide +kernel
theorem dX3_drop_15 : decode cX3_drop 15 = .ok (.iload_n 1, 1) := by decide +kernel
theorem dX3_drop_16 : decode cX3_drop 16 = .ok (.invokevirtual 38, 3) := by decide +kernel
theorem dX3_drop_19 : decode cX3_drop 19 = .ok (.iconst 1, 1) := by decide +kernel
theorem dX3_drop_20 : decode cX3_drop 20 = .ok (.ireturn, 1) := by decide +kernel
theorem dX3_go_0 : decode cX3_go 0 = .ok (.iload_n 1, 1) := by decide +kernel
theorem dX3_go_1 : decode cX3_go 1 = .ok (.istore_n 2, 1) := by decide +kernel
theorem dX3_go_2 : decode cX3_go 2 = .ok (.iload_n 2, 1) := by decide +kernel
theorem dX3_go_3 : decode cX3_go 3 = .ok (.aload_n 0, 1) := by decide +kernel
theorem dX3_go_4 : decode cX3_go 4 = .ok (.getfield 35, 3) := by decide +kernel
theorem dX3_go_7 : decode cX3_go 7 = .ok (.if_icmp .ge 23, 3) := by decide +kernel
theorem dX3_go_10 : decode cX3_go 10 = .ok (.aload_n 0, 1) := by decide +kernel
theorem dX3_go_11 : decode cX3_go 11 = .ok (.getfield 14, 3) := by decide +kernel
theorem dX3_go_14 : decode cX3_go 14 = .ok (.iload_n 2, 1) := by decide +kernel
theorem dX3_go_15 : decode cX3_go 15 = .ok (.iload_n 1, 1) := by decide +kernel
theorem dX3_go_16 : decode cX3_go 16 = .ok (.isub, 1) := by decide +kernel
theorem dX3_go_17 : decode cX3_go 17 = .ok (.aload_n 0, 1) := by decide +kernel
theorem dX3_go_18 : decode cX3_go 18 = .ok (.getfield 14, 3) := by decide +kernel
theorem dX3_go_21 : decode cX3_go 21 = .ok (.iload_n 2, 1) := by decide +kernel
theorem dX3_go_22 : decode cX3_go 22 = .ok (.baload, 1) := by decide +kernel
theorem dX3_go_23 : decode cX3_go 23 = .ok (.bastore, 1) := by decide +kernel
theorem dX3_go_24 : decode cX3_go 24 = .ok (.iinc 2 1, 3) := by decide +kernel
theorem dX3_go_27 : decode cX3_go 27 = .ok (.goto (-25), 3) := by decide +kernel
theorem dX3_go_30 : decode cX3_go 30 = .ok (.aload_n 0, 1) := by decide +kernel
theorem dX3_go_31 : decode cX3_go 31 = .ok (.dup, 1) := by decide +kernel
theorem dX3_go_32 : decode cX3_go 32 = .ok (.getfield 35, 3) := by decide +kernel
theorem dX3_go_35 : decode cX3_go 35 = .ok (.iload_n 1, 1) := by decide +kernel
theorem dX3_go_36 : decode cX3_go 36 = .ok (.isub, 1) := by decide +kernel
theorem dX3_go_37 : decode cX3_go 37 = .ok (.putfield 35, 3) := by decide +kernel
theorem dX3_go_40 : decode cX3_go 40 = .ok (.return_, 1) := by decide +kernel
theorem dX3_cut_0 : decode cX3_cut 0 = .ok (.aload_n 0, 1) := by decide +kernel
theorem dX3_cut_1 : decode cX3_cut 1 = .ok (.iconst 0, 1) := by decide +kernel
theorem dX3_cut_2 : decode cX3_cut 2 = .ok (.putfield 46, 3) := by decide +kernel
theorem dX3_cut_5 : decode cX3_cut 5 = .ok (.aload_n 0, 1) := by decide +kernel
theorem dX3_cut_6 : decode cX3_cut 6 = .ok (.iconst 0, 1) := by decide +kernel
theorem dX3_cut_7 : decode cX3_cut 7 = .ok (.putfield 49, 3) := by decide +kernel
theorem dX3_cut_10 : decode cX3_cut 10 = .ok (.aload_n 0, 1) := by decide +kernel
theorem dX3_cut_11 : decode cX3_cut 11 = .ok (.iconst 0, 1) := by decide +kernel
theorem dX3_cut_12 : decode cX3_cut 12 = .ok (.putfield 56, 3) := by decide +kernel
theorem dX3_cut_15 : decode cX3_cut 15 = .ok (.aload_n 0, 1) := by decide +kernel
theorem dX3_cut_16 : decode cX3_cut 16 = .ok (.iconst 0, 1) := by decide +kernel
theorem dX3_cut_17 : decode cX3_cut 17 = .ok (.putfield 41, 3) := by decide +kernel
theorem dX3_cut_20 : decode cX3_cut 20 = .ok (.aload_n 0, 1) := by decide +kernel
theorem dX3_cut_21 : decode cX3_cut 21 = .ok (.getfield 35, 3) := by decide +kernel
theorem dX3_cut_24 : decode cX3_cut 24 = .ok (.ifCond .le 35, 3) := by decide +kernel
theorem dX3_cut_27 : decode cX3_cut 27 = .ok (.aload_n 0, 1) := by decide +kernel
theorem dX3_cut_28 : decode cX3_cut 28 = .ok (.getfield 14, 3) := by decide +kernel
theorem dX3_cut_31 : decode cX3_cut 31 = .ok (.iconst 0, 1) := by decide +kernel
theorem dX3_cut_32 : decode cX3_cut 32 = .ok (.baload, 1) := by decide +kernel
theorem dX3_cut_33 : decode cX3_cut 33 = .ok (.bipush 42, 2) := by decide +kernel
theorem dX3_cut_35 : decode cX3_cut 35 = .ok (.if_icmp .ne 13, 3) := by decide +kernel
theorem dX3_cut_38 : decode cX3_cut 38 = .ok (.aload_n 0, 1) := by decide +kernel
theorem dX3_cut_39 : decode cX3_cut 39 = .ok (.invokevirtual 71, 3) := by decide +kernel
theorem dX3_cut_42 : decode cX3_cut 42 = .ok (.ifCond .eq 17, 3) := by decide +kernel
theorem dX3_cut_45 : decode cX3_cut 45 = .ok (.goto 10, 3) := by decide +kernel
theorem dX3_cut_48 : decode cX3_cut 48 = .ok (.aload_n 0, 1) := by decide +kernel
theorem dX3_cut_49 : decode cX3_cut 49 = .ok (.invokevirtual 74, 3) := by decide +kernel
theorem dX3_cut_52 : decode cX3_cut 52 = .ok (.ifCond .eq 7, 3) := by decide +kernel
theorem dX3_cut_55 : decode cX3_cut 55 = .ok (.iconst 1, 1) := by decide +kernel
theorem dX3_cut_56 : decode cX3_cut 56 = .ok (.goto 4, 3) := by decide +kernel
theorem dX3_cut_59 : decode cX3_cut 59 = .ok (.iconst 0, 1) := by decide +kernel
theorem dX3_cut_60 : decode cX3_cut 60 = .ok (.istore_n 1, 1) := by decide +kernel
theorem dX3_cut_61 : decode cX3_cut 61 = .ok (.iload_n 1, 1) := by decide +kernel
theorem dX3_cut_62 : decode cX3_cut 62 = .ok (.ifCond .ne 22, 3) := by decide +kernel
theorem dX3_cut_65 : decode cX3_cut 65 = .ok (.aload_n 0, 1) := by decide +kernel
theorem dX3_cut_66 : decode cX3_cut 66 = .ok (.iconst 0, 1) := by decide +kernel
theorem dX3_cut_67 : decode cX3_cut 67 = .ok (.putfield 46, 3) := by decide +kernel
theorem dX3_cut_70 : decode cX3_cut 70 = .ok (.aload_n 0, 1) := by decide +kernel
theorem dX3_cut_71 : decode cX3_cut 71 = .ok (.getfield 56, 3) := by decide +kernel
theorem dX3_cut_74 : decode cX3_cut 74 = .ok (.ifCond .le 8, 3) := by decide +kernel
theorem dX3_cut_77 : decode cX3_cut 77 = .ok (.bipush (-2), 2) := by decide +kernel
theorem dX3_cut_79 : decode cX3_cut 79 = .ok (.goto 4, 3) := by decide +kernel
theorem dX3_cut_82 : decode cX3_cut 82 = .ok (.iconst (-1), 1) := by decide +kernel
theorem dX3_cut_83 : decode cX3_cut 83 = .ok (.ireturn, 1) := by decide +kernel
theorem dX3_cut_84 : decode cX3_cut 84 = .ok (.aload_n 0, 1) := by decide +kernel
theorem dX3_cut_85 : decode cX3_cut 85 = .ok (.aload_n 0, 1) := by decide +kernel
theorem dX3_cut_86 : decode cX3_cut 86 = .ok (.getfield 41, 3) := by decide +kernel
theorem dX3_cut_89 : decode cX3_cut 89 = .ok (.invokevirtual 38, 3) := by decide +kernel
theorem dX3_cut_92 : decode cX3_cut 92 = .ok (.aload_n 0, 1) := by decide +kernel
theorem dX3_cut_93 : decode cX3_cut 93 = .ok (.getfield 46, 3) := by decide +kernel
theorem dX3_cut_96 : decode cX3_cut 96 = .ok (.ireturn, 1) := by decide +kernel
theorem dX3_cutTold_0 : decode cX3_cutTold 0 = .ok (.aload_n 0, 1) := by decide +kernel
theorem dX3_cutTold_1 : decode cX3_cutTold 1 = .ok (.invokevirtual 59, 3) := by decide +kernel
theorem dX3_cutTold_4 : decode cX3_cutTold 4 = .ok (.istore_n 1, 1) := by decide +kernel
theorem dX3_cutTold_5 : decode cX3_cutTold 5 = .ok (.aload_n 0, 1) := by decide +kernel
theorem dX3_cutTold_6 : decode cX3_cutTold 6 = .ok (.iload_n 1, 1) := by decide +kernel
theorem dX3_cutTold_7 : decode cX3_cutTold 7 = .ok (.ldc 44, 2) := by decide +kernel
theorem dX3_cutTold_9 : decode cX3_cutTold 9 = .ok (.if_icmp .eq 10, 3) := by decide +kernel
theorem dX3_cutTold_12 : decode cX3_cutTold 12 = .ok (.iload_n 1, 1) := by decide +kernel
theorem dX3_cutTold_13 : decode cX3_cutTold 13 = .ok (.sipush 1024, 3) := by decide +kernel
theorem dX3_cutTold_16 : decode cX3_cutTold 16 = .ok (.if_icmp .le 7, 3) := by decide +kernel
theorem dX3_cutTold_19 : decode cX3_cutTold 19 = .ok (.iconst 1, 1) := by decide +kernel
theorem dX3_cutTold_20 : decode cX3_cutTold 20 = .ok (.goto 4, 3) := by decide +kernel
theorem dX3_cutTold_23 : decode cX3_cutTold 23 = .ok (.iconst 0, 1) := by decide +kernel
theorem dX3_cutTold_24 : decode cX3_cutTold 24 = .ok (.putfield 56, 3) := by decide +kernel
theorem dX3_cutTold_27 : decode cX3_cutTold 27 = .ok (.iload_n 1, 1) := by decide +kernel
theorem dX3_cutTold_28 : decode cX3_cutTold 28 = .ok (.ldc 45, 2) := by decide +kernel
theorem dX3_cutTold_30 : decode cX3_cutTold 30 = .ok (.if_icmp .eq 14, 3) := by decide +kernel
theorem dX3_cutTold_33 : decode cX3_cutTold 33 = .ok (.aload_n 0, 1) := by decide +kernel
theorem dX3_cutTold_34 : decode cX3_cutTold 34 = .ok (.getfield 56, 3) := by decide +kernel
theorem dX3_cutTold_37 : decode cX3_cutTold 37 = .ok (.ifCond .ne 7, 3) := by decide +kernel
theorem dX3_cutTold_40 : decode cX3_cutTold 40 = .ok (.iconst 1, 1) := by decide +kernel
theorem dX3_cutTold_41 : decode cX3_cutTold 41 = .ok (.goto 4, 3) := by decide +kernel
theorem dX3_cutTold_44 : decode cX3_cutTold 44 = .ok (.iconst 0, 1) := by decide +kernel
theorem dX3_cutTold_45 : decode cX3_cutTold 45 = .ok (.istore_n 2, 1) := by decide +kernel
theorem dX3_cutTold_46 : decode cX3_cutTold 46 = .ok (.iconst 0, 1) := by decide +kernel
theorem dX3_cutTold_47 : decode cX3_cutTold 47 = .ok (.istore_n 3, 1) := by decide +kernel
theorem dX3_cutTold_48 : decode cX3_cutTold 48 = .ok (.iload_n 3, 1) := by decide +kernel
theorem dX3_cutTold_49 : decode cX3_cutTold 49 = .ok (.iload_n 1, 1) := by decide +kernel
theorem dX3_cutTold_50 : decode cX3_cutTold 50 = .ok (.if_icmp .ge 18, 3) := by decide +kernel
theorem dX3_cutTold_53 : decode cX3_cutTold 53 = .ok (.iload_n 2, 1) := by decide +kernel
theorem dX3_cutTold_54 : decode cX3_cutTold 54 = .ok (.ifCond .eq 14, 3) := by decide +kernel
theorem dX3_cutTold_57 : decode cX3_cutTold 57 = .ok (.aload_n 0, 1) := by decide +kernel
theorem dX3_cutTold_58 : decode cX3_cutTold 58 = .ok (.invokevirtual 67, 3) := by decide +kernel
theorem dX3_cutTold_61 : decode cX3_cutTold 61 = .ok (.istore_n 2, 1) := by decide +kernel
theorem dX3_cutTold_62 : decode cX3_cutTold 62 = .ok (.iinc 3 1, 3) := by decide +kernel
theorem dX3_cutTold_65 : decode cX3_cutTold 65 = .ok (.goto (-17), 3) := by decide +kernel
theorem dX3_cutTold_68 : decode cX3_cutTold 68 = .ok (.iload_n 2, 1) := by decide +kernel
theorem dX3_cutTold_69 : decode cX3_cutTold 69 = .ok (.ireturn, 1) := by decide +kernel
theorem dX3_line_0 : decode cX3_line 0 = .ok (.aload_n 0, 1) := by decide +kernel
theorem dX3_line_1 : decode cX3_line 1 = .ok (.getfield 41, 3) := by decide +kernel
theorem dX3_line_4 : decode cX3_line 4 = .ok (.iconst 1, 1) := by decide +kernel
theorem dX3_line_5 : decode cX3_line 5 = .ok (.iadd, 1) := by decide +kernel
theorem dX3_line_6 : decode cX3_line 6 = .ok (.istore_n 1, 1) := by decide +kernel
theorem dX3_line_7 : decode cX3_line 7 = .ok (.iload_n 1, 1) := by decide +kernel
theorem dX3_line_8 : decode cX3_line 8 = .ok (.iconst 1, 1) := by decide +kernel
theorem dX3_line_9 : decode cX3_line 9 = .ok (.iadd, 1) := by decide +kernel
theorem dX3_line_10 : decode cX3_line 10 = .ok (.aload_n 0, 1) := by decide +kernel
theorem dX3_line_11 : decode cX3_line 11 = .ok (.getfield 35, 3) := by decide +kernel
theorem dX3_line_14 : decode cX3_line 14 = .ok (.if_icmp .ge 46, 3) := by decide +kernel
theorem dX3_line_17 : decode cX3_line 17 = .ok (.iload_n 1, 1) := by decide +kernel
theorem dX3_line_18 : decode cX3_line 18 = .ok (.iconst 1, 1) := by decide +kernel
theorem dX3_line_19 : decode cX3_line 19 = .ok (.iadd, 1) := by decide +kernel
theorem dX3_line_20 : decode cX3_line 20 = .ok (.aload_n 0, 1) := by decide +kernel
theorem dX3_line_21 : decode cX3_line 21 = .ok (.getfield 41, 3) := by decide +kernel
theorem dX3_line_24 : decode cX3_line 24 = .ok (.bipush 16, 2) := by decide +kernel
theorem dX3_line_26 : decode cX3_line 26 = .ok (.iadd, 1) := by decide +kernel
theorem dX3_line_27 : decode cX3_line 27 = .ok (.if_icmp .ge 33, 3) := by decide +kernel
theorem dX3_line_30 : decode cX3_line 30 = .ok (.aload_n 0, 1) := by decide +kernel
theorem dX3_line_31 : decode cX3_line 31 = .ok (.getfield 14, 3) := by decide +kernel
theorem dX3_line_34 : decode cX3_line 34 = .ok (.iload_n 1, 1) := by decide +kernel
theorem dX3_line_35 : decode cX3_line 35 = .ok (.baload, 1) := by decide +kernel
theorem dX3_line_36 : decode cX3_line 36 = .ok (.bipush 13, 2) := by decide +kernel
theorem dX3_line_38 : decode cX3_line 38 = .ok (.if_icmp .ne 16, 3) := by decide +kernel
theorem dX3_line_41 : decode cX3_line 41 = .ok (.aload_n 0, 1) := by decide +kernel
theorem dX3_line_42 : decode cX3_line 42 = .ok (.getfield 14, 3) := by decide +kernel
theorem dX3_line_45 : decode cX3_line 45 = .ok (.iload_n 1, 1) := by decide +kernel
theorem dX3_line_46 : decode cX3_line 46 = .ok (.iconst 1, 1) := by decide +kernel
theorem dX3_line_47 : decode cX3_line 47 = .ok (.iadd, 1) := by decide +kernel
theorem dX3_line_48 : decode cX3_line 48 = .ok (.baload, 1) := by decide +kernel
theorem dX3_line_49 : decode cX3_line 49 = .ok (.bipush 10, 2) := by decide +kernel
theorem dX3_line_51 : decode cX3_line 51 = .ok (.if_icmp .eq 9, 3) := by decide +kernel
theorem dX3_line_54 : decode cX3_line 54 = .ok (.iinc 1 1, 3) := by decide +kernel
theorem dX3_line_57 : decode cX3_line 57 = .ok (.goto (-50), 3) := by decide +kernel
theorem dX3_line_60 : decode cX3_line 60 = .ok (.iload_n 1, 1) := by decide +kernel
theorem dX3_line_61 : decode cX3_line 61 = .ok (.iconst 1, 1) := by decide +kernel
theorem dX3_line_62 : decode cX3_line 62 = .ok (.iadd, 1) := by decide +kernel
theorem dX3_line_63 : decode cX3_line 63 = .ok (.aload_n 0, 1) := by decide +kernel
theorem dX3_line_64 : decode cX3_line 64 = .ok (.getfield 35, 3) := by decide +kernel
theorem dX3_line_67 : decode cX3_line 67 = .ok (.if_icmp .ge 20, 3) := by decide +kernel
theorem dX3_line_70 : decode cX3_line 70 = .ok (.iload_n 1, 1) := by decide +kernel
theorem dX3_line_71 : decode cX3_line 71 = .ok (.iconst 1, 1) := by decide +kernel
theorem dX3_line_72 : decode cX3_line 72 = .ok (.iadd, 1) := by decide +kernel
theorem dX3_line_73 : decode cX3_line 73 = .ok (.aload_n 0, 1) := by decide +kernel
theorem dX3_line_74 : decode cX3_line 74 = .ok (.getfield 41, 3) := by decide +kernel
theorem dX3_line_77 : decode cX3_line 77 = .ok (.bipush 16, 2) := by decide +kernel
theorem dX3_line_79 : decode cX3_line 79 = .ok (.iadd, 1) := by decide +kernel
theorem dX3_line_80 : decode cX3_line 80 = .ok (.if_icmp .ge 7, 3) := by decide +kernel
theorem dX3_line_83 : decode cX3_line 83 = .ok (.iconst 1, 1) := by decide +kernel
theorem dX3_line_84 : decode cX3_line 84 = .ok (.goto 4, 3) := by decide +kernel
theorem dX3_line_87 : decode cX3_line 87 = .ok (.iconst 0, 1) := by decide +kernel
theorem dX3_line_88 : decode cX3_line 88 = .ok (.istore_n 2, 1) := by decide +kernel
theorem dX3_line_89 : decode cX3_line 89 = .ok (.iload_n 2, 1) := by decide +kernel
theorem dX3_line_90 : decode cX3_line 90 = .ok (.ifCond .ne 25, 3) := by decide +kernel
theorem dX3_line_93 : decode cX3_line 93 = .ok (.aload_n 0, 1) := by decide +kernel
theorem dX3_line_94 : decode cX3_line 94 = .ok (.getfield 35, 3) := by decide +kernel
theorem dX3_line_97 : decode cX3_line 97 = .ok (.aload_n 0, 1) := by decide +kernel
theorem dX3_line_98 : decode cX3_line 98 = .ok (.getfield 41, 3) := by decide +kernel
theorem dX3_line_101 : decode cX3_line 101 = .ok (.isub, 1) := by decide +kernel
theorem dX3_line_102 : decode cX3_line 102 = .ok (.bipush 16, 2) := by decide +kernel
theorem dX3_line_104 : decode cX3_line 104 = .ok (.if_icmp .lt 8, 3) := by decide +kernel
theorem dX3_line_107 : decode cX3_line 107 = .ok (.ldc 44, 2) := by decide +kernel
theorem dX3_line_109 : decode cX3_line 109 = .ok (.goto 5, 3) := by decide +kernel
theorem dX3_line_112 : decode cX3_line 112 = .ok (.ldc 45, 2) := by decide +kernel
theorem dX3_line_114 : decode cX3_line 114 = .ok (.ireturn, 1) := by decide +kernel
theorem dX3_line_115 : decode cX3_line 115 = .ok (.aload_n 0, 1) := by decide +kernel
theorem dX3_line_116 : decode cX3_line 116 = .ok (.getfield 41, 3) := by decide +kernel
theorem dX3_line_119 : decode cX3_line 119 = .ok (.iconst 1, 1) := by decide +kernel
theorem dX3_line_120 : decode cX3_line 120 = .ok (.iadd, 1) := by decide +kernel
theorem dX3_line_121 : decode cX3_line 121 = .ok (.istore_n 3, 1) := by decide +kernel
theorem dX3_line_122 : decode cX3_line 122 = .ok (.aload_n 0, 1) := by decide +kernel
theorem dX3_line_123 : decode cX3_line 123 = .ok (.getfield 14, 3) := by decide +kernel
theorem dX3_line_126 : decode cX3_line 126 = .ok (.iload_n 3, 1) := by decide +kernel
theorem dX3_line_127 : decode cX3_line 127 = .ok (.baload, 1) := by decide +kernel
theorem dX3_line_128 : decode cX3_line 128 = .ok (.bipush 45, 2) := by decide +kernel
theorem dX3_line_130 : decode cX3_line 130 = .ok (.if_icmp .ne 7, 3) := by decide +kernel
theorem dX3_line_133 : decode cX3_line 133 = .ok (.iconst 1, 1) := by decide +kernel
theorem dX3_line_134 : decode cX3_line 134 = .ok (.goto 4, 3) := by decide +kernel
theorem dX3_line_137 : decode cX3_line 137 = .ok (.iconst 0, 1) := by decide +kernel
theorem dX3_line_138 : decode cX3_line 138 = .ok (.istore 4, 2) := by decide +kernel
theorem dX3_line_140 : decode cX3_line 140 = .ok (.iload 4, 2) := by decide +kernel
theorem dX3_line_142 : decode cX3_line 142 = .ok (.ifCond .eq 9, 3) := by decide +kernel
theorem dX3_line_145 : decode cX3_line 145 = .ok (.iload_n 3, 1) := by decide +kernel
theorem dX3_line_146 : decode cX3_line 146 = .ok (.iconst 1, 1) := by decide +kernel
theorem dX3_line_147 : decode cX3_line 147 = .ok (.iadd, 1) := by decide +kernel
theorem dX3_line_148 : decode cX3_line 148 = .ok (.goto 4, 3) := by decide +kernel
theorem dX3_line_151 : decode cX3_line 151 = .ok (.iload_n 3, 1) := by decide +kernel
theorem dX3_line_152 : decode cX3_line 152 = .ok (.istore_n 3, 1) := by decide +kernel
theorem dX3_line_153 : decode cX3_line 153 = .ok (.iconst 0, 1) := by decide +kernel
theorem dX3_line_154 : decode cX3_line 154 = .ok (.istore 5, 2) := by decide +kernel
theorem dX3_line_156 : decode cX3_line 156 = .ok (.iload_n 1, 1) := by decide +kernel
theorem dX3_line_157 : decode cX3_line 157 = .ok (.iload_n 3, 1) := by decide +kernel
theorem dX3_line_158 : decode cX3_line 158 = .ok (.if_icmp .le 15, 3) := by decide +kernel
theorem dX3_line_161 : decode cX3_line 161 = .ok (.iload_n 1, 1) := by decide +kernel
theorem dX3_line_162 : decode cX3_line 162 = .ok (.iload_n 3, 1) := by decide +kernel
theorem dX3_line_163 : decode cX3_line 163 = .ok (.bipush 6, 2) := by decide +kernel
theorem dX3_line_165 : decode cX3_line 165 = .ok (.iadd, 1) := by decide +kernel
theorem dX3_line_166 : decode cX3_line 166 = .ok (.if_icmp .gt 7, 3) := by decide +kernel
theorem dX3_line_169 : decode cX3_line 169 = .ok (.iconst 1, 1) := by decide +kernel
theorem dX3_line_170 : decode cX3_line 170 = .ok (.goto 4, 3) := by decide +kernel
theorem dX3_line_173 : decode cX3_line 173 = .ok (.iconst 0, 1) := by decide +kernel
theorem dX3_line_174 : decode cX3_line 174 = .ok (.istore 6, 2) := by decide +kernel
theorem dX3_line_176 : decode cX3_line 176 = .ok (.iload_n 3, 1) := by decide +kernel
theorem dX3_line_177 : decode cX3_line 177 = .ok (.istore 7, 2) := by decide +kernel
theorem dX3_line_179 : decode cX3_line 179 = .ok (.iload 7, 2) := by decide +kernel
theorem dX3_line_181 : decode cX3_line 181 = .ok (.iload_n 1, 1) := by decide +kernel
theorem dX3_line_182 : decode cX3_line 182 = .ok (.if_icmp .ge 72, 3) := by decide +kernel
theorem dX3_line_185 : decode cX3_line 185 = .ok (.iload 6, 2) := by decide +kernel
theorem dX3_line_187 : decode cX3_line 187 = .ok (.ifCond .eq 31, 3) := by decide +kernel
theorem dX3_line_190 : decode cX3_line 190 = .ok (.aload_n 0, 1) := by decide +kernel
theorem dX3_line_191 : decode cX3_line 191 = .ok (.getfield 14, 3) := by decide +kernel
theorem dX3_line_194 : decode cX3_line 194 = .ok (.iload 7, 2) := by decide +kernel
theorem dX3_line_196 : decode cX3_line 196 = .ok (.baload, 1) := by decide +kernel
theorem dX3_line_197 : decode cX3_line 197 = .ok (.bipush 48, 2) := by decide +kernel
theorem dX3_line_199 : decode cX3_line 199 = .ok (.if_icmp .lt 19, 3) := by decide +kernel
theorem dX3_line_202 : decode cX3_line 202 = .ok (.aload_n 0, 1) := by decide +kernel
theorem dX3_line_203 : decode cX3_line 203 = .ok (.getfield 14, 3) := by decide +kernel
theorem dX3_line_206 : decode cX3_line 206 = .ok (.iload 7, 2) := by decide +kernel
theorem dX3_line_208 : decode cX3_line 208 = .ok (.baload, 1) := by decide +kernel
theorem dX3_line_209 : decode cX3_line 209 = .ok (.bipush 57, 2) := by decide +kernel
theorem dX3_line_211 : decode cX3_line 211 = .ok (.if_icmp .gt 7, 3) := by decide +kernel
theorem dX3_line_214 : decode cX3_line 214 = .ok (.iconst 1, 1) := by decide +kernel
theorem dX3_line_215 : decode cX3_line 215 = .ok (.goto 4, 3) := by decide +kernel
theorem dX3_line_218 : decode cX3_line 218 = .ok (.iconst 0, 1) := by decide +kernel
theorem dX3_line_219 : decode cX3_line 219 = .ok (.istore 6, 2) := by decide +kernel
theorem dX3_line_221 : decode cX3_line 221 = .ok (.iload 6, 2) := by decide +kernel
theorem dX3_line_223 : decode cX3_line 223 = .ok (.ifCond .eq 22, 3) := by decide +kernel
theorem dX3_line_226 : decode cX3_line 226 = .ok (.bipush 10, 2) := by decide +kernel
theorem dX3_line_228 : decode cX3_line 228 = .ok (.iload 5, 2) := by decide +kernel
theorem dX3_line_230 : decode cX3_line 230 = .ok (.imul, 1) := by decide +kernel
theorem dX3_line_231 : decode cX3_line 231 = .ok (.aload_n 0, 1) := by decide +kernel
theorem dX3_line_232 : decode cX3_line 232 = .ok (.getfield 14, 3) := by decide +kernel
theorem dX3_line_235 : decode cX3_line 235 = .ok (.iload 7, 2) := by decide +kernel
theorem dX3_line_237 : decode cX3_line 237 = .ok (.baload, 1) := by decide +kernel
theorem dX3_line_238 : decode cX3_line 238 = .ok (.iadd, 1) := by decide +kernel
theorem dX3_line_239 : decode cX3_line 239 = .ok (.bipush 48, 2) := by decide +kernel
theorem dX3_line_241 : decode cX3_line 241 = .ok (.isub, 1) := by decide +kernel
theorem dX3_line_242 : decode cX3_line 242 = .ok (.goto 4, 3) := by decide +kernel
theorem dX3_line_245 : decode cX3_line 245 = .ok (.iconst 0, 1) := by decide +kernel
theorem dX3_line_246 : decode cX3_line 246 = .ok (.istore 5, 2) := by decide +kernel
theorem dX3_line_248 : decode cX3_line 248 = .ok (.iinc 7 1, 3) := by decide +kernel
theorem dX3_line_251 : decode cX3_line 251 = .ok (.goto (-72), 3) := by decide +kernel
theorem dX3_line_254 : decode cX3_line 254 = .ok (.aload_n 0, 1) := by decide +kernel
theorem dX3_line_255 : decode cX3_line 255 = .ok (.iload_n 1, 1) := by decide +kernel
theorem dX3_line_256 : decode cX3_line 256 = .ok (.iconst 2, 1) := by decide +kernel
theorem dX3_line_257 : decode cX3_line 257 = .ok (.iadd, 1) := by decide +kernel
theorem dX3_line_258 : decode cX3_line 258 = .ok (.putfield 41, 3) := by decide +kernel
theorem dX3_line_261 : decode cX3_line 261 = .ok (.iload 6, 2) := by decide +kernel
theorem dX3_line_263 : decode cX3_line 263 = .ok (.ifCond .ne 8, 3) := by decide +kernel
theorem dX3_line_266 : decode cX3_line 266 = .ok (.ldc 44, 2) := by decide +kernel
theorem dX3_line_268 : decode cX3_line 268 = .ok (.goto 16, 3) := by decide +kernel
theorem dX3_line_271 : decode cX3_line 271 = .ok (.iload 4, 2) := by decide +kernel
theorem dX3_line_273 : decode cX3_line 273 = .ok (.ifCond .eq 9, 3) := by decide +kernel
theorem dX3_line_276 : decode cX3_line 276 = .ok (.iload 5, 2) := by decide +kernel
theorem dX3_line_278 : decode cX3_line 278 = .ok (.ineg, 1) := by decide +kernel
theorem dX3_line_279 : decode cX3_line 279 = .ok (.goto 5, 3) := by decide +kernel
theorem dX3_line_282 : decode cX3_line 282 = .ok (.iload 5, 2) := by decide +kernel
theorem dX3_line_284 : decode cX3_line 284 = .ok (.ireturn, 1) := by decide +kernel
theorem dX3_told_0 : decode cX3_told 0 = .ok (.aload_n 0, 1) := by decide +kernel
theorem dX3_told_1 : decode cX3_told 1 = .ok (.bipush 36, 2) := by decide +kernel
theorem dX3_told_3 : decode cX3_told 3 = .ok (.invokevirtual 52, 3) := by decide +kernel
theorem dX3_told_6 : decode cX3_told 6 = .ok (.istore_n 1, 1) := by decide +kernel
theorem dX3_told_7 : decode cX3_told 7 = .ok (.aload_n 0, 1) := by decide +kernel
theorem dX3_told_8 : decode cX3_told 8 = .ok (.iload_n 1, 1) := by decide +kernel
theorem dX3_told_9 : decode cX3_told 9 = .ok (.ifCond .ge 7, 3) := by decide +kernel
theorem dX3_told_12 : decode cX3_told 12 = .ok (.iconst 2, 1) := by decide +kernel
theorem dX3_told_13 : decode cX3_told 13 = .ok (.goto 4, 3) := by decide +kernel
theorem dX3_told_16 : decode cX3_told 16 = .ok (.iconst 0, 1) := by decide +kernel
theorem dX3_told_17 : decode cX3_told 17 = .ok (.putfield 56, 3) := by decide +kernel
theorem dX3_told_20 : decode cX3_told 20 = .ok (.iload_n 1, 1) := by decide +kernel
theorem dX3_told_21 : decode cX3_told 21 = .ok (.iconst 1, 1) := by decide +kernel
theorem dX3_told_22 : decode cX3_told 22 = .ok (.if_icmp .ge 5, 3) := by decide +kernel
theorem dX3_told_25 : decode cX3_told 25 = .ok (.iconst 0, 1) := by decide +kernel
theorem dX3_told_26 : decode cX3_told 26 = .ok (.ireturn, 1) := by decide +kernel
theorem dX3_told_27 : decode cX3_told 27 = .ok (.aload_n 0, 1) := by decide +kernel
theorem dX3_told_28 : decode cX3_told 28 = .ok (.dup, 1) := by decide +kernel
theorem dX3_told_29 : decode cX3_told 29 = .ok (.getfield 41, 3) := by decide +kernel
theorem dX3_told_32 : decode cX3_told 32 = .ok (.iconst 1, 1) := by decide +kernel
theorem dX3_told_33 : decode cX3_told 33 = .ok (.isub, 1) := by decide +kernel
theorem dX3_told_34 : decode cX3_told 34 = .ok (.putfield 41, 3) := by decide +kernel
theorem dX3_told_37 : decode cX3_told 37 = .ok (.aload_n 0, 1) := by decide +kernel
theorem dX3_told_38 : decode cX3_told 38 = .ok (.invokevirtual 59, 3) := by decide +kernel
theorem dX3_told_41 : decode cX3_told 41 = .ok (.istore_n 2, 1) := by decide +kernel
theorem dX3_told_42 : decode cX3_told 42 = .ok (.aload_n 0, 1) := by decide +kernel
theorem dX3_told_43 : decode cX3_told 43 = .ok (.iload_n 2, 1) := by decide +kernel
theorem dX3_told_44 : decode cX3_told 44 = .ok (.ldc 44, 2) := by decide +kernel
theorem dX3_told_46 : decode cX3_told 46 = .ok (.if_icmp .eq 20, 3) := by decide +kernel
theorem dX3_told_49 : decode cX3_told 49 = .ok (.iload_n 2, 1) := by decide +kernel
theorem dX3_told_50 : decode cX3_told 50 = .ok (.ldc 45, 2) := by decide +kernel
theorem dX3_told_52 : decode cX3_told 52 = .ok (.if_icmp .eq 18, 3) := by decide +kernel
theorem dX3_told_55 : decode cX3_told 55 = .ok (.iload_n 2, 1) := by decide +kernel
theorem dX3_told_56 : decode cX3_told 56 = .ok (.ifCond .lt 10, 3) := by decide +kernel
theorem dX3_told_59 : decode cX3_told 59 = .ok (.iload_n 2, 1) := by decide +kernel
theorem dX3_told_60 : decode cX3_told 60 = .ok (.sipush 16384, 3) := by decide +kernel
theorem dX3_told_63 : decode cX3_told 63 = .ok (.if_icmp .le 7, 3) := by decide +kernel
theorem dX3_told_66 : decode cX3_told 66 = .ok (.iconst 3, 1) := by decide +kernel
theorem dX3_told_67 : decode cX3_told 67 = .ok (.goto 4, 3) := by decide +kernel
theorem dX3_told_70 : decode cX3_told 70 = .ok (.iconst 0, 1) := by decide +kernel
theorem dX3_told_71 : decode cX3_told 71 = .ok (.putfield 56, 3) := by decide +kernel
theorem dX3_told_74 : decode cX3_told 74 = .ok (.iload_n 2, 1) := by decide +kernel
theorem dX3_told_75 : decode cX3_told 75 = .ok (.ifCond .lt 10, 3) := by decide +kernel
theorem dX3_told_78 : decode cX3_told 78 = .ok (.aload_n 0, 1) := by decide +kernel
theorem dX3_told_79 : decode cX3_told 79 = .ok (.getfield 56, 3) := by decide +kernel
theorem dX3_told_82 : decode cX3_told 82 = .ok (.ifCond .le 5, 3) := by decide +kernel
theorem dX3_told_85 : decode cX3_told 85 = .ok (.iconst 0, 1) := by decide +kernel
theorem dX3_told_86 : decode cX3_told 86 = .ok (.ireturn, 1) := by decide +kernel
theorem dX3_told_87 : decode cX3_told 87 = .ok (.aload_n 0, 1) := by decide +kernel
theorem dX3_told_88 : decode cX3_told 88 = .ok (.getfield 41, 3) := by decide +kernel
theorem dX3_told_91 : decode cX3_told 91 = .ok (.istore_n 3, 1) := by decide +kernel
theorem dX3_told_92 : decode cX3_told 92 = .ok (.aload_n 0, 1) := by decide +kernel
theorem dX3_told_93 : decode cX3_told 93 = .ok (.dup, 1) := by decide +kernel
theorem dX3_told_94 : decode cX3_told 94 = .ok (.getfield 41, 3) := by decide +kernel
theorem dX3_told_97 : decode cX3_told 97 = .ok (.iload_n 2, 1) := by decide +kernel
theorem dX3_told_98 : decode cX3_told 98 = .ok (.iadd, 1) := by decide +kernel
theorem dX3_told_99 : decode cX3_told 99 = .ok (.putfield 41, 3) := by decide +kernel
theorem dX3_told_102 : decode cX3_told 102 = .ok (.aload_n 0, 1) := by decide +kernel
theorem dX3_told_103 : decode cX3_told 103 = .ok (.bipush 13, 2) := by decide +kernel
theorem dX3_told_105 : decode cX3_told 105 = .ok (.invokevirtual 52, 3) := by decide +kernel
theorem dX3_told_108 : decode cX3_told 108 = .ok (.istore 4, 2) := by decide +kernel
theorem dX3_told_110 : decode cX3_told 110 = .ok (.iload 4, 2) := by decide +kernel
theorem dX3_told_112 : decode cX3_told 112 = .ok (.ifCond .le 12, 3) := by decide +kernel
theorem dX3_told_115 : decode cX3_told 115 = .ok (.aload_n 0, 1) := by decide +kernel
theorem dX3_told_116 : decode cX3_told 116 = .ok (.bipush 10, 2) := by decide +kernel
theorem dX3_told_118 : decode cX3_told 118 = .ok (.invokevirtual 52, 3) := by decide +kernel
theorem dX3_told_121 : decode cX3_told 121 = .ok (.goto 4, 3) := by decide +kernel
theorem dX3_told_124 : decode cX3_told 124 = .ok (.iconst 0, 1) := by decide +kernel
theorem dX3_told_125 : decode cX3_told 125 = .ok (.istore 5, 2) := by decide +kernel
theorem dX3_told_127 : decode cX3_told 127 = .ok (.aload_n 0, 1) := by decide +kernel
theorem dX3_told_128 : decode cX3_told 128 = .ok (.iload 4, 2) := by decide +kernel
theorem dX3_told_130 : decode cX3_told 130 = .ok (.ifCond .lt 8, 3) := by decide +kernel
theorem dX3_told_133 : decode cX3_told 133 = .ok (.iload 5, 2) := by decide +kernel
theorem dX3_told_135 : decode cX3_told 135 = .ok (.ifCond .ge 7, 3) := by decide +kernel
theorem dX3_told_138 : decode cX3_told 138 = .ok (.iconst 4, 1) := by decide +kernel
theorem dX3_told_139 : decode cX3_told 139 = .ok (.goto 4, 3) := by decide +kernel
theorem dX3_told_142 : decode cX3_told 142 = .ok (.iconst 0, 1) := by decide +kernel
theorem dX3_told_143 : decode cX3_told 143 = .ok (.putfield 56, 3) := by decide +kernel
theorem dX3_told_146 : decode cX3_told 146 = .ok (.iload 5, 2) := by decide +kernel
theorem dX3_told_148 : decode cX3_told 148 = .ok (.iconst 1, 1) := by decide +kernel
theorem dX3_told_149 : decode cX3_told 149 = .ok (.if_icmp .ge 5, 3) := by decide +kernel
theorem dX3_told_152 : decode cX3_told 152 = .ok (.iconst 0, 1) := by decide +kernel
theorem dX3_told_153 : decode cX3_told 153 = .ok (.ireturn, 1) := by decide +kernel
theorem dX3_told_154 : decode cX3_told 154 = .ok (.aload_n 0, 1) := by decide +kernel
theorem dX3_told_155 : decode cX3_told 155 = .ok (.iload_n 3, 1) := by decide +kernel
theorem dX3_told_156 : decode cX3_told 156 = .ok (.iload_n 2, 1) := by decide +kernel
theorem dX3_told_157 : decode cX3_told 157 = .ok (.invokevirtual 63, 3) := by decide +kernel
theorem dX3_told_160 : decode cX3_told 160 = .ok (.iconst 1, 1) := by decide +kernel
theorem dX3_told_161 : decode cX3_told 161 = .ok (.ireturn, 1) := by decide +kernel
theorem dX3_must_0 : decode cX3_must 0 = .ok (.aload_n 0, 1) := by decide +kernel
theorem dX3_must_1 : decode cX3_must 1 = .ok (.getfield 41, 3) := by decide +kernel
theorem dX3_must_4 : decode cX3_must 4 = .ok (.aload_n 0, 1) := by decide +kernel
theorem dX3_must_5 : decode cX3_must 5 = .ok (.getfield 35, 3) := by decide +kernel
theorem dX3_must_8 : decode cX3_must 8 = .ok (.if_icmp .lt 5, 3) := by decide +kernel
theorem dX3_must_11 : decode cX3_must 11 = .ok (.iconst 0, 1) := by decide +kernel
theorem dX3_must_12 : decode cX3_must 12 = .ok (.ireturn, 1) := by decide +kernel
theorem dX3_must_13 : decode cX3_must 13 = .ok (.aload_n 0, 1) := by decide +kernel
theorem dX3_must_14 : decode cX3_must 14 = .ok (.getfield 14, 3) := by decide +kernel
theorem dX3_must_17 : decode cX3_must 17 = .ok (.aload_n 0, 1) := by decide +kernel
theorem dX3_must_18 : decode cX3_must 18 = .ok (.getfield 41, 3) := by decide +kernel
theorem dX3_must_21 : decode cX3_must 21 = .ok (.baload, 1) := by decide +kernel
theorem dX3_must_22 : decode cX3_must 22 = .ok (.iload_n 1, 1) := by decide +kernel
theorem dX3_must_23 : decode cX3_must 23 = .ok (.if_icmp .ne 7, 3) := by decide +kernel
theorem dX3_must_26 : decode cX3_must 26 = .ok (.iconst 1, 1) := by decide +kernel
theorem dX3_must_27 : decode cX3_must 27 = .ok (.goto 4, 3) := by decide +kernel
theorem dX3_must_30 : decode cX3_must 30 = .ok (.iconst 0, 1) := by decide +kernel
theorem dX3_must_31 : decode cX3_must 31 = .ok (.istore_n 2, 1) := by decide +kernel
theorem dX3_must_32 : decode cX3_must 32 = .ok (.aload_n 0, 1) := by decide +kernel
theorem dX3_must_33 : decode cX3_must 33 = .ok (.dup, 1) := by decide +kernel
theorem dX3_must_34 : decode cX3_must 34 = .ok (.getfield 41, 3) := by decide +kernel
theorem dX3_must_37 : decode cX3_must 37 = .ok (.iconst 1, 1) := by decide +kernel
theorem dX3_must_38 : decode cX3_must 38 = .ok (.iadd, 1) := by decide +kernel
theorem dX3_must_39 : decode cX3_must 39 = .ok (.putfield 41, 3) := by decide +kernel
theorem dX3_must_42 : decode cX3_must 42 = .ok (.iload_n 2, 1) := by decide +kernel
theorem dX3_must_43 : decode cX3_must 43 = .ok (.ifCond .eq 7, 3) := by decide +kernel
theorem dX3_must_46 : decode cX3_must 46 = .ok (.iconst 1, 1) := by decide +kernel
theorem dX3_must_47 : decode cX3_must 47 = .ok (.goto 4, 3) := by decide +kernel
theorem dX3_must_50 : decode cX3_must 50 = .ok (.iconst (-1), 1) := by decide +kernel
theorem dX3_must_51 : decode cX3_must 51 = .ok (.ireturn, 1) := by decide +kernel
theorem dX3_word_0 : decode cX3_word 0 = .ok (.aload_n 0, 1) := by decide +kernel
theorem dX3_word_1 : decode cX3_word 1 = .ok (.getfield 20, 3) := by decide +kernel
theorem dX3_word_4 : decode cX3_word 4 = .ok (.aload_n 0, 1) := by decide +kernel
theorem dX3_word_5 : decode cX3_word 5 = .ok (.getfield 46, 3) := by decide +kernel
theorem dX3_word_8 : decode cX3_word 8 = .ok (.aload_n 0, 1) := by decide +kernel
theorem dX3_word_9 : decode cX3_word 9 = .ok (.getfield 49, 3) := by decide +kernel
theorem dX3_word_12 : decode cX3_word 12 = .ok (.iastore, 1) := by decide +kernel
theorem dX3_word_13 : decode cX3_word 13 = .ok (.aload_n 0, 1) := by decide +kernel
theorem dX3_word_14 : decode cX3_word 14 = .ok (.getfield 24, 3) := by decide +kernel
theorem dX3_word_17 : decode cX3_word 17 = .ok (.aload_n 0, 1) := by decide +kernel
theorem dX3_word_18 : decode cX3_word 18 = .ok (.getfield 46, 3) := by decide +kernel
theorem dX3_word_21 : decode cX3_word 21 = .ok (.iload_n 2, 1) := by decide +kernel
theorem dX3_word_22 : decode cX3_word 22 = .ok (.iastore, 1) := by decide +kernel
theorem dX3_word_23 : decode cX3_word 23 = .ok (.iconst 0, 1) := by decide +kernel
theorem dX3_word_24 : decode cX3_word 24 = .ok (.istore_n 3, 1) := by decide +kernel
theorem dX3_word_25 : decode cX3_word 25 = .ok (.iload_n 3, 1) := by decide +kernel
theorem dX3_word_26 : decode cX3_word 26 = .ok (.iload_n 2, 1) := by decide +kernel
theorem dX3_word_27 : decode cX3_word 27 = .ok (.if_icmp .ge 28, 3) := by decide +kernel
theorem dX3_word_30 : decode cX3_word 30 = .ok (.aload_n 0, 1) := by decide +kernel
theorem dX3_word_31 : decode cX3_word 31 = .ok (.getfield 17, 3) := by decide +kernel
theorem dX3_word_34 : decode cX3_word 34 = .ok (.aload_n 0, 1) := by decide +kernel
theorem dX3_word_35 : decode cX3_word 35 = .ok (.getfield 49, 3) := by decide +kernel
theorem dX3_word_38 : decode cX3_word 38 = .ok (.iload_n 3, 1) := by decide +kernel
theorem dX3_word_39 : decode cX3_word 39 = .ok (.iadd, 1) := by decide +kernel
theorem dX3_word_40 : decode cX3_word 40 = .ok (.aload_n 0, 1) := by decide +kernel
theorem dX3_word_41 : decode cX3_word 41 = .ok (.getfield 14, 3) := by decide +kernel
theorem dX3_word_44 : decode cX3_word 44 = .ok (.iload_n 1, 1) := by decide +kernel
theorem dX3_word_45 : decode cX3_word 45 = .ok (.iload_n 3, 1) := by decide +kernel
theorem dX3_word_46 : decode cX3_word 46 = .ok (.iadd, 1) := by decide +kernel
theorem dX3_word_47 : decode cX3_word 47 = .ok (.baload, 1) := by decide +kernel
theorem dX3_word_48 : decode cX3_word 48 = .ok (.bastore, 1) := by decide +kernel
theorem dX3_word_49 : decode cX3_word 49 = .ok (.iinc 3 1, 3) := by decide +kernel
theorem dX3_word_52 : decode cX3_word 52 = .ok (.goto (-27), 3) := by decide +kernel
theorem dX3_word_55 : decode cX3_word 55 = .ok (.aload_n 0, 1) := by decide +kernel
theorem dX3_word_56 : decode cX3_word 56 = .ok (.dup, 1) := by decide +kernel
theorem dX3_word_57 : decode cX3_word 57 = .ok (.getfield 49, 3) := by decide +kernel
theorem dX3_word_60 : decode cX3_word 60 = .ok (.iload_n 2, 1) := by decide +kernel
theorem dX3_word_61 : decode cX3_word 61 = .ok (.iadd, 1) := by decide +kernel
theorem dX3_word_62 : decode cX3_word 62 = .ok (.putfield 49, 3) := by decide +kernel
theorem dX3_word_65 : decode cX3_word 65 = .ok (.aload_n 0, 1) := by decide +kernel
theorem dX3_word_66 : decode cX3_word 66 = .ok (.dup, 1) := by decide +kernel
theorem dX3_word_67 : decode cX3_word 67 = .ok (.getfield 46, 3) := by decide +kernel
theorem dX3_word_70 : decode cX3_word 70 = .ok (.iconst 1, 1) := by decide +kernel
theorem dX3_word_71 : decode cX3_word 71 = .ok (.iadd, 1) := by decide +kernel
theorem dX3_word_72 : decode cX3_word 72 = .ok (.putfield 46, 3) := by decide +kernel
theorem dX3_word_75 : decode cX3_word 75 = .ok (.return_, 1) := by decide +kernel
theorem dX3_cutLine_0 : decode cX3_cutLine 0 = .ok (.iconst 0, 1) := by decide +kernel
theorem dX3_cutLine_1 : decode cX3_cutLine 1 = .ok (.istore_n 1, 1) := by decide +kernel
theorem dX3_cutLine_2 : decode cX3_cutLine 2 = .ok (.iload_n 1, 1) := by decide +kernel
theorem dX3_cutLine_3 : decode cX3_cutLine 3 = .ok (.aload_n 0, 1) := by decide +kernel
theorem dX3_cutLine_4 : decode cX3_cutLine 4 = .ok (.getfield 35, 3) := by decide +kernel
theorem dX3_cutLine_7 : decode cX3_cutLine 7 = .ok (.if_icmp .ge 27, 3) := by decide +kernel
theorem dX3_cutLine_10 : decode cX3_cutLine 10 = .ok (.iload_n 1, 1) := by decide +kernel
theorem dX3_cutLine_11 : decode cX3_cutLine 11 = .ok (.sipush 2048, 3) := by decide +kernel
theorem dX3_cutLine_14 : decode cX3_cutLine 14 = .ok (.if_icmp .ge 20, 3) := by decide +kernel
theorem dX3_cutLine_17 : decode cX3_cutLine 17 = .ok (.aload_n 0, 1) := by decide +kernel
theorem dX3_cutLine_18 : decode cX3_cutLine 18 = .ok (.getfield 14, 3) := by decide +kernel
theorem dX3_cutLine_21 : decode cX3_cutLine 21 = .ok (.iload_n 1, 1) := by decide +kernel
theorem dX3_cutLine_22 : decode cX3_cutLine 22 = .ok (.baload, 1) := by decide +kernel
theorem dX3_cutLine_23 : decode cX3_cutLine 23 = .ok (.bipush 10, 2) := by decide +kernel
theorem dX3_cutLine_25 : decode cX3_cutLine 25 = .ok (.if_icmp .eq 9, 3) := by decide +kernel
theorem dX3_cutLine_28 : decode cX3_cutLine 28 = .ok (.iinc 1 1, 3) := by decide +kernel
theorem dX3_cutLine_31 : decode cX3_cutLine 31 = .ok (.goto (-29), 3) := by decide +kernel
theorem dX3_cutLine_34 : decode cX3_cutLine 34 = .ok (.aload_n 0, 1) := by decide +kernel
theorem dX3_cutLine_35 : decode cX3_cutLine 35 = .ok (.iload_n 1, 1) := by decide +kernel
theorem dX3_cutLine_36 : decode cX3_cutLine 36 = .ok (.sipush 2048, 3) := by decide +kernel
theorem dX3_cutLine_39 : decode cX3_cutLine 39 = .ok (.if_icmp .ne 7, 3) := by decide +kernel
theorem dX3_cutLine_42 : decode cX3_cutLine 42 = .ok (.iconst 5, 1) := by decide +kernel
theorem dX3_cutLine_43 : decode cX3_cutLine 43 = .ok (.goto 4, 3) := by decide +kernel
theorem dX3_cutLine_46 : decode cX3_cutLine 46 = .ok (.iconst 0, 1) := by decide +kernel
theorem dX3_cutLine_47 : decode cX3_cutLine 47 = .ok (.putfield 56, 3) := by decide +kernel
theorem dX3_cutLine_50 : decode cX3_cutLine 50 = .ok (.iload_n 1, 1) := by decide +kernel
theorem dX3_cutLine_51 : decode cX3_cutLine 51 = .ok (.sipush 2048, 3) := by decide +kernel
theorem dX3_cutLine_54 : decode cX3_cutLine 54 = .ok (.if_icmp .eq 11, 3) := by decide +kernel
theorem dX3_cutLine_57 : decode cX3_cutLine 57 = .ok (.iload_n 1, 1) := by decide +kernel
theorem dX3_cutLine_58 : decode cX3_cutLine 58 = .ok (.aload_n 0, 1) := by decide +kernel
theorem dX3_cutLine_59 : decode cX3_cutLine 59 = .ok (.getfield 35, 3) := by decide +kernel
theorem dX3_cutLine_62 : decode cX3_cutLine 62 = .ok (.if_icmp .ne 5, 3) := by decide +kernel
theorem dX3_cutLine_65 : decode cX3_cutLine 65 = .ok (.iconst 0, 1) := by decide +kernel
theorem dX3_cutLine_66 : decode cX3_cutLine 66 = .ok (.ireturn, 1) := by decide +kernel
theorem dX3_cutLine_67 : decode cX3_cutLine 67 = .ok (.aload_n 0, 1) := by decide +kernel
theorem dX3_cutLine_68 : decode cX3_cutLine 68 = .ok (.iload_n 1, 1) := by decide +kernel
theorem dX3_cutLine_69 : decode cX3_cutLine 69 = .ok (.iconst 1, 1) := by decide +kernel
theorem dX3_cutLine_70 : decode cX3_cutLine 70 = .ok (.iadd, 1) := by decide +kernel
theorem dX3_cutLine_71 : decode cX3_cutLine 71 = .ok (.putfield 41, 3) := by decide +kernel
theorem dX3_cutLine_74 : decode cX3_cutLine 74 = .ok (.iload_n 1, 1) := by decide +kernel
theorem dX3_cutLine_75 : decode cX3_cutLine 75 = .ok (.ifCond .le 22, 3) := by decide +kernel
theorem dX3_cutLine_78 : decode cX3_cutLine 78 = .ok (.aload_n 0, 1) := by decide +kernel
theorem dX3_cutLine_79 : decode cX3_cutLine 79 = .ok (.getfield 14, 3) := by decide +kernel
theorem dX3_cutLine_82 : decode cX3_cutLine 82 = .ok (.iload_n 1, 1) := by decide +kernel
theorem dX3_cutLine_83 : decode cX3_cutLine 83 = .ok (.iconst 1, 1) := by decide +kernel
theorem dX3_cutLine_84 : decode cX3_cutLine 84 = .ok (.isub, 1) := by decide +kernel
theorem dX3_cutLine_85 : decode cX3_cutLine 85 = .ok (.baload, 1) := by decide +kernel
theorem dX3_cutLine_86 : decode cX3_cutLine 86 = .ok (.bipush 13, 2) := by decide +kernel
theorem dX3_cutLine_88 : decode cX3_cutLine 88 = .ok (.if_icmp .ne 9, 3) := by decide +kernel
theorem dX3_cutLine_91 : decode cX3_cutLine 91 = .ok (.iload_n 1, 1) := by decide +kernel
theorem dX3_cutLine_92 : decode cX3_cutLine 92 = .ok (.iconst 1, 1) := by decide +kernel
theorem dX3_cutLine_93 : decode cX3_cutLine 93 = .ok (.isub, 1) := by decide +kernel
theorem dX3_cutLine_94 : decode cX3_cutLine 94 = .ok (.goto 4, 3) := by decide +kernel
theorem dX3_cutLine_97 : decode cX3_cutLine 97 = .ok (.iload_n 1, 1) := by decide +kernel
theorem dX3_cutLine_98 : decode cX3_cutLine 98 = .ok (.istore_n 2, 1) := by decide +kernel
theorem dX3_cutLine_99 : decode cX3_cutLine 99 = .ok (.iconst 0, 1) := by decide +kernel
theorem dX3_cutLine_100 : decode cX3_cutLine 100 = .ok (.istore_n 3, 1) := by decide +kernel
theorem dX3_cutLine_101 : decode cX3_cutLine 101 = .ok (.iload_n 3, 1) := by decide +kernel
theorem dX3_cutLine_102 : decode cX3_cutLine 102 = .ok (.iload_n 2, 1) := by decide +kernel
theorem dX3_cutLine_103 : decode cX3_cutLine 103 = .ok (.if_icmp .ge 53, 3) := by decide +kernel
theorem dX3_cutLine_106 : decode cX3_cutLine 106 = .ok (.iload_n 3, 1) := by decide +kernel
theorem dX3_cutLine_107 : decode cX3_cutLine 107 = .ok (.istore 4, 2) := by decide +kernel
theorem dX3_cutLine_109 : decode cX3_cutLine 109 = .ok (.iload 4, 2) := by decide +kernel
theorem dX3_cutLine_111 : decode cX3_cutLine 111 = .ok (.iload_n 2, 1) := by decide +kernel
theorem dX3_cutLine_112 : decode cX3_cutLine 112 = .ok (.if_icmp .ge 21, 3) := by decide +kernel
theorem dX3_cutLine_115 : decode cX3_cutLine 115 = .ok (.aload_n 0, 1) := by decide +kernel
theorem dX3_cutLine_116 : decode cX3_cutLine 116 = .ok (.getfield 14, 3) := by decide +kernel
theorem dX3_cutLine_119 : decode cX3_cutLine 119 = .ok (.iload 4, 2) := by decide +kernel
theorem dX3_cutLine_121 : decode cX3_cutLine 121 = .ok (.baload, 1) := by decide +kernel
theorem dX3_cutLine_122 : decode cX3_cutLine 122 = .ok (.bipush 32, 2) := by decide +kernel
theorem dX3_cutLine_124 : decode cX3_cutLine 124 = .ok (.if_icmp .eq 9, 3) := by decide +kernel
theorem dX3_cutLine_127 : decode cX3_cutLine 127 = .ok (.iinc 4 1, 3) := by decide +kernel
theorem dX3_cutLine_130 : decode cX3_cutLine 130 = .ok (.goto (-21), 3) := by decide +kernel
theorem dX3_cutLine_133 : decode cX3_cutLine 133 = .ok (.iload 4, 2) := by decide +kernel
theorem dX3_cutLine_135 : decode cX3_cutLine 135 = .ok (.iload_n 3, 1) := by decide +kernel
theorem dX3_cutLine_136 : decode cX3_cutLine 136 = .ok (.if_icmp .le 12, 3) := by decide +kernel
theorem dX3_cutLine_139 : decode cX3_cutLine 139 = .ok (.aload_n 0, 1) := by decide +kernel
theorem dX3_cutLine_140 : decode cX3_cutLine 140 = .ok (.iload_n 3, 1) := by decide +kernel
theorem dX3_cutLine_141 : decode cX3_cutLine 141 = .ok (.iload 4, 2) := by decide +kernel
theorem dX3_cutLine_143 : decode cX3_cutLine 143 = .ok (.iload_n 3, 1) := by decide +kernel
theorem dX3_cutLine_144 : decode cX3_cutLine 144 = .ok (.isub, 1) := by decide +kernel
theorem dX3_cutLine_145 : decode cX3_cutLine 145 = .ok (.invokevirtual 63, 3) := by decide +kernel
theorem dX3_cutLine_148 : decode cX3_cutLine 148 = .ok (.iload 4, 2) := by decide +kernel
theorem dX3_cutLine_150 : decode cX3_cutLine 150 = .ok (.iconst 1, 1) := by decide +kernel
theorem dX3_cutLine_151 : decode cX3_cutLine 151 = .ok (.iadd, 1) := by decide +kernel
theorem dX3_cutLine_152 : decode cX3_cutLine 152 = .ok (.istore_n 3, 1) := by decide +kernel
theorem dX3_cutLine_153 : decode cX3_cutLine 153 = .ok (.goto (-52), 3) := by decide +kernel
theorem dX3_cutLine_156 : decode cX3_cutLine 156 = .ok (.iconst 1, 1) := by decide +kernel
theorem dX3_cutLine_157 : decode cX3_cutLine 157 = .ok (.ireturn, 1) := by decide +kernel
theorem dX3_fault_0 : decode cX3_fault 0 = .ok (.aload_n 0, 1) := by decide +kernel
theorem dX3_fault_1 : decode cX3_fault 1 = .ok (.getfield 56, 3) := by decide +kernel
theorem dX3_fault_4 : decode cX3_fault 4 = .ok (.ireturn, 1) := by decide +kernel
theorem dX3_size_0 : decode cX3_size 0 = .ok (.iload_n 1, 1) := by decide +kernel
theorem dX3_size_1 : decode cX3_size 1 = .ok (.ifCond .lt 20, 3) := by decide +kernel
theorem dX3_size_4 : decode cX3_size 4 = .ok (.iload_n 1, 1) := by decide +kernel
theorem dX3_size_5 : decode cX3_size 5 = .ok (.aload_n 0, 1) := by decide +kernel
theorem dX3_size_6 : decode cX3_size 6 = .ok (.getfield 46, 3) := by decide +kernel
theorem dX3_size_9 : decode cX3_size 9 = .ok (.if_icmp .ge 12, 3) := by decide +kernel
theorem dX3_size_12 : decode cX3_size 12 = .ok (.aload_n 0, 1) := by decide +kernel
theorem dX3_size_13 : decode cX3_size 13 = .ok (.getfield 24, 3) := by decide +kernel
theorem dX3_size_16 : decode cX3_size 16 = .ok (.iload_n 1, 1) := by decide +kernel
theorem dX3_size_17 : decode cX3_size 17 = .ok (.iaload, 1) := by decide +kernel
theorem dX3_size_18 : decode cX3_size 18 = .ok (.goto 4, 3) := by decide +kernel
theorem dX3_size_21 : decode cX3_size 21 = .ok (.iconst (-1), 1) := by decide +kernel
theorem dX3_size_22 : decode cX3_size 22 = .ok (.ireturn, 1) := by decide +kernel
theorem dX3_byteOf_0 : decode cX3_byteOf 0 = .ok (.iload_n 2, 1) := by decide +kernel
theorem dX3_byteOf_1 : decode cX3_byteOf 1 = .ok (.ifCond .lt 32, 3) := by decide +kernel
theorem dX3_byteOf_4 : decode cX3_byteOf 4 = .ok (.iload_n 2, 1) := by decide +kernel
theorem dX3_byteOf_5 : decode cX3_byteOf 5 = .ok (.aload_n 0, 1) := by decide +kernel
theorem dX3_byteOf_6 : decode cX3_byteOf 6 = .ok (.iload_n 1, 1) := by decide +kernel
theorem dX3_byteOf_7 : decode cX3_byteOf 7 = .ok (.invokevirtual 77, 3) := by decide +kernel
theorem dX3_byteOf_10 : decode cX3_byteOf 10 = .ok (.if_icmp .ge 23, 3) := by decide +kernel
theorem dX3_byteOf_13 : decode cX3_byteOf 13 = .ok (.aload_n 0, 1) := by decide +kernel
theorem dX3_byteOf_14 : decode cX3_byteOf 14 = .ok (.getfield 17, 3) := by decide +kernel
theorem dX3_byteOf_17 : decode cX3_byteOf 17 = .ok (.aload_n 0, 1) := by decide +kernel
theorem dX3_byteOf_18 : decode cX3_byteOf 18 = .ok (.getfield 20, 3) := by decide +kernel
theorem dX3_byteOf_21 : decode cX3_byteOf 21 = .ok (.iload_n 1, 1) := by decide +kernel
theorem dX3_byteOf_22 : decode cX3_byteOf 22 = .ok (.iaload, 1) := by decide +kernel
theorem dX3_byteOf_23 : decode cX3_byteOf 23 = .ok (.iload_n 2, 1) := by decide +kernel
theorem dX3_byteOf_24 : decode cX3_byteOf 24 = .ok (.iadd, 1) := by decide +kernel
theorem dX3_byteOf_25 : decode cX3_byteOf 25 = .ok (.baload, 1) := by decide +kernel
theorem dX3_byteOf_26 : decode cX3_byteOf 26 = .ok (.sipush 255, 3) := by decide +kernel
theorem dX3_byteOf_29 : decode cX3_byteOf 29 = .ok (.iand, 1) := by decide +kernel
theorem dX3_byteOf_30 : decode cX3_byteOf 30 = .ok (.goto 4, 3) := by decide +kernel
theorem dX3_byteOf_33 : decode cX3_byteOf 33 = .ok (.iconst (-1), 1) := by decide +kernel
theorem dX3_byteOf_34 : decode cX3_byteOf 34 = .ok (.ireturn, 1) := by decide +kernel
theorem dX3_waiting_0 : decode cX3_waiting 0 = .ok (.aload_n 0, 1) := by decide +kernel
theorem dX3_waiting_1 : decode cX3_waiting 1 = .ok (.getfield 35, 3) := by decide +kernel
theorem dX3_waiting_4 : decode cX3_waiting 4 = .ok (.ireturn, 1) := by decide +kernel
end
section
theorem dL_law_0 : decode code 0 = .ok (.new 7, 3) := by decide +kernel
theorem dL_law_3 : decode code 3 = .ok (.dup, 1) := by decide +kernel
theorem dL_law_4 : decode code 4 = .ok (.invokespecial 9, 3) := by decide +kernel
theorem dL_law_7 : decode code 7 = .ok (.astore_n 1, 1) := by decide +kernel
theorem dL_law_8 : decode code 8 = .ok (.new 10, 3) := by decide +kernel
theorem dL_law_11 : decode code 11 = .ok (.dup, 1) := by decide +kernel
theorem dL_law_12 : decode code 12 = .ok (.invokespecial 12, 3) := by decide +kernel
theorem dL_law_15 : decode code 15 = .ok (.astore_n 2, 1) := by decide +kernel
theorem dL_law_16 : decode code 16 = .ok (.iconst 0, 1) := by decide +kernel
theorem dL_law_17 : decode code 17 = .ok (.istore_n 3, 1) := by decide +kernel
theorem dL_law_18 : decode code 18 = .ok (.iload_n 3, 1) := by decide +kernel
theorem dL_law_19 : decode code 19 = .ok (.aload_n 0, 1) := by decide +kernel
theorem dL_law_20 : decode code 20 = .ok (.arraylength, 1) := by decide +kernel
theorem dL_law_21 : decode code 21 = .ok (.bipush 6, 2) := by decide +kernel
theorem dL_law_23 : decode code 23 = .ok (.isub, 1) := by decide +kernel
theorem dL_law_24 : decode code 24 = .ok (.if_icmp .gt 283, 3) := by decide +kernel
theorem dL_law_27 : decode code 27 = .ok (.aload_n 0, 1) := by decide +kernel
theorem dL_law_28 : decode code 28 = .ok (.iload_n 3, 1) := by decide +kernel
theorem dL_law_29 : decode code 29 = .ok (.iaload, 1) := by decide +kernel
theorem dL_law_30 : decode code 30 = .ok (.bipush 15, 2) := by decide +kernel
theorem dL_law_32 : decode code 32 = .ok (.iand, 1) := by decide +kernel
theorem dL_law_33 : decode code 33 = .ok (.tableswitch 268 0 8 #[51, 114, 137, 150, 163, 176, 199, 232, 255], 51) := by decide +kernel
theorem dL_law_84 : decode code 84 = .ok (.aload_n 1, 1) := by decide +kernel
theorem dL_law_85 : decode code 85 = .ok (.aload_n 0, 1) := by decide +kernel
theorem dL_law_86 : decode code 86 = .ok (.iload_n 3, 1) := by decide +kernel
theorem dL_law_87 : decode code 87 = .ok (.iconst 1, 1) := by decide +kernel
theorem dL_law_88 : decode code 88 = .ok (.iadd, 1) := by decide +kernel
theorem dL_law_89 : decode code 89 = .ok (.iaload, 1) := by decide +kernel
theorem dL_law_90 : decode code 90 = .ok (.aload_n 0, 1) := by decide +kernel
theorem dL_law_91 : decode code 91 = .ok (.iload_n 3, 1) := by decide +kernel
theorem dL_law_92 : decode code 92 = .ok (.iconst 2, 1) := by decide +kernel
theorem dL_law_93 : decode code 93 = .ok (.iadd, 1) := by decide +kernel
theorem dL_law_94 : decode code 94 = .ok (.iaload, 1) := by decide +kernel
theorem dL_law_95 : decode code 95 = .ok (.aload_n 0, 1) := by decide +kernel
theorem dL_law_96 : decode code 96 = .ok (.iload_n 3, 1) := by decide +kernel
theorem dL_law_97 : decode code 97 = .ok (.iconst 3, 1) := by decide +kernel
theorem dL_law_98 : decode code 98 = .ok (.iadd, 1) := by decide +kernel
theorem dL_law_99 : decode code 99 = .ok (.iaload, 1) := by decide +kernel
theorem dL_law_100 : decode code 100 = .ok (.aload_n 0, 1) := by decide +kernel
theorem dL_law_101 : decode code 101 = .ok (.iload_n 3, 1) := by decide +kernel
theorem dL_law_102 : decode code 102 = .ok (.iconst 4, 1) := by decide +kernel
theorem dL_law_103 : decode code 103 = .ok (.iadd, 1) := by decide +kernel
theorem dL_law_104 : decode code 104 = .ok (.iaload, 1) := by decide +kernel
theorem dL_law_105 : decode code 105 = .ok (.aload_n 0, 1) := by decide +kernel
theorem dL_law_106 : decode code 106 = .ok (.iload_n 3, 1) := by decide +kernel
theorem dL_law_107 : decode code 107 = .ok (.iconst 5, 1) := by decide +kernel
theorem dL_law_108 : decode code 108 = .ok (.iadd, 1) := by decide +kernel
theorem dL_law_109 : decode code 109 = .ok (.iaload, 1) := by decide +kernel
theorem dL_law_110 : decode code 110 = .ok (.invokevirtual 13, 3) := by decide +kernel
theorem dL_law_113 : decode code 113 = .ok (.aload_n 2, 1) := by decide +kernel
theorem dL_law_114 : decode code 114 = .ok (.aload_n 0, 1) := by decide +kernel
theorem dL_law_115 : decode code 115 = .ok (.iload_n 3, 1) := by decide +kernel
theorem dL_law_116 : decode code 116 = .ok (.iconst 1, 1) := by decide +kernel
theorem dL_law_117 : decode code 117 = .ok (.iadd, 1) := by decide +kernel
theorem dL_law_118 : decode code 118 = .ok (.iaload, 1) := by decide +kernel
theorem dL_law_119 : decode code 119 = .ok (.aload_n 0, 1) := by decide +kernel
theorem dL_law_120 : decode code 120 = .ok (.iload_n 3, 1) := by decide +kernel
theorem dL_law_121 : decode code 121 = .ok (.iconst 2, 1) := by decide +kernel
theorem dL_law_122 : decode code 122 = .ok (.iadd, 1) := by decide +kernel
theorem dL_law_123 : decode code 123 = .ok (.iaload, 1) := by decide +kernel
theorem dL_law_124 : decode code 124 = .ok (.aload_n 0, 1) := by decide +kernel
theorem dL_law_125 : decode code 125 = .ok (.iload_n 3, 1) := by decide +kernel
theorem dL_law_126 : decode code 126 = .ok (.iconst 3, 1) := by decide +kernel
theorem dL_law_127 : decode code 127 = .ok (.iadd, 1) := by decide +kernel
theorem dL_law_128 : decode code 128 = .ok (.iaload, 1) := by decide +kernel
theorem dL_law_129 : decode code 129 = .ok (.aload_n 0, 1) := by decide +kernel
theorem dL_law_130 : decode code 130 = .ok (.iload_n 3, 1) := by decide +kernel
theorem dL_law_131 : decode code 131 = .ok (.iconst 4, 1) := by decide +kernel
theorem dL_law_132 : decode code 132 = .ok (.iadd, 1) := by decide +kernel
theorem dL_law_133 : decode code 133 = .ok (.iaload, 1) := by decide +kernel
theorem dL_law_134 : decode code 134 = .ok (.aload_n 0, 1) := by decide +kernel
theorem dL_law_135 : decode code 135 = .ok (.iload_n 3, 1) := by decide +kernel
theorem dL_law_136 : decode code 136 = .ok (.iconst 5, 1) := by decide +kernel
theorem dL_law_137 : decode code 137 = .ok (.iadd, 1) := by decide +kernel
theorem dL_law_138 : decode code 138 = .ok (.iaload, 1) := by decide +kernel
theorem dL_law_139 : decode code 139 = .ok (.invokevirtual 17, 3) := by decide +kernel
theorem dL_law_142 : decode code 142 = .ok (.if_icmp .eq 159, 3) := by decide +kernel
theorem dL_law_145 : decode code 145 = .ok (.iconst 0, 1) := by decide +kernel
theorem dL_law_146 : decode code 146 = .ok (.ireturn, 1) := by decide +kernel
theorem dL_law_147 : decode code 147 = .ok (.aload_n 1, 1) := by decide +kernel
theorem dL_law_148 : decode code 148 = .ok (.aload_n 0, 1) := by decide +kernel
theorem dL_law_149 : decode code 149 = .ok (.iload_n 3, 1) := by decide +kernel
theorem dL_law_150 : decode code 150 = .ok (.iconst 1, 1) := by decide +kernel
theorem dL_law_151 : decode code 151 = .ok (.iadd, 1) := by decide +kernel
theorem dL_law_152 : decode code 152 = .ok (.iaload, 1) := by decide +kernel
theorem dL_law_153 : decode code 153 = .ok (.invokevirtual 18, 3) := by decide +kernel
theorem dL_law_156 : decode code 156 = .ok (.aload_n 2, 1) := by decide +kernel
theorem dL_law_157 : decode code 157 = .ok (.aload_n 0, 1) := by decide +kernel
theorem dL_law_158 : decode code 158 = .ok (.iload_n 3, 1) := by decide +kernel
theorem dL_law_159 : decode code 159 = .ok (.iconst 1, 1) := by decide +kernel
theorem dL_law_160 : decode code 160 = .ok (.iadd, 1) := by decide +kernel
theorem dL_law_161 : decode code 161 = .ok (.iaload, 1) := by decide +kernel
theorem dL_law_162 : decode code 162 = .ok (.invokevirtual 22, 3) := by decide +kernel
theorem dL_law_165 : decode code 165 = .ok (.if_icmp .eq 136, 3) := by decide +kernel
theorem dL_law_168 : decode code 168 = .ok (.iconst 0, 1) := by decide +kernel
theorem dL_law_169 : decode code 169 = .ok (.ireturn, 1) := by decide +kernel
theorem dL_law_170 : decode code 170 = .ok (.aload_n 1, 1) := by decide +kernel
theorem dL_law_171 : decode code 171 = .ok (.invokevirtual 23, 3) := by decide +kernel
theorem dL_law_174 : decode code 174 = .ok (.aload_n 2, 1) := by decide +kernel
theorem dL_law_175 : decode code 175 = .ok (.invokevirtual 27, 3) := by decide +kernel
theorem dL_law_178 : decode code 178 = .ok (.if_icmp .eq 123, 3) := by decide +kernel
theorem dL_law_181 : decode code 181 = .ok (.iconst 0, 1) := by decide +kernel
theorem dL_law_182 : decode code 182 = .ok (.ireturn, 1) := by decide +kernel
theorem dL_law_183 : decode code 183 = .ok (.aload_n 1, 1) := by decide +kernel
theorem dL_law_184 : decode code 184 = .ok (.invokevirtual 28, 3) := by decide +kernel
theorem dL_law_187 : decode code 187 = .ok (.aload_n 2, 1) := by decide +kernel
theorem dL_law_188 : decode code 188 = .ok (.invokevirtual 31, 3) := by decide +kernel
theorem dL_law_191 : decode code 191 = .ok (.if_icmp .eq 110, 3) := by decide +kernel
theorem dL_law_194 : decode code 194 = .ok (.iconst 0, 1) := by decide +kernel
theorem dL_law_195 : decode code 195 = .ok (.ireturn, 1) := by decide +kernel
theorem dL_law_196 : decode code 196 = .ok (.aload_n 1, 1) := by decide +kernel
theorem dL_law_197 : decode code 197 = .ok (.invokevirtual 32, 3) := by decide +kernel
theorem dL_law_200 : decode code 200 = .ok (.aload_n 2, 1) := by decide +kernel
theorem dL_law_201 : decode code 201 = .ok (.invokevirtual 35, 3) := by decide +kernel
theorem dL_law_204 : decode code 204 = .ok (.if_icmp .eq 97, 3) := by decide +kernel
theorem dL_law_207 : decode code 207 = .ok (.iconst 0, 1) := by decide +kernel
theorem dL_law_208 : decode code 208 = .ok (.ireturn, 1) := by decide +kernel
theorem dL_law_209 : decode code 209 = .ok (.aload_n 1, 1) := by decide +kernel
theorem dL_law_210 : decode code 210 = .ok (.aload_n 0, 1) := by decide +kernel
theorem dL_law_211 : decode code 211 = .ok (.iload_n 3, 1) := by decide +kernel
theorem dL_law_212 : decode code 212 = .ok (.iconst 1, 1) := by decide +kernel
theorem dL_law_213 : decode code 213 = .ok (.iadd, 1) := by decide +kernel
theorem dL_law_214 : decode code 214 = .ok (.iaload, 1) := by decide +kernel
theorem dL_law_215 : decode code 215 = .ok (.invokevirtual 36, 3) := by decide +kernel
theorem dL_law_218 : decode code 218 = .ok (.aload_n 2, 1) := by decide +kernel
theorem dL_law_219 : decode code 219 = .ok (.aload_n 0, 1) := by decide +kernel
theorem dL_law_220 : decode code 220 = .ok (.iload_n 3, 1) := by decide +kernel
theorem dL_law_221 : decode code 221 = .ok (.iconst 1, 1) := by decide +kernel
theorem dL_law_222 : decode code 222 = .ok (.iadd, 1) := by decide +kernel
theorem dL_law_223 : decode code 223 = .ok (.iaload, 1) := by decide +kernel
theorem dL_law_224 : decode code 224 = .ok (.invokevirtual 40, 3) := by decide +kernel
theorem dL_law_227 : decode code 227 = .ok (.if_icmp .eq 74, 3) := by decide +kernel
theorem dL_law_230 : decode code 230 = .ok (.iconst 0, 1) := by decide +kernel
theorem dL_law_231 : decode code 231 = .ok (.ireturn, 1) := by decide +kernel
theorem dL_law_232 : decode code 232 = .ok (.aload_n 1, 1) := by decide +kernel
theorem dL_law_233 : decode code 233 = .ok (.aload_n 0, 1) := by decide +kernel
theorem dL_law_234 : decode code 234 = .ok (.iload_n 3, 1) := by decide +kernel
theorem dL_law_235 : decode code 235 = .ok (.iconst 1, 1) := by decide +kernel
theorem dL_law_236 : decode code 236 = .ok (.iadd, 1) := by decide +kernel
theorem dL_law_237 : decode code 237 = .ok (.iaload, 1) := by decide +kernel
theorem dL_law_238 : decode code 238 = .ok (.aload_n 0, 1) := by decide +kernel
theorem dL_law_239 : decode code 239 = .ok (.iload_n 3, 1) := by decide +kernel
theorem dL_law_240 : decode code 240 = .ok (.iconst 2, 1) := by decide +kernel
theorem dL_law_241 : decode code 241 = .ok (.iadd, 1) := by decide +kernel
theorem dL_law_242 : decode code 242 = .ok (.iaload, 1) := by decide +kernel
theorem dL_law_243 : decode code 243 = .ok (.invokevirtual 41, 3) := by decide +kernel
theorem dL_law_246 : decode code 246 = .ok (.aload_n 2, 1) := by decide +kernel
theorem dL_law_247 : decode code 247 = .ok (.aload_n 0, 1) := by decide +kernel
theorem dL_law_248 : decode code 248 = .ok (.iload_n 3, 1) := by decide +kernel
theorem dL_law_249 : decode code 249 = .ok (.iconst 1, 1) := by decide +kernel
theorem dL_law_250 : decode code 250 = .ok (.iadd, 1) := by decide +kernel
theorem dL_law_251 : decode code 251 = .ok (.iaload, 1) := by decide +kernel
theorem dL_law_252 : decode code 252 = .ok (.aload_n 0, 1) := by decide +kernel
theorem dL_law_253 : decode code 253 = .ok (.iload_n 3, 1) := by decide +kernel
theorem dL_law_254 : decode code 254 = .ok (.iconst 2, 1) := by decide +kernel
theorem dL_law_255 : decode code 255 = .ok (.iadd, 1) := by decide +kernel
theorem dL_law_256 : decode code 256 = .ok (.iaload, 1) := by decide +kernel
theorem dL_law_257 : decode code 257 = .ok (.invokevirtual 45, 3) := by decide +kernel
theorem dL_law_260 : decode code 260 = .ok (.if_icmp .eq 41, 3) := by decide +kernel
theorem dL_law_263 : decode code 263 = .ok (.iconst 0, 1) := by decide +kernel
theorem dL_law_264 : decode code 264 = .ok (.ireturn, 1) := by decide +kernel
theorem dL_law_265 : decode code 265 = .ok (.aload_n 1, 1) := by decide +kernel
theorem dL_law_266 : decode code 266 = .ok (.aload_n 0, 1) := by decide +kernel
theorem dL_law_267 : decode code 267 = .ok (.iload_n 3, 1) := by decide +kernel
theorem dL_law_268 : decode code 268 = .ok (.iconst 1, 1) := by decide +kernel
theorem dL_law_269 : decode code 269 = .ok (.iadd, 1) := by decide +kernel
theorem dL_law_270 : decode code 270 = .ok (.iaload, 1) := by decide +kernel
theorem dL_law_271 : decode code 271 = .ok (.invokevirtual 46, 3) := by decide +kernel
theorem dL_law_274 : decode code 274 = .ok (.aload_n 2, 1) := by decide +kernel
theorem dL_law_275 : decode code 275 = .ok (.aload_n 0, 1) := by decide +kernel
theorem dL_law_276 : decode code 276 = .ok (.iload_n 3, 1) := by decide +kernel
theorem dL_law_277 : decode code 277 = .ok (.iconst 1, 1) := by decide +kernel
theorem dL_law_278 : decode code 278 = .ok (.iadd, 1) := by decide +kernel
theorem dL_law_279 : decode code 279 = .ok (.iaload, 1) := by decide +kernel
theorem dL_law_280 : decode code 280 = .ok (.invokevirtual 49, 3) := by decide +kernel
theorem dL_law_283 : decode code 283 = .ok (.if_icmp .eq 18, 3) := by decide +kernel
theorem dL_law_286 : decode code 286 = .ok (.iconst 0, 1) := by decide +kernel
theorem dL_law_287 : decode code 287 = .ok (.ireturn, 1) := by decide +kernel
theorem dL_law_288 : decode code 288 = .ok (.aload_n 1, 1) := by decide +kernel
theorem dL_law_289 : decode code 289 = .ok (.invokevirtual 50, 3) := by decide +kernel
theorem dL_law_292 : decode code 292 = .ok (.aload_n 2, 1) := by decide +kernel
theorem dL_law_293 : decode code 293 = .ok (.invokevirtual 53, 3) := by decide +kernel
theorem dL_law_296 : decode code 296 = .ok (.if_icmp .eq 5, 3) := by decide +kernel
theorem dL_law_299 : decode code 299 = .ok (.iconst 0, 1) := by decide +kernel
theorem dL_law_300 : decode code 300 = .ok (.ireturn, 1) := by decide +kernel
theorem dL_law_301 : decode code 301 = .ok (.iinc 3 6, 3) := by decide +kernel
theorem dL_law_304 : decode code 304 = .ok (.goto (-286), 3) := by decide +kernel
theorem dL_law_307 : decode code 307 = .ok (.iconst 1, 1) := by decide +kernel
theorem dL_law_308 : decode code 308 = .ok (.ireturn, 1) := by decide +kernel
end
section
/-! INTS BY THEIR INTEGERS: iI z; adding, taking away and times need no bound; comparing needs the range -/
def iI (z : Int) : Int32 := Int32.ofInt z
theorem iI_add (a b : Int) : iI a + iI b = iI (a + b) := (Int32.ofInt_add a b).symm
theorem iI_sub (a b : Int) : iI a - iI b = iI (a - b) := (Int32.ofInt_sub a b).symm
theorem iI_mul (a b : Int) : iI a * iI b = iI (a * b) := (Int32.ofInt_mul a b).symm
theorem iI_neg (a : Int) : -iI a = iI (-a) := (Int32.ofInt_neg a).symm
theorem iI_0 : iI 0 = 0 := by decide
theorem iI_toInt {a : Int} (h : -2147483648 ≤ a ∧ a ≤ 2147483647) : (iI a).toInt = a := Int32.toInt_ofInt_of_le (by omega) (by omega)
theorem iI_lt {a b : Int} (ha : -2147483648 ≤ a ∧ a ≤ 2147483647) (hb : -2147483648 ≤ b ∧ b ≤ 2147483647) : iI a < iI b ↔ a < b := by
  rw [Int32.lt_iff_toInt_lt, iI_toInt ha, iI_toInt hb]
theorem iI_le {a b : Int} (ha : -2147483648 ≤ a ∧ a ≤ 2147483647) (hb : -2147483648 ≤ b ∧ b ≤ 2147483647) : iI a ≤ iI b ↔ a ≤ b := by
  rw [Int32.le_iff_toInt_le, iI_toInt ha, iI_toInt hb]
theorem iI_eq {a b : Int} (ha : -2147483648 ≤ a ∧ a ≤ 2147483647) (hb : -2147483648 ≤ b ∧ b ≤ 2147483647) : iI a = iI b ↔ a = b := by
  rw [← Int32.toInt_inj, iI_toInt ha, iI_toInt hb]
theorem iI_of (x : Int32) : ∃ z : Int, (-2147483648 ≤ z ∧ z ≤ 2147483647) ∧ x = iI z :=
  ⟨x.toInt, ⟨by have := Int32.le_toInt x; omega, by have := Int32.toInt_lt x; omega⟩, (Int32.ofInt_toInt x).symm⟩
theorem iI_nat (n : Nat) : nI n = iI n := (Int32.ofInt_eq_ofNat).symm
theorem iI_cl {a : Int} (h : 0 ≤ a ∧ a ≤ 2147483647) : (iI a).toNatClampNeg = a.toNat := Int32.toNatClampNeg_ofInt_of_le (by omega) (by omega)
theorem iI_clN {n : Nat} (h : n ≤ 2147483647) : (iI n).toNatClampNeg = n := by rw [iI_cl (by omega)]; omega
theorem iI_in {a : Int} {n : Nat} (h : (0 ≤ a ∧ a < n) ∧ a ≤ 2147483647) : vp_in (iI a) n := vp_in_iff.mpr (by rw [iI_toInt (by omega)]; omega)
theorem iI_nn {a : Int} (h : 0 ≤ a ∧ a ≤ 2147483647) : ¬ iI a < 0 := by
  rw [← iI_0, iI_lt (by omega) (by omega)]; omega
/-- a byte as the class reads it -/
def bv (x : Int32) : Int := (x &&& 255).toInt
theorem bv_iI (x : Int32) : x &&& 255 = iI (bv x) := (Int32.ofInt_toInt _).symm
theorem bv_in (x : Int32) : 0 ≤ bv x ∧ bv x ≤ 255 := by
  obtain ⟨j, hj, e⟩ := pk_andE x (m := 255) 8 (by decide)
  unfold bv
  rw [e, nI_toInt (by omega)]
  omega
theorem bo_of {P : Prop} [Decidable P] {r : Int32} (h : r = iI (if P then 1 else 0)) : ∃ b : Int, ((P ∧ b = 1) ∨ (¬ P ∧ b = 0)) ∧ r = iI b := by
  by_cases z : P
  · exact ⟨1, Or.inl ⟨z, rfl⟩, by rw [h, if_pos z]⟩
  · exact ⟨0, Or.inr ⟨z, rfl⟩, by rw [h, if_neg z]⟩
section LX
variable {p : Program} {l : Launch} {e : Env} {R : Room} {s : State} {m : MethodId} {args : Array Value} {below : List Frame} {meth : Method} {c : Code} {H : Heap} {locs : List Loc} {cells slots : Nat} {Q : State → Prop}
variable {cc : ByteArray} {pc : Nat} {ls : Array Slot} {rest : List Value}
theorem lx_iadd (hx : p.tables.exec = Jvm.exec) (hb : c.code = cc) {a b : Int} (hdg : decode cc pc = .ok (.iadd, 1))
    (k : W p l e R s m args below meth c H locs cells slots Q (F0 m (pc + 1) ls (.int (iI (a + b)) :: rest))) : W p l e R s m args below meth c H locs cells slots Q (F0 m pc ls (.int (iI b) :: .int (iI a) :: rest)) := lv_iadd hx hb hdg (by rw [iI_add]; exact k)
theorem lx_isub (hx : p.tables.exec = Jvm.exec) (hb : c.code = cc) {a b : Int} (hdg : decode cc pc = .ok (.isub, 1))
    (k : W p l e R s m args below meth c H locs cells slots Q (F0 m (pc + 1) ls (.int (iI (a - b)) :: rest))) : W p l e R s m args below meth c H locs cells slots Q (F0 m pc ls (.int (iI b) :: .int (iI a) :: rest)) := lv_isub hx hb hdg (by rw [iI_sub]; exact k)
theorem lx_imul (hx : p.tables.exec = Jvm.exec) (hb : c.code = cc) {a b : Int} (hdg : decode cc pc = .ok (.imul, 1))
    (k : W p l e R s m args below meth c H locs cells slots Q (F0 m (pc + 1) ls (.int (iI (a * b)) :: rest))) : W p l e R s m args below meth c H locs cells slots Q (F0 m pc ls (.int (iI b) :: .int (iI a) :: rest)) := lv_imul hx hb hdg (by rw [iI_mul]; exact k)
theorem lx_ineg (hx : p.tables.exec = Jvm.exec) (hb : c.code = cc) {a : Int} (hdg : decode cc pc = .ok (.ineg, 1))
    (k : W p l e R s m args below meth c H locs cells slots Q (F0 m (pc + 1) ls (.int (iI (-a)) :: rest))) : W p l e R s m args below meth c H locs cells slots Q (F0 m pc ls (.int (iI a) :: rest)) := lv_ineg hx hb hdg (by rw [iI_neg]; exact k)
theorem lx_iand255 (hx : p.tables.exec = Jvm.exec) (hb : c.code = cc) {x : Int32} (hdg : decode cc pc = .ok (.iand, 1))
    (k : W p l e R s m args below meth c H locs cells slots Q (F0 m (pc + 1) ls (.int (iI (bv x)) :: rest))) : W p l e R s m args below meth c H locs cells slots Q (F0 m pc ls (.int (iI 255) :: .int x :: rest)) := lv_iand hx hb hdg (by rw [show x &&& iI 255 = iI (bv x) from bv_iI x]; exact k)
theorem lx_ldc (hx : p.tables.exec = Jvm.exec) (hb : c.code = cc) {own : String} {index : Nat} {v : Int32} {z : Int} (hown : s.vm.findClass own = some m.cls) (hconst : (Jvm.Cond.constant own index v).before args s = true) (hv : v = iI z) (hdg : decode cc pc = .ok (.ldc index, 2))
    (k : W p l e R s m args below meth c H locs cells slots Q (F0 m (pc + 2) ls (.int (iI z) :: rest))) : W p l e R s m args below meth c H locs cells slots Q (F0 m pc ls rest) := by
  subst hv
  exact W.ldc hx hb hown hconst rfl hdg k
theorem lx_top {x x2 : Int32} (h : x = x2) (k : W p l e R s m args below meth c H locs cells slots Q (F0 m pc ls (.int x2 :: rest))) : W p l e R s m args below meth c H locs cells slots Q (F0 m pc ls (.int x :: rest)) := by
  subst h
  exact k
theorem lx_min (hx : p.tables.exec = Jvm.exec) (hb : c.code = cc) (hml : c.maxLocals = ls.size) {own : String} {index : Nat} (hown : s.vm.findClass own = some m.cls) (hlink : (Cond.methodLink own index Lib.Math.min.name).before args s = true) (hstat : (Cond.static Lib.Math.min.name).before args s = true) (hini : (Cond.initialized "java/lang/Math").before args s = true) (hcode : (Cond.code Lib.Math.min.name Lib.Math.min.code 2 (some .int)).before args s = true)
    (hframes : 1 ≤ R.frames) (hlocals : (rest.map fun v => v.category).sum + 13 ≤ R.locals) (hc : cells ≤ R.cells) (hs : slots ≤ R.slots) {a b : Int} (ha : -2147483648 ≤ a ∧ a ≤ 2147483647) (hb2 : -2147483648 ≤ b ∧ b ≤ 2147483647) (hdg : decode cc pc = .ok (.invokestatic index, 3))
    (kk : W p l e R s m args below meth c H locs cells slots Q (F0 m (pc + 3) ls (.int (iI (min a b)) :: rest))) : W p l e R s m args below meth c H locs cells slots Q (F0 m pc ls (.int (iI b) :: .int (iI a) :: rest)) := by
  refine va_mmin hx hb hml hown hlink hstat hini hcode hframes hlocals hc hs hdg ?_
  refine lx_top ?_ kk
  by_cases h : b < a
  · rw [if_pos ((iI_lt hb2 ha).mpr h), show min a b = b by omega]
  · rw [if_neg (fun z => h ((iI_lt hb2 ha).mp z)), show min a b = a by omega]
theorem lx_max (hx : p.tables.exec = Jvm.exec) (hb : c.code = cc) (hml : c.maxLocals = ls.size) {own : String} {index : Nat} (hown : s.vm.findClass own = some m.cls) (hlink : (Cond.methodLink own index Lib.Math.max.name).before args s = true) (hstat : (Cond.static Lib.Math.max.name).before args s = true) (hini : (Cond.initialized "java/lang/Math").before args s = true) (hcode : (Cond.code Lib.Math.max.name Lib.Math.max.code 2 (some .int)).before args s = true)
    (hframes : 1 ≤ R.frames) (hlocals : (rest.map fun v => v.category).sum + 13 ≤ R.locals) (hc : cells ≤ R.cells) (hs : slots ≤ R.slots) {a b : Int} (ha : -2147483648 ≤ a ∧ a ≤ 2147483647) (hb2 : -2147483648 ≤ b ∧ b ≤ 2147483647) (hdg : decode cc pc = .ok (.invokestatic index, 3))
    (kk : W p l e R s m args below meth c H locs cells slots Q (F0 m (pc + 3) ls (.int (iI (max a b)) :: rest))) : W p l e R s m args below meth c H locs cells slots Q (F0 m pc ls (.int (iI b) :: .int (iI a) :: rest)) := by
  refine va_mmax hx hb hml hown hlink hstat hini hcode hframes hlocals hc hs hdg ?_
  refine lx_top ?_ kk
  by_cases h : a < b
  · rw [if_pos ((iI_lt ha hb2).mpr h), show max a b = b by omega]
  · rw [if_neg (fun z => h ((iI_lt ha hb2).mp z)), show max a b = a by omega]
theorem lx_icmp_eq (hx : p.tables.exec = Jvm.exec) (hb : c.code = cc) {a b : Int} {off : Int} {tgt : Nat} (hdg : decode cc pc = .ok (.if_icmp .eq off, 3)) (ht : (pc : Int) + off = (tgt : Int)) (ha : -2147483648 ≤ a ∧ a ≤ 2147483647) (hc : -2147483648 ≤ b ∧ b ≤ 2147483647)
    (kt : a = b → W p l e R s m args below meth c H locs cells slots Q (F0 m tgt ls rest)) (kf : ¬ a = b → W p l e R s m args below meth c H locs cells slots Q (F0 m (pc + 3) ls rest)) : W p l e R s m args below meth c H locs cells slots Q (F0 m pc ls (.int (iI b) :: .int (iI a) :: rest)) := lv_icmp_eq hx hb hdg ht (fun q => kt ((iI_eq ha hc).mp q)) (fun q => kf (fun z => q ((iI_eq ha hc).mpr z)))
theorem lx_if_eq (hx : p.tables.exec = Jvm.exec) (hb : c.code = cc) {a : Int} {off : Int} {tgt : Nat} (hdg : decode cc pc = .ok (.ifCond .eq off, 3)) (ht : (pc : Int) + off = (tgt : Int)) (ha : -2147483648 ≤ a ∧ a ≤ 2147483647)
    (kt : a = 0 → W p l e R s m args below meth c H locs cells slots Q (F0 m tgt ls rest)) (kf : ¬ a = 0 → W p l e R s m args below meth c H locs cells slots Q (F0 m (pc + 3) ls rest)) : W p l e R s m args below meth c H locs cells slots Q (F0 m pc ls (.int (iI a) :: rest)) := by
  have hc : -2147483648 ≤ (0 : Int) ∧ (0 : Int) ≤ 2147483647 := by omega
  refine lv_if_eq hx hb hdg ht ?_ ?_
  · rw [← iI_0]; exact fun q => kt ((iI_eq ha hc).mp q)
  · rw [← iI_0]; exact fun q => kf (fun z => q ((iI_eq ha hc).mpr z))
theorem lx_icmp_ne (hx : p.tables.exec = Jvm.exec) (hb : c.code = cc) {a b : Int} {off : Int} {tgt : Nat} (hdg : decode cc pc = .ok (.if_icmp .ne off, 3)) (ht : (pc : Int) + off = (tgt : Int)) (ha : -2147483648 ≤ a ∧ a ≤ 2147483647) (hc : -2147483648 ≤ b ∧ b ≤ 2147483647)
    (kt : ¬ a = b → W p l e R s m args below meth c H locs cells slots Q (F0 m tgt ls rest)) (kf : a = b → W p l e R s m args below meth c H locs cells slots Q (F0 m (pc + 3) ls rest)) : W p l e R s m args below meth c H locs cells slots Q (F0 m pc ls (.int (iI b) :: .int (iI a) :: rest)) := lv_icmp_ne hx hb hdg ht (fun q => kt (fun z => q ((iI_eq ha hc).mpr z))) (fun q => kf ((iI_eq ha hc).mp q))
theorem lx_if_ne (hx : p.tables.exec = Jvm.exec) (hb : c.code = cc) {a : Int} {off : Int} {tgt : Nat} (hdg : decode cc pc = .ok (.ifCond .ne off, 3)) (ht : (pc : Int) + off = (tgt : Int)) (ha : -2147483648 ≤ a ∧ a ≤ 2147483647)
    (kt : ¬ a = 0 → W p l e R s m args below meth c H locs cells slots Q (F0 m tgt ls rest)) (kf : a = 0 → W p l e R s m args below meth c H locs cells slots Q (F0 m (pc + 3) ls rest)) : W p l e R s m args below meth c H locs cells slots Q (F0 m pc ls (.int (iI a) :: rest)) := by
  have hc : -2147483648 ≤ (0 : Int) ∧ (0 : Int) ≤ 2147483647 := by omega
  refine lv_if_ne hx hb hdg ht ?_ ?_
  · rw [← iI_0]; exact fun q => kt (fun z => q ((iI_eq ha hc).mpr z))
  · rw [← iI_0]; exact fun q => kf ((iI_eq ha hc).mp q)
theorem lx_icmp_lt (hx : p.tables.exec = Jvm.exec) (hb : c.code = cc) {a b : Int} {off : Int} {tgt : Nat} (hdg : decode cc pc = .ok (.if_icmp .lt off, 3)) (ht : (pc : Int) + off = (tgt : Int)) (ha : -2147483648 ≤ a ∧ a ≤ 2147483647) (hc : -2147483648 ≤ b ∧ b ≤ 2147483647)
    (kt : a < b → W p l e R s m args below meth c H locs cells slots Q (F0 m tgt ls rest)) (kf : b ≤ a → W p l e R s m args below meth c H locs cells slots Q (F0 m (pc + 3) ls rest)) : W p l e R s m args below meth c H locs cells slots Q (F0 m pc ls (.int (iI b) :: .int (iI a) :: rest)) := lv_icmp_lt hx hb hdg ht (fun q => kt ((iI_lt ha hc).mp q)) (fun q => kf (Int.not_lt.mp (fun z => q ((iI_lt ha hc).mpr z))))
theorem lx_if_lt (hx : p.tables.exec = Jvm.exec) (hb : c.code = cc) {a : Int} {off : Int} {tgt : Nat} (hdg : decode cc pc = .ok (.ifCond .lt off, 3)) (ht : (pc : Int) + off = (tgt : Int)) (ha : -2147483648 ≤ a ∧ a ≤ 2147483647)
    (kt : a < 0 → W p l e R s m args below meth c H locs cells slots Q (F0 m tgt ls rest)) (kf : 0 ≤ a → W p l e R s m args below meth c H locs cells slots Q (F0 m (pc + 3) ls rest)) : W p l e R s m args below meth c H locs cells slots Q (F0 m pc ls (.int (iI a) :: rest)) := by
  have hc : -2147483648 ≤ (0 : Int) ∧ (0 : Int) ≤ 2147483647 := by omega
  refine lv_if_lt hx hb hdg ht ?_ ?_
  · rw [← iI_0]; exact fun q => kt ((iI_lt ha hc).mp q)
  · rw [← iI_0]; exact fun q => kf (Int.not_lt.mp (fun z => q ((iI_lt ha hc).mpr z)))
theorem lx_icmp_ge (hx : p.tables.exec = Jvm.exec) (hb : c.code = cc) {a b : Int} {off : Int} {tgt : Nat} (hdg : decode cc pc = .ok (.if_icmp .ge off, 3)) (ht : (pc : Int) + off = (tgt : Int)) (ha : -2147483648 ≤ a ∧ a ≤ 2147483647) (hc : -2147483648 ≤ b ∧ b ≤ 2147483647)
    (kt : b ≤ a → W p l e R s m args below meth c H locs cells slots Q (F0 m tgt ls rest)) (kf : a < b → W p l e R s m args below meth c H locs cells slots Q (F0 m (pc + 3) ls rest)) : W p l e R s m args below meth c H locs cells slots Q (F0 m pc ls (.int (iI b) :: .int (iI a) :: rest)) := lv_icmp_ge hx hb hdg ht (fun q => kt ((iI_le hc ha).mp q)) (fun q => kf (Int.not_le.mp (fun z => q ((iI_le hc ha).mpr z))))
theorem lx_if_ge (hx : p.tables.exec = Jvm.exec) (hb : c.code = cc) {a : Int} {off : Int} {tgt : Nat} (hdg : decode cc pc = .ok (.ifCond .ge off, 3)) (ht : (pc : Int) + off = (tgt : Int)) (ha : -2147483648 ≤ a ∧ a ≤ 2147483647)
    (kt : 0 ≤ a → W p l e R s m args below meth c H locs cells slots Q (F0 m tgt ls rest)) (kf : a < 0 → W p l e R s m args below meth c H locs cells slots Q (F0 m (pc + 3) ls rest)) : W p l e R s m args below meth c H locs cells slots Q (F0 m pc ls (.int (iI a) :: rest)) := by
  have hc : -2147483648 ≤ (0 : Int) ∧ (0 : Int) ≤ 2147483647 := by omega
  refine lv_if_ge hx hb hdg ht ?_ ?_
  · rw [← iI_0]; exact fun q => kt ((iI_le hc ha).mp q)
  · rw [← iI_0]; exact fun q => kf (Int.not_le.mp (fun z => q ((iI_le hc ha).mpr z)))
theorem lx_icmp_gt (hx : p.tables.exec = Jvm.exec) (hb : c.code = cc) {a b : Int} {off : Int} {tgt : Nat} (hdg : decode cc pc = .ok (.if_icmp .gt off, 3)) (ht : (pc : Int) + off = (tgt : Int)) (ha : -2147483648 ≤ a ∧ a ≤ 2147483647) (hc : -2147483648 ≤ b ∧ b ≤ 2147483647)
    (kt : b < a → W p l e R s m args below meth c H locs cells slots Q (F0 m tgt ls rest)) (kf : a ≤ b → W p l e R s m args below meth c H locs cells slots Q (F0 m (pc + 3) ls rest)) : W p l e R s m args below meth c H locs cells slots Q (F0 m pc ls (.int (iI b) :: .int (iI a) :: rest)) := lv_icmp_gt hx hb hdg ht (fun q => kt ((iI_lt hc ha).mp q)) (fun q => kf (Int.not_lt.mp (fun z => q ((iI_lt hc ha).mpr z))))
theorem lx_if_gt (hx : p.tables.exec = Jvm.exec) (hb : c.code = cc) {a : Int} {off : Int} {tgt : Nat} (hdg : decode cc pc = .ok (.ifCond .gt off, 3)) (ht : (pc : Int) + off = (tgt : Int)) (ha : -2147483648 ≤ a ∧ a ≤ 2147483647)
    (kt : 0 < a → W p l e R s m args below meth c H locs cells slots Q (F0 m tgt ls rest)) (kf : a ≤ 0 → W p l e R s m args below meth c H locs cells slots Q (F0 m (pc + 3) ls rest)) : W p l e R s m args below meth c H locs cells slots Q (F0 m pc ls (.int (iI a) :: rest)) := by
  have hc : -2147483648 ≤ (0 : Int) ∧ (0 : Int) ≤ 2147483647 := by omega
  refine lv_if_gt hx hb hdg ht ?_ ?_
  · rw [← iI_0]; exact fun q => kt ((iI_lt hc ha).mp q)
  · rw [← iI_0]; exact fun q => kf (Int.not_lt.mp (fun z => q ((iI_lt hc ha).mpr z)))
theorem lx_icmp_le (hx : p.tables.exec = Jvm.exec) (hb : c.code = cc) {a b : Int} {off : Int} {tgt : Nat} (hdg : decode cc pc = .ok (.if_icmp .le off, 3)) (ht : (pc : Int) + off = (tgt : Int)) (ha : -2147483648 ≤ a ∧ a ≤ 2147483647) (hc : -2147483648 ≤ b ∧ b ≤ 2147483647)
    (kt : a ≤ b → W p l e R s m args below meth c H locs cells slots Q (F0 m tgt ls rest)) (kf : b < a → W p l e R s m args below meth c H locs cells slots Q (F0 m (pc + 3) ls rest)) : W p l e R s m args below meth c H locs cells slots Q (F0 m pc ls (.int (iI b) :: .int (iI a) :: rest)) := lv_icmp_le hx hb hdg ht (fun q => kt ((iI_le ha hc).mp q)) (fun q => kf (Int.not_le.mp (fun z => q ((iI_le ha hc).mpr z))))
theorem lx_if_le (hx : p.tables.exec = Jvm.exec) (hb : c.code = cc) {a : Int} {off : Int} {tgt : Nat} (hdg : decode cc pc = .ok (.ifCond .le off, 3)) (ht : (pc : Int) + off = (tgt : Int)) (ha : -2147483648 ≤ a ∧ a ≤ 2147483647)
    (kt : a ≤ 0 → W p l e R s m args below meth c H locs cells slots Q (F0 m tgt ls rest)) (kf : 0 < a → W p l e R s m args below meth c H locs cells slots Q (F0 m (pc + 3) ls rest)) : W p l e R s m args below meth c H locs cells slots Q (F0 m pc ls (.int (iI a) :: rest)) := by
  have hc : -2147483648 ≤ (0 : Int) ∧ (0 : Int) ≤ 2147483647 := by omega
  refine lv_if_le hx hb hdg ht ?_ ?_
  · rw [← iI_0]; exact fun q => kt ((iI_le ha hc).mp q)
  · rw [← iI_0]; exact fun q => kf (Int.not_le.mp (fun z => q ((iI_le ha hc).mpr z)))
end LX
end
section
/-! WORLDS: one form of start and end for every method; a call is one row -/
/-- the start of a method that changes: its cells, their places apart -/
def vx_B (D : va_G) (cl : List vw_C) (tys : List (ClassId × FieldType)) (ws : va_W) (sz : Nat) (U : State) : Prop := U.heap.size = sz ∧ va_P D cl ws U.heap ∧ va_K D cl tys U ∧ va_D (fun _ => True) ws
/-- its end -/
def vx_E (D : va_G) (cl : List vw_C) (tys : List (ClassId × FieldType)) (A : Nat → Prop) (ws : va_W) (t : State) : Prop := va_P D cl ws t.heap ∧ va_K D cl tys t ∧ va_D A ws
/-- the start of a method that only reads -/
def vx_R (D : va_G) (cl : List vw_C) (tys : List (ClassId × FieldType)) (ws : va_W) (U : State) : Prop := va_P D cl ws U.heap ∧ va_K D cl tys U
theorem vx_blindB {av : List Value} {D : va_G} {cl : List vw_C} {tys : List (ClassId × FieldType)} {ws : va_W} {sz : Nat} : FrameBlind (va_Pc av (vx_B D cl tys ws sz)) := fun a U g mk q => by
  obtain ⟨q0, q1, qP, qK, qD⟩ := q
  exact ⟨q0, q1, qP, va_K.moved (u := U) (U := U.calling g mk a) (Vm.Alike.refl U.vm) qK, qD⟩
theorem vx_blindR {av : List Value} {D : va_G} {cl : List vw_C} {tys : List (ClassId × FieldType)} {ws : va_W} : FrameBlind (va_Pc av (vx_R D cl tys ws)) := fun a U g mk q => by
  obtain ⟨q0, qP, qK⟩ := q
  exact ⟨q0, qP, va_K.moved (u := U) (U := U.calling g mk a) (Vm.Alike.refl U.vm) qK⟩
theorem vx_preB {s : State} {H : Heap} {av : List Value} {D : va_G} {cl : List vw_C} {tys : List (ClassId × FieldType)} {ws : va_W} {A : Nat → Prop} (hP : va_P D cl ws H) (hK : va_K D cl tys s) (hD : va_D A ws) : ∀ U : State, U.heap = H → s.WarmedH U.vm → va_Pc av (vx_B D cl tys ws H.size) av.toArray U := fun U hU hW =>
  ⟨rfl, by rw [hU], by rw [hU]; exact hP, va_K.moved hW.alike hK, hD.weaken (fun _ _ _ _ => trivial)⟩
theorem vx_preR {s : State} {H : Heap} {av : List Value} {D : va_G} {cl : List vw_C} {tys : List (ClassId × FieldType)} {ws : va_W} (hP : va_P D cl ws H) (hK : va_K D cl tys s) : ∀ U : State, U.heap = H → s.WarmedH U.vm → va_Pc av (vx_R D cl tys ws) av.toArray U := fun U hU hW =>
  ⟨rfl, by rw [hU]; exact hP, va_K.moved hW.alike hK⟩
theorem vx_fm {ws wc : va_W} {is : List Nat} (h : is.map (fun i => ws[i]?) = wc.map some) : is.filterMap (fun i => ws[i]?) = wc := by
  have h1 : is.filterMap (fun i => ws[i]?) = (is.map (fun i => ws[i]?)).filterMap id := by rw [List.filterMap_map]; rfl
  rw [h1, h, List.filterMap_map]
  exact List.filterMap_some
section VX
variable {p : Program} {l : Launch} {e : Env} {R : Room} {s : State} {m : MethodId} {args : Array Value} {below : List Frame} {meth : Method} {c : Code} {H : Heap} {locs : List Loc} {cells slots : Nat} {Q : State → Prop}
variable {y : MethodName} {bytes cc : ByteArray} {maxL nL mc ms n index : Nat} {ret : Option FieldType} {wsc : List Cond} {rm : Room} {Ts : List Cond} {own C : String} {b : Addr} {As rest st0 : List Value}
variable {pc : Nat} {ls : Array Slot} {D : va_G} {cl : List vw_C} {A : Nat → Prop} {tys : List (ClassId × FieldType)} {ws wc wr : va_W} {H0 : Heap}
/-- behind a call that changes: an int comes -/
theorem vx_calli {S : Type} {post : Int32 → S → Prop} {wsF : S → va_W} {a : Array Value} (hr : va_Run p l e R s m args below meth c H locs cells slots mc ms (F0 m pc ls st0) rest (va_Qi post (fun u => vx_E D cl tys (va_A wc H.size) (wsF u)) (va_A wc H.size) a) (va_A wc H.size))
    (hP : va_P D cl ws H) (hD : va_D A ws) (hS : va_S A H0 H locs) (hA : ∀ q, H0.size ≤ q → A q) (isC isR : List Nat) (hC : isC.map (fun i => ws[i]?) = wc.map some) (hR : isR.map (fun i => ws[i]?) = wr.map some) (hn : va_nd isR = true) (hdis : ∀ i ∈ isR, i ∉ isC)
    (kk : ∀ (r : Int32) (u : S) (H1 : Heap) (locs1 : List Loc), post r u → va_P D cl (wr ++ wsF u) H1 → va_D A (wr ++ wsF u) → va_S A H0 H1 locs1 → W p l e R s m args below meth c H1 locs1 (cells + mc) (slots + ms) Q (F0 m (pc + 3) ls (.int r :: rest))) : W p l e R s m args below meth c H locs cells slots Q (F0 m pc ls st0) := by
  have hFc := va_free (wc := wc) hD hS hA isC hC
  refine va_calli hr hS (fun q _ h => hFc q h) hFc (fun r u t H1 locs1 ht hvm hw hB hz1 hk1 hS1 => ?_)
  obtain ⟨hP1, hK1, hD1⟩ := hB
  rw [ht] at hP1
  obtain ⟨hP2, hD2⟩ := va_join hP hD isC isR hC hR hn hdis hk1 hFc hP1 hD1
  exact kk r u H1 locs1 hw hP2 hD2 hS1
/-- .. nothing comes -/
theorem vx_callv {S : Type} {post : S → Prop} {wsF : S → va_W} {a : Array Value} (hr : va_Run p l e R s m args below meth c H locs cells slots mc ms (F0 m pc ls st0) rest (va_Qv post (fun u => vx_E D cl tys (va_A wc H.size) (wsF u)) (va_A wc H.size) a) (va_A wc H.size))
    (hP : va_P D cl ws H) (hD : va_D A ws) (hS : va_S A H0 H locs) (hA : ∀ q, H0.size ≤ q → A q) (isC isR : List Nat) (hC : isC.map (fun i => ws[i]?) = wc.map some) (hR : isR.map (fun i => ws[i]?) = wr.map some) (hn : va_nd isR = true) (hdis : ∀ i ∈ isR, i ∉ isC)
    (kk : ∀ (u : S) (H1 : Heap) (locs1 : List Loc), post u → va_P D cl (wr ++ wsF u) H1 → va_D A (wr ++ wsF u) → va_S A H0 H1 locs1 → W p l e R s m args below meth c H1 locs1 (cells + mc) (slots + ms) Q (F0 m (pc + 3) ls rest)) : W p l e R s m args below meth c H locs cells slots Q (F0 m pc ls st0) := by
  have hFc := va_free (wc := wc) hD hS hA isC hC
  refine va_callv hr hS (fun q _ h => hFc q h) hFc (fun u t H1 locs1 ht hvm hw hB hz1 hk1 hS1 => ?_)
  obtain ⟨hP1, hK1, hD1⟩ := hB
  rw [ht] at hP1
  obtain ⟨hP2, hD2⟩ := va_join hP hD isC isR hC hR hn hdis hk1 hFc hP1 hD1
  exact kk u H1 locs1 hw hP2 hD2 hS1
/-- .. a cell comes -/
theorem vx_callr {S : Type} {post : S → Prop} {wsF : S → Nat → va_W} {a : Array Value} (hr : va_Run p l e R s m args below meth c H locs cells slots mc ms (F0 m pc ls st0) rest (va_Qr post (fun u q => vx_E D cl tys (va_A wc H.size) (wsF u q)) (va_A wc H.size) a) (va_A wc H.size))
    (hP : va_P D cl ws H) (hD : va_D A ws) (hS : va_S A H0 H locs) (hA : ∀ q, H0.size ≤ q → A q) (isC isR : List Nat) (hC : isC.map (fun i => ws[i]?) = wc.map some) (hR : isR.map (fun i => ws[i]?) = wr.map some) (hn : va_nd isR = true) (hdis : ∀ i ∈ isR, i ∉ isC)
    (kk : ∀ (u : S) (q : Nat) (H1 : Heap) (locs1 : List Loc), post u → va_P D cl (wr ++ wsF u q) H1 → va_D A (wr ++ wsF u q) → va_S A H0 H1 locs1 → W p l e R s m args below meth c H1 locs1 (cells + mc) (slots + ms) Q (F0 m (pc + 3) ls (.ref q :: rest))) : W p l e R s m args below meth c H locs cells slots Q (F0 m pc ls st0) := by
  have hFc := va_free (wc := wc) hD hS hA isC hC
  refine va_callr hr hS (fun q _ h => hFc q h) hFc (fun u ra t H1 locs1 ht hvm hw hB hz1 hk1 hS1 => ?_)
  obtain ⟨hP1, hK1, hD1⟩ := hB
  rw [ht] at hP1
  obtain ⟨hP2, hD2⟩ := va_join hP hD isC isR hC hR hn hdis hk1 hFc hP1 hD1
  exact kk u ra H1 locs1 hw hP2 hD2 hS1
/-- a call of an instance method that only reads -/
theorem vx_Vs {post : Int32 → Prop} {q0 ci : Nat} {fs : List Value} {qc : vw_C} (isC : List Nat) (S : CallFix p m c cc nL s args Ts own) (hM : Met l y wsc rm (va_Pc (.ref b :: As) (vx_R D cl tys wc)) (vp_Si post) 0 0 (fun _ => False)) (cw : CallW R s args own C index y bytes maxL ret wsc rm 0 0 n)
    (hK : va_K D cl tys s) (hP : va_P D cl ws H) (hC : isC.map (fun i => ws[i]?) = wc.map some) (hcl : cl[ci]? = some qc) (hq : qc.1 = C) (he : wc[q0]? = some (b, .inr (ci, fs)))
    (hn : As.length = n) (hsize : ls.size = nL) (hstack : st0 = As.reverse ++ .ref b :: rest) (hW : (rest.map fun v => v.category).sum ≤ 8) (hdg : decode cc pc = .ok (.invokevirtual index, 3)) (hf : cells + 0 ≤ R.cells ∧ slots + 0 ≤ R.slots)
    (kk : ∀ r : Int32, post r → W p l e R s m args below meth c H locs cells slots Q (F0 m (pc + 3) ls (.int r :: rest))) : W p l e R s m args below meth c H locs cells slots Q (F0 m pc ls st0) := by
  have hPc : va_P D cl wc H := hP.sub isC (vx_fm hC)
  subst hq
  exact vp_callSi (va_Run.run (va_runV S hM cw ⟨vx_blindR, va_recv hK hPc hcl he, vx_preR hPc hK⟩ rfl hn hsize hstack (lv_room hW) hdg hf)) kk
/-- a call of an instance method that changes, an int comes -/
theorem vx_Vi {S0 : Type} {post : Int32 → S0 → Prop} {wsF : S0 → va_W} {q0 ci : Nat} {fs : List Value} {qc : vw_C} (isC isR : List Nat) (S : CallFix p m c cc nL s args Ts own) (hM : Met l y wsc rm (va_Pc (.ref b :: As) (vx_B D cl tys wc H.size)) (va_Qi post (fun u => vx_E D cl tys (va_A wc H.size) (wsF u)) (va_A wc H.size)) mc ms (va_A wc H.size)) (cw : CallW R s args own C index y bytes maxL ret wsc rm mc ms n)
    (hK : va_K D cl tys s) (hP : va_P D cl ws H) (hD : va_D A ws) (hS : va_S A H0 H locs) (hA : ∀ q, H0.size ≤ q → A q) (hC : isC.map (fun i => ws[i]?) = wc.map some) (hR : isR.map (fun i => ws[i]?) = wr.map some) (hnC : va_nd isC = true) (hnR : va_nd isR = true) (hdis : ∀ i ∈ isR, i ∉ isC) (hcl : cl[ci]? = some qc) (hq : qc.1 = C) (he : wc[q0]? = some (b, .inr (ci, fs)))
    (hn : As.length = n) (hsize : ls.size = nL) (hstack : st0 = As.reverse ++ .ref b :: rest) (hW : (rest.map fun v => v.category).sum ≤ 8) (hdg : decode cc pc = .ok (.invokevirtual index, 3)) (hf : cells + mc ≤ R.cells ∧ slots + ms ≤ R.slots)
    (kk : ∀ (r : Int32) (u : S0) (H1 : Heap) (locs1 : List Loc), post r u → va_P D cl (wr ++ wsF u) H1 → va_D A (wr ++ wsF u) → va_S A H0 H1 locs1 → W p l e R s m args below meth c H1 locs1 (cells + mc) (slots + ms) Q (F0 m (pc + 3) ls (.int r :: rest))) : W p l e R s m args below meth c H locs cells slots Q (F0 m pc ls st0) := by
  have hPc : va_P D cl wc H := hP.sub isC (vx_fm hC)
  have hDc : va_D A wc := hD.sub isC hnC hC
  subst hq
  exact vx_calli (va_runV S hM cw ⟨vx_blindB, va_recv hK hPc hcl he, vx_preB hPc hK hDc⟩ rfl hn hsize hstack (lv_room hW) hdg hf) hP hD hS hA isC isR hC hR hnR hdis kk
/-- .. nothing comes -/
theorem vx_Vv {S0 : Type} {post : S0 → Prop} {wsF : S0 → va_W} {q0 ci : Nat} {fs : List Value} {qc : vw_C} (isC isR : List Nat) (S : CallFix p m c cc nL s args Ts own) (hM : Met l y wsc rm (va_Pc (.ref b :: As) (vx_B D cl tys wc H.size)) (va_Qv post (fun u => vx_E D cl tys (va_A wc H.size) (wsF u)) (va_A wc H.size)) mc ms (va_A wc H.size)) (cw : CallW R s args own C index y bytes maxL ret wsc rm mc ms n)
    (hK : va_K D cl tys s) (hP : va_P D cl ws H) (hD : va_D A ws) (hS : va_S A H0 H locs) (hA : ∀ q, H0.size ≤ q → A q) (hC : isC.map (fun i => ws[i]?) = wc.map some) (hR : isR.map (fun i => ws[i]?) = wr.map some) (hnC : va_nd isC = true) (hnR : va_nd isR = true) (hdis : ∀ i ∈ isR, i ∉ isC) (hcl : cl[ci]? = some qc) (hq : qc.1 = C) (he : wc[q0]? = some (b, .inr (ci, fs)))
    (hn : As.length = n) (hsize : ls.size = nL) (hstack : st0 = As.reverse ++ .ref b :: rest) (hW : (rest.map fun v => v.category).sum ≤ 8) (hdg : decode cc pc = .ok (.invokevirtual index, 3)) (hf : cells + mc ≤ R.cells ∧ slots + ms ≤ R.slots)
    (kk : ∀ (u : S0) (H1 : Heap) (locs1 : List Loc), post u → va_P D cl (wr ++ wsF u) H1 → va_D A (wr ++ wsF u) → va_S A H0 H1 locs1 → W p l e R s m args below meth c H1 locs1 (cells + mc) (slots + ms) Q (F0 m (pc + 3) ls rest)) : W p l e R s m args below meth c H locs cells slots Q (F0 m pc ls st0) := by
  have hPc : va_P D cl wc H := hP.sub isC (vx_fm hC)
  have hDc : va_D A wc := hD.sub isC hnC hC
  subst hq
  exact vx_callv (va_runV S hM cw ⟨vx_blindB, va_recv hK hPc hcl he, vx_preB hPc hK hDc⟩ rfl hn hsize hstack (lv_room hW) hdg hf) hP hD hS hA isC isR hC hR hnR hdis kk
/-- a constructor -/
theorem vx_Iv {S0 : Type} {post : S0 → Prop} {wsF : S0 → va_W} (isC isR : List Nat) (S : CallFix p m c cc nL s args Ts own) (hM : Met l y wsc rm (va_Pc (.ref b :: As) (vx_B D cl tys wc H.size)) (va_Qv post (fun u => vx_E D cl tys (va_A wc H.size) (wsF u)) (va_A wc H.size)) mc ms (va_A wc H.size)) (cw : CallB R s args own index y bytes maxL none wsc rm mc ms n ∧ y.name = "<init>" ∧ (Cond.instanceMethod y).before args s = true)
    (hK : va_K D cl tys s) (hP : va_P D cl ws H) (hD : va_D A ws) (hS : va_S A H0 H locs) (hA : ∀ q, H0.size ≤ q → A q) (hC : isC.map (fun i => ws[i]?) = wc.map some) (hR : isR.map (fun i => ws[i]?) = wr.map some) (hnC : va_nd isC = true) (hnR : va_nd isR = true) (hdis : ∀ i ∈ isR, i ∉ isC)
    (hn : As.length = n) (hsize : ls.size = nL) (hstack : st0 = As.reverse ++ .ref b :: rest) (hW : (rest.map fun v => v.category).sum ≤ 8) (hdg : decode cc pc = .ok (.invokespecial index, 3)) (hf : cells + mc ≤ R.cells ∧ slots + ms ≤ R.slots)
    (kk : ∀ (u : S0) (H1 : Heap) (locs1 : List Loc), post u → va_P D cl (wr ++ wsF u) H1 → va_D A (wr ++ wsF u) → va_S A H0 H1 locs1 → W p l e R s m args below meth c H1 locs1 (cells + mc) (slots + ms) Q (F0 m (pc + 3) ls rest)) : W p l e R s m args below meth c H locs cells slots Q (F0 m pc ls st0) := by
  have hPc : va_P D cl wc H := hP.sub isC (vx_fm hC)
  have hDc : va_D A wc := hD.sub isC hnC hC
  exact vx_callv (va_runI S hM cw ⟨vx_blindB, vx_preB hPc hK hDc⟩ rfl hn hsize hstack (lv_room hW) hdg hf) hP hD hS hA isC isR hC hR hnR hdis kk
/-- a call of a static method, a cell comes -/
theorem vx_Sr {S0 : Type} {post : S0 → Prop} {wsF : S0 → Nat → va_W} (isC isR : List Nat) (S : CallFix p m c cc nL s args Ts own) (hM : Met l y wsc rm (va_Pc As (vx_B D cl tys wc H.size)) (va_Qr post (fun u q => vx_E D cl tys (va_A wc H.size) (wsF u q)) (va_A wc H.size)) mc ms (va_A wc H.size)) (cw : CallB R s args own index y bytes maxL ret wsc rm mc ms n ∧ (Cond.static y).before args s = true)
    (hK : va_K D cl tys s) (hP : va_P D cl ws H) (hD : va_D A ws) (hS : va_S A H0 H locs) (hA : ∀ q, H0.size ≤ q → A q) (hC : isC.map (fun i => ws[i]?) = wc.map some) (hR : isR.map (fun i => ws[i]?) = wr.map some) (hnC : va_nd isC = true) (hnR : va_nd isR = true) (hdis : ∀ i ∈ isR, i ∉ isC)
    (hn : As.length = n) (hsize : ls.size = nL) (hstack : st0 = As.reverse ++ rest) (hW : (rest.map fun v => v.category).sum ≤ 8) (hdg : decode cc pc = .ok (.invokestatic index, 3)) (hf : cells + mc ≤ R.cells ∧ slots + ms ≤ R.slots)
    (kk : ∀ (u : S0) (q : Nat) (H1 : Heap) (locs1 : List Loc), post u → va_P D cl (wr ++ wsF u q) H1 → va_D A (wr ++ wsF u q) → va_S A H0 H1 locs1 → W p l e R s m args below meth c H1 locs1 (cells + mc) (slots + ms) Q (F0 m (pc + 3) ls (.ref q :: rest))) : W p l e R s m args below meth c H locs cells slots Q (F0 m pc ls st0) := by
  have hPc : va_P D cl wc H := hP.sub isC (vx_fm hC)
  have hDc : va_D A wc := hD.sub isC hnC hC
  exact vx_callr (va_runS S hM cw ⟨vx_blindB, vx_preB hPc hK hDc⟩ rfl hn hsize hstack (lv_room hW) hdg hf) hP hD hS hA isC isR hC hR hnR hdis kk
end VX
/-- the array class of a primitive type, from the tables -/
theorem vx_arr {args : Array Value} {s : State} {ty : FieldType} (hp : ∀ C, ty ≠ .object C) (h : (Cond.arrayClass ty).before args s = true) : ∃ cA : ClassId, ArrOfT s cA ty ∧ va_RA s cA ty := by
  obtain ⟨cA, kA, comp, h1, h2, h3⟩ := Cond.arrayClass_spec h
  refine ⟨cA, fun n z => ⟨fun k h => (by cases h), kA, h2, comp, h3⟩, ?_⟩
  cases ty <;> first | exact h1 | exact absurd rfl (hp _)
theorem vx_nmB {D : va_G} {cl : List vw_C} {tys : List (ClassId × FieldType)} {s : State} {c1 c2 : ClassId} (h : va_K D cl tys s) (i j : Nat) (hi : tys[i]? = some (c1, .byte)) (hj : tys[j]? = some (c2, .byte)) : c1 = c2 :=
  Option.some.inj ((va_nm_byte (h.2 i _ hi).2).symm.trans (va_nm_byte (h.2 j _ hj).2))
theorem vx_nmI {D : va_G} {cl : List vw_C} {tys : List (ClassId × FieldType)} {s : State} {c1 c2 : ClassId} (h : va_K D cl tys s) (i j : Nat) (hi : tys[i]? = some (c1, .int)) (hj : tys[j]? = some (c2, .int)) : c1 = c2 :=
  Option.some.inj ((va_nm_int (h.2 i _ hi).2).symm.trans (va_nm_int (h.2 j _ hj).2))
end
section
/-! WHAT IS CUT, over an accessor: a i is the byte at place i, -1 where there is none; n bytes wait -/
def bA (f : Nat → Int32) (n : Nat) (i : Int) : Int := if 0 ≤ i ∧ i < n then bv (f i.toNat) else -1
theorem bA_rg (f : Nat → Int32) (n : Nat) (i : Int) : -1 ≤ bA f n i ∧ bA f n i ≤ 255 := by
  unfold bA
  split
  · have := bv_in (f i.toNat); omega
  · omega
theorem bA_in {f : Nat → Int32} {n : Nat} {i : Int} (h : 0 ≤ i ∧ i < n) : bA f n i = bv (f i.toNat) := if_pos h
theorem bA_out {f : Nat → Int32} {n : Nat} {i : Int} (h : ¬ (0 ≤ i ∧ i < n)) : bA f n i = -1 := if_neg h
theorem bA_has {f : Nat → Int32} {n : Nat} {i : Int} (h : bA f n i ≠ -1) : 0 ≤ i ∧ i < n := by
  by_cases q : 0 ≤ i ∧ i < n
  · exact q
  · exact absurd (bA_out q) h
theorem bA_ne {f : Nat → Int32} {n : Nat} {i : Int} (h : 0 ≤ i ∧ i < n) : 0 ≤ bA f n i := by
  rw [bA_in h]; exact (bv_in _).1
theorem bA_congr {f g : Nat → Int32} {n : Nat} (h : ∀ j, j < n → f j = g j) (i : Int) : bA f n i = bA g n i := by
  unfold bA
  split
  · rw [h i.toNat (by omega)]
  · rfl
def zStopGo (a : Int → Int) : Nat → Int → Int
  | 0, _ => -1
  | k + 1, i => if a i = 13 ∧ a (i + 1) = 10 then i else zStopGo a k (i + 1)
def zStop (a : Int → Int) (fr : Int) : Int := zStopGo a 14 (fr + 1)
theorem zStopGo_rg (a : Int → Int) : ∀ (k : Nat) (i : Int), zStopGo a k i = -1 ∨ ((i ≤ zStopGo a k i ∧ zStopGo a k i < i + k) ∧ a (zStopGo a k i) = 13 ∧ a (zStopGo a k i + 1) = 10) := by
  intro k
  induction k with
  | zero => intro i; exact Or.inl rfl
  | succ k ih =>
    intro i
    unfold zStopGo
    split
    · rename_i h; exact Or.inr ⟨⟨by omega, by omega⟩, h⟩
    · rcases ih (i + 1) with h | ⟨h, h2⟩
      · exact Or.inl h
      · exact Or.inr ⟨⟨by omega, by omega⟩, h2⟩
theorem zStop_rg (a : Int → Int) (fr : Int) : zStop a fr = -1 ∨ ((fr + 1 ≤ zStop a fr ∧ zStop a fr ≤ fr + 14) ∧ a (zStop a fr) = 13 ∧ a (zStop a fr + 1) = 10) := by
  rcases zStopGo_rg a 14 (fr + 1) with h | ⟨h, h2⟩
  · exact Or.inl h
  · exact Or.inr ⟨⟨h.1, by have := h.2; unfold zStop; omega⟩, h2⟩
def zDig (a : Int → Int) : Nat → Int → Int → Option Int
  | 0, _, x => some x
  | k + 1, i, x => if a i < 48 ∨ 57 < a i then none else zDig a k (i + 1) (x * 10 + (a i - 48))
/-- k digits: the number is below 10^k times the one ahead and one more -/
theorem zDig_rg (a : Int → Int) : ∀ (k : Nat) (i x z M : Int), 0 ≤ x → x ≤ M → zDig a k i x = some z → 0 ≤ z ∧ z < (M + 1) * 10 ^ k := by
  intro k
  induction k with
  | zero => intro i x z M h0 hM h; cases h; simp; omega
  | succ k ih =>
    intro i x z M h0 hM h
    unfold zDig at h
    split at h
    · cases h
    · rename_i q
      obtain ⟨r1, r2⟩ := ih (i + 1) (x * 10 + (a i - 48)) z (M * 10 + 9) (by omega) (by omega) h
      refine ⟨r1, ?_⟩
      have e : (M * 10 + 9 + 1) * 10 ^ k = (M + 1) * 10 ^ (k + 1) := by rw [Int.pow_succ, ← Int.mul_assoc, Int.mul_right_comm]; congr 1; omega
      rw [e] at r2
      exact r2
def zNum (a : Int → Int) (fr st : Int) : Option Int :=
  if st ≤ (if a fr = 45 then fr + 1 else fr) ∨ 6 < st - (if a fr = 45 then fr + 1 else fr) then none
  else (zDig a (st - (if a fr = 45 then fr + 1 else fr)).toNat (if a fr = 45 then fr + 1 else fr) 0).map (fun x => if a fr = 45 then -x else x)
theorem zNum_rg {a : Int → Int} {fr st z : Int} (h : zNum a fr st = some z) : -999999 ≤ z ∧ z ≤ 999999 := by
  unfold zNum at h
  generalize (if a fr = 45 then fr + 1 else fr) = i0 at h
  split at h
  · cases h
  · rename_i q
    cases e : zDig a (st - i0).toNat i0 0 with
    | none => rw [e] at h; cases h
    | some x =>
      rw [e] at h
      have hx := zDig_rg a _ i0 0 x 0 (by omega) (by omega) e
      have h6 : (10 : Int) ^ (st - i0).toNat ≤ 10 ^ 6 := by
        have hk : (st - i0).toNat ≤ 6 := by omega
        generalize (st - i0).toNat = k at hk
        rcases (by omega : k = 0 ∨ k = 1 ∨ k = 2 ∨ k = 3 ∨ k = 4 ∨ k = 5 ∨ k = 6) with r | r | r | r | r | r | r <;> subst r <;> decide
      have h7 : x < 1000000 := by omega
      have h8 : (if a fr = 45 then -x else x) = z := Option.some.inj h
      split at h8 <;> omega
/-- a LINE at fr: the place behind it and its number; -1: bytes are missing, -2: a fault -/
def zLine (a : Int → Int) (n : Nat) (fr least most : Int) : Int × Int :=
  if zStop a fr = -1 then (if 16 ≤ (n : Int) - fr then -2 else -1, 0)
  else match zNum a (fr + 1) (zStop a fr) with
    | none => (-2, 0)
    | some z => if z < least ∨ most < z then (-2, 0) else (zStop a fr + 2, z)
def zEnd (a : Int → Int) (fr : Int) : Int :=
  if a fr = -1 then -1 else if ¬ a fr = 13 then -2 else if a (fr + 1) = -1 then -1 else if a (fr + 1) = 10 then fr + 2 else -2
/-- a word at fr: place, fault, where it lies and how long it is -/
def zWord (a : Int → Int) (n : Nat) (fr : Int) : Int × Int × Int × Int :=
  if a fr = -1 then (-1, 0, 0, 0) else if ¬ a fr = 36 then (-2, 2, 0, 0)
  else if (zLine a n fr 0 16384).1 < 0 then ((zLine a n fr 0 16384).1, if (zLine a n fr 0 16384).1 = -2 then 3 else 0, 0, 0)
  else (zEnd a ((zLine a n fr 0 16384).1 + (zLine a n fr 0 16384).2), if zEnd a ((zLine a n fr 0 16384).1 + (zLine a n fr 0 16384).2) = -2 then 4 else 0, zLine a n fr 0 16384)
def zWords (a : Int → Int) (n : Nat) : Nat → Int → Int → List (Int × Int) → Int × Int × List (Int × Int)
  | 0, pl, ft, ws => (pl, ft, ws)
  | k + 1, pl, ft, ws => if pl < 0 then (pl, ft, ws) else zWords a n k (zWord a n pl).1 (zWord a n pl).2.1 (ws ++ [(zWord a n pl).2.2])
def zLF (a : Int → Int) : Nat → Int → Int
  | 0, _ => -1
  | k + 1, i => if a i = 10 then i else zLF a k (i + 1)
theorem zLF_rg (a : Int → Int) : ∀ (k : Nat) (i : Int), zLF a k i = -1 ∨ ((i ≤ zLF a k i ∧ zLF a k i < i + k) ∧ a (zLF a k i) = 10) := by
  intro k
  induction k with
  | zero => intro i; exact Or.inl rfl
  | succ k ih =>
    intro i
    unfold zLF
    split
    · rename_i h; exact Or.inr ⟨⟨by omega, by omega⟩, h⟩
    · rcases ih (i + 1) with h | ⟨h, h2⟩
      · exact Or.inl h
      · exact Or.inr ⟨⟨by omega, by omega⟩, h2⟩
def zSplit (a : Int → Int) (stop : Int) : Nat → Int → Int → List (Int × Int) → List (Int × Int)
  | 0, _, _, ws => ws
  | k + 1, i, st, ws => if i = stop ∨ a i = 32 then zSplit a stop k (i + 1) (i + 1) (if st < i then ws ++ [(st, i - st)] else ws) else zSplit a stop k (i + 1) st ws
theorem zNum_0 {a : Int → Int} {fr st : Int} (h : st ≤ (if a fr = 45 then fr + 1 else fr) ∨ 6 < st - (if a fr = 45 then fr + 1 else fr)) : zNum a fr st = none := if_pos h
theorem zNum_m {a : Int → Int} {fr st : Int} (h1 : a fr = 45) (h : ¬ (st ≤ fr + 1 ∨ 6 < st - (fr + 1))) : zNum a fr st = (zDig a (st - (fr + 1)).toNat (fr + 1) 0).map (fun x => -x) := by
  unfold zNum
  simp only [if_pos h1]
  rw [if_neg h]
theorem zNum_p {a : Int → Int} {fr st : Int} (h1 : ¬ a fr = 45) (h : ¬ (st ≤ fr ∨ 6 < st - fr)) : zNum a fr st = (zDig a (st - fr).toNat fr 0).map (fun x => x) := by
  unfold zNum
  simp only [if_neg h1]
  rw [if_neg h]
theorem zNum_d {a : Int → Int} {fr st d : Int} (h : -2147483648 ≤ d ∧ d ≤ 2147483647) : -2147483648 ≤ (zNum a fr st).getD d ∧ (zNum a fr st).getD d ≤ 2147483647 := by
  cases e : zNum a fr st with
  | none => exact h
  | some z =>
    have := zNum_rg e
    show -2147483648 ≤ z ∧ z ≤ 2147483647
    omega
theorem zLine_1 {a : Int → Int} {n : Nat} {fr least most : Int} (h : zStop a fr = -1) : zLine a n fr least most = (if 16 ≤ (n : Int) - fr then -2 else -1, 0) := if_pos h
theorem zLine_2 {a : Int → Int} {n : Nat} {fr least most : Int} (h : ¬ zStop a fr = -1) (h2 : ¬ (zNum a (fr + 1) (zStop a fr)).isSome = true) : zLine a n fr least most = (-2, 0) := by
  unfold zLine
  rw [if_neg h]
  cases e : zNum a (fr + 1) (zStop a fr) with
  | none => rfl
  | some z => rw [e] at h2; exact absurd rfl h2
theorem zLine_3 {a : Int → Int} {n : Nat} {fr least most z d : Int} (h : ¬ zStop a fr = -1) (h2 : (zNum a (fr + 1) (zStop a fr)).isSome = true) (hz : z = (zNum a (fr + 1) (zStop a fr)).getD d) (h3 : z < least ∨ most < z) : zLine a n fr least most = (-2, 0) := by
  unfold zLine
  rw [if_neg h]
  cases e : zNum a (fr + 1) (zStop a fr) with
  | none => rfl
  | some y =>
    rw [e] at hz
    have hz : z = y := hz
    subst hz
    show (if z < least ∨ most < z then ((-2 : Int), (0 : Int)) else (zStop a fr + 2, z)) = _
    rw [if_pos h3]
theorem zLine_4 {a : Int → Int} {n : Nat} {fr least most z d : Int} (h : ¬ zStop a fr = -1) (h2 : (zNum a (fr + 1) (zStop a fr)).isSome = true) (hz : z = (zNum a (fr + 1) (zStop a fr)).getD d) (h3 : ¬ (z < least ∨ most < z)) : zLine a n fr least most = (zStop a fr + 2, z) := by
  unfold zLine
  rw [if_neg h]
  cases e : zNum a (fr + 1) (zStop a fr) with
  | none => rw [e] at h2; exact absurd h2 (by decide)
  | some y =>
    rw [e] at hz
    have hz : z = y := hz
    subst hz
    show (if z < least ∨ most < z then ((-2 : Int), (0 : Int)) else (zStop a fr + 2, z)) = _
    rw [if_neg h3]
theorem zEnd_rg (f : Nat → Int32) (n : Nat) (fr : Int) : zEnd (bA f n) fr = -1 ∨ zEnd (bA f n) fr = -2 ∨ (zEnd (bA f n) fr = fr + 2 ∧ fr + 2 ≤ n ∧ 0 ≤ fr) := by
  unfold zEnd
  split
  · exact Or.inl rfl
  · split
    · exact Or.inr (Or.inl rfl)
    · split
      · exact Or.inl rfl
      · split
        · rename_i h1 h2 h3 h4
          have e1 := bA_has h1
          have e2 := bA_has h3
          exact Or.inr (Or.inr ⟨rfl, by omega, by omega⟩)
        · exact Or.inr (Or.inl rfl)
theorem zLine_rg (f : Nat → Int32) (n : Nat) (fr least most : Int) : (zLine (bA f n) n fr least most).1 = -1 ∨ (zLine (bA f n) n fr least most).1 = -2 ∨ ((fr + 3 ≤ (zLine (bA f n) n fr least most).1 ∧ (zLine (bA f n) n fr least most).1 ≤ n) ∧ least ≤ (zLine (bA f n) n fr least most).2 ∧ (zLine (bA f n) n fr least most).2 ≤ most) := by
  rcases zStop_rg (bA f n) fr with h | ⟨h, h13, h10⟩
  · rw [zLine_1 h]
    by_cases q : 16 ≤ (n : Int) - fr
    · rw [if_pos q]; exact Or.inr (Or.inl rfl)
    · rw [if_neg q]; exact Or.inl rfl
  · have e2 := bA_has (f := f) (n := n) (i := zStop (bA f n) fr + 1) (by rw [h10]; decide)
    by_cases q0 : zStop (bA f n) fr = -1
    · rw [zLine_1 q0]
      by_cases q : 16 ≤ (n : Int) - fr
      · rw [if_pos q]; exact Or.inr (Or.inl rfl)
      · rw [if_neg q]; exact Or.inl rfl
    by_cases q : (zNum (bA f n) (fr + 1) (zStop (bA f n) fr)).isSome = true
    · obtain ⟨z, hz⟩ : ∃ z, z = (zNum (bA f n) (fr + 1) (zStop (bA f n) fr)).getD 0 := ⟨_, rfl⟩
      by_cases q3 : z < least ∨ most < z
      · rw [zLine_3 q0 q hz q3]; exact Or.inr (Or.inl rfl)
      · rw [zLine_4 q0 q hz q3]; exact Or.inr (Or.inr ⟨⟨by show fr + 3 ≤ zStop (bA f n) fr + 2; omega, by show zStop (bA f n) fr + 2 ≤ n; omega⟩, by show least ≤ z; omega, by show z ≤ most; omega⟩)
    · rw [zLine_2 q0 q]; exact Or.inr (Or.inl rfl)
theorem zWord_1 {a : Int → Int} {n : Nat} {fr : Int} (h : a fr = -1) : zWord a n fr = (-1, 0, 0, 0) := if_pos h
theorem zWord_2 {a : Int → Int} {n : Nat} {fr : Int} (h : ¬ a fr = -1) (h2 : ¬ a fr = 36) : zWord a n fr = (-2, 2, 0, 0) := by
  unfold zWord; rw [if_neg h, if_pos h2]
theorem zWord_3 {a : Int → Int} {n : Nat} {fr : Int} {L : Int × Int} (hL : L = zLine a n fr 0 16384) (h2 : a fr = 36) (h3 : L.1 < 0) : zWord a n fr = (L.1, if L.1 = -2 then 3 else 0, 0, 0) := by
  subst hL
  unfold zWord; rw [if_neg (by omega), if_neg (by omega), if_pos h3]
theorem zWord_4 {a : Int → Int} {n : Nat} {fr : Int} {L : Int × Int} (hL : L = zLine a n fr 0 16384) (h2 : a fr = 36) (h3 : ¬ L.1 < 0) : zWord a n fr = (zEnd a (L.1 + L.2), if zEnd a (L.1 + L.2) = -2 then 4 else 0, L) := by
  subst hL
  unfold zWord; rw [if_neg (by omega), if_neg (by omega), if_neg h3]
theorem zWord_rg (f : Nat → Int32) (n : Nat) (fr : Int) : (zWord (bA f n) n fr).1 = -1 ∨ (zWord (bA f n) n fr).1 = -2 ∨ ((0 ≤ (zWord (bA f n) n fr).1 ∧ (zWord (bA f n) n fr).1 ≤ n) ∧ (0 ≤ (zWord (bA f n) n fr).2.2.1 ∧ 0 ≤ (zWord (bA f n) n fr).2.2.2 ∧ (zWord (bA f n) n fr).2.2.1 + (zWord (bA f n) n fr).2.2.2 + 2 = (zWord (bA f n) n fr).1 ∧ fr + 3 ≤ (zWord (bA f n) n fr).2.2.1)) := by
  by_cases h : bA f n fr = -1
  · rw [zWord_1 h]; exact Or.inl rfl
  by_cases h2 : bA f n fr = 36
  · obtain ⟨L, hL⟩ : ∃ L, L = zLine (bA f n) n fr 0 16384 := ⟨_, rfl⟩
    have e0 := bA_has h
    have g := zLine_rg f n fr 0 16384
    rw [← hL] at g
    by_cases h3 : L.1 < 0
    · rw [zWord_3 hL h2 h3]
      show L.1 = -1 ∨ L.1 = -2 ∨ _
      omega
    · rw [zWord_4 hL h2 h3]
      have g2 := zEnd_rg f n (L.1 + L.2)
      show zEnd (bA f n) (L.1 + L.2) = -1 ∨ zEnd (bA f n) (L.1 + L.2) = -2 ∨ ((0 ≤ zEnd (bA f n) (L.1 + L.2) ∧ zEnd (bA f n) (L.1 + L.2) ≤ n) ∧ (0 ≤ L.1 ∧ 0 ≤ L.2 ∧ L.1 + L.2 + 2 = zEnd (bA f n) (L.1 + L.2) ∧ fr + 3 ≤ L.1))
      omega
  · rw [zWord_2 h h2]; exact Or.inr (Or.inl rfl)
/-- the words that stand in the rows -/
def wR (ws : List (Int × Int)) (cnt : Nat) (sa za : Nat → Int) : Prop := ws.length = cnt ∧ ∀ j, j < cnt → ws[j]? = some (sa j, za j)
theorem wR_0 {sa za : Nat → Int} : wR [] 0 sa za := ⟨rfl, fun j h => absurd h (Nat.not_lt_zero j)⟩
theorem wR_add {ws : List (Int × Int)} {cnt : Nat} {sa za sa' za' : Nat → Int} {x : Int × Int} (h : wR ws cnt sa za) (hk : ∀ j, j < cnt → sa' j = sa j ∧ za' j = za j) (h1 : sa' cnt = x.1) (h2 : za' cnt = x.2) : wR (ws ++ [x]) (cnt + 1) sa' za' := by
  refine ⟨by rw [List.length_append, h.1]; rfl, fun j hj => ?_⟩
  by_cases q : j < cnt
  · rw [List.getElem?_append_left (by rw [h.1]; exact q), h.2 j q, (hk j q).1, (hk j q).2]
  · have e : j = cnt := by omega
    subst e
    rw [List.getElem?_append_right (by rw [h.1]; exact Nat.le_refl _), h.1, Nat.sub_self, h1, h2]
    rfl
/-- the request of told words: place, fault, words -/
def zCount (a : Int → Int) (n : Nat) : Int × Int × List (Int × Int) :=
  if (zLine a n 0 (-999999) 1024).1 < 0 then ((zLine a n 0 (-999999) 1024).1, if (zLine a n 0 (-999999) 1024).1 = -2 then 1 else 0, [])
  else zWords a n (zLine a n 0 (-999999) 1024).2.toNat (zLine a n 0 (-999999) 1024).1 0 []
theorem zWords_neg {a : Int → Int} {n k : Nat} {pl ft : Int} {ws : List (Int × Int)} (h : pl < 0) : zWords a n k pl ft ws = (pl, ft, ws) := by
  cases k with
  | zero => rfl
  | succ k => exact if_pos h
theorem zWords_suc {a : Int → Int} {n k : Nat} {pl ft : Int} {ws : List (Int × Int)} (h : ¬ pl < 0) : zWords a n (k + 1) pl ft ws = zWords a n k (zWord a n pl).1 (zWord a n pl).2.1 (ws ++ [(zWord a n pl).2.2]) := if_neg h
theorem zCount_neg {a : Int → Int} {n : Nat} {L : Int × Int} (hL : L = zLine a n 0 (-999999) 1024) (h : L.1 < 0) : zCount a n = (L.1, if L.1 = -2 then 1 else 0, []) := by
  subst hL
  exact if_pos h
theorem zCount_pos {a : Int → Int} {n : Nat} {L : Int × Int} (hL : L = zLine a n 0 (-999999) 1024) (h : ¬ L.1 < 0) : zCount a n = zWords a n L.2.toNat L.1 0 [] := by
  subst hL
  exact if_neg h
theorem zSplit_w {a : Int → Int} {stop i st : Int} {k : Nat} {ws : List (Int × Int)} (h : i = stop ∨ a i = 32) (h2 : st < i) : zSplit a stop (k + 1) i st ws = zSplit a stop k (i + 1) (i + 1) (ws ++ [(st, i - st)]) := by
  show (if i = stop ∨ a i = 32 then _ else _) = _
  rw [if_pos h, if_pos h2]
theorem zSplit_s {a : Int → Int} {stop i st : Int} {k : Nat} {ws : List (Int × Int)} (h : i = stop ∨ a i = 32) (h2 : ¬ st < i) : zSplit a stop (k + 1) i st ws = zSplit a stop k (i + 1) (i + 1) ws := by
  show (if i = stop ∨ a i = 32 then _ else _) = _
  rw [if_pos h, if_neg h2]
theorem zSplit_n {a : Int → Int} {stop i st : Int} {k : Nat} {ws : List (Int × Int)} (h : ¬ (i = stop ∨ a i = 32)) : zSplit a stop (k + 1) i st ws = zSplit a stop k (i + 1) st ws := by
  show (if i = stop ∨ a i = 32 then _ else _) = _
  rw [if_neg h]
/-- where the words of a line of its own end, the LF at lf -/
def zLast (a : Int → Int) (lf : Int) : Int := if a (lf - 1) = 13 then lf - 1 else lf
/-- a line of its own: place, fault, words -/
def zPlain (a : Int → Int) (n : Nat) : Int × Int × List (Int × Int) :=
  if zLF a (min n 2048) 0 = -1 then (if 2048 ≤ n then (-2, 5, []) else (-1, 0, []))
  else (zLF a (min n 2048) 0 + 1, 0, zSplit a (zLast a (zLF a (min n 2048) 0)) (zLast a (zLF a (min n 2048) 0) + 1).toNat 0 0 [])
def zCut (a : Int → Int) (n : Nat) : Int × Int × List (Int × Int) := if a 0 = 42 then zCount a n else zPlain a n
theorem zWords_rg (f : Nat → Int32) (n : Nat) : ∀ (k : Nat) (pl ft : Int) (ws : List (Int × Int)), (pl = -1 ∨ pl = -2 ∨ (0 ≤ pl ∧ pl ≤ n)) → (∀ x ∈ ws, 0 ≤ pl → 0 ≤ x.1 ∧ 0 ≤ x.2 ∧ x.1 + x.2 ≤ pl) →
    ((zWords (bA f n) n k pl ft ws).1 = -1 ∨ (zWords (bA f n) n k pl ft ws).1 = -2 ∨ (0 ≤ (zWords (bA f n) n k pl ft ws).1 ∧ (zWords (bA f n) n k pl ft ws).1 ≤ n)) ∧ (∀ x ∈ (zWords (bA f n) n k pl ft ws).2.2, 0 ≤ (zWords (bA f n) n k pl ft ws).1 → 0 ≤ x.1 ∧ 0 ≤ x.2 ∧ x.1 + x.2 ≤ (zWords (bA f n) n k pl ft ws).1) := by
  intro k
  induction k with
  | zero => intro pl ft ws h h2; exact ⟨h, h2⟩
  | succ k ih =>
    intro pl ft ws h h2
    by_cases q : pl < 0
    · rw [zWords_neg q]; exact ⟨h, h2⟩
    · rw [zWords_suc q]
      obtain ⟨V, hV⟩ : ∃ V, V = zWord (bA f n) n pl := ⟨_, rfl⟩
      have g := zWord_rg f n pl
      rw [← hV] at g ⊢
      refine ih _ _ _ (by omega) (fun x hx hp => ?_)
      rcases List.mem_append.mp hx with h3 | h3
      · have := h2 x h3 (by omega); omega
      · rw [List.mem_singleton] at h3
        subst h3
        omega
theorem zCount_rg (f : Nat → Int32) (n : Nat) : ((zCount (bA f n) n).1 = -1 ∨ (zCount (bA f n) n).1 = -2 ∨ (0 ≤ (zCount (bA f n) n).1 ∧ (zCount (bA f n) n).1 ≤ n)) ∧ (∀ x ∈ (zCount (bA f n) n).2.2, 0 ≤ (zCount (bA f n) n).1 → 0 ≤ x.1 ∧ 0 ≤ x.2 ∧ x.1 + x.2 ≤ (zCount (bA f n) n).1) := by
  obtain ⟨L, hL⟩ : ∃ L, L = zLine (bA f n) n 0 (-999999) 1024 := ⟨_, rfl⟩
  have g := zLine_rg f n 0 (-999999) 1024
  rw [← hL] at g
  by_cases q : L.1 < 0
  · rw [zCount_neg hL q]
    exact ⟨by show L.1 = -1 ∨ L.1 = -2 ∨ (0 ≤ L.1 ∧ L.1 ≤ n); omega, fun x hx => absurd hx List.not_mem_nil⟩
  · rw [zCount_pos hL q]
    exact zWords_rg f n _ _ _ _ (by omega) (fun x hx => absurd hx List.not_mem_nil)
theorem zSplit_rg (a : Int → Int) (stop : Int) : ∀ (k : Nat) (i st : Int) (ws : List (Int × Int)), i + k = stop + 1 → 0 ≤ st → st ≤ i → (∀ x ∈ ws, 0 ≤ x.1 ∧ 0 ≤ x.2 ∧ x.1 + x.2 ≤ stop) → ∀ x ∈ zSplit a stop k i st ws, 0 ≤ x.1 ∧ 0 ≤ x.2 ∧ x.1 + x.2 ≤ stop := by
  intro k
  induction k with
  | zero => intro i st ws _ _ _ h; exact h
  | succ k ih =>
    intro i st ws h1 h2 h3 h
    by_cases q : i = stop ∨ a i = 32
    · by_cases q2 : st < i
      · rw [zSplit_w q q2]
        refine ih _ _ _ (by omega) (by omega) (by omega) (fun x hx => ?_)
        rcases List.mem_append.mp hx with h4 | h4
        · exact h x h4
        · rw [List.mem_singleton] at h4
          subst h4
          show 0 ≤ st ∧ 0 ≤ i - st ∧ st + (i - st) ≤ stop
          omega
      · rw [zSplit_s q q2]
        exact ih _ _ _ (by omega) (by omega) (by omega) h
    · rw [zSplit_n q]
      exact ih _ _ _ (by omega) (by omega) (by omega) h
theorem zPlain_rg (f : Nat → Int32) (n : Nat) : ((zPlain (bA f n) n).1 = -1 ∨ (zPlain (bA f n) n).1 = -2 ∨ (0 ≤ (zPlain (bA f n) n).1 ∧ (zPlain (bA f n) n).1 ≤ n)) ∧ (∀ x ∈ (zPlain (bA f n) n).2.2, 0 ≤ (zPlain (bA f n) n).1 → 0 ≤ x.1 ∧ 0 ≤ x.2 ∧ x.1 + x.2 ≤ (zPlain (bA f n) n).1) := by
  obtain ⟨F, hF⟩ : ∃ F, F = zLF (bA f n) (min n 2048) 0 := ⟨_, rfl⟩
  have gF := zLF_rg (bA f n) (min n 2048) 0
  unfold zPlain
  rw [← hF] at gF ⊢
  by_cases q : F = -1
  · rw [if_pos q]
    by_cases q2 : 2048 ≤ n
    · rw [if_pos q2]; exact ⟨Or.inr (Or.inl rfl), fun x hx => absurd hx List.not_mem_nil⟩
    · rw [if_neg q2]; exact ⟨Or.inl rfl, fun x hx => absurd hx List.not_mem_nil⟩
  · rw [if_neg q]
    have hl : 0 ≤ zLast (bA f n) F ∧ zLast (bA f n) F ≤ F := by
      unfold zLast
      by_cases q3 : bA f n (F - 1) = 13
      · rw [if_pos q3]
        have := bA_has (f := f) (n := n) (i := F - 1) (by omega)
        omega
      · rw [if_neg q3]; omega
    refine ⟨by show F + 1 = -1 ∨ F + 1 = -2 ∨ (0 ≤ F + 1 ∧ F + 1 ≤ n); omega, fun x hx _ => ?_⟩
    have := zSplit_rg (bA f n) (zLast (bA f n) F) (zLast (bA f n) F + 1).toNat 0 0 [] (by omega) (by omega) (by omega) (fun x hx => absurd hx List.not_mem_nil) x hx
    show 0 ≤ x.1 ∧ 0 ≤ x.2 ∧ x.1 + x.2 ≤ F + 1
    omega
theorem zCut_rgW (f : Nat → Int32) (n : Nat) : ((zCut (bA f n) n).1 = -1 ∨ (zCut (bA f n) n).1 = -2 ∨ (0 ≤ (zCut (bA f n) n).1 ∧ (zCut (bA f n) n).1 ≤ n)) ∧ (∀ x ∈ (zCut (bA f n) n).2.2, 0 ≤ (zCut (bA f n) n).1 → 0 ≤ x.1 ∧ 0 ≤ x.2 ∧ x.1 + x.2 ≤ (zCut (bA f n) n).1) := by
  unfold zCut
  by_cases q : bA f n 0 = 42
  · rw [if_pos q]; exact zCount_rg f n
  · rw [if_neg q]; exact zPlain_rg f n
theorem zCut_rg (f : Nat → Int32) (n : Nat) : (zCut (bA f n) n).1 = -1 ∨ (zCut (bA f n) n).1 = -2 ∨ (0 ≤ (zCut (bA f n) n).1 ∧ (zCut (bA f n) n).1 ≤ n) := (zCut_rgW f n).1
end
section
/-! ARRAYS: stores and copies by naturals -/
section VY
variable {p : Program} {l : Launch} {e : Env} {R : Room} {s : State} {m : MethodId} {args : Array Value} {below : List Frame} {meth : Method} {c : Code} {H : Heap} {locs : List Loc} {cells slots : Nat} {Q : State → Prop}
variable {cc : ByteArray} {pc : Nat} {ls : Array Slot} {rest : List Value} {D : va_G} {cl : List vw_C} {A : Nat → Prop} {a : Nat} {tys : List (ClassId × FieldType)} {ws : va_W} {H0 : Heap}
theorem lx_copy (hexec : p.tables.exec = Jvm.exec) (hb : c.code = cc) (hml : c.maxLocals = ls.size) {own : String} {index : Nat} (hown : s.vm.findClass own = some m.cls) (hlink : (Cond.methodLink own index arraycopyName).before args s = true) (hnat : (Cond.native arraycopyName).before args s = true) (hstat : (Cond.static arraycopyName).before args s = true) (hini : (Cond.initialized "java/lang/System").before args s = true)
    (hK : va_K D cl tys s) (hP : va_P D cl ws H) (hD : va_D A ws) (hS : va_S A H0 H locs) (q0 q1 t0 t1 : Nat) {a0 : Nat} {c0 c1 : ClassId} {n0 n1 : Nat} {f g : Nat → Int32} {ty : FieldType} (ha0 : ws[q0]? = some (a0, .inl (c0, n0, .inl f))) (ha1 : ws[q1]? = some (a, .inl (c1, n1, .inl g))) (ht0 : tys[t0]? = some (c0, ty)) (ht1 : tys[t1]? = some (c1, ty)) (hprim : refKind ty = false)
    {sp dp n : Int} (sN dN nN : Nat) (e1 : sp = sN) (e2 : dp = dN) (e3 : n = nN) (hbd : n0 ≤ 65536 ∧ n1 ≤ 65536) (h4 : sN + nN ≤ n0) (h5 : dN + nN ≤ n1) (hfit : ∀ i, i < n0 → fits ty (.int (f i)) = true)
    (hframes : 1 ≤ R.frames) (hlocals : (rest.map fun v => v.category).sum + (nativeFrameWords "java/lang/System" "arraycopy" 5 + 11) ≤ R.locals) (hdg : decode cc pc = .ok (.invokestatic index, 3))
    (kk : ∀ (H1 : Heap) (locs1 : List Loc), va_P D cl (ws.set q1 (a, .inl (c1, n1, .inl (va_cpy f g sN dN nN)))) H1 → va_D A (ws.set q1 (a, .inl (c1, n1, .inl (va_cpy f g sN dN nN)))) → va_S A H0 H1 locs1 → W p l e R s m args below meth c H1 locs1 cells slots Q (F0 m (pc + 3) ls rest)) : W p l e R s m args below meth c H locs cells slots Q (F0 m pc ls (.int (iI n) :: .int (iI dp) :: .ref a :: .int (iI sp) :: .ref a0 :: rest)) := by
  subst e1; subst e2; subst e3
  have r1 : (iI (sN : Int)).toNatClampNeg = sN := iI_clN (by omega)
  have r2 : (iI (dN : Int)).toNatClampNeg = dN := iI_clN (by omega)
  have r3 : (iI (nN : Int)).toNatClampNeg = nN := iI_clN (by omega)
  refine va_copyi hexec hb hml hown hlink hnat hstat hini hK hP hD hS q0 q1 t0 t1 ha0 ha1 ht0 ht1 hprim (iI_nn (by omega)) (iI_nn (by omega)) (iI_nn (by omega)) (by rw [r1, r3]; exact h4) (by rw [r2, r3]; exact h5) (by rw [r1, r3]; exact fun i hi => hfit _ (by omega)) hframes hlocals hdg ?_
  rw [r1, r2, r3]
  exact kk
theorem lx_bast (hexec : p.tables.exec = Jvm.exec) (hb : c.code = cc) (hK : va_K D cl tys s) (hP : va_P D cl ws H) (hD : va_D A ws) (hS : va_S A H0 H locs) (q0 t0 : Nat) {cA : ClassId} {n : Nat} {f : Nat → Int32} (ha : ws[q0]? = some (a, .inl (cA, n, .inl f))) (ht : tys[t0]? = some (cA, .byte)) {i : Int} (iN : Nat) {x v : Int32} (e1 : i = iN) (hin : iN < n ∧ n ≤ 65536) (hv : vp_nar .byte x = v) (hdg : decode cc pc = .ok (.bastore, 1))
    (kk : ∀ (H1 : Heap) (locs1 : List Loc), va_P D cl (ws.set q0 (a, .inl (cA, n, .inl (upd f iN v)))) H1 → va_D A (ws.set q0 (a, .inl (cA, n, .inl (upd f iN v)))) → va_S A H0 H1 locs1 → W p l e R s m args below meth c H1 locs1 cells slots Q (F0 m (pc + 1) ls rest)) : W p l e R s m args below meth c H locs cells slots Q (F0 m pc ls (.int x :: .int (iI i) :: .ref a :: rest)) := by
  subst e1; subst hv
  have r1 : (iI (iN : Int)).toNatClampNeg = iN := iI_clN (by omega)
  refine va_bast hexec hb hK hP hD hS q0 t0 ha ht (iI_in (by omega)) hdg ?_
  rw [r1]
  exact kk
theorem lx_iast (hexec : p.tables.exec = Jvm.exec) (hb : c.code = cc) (hK : va_K D cl tys s) (hP : va_P D cl ws H) (hD : va_D A ws) (hS : va_S A H0 H locs) (q0 t0 : Nat) {cA : ClassId} {n : Nat} {f : Nat → Int32} (ha : ws[q0]? = some (a, .inl (cA, n, .inl f))) (ht : tys[t0]? = some (cA, .int)) {i : Int} (iN : Nat) {x : Int32} (e1 : i = iN) (hin : iN < n ∧ n ≤ 65536) (hdg : decode cc pc = .ok (.iastore, 1))
    (kk : ∀ (H1 : Heap) (locs1 : List Loc), va_P D cl (ws.set q0 (a, .inl (cA, n, .inl (upd f iN x)))) H1 → va_D A (ws.set q0 (a, .inl (cA, n, .inl (upd f iN x)))) → va_S A H0 H1 locs1 → W p l e R s m args below meth c H1 locs1 cells slots Q (F0 m (pc + 1) ls rest)) : W p l e R s m args below meth c H locs cells slots Q (F0 m pc ls (.int x :: .int (iI i) :: .ref a :: rest)) := by
  subst e1
  have r1 : (iI (iN : Int)).toNatClampNeg = iN := iI_clN (by omega)
  refine va_iast hexec hb hK hP hD hS q0 t0 ha ht (iI_in (by omega)) hdg ?_
  rw [r1]
  exact kk
end VY
/-- the byte of a number that a row keeps -/
def nb (x : Int32) (k : Int) : Int32 := ((x.toUInt32 >>> ((iI k).toUInt32 &&& Int32.toUInt32 31)).toInt32).toInt8.toInt32
theorem nb_nar (x : Int32) (k : Int) : vp_nar .byte (nb x k) = nb x k := pk_vb _
theorem nb_fit (x : Int32) (k : Int) : fits .byte (.int (nb x k)) = true := pk_fb _
/-- a byte with its sign, and without -/
theorem by_sgn {x : Int32} (h : fits .byte (.int x) = true) : -128 ≤ x.toInt ∧ x.toInt ≤ 127 := by
  simp only [fits, Bool.and_eq_true, decide_eq_true_eq] at h
  have h1 := Int32.le_iff_toInt_le.mp h.1
  have h2 := Int32.le_iff_toInt_le.mp h.2
  have e1 : (-128 : Int32).toInt = -128 := by decide
  have e2 : (127 : Int32).toInt = 127 := by decide
  omega
/-! ints of an array by their integers -/
def updZ (a : Nat → Int) (n : Nat) (v : Int) : Nat → Int := fun k => if k = n then v else a k
def cpyZ (a : Nat → Int) (n : Nat) : Nat → Int := fun k => if k < n then a k else 0
theorem up_iI (a : Nat → Int) (n : Nat) (v : Int) : upd (fun k => iI (a k)) n (iI v) = fun k => iI (updZ a n v k) := by
  funext k
  simp only [upd, updZ]
  split <;> rfl
theorem cp_iI (a : Nat → Int) (n : Nat) : va_cpy (fun k => iI (a k)) (fun _ => 0) 0 0 n = fun k => iI (cpyZ a n k) := by
  funext k
  by_cases h : k < n
  · rw [pk_cpy_in (Nat.zero_le _) (by omega), Nat.sub_zero, Nat.zero_add]
    simp only [cpyZ]
    rw [if_pos h]
  · rw [pk_cpy_out (by omega)]
    simp only [cpyZ]
    rw [if_neg h]
    exact iI_0.symm
theorem updZ_s (a : Nat → Int) (n : Nat) (v : Int) : updZ a n v n = v := if_pos rfl
theorem updZ_n (a : Nat → Int) {n k : Nat} (v : Int) (h : k ≠ n) : updZ a n v k = a k := if_neg h
theorem cpyZ_lt (a : Nat → Int) {n k : Nat} (h : k < n) : cpyZ a n k = a k := if_pos h
theorem nw_if {P : Prop} [Decidable P] : narrow .boolean (.int (iI (if P then 1 else 0))) = .int (iI (if P then 1 else 0)) := by
  by_cases h : P
  · rw [if_pos h]; rfl
  · rw [if_neg h]; rfl
/-- the twenty bytes of a feed -/
def fB (x1 x2 x3 x4 x5 : Int32) : Nat → Int32 := fun j => match j with
  | 0 => nb x1 24 | 1 => nb x1 16 | 2 => nb x1 8 | 3 => nb x1 0
  | 4 => nb x2 24 | 5 => nb x2 16 | 6 => nb x2 8 | 7 => nb x2 0
  | 8 => nb x3 24 | 9 => nb x3 16 | 10 => nb x3 8 | 11 => nb x3 0
  | 12 => nb x4 24 | 13 => nb x4 16 | 14 => nb x4 8 | 15 => nb x4 0
  | 16 => nb x5 24 | 17 => nb x5 16 | 18 => nb x5 8 | _ => nb x5 0
theorem fd_step {f f' g : Nat → Int32} {tc m : Nat} (h : ∀ j, j < m → f (tc + j) = g j) (hk : ∀ j, j < tc + m → f' j = f j) (h0 : f' (tc + m) = g m) (h1 : f' (tc + m + 1) = g (m + 1)) (h2 : f' (tc + m + 2) = g (m + 2)) (h3 : f' (tc + m + 3) = g (m + 3)) : ∀ j, j < m + 4 → f' (tc + j) = g j := by
  intro j hj
  by_cases q : j < m
  · rw [hk (tc + j) (by omega)]; exact h j q
  · rcases (by omega : j = m ∨ j = m + 1 ∨ j = m + 2 ∨ j = m + 3) with rfl | rfl | rfl | rfl
    · exact h0
    · exact h1
    · exact h2
    · exact h3
end
section
/-- the length of a row that grows -/
def gL (lim len need : Nat) : Nat := min lim (max need (2 * len))
set_option maxHeartbeats 4000000 in
set_option maxRecDepth 100000 in
/-- Arrays.copyOf to a greater length -/
theorem c_J7_copyB (l : Launch) (dC : Nat → ClassId) (dI : Nat → Nat → Nat) (cB cI : ClassId) (sz : Nat) (q len N : Nat) (f : Nat → Int32) (hfit : sb_Fit f) (h1 : len < N) (h2 : N ≤ 65536) : Met l yJ7_copyB wJ7_copyB ({ frames := 1, cells := 1, slots := N, locals := 48 }) (va_Pc [.ref q, .int (iI ((N : Int)))] (vx_B (dC, dI) vwCl [(cB, .byte), (cI, .int)] [(q, .inl (cB, len, .inl (f)))] sz)) (va_Qr (fun (u : Unit) => True) (fun (u : Unit) (qn : Nat) => vx_E (dC, dI) vwCl [(cB, .byte), (cI, .int)] (va_A [(q, .inl (cB, len, .inl (f)))] sz) [(q, .inl (cB, len, .inl (f))), (qn, .inl (cB, N, .inl (va_cpy f (fun _ => 0) 0 0 len)))]) (va_A [(q, .inl (cB, len, .inl (f)))] sz)) (1) (N) (va_A [(q, .inl (cB, len, .inl (f)))] sz) := by
  refine Met.ofW (cc := cJ7_copyB) (maxL := 3) (ret := (some (.array .byte))) (by decide) rfl ?_
  intro p e s m args below meth c s₁ B hml hv
  obtain ⟨rfl, hsz, hP, hK, hD0⟩ := hv
  have hx := B.exec
  have hb := B.bytes
  have hr := B.returns
  have hts := atoms_spec (ws := wJ7_copyB) B.pre
  have hown : s.vm.findClass "java/util/Arrays" = some m.cls := findClass_of_methodNamed B.named
  have hlocks := B.notSynchronized
  subst hsz
  have hD := hD0.self (sz := s.heap.size)
  generalize hAe : va_A [(q, .inl (cB, len, .inl (f)))] s.heap.size = A at hD ⊢
  have hA : ∀ q : Nat, s.heap.size ≤ q → A q := fun q h => by rw [← hAe]; exact Or.inr h
  have hS : va_S A s.heap s.heap [] := va_S.rf
  have hP : va_P (dC, dI) vwCl [(q, .inl (cB, len, .inl (f)))] s.heap := hP
  have hl := lv_entry ([.ref q, .int (iI ((N : Int)))]) (n := 3) (Nat.le_of_ble_eq_true rfl)
  rw [lg_entry_eq]
  generalize (lg_sl ([.ref q, .int (iI ((N : Int)))]) ++ List.replicate (3 - (lg_sl ([.ref q, .int (iI ((N : Int)))])).length) Slot.unset).toArray = ls at hl ⊢
  have hl : lv_has ls 3 [(0, .ref q), (1, .int (iI ((N : Int))))] := hl
  refine lv_iload_n hx hb dJ7_copyB_0 rfl (lv_at hl 1 rfl) ?_
  refine lv_aload_n hx hb dJ7_copyB_1 rfl (lv_at hl 0 rfl) ?_
  refine va_alen (v := iI ((len : Nat) : Int)) hx hb hK hP 0 0 rfl rfl (iI_nat _) dJ7_copyB_2 ?_
  refine lx_icmp_ne (a := (N : Int)) (b := ((len : Nat) : Int)) (tgt := 14) hx hb dJ7_copyB_3 (by decide) (by omega) (by omega) (fun cq1 => ?_) (fun cq1 => ?_)
  · refine lv_iload_n hx hb dJ7_copyB_14 rfl (lv_at hl 1 rfl) ?_
    refine va_newa (atype := .byte) (a0 := (N, .inl (fun _ => 0))) (ty := .byte) hx hb (hts _ (List.mem_cons_of_mem _ tw_50)) rfl hK hP hD hS hA (fun _ => rfl) (iI_nn (by omega)) (by rw [iI_cl (by omega)]; omega) (by show N * 1 ≤ 536870912; omega) (Nat.le_of_ble_eq_true rfl) (Nat.le_of_eq (Nat.zero_add N)) dJ7_copyB_15 (fun q2 cA H hK1 hP hD hS => ?_)
    obtain rfl : cB = cA := vx_nmB hK1 0 2 rfl rfl
    have hP : va_P (dC, dI) vwCl [(q, .inl (cB, len, .inl (f))), (q2, .inl (cB, N, .inl (fun _ => 0)))] H := hP
    have hD : va_D A [(q, .inl (cB, len, .inl (f))), (q2, .inl (cB, N, .inl (fun _ => 0)))] := hD
    refine W.widen (k := 1) (n := N) (by omega) (by omega) ?_
    refine lv_astore_n (lv' := [(2, .ref q2), (0, .ref q), (1, .int (iI ((N : Int))))]) hx hb dJ7_copyB_17 rfl hl (by decide) rfl (fun ls hl => ?_)
    refine lv_aload_n hx hb dJ7_copyB_18 rfl (lv_at hl 1 rfl) ?_
    refine lv_iconst (v := iI (0)) hx hb dJ7_copyB_19 rfl ?_
    refine lv_aload_n hx hb dJ7_copyB_20 rfl (lv_at hl 0 rfl) ?_
    refine lv_iconst (v := iI (0)) hx hb dJ7_copyB_21 rfl ?_
    refine lv_aload_n hx hb dJ7_copyB_22 rfl (lv_at hl 1 rfl) ?_
    refine va_alen (v := iI ((len : Nat) : Int)) hx hb hK hP 0 0 rfl rfl (iI_nat _) dJ7_copyB_23 ?_
    refine lv_iload_n hx hb dJ7_copyB_24 rfl (lv_at hl 2 rfl) ?_
    refine lx_min (a := ((len : Nat) : Int)) (b := (N : Int)) hx hb (by rw [hml]; exact hl.1.symm) hown (hts _ (List.mem_cons_of_mem _ tw_115)) (hts _ (List.mem_cons_of_mem _ tw_103)) (hts _ (List.mem_cons_of_mem _ tw_23)) (hts _ (List.mem_cons_of_mem _ tw_104)) (Nat.le_of_ble_eq_true rfl) (Nat.le_of_ble_eq_true rfl) (Nat.le_refl _) (Nat.le_refl _) (by omega) (by omega) dJ7_copyB_25 ?_
    refine lx_copy (ty := .byte) (sp := 0) (dp := 0) (n := min (((len : Nat) : Int)) ((N : Int))) hx hb (by rw [hml]; exact hl.1.symm) hown (hts _ (List.mem_cons_of_mem _ tw_116)) (hts _ (List.mem_cons_of_mem _ tw_118)) (hts _ (List.mem_cons_of_mem _ tw_117)) (hts _ (List.mem_cons_of_mem _ tw_25)) hK hP hD hS 0 1 0 0 rfl rfl rfl rfl rfl (0) (0) (len) (by omega) (by omega) (by omega) (by omega) (by omega) (by omega) (fun i _ => hfit i) (Nat.le_of_ble_eq_true rfl) (Nat.le_of_ble_eq_true rfl) dJ7_copyB_28 (fun H locs hP hD hS => ?_)
    have hP : va_P (dC, dI) vwCl [(q, .inl (cB, len, .inl (f))), (q2, .inl (cB, N, .inl (va_cpy (f) (fun _ => 0) (0) (0) (len))))] H := hP
    have hD : va_D A [(q, .inl (cB, len, .inl (f))), (q2, .inl (cB, N, .inl (va_cpy (f) (fun _ => 0) (0) (0) (len))))] := hD
    refine lv_aload_n hx hb dJ7_copyB_31 rfl (lv_at hl 0 rfl) ?_
    exact W.aret (v := .ref q2) hx hb hr (Or.inr ⟨_, rfl⟩) (Or.inr ⟨_, rfl⟩) (fun t ht hW => ⟨⟨(), q2, rfl, trivial, by rw [ht]; exact hP, va_K.moved hW.alike hK, hD⟩, hS.F ht⟩) hS.2.2 dJ7_copyB_32
  · exact absurd cq1 (by omega)
set_option maxHeartbeats 4000000 in
set_option maxRecDepth 100000 in
/-- Arrays.copyOf to a greater length -/
theorem c_J7_copyI (l : Launch) (dC : Nat → ClassId) (dI : Nat → Nat → Nat) (cB cI : ClassId) (sz : Nat) (q len N : Nat) (f : Nat → Int32) (h1 : len < N) (h2 : N ≤ 65536) : Met l yJ7_copyI wJ7_copyI ({ frames := 1, cells := 1, slots := N, locals := 48 }) (va_Pc [.ref q, .int (iI ((N : Int)))] (vx_B (dC, dI) vwCl [(cB, .byte), (cI, .int)] [(q, .inl (cI, len, .inl (f)))] sz)) (va_Qr (fun (u : Unit) => True) (fun (u : Unit) (qn : Nat) => vx_E (dC, dI) vwCl [(cB, .byte), (cI, .int)] (va_A [(q, .inl (cI, len, .inl (f)))] sz) [(q, .inl (cI, len, .inl (f))), (qn, .inl (cI, N, .inl (va_cpy f (fun _ => 0) 0 0 len)))]) (va_A [(q, .inl (cI, len, .inl (f)))] sz)) (1) (N) (va_A [(q, .inl (cI, len, .inl (f)))] sz) := by
  refine Met.ofW (cc := cJ7_copyI) (maxL := 3) (ret := (some (.array .int))) (by decide) rfl ?_
  intro p e s m args below meth c s₁ B hml hv
  obtain ⟨rfl, hsz, hP, hK, hD0⟩ := hv
  have hx := B.exec
  have hb := B.bytes
  have hr := B.returns
  have hts := atoms_spec (ws := wJ7_copyI) B.pre
  have hown : s.vm.findClass "java/util/Arrays" = some m.cls := findClass_of_methodNamed B.named
  have hlocks := B.notSynchronized
  subst hsz
  have hD := hD0.self (sz := s.heap.size)
  generalize hAe : va_A [(q, .inl (cI, len, .inl (f)))] s.heap.size = A at hD ⊢
  have hA : ∀ q : Nat, s.heap.size ≤ q → A q := fun q h => by rw [← hAe]; exact Or.inr h
  have hS : va_S A s.heap s.heap [] := va_S.rf
  have hP : va_P (dC, dI) vwCl [(q, .inl (cI, len, .inl (f)))] s.heap := hP
  have hl := lv_entry ([.ref q, .int (iI ((N : Int)))]) (n := 3) (Nat.le_of_ble_eq_true rfl)
  rw [lg_entry_eq]
  generalize (lg_sl ([.ref q, .int (iI ((N : Int)))]) ++ List.replicate (3 - (lg_sl ([.ref q, .int (iI ((N : Int)))])).length) Slot.unset).toArray = ls at hl ⊢
  have hl : lv_has ls 3 [(0, .ref q), (1, .int (iI ((N : Int))))] := hl
  refine lv_iload_n hx hb dJ7_copyI_0 rfl (lv_at hl 1 rfl) ?_
  refine lv_aload_n hx hb dJ7_copyI_1 rfl (lv_at hl 0 rfl) ?_
  refine va_alen (v := iI ((len : Nat) : Int)) hx hb hK hP 0 1 rfl rfl (iI_nat _) dJ7_copyI_2 ?_
  refine lx_icmp_ne (a := (N : Int)) (b := ((len : Nat) : Int)) (tgt := 14) hx hb dJ7_copyI_3 (by decide) (by omega) (by omega) (fun cq1 => ?_) (fun cq1 => ?_)
  · refine lv_iload_n hx hb dJ7_copyI_14 rfl (lv_at hl 1 rfl) ?_
    refine va_newa (atype := .int) (a0 := (N, .inl (fun _ => 0))) (ty := .int) hx hb (hts _ (List.mem_cons_of_mem _ tw_74)) rfl hK hP hD hS hA (fun _ => rfl) (iI_nn (by omega)) (by rw [iI_cl (by omega)]; omega) (by show N * 4 ≤ 536870912; omega) (Nat.le_of_ble_eq_true rfl) (Nat.le_of_eq (Nat.zero_add N)) dJ7_copyI_15 (fun q2 cA H hK1 hP hD hS => ?_)
    obtain rfl : cI = cA := vx_nmI hK1 1 2 rfl rfl
    have hP : va_P (dC, dI) vwCl [(q, .inl (cI, len, .inl (f))), (q2, .inl (cI, N, .inl (fun _ => 0)))] H := hP
    have hD : va_D A [(q, .inl (cI, len, .inl (f))), (q2, .inl (cI, N, .inl (fun _ => 0)))] := hD
    refine W.widen (k := 1) (n := N) (by omega) (by omega) ?_
    refine lv_astore_n (lv' := [(2, .ref q2), (0, .ref q), (1, .int (iI ((N : Int))))]) hx hb dJ7_copyI_17 rfl hl (by decide) rfl (fun ls hl => ?_)
    refine lv_aload_n hx hb dJ7_copyI_18 rfl (lv_at hl 1 rfl) ?_
    refine lv_iconst (v := iI (0)) hx hb dJ7_copyI_19 rfl ?_
    refine lv_aload_n hx hb dJ7_copyI_20 rfl (lv_at hl 0 rfl) ?_
    refine lv_iconst (v := iI (0)) hx hb dJ7_copyI_21 rfl ?_
    refine lv_aload_n hx hb dJ7_copyI_22 rfl (lv_at hl 1 rfl) ?_
    refine va_alen (v := iI ((len : Nat) : Int)) hx hb hK hP 0 1 rfl rfl (iI_nat _) dJ7_copyI_23 ?_
    refine lv_iload_n hx hb dJ7_copyI_24 rfl (lv_at hl 2 rfl) ?_
    refine lx_min (a := ((len : Nat) : Int)) (b := (N : Int)) hx hb (by rw [hml]; exact hl.1.symm) hown (hts _ (List.mem_cons_of_mem _ tw_115)) (hts _ (List.mem_cons_of_mem _ tw_103)) (hts _ (List.mem_cons_of_mem _ tw_23)) (hts _ (List.mem_cons_of_mem _ tw_104)) (Nat.le_of_ble_eq_true rfl) (Nat.le_of_ble_eq_true rfl) (Nat.le_refl _) (Nat.le_refl _) (by omega) (by omega) dJ7_copyI_25 ?_
    refine lx_copy (ty := .int) (sp := 0) (dp := 0) (n := min (((len : Nat) : Int)) ((N : Int))) hx hb (by rw [hml]; exact hl.1.symm) hown (hts _ (List.mem_cons_of_mem _ tw_116)) (hts _ (List.mem_cons_of_mem _ tw_118)) (hts _ (List.mem_cons_of_mem _ tw_117)) (hts _ (List.mem_cons_of_mem _ tw_25)) hK hP hD hS 0 1 1 1 rfl rfl rfl rfl rfl (0) (0) (len) (by omega) (by omega) (by omega) (by omega) (by omega) (by omega) (fun _ _ => rfl) (Nat.le_of_ble_eq_true rfl) (Nat.le_of_ble_eq_true rfl) dJ7_copyI_28 (fun H locs hP hD hS => ?_)
    have hP : va_P (dC, dI) vwCl [(q, .inl (cI, len, .inl (f))), (q2, .inl (cI, N, .inl (va_cpy (f) (fun _ => 0) (0) (0) (len))))] H := hP
    have hD : va_D A [(q, .inl (cI, len, .inl (f))), (q2, .inl (cI, N, .inl (va_cpy (f) (fun _ => 0) (0) (0) (len))))] := hD
    refine lv_aload_n hx hb dJ7_copyI_31 rfl (lv_at hl 0 rfl) ?_
    exact W.aret (v := .ref q2) hx hb hr (Or.inr ⟨_, rfl⟩) (Or.inr ⟨_, rfl⟩) (fun t ht hW => ⟨⟨(), q2, rfl, trivial, by rw [ht]; exact hP, va_K.moved hW.alike hK, hD⟩, hS.F ht⟩) hS.2.2 dJ7_copyI_32
  · exact absurd cq1 (by omega)
set_option maxHeartbeats 4000000 in
set_option maxRecDepth 100000 in
/-- ByteRow(limit): 64 places, none taken -/
theorem c_X0_init (l : Launch) (dC : Nat → ClassId) (dI : Nat → Nat → Nat) (cB cI : ClassId) (sz : Nat) (h lim : Nat) (hm : lim ≤ 65536) : Met l yX0_init wX0_init ({ frames := 1, cells := 1, slots := 64, locals := 21 }) (va_Pc [.ref h, .int (iI ((lim : Int)))] (vx_B (dC, dI) vwCl [(cB, .byte), (cI, .int)] [(h, .inr (0, [.int (iI (0)), .null, .int (iI (0))]))] sz)) (va_Qv (fun (u : Nat) => True) (fun (u : Nat) => vx_E (dC, dI) vwCl [(cB, .byte), (cI, .int)] (va_A [(h, .inr (0, [.int (iI (0)), .null, .int (iI (0))]))] sz) [(h, .inr (0, [.int (iI ((lim : Int))), .ref u, .int (iI (0))])), (u, .inl (cB, 64, .inl (fun _ => 0)))]) (va_A [(h, .inr (0, [.int (iI (0)), .null, .int (iI (0))]))] sz)) (1) (64) (va_A [(h, .inr (0, [.int (iI (0)), .null, .int (iI (0))]))] sz) := by
  refine Met.ofW (cc := cX0_init) (maxL := 2) (ret := none) (by decide) rfl ?_
  intro p e s m args below meth c s₁ B hml hv
  obtain ⟨rfl, hsz, hP, hK, hD0⟩ := hv
  have hx := B.exec
  have hb := B.bytes
  have hr := B.returns
  have hts := atoms_spec (ws := wX0_init) B.pre
  have hown : s.vm.findClass "RequestCutter$ByteRow" = some m.cls := findClass_of_methodNamed B.named
  have hlocks := B.notSynchronized
  have hin : meth.name = "<init>" := (name_of_methodNamed B.named B.method).1
  subst hsz
  have hD := hD0.self (sz := s.heap.size)
  generalize hAe : va_A [(h, .inr (0, [.int (iI (0)), .null, .int (iI (0))]))] s.heap.size = A at hD ⊢
  have hA : ∀ q : Nat, s.heap.size ≤ q → A q := fun q h => by rw [← hAe]; exact Or.inr h
  have hS : va_S A s.heap s.heap [] := va_S.rf
  have hP : va_P (dC, dI) vwCl [(h, .inr (0, [.int (iI (0)), .null, .int (iI (0))]))] s.heap := hP
  have hl := lv_entry ([.ref h, .int (iI ((lim : Int)))]) (n := 2) (Nat.le_of_ble_eq_true rfl)
  rw [lg_entry_eq]
  generalize (lg_sl ([.ref h, .int (iI ((lim : Int)))]) ++ List.replicate (2 - (lg_sl ([.ref h, .int (iI ((lim : Int)))])).length) Slot.unset).toArray = ls at hl ⊢
  have hl : lv_has ls 2 [(0, .ref h), (1, .int (iI ((lim : Int))))] := hl
  refine lv_aload_n hx hb dX0_init_0 rfl (lv_at hl 0 rfl) ?_
  refine W.objInit hx hb hown (hts _ (List.mem_cons_of_mem _ tw_39)) (hts _ (List.mem_cons_of_mem _ tw_32)) (hts _ (List.mem_cons_of_mem _ tw_33)) rfl (by rw [hml]; exact hl.1) rfl dX0_init_1 (Nat.le_of_ble_eq_true rfl) (Nat.le_of_ble_eq_true rfl) ?_
  refine W.eq (g2 := F0 m 4 ls []) rfl ?_
  refine lv_aload_n hx hb dX0_init_4 rfl (lv_at hl 0 rfl) ?_
  refine lv_iload_n hx hb dX0_init_5 rfl (lv_at hl 1 rfl) ?_
  refine va_putF (D := (dC, dI)) (ci := 0) (v := .int (iI ((lim : Int)))) (ty := .int) (C := "RequestCutter$ByteRow") (T := TX0) (N := 3) hx hb hts (fun w h => List.mem_cons_of_mem _ (inX0 w h)) tyX0 tyX0_ok nmX0 hown hK hP hD hS 0 rfl rfl 0 (by decide) (hts _ (List.mem_cons_of_mem _ tw_40)) (fun _ h9 => h9) rfl hin rfl (by decide +kernel) rfl rfl (Nat.le_of_ble_eq_true rfl) dX0_init_6 (fun H locs hP hD hS => ?_)
  have hP : va_P (dC, dI) vwCl [(h, .inr (0, [.int (iI ((lim : Int))), .null, .int (iI (0))]))] H := hP
  have hD : va_D A [(h, .inr (0, [.int (iI ((lim : Int))), .null, .int (iI (0))]))] := hD
  refine lv_aload_n hx hb dX0_init_9 rfl (lv_at hl 0 rfl) ?_
  refine lv_bipush (v := iI (64)) hx hb dX0_init_10 (by decide) ?_
  refine va_newa (atype := .byte) (a0 := (64, .inl (fun _ => 0))) (ty := .byte) hx hb (hts _ (List.mem_cons_of_mem _ tw_50)) rfl hK hP hD hS hA (fun _ => rfl) (iI_nn (by omega)) (by rw [iI_cl (by omega)]; omega) (by show 64 * 1 ≤ 536870912; omega) (Nat.le_of_ble_eq_true rfl) (Nat.le_of_ble_eq_true rfl) dX0_init_12 (fun q1 cA H hK1 hP hD hS => ?_)
  obtain rfl : cB = cA := vx_nmB hK1 0 2 rfl rfl
  have hP : va_P (dC, dI) vwCl [(h, .inr (0, [.int (iI ((lim : Int))), .null, .int (iI (0))])), (q1, .inl (cB, 64, .inl (fun _ => 0)))] H := hP
  have hD : va_D A [(h, .inr (0, [.int (iI ((lim : Int))), .null, .int (iI (0))])), (q1, .inl (cB, 64, .inl (fun _ => 0)))] := hD
  refine va_put (D := (dC, dI)) (ci := 0) (v := .ref q1) (ty := .array .byte) (C := "RequestCutter$ByteRow") (T := TX0) (N := 3) hx hb hts (fun w h => List.mem_cons_of_mem _ (inX0 w h)) tyX0 tyX0_ok nmX0 hown hK hP hD hS 0 rfl rfl 1 (by decide) (hts _ (List.mem_cons_of_mem _ tw_41)) (fun _ h9 => h9) rfl (by decide +kernel) rfl rfl (Nat.le_of_ble_eq_true rfl) dX0_init_14 (fun H locs hP hD hS => ?_)
  have hP : va_P (dC, dI) vwCl [(h, .inr (0, [.int (iI ((lim : Int))), .ref q1, .int (iI (0))])), (q1, .inl (cB, 64, .inl (fun _ => 0)))] H := hP
  have hD : va_D A [(h, .inr (0, [.int (iI ((lim : Int))), .ref q1, .int (iI (0))])), (q1, .inl (cB, 64, .inl (fun _ => 0)))] := hD
  refine lv_aload_n hx hb dX0_init_17 rfl (lv_at hl 0 rfl) ?_
  refine lv_iconst (v := iI (0)) hx hb dX0_init_18 rfl ?_
  refine va_put (D := (dC, dI)) (ci := 0) (v := .int (iI (0))) (ty := .int) (C := "RequestCutter$ByteRow") (T := TX0) (N := 3) hx hb hts (fun w h => List.mem_cons_of_mem _ (inX0 w h)) tyX0 tyX0_ok nmX0 hown hK hP hD hS 0 rfl rfl 2 (by decide) (hts _ (List.mem_cons_of_mem _ tw_42)) (fun _ h9 => h9) rfl (by decide +kernel) rfl rfl (Nat.le_of_ble_eq_true rfl) dX0_init_19 (fun H locs hP hD hS => ?_)
  have hP : va_P (dC, dI) vwCl [(h, .inr (0, [.int (iI ((lim : Int))), .ref q1, .int (iI (0))])), (q1, .inl (cB, 64, .inl (fun _ => 0)))] H := hP
  have hD : va_D A [(h, .inr (0, [.int (iI ((lim : Int))), .ref q1, .int (iI (0))])), (q1, .inl (cB, 64, .inl (fun _ => 0)))] := hD
  exact W.vret hx hb hr (fun t ht hW => ⟨⟨q1, rfl, trivial, by rw [ht]; exact hP, va_K.moved hW.alike hK, hD⟩, hS.F ht⟩) hS.2.2 dX0_init_22
set_option maxHeartbeats 4000000 in
set_option maxRecDepth 100000 in
/-- count(): how many -/
theorem c_X0_count (l : Launch) (dC : Nat → ClassId) (dI : Nat → Nat → Nat) (cB cI : ClassId) (h q lim cnt : Nat) : Met l yX0_count wX0_count ({ frames := 0, cells := 0, slots := 0, locals := 0 }) (va_Pc [.ref h] (vx_R (dC, dI) vwCl [(cB, .byte), (cI, .int)] [(h, .inr (0, [.int (iI ((lim : Int))), .ref q, .int (iI ((cnt : Int)))]))])) (vp_Si (fun r => r = iI (cnt : Int))) 0 0 (fun _ => False) := by
  refine Met.ofW (cc := cX0_count) (maxL := 1) (ret := (some .int)) (by decide) rfl ?_
  intro p e s m args below meth c s₁ B hml hv
  obtain ⟨rfl, hP, hK⟩ := hv
  have hx := B.exec
  have hb := B.bytes
  have hr := B.returns
  have hts := atoms_spec (ws := wX0_count) B.pre
  have hown : s.vm.findClass "RequestCutter$ByteRow" = some m.cls := findClass_of_methodNamed B.named
  have hlocks := B.notSynchronized
  have hP : va_P (dC, dI) vwCl [(h, .inr (0, [.int (iI ((lim : Int))), .ref q, .int (iI ((cnt : Int)))]))] s.heap := hP
  have hl := lv_entry ([.ref h]) (n := 1) (Nat.le_of_ble_eq_true rfl)
  rw [lg_entry_eq]
  generalize (lg_sl ([.ref h]) ++ List.replicate (1 - (lg_sl ([.ref h])).length) Slot.unset).toArray = ls at hl ⊢
  have hl : lv_has ls 1 [(0, .ref h)] := hl
  refine lv_aload_n hx hb dX0_count_0 rfl (lv_at hl 0 rfl) ?_
  refine va_get (D := (dC, dI)) (ci := 0) (v := .int (iI ((cnt : Int)))) (C := "RequestCutter$ByteRow") (T := TX0) (N := 3) hx hb hts (fun w h => List.mem_cons_of_mem _ (inX0 w h)) hown hK hP 0 rfl rfl 2 (by decide) (hts _ (List.mem_cons_of_mem _ tw_42)) (fun _ h9 => h9) rfl dX0_count_1 ?_
  exact W.iret (v := iI ((cnt : Int))) hx hb hr (fun t ht hW => ⟨iI ((cnt : Int)), rfl, rfl, ht⟩) (fun _ h => by cases h) dX0_count_4
set_option maxHeartbeats 4000000 in
set_option maxRecDepth 100000 in
/-- at(i): the byte, or -1 -/
theorem c_X0_at (l : Launch) (dC : Nat → ClassId) (dI : Nat → Nat → Nat) (cB cI : ClassId) (h q lim len cnt : Nat) (f : Nat → Int32) (hc : cnt ≤ len) (hn : len ≤ 65536) (i : Int) (hi : -2147483648 ≤ i ∧ i ≤ 2147483647) : Met l yX0_at wX0_at ({ frames := 0, cells := 0, slots := 0, locals := 0 }) (va_Pc [.ref h, .int (iI (i))] (vx_R (dC, dI) vwCl [(cB, .byte), (cI, .int)] [(h, .inr (0, [.int (iI ((lim : Int))), .ref q, .int (iI ((cnt : Int)))])), (q, .inl (cB, len, .inl (f)))])) (vp_Si (fun r => r = iI (bA f cnt i))) 0 0 (fun _ => False) := by
  refine Met.ofW (cc := cX0_at) (maxL := 2) (ret := (some .int)) (by decide) rfl ?_
  intro p e s m args below meth c s₁ B hml hv
  obtain ⟨rfl, hP, hK⟩ := hv
  have hx := B.exec
  have hb := B.bytes
  have hr := B.returns
  have hts := atoms_spec (ws := wX0_at) B.pre
  have hown : s.vm.findClass "RequestCutter$ByteRow" = some m.cls := findClass_of_methodNamed B.named
  have hlocks := B.notSynchronized
  have hP : va_P (dC, dI) vwCl [(h, .inr (0, [.int (iI ((lim : Int))), .ref q, .int (iI ((cnt : Int)))])), (q, .inl (cB, len, .inl (f)))] s.heap := hP
  have hl := lv_entry ([.ref h, .int (iI (i))]) (n := 2) (Nat.le_of_ble_eq_true rfl)
  rw [lg_entry_eq]
  generalize (lg_sl ([.ref h, .int (iI (i))]) ++ List.replicate (2 - (lg_sl ([.ref h, .int (iI (i))])).length) Slot.unset).toArray = ls at hl ⊢
  have hl : lv_has ls 2 [(0, .ref h), (1, .int (iI (i)))] := hl
  refine lv_iload_n hx hb dX0_at_0 rfl (lv_at hl 1 rfl) ?_
  refine lx_if_lt (a := i) (tgt := 25) hx hb dX0_at_1 (by decide) (by omega) (fun cq1 => ?_) (fun cq1 => ?_)
  · refine lv_iconst (v := iI (-1)) hx hb dX0_at_25 rfl ?_
    exact W.iret (v := iI (-1)) hx hb hr (fun t ht hW => ⟨iI (-1), rfl, by rw [bA_out (by omega)], ht⟩) (fun _ h => by cases h) dX0_at_26
  · refine lv_iload_n hx hb dX0_at_4 rfl (lv_at hl 1 rfl) ?_
    refine lv_aload_n hx hb dX0_at_5 rfl (lv_at hl 0 rfl) ?_
    refine va_get (D := (dC, dI)) (ci := 0) (v := .int (iI ((cnt : Int)))) (C := "RequestCutter$ByteRow") (T := TX0) (N := 3) hx hb hts (fun w h => List.mem_cons_of_mem _ (inX0 w h)) hown hK hP 0 rfl rfl 2 (by decide) (hts _ (List.mem_cons_of_mem _ tw_42)) (fun _ h9 => h9) rfl dX0_at_6 ?_
    refine lx_icmp_ge (a := i) (b := (cnt : Int)) (tgt := 25) hx hb dX0_at_9 (by decide) (by omega) (by omega) (fun cq2 => ?_) (fun cq2 => ?_)
    · refine lv_iconst (v := iI (-1)) hx hb dX0_at_25 rfl ?_
      exact W.iret (v := iI (-1)) hx hb hr (fun t ht hW => ⟨iI (-1), rfl, by rw [bA_out (by omega)], ht⟩) (fun _ h => by cases h) dX0_at_26
    · refine lv_aload_n hx hb dX0_at_12 rfl (lv_at hl 0 rfl) ?_
      refine va_get (D := (dC, dI)) (ci := 0) (v := .ref q) (C := "RequestCutter$ByteRow") (T := TX0) (N := 3) hx hb hts (fun w h => List.mem_cons_of_mem _ (inX0 w h)) hown hK hP 0 rfl rfl 1 (by decide) (hts _ (List.mem_cons_of_mem _ tw_41)) (fun _ h9 => h9) rfl dX0_at_13 ?_
      refine lv_iload_n hx hb dX0_at_16 rfl (lv_at hl 1 rfl) ?_
      refine va_bald hx hb hK hP 1 0 rfl rfl (iI_in (by omega)) dX0_at_17 ?_
      refine lx_top (x2 := (f) ((i).toNat)) (congrArg (f) (iI_cl (a := i) (by omega))) ?_
      refine lv_sipush (v := iI (255)) hx hb dX0_at_18 (by decide) ?_
      refine lx_iand255 (x := (f) ((i).toNat)) hx hb dX0_at_21 ?_
      refine lv_goto (tgt := 26) hx hb dX0_at_22 (by decide) ?_
      exact W.iret (v := iI (bv ((f) ((i).toNat)))) hx hb hr (fun t ht hW => ⟨iI (bv ((f) ((i).toNat))), rfl, by rw [bA_in (by omega)], ht⟩) (fun _ h => by cases h) dX0_at_26
set_option maxHeartbeats 4000000 in
set_option maxRecDepth 100000 in
/-- clear(): none left -/
theorem c_X0_clear (l : Launch) (dC : Nat → ClassId) (dI : Nat → Nat → Nat) (cB cI : ClassId) (sz : Nat) (h q lim cnt : Nat) : Met l yX0_clear wX0_clear ({ frames := 0, cells := 0, slots := 0, locals := 0 }) (va_Pc [.ref h] (vx_B (dC, dI) vwCl [(cB, .byte), (cI, .int)] [(h, .inr (0, [.int (iI ((lim : Int))), .ref q, .int (iI ((cnt : Int)))]))] sz)) (va_Qv (fun (u : Unit) => True) (fun (u : Unit) => vx_E (dC, dI) vwCl [(cB, .byte), (cI, .int)] (va_A [(h, .inr (0, [.int (iI ((lim : Int))), .ref q, .int (iI ((cnt : Int)))]))] sz) [(h, .inr (0, [.int (iI ((lim : Int))), .ref q, .int (iI (0))]))]) (va_A [(h, .inr (0, [.int (iI ((lim : Int))), .ref q, .int (iI ((cnt : Int)))]))] sz)) (0) (0) (va_A [(h, .inr (0, [.int (iI ((lim : Int))), .ref q, .int (iI ((cnt : Int)))]))] sz) := by
  refine Met.ofW (cc := cX0_clear) (maxL := 1) (ret := none) (by decide) rfl ?_
  intro p e s m args below meth c s₁ B hml hv
  obtain ⟨rfl, hsz, hP, hK, hD0⟩ := hv
  have hx := B.exec
  have hb := B.bytes
  have hr := B.returns
  have hts := atoms_spec (ws := wX0_clear) B.pre
  have hown : s.vm.findClass "RequestCutter$ByteRow" = some m.cls := findClass_of_methodNamed B.named
  have hlocks := B.notSynchronized
  subst hsz
  have hD := hD0.self (sz := s.heap.size)
  generalize hAe : va_A [(h, .inr (0, [.int (iI ((lim : Int))), .ref q, .int (iI ((cnt : Int)))]))] s.heap.size = A at hD ⊢
  have hA : ∀ q : Nat, s.heap.size ≤ q → A q := fun q h => by rw [← hAe]; exact Or.inr h
  have hS : va_S A s.heap s.heap [] := va_S.rf
  have hP : va_P (dC, dI) vwCl [(h, .inr (0, [.int (iI ((lim : Int))), .ref q, .int (iI ((cnt : Int)))]))] s.heap := hP
  have hl := lv_entry ([.ref h]) (n := 1) (Nat.le_of_ble_eq_true rfl)
  rw [lg_entry_eq]
  generalize (lg_sl ([.ref h]) ++ List.replicate (1 - (lg_sl ([.ref h])).length) Slot.unset).toArray = ls at hl ⊢
  have hl : lv_has ls 1 [(0, .ref h)] := hl
  refine lv_aload_n hx hb dX0_clear_0 rfl (lv_at hl 0 rfl) ?_
  refine lv_iconst (v := iI (0)) hx hb dX0_clear_1 rfl ?_
  refine va_put (D := (dC, dI)) (ci := 0) (v := .int (iI (0))) (ty := .int) (C := "RequestCutter$ByteRow") (T := TX0) (N := 3) hx hb hts (fun w h => List.mem_cons_of_mem _ (inX0 w h)) tyX0 tyX0_ok nmX0 hown hK hP hD hS 0 rfl rfl 2 (by decide) (hts _ (List.mem_cons_of_mem _ tw_42)) (fun _ h9 => h9) rfl (by decide +kernel) rfl rfl (Nat.le_of_ble_eq_true rfl) dX0_clear_2 (fun H locs hP hD hS => ?_)
  have hP : va_P (dC, dI) vwCl [(h, .inr (0, [.int (iI ((lim : Int))), .ref q, .int (iI (0))]))] H := hP
  have hD : va_D A [(h, .inr (0, [.int (iI ((lim : Int))), .ref q, .int (iI (0))]))] := hD
  exact W.vret hx hb hr (fun t ht hW => ⟨⟨(), rfl, trivial, by rw [ht]; exact hP, va_K.moved hW.alike hK, hD⟩, hS.F ht⟩) hS.2.2 dX0_clear_5
set_option maxHeartbeats 4000000 in
set_option maxRecDepth 100000 in
/-- keepFirst(n): of all only the first n -/
theorem c_X0_keepFirst (l : Launch) (dC : Nat → ClassId) (dI : Nat → Nat → Nat) (cB cI : ClassId) (sz : Nat) (h q lim cnt : Nat) (hn : cnt ≤ 65536) (i : Int) (hi : -2147483648 ≤ i ∧ i ≤ 2147483647) : Met l yX0_keepFirst wX0_keepFirst ({ frames := 0, cells := 0, slots := 0, locals := 0 }) (va_Pc [.ref h, .int (iI (i))] (vx_B (dC, dI) vwCl [(cB, .byte), (cI, .int)] [(h, .inr (0, [.int (iI ((lim : Int))), .ref q, .int (iI ((cnt : Int)))]))] sz)) (va_Qi (fun (r : Int32) (u : Int) => r = iI (if 0 ≤ i ∧ i ≤ cnt then 1 else 0) ∧ u = (if 0 ≤ i ∧ i ≤ cnt then i else cnt)) (fun (u : Int) => vx_E (dC, dI) vwCl [(cB, .byte), (cI, .int)] (va_A [(h, .inr (0, [.int (iI ((lim : Int))), .ref q, .int (iI ((cnt : Int)))]))] sz) [(h, .inr (0, [.int (iI ((lim : Int))), .ref q, .int (iI (u))]))]) (va_A [(h, .inr (0, [.int (iI ((lim : Int))), .ref q, .int (iI ((cnt : Int)))]))] sz)) (0) (0) (va_A [(h, .inr (0, [.int (iI ((lim : Int))), .ref q, .int (iI ((cnt : Int)))]))] sz) := by
  refine Met.ofW (cc := cX0_keepFirst) (maxL := 2) (ret := (some .boolean)) (by decide) rfl ?_
  intro p e s m args below meth c s₁ B hml hv
  obtain ⟨rfl, hsz, hP, hK, hD0⟩ := hv
  have hx := B.exec
  have hb := B.bytes
  have hr := B.returns
  have hts := atoms_spec (ws := wX0_keepFirst) B.pre
  have hown : s.vm.findClass "RequestCutter$ByteRow" = some m.cls := findClass_of_methodNamed B.named
  have hlocks := B.notSynchronized
  subst hsz
  have hD := hD0.self (sz := s.heap.size)
  generalize hAe : va_A [(h, .inr (0, [.int (iI ((lim : Int))), .ref q, .int (iI ((cnt : Int)))]))] s.heap.size = A at hD ⊢
  have hA : ∀ q : Nat, s.heap.size ≤ q → A q := fun q h => by rw [← hAe]; exact Or.inr h
  have hS : va_S A s.heap s.heap [] := va_S.rf
  have hP : va_P (dC, dI) vwCl [(h, .inr (0, [.int (iI ((lim : Int))), .ref q, .int (iI ((cnt : Int)))]))] s.heap := hP
  have hl := lv_entry ([.ref h, .int (iI (i))]) (n := 2) (Nat.le_of_ble_eq_true rfl)
  rw [lg_entry_eq]
  generalize (lg_sl ([.ref h, .int (iI (i))]) ++ List.replicate (2 - (lg_sl ([.ref h, .int (iI (i))])).length) Slot.unset).toArray = ls at hl ⊢
  have hl : lv_has ls 2 [(0, .ref h), (1, .int (iI (i)))] := hl
  refine lv_iload_n hx hb dX0_keepFirst_0 rfl (lv_at hl 1 rfl) ?_
  refine lx_if_lt (a := i) (tgt := 12) hx hb dX0_keepFirst_1 (by decide) (by omega) (fun cq1 => ?_) (fun cq1 => ?_)
  · refine lv_iconst (v := iI (0)) hx hb dX0_keepFirst_12 rfl ?_
    exact W.zret (v := iI (0)) hx hb hr (by rfl) (fun t ht hW => ⟨⟨iI (0), ((cnt : Int)), rfl, ⟨by rw [if_neg (by omega)], by rw [if_neg (by omega)]⟩, by rw [ht]; exact hP, va_K.moved hW.alike hK, hD⟩, hS.F ht⟩) hS.2.2 dX0_keepFirst_13
  · refine lv_iload_n hx hb dX0_keepFirst_4 rfl (lv_at hl 1 rfl) ?_
    refine lv_aload_n hx hb dX0_keepFirst_5 rfl (lv_at hl 0 rfl) ?_
    refine va_get (D := (dC, dI)) (ci := 0) (v := .int (iI ((cnt : Int)))) (C := "RequestCutter$ByteRow") (T := TX0) (N := 3) hx hb hts (fun w h => List.mem_cons_of_mem _ (inX0 w h)) hown hK hP 0 rfl rfl 2 (by decide) (hts _ (List.mem_cons_of_mem _ tw_42)) (fun _ h9 => h9) rfl dX0_keepFirst_6 ?_
    refine lx_icmp_le (a := i) (b := (cnt : Int)) (tgt := 14) hx hb dX0_keepFirst_9 (by decide) (by omega) (by omega) (fun cq2 => ?_) (fun cq2 => ?_)
    · refine lv_aload_n hx hb dX0_keepFirst_14 rfl (lv_at hl 0 rfl) ?_
      refine lv_iload_n hx hb dX0_keepFirst_15 rfl (lv_at hl 1 rfl) ?_
      refine va_put (D := (dC, dI)) (ci := 0) (v := .int (iI (i))) (ty := .int) (C := "RequestCutter$ByteRow") (T := TX0) (N := 3) hx hb hts (fun w h => List.mem_cons_of_mem _ (inX0 w h)) tyX0 tyX0_ok nmX0 hown hK hP hD hS 0 rfl rfl 2 (by decide) (hts _ (List.mem_cons_of_mem _ tw_42)) (fun _ h9 => h9) rfl (by decide +kernel) rfl rfl (Nat.le_of_ble_eq_true rfl) dX0_keepFirst_16 (fun H locs hP hD hS => ?_)
      have hP : va_P (dC, dI) vwCl [(h, .inr (0, [.int (iI ((lim : Int))), .ref q, .int (iI (i))]))] H := hP
      have hD : va_D A [(h, .inr (0, [.int (iI ((lim : Int))), .ref q, .int (iI (i))]))] := hD
      refine lv_iconst (v := iI (1)) hx hb dX0_keepFirst_19 rfl ?_
      exact W.zret (v := iI (1)) hx hb hr (by rfl) (fun t ht hW => ⟨⟨iI (1), (i), rfl, ⟨by rw [if_pos (by omega)], by rw [if_pos (by omega)]⟩, by rw [ht]; exact hP, va_K.moved hW.alike hK, hD⟩, hS.F ht⟩) hS.2.2 dX0_keepFirst_20
    · refine lv_iconst (v := iI (0)) hx hb dX0_keepFirst_12 rfl ?_
      exact W.zret (v := iI (0)) hx hb hr (by rfl) (fun t ht hW => ⟨⟨iI (0), ((cnt : Int)), rfl, ⟨by rw [if_neg (by omega)], by rw [if_neg (by omega)]⟩, by rw [ht]; exact hP, va_K.moved hW.alike hK, hD⟩, hS.F ht⟩) hS.2.2 dX0_keepFirst_13
set_option maxHeartbeats 4000000 in
set_option maxRecDepth 100000 in
/-- makeRoom(more) -/
theorem c_X0_makeRoom (l : Launch) (dC : Nat → ClassId) (dI : Nat → Nat → Nat) (cB cI : ClassId) (sz : Nat) (h q lim len cnt : Nat) (f : Nat → Int32) (hc : cnt ≤ len) (hn : len ≤ 65536) (hm : lim ≤ 65536) (hll : len ≤ lim) (hfit : sb_Fit f) (i : Int) (hi : -2147483648 ≤ i ∧ i ≤ 2147483647) (mc ms : Nat) (hroom : (0 ≤ i ∧ i ≤ (lim : Int) - cnt) ∧ (len : Int) < cnt + i → 1 ≤ mc ∧ gL lim len (cnt + i.toNat) ≤ ms) : Met l yX0_makeRoom wX0_makeRoom ({ frames := 2, cells := mc, slots := ms, locals := 70 }) (va_Pc [.ref h, .int (iI (i))] (vx_B (dC, dI) vwCl [(cB, .byte), (cI, .int)] [(h, .inr (0, [.int (iI ((lim : Int))), .ref q, .int (iI ((cnt : Int)))])), (q, .inl (cB, len, .inl (f)))] sz)) (va_Qi (fun (r : Int32) (u : Nat × Nat × (Nat → Int32)) => (r = iI (if (0 ≤ i ∧ i ≤ (lim : Int) - cnt) then 1 else 0)) ∧ (sb_Fit u.2.2 ∧ ∀ j, j < cnt → u.2.2 j = f j) ∧ u.2.1 = (if (0 ≤ i ∧ i ≤ (lim : Int) - cnt) ∧ (len : Int) < cnt + i then gL lim len (cnt + i.toNat) else len) ∧ ((0 ≤ i ∧ i ≤ (lim : Int) - cnt) → (cnt : Int) + i ≤ u.2.1) ∧ u.2.1 ≤ lim) (fun (u : Nat × Nat × (Nat → Int32)) => vx_E (dC, dI) vwCl [(cB, .byte), (cI, .int)] (va_A [(h, .inr (0, [.int (iI ((lim : Int))), .ref q, .int (iI ((cnt : Int)))])), (q, .inl (cB, len, .inl (f)))] sz) [(h, .inr (0, [.int (iI ((lim : Int))), .ref u.1, .int (iI ((cnt : Int)))])), (u.1, .inl (cB, u.2.1, .inl (u.2.2)))]) (va_A [(h, .inr (0, [.int (iI ((lim : Int))), .ref q, .int (iI ((cnt : Int)))])), (q, .inl (cB, len, .inl (f)))] sz)) (mc) (ms) (va_A [(h, .inr (0, [.int (iI ((lim : Int))), .ref q, .int (iI ((cnt : Int)))])), (q, .inl (cB, len, .inl (f)))] sz) := by
  refine Met.ofW (cc := cX0_makeRoom) (maxL := 4) (ret := (some .boolean)) (by decide) rfl ?_
  intro p e s m args below meth c s₁ B hml hv
  obtain ⟨rfl, hsz, hP, hK, hD0⟩ := hv
  have hx := B.exec
  have hb := B.bytes
  have hr := B.returns
  have hts := atoms_spec (ws := wX0_makeRoom) B.pre
  have hown : s.vm.findClass "RequestCutter$ByteRow" = some m.cls := findClass_of_methodNamed B.named
  have hlocks := B.notSynchronized
  subst hsz
  have hD := hD0.self (sz := s.heap.size)
  generalize hAe : va_A [(h, .inr (0, [.int (iI ((lim : Int))), .ref q, .int (iI ((cnt : Int)))])), (q, .inl (cB, len, .inl (f)))] s.heap.size = A at hD ⊢
  have hA : ∀ q : Nat, s.heap.size ≤ q → A q := fun q h => by rw [← hAe]; exact Or.inr h
  have hS : va_S A s.heap s.heap [] := va_S.rf
  have hP : va_P (dC, dI) vwCl [(h, .inr (0, [.int (iI ((lim : Int))), .ref q, .int (iI ((cnt : Int)))])), (q, .inl (cB, len, .inl (f)))] s.heap := hP
  have hl := lv_entry ([.ref h, .int (iI (i))]) (n := 4) (Nat.le_of_ble_eq_true rfl)
  rw [lg_entry_eq]
  generalize (lg_sl ([.ref h, .int (iI (i))]) ++ List.replicate (4 - (lg_sl ([.ref h, .int (iI (i))])).length) Slot.unset).toArray = ls at hl ⊢
  have hl : lv_has ls 4 [(0, .ref h), (1, .int (iI (i)))] := hl
  refine lv_iload_n hx hb dX0_makeRoom_0 rfl (lv_at hl 1 rfl) ?_
  refine lx_if_lt (a := i) (tgt := 17) hx hb dX0_makeRoom_1 (by decide) (by omega) (fun cq1 => ?_) (fun cq1 => ?_)
  · refine lv_iconst (v := iI (0)) hx hb dX0_makeRoom_17 rfl ?_
    refine W.widen (k := mc) (n := ms) (Nat.zero_le _) (Nat.zero_le _) ?_
    exact W.zret (v := iI (0)) hx hb hr (by rfl) (fun t ht hW => ⟨⟨iI (0), (q, len, f), rfl, ⟨by rw [if_neg (by omega)], ⟨hfit, fun _ _ => rfl⟩, by rw [if_neg (by omega)], fun z => by omega, hll⟩, by rw [ht]; exact hP, va_K.moved hW.alike hK, hD⟩, hS.F ht⟩) hS.2.2 dX0_makeRoom_18
  · refine lv_iload_n hx hb dX0_makeRoom_4 rfl (lv_at hl 1 rfl) ?_
    refine lv_aload_n hx hb dX0_makeRoom_5 rfl (lv_at hl 0 rfl) ?_
    refine va_get (D := (dC, dI)) (ci := 0) (v := .int (iI ((lim : Int)))) (C := "RequestCutter$ByteRow") (T := TX0) (N := 3) hx hb hts (fun w h => List.mem_cons_of_mem _ (inX0 w h)) hown hK hP 0 rfl rfl 0 (by decide) (hts _ (List.mem_cons_of_mem _ tw_40)) (fun _ h9 => h9) rfl dX0_makeRoom_6 ?_
    refine lv_aload_n hx hb dX0_makeRoom_9 rfl (lv_at hl 0 rfl) ?_
    refine va_get (D := (dC, dI)) (ci := 0) (v := .int (iI ((cnt : Int)))) (C := "RequestCutter$ByteRow") (T := TX0) (N := 3) hx hb hts (fun w h => List.mem_cons_of_mem _ (inX0 w h)) hown hK hP 0 rfl rfl 2 (by decide) (hts _ (List.mem_cons_of_mem _ tw_42)) (fun _ h9 => h9) rfl dX0_makeRoom_10 ?_
    refine lx_isub (a := (lim : Int)) (b := (cnt : Int)) hx hb dX0_makeRoom_13 ?_
    refine lx_icmp_le (a := i) (b := ((lim : Int)) - ((cnt : Int))) (tgt := 19) hx hb dX0_makeRoom_14 (by decide) (by omega) (by omega) (fun cq2 => ?_) (fun cq2 => ?_)
    · refine lv_aload_n hx hb dX0_makeRoom_19 rfl (lv_at hl 0 rfl) ?_
      refine va_get (D := (dC, dI)) (ci := 0) (v := .int (iI ((cnt : Int)))) (C := "RequestCutter$ByteRow") (T := TX0) (N := 3) hx hb hts (fun w h => List.mem_cons_of_mem _ (inX0 w h)) hown hK hP 0 rfl rfl 2 (by decide) (hts _ (List.mem_cons_of_mem _ tw_42)) (fun _ h9 => h9) rfl dX0_makeRoom_20 ?_
      refine lv_iload_n hx hb dX0_makeRoom_23 rfl (lv_at hl 1 rfl) ?_
      refine lx_iadd (a := (cnt : Int)) (b := i) hx hb dX0_makeRoom_24 ?_
      refine lv_istore_n (lv' := [(2, .int (iI (((cnt : Int)) + i))), (0, .ref h), (1, .int (iI (i)))]) hx hb dX0_makeRoom_25 rfl hl (by decide) rfl (fun ls hl => ?_)
      refine lv_iload_n hx hb dX0_makeRoom_26 rfl (lv_at hl 0 rfl) ?_
      refine lv_aload_n hx hb dX0_makeRoom_27 rfl (lv_at hl 1 rfl) ?_
      refine va_get (D := (dC, dI)) (ci := 0) (v := .ref q) (C := "RequestCutter$ByteRow") (T := TX0) (N := 3) hx hb hts (fun w h => List.mem_cons_of_mem _ (inX0 w h)) hown hK hP 0 rfl rfl 1 (by decide) (hts _ (List.mem_cons_of_mem _ tw_41)) (fun _ h9 => h9) rfl dX0_makeRoom_28 ?_
      refine va_alen (v := iI ((len : Nat) : Int)) hx hb hK hP 1 0 rfl rfl (iI_nat _) dX0_makeRoom_31 ?_
      refine lx_icmp_le (a := ((cnt : Int)) + i) (b := ((len : Nat) : Int)) (tgt := 66) hx hb dX0_makeRoom_32 (by decide) (by omega) (by omega) (fun cq3 => ?_) (fun cq3 => ?_)
      · refine lv_iconst (v := iI (1)) hx hb dX0_makeRoom_66 rfl ?_
        refine W.widen (k := mc) (n := ms) (Nat.zero_le _) (Nat.zero_le _) ?_
        exact W.zret (v := iI (1)) hx hb hr (by rfl) (fun t ht hW => ⟨⟨iI (1), (q, len, f), rfl, ⟨by rw [if_pos (by omega)], ⟨hfit, fun _ _ => rfl⟩, by rw [if_neg (by omega)], fun z => by show (cnt : Int) + i ≤ (len : Int); omega, hll⟩, by rw [ht]; exact hP, va_K.moved hW.alike hK, hD⟩, hS.F ht⟩) hS.2.2 dX0_makeRoom_67
      · obtain ⟨N, hN⟩ : ∃ N : Nat, N = gL lim len (cnt + i.toNat) := ⟨_, rfl⟩
        have hN2 : (N : Int) = min (lim : Int) (max ((cnt : Int) + i) (2 * (len : Int))) := by rw [hN]; unfold gL; omega
        have hR := hroom (by omega)
        rw [← hN] at hR
        refine lv_iload_n hx hb dX0_makeRoom_35 rfl (lv_at hl 0 rfl) ?_
        refine lv_iconst (v := iI (2)) hx hb dX0_makeRoom_36 rfl ?_
        refine lv_aload_n hx hb dX0_makeRoom_37 rfl (lv_at hl 1 rfl) ?_
        refine va_get (D := (dC, dI)) (ci := 0) (v := .ref q) (C := "RequestCutter$ByteRow") (T := TX0) (N := 3) hx hb hts (fun w h => List.mem_cons_of_mem _ (inX0 w h)) hown hK hP 0 rfl rfl 1 (by decide) (hts _ (List.mem_cons_of_mem _ tw_41)) (fun _ h9 => h9) rfl dX0_makeRoom_38 ?_
        refine va_alen (v := iI ((len : Nat) : Int)) hx hb hK hP 1 0 rfl rfl (iI_nat _) dX0_makeRoom_41 ?_
        refine lx_imul (a := 2) (b := ((len : Nat) : Int)) hx hb dX0_makeRoom_42 ?_
        refine lx_max (a := ((cnt : Int)) + i) (b := 2 * (((len : Nat) : Int))) hx hb (by rw [hml]; exact hl.1.symm) hown (hts _ (List.mem_cons_of_mem _ tw_99)) (hts _ (List.mem_cons_of_mem _ tw_100)) (hts _ (List.mem_cons_of_mem _ tw_23)) (hts _ (List.mem_cons_of_mem _ tw_101)) (Nat.le_of_ble_eq_true rfl) (Nat.le_of_ble_eq_true rfl) (Nat.zero_le _) (Nat.zero_le _) (by omega) (by omega) dX0_makeRoom_43 ?_
        refine lv_istore_n (lv' := [(3, .int (iI (max (((cnt : Int)) + i) (2 * (((len : Nat) : Int)))))), (2, .int (iI (((cnt : Int)) + i))), (0, .ref h), (1, .int (iI (i)))]) hx hb dX0_makeRoom_46 rfl hl (by decide) rfl (fun ls hl => ?_)
        refine lv_aload_n hx hb dX0_makeRoom_47 rfl (lv_at hl 2 rfl) ?_
        refine lv_aload_n hx hb dX0_makeRoom_48 rfl (lv_at hl 2 rfl) ?_
        refine va_get (D := (dC, dI)) (ci := 0) (v := .ref q) (C := "RequestCutter$ByteRow") (T := TX0) (N := 3) hx hb hts (fun w h => List.mem_cons_of_mem _ (inX0 w h)) hown hK hP 0 rfl rfl 1 (by decide) (hts _ (List.mem_cons_of_mem _ tw_41)) (fun _ h9 => h9) rfl dX0_makeRoom_49 ?_
        refine lv_aload_n hx hb dX0_makeRoom_52 rfl (lv_at hl 2 rfl) ?_
        refine va_get (D := (dC, dI)) (ci := 0) (v := .int (iI ((lim : Int)))) (C := "RequestCutter$ByteRow") (T := TX0) (N := 3) hx hb hts (fun w h => List.mem_cons_of_mem _ (inX0 w h)) hown hK hP 0 rfl rfl 0 (by decide) (hts _ (List.mem_cons_of_mem _ tw_40)) (fun _ h9 => h9) rfl dX0_makeRoom_53 ?_
        refine lv_iload_n hx hb dX0_makeRoom_56 rfl (lv_at hl 0 rfl) ?_
        refine lx_min (a := (lim : Int)) (b := max (((cnt : Int)) + i) (2 * (((len : Nat) : Int)))) hx hb (by rw [hml]; exact hl.1.symm) hown (hts _ (List.mem_cons_of_mem _ tw_102)) (hts _ (List.mem_cons_of_mem _ tw_103)) (hts _ (List.mem_cons_of_mem _ tw_23)) (hts _ (List.mem_cons_of_mem _ tw_104)) (Nat.le_of_ble_eq_true rfl) (Nat.le_of_ble_eq_true rfl) (Nat.zero_le _) (Nat.zero_le _) (by omega) (by omega) dX0_makeRoom_57 ?_
        refine lx_top (x2 := iI (N : Int)) (congrArg iI (by omega)) ?_
        refine vx_Sr (As := [.ref q, .int (iI ((N : Int)))]) (rest := [.ref h]) (wr := [(h, .inr (0, [.int (iI ((lim : Int))), .ref q, .int (iI ((cnt : Int)))]))]) [1] [0] ⟨hx, hb, hml, hown, hts⟩ (c_J7_copyB l dC dI cB cI _ q len N (f) hfit (by omega) (by omega)) (va_cwS 2 hts (gd_S tw_105 tw_106 tw_24 tw_107) rfl rfl rfl (by decide +kernel) ⟨Nat.le_of_ble_eq_true rfl, Nat.le_of_ble_eq_true rfl⟩) hK hP hD hS hA rfl rfl rfl rfl (by decide) rfl hl.1 rfl (Nat.le_of_ble_eq_true rfl) dX0_makeRoom_60 ⟨by show 0 + 1 ≤ mc; omega, by show 0 + N ≤ ms; omega⟩ (fun u q4 H locs hw hP hD hS => ?_)
        have hP : va_P (dC, dI) vwCl [(h, .inr (0, [.int (iI ((lim : Int))), .ref q, .int (iI ((cnt : Int)))])), (q, .inl (cB, len, .inl (f))), (q4, .inl (cB, N, .inl (va_cpy (f) (fun _ => 0) 0 0 len)))] H := hP.sub [0, 1, 2] rfl
        have hD : va_D A [(h, .inr (0, [.int (iI ((lim : Int))), .ref q, .int (iI ((cnt : Int)))])), (q, .inl (cB, len, .inl (f))), (q4, .inl (cB, N, .inl (va_cpy (f) (fun _ => 0) 0 0 len)))] := hD.sub [0, 1, 2] (by decide) rfl
        refine va_put (D := (dC, dI)) (ci := 0) (v := .ref q4) (ty := .array .byte) (C := "RequestCutter$ByteRow") (T := TX0) (N := 3) hx hb hts (fun w h => List.mem_cons_of_mem _ (inX0 w h)) tyX0 tyX0_ok nmX0 hown hK hP hD hS 0 rfl rfl 1 (by decide) (hts _ (List.mem_cons_of_mem _ tw_41)) (fun _ h9 => h9) rfl (by decide +kernel) rfl rfl (Nat.le_of_ble_eq_true rfl) dX0_makeRoom_63 (fun H locs hP hD hS => ?_)
        have hP : va_P (dC, dI) vwCl [(h, .inr (0, [.int (iI ((lim : Int))), .ref q4, .int (iI ((cnt : Int)))])), (q, .inl (cB, len, .inl (f))), (q4, .inl (cB, N, .inl (va_cpy (f) (fun _ => 0) 0 0 len)))] H := hP
        have hD : va_D A [(h, .inr (0, [.int (iI ((lim : Int))), .ref q4, .int (iI ((cnt : Int)))])), (q, .inl (cB, len, .inl (f))), (q4, .inl (cB, N, .inl (va_cpy (f) (fun _ => 0) 0 0 len)))] := hD
        refine lv_iconst (v := iI (1)) hx hb dX0_makeRoom_66 rfl ?_
        refine W.widen (k := mc) (n := ms) (by omega) (by omega) ?_
        exact W.zret (v := iI (1)) hx hb hr (by rfl) (fun t ht hW => ⟨⟨iI (1), (q4, N, va_cpy f (fun _ => 0) 0 0 len), rfl, ⟨by rw [if_pos (by omega)], ⟨sb_fitC hfit sb_fit0, fun j hj => sb_cpy0 (f := f) (g := fun _ => 0) (n := len) (Nat.lt_of_lt_of_le hj hc)⟩, by rw [if_pos (by omega)]; exact hN, fun z => by show (cnt : Int) + i ≤ (N : Int); omega, by show N ≤ lim; omega⟩, by rw [ht]; exact (hP.sub [0, 2] rfl), va_K.moved hW.alike hK, hD.sub [0, 2] (by decide) rfl⟩, hS.F ht⟩) hS.2.2 dX0_makeRoom_67
    · refine lv_iconst (v := iI (0)) hx hb dX0_makeRoom_17 rfl ?_
      refine W.widen (k := mc) (n := ms) (Nat.zero_le _) (Nat.zero_le _) ?_
      exact W.zret (v := iI (0)) hx hb hr (by rfl) (fun t ht hW => ⟨⟨iI (0), (q, len, f), rfl, ⟨by rw [if_neg (by omega)], ⟨hfit, fun _ _ => rfl⟩, by rw [if_neg (by omega)], fun z => by omega, hll⟩, by rw [ht]; exact hP, va_K.moved hW.alike hK, hD⟩, hS.F ht⟩) hS.2.2 dX0_makeRoom_18
set_option maxHeartbeats 4000000 in
set_option maxRecDepth 100000 in
/-- addNumber(x): its four bytes, the highest first -/
theorem c_X0_addNumber (l : Launch) (dC : Nat → ClassId) (dI : Nat → Nat → Nat) (cB cI : ClassId) (sz : Nat) (h q lim len cnt : Nat) (f : Nat → Int32) (hc : cnt + 4 ≤ len) (hn : len ≤ 65536) (hm : lim ≤ 65536) (hfit : sb_Fit f) (x : Int32) : Met l yX0_addNumber wX0_addNumber ({ frames := 0, cells := 0, slots := 0, locals := 0 }) (va_Pc [.ref h, .int (x)] (vx_B (dC, dI) vwCl [(cB, .byte), (cI, .int)] [(h, .inr (0, [.int (iI ((lim : Int))), .ref q, .int (iI ((cnt : Int)))])), (q, .inl (cB, len, .inl (f)))] sz)) (va_Qv (fun (u : Nat → Int32) => sb_Fit u ∧ (∀ j, j < cnt → u j = f j) ∧ u cnt = nb x 24 ∧ u (cnt + 1) = nb x 16 ∧ u (cnt + 2) = nb x 8 ∧ u (cnt + 3) = nb x 0) (fun (u : Nat → Int32) => vx_E (dC, dI) vwCl [(cB, .byte), (cI, .int)] (va_A [(h, .inr (0, [.int (iI ((lim : Int))), .ref q, .int (iI ((cnt : Int)))])), (q, .inl (cB, len, .inl (f)))] sz) [(h, .inr (0, [.int (iI ((lim : Int))), .ref q, .int (iI (((cnt + 4 : Nat) : Int)))])), (q, .inl (cB, len, .inl (u)))]) (va_A [(h, .inr (0, [.int (iI ((lim : Int))), .ref q, .int (iI ((cnt : Int)))])), (q, .inl (cB, len, .inl (f)))] sz)) (0) (0) (va_A [(h, .inr (0, [.int (iI ((lim : Int))), .ref q, .int (iI ((cnt : Int)))])), (q, .inl (cB, len, .inl (f)))] sz) := by
  refine Met.ofW (cc := cX0_addNumber) (maxL := 3) (ret := none) (by decide) rfl ?_
  intro p e s m args below meth c s₁ B hml hv
  obtain ⟨rfl, hsz, hP, hK, hD0⟩ := hv
  have hx := B.exec
  have hb := B.bytes
  have hr := B.returns
  have hts := atoms_spec (ws := wX0_addNumber) B.pre
  have hown : s.vm.findClass "RequestCutter$ByteRow" = some m.cls := findClass_of_methodNamed B.named
  have hlocks := B.notSynchronized
  subst hsz
  have hD := hD0.self (sz := s.heap.size)
  generalize hAe : va_A [(h, .inr (0, [.int (iI ((lim : Int))), .ref q, .int (iI ((cnt : Int)))])), (q, .inl (cB, len, .inl (f)))] s.heap.size = A at hD ⊢
  have hA : ∀ q : Nat, s.heap.size ≤ q → A q := fun q h => by rw [← hAe]; exact Or.inr h
  have hS : va_S A s.heap s.heap [] := va_S.rf
  have hP : va_P (dC, dI) vwCl [(h, .inr (0, [.int (iI ((lim : Int))), .ref q, .int (iI ((cnt : Int)))])), (q, .inl (cB, len, .inl (f)))] s.heap := hP
  have hl := lv_entry ([.ref h, .int (x)]) (n := 3) (Nat.le_of_ble_eq_true rfl)
  rw [lg_entry_eq]
  generalize (lg_sl ([.ref h, .int (x)]) ++ List.replicate (3 - (lg_sl ([.ref h, .int (x)])).length) Slot.unset).toArray = ls at hl ⊢
  have hl : lv_has ls 3 [(0, .ref h), (1, .int (x))] := hl
  refine lv_bipush (v := iI (24)) hx hb dX0_addNumber_0 (by decide) ?_
  refine lv_istore_n (lv' := [(2, .int (iI (24))), (0, .ref h), (1, .int (x))]) hx hb dX0_addNumber_2 rfl hl (by decide) rfl (fun ls hl => ?_)
  refine lv_iload_n hx hb dX0_addNumber_3 rfl (lv_at hl 0 rfl) ?_
  refine lx_if_lt (a := 24) (tgt := 48) hx hb dX0_addNumber_4 (by decide) (by omega) (fun cq1 => ?_) (fun cq1 => ?_)
  · exact absurd cq1 (by omega)
  · refine lv_aload_n hx hb dX0_addNumber_7 rfl (lv_at hl 1 rfl) ?_
    refine va_get (D := (dC, dI)) (ci := 0) (v := .int (iI ((cnt : Int)))) (C := "RequestCutter$ByteRow") (T := TX0) (N := 3) hx hb hts (fun w h => List.mem_cons_of_mem _ (inX0 w h)) hown hK hP 0 rfl rfl 2 (by decide) (hts _ (List.mem_cons_of_mem _ tw_42)) (fun _ h9 => h9) rfl dX0_addNumber_8 ?_
    refine lv_aload_n hx hb dX0_addNumber_11 rfl (lv_at hl 1 rfl) ?_
    refine va_get (D := (dC, dI)) (ci := 0) (v := .ref q) (C := "RequestCutter$ByteRow") (T := TX0) (N := 3) hx hb hts (fun w h => List.mem_cons_of_mem _ (inX0 w h)) hown hK hP 0 rfl rfl 1 (by decide) (hts _ (List.mem_cons_of_mem _ tw_41)) (fun _ h9 => h9) rfl dX0_addNumber_12 ?_
    refine va_alen (v := iI ((len : Nat) : Int)) hx hb hK hP 1 0 rfl rfl (iI_nat _) dX0_addNumber_15 ?_
    refine lx_icmp_ge (a := (cnt : Int)) (b := ((len : Nat) : Int)) (tgt := 42) hx hb dX0_addNumber_16 (by decide) (by omega) (by omega) (fun cq2 => ?_) (fun cq2 => ?_)
    · exact absurd cq2 (by omega)
    · refine lv_aload_n hx hb dX0_addNumber_19 rfl (lv_at hl 1 rfl) ?_
      refine va_get (D := (dC, dI)) (ci := 0) (v := .ref q) (C := "RequestCutter$ByteRow") (T := TX0) (N := 3) hx hb hts (fun w h => List.mem_cons_of_mem _ (inX0 w h)) hown hK hP 0 rfl rfl 1 (by decide) (hts _ (List.mem_cons_of_mem _ tw_41)) (fun _ h9 => h9) rfl dX0_addNumber_20 ?_
      refine lv_aload_n hx hb dX0_addNumber_23 rfl (lv_at hl 1 rfl) ?_
      refine va_get (D := (dC, dI)) (ci := 0) (v := .int (iI ((cnt : Int)))) (C := "RequestCutter$ByteRow") (T := TX0) (N := 3) hx hb hts (fun w h => List.mem_cons_of_mem _ (inX0 w h)) hown hK hP 0 rfl rfl 2 (by decide) (hts _ (List.mem_cons_of_mem _ tw_42)) (fun _ h9 => h9) rfl dX0_addNumber_24 ?_
      refine lv_iload_n hx hb dX0_addNumber_27 rfl (lv_at hl 2 rfl) ?_
      refine lv_iload_n hx hb dX0_addNumber_28 rfl (lv_at hl 0 rfl) ?_
      refine lv_iushr (x := x) (y := iI (24)) (v := (((x).toUInt32 >>> ((iI (24)).toUInt32 &&& Int32.toUInt32 31)).toInt32)) hx hb dX0_addNumber_29 rfl ?_
      refine lv_i2b (v := nb (x) (24)) hx hb dX0_addNumber_30 rfl ?_
      refine lx_bast (x := nb (x) (24)) (v := nb (x) (24)) (i := (cnt : Int)) hx hb hK hP hD hS 1 0 rfl rfl (cnt) (by omega) (by omega) (nb_nar _ _) dX0_addNumber_31 (fun H locs hP hD hS => ?_)
      have hP : va_P (dC, dI) vwCl [(h, .inr (0, [.int (iI ((lim : Int))), .ref q, .int (iI ((cnt : Int)))])), (q, .inl (cB, len, .inl (upd (f) (cnt) (nb (x) (24)))))] H := hP
      have hD : va_D A [(h, .inr (0, [.int (iI ((lim : Int))), .ref q, .int (iI ((cnt : Int)))])), (q, .inl (cB, len, .inl (upd (f) (cnt) (nb (x) (24)))))] := hD
      refine lv_aload_n hx hb dX0_addNumber_32 rfl (lv_at hl 1 rfl) ?_
      refine lv_dup hx hb dX0_addNumber_33 rfl ?_
      refine va_get (D := (dC, dI)) (ci := 0) (v := .int (iI ((cnt : Int)))) (C := "RequestCutter$ByteRow") (T := TX0) (N := 3) hx hb hts (fun w h => List.mem_cons_of_mem _ (inX0 w h)) hown hK hP 0 rfl rfl 2 (by decide) (hts _ (List.mem_cons_of_mem _ tw_42)) (fun _ h9 => h9) rfl dX0_addNumber_34 ?_
      refine lv_iconst (v := iI (1)) hx hb dX0_addNumber_37 rfl ?_
      refine lx_iadd (a := (cnt : Int)) (b := 1) hx hb dX0_addNumber_38 ?_
      refine lx_top (x2 := iI ((cnt + 1 : Nat) : Int)) (congrArg iI (by omega)) ?_
      refine va_put (D := (dC, dI)) (ci := 0) (v := .int (iI (((cnt + 1 : Nat) : Int)))) (ty := .int) (C := "RequestCutter$ByteRow") (T := TX0) (N := 3) hx hb hts (fun w h => List.mem_cons_of_mem _ (inX0 w h)) tyX0 tyX0_ok nmX0 hown hK hP hD hS 0 rfl rfl 2 (by decide) (hts _ (List.mem_cons_of_mem _ tw_42)) (fun _ h9 => h9) rfl (by decide +kernel) rfl rfl (Nat.le_of_ble_eq_true rfl) dX0_addNumber_39 (fun H locs hP hD hS => ?_)
      have hP : va_P (dC, dI) vwCl [(h, .inr (0, [.int (iI ((lim : Int))), .ref q, .int (iI (((cnt + 1 : Nat) : Int)))])), (q, .inl (cB, len, .inl (upd (f) (cnt) (nb (x) (24)))))] H := hP
      have hD : va_D A [(h, .inr (0, [.int (iI ((lim : Int))), .ref q, .int (iI (((cnt + 1 : Nat) : Int)))])), (q, .inl (cB, len, .inl (upd (f) (cnt) (nb (x) (24)))))] := hD
      refine lv_iinc (v := iI (24 + (-8))) (lv' := [(2, .int (iI (24 + (-8)))), (0, .ref h), (1, .int (x))]) hx hb dX0_addNumber_42 hl (k := 0) rfl (iI_add _ _) (by decide) rfl (fun ls hl => ?_)
      refine lv_goto (tgt := 3) hx hb dX0_addNumber_45 (by decide) ?_
      refine lv_iload_n hx hb dX0_addNumber_3 rfl (lv_at hl 0 rfl) ?_
      refine lx_if_lt (a := 24 + (-8)) (tgt := 48) hx hb dX0_addNumber_4 (by decide) (by omega) (fun cq3 => ?_) (fun cq3 => ?_)
      · exact absurd cq3 (by omega)
      · refine lv_aload_n hx hb dX0_addNumber_7 rfl (lv_at hl 1 rfl) ?_
        refine va_get (D := (dC, dI)) (ci := 0) (v := .int (iI (((cnt + 1 : Nat) : Int)))) (C := "RequestCutter$ByteRow") (T := TX0) (N := 3) hx hb hts (fun w h => List.mem_cons_of_mem _ (inX0 w h)) hown hK hP 0 rfl rfl 2 (by decide) (hts _ (List.mem_cons_of_mem _ tw_42)) (fun _ h9 => h9) rfl dX0_addNumber_8 ?_
        refine lv_aload_n hx hb dX0_addNumber_11 rfl (lv_at hl 1 rfl) ?_
        refine va_get (D := (dC, dI)) (ci := 0) (v := .ref q) (C := "RequestCutter$ByteRow") (T := TX0) (N := 3) hx hb hts (fun w h => List.mem_cons_of_mem _ (inX0 w h)) hown hK hP 0 rfl rfl 1 (by decide) (hts _ (List.mem_cons_of_mem _ tw_41)) (fun _ h9 => h9) rfl dX0_addNumber_12 ?_
        refine va_alen (v := iI ((len : Nat) : Int)) hx hb hK hP 1 0 rfl rfl (iI_nat _) dX0_addNumber_15 ?_
        refine lx_icmp_ge (a := ((cnt + 1 : Nat) : Int)) (b := ((len : Nat) : Int)) (tgt := 42) hx hb dX0_addNumber_16 (by decide) (by omega) (by omega) (fun cq4 => ?_) (fun cq4 => ?_)
        · exact absurd cq4 (by omega)
        · refine lv_aload_n hx hb dX0_addNumber_19 rfl (lv_at hl 1 rfl) ?_
          refine va_get (D := (dC, dI)) (ci := 0) (v := .ref q) (C := "RequestCutter$ByteRow") (T := TX0) (N := 3) hx hb hts (fun w h => List.mem_cons_of_mem _ (inX0 w h)) hown hK hP 0 rfl rfl 1 (by decide) (hts _ (List.mem_cons_of_mem _ tw_41)) (fun _ h9 => h9) rfl dX0_addNumber_20 ?_
          refine lv_aload_n hx hb dX0_addNumber_23 rfl (lv_at hl 1 rfl) ?_
          refine va_get (D := (dC, dI)) (ci := 0) (v := .int (iI (((cnt + 1 : Nat) : Int)))) (C := "RequestCutter$ByteRow") (T := TX0) (N := 3) hx hb hts (fun w h => List.mem_cons_of_mem _ (inX0 w h)) hown hK hP 0 rfl rfl 2 (by decide) (hts _ (List.mem_cons_of_mem _ tw_42)) (fun _ h9 => h9) rfl dX0_addNumber_24 ?_
          refine lv_iload_n hx hb dX0_addNumber_27 rfl (lv_at hl 2 rfl) ?_
          refine lv_iload_n hx hb dX0_addNumber_28 rfl (lv_at hl 0 rfl) ?_
          refine lv_iushr (x := x) (y := iI (24 + (-8))) (v := (((x).toUInt32 >>> ((iI (24 + (-8))).toUInt32 &&& Int32.toUInt32 31)).toInt32)) hx hb dX0_addNumber_29 rfl ?_
          refine lv_i2b (v := nb (x) (24 + (-8))) hx hb dX0_addNumber_30 rfl ?_
          refine lx_bast (x := nb (x) (24 + (-8))) (v := nb (x) (24 + (-8))) (i := ((cnt + 1 : Nat) : Int)) hx hb hK hP hD hS 1 0 rfl rfl (cnt + 1) (by omega) (by omega) (nb_nar _ _) dX0_addNumber_31 (fun H locs hP hD hS => ?_)
          have hP : va_P (dC, dI) vwCl [(h, .inr (0, [.int (iI ((lim : Int))), .ref q, .int (iI (((cnt + 1 : Nat) : Int)))])), (q, .inl (cB, len, .inl (upd (upd (f) (cnt) (nb (x) (24))) (cnt + 1) (nb (x) (24 + (-8))))))] H := hP
          have hD : va_D A [(h, .inr (0, [.int (iI ((lim : Int))), .ref q, .int (iI (((cnt + 1 : Nat) : Int)))])), (q, .inl (cB, len, .inl (upd (upd (f) (cnt) (nb (x) (24))) (cnt + 1) (nb (x) (24 + (-8))))))] := hD
          refine lv_aload_n hx hb dX0_addNumber_32 rfl (lv_at hl 1 rfl) ?_
          refine lv_dup hx hb dX0_addNumber_33 rfl ?_
          refine va_get (D := (dC, dI)) (ci := 0) (v := .int (iI (((cnt + 1 : Nat) : Int)))) (C := "RequestCutter$ByteRow") (T := TX0) (N := 3) hx hb hts (fun w h => List.mem_cons_of_mem _ (inX0 w h)) hown hK hP 0 rfl rfl 2 (by decide) (hts _ (List.mem_cons_of_mem _ tw_42)) (fun _ h9 => h9) rfl dX0_addNumber_34 ?_
          refine lv_iconst (v := iI (1)) hx hb dX0_addNumber_37 rfl ?_
          refine lx_iadd (a := ((cnt + 1 : Nat) : Int)) (b := 1) hx hb dX0_addNumber_38 ?_
          refine lx_top (x2 := iI ((cnt + 2 : Nat) : Int)) (congrArg iI (by omega)) ?_
          refine va_put (D := (dC, dI)) (ci := 0) (v := .int (iI (((cnt + 2 : Nat) : Int)))) (ty := .int) (C := "RequestCutter$ByteRow") (T := TX0) (N := 3) hx hb hts (fun w h => List.mem_cons_of_mem _ (inX0 w h)) tyX0 tyX0_ok nmX0 hown hK hP hD hS 0 rfl rfl 2 (by decide) (hts _ (List.mem_cons_of_mem _ tw_42)) (fun _ h9 => h9) rfl (by decide +kernel) rfl rfl (Nat.le_of_ble_eq_true rfl) dX0_addNumber_39 (fun H locs hP hD hS => ?_)
          have hP : va_P (dC, dI) vwCl [(h, .inr (0, [.int (iI ((lim : Int))), .ref q, .int (iI (((cnt + 2 : Nat) : Int)))])), (q, .inl (cB, len, .inl (upd (upd (f) (cnt) (nb (x) (24))) (cnt + 1) (nb (x) (24 + (-8))))))] H := hP
          have hD : va_D A [(h, .inr (0, [.int (iI ((lim : Int))), .ref q, .int (iI (((cnt + 2 : Nat) : Int)))])), (q, .inl (cB, len, .inl (upd (upd (f) (cnt) (nb (x) (24))) (cnt + 1) (nb (x) (24 + (-8))))))] := hD
          refine lv_iinc (v := iI (24 + (-8) + (-8))) (lv' := [(2, .int (iI (24 + (-8) + (-8)))), (0, .ref h), (1, .int (x))]) hx hb dX0_addNumber_42 hl (k := 0) rfl (iI_add _ _) (by decide) rfl (fun ls hl => ?_)
          refine lv_goto (tgt := 3) hx hb dX0_addNumber_45 (by decide) ?_
          refine lv_iload_n hx hb dX0_addNumber_3 rfl (lv_at hl 0 rfl) ?_
          refine lx_if_lt (a := 24 + (-8) + (-8)) (tgt := 48) hx hb dX0_addNumber_4 (by decide) (by omega) (fun cq5 => ?_) (fun cq5 => ?_)
          · exact absurd cq5 (by omega)
          · refine lv_aload_n hx hb dX0_addNumber_7 rfl (lv_at hl 1 rfl) ?_
            refine va_get (D := (dC, dI)) (ci := 0) (v := .int (iI (((cnt + 2 : Nat) : Int)))) (C := "RequestCutter$ByteRow") (T := TX0) (N := 3) hx hb hts (fun w h => List.mem_cons_of_mem _ (inX0 w h)) hown hK hP 0 rfl rfl 2 (by decide) (hts _ (List.mem_cons_of_mem _ tw_42)) (fun _ h9 => h9) rfl dX0_addNumber_8 ?_
            refine lv_aload_n hx hb dX0_addNumber_11 rfl (lv_at hl 1 rfl) ?_
            refine va_get (D := (dC, dI)) (ci := 0) (v := .ref q) (C := "RequestCutter$ByteRow") (T := TX0) (N := 3) hx hb hts (fun w h => List.mem_cons_of_mem _ (inX0 w h)) hown hK hP 0 rfl rfl 1 (by decide) (hts _ (List.mem_cons_of_mem _ tw_41)) (fun _ h9 => h9) rfl dX0_addNumber_12 ?_
            refine va_alen (v := iI ((len : Nat) : Int)) hx hb hK hP 1 0 rfl rfl (iI_nat _) dX0_addNumber_15 ?_
            refine lx_icmp_ge (a := ((cnt + 2 : Nat) : Int)) (b := ((len : Nat) : Int)) (tgt := 42) hx hb dX0_addNumber_16 (by decide) (by omega) (by omega) (fun cq6 => ?_) (fun cq6 => ?_)
            · exact absurd cq6 (by omega)
            · refine lv_aload_n hx hb dX0_addNumber_19 rfl (lv_at hl 1 rfl) ?_
              refine va_get (D := (dC, dI)) (ci := 0) (v := .ref q) (C := "RequestCutter$ByteRow") (T := TX0) (N := 3) hx hb hts (fun w h => List.mem_cons_of_mem _ (inX0 w h)) hown hK hP 0 rfl rfl 1 (by decide) (hts _ (List.mem_cons_of_mem _ tw_41)) (fun _ h9 => h9) rfl dX0_addNumber_20 ?_
              refine lv_aload_n hx hb dX0_addNumber_23 rfl (lv_at hl 1 rfl) ?_
              refine va_get (D := (dC, dI)) (ci := 0) (v := .int (iI (((cnt + 2 : Nat) : Int)))) (C := "RequestCutter$ByteRow") (T := TX0) (N := 3) hx hb hts (fun w h => List.mem_cons_of_mem _ (inX0 w h)) hown hK hP 0 rfl rfl 2 (by decide) (hts _ (List.mem_cons_of_mem _ tw_42)) (fun _ h9 => h9) rfl dX0_addNumber_24 ?_
              refine lv_iload_n hx hb dX0_addNumber_27 rfl (lv_at hl 2 rfl) ?_
              refine lv_iload_n hx hb dX0_addNumber_28 rfl (lv_at hl 0 rfl) ?_
              refine lv_iushr (x := x) (y := iI (24 + (-8) + (-8))) (v := (((x).toUInt32 >>> ((iI (24 + (-8) + (-8))).toUInt32 &&& Int32.toUInt32 31)).toInt32)) hx hb dX0_addNumber_29 rfl ?_
              refine lv_i2b (v := nb (x) (24 + (-8) + (-8))) hx hb dX0_addNumber_30 rfl ?_
              refine lx_bast (x := nb (x) (24 + (-8) + (-8))) (v := nb (x) (24 + (-8) + (-8))) (i := ((cnt + 2 : Nat) : Int)) hx hb hK hP hD hS 1 0 rfl rfl (cnt + 2) (by omega) (by omega) (nb_nar _ _) dX0_addNumber_31 (fun H locs hP hD hS => ?_)
              have hP : va_P (dC, dI) vwCl [(h, .inr (0, [.int (iI ((lim : Int))), .ref q, .int (iI (((cnt + 2 : Nat) : Int)))])), (q, .inl (cB, len, .inl (upd (upd (upd (f) (cnt) (nb (x) (24))) (cnt + 1) (nb (x) (24 + (-8)))) (cnt + 2) (nb (x) (24 + (-8) + (-8))))))] H := hP
              have hD : va_D A [(h, .inr (0, [.int (iI ((lim : Int))), .ref q, .int (iI (((cnt + 2 : Nat) : Int)))])), (q, .inl (cB, len, .inl (upd (upd (upd (f) (cnt) (nb (x) (24))) (cnt + 1) (nb (x) (24 + (-8)))) (cnt + 2) (nb (x) (24 + (-8) + (-8))))))] := hD
              refine lv_aload_n hx hb dX0_addNumber_32 rfl (lv_at hl 1 rfl) ?_
              refine lv_dup hx hb dX0_addNumber_33 rfl ?_
              refine va_get (D := (dC, dI)) (ci := 0) (v := .int (iI (((cnt + 2 : Nat) : Int)))) (C := "RequestCutter$ByteRow") (T := TX0) (N := 3) hx hb hts (fun w h => List.mem_cons_of_mem _ (inX0 w h)) hown hK hP 0 rfl rfl 2 (by decide) (hts _ (List.mem_cons_of_mem _ tw_42)) (fun _ h9 => h9) rfl dX0_addNumber_34 ?_
              refine lv_iconst (v := iI (1)) hx hb dX0_addNumber_37 rfl ?_
              refine lx_iadd (a := ((cnt + 2 : Nat) : Int)) (b := 1) hx hb dX0_addNumber_38 ?_
              refine lx_top (x2 := iI ((cnt + 3 : Nat) : Int)) (congrArg iI (by omega)) ?_
              refine va_put (D := (dC, dI)) (ci := 0) (v := .int (iI (((cnt + 3 : Nat) : Int)))) (ty := .int) (C := "RequestCutter$ByteRow") (T := TX0) (N := 3) hx hb hts (fun w h => List.mem_cons_of_mem _ (inX0 w h)) tyX0 tyX0_ok nmX0 hown hK hP hD hS 0 rfl rfl 2 (by decide) (hts _ (List.mem_cons_of_mem _ tw_42)) (fun _ h9 => h9) rfl (by decide +kernel) rfl rfl (Nat.le_of_ble_eq_true rfl) dX0_addNumber_39 (fun H locs hP hD hS => ?_)
              have hP : va_P (dC, dI) vwCl [(h, .inr (0, [.int (iI ((lim : Int))), .ref q, .int (iI (((cnt + 3 : Nat) : Int)))])), (q, .inl (cB, len, .inl (upd (upd (upd (f) (cnt) (nb (x) (24))) (cnt + 1) (nb (x) (24 + (-8)))) (cnt + 2) (nb (x) (24 + (-8) + (-8))))))] H := hP
              have hD : va_D A [(h, .inr (0, [.int (iI ((lim : Int))), .ref q, .int (iI (((cnt + 3 : Nat) : Int)))])), (q, .inl (cB, len, .inl (upd (upd (upd (f) (cnt) (nb (x) (24))) (cnt + 1) (nb (x) (24 + (-8)))) (cnt + 2) (nb (x) (24 + (-8) + (-8))))))] := hD
              refine lv_iinc (v := iI (24 + (-8) + (-8) + (-8))) (lv' := [(2, .int (iI (24 + (-8) + (-8) + (-8)))), (0, .ref h), (1, .int (x))]) hx hb dX0_addNumber_42 hl (k := 0) rfl (iI_add _ _) (by decide) rfl (fun ls hl => ?_)
              refine lv_goto (tgt := 3) hx hb dX0_addNumber_45 (by decide) ?_
              refine lv_iload_n hx hb dX0_addNumber_3 rfl (lv_at hl 0 rfl) ?_
              refine lx_if_lt (a := 24 + (-8) + (-8) + (-8)) (tgt := 48) hx hb dX0_addNumber_4 (by decide) (by omega) (fun cq7 => ?_) (fun cq7 => ?_)
              · exact absurd cq7 (by omega)
              · refine lv_aload_n hx hb dX0_addNumber_7 rfl (lv_at hl 1 rfl) ?_
                refine va_get (D := (dC, dI)) (ci := 0) (v := .int (iI (((cnt + 3 : Nat) : Int)))) (C := "RequestCutter$ByteRow") (T := TX0) (N := 3) hx hb hts (fun w h => List.mem_cons_of_mem _ (inX0 w h)) hown hK hP 0 rfl rfl 2 (by decide) (hts _ (List.mem_cons_of_mem _ tw_42)) (fun _ h9 => h9) rfl dX0_addNumber_8 ?_
                refine lv_aload_n hx hb dX0_addNumber_11 rfl (lv_at hl 1 rfl) ?_
                refine va_get (D := (dC, dI)) (ci := 0) (v := .ref q) (C := "RequestCutter$ByteRow") (T := TX0) (N := 3) hx hb hts (fun w h => List.mem_cons_of_mem _ (inX0 w h)) hown hK hP 0 rfl rfl 1 (by decide) (hts _ (List.mem_cons_of_mem _ tw_41)) (fun _ h9 => h9) rfl dX0_addNumber_12 ?_
                refine va_alen (v := iI ((len : Nat) : Int)) hx hb hK hP 1 0 rfl rfl (iI_nat _) dX0_addNumber_15 ?_
                refine lx_icmp_ge (a := ((cnt + 3 : Nat) : Int)) (b := ((len : Nat) : Int)) (tgt := 42) hx hb dX0_addNumber_16 (by decide) (by omega) (by omega) (fun cq8 => ?_) (fun cq8 => ?_)
                · exact absurd cq8 (by omega)
                · refine lv_aload_n hx hb dX0_addNumber_19 rfl (lv_at hl 1 rfl) ?_
                  refine va_get (D := (dC, dI)) (ci := 0) (v := .ref q) (C := "RequestCutter$ByteRow") (T := TX0) (N := 3) hx hb hts (fun w h => List.mem_cons_of_mem _ (inX0 w h)) hown hK hP 0 rfl rfl 1 (by decide) (hts _ (List.mem_cons_of_mem _ tw_41)) (fun _ h9 => h9) rfl dX0_addNumber_20 ?_
                  refine lv_aload_n hx hb dX0_addNumber_23 rfl (lv_at hl 1 rfl) ?_
                  refine va_get (D := (dC, dI)) (ci := 0) (v := .int (iI (((cnt + 3 : Nat) : Int)))) (C := "RequestCutter$ByteRow") (T := TX0) (N := 3) hx hb hts (fun w h => List.mem_cons_of_mem _ (inX0 w h)) hown hK hP 0 rfl rfl 2 (by decide) (hts _ (List.mem_cons_of_mem _ tw_42)) (fun _ h9 => h9) rfl dX0_addNumber_24 ?_
                  refine lv_iload_n hx hb dX0_addNumber_27 rfl (lv_at hl 2 rfl) ?_
                  refine lv_iload_n hx hb dX0_addNumber_28 rfl (lv_at hl 0 rfl) ?_
                  refine lv_iushr (x := x) (y := iI (24 + (-8) + (-8) + (-8))) (v := (((x).toUInt32 >>> ((iI (24 + (-8) + (-8) + (-8))).toUInt32 &&& Int32.toUInt32 31)).toInt32)) hx hb dX0_addNumber_29 rfl ?_
                  refine lv_i2b (v := nb (x) (24 + (-8) + (-8) + (-8))) hx hb dX0_addNumber_30 rfl ?_
                  refine lx_bast (x := nb (x) (24 + (-8) + (-8) + (-8))) (v := nb (x) (24 + (-8) + (-8) + (-8))) (i := ((cnt + 3 : Nat) : Int)) hx hb hK hP hD hS 1 0 rfl rfl (cnt + 3) (by omega) (by omega) (nb_nar _ _) dX0_addNumber_31 (fun H locs hP hD hS => ?_)
                  have hP : va_P (dC, dI) vwCl [(h, .inr (0, [.int (iI ((lim : Int))), .ref q, .int (iI (((cnt + 3 : Nat) : Int)))])), (q, .inl (cB, len, .inl (upd (upd (upd (upd (f) (cnt) (nb (x) (24))) (cnt + 1) (nb (x) (24 + (-8)))) (cnt + 2) (nb (x) (24 + (-8) + (-8)))) (cnt + 3) (nb (x) (24 + (-8) + (-8) + (-8))))))] H := hP
                  have hD : va_D A [(h, .inr (0, [.int (iI ((lim : Int))), .ref q, .int (iI (((cnt + 3 : Nat) : Int)))])), (q, .inl (cB, len, .inl (upd (upd (upd (upd (f) (cnt) (nb (x) (24))) (cnt + 1) (nb (x) (24 + (-8)))) (cnt + 2) (nb (x) (24 + (-8) + (-8)))) (cnt + 3) (nb (x) (24 + (-8) + (-8) + (-8))))))] := hD
                  refine lv_aload_n hx hb dX0_addNumber_32 rfl (lv_at hl 1 rfl) ?_
                  refine lv_dup hx hb dX0_addNumber_33 rfl ?_
                  refine va_get (D := (dC, dI)) (ci := 0) (v := .int (iI (((cnt + 3 : Nat) : Int)))) (C := "RequestCutter$ByteRow") (T := TX0) (N := 3) hx hb hts (fun w h => List.mem_cons_of_mem _ (inX0 w h)) hown hK hP 0 rfl rfl 2 (by decide) (hts _ (List.mem_cons_of_mem _ tw_42)) (fun _ h9 => h9) rfl dX0_addNumber_34 ?_
                  refine lv_iconst (v := iI (1)) hx hb dX0_addNumber_37 rfl ?_
                  refine lx_iadd (a := ((cnt + 3 : Nat) : Int)) (b := 1) hx hb dX0_addNumber_38 ?_
                  refine lx_top (x2 := iI ((cnt + 4 : Nat) : Int)) (congrArg iI (by omega)) ?_
                  refine va_put (D := (dC, dI)) (ci := 0) (v := .int (iI (((cnt + 4 : Nat) : Int)))) (ty := .int) (C := "RequestCutter$ByteRow") (T := TX0) (N := 3) hx hb hts (fun w h => List.mem_cons_of_mem _ (inX0 w h)) tyX0 tyX0_ok nmX0 hown hK hP hD hS 0 rfl rfl 2 (by decide) (hts _ (List.mem_cons_of_mem _ tw_42)) (fun _ h9 => h9) rfl (by decide +kernel) rfl rfl (Nat.le_of_ble_eq_true rfl) dX0_addNumber_39 (fun H locs hP hD hS => ?_)
                  have hP : va_P (dC, dI) vwCl [(h, .inr (0, [.int (iI ((lim : Int))), .ref q, .int (iI (((cnt + 4 : Nat) : Int)))])), (q, .inl (cB, len, .inl (upd (upd (upd (upd (f) (cnt) (nb (x) (24))) (cnt + 1) (nb (x) (24 + (-8)))) (cnt + 2) (nb (x) (24 + (-8) + (-8)))) (cnt + 3) (nb (x) (24 + (-8) + (-8) + (-8))))))] H := hP
                  have hD : va_D A [(h, .inr (0, [.int (iI ((lim : Int))), .ref q, .int (iI (((cnt + 4 : Nat) : Int)))])), (q, .inl (cB, len, .inl (upd (upd (upd (upd (f) (cnt) (nb (x) (24))) (cnt + 1) (nb (x) (24 + (-8)))) (cnt + 2) (nb (x) (24 + (-8) + (-8)))) (cnt + 3) (nb (x) (24 + (-8) + (-8) + (-8))))))] := hD
                  refine lv_iinc (v := iI (24 + (-8) + (-8) + (-8) + (-8))) (lv' := [(2, .int (iI (24 + (-8) + (-8) + (-8) + (-8)))), (0, .ref h), (1, .int (x))]) hx hb dX0_addNumber_42 hl (k := 0) rfl (iI_add _ _) (by decide) rfl (fun ls hl => ?_)
                  refine lv_goto (tgt := 3) hx hb dX0_addNumber_45 (by decide) ?_
                  refine lv_iload_n hx hb dX0_addNumber_3 rfl (lv_at hl 0 rfl) ?_
                  refine lx_if_lt (a := 24 + (-8) + (-8) + (-8) + (-8)) (tgt := 48) hx hb dX0_addNumber_4 (by decide) (by omega) (fun cq9 => ?_) (fun cq9 => ?_)
                  · exact W.vret hx hb hr (fun t ht hW => ⟨⟨(upd (upd (upd (upd (f) (cnt) (nb (x) (24))) (cnt + 1) (nb (x) (24 + (-8)))) (cnt + 2) (nb (x) (24 + (-8) + (-8)))) (cnt + 3) (nb (x) (24 + (-8) + (-8) + (-8)))), rfl, ⟨sb_fitU (sb_fitU (sb_fitU (sb_fitU hfit (nb_fit _ _)) (nb_fit _ _)) (nb_fit _ _)) (nb_fit _ _), fun j hj => by simp only [upd]; rw [if_neg (by omega), if_neg (by omega), if_neg (by omega), if_neg (by omega)], by simp only [upd]; rw [if_neg (by omega), if_neg (by omega), if_neg (by omega), if_pos trivial], by simp only [upd]; rw [if_neg (by omega), if_neg (by omega), if_pos trivial]; rfl, by simp only [upd]; rw [if_neg (by omega), if_pos trivial]; rfl, by simp only [upd]; rw [if_pos trivial]; rfl⟩, by rw [ht]; exact hP, va_K.moved hW.alike hK, hD⟩, hS.F ht⟩) hS.2.2 dX0_addNumber_48
                  · exact absurd cq9 (by omega)
set_option maxHeartbeats 4000000 in
set_option maxRecDepth 100000 in
/-- removeFirst(n) -/
theorem c_X0_removeFirst (l : Launch) (dC : Nat → ClassId) (dI : Nat → Nat → Nat) (cB cI : ClassId) (sz : Nat) (h q lim len cnt : Nat) (f : Nat → Int32) (hc : cnt ≤ len) (hn : len ≤ 65536) (hm : lim ≤ 65536) (hfit : sb_Fit f) (i : Int) (hi : -2147483648 ≤ i ∧ i ≤ 2147483647) : Met l yX0_removeFirst wX0_removeFirst ({ frames := 1, cells := 0, slots := 0, locals := 48 }) (va_Pc [.ref h, .int (iI (i))] (vx_B (dC, dI) vwCl [(cB, .byte), (cI, .int)] [(h, .inr (0, [.int (iI ((lim : Int))), .ref q, .int (iI ((cnt : Int)))])), (q, .inl (cB, len, .inl (f)))] sz)) (va_Qi (fun (r : Int32) (u : (Nat → Int32) × Nat) => r = iI (if 0 ≤ i ∧ i ≤ cnt then 1 else 0) ∧ sb_Fit u.1 ∧ (0 ≤ i ∧ i ≤ cnt → u.2 = cnt - i.toNat ∧ ∀ j, j < cnt - i.toNat → u.1 j = f (i.toNat + j)) ∧ (¬ (0 ≤ i ∧ i ≤ cnt) → u = (f, cnt))) (fun (u : (Nat → Int32) × Nat) => vx_E (dC, dI) vwCl [(cB, .byte), (cI, .int)] (va_A [(h, .inr (0, [.int (iI ((lim : Int))), .ref q, .int (iI ((cnt : Int)))])), (q, .inl (cB, len, .inl (f)))] sz) [(h, .inr (0, [.int (iI ((lim : Int))), .ref q, .int (iI ((u.2 : Int)))])), (q, .inl (cB, len, .inl (u.1)))]) (va_A [(h, .inr (0, [.int (iI ((lim : Int))), .ref q, .int (iI ((cnt : Int)))])), (q, .inl (cB, len, .inl (f)))] sz)) (0) (0) (va_A [(h, .inr (0, [.int (iI ((lim : Int))), .ref q, .int (iI ((cnt : Int)))])), (q, .inl (cB, len, .inl (f)))] sz) := by
  refine Met.ofW (cc := cX0_removeFirst) (maxL := 2) (ret := (some .boolean)) (by decide) rfl ?_
  intro p e s m args below meth c s₁ B hml hv
  obtain ⟨rfl, hsz, hP, hK, hD0⟩ := hv
  have hx := B.exec
  have hb := B.bytes
  have hr := B.returns
  have hts := atoms_spec (ws := wX0_removeFirst) B.pre
  have hown : s.vm.findClass "RequestCutter$ByteRow" = some m.cls := findClass_of_methodNamed B.named
  have hlocks := B.notSynchronized
  subst hsz
  have hD := hD0.self (sz := s.heap.size)
  generalize hAe : va_A [(h, .inr (0, [.int (iI ((lim : Int))), .ref q, .int (iI ((cnt : Int)))])), (q, .inl (cB, len, .inl (f)))] s.heap.size = A at hD ⊢
  have hA : ∀ q : Nat, s.heap.size ≤ q → A q := fun q h => by rw [← hAe]; exact Or.inr h
  have hS : va_S A s.heap s.heap [] := va_S.rf
  have hP : va_P (dC, dI) vwCl [(h, .inr (0, [.int (iI ((lim : Int))), .ref q, .int (iI ((cnt : Int)))])), (q, .inl (cB, len, .inl (f)))] s.heap := hP
  have hl := lv_entry ([.ref h, .int (iI (i))]) (n := 2) (Nat.le_of_ble_eq_true rfl)
  rw [lg_entry_eq]
  generalize (lg_sl ([.ref h, .int (iI (i))]) ++ List.replicate (2 - (lg_sl ([.ref h, .int (iI (i))])).length) Slot.unset).toArray = ls at hl ⊢
  have hl : lv_has ls 2 [(0, .ref h), (1, .int (iI (i)))] := hl
  refine lv_iload_n hx hb dX0_removeFirst_0 rfl (lv_at hl 1 rfl) ?_
  refine lx_if_lt (a := i) (tgt := 12) hx hb dX0_removeFirst_1 (by decide) (by omega) (fun cq1 => ?_) (fun cq1 => ?_)
  · refine lv_iconst (v := iI (0)) hx hb dX0_removeFirst_12 rfl ?_
    exact W.zret (v := iI (0)) hx hb hr (by rfl) (fun t ht hW => ⟨⟨iI (0), (f, cnt), rfl, ⟨by rw [if_neg (by omega)], hfit, fun z => by omega, fun _ => rfl⟩, by rw [ht]; exact hP, va_K.moved hW.alike hK, hD⟩, hS.F ht⟩) hS.2.2 dX0_removeFirst_13
  · refine lv_iload_n hx hb dX0_removeFirst_4 rfl (lv_at hl 1 rfl) ?_
    refine lv_aload_n hx hb dX0_removeFirst_5 rfl (lv_at hl 0 rfl) ?_
    refine va_get (D := (dC, dI)) (ci := 0) (v := .int (iI ((cnt : Int)))) (C := "RequestCutter$ByteRow") (T := TX0) (N := 3) hx hb hts (fun w h => List.mem_cons_of_mem _ (inX0 w h)) hown hK hP 0 rfl rfl 2 (by decide) (hts _ (List.mem_cons_of_mem _ tw_42)) (fun _ h9 => h9) rfl dX0_removeFirst_6 ?_
    refine lx_icmp_le (a := i) (b := (cnt : Int)) (tgt := 14) hx hb dX0_removeFirst_9 (by decide) (by omega) (by omega) (fun cq2 => ?_) (fun cq2 => ?_)
    · refine lv_aload_n hx hb dX0_removeFirst_14 rfl (lv_at hl 0 rfl) ?_
      refine va_get (D := (dC, dI)) (ci := 0) (v := .ref q) (C := "RequestCutter$ByteRow") (T := TX0) (N := 3) hx hb hts (fun w h => List.mem_cons_of_mem _ (inX0 w h)) hown hK hP 0 rfl rfl 1 (by decide) (hts _ (List.mem_cons_of_mem _ tw_41)) (fun _ h9 => h9) rfl dX0_removeFirst_15 ?_
      refine lv_iload_n hx hb dX0_removeFirst_18 rfl (lv_at hl 1 rfl) ?_
      refine lv_aload_n hx hb dX0_removeFirst_19 rfl (lv_at hl 0 rfl) ?_
      refine va_get (D := (dC, dI)) (ci := 0) (v := .ref q) (C := "RequestCutter$ByteRow") (T := TX0) (N := 3) hx hb hts (fun w h => List.mem_cons_of_mem _ (inX0 w h)) hown hK hP 0 rfl rfl 1 (by decide) (hts _ (List.mem_cons_of_mem _ tw_41)) (fun _ h9 => h9) rfl dX0_removeFirst_20 ?_
      refine lv_iconst (v := iI (0)) hx hb dX0_removeFirst_23 rfl ?_
      refine lv_aload_n hx hb dX0_removeFirst_24 rfl (lv_at hl 0 rfl) ?_
      refine va_get (D := (dC, dI)) (ci := 0) (v := .int (iI ((cnt : Int)))) (C := "RequestCutter$ByteRow") (T := TX0) (N := 3) hx hb hts (fun w h => List.mem_cons_of_mem _ (inX0 w h)) hown hK hP 0 rfl rfl 2 (by decide) (hts _ (List.mem_cons_of_mem _ tw_42)) (fun _ h9 => h9) rfl dX0_removeFirst_25 ?_
      refine lv_iload_n hx hb dX0_removeFirst_28 rfl (lv_at hl 1 rfl) ?_
      refine lx_isub (a := (cnt : Int)) (b := i) hx hb dX0_removeFirst_29 ?_
      refine lx_copy (ty := .byte) (sp := i) (dp := 0) (n := ((cnt : Int)) - i) hx hb (by rw [hml]; exact hl.1.symm) hown (hts _ (List.mem_cons_of_mem _ tw_144)) (hts _ (List.mem_cons_of_mem _ tw_118)) (hts _ (List.mem_cons_of_mem _ tw_117)) (hts _ (List.mem_cons_of_mem _ tw_25)) hK hP hD hS 1 1 0 0 rfl rfl rfl rfl rfl (i.toNat) (0) (cnt - i.toNat) (by omega) (by omega) (by omega) (by omega) (by omega) (by omega) (fun i _ => hfit i) (Nat.le_of_ble_eq_true rfl) (Nat.le_of_ble_eq_true rfl) dX0_removeFirst_30 (fun H locs hP hD hS => ?_)
      have hP : va_P (dC, dI) vwCl [(h, .inr (0, [.int (iI ((lim : Int))), .ref q, .int (iI ((cnt : Int)))])), (q, .inl (cB, len, .inl (va_cpy (f) (f) (i.toNat) (0) (cnt - i.toNat))))] H := hP
      have hD : va_D A [(h, .inr (0, [.int (iI ((lim : Int))), .ref q, .int (iI ((cnt : Int)))])), (q, .inl (cB, len, .inl (va_cpy (f) (f) (i.toNat) (0) (cnt - i.toNat))))] := hD
      refine lv_aload_n hx hb dX0_removeFirst_33 rfl (lv_at hl 0 rfl) ?_
      refine lv_dup hx hb dX0_removeFirst_34 rfl ?_
      refine va_get (D := (dC, dI)) (ci := 0) (v := .int (iI ((cnt : Int)))) (C := "RequestCutter$ByteRow") (T := TX0) (N := 3) hx hb hts (fun w h => List.mem_cons_of_mem _ (inX0 w h)) hown hK hP 0 rfl rfl 2 (by decide) (hts _ (List.mem_cons_of_mem _ tw_42)) (fun _ h9 => h9) rfl dX0_removeFirst_35 ?_
      refine lv_iload_n hx hb dX0_removeFirst_38 rfl (lv_at hl 1 rfl) ?_
      refine lx_isub (a := (cnt : Int)) (b := i) hx hb dX0_removeFirst_39 ?_
      refine lx_top (x2 := iI ((cnt - i.toNat : Nat) : Int)) (congrArg iI (by omega)) ?_
      refine va_put (D := (dC, dI)) (ci := 0) (v := .int (iI (((cnt - i.toNat : Nat) : Int)))) (ty := .int) (C := "RequestCutter$ByteRow") (T := TX0) (N := 3) hx hb hts (fun w h => List.mem_cons_of_mem _ (inX0 w h)) tyX0 tyX0_ok nmX0 hown hK hP hD hS 0 rfl rfl 2 (by decide) (hts _ (List.mem_cons_of_mem _ tw_42)) (fun _ h9 => h9) rfl (by decide +kernel) rfl rfl (Nat.le_of_ble_eq_true rfl) dX0_removeFirst_40 (fun H locs hP hD hS => ?_)
      have hP : va_P (dC, dI) vwCl [(h, .inr (0, [.int (iI ((lim : Int))), .ref q, .int (iI (((cnt - i.toNat : Nat) : Int)))])), (q, .inl (cB, len, .inl (va_cpy (f) (f) (i.toNat) (0) (cnt - i.toNat))))] H := hP
      have hD : va_D A [(h, .inr (0, [.int (iI ((lim : Int))), .ref q, .int (iI (((cnt - i.toNat : Nat) : Int)))])), (q, .inl (cB, len, .inl (va_cpy (f) (f) (i.toNat) (0) (cnt - i.toNat))))] := hD
      refine lv_iconst (v := iI (1)) hx hb dX0_removeFirst_43 rfl ?_
      exact W.zret (v := iI (1)) hx hb hr (by rfl) (fun t ht hW => ⟨⟨iI (1), (va_cpy f f i.toNat 0 (cnt - i.toNat), cnt - i.toNat), rfl, ⟨by rw [if_pos (by omega)], sb_fitC hfit hfit, fun z => ⟨rfl, fun j hj => by show va_cpy f f i.toNat 0 (cnt - i.toNat) j = _; rw [pk_cpy_in (Nat.zero_le _) (by omega), Nat.sub_zero]⟩, fun z => by omega⟩, by rw [ht]; exact hP, va_K.moved hW.alike hK, hD⟩, hS.F ht⟩) hS.2.2 dX0_removeFirst_44
    · refine lv_iconst (v := iI (0)) hx hb dX0_removeFirst_12 rfl ?_
      exact W.zret (v := iI (0)) hx hb hr (by rfl) (fun t ht hW => ⟨⟨iI (0), (f, cnt), rfl, ⟨by rw [if_neg (by omega)], hfit, fun z => by omega, fun _ => rfl⟩, by rw [ht]; exact hP, va_K.moved hW.alike hK, hD⟩, hS.F ht⟩) hS.2.2 dX0_removeFirst_13
set_option maxHeartbeats 4000000 in
set_option maxRecDepth 100000 in
/-- addFirstOf(other, n) -/
theorem c_X0_addFirstOf (l : Launch) (dC : Nat → ClassId) (dI : Nat → Nat → Nat) (cB cI : ClassId) (sz : Nat) (h q lim len cnt : Nat) (f : Nat → Int32) (hc : cnt ≤ len) (hn : len ≤ 65536) (hm : lim ≤ 65536) (hll : len ≤ lim) (hfit : sb_Fit f) (h2 q2 lim2 len2 cnt2 : Nat) (g : Nat → Int32) (hc2 : cnt2 ≤ len2) (hn2 : len2 ≤ 65536) (hm2 : lim2 ≤ 65536) (hfit2 : sb_Fit g) (i : Int) (hi : -2147483648 ≤ i ∧ i ≤ 2147483647) (mc ms : Nat) (hroom : ((0 ≤ i ∧ i ≤ cnt2) ∧ i ≤ (lim : Int) - cnt) ∧ (len : Int) < cnt + i → 1 ≤ mc ∧ gL lim len (cnt + i.toNat) ≤ ms) : Met l yX0_addFirstOf wX0_addFirstOf ({ frames := 3, cells := mc, slots := ms, locals := 93 }) (va_Pc [.ref h, .ref h2, .int (iI (i))] (vx_B (dC, dI) vwCl [(cB, .byte), (cI, .int)] [(h, .inr (0, [.int (iI ((lim : Int))), .ref q, .int (iI ((cnt : Int)))])), (q, .inl (cB, len, .inl (f))), (h2, .inr (0, [.int (iI ((lim2 : Int))), .ref q2, .int (iI ((cnt2 : Int)))])), (q2, .inl (cB, len2, .inl (g)))] sz)) (va_Qi (fun (r : Int32) (u : Nat × Nat × Nat × (Nat → Int32)) => r = iI (if ((0 ≤ i ∧ i ≤ cnt2) ∧ i ≤ (lim : Int) - cnt) then 1 else 0) ∧ sb_Fit u.2.2.2 ∧ u.2.1 = (if ((0 ≤ i ∧ i ≤ cnt2) ∧ i ≤ (lim : Int) - cnt) ∧ (len : Int) < cnt + i then gL lim len (cnt + i.toNat) else len) ∧ u.2.1 ≤ lim ∧ (((0 ≤ i ∧ i ≤ cnt2) ∧ i ≤ (lim : Int) - cnt) → u.2.2.1 = cnt + i.toNat ∧ cnt + i.toNat ≤ u.2.1 ∧ (∀ j, j < cnt → u.2.2.2 j = f j) ∧ ∀ j, j < i.toNat → u.2.2.2 (cnt + j) = g j) ∧ (¬ ((0 ≤ i ∧ i ≤ cnt2) ∧ i ≤ (lim : Int) - cnt) → u.2.2.1 = cnt ∧ cnt ≤ u.2.1 ∧ ∀ j, j < cnt → u.2.2.2 j = f j)) (fun (u : Nat × Nat × Nat × (Nat → Int32)) => vx_E (dC, dI) vwCl [(cB, .byte), (cI, .int)] (va_A [(h, .inr (0, [.int (iI ((lim : Int))), .ref q, .int (iI ((cnt : Int)))])), (q, .inl (cB, len, .inl (f))), (h2, .inr (0, [.int (iI ((lim2 : Int))), .ref q2, .int (iI ((cnt2 : Int)))])), (q2, .inl (cB, len2, .inl (g)))] sz) [(h, .inr (0, [.int (iI ((lim : Int))), .ref u.1, .int (iI ((u.2.2.1 : Int)))])), (u.1, .inl (cB, u.2.1, .inl (u.2.2.2))), (h2, .inr (0, [.int (iI ((lim2 : Int))), .ref q2, .int (iI ((cnt2 : Int)))])), (q2, .inl (cB, len2, .inl (g)))]) (va_A [(h, .inr (0, [.int (iI ((lim : Int))), .ref q, .int (iI ((cnt : Int)))])), (q, .inl (cB, len, .inl (f))), (h2, .inr (0, [.int (iI ((lim2 : Int))), .ref q2, .int (iI ((cnt2 : Int)))])), (q2, .inl (cB, len2, .inl (g)))] sz)) (mc) (ms) (va_A [(h, .inr (0, [.int (iI ((lim : Int))), .ref q, .int (iI ((cnt : Int)))])), (q, .inl (cB, len, .inl (f))), (h2, .inr (0, [.int (iI ((lim2 : Int))), .ref q2, .int (iI ((cnt2 : Int)))])), (q2, .inl (cB, len2, .inl (g)))] sz) := by
  refine Met.ofW (cc := cX0_addFirstOf) (maxL := 3) (ret := (some .boolean)) (by decide) rfl ?_
  intro p e s m args below meth c s₁ B hml hv
  obtain ⟨rfl, hsz, hP, hK, hD0⟩ := hv
  have hx := B.exec
  have hb := B.bytes
  have hr := B.returns
  have hts := atoms_spec (ws := wX0_addFirstOf) B.pre
  have hown : s.vm.findClass "RequestCutter$ByteRow" = some m.cls := findClass_of_methodNamed B.named
  have hlocks := B.notSynchronized
  subst hsz
  have hD := hD0.self (sz := s.heap.size)
  generalize hAe : va_A [(h, .inr (0, [.int (iI ((lim : Int))), .ref q, .int (iI ((cnt : Int)))])), (q, .inl (cB, len, .inl (f))), (h2, .inr (0, [.int (iI ((lim2 : Int))), .ref q2, .int (iI ((cnt2 : Int)))])), (q2, .inl (cB, len2, .inl (g)))] s.heap.size = A at hD ⊢
  have hA : ∀ q : Nat, s.heap.size ≤ q → A q := fun q h => by rw [← hAe]; exact Or.inr h
  have hS : va_S A s.heap s.heap [] := va_S.rf
  have hP : va_P (dC, dI) vwCl [(h, .inr (0, [.int (iI ((lim : Int))), .ref q, .int (iI ((cnt : Int)))])), (q, .inl (cB, len, .inl (f))), (h2, .inr (0, [.int (iI ((lim2 : Int))), .ref q2, .int (iI ((cnt2 : Int)))])), (q2, .inl (cB, len2, .inl (g)))] s.heap := hP
  have hl := lv_entry ([.ref h, .ref h2, .int (iI (i))]) (n := 3) (Nat.le_of_ble_eq_true rfl)
  rw [lg_entry_eq]
  generalize (lg_sl ([.ref h, .ref h2, .int (iI (i))]) ++ List.replicate (3 - (lg_sl ([.ref h, .ref h2, .int (iI (i))])).length) Slot.unset).toArray = ls at hl ⊢
  have hl : lv_has ls 3 [(0, .ref h), (1, .ref h2), (2, .int (iI (i)))] := hl
  refine lv_iload_n hx hb dX0_addFirstOf_0 rfl (lv_at hl 2 rfl) ?_
  refine lx_if_lt (a := i) (tgt := 20) hx hb dX0_addFirstOf_1 (by decide) (by omega) (fun cq1 => ?_) (fun cq1 => ?_)
  · refine lv_iconst (v := iI (0)) hx hb dX0_addFirstOf_20 rfl ?_
    refine W.widen (k := mc) (n := ms) (Nat.zero_le _) (Nat.zero_le _) ?_
    exact W.zret (v := iI (0)) hx hb hr (by rfl) (fun t ht hW => ⟨⟨iI (0), (q, len, cnt, f), rfl, ⟨by rw [if_neg (by omega)], hfit, by show len = _; rw [if_neg (by omega)], hll, fun z => by omega, fun z => ⟨rfl, hc, fun _ _ => rfl⟩⟩, by rw [ht]; exact hP, va_K.moved hW.alike hK, hD⟩, hS.F ht⟩) hS.2.2 dX0_addFirstOf_21
  · refine lv_iload_n hx hb dX0_addFirstOf_4 rfl (lv_at hl 2 rfl) ?_
    refine lv_aload_n hx hb dX0_addFirstOf_5 rfl (lv_at hl 1 rfl) ?_
    refine va_get (D := (dC, dI)) (ci := 0) (v := .int (iI ((cnt2 : Int)))) (C := "RequestCutter$ByteRow") (T := TX0) (N := 3) hx hb hts (fun w h => List.mem_cons_of_mem _ (inX0 w h)) hown hK hP 2 rfl rfl 2 (by decide) (hts _ (List.mem_cons_of_mem _ tw_42)) (fun _ h9 => h9) rfl dX0_addFirstOf_6 ?_
    refine lx_icmp_gt (a := i) (b := (cnt2 : Int)) (tgt := 20) hx hb dX0_addFirstOf_9 (by decide) (by omega) (by omega) (fun cq2 => ?_) (fun cq2 => ?_)
    · refine lv_iconst (v := iI (0)) hx hb dX0_addFirstOf_20 rfl ?_
      refine W.widen (k := mc) (n := ms) (Nat.zero_le _) (Nat.zero_le _) ?_
      exact W.zret (v := iI (0)) hx hb hr (by rfl) (fun t ht hW => ⟨⟨iI (0), (q, len, cnt, f), rfl, ⟨by rw [if_neg (by omega)], hfit, by show len = _; rw [if_neg (by omega)], hll, fun z => by omega, fun z => ⟨rfl, hc, fun _ _ => rfl⟩⟩, by rw [ht]; exact hP, va_K.moved hW.alike hK, hD⟩, hS.F ht⟩) hS.2.2 dX0_addFirstOf_21
    · refine lv_aload_n hx hb dX0_addFirstOf_12 rfl (lv_at hl 0 rfl) ?_
      refine lv_iload_n hx hb dX0_addFirstOf_13 rfl (lv_at hl 2 rfl) ?_
      refine vx_Vi (As := [.int (iI (i))]) (rest := []) (wr := [(h2, .inr (0, [.int (iI ((lim2 : Int))), .ref q2, .int (iI ((cnt2 : Int)))])), (q2, .inl (cB, len2, .inl (g)))]) (ci := 0) (q0 := 0) [0, 1] [2, 3] ⟨hx, hb, hml, hown, hts⟩ (c_X0_makeRoom l dC dI cB cI _ h q lim len cnt f hc hn hm hll hfit i hi mc ms (fun z => hroom (by omega))) (cwV 1 hts (gd_V tw_143 tw_96 tw_97 tw_20 tw_98) rfl rfl rfl (by decide +kernel) ⟨Nat.le_of_ble_eq_true rfl, Nat.le_of_ble_eq_true rfl⟩) hK hP hD hS hA rfl rfl rfl rfl (by decide) rfl rfl rfl rfl hl.1 rfl (Nat.le_of_ble_eq_true rfl) dX0_addFirstOf_14 ⟨by show 0 + mc ≤ mc; omega, by show 0 + ms ≤ ms; omega⟩ (fun r u H locs hw hP hD hS => ?_)
      obtain ⟨q1, len1, f1⟩ := u
      try dsimp only at hw hP hD
      obtain ⟨hr1, ⟨hfit1, hk1⟩, hl1, hok1, hlim1⟩ := hw
      have hP : va_P (dC, dI) vwCl [(h, .inr (0, [.int (iI ((lim : Int))), .ref q1, .int (iI ((cnt : Int)))])), (q1, .inl (cB, len1, .inl (f1))), (h2, .inr (0, [.int (iI ((lim2 : Int))), .ref q2, .int (iI ((cnt2 : Int)))])), (q2, .inl (cB, len2, .inl (g)))] H := hP.sub [2, 3, 0, 1] rfl
      have hD : va_D A [(h, .inr (0, [.int (iI ((lim : Int))), .ref q1, .int (iI ((cnt : Int)))])), (q1, .inl (cB, len1, .inl (f1))), (h2, .inr (0, [.int (iI ((lim2 : Int))), .ref q2, .int (iI ((cnt2 : Int)))])), (q2, .inl (cB, len2, .inl (g)))] := hD.sub [2, 3, 0, 1] (by decide) rfl
      obtain ⟨b1, hb1, rfl⟩ := bo_of hr1
      refine W.widen (k := mc) (n := ms) (by omega) (by omega) ?_
      refine lx_if_ne (a := b1) (tgt := 22) hx hb dX0_addFirstOf_17 (by decide) (by omega) (fun cq3 => ?_) (fun cq3 => ?_)
      · refine lv_aload_n hx hb dX0_addFirstOf_22 rfl (lv_at hl 1 rfl) ?_
        refine va_get (D := (dC, dI)) (ci := 0) (v := .ref q2) (C := "RequestCutter$ByteRow") (T := TX0) (N := 3) hx hb hts (fun w h => List.mem_cons_of_mem _ (inX0 w h)) hown hK hP 2 rfl rfl 1 (by decide) (hts _ (List.mem_cons_of_mem _ tw_41)) (fun _ h9 => h9) rfl dX0_addFirstOf_23 ?_
        refine lv_iconst (v := iI (0)) hx hb dX0_addFirstOf_26 rfl ?_
        refine lv_aload_n hx hb dX0_addFirstOf_27 rfl (lv_at hl 0 rfl) ?_
        refine va_get (D := (dC, dI)) (ci := 0) (v := .ref q1) (C := "RequestCutter$ByteRow") (T := TX0) (N := 3) hx hb hts (fun w h => List.mem_cons_of_mem _ (inX0 w h)) hown hK hP 0 rfl rfl 1 (by decide) (hts _ (List.mem_cons_of_mem _ tw_41)) (fun _ h9 => h9) rfl dX0_addFirstOf_28 ?_
        refine lv_aload_n hx hb dX0_addFirstOf_31 rfl (lv_at hl 0 rfl) ?_
        refine va_get (D := (dC, dI)) (ci := 0) (v := .int (iI ((cnt : Int)))) (C := "RequestCutter$ByteRow") (T := TX0) (N := 3) hx hb hts (fun w h => List.mem_cons_of_mem _ (inX0 w h)) hown hK hP 0 rfl rfl 2 (by decide) (hts _ (List.mem_cons_of_mem _ tw_42)) (fun _ h9 => h9) rfl dX0_addFirstOf_32 ?_
        refine lv_iload_n hx hb dX0_addFirstOf_35 rfl (lv_at hl 2 rfl) ?_
        refine lx_copy (ty := .byte) (sp := 0) (dp := (cnt : Int)) (n := i) hx hb (by rw [hml]; exact hl.1.symm) hown (hts _ (List.mem_cons_of_mem _ tw_144)) (hts _ (List.mem_cons_of_mem _ tw_118)) (hts _ (List.mem_cons_of_mem _ tw_117)) (hts _ (List.mem_cons_of_mem _ tw_25)) hK hP hD hS 3 1 0 0 rfl rfl rfl rfl rfl (0) (cnt) (i.toNat) (by omega) (by omega) (by omega) (by omega) (by omega) (by omega) (fun j _ => hfit2 j) (Nat.le_of_ble_eq_true rfl) (Nat.le_of_ble_eq_true rfl) dX0_addFirstOf_36 (fun H locs hP hD hS => ?_)
        have hP : va_P (dC, dI) vwCl [(h, .inr (0, [.int (iI ((lim : Int))), .ref q1, .int (iI ((cnt : Int)))])), (q1, .inl (cB, len1, .inl (va_cpy (g) (f1) (0) (cnt) (i.toNat)))), (h2, .inr (0, [.int (iI ((lim2 : Int))), .ref q2, .int (iI ((cnt2 : Int)))])), (q2, .inl (cB, len2, .inl (g)))] H := hP
        have hD : va_D A [(h, .inr (0, [.int (iI ((lim : Int))), .ref q1, .int (iI ((cnt : Int)))])), (q1, .inl (cB, len1, .inl (va_cpy (g) (f1) (0) (cnt) (i.toNat)))), (h2, .inr (0, [.int (iI ((lim2 : Int))), .ref q2, .int (iI ((cnt2 : Int)))])), (q2, .inl (cB, len2, .inl (g)))] := hD
        refine lv_aload_n hx hb dX0_addFirstOf_39 rfl (lv_at hl 0 rfl) ?_
        refine lv_dup hx hb dX0_addFirstOf_40 rfl ?_
        refine va_get (D := (dC, dI)) (ci := 0) (v := .int (iI ((cnt : Int)))) (C := "RequestCutter$ByteRow") (T := TX0) (N := 3) hx hb hts (fun w h => List.mem_cons_of_mem _ (inX0 w h)) hown hK hP 0 rfl rfl 2 (by decide) (hts _ (List.mem_cons_of_mem _ tw_42)) (fun _ h9 => h9) rfl dX0_addFirstOf_41 ?_
        refine lv_iload_n hx hb dX0_addFirstOf_44 rfl (lv_at hl 2 rfl) ?_
        refine lx_iadd (a := (cnt : Int)) (b := i) hx hb dX0_addFirstOf_45 ?_
        refine lx_top (x2 := iI ((cnt + i.toNat : Nat) : Int)) (congrArg iI (by omega)) ?_
        refine va_put (D := (dC, dI)) (ci := 0) (v := .int (iI (((cnt + i.toNat : Nat) : Int)))) (ty := .int) (C := "RequestCutter$ByteRow") (T := TX0) (N := 3) hx hb hts (fun w h => List.mem_cons_of_mem _ (inX0 w h)) tyX0 tyX0_ok nmX0 hown hK hP hD hS 0 rfl rfl 2 (by decide) (hts _ (List.mem_cons_of_mem _ tw_42)) (fun _ h9 => h9) rfl (by decide +kernel) rfl rfl (Nat.le_of_ble_eq_true rfl) dX0_addFirstOf_46 (fun H locs hP hD hS => ?_)
        have hP : va_P (dC, dI) vwCl [(h, .inr (0, [.int (iI ((lim : Int))), .ref q1, .int (iI (((cnt + i.toNat : Nat) : Int)))])), (q1, .inl (cB, len1, .inl (va_cpy (g) (f1) (0) (cnt) (i.toNat)))), (h2, .inr (0, [.int (iI ((lim2 : Int))), .ref q2, .int (iI ((cnt2 : Int)))])), (q2, .inl (cB, len2, .inl (g)))] H := hP
        have hD : va_D A [(h, .inr (0, [.int (iI ((lim : Int))), .ref q1, .int (iI (((cnt + i.toNat : Nat) : Int)))])), (q1, .inl (cB, len1, .inl (va_cpy (g) (f1) (0) (cnt) (i.toNat)))), (h2, .inr (0, [.int (iI ((lim2 : Int))), .ref q2, .int (iI ((cnt2 : Int)))])), (q2, .inl (cB, len2, .inl (g)))] := hD
        refine lv_iconst (v := iI (1)) hx hb dX0_addFirstOf_49 rfl ?_
        exact W.zret (v := iI (1)) hx hb hr (by rfl) (fun t ht hW => ⟨⟨iI (1), (q1, len1, cnt + i.toNat, va_cpy g f1 0 cnt i.toNat), rfl, ⟨by rw [if_pos (by omega)], sb_fitC hfit2 hfit1, by show len1 = _; rw [hl1]; by_cases z : (len : Int) < cnt + i; rw [if_pos (by omega), if_pos (by omega)]; rw [if_neg (by omega), if_neg (by omega)], hlim1, fun z => ⟨rfl, by show cnt + i.toNat ≤ len1; have := hok1 (by omega); omega, fun j hj => by show va_cpy g f1 0 cnt i.toNat j = _; rw [pk_cpy_out (by omega)]; exact hk1 j hj, fun j hj => by show va_cpy g f1 0 cnt i.toNat (cnt + j) = _; rw [pk_cpy_in (by omega) (by omega)]; congr 1; omega⟩, fun z => absurd (by omega) z⟩, by rw [ht]; exact hP, va_K.moved hW.alike hK, hD⟩, hS.F ht⟩) hS.2.2 dX0_addFirstOf_50
      · refine lv_iconst (v := iI (0)) hx hb dX0_addFirstOf_20 rfl ?_
        exact W.zret (v := iI (0)) hx hb hr (by rfl) (fun t ht hW => ⟨⟨iI (0), (q1, len1, cnt, f1), rfl, ⟨by rw [if_neg (by omega)], hfit1, by show len1 = _; rw [hl1, if_neg (by omega), if_neg (by omega)], hlim1, fun z => by omega, fun z => ⟨rfl, by show cnt ≤ len1; rw [hl1, if_neg (by omega)]; exact hc, fun j hj => hk1 j hj⟩⟩, by rw [ht]; exact hP, va_K.moved hW.alike hK, hD⟩, hS.F ht⟩) hS.2.2 dX0_addFirstOf_21
end
section
set_option maxHeartbeats 4000000 in
set_option maxRecDepth 100000 in
/-- WordRow.count() -/
theorem c_X1_count (l : Launch) (dC : Nat → ClassId) (dI : Nat → Nat → Nat) (cB cI : ClassId) (h wb s1 s2 cnt : Nat) : Met l yX1_count wX1_count ({ frames := 0, cells := 0, slots := 0, locals := 0 }) (va_Pc [.ref h] (vx_R (dC, dI) vwCl [(cB, .byte), (cI, .int)] [(h, .inr (1, [.ref wb, .ref s1, .ref s2, .int (iI ((cnt : Int)))]))])) (vp_Si (fun r => r = iI (cnt : Int))) 0 0 (fun _ => False) := by
  refine Met.ofW (cc := cX1_count) (maxL := 1) (ret := (some .int)) (by decide) rfl ?_
  intro p e s m args below meth c s₁ B hml hv
  obtain ⟨rfl, hP, hK⟩ := hv
  have hx := B.exec
  have hb := B.bytes
  have hr := B.returns
  have hts := atoms_spec (ws := wX1_count) B.pre
  have hown : s.vm.findClass "RequestCutter$WordRow" = some m.cls := findClass_of_methodNamed B.named
  have hlocks := B.notSynchronized
  have hP : va_P (dC, dI) vwCl [(h, .inr (1, [.ref wb, .ref s1, .ref s2, .int (iI ((cnt : Int)))]))] s.heap := hP
  have hl := lv_entry ([.ref h]) (n := 1) (Nat.le_of_ble_eq_true rfl)
  rw [lg_entry_eq]
  generalize (lg_sl ([.ref h]) ++ List.replicate (1 - (lg_sl ([.ref h])).length) Slot.unset).toArray = ls at hl ⊢
  have hl : lv_has ls 1 [(0, .ref h)] := hl
  refine lv_aload_n hx hb dX1_count_0 rfl (lv_at hl 0 rfl) ?_
  refine va_get (D := (dC, dI)) (ci := 1) (v := .int (iI ((cnt : Int)))) (C := "RequestCutter$WordRow") (T := TX1) (N := 4) hx hb hts (fun w h => List.mem_cons_of_mem _ (inX1 w h)) hown hK hP 0 rfl rfl 3 (by decide) (hts _ (List.mem_cons_of_mem _ tw_64)) (fun _ h9 => h9) rfl dX1_count_1 ?_
  exact W.iret (v := iI ((cnt : Int))) hx hb hr (fun t ht hW => ⟨iI ((cnt : Int)), rfl, rfl, ht⟩) (fun _ h => by cases h) dX1_count_4
set_option maxHeartbeats 4000000 in
set_option maxRecDepth 100000 in
/-- WordRow.clear() -/
theorem c_X1_clear (l : Launch) (dC : Nat → ClassId) (dI : Nat → Nat → Nat) (cB cI : ClassId) (sz : Nat) (h wb s1 s2 cnt wq wlim wc : Nat) : Met l yX1_clear wX1_clear ({ frames := 1, cells := 0, slots := 0, locals := 20 }) (va_Pc [.ref h] (vx_B (dC, dI) vwCl [(cB, .byte), (cI, .int)] [(h, .inr (1, [.ref wb, .ref s1, .ref s2, .int (iI ((cnt : Int)))])), (wb, .inr (0, [.int (iI ((wlim : Int))), .ref wq, .int (iI ((wc : Int)))]))] sz)) (va_Qv (fun (u : Unit) => True) (fun (u : Unit) => vx_E (dC, dI) vwCl [(cB, .byte), (cI, .int)] (va_A [(h, .inr (1, [.ref wb, .ref s1, .ref s2, .int (iI ((cnt : Int)))])), (wb, .inr (0, [.int (iI ((wlim : Int))), .ref wq, .int (iI ((wc : Int)))]))] sz) [(h, .inr (1, [.ref wb, .ref s1, .ref s2, .int (iI (0))])), (wb, .inr (0, [.int (iI ((wlim : Int))), .ref wq, .int (iI (0))]))]) (va_A [(h, .inr (1, [.ref wb, .ref s1, .ref s2, .int (iI ((cnt : Int)))])), (wb, .inr (0, [.int (iI ((wlim : Int))), .ref wq, .int (iI ((wc : Int)))]))] sz)) (0) (0) (va_A [(h, .inr (1, [.ref wb, .ref s1, .ref s2, .int (iI ((cnt : Int)))])), (wb, .inr (0, [.int (iI ((wlim : Int))), .ref wq, .int (iI ((wc : Int)))]))] sz) := by
  refine Met.ofW (cc := cX1_clear) (maxL := 1) (ret := none) (by decide) rfl ?_
  intro p e s m args below meth c s₁ B hml hv
  obtain ⟨rfl, hsz, hP, hK, hD0⟩ := hv
  have hx := B.exec
  have hb := B.bytes
  have hr := B.returns
  have hts := atoms_spec (ws := wX1_clear) B.pre
  have hown : s.vm.findClass "RequestCutter$WordRow" = some m.cls := findClass_of_methodNamed B.named
  have hlocks := B.notSynchronized
  subst hsz
  have hD := hD0.self (sz := s.heap.size)
  generalize hAe : va_A [(h, .inr (1, [.ref wb, .ref s1, .ref s2, .int (iI ((cnt : Int)))])), (wb, .inr (0, [.int (iI ((wlim : Int))), .ref wq, .int (iI ((wc : Int)))]))] s.heap.size = A at hD ⊢
  have hA : ∀ q : Nat, s.heap.size ≤ q → A q := fun q h => by rw [← hAe]; exact Or.inr h
  have hS : va_S A s.heap s.heap [] := va_S.rf
  have hP : va_P (dC, dI) vwCl [(h, .inr (1, [.ref wb, .ref s1, .ref s2, .int (iI ((cnt : Int)))])), (wb, .inr (0, [.int (iI ((wlim : Int))), .ref wq, .int (iI ((wc : Int)))]))] s.heap := hP
  have hl := lv_entry ([.ref h]) (n := 1) (Nat.le_of_ble_eq_true rfl)
  rw [lg_entry_eq]
  generalize (lg_sl ([.ref h]) ++ List.replicate (1 - (lg_sl ([.ref h])).length) Slot.unset).toArray = ls at hl ⊢
  have hl : lv_has ls 1 [(0, .ref h)] := hl
  refine lv_aload_n hx hb dX1_clear_0 rfl (lv_at hl 0 rfl) ?_
  refine lv_iconst (v := iI (0)) hx hb dX1_clear_1 rfl ?_
  refine va_put (D := (dC, dI)) (ci := 1) (v := .int (iI (0))) (ty := .int) (C := "RequestCutter$WordRow") (T := TX1) (N := 4) hx hb hts (fun w h => List.mem_cons_of_mem _ (inX1 w h)) tyX1 tyX1_ok nmX1 hown hK hP hD hS 0 rfl rfl 3 (by decide) (hts _ (List.mem_cons_of_mem _ tw_64)) (fun _ h9 => h9) rfl (by decide +kernel) rfl rfl (Nat.le_of_ble_eq_true rfl) dX1_clear_2 (fun H locs hP hD hS => ?_)
  have hP : va_P (dC, dI) vwCl [(h, .inr (1, [.ref wb, .ref s1, .ref s2, .int (iI (0))])), (wb, .inr (0, [.int (iI ((wlim : Int))), .ref wq, .int (iI ((wc : Int)))]))] H := hP
  have hD : va_D A [(h, .inr (1, [.ref wb, .ref s1, .ref s2, .int (iI (0))])), (wb, .inr (0, [.int (iI ((wlim : Int))), .ref wq, .int (iI ((wc : Int)))]))] := hD
  refine lv_aload_n hx hb dX1_clear_5 rfl (lv_at hl 0 rfl) ?_
  refine va_get (D := (dC, dI)) (ci := 1) (v := .ref wb) (C := "RequestCutter$WordRow") (T := TX1) (N := 4) hx hb hts (fun w h => List.mem_cons_of_mem _ (inX1 w h)) hown hK hP 0 rfl rfl 0 (by decide) (hts _ (List.mem_cons_of_mem _ tw_61)) (fun _ h9 => h9) rfl dX1_clear_6 ?_
  refine vx_Vv (As := []) (rest := []) (wr := [(h, .inr (1, [.ref wb, .ref s1, .ref s2, .int (iI (0))]))]) (ci := 0) (q0 := 0) [1] [0] ⟨hx, hb, hml, hown, hts⟩ (c_X0_clear l dC dI cB cI _ wb wq wlim wc) (cwV 0 hts (gd_V tw_157 tw_146 tw_147 tw_20 tw_148) rfl rfl rfl (by decide +kernel) ⟨Nat.le_of_ble_eq_true rfl, Nat.le_of_ble_eq_true rfl⟩) hK hP hD hS hA rfl rfl rfl rfl (by decide) rfl rfl rfl rfl hl.1 rfl (Nat.le_of_ble_eq_true rfl) dX1_clear_9 ⟨Nat.zero_le _, Nat.zero_le _⟩ (fun u H locs hw hP hD hS => ?_)
  obtain - := u
  try dsimp only at hw hP hD
  obtain - := hw
  have hP : va_P (dC, dI) vwCl [(h, .inr (1, [.ref wb, .ref s1, .ref s2, .int (iI (0))])), (wb, .inr (0, [.int (iI ((wlim : Int))), .ref wq, .int (iI (0))]))] H := hP.sub [0, 1] rfl
  have hD : va_D A [(h, .inr (1, [.ref wb, .ref s1, .ref s2, .int (iI (0))])), (wb, .inr (0, [.int (iI ((wlim : Int))), .ref wq, .int (iI (0))]))] := hD.sub [0, 1] (by decide) rfl
  exact W.vret hx hb hr (fun t ht hW => ⟨⟨(), rfl, trivial, by rw [ht]; exact hP, va_K.moved hW.alike hK, hD⟩, hS.F ht⟩) hS.2.2 dX1_clear_12
set_option maxHeartbeats 4000000 in
set_option maxRecDepth 100000 in
/-- WordRow.add(start, size) -/
theorem c_X1_add (l : Launch) (dC : Nat → ClassId) (dI : Nat → Nat → Nat) (cB cI : ClassId) (sz : Nat) (h wb s1 s2 nl cnt : Nat) (sa za : Nat → Int) (hc : cnt ≤ nl) (hn : 8 ≤ nl ∧ nl ≤ 1024) (x1 x2 : Int) (mc ms : Nat) (hroom : cnt < 1024 ∧ nl ≤ cnt → 2 ≤ mc ∧ 2 * min 1024 (2 * cnt) ≤ ms) : Met l yX1_add wX1_add ({ frames := 2, cells := mc, slots := ms, locals := 70 }) (va_Pc [.ref h, .int (iI (x1)), .int (iI (x2))] (vx_B (dC, dI) vwCl [(cB, .byte), (cI, .int)] [(h, .inr (1, [.ref wb, .ref s1, .ref s2, .int (iI ((cnt : Int)))])), (s1, .inl (cI, nl, .inl (fun k => iI (sa k)))), (s2, .inl (cI, nl, .inl (fun k => iI (za k))))] sz)) (va_Qv (fun (u : Nat × Nat × Nat × Nat × (Nat → Int) × (Nat → Int)) => (8 ≤ u.2.2.1 ∧ u.2.2.1 ≤ 1024) ∧ u.2.2.2.1 ≤ u.2.2.1 ∧ ((¬ (cnt < 1024 ∧ nl ≤ cnt) ∧ u.2.2.1 = nl) ∨ ((cnt < 1024 ∧ nl ≤ cnt) ∧ u.2.2.1 = min 1024 (2 * cnt))) ∧ ((cnt < 1024 ∧ u.2.2.2.1 = cnt + 1) ∨ (¬ cnt < 1024 ∧ u.2.2.2.1 = cnt)) ∧ (∀ j, j < cnt → u.2.2.2.2.1 j = sa j ∧ u.2.2.2.2.2 j = za j) ∧ (cnt < 1024 → u.2.2.2.2.1 cnt = x1 ∧ u.2.2.2.2.2 cnt = x2)) (fun (u : Nat × Nat × Nat × Nat × (Nat → Int) × (Nat → Int)) => vx_E (dC, dI) vwCl [(cB, .byte), (cI, .int)] (va_A [(h, .inr (1, [.ref wb, .ref s1, .ref s2, .int (iI ((cnt : Int)))])), (s1, .inl (cI, nl, .inl (fun k => iI (sa k)))), (s2, .inl (cI, nl, .inl (fun k => iI (za k))))] sz) [(h, .inr (1, [.ref wb, .ref u.1, .ref u.2.1, .int (iI ((u.2.2.2.1 : Int)))])), (u.1, .inl (cI, u.2.2.1, .inl (fun k => iI (u.2.2.2.2.1 k)))), (u.2.1, .inl (cI, u.2.2.1, .inl (fun k => iI (u.2.2.2.2.2 k))))]) (va_A [(h, .inr (1, [.ref wb, .ref s1, .ref s2, .int (iI ((cnt : Int)))])), (s1, .inl (cI, nl, .inl (fun k => iI (sa k)))), (s2, .inl (cI, nl, .inl (fun k => iI (za k))))] sz)) (mc) (ms) (va_A [(h, .inr (1, [.ref wb, .ref s1, .ref s2, .int (iI ((cnt : Int)))])), (s1, .inl (cI, nl, .inl (fun k => iI (sa k)))), (s2, .inl (cI, nl, .inl (fun k => iI (za k))))] sz) := by
  refine Met.ofW (cc := cX1_add) (maxL := 4) (ret := none) (by decide) rfl ?_
  intro p e s m args below meth c s₁ B hml hv
  obtain ⟨rfl, hsz, hP, hK, hD0⟩ := hv
  have hx := B.exec
  have hb := B.bytes
  have hr := B.returns
  have hts := atoms_spec (ws := wX1_add) B.pre
  have hown : s.vm.findClass "RequestCutter$WordRow" = some m.cls := findClass_of_methodNamed B.named
  have hlocks := B.notSynchronized
  subst hsz
  have hD := hD0.self (sz := s.heap.size)
  generalize hAe : va_A [(h, .inr (1, [.ref wb, .ref s1, .ref s2, .int (iI ((cnt : Int)))])), (s1, .inl (cI, nl, .inl (fun k => iI (sa k)))), (s2, .inl (cI, nl, .inl (fun k => iI (za k))))] s.heap.size = A at hD ⊢
  have hA : ∀ q : Nat, s.heap.size ≤ q → A q := fun q h => by rw [← hAe]; exact Or.inr h
  have hS : va_S A s.heap s.heap [] := va_S.rf
  have hP : va_P (dC, dI) vwCl [(h, .inr (1, [.ref wb, .ref s1, .ref s2, .int (iI ((cnt : Int)))])), (s1, .inl (cI, nl, .inl (fun k => iI (sa k)))), (s2, .inl (cI, nl, .inl (fun k => iI (za k))))] s.heap := hP
  have hl := lv_entry ([.ref h, .int (iI (x1)), .int (iI (x2))]) (n := 4) (Nat.le_of_ble_eq_true rfl)
  rw [lg_entry_eq]
  generalize (lg_sl ([.ref h, .int (iI (x1)), .int (iI (x2))]) ++ List.replicate (4 - (lg_sl ([.ref h, .int (iI (x1)), .int (iI (x2))])).length) Slot.unset).toArray = ls at hl ⊢
  have hl : lv_has ls 4 [(0, .ref h), (1, .int (iI (x1))), (2, .int (iI (x2)))] := hl
  refine lv_aload_n hx hb dX1_add_0 rfl (lv_at hl 0 rfl) ?_
  refine va_get (D := (dC, dI)) (ci := 1) (v := .int (iI ((cnt : Int)))) (C := "RequestCutter$WordRow") (T := TX1) (N := 4) hx hb hts (fun w h => List.mem_cons_of_mem _ (inX1 w h)) hown hK hP 0 rfl rfl 3 (by decide) (hts _ (List.mem_cons_of_mem _ tw_64)) (fun _ h9 => h9) rfl dX1_add_1 ?_
  refine lv_sipush (v := iI (1024)) hx hb dX1_add_4 (by decide) ?_
  refine lx_icmp_lt (a := (cnt : Int)) (b := 1024) (tgt := 11) hx hb dX1_add_7 (by decide) (by omega) (by omega) (fun cq1 => ?_) (fun cq1 => ?_)
  · refine lv_aload_n hx hb dX1_add_11 rfl (lv_at hl 0 rfl) ?_
    refine va_get (D := (dC, dI)) (ci := 1) (v := .int (iI ((cnt : Int)))) (C := "RequestCutter$WordRow") (T := TX1) (N := 4) hx hb hts (fun w h => List.mem_cons_of_mem _ (inX1 w h)) hown hK hP 0 rfl rfl 3 (by decide) (hts _ (List.mem_cons_of_mem _ tw_64)) (fun _ h9 => h9) rfl dX1_add_12 ?_
    refine lv_aload_n hx hb dX1_add_15 rfl (lv_at hl 0 rfl) ?_
    refine va_get (D := (dC, dI)) (ci := 1) (v := .ref s1) (C := "RequestCutter$WordRow") (T := TX1) (N := 4) hx hb hts (fun w h => List.mem_cons_of_mem _ (inX1 w h)) hown hK hP 0 rfl rfl 1 (by decide) (hts _ (List.mem_cons_of_mem _ tw_62)) (fun _ h9 => h9) rfl dX1_add_16 ?_
    refine va_alen (v := iI ((nl : Nat) : Int)) hx hb hK hP 1 1 rfl rfl (iI_nat _) dX1_add_19 ?_
    refine lx_icmp_ge (a := (cnt : Int)) (b := ((nl : Nat) : Int)) (tgt := 35) hx hb dX1_add_20 (by decide) (by omega) (by omega) (fun cq2 => ?_) (fun cq2 => ?_)
    · obtain ⟨N, hN⟩ : ∃ N : Nat, N = min 1024 (2 * cnt) := ⟨_, rfl⟩
      have hR := hroom (by omega)
      refine lv_sipush (v := iI (1024)) hx hb dX1_add_35 (by decide) ?_
      refine lv_iconst (v := iI (2)) hx hb dX1_add_38 rfl ?_
      refine lv_aload_n hx hb dX1_add_39 rfl (lv_at hl 0 rfl) ?_
      refine va_get (D := (dC, dI)) (ci := 1) (v := .int (iI ((cnt : Int)))) (C := "RequestCutter$WordRow") (T := TX1) (N := 4) hx hb hts (fun w h => List.mem_cons_of_mem _ (inX1 w h)) hown hK hP 0 rfl rfl 3 (by decide) (hts _ (List.mem_cons_of_mem _ tw_64)) (fun _ h9 => h9) rfl dX1_add_40 ?_
      refine lx_imul (a := 2) (b := (cnt : Int)) hx hb dX1_add_43 ?_
      refine lx_min (a := 1024) (b := 2 * ((cnt : Int))) hx hb (by rw [hml]; exact hl.1.symm) hown (hts _ (List.mem_cons_of_mem _ tw_191)) (hts _ (List.mem_cons_of_mem _ tw_103)) (hts _ (List.mem_cons_of_mem _ tw_23)) (hts _ (List.mem_cons_of_mem _ tw_104)) (Nat.le_of_ble_eq_true rfl) (Nat.le_of_ble_eq_true rfl) (Nat.zero_le _) (Nat.zero_le _) (by omega) (by omega) dX1_add_44 ?_
      refine lv_istore_n (lv' := [(3, .int (iI (min (1024) (2 * ((cnt : Int)))))), (0, .ref h), (1, .int (iI (x1))), (2, .int (iI (x2)))]) hx hb dX1_add_47 rfl hl (by decide) rfl (fun ls hl => ?_)
      refine lv_aload_n hx hb dX1_add_48 rfl (lv_at hl 1 rfl) ?_
      refine lv_aload_n hx hb dX1_add_49 rfl (lv_at hl 1 rfl) ?_
      refine va_get (D := (dC, dI)) (ci := 1) (v := .ref s1) (C := "RequestCutter$WordRow") (T := TX1) (N := 4) hx hb hts (fun w h => List.mem_cons_of_mem _ (inX1 w h)) hown hK hP 0 rfl rfl 1 (by decide) (hts _ (List.mem_cons_of_mem _ tw_62)) (fun _ h9 => h9) rfl dX1_add_50 ?_
      refine lv_iload_n hx hb dX1_add_53 rfl (lv_at hl 0 rfl) ?_
      refine lx_top (x2 := iI (N : Int)) (congrArg iI (by omega)) ?_
      refine vx_Sr (As := [.ref s1, .int (iI ((N : Int)))]) (rest := [.ref h]) (wr := [(h, .inr (1, [.ref wb, .ref s1, .ref s2, .int (iI ((cnt : Int)))])), (s2, .inl (cI, nl, .inl (fun k => iI (za k))))]) [1] [0, 2] ⟨hx, hb, hml, hown, hts⟩ (c_J7_copyI l dC dI cB cI _ s1 nl N (fun k => iI (sa k)) (by omega) (by omega)) (va_cwS 2 hts (gd_S tw_192 tw_193 tw_24 tw_194) rfl rfl rfl (by decide +kernel) ⟨Nat.le_of_ble_eq_true rfl, Nat.le_of_ble_eq_true rfl⟩) hK hP hD hS hA rfl rfl rfl rfl (by decide) rfl hl.1 rfl (Nat.le_of_ble_eq_true rfl) dX1_add_54 ⟨by show 0 + 1 ≤ mc; omega, by show 0 + N ≤ ms; omega⟩ (fun u q3 H locs hw hP hD hS => ?_)
      have hP : va_P (dC, dI) vwCl [(h, .inr (1, [.ref wb, .ref s1, .ref s2, .int (iI ((cnt : Int)))])), (s1, .inl (cI, nl, .inl (fun k => iI (sa k)))), (s2, .inl (cI, nl, .inl (fun k => iI (za k)))), (q3, .inl (cI, N, .inl (va_cpy (fun k => iI (sa k)) (fun _ => 0) 0 0 nl)))] H := hP.sub [0, 2, 1, 3] rfl
      have hD : va_D A [(h, .inr (1, [.ref wb, .ref s1, .ref s2, .int (iI ((cnt : Int)))])), (s1, .inl (cI, nl, .inl (fun k => iI (sa k)))), (s2, .inl (cI, nl, .inl (fun k => iI (za k)))), (q3, .inl (cI, N, .inl (va_cpy (fun k => iI (sa k)) (fun _ => 0) 0 0 nl)))] := hD.sub [0, 2, 1, 3] (by decide) rfl
      refine W.widen (k := 1) (n := N) (by omega) (by omega) ?_
      rw [cp_iI] at hP hD
      refine va_put (D := (dC, dI)) (ci := 1) (v := .ref q3) (ty := .array .int) (C := "RequestCutter$WordRow") (T := TX1) (N := 4) hx hb hts (fun w h => List.mem_cons_of_mem _ (inX1 w h)) tyX1 tyX1_ok nmX1 hown hK hP hD hS 0 rfl rfl 1 (by decide) (hts _ (List.mem_cons_of_mem _ tw_62)) (fun _ h9 => h9) rfl (by decide +kernel) rfl rfl (Nat.le_of_ble_eq_true rfl) dX1_add_57 (fun H locs hP hD hS => ?_)
      have hP : va_P (dC, dI) vwCl [(h, .inr (1, [.ref wb, .ref q3, .ref s2, .int (iI ((cnt : Int)))])), (s1, .inl (cI, nl, .inl (fun k => iI (sa k)))), (s2, .inl (cI, nl, .inl (fun k => iI (za k)))), (q3, .inl (cI, N, .inl (fun k => iI (cpyZ sa nl k))))] H := hP
      have hD : va_D A [(h, .inr (1, [.ref wb, .ref q3, .ref s2, .int (iI ((cnt : Int)))])), (s1, .inl (cI, nl, .inl (fun k => iI (sa k)))), (s2, .inl (cI, nl, .inl (fun k => iI (za k)))), (q3, .inl (cI, N, .inl (fun k => iI (cpyZ sa nl k))))] := hD
      refine lv_aload_n hx hb dX1_add_60 rfl (lv_at hl 1 rfl) ?_
      refine lv_aload_n hx hb dX1_add_61 rfl (lv_at hl 1 rfl) ?_
      refine va_get (D := (dC, dI)) (ci := 1) (v := .ref s2) (C := "RequestCutter$WordRow") (T := TX1) (N := 4) hx hb hts (fun w h => List.mem_cons_of_mem _ (inX1 w h)) hown hK hP 0 rfl rfl 2 (by decide) (hts _ (List.mem_cons_of_mem _ tw_63)) (fun _ h9 => h9) rfl dX1_add_62 ?_
      refine lv_iload_n hx hb dX1_add_65 rfl (lv_at hl 0 rfl) ?_
      refine lx_top (x2 := iI (N : Int)) (congrArg iI (by omega)) ?_
      refine vx_Sr (As := [.ref s2, .int (iI ((N : Int)))]) (rest := [.ref h]) (wr := [(h, .inr (1, [.ref wb, .ref q3, .ref s2, .int (iI ((cnt : Int)))])), (s1, .inl (cI, nl, .inl (fun k => iI (sa k)))), (q3, .inl (cI, N, .inl (fun k => iI (cpyZ sa nl k))))]) [2] [0, 1, 3] ⟨hx, hb, hml, hown, hts⟩ (c_J7_copyI l dC dI cB cI _ s2 nl N (fun k => iI (za k)) (by omega) (by omega)) (va_cwS 2 hts (gd_S tw_192 tw_193 tw_24 tw_194) rfl rfl rfl (by decide +kernel) ⟨Nat.le_of_ble_eq_true rfl, Nat.le_of_ble_eq_true rfl⟩) hK hP hD hS hA rfl rfl rfl rfl (by decide) rfl hl.1 rfl (Nat.le_of_ble_eq_true rfl) dX1_add_66 ⟨by show 1 + 1 ≤ mc; omega, by show N + N ≤ ms; omega⟩ (fun u q4 H locs hw hP hD hS => ?_)
      have hP : va_P (dC, dI) vwCl [(h, .inr (1, [.ref wb, .ref q3, .ref s2, .int (iI ((cnt : Int)))])), (s1, .inl (cI, nl, .inl (fun k => iI (sa k)))), (s2, .inl (cI, nl, .inl (fun k => iI (za k)))), (q3, .inl (cI, N, .inl (fun k => iI (cpyZ sa nl k)))), (q4, .inl (cI, N, .inl (va_cpy (fun k => iI (za k)) (fun _ => 0) 0 0 nl)))] H := hP.sub [0, 1, 3, 2, 4] rfl
      have hD : va_D A [(h, .inr (1, [.ref wb, .ref q3, .ref s2, .int (iI ((cnt : Int)))])), (s1, .inl (cI, nl, .inl (fun k => iI (sa k)))), (s2, .inl (cI, nl, .inl (fun k => iI (za k)))), (q3, .inl (cI, N, .inl (fun k => iI (cpyZ sa nl k)))), (q4, .inl (cI, N, .inl (va_cpy (fun k => iI (za k)) (fun _ => 0) 0 0 nl)))] := hD.sub [0, 1, 3, 2, 4] (by decide) rfl
      rw [cp_iI] at hP hD
      refine va_put (D := (dC, dI)) (ci := 1) (v := .ref q4) (ty := .array .int) (C := "RequestCutter$WordRow") (T := TX1) (N := 4) hx hb hts (fun w h => List.mem_cons_of_mem _ (inX1 w h)) tyX1 tyX1_ok nmX1 hown hK hP hD hS 0 rfl rfl 2 (by decide) (hts _ (List.mem_cons_of_mem _ tw_63)) (fun _ h9 => h9) rfl (by decide +kernel) rfl rfl (Nat.le_of_ble_eq_true rfl) dX1_add_69 (fun H locs hP hD hS => ?_)
      have hP : va_P (dC, dI) vwCl [(h, .inr (1, [.ref wb, .ref q3, .ref q4, .int (iI ((cnt : Int)))])), (s1, .inl (cI, nl, .inl (fun k => iI (sa k)))), (s2, .inl (cI, nl, .inl (fun k => iI (za k)))), (q3, .inl (cI, N, .inl (fun k => iI (cpyZ sa nl k)))), (q4, .inl (cI, N, .inl (fun k => iI (cpyZ za nl k))))] H := hP
      have hD : va_D A [(h, .inr (1, [.ref wb, .ref q3, .ref q4, .int (iI ((cnt : Int)))])), (s1, .inl (cI, nl, .inl (fun k => iI (sa k)))), (s2, .inl (cI, nl, .inl (fun k => iI (za k)))), (q3, .inl (cI, N, .inl (fun k => iI (cpyZ sa nl k)))), (q4, .inl (cI, N, .inl (fun k => iI (cpyZ za nl k))))] := hD
      refine W.widen (k := mc) (n := ms) (by omega) (by omega) ?_
      refine lv_aload_n hx hb dX1_add_72 rfl (lv_at hl 1 rfl) ?_
      refine va_get (D := (dC, dI)) (ci := 1) (v := .ref q3) (C := "RequestCutter$WordRow") (T := TX1) (N := 4) hx hb hts (fun w h => List.mem_cons_of_mem _ (inX1 w h)) hown hK hP 0 rfl rfl 1 (by decide) (hts _ (List.mem_cons_of_mem _ tw_62)) (fun _ h9 => h9) rfl dX1_add_73 ?_
      refine lv_aload_n hx hb dX1_add_76 rfl (lv_at hl 1 rfl) ?_
      refine va_get (D := (dC, dI)) (ci := 1) (v := .int (iI ((cnt : Int)))) (C := "RequestCutter$WordRow") (T := TX1) (N := 4) hx hb hts (fun w h => List.mem_cons_of_mem _ (inX1 w h)) hown hK hP 0 rfl rfl 3 (by decide) (hts _ (List.mem_cons_of_mem _ tw_64)) (fun _ h9 => h9) rfl dX1_add_77 ?_
      refine lv_iload_n hx hb dX1_add_80 rfl (lv_at hl 2 rfl) ?_
      refine lx_iast (x := iI (x1)) (i := (cnt : Int)) hx hb hK hP hD hS 3 1 rfl rfl (cnt) (by omega) (by omega) dX1_add_81 (fun H locs hP hD hS => ?_)
      have hP : va_P (dC, dI) vwCl [(h, .inr (1, [.ref wb, .ref q3, .ref q4, .int (iI ((cnt : Int)))])), (s1, .inl (cI, nl, .inl (fun k => iI (sa k)))), (s2, .inl (cI, nl, .inl (fun k => iI (za k)))), (q3, .inl (cI, N, .inl (upd (fun k => iI (cpyZ sa nl k)) (cnt) (iI (x1))))), (q4, .inl (cI, N, .inl (fun k => iI (cpyZ za nl k))))] H := hP
      have hD : va_D A [(h, .inr (1, [.ref wb, .ref q3, .ref q4, .int (iI ((cnt : Int)))])), (s1, .inl (cI, nl, .inl (fun k => iI (sa k)))), (s2, .inl (cI, nl, .inl (fun k => iI (za k)))), (q3, .inl (cI, N, .inl (upd (fun k => iI (cpyZ sa nl k)) (cnt) (iI (x1))))), (q4, .inl (cI, N, .inl (fun k => iI (cpyZ za nl k))))] := hD
      rw [up_iI] at hP hD
      refine lv_aload_n hx hb dX1_add_82 rfl (lv_at hl 1 rfl) ?_
      refine va_get (D := (dC, dI)) (ci := 1) (v := .ref q4) (C := "RequestCutter$WordRow") (T := TX1) (N := 4) hx hb hts (fun w h => List.mem_cons_of_mem _ (inX1 w h)) hown hK hP 0 rfl rfl 2 (by decide) (hts _ (List.mem_cons_of_mem _ tw_63)) (fun _ h9 => h9) rfl dX1_add_83 ?_
      refine lv_aload_n hx hb dX1_add_86 rfl (lv_at hl 1 rfl) ?_
      refine va_get (D := (dC, dI)) (ci := 1) (v := .int (iI ((cnt : Int)))) (C := "RequestCutter$WordRow") (T := TX1) (N := 4) hx hb hts (fun w h => List.mem_cons_of_mem _ (inX1 w h)) hown hK hP 0 rfl rfl 3 (by decide) (hts _ (List.mem_cons_of_mem _ tw_64)) (fun _ h9 => h9) rfl dX1_add_87 ?_
      refine lv_iload_n hx hb dX1_add_90 rfl (lv_at hl 3 rfl) ?_
      refine lx_iast (x := iI (x2)) (i := (cnt : Int)) hx hb hK hP hD hS 4 1 rfl rfl (cnt) (by omega) (by omega) dX1_add_91 (fun H locs hP hD hS => ?_)
      have hP : va_P (dC, dI) vwCl [(h, .inr (1, [.ref wb, .ref q3, .ref q4, .int (iI ((cnt : Int)))])), (s1, .inl (cI, nl, .inl (fun k => iI (sa k)))), (s2, .inl (cI, nl, .inl (fun k => iI (za k)))), (q3, .inl (cI, N, .inl (fun k => iI (updZ (cpyZ sa nl) (cnt) (x1) k)))), (q4, .inl (cI, N, .inl (upd (fun k => iI (cpyZ za nl k)) (cnt) (iI (x2)))))] H := hP
      have hD : va_D A [(h, .inr (1, [.ref wb, .ref q3, .ref q4, .int (iI ((cnt : Int)))])), (s1, .inl (cI, nl, .inl (fun k => iI (sa k)))), (s2, .inl (cI, nl, .inl (fun k => iI (za k)))), (q3, .inl (cI, N, .inl (fun k => iI (updZ (cpyZ sa nl) (cnt) (x1) k)))), (q4, .inl (cI, N, .inl (upd (fun k => iI (cpyZ za nl k)) (cnt) (iI (x2)))))] := hD
      rw [up_iI] at hP hD
      refine lv_aload_n hx hb dX1_add_92 rfl (lv_at hl 1 rfl) ?_
      refine lv_dup hx hb dX1_add_93 rfl ?_
      refine va_get (D := (dC, dI)) (ci := 1) (v := .int (iI ((cnt : Int)))) (C := "RequestCutter$WordRow") (T := TX1) (N := 4) hx hb hts (fun w h => List.mem_cons_of_mem _ (inX1 w h)) hown hK hP 0 rfl rfl 3 (by decide) (hts _ (List.mem_cons_of_mem _ tw_64)) (fun _ h9 => h9) rfl dX1_add_94 ?_
      refine lv_iconst (v := iI (1)) hx hb dX1_add_97 rfl ?_
      refine lx_iadd (a := (cnt : Int)) (b := 1) hx hb dX1_add_98 ?_
      refine lx_top (x2 := iI ((cnt + 1 : Nat) : Int)) (congrArg iI (by omega)) ?_
      refine va_put (D := (dC, dI)) (ci := 1) (v := .int (iI (((cnt + 1 : Nat) : Int)))) (ty := .int) (C := "RequestCutter$WordRow") (T := TX1) (N := 4) hx hb hts (fun w h => List.mem_cons_of_mem _ (inX1 w h)) tyX1 tyX1_ok nmX1 hown hK hP hD hS 0 rfl rfl 3 (by decide) (hts _ (List.mem_cons_of_mem _ tw_64)) (fun _ h9 => h9) rfl (by decide +kernel) rfl rfl (Nat.le_of_ble_eq_true rfl) dX1_add_99 (fun H locs hP hD hS => ?_)
      have hP : va_P (dC, dI) vwCl [(h, .inr (1, [.ref wb, .ref q3, .ref q4, .int (iI (((cnt + 1 : Nat) : Int)))])), (s1, .inl (cI, nl, .inl (fun k => iI (sa k)))), (s2, .inl (cI, nl, .inl (fun k => iI (za k)))), (q3, .inl (cI, N, .inl (fun k => iI (updZ (cpyZ sa nl) (cnt) (x1) k)))), (q4, .inl (cI, N, .inl (fun k => iI (updZ (cpyZ za nl) (cnt) (x2) k))))] H := hP
      have hD : va_D A [(h, .inr (1, [.ref wb, .ref q3, .ref q4, .int (iI (((cnt + 1 : Nat) : Int)))])), (s1, .inl (cI, nl, .inl (fun k => iI (sa k)))), (s2, .inl (cI, nl, .inl (fun k => iI (za k)))), (q3, .inl (cI, N, .inl (fun k => iI (updZ (cpyZ sa nl) (cnt) (x1) k)))), (q4, .inl (cI, N, .inl (fun k => iI (updZ (cpyZ za nl) (cnt) (x2) k))))] := hD
      exact W.vret hx hb hr (fun t ht hW => ⟨⟨(q3, q4, N, cnt + 1, updZ (cpyZ sa nl) cnt x1, updZ (cpyZ za nl) cnt x2), rfl, ⟨by show 8 ≤ N ∧ N ≤ 1024; omega, by show cnt + 1 ≤ N; omega, Or.inr ⟨by omega, hN⟩, Or.inl ⟨by omega, rfl⟩, fun j hj => ⟨(updZ_n _ _ (by omega)).trans (cpyZ_lt _ (by omega)), (updZ_n _ _ (by omega)).trans (cpyZ_lt _ (by omega))⟩, fun _ => ⟨updZ_s _ _ _, updZ_s _ _ _⟩⟩, by rw [ht]; exact (hP.sub [0, 3, 4] rfl), va_K.moved hW.alike hK, hD.sub [0, 3, 4] (by decide) rfl⟩, hS.F ht⟩) hS.2.2 dX1_add_102
    · refine lv_aload_n hx hb dX1_add_23 rfl (lv_at hl 0 rfl) ?_
      refine va_get (D := (dC, dI)) (ci := 1) (v := .int (iI ((cnt : Int)))) (C := "RequestCutter$WordRow") (T := TX1) (N := 4) hx hb hts (fun w h => List.mem_cons_of_mem _ (inX1 w h)) hown hK hP 0 rfl rfl 3 (by decide) (hts _ (List.mem_cons_of_mem _ tw_64)) (fun _ h9 => h9) rfl dX1_add_24 ?_
      refine lv_aload_n hx hb dX1_add_27 rfl (lv_at hl 0 rfl) ?_
      refine va_get (D := (dC, dI)) (ci := 1) (v := .ref s2) (C := "RequestCutter$WordRow") (T := TX1) (N := 4) hx hb hts (fun w h => List.mem_cons_of_mem _ (inX1 w h)) hown hK hP 0 rfl rfl 2 (by decide) (hts _ (List.mem_cons_of_mem _ tw_63)) (fun _ h9 => h9) rfl dX1_add_28 ?_
      refine va_alen (v := iI ((nl : Nat) : Int)) hx hb hK hP 2 1 rfl rfl (iI_nat _) dX1_add_31 ?_
      refine lx_icmp_lt (a := (cnt : Int)) (b := ((nl : Nat) : Int)) (tgt := 72) hx hb dX1_add_32 (by decide) (by omega) (by omega) (fun cq5 => ?_) (fun cq5 => ?_)
      · refine W.widen (k := mc) (n := ms) (by omega) (by omega) ?_
        refine lv_aload_n hx hb dX1_add_72 rfl (lv_at hl 0 rfl) ?_
        refine va_get (D := (dC, dI)) (ci := 1) (v := .ref s1) (C := "RequestCutter$WordRow") (T := TX1) (N := 4) hx hb hts (fun w h => List.mem_cons_of_mem _ (inX1 w h)) hown hK hP 0 rfl rfl 1 (by decide) (hts _ (List.mem_cons_of_mem _ tw_62)) (fun _ h9 => h9) rfl dX1_add_73 ?_
        refine lv_aload_n hx hb dX1_add_76 rfl (lv_at hl 0 rfl) ?_
        refine va_get (D := (dC, dI)) (ci := 1) (v := .int (iI ((cnt : Int)))) (C := "RequestCutter$WordRow") (T := TX1) (N := 4) hx hb hts (fun w h => List.mem_cons_of_mem _ (inX1 w h)) hown hK hP 0 rfl rfl 3 (by decide) (hts _ (List.mem_cons_of_mem _ tw_64)) (fun _ h9 => h9) rfl dX1_add_77 ?_
        refine lv_iload_n hx hb dX1_add_80 rfl (lv_at hl 1 rfl) ?_
        refine lx_iast (x := iI (x1)) (i := (cnt : Int)) hx hb hK hP hD hS 1 1 rfl rfl (cnt) (by omega) (by omega) dX1_add_81 (fun H locs hP hD hS => ?_)
        have hP : va_P (dC, dI) vwCl [(h, .inr (1, [.ref wb, .ref s1, .ref s2, .int (iI ((cnt : Int)))])), (s1, .inl (cI, nl, .inl (upd (fun k => iI (sa k)) (cnt) (iI (x1))))), (s2, .inl (cI, nl, .inl (fun k => iI (za k))))] H := hP
        have hD : va_D A [(h, .inr (1, [.ref wb, .ref s1, .ref s2, .int (iI ((cnt : Int)))])), (s1, .inl (cI, nl, .inl (upd (fun k => iI (sa k)) (cnt) (iI (x1))))), (s2, .inl (cI, nl, .inl (fun k => iI (za k))))] := hD
        rw [up_iI] at hP hD
        refine lv_aload_n hx hb dX1_add_82 rfl (lv_at hl 0 rfl) ?_
        refine va_get (D := (dC, dI)) (ci := 1) (v := .ref s2) (C := "RequestCutter$WordRow") (T := TX1) (N := 4) hx hb hts (fun w h => List.mem_cons_of_mem _ (inX1 w h)) hown hK hP 0 rfl rfl 2 (by decide) (hts _ (List.mem_cons_of_mem _ tw_63)) (fun _ h9 => h9) rfl dX1_add_83 ?_
        refine lv_aload_n hx hb dX1_add_86 rfl (lv_at hl 0 rfl) ?_
        refine va_get (D := (dC, dI)) (ci := 1) (v := .int (iI ((cnt : Int)))) (C := "RequestCutter$WordRow") (T := TX1) (N := 4) hx hb hts (fun w h => List.mem_cons_of_mem _ (inX1 w h)) hown hK hP 0 rfl rfl 3 (by decide) (hts _ (List.mem_cons_of_mem _ tw_64)) (fun _ h9 => h9) rfl dX1_add_87 ?_
        refine lv_iload_n hx hb dX1_add_90 rfl (lv_at hl 2 rfl) ?_
        refine lx_iast (x := iI (x2)) (i := (cnt : Int)) hx hb hK hP hD hS 2 1 rfl rfl (cnt) (by omega) (by omega) dX1_add_91 (fun H locs hP hD hS => ?_)
        have hP : va_P (dC, dI) vwCl [(h, .inr (1, [.ref wb, .ref s1, .ref s2, .int (iI ((cnt : Int)))])), (s1, .inl (cI, nl, .inl (fun k => iI (updZ (sa) (cnt) (x1) k)))), (s2, .inl (cI, nl, .inl (upd (fun k => iI (za k)) (cnt) (iI (x2)))))] H := hP
        have hD : va_D A [(h, .inr (1, [.ref wb, .ref s1, .ref s2, .int (iI ((cnt : Int)))])), (s1, .inl (cI, nl, .inl (fun k => iI (updZ (sa) (cnt) (x1) k)))), (s2, .inl (cI, nl, .inl (upd (fun k => iI (za k)) (cnt) (iI (x2)))))] := hD
        rw [up_iI] at hP hD
        refine lv_aload_n hx hb dX1_add_92 rfl (lv_at hl 0 rfl) ?_
        refine lv_dup hx hb dX1_add_93 rfl ?_
        refine va_get (D := (dC, dI)) (ci := 1) (v := .int (iI ((cnt : Int)))) (C := "RequestCutter$WordRow") (T := TX1) (N := 4) hx hb hts (fun w h => List.mem_cons_of_mem _ (inX1 w h)) hown hK hP 0 rfl rfl 3 (by decide) (hts _ (List.mem_cons_of_mem _ tw_64)) (fun _ h9 => h9) rfl dX1_add_94 ?_
        refine lv_iconst (v := iI (1)) hx hb dX1_add_97 rfl ?_
        refine lx_iadd (a := (cnt : Int)) (b := 1) hx hb dX1_add_98 ?_
        refine lx_top (x2 := iI ((cnt + 1 : Nat) : Int)) (congrArg iI (by omega)) ?_
        refine va_put (D := (dC, dI)) (ci := 1) (v := .int (iI (((cnt + 1 : Nat) : Int)))) (ty := .int) (C := "RequestCutter$WordRow") (T := TX1) (N := 4) hx hb hts (fun w h => List.mem_cons_of_mem _ (inX1 w h)) tyX1 tyX1_ok nmX1 hown hK hP hD hS 0 rfl rfl 3 (by decide) (hts _ (List.mem_cons_of_mem _ tw_64)) (fun _ h9 => h9) rfl (by decide +kernel) rfl rfl (Nat.le_of_ble_eq_true rfl) dX1_add_99 (fun H locs hP hD hS => ?_)
        have hP : va_P (dC, dI) vwCl [(h, .inr (1, [.ref wb, .ref s1, .ref s2, .int (iI (((cnt + 1 : Nat) : Int)))])), (s1, .inl (cI, nl, .inl (fun k => iI (updZ (sa) (cnt) (x1) k)))), (s2, .inl (cI, nl, .inl (fun k => iI (updZ (za) (cnt) (x2) k))))] H := hP
        have hD : va_D A [(h, .inr (1, [.ref wb, .ref s1, .ref s2, .int (iI (((cnt + 1 : Nat) : Int)))])), (s1, .inl (cI, nl, .inl (fun k => iI (updZ (sa) (cnt) (x1) k)))), (s2, .inl (cI, nl, .inl (fun k => iI (updZ (za) (cnt) (x2) k))))] := hD
        exact W.vret hx hb hr (fun t ht hW => ⟨⟨(s1, s2, nl, cnt + 1, updZ sa cnt x1, updZ za cnt x2), rfl, ⟨hn, by show cnt + 1 ≤ nl; omega, Or.inl ⟨by omega, rfl⟩, Or.inl ⟨by omega, rfl⟩, fun j hj => ⟨updZ_n _ _ (by omega), updZ_n _ _ (by omega)⟩, fun _ => ⟨updZ_s _ _ _, updZ_s _ _ _⟩⟩, by rw [ht]; exact hP, va_K.moved hW.alike hK, hD⟩, hS.F ht⟩) hS.2.2 dX1_add_102
      · exact absurd cq5 (by omega)
  · refine W.widen (k := mc) (n := ms) (Nat.zero_le _) (Nat.zero_le _) ?_
    exact W.vret hx hb hr (fun t ht hW => ⟨⟨(s1, s2, nl, cnt, sa, za), rfl, ⟨hn, hc, Or.inl ⟨by omega, rfl⟩, Or.inr ⟨by omega, rfl⟩, fun _ _ => ⟨rfl, rfl⟩, fun z => by omega⟩, by rw [ht]; exact hP, va_K.moved hW.alike hK, hD⟩, hS.F ht⟩) hS.2.2 dX1_add_10
set_option maxHeartbeats 4000000 in
set_option maxRecDepth 100000 in
/-- WordRow.sizeOf(w) -/
theorem c_X1_sizeOf (l : Launch) (dC : Nat → ClassId) (dI : Nat → Nat → Nat) (cB cI : ClassId) (h wb s1 s2 nl cnt : Nat) (za : Nat → Int) (hc : cnt ≤ nl) (hn : nl ≤ 1024) (i : Int) (hi : -2147483648 ≤ i ∧ i ≤ 2147483647) : Met l yX1_sizeOf wX1_sizeOf ({ frames := 0, cells := 0, slots := 0, locals := 0 }) (va_Pc [.ref h, .int (iI (i))] (vx_R (dC, dI) vwCl [(cB, .byte), (cI, .int)] [(h, .inr (1, [.ref wb, .ref s1, .ref s2, .int (iI ((cnt : Int)))])), (s2, .inl (cI, nl, .inl (fun k => iI (za k))))])) (vp_Si (fun r => r = iI (if 0 ≤ i ∧ i < cnt then za i.toNat else -1))) 0 0 (fun _ => False) := by
  refine Met.ofW (cc := cX1_sizeOf) (maxL := 2) (ret := (some .int)) (by decide) rfl ?_
  intro p e s m args below meth c s₁ B hml hv
  obtain ⟨rfl, hP, hK⟩ := hv
  have hx := B.exec
  have hb := B.bytes
  have hr := B.returns
  have hts := atoms_spec (ws := wX1_sizeOf) B.pre
  have hown : s.vm.findClass "RequestCutter$WordRow" = some m.cls := findClass_of_methodNamed B.named
  have hlocks := B.notSynchronized
  have hP : va_P (dC, dI) vwCl [(h, .inr (1, [.ref wb, .ref s1, .ref s2, .int (iI ((cnt : Int)))])), (s2, .inl (cI, nl, .inl (fun k => iI (za k))))] s.heap := hP
  have hl := lv_entry ([.ref h, .int (iI (i))]) (n := 2) (Nat.le_of_ble_eq_true rfl)
  rw [lg_entry_eq]
  generalize (lg_sl ([.ref h, .int (iI (i))]) ++ List.replicate (2 - (lg_sl ([.ref h, .int (iI (i))])).length) Slot.unset).toArray = ls at hl ⊢
  have hl : lv_has ls 2 [(0, .ref h), (1, .int (iI (i)))] := hl
  refine lv_iload_n hx hb dX1_sizeOf_0 rfl (lv_at hl 1 rfl) ?_
  refine lx_if_lt (a := i) (tgt := 21) hx hb dX1_sizeOf_1 (by decide) (by omega) (fun cq1 => ?_) (fun cq1 => ?_)
  · refine lv_iconst (v := iI (-1)) hx hb dX1_sizeOf_21 rfl ?_
    exact W.iret (v := iI (-1)) hx hb hr (fun t ht hW => ⟨iI (-1), rfl, by rw [if_neg (by omega)], ht⟩) (fun _ h => by cases h) dX1_sizeOf_22
  · refine lv_iload_n hx hb dX1_sizeOf_4 rfl (lv_at hl 1 rfl) ?_
    refine lv_aload_n hx hb dX1_sizeOf_5 rfl (lv_at hl 0 rfl) ?_
    refine va_get (D := (dC, dI)) (ci := 1) (v := .int (iI ((cnt : Int)))) (C := "RequestCutter$WordRow") (T := TX1) (N := 4) hx hb hts (fun w h => List.mem_cons_of_mem _ (inX1 w h)) hown hK hP 0 rfl rfl 3 (by decide) (hts _ (List.mem_cons_of_mem _ tw_64)) (fun _ h9 => h9) rfl dX1_sizeOf_6 ?_
    refine lx_icmp_ge (a := i) (b := (cnt : Int)) (tgt := 21) hx hb dX1_sizeOf_9 (by decide) (by omega) (by omega) (fun cq2 => ?_) (fun cq2 => ?_)
    · refine lv_iconst (v := iI (-1)) hx hb dX1_sizeOf_21 rfl ?_
      exact W.iret (v := iI (-1)) hx hb hr (fun t ht hW => ⟨iI (-1), rfl, by rw [if_neg (by omega)], ht⟩) (fun _ h => by cases h) dX1_sizeOf_22
    · refine lv_aload_n hx hb dX1_sizeOf_12 rfl (lv_at hl 0 rfl) ?_
      refine va_get (D := (dC, dI)) (ci := 1) (v := .ref s2) (C := "RequestCutter$WordRow") (T := TX1) (N := 4) hx hb hts (fun w h => List.mem_cons_of_mem _ (inX1 w h)) hown hK hP 0 rfl rfl 2 (by decide) (hts _ (List.mem_cons_of_mem _ tw_63)) (fun _ h9 => h9) rfl dX1_sizeOf_13 ?_
      refine lv_iload_n hx hb dX1_sizeOf_16 rfl (lv_at hl 1 rfl) ?_
      refine va_iald hx hb hK hP 1 1 rfl rfl (iI_in (by omega)) dX1_sizeOf_17 ?_
      refine lx_top (x2 := iI (za ((i).toNat))) (congrArg (fun k => iI (za k)) (iI_cl (a := i) (by omega))) ?_
      refine lv_goto (tgt := 22) hx hb dX1_sizeOf_18 (by decide) ?_
      exact W.iret (v := iI (za ((i).toNat))) hx hb hr (fun t ht hW => ⟨iI (za ((i).toNat)), rfl, by rw [if_pos (by omega)], ht⟩) (fun _ h => by cases h) dX1_sizeOf_22
set_option maxHeartbeats 4000000 in
set_option maxRecDepth 100000 in
/-- WordRow.byteAt(w, i) -/
theorem c_X1_byteAt (l : Launch) (dC : Nat → ClassId) (dI : Nat → Nat → Nat) (cB cI : ClassId) (h wb s1 s2 nl cnt : Nat) (sa za : Nat → Int) (hc : cnt ≤ nl) (hn : nl ≤ 1024) (hz : ∀ j, j < cnt → (0 ≤ sa j ∧ sa j ≤ 65536) ∧ 0 ≤ za j ∧ za j ≤ 65536) (wq wlim wl wc : Nat) (wf : Nat → Int32) (hwc : wc ≤ wl) (hwl : wl ≤ 65536) (i k : Int) (hi : -2147483648 ≤ i ∧ i ≤ 2147483647) (hk : -2147483648 ≤ k ∧ k ≤ 2147483647) : Met l yX1_byteAt wX1_byteAt ({ frames := 1, cells := 0, slots := 0, locals := 21 }) (va_Pc [.ref h, .int (iI (i)), .int (iI (k))] (vx_R (dC, dI) vwCl [(cB, .byte), (cI, .int)] [(h, .inr (1, [.ref wb, .ref s1, .ref s2, .int (iI ((cnt : Int)))])), (s1, .inl (cI, nl, .inl (fun k => iI (sa k)))), (s2, .inl (cI, nl, .inl (fun k => iI (za k)))), (wb, .inr (0, [.int (iI ((wlim : Int))), .ref wq, .int (iI ((wc : Int)))])), (wq, .inl (cB, wl, .inl (wf)))])) (vp_Si (fun r => r = iI (if (0 ≤ i ∧ i < cnt) ∧ 0 ≤ k ∧ k < za i.toNat then bA wf wc (sa i.toNat + k) else -1))) 0 0 (fun _ => False) := by
  refine Met.ofW (cc := cX1_byteAt) (maxL := 3) (ret := (some .int)) (by decide) rfl ?_
  intro p e s m args below meth c s₁ B hml hv
  obtain ⟨rfl, hP, hK⟩ := hv
  have hx := B.exec
  have hb := B.bytes
  have hr := B.returns
  have hts := atoms_spec (ws := wX1_byteAt) B.pre
  have hown : s.vm.findClass "RequestCutter$WordRow" = some m.cls := findClass_of_methodNamed B.named
  have hlocks := B.notSynchronized
  have hP : va_P (dC, dI) vwCl [(h, .inr (1, [.ref wb, .ref s1, .ref s2, .int (iI ((cnt : Int)))])), (s1, .inl (cI, nl, .inl (fun k => iI (sa k)))), (s2, .inl (cI, nl, .inl (fun k => iI (za k)))), (wb, .inr (0, [.int (iI ((wlim : Int))), .ref wq, .int (iI ((wc : Int)))])), (wq, .inl (cB, wl, .inl (wf)))] s.heap := hP
  have hl := lv_entry ([.ref h, .int (iI (i)), .int (iI (k))]) (n := 3) (Nat.le_of_ble_eq_true rfl)
  rw [lg_entry_eq]
  generalize (lg_sl ([.ref h, .int (iI (i)), .int (iI (k))]) ++ List.replicate (3 - (lg_sl ([.ref h, .int (iI (i)), .int (iI (k))])).length) Slot.unset).toArray = ls at hl ⊢
  have hl : lv_has ls 3 [(0, .ref h), (1, .int (iI (i))), (2, .int (iI (k)))] := hl
  refine lv_iload_n hx hb dX1_byteAt_0 rfl (lv_at hl 1 rfl) ?_
  refine lx_if_lt (a := i) (tgt := 26) hx hb dX1_byteAt_1 (by decide) (by omega) (fun cq1 => ?_) (fun cq1 => ?_)
  · refine lv_iconst (v := iI (-1)) hx hb dX1_byteAt_26 rfl ?_
    exact W.iret (v := iI (-1)) hx hb hr (fun t ht hW => ⟨iI (-1), rfl, by rw [if_neg (by omega)], ht⟩) (fun _ h => by cases h) dX1_byteAt_27
  · refine lv_iload_n hx hb dX1_byteAt_4 rfl (lv_at hl 1 rfl) ?_
    refine lv_aload_n hx hb dX1_byteAt_5 rfl (lv_at hl 0 rfl) ?_
    refine va_get (D := (dC, dI)) (ci := 1) (v := .int (iI ((cnt : Int)))) (C := "RequestCutter$WordRow") (T := TX1) (N := 4) hx hb hts (fun w h => List.mem_cons_of_mem _ (inX1 w h)) hown hK hP 0 rfl rfl 3 (by decide) (hts _ (List.mem_cons_of_mem _ tw_64)) (fun _ h9 => h9) rfl dX1_byteAt_6 ?_
    refine lx_icmp_ge (a := i) (b := (cnt : Int)) (tgt := 26) hx hb dX1_byteAt_9 (by decide) (by omega) (by omega) (fun cq2 => ?_) (fun cq2 => ?_)
    · refine lv_iconst (v := iI (-1)) hx hb dX1_byteAt_26 rfl ?_
      exact W.iret (v := iI (-1)) hx hb hr (fun t ht hW => ⟨iI (-1), rfl, by rw [if_neg (by omega)], ht⟩) (fun _ h => by cases h) dX1_byteAt_27
    · refine lv_iload_n hx hb dX1_byteAt_12 rfl (lv_at hl 2 rfl) ?_
      refine lx_if_lt (a := k) (tgt := 26) hx hb dX1_byteAt_13 (by decide) (by omega) (fun cq3 => ?_) (fun cq3 => ?_)
      · refine lv_iconst (v := iI (-1)) hx hb dX1_byteAt_26 rfl ?_
        exact W.iret (v := iI (-1)) hx hb hr (fun t ht hW => ⟨iI (-1), rfl, by rw [if_neg (by omega)], ht⟩) (fun _ h => by cases h) dX1_byteAt_27
      · refine lv_iload_n hx hb dX1_byteAt_16 rfl (lv_at hl 2 rfl) ?_
        refine lv_aload_n hx hb dX1_byteAt_17 rfl (lv_at hl 0 rfl) ?_
        refine va_get (D := (dC, dI)) (ci := 1) (v := .ref s2) (C := "RequestCutter$WordRow") (T := TX1) (N := 4) hx hb hts (fun w h => List.mem_cons_of_mem _ (inX1 w h)) hown hK hP 0 rfl rfl 2 (by decide) (hts _ (List.mem_cons_of_mem _ tw_63)) (fun _ h9 => h9) rfl dX1_byteAt_18 ?_
        refine lv_iload_n hx hb dX1_byteAt_21 rfl (lv_at hl 1 rfl) ?_
        refine va_iald hx hb hK hP 2 1 rfl rfl (iI_in (by omega)) dX1_byteAt_22 ?_
        refine lx_top (x2 := iI (za ((i).toNat))) (congrArg (fun k => iI (za k)) (iI_cl (a := i) (by omega))) ?_
        have hz1 := hz i.toNat (by omega)
        refine lx_icmp_lt (a := k) (b := za ((i).toNat)) (tgt := 28) hx hb dX1_byteAt_23 (by decide) (by omega) (by omega) (fun cq4 => ?_) (fun cq4 => ?_)
        · refine lv_aload_n hx hb dX1_byteAt_28 rfl (lv_at hl 0 rfl) ?_
          refine va_get (D := (dC, dI)) (ci := 1) (v := .ref wb) (C := "RequestCutter$WordRow") (T := TX1) (N := 4) hx hb hts (fun w h => List.mem_cons_of_mem _ (inX1 w h)) hown hK hP 0 rfl rfl 0 (by decide) (hts _ (List.mem_cons_of_mem _ tw_61)) (fun _ h9 => h9) rfl dX1_byteAt_29 ?_
          refine lv_aload_n hx hb dX1_byteAt_32 rfl (lv_at hl 0 rfl) ?_
          refine va_get (D := (dC, dI)) (ci := 1) (v := .ref s1) (C := "RequestCutter$WordRow") (T := TX1) (N := 4) hx hb hts (fun w h => List.mem_cons_of_mem _ (inX1 w h)) hown hK hP 0 rfl rfl 1 (by decide) (hts _ (List.mem_cons_of_mem _ tw_62)) (fun _ h9 => h9) rfl dX1_byteAt_33 ?_
          refine lv_iload_n hx hb dX1_byteAt_36 rfl (lv_at hl 1 rfl) ?_
          refine va_iald hx hb hK hP 1 1 rfl rfl (iI_in (by omega)) dX1_byteAt_37 ?_
          refine lx_top (x2 := iI (sa ((i).toNat))) (congrArg (fun k => iI (sa k)) (iI_cl (a := i) (by omega))) ?_
          refine lv_iload_n hx hb dX1_byteAt_38 rfl (lv_at hl 2 rfl) ?_
          refine lx_iadd (a := sa ((i).toNat)) (b := k) hx hb dX1_byteAt_39 ?_
          refine vx_Vs (As := [.int (iI ((sa ((i).toNat)) + k))]) (rest := []) (ci := 0) (q0 := 0) [3, 4] ⟨hx, hb, hml, hown, hts⟩ (c_X0_at l dC dI cB cI wb wq wlim wl wc wf hwc hwl ((sa ((i).toNat)) + k) (by omega)) (cwV 1 hts (gd_V tw_250 tw_159 tw_160 tw_20 tw_161) rfl rfl rfl (by decide +kernel) ⟨Nat.le_of_ble_eq_true rfl, Nat.le_of_ble_eq_true rfl⟩) hK hP rfl rfl rfl rfl rfl hl.1 rfl (Nat.le_of_ble_eq_true rfl) dX1_byteAt_40 ⟨Nat.zero_le _, Nat.zero_le _⟩ (fun r hr => ?_)
          obtain rfl : r = iI (bA wf wc ((sa ((i).toNat)) + k)) := hr
          exact W.iret (v := iI (bA wf wc ((sa ((i).toNat)) + k))) hx hb hr (fun t ht hW => ⟨iI (bA wf wc ((sa ((i).toNat)) + k)), rfl, by rw [if_pos (by omega)], ht⟩) (fun _ h => by cases h) dX1_byteAt_43
        · refine lv_iconst (v := iI (-1)) hx hb dX1_byteAt_26 rfl ?_
          exact W.iret (v := iI (-1)) hx hb hr (fun t ht hW => ⟨iI (-1), rfl, by rw [if_neg (by omega)], ht⟩) (fun _ h => by cases h) dX1_byteAt_27
set_option maxHeartbeats 4000000 in
set_option maxRecDepth 100000 in
/-- WordRow.keepBytes(input, used) -/
theorem c_X1_keepBytes (l : Launch) (dC : Nat → ClassId) (dI : Nat → Nat → Nat) (cB cI : ClassId) (sz : Nat) (h wb s1 s2 cnt : Nat) (wq wlim wl wc : Nat) (wf : Nat → Int32) (hc : wc ≤ wl) (hn : wl ≤ 65536) (hm : wlim ≤ 65536) (hll : wl ≤ wlim) (hfit : sb_Fit wf) (h2 q2 lim2 len2 cnt2 : Nat) (g : Nat → Int32) (hc2 : cnt2 ≤ len2) (hn2 : len2 ≤ 65536) (hm2 : lim2 ≤ 65536) (hfit2 : sb_Fit g) (i : Nat) (hi : i ≤ cnt2) (hiw : wc + i ≤ wlim) (mc ms : Nat) (hroom : wl < wc + i → 1 ≤ mc ∧ gL wlim wl (wc + i) ≤ ms) : Met l yX1_keepBytes wX1_keepBytes ({ frames := 4, cells := mc, slots := ms, locals := 115 }) (va_Pc [.ref h, .ref h2, .int (iI ((i : Int)))] (vx_B (dC, dI) vwCl [(cB, .byte), (cI, .int)] [(h, .inr (1, [.ref wb, .ref s1, .ref s2, .int (iI ((cnt : Int)))])), (wb, .inr (0, [.int (iI ((wlim : Int))), .ref wq, .int (iI ((wc : Int)))])), (wq, .inl (cB, wl, .inl (wf))), (h2, .inr (0, [.int (iI ((lim2 : Int))), .ref q2, .int (iI ((cnt2 : Int)))])), (q2, .inl (cB, len2, .inl (g)))] sz)) (va_Qv (fun (u : Nat × Nat × Nat × (Nat → Int32)) => sb_Fit u.2.2.2 ∧ u.2.1 = (if wl < wc + i then gL wlim wl (wc + i) else wl) ∧ u.2.1 ≤ wlim ∧ u.2.2.1 = wc + i ∧ wc + i ≤ u.2.1 ∧ (∀ j, j < wc → u.2.2.2 j = wf j) ∧ ∀ j, j < i → u.2.2.2 (wc + j) = g j) (fun (u : Nat × Nat × Nat × (Nat → Int32)) => vx_E (dC, dI) vwCl [(cB, .byte), (cI, .int)] (va_A [(h, .inr (1, [.ref wb, .ref s1, .ref s2, .int (iI ((cnt : Int)))])), (wb, .inr (0, [.int (iI ((wlim : Int))), .ref wq, .int (iI ((wc : Int)))])), (wq, .inl (cB, wl, .inl (wf))), (h2, .inr (0, [.int (iI ((lim2 : Int))), .ref q2, .int (iI ((cnt2 : Int)))])), (q2, .inl (cB, len2, .inl (g)))] sz) [(h, .inr (1, [.ref wb, .ref s1, .ref s2, .int (iI ((cnt : Int)))])), (wb, .inr (0, [.int (iI ((wlim : Int))), .ref u.1, .int (iI ((u.2.2.1 : Int)))])), (u.1, .inl (cB, u.2.1, .inl (u.2.2.2))), (h2, .inr (0, [.int (iI ((lim2 : Int))), .ref q2, .int (iI ((cnt2 : Int)))])), (q2, .inl (cB, len2, .inl (g)))]) (va_A [(h, .inr (1, [.ref wb, .ref s1, .ref s2, .int (iI ((cnt : Int)))])), (wb, .inr (0, [.int (iI ((wlim : Int))), .ref wq, .int (iI ((wc : Int)))])), (wq, .inl (cB, wl, .inl (wf))), (h2, .inr (0, [.int (iI ((lim2 : Int))), .ref q2, .int (iI ((cnt2 : Int)))])), (q2, .inl (cB, len2, .inl (g)))] sz)) (mc) (ms) (va_A [(h, .inr (1, [.ref wb, .ref s1, .ref s2, .int (iI ((cnt : Int)))])), (wb, .inr (0, [.int (iI ((wlim : Int))), .ref wq, .int (iI ((wc : Int)))])), (wq, .inl (cB, wl, .inl (wf))), (h2, .inr (0, [.int (iI ((lim2 : Int))), .ref q2, .int (iI ((cnt2 : Int)))])), (q2, .inl (cB, len2, .inl (g)))] sz) := by
  refine Met.ofW (cc := cX1_keepBytes) (maxL := 3) (ret := none) (by decide) rfl ?_
  intro p e s m args below meth c s₁ B hml hv
  obtain ⟨rfl, hsz, hP, hK, hD0⟩ := hv
  have hx := B.exec
  have hb := B.bytes
  have hr := B.returns
  have hts := atoms_spec (ws := wX1_keepBytes) B.pre
  have hown : s.vm.findClass "RequestCutter$WordRow" = some m.cls := findClass_of_methodNamed B.named
  have hlocks := B.notSynchronized
  subst hsz
  have hD := hD0.self (sz := s.heap.size)
  generalize hAe : va_A [(h, .inr (1, [.ref wb, .ref s1, .ref s2, .int (iI ((cnt : Int)))])), (wb, .inr (0, [.int (iI ((wlim : Int))), .ref wq, .int (iI ((wc : Int)))])), (wq, .inl (cB, wl, .inl (wf))), (h2, .inr (0, [.int (iI ((lim2 : Int))), .ref q2, .int (iI ((cnt2 : Int)))])), (q2, .inl (cB, len2, .inl (g)))] s.heap.size = A at hD ⊢
  have hA : ∀ q : Nat, s.heap.size ≤ q → A q := fun q h => by rw [← hAe]; exact Or.inr h
  have hS : va_S A s.heap s.heap [] := va_S.rf
  have hP : va_P (dC, dI) vwCl [(h, .inr (1, [.ref wb, .ref s1, .ref s2, .int (iI ((cnt : Int)))])), (wb, .inr (0, [.int (iI ((wlim : Int))), .ref wq, .int (iI ((wc : Int)))])), (wq, .inl (cB, wl, .inl (wf))), (h2, .inr (0, [.int (iI ((lim2 : Int))), .ref q2, .int (iI ((cnt2 : Int)))])), (q2, .inl (cB, len2, .inl (g)))] s.heap := hP
  have hl := lv_entry ([.ref h, .ref h2, .int (iI ((i : Int)))]) (n := 3) (Nat.le_of_ble_eq_true rfl)
  rw [lg_entry_eq]
  generalize (lg_sl ([.ref h, .ref h2, .int (iI ((i : Int)))]) ++ List.replicate (3 - (lg_sl ([.ref h, .ref h2, .int (iI ((i : Int)))])).length) Slot.unset).toArray = ls at hl ⊢
  have hl : lv_has ls 3 [(0, .ref h), (1, .ref h2), (2, .int (iI ((i : Int))))] := hl
  refine lv_aload_n hx hb dX1_keepBytes_0 rfl (lv_at hl 0 rfl) ?_
  refine va_get (D := (dC, dI)) (ci := 1) (v := .ref wb) (C := "RequestCutter$WordRow") (T := TX1) (N := 4) hx hb hts (fun w h => List.mem_cons_of_mem _ (inX1 w h)) hown hK hP 0 rfl rfl 0 (by decide) (hts _ (List.mem_cons_of_mem _ tw_61)) (fun _ h9 => h9) rfl dX1_keepBytes_1 ?_
  refine lv_aload_n hx hb dX1_keepBytes_4 rfl (lv_at hl 1 rfl) ?_
  refine lv_iload_n hx hb dX1_keepBytes_5 rfl (lv_at hl 2 rfl) ?_
  have hit : (i : Int).toNat = i := by omega
  refine vx_Vi (As := [.ref h2, .int (iI ((i : Int)))]) (rest := []) (wr := [(h, .inr (1, [.ref wb, .ref s1, .ref s2, .int (iI ((cnt : Int)))]))]) (ci := 0) (q0 := 0) [1, 2, 3, 4] [0] ⟨hx, hb, hml, hown, hts⟩ (c_X0_addFirstOf l dC dI cB cI _ wb wq wlim wl wc wf hc hn hm hll hfit h2 q2 lim2 len2 cnt2 g hc2 hn2 hm2 hfit2 (i : Int) (by omega) mc ms (fun z => by rw [hit]; exact hroom (by omega))) (cwV 2 hts (gd_V tw_221 tw_140 tw_141 tw_20 tw_142) rfl rfl rfl (by decide +kernel) ⟨Nat.le_of_ble_eq_true rfl, Nat.le_of_ble_eq_true rfl⟩) hK hP hD hS hA rfl rfl rfl rfl (by decide) rfl rfl rfl rfl hl.1 rfl (Nat.le_of_ble_eq_true rfl) dX1_keepBytes_6 ⟨by show 0 + mc ≤ mc; omega, by show 0 + ms ≤ ms; omega⟩ (fun r u H locs hw hP hD hS => ?_)
  obtain ⟨q1, len1, c1, f1⟩ := u
  try dsimp only at hw hP hD
  obtain ⟨hr1, hfit1, hl1, hlim1, hok1, -⟩ := hw
  have hP : va_P (dC, dI) vwCl [(h, .inr (1, [.ref wb, .ref s1, .ref s2, .int (iI ((cnt : Int)))])), (wb, .inr (0, [.int (iI ((wlim : Int))), .ref q1, .int (iI ((c1 : Int)))])), (q1, .inl (cB, len1, .inl (f1))), (h2, .inr (0, [.int (iI ((lim2 : Int))), .ref q2, .int (iI ((cnt2 : Int)))])), (q2, .inl (cB, len2, .inl (g)))] H := hP.sub [0, 1, 2, 3, 4] rfl
  have hD : va_D A [(h, .inr (1, [.ref wb, .ref s1, .ref s2, .int (iI ((cnt : Int)))])), (wb, .inr (0, [.int (iI ((wlim : Int))), .ref q1, .int (iI ((c1 : Int)))])), (q1, .inl (cB, len1, .inl (f1))), (h2, .inr (0, [.int (iI ((lim2 : Int))), .ref q2, .int (iI ((cnt2 : Int)))])), (q2, .inl (cB, len2, .inl (g)))] := hD.sub [0, 1, 2, 3, 4] (by decide) rfl
  obtain ⟨b1, hb1, rfl⟩ := bo_of hr1
  have hk1 := hok1 (by omega)
  rw [hit] at hk1 hl1
  refine W.widen (k := mc) (n := ms) (by omega) (by omega) ?_
  refine lv_pop hx hb dX1_keepBytes_9 rfl ?_
  exact W.vret hx hb hr (fun t ht hW => ⟨⟨(q1, len1, c1, f1), rfl, ⟨hfit1, by show len1 = _; rw [hl1]; by_cases z : wl < wc + i; rw [if_pos (by omega), if_pos z]; rw [if_neg (by omega), if_neg z], hlim1, hk1.1, hk1.2.1, hk1.2.2.1, hk1.2.2.2⟩, by rw [ht]; exact hP, va_K.moved hW.alike hK, hD⟩, hS.F ht⟩) hS.2.2 dX1_keepBytes_10
set_option maxHeartbeats 4000000 in
set_option maxRecDepth 100000 in
/-- WordRow() -/
theorem c_X1_init (l : Launch) (dC : Nat → ClassId) (dI : Nat → Nat → Nat) (cB cI : ClassId) (sz : Nat) (h : Nat) : Met l yX1_init wX1_init ({ frames := 2, cells := 4, slots := 83, locals := 42 }) (va_Pc [.ref h] (vx_B (dC, dI) vwCl [(cB, .byte), (cI, .int)] [(h, .inr (1, [.null, .null, .null, .int (iI (0))]))] sz)) (va_Qv (fun (u : Nat × Nat × Nat × Nat) => True) (fun (u : Nat × Nat × Nat × Nat) => vx_E (dC, dI) vwCl [(cB, .byte), (cI, .int)] (va_A [(h, .inr (1, [.null, .null, .null, .int (iI (0))]))] sz) [(h, .inr (1, [.ref u.1, .ref u.2.2.1, .ref u.2.2.2, .int (iI (0))])), (u.1, .inr (0, [.int (iI (((65536 : Nat) : Int))), .ref u.2.1, .int (iI (0))])), (u.2.1, .inl (cB, 64, .inl (fun _ => 0))), (u.2.2.1, .inl (cI, 8, .inl (fun _ => 0))), (u.2.2.2, .inl (cI, 8, .inl (fun _ => 0)))]) (va_A [(h, .inr (1, [.null, .null, .null, .int (iI (0))]))] sz)) (4) (83) (va_A [(h, .inr (1, [.null, .null, .null, .int (iI (0))]))] sz) := by
  refine Met.ofW (cc := cX1_init) (maxL := 1) (ret := none) (by decide) rfl ?_
  intro p e s m args below meth c s₁ B hml hv
  obtain ⟨rfl, hsz, hP, hK, hD0⟩ := hv
  have hx := B.exec
  have hb := B.bytes
  have hr := B.returns
  have hts := atoms_spec (ws := wX1_init) B.pre
  have hown : s.vm.findClass "RequestCutter$WordRow" = some m.cls := findClass_of_methodNamed B.named
  have hlocks := B.notSynchronized
  have hin : meth.name = "<init>" := (name_of_methodNamed B.named B.method).1
  subst hsz
  have hD := hD0.self (sz := s.heap.size)
  generalize hAe : va_A [(h, .inr (1, [.null, .null, .null, .int (iI (0))]))] s.heap.size = A at hD ⊢
  have hA : ∀ q : Nat, s.heap.size ≤ q → A q := fun q h => by rw [← hAe]; exact Or.inr h
  have hS : va_S A s.heap s.heap [] := va_S.rf
  have hP : va_P (dC, dI) vwCl [(h, .inr (1, [.null, .null, .null, .int (iI (0))]))] s.heap := hP
  have hl := lv_entry ([.ref h]) (n := 1) (Nat.le_of_ble_eq_true rfl)
  rw [lg_entry_eq]
  generalize (lg_sl ([.ref h]) ++ List.replicate (1 - (lg_sl ([.ref h])).length) Slot.unset).toArray = ls at hl ⊢
  have hl : lv_has ls 1 [(0, .ref h)] := hl
  refine lv_aload_n hx hb dX1_init_0 rfl (lv_at hl 0 rfl) ?_
  refine W.objInit hx hb hown (hts _ (List.mem_cons_of_mem _ tw_57)) (hts _ (List.mem_cons_of_mem _ tw_32)) (hts _ (List.mem_cons_of_mem _ tw_33)) rfl (by rw [hml]; exact hl.1) rfl dX1_init_1 (Nat.le_of_ble_eq_true rfl) (Nat.le_of_ble_eq_true rfl) ?_
  refine W.eq (g2 := F0 m 4 ls []) rfl ?_
  refine lv_aload_n hx hb dX1_init_4 rfl (lv_at hl 0 rfl) ?_
  refine va_new (ci := 0) (fs := [.int (iI (0)), .null, .int (iI (0))]) (C := "RequestCutter$ByteRow") (T := TX0) (N := 3) hx hb hts (fun w h => List.mem_cons_of_mem _ (inX0 w h)) tyX0 tyX0_ok hown (hts _ (List.mem_cons_of_mem _ tw_58)) (hts _ (List.mem_cons_of_mem _ tw_35)) (hts _ (List.mem_cons_of_mem _ tw_20)) hK hP hD hS hA rfl (fun j hj => by rcases (show j = 0 ∨ j = 1 ∨ j = 2 by omega) with rfl | rfl | rfl <;> rfl) (by show 0 + 1 ≤ 4; omega) (by show 0 + 3 ≤ 83; omega) dX1_init_5 (fun q1 H hP hD hS => ?_)
  have hP : va_P (dC, dI) vwCl [(h, .inr (1, [.null, .null, .null, .int (iI (0))])), (q1, .inr (0, [.int (iI (0)), .null, .int (iI (0))]))] H := hP
  have hD : va_D A [(h, .inr (1, [.null, .null, .null, .int (iI (0))])), (q1, .inr (0, [.int (iI (0)), .null, .int (iI (0))]))] := hD
  refine lv_dup hx hb dX1_init_8 rfl ?_
  refine lx_ldc (z := 65536) (v := 65536) hx hb hown (hts _ (List.mem_cons_of_mem _ tw_59)) (by decide) dX1_init_9 ?_
  refine vx_Iv (As := [.int (iI (((65536 : Nat) : Int)))]) (rest := [.ref q1, .ref h]) (wr := [(h, .inr (1, [.null, .null, .null, .int (iI (0))]))]) [1] [0] ⟨hx, hb, hml, hown, hts⟩ (c_X0_init l dC dI cB cI _ q1 65536 (by omega)) (cwI 1 hts (gd_I tw_38) rfl rfl rfl (hts _ (List.mem_cons_of_mem _ tw_20)) (hts _ (List.mem_cons_of_mem _ tw_60)) (hts _ (List.mem_cons_of_mem _ tw_37)) rfl (by decide +kernel) ⟨Nat.le_of_ble_eq_true rfl, Nat.le_of_ble_eq_true rfl⟩) hK hP hD hS hA rfl rfl rfl rfl (by decide) rfl hl.1 rfl (Nat.le_of_ble_eq_true rfl) dX1_init_11 ⟨by show 0 + 1 + 1 ≤ 4; omega, by show 0 + 3 + 64 ≤ 83; omega⟩ (fun u H locs hw hP hD hS => ?_)
  obtain ⟨q2, rfl⟩ : ∃ z, z = u := ⟨_, rfl⟩
  try dsimp only at hw hP hD
  obtain - := hw
  have hP : va_P (dC, dI) vwCl [(h, .inr (1, [.null, .null, .null, .int (iI (0))])), (q1, .inr (0, [.int (iI (((65536 : Nat) : Int))), .ref q2, .int (iI (0))])), (q2, .inl (cB, 64, .inl (fun _ => 0)))] H := hP.sub [0, 1, 2] rfl
  have hD : va_D A [(h, .inr (1, [.null, .null, .null, .int (iI (0))])), (q1, .inr (0, [.int (iI (((65536 : Nat) : Int))), .ref q2, .int (iI (0))])), (q2, .inl (cB, 64, .inl (fun _ => 0)))] := hD.sub [0, 1, 2] (by decide) rfl
  refine va_putF (D := (dC, dI)) (ci := 1) (v := .ref q1) (ty := .object "RequestCutter$ByteRow") (C := "RequestCutter$WordRow") (T := TX1) (N := 4) hx hb hts (fun w h => List.mem_cons_of_mem _ (inX1 w h)) tyX1 tyX1_ok nmX1 hown hK hP hD hS 0 rfl rfl 0 (by decide) (hts _ (List.mem_cons_of_mem _ tw_61)) (fun _ h9 => h9) rfl hin rfl (by decide +kernel) rfl rfl (Nat.le_of_ble_eq_true rfl) dX1_init_14 (fun H locs hP hD hS => ?_)
  have hP : va_P (dC, dI) vwCl [(h, .inr (1, [.ref q1, .null, .null, .int (iI (0))])), (q1, .inr (0, [.int (iI (((65536 : Nat) : Int))), .ref q2, .int (iI (0))])), (q2, .inl (cB, 64, .inl (fun _ => 0)))] H := hP
  have hD : va_D A [(h, .inr (1, [.ref q1, .null, .null, .int (iI (0))])), (q1, .inr (0, [.int (iI (((65536 : Nat) : Int))), .ref q2, .int (iI (0))])), (q2, .inl (cB, 64, .inl (fun _ => 0)))] := hD
  refine lv_aload_n hx hb dX1_init_17 rfl (lv_at hl 0 rfl) ?_
  refine lv_bipush (v := iI (8)) hx hb dX1_init_18 (by decide) ?_
  refine va_newa (atype := .int) (a0 := (8, .inl (fun _ => 0))) (ty := .int) hx hb (hts _ (List.mem_cons_of_mem _ tw_74)) rfl hK hP hD hS hA (fun _ => rfl) (iI_nn (by omega)) (by rw [iI_cl (by omega)]; omega) (by show 8 * 4 ≤ 536870912; omega) (by show 0 + 1 + 1 + 1 ≤ 4; omega) (by show 0 + 3 + 64 + 8 ≤ 83; omega) dX1_init_20 (fun q3 cA H hK1 hP hD hS => ?_)
  obtain rfl : cI = cA := vx_nmI hK1 1 2 rfl rfl
  have hP : va_P (dC, dI) vwCl [(h, .inr (1, [.ref q1, .null, .null, .int (iI (0))])), (q1, .inr (0, [.int (iI (((65536 : Nat) : Int))), .ref q2, .int (iI (0))])), (q2, .inl (cB, 64, .inl (fun _ => 0))), (q3, .inl (cI, 8, .inl (fun _ => 0)))] H := hP
  have hD : va_D A [(h, .inr (1, [.ref q1, .null, .null, .int (iI (0))])), (q1, .inr (0, [.int (iI (((65536 : Nat) : Int))), .ref q2, .int (iI (0))])), (q2, .inl (cB, 64, .inl (fun _ => 0))), (q3, .inl (cI, 8, .inl (fun _ => 0)))] := hD
  refine va_put (D := (dC, dI)) (ci := 1) (v := .ref q3) (ty := .array .int) (C := "RequestCutter$WordRow") (T := TX1) (N := 4) hx hb hts (fun w h => List.mem_cons_of_mem _ (inX1 w h)) tyX1 tyX1_ok nmX1 hown hK hP hD hS 0 rfl rfl 1 (by decide) (hts _ (List.mem_cons_of_mem _ tw_62)) (fun _ h9 => h9) rfl (by decide +kernel) rfl rfl (Nat.le_of_ble_eq_true rfl) dX1_init_22 (fun H locs hP hD hS => ?_)
  have hP : va_P (dC, dI) vwCl [(h, .inr (1, [.ref q1, .ref q3, .null, .int (iI (0))])), (q1, .inr (0, [.int (iI (((65536 : Nat) : Int))), .ref q2, .int (iI (0))])), (q2, .inl (cB, 64, .inl (fun _ => 0))), (q3, .inl (cI, 8, .inl (fun _ => 0)))] H := hP
  have hD : va_D A [(h, .inr (1, [.ref q1, .ref q3, .null, .int (iI (0))])), (q1, .inr (0, [.int (iI (((65536 : Nat) : Int))), .ref q2, .int (iI (0))])), (q2, .inl (cB, 64, .inl (fun _ => 0))), (q3, .inl (cI, 8, .inl (fun _ => 0)))] := hD
  refine lv_aload_n hx hb dX1_init_25 rfl (lv_at hl 0 rfl) ?_
  refine lv_bipush (v := iI (8)) hx hb dX1_init_26 (by decide) ?_
  refine va_newa (atype := .int) (a0 := (8, .inl (fun _ => 0))) (ty := .int) hx hb (hts _ (List.mem_cons_of_mem _ tw_74)) rfl hK hP hD hS hA (fun _ => rfl) (iI_nn (by omega)) (by rw [iI_cl (by omega)]; omega) (by show 8 * 4 ≤ 536870912; omega) (by show 0 + 1 + 1 + 1 + 1 ≤ 4; omega) (by show 0 + 3 + 64 + 8 + 8 ≤ 83; omega) dX1_init_28 (fun q4 cA H hK1 hP hD hS => ?_)
  obtain rfl : cI = cA := vx_nmI hK1 1 2 rfl rfl
  have hP : va_P (dC, dI) vwCl [(h, .inr (1, [.ref q1, .ref q3, .null, .int (iI (0))])), (q1, .inr (0, [.int (iI (((65536 : Nat) : Int))), .ref q2, .int (iI (0))])), (q2, .inl (cB, 64, .inl (fun _ => 0))), (q3, .inl (cI, 8, .inl (fun _ => 0))), (q4, .inl (cI, 8, .inl (fun _ => 0)))] H := hP
  have hD : va_D A [(h, .inr (1, [.ref q1, .ref q3, .null, .int (iI (0))])), (q1, .inr (0, [.int (iI (((65536 : Nat) : Int))), .ref q2, .int (iI (0))])), (q2, .inl (cB, 64, .inl (fun _ => 0))), (q3, .inl (cI, 8, .inl (fun _ => 0))), (q4, .inl (cI, 8, .inl (fun _ => 0)))] := hD
  refine va_put (D := (dC, dI)) (ci := 1) (v := .ref q4) (ty := .array .int) (C := "RequestCutter$WordRow") (T := TX1) (N := 4) hx hb hts (fun w h => List.mem_cons_of_mem _ (inX1 w h)) tyX1 tyX1_ok nmX1 hown hK hP hD hS 0 rfl rfl 2 (by decide) (hts _ (List.mem_cons_of_mem _ tw_63)) (fun _ h9 => h9) rfl (by decide +kernel) rfl rfl (Nat.le_of_ble_eq_true rfl) dX1_init_30 (fun H locs hP hD hS => ?_)
  have hP : va_P (dC, dI) vwCl [(h, .inr (1, [.ref q1, .ref q3, .ref q4, .int (iI (0))])), (q1, .inr (0, [.int (iI (((65536 : Nat) : Int))), .ref q2, .int (iI (0))])), (q2, .inl (cB, 64, .inl (fun _ => 0))), (q3, .inl (cI, 8, .inl (fun _ => 0))), (q4, .inl (cI, 8, .inl (fun _ => 0)))] H := hP
  have hD : va_D A [(h, .inr (1, [.ref q1, .ref q3, .ref q4, .int (iI (0))])), (q1, .inr (0, [.int (iI (((65536 : Nat) : Int))), .ref q2, .int (iI (0))])), (q2, .inl (cB, 64, .inl (fun _ => 0))), (q3, .inl (cI, 8, .inl (fun _ => 0))), (q4, .inl (cI, 8, .inl (fun _ => 0)))] := hD
  refine lv_aload_n hx hb dX1_init_33 rfl (lv_at hl 0 rfl) ?_
  refine lv_iconst (v := iI (0)) hx hb dX1_init_34 rfl ?_
  refine va_put (D := (dC, dI)) (ci := 1) (v := .int (iI (0))) (ty := .int) (C := "RequestCutter$WordRow") (T := TX1) (N := 4) hx hb hts (fun w h => List.mem_cons_of_mem _ (inX1 w h)) tyX1 tyX1_ok nmX1 hown hK hP hD hS 0 rfl rfl 3 (by decide) (hts _ (List.mem_cons_of_mem _ tw_64)) (fun _ h9 => h9) rfl (by decide +kernel) rfl rfl (Nat.le_of_ble_eq_true rfl) dX1_init_35 (fun H locs hP hD hS => ?_)
  have hP : va_P (dC, dI) vwCl [(h, .inr (1, [.ref q1, .ref q3, .ref q4, .int (iI (0))])), (q1, .inr (0, [.int (iI (((65536 : Nat) : Int))), .ref q2, .int (iI (0))])), (q2, .inl (cB, 64, .inl (fun _ => 0))), (q3, .inl (cI, 8, .inl (fun _ => 0))), (q4, .inl (cI, 8, .inl (fun _ => 0)))] H := hP
  have hD : va_D A [(h, .inr (1, [.ref q1, .ref q3, .ref q4, .int (iI (0))])), (q1, .inr (0, [.int (iI (((65536 : Nat) : Int))), .ref q2, .int (iI (0))])), (q2, .inl (cB, 64, .inl (fun _ => 0))), (q3, .inl (cI, 8, .inl (fun _ => 0))), (q4, .inl (cI, 8, .inl (fun _ => 0)))] := hD
  exact W.vret hx hb hr (fun t ht hW => ⟨⟨(q1, q2, q3, q4), rfl, trivial, by rw [ht]; exact hP, va_K.moved hW.alike hK, hD⟩, hS.F ht⟩) hS.2.2 dX1_init_38
end
section
set_option maxHeartbeats 4000000 in
set_option maxRecDepth 100000 in
/-- tell(fault) -/
theorem c_X2_tell (l : Launch) (dC : Nat → ClassId) (dI : Nat → Nat → Nat) (cB cI : ClassId) (sz : Nat) (h tp ip wd : Nat) (lf ln ft : Int) : Met l yX2_tell wX2_tell ({ frames := 0, cells := 0, slots := 0, locals := 0 }) (va_Pc [.ref h, .int (iI (ft))] (vx_B (dC, dI) vwCl [(cB, .byte), (cI, .int)] [(h, .inr (2, [.ref tp, .ref ip, .ref wd, .int (iI (lf)), .int (iI (ln))]))] sz)) (va_Qi (fun (r : Int32) (u : Unit) => r = iI (-2)) (fun (u : Unit) => vx_E (dC, dI) vwCl [(cB, .byte), (cI, .int)] (va_A [(h, .inr (2, [.ref tp, .ref ip, .ref wd, .int (iI (lf)), .int (iI (ln))]))] sz) [(h, .inr (2, [.ref tp, .ref ip, .ref wd, .int (iI (ft)), .int (iI (ln))]))]) (va_A [(h, .inr (2, [.ref tp, .ref ip, .ref wd, .int (iI (lf)), .int (iI (ln))]))] sz)) (0) (0) (va_A [(h, .inr (2, [.ref tp, .ref ip, .ref wd, .int (iI (lf)), .int (iI (ln))]))] sz) := by
  refine Met.ofW (cc := cX2_tell) (maxL := 2) (ret := (some .int)) (by decide) rfl ?_
  intro p e s m args below meth c s₁ B hml hv
  obtain ⟨rfl, hsz, hP, hK, hD0⟩ := hv
  have hx := B.exec
  have hb := B.bytes
  have hr := B.returns
  have hts := atoms_spec (ws := wX2_tell) B.pre
  have hown : s.vm.findClass "RequestCutter" = some m.cls := findClass_of_methodNamed B.named
  have hlocks := B.notSynchronized
  subst hsz
  have hD := hD0.self (sz := s.heap.size)
  generalize hAe : va_A [(h, .inr (2, [.ref tp, .ref ip, .ref wd, .int (iI (lf)), .int (iI (ln))]))] s.heap.size = A at hD ⊢
  have hA : ∀ q : Nat, s.heap.size ≤ q → A q := fun q h => by rw [← hAe]; exact Or.inr h
  have hS : va_S A s.heap s.heap [] := va_S.rf
  have hP : va_P (dC, dI) vwCl [(h, .inr (2, [.ref tp, .ref ip, .ref wd, .int (iI (lf)), .int (iI (ln))]))] s.heap := hP
  have hl := lv_entry ([.ref h, .int (iI (ft))]) (n := 2) (Nat.le_of_ble_eq_true rfl)
  rw [lg_entry_eq]
  generalize (lg_sl ([.ref h, .int (iI (ft))]) ++ List.replicate (2 - (lg_sl ([.ref h, .int (iI (ft))])).length) Slot.unset).toArray = ls at hl ⊢
  have hl : lv_has ls 2 [(0, .ref h), (1, .int (iI (ft)))] := hl
  refine lv_aload_n hx hb dX2_tell_0 rfl (lv_at hl 0 rfl) ?_
  refine lv_iload_n hx hb dX2_tell_1 rfl (lv_at hl 1 rfl) ?_
  refine va_put (D := (dC, dI)) (ci := 2) (v := .int (iI (ft))) (ty := .int) (C := "RequestCutter") (T := TX2) (N := 5) hx hb hts (fun w h => List.mem_cons_of_mem _ (inX2 w h)) tyX2 tyX2_ok nmX2 hown hK hP hD hS 0 rfl rfl 3 (by decide) (hts _ (List.mem_cons_of_mem _ tw_78)) (fun _ h9 => h9) rfl (by decide +kernel) rfl rfl (Nat.le_of_ble_eq_true rfl) dX2_tell_2 (fun H locs hP hD hS => ?_)
  have hP : va_P (dC, dI) vwCl [(h, .inr (2, [.ref tp, .ref ip, .ref wd, .int (iI (ft)), .int (iI (ln))]))] H := hP
  have hD : va_D A [(h, .inr (2, [.ref tp, .ref ip, .ref wd, .int (iI (ft)), .int (iI (ln))]))] := hD
  refine lv_bipush (v := iI (-2)) hx hb dX2_tell_5 (by decide) ?_
  exact W.iret (v := iI (-2)) hx hb hr (fun t ht hW => ⟨⟨iI (-2), (), rfl, rfl, by rw [ht]; exact hP, va_K.moved hW.alike hK, hD⟩, hS.F ht⟩) hS.2.2 dX2_tell_7
set_option maxHeartbeats 4000000 in
set_option maxRecDepth 100000 in
/-- findLineStop(from) -/
theorem c_X2_findLineStop (l : Launch) (dC : Nat → ClassId) (dI : Nat → Nat → Nat) (cB cI : ClassId) (h tp ip wd iq lim il n : Nat) (f : Nat → Int32) (lf ln : Int) (hc : n ≤ il) (hn : il ≤ 65536) (fr : Int) (hfr : 0 ≤ fr ∧ fr ≤ 100000) : Met l yX2_findLineStop wX2_findLineStop ({ frames := 1, cells := 0, slots := 0, locals := 21 }) (va_Pc [.ref h, .int (iI (fr))] (vx_R (dC, dI) vwCl [(cB, .byte), (cI, .int)] [(h, .inr (2, [.ref tp, .ref ip, .ref wd, .int (iI (lf)), .int (iI (ln))])), (ip, .inr (0, [.int (iI ((lim : Int))), .ref iq, .int (iI ((n : Int)))])), (iq, .inl (cB, il, .inl (f)))])) (vp_Si (fun r => r = iI (zStop (bA f n) fr))) 0 0 (fun _ => False) := by
  refine Met.ofW (cc := cX2_findLineStop) (maxL := 3) (ret := (some .int)) (by decide) rfl ?_
  intro p e s m args below meth c s₁ B hml hv
  obtain ⟨rfl, hP, hK⟩ := hv
  have hx := B.exec
  have hb := B.bytes
  have hr := B.returns
  have hts := atoms_spec (ws := wX2_findLineStop) B.pre
  have hown : s.vm.findClass "RequestCutter" = some m.cls := findClass_of_methodNamed B.named
  have hlocks := B.notSynchronized
  have hP : va_P (dC, dI) vwCl [(h, .inr (2, [.ref tp, .ref ip, .ref wd, .int (iI (lf)), .int (iI (ln))])), (ip, .inr (0, [.int (iI ((lim : Int))), .ref iq, .int (iI ((n : Int)))])), (iq, .inl (cB, il, .inl (f)))] s.heap := hP
  have hl := lv_entry ([.ref h, .int (iI (fr))]) (n := 3) (Nat.le_of_ble_eq_true rfl)
  rw [lg_entry_eq]
  generalize (lg_sl ([.ref h, .int (iI (fr))]) ++ List.replicate (3 - (lg_sl ([.ref h, .int (iI (fr))])).length) Slot.unset).toArray = ls at hl ⊢
  have hl : lv_has ls 3 [(0, .ref h), (1, .int (iI (fr)))] := hl
  refine lv_iload_n hx hb dX2_findLineStop_0 rfl (lv_at hl 1 rfl) ?_
  refine lv_iconst (v := iI (1)) hx hb dX2_findLineStop_1 rfl ?_
  refine lx_iadd (a := fr) (b := 1) hx hb dX2_findLineStop_2 ?_
  refine lv_istore_n (lv' := [(2, .int (iI (fr + 1))), (0, .ref h), (1, .int (iI (fr)))]) hx hb dX2_findLineStop_3 rfl hl (by decide) rfl (fun ls hl => ?_)
  refine (?_ : ∀ (k : Nat) (i : Int) (ls : Array Slot), i + k = fr + 15 → 0 ≤ i → zStopGo (bA f n) k i = zStop (bA f n) fr → lv_has ls 3 [(2, .int (iI (i))), (0, .ref h), (1, .int (iI (fr)))] → W p l e _ s m _ below meth c _ _ _ _ _ (F0 m 4 ls [])) (14) (fr + 1) ls (by omega) (by omega) (rfl) (lv_sub hl [0, 1, 2] rfl)
  intro k
  induction k with
  | zero =>
    intro i ls hk hi0 hz hl
    refine lv_iload_n hx hb dX2_findLineStop_4 rfl (lv_at hl 0 rfl) ?_
    refine lv_iload_n hx hb dX2_findLineStop_5 rfl (lv_at hl 2 rfl) ?_
    refine lv_bipush (v := iI (16)) hx hb dX2_findLineStop_6 (by decide) ?_
    refine lx_iadd (a := fr) (b := 16) hx hb dX2_findLineStop_8 ?_
    refine lv_iconst (v := iI (1)) hx hb dX2_findLineStop_9 rfl ?_
    refine lx_isub (a := fr + 16) (b := 1) hx hb dX2_findLineStop_10 ?_
    refine lx_icmp_ge (a := i) (b := (fr + 16) - 1) (tgt := 50) hx hb dX2_findLineStop_11 (by decide) (by omega) (by omega) (fun cq1 => ?_) (fun cq1 => ?_)
    · refine lv_iconst (v := iI (-1)) hx hb dX2_findLineStop_50 rfl ?_
      exact W.iret (v := iI (-1)) hx hb hr (fun t ht hW => ⟨iI (-1), rfl, by rw [← hz]; rfl, ht⟩) (fun _ h => by cases h) dX2_findLineStop_51
    · exact absurd cq1 (by omega)
  | succ k ih =>
    intro i ls hk hi0 hz hl
    refine lv_iload_n hx hb dX2_findLineStop_4 rfl (lv_at hl 0 rfl) ?_
    refine lv_iload_n hx hb dX2_findLineStop_5 rfl (lv_at hl 2 rfl) ?_
    refine lv_bipush (v := iI (16)) hx hb dX2_findLineStop_6 (by decide) ?_
    refine lx_iadd (a := fr) (b := 16) hx hb dX2_findLineStop_8 ?_
    refine lv_iconst (v := iI (1)) hx hb dX2_findLineStop_9 rfl ?_
    refine lx_isub (a := fr + 16) (b := 1) hx hb dX2_findLineStop_10 ?_
    refine lx_icmp_ge (a := i) (b := (fr + 16) - 1) (tgt := 50) hx hb dX2_findLineStop_11 (by decide) (by omega) (by omega) (fun cq2 => ?_) (fun cq2 => ?_)
    · exact absurd cq2 (by omega)
    · refine lv_aload_n hx hb dX2_findLineStop_14 rfl (lv_at hl 1 rfl) ?_
      refine va_get (D := (dC, dI)) (ci := 2) (v := .ref ip) (C := "RequestCutter") (T := TX2) (N := 5) hx hb hts (fun w h => List.mem_cons_of_mem _ (inX2 w h)) hown hK hP 0 rfl rfl 1 (by decide) (hts _ (List.mem_cons_of_mem _ tw_76)) (fun _ h9 => h9) rfl dX2_findLineStop_15 ?_
      refine lv_iload_n hx hb dX2_findLineStop_18 rfl (lv_at hl 0 rfl) ?_
      have g_at := bA_rg f n (i)
      refine vx_Vs (As := [.int (iI (i))]) (rest := []) (ci := 0) (q0 := 0) [1, 2] ⟨hx, hb, hml, hown, hts⟩ (c_X0_at l dC dI cB cI ip iq lim il n f hc hn (i) (by omega)) (cwV 1 hts (gd_V tw_158 tw_159 tw_160 tw_20 tw_161) rfl rfl rfl (by decide +kernel) ⟨Nat.le_of_ble_eq_true rfl, Nat.le_of_ble_eq_true rfl⟩) hK hP rfl rfl rfl rfl rfl hl.1 rfl (Nat.le_of_ble_eq_true rfl) dX2_findLineStop_19 ⟨Nat.zero_le _, Nat.zero_le _⟩ (fun r hr => ?_)
      obtain rfl : r = iI (bA f n (i)) := hr
      refine lv_bipush (v := iI (13)) hx hb dX2_findLineStop_22 (by decide) ?_
      refine lx_icmp_ne (a := bA f n (i)) (b := 13) (tgt := 44) hx hb dX2_findLineStop_24 (by decide) (by omega) (by omega) (fun cq3 => ?_) (fun cq3 => ?_)
      · refine lv_iinc (v := iI (i + 1)) (lv' := [(2, .int (iI (i + 1))), (0, .ref h), (1, .int (iI (fr)))]) hx hb dX2_findLineStop_44 hl (k := 0) rfl (iI_add _ _) (by decide) rfl (fun ls hl => ?_)
        refine lv_goto (tgt := 4) hx hb dX2_findLineStop_47 (by decide) ?_
        exact ih (i + 1) ls (by omega) (by omega) (by rw [← hz]; exact (if_neg (by omega)).symm) (lv_sub hl [0, 1, 2] rfl)
      · refine lv_aload_n hx hb dX2_findLineStop_27 rfl (lv_at hl 1 rfl) ?_
        refine va_get (D := (dC, dI)) (ci := 2) (v := .ref ip) (C := "RequestCutter") (T := TX2) (N := 5) hx hb hts (fun w h => List.mem_cons_of_mem _ (inX2 w h)) hown hK hP 0 rfl rfl 1 (by decide) (hts _ (List.mem_cons_of_mem _ tw_76)) (fun _ h9 => h9) rfl dX2_findLineStop_28 ?_
        refine lv_iload_n hx hb dX2_findLineStop_31 rfl (lv_at hl 0 rfl) ?_
        refine lv_iconst (v := iI (1)) hx hb dX2_findLineStop_32 rfl ?_
        refine lx_iadd (a := i) (b := 1) hx hb dX2_findLineStop_33 ?_
        have g_at := bA_rg f n (i + 1)
        refine vx_Vs (As := [.int (iI (i + 1))]) (rest := []) (ci := 0) (q0 := 0) [1, 2] ⟨hx, hb, hml, hown, hts⟩ (c_X0_at l dC dI cB cI ip iq lim il n f hc hn (i + 1) (by omega)) (cwV 1 hts (gd_V tw_158 tw_159 tw_160 tw_20 tw_161) rfl rfl rfl (by decide +kernel) ⟨Nat.le_of_ble_eq_true rfl, Nat.le_of_ble_eq_true rfl⟩) hK hP rfl rfl rfl rfl rfl hl.1 rfl (Nat.le_of_ble_eq_true rfl) dX2_findLineStop_34 ⟨Nat.zero_le _, Nat.zero_le _⟩ (fun r hr => ?_)
        obtain rfl : r = iI (bA f n (i + 1)) := hr
        refine lv_bipush (v := iI (10)) hx hb dX2_findLineStop_37 (by decide) ?_
        refine lx_icmp_ne (a := bA f n (i + 1)) (b := 10) (tgt := 44) hx hb dX2_findLineStop_39 (by decide) (by omega) (by omega) (fun cq4 => ?_) (fun cq4 => ?_)
        · refine lv_iinc (v := iI (i + 1)) (lv' := [(2, .int (iI (i + 1))), (0, .ref h), (1, .int (iI (fr)))]) hx hb dX2_findLineStop_44 hl (k := 0) rfl (iI_add _ _) (by decide) rfl (fun ls hl => ?_)
          refine lv_goto (tgt := 4) hx hb dX2_findLineStop_47 (by decide) ?_
          exact ih (i + 1) ls (by omega) (by omega) (by rw [← hz]; exact (if_neg (by omega)).symm) (lv_sub hl [0, 1, 2] rfl)
        · refine lv_iload_n hx hb dX2_findLineStop_42 rfl (lv_at hl 0 rfl) ?_
          exact W.iret (v := iI (i)) hx hb hr (fun t ht hW => ⟨iI (i), rfl, by rw [← hz]; exact congrArg iI (if_pos (by omega)).symm, ht⟩) (fun _ h => by cases h) dX2_findLineStop_43
set_option maxHeartbeats 4000000 in
set_option maxRecDepth 100000 in
/-- readNumber(from, stop) -/
theorem c_X2_readNumber (l : Launch) (dC : Nat → ClassId) (dI : Nat → Nat → Nat) (cB cI : ClassId) (sz : Nat) (h tp ip wd iq lim il n : Nat) (f : Nat → Int32) (lf ln : Int) (hc : n ≤ il) (hn : il ≤ 65536) (fr st : Int) (hfr : 0 ≤ fr ∧ fr ≤ 100000) (hst : 0 ≤ st ∧ st ≤ 100000) : Met l yX2_readNumber wX2_readNumber ({ frames := 1, cells := 0, slots := 0, locals := 21 }) (va_Pc [.ref h, .int (iI (fr)), .int (iI (st))] (vx_B (dC, dI) vwCl [(cB, .byte), (cI, .int)] [(h, .inr (2, [.ref tp, .ref ip, .ref wd, .int (iI (lf)), .int (iI (ln))])), (ip, .inr (0, [.int (iI ((lim : Int))), .ref iq, .int (iI ((n : Int)))])), (iq, .inl (cB, il, .inl (f)))] sz)) (va_Qi (fun (r : Int32) (u : Int) => r = iI (if (zNum (bA f n) fr st).isSome = true then 1 else 0) ∧ u = (zNum (bA f n) fr st).getD ln) (fun (u : Int) => vx_E (dC, dI) vwCl [(cB, .byte), (cI, .int)] (va_A [(h, .inr (2, [.ref tp, .ref ip, .ref wd, .int (iI (lf)), .int (iI (ln))])), (ip, .inr (0, [.int (iI ((lim : Int))), .ref iq, .int (iI ((n : Int)))])), (iq, .inl (cB, il, .inl (f)))] sz) [(h, .inr (2, [.ref tp, .ref ip, .ref wd, .int (iI (lf)), .int (iI (u))])), (ip, .inr (0, [.int (iI ((lim : Int))), .ref iq, .int (iI ((n : Int)))])), (iq, .inl (cB, il, .inl (f)))]) (va_A [(h, .inr (2, [.ref tp, .ref ip, .ref wd, .int (iI (lf)), .int (iI (ln))])), (ip, .inr (0, [.int (iI ((lim : Int))), .ref iq, .int (iI ((n : Int)))])), (iq, .inl (cB, il, .inl (f)))] sz)) (0) (0) (va_A [(h, .inr (2, [.ref tp, .ref ip, .ref wd, .int (iI (lf)), .int (iI (ln))])), (ip, .inr (0, [.int (iI ((lim : Int))), .ref iq, .int (iI ((n : Int)))])), (iq, .inl (cB, il, .inl (f)))] sz) := by
  refine Met.ofW (cc := cX2_readNumber) (maxL := 8) (ret := (some .boolean)) (by decide) rfl ?_
  intro p e s m args below meth c s₁ B hml hv
  obtain ⟨rfl, hsz, hP, hK, hD0⟩ := hv
  have hx := B.exec
  have hb := B.bytes
  have hr := B.returns
  have hts := atoms_spec (ws := wX2_readNumber) B.pre
  have hown : s.vm.findClass "RequestCutter" = some m.cls := findClass_of_methodNamed B.named
  have hlocks := B.notSynchronized
  subst hsz
  have hD := hD0.self (sz := s.heap.size)
  generalize hAe : va_A [(h, .inr (2, [.ref tp, .ref ip, .ref wd, .int (iI (lf)), .int (iI (ln))])), (ip, .inr (0, [.int (iI ((lim : Int))), .ref iq, .int (iI ((n : Int)))])), (iq, .inl (cB, il, .inl (f)))] s.heap.size = A at hD ⊢
  have hA : ∀ q : Nat, s.heap.size ≤ q → A q := fun q h => by rw [← hAe]; exact Or.inr h
  have hS : va_S A s.heap s.heap [] := va_S.rf
  have hP : va_P (dC, dI) vwCl [(h, .inr (2, [.ref tp, .ref ip, .ref wd, .int (iI (lf)), .int (iI (ln))])), (ip, .inr (0, [.int (iI ((lim : Int))), .ref iq, .int (iI ((n : Int)))])), (iq, .inl (cB, il, .inl (f)))] s.heap := hP
  have hl := lv_entry ([.ref h, .int (iI (fr)), .int (iI (st))]) (n := 8) (Nat.le_of_ble_eq_true rfl)
  rw [lg_entry_eq]
  generalize (lg_sl ([.ref h, .int (iI (fr)), .int (iI (st))]) ++ List.replicate (8 - (lg_sl ([.ref h, .int (iI (fr)), .int (iI (st))])).length) Slot.unset).toArray = ls at hl ⊢
  have hl : lv_has ls 8 [(0, .ref h), (1, .int (iI (fr))), (2, .int (iI (st)))] := hl
  refine lv_aload_n hx hb dX2_readNumber_0 rfl (lv_at hl 0 rfl) ?_
  refine va_get (D := (dC, dI)) (ci := 2) (v := .ref ip) (C := "RequestCutter") (T := TX2) (N := 5) hx hb hts (fun w h => List.mem_cons_of_mem _ (inX2 w h)) hown hK hP 0 rfl rfl 1 (by decide) (hts _ (List.mem_cons_of_mem _ tw_76)) (fun _ h9 => h9) rfl dX2_readNumber_1 ?_
  refine lv_iload_n hx hb dX2_readNumber_4 rfl (lv_at hl 1 rfl) ?_
  have g_at := bA_rg f n (fr)
  refine vx_Vs (As := [.int (iI (fr))]) (rest := []) (ci := 0) (q0 := 0) [1, 2] ⟨hx, hb, hml, hown, hts⟩ (c_X0_at l dC dI cB cI ip iq lim il n f hc hn (fr) (by omega)) (cwV 1 hts (gd_V tw_158 tw_159 tw_160 tw_20 tw_161) rfl rfl rfl (by decide +kernel) ⟨Nat.le_of_ble_eq_true rfl, Nat.le_of_ble_eq_true rfl⟩) hK hP rfl rfl rfl rfl rfl hl.1 rfl (Nat.le_of_ble_eq_true rfl) dX2_readNumber_5 ⟨Nat.zero_le _, Nat.zero_le _⟩ (fun r hr => ?_)
  obtain rfl : r = iI (bA f n (fr)) := hr
  refine lv_bipush (v := iI (45)) hx hb dX2_readNumber_8 (by decide) ?_
  refine lx_icmp_ne (a := bA f n (fr)) (b := 45) (tgt := 17) hx hb dX2_readNumber_10 (by decide) (by omega) (by omega) (fun cq1 => ?_) (fun cq1 => ?_)
  · refine lv_iconst (v := iI (0)) hx hb dX2_readNumber_17 rfl ?_
    refine lv_istore_n (lv' := [(3, .int (iI (0))), (0, .ref h), (1, .int (iI (fr))), (2, .int (iI (st)))]) hx hb dX2_readNumber_18 rfl hl (by decide) rfl (fun ls hl => ?_)
    refine lv_iload_n hx hb dX2_readNumber_19 rfl (lv_at hl 0 rfl) ?_
    refine lx_if_eq (a := 0) (tgt := 29) hx hb dX2_readNumber_20 (by decide) (by omega) (fun cq2 => ?_) (fun cq2 => ?_)
    · refine lv_iload_n hx hb dX2_readNumber_29 rfl (lv_at hl 2 rfl) ?_
      refine lv_istore (lv' := [(4, .int (iI (fr))), (3, .int (iI (0))), (0, .ref h), (1, .int (iI (fr))), (2, .int (iI (st)))]) hx hb dX2_readNumber_30 hl (by decide) rfl (fun ls hl => ?_)
      refine lv_iload_n hx hb dX2_readNumber_32 rfl (lv_at hl 4 rfl) ?_
      refine lv_iload hx hb dX2_readNumber_33 (lv_at hl 0 rfl) ?_
      refine lx_icmp_le (a := st) (b := fr) (tgt := 47) hx hb dX2_readNumber_35 (by decide) (by omega) (by omega) (fun cq3 => ?_) (fun cq3 => ?_)
      · refine lv_iconst (v := iI (0)) hx hb dX2_readNumber_47 rfl ?_
        have hn : zNum (bA f n) fr st = none := zNum_0 (by rw [if_neg (by omega)]; omega)
        exact W.zret (v := iI (0)) hx hb hr (by rfl) (fun t ht hW => ⟨⟨iI (0), ln, rfl, ⟨by rw [hn]; rfl, by rw [hn]; rfl⟩, by rw [ht]; exact hP, va_K.moved hW.alike hK, hD⟩, hS.F ht⟩) hS.2.2 dX2_readNumber_48
      · refine lv_iload_n hx hb dX2_readNumber_38 rfl (lv_at hl 4 rfl) ?_
        refine lv_iload hx hb dX2_readNumber_39 (lv_at hl 0 rfl) ?_
        refine lx_isub (a := st) (b := fr) hx hb dX2_readNumber_41 ?_
        refine lv_bipush (v := iI (6)) hx hb dX2_readNumber_42 (by decide) ?_
        refine lx_icmp_le (a := st - fr) (b := 6) (tgt := 49) hx hb dX2_readNumber_44 (by decide) (by omega) (by omega) (fun cq4 => ?_) (fun cq4 => ?_)
        · refine lv_iconst (v := iI (0)) hx hb dX2_readNumber_49 rfl ?_
          refine lv_istore (lv' := [(5, .int (iI (0))), (4, .int (iI (fr))), (3, .int (iI (0))), (0, .ref h), (1, .int (iI (fr))), (2, .int (iI (st)))]) hx hb dX2_readNumber_50 hl (by decide) rfl (fun ls hl => ?_)
          refine lv_iload hx hb dX2_readNumber_52 (lv_at hl 1 rfl) ?_
          refine lv_istore (lv' := [(6, .int (iI (fr))), (5, .int (iI (0))), (4, .int (iI (fr))), (3, .int (iI (0))), (0, .ref h), (1, .int (iI (fr))), (2, .int (iI (st)))]) hx hb dX2_readNumber_54 hl (by decide) rfl (fun ls hl => ?_)
          obtain ⟨Z, hZ⟩ : ∃ Z, Z = zDig (bA f n) (st - (fr)).toNat (fr) 0 := ⟨_, rfl⟩
          have hZ1 : zNum (bA f n) fr st = Z.map (fun x => x) := by rw [hZ]; exact zNum_p (by omega) (by omega)
          refine (?_ : ∀ (k : Nat) (i : Int) (x : Int) (ls : Array Slot), i + k = st → 0 ≤ i → zDig (bA f n) k i x = Z → lv_has ls 8 [(6, .int (iI (i))), (5, .int (iI (x))), (4, .int (iI (fr))), (3, .int (iI (0))), (0, .ref h), (1, .int (iI (fr))), (2, .int (iI (st)))] → W p l e _ s m _ below meth c _ _ _ _ _ (F0 m 56 ls [])) ((st - (fr)).toNat) (fr) (0) ls (by omega) (by omega) (hZ.symm) (lv_sub hl [0, 1, 2, 3, 4, 5, 6] rfl)
          intro k
          induction k with
          | zero =>
            intro i x ls hk hi0 hz hl
            refine lv_iload hx hb dX2_readNumber_56 (lv_at hl 0 rfl) ?_
            refine lv_iload_n hx hb dX2_readNumber_58 rfl (lv_at hl 6 rfl) ?_
            refine lx_icmp_ge (a := i) (b := st) (tgt := 108) hx hb dX2_readNumber_59 (by decide) (by omega) (by omega) (fun cq5 => ?_) (fun cq5 => ?_)
            · refine lv_aload_n hx hb dX2_readNumber_108 rfl (lv_at hl 4 rfl) ?_
              refine lv_iload_n hx hb dX2_readNumber_109 rfl (lv_at hl 3 rfl) ?_
              refine lx_if_eq (a := 0) (tgt := 119) hx hb dX2_readNumber_110 (by decide) (by omega) (fun cq6 => ?_) (fun cq6 => ?_)
              · refine lv_iload hx hb dX2_readNumber_119 (lv_at hl 1 rfl) ?_
                refine va_put (D := (dC, dI)) (ci := 2) (v := .int (iI (x))) (ty := .int) (C := "RequestCutter") (T := TX2) (N := 5) hx hb hts (fun w h => List.mem_cons_of_mem _ (inX2 w h)) tyX2 tyX2_ok nmX2 hown hK hP hD hS 0 rfl rfl 4 (by decide) (hts _ (List.mem_cons_of_mem _ tw_79)) (fun _ h9 => h9) rfl (by decide +kernel) rfl rfl (Nat.le_of_ble_eq_true rfl) dX2_readNumber_121 (fun H locs hP hD hS => ?_)
                have hP : va_P (dC, dI) vwCl [(h, .inr (2, [.ref tp, .ref ip, .ref wd, .int (iI (lf)), .int (iI (x))])), (ip, .inr (0, [.int (iI ((lim : Int))), .ref iq, .int (iI ((n : Int)))])), (iq, .inl (cB, il, .inl (f)))] H := hP
                have hD : va_D A [(h, .inr (2, [.ref tp, .ref ip, .ref wd, .int (iI (lf)), .int (iI (x))])), (ip, .inr (0, [.int (iI ((lim : Int))), .ref iq, .int (iI ((n : Int)))])), (iq, .inl (cB, il, .inl (f)))] := hD
                refine lv_iconst (v := iI (1)) hx hb dX2_readNumber_124 rfl ?_
                exact W.zret (v := iI (1)) hx hb hr (by rfl) (fun t ht hW => ⟨⟨iI (1), (x), rfl, ⟨by rw [hZ1, ← hz]; rfl, by rw [hZ1, ← hz]; rfl⟩, by rw [ht]; exact hP, va_K.moved hW.alike hK, hD⟩, hS.F ht⟩) hS.2.2 dX2_readNumber_125
              · exact absurd cq6 (by omega)
            · exact absurd cq5 (by omega)
          | succ k ih =>
            intro i x ls hk hi0 hz hl
            refine lv_iload hx hb dX2_readNumber_56 (lv_at hl 0 rfl) ?_
            refine lv_iload_n hx hb dX2_readNumber_58 rfl (lv_at hl 6 rfl) ?_
            refine lx_icmp_ge (a := i) (b := st) (tgt := 108) hx hb dX2_readNumber_59 (by decide) (by omega) (by omega) (fun cq7 => ?_) (fun cq7 => ?_)
            · exact absurd cq7 (by omega)
            · refine lv_aload_n hx hb dX2_readNumber_62 rfl (lv_at hl 4 rfl) ?_
              refine va_get (D := (dC, dI)) (ci := 2) (v := .ref ip) (C := "RequestCutter") (T := TX2) (N := 5) hx hb hts (fun w h => List.mem_cons_of_mem _ (inX2 w h)) hown hK hP 0 rfl rfl 1 (by decide) (hts _ (List.mem_cons_of_mem _ tw_76)) (fun _ h9 => h9) rfl dX2_readNumber_63 ?_
              refine lv_iload hx hb dX2_readNumber_66 (lv_at hl 0 rfl) ?_
              have g_at := bA_rg f n (i)
              refine vx_Vs (As := [.int (iI (i))]) (rest := []) (ci := 0) (q0 := 0) [1, 2] ⟨hx, hb, hml, hown, hts⟩ (c_X0_at l dC dI cB cI ip iq lim il n f hc hn (i) (by omega)) (cwV 1 hts (gd_V tw_158 tw_159 tw_160 tw_20 tw_161) rfl rfl rfl (by decide +kernel) ⟨Nat.le_of_ble_eq_true rfl, Nat.le_of_ble_eq_true rfl⟩) hK hP rfl rfl rfl rfl rfl hl.1 rfl (Nat.le_of_ble_eq_true rfl) dX2_readNumber_68 ⟨Nat.zero_le _, Nat.zero_le _⟩ (fun r hr => ?_)
              obtain rfl : r = iI (bA f n (i)) := hr
              refine lv_istore (lv' := [(7, .int (iI (bA f n (i)))), (6, .int (iI (i))), (5, .int (iI (x))), (4, .int (iI (fr))), (3, .int (iI (0))), (0, .ref h), (1, .int (iI (fr))), (2, .int (iI (st)))]) hx hb dX2_readNumber_71 hl (by decide) rfl (fun ls hl => ?_)
              refine lv_iload hx hb dX2_readNumber_73 (lv_at hl 0 rfl) ?_
              refine lv_bipush (v := iI (48)) hx hb dX2_readNumber_75 (by decide) ?_
              refine lx_icmp_lt (a := bA f n (i)) (b := 48) (tgt := 87) hx hb dX2_readNumber_77 (by decide) (by omega) (by omega) (fun cq8 => ?_) (fun cq8 => ?_)
              · refine lv_iconst (v := iI (0)) hx hb dX2_readNumber_87 rfl ?_
                have hn : Z = none := by rw [← hz]; exact if_pos (by omega)
                exact W.zret (v := iI (0)) hx hb hr (by rfl) (fun t ht hW => ⟨⟨iI (0), ln, rfl, ⟨by rw [hZ1, hn]; rfl, by rw [hZ1, hn]; rfl⟩, by rw [ht]; exact hP, va_K.moved hW.alike hK, hD⟩, hS.F ht⟩) hS.2.2 dX2_readNumber_88
              · refine lv_iload hx hb dX2_readNumber_80 (lv_at hl 0 rfl) ?_
                refine lv_bipush (v := iI (57)) hx hb dX2_readNumber_82 (by decide) ?_
                refine lx_icmp_le (a := bA f n (i)) (b := 57) (tgt := 89) hx hb dX2_readNumber_84 (by decide) (by omega) (by omega) (fun cq9 => ?_) (fun cq9 => ?_)
                · refine lv_iload hx hb dX2_readNumber_89 (lv_at hl 2 rfl) ?_
                  refine lv_bipush (v := iI (10)) hx hb dX2_readNumber_91 (by decide) ?_
                  refine lx_imul (a := x) (b := 10) hx hb dX2_readNumber_93 ?_
                  refine lv_iload hx hb dX2_readNumber_94 (lv_at hl 0 rfl) ?_
                  refine lv_bipush (v := iI (48)) hx hb dX2_readNumber_96 (by decide) ?_
                  refine lx_isub (a := bA f n (i)) (b := 48) hx hb dX2_readNumber_98 ?_
                  refine lx_iadd (a := x * 10) (b := (bA f n (i)) - 48) hx hb dX2_readNumber_99 ?_
                  refine lv_istore (lv' := [(5, .int (iI ((x * 10) + ((bA f n (i)) - 48)))), (7, .int (iI (bA f n (i)))), (6, .int (iI (i))), (4, .int (iI (fr))), (3, .int (iI (0))), (0, .ref h), (1, .int (iI (fr))), (2, .int (iI (st)))]) hx hb dX2_readNumber_100 hl (by decide) rfl (fun ls hl => ?_)
                  refine lv_iinc (v := iI (i + 1)) (lv' := [(6, .int (iI (i + 1))), (5, .int (iI ((x * 10) + ((bA f n (i)) - 48)))), (7, .int (iI (bA f n (i)))), (4, .int (iI (fr))), (3, .int (iI (0))), (0, .ref h), (1, .int (iI (fr))), (2, .int (iI (st)))]) hx hb dX2_readNumber_102 hl (k := 2) rfl (iI_add _ _) (by decide) rfl (fun ls hl => ?_)
                  refine lv_goto (tgt := 56) hx hb dX2_readNumber_105 (by decide) ?_
                  exact ih (i + 1) ((x * 10) + ((bA f n (i)) - 48)) ls (by omega) (by omega) (by rw [← hz]; exact (if_neg (by omega)).symm) (lv_sub hl [0, 1, 3, 4, 5, 6, 7] rfl)
                · refine lv_iconst (v := iI (0)) hx hb dX2_readNumber_87 rfl ?_
                  have hn : Z = none := by rw [← hz]; exact if_pos (by omega)
                  exact W.zret (v := iI (0)) hx hb hr (by rfl) (fun t ht hW => ⟨⟨iI (0), ln, rfl, ⟨by rw [hZ1, hn]; rfl, by rw [hZ1, hn]; rfl⟩, by rw [ht]; exact hP, va_K.moved hW.alike hK, hD⟩, hS.F ht⟩) hS.2.2 dX2_readNumber_88
        · refine lv_iconst (v := iI (0)) hx hb dX2_readNumber_47 rfl ?_
          have hn : zNum (bA f n) fr st = none := zNum_0 (by rw [if_neg (by omega)]; omega)
          exact W.zret (v := iI (0)) hx hb hr (by rfl) (fun t ht hW => ⟨⟨iI (0), ln, rfl, ⟨by rw [hn]; rfl, by rw [hn]; rfl⟩, by rw [ht]; exact hP, va_K.moved hW.alike hK, hD⟩, hS.F ht⟩) hS.2.2 dX2_readNumber_48
    · exact absurd cq2 (by omega)
  · refine lv_iconst (v := iI (1)) hx hb dX2_readNumber_13 rfl ?_
    refine lv_goto (tgt := 18) hx hb dX2_readNumber_14 (by decide) ?_
    refine lv_istore_n (lv' := [(3, .int (iI (1))), (0, .ref h), (1, .int (iI (fr))), (2, .int (iI (st)))]) hx hb dX2_readNumber_18 rfl hl (by decide) rfl (fun ls hl => ?_)
    refine lv_iload_n hx hb dX2_readNumber_19 rfl (lv_at hl 0 rfl) ?_
    refine lx_if_eq (a := 1) (tgt := 29) hx hb dX2_readNumber_20 (by decide) (by omega) (fun cq10 => ?_) (fun cq10 => ?_)
    · exact absurd cq10 (by omega)
    · refine lv_iload_n hx hb dX2_readNumber_23 rfl (lv_at hl 2 rfl) ?_
      refine lv_iconst (v := iI (1)) hx hb dX2_readNumber_24 rfl ?_
      refine lx_iadd (a := fr) (b := 1) hx hb dX2_readNumber_25 ?_
      refine lv_goto (tgt := 30) hx hb dX2_readNumber_26 (by decide) ?_
      refine lv_istore (lv' := [(4, .int (iI (fr + 1))), (3, .int (iI (1))), (0, .ref h), (1, .int (iI (fr))), (2, .int (iI (st)))]) hx hb dX2_readNumber_30 hl (by decide) rfl (fun ls hl => ?_)
      refine lv_iload_n hx hb dX2_readNumber_32 rfl (lv_at hl 4 rfl) ?_
      refine lv_iload hx hb dX2_readNumber_33 (lv_at hl 0 rfl) ?_
      refine lx_icmp_le (a := st) (b := fr + 1) (tgt := 47) hx hb dX2_readNumber_35 (by decide) (by omega) (by omega) (fun cq11 => ?_) (fun cq11 => ?_)
      · refine lv_iconst (v := iI (0)) hx hb dX2_readNumber_47 rfl ?_
        have hn : zNum (bA f n) fr st = none := zNum_0 (by rw [if_pos (by omega)]; omega)
        exact W.zret (v := iI (0)) hx hb hr (by rfl) (fun t ht hW => ⟨⟨iI (0), ln, rfl, ⟨by rw [hn]; rfl, by rw [hn]; rfl⟩, by rw [ht]; exact hP, va_K.moved hW.alike hK, hD⟩, hS.F ht⟩) hS.2.2 dX2_readNumber_48
      · refine lv_iload_n hx hb dX2_readNumber_38 rfl (lv_at hl 4 rfl) ?_
        refine lv_iload hx hb dX2_readNumber_39 (lv_at hl 0 rfl) ?_
        refine lx_isub (a := st) (b := fr + 1) hx hb dX2_readNumber_41 ?_
        refine lv_bipush (v := iI (6)) hx hb dX2_readNumber_42 (by decide) ?_
        refine lx_icmp_le (a := st - (fr + 1)) (b := 6) (tgt := 49) hx hb dX2_readNumber_44 (by decide) (by omega) (by omega) (fun cq12 => ?_) (fun cq12 => ?_)
        · refine lv_iconst (v := iI (0)) hx hb dX2_readNumber_49 rfl ?_
          refine lv_istore (lv' := [(5, .int (iI (0))), (4, .int (iI (fr + 1))), (3, .int (iI (1))), (0, .ref h), (1, .int (iI (fr))), (2, .int (iI (st)))]) hx hb dX2_readNumber_50 hl (by decide) rfl (fun ls hl => ?_)
          refine lv_iload hx hb dX2_readNumber_52 (lv_at hl 1 rfl) ?_
          refine lv_istore (lv' := [(6, .int (iI (fr + 1))), (5, .int (iI (0))), (4, .int (iI (fr + 1))), (3, .int (iI (1))), (0, .ref h), (1, .int (iI (fr))), (2, .int (iI (st)))]) hx hb dX2_readNumber_54 hl (by decide) rfl (fun ls hl => ?_)
          obtain ⟨Z, hZ⟩ : ∃ Z, Z = zDig (bA f n) (st - (fr + 1)).toNat (fr + 1) 0 := ⟨_, rfl⟩
          have hZ1 : zNum (bA f n) fr st = Z.map (fun x => -x) := by rw [hZ]; exact zNum_m (by omega) (by omega)
          refine (?_ : ∀ (k : Nat) (i : Int) (x : Int) (ls : Array Slot), i + k = st → 0 ≤ i → zDig (bA f n) k i x = Z → lv_has ls 8 [(6, .int (iI (i))), (5, .int (iI (x))), (4, .int (iI (fr + 1))), (3, .int (iI (1))), (0, .ref h), (1, .int (iI (fr))), (2, .int (iI (st)))] → W p l e _ s m _ below meth c _ _ _ _ _ (F0 m 56 ls [])) ((st - (fr + 1)).toNat) (fr + 1) (0) ls (by omega) (by omega) (hZ.symm) (lv_sub hl [0, 1, 2, 3, 4, 5, 6] rfl)
          intro k
          induction k with
          | zero =>
            intro i x ls hk hi0 hz hl
            refine lv_iload hx hb dX2_readNumber_56 (lv_at hl 0 rfl) ?_
            refine lv_iload_n hx hb dX2_readNumber_58 rfl (lv_at hl 6 rfl) ?_
            refine lx_icmp_ge (a := i) (b := st) (tgt := 108) hx hb dX2_readNumber_59 (by decide) (by omega) (by omega) (fun cq13 => ?_) (fun cq13 => ?_)
            · refine lv_aload_n hx hb dX2_readNumber_108 rfl (lv_at hl 4 rfl) ?_
              refine lv_iload_n hx hb dX2_readNumber_109 rfl (lv_at hl 3 rfl) ?_
              refine lx_if_eq (a := 1) (tgt := 119) hx hb dX2_readNumber_110 (by decide) (by omega) (fun cq14 => ?_) (fun cq14 => ?_)
              · exact absurd cq14 (by omega)
              · refine lv_iload hx hb dX2_readNumber_113 (lv_at hl 1 rfl) ?_
                refine lx_ineg (a := x) hx hb dX2_readNumber_115 ?_
                refine lv_goto (tgt := 121) hx hb dX2_readNumber_116 (by decide) ?_
                refine va_put (D := (dC, dI)) (ci := 2) (v := .int (iI (-(x)))) (ty := .int) (C := "RequestCutter") (T := TX2) (N := 5) hx hb hts (fun w h => List.mem_cons_of_mem _ (inX2 w h)) tyX2 tyX2_ok nmX2 hown hK hP hD hS 0 rfl rfl 4 (by decide) (hts _ (List.mem_cons_of_mem _ tw_79)) (fun _ h9 => h9) rfl (by decide +kernel) rfl rfl (Nat.le_of_ble_eq_true rfl) dX2_readNumber_121 (fun H locs hP hD hS => ?_)
                have hP : va_P (dC, dI) vwCl [(h, .inr (2, [.ref tp, .ref ip, .ref wd, .int (iI (lf)), .int (iI (-(x)))])), (ip, .inr (0, [.int (iI ((lim : Int))), .ref iq, .int (iI ((n : Int)))])), (iq, .inl (cB, il, .inl (f)))] H := hP
                have hD : va_D A [(h, .inr (2, [.ref tp, .ref ip, .ref wd, .int (iI (lf)), .int (iI (-(x)))])), (ip, .inr (0, [.int (iI ((lim : Int))), .ref iq, .int (iI ((n : Int)))])), (iq, .inl (cB, il, .inl (f)))] := hD
                refine lv_iconst (v := iI (1)) hx hb dX2_readNumber_124 rfl ?_
                exact W.zret (v := iI (1)) hx hb hr (by rfl) (fun t ht hW => ⟨⟨iI (1), (-(x)), rfl, ⟨by rw [hZ1, ← hz]; rfl, by rw [hZ1, ← hz]; rfl⟩, by rw [ht]; exact hP, va_K.moved hW.alike hK, hD⟩, hS.F ht⟩) hS.2.2 dX2_readNumber_125
            · exact absurd cq13 (by omega)
          | succ k ih =>
            intro i x ls hk hi0 hz hl
            refine lv_iload hx hb dX2_readNumber_56 (lv_at hl 0 rfl) ?_
            refine lv_iload_n hx hb dX2_readNumber_58 rfl (lv_at hl 6 rfl) ?_
            refine lx_icmp_ge (a := i) (b := st) (tgt := 108) hx hb dX2_readNumber_59 (by decide) (by omega) (by omega) (fun cq15 => ?_) (fun cq15 => ?_)
            · exact absurd cq15 (by omega)
            · refine lv_aload_n hx hb dX2_readNumber_62 rfl (lv_at hl 4 rfl) ?_
              refine va_get (D := (dC, dI)) (ci := 2) (v := .ref ip) (C := "RequestCutter") (T := TX2) (N := 5) hx hb hts (fun w h => List.mem_cons_of_mem _ (inX2 w h)) hown hK hP 0 rfl rfl 1 (by decide) (hts _ (List.mem_cons_of_mem _ tw_76)) (fun _ h9 => h9) rfl dX2_readNumber_63 ?_
              refine lv_iload hx hb dX2_readNumber_66 (lv_at hl 0 rfl) ?_
              have g_at := bA_rg f n (i)
              refine vx_Vs (As := [.int (iI (i))]) (rest := []) (ci := 0) (q0 := 0) [1, 2] ⟨hx, hb, hml, hown, hts⟩ (c_X0_at l dC dI cB cI ip iq lim il n f hc hn (i) (by omega)) (cwV 1 hts (gd_V tw_158 tw_159 tw_160 tw_20 tw_161) rfl rfl rfl (by decide +kernel) ⟨Nat.le_of_ble_eq_true rfl, Nat.le_of_ble_eq_true rfl⟩) hK hP rfl rfl rfl rfl rfl hl.1 rfl (Nat.le_of_ble_eq_true rfl) dX2_readNumber_68 ⟨Nat.zero_le _, Nat.zero_le _⟩ (fun r hr => ?_)
              obtain rfl : r = iI (bA f n (i)) := hr
              refine lv_istore (lv' := [(7, .int (iI (bA f n (i)))), (6, .int (iI (i))), (5, .int (iI (x))), (4, .int (iI (fr + 1))), (3, .int (iI (1))), (0, .ref h), (1, .int (iI (fr))), (2, .int (iI (st)))]) hx hb dX2_readNumber_71 hl (by decide) rfl (fun ls hl => ?_)
              refine lv_iload hx hb dX2_readNumber_73 (lv_at hl 0 rfl) ?_
              refine lv_bipush (v := iI (48)) hx hb dX2_readNumber_75 (by decide) ?_
              refine lx_icmp_lt (a := bA f n (i)) (b := 48) (tgt := 87) hx hb dX2_readNumber_77 (by decide) (by omega) (by omega) (fun cq16 => ?_) (fun cq16 => ?_)
              · refine lv_iconst (v := iI (0)) hx hb dX2_readNumber_87 rfl ?_
                have hn : Z = none := by rw [← hz]; exact if_pos (by omega)
                exact W.zret (v := iI (0)) hx hb hr (by rfl) (fun t ht hW => ⟨⟨iI (0), ln, rfl, ⟨by rw [hZ1, hn]; rfl, by rw [hZ1, hn]; rfl⟩, by rw [ht]; exact hP, va_K.moved hW.alike hK, hD⟩, hS.F ht⟩) hS.2.2 dX2_readNumber_88
              · refine lv_iload hx hb dX2_readNumber_80 (lv_at hl 0 rfl) ?_
                refine lv_bipush (v := iI (57)) hx hb dX2_readNumber_82 (by decide) ?_
                refine lx_icmp_le (a := bA f n (i)) (b := 57) (tgt := 89) hx hb dX2_readNumber_84 (by decide) (by omega) (by omega) (fun cq17 => ?_) (fun cq17 => ?_)
                · refine lv_iload hx hb dX2_readNumber_89 (lv_at hl 2 rfl) ?_
                  refine lv_bipush (v := iI (10)) hx hb dX2_readNumber_91 (by decide) ?_
                  refine lx_imul (a := x) (b := 10) hx hb dX2_readNumber_93 ?_
                  refine lv_iload hx hb dX2_readNumber_94 (lv_at hl 0 rfl) ?_
                  refine lv_bipush (v := iI (48)) hx hb dX2_readNumber_96 (by decide) ?_
                  refine lx_isub (a := bA f n (i)) (b := 48) hx hb dX2_readNumber_98 ?_
                  refine lx_iadd (a := x * 10) (b := (bA f n (i)) - 48) hx hb dX2_readNumber_99 ?_
                  refine lv_istore (lv' := [(5, .int (iI ((x * 10) + ((bA f n (i)) - 48)))), (7, .int (iI (bA f n (i)))), (6, .int (iI (i))), (4, .int (iI (fr + 1))), (3, .int (iI (1))), (0, .ref h), (1, .int (iI (fr))), (2, .int (iI (st)))]) hx hb dX2_readNumber_100 hl (by decide) rfl (fun ls hl => ?_)
                  refine lv_iinc (v := iI (i + 1)) (lv' := [(6, .int (iI (i + 1))), (5, .int (iI ((x * 10) + ((bA f n (i)) - 48)))), (7, .int (iI (bA f n (i)))), (4, .int (iI (fr + 1))), (3, .int (iI (1))), (0, .ref h), (1, .int (iI (fr))), (2, .int (iI (st)))]) hx hb dX2_readNumber_102 hl (k := 2) rfl (iI_add _ _) (by decide) rfl (fun ls hl => ?_)
                  refine lv_goto (tgt := 56) hx hb dX2_readNumber_105 (by decide) ?_
                  exact ih (i + 1) ((x * 10) + ((bA f n (i)) - 48)) ls (by omega) (by omega) (by rw [← hz]; exact (if_neg (by omega)).symm) (lv_sub hl [0, 1, 3, 4, 5, 6, 7] rfl)
                · refine lv_iconst (v := iI (0)) hx hb dX2_readNumber_87 rfl ?_
                  have hn : Z = none := by rw [← hz]; exact if_pos (by omega)
                  exact W.zret (v := iI (0)) hx hb hr (by rfl) (fun t ht hW => ⟨⟨iI (0), ln, rfl, ⟨by rw [hZ1, hn]; rfl, by rw [hZ1, hn]; rfl⟩, by rw [ht]; exact hP, va_K.moved hW.alike hK, hD⟩, hS.F ht⟩) hS.2.2 dX2_readNumber_88
        · refine lv_iconst (v := iI (0)) hx hb dX2_readNumber_47 rfl ?_
          have hn : zNum (bA f n) fr st = none := zNum_0 (by rw [if_pos (by omega)]; omega)
          exact W.zret (v := iI (0)) hx hb hr (by rfl) (fun t ht hW => ⟨⟨iI (0), ln, rfl, ⟨by rw [hn]; rfl, by rw [hn]; rfl⟩, by rw [ht]; exact hP, va_K.moved hW.alike hK, hD⟩, hS.F ht⟩) hS.2.2 dX2_readNumber_48
set_option maxHeartbeats 4000000 in
set_option maxRecDepth 100000 in
/-- scanLine(from, least, most, faultOfLine) -/
theorem c_X2_scanLine (l : Launch) (dC : Nat → ClassId) (dI : Nat → Nat → Nat) (cB cI : ClassId) (sz : Nat) (h tp ip wd iq lim il n : Nat) (f : Nat → Int32) (lf ln : Int) (hc : n ≤ il) (hn : il ≤ 65536) (hln : -2147483648 ≤ ln ∧ ln ≤ 2147483647) (fr least most ft : Int) (hfr : 0 ≤ fr ∧ fr ≤ 90000) (hle : -2147483648 ≤ least ∧ least ≤ 2147483647) (hmo : -2147483648 ≤ most ∧ most ≤ 2147483647) : Met l yX2_scanLine wX2_scanLine ({ frames := 2, cells := 0, slots := 0, locals := 48 }) (va_Pc [.ref h, .int (iI (fr)), .int (iI (least)), .int (iI (most)), .int (iI (ft))] (vx_B (dC, dI) vwCl [(cB, .byte), (cI, .int)] [(h, .inr (2, [.ref tp, .ref ip, .ref wd, .int (iI (lf)), .int (iI (ln))])), (ip, .inr (0, [.int (iI ((lim : Int))), .ref iq, .int (iI ((n : Int)))])), (iq, .inl (cB, il, .inl (f)))] sz)) (va_Qi (fun (r : Int32) (u : Int × Int) => r = iI (zLine (bA f n) n fr least most).1 ∧ (0 ≤ (zLine (bA f n) n fr least most).1 → u.2 = (zLine (bA f n) n fr least most).2) ∧ (-2147483648 ≤ u.2 ∧ u.2 ≤ 2147483647) ∧ u.1 = (if (zLine (bA f n) n fr least most).1 = -2 then ft else lf)) (fun (u : Int × Int) => vx_E (dC, dI) vwCl [(cB, .byte), (cI, .int)] (va_A [(h, .inr (2, [.ref tp, .ref ip, .ref wd, .int (iI (lf)), .int (iI (ln))])), (ip, .inr (0, [.int (iI ((lim : Int))), .ref iq, .int (iI ((n : Int)))])), (iq, .inl (cB, il, .inl (f)))] sz) [(h, .inr (2, [.ref tp, .ref ip, .ref wd, .int (iI (u.1)), .int (iI (u.2))])), (ip, .inr (0, [.int (iI ((lim : Int))), .ref iq, .int (iI ((n : Int)))])), (iq, .inl (cB, il, .inl (f)))]) (va_A [(h, .inr (2, [.ref tp, .ref ip, .ref wd, .int (iI (lf)), .int (iI (ln))])), (ip, .inr (0, [.int (iI ((lim : Int))), .ref iq, .int (iI ((n : Int)))])), (iq, .inl (cB, il, .inl (f)))] sz)) (0) (0) (va_A [(h, .inr (2, [.ref tp, .ref ip, .ref wd, .int (iI (lf)), .int (iI (ln))])), (ip, .inr (0, [.int (iI ((lim : Int))), .ref iq, .int (iI ((n : Int)))])), (iq, .inl (cB, il, .inl (f)))] sz) := by
  refine Met.ofW (cc := cX2_scanLine) (maxL := 6) (ret := (some .int)) (by decide) rfl ?_
  intro p e s m args below meth c s₁ B hml hv
  obtain ⟨rfl, hsz, hP, hK, hD0⟩ := hv
  have hx := B.exec
  have hb := B.bytes
  have hr := B.returns
  have hts := atoms_spec (ws := wX2_scanLine) B.pre
  have hown : s.vm.findClass "RequestCutter" = some m.cls := findClass_of_methodNamed B.named
  have hlocks := B.notSynchronized
  subst hsz
  have hD := hD0.self (sz := s.heap.size)
  generalize hAe : va_A [(h, .inr (2, [.ref tp, .ref ip, .ref wd, .int (iI (lf)), .int (iI (ln))])), (ip, .inr (0, [.int (iI ((lim : Int))), .ref iq, .int (iI ((n : Int)))])), (iq, .inl (cB, il, .inl (f)))] s.heap.size = A at hD ⊢
  have hA : ∀ q : Nat, s.heap.size ≤ q → A q := fun q h => by rw [← hAe]; exact Or.inr h
  have hS : va_S A s.heap s.heap [] := va_S.rf
  have hP : va_P (dC, dI) vwCl [(h, .inr (2, [.ref tp, .ref ip, .ref wd, .int (iI (lf)), .int (iI (ln))])), (ip, .inr (0, [.int (iI ((lim : Int))), .ref iq, .int (iI ((n : Int)))])), (iq, .inl (cB, il, .inl (f)))] s.heap := hP
  have hl := lv_entry ([.ref h, .int (iI (fr)), .int (iI (least)), .int (iI (most)), .int (iI (ft))]) (n := 6) (Nat.le_of_ble_eq_true rfl)
  rw [lg_entry_eq]
  generalize (lg_sl ([.ref h, .int (iI (fr)), .int (iI (least)), .int (iI (most)), .int (iI (ft))]) ++ List.replicate (6 - (lg_sl ([.ref h, .int (iI (fr)), .int (iI (least)), .int (iI (most)), .int (iI (ft))])).length) Slot.unset).toArray = ls at hl ⊢
  have hl : lv_has ls 6 [(0, .ref h), (1, .int (iI (fr))), (2, .int (iI (least))), (3, .int (iI (most))), (4, .int (iI (ft)))] := hl
  refine lv_aload_n hx hb dX2_scanLine_0 rfl (lv_at hl 0 rfl) ?_
  refine lv_iload_n hx hb dX2_scanLine_1 rfl (lv_at hl 1 rfl) ?_
  have gS := zStop_rg (bA f n) fr
  refine vx_Vs (As := [.int (iI (fr))]) (rest := []) (ci := 2) (q0 := 0) [0, 1, 2] ⟨hx, hb, hml, hown, hts⟩ (c_X2_findLineStop l dC dI cB cI h tp ip wd iq lim il n f lf ln hc hn fr (by omega)) (cwV 1 hts (gd_V tw_171 tw_173 tw_2 tw_19 tw_174) rfl rfl rfl (by decide +kernel) ⟨Nat.le_of_ble_eq_true rfl, Nat.le_of_ble_eq_true rfl⟩) hK hP rfl rfl rfl rfl rfl hl.1 rfl (Nat.le_of_ble_eq_true rfl) dX2_scanLine_2 ⟨Nat.zero_le _, Nat.zero_le _⟩ (fun r hr => ?_)
  obtain rfl : r = iI (zStop (bA f n) fr) := hr
  refine lv_istore (lv' := [(5, .int (iI (zStop (bA f n) fr))), (0, .ref h), (1, .int (iI (fr))), (2, .int (iI (least))), (3, .int (iI (most))), (4, .int (iI (ft)))]) hx hb dX2_scanLine_5 hl (by decide) rfl (fun ls hl => ?_)
  refine lv_iload hx hb dX2_scanLine_7 (lv_at hl 0 rfl) ?_
  refine lv_iconst (v := iI (-1)) hx hb dX2_scanLine_9 rfl ?_
  refine lx_icmp_ne (a := zStop (bA f n) fr) (b := -1) (tgt := 38) hx hb dX2_scanLine_10 (by decide) (by omega) (by omega) (fun cq1 => ?_) (fun cq1 => ?_)
  · refine lv_aload_n hx hb dX2_scanLine_38 rfl (lv_at hl 1 rfl) ?_
    refine lv_iload_n hx hb dX2_scanLine_39 rfl (lv_at hl 2 rfl) ?_
    refine lv_iconst (v := iI (1)) hx hb dX2_scanLine_40 rfl ?_
    refine lx_iadd (a := fr) (b := 1) hx hb dX2_scanLine_41 ?_
    refine lv_iload hx hb dX2_scanLine_42 (lv_at hl 0 rfl) ?_
    refine vx_Vi (As := [.int (iI (fr + 1)), .int (iI (zStop (bA f n) fr))]) (rest := []) (wr := []) (ci := 2) (q0 := 0) [0, 1, 2] [] ⟨hx, hb, hml, hown, hts⟩ (c_X2_readNumber l dC dI cB cI _ h tp ip wd iq lim il n f lf ln hc hn (fr + 1) (zStop (bA f n) fr) (by omega) (by omega)) (cwV 2 hts (gd_V tw_179 tw_181 tw_4 tw_19 tw_182) rfl rfl rfl (by decide +kernel) ⟨Nat.le_of_ble_eq_true rfl, Nat.le_of_ble_eq_true rfl⟩) hK hP hD hS hA rfl rfl rfl rfl (by decide) rfl rfl rfl rfl hl.1 rfl (Nat.le_of_ble_eq_true rfl) dX2_scanLine_44 ⟨Nat.zero_le _, Nat.zero_le _⟩ (fun r u H locs hw hP hD hS => ?_)
    obtain ⟨z, rfl⟩ : ∃ z, z = u := ⟨_, rfl⟩
    try dsimp only at hw hP hD
    obtain ⟨hr1, hz1⟩ := hw
    have hP : va_P (dC, dI) vwCl [(h, .inr (2, [.ref tp, .ref ip, .ref wd, .int (iI (lf)), .int (iI (z))])), (ip, .inr (0, [.int (iI ((lim : Int))), .ref iq, .int (iI ((n : Int)))])), (iq, .inl (cB, il, .inl (f)))] H := hP.sub [0, 1, 2] rfl
    have hD : va_D A [(h, .inr (2, [.ref tp, .ref ip, .ref wd, .int (iI (lf)), .int (iI (z))])), (ip, .inr (0, [.int (iI ((lim : Int))), .ref iq, .int (iI ((n : Int)))])), (iq, .inl (cB, il, .inl (f)))] := hD.sub [0, 1, 2] (by decide) rfl
    obtain ⟨b1, hb1, rfl⟩ := bo_of hr1
    have gz : -2147483648 ≤ z ∧ z ≤ 2147483647 := by rw [hz1]; exact zNum_d hln
    refine lx_if_eq (a := b1) (tgt := 66) hx hb dX2_scanLine_47 (by decide) (by omega) (fun cq2 => ?_) (fun cq2 => ?_)
    · refine lv_aload_n hx hb dX2_scanLine_66 rfl (lv_at hl 1 rfl) ?_
      refine lv_iload hx hb dX2_scanLine_67 (lv_at hl 5 rfl) ?_
      refine vx_Vi (As := [.int (iI (ft))]) (rest := []) (wr := [(ip, .inr (0, [.int (iI ((lim : Int))), .ref iq, .int (iI ((n : Int)))])), (iq, .inl (cB, il, .inl (f)))]) (ci := 2) (q0 := 0) [0] [1, 2] ⟨hx, hb, hml, hown, hts⟩ (c_X2_tell l dC dI cB cI _ h tp ip wd (lf) (z) (ft)) (cwV 1 hts (gd_V tw_175 tw_177 tw_3 tw_19 tw_178) rfl rfl rfl (by decide +kernel) ⟨Nat.le_of_ble_eq_true rfl, Nat.le_of_ble_eq_true rfl⟩) hK hP hD hS hA rfl rfl rfl rfl (by decide) rfl rfl rfl rfl hl.1 rfl (Nat.le_of_ble_eq_true rfl) dX2_scanLine_69 ⟨Nat.zero_le _, Nat.zero_le _⟩ (fun r u H locs hw hP hD hS => ?_)
      obtain - := u
      try dsimp only at hw hP hD
      obtain rfl := hw
      have hP : va_P (dC, dI) vwCl [(h, .inr (2, [.ref tp, .ref ip, .ref wd, .int (iI (ft)), .int (iI (z))])), (ip, .inr (0, [.int (iI ((lim : Int))), .ref iq, .int (iI ((n : Int)))])), (iq, .inl (cB, il, .inl (f)))] H := hP.sub [2, 0, 1] rfl
      have hD : va_D A [(h, .inr (2, [.ref tp, .ref ip, .ref wd, .int (iI (ft)), .int (iI (z))])), (ip, .inr (0, [.int (iI ((lim : Int))), .ref iq, .int (iI ((n : Int)))])), (iq, .inl (cB, il, .inl (f)))] := hD.sub [2, 0, 1] (by decide) rfl
      have hL : (zLine (bA f n) n fr least most) = (-2, 0) := by
        by_cases q : (zNum (bA f n) (fr + 1) (zStop (bA f n) fr)).isSome = true
        · exact zLine_3 (by omega) q hz1 (by rcases hb1 with ⟨_, e⟩ | ⟨q2, _⟩; (first | omega | exact absurd q q2); exact absurd q q2)
        · exact zLine_2 (by omega) q
      exact W.iret (v := iI (-2)) hx hb hr (fun t ht hW => ⟨⟨iI (-2), (ft, z), rfl, ⟨by rw [hL], fun q => by rw [hL] at q; exact absurd q (by decide), gz, by rw [hL]; exact (if_pos rfl).symm⟩, by rw [ht]; exact hP, va_K.moved hW.alike hK, hD⟩, hS.F ht⟩) hS.2.2 dX2_scanLine_72
    · refine lv_aload_n hx hb dX2_scanLine_50 rfl (lv_at hl 1 rfl) ?_
      refine va_get (D := (dC, dI)) (ci := 2) (v := .int (iI (z))) (C := "RequestCutter") (T := TX2) (N := 5) hx hb hts (fun w h => List.mem_cons_of_mem _ (inX2 w h)) hown hK hP 0 rfl rfl 4 (by decide) (hts _ (List.mem_cons_of_mem _ tw_79)) (fun _ h9 => h9) rfl dX2_scanLine_51 ?_
      refine lv_iload_n hx hb dX2_scanLine_54 rfl (lv_at hl 3 rfl) ?_
      refine lx_icmp_lt (a := z) (b := least) (tgt := 66) hx hb dX2_scanLine_55 (by decide) (by omega) (by omega) (fun cq3 => ?_) (fun cq3 => ?_)
      · refine lv_aload_n hx hb dX2_scanLine_66 rfl (lv_at hl 1 rfl) ?_
        refine lv_iload hx hb dX2_scanLine_67 (lv_at hl 5 rfl) ?_
        refine vx_Vi (As := [.int (iI (ft))]) (rest := []) (wr := [(ip, .inr (0, [.int (iI ((lim : Int))), .ref iq, .int (iI ((n : Int)))])), (iq, .inl (cB, il, .inl (f)))]) (ci := 2) (q0 := 0) [0] [1, 2] ⟨hx, hb, hml, hown, hts⟩ (c_X2_tell l dC dI cB cI _ h tp ip wd (lf) (z) (ft)) (cwV 1 hts (gd_V tw_175 tw_177 tw_3 tw_19 tw_178) rfl rfl rfl (by decide +kernel) ⟨Nat.le_of_ble_eq_true rfl, Nat.le_of_ble_eq_true rfl⟩) hK hP hD hS hA rfl rfl rfl rfl (by decide) rfl rfl rfl rfl hl.1 rfl (Nat.le_of_ble_eq_true rfl) dX2_scanLine_69 ⟨Nat.zero_le _, Nat.zero_le _⟩ (fun r u H locs hw hP hD hS => ?_)
        obtain - := u
        try dsimp only at hw hP hD
        obtain rfl := hw
        have hP : va_P (dC, dI) vwCl [(h, .inr (2, [.ref tp, .ref ip, .ref wd, .int (iI (ft)), .int (iI (z))])), (ip, .inr (0, [.int (iI ((lim : Int))), .ref iq, .int (iI ((n : Int)))])), (iq, .inl (cB, il, .inl (f)))] H := hP.sub [2, 0, 1] rfl
        have hD : va_D A [(h, .inr (2, [.ref tp, .ref ip, .ref wd, .int (iI (ft)), .int (iI (z))])), (ip, .inr (0, [.int (iI ((lim : Int))), .ref iq, .int (iI ((n : Int)))])), (iq, .inl (cB, il, .inl (f)))] := hD.sub [2, 0, 1] (by decide) rfl
        have hL : (zLine (bA f n) n fr least most) = (-2, 0) := by
          by_cases q : (zNum (bA f n) (fr + 1) (zStop (bA f n) fr)).isSome = true
          · exact zLine_3 (by omega) q hz1 (by rcases hb1 with ⟨_, e⟩ | ⟨q2, _⟩; (first | omega | exact absurd q q2); exact absurd q q2)
          · exact zLine_2 (by omega) q
        exact W.iret (v := iI (-2)) hx hb hr (fun t ht hW => ⟨⟨iI (-2), (ft, z), rfl, ⟨by rw [hL], fun q => by rw [hL] at q; exact absurd q (by decide), gz, by rw [hL]; exact (if_pos rfl).symm⟩, by rw [ht]; exact hP, va_K.moved hW.alike hK, hD⟩, hS.F ht⟩) hS.2.2 dX2_scanLine_72
      · refine lv_aload_n hx hb dX2_scanLine_58 rfl (lv_at hl 1 rfl) ?_
        refine va_get (D := (dC, dI)) (ci := 2) (v := .int (iI (z))) (C := "RequestCutter") (T := TX2) (N := 5) hx hb hts (fun w h => List.mem_cons_of_mem _ (inX2 w h)) hown hK hP 0 rfl rfl 4 (by decide) (hts _ (List.mem_cons_of_mem _ tw_79)) (fun _ h9 => h9) rfl dX2_scanLine_59 ?_
        refine lv_iload_n hx hb dX2_scanLine_62 rfl (lv_at hl 4 rfl) ?_
        refine lx_icmp_le (a := z) (b := most) (tgt := 73) hx hb dX2_scanLine_63 (by decide) (by omega) (by omega) (fun cq4 => ?_) (fun cq4 => ?_)
        · refine lv_iload hx hb dX2_scanLine_73 (lv_at hl 0 rfl) ?_
          refine lv_iconst (v := iI (2)) hx hb dX2_scanLine_75 rfl ?_
          refine lx_iadd (a := zStop (bA f n) fr) (b := 2) hx hb dX2_scanLine_76 ?_
          have hL : (zLine (bA f n) n fr least most) = (zStop (bA f n) fr + 2, z) := zLine_4 (by omega) (by rcases hb1 with ⟨q, _⟩ | ⟨_, e⟩; exact q; omega) hz1 (by omega)
          exact W.iret (v := iI ((zStop (bA f n) fr) + 2)) hx hb hr (fun t ht hW => ⟨⟨iI ((zStop (bA f n) fr) + 2), (lf, z), rfl, ⟨by rw [hL], fun q => by rw [hL], gz, by rw [hL]; exact (if_neg (by omega)).symm⟩, by rw [ht]; exact hP, va_K.moved hW.alike hK, hD⟩, hS.F ht⟩) hS.2.2 dX2_scanLine_77
        · refine lv_aload_n hx hb dX2_scanLine_66 rfl (lv_at hl 1 rfl) ?_
          refine lv_iload hx hb dX2_scanLine_67 (lv_at hl 5 rfl) ?_
          refine vx_Vi (As := [.int (iI (ft))]) (rest := []) (wr := [(ip, .inr (0, [.int (iI ((lim : Int))), .ref iq, .int (iI ((n : Int)))])), (iq, .inl (cB, il, .inl (f)))]) (ci := 2) (q0 := 0) [0] [1, 2] ⟨hx, hb, hml, hown, hts⟩ (c_X2_tell l dC dI cB cI _ h tp ip wd (lf) (z) (ft)) (cwV 1 hts (gd_V tw_175 tw_177 tw_3 tw_19 tw_178) rfl rfl rfl (by decide +kernel) ⟨Nat.le_of_ble_eq_true rfl, Nat.le_of_ble_eq_true rfl⟩) hK hP hD hS hA rfl rfl rfl rfl (by decide) rfl rfl rfl rfl hl.1 rfl (Nat.le_of_ble_eq_true rfl) dX2_scanLine_69 ⟨Nat.zero_le _, Nat.zero_le _⟩ (fun r u H locs hw hP hD hS => ?_)
          obtain - := u
          try dsimp only at hw hP hD
          obtain rfl := hw
          have hP : va_P (dC, dI) vwCl [(h, .inr (2, [.ref tp, .ref ip, .ref wd, .int (iI (ft)), .int (iI (z))])), (ip, .inr (0, [.int (iI ((lim : Int))), .ref iq, .int (iI ((n : Int)))])), (iq, .inl (cB, il, .inl (f)))] H := hP.sub [2, 0, 1] rfl
          have hD : va_D A [(h, .inr (2, [.ref tp, .ref ip, .ref wd, .int (iI (ft)), .int (iI (z))])), (ip, .inr (0, [.int (iI ((lim : Int))), .ref iq, .int (iI ((n : Int)))])), (iq, .inl (cB, il, .inl (f)))] := hD.sub [2, 0, 1] (by decide) rfl
          have hL : (zLine (bA f n) n fr least most) = (-2, 0) := by
            by_cases q : (zNum (bA f n) (fr + 1) (zStop (bA f n) fr)).isSome = true
            · exact zLine_3 (by omega) q hz1 (by rcases hb1 with ⟨_, e⟩ | ⟨q2, _⟩; (first | omega | exact absurd q q2); exact absurd q q2)
            · exact zLine_2 (by omega) q
          exact W.iret (v := iI (-2)) hx hb hr (fun t ht hW => ⟨⟨iI (-2), (ft, z), rfl, ⟨by rw [hL], fun q => by rw [hL] at q; exact absurd q (by decide), gz, by rw [hL]; exact (if_pos rfl).symm⟩, by rw [ht]; exact hP, va_K.moved hW.alike hK, hD⟩, hS.F ht⟩) hS.2.2 dX2_scanLine_72
  · refine lv_aload_n hx hb dX2_scanLine_13 rfl (lv_at hl 1 rfl) ?_
    refine va_get (D := (dC, dI)) (ci := 2) (v := .ref ip) (C := "RequestCutter") (T := TX2) (N := 5) hx hb hts (fun w h => List.mem_cons_of_mem _ (inX2 w h)) hown hK hP 0 rfl rfl 1 (by decide) (hts _ (List.mem_cons_of_mem _ tw_76)) (fun _ h9 => h9) rfl dX2_scanLine_14 ?_
    refine vx_Vs (As := []) (rest := []) (ci := 0) (q0 := 0) [1] ⟨hx, hb, hml, hown, hts⟩ (c_X0_count l dC dI cB cI ip iq lim n) (cwV 0 hts (gd_V tw_135 tw_136 tw_137 tw_20 tw_138) rfl rfl rfl (by decide +kernel) ⟨Nat.le_of_ble_eq_true rfl, Nat.le_of_ble_eq_true rfl⟩) hK hP rfl rfl rfl rfl rfl hl.1 rfl (Nat.le_of_ble_eq_true rfl) dX2_scanLine_17 ⟨Nat.zero_le _, Nat.zero_le _⟩ (fun r hr => ?_)
    obtain rfl : r = iI ((n : Int)) := hr
    refine lv_iload_n hx hb dX2_scanLine_20 rfl (lv_at hl 2 rfl) ?_
    refine lx_isub (a := (n : Int)) (b := fr) hx hb dX2_scanLine_21 ?_
    refine lv_bipush (v := iI (16)) hx hb dX2_scanLine_22 (by decide) ?_
    refine lx_icmp_lt (a := ((n : Int)) - fr) (b := 16) (tgt := 36) hx hb dX2_scanLine_24 (by decide) (by omega) (by omega) (fun cq5 => ?_) (fun cq5 => ?_)
    · refine lv_iconst (v := iI (-1)) hx hb dX2_scanLine_36 rfl ?_
      have hL : (zLine (bA f n) n fr least most) = (-1, 0) := by rw [zLine_1 (by omega), if_neg (by omega)]
      exact W.iret (v := iI (-1)) hx hb hr (fun t ht hW => ⟨⟨iI (-1), (lf, ln), rfl, ⟨by rw [hL], fun q => by rw [hL] at q; exact absurd q (by decide), hln, by rw [hL]; exact (if_neg (by decide)).symm⟩, by rw [ht]; exact hP, va_K.moved hW.alike hK, hD⟩, hS.F ht⟩) hS.2.2 dX2_scanLine_37
    · refine lv_aload_n hx hb dX2_scanLine_27 rfl (lv_at hl 1 rfl) ?_
      refine lv_iload hx hb dX2_scanLine_28 (lv_at hl 5 rfl) ?_
      refine vx_Vi (As := [.int (iI (ft))]) (rest := []) (wr := [(ip, .inr (0, [.int (iI ((lim : Int))), .ref iq, .int (iI ((n : Int)))])), (iq, .inl (cB, il, .inl (f)))]) (ci := 2) (q0 := 0) [0] [1, 2] ⟨hx, hb, hml, hown, hts⟩ (c_X2_tell l dC dI cB cI _ h tp ip wd (lf) (ln) (ft)) (cwV 1 hts (gd_V tw_175 tw_177 tw_3 tw_19 tw_178) rfl rfl rfl (by decide +kernel) ⟨Nat.le_of_ble_eq_true rfl, Nat.le_of_ble_eq_true rfl⟩) hK hP hD hS hA rfl rfl rfl rfl (by decide) rfl rfl rfl rfl hl.1 rfl (Nat.le_of_ble_eq_true rfl) dX2_scanLine_30 ⟨Nat.zero_le _, Nat.zero_le _⟩ (fun r u H locs hw hP hD hS => ?_)
      obtain - := u
      try dsimp only at hw hP hD
      obtain rfl := hw
      have hP : va_P (dC, dI) vwCl [(h, .inr (2, [.ref tp, .ref ip, .ref wd, .int (iI (ft)), .int (iI (ln))])), (ip, .inr (0, [.int (iI ((lim : Int))), .ref iq, .int (iI ((n : Int)))])), (iq, .inl (cB, il, .inl (f)))] H := hP.sub [2, 0, 1] rfl
      have hD : va_D A [(h, .inr (2, [.ref tp, .ref ip, .ref wd, .int (iI (ft)), .int (iI (ln))])), (ip, .inr (0, [.int (iI ((lim : Int))), .ref iq, .int (iI ((n : Int)))])), (iq, .inl (cB, il, .inl (f)))] := hD.sub [2, 0, 1] (by decide) rfl
      refine lv_goto (tgt := 37) hx hb dX2_scanLine_33 (by decide) ?_
      have hL : (zLine (bA f n) n fr least most) = (-2, 0) := by rw [zLine_1 (by omega), if_pos (by omega)]
      exact W.iret (v := iI (-2)) hx hb hr (fun t ht hW => ⟨⟨iI (-2), (ft, ln), rfl, ⟨by rw [hL], fun q => by rw [hL] at q; exact absurd q (by decide), hln, by rw [hL]; exact (if_pos rfl).symm⟩, by rw [ht]; exact hP, va_K.moved hW.alike hK, hD⟩, hS.F ht⟩) hS.2.2 dX2_scanLine_37
set_option maxHeartbeats 4000000 in
set_option maxRecDepth 100000 in
/-- scanWordEnd(from) -/
theorem c_X2_scanWordEnd (l : Launch) (dC : Nat → ClassId) (dI : Nat → Nat → Nat) (cB cI : ClassId) (sz : Nat) (h tp ip wd iq lim il n : Nat) (f : Nat → Int32) (lf ln : Int) (hc : n ≤ il) (hn : il ≤ 65536) (fr : Int) (hfr : 0 ≤ fr ∧ fr ≤ 200000) : Met l yX2_scanWordEnd wX2_scanWordEnd ({ frames := 1, cells := 0, slots := 0, locals := 21 }) (va_Pc [.ref h, .int (iI (fr))] (vx_B (dC, dI) vwCl [(cB, .byte), (cI, .int)] [(h, .inr (2, [.ref tp, .ref ip, .ref wd, .int (iI (lf)), .int (iI (ln))])), (ip, .inr (0, [.int (iI ((lim : Int))), .ref iq, .int (iI ((n : Int)))])), (iq, .inl (cB, il, .inl (f)))] sz)) (va_Qi (fun (r : Int32) (u : Int) => r = iI (zEnd (bA f n) fr) ∧ u = (if zEnd (bA f n) fr = -2 then 4 else lf)) (fun (u : Int) => vx_E (dC, dI) vwCl [(cB, .byte), (cI, .int)] (va_A [(h, .inr (2, [.ref tp, .ref ip, .ref wd, .int (iI (lf)), .int (iI (ln))])), (ip, .inr (0, [.int (iI ((lim : Int))), .ref iq, .int (iI ((n : Int)))])), (iq, .inl (cB, il, .inl (f)))] sz) [(h, .inr (2, [.ref tp, .ref ip, .ref wd, .int (iI (u)), .int (iI (ln))])), (ip, .inr (0, [.int (iI ((lim : Int))), .ref iq, .int (iI ((n : Int)))])), (iq, .inl (cB, il, .inl (f)))]) (va_A [(h, .inr (2, [.ref tp, .ref ip, .ref wd, .int (iI (lf)), .int (iI (ln))])), (ip, .inr (0, [.int (iI ((lim : Int))), .ref iq, .int (iI ((n : Int)))])), (iq, .inl (cB, il, .inl (f)))] sz)) (0) (0) (va_A [(h, .inr (2, [.ref tp, .ref ip, .ref wd, .int (iI (lf)), .int (iI (ln))])), (ip, .inr (0, [.int (iI ((lim : Int))), .ref iq, .int (iI ((n : Int)))])), (iq, .inl (cB, il, .inl (f)))] sz) := by
  refine Met.ofW (cc := cX2_scanWordEnd) (maxL := 4) (ret := (some .int)) (by decide) rfl ?_
  intro p e s m args below meth c s₁ B hml hv
  obtain ⟨rfl, hsz, hP, hK, hD0⟩ := hv
  have hx := B.exec
  have hb := B.bytes
  have hr := B.returns
  have hts := atoms_spec (ws := wX2_scanWordEnd) B.pre
  have hown : s.vm.findClass "RequestCutter" = some m.cls := findClass_of_methodNamed B.named
  have hlocks := B.notSynchronized
  subst hsz
  have hD := hD0.self (sz := s.heap.size)
  generalize hAe : va_A [(h, .inr (2, [.ref tp, .ref ip, .ref wd, .int (iI (lf)), .int (iI (ln))])), (ip, .inr (0, [.int (iI ((lim : Int))), .ref iq, .int (iI ((n : Int)))])), (iq, .inl (cB, il, .inl (f)))] s.heap.size = A at hD ⊢
  have hA : ∀ q : Nat, s.heap.size ≤ q → A q := fun q h => by rw [← hAe]; exact Or.inr h
  have hS : va_S A s.heap s.heap [] := va_S.rf
  have hP : va_P (dC, dI) vwCl [(h, .inr (2, [.ref tp, .ref ip, .ref wd, .int (iI (lf)), .int (iI (ln))])), (ip, .inr (0, [.int (iI ((lim : Int))), .ref iq, .int (iI ((n : Int)))])), (iq, .inl (cB, il, .inl (f)))] s.heap := hP
  have hl := lv_entry ([.ref h, .int (iI (fr))]) (n := 4) (Nat.le_of_ble_eq_true rfl)
  rw [lg_entry_eq]
  generalize (lg_sl ([.ref h, .int (iI (fr))]) ++ List.replicate (4 - (lg_sl ([.ref h, .int (iI (fr))])).length) Slot.unset).toArray = ls at hl ⊢
  have hl : lv_has ls 4 [(0, .ref h), (1, .int (iI (fr)))] := hl
  refine lv_aload_n hx hb dX2_scanWordEnd_0 rfl (lv_at hl 0 rfl) ?_
  refine va_get (D := (dC, dI)) (ci := 2) (v := .ref ip) (C := "RequestCutter") (T := TX2) (N := 5) hx hb hts (fun w h => List.mem_cons_of_mem _ (inX2 w h)) hown hK hP 0 rfl rfl 1 (by decide) (hts _ (List.mem_cons_of_mem _ tw_76)) (fun _ h9 => h9) rfl dX2_scanWordEnd_1 ?_
  refine lv_iload_n hx hb dX2_scanWordEnd_4 rfl (lv_at hl 1 rfl) ?_
  have g_at := bA_rg f n (fr)
  refine vx_Vs (As := [.int (iI (fr))]) (rest := []) (ci := 0) (q0 := 0) [1, 2] ⟨hx, hb, hml, hown, hts⟩ (c_X0_at l dC dI cB cI ip iq lim il n f hc hn (fr) (by omega)) (cwV 1 hts (gd_V tw_158 tw_159 tw_160 tw_20 tw_161) rfl rfl rfl (by decide +kernel) ⟨Nat.le_of_ble_eq_true rfl, Nat.le_of_ble_eq_true rfl⟩) hK hP rfl rfl rfl rfl rfl hl.1 rfl (Nat.le_of_ble_eq_true rfl) dX2_scanWordEnd_5 ⟨Nat.zero_le _, Nat.zero_le _⟩ (fun r hr => ?_)
  obtain rfl : r = iI (bA f n (fr)) := hr
  have g0 := bA_rg f n fr
  refine lv_istore_n (lv' := [(2, .int (iI (bA f n (fr)))), (0, .ref h), (1, .int (iI (fr)))]) hx hb dX2_scanWordEnd_8 rfl hl (by decide) rfl (fun ls hl => ?_)
  refine lv_aload_n hx hb dX2_scanWordEnd_9 rfl (lv_at hl 1 rfl) ?_
  refine va_get (D := (dC, dI)) (ci := 2) (v := .ref ip) (C := "RequestCutter") (T := TX2) (N := 5) hx hb hts (fun w h => List.mem_cons_of_mem _ (inX2 w h)) hown hK hP 0 rfl rfl 1 (by decide) (hts _ (List.mem_cons_of_mem _ tw_76)) (fun _ h9 => h9) rfl dX2_scanWordEnd_10 ?_
  refine lv_iload_n hx hb dX2_scanWordEnd_13 rfl (lv_at hl 2 rfl) ?_
  refine lv_iconst (v := iI (1)) hx hb dX2_scanWordEnd_14 rfl ?_
  refine lx_iadd (a := fr) (b := 1) hx hb dX2_scanWordEnd_15 ?_
  have g_at := bA_rg f n (fr + 1)
  refine vx_Vs (As := [.int (iI (fr + 1))]) (rest := []) (ci := 0) (q0 := 0) [1, 2] ⟨hx, hb, hml, hown, hts⟩ (c_X0_at l dC dI cB cI ip iq lim il n f hc hn (fr + 1) (by omega)) (cwV 1 hts (gd_V tw_158 tw_159 tw_160 tw_20 tw_161) rfl rfl rfl (by decide +kernel) ⟨Nat.le_of_ble_eq_true rfl, Nat.le_of_ble_eq_true rfl⟩) hK hP rfl rfl rfl rfl rfl hl.1 rfl (Nat.le_of_ble_eq_true rfl) dX2_scanWordEnd_16 ⟨Nat.zero_le _, Nat.zero_le _⟩ (fun r hr => ?_)
  obtain rfl : r = iI (bA f n (fr + 1)) := hr
  refine lv_istore_n (lv' := [(3, .int (iI (bA f n (fr + 1)))), (2, .int (iI (bA f n (fr)))), (0, .ref h), (1, .int (iI (fr)))]) hx hb dX2_scanWordEnd_19 rfl hl (by decide) rfl (fun ls hl => ?_)
  refine lv_iload_n hx hb dX2_scanWordEnd_20 rfl (lv_at hl 1 rfl) ?_
  refine lv_iconst (v := iI (-1)) hx hb dX2_scanWordEnd_21 rfl ?_
  refine lx_icmp_ne (a := bA f n (fr)) (b := -1) (tgt := 27) hx hb dX2_scanWordEnd_22 (by decide) (by omega) (by omega) (fun cq1 => ?_) (fun cq1 => ?_)
  · refine lv_iload_n hx hb dX2_scanWordEnd_27 rfl (lv_at hl 1 rfl) ?_
    refine lv_bipush (v := iI (13)) hx hb dX2_scanWordEnd_28 (by decide) ?_
    refine lx_icmp_eq (a := bA f n (fr)) (b := 13) (tgt := 39) hx hb dX2_scanWordEnd_30 (by decide) (by omega) (by omega) (fun cq2 => ?_) (fun cq2 => ?_)
    · refine lv_iload_n hx hb dX2_scanWordEnd_39 rfl (lv_at hl 0 rfl) ?_
      refine lv_iconst (v := iI (-1)) hx hb dX2_scanWordEnd_40 rfl ?_
      refine lx_icmp_ne (a := bA f n (fr + 1)) (b := -1) (tgt := 46) hx hb dX2_scanWordEnd_41 (by decide) (by omega) (by omega) (fun cq3 => ?_) (fun cq3 => ?_)
      · refine lv_iload_n hx hb dX2_scanWordEnd_46 rfl (lv_at hl 0 rfl) ?_
        refine lv_bipush (v := iI (10)) hx hb dX2_scanWordEnd_47 (by decide) ?_
        refine lx_icmp_ne (a := bA f n (fr + 1)) (b := 10) (tgt := 58) hx hb dX2_scanWordEnd_49 (by decide) (by omega) (by omega) (fun cq4 => ?_) (fun cq4 => ?_)
        · refine lv_aload_n hx hb dX2_scanWordEnd_58 rfl (lv_at hl 2 rfl) ?_
          refine lv_iconst (v := iI (4)) hx hb dX2_scanWordEnd_59 rfl ?_
          refine vx_Vi (As := [.int (iI (4))]) (rest := []) (wr := [(ip, .inr (0, [.int (iI ((lim : Int))), .ref iq, .int (iI ((n : Int)))])), (iq, .inl (cB, il, .inl (f)))]) (ci := 2) (q0 := 0) [0] [1, 2] ⟨hx, hb, hml, hown, hts⟩ (c_X2_tell l dC dI cB cI _ h tp ip wd (lf) (ln) (4)) (cwV 1 hts (gd_V tw_175 tw_177 tw_3 tw_19 tw_178) rfl rfl rfl (by decide +kernel) ⟨Nat.le_of_ble_eq_true rfl, Nat.le_of_ble_eq_true rfl⟩) hK hP hD hS hA rfl rfl rfl rfl (by decide) rfl rfl rfl rfl hl.1 rfl (Nat.le_of_ble_eq_true rfl) dX2_scanWordEnd_60 ⟨Nat.zero_le _, Nat.zero_le _⟩ (fun r u H locs hw hP hD hS => ?_)
          obtain - := u
          try dsimp only at hw hP hD
          obtain rfl := hw
          have hP : va_P (dC, dI) vwCl [(h, .inr (2, [.ref tp, .ref ip, .ref wd, .int (iI (4)), .int (iI (ln))])), (ip, .inr (0, [.int (iI ((lim : Int))), .ref iq, .int (iI ((n : Int)))])), (iq, .inl (cB, il, .inl (f)))] H := hP.sub [2, 0, 1] rfl
          have hD : va_D A [(h, .inr (2, [.ref tp, .ref ip, .ref wd, .int (iI (4)), .int (iI (ln))])), (ip, .inr (0, [.int (iI ((lim : Int))), .ref iq, .int (iI ((n : Int)))])), (iq, .inl (cB, il, .inl (f)))] := hD.sub [2, 0, 1] (by decide) rfl
          have hE : zEnd (bA f n) fr = -2 := by unfold zEnd; repeat (first | rw [if_pos (by omega)] | rw [if_neg (by omega)])
          exact W.iret (v := iI (-2)) hx hb hr (fun t ht hW => ⟨⟨iI (-2), (4), rfl, ⟨by rw [hE], by rw [hE]; exact (if_pos rfl).symm⟩, by rw [ht]; exact hP, va_K.moved hW.alike hK, hD⟩, hS.F ht⟩) hS.2.2 dX2_scanWordEnd_63
        · refine lv_iload_n hx hb dX2_scanWordEnd_52 rfl (lv_at hl 3 rfl) ?_
          refine lv_iconst (v := iI (2)) hx hb dX2_scanWordEnd_53 rfl ?_
          refine lx_iadd (a := fr) (b := 2) hx hb dX2_scanWordEnd_54 ?_
          refine lv_goto (tgt := 63) hx hb dX2_scanWordEnd_55 (by decide) ?_
          have hE : zEnd (bA f n) fr = fr + 2 := by unfold zEnd; repeat (first | rw [if_pos (by omega)] | rw [if_neg (by omega)])
          exact W.iret (v := iI (fr + 2)) hx hb hr (fun t ht hW => ⟨⟨iI (fr + 2), (lf), rfl, ⟨by rw [hE], by rw [hE]; exact (if_neg (by omega)).symm⟩, by rw [ht]; exact hP, va_K.moved hW.alike hK, hD⟩, hS.F ht⟩) hS.2.2 dX2_scanWordEnd_63
      · refine lv_iconst (v := iI (-1)) hx hb dX2_scanWordEnd_44 rfl ?_
        have hE : zEnd (bA f n) fr = -1 := by unfold zEnd; repeat (first | rw [if_pos (by omega)] | rw [if_neg (by omega)])
        exact W.iret (v := iI (-1)) hx hb hr (fun t ht hW => ⟨⟨iI (-1), (lf), rfl, ⟨by rw [hE], by rw [hE]; exact (if_neg (by omega)).symm⟩, by rw [ht]; exact hP, va_K.moved hW.alike hK, hD⟩, hS.F ht⟩) hS.2.2 dX2_scanWordEnd_45
    · refine lv_aload_n hx hb dX2_scanWordEnd_33 rfl (lv_at hl 2 rfl) ?_
      refine lv_iconst (v := iI (4)) hx hb dX2_scanWordEnd_34 rfl ?_
      refine vx_Vi (As := [.int (iI (4))]) (rest := []) (wr := [(ip, .inr (0, [.int (iI ((lim : Int))), .ref iq, .int (iI ((n : Int)))])), (iq, .inl (cB, il, .inl (f)))]) (ci := 2) (q0 := 0) [0] [1, 2] ⟨hx, hb, hml, hown, hts⟩ (c_X2_tell l dC dI cB cI _ h tp ip wd (lf) (ln) (4)) (cwV 1 hts (gd_V tw_175 tw_177 tw_3 tw_19 tw_178) rfl rfl rfl (by decide +kernel) ⟨Nat.le_of_ble_eq_true rfl, Nat.le_of_ble_eq_true rfl⟩) hK hP hD hS hA rfl rfl rfl rfl (by decide) rfl rfl rfl rfl hl.1 rfl (Nat.le_of_ble_eq_true rfl) dX2_scanWordEnd_35 ⟨Nat.zero_le _, Nat.zero_le _⟩ (fun r u H locs hw hP hD hS => ?_)
      obtain - := u
      try dsimp only at hw hP hD
      obtain rfl := hw
      have hP : va_P (dC, dI) vwCl [(h, .inr (2, [.ref tp, .ref ip, .ref wd, .int (iI (4)), .int (iI (ln))])), (ip, .inr (0, [.int (iI ((lim : Int))), .ref iq, .int (iI ((n : Int)))])), (iq, .inl (cB, il, .inl (f)))] H := hP.sub [2, 0, 1] rfl
      have hD : va_D A [(h, .inr (2, [.ref tp, .ref ip, .ref wd, .int (iI (4)), .int (iI (ln))])), (ip, .inr (0, [.int (iI ((lim : Int))), .ref iq, .int (iI ((n : Int)))])), (iq, .inl (cB, il, .inl (f)))] := hD.sub [2, 0, 1] (by decide) rfl
      have hE : zEnd (bA f n) fr = -2 := by unfold zEnd; repeat (first | rw [if_pos (by omega)] | rw [if_neg (by omega)])
      exact W.iret (v := iI (-2)) hx hb hr (fun t ht hW => ⟨⟨iI (-2), (4), rfl, ⟨by rw [hE], by rw [hE]; exact (if_pos rfl).symm⟩, by rw [ht]; exact hP, va_K.moved hW.alike hK, hD⟩, hS.F ht⟩) hS.2.2 dX2_scanWordEnd_38
  · refine lv_iconst (v := iI (-1)) hx hb dX2_scanWordEnd_25 rfl ?_
    have hE : zEnd (bA f n) fr = -1 := by unfold zEnd; repeat (first | rw [if_pos (by omega)] | rw [if_neg (by omega)])
    exact W.iret (v := iI (-1)) hx hb hr (fun t ht hW => ⟨⟨iI (-1), (lf), rfl, ⟨by rw [hE], by rw [hE]; exact (if_neg (by omega)).symm⟩, by rw [ht]; exact hP, va_K.moved hW.alike hK, hD⟩, hS.F ht⟩) hS.2.2 dX2_scanWordEnd_26
end
section
set_option maxHeartbeats 4000000 in
set_option maxRecDepth 100000 in
/-- scanWord(from) -/
theorem c_X2_scanWord (l : Launch) (dC : Nat → ClassId) (dI : Nat → Nat → Nat) (cB cI : ClassId) (sz : Nat) (h tp ip wd iq lim il n : Nat) (f : Nat → Int32) (lf ln : Int) (hc : n ≤ il) (hn : il ≤ 65536) (hln : -2147483648 ≤ ln ∧ ln ≤ 2147483647) (wb s1 s2 nl cnt : Nat) (sa za : Nat → Int) (hwc : cnt ≤ nl) (hwn : 8 ≤ nl ∧ nl ≤ 1024) (fr : Int) (hfr : 0 ≤ fr ∧ fr ≤ n) (mc ms : Nat) (hroom : cnt < 1024 ∧ nl ≤ cnt → 2 ≤ mc ∧ 2 * min 1024 (2 * cnt) ≤ ms) : Met l yX2_scanWord wX2_scanWord ({ frames := 3, cells := mc, slots := ms, locals := 93 }) (va_Pc [.ref h, .int (iI (fr))] (vx_B (dC, dI) vwCl [(cB, .byte), (cI, .int)] [(h, .inr (2, [.ref tp, .ref ip, .ref wd, .int (iI (lf)), .int (iI (ln))])), (ip, .inr (0, [.int (iI ((lim : Int))), .ref iq, .int (iI ((n : Int)))])), (iq, .inl (cB, il, .inl (f))), (wd, .inr (1, [.ref wb, .ref s1, .ref s2, .int (iI ((cnt : Int)))])), (s1, .inl (cI, nl, .inl (fun k => iI (sa k)))), (s2, .inl (cI, nl, .inl (fun k => iI (za k))))] sz)) (va_Qi (fun (r : Int32) (u : Int × Int × Nat × Nat × Nat × Nat × (Nat → Int) × (Nat → Int)) => r = iI (zWord (bA f n) n fr).1 ∧ u.1 = (if (zWord (bA f n) n fr).1 = -2 then (zWord (bA f n) n fr).2.1 else lf) ∧ (-2147483648 ≤ u.2.1 ∧ u.2.1 ≤ 2147483647) ∧ (8 ≤ u.2.2.2.2.1 ∧ u.2.2.2.2.1 ≤ 1024) ∧ u.2.2.2.2.2.1 ≤ u.2.2.2.2.1 ∧ (0 ≤ (zWord (bA f n) n fr).1 → cnt < 1024 → ((¬ (cnt < 1024 ∧ nl ≤ cnt) ∧ u.2.2.2.2.1 = nl) ∨ ((cnt < 1024 ∧ nl ≤ cnt) ∧ u.2.2.2.2.1 = min 1024 (2 * cnt))) ∧ u.2.2.2.2.2.1 = cnt + 1 ∧ (∀ j, j < cnt → u.2.2.2.2.2.2.1 j = sa j ∧ u.2.2.2.2.2.2.2 j = za j) ∧ u.2.2.2.2.2.2.1 cnt = (zWord (bA f n) n fr).2.2.1 ∧ u.2.2.2.2.2.2.2 cnt = (zWord (bA f n) n fr).2.2.2)) (fun (u : Int × Int × Nat × Nat × Nat × Nat × (Nat → Int) × (Nat → Int)) => vx_E (dC, dI) vwCl [(cB, .byte), (cI, .int)] (va_A [(h, .inr (2, [.ref tp, .ref ip, .ref wd, .int (iI (lf)), .int (iI (ln))])), (ip, .inr (0, [.int (iI ((lim : Int))), .ref iq, .int (iI ((n : Int)))])), (iq, .inl (cB, il, .inl (f))), (wd, .inr (1, [.ref wb, .ref s1, .ref s2, .int (iI ((cnt : Int)))])), (s1, .inl (cI, nl, .inl (fun k => iI (sa k)))), (s2, .inl (cI, nl, .inl (fun k => iI (za k))))] sz) [(h, .inr (2, [.ref tp, .ref ip, .ref wd, .int (iI (u.1)), .int (iI (u.2.1))])), (ip, .inr (0, [.int (iI ((lim : Int))), .ref iq, .int (iI ((n : Int)))])), (iq, .inl (cB, il, .inl (f))), (wd, .inr (1, [.ref wb, .ref u.2.2.1, .ref u.2.2.2.1, .int (iI ((u.2.2.2.2.2.1 : Int)))])), (u.2.2.1, .inl (cI, u.2.2.2.2.1, .inl (fun k => iI (u.2.2.2.2.2.2.1 k)))), (u.2.2.2.1, .inl (cI, u.2.2.2.2.1, .inl (fun k => iI (u.2.2.2.2.2.2.2 k))))]) (va_A [(h, .inr (2, [.ref tp, .ref ip, .ref wd, .int (iI (lf)), .int (iI (ln))])), (ip, .inr (0, [.int (iI ((lim : Int))), .ref iq, .int (iI ((n : Int)))])), (iq, .inl (cB, il, .inl (f))), (wd, .inr (1, [.ref wb, .ref s1, .ref s2, .int (iI ((cnt : Int)))])), (s1, .inl (cI, nl, .inl (fun k => iI (sa k)))), (s2, .inl (cI, nl, .inl (fun k => iI (za k))))] sz)) (mc) (ms) (va_A [(h, .inr (2, [.ref tp, .ref ip, .ref wd, .int (iI (lf)), .int (iI (ln))])), (ip, .inr (0, [.int (iI ((lim : Int))), .ref iq, .int (iI ((n : Int)))])), (iq, .inl (cB, il, .inl (f))), (wd, .inr (1, [.ref wb, .ref s1, .ref s2, .int (iI ((cnt : Int)))])), (s1, .inl (cI, nl, .inl (fun k => iI (sa k)))), (s2, .inl (cI, nl, .inl (fun k => iI (za k))))] sz) := by
  refine Met.ofW (cc := cX2_scanWord) (maxL := 4) (ret := (some .int)) (by decide) rfl ?_
  intro p e s m args below meth c s₁ B hml hv
  obtain ⟨rfl, hsz, hP, hK, hD0⟩ := hv
  have hx := B.exec
  have hb := B.bytes
  have hr := B.returns
  have hts := atoms_spec (ws := wX2_scanWord) B.pre
  have hown : s.vm.findClass "RequestCutter" = some m.cls := findClass_of_methodNamed B.named
  have hlocks := B.notSynchronized
  subst hsz
  have hD := hD0.self (sz := s.heap.size)
  generalize hAe : va_A [(h, .inr (2, [.ref tp, .ref ip, .ref wd, .int (iI (lf)), .int (iI (ln))])), (ip, .inr (0, [.int (iI ((lim : Int))), .ref iq, .int (iI ((n : Int)))])), (iq, .inl (cB, il, .inl (f))), (wd, .inr (1, [.ref wb, .ref s1, .ref s2, .int (iI ((cnt : Int)))])), (s1, .inl (cI, nl, .inl (fun k => iI (sa k)))), (s2, .inl (cI, nl, .inl (fun k => iI (za k))))] s.heap.size = A at hD ⊢
  have hA : ∀ q : Nat, s.heap.size ≤ q → A q := fun q h => by rw [← hAe]; exact Or.inr h
  have hS : va_S A s.heap s.heap [] := va_S.rf
  have hP : va_P (dC, dI) vwCl [(h, .inr (2, [.ref tp, .ref ip, .ref wd, .int (iI (lf)), .int (iI (ln))])), (ip, .inr (0, [.int (iI ((lim : Int))), .ref iq, .int (iI ((n : Int)))])), (iq, .inl (cB, il, .inl (f))), (wd, .inr (1, [.ref wb, .ref s1, .ref s2, .int (iI ((cnt : Int)))])), (s1, .inl (cI, nl, .inl (fun k => iI (sa k)))), (s2, .inl (cI, nl, .inl (fun k => iI (za k))))] s.heap := hP
  have hl := lv_entry ([.ref h, .int (iI (fr))]) (n := 4) (Nat.le_of_ble_eq_true rfl)
  rw [lg_entry_eq]
  generalize (lg_sl ([.ref h, .int (iI (fr))]) ++ List.replicate (4 - (lg_sl ([.ref h, .int (iI (fr))])).length) Slot.unset).toArray = ls at hl ⊢
  have hl : lv_has ls 4 [(0, .ref h), (1, .int (iI (fr)))] := hl
  refine lv_aload_n hx hb dX2_scanWord_0 rfl (lv_at hl 0 rfl) ?_
  refine va_get (D := (dC, dI)) (ci := 2) (v := .ref ip) (C := "RequestCutter") (T := TX2) (N := 5) hx hb hts (fun w h => List.mem_cons_of_mem _ (inX2 w h)) hown hK hP 0 rfl rfl 1 (by decide) (hts _ (List.mem_cons_of_mem _ tw_76)) (fun _ h9 => h9) rfl dX2_scanWord_1 ?_
  refine lv_iload_n hx hb dX2_scanWord_4 rfl (lv_at hl 1 rfl) ?_
  have g_at := bA_rg f n (fr)
  refine vx_Vs (As := [.int (iI (fr))]) (rest := []) (ci := 0) (q0 := 0) [1, 2] ⟨hx, hb, hml, hown, hts⟩ (c_X0_at l dC dI cB cI ip iq lim il n f hc hn (fr) (by omega)) (cwV 1 hts (gd_V tw_158 tw_159 tw_160 tw_20 tw_161) rfl rfl rfl (by decide +kernel) ⟨Nat.le_of_ble_eq_true rfl, Nat.le_of_ble_eq_true rfl⟩) hK hP rfl rfl rfl rfl rfl hl.1 rfl (Nat.le_of_ble_eq_true rfl) dX2_scanWord_5 ⟨Nat.zero_le _, Nat.zero_le _⟩ (fun r hr => ?_)
  obtain rfl : r = iI (bA f n (fr)) := hr
  have g0 := bA_rg f n fr
  refine lv_istore_n (lv' := [(2, .int (iI (bA f n (fr)))), (0, .ref h), (1, .int (iI (fr)))]) hx hb dX2_scanWord_8 rfl hl (by decide) rfl (fun ls hl => ?_)
  refine lv_iload_n hx hb dX2_scanWord_9 rfl (lv_at hl 0 rfl) ?_
  refine lv_iconst (v := iI (-1)) hx hb dX2_scanWord_10 rfl ?_
  refine lx_icmp_ne (a := bA f n (fr)) (b := -1) (tgt := 16) hx hb dX2_scanWord_11 (by decide) (by omega) (by omega) (fun cq1 => ?_) (fun cq1 => ?_)
  · refine lv_iload_n hx hb dX2_scanWord_16 rfl (lv_at hl 0 rfl) ?_
    refine lv_bipush (v := iI (36)) hx hb dX2_scanWord_17 (by decide) ?_
    refine lx_icmp_eq (a := bA f n (fr)) (b := 36) (tgt := 28) hx hb dX2_scanWord_19 (by decide) (by omega) (by omega) (fun cq2 => ?_) (fun cq2 => ?_)
    · refine lv_aload_n hx hb dX2_scanWord_28 rfl (lv_at hl 1 rfl) ?_
      refine lv_iload_n hx hb dX2_scanWord_29 rfl (lv_at hl 2 rfl) ?_
      refine lv_iconst (v := iI (0)) hx hb dX2_scanWord_30 rfl ?_
      refine lv_sipush (v := iI (16384)) hx hb dX2_scanWord_31 (by decide) ?_
      refine lv_iconst (v := iI (3)) hx hb dX2_scanWord_34 rfl ?_
      obtain ⟨L, hL⟩ : ∃ L, L = zLine (bA f n) n (fr) (0) (16384) := ⟨_, rfl⟩
      have gLr := zLine_rg f n (fr) (0) (16384)
      rw [← hL] at gLr
      refine vx_Vi (As := [.int (iI (fr)), .int (iI (0)), .int (iI (16384)), .int (iI (3))]) (rest := []) (wr := [(wd, .inr (1, [.ref wb, .ref s1, .ref s2, .int (iI ((cnt : Int)))])), (s1, .inl (cI, nl, .inl (fun k => iI (sa k)))), (s2, .inl (cI, nl, .inl (fun k => iI (za k))))]) (ci := 2) (q0 := 0) [0, 1, 2] [3, 4, 5] ⟨hx, hb, hml, hown, hts⟩ (c_X2_scanLine l dC dI cB cI _ h tp ip wd iq lim il n f (lf) (ln) hc hn hln (fr) (0) (16384) (3) (by omega) (by omega) (by omega)) (cwV 4 hts (gd_V tw_167 tw_169 tw_1 tw_19 tw_170) rfl rfl rfl (by decide +kernel) ⟨Nat.le_of_ble_eq_true rfl, Nat.le_of_ble_eq_true rfl⟩) hK hP hD hS hA rfl rfl rfl rfl (by decide) rfl rfl rfl rfl hl.1 rfl (Nat.le_of_ble_eq_true rfl) dX2_scanWord_35 ⟨Nat.zero_le _, Nat.zero_le _⟩ (fun r u H locs hw hP hD hS => ?_)
      obtain ⟨l1, z1⟩ := u
      try dsimp only at hw hP hD
      rw [← hL] at hw
      obtain ⟨rfl, hz1, gz1, hl1⟩ := hw
      have hP : va_P (dC, dI) vwCl [(h, .inr (2, [.ref tp, .ref ip, .ref wd, .int (iI (l1)), .int (iI (z1))])), (ip, .inr (0, [.int (iI ((lim : Int))), .ref iq, .int (iI ((n : Int)))])), (iq, .inl (cB, il, .inl (f))), (wd, .inr (1, [.ref wb, .ref s1, .ref s2, .int (iI ((cnt : Int)))])), (s1, .inl (cI, nl, .inl (fun k => iI (sa k)))), (s2, .inl (cI, nl, .inl (fun k => iI (za k))))] H := hP.sub [3, 4, 5, 0, 1, 2] rfl
      have hD : va_D A [(h, .inr (2, [.ref tp, .ref ip, .ref wd, .int (iI (l1)), .int (iI (z1))])), (ip, .inr (0, [.int (iI ((lim : Int))), .ref iq, .int (iI ((n : Int)))])), (iq, .inl (cB, il, .inl (f))), (wd, .inr (1, [.ref wb, .ref s1, .ref s2, .int (iI ((cnt : Int)))])), (s1, .inl (cI, nl, .inl (fun k => iI (sa k)))), (s2, .inl (cI, nl, .inl (fun k => iI (za k))))] := hD.sub [3, 4, 5, 0, 1, 2] (by decide) rfl
      refine lv_istore_n (lv' := [(3, .int (iI (L.1))), (2, .int (iI (bA f n (fr)))), (0, .ref h), (1, .int (iI (fr)))]) hx hb dX2_scanWord_38 rfl hl (by decide) rfl (fun ls hl => ?_)
      refine lv_iload_n hx hb dX2_scanWord_39 rfl (lv_at hl 0 rfl) ?_
      refine lx_if_ge (a := L.1) (tgt := 45) hx hb dX2_scanWord_40 (by decide) (by omega) (fun cq3 => ?_) (fun cq3 => ?_)
      · refine lv_aload_n hx hb dX2_scanWord_45 rfl (lv_at hl 2 rfl) ?_
        refine va_get (D := (dC, dI)) (ci := 2) (v := .ref wd) (C := "RequestCutter") (T := TX2) (N := 5) hx hb hts (fun w h => List.mem_cons_of_mem _ (inX2 w h)) hown hK hP 0 rfl rfl 2 (by decide) (hts _ (List.mem_cons_of_mem _ tw_77)) (fun _ h9 => h9) rfl dX2_scanWord_46 ?_
        refine lv_iload_n hx hb dX2_scanWord_49 rfl (lv_at hl 0 rfl) ?_
        refine lv_aload_n hx hb dX2_scanWord_50 rfl (lv_at hl 2 rfl) ?_
        refine va_get (D := (dC, dI)) (ci := 2) (v := .int (iI (z1))) (C := "RequestCutter") (T := TX2) (N := 5) hx hb hts (fun w h => List.mem_cons_of_mem _ (inX2 w h)) hown hK hP 0 rfl rfl 4 (by decide) (hts _ (List.mem_cons_of_mem _ tw_79)) (fun _ h9 => h9) rfl dX2_scanWord_51 ?_
        refine vx_Vv (As := [.int (iI (L.1)), .int (iI (z1))]) (rest := []) (wr := [(h, .inr (2, [.ref tp, .ref ip, .ref wd, .int (iI (l1)), .int (iI (z1))])), (ip, .inr (0, [.int (iI ((lim : Int))), .ref iq, .int (iI ((n : Int)))])), (iq, .inl (cB, il, .inl (f)))]) (ci := 1) (q0 := 0) [3, 4, 5] [0, 1, 2] ⟨hx, hb, hml, hown, hts⟩ (c_X1_add l dC dI cB cI _ wd wb s1 s2 nl cnt sa za hwc hwn L.1 z1 mc ms hroom) (cwV 2 hts (gd_V tw_187 tw_188 tw_189 tw_21 tw_190) rfl rfl rfl (by decide +kernel) ⟨Nat.le_of_ble_eq_true rfl, Nat.le_of_ble_eq_true rfl⟩) hK hP hD hS hA rfl rfl rfl rfl (by decide) rfl rfl rfl rfl hl.1 rfl (Nat.le_of_ble_eq_true rfl) dX2_scanWord_54 ⟨by show 0 + mc ≤ mc; omega, by show 0 + ms ≤ ms; omega⟩ (fun u H locs hw hP hD hS => ?_)
        obtain ⟨s3, s4, nl1, cnt1, sa1, za1⟩ := u
        try dsimp only at hw hP hD
        obtain ⟨hn1, hc1, hnl1, hcn1, hs1, hx1⟩ := hw
        have hP : va_P (dC, dI) vwCl [(h, .inr (2, [.ref tp, .ref ip, .ref wd, .int (iI (l1)), .int (iI (z1))])), (ip, .inr (0, [.int (iI ((lim : Int))), .ref iq, .int (iI ((n : Int)))])), (iq, .inl (cB, il, .inl (f))), (wd, .inr (1, [.ref wb, .ref s3, .ref s4, .int (iI ((cnt1 : Int)))])), (s3, .inl (cI, nl1, .inl (fun k => iI (sa1 k)))), (s4, .inl (cI, nl1, .inl (fun k => iI (za1 k))))] H := hP.sub [0, 1, 2, 3, 4, 5] rfl
        have hD : va_D A [(h, .inr (2, [.ref tp, .ref ip, .ref wd, .int (iI (l1)), .int (iI (z1))])), (ip, .inr (0, [.int (iI ((lim : Int))), .ref iq, .int (iI ((n : Int)))])), (iq, .inl (cB, il, .inl (f))), (wd, .inr (1, [.ref wb, .ref s3, .ref s4, .int (iI ((cnt1 : Int)))])), (s3, .inl (cI, nl1, .inl (fun k => iI (sa1 k)))), (s4, .inl (cI, nl1, .inl (fun k => iI (za1 k))))] := hD.sub [0, 1, 2, 3, 4, 5] (by decide) rfl
        refine W.widen (k := mc) (n := ms) (by omega) (by omega) ?_
        have hz2 := hz1 (by omega)
        refine lv_aload_n hx hb dX2_scanWord_57 rfl (lv_at hl 2 rfl) ?_
        refine lv_iload_n hx hb dX2_scanWord_58 rfl (lv_at hl 0 rfl) ?_
        refine lv_aload_n hx hb dX2_scanWord_59 rfl (lv_at hl 2 rfl) ?_
        refine va_get (D := (dC, dI)) (ci := 2) (v := .int (iI (z1))) (C := "RequestCutter") (T := TX2) (N := 5) hx hb hts (fun w h => List.mem_cons_of_mem _ (inX2 w h)) hown hK hP 0 rfl rfl 4 (by decide) (hts _ (List.mem_cons_of_mem _ tw_79)) (fun _ h9 => h9) rfl dX2_scanWord_60 ?_
        refine lx_iadd (a := L.1) (b := z1) hx hb dX2_scanWord_63 ?_
        have gE := zEnd_rg f n (L.1 + z1)
        refine vx_Vi (As := [.int (iI (L.1 + z1))]) (rest := []) (wr := [(wd, .inr (1, [.ref wb, .ref s3, .ref s4, .int (iI ((cnt1 : Int)))])), (s3, .inl (cI, nl1, .inl (fun k => iI (sa1 k)))), (s4, .inl (cI, nl1, .inl (fun k => iI (za1 k))))]) (ci := 2) (q0 := 0) [0, 1, 2] [3, 4, 5] ⟨hx, hb, hml, hown, hts⟩ (c_X2_scanWordEnd l dC dI cB cI _ h tp ip wd iq lim il n f l1 z1 hc hn (L.1 + z1) (by omega)) (cwV 1 hts (gd_V tw_200 tw_202 tw_6 tw_19 tw_203) rfl rfl rfl (by decide +kernel) ⟨Nat.le_of_ble_eq_true rfl, Nat.le_of_ble_eq_true rfl⟩) hK hP hD hS hA rfl rfl rfl rfl (by decide) rfl rfl rfl rfl hl.1 rfl (Nat.le_of_ble_eq_true rfl) dX2_scanWord_64 ⟨Nat.le_refl _, Nat.le_refl _⟩ (fun r u H locs hw hP hD hS => ?_)
        obtain ⟨l2, rfl⟩ : ∃ z, z = u := ⟨_, rfl⟩
        try dsimp only at hw hP hD
        obtain ⟨rfl, hl2⟩ := hw
        have hP : va_P (dC, dI) vwCl [(h, .inr (2, [.ref tp, .ref ip, .ref wd, .int (iI (l2)), .int (iI (z1))])), (ip, .inr (0, [.int (iI ((lim : Int))), .ref iq, .int (iI ((n : Int)))])), (iq, .inl (cB, il, .inl (f))), (wd, .inr (1, [.ref wb, .ref s3, .ref s4, .int (iI ((cnt1 : Int)))])), (s3, .inl (cI, nl1, .inl (fun k => iI (sa1 k)))), (s4, .inl (cI, nl1, .inl (fun k => iI (za1 k))))] H := hP.sub [3, 4, 5, 0, 1, 2] rfl
        have hD : va_D A [(h, .inr (2, [.ref tp, .ref ip, .ref wd, .int (iI (l2)), .int (iI (z1))])), (ip, .inr (0, [.int (iI ((lim : Int))), .ref iq, .int (iI ((n : Int)))])), (iq, .inl (cB, il, .inl (f))), (wd, .inr (1, [.ref wb, .ref s3, .ref s4, .int (iI ((cnt1 : Int)))])), (s3, .inl (cI, nl1, .inl (fun k => iI (sa1 k)))), (s4, .inl (cI, nl1, .inl (fun k => iI (za1 k))))] := hD.sub [3, 4, 5, 0, 1, 2] (by decide) rfl
        have hZ := zWord_4 (a := (bA f n)) (n := n) (fr := fr) hL (by omega) (by omega)
        rw [← hz2] at hZ
        have hl3 : l1 = lf := by rw [hl1]; exact if_neg (by omega)
        exact W.iret (v := iI (zEnd (bA f n) (L.1 + z1))) hx hb hr (fun t ht hW => ⟨⟨iI (zEnd (bA f n) (L.1 + z1)), (l2, z1, s3, s4, nl1, cnt1, sa1, za1), rfl, ⟨by rw [hZ], by rw [hZ]; show l2 = (if zEnd (bA f n) (L.1 + z1) = -2 then (if zEnd (bA f n) (L.1 + z1) = -2 then (4 : Int) else 0) else lf); rw [hl2]; by_cases q : zEnd (bA f n) (L.1 + z1) = -2; rw [if_pos q, if_pos q, if_pos q]; rw [if_neg q, if_neg q]; exact hl3, gz1, hn1, hc1, fun _ q => ⟨hnl1, by show cnt1 = cnt + 1; omega, hs1, by rw [hZ]; exact (hx1 q).1, by rw [hZ]; exact (hx1 q).2.trans hz2⟩⟩, by rw [ht]; exact hP, va_K.moved hW.alike hK, hD⟩, hS.F ht⟩) hS.2.2 dX2_scanWord_67
      · refine lv_iload_n hx hb dX2_scanWord_43 rfl (lv_at hl 0 rfl) ?_
        have hZ := zWord_3 (a := (bA f n)) (n := n) (fr := fr) hL (by omega) (by omega)
        refine W.widen (k := mc) (n := ms) (Nat.zero_le _) (Nat.zero_le _) ?_
        exact W.iret (v := iI (L.1)) hx hb hr (fun t ht hW => ⟨⟨iI (L.1), (l1, z1, s1, s2, nl, cnt, sa, za), rfl, ⟨by rw [hZ], by rw [hZ]; show l1 = (if L.1 = -2 then (if L.1 = -2 then (3 : Int) else 0) else lf); rw [hl1]; by_cases q : L.1 = -2; rw [if_pos q, if_pos q, if_pos q]; rw [if_neg q, if_neg q], gz1, hwn, hwc, fun q => by rw [hZ] at q; exact absurd q (by show ¬ 0 ≤ L.1; omega)⟩, by rw [ht]; exact hP, va_K.moved hW.alike hK, hD⟩, hS.F ht⟩) hS.2.2 dX2_scanWord_44
    · refine lv_aload_n hx hb dX2_scanWord_22 rfl (lv_at hl 1 rfl) ?_
      refine lv_iconst (v := iI (2)) hx hb dX2_scanWord_23 rfl ?_
      refine vx_Vi (As := [.int (iI (2))]) (rest := []) (wr := [(ip, .inr (0, [.int (iI ((lim : Int))), .ref iq, .int (iI ((n : Int)))])), (iq, .inl (cB, il, .inl (f))), (wd, .inr (1, [.ref wb, .ref s1, .ref s2, .int (iI ((cnt : Int)))])), (s1, .inl (cI, nl, .inl (fun k => iI (sa k)))), (s2, .inl (cI, nl, .inl (fun k => iI (za k))))]) (ci := 2) (q0 := 0) [0] [1, 2, 3, 4, 5] ⟨hx, hb, hml, hown, hts⟩ (c_X2_tell l dC dI cB cI _ h tp ip wd (lf) (ln) (2)) (cwV 1 hts (gd_V tw_175 tw_177 tw_3 tw_19 tw_178) rfl rfl rfl (by decide +kernel) ⟨Nat.le_of_ble_eq_true rfl, Nat.le_of_ble_eq_true rfl⟩) hK hP hD hS hA rfl rfl rfl rfl (by decide) rfl rfl rfl rfl hl.1 rfl (Nat.le_of_ble_eq_true rfl) dX2_scanWord_24 ⟨Nat.zero_le _, Nat.zero_le _⟩ (fun r u H locs hw hP hD hS => ?_)
      obtain - := u
      try dsimp only at hw hP hD
      obtain rfl := hw
      have hP : va_P (dC, dI) vwCl [(h, .inr (2, [.ref tp, .ref ip, .ref wd, .int (iI (2)), .int (iI (ln))])), (ip, .inr (0, [.int (iI ((lim : Int))), .ref iq, .int (iI ((n : Int)))])), (iq, .inl (cB, il, .inl (f))), (wd, .inr (1, [.ref wb, .ref s1, .ref s2, .int (iI ((cnt : Int)))])), (s1, .inl (cI, nl, .inl (fun k => iI (sa k)))), (s2, .inl (cI, nl, .inl (fun k => iI (za k))))] H := hP.sub [5, 0, 1, 2, 3, 4] rfl
      have hD : va_D A [(h, .inr (2, [.ref tp, .ref ip, .ref wd, .int (iI (2)), .int (iI (ln))])), (ip, .inr (0, [.int (iI ((lim : Int))), .ref iq, .int (iI ((n : Int)))])), (iq, .inl (cB, il, .inl (f))), (wd, .inr (1, [.ref wb, .ref s1, .ref s2, .int (iI ((cnt : Int)))])), (s1, .inl (cI, nl, .inl (fun k => iI (sa k)))), (s2, .inl (cI, nl, .inl (fun k => iI (za k))))] := hD.sub [5, 0, 1, 2, 3, 4] (by decide) rfl
      have hZ := zWord_2 (a := (bA f n)) (n := n) (fr := fr) (by omega) (by omega)
      refine W.widen (k := mc) (n := ms) (Nat.zero_le _) (Nat.zero_le _) ?_
      exact W.iret (v := iI (-2)) hx hb hr (fun t ht hW => ⟨⟨iI (-2), (2, ln, s1, s2, nl, cnt, sa, za), rfl, ⟨by rw [hZ], by rw [hZ]; rfl, hln, hwn, hwc, fun q => by rw [hZ] at q; exact absurd q (by decide)⟩, by rw [ht]; exact hP, va_K.moved hW.alike hK, hD⟩, hS.F ht⟩) hS.2.2 dX2_scanWord_27
  · refine lv_iconst (v := iI (-1)) hx hb dX2_scanWord_14 rfl ?_
    have hZ := zWord_1 (a := (bA f n)) (n := n) (fr := fr) (by omega)
    refine W.widen (k := mc) (n := ms) (Nat.zero_le _) (Nat.zero_le _) ?_
    exact W.iret (v := iI (-1)) hx hb hr (fun t ht hW => ⟨⟨iI (-1), (lf, ln, s1, s2, nl, cnt, sa, za), rfl, ⟨by rw [hZ], by rw [hZ]; rfl, hln, hwn, hwc, fun q => by rw [hZ] at q; exact absurd q (by decide)⟩, by rw [ht]; exact hP, va_K.moved hW.alike hK, hD⟩, hS.F ht⟩) hS.2.2 dX2_scanWord_15
end
section
set_option maxHeartbeats 4000000 in
set_option maxRecDepth 100000 in
/-- scanCounted() -/
theorem c_X2_scanCounted (l : Launch) (dC : Nat → ClassId) (dI : Nat → Nat → Nat) (cB cI : ClassId) (sz : Nat) (h tp ip wd iq lim il n : Nat) (f : Nat → Int32) (ln : Int) (hc : n ≤ il) (hn : il ≤ 65536) (hln : -2147483648 ≤ ln ∧ ln ≤ 2147483647) (wb s1 s2 nl : Nat) (sa za : Nat → Int) (hwn : 8 ≤ nl ∧ nl ≤ 1024) : Met l yX2_scanCounted wX2_scanCounted ({ frames := 4, cells := 400, slots := 8192, locals := 116 }) (va_Pc [.ref h] (vx_B (dC, dI) vwCl [(cB, .byte), (cI, .int)] [(h, .inr (2, [.ref tp, .ref ip, .ref wd, .int (iI (0)), .int (iI (ln))])), (ip, .inr (0, [.int (iI ((lim : Int))), .ref iq, .int (iI ((n : Int)))])), (iq, .inl (cB, il, .inl (f))), (wd, .inr (1, [.ref wb, .ref s1, .ref s2, .int (iI (((0 : Nat) : Int)))])), (s1, .inl (cI, nl, .inl (fun k => iI (sa k)))), (s2, .inl (cI, nl, .inl (fun k => iI (za k))))] sz)) (va_Qi (fun (r : Int32) (u : Int × Int × Nat × Nat × Nat × Nat × (Nat → Int) × (Nat → Int)) => r = iI (zCount (bA f n) n).1 ∧ u.1 = (if (zCount (bA f n) n).1 = -2 then (zCount (bA f n) n).2.1 else 0) ∧ (-2147483648 ≤ u.2.1 ∧ u.2.1 ≤ 2147483647) ∧ (8 ≤ u.2.2.2.2.1 ∧ u.2.2.2.2.1 ≤ 1024) ∧ u.2.2.2.2.2.1 ≤ u.2.2.2.2.1 ∧ (0 ≤ (zCount (bA f n) n).1 → wR (zCount (bA f n) n).2.2 u.2.2.2.2.2.1 u.2.2.2.2.2.2.1 u.2.2.2.2.2.2.2)) (fun (u : Int × Int × Nat × Nat × Nat × Nat × (Nat → Int) × (Nat → Int)) => vx_E (dC, dI) vwCl [(cB, .byte), (cI, .int)] (va_A [(h, .inr (2, [.ref tp, .ref ip, .ref wd, .int (iI (0)), .int (iI (ln))])), (ip, .inr (0, [.int (iI ((lim : Int))), .ref iq, .int (iI ((n : Int)))])), (iq, .inl (cB, il, .inl (f))), (wd, .inr (1, [.ref wb, .ref s1, .ref s2, .int (iI (((0 : Nat) : Int)))])), (s1, .inl (cI, nl, .inl (fun k => iI (sa k)))), (s2, .inl (cI, nl, .inl (fun k => iI (za k))))] sz) [(h, .inr (2, [.ref tp, .ref ip, .ref wd, .int (iI (u.1)), .int (iI (u.2.1))])), (ip, .inr (0, [.int (iI ((lim : Int))), .ref iq, .int (iI ((n : Int)))])), (iq, .inl (cB, il, .inl (f))), (wd, .inr (1, [.ref wb, .ref u.2.2.1, .ref u.2.2.2.1, .int (iI ((u.2.2.2.2.2.1 : Int)))])), (u.2.2.1, .inl (cI, u.2.2.2.2.1, .inl (fun k => iI (u.2.2.2.2.2.2.1 k)))), (u.2.2.2.1, .inl (cI, u.2.2.2.2.1, .inl (fun k => iI (u.2.2.2.2.2.2.2 k))))]) (va_A [(h, .inr (2, [.ref tp, .ref ip, .ref wd, .int (iI (0)), .int (iI (ln))])), (ip, .inr (0, [.int (iI ((lim : Int))), .ref iq, .int (iI ((n : Int)))])), (iq, .inl (cB, il, .inl (f))), (wd, .inr (1, [.ref wb, .ref s1, .ref s2, .int (iI (((0 : Nat) : Int)))])), (s1, .inl (cI, nl, .inl (fun k => iI (sa k)))), (s2, .inl (cI, nl, .inl (fun k => iI (za k))))] sz)) (400) (8192) (va_A [(h, .inr (2, [.ref tp, .ref ip, .ref wd, .int (iI (0)), .int (iI (ln))])), (ip, .inr (0, [.int (iI ((lim : Int))), .ref iq, .int (iI ((n : Int)))])), (iq, .inl (cB, il, .inl (f))), (wd, .inr (1, [.ref wb, .ref s1, .ref s2, .int (iI (((0 : Nat) : Int)))])), (s1, .inl (cI, nl, .inl (fun k => iI (sa k)))), (s2, .inl (cI, nl, .inl (fun k => iI (za k))))] sz) := by
  refine Met.ofW (cc := cX2_scanCounted) (maxL := 4) (ret := (some .int)) (by decide) rfl ?_
  intro p e s m args below meth c s₁ B hml hv
  obtain ⟨rfl, hsz, hP, hK, hD0⟩ := hv
  have hx := B.exec
  have hb := B.bytes
  have hr := B.returns
  have hts := atoms_spec (ws := wX2_scanCounted) B.pre
  have hown : s.vm.findClass "RequestCutter" = some m.cls := findClass_of_methodNamed B.named
  have hlocks := B.notSynchronized
  subst hsz
  have hD := hD0.self (sz := s.heap.size)
  generalize hAe : va_A [(h, .inr (2, [.ref tp, .ref ip, .ref wd, .int (iI (0)), .int (iI (ln))])), (ip, .inr (0, [.int (iI ((lim : Int))), .ref iq, .int (iI ((n : Int)))])), (iq, .inl (cB, il, .inl (f))), (wd, .inr (1, [.ref wb, .ref s1, .ref s2, .int (iI (((0 : Nat) : Int)))])), (s1, .inl (cI, nl, .inl (fun k => iI (sa k)))), (s2, .inl (cI, nl, .inl (fun k => iI (za k))))] s.heap.size = A at hD ⊢
  have hA : ∀ q : Nat, s.heap.size ≤ q → A q := fun q h => by rw [← hAe]; exact Or.inr h
  have hS : va_S A s.heap s.heap [] := va_S.rf
  have hP : va_P (dC, dI) vwCl [(h, .inr (2, [.ref tp, .ref ip, .ref wd, .int (iI (0)), .int (iI (ln))])), (ip, .inr (0, [.int (iI ((lim : Int))), .ref iq, .int (iI ((n : Int)))])), (iq, .inl (cB, il, .inl (f))), (wd, .inr (1, [.ref wb, .ref s1, .ref s2, .int (iI (((0 : Nat) : Int)))])), (s1, .inl (cI, nl, .inl (fun k => iI (sa k)))), (s2, .inl (cI, nl, .inl (fun k => iI (za k))))] s.heap := hP
  have hl := lv_entry ([.ref h]) (n := 4) (Nat.le_of_ble_eq_true rfl)
  rw [lg_entry_eq]
  generalize (lg_sl ([.ref h]) ++ List.replicate (4 - (lg_sl ([.ref h])).length) Slot.unset).toArray = ls at hl ⊢
  have hl : lv_has ls 4 [(0, .ref h)] := hl
  refine lv_aload_n hx hb dX2_scanCounted_0 rfl (lv_at hl 0 rfl) ?_
  refine lv_iconst (v := iI (0)) hx hb dX2_scanCounted_1 rfl ?_
  refine lx_ldc (z := -999999) (v := -999999) hx hb hown (hts _ (List.mem_cons_of_mem _ tw_166)) (by decide) dX2_scanCounted_2 ?_
  refine lv_sipush (v := iI (1024)) hx hb dX2_scanCounted_4 (by decide) ?_
  refine lv_iconst (v := iI (1)) hx hb dX2_scanCounted_7 rfl ?_
  obtain ⟨L, hL⟩ : ∃ L, L = zLine (bA f n) n (0) (-999999) (1024) := ⟨_, rfl⟩
  have gLr := zLine_rg f n (0) (-999999) (1024)
  rw [← hL] at gLr
  refine vx_Vi (As := [.int (iI (0)), .int (iI (-999999)), .int (iI (1024)), .int (iI (1))]) (rest := []) (wr := [(wd, .inr (1, [.ref wb, .ref s1, .ref s2, .int (iI (((0 : Nat) : Int)))])), (s1, .inl (cI, nl, .inl (fun k => iI (sa k)))), (s2, .inl (cI, nl, .inl (fun k => iI (za k))))]) (ci := 2) (q0 := 0) [0, 1, 2] [3, 4, 5] ⟨hx, hb, hml, hown, hts⟩ (c_X2_scanLine l dC dI cB cI _ h tp ip wd iq lim il n f (0) (ln) hc hn hln (0) (-999999) (1024) (1) (by omega) (by omega) (by omega)) (cwV 4 hts (gd_V tw_167 tw_169 tw_1 tw_19 tw_170) rfl rfl rfl (by decide +kernel) ⟨Nat.le_of_ble_eq_true rfl, Nat.le_of_ble_eq_true rfl⟩) hK hP hD hS hA rfl rfl rfl rfl (by decide) rfl rfl rfl rfl hl.1 rfl (Nat.le_of_ble_eq_true rfl) dX2_scanCounted_8 ⟨Nat.zero_le _, Nat.zero_le _⟩ (fun r u H locs hw hP hD hS => ?_)
  obtain ⟨l1, z1⟩ := u
  try dsimp only at hw hP hD
  rw [← hL] at hw
  obtain ⟨rfl, hz1, gz1, hl1⟩ := hw
  have hP : va_P (dC, dI) vwCl [(h, .inr (2, [.ref tp, .ref ip, .ref wd, .int (iI (l1)), .int (iI (z1))])), (ip, .inr (0, [.int (iI ((lim : Int))), .ref iq, .int (iI ((n : Int)))])), (iq, .inl (cB, il, .inl (f))), (wd, .inr (1, [.ref wb, .ref s1, .ref s2, .int (iI (((0 : Nat) : Int)))])), (s1, .inl (cI, nl, .inl (fun k => iI (sa k)))), (s2, .inl (cI, nl, .inl (fun k => iI (za k))))] H := hP.sub [3, 4, 5, 0, 1, 2] rfl
  have hD : va_D A [(h, .inr (2, [.ref tp, .ref ip, .ref wd, .int (iI (l1)), .int (iI (z1))])), (ip, .inr (0, [.int (iI ((lim : Int))), .ref iq, .int (iI ((n : Int)))])), (iq, .inl (cB, il, .inl (f))), (wd, .inr (1, [.ref wb, .ref s1, .ref s2, .int (iI (((0 : Nat) : Int)))])), (s1, .inl (cI, nl, .inl (fun k => iI (sa k)))), (s2, .inl (cI, nl, .inl (fun k => iI (za k))))] := hD.sub [3, 4, 5, 0, 1, 2] (by decide) rfl
  refine lv_istore_n (lv' := [(1, .int (iI (L.1))), (0, .ref h)]) hx hb dX2_scanCounted_11 rfl hl (by decide) rfl (fun ls hl => ?_)
  refine lv_aload_n hx hb dX2_scanCounted_12 rfl (lv_at hl 1 rfl) ?_
  refine va_get (D := (dC, dI)) (ci := 2) (v := .int (iI (z1))) (C := "RequestCutter") (T := TX2) (N := 5) hx hb hts (fun w h => List.mem_cons_of_mem _ (inX2 w h)) hown hK hP 0 rfl rfl 4 (by decide) (hts _ (List.mem_cons_of_mem _ tw_79)) (fun _ h9 => h9) rfl dX2_scanCounted_13 ?_
  refine lv_istore_n (lv' := [(2, .int (iI (z1))), (1, .int (iI (L.1))), (0, .ref h)]) hx hb dX2_scanCounted_16 rfl hl (by decide) rfl (fun ls hl => ?_)
  refine lv_iconst (v := iI (0)) hx hb dX2_scanCounted_17 rfl ?_
  refine lv_istore_n (lv' := [(3, .int (iI (0))), (2, .int (iI (z1))), (1, .int (iI (L.1))), (0, .ref h)]) hx hb dX2_scanCounted_18 rfl hl (by decide) rfl (fun ls hl => ?_)
  obtain ⟨ft0, hft0⟩ : ∃ t : Int, t = (if L.1 = -2 then 1 else 0) := ⟨_, rfl⟩
  have hz0 : zWords (bA f n) n z1.toNat L.1 ft0 [] = (zCount (bA f n) n) := by
    by_cases q : L.1 < 0
    · rw [zWords_neg q, zCount_neg hL q, hft0]
    · rw [zCount_pos hL q, hft0, hz1 (by omega), if_neg (by omega)]
  refine (?_ : ∀ (k : Nat) (pl : Int) (j : Int) (lf : Int) (ln : Int) (s1 : Nat) (s2 : Nat) (nl : Nat) (cnt : Nat) (sa : Nat → Int) (za : Nat → Int) (C : Nat) (U : Nat) (ft : Int) (ws : List (Int × Int)) (H : Heap) (locs : List Loc) (ls : Array Slot), z1 - j ≤ k → (0 < k → j + k = z1) → (0 ≤ j ∧ (j ≤ z1 ∨ j = 0)) → zWords (bA f n) n k pl ft ws = (zCount (bA f n) n) → lf = (if pl = -2 then ft else 0) → (pl = -1 ∨ pl = -2 ∨ (0 ≤ pl ∧ pl ≤ n)) → (-2147483648 ≤ ln ∧ ln ≤ 2147483647) → (8 ≤ nl ∧ nl ≤ 1024) → cnt ≤ nl → (0 ≤ pl → wR ws cnt sa za ∧ (cnt : Int) = j ∧ (z1 ≤ 1024) ∧ (U ≤ 4 * nl ∨ (nl = 1024 ∧ U ≤ 6144)) ∧ 16 * C ≤ U) → (C ≤ 400 ∧ U ≤ 8192) → va_P (dC, dI) vwCl [(h, .inr (2, [.ref tp, .ref ip, .ref wd, .int (iI (lf)), .int (iI (ln))])), (ip, .inr (0, [.int (iI ((lim : Int))), .ref iq, .int (iI ((n : Int)))])), (iq, .inl (cB, il, .inl (f))), (wd, .inr (1, [.ref wb, .ref s1, .ref s2, .int (iI ((cnt : Int)))])), (s1, .inl (cI, nl, .inl (fun k => iI (sa k)))), (s2, .inl (cI, nl, .inl (fun k => iI (za k))))] H → va_D A [(h, .inr (2, [.ref tp, .ref ip, .ref wd, .int (iI (lf)), .int (iI (ln))])), (ip, .inr (0, [.int (iI ((lim : Int))), .ref iq, .int (iI ((n : Int)))])), (iq, .inl (cB, il, .inl (f))), (wd, .inr (1, [.ref wb, .ref s1, .ref s2, .int (iI ((cnt : Int)))])), (s1, .inl (cI, nl, .inl (fun k => iI (sa k)))), (s2, .inl (cI, nl, .inl (fun k => iI (za k))))] → va_S A s.heap H locs → lv_has ls 4 [(1, .int (iI (pl))), (3, .int (iI (j))), (2, .int (iI (z1))), (0, .ref h)] → W p l e _ s m _ below meth c H locs C U _ (F0 m 19 ls [])) (z1.toNat) (L.1) (0) (l1) (z1) (s1) (s2) (nl) (0) (sa) (za) (0) (0) (ft0) ([]) _ _ ls (by omega) (by omega) (by omega) (hz0) (by rw [hl1, hft0]; by_cases q : L.1 = -2; rw [if_pos q, if_pos q]; rw [if_neg q, if_neg q]) (by omega) (gz1) (hwn) (Nat.zero_le _) (fun q => ⟨wR_0, rfl, by have := hz1 q; omega, by omega⟩) (by omega) (hP.sub [0, 1, 2, 3, 4, 5] rfl) (hD.sub [0, 1, 2, 3, 4, 5] (by decide) rfl) hS (lv_sub hl [2, 0, 1, 3] rfl)
  intro k
  induction k with
  | zero =>
    intro pl j lf ln s1 s2 nl cnt sa za C U ft ws H locs ls hk1 hk2 hj hz hlf hpl hln hwn hwc hwr hCU hP hD hS hl
    refine lv_iload_n hx hb dX2_scanCounted_19 rfl (lv_at hl 1 rfl) ?_
    refine lv_iload_n hx hb dX2_scanCounted_20 rfl (lv_at hl 2 rfl) ?_
    refine lx_icmp_ge (a := j) (b := z1) (tgt := 40) hx hb dX2_scanCounted_21 (by decide) (by omega) (by omega) (fun cq1 => ?_) (fun cq1 => ?_)
    · refine lv_iload_n hx hb dX2_scanCounted_40 rfl (lv_at hl 0 rfl) ?_
      have hZ : (zCount (bA f n) n) = (pl, ft, ws) := by rw [← hz]; first | rfl | exact zWords_neg (by omega)
      refine W.widen (k := 400) (n := 8192) (by omega) (by omega) ?_
      exact W.iret (v := iI (pl)) hx hb hr (fun t ht hW => ⟨⟨iI (pl), (lf, ln, s1, s2, nl, cnt, sa, za), rfl, ⟨by rw [hZ], by rw [hZ]; exact hlf, hln, hwn, hwc, fun q => by rw [hZ] at q ⊢; exact (hwr q).1⟩, by rw [ht]; exact hP, va_K.moved hW.alike hK, hD⟩, hS.F ht⟩) hS.2.2 dX2_scanCounted_41
    · exact absurd cq1 (by omega)
  | succ k ih =>
    intro pl j lf ln s1 s2 nl cnt sa za C U ft ws H locs ls hk1 hk2 hj hz hlf hpl hln hwn hwc hwr hCU hP hD hS hl
    refine lv_iload_n hx hb dX2_scanCounted_19 rfl (lv_at hl 1 rfl) ?_
    refine lv_iload_n hx hb dX2_scanCounted_20 rfl (lv_at hl 2 rfl) ?_
    refine lx_icmp_ge (a := j) (b := z1) (tgt := 40) hx hb dX2_scanCounted_21 (by decide) (by omega) (by omega) (fun cq2 => ?_) (fun cq2 => ?_)
    · exact absurd cq2 (by omega)
    · refine lv_iload_n hx hb dX2_scanCounted_24 rfl (lv_at hl 0 rfl) ?_
      refine lx_if_lt (a := pl) (tgt := 40) hx hb dX2_scanCounted_25 (by decide) (by omega) (fun cq3 => ?_) (fun cq3 => ?_)
      · refine lv_iload_n hx hb dX2_scanCounted_40 rfl (lv_at hl 0 rfl) ?_
        have hZ : (zCount (bA f n) n) = (pl, ft, ws) := by rw [← hz]; first | rfl | exact zWords_neg (by omega)
        refine W.widen (k := 400) (n := 8192) (by omega) (by omega) ?_
        exact W.iret (v := iI (pl)) hx hb hr (fun t ht hW => ⟨⟨iI (pl), (lf, ln, s1, s2, nl, cnt, sa, za), rfl, ⟨by rw [hZ], by rw [hZ]; exact hlf, hln, hwn, hwc, fun q => by rw [hZ] at q ⊢; exact (hwr q).1⟩, by rw [ht]; exact hP, va_K.moved hW.alike hK, hD⟩, hS.F ht⟩) hS.2.2 dX2_scanCounted_41
      · refine lv_aload_n hx hb dX2_scanCounted_28 rfl (lv_at hl 3 rfl) ?_
        refine lv_iload_n hx hb dX2_scanCounted_29 rfl (lv_at hl 0 rfl) ?_
        obtain ⟨hwr1, hcj, hzm, hUU, h16⟩ := hwr (by omega)
        obtain ⟨m1, m2, hm12⟩ : ∃ m1 m2 : Nat, (¬ (cnt < 1024 ∧ nl ≤ cnt) ∧ m1 = 0 ∧ m2 = 0) ∨ ((cnt < 1024 ∧ nl ≤ cnt) ∧ m1 = 2 ∧ m2 = 2 * min 1024 (2 * cnt)) := by
          by_cases q : cnt < 1024 ∧ nl ≤ cnt
          · exact ⟨2, _, Or.inr ⟨q, rfl, rfl⟩⟩
          · exact ⟨0, 0, Or.inl ⟨q, rfl, rfl⟩⟩
        have hlf0 : lf = 0 := by rw [hlf]; exact if_neg (by omega)
        obtain ⟨V, hV⟩ : ∃ V, V = zWord (bA f n) n pl := ⟨_, rfl⟩
        have gW := zWord_rg f n pl
        rw [← hV] at gW
        refine vx_Vi (As := [.int (iI (pl))]) (rest := []) (wr := []) (ci := 2) (q0 := 0) [0, 1, 2, 3, 4, 5] [] ⟨hx, hb, hml, hown, hts⟩ (c_X2_scanWord l dC dI cB cI _ h tp ip wd iq lim il n f lf ln hc hn hln wb s1 s2 nl cnt sa za hwc hwn pl (by omega) m1 m2 (fun q => by omega)) (cwV 1 hts (gd_V tw_183 tw_185 tw_5 tw_19 tw_186) rfl rfl rfl (by decide +kernel) ⟨Nat.le_of_ble_eq_true rfl, Nat.le_of_ble_eq_true rfl⟩) hK hP hD hS hA rfl rfl rfl rfl (by decide) rfl rfl rfl rfl hl.1 rfl (Nat.le_of_ble_eq_true rfl) dX2_scanCounted_30 ⟨by show C + m1 ≤ 400; omega, by show U + m2 ≤ 8192; omega⟩ (fun r u H locs hw hP hD hS => ?_)
        obtain ⟨l2, n2, s3, s4, nl1, cnt1, sa1, za1⟩ := u
        try dsimp only at hw hP hD
        rw [← hV] at hw
        obtain ⟨rfl, hl2, gz2, hn2, hc2, hx2⟩ := hw
        have hP : va_P (dC, dI) vwCl [(h, .inr (2, [.ref tp, .ref ip, .ref wd, .int (iI (l2)), .int (iI (n2))])), (ip, .inr (0, [.int (iI ((lim : Int))), .ref iq, .int (iI ((n : Int)))])), (iq, .inl (cB, il, .inl (f))), (wd, .inr (1, [.ref wb, .ref s3, .ref s4, .int (iI ((cnt1 : Int)))])), (s3, .inl (cI, nl1, .inl (fun k => iI (sa1 k)))), (s4, .inl (cI, nl1, .inl (fun k => iI (za1 k))))] H := hP.sub [0, 1, 2, 3, 4, 5] rfl
        have hD : va_D A [(h, .inr (2, [.ref tp, .ref ip, .ref wd, .int (iI (l2)), .int (iI (n2))])), (ip, .inr (0, [.int (iI ((lim : Int))), .ref iq, .int (iI ((n : Int)))])), (iq, .inl (cB, il, .inl (f))), (wd, .inr (1, [.ref wb, .ref s3, .ref s4, .int (iI ((cnt1 : Int)))])), (s3, .inl (cI, nl1, .inl (fun k => iI (sa1 k)))), (s4, .inl (cI, nl1, .inl (fun k => iI (za1 k))))] := hD.sub [0, 1, 2, 3, 4, 5] (by decide) rfl
        refine lv_istore_n (lv' := [(1, .int (iI (V.1))), (3, .int (iI (j))), (2, .int (iI (z1))), (0, .ref h)]) hx hb dX2_scanCounted_33 rfl hl (by decide) rfl (fun ls hl => ?_)
        refine lv_iinc (v := iI (j + 1)) (lv' := [(3, .int (iI (j + 1))), (1, .int (iI (V.1))), (2, .int (iI (z1))), (0, .ref h)]) hx hb dX2_scanCounted_34 hl (k := 1) rfl (iI_add _ _) (by decide) rfl (fun ls hl => ?_)
        refine lv_goto (tgt := 19) hx hb dX2_scanCounted_37 (by decide) ?_
        exact ih (V.1) (j + 1) (l2) (n2) (s3) (s4) (nl1) (cnt1) (sa1) (za1) (C + m1) (U + m2) (V.2.1) (ws ++ [V.2.2]) _ _ ls (by omega) (by omega) (by omega) (by rw [hV, ← zWords_suc (by omega)]; exact hz) (by rw [hl2, hlf0]) (by omega) (gz2) (hn2) (hc2) (fun q => by obtain ⟨hx3, hx4, hx5, hx6, hx7⟩ := hx2 q (by omega); exact ⟨by rw [hx4]; exact wR_add hwr1 hx5 hx6 hx7, by omega, hzm, by omega⟩) (by omega) (hP.sub [0, 1, 2, 3, 4, 5] rfl) (hD.sub [0, 1, 2, 3, 4, 5] (by decide) rfl) hS (lv_sub hl [1, 0, 2, 3] rfl)
set_option maxHeartbeats 4000000 in
set_option maxRecDepth 100000 in
/-- findLineFeed() -/
theorem c_X2_findLineFeed (l : Launch) (dC : Nat → ClassId) (dI : Nat → Nat → Nat) (cB cI : ClassId) (h tp ip wd iq lim il n : Nat) (f : Nat → Int32) (lf ln : Int) (hc : n ≤ il) (hn : il ≤ 65536) : Met l yX2_findLineFeed wX2_findLineFeed ({ frames := 1, cells := 0, slots := 0, locals := 21 }) (va_Pc [.ref h] (vx_R (dC, dI) vwCl [(cB, .byte), (cI, .int)] [(h, .inr (2, [.ref tp, .ref ip, .ref wd, .int (iI (lf)), .int (iI (ln))])), (ip, .inr (0, [.int (iI ((lim : Int))), .ref iq, .int (iI ((n : Int)))])), (iq, .inl (cB, il, .inl (f)))])) (vp_Si (fun r => r = iI (zLF (bA f n) (min n 2048) 0))) 0 0 (fun _ => False) := by
  refine Met.ofW (cc := cX2_findLineFeed) (maxL := 3) (ret := (some .int)) (by decide) rfl ?_
  intro p e s m args below meth c s₁ B hml hv
  obtain ⟨rfl, hP, hK⟩ := hv
  have hx := B.exec
  have hb := B.bytes
  have hr := B.returns
  have hts := atoms_spec (ws := wX2_findLineFeed) B.pre
  have hown : s.vm.findClass "RequestCutter" = some m.cls := findClass_of_methodNamed B.named
  have hlocks := B.notSynchronized
  have hP : va_P (dC, dI) vwCl [(h, .inr (2, [.ref tp, .ref ip, .ref wd, .int (iI (lf)), .int (iI (ln))])), (ip, .inr (0, [.int (iI ((lim : Int))), .ref iq, .int (iI ((n : Int)))])), (iq, .inl (cB, il, .inl (f)))] s.heap := hP
  have hl := lv_entry ([.ref h]) (n := 3) (Nat.le_of_ble_eq_true rfl)
  rw [lg_entry_eq]
  generalize (lg_sl ([.ref h]) ++ List.replicate (3 - (lg_sl ([.ref h])).length) Slot.unset).toArray = ls at hl ⊢
  have hl : lv_has ls 3 [(0, .ref h)] := hl
  refine lv_aload_n hx hb dX2_findLineFeed_0 rfl (lv_at hl 0 rfl) ?_
  refine va_get (D := (dC, dI)) (ci := 2) (v := .ref ip) (C := "RequestCutter") (T := TX2) (N := 5) hx hb hts (fun w h => List.mem_cons_of_mem _ (inX2 w h)) hown hK hP 0 rfl rfl 1 (by decide) (hts _ (List.mem_cons_of_mem _ tw_76)) (fun _ h9 => h9) rfl dX2_findLineFeed_1 ?_
  refine vx_Vs (As := []) (rest := []) (ci := 0) (q0 := 0) [1] ⟨hx, hb, hml, hown, hts⟩ (c_X0_count l dC dI cB cI ip iq lim n) (cwV 0 hts (gd_V tw_135 tw_136 tw_137 tw_20 tw_138) rfl rfl rfl (by decide +kernel) ⟨Nat.le_of_ble_eq_true rfl, Nat.le_of_ble_eq_true rfl⟩) hK hP rfl rfl rfl rfl rfl hl.1 rfl (Nat.le_of_ble_eq_true rfl) dX2_findLineFeed_4 ⟨Nat.zero_le _, Nat.zero_le _⟩ (fun r hr => ?_)
  obtain rfl : r = iI ((n : Int)) := hr
  refine lv_sipush (v := iI (2048)) hx hb dX2_findLineFeed_7 (by decide) ?_
  refine lx_min (a := (n : Int)) (b := 2048) hx hb (by rw [hml]; exact hl.1.symm) hown (hts _ (List.mem_cons_of_mem _ tw_212)) (hts _ (List.mem_cons_of_mem _ tw_103)) (hts _ (List.mem_cons_of_mem _ tw_23)) (hts _ (List.mem_cons_of_mem _ tw_104)) (Nat.le_of_ble_eq_true rfl) (Nat.le_of_ble_eq_true rfl) (Nat.zero_le _) (Nat.zero_le _) (by omega) (by omega) dX2_findLineFeed_10 ?_
  refine lv_istore_n (lv' := [(1, .int (iI (min ((n : Int)) (2048)))), (0, .ref h)]) hx hb dX2_findLineFeed_13 rfl hl (by decide) rfl (fun ls hl => ?_)
  refine lv_iconst (v := iI (0)) hx hb dX2_findLineFeed_14 rfl ?_
  refine lv_istore_n (lv' := [(2, .int (iI (0))), (1, .int (iI (min ((n : Int)) (2048)))), (0, .ref h)]) hx hb dX2_findLineFeed_15 rfl hl (by decide) rfl (fun ls hl => ?_)
  refine (?_ : ∀ (k : Nat) (i : Int) (ls : Array Slot), i + k = ((min n 2048 : Nat) : Int) → 0 ≤ i → zLF (bA f n) k i = zLF (bA f n) (min n 2048) 0 → lv_has ls 3 [(2, .int (iI (i))), (1, .int (iI (min ((n : Int)) (2048)))), (0, .ref h)] → W p l e _ s m _ below meth c _ _ _ _ _ (F0 m 16 ls [])) (min n 2048) (0) ls (by omega) (by omega) (rfl) (lv_sub hl [0, 1, 2] rfl)
  intro k
  induction k with
  | zero =>
    intro i ls hk hi0 hz hl
    refine lv_iload_n hx hb dX2_findLineFeed_16 rfl (lv_at hl 0 rfl) ?_
    refine lv_iload_n hx hb dX2_findLineFeed_17 rfl (lv_at hl 1 rfl) ?_
    refine lx_icmp_ge (a := i) (b := min ((n : Int)) (2048)) (tgt := 42) hx hb dX2_findLineFeed_18 (by decide) (by omega) (by omega) (fun cq1 => ?_) (fun cq1 => ?_)
    · refine lv_iconst (v := iI (-1)) hx hb dX2_findLineFeed_42 rfl ?_
      exact W.iret (v := iI (-1)) hx hb hr (fun t ht hW => ⟨iI (-1), rfl, by rw [← hz]; rfl, ht⟩) (fun _ h => by cases h) dX2_findLineFeed_43
    · exact absurd cq1 (by omega)
  | succ k ih =>
    intro i ls hk hi0 hz hl
    refine lv_iload_n hx hb dX2_findLineFeed_16 rfl (lv_at hl 0 rfl) ?_
    refine lv_iload_n hx hb dX2_findLineFeed_17 rfl (lv_at hl 1 rfl) ?_
    refine lx_icmp_ge (a := i) (b := min ((n : Int)) (2048)) (tgt := 42) hx hb dX2_findLineFeed_18 (by decide) (by omega) (by omega) (fun cq2 => ?_) (fun cq2 => ?_)
    · exact absurd cq2 (by omega)
    · refine lv_aload_n hx hb dX2_findLineFeed_21 rfl (lv_at hl 2 rfl) ?_
      refine va_get (D := (dC, dI)) (ci := 2) (v := .ref ip) (C := "RequestCutter") (T := TX2) (N := 5) hx hb hts (fun w h => List.mem_cons_of_mem _ (inX2 w h)) hown hK hP 0 rfl rfl 1 (by decide) (hts _ (List.mem_cons_of_mem _ tw_76)) (fun _ h9 => h9) rfl dX2_findLineFeed_22 ?_
      refine lv_iload_n hx hb dX2_findLineFeed_25 rfl (lv_at hl 0 rfl) ?_
      have g_at := bA_rg f n (i)
      refine vx_Vs (As := [.int (iI (i))]) (rest := []) (ci := 0) (q0 := 0) [1, 2] ⟨hx, hb, hml, hown, hts⟩ (c_X0_at l dC dI cB cI ip iq lim il n f hc hn (i) (by omega)) (cwV 1 hts (gd_V tw_158 tw_159 tw_160 tw_20 tw_161) rfl rfl rfl (by decide +kernel) ⟨Nat.le_of_ble_eq_true rfl, Nat.le_of_ble_eq_true rfl⟩) hK hP rfl rfl rfl rfl rfl hl.1 rfl (Nat.le_of_ble_eq_true rfl) dX2_findLineFeed_26 ⟨Nat.zero_le _, Nat.zero_le _⟩ (fun r hr => ?_)
      obtain rfl : r = iI (bA f n (i)) := hr
      refine lv_bipush (v := iI (10)) hx hb dX2_findLineFeed_29 (by decide) ?_
      refine lx_icmp_ne (a := bA f n (i)) (b := 10) (tgt := 36) hx hb dX2_findLineFeed_31 (by decide) (by omega) (by omega) (fun cq3 => ?_) (fun cq3 => ?_)
      · refine lv_iinc (v := iI (i + 1)) (lv' := [(2, .int (iI (i + 1))), (1, .int (iI (min ((n : Int)) (2048)))), (0, .ref h)]) hx hb dX2_findLineFeed_36 hl (k := 0) rfl (iI_add _ _) (by decide) rfl (fun ls hl => ?_)
        refine lv_goto (tgt := 16) hx hb dX2_findLineFeed_39 (by decide) ?_
        exact ih (i + 1) ls (by omega) (by omega) (by rw [← hz]; exact (if_neg (by omega)).symm) (lv_sub hl [0, 1, 2] rfl)
      · refine lv_iload_n hx hb dX2_findLineFeed_34 rfl (lv_at hl 0 rfl) ?_
        exact W.iret (v := iI (i)) hx hb hr (fun t ht hW => ⟨iI (i), rfl, by rw [← hz]; exact congrArg iI (if_pos (by omega)).symm, ht⟩) (fun _ h => by cases h) dX2_findLineFeed_35
set_option maxHeartbeats 4000000 in
set_option maxRecDepth 100000 in
/-- addPlainWords(stop) -/
theorem c_X2_addPlainWords (l : Launch) (dC : Nat → ClassId) (dI : Nat → Nat → Nat) (cB cI : ClassId) (sz : Nat) (h tp ip wd iq lim il n : Nat) (f : Nat → Int32) (lf ln : Int) (hc : n ≤ il) (hn : il ≤ 65536) (wb s1 s2 nl : Nat) (sa za : Nat → Int) (hwn : 8 ≤ nl ∧ nl ≤ 1024) (stop : Int) (hst : 0 ≤ stop ∧ stop ≤ 2047) : Met l yX2_addPlainWords wX2_addPlainWords ({ frames := 3, cells := 400, slots := 8192, locals := 93 }) (va_Pc [.ref h, .int (iI (stop))] (vx_B (dC, dI) vwCl [(cB, .byte), (cI, .int)] [(h, .inr (2, [.ref tp, .ref ip, .ref wd, .int (iI (lf)), .int (iI (ln))])), (ip, .inr (0, [.int (iI ((lim : Int))), .ref iq, .int (iI ((n : Int)))])), (iq, .inl (cB, il, .inl (f))), (wd, .inr (1, [.ref wb, .ref s1, .ref s2, .int (iI (((0 : Nat) : Int)))])), (s1, .inl (cI, nl, .inl (fun k => iI (sa k)))), (s2, .inl (cI, nl, .inl (fun k => iI (za k))))] sz)) (va_Qv (fun (u : Nat × Nat × Nat × Nat × (Nat → Int) × (Nat → Int)) => (8 ≤ u.2.2.1 ∧ u.2.2.1 ≤ 1024) ∧ u.2.2.2.1 ≤ u.2.2.1 ∧ wR (zSplit (bA f n) stop (stop + 1).toNat 0 0 []) u.2.2.2.1 u.2.2.2.2.1 u.2.2.2.2.2) (fun (u : Nat × Nat × Nat × Nat × (Nat → Int) × (Nat → Int)) => vx_E (dC, dI) vwCl [(cB, .byte), (cI, .int)] (va_A [(h, .inr (2, [.ref tp, .ref ip, .ref wd, .int (iI (lf)), .int (iI (ln))])), (ip, .inr (0, [.int (iI ((lim : Int))), .ref iq, .int (iI ((n : Int)))])), (iq, .inl (cB, il, .inl (f))), (wd, .inr (1, [.ref wb, .ref s1, .ref s2, .int (iI (((0 : Nat) : Int)))])), (s1, .inl (cI, nl, .inl (fun k => iI (sa k)))), (s2, .inl (cI, nl, .inl (fun k => iI (za k))))] sz) [(h, .inr (2, [.ref tp, .ref ip, .ref wd, .int (iI (lf)), .int (iI (ln))])), (ip, .inr (0, [.int (iI ((lim : Int))), .ref iq, .int (iI ((n : Int)))])), (iq, .inl (cB, il, .inl (f))), (wd, .inr (1, [.ref wb, .ref u.1, .ref u.2.1, .int (iI ((u.2.2.2.1 : Int)))])), (u.1, .inl (cI, u.2.2.1, .inl (fun k => iI (u.2.2.2.2.1 k)))), (u.2.1, .inl (cI, u.2.2.1, .inl (fun k => iI (u.2.2.2.2.2 k))))]) (va_A [(h, .inr (2, [.ref tp, .ref ip, .ref wd, .int (iI (lf)), .int (iI (ln))])), (ip, .inr (0, [.int (iI ((lim : Int))), .ref iq, .int (iI ((n : Int)))])), (iq, .inl (cB, il, .inl (f))), (wd, .inr (1, [.ref wb, .ref s1, .ref s2, .int (iI (((0 : Nat) : Int)))])), (s1, .inl (cI, nl, .inl (fun k => iI (sa k)))), (s2, .inl (cI, nl, .inl (fun k => iI (za k))))] sz)) (400) (8192) (va_A [(h, .inr (2, [.ref tp, .ref ip, .ref wd, .int (iI (lf)), .int (iI (ln))])), (ip, .inr (0, [.int (iI ((lim : Int))), .ref iq, .int (iI ((n : Int)))])), (iq, .inl (cB, il, .inl (f))), (wd, .inr (1, [.ref wb, .ref s1, .ref s2, .int (iI (((0 : Nat) : Int)))])), (s1, .inl (cI, nl, .inl (fun k => iI (sa k)))), (s2, .inl (cI, nl, .inl (fun k => iI (za k))))] sz) := by
  refine Met.ofW (cc := cX2_addPlainWords) (maxL := 4) (ret := none) (by decide) rfl ?_
  intro p e s m args below meth c s₁ B hml hv
  obtain ⟨rfl, hsz, hP, hK, hD0⟩ := hv
  have hx := B.exec
  have hb := B.bytes
  have hr := B.returns
  have hts := atoms_spec (ws := wX2_addPlainWords) B.pre
  have hown : s.vm.findClass "RequestCutter" = some m.cls := findClass_of_methodNamed B.named
  have hlocks := B.notSynchronized
  subst hsz
  have hD := hD0.self (sz := s.heap.size)
  generalize hAe : va_A [(h, .inr (2, [.ref tp, .ref ip, .ref wd, .int (iI (lf)), .int (iI (ln))])), (ip, .inr (0, [.int (iI ((lim : Int))), .ref iq, .int (iI ((n : Int)))])), (iq, .inl (cB, il, .inl (f))), (wd, .inr (1, [.ref wb, .ref s1, .ref s2, .int (iI (((0 : Nat) : Int)))])), (s1, .inl (cI, nl, .inl (fun k => iI (sa k)))), (s2, .inl (cI, nl, .inl (fun k => iI (za k))))] s.heap.size = A at hD ⊢
  have hA : ∀ q : Nat, s.heap.size ≤ q → A q := fun q h => by rw [← hAe]; exact Or.inr h
  have hS : va_S A s.heap s.heap [] := va_S.rf
  have hP : va_P (dC, dI) vwCl [(h, .inr (2, [.ref tp, .ref ip, .ref wd, .int (iI (lf)), .int (iI (ln))])), (ip, .inr (0, [.int (iI ((lim : Int))), .ref iq, .int (iI ((n : Int)))])), (iq, .inl (cB, il, .inl (f))), (wd, .inr (1, [.ref wb, .ref s1, .ref s2, .int (iI (((0 : Nat) : Int)))])), (s1, .inl (cI, nl, .inl (fun k => iI (sa k)))), (s2, .inl (cI, nl, .inl (fun k => iI (za k))))] s.heap := hP
  have hl := lv_entry ([.ref h, .int (iI (stop))]) (n := 4) (Nat.le_of_ble_eq_true rfl)
  rw [lg_entry_eq]
  generalize (lg_sl ([.ref h, .int (iI (stop))]) ++ List.replicate (4 - (lg_sl ([.ref h, .int (iI (stop))])).length) Slot.unset).toArray = ls at hl ⊢
  have hl : lv_has ls 4 [(0, .ref h), (1, .int (iI (stop)))] := hl
  refine lv_iconst (v := iI (0)) hx hb dX2_addPlainWords_0 rfl ?_
  refine lv_istore_n (lv' := [(2, .int (iI (0))), (0, .ref h), (1, .int (iI (stop)))]) hx hb dX2_addPlainWords_1 rfl hl (by decide) rfl (fun ls hl => ?_)
  refine lv_iconst (v := iI (0)) hx hb dX2_addPlainWords_2 rfl ?_
  refine lv_istore_n (lv' := [(3, .int (iI (0))), (2, .int (iI (0))), (0, .ref h), (1, .int (iI (stop)))]) hx hb dX2_addPlainWords_3 rfl hl (by decide) rfl (fun ls hl => ?_)
  refine (?_ : ∀ (k : Nat) (i : Int) (st : Int) (s1 : Nat) (s2 : Nat) (nl : Nat) (cnt : Nat) (sa : Nat → Int) (za : Nat → Int) (C : Nat) (U : Nat) (ws : List (Int × Int)) (H : Heap) (locs : List Loc) (ls : Array Slot), i + k = stop + 1 → ((0 ≤ st ∧ st ≤ i) ∧ 2 * (cnt : Int) ≤ st) → zSplit (bA f n) stop k i st ws = (zSplit (bA f n) stop (stop + 1).toNat 0 0 []) → (8 ≤ nl ∧ nl ≤ 1024) → cnt ≤ nl → wR ws cnt sa za → ((U ≤ 4 * nl ∨ (nl = 1024 ∧ U ≤ 6144)) ∧ 16 * C ≤ U) → va_P (dC, dI) vwCl [(h, .inr (2, [.ref tp, .ref ip, .ref wd, .int (iI (lf)), .int (iI (ln))])), (ip, .inr (0, [.int (iI ((lim : Int))), .ref iq, .int (iI ((n : Int)))])), (iq, .inl (cB, il, .inl (f))), (wd, .inr (1, [.ref wb, .ref s1, .ref s2, .int (iI ((cnt : Int)))])), (s1, .inl (cI, nl, .inl (fun k => iI (sa k)))), (s2, .inl (cI, nl, .inl (fun k => iI (za k))))] H → va_D A [(h, .inr (2, [.ref tp, .ref ip, .ref wd, .int (iI (lf)), .int (iI (ln))])), (ip, .inr (0, [.int (iI ((lim : Int))), .ref iq, .int (iI ((n : Int)))])), (iq, .inl (cB, il, .inl (f))), (wd, .inr (1, [.ref wb, .ref s1, .ref s2, .int (iI ((cnt : Int)))])), (s1, .inl (cI, nl, .inl (fun k => iI (sa k)))), (s2, .inl (cI, nl, .inl (fun k => iI (za k))))] → va_S A s.heap H locs → lv_has ls 4 [(3, .int (iI (i))), (2, .int (iI (st))), (0, .ref h), (1, .int (iI (stop)))] → W p l e _ s m _ below meth c H locs C U _ (F0 m 4 ls [])) ((stop + 1).toNat) (0) (0) (s1) (s2) (nl) (0) (sa) (za) (0) (0) ([]) _ _ ls (by omega) (by omega) (rfl) (hwn) (Nat.zero_le _) (wR_0) (by omega) (hP.sub [0, 1, 2, 3, 4, 5] rfl) (hD.sub [0, 1, 2, 3, 4, 5] (by decide) rfl) hS (lv_sub hl [0, 1, 2, 3] rfl)
  intro k
  induction k with
  | zero =>
    intro i st s1 s2 nl cnt sa za C U ws H locs ls hk hi0 hz hwn hwc hwr hUU hP hD hS hl
    refine lv_iload_n hx hb dX2_addPlainWords_4 rfl (lv_at hl 0 rfl) ?_
    refine lv_iload_n hx hb dX2_addPlainWords_5 rfl (lv_at hl 3 rfl) ?_
    refine lx_icmp_gt (a := i) (b := stop) (tgt := 53) hx hb dX2_addPlainWords_6 (by decide) (by omega) (by omega) (fun cq1 => ?_) (fun cq1 => ?_)
    · have hZ : (zSplit (bA f n) stop (stop + 1).toNat 0 0 []) = ws := hz.symm
      refine W.widen (k := 400) (n := 8192) (by omega) (by omega) ?_
      exact W.vret hx hb hr (fun t ht hW => ⟨⟨(s1, s2, nl, cnt, sa, za), rfl, ⟨hwn, hwc, by rw [hZ]; exact hwr⟩, by rw [ht]; exact hP, va_K.moved hW.alike hK, hD⟩, hS.F ht⟩) hS.2.2 dX2_addPlainWords_53
    · exact absurd cq1 (by omega)
  | succ k ih =>
    intro i st s1 s2 nl cnt sa za C U ws H locs ls hk hi0 hz hwn hwc hwr hUU hP hD hS hl
    refine lv_iload_n hx hb dX2_addPlainWords_4 rfl (lv_at hl 0 rfl) ?_
    refine lv_iload_n hx hb dX2_addPlainWords_5 rfl (lv_at hl 3 rfl) ?_
    refine lx_icmp_gt (a := i) (b := stop) (tgt := 53) hx hb dX2_addPlainWords_6 (by decide) (by omega) (by omega) (fun cq2 => ?_) (fun cq2 => ?_)
    · exact absurd cq2 (by omega)
    · refine lv_iload_n hx hb dX2_addPlainWords_9 rfl (lv_at hl 0 rfl) ?_
      refine lv_iload_n hx hb dX2_addPlainWords_10 rfl (lv_at hl 3 rfl) ?_
      refine lx_icmp_eq (a := i) (b := stop) (tgt := 27) hx hb dX2_addPlainWords_11 (by decide) (by omega) (by omega) (fun cq3 => ?_) (fun cq3 => ?_)
      · refine lv_iload_n hx hb dX2_addPlainWords_27 rfl (lv_at hl 0 rfl) ?_
        refine lv_iload_n hx hb dX2_addPlainWords_28 rfl (lv_at hl 1 rfl) ?_
        refine lx_icmp_le (a := i) (b := st) (tgt := 43) hx hb dX2_addPlainWords_29 (by decide) (by omega) (by omega) (fun cq4 => ?_) (fun cq4 => ?_)
        · refine lv_iload_n hx hb dX2_addPlainWords_43 rfl (lv_at hl 0 rfl) ?_
          refine lv_iconst (v := iI (1)) hx hb dX2_addPlainWords_44 rfl ?_
          refine lx_iadd (a := i) (b := 1) hx hb dX2_addPlainWords_45 ?_
          refine lv_istore_n (lv' := [(2, .int (iI (i + 1))), (3, .int (iI (i))), (0, .ref h), (1, .int (iI (stop)))]) hx hb dX2_addPlainWords_46 rfl hl (by decide) rfl (fun ls hl => ?_)
          refine lv_iinc (v := iI (i + 1)) (lv' := [(3, .int (iI (i + 1))), (2, .int (iI (i + 1))), (0, .ref h), (1, .int (iI (stop)))]) hx hb dX2_addPlainWords_47 hl (k := 1) rfl (iI_add _ _) (by decide) rfl (fun ls hl => ?_)
          refine lv_goto (tgt := 4) hx hb dX2_addPlainWords_50 (by decide) ?_
          exact ih (i + 1) (i + 1) (s1) (s2) (nl) (cnt) (sa) (za) (C) (U) (ws) _ _ ls (by omega) (by omega) (by rw [← zSplit_s (st := st) (by omega) (by omega)]; exact hz) (hwn) (hwc) (hwr) (hUU) (hP.sub [0, 1, 2, 3, 4, 5] rfl) (hD.sub [0, 1, 2, 3, 4, 5] (by decide) rfl) hS (lv_sub hl [0, 1, 2, 3] rfl)
        · refine lv_aload_n hx hb dX2_addPlainWords_32 rfl (lv_at hl 2 rfl) ?_
          refine va_get (D := (dC, dI)) (ci := 2) (v := .ref wd) (C := "RequestCutter") (T := TX2) (N := 5) hx hb hts (fun w h => List.mem_cons_of_mem _ (inX2 w h)) hown hK hP 0 rfl rfl 2 (by decide) (hts _ (List.mem_cons_of_mem _ tw_77)) (fun _ h9 => h9) rfl dX2_addPlainWords_33 ?_
          refine lv_iload_n hx hb dX2_addPlainWords_36 rfl (lv_at hl 1 rfl) ?_
          refine lv_iload_n hx hb dX2_addPlainWords_37 rfl (lv_at hl 0 rfl) ?_
          refine lv_iload_n hx hb dX2_addPlainWords_38 rfl (lv_at hl 1 rfl) ?_
          refine lx_isub (a := i) (b := st) hx hb dX2_addPlainWords_39 ?_
          obtain ⟨m1, m2, hm12⟩ : ∃ m1 m2 : Nat, (¬ (cnt < 1024 ∧ nl ≤ cnt) ∧ m1 = 0 ∧ m2 = 0) ∨ ((cnt < 1024 ∧ nl ≤ cnt) ∧ m1 = 2 ∧ m2 = 2 * min 1024 (2 * cnt)) := by
            by_cases q : cnt < 1024 ∧ nl ≤ cnt
            · exact ⟨2, _, Or.inr ⟨q, rfl, rfl⟩⟩
            · exact ⟨0, 0, Or.inl ⟨q, rfl, rfl⟩⟩
          refine vx_Vv (As := [.int (iI (st)), .int (iI (i - st))]) (rest := []) (wr := [(h, .inr (2, [.ref tp, .ref ip, .ref wd, .int (iI (lf)), .int (iI (ln))])), (ip, .inr (0, [.int (iI ((lim : Int))), .ref iq, .int (iI ((n : Int)))])), (iq, .inl (cB, il, .inl (f)))]) (ci := 1) (q0 := 0) [3, 4, 5] [0, 1, 2] ⟨hx, hb, hml, hown, hts⟩ (c_X1_add l dC dI cB cI _ wd wb s1 s2 nl cnt sa za hwc hwn st (i - st) m1 m2 (fun q => by omega)) (cwV 2 hts (gd_V tw_187 tw_188 tw_189 tw_21 tw_190) rfl rfl rfl (by decide +kernel) ⟨Nat.le_of_ble_eq_true rfl, Nat.le_of_ble_eq_true rfl⟩) hK hP hD hS hA rfl rfl rfl rfl (by decide) rfl rfl rfl rfl hl.1 rfl (Nat.le_of_ble_eq_true rfl) dX2_addPlainWords_40 ⟨by show C + m1 ≤ 400; omega, by show U + m2 ≤ 8192; omega⟩ (fun u H locs hw hP hD hS => ?_)
          obtain ⟨s3, s4, nl1, cnt1, sa1, za1⟩ := u
          try dsimp only at hw hP hD
          obtain ⟨hn1, hc1, hnl1, hcn1, hs1, hx1⟩ := hw
          have hP : va_P (dC, dI) vwCl [(h, .inr (2, [.ref tp, .ref ip, .ref wd, .int (iI (lf)), .int (iI (ln))])), (ip, .inr (0, [.int (iI ((lim : Int))), .ref iq, .int (iI ((n : Int)))])), (iq, .inl (cB, il, .inl (f))), (wd, .inr (1, [.ref wb, .ref s3, .ref s4, .int (iI ((cnt1 : Int)))])), (s3, .inl (cI, nl1, .inl (fun k => iI (sa1 k)))), (s4, .inl (cI, nl1, .inl (fun k => iI (za1 k))))] H := hP.sub [0, 1, 2, 3, 4, 5] rfl
          have hD : va_D A [(h, .inr (2, [.ref tp, .ref ip, .ref wd, .int (iI (lf)), .int (iI (ln))])), (ip, .inr (0, [.int (iI ((lim : Int))), .ref iq, .int (iI ((n : Int)))])), (iq, .inl (cB, il, .inl (f))), (wd, .inr (1, [.ref wb, .ref s3, .ref s4, .int (iI ((cnt1 : Int)))])), (s3, .inl (cI, nl1, .inl (fun k => iI (sa1 k)))), (s4, .inl (cI, nl1, .inl (fun k => iI (za1 k))))] := hD.sub [0, 1, 2, 3, 4, 5] (by decide) rfl
          have hx4 : cnt1 = cnt + 1 := by omega
          refine lv_iload_n hx hb dX2_addPlainWords_43 rfl (lv_at hl 0 rfl) ?_
          refine lv_iconst (v := iI (1)) hx hb dX2_addPlainWords_44 rfl ?_
          refine lx_iadd (a := i) (b := 1) hx hb dX2_addPlainWords_45 ?_
          refine lv_istore_n (lv' := [(2, .int (iI (i + 1))), (3, .int (iI (i))), (0, .ref h), (1, .int (iI (stop)))]) hx hb dX2_addPlainWords_46 rfl hl (by decide) rfl (fun ls hl => ?_)
          refine lv_iinc (v := iI (i + 1)) (lv' := [(3, .int (iI (i + 1))), (2, .int (iI (i + 1))), (0, .ref h), (1, .int (iI (stop)))]) hx hb dX2_addPlainWords_47 hl (k := 1) rfl (iI_add _ _) (by decide) rfl (fun ls hl => ?_)
          refine lv_goto (tgt := 4) hx hb dX2_addPlainWords_50 (by decide) ?_
          exact ih (i + 1) (i + 1) (s3) (s4) (nl1) (cnt1) (sa1) (za1) (C + m1) (U + m2) (ws ++ [(st, i - st)]) _ _ ls (by omega) (by omega) (by rw [← zSplit_w (by omega) (by omega)]; exact hz) (hn1) (hc1) (by rw [hx4]; exact wR_add hwr hs1 (hx1 (by omega)).1 (hx1 (by omega)).2) (by omega) (hP.sub [0, 1, 2, 3, 4, 5] rfl) (hD.sub [0, 1, 2, 3, 4, 5] (by decide) rfl) hS (lv_sub hl [0, 1, 2, 3] rfl)
      · refine lv_aload_n hx hb dX2_addPlainWords_14 rfl (lv_at hl 2 rfl) ?_
        refine va_get (D := (dC, dI)) (ci := 2) (v := .ref ip) (C := "RequestCutter") (T := TX2) (N := 5) hx hb hts (fun w h => List.mem_cons_of_mem _ (inX2 w h)) hown hK hP 0 rfl rfl 1 (by decide) (hts _ (List.mem_cons_of_mem _ tw_76)) (fun _ h9 => h9) rfl dX2_addPlainWords_15 ?_
        refine lv_iload_n hx hb dX2_addPlainWords_18 rfl (lv_at hl 0 rfl) ?_
        have g_at := bA_rg f n (i)
        refine vx_Vs (As := [.int (iI (i))]) (rest := []) (ci := 0) (q0 := 0) [1, 2] ⟨hx, hb, hml, hown, hts⟩ (c_X0_at l dC dI cB cI ip iq lim il n f hc hn (i) (by omega)) (cwV 1 hts (gd_V tw_158 tw_159 tw_160 tw_20 tw_161) rfl rfl rfl (by decide +kernel) ⟨Nat.le_of_ble_eq_true rfl, Nat.le_of_ble_eq_true rfl⟩) hK hP rfl rfl rfl rfl rfl hl.1 rfl (Nat.le_of_ble_eq_true rfl) dX2_addPlainWords_19 ⟨by show C + 0 ≤ 400; omega, by show U + 0 ≤ 8192; omega⟩ (fun r hr => ?_)
        obtain rfl : r = iI (bA f n (i)) := hr
        refine lv_bipush (v := iI (32)) hx hb dX2_addPlainWords_22 (by decide) ?_
        refine lx_icmp_ne (a := bA f n (i)) (b := 32) (tgt := 47) hx hb dX2_addPlainWords_24 (by decide) (by omega) (by omega) (fun cq5 => ?_) (fun cq5 => ?_)
        · refine lv_iinc (v := iI (i + 1)) (lv' := [(3, .int (iI (i + 1))), (2, .int (iI (st))), (0, .ref h), (1, .int (iI (stop)))]) hx hb dX2_addPlainWords_47 hl (k := 0) rfl (iI_add _ _) (by decide) rfl (fun ls hl => ?_)
          refine lv_goto (tgt := 4) hx hb dX2_addPlainWords_50 (by decide) ?_
          exact ih (i + 1) (st) (s1) (s2) (nl) (cnt) (sa) (za) (C) (U) (ws) _ _ ls (by omega) (by omega) (by rw [← zSplit_n (by omega)]; exact hz) (hwn) (hwc) (hwr) (hUU) (hP.sub [0, 1, 2, 3, 4, 5] rfl) (hD.sub [0, 1, 2, 3, 4, 5] (by decide) rfl) hS (lv_sub hl [0, 1, 2, 3] rfl)
        · refine lv_iload_n hx hb dX2_addPlainWords_27 rfl (lv_at hl 0 rfl) ?_
          refine lv_iload_n hx hb dX2_addPlainWords_28 rfl (lv_at hl 1 rfl) ?_
          refine lx_icmp_le (a := i) (b := st) (tgt := 43) hx hb dX2_addPlainWords_29 (by decide) (by omega) (by omega) (fun cq6 => ?_) (fun cq6 => ?_)
          · refine lv_iload_n hx hb dX2_addPlainWords_43 rfl (lv_at hl 0 rfl) ?_
            refine lv_iconst (v := iI (1)) hx hb dX2_addPlainWords_44 rfl ?_
            refine lx_iadd (a := i) (b := 1) hx hb dX2_addPlainWords_45 ?_
            refine lv_istore_n (lv' := [(2, .int (iI (i + 1))), (3, .int (iI (i))), (0, .ref h), (1, .int (iI (stop)))]) hx hb dX2_addPlainWords_46 rfl hl (by decide) rfl (fun ls hl => ?_)
            refine lv_iinc (v := iI (i + 1)) (lv' := [(3, .int (iI (i + 1))), (2, .int (iI (i + 1))), (0, .ref h), (1, .int (iI (stop)))]) hx hb dX2_addPlainWords_47 hl (k := 1) rfl (iI_add _ _) (by decide) rfl (fun ls hl => ?_)
            refine lv_goto (tgt := 4) hx hb dX2_addPlainWords_50 (by decide) ?_
            exact ih (i + 1) (i + 1) (s1) (s2) (nl) (cnt) (sa) (za) (C) (U) (ws) _ _ ls (by omega) (by omega) (by rw [← zSplit_s (st := st) (by omega) (by omega)]; exact hz) (hwn) (hwc) (hwr) (hUU) (hP.sub [0, 1, 2, 3, 4, 5] rfl) (hD.sub [0, 1, 2, 3, 4, 5] (by decide) rfl) hS (lv_sub hl [0, 1, 2, 3] rfl)
          · refine lv_aload_n hx hb dX2_addPlainWords_32 rfl (lv_at hl 2 rfl) ?_
            refine va_get (D := (dC, dI)) (ci := 2) (v := .ref wd) (C := "RequestCutter") (T := TX2) (N := 5) hx hb hts (fun w h => List.mem_cons_of_mem _ (inX2 w h)) hown hK hP 0 rfl rfl 2 (by decide) (hts _ (List.mem_cons_of_mem _ tw_77)) (fun _ h9 => h9) rfl dX2_addPlainWords_33 ?_
            refine lv_iload_n hx hb dX2_addPlainWords_36 rfl (lv_at hl 1 rfl) ?_
            refine lv_iload_n hx hb dX2_addPlainWords_37 rfl (lv_at hl 0 rfl) ?_
            refine lv_iload_n hx hb dX2_addPlainWords_38 rfl (lv_at hl 1 rfl) ?_
            refine lx_isub (a := i) (b := st) hx hb dX2_addPlainWords_39 ?_
            obtain ⟨m1, m2, hm12⟩ : ∃ m1 m2 : Nat, (¬ (cnt < 1024 ∧ nl ≤ cnt) ∧ m1 = 0 ∧ m2 = 0) ∨ ((cnt < 1024 ∧ nl ≤ cnt) ∧ m1 = 2 ∧ m2 = 2 * min 1024 (2 * cnt)) := by
              by_cases q : cnt < 1024 ∧ nl ≤ cnt
              · exact ⟨2, _, Or.inr ⟨q, rfl, rfl⟩⟩
              · exact ⟨0, 0, Or.inl ⟨q, rfl, rfl⟩⟩
            refine vx_Vv (As := [.int (iI (st)), .int (iI (i - st))]) (rest := []) (wr := [(h, .inr (2, [.ref tp, .ref ip, .ref wd, .int (iI (lf)), .int (iI (ln))])), (ip, .inr (0, [.int (iI ((lim : Int))), .ref iq, .int (iI ((n : Int)))])), (iq, .inl (cB, il, .inl (f)))]) (ci := 1) (q0 := 0) [3, 4, 5] [0, 1, 2] ⟨hx, hb, hml, hown, hts⟩ (c_X1_add l dC dI cB cI _ wd wb s1 s2 nl cnt sa za hwc hwn st (i - st) m1 m2 (fun q => by omega)) (cwV 2 hts (gd_V tw_187 tw_188 tw_189 tw_21 tw_190) rfl rfl rfl (by decide +kernel) ⟨Nat.le_of_ble_eq_true rfl, Nat.le_of_ble_eq_true rfl⟩) hK hP hD hS hA rfl rfl rfl rfl (by decide) rfl rfl rfl rfl hl.1 rfl (Nat.le_of_ble_eq_true rfl) dX2_addPlainWords_40 ⟨by show C + m1 ≤ 400; omega, by show U + m2 ≤ 8192; omega⟩ (fun u H locs hw hP hD hS => ?_)
            obtain ⟨s3, s4, nl1, cnt1, sa1, za1⟩ := u
            try dsimp only at hw hP hD
            obtain ⟨hn1, hc1, hnl1, hcn1, hs1, hx1⟩ := hw
            have hP : va_P (dC, dI) vwCl [(h, .inr (2, [.ref tp, .ref ip, .ref wd, .int (iI (lf)), .int (iI (ln))])), (ip, .inr (0, [.int (iI ((lim : Int))), .ref iq, .int (iI ((n : Int)))])), (iq, .inl (cB, il, .inl (f))), (wd, .inr (1, [.ref wb, .ref s3, .ref s4, .int (iI ((cnt1 : Int)))])), (s3, .inl (cI, nl1, .inl (fun k => iI (sa1 k)))), (s4, .inl (cI, nl1, .inl (fun k => iI (za1 k))))] H := hP.sub [0, 1, 2, 3, 4, 5] rfl
            have hD : va_D A [(h, .inr (2, [.ref tp, .ref ip, .ref wd, .int (iI (lf)), .int (iI (ln))])), (ip, .inr (0, [.int (iI ((lim : Int))), .ref iq, .int (iI ((n : Int)))])), (iq, .inl (cB, il, .inl (f))), (wd, .inr (1, [.ref wb, .ref s3, .ref s4, .int (iI ((cnt1 : Int)))])), (s3, .inl (cI, nl1, .inl (fun k => iI (sa1 k)))), (s4, .inl (cI, nl1, .inl (fun k => iI (za1 k))))] := hD.sub [0, 1, 2, 3, 4, 5] (by decide) rfl
            have hx4 : cnt1 = cnt + 1 := by omega
            refine lv_iload_n hx hb dX2_addPlainWords_43 rfl (lv_at hl 0 rfl) ?_
            refine lv_iconst (v := iI (1)) hx hb dX2_addPlainWords_44 rfl ?_
            refine lx_iadd (a := i) (b := 1) hx hb dX2_addPlainWords_45 ?_
            refine lv_istore_n (lv' := [(2, .int (iI (i + 1))), (3, .int (iI (i))), (0, .ref h), (1, .int (iI (stop)))]) hx hb dX2_addPlainWords_46 rfl hl (by decide) rfl (fun ls hl => ?_)
            refine lv_iinc (v := iI (i + 1)) (lv' := [(3, .int (iI (i + 1))), (2, .int (iI (i + 1))), (0, .ref h), (1, .int (iI (stop)))]) hx hb dX2_addPlainWords_47 hl (k := 1) rfl (iI_add _ _) (by decide) rfl (fun ls hl => ?_)
            refine lv_goto (tgt := 4) hx hb dX2_addPlainWords_50 (by decide) ?_
            exact ih (i + 1) (i + 1) (s3) (s4) (nl1) (cnt1) (sa1) (za1) (C + m1) (U + m2) (ws ++ [(st, i - st)]) _ _ ls (by omega) (by omega) (by rw [← zSplit_w (by omega) (by omega)]; exact hz) (hn1) (hc1) (by rw [hx4]; exact wR_add hwr hs1 (hx1 (by omega)).1 (hx1 (by omega)).2) (by omega) (hP.sub [0, 1, 2, 3, 4, 5] rfl) (hD.sub [0, 1, 2, 3, 4, 5] (by decide) rfl) hS (lv_sub hl [0, 1, 2, 3] rfl)
set_option maxHeartbeats 4000000 in
set_option maxRecDepth 100000 in
/-- scanPlain() -/
theorem c_X2_scanPlain (l : Launch) (dC : Nat → ClassId) (dI : Nat → Nat → Nat) (cB cI : ClassId) (sz : Nat) (h tp ip wd iq lim il n : Nat) (f : Nat → Int32) (ln : Int) (hc : n ≤ il) (hn : il ≤ 65536) (hln : -2147483648 ≤ ln ∧ ln ≤ 2147483647) (wb s1 s2 nl : Nat) (sa za : Nat → Int) (hwn : 8 ≤ nl ∧ nl ≤ 1024) : Met l yX2_scanPlain wX2_scanPlain ({ frames := 4, cells := 400, slots := 8192, locals := 116 }) (va_Pc [.ref h] (vx_B (dC, dI) vwCl [(cB, .byte), (cI, .int)] [(h, .inr (2, [.ref tp, .ref ip, .ref wd, .int (iI (0)), .int (iI (ln))])), (ip, .inr (0, [.int (iI ((lim : Int))), .ref iq, .int (iI ((n : Int)))])), (iq, .inl (cB, il, .inl (f))), (wd, .inr (1, [.ref wb, .ref s1, .ref s2, .int (iI (((0 : Nat) : Int)))])), (s1, .inl (cI, nl, .inl (fun k => iI (sa k)))), (s2, .inl (cI, nl, .inl (fun k => iI (za k))))] sz)) (va_Qi (fun (r : Int32) (u : Int × Int × Nat × Nat × Nat × Nat × (Nat → Int) × (Nat → Int)) => r = iI (zPlain (bA f n) n).1 ∧ u.1 = (if (zPlain (bA f n) n).1 = -2 then (zPlain (bA f n) n).2.1 else 0) ∧ (-2147483648 ≤ u.2.1 ∧ u.2.1 ≤ 2147483647) ∧ (8 ≤ u.2.2.2.2.1 ∧ u.2.2.2.2.1 ≤ 1024) ∧ u.2.2.2.2.2.1 ≤ u.2.2.2.2.1 ∧ (0 ≤ (zPlain (bA f n) n).1 → wR (zPlain (bA f n) n).2.2 u.2.2.2.2.2.1 u.2.2.2.2.2.2.1 u.2.2.2.2.2.2.2)) (fun (u : Int × Int × Nat × Nat × Nat × Nat × (Nat → Int) × (Nat → Int)) => vx_E (dC, dI) vwCl [(cB, .byte), (cI, .int)] (va_A [(h, .inr (2, [.ref tp, .ref ip, .ref wd, .int (iI (0)), .int (iI (ln))])), (ip, .inr (0, [.int (iI ((lim : Int))), .ref iq, .int (iI ((n : Int)))])), (iq, .inl (cB, il, .inl (f))), (wd, .inr (1, [.ref wb, .ref s1, .ref s2, .int (iI (((0 : Nat) : Int)))])), (s1, .inl (cI, nl, .inl (fun k => iI (sa k)))), (s2, .inl (cI, nl, .inl (fun k => iI (za k))))] sz) [(h, .inr (2, [.ref tp, .ref ip, .ref wd, .int (iI (u.1)), .int (iI (u.2.1))])), (ip, .inr (0, [.int (iI ((lim : Int))), .ref iq, .int (iI ((n : Int)))])), (iq, .inl (cB, il, .inl (f))), (wd, .inr (1, [.ref wb, .ref u.2.2.1, .ref u.2.2.2.1, .int (iI ((u.2.2.2.2.2.1 : Int)))])), (u.2.2.1, .inl (cI, u.2.2.2.2.1, .inl (fun k => iI (u.2.2.2.2.2.2.1 k)))), (u.2.2.2.1, .inl (cI, u.2.2.2.2.1, .inl (fun k => iI (u.2.2.2.2.2.2.2 k))))]) (va_A [(h, .inr (2, [.ref tp, .ref ip, .ref wd, .int (iI (0)), .int (iI (ln))])), (ip, .inr (0, [.int (iI ((lim : Int))), .ref iq, .int (iI ((n : Int)))])), (iq, .inl (cB, il, .inl (f))), (wd, .inr (1, [.ref wb, .ref s1, .ref s2, .int (iI (((0 : Nat) : Int)))])), (s1, .inl (cI, nl, .inl (fun k => iI (sa k)))), (s2, .inl (cI, nl, .inl (fun k => iI (za k))))] sz)) (400) (8192) (va_A [(h, .inr (2, [.ref tp, .ref ip, .ref wd, .int (iI (0)), .int (iI (ln))])), (ip, .inr (0, [.int (iI ((lim : Int))), .ref iq, .int (iI ((n : Int)))])), (iq, .inl (cB, il, .inl (f))), (wd, .inr (1, [.ref wb, .ref s1, .ref s2, .int (iI (((0 : Nat) : Int)))])), (s1, .inl (cI, nl, .inl (fun k => iI (sa k)))), (s2, .inl (cI, nl, .inl (fun k => iI (za k))))] sz) := by
  refine Met.ofW (cc := cX2_scanPlain) (maxL := 3) (ret := (some .int)) (by decide) rfl ?_
  intro p e s m args below meth c s₁ B hml hv
  obtain ⟨rfl, hsz, hP, hK, hD0⟩ := hv
  have hx := B.exec
  have hb := B.bytes
  have hr := B.returns
  have hts := atoms_spec (ws := wX2_scanPlain) B.pre
  have hown : s.vm.findClass "RequestCutter" = some m.cls := findClass_of_methodNamed B.named
  have hlocks := B.notSynchronized
  subst hsz
  have hD := hD0.self (sz := s.heap.size)
  generalize hAe : va_A [(h, .inr (2, [.ref tp, .ref ip, .ref wd, .int (iI (0)), .int (iI (ln))])), (ip, .inr (0, [.int (iI ((lim : Int))), .ref iq, .int (iI ((n : Int)))])), (iq, .inl (cB, il, .inl (f))), (wd, .inr (1, [.ref wb, .ref s1, .ref s2, .int (iI (((0 : Nat) : Int)))])), (s1, .inl (cI, nl, .inl (fun k => iI (sa k)))), (s2, .inl (cI, nl, .inl (fun k => iI (za k))))] s.heap.size = A at hD ⊢
  have hA : ∀ q : Nat, s.heap.size ≤ q → A q := fun q h => by rw [← hAe]; exact Or.inr h
  have hS : va_S A s.heap s.heap [] := va_S.rf
  have hP : va_P (dC, dI) vwCl [(h, .inr (2, [.ref tp, .ref ip, .ref wd, .int (iI (0)), .int (iI (ln))])), (ip, .inr (0, [.int (iI ((lim : Int))), .ref iq, .int (iI ((n : Int)))])), (iq, .inl (cB, il, .inl (f))), (wd, .inr (1, [.ref wb, .ref s1, .ref s2, .int (iI (((0 : Nat) : Int)))])), (s1, .inl (cI, nl, .inl (fun k => iI (sa k)))), (s2, .inl (cI, nl, .inl (fun k => iI (za k))))] s.heap := hP
  have hl := lv_entry ([.ref h]) (n := 3) (Nat.le_of_ble_eq_true rfl)
  rw [lg_entry_eq]
  generalize (lg_sl ([.ref h]) ++ List.replicate (3 - (lg_sl ([.ref h])).length) Slot.unset).toArray = ls at hl ⊢
  have hl : lv_has ls 3 [(0, .ref h)] := hl
  refine lv_aload_n hx hb dX2_scanPlain_0 rfl (lv_at hl 0 rfl) ?_
  have gF := zLF_rg (bA f n) (min n 2048) 0
  obtain ⟨F, hF⟩ : ∃ F, F = zLF (bA f n) (min n 2048) 0 := ⟨_, rfl⟩
  rw [← hF] at gF
  refine vx_Vs (As := []) (rest := []) (ci := 2) (q0 := 0) [0, 1, 2] ⟨hx, hb, hml, hown, hts⟩ (c_X2_findLineFeed l dC dI cB cI h tp ip wd iq lim il n f 0 ln hc hn) (cwV 0 hts (gd_V tw_208 tw_210 tw_8 tw_19 tw_211) rfl rfl rfl (by decide +kernel) ⟨Nat.le_of_ble_eq_true rfl, Nat.le_of_ble_eq_true rfl⟩) hK hP rfl rfl rfl rfl rfl hl.1 rfl (Nat.le_of_ble_eq_true rfl) dX2_scanPlain_1 ⟨Nat.zero_le _, Nat.zero_le _⟩ (fun r hr => ?_)
  obtain rfl : r = iI (zLF (bA f n) (min n 2048) 0) := hr
  rw [← hF]
  refine lv_istore_n (lv' := [(1, .int (iI (F))), (0, .ref h)]) hx hb dX2_scanPlain_4 rfl hl (by decide) rfl (fun ls hl => ?_)
  refine lv_iload_n hx hb dX2_scanPlain_5 rfl (lv_at hl 0 rfl) ?_
  refine lv_iconst (v := iI (-1)) hx hb dX2_scanPlain_6 rfl ?_
  refine lx_icmp_ne (a := F) (b := -1) (tgt := 33) hx hb dX2_scanPlain_7 (by decide) (by omega) (by omega) (fun cq1 => ?_) (fun cq1 => ?_)
  · refine lv_aload_n hx hb dX2_scanPlain_33 rfl (lv_at hl 1 rfl) ?_
    refine va_get (D := (dC, dI)) (ci := 2) (v := .ref ip) (C := "RequestCutter") (T := TX2) (N := 5) hx hb hts (fun w h => List.mem_cons_of_mem _ (inX2 w h)) hown hK hP 0 rfl rfl 1 (by decide) (hts _ (List.mem_cons_of_mem _ tw_76)) (fun _ h9 => h9) rfl dX2_scanPlain_34 ?_
    refine lv_iload_n hx hb dX2_scanPlain_37 rfl (lv_at hl 0 rfl) ?_
    refine lv_iconst (v := iI (1)) hx hb dX2_scanPlain_38 rfl ?_
    refine lx_isub (a := F) (b := 1) hx hb dX2_scanPlain_39 ?_
    have g_at := bA_rg f n (F - 1)
    refine vx_Vs (As := [.int (iI (F - 1))]) (rest := []) (ci := 0) (q0 := 0) [1, 2] ⟨hx, hb, hml, hown, hts⟩ (c_X0_at l dC dI cB cI ip iq lim il n f hc hn (F - 1) (by omega)) (cwV 1 hts (gd_V tw_158 tw_159 tw_160 tw_20 tw_161) rfl rfl rfl (by decide +kernel) ⟨Nat.le_of_ble_eq_true rfl, Nat.le_of_ble_eq_true rfl⟩) hK hP rfl rfl rfl rfl rfl hl.1 rfl (Nat.le_of_ble_eq_true rfl) dX2_scanPlain_40 ⟨Nat.zero_le _, Nat.zero_le _⟩ (fun r hr => ?_)
    obtain rfl : r = iI (bA f n (F - 1)) := hr
    refine lv_bipush (v := iI (13)) hx hb dX2_scanPlain_43 (by decide) ?_
    refine lx_icmp_ne (a := bA f n (F - 1)) (b := 13) (tgt := 52) hx hb dX2_scanPlain_45 (by decide) (by omega) (by omega) (fun cq2 => ?_) (fun cq2 => ?_)
    · refine lv_iconst (v := iI (0)) hx hb dX2_scanPlain_52 rfl ?_
      refine lv_istore_n (lv' := [(2, .int (iI (0))), (1, .int (iI (F))), (0, .ref h)]) hx hb dX2_scanPlain_53 rfl hl (by decide) rfl (fun ls hl => ?_)
      refine lv_aload_n hx hb dX2_scanPlain_54 rfl (lv_at hl 2 rfl) ?_
      refine lv_iload_n hx hb dX2_scanPlain_55 rfl (lv_at hl 0 rfl) ?_
      refine lx_if_eq (a := 0) (tgt := 65) hx hb dX2_scanPlain_56 (by decide) (by omega) (fun cq3 => ?_) (fun cq3 => ?_)
      · refine lv_iload_n hx hb dX2_scanPlain_65 rfl (lv_at hl 1 rfl) ?_
        have hlast : zLast (bA f n) F = F := if_neg (by omega)
        refine vx_Vv (As := [.int (iI (F))]) (rest := []) (wr := []) (ci := 2) (q0 := 0) [0, 1, 2, 3, 4, 5] [] ⟨hx, hb, hml, hown, hts⟩ (c_X2_addPlainWords l dC dI cB cI _ h tp ip wd iq lim il n f 0 ln hc hn wb s1 s2 nl sa za hwn (F) (by omega)) (cwV 1 hts (gd_V tw_213 tw_215 tw_9 tw_19 tw_216) rfl rfl rfl (by decide +kernel) ⟨Nat.le_of_ble_eq_true rfl, Nat.le_of_ble_eq_true rfl⟩) hK hP hD hS hA rfl rfl rfl rfl (by decide) rfl rfl rfl rfl hl.1 rfl (Nat.le_of_ble_eq_true rfl) dX2_scanPlain_66 ⟨Nat.le_of_ble_eq_true rfl, Nat.le_of_ble_eq_true rfl⟩ (fun u H locs hw hP hD hS => ?_)
        obtain ⟨s3, s4, nl1, cnt1, sa1, za1⟩ := u
        try dsimp only at hw hP hD
        obtain ⟨hn1, hc1, hx1⟩ := hw
        have hP : va_P (dC, dI) vwCl [(h, .inr (2, [.ref tp, .ref ip, .ref wd, .int (iI (0)), .int (iI (ln))])), (ip, .inr (0, [.int (iI ((lim : Int))), .ref iq, .int (iI ((n : Int)))])), (iq, .inl (cB, il, .inl (f))), (wd, .inr (1, [.ref wb, .ref s3, .ref s4, .int (iI ((cnt1 : Int)))])), (s3, .inl (cI, nl1, .inl (fun k => iI (sa1 k)))), (s4, .inl (cI, nl1, .inl (fun k => iI (za1 k))))] H := hP.sub [0, 1, 2, 3, 4, 5] rfl
        have hD : va_D A [(h, .inr (2, [.ref tp, .ref ip, .ref wd, .int (iI (0)), .int (iI (ln))])), (ip, .inr (0, [.int (iI ((lim : Int))), .ref iq, .int (iI ((n : Int)))])), (iq, .inl (cB, il, .inl (f))), (wd, .inr (1, [.ref wb, .ref s3, .ref s4, .int (iI ((cnt1 : Int)))])), (s3, .inl (cI, nl1, .inl (fun k => iI (sa1 k)))), (s4, .inl (cI, nl1, .inl (fun k => iI (za1 k))))] := hD.sub [0, 1, 2, 3, 4, 5] (by decide) rfl
        refine lv_iload_n hx hb dX2_scanPlain_69 rfl (lv_at hl 1 rfl) ?_
        refine lv_iconst (v := iI (1)) hx hb dX2_scanPlain_70 rfl ?_
        refine lx_iadd (a := F) (b := 1) hx hb dX2_scanPlain_71 ?_
        have hZ : (zPlain (bA f n) n) = (F + 1, 0, zSplit (bA f n) (zLast (bA f n) F) (zLast (bA f n) F + 1).toNat 0 0 []) := by unfold zPlain; rw [← hF, if_neg (by omega)]
        rw [hlast] at hZ
        refine W.widen (k := 400) (n := 8192) (by omega) (by omega) ?_
        exact W.iret (v := iI (F + 1)) hx hb hr (fun t ht hW => ⟨⟨iI (F + 1), (0, ln, s3, s4, nl1, cnt1, sa1, za1), rfl, ⟨by rw [hZ], by rw [hZ]; exact (if_neg (by show ¬ F + 1 = -2; omega)).symm, hln, hn1, hc1, fun q => by rw [hZ]; exact hx1⟩, by rw [ht]; exact hP, va_K.moved hW.alike hK, hD⟩, hS.F ht⟩) hS.2.2 dX2_scanPlain_72
      · exact absurd cq3 (by omega)
    · refine lv_iconst (v := iI (1)) hx hb dX2_scanPlain_48 rfl ?_
      refine lv_goto (tgt := 53) hx hb dX2_scanPlain_49 (by decide) ?_
      refine lv_istore_n (lv' := [(2, .int (iI (1))), (1, .int (iI (F))), (0, .ref h)]) hx hb dX2_scanPlain_53 rfl hl (by decide) rfl (fun ls hl => ?_)
      refine lv_aload_n hx hb dX2_scanPlain_54 rfl (lv_at hl 2 rfl) ?_
      refine lv_iload_n hx hb dX2_scanPlain_55 rfl (lv_at hl 0 rfl) ?_
      refine lx_if_eq (a := 1) (tgt := 65) hx hb dX2_scanPlain_56 (by decide) (by omega) (fun cq4 => ?_) (fun cq4 => ?_)
      · exact absurd cq4 (by omega)
      · refine lv_iload_n hx hb dX2_scanPlain_59 rfl (lv_at hl 1 rfl) ?_
        refine lv_iconst (v := iI (1)) hx hb dX2_scanPlain_60 rfl ?_
        refine lx_isub (a := F) (b := 1) hx hb dX2_scanPlain_61 ?_
        refine lv_goto (tgt := 66) hx hb dX2_scanPlain_62 (by decide) ?_
        have hF1 := bA_has (f := f) (n := n) (i := F - 1) (by omega)
        have hlast : zLast (bA f n) F = F - 1 := if_pos (by omega)
        refine vx_Vv (As := [.int (iI (F - 1))]) (rest := []) (wr := []) (ci := 2) (q0 := 0) [0, 1, 2, 3, 4, 5] [] ⟨hx, hb, hml, hown, hts⟩ (c_X2_addPlainWords l dC dI cB cI _ h tp ip wd iq lim il n f 0 ln hc hn wb s1 s2 nl sa za hwn (F - 1) (by omega)) (cwV 1 hts (gd_V tw_213 tw_215 tw_9 tw_19 tw_216) rfl rfl rfl (by decide +kernel) ⟨Nat.le_of_ble_eq_true rfl, Nat.le_of_ble_eq_true rfl⟩) hK hP hD hS hA rfl rfl rfl rfl (by decide) rfl rfl rfl rfl hl.1 rfl (Nat.le_of_ble_eq_true rfl) dX2_scanPlain_66 ⟨Nat.le_of_ble_eq_true rfl, Nat.le_of_ble_eq_true rfl⟩ (fun u H locs hw hP hD hS => ?_)
        obtain ⟨s3, s4, nl1, cnt1, sa1, za1⟩ := u
        try dsimp only at hw hP hD
        obtain ⟨hn1, hc1, hx1⟩ := hw
        have hP : va_P (dC, dI) vwCl [(h, .inr (2, [.ref tp, .ref ip, .ref wd, .int (iI (0)), .int (iI (ln))])), (ip, .inr (0, [.int (iI ((lim : Int))), .ref iq, .int (iI ((n : Int)))])), (iq, .inl (cB, il, .inl (f))), (wd, .inr (1, [.ref wb, .ref s3, .ref s4, .int (iI ((cnt1 : Int)))])), (s3, .inl (cI, nl1, .inl (fun k => iI (sa1 k)))), (s4, .inl (cI, nl1, .inl (fun k => iI (za1 k))))] H := hP.sub [0, 1, 2, 3, 4, 5] rfl
        have hD : va_D A [(h, .inr (2, [.ref tp, .ref ip, .ref wd, .int (iI (0)), .int (iI (ln))])), (ip, .inr (0, [.int (iI ((lim : Int))), .ref iq, .int (iI ((n : Int)))])), (iq, .inl (cB, il, .inl (f))), (wd, .inr (1, [.ref wb, .ref s3, .ref s4, .int (iI ((cnt1 : Int)))])), (s3, .inl (cI, nl1, .inl (fun k => iI (sa1 k)))), (s4, .inl (cI, nl1, .inl (fun k => iI (za1 k))))] := hD.sub [0, 1, 2, 3, 4, 5] (by decide) rfl
        refine lv_iload_n hx hb dX2_scanPlain_69 rfl (lv_at hl 1 rfl) ?_
        refine lv_iconst (v := iI (1)) hx hb dX2_scanPlain_70 rfl ?_
        refine lx_iadd (a := F) (b := 1) hx hb dX2_scanPlain_71 ?_
        have hZ : (zPlain (bA f n) n) = (F + 1, 0, zSplit (bA f n) (zLast (bA f n) F) (zLast (bA f n) F + 1).toNat 0 0 []) := by unfold zPlain; rw [← hF, if_neg (by omega)]
        rw [hlast] at hZ
        refine W.widen (k := 400) (n := 8192) (by omega) (by omega) ?_
        exact W.iret (v := iI (F + 1)) hx hb hr (fun t ht hW => ⟨⟨iI (F + 1), (0, ln, s3, s4, nl1, cnt1, sa1, za1), rfl, ⟨by rw [hZ], by rw [hZ]; exact (if_neg (by show ¬ F + 1 = -2; omega)).symm, hln, hn1, hc1, fun q => by rw [hZ]; exact hx1⟩, by rw [ht]; exact hP, va_K.moved hW.alike hK, hD⟩, hS.F ht⟩) hS.2.2 dX2_scanPlain_72
  · refine lv_aload_n hx hb dX2_scanPlain_10 rfl (lv_at hl 1 rfl) ?_
    refine va_get (D := (dC, dI)) (ci := 2) (v := .ref ip) (C := "RequestCutter") (T := TX2) (N := 5) hx hb hts (fun w h => List.mem_cons_of_mem _ (inX2 w h)) hown hK hP 0 rfl rfl 1 (by decide) (hts _ (List.mem_cons_of_mem _ tw_76)) (fun _ h9 => h9) rfl dX2_scanPlain_11 ?_
    refine vx_Vs (As := []) (rest := []) (ci := 0) (q0 := 0) [1] ⟨hx, hb, hml, hown, hts⟩ (c_X0_count l dC dI cB cI ip iq lim n) (cwV 0 hts (gd_V tw_135 tw_136 tw_137 tw_20 tw_138) rfl rfl rfl (by decide +kernel) ⟨Nat.le_of_ble_eq_true rfl, Nat.le_of_ble_eq_true rfl⟩) hK hP rfl rfl rfl rfl rfl hl.1 rfl (Nat.le_of_ble_eq_true rfl) dX2_scanPlain_14 ⟨Nat.zero_le _, Nat.zero_le _⟩ (fun r hr => ?_)
    obtain rfl : r = iI ((n : Int)) := hr
    refine lv_sipush (v := iI (2048)) hx hb dX2_scanPlain_17 (by decide) ?_
    refine lx_icmp_lt (a := (n : Int)) (b := 2048) (tgt := 31) hx hb dX2_scanPlain_20 (by decide) (by omega) (by omega) (fun cq5 => ?_) (fun cq5 => ?_)
    · refine lv_iconst (v := iI (-1)) hx hb dX2_scanPlain_31 rfl ?_
      have hZ : (zPlain (bA f n) n) = (-1, 0, []) := by unfold zPlain; rw [← hF, if_pos (by omega), if_neg (by omega)]
      refine W.widen (k := 400) (n := 8192) (by omega) (by omega) ?_
      exact W.iret (v := iI (-1)) hx hb hr (fun t ht hW => ⟨⟨iI (-1), (0, ln, s1, s2, nl, 0, sa, za), rfl, ⟨by rw [hZ], by rw [hZ]; rfl, hln, hwn, Nat.zero_le _, fun q => by rw [hZ] at q; exact absurd q (by decide)⟩, by rw [ht]; exact hP, va_K.moved hW.alike hK, hD⟩, hS.F ht⟩) hS.2.2 dX2_scanPlain_32
    · refine lv_aload_n hx hb dX2_scanPlain_23 rfl (lv_at hl 1 rfl) ?_
      refine lv_iconst (v := iI (5)) hx hb dX2_scanPlain_24 rfl ?_
      refine vx_Vi (As := [.int (iI (5))]) (rest := []) (wr := [(ip, .inr (0, [.int (iI ((lim : Int))), .ref iq, .int (iI ((n : Int)))])), (iq, .inl (cB, il, .inl (f))), (wd, .inr (1, [.ref wb, .ref s1, .ref s2, .int (iI (((0 : Nat) : Int)))])), (s1, .inl (cI, nl, .inl (fun k => iI (sa k)))), (s2, .inl (cI, nl, .inl (fun k => iI (za k))))]) (ci := 2) (q0 := 0) [0] [1, 2, 3, 4, 5] ⟨hx, hb, hml, hown, hts⟩ (c_X2_tell l dC dI cB cI _ h tp ip wd (0) (ln) (5)) (cwV 1 hts (gd_V tw_175 tw_177 tw_3 tw_19 tw_178) rfl rfl rfl (by decide +kernel) ⟨Nat.le_of_ble_eq_true rfl, Nat.le_of_ble_eq_true rfl⟩) hK hP hD hS hA rfl rfl rfl rfl (by decide) rfl rfl rfl rfl hl.1 rfl (Nat.le_of_ble_eq_true rfl) dX2_scanPlain_25 ⟨Nat.zero_le _, Nat.zero_le _⟩ (fun r u H locs hw hP hD hS => ?_)
      obtain - := u
      try dsimp only at hw hP hD
      obtain rfl := hw
      have hP : va_P (dC, dI) vwCl [(h, .inr (2, [.ref tp, .ref ip, .ref wd, .int (iI (5)), .int (iI (ln))])), (ip, .inr (0, [.int (iI ((lim : Int))), .ref iq, .int (iI ((n : Int)))])), (iq, .inl (cB, il, .inl (f))), (wd, .inr (1, [.ref wb, .ref s1, .ref s2, .int (iI (((0 : Nat) : Int)))])), (s1, .inl (cI, nl, .inl (fun k => iI (sa k)))), (s2, .inl (cI, nl, .inl (fun k => iI (za k))))] H := hP.sub [5, 0, 1, 2, 3, 4] rfl
      have hD : va_D A [(h, .inr (2, [.ref tp, .ref ip, .ref wd, .int (iI (5)), .int (iI (ln))])), (ip, .inr (0, [.int (iI ((lim : Int))), .ref iq, .int (iI ((n : Int)))])), (iq, .inl (cB, il, .inl (f))), (wd, .inr (1, [.ref wb, .ref s1, .ref s2, .int (iI (((0 : Nat) : Int)))])), (s1, .inl (cI, nl, .inl (fun k => iI (sa k)))), (s2, .inl (cI, nl, .inl (fun k => iI (za k))))] := hD.sub [5, 0, 1, 2, 3, 4] (by decide) rfl
      refine lv_goto (tgt := 32) hx hb dX2_scanPlain_28 (by decide) ?_
      have hZ : (zPlain (bA f n) n) = (-2, 5, []) := by unfold zPlain; rw [← hF, if_pos (by omega), if_pos (by omega)]
      refine W.widen (k := 400) (n := 8192) (by omega) (by omega) ?_
      exact W.iret (v := iI (-2)) hx hb hr (fun t ht hW => ⟨⟨iI (-2), (5, ln, s1, s2, nl, 0, sa, za), rfl, ⟨by rw [hZ], by rw [hZ]; rfl, hln, hwn, Nat.zero_le _, fun q => by rw [hZ] at q; exact absurd q (by decide)⟩, by rw [ht]; exact hP, va_K.moved hW.alike hK, hD⟩, hS.F ht⟩) hS.2.2 dX2_scanPlain_32
end
section
set_option maxHeartbeats 4000000 in
set_option maxRecDepth 100000 in
/-- fault() -/
theorem c_X2_fault (l : Launch) (dC : Nat → ClassId) (dI : Nat → Nat → Nat) (cB cI : ClassId) (h tp ip wd : Nat) (lf ln : Int) : Met l yX2_fault wX2_fault ({ frames := 0, cells := 0, slots := 0, locals := 0 }) (va_Pc [.ref h] (vx_R (dC, dI) vwCl [(cB, .byte), (cI, .int)] [(h, .inr (2, [.ref tp, .ref ip, .ref wd, .int (iI (lf)), .int (iI (ln))]))])) (vp_Si (fun r => r = iI lf)) 0 0 (fun _ => False) := by
  refine Met.ofW (cc := cX2_fault) (maxL := 1) (ret := (some .int)) (by decide) rfl ?_
  intro p e s m args below meth c s₁ B hml hv
  obtain ⟨rfl, hP, hK⟩ := hv
  have hx := B.exec
  have hb := B.bytes
  have hr := B.returns
  have hts := atoms_spec (ws := wX2_fault) B.pre
  have hown : s.vm.findClass "RequestCutter" = some m.cls := findClass_of_methodNamed B.named
  have hlocks := B.notSynchronized
  have hP : va_P (dC, dI) vwCl [(h, .inr (2, [.ref tp, .ref ip, .ref wd, .int (iI (lf)), .int (iI (ln))]))] s.heap := hP
  have hl := lv_entry ([.ref h]) (n := 1) (Nat.le_of_ble_eq_true rfl)
  rw [lg_entry_eq]
  generalize (lg_sl ([.ref h]) ++ List.replicate (1 - (lg_sl ([.ref h])).length) Slot.unset).toArray = ls at hl ⊢
  have hl : lv_has ls 1 [(0, .ref h)] := hl
  refine lv_aload_n hx hb dX2_fault_0 rfl (lv_at hl 0 rfl) ?_
  refine va_get (D := (dC, dI)) (ci := 2) (v := .int (iI (lf))) (C := "RequestCutter") (T := TX2) (N := 5) hx hb hts (fun w h => List.mem_cons_of_mem _ (inX2 w h)) hown hK hP 0 rfl rfl 3 (by decide) (hts _ (List.mem_cons_of_mem _ tw_78)) (fun _ h9 => h9) rfl dX2_fault_1 ?_
  exact W.iret (v := iI (lf)) hx hb hr (fun t ht hW => ⟨iI (lf), rfl, rfl, ht⟩) (fun _ h => by cases h) dX2_fault_4
set_option maxHeartbeats 4000000 in
set_option maxRecDepth 100000 in
/-- waiting() -/
theorem c_X2_waiting (l : Launch) (dC : Nat → ClassId) (dI : Nat → Nat → Nat) (cB cI : ClassId) (h tp ip wd : Nat) (lf ln : Int) (iq n : Nat) : Met l yX2_waiting wX2_waiting ({ frames := 1, cells := 0, slots := 0, locals := 20 }) (va_Pc [.ref h] (vx_R (dC, dI) vwCl [(cB, .byte), (cI, .int)] [(h, .inr (2, [.ref tp, .ref ip, .ref wd, .int (iI (lf)), .int (iI (ln))])), (ip, .inr (0, [.int (iI (((65536 : Nat) : Int))), .ref iq, .int (iI ((n : Int)))]))])) (vp_Si (fun r => r = iI (n : Int))) 0 0 (fun _ => False) := by
  refine Met.ofW (cc := cX2_waiting) (maxL := 1) (ret := (some .int)) (by decide) rfl ?_
  intro p e s m args below meth c s₁ B hml hv
  obtain ⟨rfl, hP, hK⟩ := hv
  have hx := B.exec
  have hb := B.bytes
  have hr := B.returns
  have hts := atoms_spec (ws := wX2_waiting) B.pre
  have hown : s.vm.findClass "RequestCutter" = some m.cls := findClass_of_methodNamed B.named
  have hlocks := B.notSynchronized
  have hP : va_P (dC, dI) vwCl [(h, .inr (2, [.ref tp, .ref ip, .ref wd, .int (iI (lf)), .int (iI (ln))])), (ip, .inr (0, [.int (iI (((65536 : Nat) : Int))), .ref iq, .int (iI ((n : Int)))]))] s.heap := hP
  have hl := lv_entry ([.ref h]) (n := 1) (Nat.le_of_ble_eq_true rfl)
  rw [lg_entry_eq]
  generalize (lg_sl ([.ref h]) ++ List.replicate (1 - (lg_sl ([.ref h])).length) Slot.unset).toArray = ls at hl ⊢
  have hl : lv_has ls 1 [(0, .ref h)] := hl
  refine lv_aload_n hx hb dX2_waiting_0 rfl (lv_at hl 0 rfl) ?_
  refine va_get (D := (dC, dI)) (ci := 2) (v := .ref ip) (C := "RequestCutter") (T := TX2) (N := 5) hx hb hts (fun w h => List.mem_cons_of_mem _ (inX2 w h)) hown hK hP 0 rfl rfl 1 (by decide) (hts _ (List.mem_cons_of_mem _ tw_76)) (fun _ h9 => h9) rfl dX2_waiting_1 ?_
  refine vx_Vs (As := []) (rest := []) (ci := 0) (q0 := 0) [1] ⟨hx, hb, hml, hown, hts⟩ (c_X0_count l dC dI cB cI ip iq 65536 n) (cwV 0 hts (gd_V tw_135 tw_136 tw_137 tw_20 tw_138) rfl rfl rfl (by decide +kernel) ⟨Nat.le_of_ble_eq_true rfl, Nat.le_of_ble_eq_true rfl⟩) hK hP rfl rfl rfl rfl rfl hl.1 rfl (Nat.le_of_ble_eq_true rfl) dX2_waiting_4 ⟨Nat.zero_le _, Nat.zero_le _⟩ (fun r hr => ?_)
  obtain rfl : r = iI ((n : Int)) := hr
  exact W.iret (v := iI ((n : Int))) hx hb hr (fun t ht hW => ⟨iI ((n : Int)), rfl, rfl, ht⟩) (fun _ h => by cases h) dX2_waiting_7
set_option maxHeartbeats 4000000 in
set_option maxRecDepth 100000 in
/-- size(w) -/
theorem c_X2_size (l : Launch) (dC : Nat → ClassId) (dI : Nat → Nat → Nat) (cB cI : ClassId) (h tp ip wd : Nat) (lf ln : Int) (wb s1 s2 nl cnt : Nat) (za : Nat → Int) (hwc : cnt ≤ nl) (hwn : nl ≤ 1024) (i : Int) (hi : -2147483648 ≤ i ∧ i ≤ 2147483647) : Met l yX2_size wX2_size ({ frames := 1, cells := 0, slots := 0, locals := 21 }) (va_Pc [.ref h, .int (iI (i))] (vx_R (dC, dI) vwCl [(cB, .byte), (cI, .int)] [(h, .inr (2, [.ref tp, .ref ip, .ref wd, .int (iI (lf)), .int (iI (ln))])), (wd, .inr (1, [.ref wb, .ref s1, .ref s2, .int (iI ((cnt : Int)))])), (s2, .inl (cI, nl, .inl (fun k => iI (za k))))])) (vp_Si (fun r => r = iI (if 0 ≤ i ∧ i < cnt then za i.toNat else -1))) 0 0 (fun _ => False) := by
  refine Met.ofW (cc := cX2_size) (maxL := 2) (ret := (some .int)) (by decide) rfl ?_
  intro p e s m args below meth c s₁ B hml hv
  obtain ⟨rfl, hP, hK⟩ := hv
  have hx := B.exec
  have hb := B.bytes
  have hr := B.returns
  have hts := atoms_spec (ws := wX2_size) B.pre
  have hown : s.vm.findClass "RequestCutter" = some m.cls := findClass_of_methodNamed B.named
  have hlocks := B.notSynchronized
  have hP : va_P (dC, dI) vwCl [(h, .inr (2, [.ref tp, .ref ip, .ref wd, .int (iI (lf)), .int (iI (ln))])), (wd, .inr (1, [.ref wb, .ref s1, .ref s2, .int (iI ((cnt : Int)))])), (s2, .inl (cI, nl, .inl (fun k => iI (za k))))] s.heap := hP
  have hl := lv_entry ([.ref h, .int (iI (i))]) (n := 2) (Nat.le_of_ble_eq_true rfl)
  rw [lg_entry_eq]
  generalize (lg_sl ([.ref h, .int (iI (i))]) ++ List.replicate (2 - (lg_sl ([.ref h, .int (iI (i))])).length) Slot.unset).toArray = ls at hl ⊢
  have hl : lv_has ls 2 [(0, .ref h), (1, .int (iI (i)))] := hl
  refine lv_aload_n hx hb dX2_size_0 rfl (lv_at hl 0 rfl) ?_
  refine va_get (D := (dC, dI)) (ci := 2) (v := .ref wd) (C := "RequestCutter") (T := TX2) (N := 5) hx hb hts (fun w h => List.mem_cons_of_mem _ (inX2 w h)) hown hK hP 0 rfl rfl 2 (by decide) (hts _ (List.mem_cons_of_mem _ tw_77)) (fun _ h9 => h9) rfl dX2_size_1 ?_
  refine lv_iload_n hx hb dX2_size_4 rfl (lv_at hl 1 rfl) ?_
  refine vx_Vs (As := [.int (iI (i))]) (rest := []) (ci := 1) (q0 := 0) [1, 2] ⟨hx, hb, hml, hown, hts⟩ (c_X1_sizeOf l dC dI cB cI wd wb s1 s2 nl cnt za hwc hwn i hi) (cwV 1 hts (gd_V tw_238 tw_239 tw_240 tw_21 tw_241) rfl rfl rfl (by decide +kernel) ⟨Nat.le_of_ble_eq_true rfl, Nat.le_of_ble_eq_true rfl⟩) hK hP rfl rfl rfl rfl rfl hl.1 rfl (Nat.le_of_ble_eq_true rfl) dX2_size_5 ⟨Nat.zero_le _, Nat.zero_le _⟩ (fun r hr => ?_)
  obtain rfl : r = iI (if 0 ≤ i ∧ i < cnt then za i.toNat else -1) := hr
  exact W.iret (v := iI (if 0 ≤ i ∧ i < cnt then za i.toNat else -1)) hx hb hr (fun t ht hW => ⟨iI (if 0 ≤ i ∧ i < cnt then za i.toNat else -1), rfl, rfl, ht⟩) (fun _ h => by cases h) dX2_size_8
set_option maxHeartbeats 4000000 in
set_option maxRecDepth 100000 in
/-- byteOf(w, i) -/
theorem c_X2_byteOf (l : Launch) (dC : Nat → ClassId) (dI : Nat → Nat → Nat) (cB cI : ClassId) (h tp ip wd : Nat) (lf ln : Int) (wb s1 s2 nl cnt : Nat) (sa za : Nat → Int) (hwc : cnt ≤ nl) (hwn : nl ≤ 1024) (hz : ∀ j, j < cnt → (0 ≤ sa j ∧ sa j ≤ 65536) ∧ 0 ≤ za j ∧ za j ≤ 65536) (wq wl wc : Nat) (wf : Nat → Int32) (hwb : wc ≤ wl) (hwl : wl ≤ 65536) (i k : Int) (hi : -2147483648 ≤ i ∧ i ≤ 2147483647) (hk : -2147483648 ≤ k ∧ k ≤ 2147483647) : Met l yX2_byteOf wX2_byteOf ({ frames := 2, cells := 0, slots := 0, locals := 43 }) (va_Pc [.ref h, .int (iI (i)), .int (iI (k))] (vx_R (dC, dI) vwCl [(cB, .byte), (cI, .int)] [(h, .inr (2, [.ref tp, .ref ip, .ref wd, .int (iI (lf)), .int (iI (ln))])), (wd, .inr (1, [.ref wb, .ref s1, .ref s2, .int (iI ((cnt : Int)))])), (s1, .inl (cI, nl, .inl (fun k => iI (sa k)))), (s2, .inl (cI, nl, .inl (fun k => iI (za k)))), (wb, .inr (0, [.int (iI (((65536 : Nat) : Int))), .ref wq, .int (iI ((wc : Int)))])), (wq, .inl (cB, wl, .inl (wf)))])) (vp_Si (fun r => r = iI (if (0 ≤ i ∧ i < cnt) ∧ 0 ≤ k ∧ k < za i.toNat then bA wf wc (sa i.toNat + k) else -1))) 0 0 (fun _ => False) := by
  refine Met.ofW (cc := cX2_byteOf) (maxL := 3) (ret := (some .int)) (by decide) rfl ?_
  intro p e s m args below meth c s₁ B hml hv
  obtain ⟨rfl, hP, hK⟩ := hv
  have hx := B.exec
  have hb := B.bytes
  have hr := B.returns
  have hts := atoms_spec (ws := wX2_byteOf) B.pre
  have hown : s.vm.findClass "RequestCutter" = some m.cls := findClass_of_methodNamed B.named
  have hlocks := B.notSynchronized
  have hP : va_P (dC, dI) vwCl [(h, .inr (2, [.ref tp, .ref ip, .ref wd, .int (iI (lf)), .int (iI (ln))])), (wd, .inr (1, [.ref wb, .ref s1, .ref s2, .int (iI ((cnt : Int)))])), (s1, .inl (cI, nl, .inl (fun k => iI (sa k)))), (s2, .inl (cI, nl, .inl (fun k => iI (za k)))), (wb, .inr (0, [.int (iI (((65536 : Nat) : Int))), .ref wq, .int (iI ((wc : Int)))])), (wq, .inl (cB, wl, .inl (wf)))] s.heap := hP
  have hl := lv_entry ([.ref h, .int (iI (i)), .int (iI (k))]) (n := 3) (Nat.le_of_ble_eq_true rfl)
  rw [lg_entry_eq]
  generalize (lg_sl ([.ref h, .int (iI (i)), .int (iI (k))]) ++ List.replicate (3 - (lg_sl ([.ref h, .int (iI (i)), .int (iI (k))])).length) Slot.unset).toArray = ls at hl ⊢
  have hl : lv_has ls 3 [(0, .ref h), (1, .int (iI (i))), (2, .int (iI (k)))] := hl
  refine lv_aload_n hx hb dX2_byteOf_0 rfl (lv_at hl 0 rfl) ?_
  refine va_get (D := (dC, dI)) (ci := 2) (v := .ref wd) (C := "RequestCutter") (T := TX2) (N := 5) hx hb hts (fun w h => List.mem_cons_of_mem _ (inX2 w h)) hown hK hP 0 rfl rfl 2 (by decide) (hts _ (List.mem_cons_of_mem _ tw_77)) (fun _ h9 => h9) rfl dX2_byteOf_1 ?_
  refine lv_iload_n hx hb dX2_byteOf_4 rfl (lv_at hl 1 rfl) ?_
  refine lv_iload_n hx hb dX2_byteOf_5 rfl (lv_at hl 2 rfl) ?_
  refine vx_Vs (As := [.int (iI (i)), .int (iI (k))]) (rest := []) (ci := 1) (q0 := 0) [1, 2, 3, 4, 5] ⟨hx, hb, hml, hown, hts⟩ (c_X1_byteAt l dC dI cB cI wd wb s1 s2 nl cnt sa za hwc hwn hz wq 65536 wl wc wf hwb hwl i k hi hk) (cwV 2 hts (gd_V tw_246 tw_247 tw_248 tw_21 tw_249) rfl rfl rfl (by decide +kernel) ⟨Nat.le_of_ble_eq_true rfl, Nat.le_of_ble_eq_true rfl⟩) hK hP rfl rfl rfl rfl rfl hl.1 rfl (Nat.le_of_ble_eq_true rfl) dX2_byteOf_6 ⟨Nat.zero_le _, Nat.zero_le _⟩ (fun r hr => ?_)
  obtain rfl : r = iI (if (0 ≤ i ∧ i < cnt) ∧ 0 ≤ k ∧ k < za i.toNat then bA wf wc (sa i.toNat + k) else -1) := hr
  exact W.iret (v := iI (if (0 ≤ i ∧ i < cnt) ∧ 0 ≤ k ∧ k < za i.toNat then bA wf wc (sa i.toNat + k) else -1)) hx hb hr (fun t ht hW => ⟨iI (if (0 ≤ i ∧ i < cnt) ∧ 0 ≤ k ∧ k < za i.toNat then bA wf wc (sa i.toNat + k) else -1), rfl, rfl, ht⟩) (fun _ h => by cases h) dX2_byteOf_9
set_option maxHeartbeats 4000000 in
set_option maxRecDepth 100000 in
/-- end(n) -/
theorem c_X2_end (l : Launch) (dC : Nat → ClassId) (dI : Nat → Nat → Nat) (cB cI : ClassId) (sz : Nat) (h tp ip wd : Nat) (lf ln : Int) (tq tc : Nat) (hn : tc ≤ 10240) (i : Int) (hi : -2147483648 ≤ i ∧ i ≤ 2147483647) : Met l yX2_end wX2_end ({ frames := 1, cells := 0, slots := 0, locals := 21 }) (va_Pc [.ref h, .int (iI (i))] (vx_B (dC, dI) vwCl [(cB, .byte), (cI, .int)] [(h, .inr (2, [.ref tp, .ref ip, .ref wd, .int (iI (lf)), .int (iI (ln))])), (tp, .inr (0, [.int (iI (((10240 : Nat) : Int))), .ref tq, .int (iI ((tc : Int)))]))] sz)) (va_Qi (fun (r : Int32) (u : Nat) => r = iI (if 0 ≤ i ∧ i ≤ (tc : Int) then 1 else 0) ∧ u = (if 0 ≤ i ∧ i ≤ (tc : Int) then i.toNat else tc)) (fun (u : Nat) => vx_E (dC, dI) vwCl [(cB, .byte), (cI, .int)] (va_A [(h, .inr (2, [.ref tp, .ref ip, .ref wd, .int (iI (lf)), .int (iI (ln))])), (tp, .inr (0, [.int (iI (((10240 : Nat) : Int))), .ref tq, .int (iI ((tc : Int)))]))] sz) [(h, .inr (2, [.ref tp, .ref ip, .ref wd, .int (iI (lf)), .int (iI (ln))])), (tp, .inr (0, [.int (iI (((10240 : Nat) : Int))), .ref tq, .int (iI ((u : Int)))]))]) (va_A [(h, .inr (2, [.ref tp, .ref ip, .ref wd, .int (iI (lf)), .int (iI (ln))])), (tp, .inr (0, [.int (iI (((10240 : Nat) : Int))), .ref tq, .int (iI ((tc : Int)))]))] sz)) (0) (0) (va_A [(h, .inr (2, [.ref tp, .ref ip, .ref wd, .int (iI (lf)), .int (iI (ln))])), (tp, .inr (0, [.int (iI (((10240 : Nat) : Int))), .ref tq, .int (iI ((tc : Int)))]))] sz) := by
  refine Met.ofW (cc := cX2_end) (maxL := 2) (ret := (some .boolean)) (by decide) rfl ?_
  intro p e s m args below meth c s₁ B hml hv
  obtain ⟨rfl, hsz, hP, hK, hD0⟩ := hv
  have hx := B.exec
  have hb := B.bytes
  have hr := B.returns
  have hts := atoms_spec (ws := wX2_end) B.pre
  have hown : s.vm.findClass "RequestCutter" = some m.cls := findClass_of_methodNamed B.named
  have hlocks := B.notSynchronized
  subst hsz
  have hD := hD0.self (sz := s.heap.size)
  generalize hAe : va_A [(h, .inr (2, [.ref tp, .ref ip, .ref wd, .int (iI (lf)), .int (iI (ln))])), (tp, .inr (0, [.int (iI (((10240 : Nat) : Int))), .ref tq, .int (iI ((tc : Int)))]))] s.heap.size = A at hD ⊢
  have hA : ∀ q : Nat, s.heap.size ≤ q → A q := fun q h => by rw [← hAe]; exact Or.inr h
  have hS : va_S A s.heap s.heap [] := va_S.rf
  have hP : va_P (dC, dI) vwCl [(h, .inr (2, [.ref tp, .ref ip, .ref wd, .int (iI (lf)), .int (iI (ln))])), (tp, .inr (0, [.int (iI (((10240 : Nat) : Int))), .ref tq, .int (iI ((tc : Int)))]))] s.heap := hP
  have hl := lv_entry ([.ref h, .int (iI (i))]) (n := 2) (Nat.le_of_ble_eq_true rfl)
  rw [lg_entry_eq]
  generalize (lg_sl ([.ref h, .int (iI (i))]) ++ List.replicate (2 - (lg_sl ([.ref h, .int (iI (i))])).length) Slot.unset).toArray = ls at hl ⊢
  have hl : lv_has ls 2 [(0, .ref h), (1, .int (iI (i)))] := hl
  refine lv_aload_n hx hb dX2_end_0 rfl (lv_at hl 0 rfl) ?_
  refine va_get (D := (dC, dI)) (ci := 2) (v := .ref tp) (C := "RequestCutter") (T := TX2) (N := 5) hx hb hts (fun w h => List.mem_cons_of_mem _ (inX2 w h)) hown hK hP 0 rfl rfl 0 (by decide) (hts _ (List.mem_cons_of_mem _ tw_75)) (fun _ h9 => h9) rfl dX2_end_1 ?_
  refine lv_iload_n hx hb dX2_end_4 rfl (lv_at hl 1 rfl) ?_
  refine vx_Vi (As := [.int (iI (i))]) (rest := []) (wr := [(h, .inr (2, [.ref tp, .ref ip, .ref wd, .int (iI (lf)), .int (iI (ln))]))]) (ci := 0) (q0 := 0) [1] [0] ⟨hx, hb, hml, hown, hts⟩ (c_X0_keepFirst l dC dI cB cI _ tp tq 10240 tc (by omega) i hi) (cwV 1 hts (gd_V tw_127 tw_128 tw_129 tw_20 tw_130) rfl rfl rfl (by decide +kernel) ⟨Nat.le_of_ble_eq_true rfl, Nat.le_of_ble_eq_true rfl⟩) hK hP hD hS hA rfl rfl rfl rfl (by decide) rfl rfl rfl rfl hl.1 rfl (Nat.le_of_ble_eq_true rfl) dX2_end_5 ⟨Nat.zero_le _, Nat.zero_le _⟩ (fun r u H locs hw hP hD hS => ?_)
  obtain ⟨c1, rfl⟩ : ∃ z, z = u := ⟨_, rfl⟩
  try dsimp only at hw hP hD
  obtain ⟨rfl, hc1⟩ := hw
  have hP : va_P (dC, dI) vwCl [(h, .inr (2, [.ref tp, .ref ip, .ref wd, .int (iI (lf)), .int (iI (ln))])), (tp, .inr (0, [.int (iI (((10240 : Nat) : Int))), .ref tq, .int (iI (c1))]))] H := hP.sub [0, 1] rfl
  have hD : va_D A [(h, .inr (2, [.ref tp, .ref ip, .ref wd, .int (iI (lf)), .int (iI (ln))])), (tp, .inr (0, [.int (iI (((10240 : Nat) : Int))), .ref tq, .int (iI (c1))]))] := hD.sub [0, 1] (by decide) rfl
  obtain ⟨c2, hc2⟩ : ∃ c2 : Nat, c2 = (if 0 ≤ i ∧ i ≤ (tc : Int) then i.toNat else tc) := ⟨_, rfl⟩
  have hc3 : c1 = (c2 : Int) := by rw [hc1, hc2]; by_cases q : 0 ≤ i ∧ i ≤ (tc : Int); rw [if_pos q, if_pos q]; omega; rw [if_neg q, if_neg q]
  subst hc3
  exact W.zret (v := iI (if 0 ≤ i ∧ i ≤ (tc : Int) then 1 else 0)) hx hb hr nw_if (fun t ht hW => ⟨⟨iI (if 0 ≤ i ∧ i ≤ (tc : Int) then 1 else 0), c2, rfl, ⟨rfl, hc2⟩, by rw [ht]; exact hP, va_K.moved hW.alike hK, hD⟩, hS.F ht⟩) hS.2.2 dX2_end_8
set_option maxHeartbeats 4000000 in
set_option maxRecDepth 100000 in
/-- drop(n) -/
theorem c_X2_drop (l : Launch) (dC : Nat → ClassId) (dI : Nat → Nat → Nat) (cB cI : ClassId) (sz : Nat) (h tp ip wd : Nat) (lf ln : Int) (iq il n : Nat) (f : Nat → Int32) (hc : n ≤ il) (hn : il ≤ 65536) (hfit : sb_Fit f) (i : Int) (hi : -2147483648 ≤ i ∧ i ≤ 2147483647) : Met l yX2_drop wX2_drop ({ frames := 2, cells := 0, slots := 0, locals := 69 }) (va_Pc [.ref h, .int (iI (i))] (vx_B (dC, dI) vwCl [(cB, .byte), (cI, .int)] [(h, .inr (2, [.ref tp, .ref ip, .ref wd, .int (iI (lf)), .int (iI (ln))])), (ip, .inr (0, [.int (iI (((65536 : Nat) : Int))), .ref iq, .int (iI ((n : Int)))])), (iq, .inl (cB, il, .inl (f)))] sz)) (va_Qi (fun (r : Int32) (u : (Nat → Int32) × Nat) => r = iI (if 0 ≤ i ∧ i ≤ (n : Int) then 1 else 0) ∧ sb_Fit u.1 ∧ (0 ≤ i ∧ i ≤ (n : Int) → u.2 = n - i.toNat ∧ ∀ j, j < n - i.toNat → u.1 j = f (i.toNat + j)) ∧ (¬ (0 ≤ i ∧ i ≤ (n : Int)) → u = (f, n))) (fun (u : (Nat → Int32) × Nat) => vx_E (dC, dI) vwCl [(cB, .byte), (cI, .int)] (va_A [(h, .inr (2, [.ref tp, .ref ip, .ref wd, .int (iI (lf)), .int (iI (ln))])), (ip, .inr (0, [.int (iI (((65536 : Nat) : Int))), .ref iq, .int (iI ((n : Int)))])), (iq, .inl (cB, il, .inl (f)))] sz) [(h, .inr (2, [.ref tp, .ref ip, .ref wd, .int (iI (lf)), .int (iI (ln))])), (ip, .inr (0, [.int (iI (((65536 : Nat) : Int))), .ref iq, .int (iI ((u.2 : Int)))])), (iq, .inl (cB, il, .inl (u.1)))]) (va_A [(h, .inr (2, [.ref tp, .ref ip, .ref wd, .int (iI (lf)), .int (iI (ln))])), (ip, .inr (0, [.int (iI (((65536 : Nat) : Int))), .ref iq, .int (iI ((n : Int)))])), (iq, .inl (cB, il, .inl (f)))] sz)) (0) (0) (va_A [(h, .inr (2, [.ref tp, .ref ip, .ref wd, .int (iI (lf)), .int (iI (ln))])), (ip, .inr (0, [.int (iI (((65536 : Nat) : Int))), .ref iq, .int (iI ((n : Int)))])), (iq, .inl (cB, il, .inl (f)))] sz) := by
  refine Met.ofW (cc := cX2_drop) (maxL := 2) (ret := (some .boolean)) (by decide) rfl ?_
  intro p e s m args below meth c s₁ B hml hv
  obtain ⟨rfl, hsz, hP, hK, hD0⟩ := hv
  have hx := B.exec
  have hb := B.bytes
  have hr := B.returns
  have hts := atoms_spec (ws := wX2_drop) B.pre
  have hown : s.vm.findClass "RequestCutter" = some m.cls := findClass_of_methodNamed B.named
  have hlocks := B.notSynchronized
  subst hsz
  have hD := hD0.self (sz := s.heap.size)
  generalize hAe : va_A [(h, .inr (2, [.ref tp, .ref ip, .ref wd, .int (iI (lf)), .int (iI (ln))])), (ip, .inr (0, [.int (iI (((65536 : Nat) : Int))), .ref iq, .int (iI ((n : Int)))])), (iq, .inl (cB, il, .inl (f)))] s.heap.size = A at hD ⊢
  have hA : ∀ q : Nat, s.heap.size ≤ q → A q := fun q h => by rw [← hAe]; exact Or.inr h
  have hS : va_S A s.heap s.heap [] := va_S.rf
  have hP : va_P (dC, dI) vwCl [(h, .inr (2, [.ref tp, .ref ip, .ref wd, .int (iI (lf)), .int (iI (ln))])), (ip, .inr (0, [.int (iI (((65536 : Nat) : Int))), .ref iq, .int (iI ((n : Int)))])), (iq, .inl (cB, il, .inl (f)))] s.heap := hP
  have hl := lv_entry ([.ref h, .int (iI (i))]) (n := 2) (Nat.le_of_ble_eq_true rfl)
  rw [lg_entry_eq]
  generalize (lg_sl ([.ref h, .int (iI (i))]) ++ List.replicate (2 - (lg_sl ([.ref h, .int (iI (i))])).length) Slot.unset).toArray = ls at hl ⊢
  have hl : lv_has ls 2 [(0, .ref h), (1, .int (iI (i)))] := hl
  refine lv_aload_n hx hb dX2_drop_0 rfl (lv_at hl 0 rfl) ?_
  refine va_get (D := (dC, dI)) (ci := 2) (v := .ref ip) (C := "RequestCutter") (T := TX2) (N := 5) hx hb hts (fun w h => List.mem_cons_of_mem _ (inX2 w h)) hown hK hP 0 rfl rfl 1 (by decide) (hts _ (List.mem_cons_of_mem _ tw_76)) (fun _ h9 => h9) rfl dX2_drop_1 ?_
  refine lv_iload_n hx hb dX2_drop_4 rfl (lv_at hl 1 rfl) ?_
  refine vx_Vi (As := [.int (iI (i))]) (rest := []) (wr := [(h, .inr (2, [.ref tp, .ref ip, .ref wd, .int (iI (lf)), .int (iI (ln))]))]) (ci := 0) (q0 := 0) [1, 2] [0] ⟨hx, hb, hml, hown, hts⟩ (c_X0_removeFirst l dC dI cB cI _ ip iq 65536 il n f hc hn (by omega) hfit i hi) (cwV 1 hts (gd_V tw_222 tw_223 tw_224 tw_20 tw_225) rfl rfl rfl (by decide +kernel) ⟨Nat.le_of_ble_eq_true rfl, Nat.le_of_ble_eq_true rfl⟩) hK hP hD hS hA rfl rfl rfl rfl (by decide) rfl rfl rfl rfl hl.1 rfl (Nat.le_of_ble_eq_true rfl) dX2_drop_5 ⟨Nat.zero_le _, Nat.zero_le _⟩ (fun r u H locs hw hP hD hS => ?_)
  obtain ⟨f1, n1⟩ := u
  try dsimp only at hw hP hD
  obtain ⟨rfl, hfit1, hok1, hno1⟩ := hw
  have hP : va_P (dC, dI) vwCl [(h, .inr (2, [.ref tp, .ref ip, .ref wd, .int (iI (lf)), .int (iI (ln))])), (ip, .inr (0, [.int (iI (((65536 : Nat) : Int))), .ref iq, .int (iI ((n1 : Int)))])), (iq, .inl (cB, il, .inl (f1)))] H := hP.sub [0, 1, 2] rfl
  have hD : va_D A [(h, .inr (2, [.ref tp, .ref ip, .ref wd, .int (iI (lf)), .int (iI (ln))])), (ip, .inr (0, [.int (iI (((65536 : Nat) : Int))), .ref iq, .int (iI ((n1 : Int)))])), (iq, .inl (cB, il, .inl (f1)))] := hD.sub [0, 1, 2] (by decide) rfl
  exact W.zret (v := iI (if 0 ≤ i ∧ i ≤ (n : Int) then 1 else 0)) hx hb hr nw_if (fun t ht hW => ⟨⟨iI (if 0 ≤ i ∧ i ≤ (n : Int) then 1 else 0), (f1, n1), rfl, ⟨rfl, hfit1, hok1, hno1⟩, by rw [ht]; exact hP, va_K.moved hW.alike hK, hD⟩, hS.F ht⟩) hS.2.2 dX2_drop_8
set_option maxHeartbeats 4000000 in
set_option maxRecDepth 100000 in
/-- feed(a, b, c, d, e) -/
theorem c_X2_feed (l : Launch) (dC : Nat → ClassId) (dI : Nat → Nat → Nat) (cB cI : ClassId) (sz : Nat) (h tp ip wd : Nat) (lf ln : Int) (tq tl tc : Nat) (tf : Nat → Int32) (hc : tc ≤ tl) (hn : tl ≤ 10240) (hfit : sb_Fit tf) (x1 x2 x3 x4 x5 : Int32) (mc ms : Nat) (hroom : tc + 20 ≤ 10240 ∧ tl < tc + 20 → 1 ≤ mc ∧ gL 10240 tl (tc + 20) ≤ ms) : Met l yX2_feed wX2_feed ({ frames := 3, cells := mc, slots := ms, locals := 93 }) (va_Pc [.ref h, .int (x1), .int (x2), .int (x3), .int (x4), .int (x5)] (vx_B (dC, dI) vwCl [(cB, .byte), (cI, .int)] [(h, .inr (2, [.ref tp, .ref ip, .ref wd, .int (iI (lf)), .int (iI (ln))])), (tp, .inr (0, [.int (iI (((10240 : Nat) : Int))), .ref tq, .int (iI ((tc : Int)))])), (tq, .inl (cB, tl, .inl (tf)))] sz)) (va_Qi (fun (r : Int32) (u : Nat × Nat × Nat × (Nat → Int32)) => r = iI (if tc + 20 ≤ 10240 then 1 else 0) ∧ sb_Fit u.2.2.2 ∧ (u.2.2.1 ≤ u.2.1 ∧ u.2.1 ≤ 10240) ∧ ((¬ (tc + 20 ≤ 10240 ∧ tl < tc + 20) ∧ u.2.1 = tl) ∨ ((tc + 20 ≤ 10240 ∧ tl < tc + 20) ∧ u.2.1 = gL 10240 tl (tc + 20))) ∧ (∀ j, j < tc → u.2.2.2 j = tf j) ∧ (tc + 20 ≤ 10240 → u.2.2.1 = tc + 20 ∧ ∀ j, j < 20 → u.2.2.2 (tc + j) = (fB x1 x2 x3 x4 x5) j) ∧ (¬ tc + 20 ≤ 10240 → u.2.2.1 = tc)) (fun (u : Nat × Nat × Nat × (Nat → Int32)) => vx_E (dC, dI) vwCl [(cB, .byte), (cI, .int)] (va_A [(h, .inr (2, [.ref tp, .ref ip, .ref wd, .int (iI (lf)), .int (iI (ln))])), (tp, .inr (0, [.int (iI (((10240 : Nat) : Int))), .ref tq, .int (iI ((tc : Int)))])), (tq, .inl (cB, tl, .inl (tf)))] sz) [(h, .inr (2, [.ref tp, .ref ip, .ref wd, .int (iI (lf)), .int (iI (ln))])), (tp, .inr (0, [.int (iI (((10240 : Nat) : Int))), .ref u.1, .int (iI ((u.2.2.1 : Int)))])), (u.1, .inl (cB, u.2.1, .inl (u.2.2.2)))]) (va_A [(h, .inr (2, [.ref tp, .ref ip, .ref wd, .int (iI (lf)), .int (iI (ln))])), (tp, .inr (0, [.int (iI (((10240 : Nat) : Int))), .ref tq, .int (iI ((tc : Int)))])), (tq, .inl (cB, tl, .inl (tf)))] sz)) (mc) (ms) (va_A [(h, .inr (2, [.ref tp, .ref ip, .ref wd, .int (iI (lf)), .int (iI (ln))])), (tp, .inr (0, [.int (iI (((10240 : Nat) : Int))), .ref tq, .int (iI ((tc : Int)))])), (tq, .inl (cB, tl, .inl (tf)))] sz) := by
  refine Met.ofW (cc := cX2_feed) (maxL := 6) (ret := (some .boolean)) (by decide) rfl ?_
  intro p e s m args below meth c s₁ B hml hv
  obtain ⟨rfl, hsz, hP, hK, hD0⟩ := hv
  have hx := B.exec
  have hb := B.bytes
  have hr := B.returns
  have hts := atoms_spec (ws := wX2_feed) B.pre
  have hown : s.vm.findClass "RequestCutter" = some m.cls := findClass_of_methodNamed B.named
  have hlocks := B.notSynchronized
  subst hsz
  have hD := hD0.self (sz := s.heap.size)
  generalize hAe : va_A [(h, .inr (2, [.ref tp, .ref ip, .ref wd, .int (iI (lf)), .int (iI (ln))])), (tp, .inr (0, [.int (iI (((10240 : Nat) : Int))), .ref tq, .int (iI ((tc : Int)))])), (tq, .inl (cB, tl, .inl (tf)))] s.heap.size = A at hD ⊢
  have hA : ∀ q : Nat, s.heap.size ≤ q → A q := fun q h => by rw [← hAe]; exact Or.inr h
  have hS : va_S A s.heap s.heap [] := va_S.rf
  have hP : va_P (dC, dI) vwCl [(h, .inr (2, [.ref tp, .ref ip, .ref wd, .int (iI (lf)), .int (iI (ln))])), (tp, .inr (0, [.int (iI (((10240 : Nat) : Int))), .ref tq, .int (iI ((tc : Int)))])), (tq, .inl (cB, tl, .inl (tf)))] s.heap := hP
  have hl := lv_entry ([.ref h, .int (x1), .int (x2), .int (x3), .int (x4), .int (x5)]) (n := 6) (Nat.le_of_ble_eq_true rfl)
  rw [lg_entry_eq]
  generalize (lg_sl ([.ref h, .int (x1), .int (x2), .int (x3), .int (x4), .int (x5)]) ++ List.replicate (6 - (lg_sl ([.ref h, .int (x1), .int (x2), .int (x3), .int (x4), .int (x5)])).length) Slot.unset).toArray = ls at hl ⊢
  have hl : lv_has ls 6 [(0, .ref h), (1, .int (x1)), (2, .int (x2)), (3, .int (x3)), (4, .int (x4)), (5, .int (x5))] := hl
  refine lv_aload_n hx hb dX2_feed_0 rfl (lv_at hl 0 rfl) ?_
  refine va_get (D := (dC, dI)) (ci := 2) (v := .ref tp) (C := "RequestCutter") (T := TX2) (N := 5) hx hb hts (fun w h => List.mem_cons_of_mem _ (inX2 w h)) hown hK hP 0 rfl rfl 0 (by decide) (hts _ (List.mem_cons_of_mem _ tw_75)) (fun _ h9 => h9) rfl dX2_feed_1 ?_
  refine lv_bipush (v := iI (20)) hx hb dX2_feed_4 (by decide) ?_
  have h20 : tc + (20 : Int).toNat = tc + 20 := rfl
  refine vx_Vi (As := [.int (iI (20))]) (rest := []) (wr := [(h, .inr (2, [.ref tp, .ref ip, .ref wd, .int (iI (lf)), .int (iI (ln))]))]) (ci := 0) (q0 := 0) [1, 2] [0] ⟨hx, hb, hml, hown, hts⟩ (c_X0_makeRoom l dC dI cB cI _ tp tq 10240 tl tc tf hc (by omega) (by omega) hn hfit 20 (by omega) mc ms (fun z => hroom (by omega))) (cwV 1 hts (gd_V tw_95 tw_96 tw_97 tw_20 tw_98) rfl rfl rfl (by decide +kernel) ⟨Nat.le_of_ble_eq_true rfl, Nat.le_of_ble_eq_true rfl⟩) hK hP hD hS hA rfl rfl rfl rfl (by decide) rfl rfl rfl rfl hl.1 rfl (Nat.le_of_ble_eq_true rfl) dX2_feed_6 ⟨by show 0 + mc ≤ mc; omega, by show 0 + ms ≤ ms; omega⟩ (fun r u H locs hw hP hD hS => ?_)
  obtain ⟨q1, len1, f0⟩ := u
  try dsimp only at hw hP hD
  obtain ⟨hr1, ⟨hfit0, hk0⟩, hl1, hok1, hlim1⟩ := hw
  have hP : va_P (dC, dI) vwCl [(h, .inr (2, [.ref tp, .ref ip, .ref wd, .int (iI (lf)), .int (iI (ln))])), (tp, .inr (0, [.int (iI (((10240 : Nat) : Int))), .ref q1, .int (iI ((tc : Int)))])), (q1, .inl (cB, len1, .inl (f0)))] H := hP.sub [0, 1, 2] rfl
  have hD : va_D A [(h, .inr (2, [.ref tp, .ref ip, .ref wd, .int (iI (lf)), .int (iI (ln))])), (tp, .inr (0, [.int (iI (((10240 : Nat) : Int))), .ref q1, .int (iI ((tc : Int)))])), (q1, .inl (cB, len1, .inl (f0)))] := hD.sub [0, 1, 2] (by decide) rfl
  obtain ⟨b1, hb1, rfl⟩ := bo_of hr1
  have hl2 : (¬ (tc + 20 ≤ 10240 ∧ tl < tc + 20) ∧ len1 = tl) ∨ ((tc + 20 ≤ 10240 ∧ tl < tc + 20) ∧ len1 = gL 10240 tl (tc + 20)) := by
    by_cases q : tc + 20 ≤ 10240 ∧ tl < tc + 20
    · exact Or.inr ⟨q, by rw [hl1, if_pos (by omega)]; rfl⟩
    · exact Or.inl ⟨q, by rw [hl1, if_neg (by omega)]⟩
  have hd0 : ∀ j, j < 0 → f0 (tc + j) = fB x1 x2 x3 x4 x5 j := fun j hj => absurd hj (Nat.not_lt_zero j)
  refine W.widen (k := mc) (n := ms) (by omega) (by omega) ?_
  refine lx_if_ne (a := b1) (tgt := 14) hx hb dX2_feed_9 (by decide) (by omega) (fun cq1 => ?_) (fun cq1 => ?_)
  · refine lv_aload_n hx hb dX2_feed_14 rfl (lv_at hl 0 rfl) ?_
    refine va_get (D := (dC, dI)) (ci := 2) (v := .ref tp) (C := "RequestCutter") (T := TX2) (N := 5) hx hb hts (fun w h => List.mem_cons_of_mem _ (inX2 w h)) hown hK hP 0 rfl rfl 0 (by decide) (hts _ (List.mem_cons_of_mem _ tw_75)) (fun _ h9 => h9) rfl dX2_feed_15 ?_
    refine lv_iload_n hx hb dX2_feed_18 rfl (lv_at hl 1 rfl) ?_
    have hok2 := hok1 (by omega)
    refine vx_Vv (As := [.int (x1)]) (rest := []) (wr := [(h, .inr (2, [.ref tp, .ref ip, .ref wd, .int (iI (lf)), .int (iI (ln))]))]) (ci := 0) (q0 := 0) [1, 2] [0] ⟨hx, hb, hml, hown, hts⟩ (c_X0_addNumber l dC dI cB cI _ tp q1 10240 len1 (tc) f0 (by omega) (by omega) (by omega) hfit0 x1) (cwV 1 hts (gd_V tw_119 tw_120 tw_121 tw_20 tw_122) rfl rfl rfl (by decide +kernel) ⟨Nat.le_of_ble_eq_true rfl, Nat.le_of_ble_eq_true rfl⟩) hK hP hD hS hA rfl rfl rfl rfl (by decide) rfl rfl rfl rfl hl.1 rfl (Nat.le_of_ble_eq_true rfl) dX2_feed_19 ⟨Nat.le_refl _, Nat.le_refl _⟩ (fun u H locs hw hP hD hS => ?_)
    obtain ⟨f1, rfl⟩ : ∃ z, z = u := ⟨_, rfl⟩
    try dsimp only at hw hP hD
    obtain ⟨hfit1, hk1, e0, e1, e2, e3⟩ := hw
    have hP : va_P (dC, dI) vwCl [(h, .inr (2, [.ref tp, .ref ip, .ref wd, .int (iI (lf)), .int (iI (ln))])), (tp, .inr (0, [.int (iI (((10240 : Nat) : Int))), .ref q1, .int (iI (((tc + 4 : Nat) : Int)))])), (q1, .inl (cB, len1, .inl (f1)))] H := hP.sub [0, 1, 2] rfl
    have hD : va_D A [(h, .inr (2, [.ref tp, .ref ip, .ref wd, .int (iI (lf)), .int (iI (ln))])), (tp, .inr (0, [.int (iI (((10240 : Nat) : Int))), .ref q1, .int (iI (((tc + 4 : Nat) : Int)))])), (q1, .inl (cB, len1, .inl (f1)))] := hD.sub [0, 1, 2] (by decide) rfl
    have hd1 := fd_step hd0 (fun j hj => hk1 j (by omega)) e0 e1 e2 e3
    refine lv_aload_n hx hb dX2_feed_22 rfl (lv_at hl 0 rfl) ?_
    refine va_get (D := (dC, dI)) (ci := 2) (v := .ref tp) (C := "RequestCutter") (T := TX2) (N := 5) hx hb hts (fun w h => List.mem_cons_of_mem _ (inX2 w h)) hown hK hP 0 rfl rfl 0 (by decide) (hts _ (List.mem_cons_of_mem _ tw_75)) (fun _ h9 => h9) rfl dX2_feed_23 ?_
    refine lv_iload_n hx hb dX2_feed_26 rfl (lv_at hl 2 rfl) ?_
    refine vx_Vv (As := [.int (x2)]) (rest := []) (wr := [(h, .inr (2, [.ref tp, .ref ip, .ref wd, .int (iI (lf)), .int (iI (ln))]))]) (ci := 0) (q0 := 0) [1, 2] [0] ⟨hx, hb, hml, hown, hts⟩ (c_X0_addNumber l dC dI cB cI _ tp q1 10240 len1 (tc + 4) f1 (by omega) (by omega) (by omega) hfit1 x2) (cwV 1 hts (gd_V tw_119 tw_120 tw_121 tw_20 tw_122) rfl rfl rfl (by decide +kernel) ⟨Nat.le_of_ble_eq_true rfl, Nat.le_of_ble_eq_true rfl⟩) hK hP hD hS hA rfl rfl rfl rfl (by decide) rfl rfl rfl rfl hl.1 rfl (Nat.le_of_ble_eq_true rfl) dX2_feed_27 ⟨Nat.le_refl _, Nat.le_refl _⟩ (fun u H locs hw hP hD hS => ?_)
    obtain ⟨f2, rfl⟩ : ∃ z, z = u := ⟨_, rfl⟩
    try dsimp only at hw hP hD
    obtain ⟨hfit2, hk2, e0, e1, e2, e3⟩ := hw
    have hP : va_P (dC, dI) vwCl [(h, .inr (2, [.ref tp, .ref ip, .ref wd, .int (iI (lf)), .int (iI (ln))])), (tp, .inr (0, [.int (iI (((10240 : Nat) : Int))), .ref q1, .int (iI (((tc + 4 + 4 : Nat) : Int)))])), (q1, .inl (cB, len1, .inl (f2)))] H := hP.sub [0, 1, 2] rfl
    have hD : va_D A [(h, .inr (2, [.ref tp, .ref ip, .ref wd, .int (iI (lf)), .int (iI (ln))])), (tp, .inr (0, [.int (iI (((10240 : Nat) : Int))), .ref q1, .int (iI (((tc + 4 + 4 : Nat) : Int)))])), (q1, .inl (cB, len1, .inl (f2)))] := hD.sub [0, 1, 2] (by decide) rfl
    have hd2 := fd_step hd1 (fun j hj => hk2 j (by omega)) e0 e1 e2 e3
    refine lv_aload_n hx hb dX2_feed_30 rfl (lv_at hl 0 rfl) ?_
    refine va_get (D := (dC, dI)) (ci := 2) (v := .ref tp) (C := "RequestCutter") (T := TX2) (N := 5) hx hb hts (fun w h => List.mem_cons_of_mem _ (inX2 w h)) hown hK hP 0 rfl rfl 0 (by decide) (hts _ (List.mem_cons_of_mem _ tw_75)) (fun _ h9 => h9) rfl dX2_feed_31 ?_
    refine lv_iload_n hx hb dX2_feed_34 rfl (lv_at hl 3 rfl) ?_
    refine vx_Vv (As := [.int (x3)]) (rest := []) (wr := [(h, .inr (2, [.ref tp, .ref ip, .ref wd, .int (iI (lf)), .int (iI (ln))]))]) (ci := 0) (q0 := 0) [1, 2] [0] ⟨hx, hb, hml, hown, hts⟩ (c_X0_addNumber l dC dI cB cI _ tp q1 10240 len1 (tc + 4 + 4) f2 (by omega) (by omega) (by omega) hfit2 x3) (cwV 1 hts (gd_V tw_119 tw_120 tw_121 tw_20 tw_122) rfl rfl rfl (by decide +kernel) ⟨Nat.le_of_ble_eq_true rfl, Nat.le_of_ble_eq_true rfl⟩) hK hP hD hS hA rfl rfl rfl rfl (by decide) rfl rfl rfl rfl hl.1 rfl (Nat.le_of_ble_eq_true rfl) dX2_feed_35 ⟨Nat.le_refl _, Nat.le_refl _⟩ (fun u H locs hw hP hD hS => ?_)
    obtain ⟨f3, rfl⟩ : ∃ z, z = u := ⟨_, rfl⟩
    try dsimp only at hw hP hD
    obtain ⟨hfit3, hk3, e0, e1, e2, e3⟩ := hw
    have hP : va_P (dC, dI) vwCl [(h, .inr (2, [.ref tp, .ref ip, .ref wd, .int (iI (lf)), .int (iI (ln))])), (tp, .inr (0, [.int (iI (((10240 : Nat) : Int))), .ref q1, .int (iI (((tc + 4 + 4 + 4 : Nat) : Int)))])), (q1, .inl (cB, len1, .inl (f3)))] H := hP.sub [0, 1, 2] rfl
    have hD : va_D A [(h, .inr (2, [.ref tp, .ref ip, .ref wd, .int (iI (lf)), .int (iI (ln))])), (tp, .inr (0, [.int (iI (((10240 : Nat) : Int))), .ref q1, .int (iI (((tc + 4 + 4 + 4 : Nat) : Int)))])), (q1, .inl (cB, len1, .inl (f3)))] := hD.sub [0, 1, 2] (by decide) rfl
    have hd3 := fd_step hd2 (fun j hj => hk3 j (by omega)) e0 e1 e2 e3
    refine lv_aload_n hx hb dX2_feed_38 rfl (lv_at hl 0 rfl) ?_
    refine va_get (D := (dC, dI)) (ci := 2) (v := .ref tp) (C := "RequestCutter") (T := TX2) (N := 5) hx hb hts (fun w h => List.mem_cons_of_mem _ (inX2 w h)) hown hK hP 0 rfl rfl 0 (by decide) (hts _ (List.mem_cons_of_mem _ tw_75)) (fun _ h9 => h9) rfl dX2_feed_39 ?_
    refine lv_iload hx hb dX2_feed_42 (lv_at hl 4 rfl) ?_
    refine vx_Vv (As := [.int (x4)]) (rest := []) (wr := [(h, .inr (2, [.ref tp, .ref ip, .ref wd, .int (iI (lf)), .int (iI (ln))]))]) (ci := 0) (q0 := 0) [1, 2] [0] ⟨hx, hb, hml, hown, hts⟩ (c_X0_addNumber l dC dI cB cI _ tp q1 10240 len1 (tc + 4 + 4 + 4) f3 (by omega) (by omega) (by omega) hfit3 x4) (cwV 1 hts (gd_V tw_119 tw_120 tw_121 tw_20 tw_122) rfl rfl rfl (by decide +kernel) ⟨Nat.le_of_ble_eq_true rfl, Nat.le_of_ble_eq_true rfl⟩) hK hP hD hS hA rfl rfl rfl rfl (by decide) rfl rfl rfl rfl hl.1 rfl (Nat.le_of_ble_eq_true rfl) dX2_feed_44 ⟨Nat.le_refl _, Nat.le_refl _⟩ (fun u H locs hw hP hD hS => ?_)
    obtain ⟨f4, rfl⟩ : ∃ z, z = u := ⟨_, rfl⟩
    try dsimp only at hw hP hD
    obtain ⟨hfit4, hk4, e0, e1, e2, e3⟩ := hw
    have hP : va_P (dC, dI) vwCl [(h, .inr (2, [.ref tp, .ref ip, .ref wd, .int (iI (lf)), .int (iI (ln))])), (tp, .inr (0, [.int (iI (((10240 : Nat) : Int))), .ref q1, .int (iI (((tc + 4 + 4 + 4 + 4 : Nat) : Int)))])), (q1, .inl (cB, len1, .inl (f4)))] H := hP.sub [0, 1, 2] rfl
    have hD : va_D A [(h, .inr (2, [.ref tp, .ref ip, .ref wd, .int (iI (lf)), .int (iI (ln))])), (tp, .inr (0, [.int (iI (((10240 : Nat) : Int))), .ref q1, .int (iI (((tc + 4 + 4 + 4 + 4 : Nat) : Int)))])), (q1, .inl (cB, len1, .inl (f4)))] := hD.sub [0, 1, 2] (by decide) rfl
    have hd4 := fd_step hd3 (fun j hj => hk4 j (by omega)) e0 e1 e2 e3
    refine lv_aload_n hx hb dX2_feed_47 rfl (lv_at hl 0 rfl) ?_
    refine va_get (D := (dC, dI)) (ci := 2) (v := .ref tp) (C := "RequestCutter") (T := TX2) (N := 5) hx hb hts (fun w h => List.mem_cons_of_mem _ (inX2 w h)) hown hK hP 0 rfl rfl 0 (by decide) (hts _ (List.mem_cons_of_mem _ tw_75)) (fun _ h9 => h9) rfl dX2_feed_48 ?_
    refine lv_iload hx hb dX2_feed_51 (lv_at hl 5 rfl) ?_
    refine vx_Vv (As := [.int (x5)]) (rest := []) (wr := [(h, .inr (2, [.ref tp, .ref ip, .ref wd, .int (iI (lf)), .int (iI (ln))]))]) (ci := 0) (q0 := 0) [1, 2] [0] ⟨hx, hb, hml, hown, hts⟩ (c_X0_addNumber l dC dI cB cI _ tp q1 10240 len1 (tc + 4 + 4 + 4 + 4) f4 (by omega) (by omega) (by omega) hfit4 x5) (cwV 1 hts (gd_V tw_119 tw_120 tw_121 tw_20 tw_122) rfl rfl rfl (by decide +kernel) ⟨Nat.le_of_ble_eq_true rfl, Nat.le_of_ble_eq_true rfl⟩) hK hP hD hS hA rfl rfl rfl rfl (by decide) rfl rfl rfl rfl hl.1 rfl (Nat.le_of_ble_eq_true rfl) dX2_feed_53 ⟨Nat.le_refl _, Nat.le_refl _⟩ (fun u H locs hw hP hD hS => ?_)
    obtain ⟨f5, rfl⟩ : ∃ z, z = u := ⟨_, rfl⟩
    try dsimp only at hw hP hD
    obtain ⟨hfit5, hk5, e0, e1, e2, e3⟩ := hw
    have hP : va_P (dC, dI) vwCl [(h, .inr (2, [.ref tp, .ref ip, .ref wd, .int (iI (lf)), .int (iI (ln))])), (tp, .inr (0, [.int (iI (((10240 : Nat) : Int))), .ref q1, .int (iI (((tc + 4 + 4 + 4 + 4 + 4 : Nat) : Int)))])), (q1, .inl (cB, len1, .inl (f5)))] H := hP.sub [0, 1, 2] rfl
    have hD : va_D A [(h, .inr (2, [.ref tp, .ref ip, .ref wd, .int (iI (lf)), .int (iI (ln))])), (tp, .inr (0, [.int (iI (((10240 : Nat) : Int))), .ref q1, .int (iI (((tc + 4 + 4 + 4 + 4 + 4 : Nat) : Int)))])), (q1, .inl (cB, len1, .inl (f5)))] := hD.sub [0, 1, 2] (by decide) rfl
    have hd5 := fd_step hd4 (fun j hj => hk5 j (by omega)) e0 e1 e2 e3
    refine lv_iconst (v := iI (1)) hx hb dX2_feed_56 rfl ?_
    exact W.zret (v := iI (1)) hx hb hr (by rfl) (fun t ht hW => ⟨⟨iI (1), (q1, len1, tc + 4 + 4 + 4 + 4 + 4, f5), rfl, ⟨by rw [if_pos (by omega)], hfit5, ⟨by show tc + 4 + 4 + 4 + 4 + 4 ≤ len1; omega, hlim1⟩, hl2, fun j hj => by show f5 j = _; rw [hk5 j (by omega), hk4 j (by omega), hk3 j (by omega), hk2 j (by omega), hk1 j (by omega), hk0 j hj], fun _ => ⟨rfl, hd5⟩, fun z => by omega⟩, by rw [ht]; exact hP, va_K.moved hW.alike hK, hD⟩, hS.F ht⟩) hS.2.2 dX2_feed_57
  · refine lv_iconst (v := iI (0)) hx hb dX2_feed_12 rfl ?_
    exact W.zret (v := iI (0)) hx hb hr (by rfl) (fun t ht hW => ⟨⟨iI (0), (q1, len1, tc, f0), rfl, ⟨by rw [if_neg (by omega)], hfit0, ⟨by show tc ≤ len1; omega, hlim1⟩, hl2, hk0, fun z => by omega, fun _ => rfl⟩, by rw [ht]; exact hP, va_K.moved hW.alike hK, hD⟩, hS.F ht⟩) hS.2.2 dX2_feed_13
set_option maxHeartbeats 4000000 in
set_option maxRecDepth 100000 in
/-- arrive() -/
theorem c_X2_arrive (l : Launch) (dC : Nat → ClassId) (dI : Nat → Nat → Nat) (cB cI : ClassId) (sz : Nat) (h tp ip wd : Nat) (lf ln : Int) (tq tl tc : Nat) (tf : Nat → Int32) (htc : tc ≤ tl) (htn : tl ≤ 10240) (htf : sb_Fit tf) (iq il n : Nat) (f : Nat → Int32) (hc : n ≤ il) (hn : il ≤ 65536) (hfit : sb_Fit f) (mc ms : Nat) (hroom : n + tc ≤ 65536 ∧ il < n + tc → 1 ≤ mc ∧ gL 65536 il (n + tc) ≤ ms) : Met l yX2_arrive wX2_arrive ({ frames := 4, cells := mc, slots := ms, locals := 115 }) (va_Pc [.ref h] (vx_B (dC, dI) vwCl [(cB, .byte), (cI, .int)] [(h, .inr (2, [.ref tp, .ref ip, .ref wd, .int (iI (lf)), .int (iI (ln))])), (tp, .inr (0, [.int (iI (((10240 : Nat) : Int))), .ref tq, .int (iI ((tc : Int)))])), (tq, .inl (cB, tl, .inl (tf))), (ip, .inr (0, [.int (iI (((65536 : Nat) : Int))), .ref iq, .int (iI ((n : Int)))])), (iq, .inl (cB, il, .inl (f)))] sz)) (va_Qi (fun (r : Int32) (u : Nat × Nat × Nat × (Nat → Int32)) => r = iI (if n + tc ≤ 65536 then ((n + tc : Nat) : Int) else -1) ∧ sb_Fit u.2.2.2 ∧ (u.2.2.1 ≤ u.2.1 ∧ u.2.1 ≤ 65536) ∧ ((¬ (n + tc ≤ 65536 ∧ il < n + tc) ∧ u.2.1 = il) ∨ ((n + tc ≤ 65536 ∧ il < n + tc) ∧ u.2.1 = gL 65536 il (n + tc))) ∧ (∀ j, j < n → u.2.2.2 j = f j) ∧ (n + tc ≤ 65536 → u.2.2.1 = n + tc ∧ ∀ j, j < tc → u.2.2.2 (n + j) = tf j) ∧ (¬ n + tc ≤ 65536 → u.2.2.1 = n)) (fun (u : Nat × Nat × Nat × (Nat → Int32)) => vx_E (dC, dI) vwCl [(cB, .byte), (cI, .int)] (va_A [(h, .inr (2, [.ref tp, .ref ip, .ref wd, .int (iI (lf)), .int (iI (ln))])), (tp, .inr (0, [.int (iI (((10240 : Nat) : Int))), .ref tq, .int (iI ((tc : Int)))])), (tq, .inl (cB, tl, .inl (tf))), (ip, .inr (0, [.int (iI (((65536 : Nat) : Int))), .ref iq, .int (iI ((n : Int)))])), (iq, .inl (cB, il, .inl (f)))] sz) [(h, .inr (2, [.ref tp, .ref ip, .ref wd, .int (iI (lf)), .int (iI (ln))])), (tp, .inr (0, [.int (iI (((10240 : Nat) : Int))), .ref tq, .int (iI (0))])), (tq, .inl (cB, tl, .inl (tf))), (ip, .inr (0, [.int (iI (((65536 : Nat) : Int))), .ref u.1, .int (iI ((u.2.2.1 : Int)))])), (u.1, .inl (cB, u.2.1, .inl (u.2.2.2)))]) (va_A [(h, .inr (2, [.ref tp, .ref ip, .ref wd, .int (iI (lf)), .int (iI (ln))])), (tp, .inr (0, [.int (iI (((10240 : Nat) : Int))), .ref tq, .int (iI ((tc : Int)))])), (tq, .inl (cB, tl, .inl (tf))), (ip, .inr (0, [.int (iI (((65536 : Nat) : Int))), .ref iq, .int (iI ((n : Int)))])), (iq, .inl (cB, il, .inl (f)))] sz)) (mc) (ms) (va_A [(h, .inr (2, [.ref tp, .ref ip, .ref wd, .int (iI (lf)), .int (iI (ln))])), (tp, .inr (0, [.int (iI (((10240 : Nat) : Int))), .ref tq, .int (iI ((tc : Int)))])), (tq, .inl (cB, tl, .inl (tf))), (ip, .inr (0, [.int (iI (((65536 : Nat) : Int))), .ref iq, .int (iI ((n : Int)))])), (iq, .inl (cB, il, .inl (f)))] sz) := by
  refine Met.ofW (cc := cX2_arrive) (maxL := 2) (ret := (some .int)) (by decide) rfl ?_
  intro p e s m args below meth c s₁ B hml hv
  obtain ⟨rfl, hsz, hP, hK, hD0⟩ := hv
  have hx := B.exec
  have hb := B.bytes
  have hr := B.returns
  have hts := atoms_spec (ws := wX2_arrive) B.pre
  have hown : s.vm.findClass "RequestCutter" = some m.cls := findClass_of_methodNamed B.named
  have hlocks := B.notSynchronized
  subst hsz
  have hD := hD0.self (sz := s.heap.size)
  generalize hAe : va_A [(h, .inr (2, [.ref tp, .ref ip, .ref wd, .int (iI (lf)), .int (iI (ln))])), (tp, .inr (0, [.int (iI (((10240 : Nat) : Int))), .ref tq, .int (iI ((tc : Int)))])), (tq, .inl (cB, tl, .inl (tf))), (ip, .inr (0, [.int (iI (((65536 : Nat) : Int))), .ref iq, .int (iI ((n : Int)))])), (iq, .inl (cB, il, .inl (f)))] s.heap.size = A at hD ⊢
  have hA : ∀ q : Nat, s.heap.size ≤ q → A q := fun q h => by rw [← hAe]; exact Or.inr h
  have hS : va_S A s.heap s.heap [] := va_S.rf
  have hP : va_P (dC, dI) vwCl [(h, .inr (2, [.ref tp, .ref ip, .ref wd, .int (iI (lf)), .int (iI (ln))])), (tp, .inr (0, [.int (iI (((10240 : Nat) : Int))), .ref tq, .int (iI ((tc : Int)))])), (tq, .inl (cB, tl, .inl (tf))), (ip, .inr (0, [.int (iI (((65536 : Nat) : Int))), .ref iq, .int (iI ((n : Int)))])), (iq, .inl (cB, il, .inl (f)))] s.heap := hP
  have hl := lv_entry ([.ref h]) (n := 2) (Nat.le_of_ble_eq_true rfl)
  rw [lg_entry_eq]
  generalize (lg_sl ([.ref h]) ++ List.replicate (2 - (lg_sl ([.ref h])).length) Slot.unset).toArray = ls at hl ⊢
  have hl : lv_has ls 2 [(0, .ref h)] := hl
  refine lv_aload_n hx hb dX2_arrive_0 rfl (lv_at hl 0 rfl) ?_
  refine va_get (D := (dC, dI)) (ci := 2) (v := .ref ip) (C := "RequestCutter") (T := TX2) (N := 5) hx hb hts (fun w h => List.mem_cons_of_mem _ (inX2 w h)) hown hK hP 0 rfl rfl 1 (by decide) (hts _ (List.mem_cons_of_mem _ tw_76)) (fun _ h9 => h9) rfl dX2_arrive_1 ?_
  refine lv_aload_n hx hb dX2_arrive_4 rfl (lv_at hl 0 rfl) ?_
  refine va_get (D := (dC, dI)) (ci := 2) (v := .ref tp) (C := "RequestCutter") (T := TX2) (N := 5) hx hb hts (fun w h => List.mem_cons_of_mem _ (inX2 w h)) hown hK hP 0 rfl rfl 0 (by decide) (hts _ (List.mem_cons_of_mem _ tw_75)) (fun _ h9 => h9) rfl dX2_arrive_5 ?_
  refine lv_aload_n hx hb dX2_arrive_8 rfl (lv_at hl 0 rfl) ?_
  refine va_get (D := (dC, dI)) (ci := 2) (v := .ref tp) (C := "RequestCutter") (T := TX2) (N := 5) hx hb hts (fun w h => List.mem_cons_of_mem _ (inX2 w h)) hown hK hP 0 rfl rfl 0 (by decide) (hts _ (List.mem_cons_of_mem _ tw_75)) (fun _ h9 => h9) rfl dX2_arrive_9 ?_
  refine vx_Vs (As := []) (rest := [.ref tp, .ref ip]) (ci := 0) (q0 := 0) [1] ⟨hx, hb, hml, hown, hts⟩ (c_X0_count l dC dI cB cI tp tq 10240 tc) (cwV 0 hts (gd_V tw_135 tw_136 tw_137 tw_20 tw_138) rfl rfl rfl (by decide +kernel) ⟨Nat.le_of_ble_eq_true rfl, Nat.le_of_ble_eq_true rfl⟩) hK hP rfl rfl rfl rfl rfl hl.1 rfl (Nat.le_of_ble_eq_true rfl) dX2_arrive_12 ⟨Nat.zero_le _, Nat.zero_le _⟩ (fun r hr => ?_)
  obtain rfl : r = iI ((tc : Int)) := hr
  have hct : (tc : Int).toNat = tc := by omega
  refine vx_Vi (As := [.ref tp, .int (iI ((tc : Int)))]) (rest := []) (wr := [(h, .inr (2, [.ref tp, .ref ip, .ref wd, .int (iI (lf)), .int (iI (ln))]))]) (ci := 0) (q0 := 0) [3, 4, 1, 2] [0] ⟨hx, hb, hml, hown, hts⟩ (c_X0_addFirstOf l dC dI cB cI _ ip iq 65536 il n f hc hn (by omega) hn hfit tp tq 10240 tl tc tf htc (by omega) (by omega) htf (tc : Int) (by omega) mc ms (fun z => by rw [hct]; exact hroom (by omega))) (cwV 2 hts (gd_V tw_139 tw_140 tw_141 tw_20 tw_142) rfl rfl rfl (by decide +kernel) ⟨Nat.le_of_ble_eq_true rfl, Nat.le_of_ble_eq_true rfl⟩) hK hP hD hS hA rfl rfl rfl rfl (by decide) rfl rfl rfl rfl hl.1 rfl (Nat.le_of_ble_eq_true rfl) dX2_arrive_15 ⟨by show 0 + mc ≤ mc; omega, by show 0 + ms ≤ ms; omega⟩ (fun r u H locs hw hP hD hS => ?_)
  obtain ⟨q1, len1, c1, f1⟩ := u
  try dsimp only at hw hP hD
  obtain ⟨hr1, hfit1, hl1, hlim1, hok1, hno1⟩ := hw
  have hP : va_P (dC, dI) vwCl [(h, .inr (2, [.ref tp, .ref ip, .ref wd, .int (iI (lf)), .int (iI (ln))])), (tp, .inr (0, [.int (iI (((10240 : Nat) : Int))), .ref tq, .int (iI ((tc : Int)))])), (tq, .inl (cB, tl, .inl (tf))), (ip, .inr (0, [.int (iI (((65536 : Nat) : Int))), .ref q1, .int (iI ((c1 : Int)))])), (q1, .inl (cB, len1, .inl (f1)))] H := hP.sub [0, 3, 4, 1, 2] rfl
  have hD : va_D A [(h, .inr (2, [.ref tp, .ref ip, .ref wd, .int (iI (lf)), .int (iI (ln))])), (tp, .inr (0, [.int (iI (((10240 : Nat) : Int))), .ref tq, .int (iI ((tc : Int)))])), (tq, .inl (cB, tl, .inl (tf))), (ip, .inr (0, [.int (iI (((65536 : Nat) : Int))), .ref q1, .int (iI ((c1 : Int)))])), (q1, .inl (cB, len1, .inl (f1)))] := hD.sub [0, 3, 4, 1, 2] (by decide) rfl
  rw [hct] at hl1 hok1
  obtain ⟨b1, hb1, rfl⟩ := bo_of hr1
  have hl2 : (¬ (n + tc ≤ 65536 ∧ il < n + tc) ∧ len1 = il) ∨ ((n + tc ≤ 65536 ∧ il < n + tc) ∧ len1 = gL 65536 il (n + tc)) := by
    by_cases q : n + tc ≤ 65536 ∧ il < n + tc
    · exact Or.inr ⟨q, by rw [hl1, if_pos (by omega)]⟩
    · exact Or.inl ⟨q, by rw [hl1, if_neg (by omega)]⟩
  refine W.widen (k := mc) (n := ms) (by omega) (by omega) ?_
  refine lv_istore_n (lv' := [(1, .int (iI (b1))), (0, .ref h)]) hx hb dX2_arrive_18 rfl hl (by decide) rfl (fun ls hl => ?_)
  refine lv_aload_n hx hb dX2_arrive_19 rfl (lv_at hl 1 rfl) ?_
  refine va_get (D := (dC, dI)) (ci := 2) (v := .ref tp) (C := "RequestCutter") (T := TX2) (N := 5) hx hb hts (fun w h => List.mem_cons_of_mem _ (inX2 w h)) hown hK hP 0 rfl rfl 0 (by decide) (hts _ (List.mem_cons_of_mem _ tw_75)) (fun _ h9 => h9) rfl dX2_arrive_20 ?_
  refine vx_Vv (As := []) (rest := []) (wr := [(h, .inr (2, [.ref tp, .ref ip, .ref wd, .int (iI (lf)), .int (iI (ln))])), (tq, .inl (cB, tl, .inl (tf))), (ip, .inr (0, [.int (iI (((65536 : Nat) : Int))), .ref q1, .int (iI ((c1 : Int)))])), (q1, .inl (cB, len1, .inl (f1)))]) (ci := 0) (q0 := 0) [1] [0, 2, 3, 4] ⟨hx, hb, hml, hown, hts⟩ (c_X0_clear l dC dI cB cI _ tp tq 10240 tc) (cwV 0 hts (gd_V tw_145 tw_146 tw_147 tw_20 tw_148) rfl rfl rfl (by decide +kernel) ⟨Nat.le_of_ble_eq_true rfl, Nat.le_of_ble_eq_true rfl⟩) hK hP hD hS hA rfl rfl rfl rfl (by decide) rfl rfl rfl rfl hl.1 rfl (Nat.le_of_ble_eq_true rfl) dX2_arrive_23 ⟨Nat.le_refl _, Nat.le_refl _⟩ (fun u H locs hw hP hD hS => ?_)
  obtain - := u
  try dsimp only at hw hP hD
  obtain - := hw
  have hP : va_P (dC, dI) vwCl [(h, .inr (2, [.ref tp, .ref ip, .ref wd, .int (iI (lf)), .int (iI (ln))])), (tp, .inr (0, [.int (iI (((10240 : Nat) : Int))), .ref tq, .int (iI (0))])), (tq, .inl (cB, tl, .inl (tf))), (ip, .inr (0, [.int (iI (((65536 : Nat) : Int))), .ref q1, .int (iI ((c1 : Int)))])), (q1, .inl (cB, len1, .inl (f1)))] H := hP.sub [0, 4, 1, 2, 3] rfl
  have hD : va_D A [(h, .inr (2, [.ref tp, .ref ip, .ref wd, .int (iI (lf)), .int (iI (ln))])), (tp, .inr (0, [.int (iI (((10240 : Nat) : Int))), .ref tq, .int (iI (0))])), (tq, .inl (cB, tl, .inl (tf))), (ip, .inr (0, [.int (iI (((65536 : Nat) : Int))), .ref q1, .int (iI ((c1 : Int)))])), (q1, .inl (cB, len1, .inl (f1)))] := hD.sub [0, 4, 1, 2, 3] (by decide) rfl
  refine lv_iload_n hx hb dX2_arrive_26 rfl (lv_at hl 0 rfl) ?_
  refine lx_if_eq (a := b1) (tgt := 40) hx hb dX2_arrive_27 (by decide) (by omega) (fun cq1 => ?_) (fun cq1 => ?_)
  · refine lv_iconst (v := iI (-1)) hx hb dX2_arrive_40 rfl ?_
    have hk1 := hno1 (by omega)
    exact W.iret (v := iI (-1)) hx hb hr (fun t ht hW => ⟨⟨iI (-1), (q1, len1, c1, f1), rfl, ⟨by rw [if_neg (by omega)], hfit1, ⟨by show c1 ≤ len1; omega, hlim1⟩, hl2, hk1.2.2, fun z => by omega, fun _ => hk1.1⟩, by rw [ht]; exact hP, va_K.moved hW.alike hK, hD⟩, hS.F ht⟩) hS.2.2 dX2_arrive_41
  · refine lv_aload_n hx hb dX2_arrive_30 rfl (lv_at hl 1 rfl) ?_
    refine va_get (D := (dC, dI)) (ci := 2) (v := .ref ip) (C := "RequestCutter") (T := TX2) (N := 5) hx hb hts (fun w h => List.mem_cons_of_mem _ (inX2 w h)) hown hK hP 0 rfl rfl 1 (by decide) (hts _ (List.mem_cons_of_mem _ tw_76)) (fun _ h9 => h9) rfl dX2_arrive_31 ?_
    refine vx_Vs (As := []) (rest := []) (ci := 0) (q0 := 0) [3] ⟨hx, hb, hml, hown, hts⟩ (c_X0_count l dC dI cB cI ip q1 65536 c1) (cwV 0 hts (gd_V tw_135 tw_136 tw_137 tw_20 tw_138) rfl rfl rfl (by decide +kernel) ⟨Nat.le_of_ble_eq_true rfl, Nat.le_of_ble_eq_true rfl⟩) hK hP rfl rfl rfl rfl rfl hl.1 rfl (Nat.le_of_ble_eq_true rfl) dX2_arrive_34 ⟨Nat.le_refl _, Nat.le_refl _⟩ (fun r hr => ?_)
    obtain rfl : r = iI ((c1 : Int)) := hr
    refine lv_goto (tgt := 41) hx hb dX2_arrive_37 (by decide) ?_
    have hk1 := hok1 (by omega)
    exact W.iret (v := iI ((c1 : Int))) hx hb hr (fun t ht hW => ⟨⟨iI ((c1 : Int)), (q1, len1, c1, f1), rfl, ⟨by rw [if_pos (by omega), hk1.1], hfit1, ⟨by show c1 ≤ len1; omega, hlim1⟩, hl2, hk1.2.2.1, fun _ => ⟨hk1.1, hk1.2.2.2⟩, fun z => by omega⟩, by rw [ht]; exact hP, va_K.moved hW.alike hK, hD⟩, hS.F ht⟩) hS.2.2 dX2_arrive_41
end
section
set_option maxHeartbeats 4000000 in
set_option maxRecDepth 100000 in
/-- cut() -/
theorem c_X2_cut (l : Launch) (dC : Nat → ClassId) (dI : Nat → Nat → Nat) (cB cI : ClassId) (sz : Nat) (h tp ip wd iq il n : Nat) (f : Nat → Int32) (lf ln : Int) (hc : n ≤ il) (hn : il ≤ 65536) (hfit : sb_Fit f) (hln : -2147483648 ≤ ln ∧ ln ≤ 2147483647) (wb s1 s2 nl cnt : Nat) (sa za : Nat → Int) (hwn : 8 ≤ nl ∧ nl ≤ 1024) (wq wl wc : Nat) (wf : Nat → Int32) (hwl : wl ≤ 65536) (hwfit : sb_Fit wf) (m1 m2 : Nat) (hroom : 0 ≤ (zCut (bA f n) n).1 ∧ (wl : Int) < (zCut (bA f n) n).1 → 1 ≤ m1 ∧ gL 65536 wl (zCut (bA f n) n).1.toNat ≤ m2) : Met l yX2_cut wX2_cut ({ frames := 5, cells := 400 + m1, slots := 8192 + m2, locals := 139 }) (va_Pc [.ref h] (vx_B (dC, dI) vwCl [(cB, .byte), (cI, .int)] [(h, .inr (2, [.ref tp, .ref ip, .ref wd, .int (iI (lf)), .int (iI (ln))])), (ip, .inr (0, [.int (iI (((65536 : Nat) : Int))), .ref iq, .int (iI ((n : Int)))])), (iq, .inl (cB, il, .inl (f))), (wd, .inr (1, [.ref wb, .ref s1, .ref s2, .int (iI ((cnt : Int)))])), (s1, .inl (cI, nl, .inl (fun k => iI (sa k)))), (s2, .inl (cI, nl, .inl (fun k => iI (za k)))), (wb, .inr (0, [.int (iI (((65536 : Nat) : Int))), .ref wq, .int (iI ((wc : Int)))])), (wq, .inl (cB, wl, .inl (wf)))] sz)) (va_Qi (fun (r : Int32) (u : Int × Int × Nat × (Nat → Int32) × Nat × Nat × Nat × Nat × (Nat → Int) × (Nat → Int) × Nat × Nat × Nat × (Nat → Int32)) => r = iI (if (zCut (bA f n) n).1 < 0 then (zCut (bA f n) n).1 else ((zCut (bA f n) n).2.2.length : Int)) ∧ u.1 = (if (zCut (bA f n) n).1 = -2 then (zCut (bA f n) n).2.1 else 0) ∧ (-2147483648 ≤ u.2.1 ∧ u.2.1 ≤ 2147483647) ∧ sb_Fit u.2.2.2.1 ∧ u.2.2.1 ≤ il ∧ (8 ≤ u.2.2.2.2.2.2.1 ∧ u.2.2.2.2.2.2.1 ≤ 1024) ∧ u.2.2.2.2.2.2.2.1 ≤ u.2.2.2.2.2.2.1 ∧ sb_Fit u.2.2.2.2.2.2.2.2.2.2.2.2.2 ∧ u.2.2.2.2.2.2.2.2.2.2.2.2.1 ≤ u.2.2.2.2.2.2.2.2.2.2.2.1 ∧ u.2.2.2.2.2.2.2.2.2.2.2.1 ≤ 65536 ∧ ((¬ (0 ≤ (zCut (bA f n) n).1 ∧ (wl : Int) < (zCut (bA f n) n).1) ∧ u.2.2.2.2.2.2.2.2.2.2.2.1 = wl) ∨ ((0 ≤ (zCut (bA f n) n).1 ∧ (wl : Int) < (zCut (bA f n) n).1) ∧ u.2.2.2.2.2.2.2.2.2.2.2.1 = gL 65536 wl (zCut (bA f n) n).1.toNat)) ∧ ((zCut (bA f n) n).1 < 0 → u.2.2.1 = n ∧ u.2.2.2.1 = f ∧ u.2.2.2.2.2.2.2.1 = 0) ∧ (0 ≤ (zCut (bA f n) n).1 → wR (zCut (bA f n) n).2.2 u.2.2.2.2.2.2.2.1 u.2.2.2.2.2.2.2.2.1 u.2.2.2.2.2.2.2.2.2.1 ∧ u.2.2.1 = n - (zCut (bA f n) n).1.toNat ∧ (∀ j, j < n - (zCut (bA f n) n).1.toNat → u.2.2.2.1 j = f ((zCut (bA f n) n).1.toNat + j)) ∧ u.2.2.2.2.2.2.2.2.2.2.2.2.1 = (zCut (bA f n) n).1.toNat ∧ ∀ j, j < (zCut (bA f n) n).1.toNat → u.2.2.2.2.2.2.2.2.2.2.2.2.2 j = f j)) (fun (u : Int × Int × Nat × (Nat → Int32) × Nat × Nat × Nat × Nat × (Nat → Int) × (Nat → Int) × Nat × Nat × Nat × (Nat → Int32)) => vx_E (dC, dI) vwCl [(cB, .byte), (cI, .int)] (va_A [(h, .inr (2, [.ref tp, .ref ip, .ref wd, .int (iI (lf)), .int (iI (ln))])), (ip, .inr (0, [.int (iI (((65536 : Nat) : Int))), .ref iq, .int (iI ((n : Int)))])), (iq, .inl (cB, il, .inl (f))), (wd, .inr (1, [.ref wb, .ref s1, .ref s2, .int (iI ((cnt : Int)))])), (s1, .inl (cI, nl, .inl (fun k => iI (sa k)))), (s2, .inl (cI, nl, .inl (fun k => iI (za k)))), (wb, .inr (0, [.int (iI (((65536 : Nat) : Int))), .ref wq, .int (iI ((wc : Int)))])), (wq, .inl (cB, wl, .inl (wf)))] sz) [(h, .inr (2, [.ref tp, .ref ip, .ref wd, .int (iI (u.1)), .int (iI (u.2.1))])), (ip, .inr (0, [.int (iI (((65536 : Nat) : Int))), .ref iq, .int (iI ((u.2.2.1 : Int)))])), (iq, .inl (cB, il, .inl (u.2.2.2.1))), (wd, .inr (1, [.ref wb, .ref u.2.2.2.2.1, .ref u.2.2.2.2.2.1, .int (iI ((u.2.2.2.2.2.2.2.1 : Int)))])), (u.2.2.2.2.1, .inl (cI, u.2.2.2.2.2.2.1, .inl (fun k => iI (u.2.2.2.2.2.2.2.2.1 k)))), (u.2.2.2.2.2.1, .inl (cI, u.2.2.2.2.2.2.1, .inl (fun k => iI (u.2.2.2.2.2.2.2.2.2.1 k)))), (wb, .inr (0, [.int (iI (((65536 : Nat) : Int))), .ref u.2.2.2.2.2.2.2.2.2.2.1, .int (iI ((u.2.2.2.2.2.2.2.2.2.2.2.2.1 : Int)))])), (u.2.2.2.2.2.2.2.2.2.2.1, .inl (cB, u.2.2.2.2.2.2.2.2.2.2.2.1, .inl (u.2.2.2.2.2.2.2.2.2.2.2.2.2)))]) (va_A [(h, .inr (2, [.ref tp, .ref ip, .ref wd, .int (iI (lf)), .int (iI (ln))])), (ip, .inr (0, [.int (iI (((65536 : Nat) : Int))), .ref iq, .int (iI ((n : Int)))])), (iq, .inl (cB, il, .inl (f))), (wd, .inr (1, [.ref wb, .ref s1, .ref s2, .int (iI ((cnt : Int)))])), (s1, .inl (cI, nl, .inl (fun k => iI (sa k)))), (s2, .inl (cI, nl, .inl (fun k => iI (za k)))), (wb, .inr (0, [.int (iI (((65536 : Nat) : Int))), .ref wq, .int (iI ((wc : Int)))])), (wq, .inl (cB, wl, .inl (wf)))] sz)) (400 + m1) (8192 + m2) (va_A [(h, .inr (2, [.ref tp, .ref ip, .ref wd, .int (iI (lf)), .int (iI (ln))])), (ip, .inr (0, [.int (iI (((65536 : Nat) : Int))), .ref iq, .int (iI ((n : Int)))])), (iq, .inl (cB, il, .inl (f))), (wd, .inr (1, [.ref wb, .ref s1, .ref s2, .int (iI ((cnt : Int)))])), (s1, .inl (cI, nl, .inl (fun k => iI (sa k)))), (s2, .inl (cI, nl, .inl (fun k => iI (za k)))), (wb, .inr (0, [.int (iI (((65536 : Nat) : Int))), .ref wq, .int (iI ((wc : Int)))])), (wq, .inl (cB, wl, .inl (wf)))] sz) := by
  refine Met.ofW (cc := cX2_cut) (maxL := 2) (ret := (some .int)) (by decide) rfl ?_
  intro p e s m args below meth c s₁ B hml hv
  obtain ⟨rfl, hsz, hP, hK, hD0⟩ := hv
  have hx := B.exec
  have hb := B.bytes
  have hr := B.returns
  have hts := atoms_spec (ws := wX2_cut) B.pre
  have hown : s.vm.findClass "RequestCutter" = some m.cls := findClass_of_methodNamed B.named
  have hlocks := B.notSynchronized
  subst hsz
  have hD := hD0.self (sz := s.heap.size)
  generalize hAe : va_A [(h, .inr (2, [.ref tp, .ref ip, .ref wd, .int (iI (lf)), .int (iI (ln))])), (ip, .inr (0, [.int (iI (((65536 : Nat) : Int))), .ref iq, .int (iI ((n : Int)))])), (iq, .inl (cB, il, .inl (f))), (wd, .inr (1, [.ref wb, .ref s1, .ref s2, .int (iI ((cnt : Int)))])), (s1, .inl (cI, nl, .inl (fun k => iI (sa k)))), (s2, .inl (cI, nl, .inl (fun k => iI (za k)))), (wb, .inr (0, [.int (iI (((65536 : Nat) : Int))), .ref wq, .int (iI ((wc : Int)))])), (wq, .inl (cB, wl, .inl (wf)))] s.heap.size = A at hD ⊢
  have hA : ∀ q : Nat, s.heap.size ≤ q → A q := fun q h => by rw [← hAe]; exact Or.inr h
  have hS : va_S A s.heap s.heap [] := va_S.rf
  have hP : va_P (dC, dI) vwCl [(h, .inr (2, [.ref tp, .ref ip, .ref wd, .int (iI (lf)), .int (iI (ln))])), (ip, .inr (0, [.int (iI (((65536 : Nat) : Int))), .ref iq, .int (iI ((n : Int)))])), (iq, .inl (cB, il, .inl (f))), (wd, .inr (1, [.ref wb, .ref s1, .ref s2, .int (iI ((cnt : Int)))])), (s1, .inl (cI, nl, .inl (fun k => iI (sa k)))), (s2, .inl (cI, nl, .inl (fun k => iI (za k)))), (wb, .inr (0, [.int (iI (((65536 : Nat) : Int))), .ref wq, .int (iI ((wc : Int)))])), (wq, .inl (cB, wl, .inl (wf)))] s.heap := hP
  have hl := lv_entry ([.ref h]) (n := 2) (Nat.le_of_ble_eq_true rfl)
  rw [lg_entry_eq]
  generalize (lg_sl ([.ref h]) ++ List.replicate (2 - (lg_sl ([.ref h])).length) Slot.unset).toArray = ls at hl ⊢
  have hl : lv_has ls 2 [(0, .ref h)] := hl
  refine lv_aload_n hx hb dX2_cut_0 rfl (lv_at hl 0 rfl) ?_
  refine lv_iconst (v := iI (0)) hx hb dX2_cut_1 rfl ?_
  refine va_put (D := (dC, dI)) (ci := 2) (v := .int (iI (0))) (ty := .int) (C := "RequestCutter") (T := TX2) (N := 5) hx hb hts (fun w h => List.mem_cons_of_mem _ (inX2 w h)) tyX2 tyX2_ok nmX2 hown hK hP hD hS 0 rfl rfl 3 (by decide) (hts _ (List.mem_cons_of_mem _ tw_78)) (fun _ h9 => h9) rfl (by decide +kernel) rfl rfl (Nat.le_of_ble_eq_true rfl) dX2_cut_2 (fun H locs hP hD hS => ?_)
  have hP : va_P (dC, dI) vwCl [(h, .inr (2, [.ref tp, .ref ip, .ref wd, .int (iI (0)), .int (iI (ln))])), (ip, .inr (0, [.int (iI (((65536 : Nat) : Int))), .ref iq, .int (iI ((n : Int)))])), (iq, .inl (cB, il, .inl (f))), (wd, .inr (1, [.ref wb, .ref s1, .ref s2, .int (iI ((cnt : Int)))])), (s1, .inl (cI, nl, .inl (fun k => iI (sa k)))), (s2, .inl (cI, nl, .inl (fun k => iI (za k)))), (wb, .inr (0, [.int (iI (((65536 : Nat) : Int))), .ref wq, .int (iI ((wc : Int)))])), (wq, .inl (cB, wl, .inl (wf)))] H := hP
  have hD : va_D A [(h, .inr (2, [.ref tp, .ref ip, .ref wd, .int (iI (0)), .int (iI (ln))])), (ip, .inr (0, [.int (iI (((65536 : Nat) : Int))), .ref iq, .int (iI ((n : Int)))])), (iq, .inl (cB, il, .inl (f))), (wd, .inr (1, [.ref wb, .ref s1, .ref s2, .int (iI ((cnt : Int)))])), (s1, .inl (cI, nl, .inl (fun k => iI (sa k)))), (s2, .inl (cI, nl, .inl (fun k => iI (za k)))), (wb, .inr (0, [.int (iI (((65536 : Nat) : Int))), .ref wq, .int (iI ((wc : Int)))])), (wq, .inl (cB, wl, .inl (wf)))] := hD
  refine lv_aload_n hx hb dX2_cut_5 rfl (lv_at hl 0 rfl) ?_
  refine va_get (D := (dC, dI)) (ci := 2) (v := .ref wd) (C := "RequestCutter") (T := TX2) (N := 5) hx hb hts (fun w h => List.mem_cons_of_mem _ (inX2 w h)) hown hK hP 0 rfl rfl 2 (by decide) (hts _ (List.mem_cons_of_mem _ tw_77)) (fun _ h9 => h9) rfl dX2_cut_6 ?_
  refine vx_Vv (As := []) (rest := []) (wr := [(h, .inr (2, [.ref tp, .ref ip, .ref wd, .int (iI (0)), .int (iI (ln))])), (ip, .inr (0, [.int (iI (((65536 : Nat) : Int))), .ref iq, .int (iI ((n : Int)))])), (iq, .inl (cB, il, .inl (f))), (s1, .inl (cI, nl, .inl (fun k => iI (sa k)))), (s2, .inl (cI, nl, .inl (fun k => iI (za k)))), (wq, .inl (cB, wl, .inl (wf)))]) (ci := 1) (q0 := 0) [3, 6] [0, 1, 2, 4, 5, 7] ⟨hx, hb, hml, hown, hts⟩ (c_X1_clear l dC dI cB cI _ wd wb s1 s2 (cnt) wq 65536 (wc)) (cwV 0 hts (gd_V tw_153 tw_154 tw_155 tw_21 tw_156) rfl rfl rfl (by decide +kernel) ⟨Nat.le_of_ble_eq_true rfl, Nat.le_of_ble_eq_true rfl⟩) hK hP hD hS hA rfl rfl rfl rfl (by decide) rfl rfl rfl rfl hl.1 rfl (Nat.le_of_ble_eq_true rfl) dX2_cut_9 ⟨Nat.zero_le _, Nat.zero_le _⟩ (fun u H locs hw hP hD hS => ?_)
  obtain - := u
  try dsimp only at hw hP hD
  obtain - := hw
  have hP : va_P (dC, dI) vwCl [(h, .inr (2, [.ref tp, .ref ip, .ref wd, .int (iI (0)), .int (iI (ln))])), (ip, .inr (0, [.int (iI (((65536 : Nat) : Int))), .ref iq, .int (iI ((n : Int)))])), (iq, .inl (cB, il, .inl (f))), (wd, .inr (1, [.ref wb, .ref s1, .ref s2, .int (iI (((0 : Nat) : Int)))])), (s1, .inl (cI, nl, .inl (fun k => iI (sa k)))), (s2, .inl (cI, nl, .inl (fun k => iI (za k)))), (wb, .inr (0, [.int (iI (((65536 : Nat) : Int))), .ref wq, .int (iI (((0 : Nat) : Int)))])), (wq, .inl (cB, wl, .inl (wf)))] H := hP.sub [0, 1, 2, 6, 3, 4, 7, 5] rfl
  have hD : va_D A [(h, .inr (2, [.ref tp, .ref ip, .ref wd, .int (iI (0)), .int (iI (ln))])), (ip, .inr (0, [.int (iI (((65536 : Nat) : Int))), .ref iq, .int (iI ((n : Int)))])), (iq, .inl (cB, il, .inl (f))), (wd, .inr (1, [.ref wb, .ref s1, .ref s2, .int (iI (((0 : Nat) : Int)))])), (s1, .inl (cI, nl, .inl (fun k => iI (sa k)))), (s2, .inl (cI, nl, .inl (fun k => iI (za k)))), (wb, .inr (0, [.int (iI (((65536 : Nat) : Int))), .ref wq, .int (iI (((0 : Nat) : Int)))])), (wq, .inl (cB, wl, .inl (wf)))] := hD.sub [0, 1, 2, 6, 3, 4, 7, 5] (by decide) rfl
  refine lv_aload_n hx hb dX2_cut_12 rfl (lv_at hl 0 rfl) ?_
  refine va_get (D := (dC, dI)) (ci := 2) (v := .ref ip) (C := "RequestCutter") (T := TX2) (N := 5) hx hb hts (fun w h => List.mem_cons_of_mem _ (inX2 w h)) hown hK hP 0 rfl rfl 1 (by decide) (hts _ (List.mem_cons_of_mem _ tw_76)) (fun _ h9 => h9) rfl dX2_cut_13 ?_
  refine lv_iconst (v := iI (0)) hx hb dX2_cut_16 rfl ?_
  have g_at := bA_rg f n 0
  refine vx_Vs (As := [.int (iI (0))]) (rest := []) (ci := 0) (q0 := 0) [1, 2] ⟨hx, hb, hml, hown, hts⟩ (c_X0_at l dC dI cB cI ip iq 65536 il n f hc hn 0 (by omega)) (cwV 1 hts (gd_V tw_158 tw_159 tw_160 tw_20 tw_161) rfl rfl rfl (by decide +kernel) ⟨Nat.le_of_ble_eq_true rfl, Nat.le_of_ble_eq_true rfl⟩) hK hP rfl rfl rfl rfl rfl hl.1 rfl (Nat.le_of_ble_eq_true rfl) dX2_cut_17 ⟨Nat.zero_le _, Nat.zero_le _⟩ (fun r hr => ?_)
  obtain rfl : r = iI (bA f n (0)) := hr
  refine lv_bipush (v := iI (42)) hx hb dX2_cut_20 (by decide) ?_
  refine lx_icmp_ne (a := bA f n (0)) (b := 42) (tgt := 32) hx hb dX2_cut_22 (by decide) (by omega) (by omega) (fun cq1 => ?_) (fun cq1 => ?_)
  · refine lv_aload_n hx hb dX2_cut_32 rfl (lv_at hl 0 rfl) ?_
    have hZ0 : (zCut (bA f n) n) = zPlain (bA f n) n := if_neg (by omega)
    obtain ⟨V, hV⟩ : ∃ V, V = (zCut (bA f n) n) := ⟨_, rfl⟩
    have gV := zCut_rg f n
    rw [← hV] at gV hroom ⊢
    refine vx_Vi (As := []) (rest := []) (wr := [(wb, .inr (0, [.int (iI (((65536 : Nat) : Int))), .ref wq, .int (iI (((0 : Nat) : Int)))])), (wq, .inl (cB, wl, .inl (wf)))]) (ci := 2) (q0 := 0) [0, 1, 2, 3, 4, 5] [6, 7] ⟨hx, hb, hml, hown, hts⟩ (c_X2_scanPlain l dC dI cB cI _ h tp ip wd iq 65536 il n f ln hc hn hln wb s1 s2 nl sa za hwn) (cwV 0 hts (gd_V tw_204 tw_206 tw_7 tw_19 tw_207) rfl rfl rfl (by decide +kernel) ⟨Nat.le_of_ble_eq_true rfl, Nat.le_of_ble_eq_true rfl⟩) hK hP hD hS hA rfl rfl rfl rfl (by decide) rfl rfl rfl rfl hl.1 rfl (Nat.le_of_ble_eq_true rfl) dX2_cut_33 ⟨by show 0 + 400 ≤ 400 + m1; omega, by show 0 + 8192 ≤ 8192 + m2; omega⟩ (fun r u H locs hw hP hD hS => ?_)
    obtain ⟨l1, n1, s3, s4, nl1, cnt1, sa1, za1⟩ := u
    try dsimp only at hw hP hD
    rw [← hZ0, ← hV] at hw
    obtain ⟨rfl, hl1, gz1, hn1, hc1, hx1⟩ := hw
    have hP : va_P (dC, dI) vwCl [(h, .inr (2, [.ref tp, .ref ip, .ref wd, .int (iI (l1)), .int (iI (n1))])), (ip, .inr (0, [.int (iI (((65536 : Nat) : Int))), .ref iq, .int (iI ((n : Int)))])), (iq, .inl (cB, il, .inl (f))), (wd, .inr (1, [.ref wb, .ref s3, .ref s4, .int (iI ((cnt1 : Int)))])), (s3, .inl (cI, nl1, .inl (fun k => iI (sa1 k)))), (s4, .inl (cI, nl1, .inl (fun k => iI (za1 k)))), (wb, .inr (0, [.int (iI (((65536 : Nat) : Int))), .ref wq, .int (iI (((0 : Nat) : Int)))])), (wq, .inl (cB, wl, .inl (wf)))] H := hP.sub [2, 3, 4, 5, 6, 7, 0, 1] rfl
    have hD : va_D A [(h, .inr (2, [.ref tp, .ref ip, .ref wd, .int (iI (l1)), .int (iI (n1))])), (ip, .inr (0, [.int (iI (((65536 : Nat) : Int))), .ref iq, .int (iI ((n : Int)))])), (iq, .inl (cB, il, .inl (f))), (wd, .inr (1, [.ref wb, .ref s3, .ref s4, .int (iI ((cnt1 : Int)))])), (s3, .inl (cI, nl1, .inl (fun k => iI (sa1 k)))), (s4, .inl (cI, nl1, .inl (fun k => iI (za1 k)))), (wb, .inr (0, [.int (iI (((65536 : Nat) : Int))), .ref wq, .int (iI (((0 : Nat) : Int)))])), (wq, .inl (cB, wl, .inl (wf)))] := hD.sub [2, 3, 4, 5, 6, 7, 0, 1] (by decide) rfl
    refine W.widen (k := 400) (n := 8192) (by omega) (by omega) ?_
    refine lv_istore_n (lv' := [(1, .int (iI (V.1))), (0, .ref h)]) hx hb dX2_cut_36 rfl hl (by decide) rfl (fun ls hl => ?_)
    refine lv_iload_n hx hb dX2_cut_37 rfl (lv_at hl 0 rfl) ?_
    refine lx_if_ge (a := V.1) (tgt := 50) hx hb dX2_cut_38 (by decide) (by omega) (fun cq2 => ?_) (fun cq2 => ?_)
    · refine lv_aload_n hx hb dX2_cut_50 rfl (lv_at hl 1 rfl) ?_
      refine va_get (D := (dC, dI)) (ci := 2) (v := .ref wd) (C := "RequestCutter") (T := TX2) (N := 5) hx hb hts (fun w h => List.mem_cons_of_mem _ (inX2 w h)) hown hK hP 0 rfl rfl 2 (by decide) (hts _ (List.mem_cons_of_mem _ tw_77)) (fun _ h9 => h9) rfl dX2_cut_51 ?_
      refine lv_aload_n hx hb dX2_cut_54 rfl (lv_at hl 1 rfl) ?_
      refine va_get (D := (dC, dI)) (ci := 2) (v := .ref ip) (C := "RequestCutter") (T := TX2) (N := 5) hx hb hts (fun w h => List.mem_cons_of_mem _ (inX2 w h)) hown hK hP 0 rfl rfl 1 (by decide) (hts _ (List.mem_cons_of_mem _ tw_76)) (fun _ h9 => h9) rfl dX2_cut_55 ?_
      refine lv_iload_n hx hb dX2_cut_58 rfl (lv_at hl 0 rfl) ?_
      obtain ⟨x, hVx⟩ : ∃ x : Nat, V.1 = (x : Int) := ⟨V.1.toNat, by omega⟩
      have hxt : V.1.toNat = x := by omega
      rw [hxt] at hroom
      refine lx_top (x2 := iI (x : Int)) (congrArg iI hVx) ?_
      refine vx_Vv (As := [.ref ip, .int (iI ((x : Int)))]) (rest := []) (wr := [(h, .inr (2, [.ref tp, .ref ip, .ref wd, .int (iI (l1)), .int (iI (n1))])), (s3, .inl (cI, nl1, .inl (fun k => iI (sa1 k)))), (s4, .inl (cI, nl1, .inl (fun k => iI (za1 k))))]) (ci := 1) (q0 := 0) [3, 6, 7, 1, 2] [0, 4, 5] ⟨hx, hb, hml, hown, hts⟩ (c_X1_keepBytes l dC dI cB cI _ wd wb s3 s4 cnt1 wq 65536 wl 0 wf (Nat.zero_le _) hwl (by omega) hwl hwfit ip iq 65536 il n f hc hn (by omega) hfit x (by omega) (by omega) m1 m2 (fun z => by have q := hroom (by omega); rw [Nat.zero_add]; exact q)) (cwV 2 hts (gd_V tw_217 tw_218 tw_219 tw_21 tw_220) rfl rfl rfl (by decide +kernel) ⟨Nat.le_of_ble_eq_true rfl, Nat.le_of_ble_eq_true rfl⟩) hK hP hD hS hA rfl rfl rfl rfl (by decide) rfl rfl rfl rfl hl.1 rfl (Nat.le_of_ble_eq_true rfl) dX2_cut_59 ⟨by show 400 + m1 ≤ 400 + m1; omega, by show 8192 + m2 ≤ 8192 + m2; omega⟩ (fun u H locs hw hP hD hS => ?_)
      obtain ⟨q1, wl1, wc1, wf1⟩ := u
      try dsimp only at hw hP hD
      obtain ⟨hwfit1, hwl1, hwl2, hwc1, hwc2, -, hwf1⟩ := hw
      have hP : va_P (dC, dI) vwCl [(h, .inr (2, [.ref tp, .ref ip, .ref wd, .int (iI (l1)), .int (iI (n1))])), (ip, .inr (0, [.int (iI (((65536 : Nat) : Int))), .ref iq, .int (iI ((n : Int)))])), (iq, .inl (cB, il, .inl (f))), (wd, .inr (1, [.ref wb, .ref s3, .ref s4, .int (iI ((cnt1 : Int)))])), (s3, .inl (cI, nl1, .inl (fun k => iI (sa1 k)))), (s4, .inl (cI, nl1, .inl (fun k => iI (za1 k)))), (wb, .inr (0, [.int (iI (((65536 : Nat) : Int))), .ref q1, .int (iI ((wc1 : Int)))])), (q1, .inl (cB, wl1, .inl (wf1)))] H := hP.sub [0, 6, 7, 3, 1, 2, 4, 5] rfl
      have hD : va_D A [(h, .inr (2, [.ref tp, .ref ip, .ref wd, .int (iI (l1)), .int (iI (n1))])), (ip, .inr (0, [.int (iI (((65536 : Nat) : Int))), .ref iq, .int (iI ((n : Int)))])), (iq, .inl (cB, il, .inl (f))), (wd, .inr (1, [.ref wb, .ref s3, .ref s4, .int (iI ((cnt1 : Int)))])), (s3, .inl (cI, nl1, .inl (fun k => iI (sa1 k)))), (s4, .inl (cI, nl1, .inl (fun k => iI (za1 k)))), (wb, .inr (0, [.int (iI (((65536 : Nat) : Int))), .ref q1, .int (iI ((wc1 : Int)))])), (q1, .inl (cB, wl1, .inl (wf1)))] := hD.sub [0, 6, 7, 3, 1, 2, 4, 5] (by decide) rfl
      rw [Nat.zero_add] at hwl1 hwc1 hwc2
      refine lv_aload_n hx hb dX2_cut_62 rfl (lv_at hl 1 rfl) ?_
      refine va_get (D := (dC, dI)) (ci := 2) (v := .ref ip) (C := "RequestCutter") (T := TX2) (N := 5) hx hb hts (fun w h => List.mem_cons_of_mem _ (inX2 w h)) hown hK hP 0 rfl rfl 1 (by decide) (hts _ (List.mem_cons_of_mem _ tw_76)) (fun _ h9 => h9) rfl dX2_cut_63 ?_
      refine lv_iload_n hx hb dX2_cut_66 rfl (lv_at hl 0 rfl) ?_
      refine lx_top (x2 := iI (x : Int)) (congrArg iI hVx) ?_
      refine vx_Vi (As := [.int (iI ((x : Int)))]) (rest := []) (wr := [(h, .inr (2, [.ref tp, .ref ip, .ref wd, .int (iI (l1)), .int (iI (n1))])), (wd, .inr (1, [.ref wb, .ref s3, .ref s4, .int (iI ((cnt1 : Int)))])), (s3, .inl (cI, nl1, .inl (fun k => iI (sa1 k)))), (s4, .inl (cI, nl1, .inl (fun k => iI (za1 k)))), (wb, .inr (0, [.int (iI (((65536 : Nat) : Int))), .ref q1, .int (iI ((wc1 : Int)))])), (q1, .inl (cB, wl1, .inl (wf1)))]) (ci := 0) (q0 := 0) [1, 2] [0, 3, 4, 5, 6, 7] ⟨hx, hb, hml, hown, hts⟩ (c_X0_removeFirst l dC dI cB cI _ ip iq 65536 il n f hc hn (by omega) hfit (x : Int) (by omega)) (cwV 1 hts (gd_V tw_222 tw_223 tw_224 tw_20 tw_225) rfl rfl rfl (by decide +kernel) ⟨Nat.le_of_ble_eq_true rfl, Nat.le_of_ble_eq_true rfl⟩) hK hP hD hS hA rfl rfl rfl rfl (by decide) rfl rfl rfl rfl hl.1 rfl (Nat.le_of_ble_eq_true rfl) dX2_cut_67 ⟨Nat.le_refl _, Nat.le_refl _⟩ (fun r u H locs hw hP hD hS => ?_)
      obtain ⟨f2, n2⟩ := u
      try dsimp only at hw hP hD
      obtain ⟨hr2, hfit2, hok2, -⟩ := hw
      have hP : va_P (dC, dI) vwCl [(h, .inr (2, [.ref tp, .ref ip, .ref wd, .int (iI (l1)), .int (iI (n1))])), (ip, .inr (0, [.int (iI (((65536 : Nat) : Int))), .ref iq, .int (iI ((n2 : Int)))])), (iq, .inl (cB, il, .inl (f2))), (wd, .inr (1, [.ref wb, .ref s3, .ref s4, .int (iI ((cnt1 : Int)))])), (s3, .inl (cI, nl1, .inl (fun k => iI (sa1 k)))), (s4, .inl (cI, nl1, .inl (fun k => iI (za1 k)))), (wb, .inr (0, [.int (iI (((65536 : Nat) : Int))), .ref q1, .int (iI ((wc1 : Int)))])), (q1, .inl (cB, wl1, .inl (wf1)))] H := hP.sub [0, 6, 7, 1, 2, 3, 4, 5] rfl
      have hD : va_D A [(h, .inr (2, [.ref tp, .ref ip, .ref wd, .int (iI (l1)), .int (iI (n1))])), (ip, .inr (0, [.int (iI (((65536 : Nat) : Int))), .ref iq, .int (iI ((n2 : Int)))])), (iq, .inl (cB, il, .inl (f2))), (wd, .inr (1, [.ref wb, .ref s3, .ref s4, .int (iI ((cnt1 : Int)))])), (s3, .inl (cI, nl1, .inl (fun k => iI (sa1 k)))), (s4, .inl (cI, nl1, .inl (fun k => iI (za1 k)))), (wb, .inr (0, [.int (iI (((65536 : Nat) : Int))), .ref q1, .int (iI ((wc1 : Int)))])), (q1, .inl (cB, wl1, .inl (wf1)))] := hD.sub [0, 6, 7, 1, 2, 3, 4, 5] (by decide) rfl
      obtain ⟨hn2, hf2⟩ := hok2 (by omega)
      have hxt2 : (x : Int).toNat = x := by omega
      rw [hxt2] at hn2 hf2
      obtain ⟨b1, hb1, rfl⟩ := bo_of hr2
      refine lv_pop hx hb dX2_cut_70 rfl ?_
      refine lv_aload_n hx hb dX2_cut_71 rfl (lv_at hl 1 rfl) ?_
      refine va_get (D := (dC, dI)) (ci := 2) (v := .ref wd) (C := "RequestCutter") (T := TX2) (N := 5) hx hb hts (fun w h => List.mem_cons_of_mem _ (inX2 w h)) hown hK hP 0 rfl rfl 2 (by decide) (hts _ (List.mem_cons_of_mem _ tw_77)) (fun _ h9 => h9) rfl dX2_cut_72 ?_
      refine vx_Vs (As := []) (rest := []) (ci := 1) (q0 := 0) [3] ⟨hx, hb, hml, hown, hts⟩ (c_X1_count l dC dI cB cI wd wb s3 s4 cnt1) (cwV 0 hts (gd_V tw_226 tw_227 tw_228 tw_21 tw_229) rfl rfl rfl (by decide +kernel) ⟨Nat.le_of_ble_eq_true rfl, Nat.le_of_ble_eq_true rfl⟩) hK hP rfl rfl rfl rfl rfl hl.1 rfl (Nat.le_of_ble_eq_true rfl) dX2_cut_75 ⟨Nat.le_refl _, Nat.le_refl _⟩ (fun r hr => ?_)
      obtain rfl : r = iI ((cnt1 : Int)) := hr
      have hw1 := hx1 (by omega)
      exact W.iret (v := iI ((cnt1 : Int))) hx hb hr (fun t ht hW => ⟨⟨iI ((cnt1 : Int)), (l1, n1, n2, f2, s3, s4, nl1, cnt1, sa1, za1, q1, wl1, wc1, wf1), rfl, ⟨by rw [if_neg (by omega), hw1.1], hl1, gz1, hfit2, by show n2 ≤ il; omega, hn1, hc1, hwfit1, by show wc1 ≤ wl1; omega, hwl2, (by show (_ ∧ wl1 = _) ∨ (_ ∧ wl1 = _); rw [hxt]; by_cases q : wl < x; exact Or.inr ⟨by omega, by rw [hwl1, if_pos q]⟩; exact Or.inl ⟨by omega, by rw [hwl1, if_neg q]⟩), fun z => by omega, fun z => by rw [hxt]; exact ⟨hw1, hn2, hf2, hwc1, fun j hj => by have := hwf1 j hj; rw [Nat.zero_add] at this; exact this⟩⟩, by rw [ht]; exact hP, va_K.moved hW.alike hK, hD⟩, hS.F ht⟩) hS.2.2 dX2_cut_78
    · refine lv_aload_n hx hb dX2_cut_41 rfl (lv_at hl 1 rfl) ?_
      refine va_get (D := (dC, dI)) (ci := 2) (v := .ref wd) (C := "RequestCutter") (T := TX2) (N := 5) hx hb hts (fun w h => List.mem_cons_of_mem _ (inX2 w h)) hown hK hP 0 rfl rfl 2 (by decide) (hts _ (List.mem_cons_of_mem _ tw_77)) (fun _ h9 => h9) rfl dX2_cut_42 ?_
      refine vx_Vv (As := []) (rest := []) (wr := [(h, .inr (2, [.ref tp, .ref ip, .ref wd, .int (iI (l1)), .int (iI (n1))])), (ip, .inr (0, [.int (iI (((65536 : Nat) : Int))), .ref iq, .int (iI ((n : Int)))])), (iq, .inl (cB, il, .inl (f))), (s3, .inl (cI, nl1, .inl (fun k => iI (sa1 k)))), (s4, .inl (cI, nl1, .inl (fun k => iI (za1 k)))), (wq, .inl (cB, wl, .inl (wf)))]) (ci := 1) (q0 := 0) [3, 6] [0, 1, 2, 4, 5, 7] ⟨hx, hb, hml, hown, hts⟩ (c_X1_clear l dC dI cB cI _ wd wb s3 s4 (cnt1) wq 65536 ((0 : Nat))) (cwV 0 hts (gd_V tw_153 tw_154 tw_155 tw_21 tw_156) rfl rfl rfl (by decide +kernel) ⟨Nat.le_of_ble_eq_true rfl, Nat.le_of_ble_eq_true rfl⟩) hK hP hD hS hA rfl rfl rfl rfl (by decide) rfl rfl rfl rfl hl.1 rfl (Nat.le_of_ble_eq_true rfl) dX2_cut_45 ⟨by show 400 + 0 ≤ 400 + m1; omega, by show 8192 + 0 ≤ 8192 + m2; omega⟩ (fun u H locs hw hP hD hS => ?_)
      obtain - := u
      try dsimp only at hw hP hD
      obtain - := hw
      have hP : va_P (dC, dI) vwCl [(h, .inr (2, [.ref tp, .ref ip, .ref wd, .int (iI (l1)), .int (iI (n1))])), (ip, .inr (0, [.int (iI (((65536 : Nat) : Int))), .ref iq, .int (iI ((n : Int)))])), (iq, .inl (cB, il, .inl (f))), (wd, .inr (1, [.ref wb, .ref s3, .ref s4, .int (iI (((0 : Nat) : Int)))])), (s3, .inl (cI, nl1, .inl (fun k => iI (sa1 k)))), (s4, .inl (cI, nl1, .inl (fun k => iI (za1 k)))), (wb, .inr (0, [.int (iI (((65536 : Nat) : Int))), .ref wq, .int (iI (((0 : Nat) : Int)))])), (wq, .inl (cB, wl, .inl (wf)))] H := hP.sub [0, 1, 2, 6, 3, 4, 7, 5] rfl
      have hD : va_D A [(h, .inr (2, [.ref tp, .ref ip, .ref wd, .int (iI (l1)), .int (iI (n1))])), (ip, .inr (0, [.int (iI (((65536 : Nat) : Int))), .ref iq, .int (iI ((n : Int)))])), (iq, .inl (cB, il, .inl (f))), (wd, .inr (1, [.ref wb, .ref s3, .ref s4, .int (iI (((0 : Nat) : Int)))])), (s3, .inl (cI, nl1, .inl (fun k => iI (sa1 k)))), (s4, .inl (cI, nl1, .inl (fun k => iI (za1 k)))), (wb, .inr (0, [.int (iI (((65536 : Nat) : Int))), .ref wq, .int (iI (((0 : Nat) : Int)))])), (wq, .inl (cB, wl, .inl (wf)))] := hD.sub [0, 1, 2, 6, 3, 4, 7, 5] (by decide) rfl
      refine lv_iload_n hx hb dX2_cut_48 rfl (lv_at hl 0 rfl) ?_
      refine W.widen (k := 400 + m1) (n := 8192 + m2) (by omega) (by omega) ?_
      exact W.iret (v := iI (V.1)) hx hb hr (fun t ht hW => ⟨⟨iI (V.1), (l1, n1, n, f, s3, s4, nl1, 0, sa1, za1, wq, wl, 0, wf), rfl, ⟨by rw [if_pos (by omega)], hl1, gz1, hfit, hc, hn1, Nat.zero_le _, hwfit, Nat.zero_le _, hwl, Or.inl ⟨by omega, rfl⟩, fun _ => ⟨rfl, rfl, rfl⟩, fun z => by omega⟩, by rw [ht]; exact hP, va_K.moved hW.alike hK, hD⟩, hS.F ht⟩) hS.2.2 dX2_cut_49
  · refine lv_aload_n hx hb dX2_cut_25 rfl (lv_at hl 0 rfl) ?_
    have hZ0 : (zCut (bA f n) n) = zCount (bA f n) n := if_pos (by omega)
    obtain ⟨V, hV⟩ : ∃ V, V = (zCut (bA f n) n) := ⟨_, rfl⟩
    have gV := zCut_rg f n
    rw [← hV] at gV hroom ⊢
    refine vx_Vi (As := []) (rest := []) (wr := [(wb, .inr (0, [.int (iI (((65536 : Nat) : Int))), .ref wq, .int (iI (((0 : Nat) : Int)))])), (wq, .inl (cB, wl, .inl (wf)))]) (ci := 2) (q0 := 0) [0, 1, 2, 3, 4, 5] [6, 7] ⟨hx, hb, hml, hown, hts⟩ (c_X2_scanCounted l dC dI cB cI _ h tp ip wd iq 65536 il n f ln hc hn hln wb s1 s2 nl sa za hwn) (cwV 0 hts (gd_V tw_162 tw_164 tw_0 tw_19 tw_165) rfl rfl rfl (by decide +kernel) ⟨Nat.le_of_ble_eq_true rfl, Nat.le_of_ble_eq_true rfl⟩) hK hP hD hS hA rfl rfl rfl rfl (by decide) rfl rfl rfl rfl hl.1 rfl (Nat.le_of_ble_eq_true rfl) dX2_cut_26 ⟨by show 0 + 400 ≤ 400 + m1; omega, by show 0 + 8192 ≤ 8192 + m2; omega⟩ (fun r u H locs hw hP hD hS => ?_)
    obtain ⟨l1, n1, s3, s4, nl1, cnt1, sa1, za1⟩ := u
    try dsimp only at hw hP hD
    rw [← hZ0, ← hV] at hw
    obtain ⟨rfl, hl1, gz1, hn1, hc1, hx1⟩ := hw
    have hP : va_P (dC, dI) vwCl [(h, .inr (2, [.ref tp, .ref ip, .ref wd, .int (iI (l1)), .int (iI (n1))])), (ip, .inr (0, [.int (iI (((65536 : Nat) : Int))), .ref iq, .int (iI ((n : Int)))])), (iq, .inl (cB, il, .inl (f))), (wd, .inr (1, [.ref wb, .ref s3, .ref s4, .int (iI ((cnt1 : Int)))])), (s3, .inl (cI, nl1, .inl (fun k => iI (sa1 k)))), (s4, .inl (cI, nl1, .inl (fun k => iI (za1 k)))), (wb, .inr (0, [.int (iI (((65536 : Nat) : Int))), .ref wq, .int (iI (((0 : Nat) : Int)))])), (wq, .inl (cB, wl, .inl (wf)))] H := hP.sub [2, 3, 4, 5, 6, 7, 0, 1] rfl
    have hD : va_D A [(h, .inr (2, [.ref tp, .ref ip, .ref wd, .int (iI (l1)), .int (iI (n1))])), (ip, .inr (0, [.int (iI (((65536 : Nat) : Int))), .ref iq, .int (iI ((n : Int)))])), (iq, .inl (cB, il, .inl (f))), (wd, .inr (1, [.ref wb, .ref s3, .ref s4, .int (iI ((cnt1 : Int)))])), (s3, .inl (cI, nl1, .inl (fun k => iI (sa1 k)))), (s4, .inl (cI, nl1, .inl (fun k => iI (za1 k)))), (wb, .inr (0, [.int (iI (((65536 : Nat) : Int))), .ref wq, .int (iI (((0 : Nat) : Int)))])), (wq, .inl (cB, wl, .inl (wf)))] := hD.sub [2, 3, 4, 5, 6, 7, 0, 1] (by decide) rfl
    refine W.widen (k := 400) (n := 8192) (by omega) (by omega) ?_
    refine lv_goto (tgt := 36) hx hb dX2_cut_29 (by decide) ?_
    refine lv_istore_n (lv' := [(1, .int (iI (V.1))), (0, .ref h)]) hx hb dX2_cut_36 rfl hl (by decide) rfl (fun ls hl => ?_)
    refine lv_iload_n hx hb dX2_cut_37 rfl (lv_at hl 0 rfl) ?_
    refine lx_if_ge (a := V.1) (tgt := 50) hx hb dX2_cut_38 (by decide) (by omega) (fun cq3 => ?_) (fun cq3 => ?_)
    · refine lv_aload_n hx hb dX2_cut_50 rfl (lv_at hl 1 rfl) ?_
      refine va_get (D := (dC, dI)) (ci := 2) (v := .ref wd) (C := "RequestCutter") (T := TX2) (N := 5) hx hb hts (fun w h => List.mem_cons_of_mem _ (inX2 w h)) hown hK hP 0 rfl rfl 2 (by decide) (hts _ (List.mem_cons_of_mem _ tw_77)) (fun _ h9 => h9) rfl dX2_cut_51 ?_
      refine lv_aload_n hx hb dX2_cut_54 rfl (lv_at hl 1 rfl) ?_
      refine va_get (D := (dC, dI)) (ci := 2) (v := .ref ip) (C := "RequestCutter") (T := TX2) (N := 5) hx hb hts (fun w h => List.mem_cons_of_mem _ (inX2 w h)) hown hK hP 0 rfl rfl 1 (by decide) (hts _ (List.mem_cons_of_mem _ tw_76)) (fun _ h9 => h9) rfl dX2_cut_55 ?_
      refine lv_iload_n hx hb dX2_cut_58 rfl (lv_at hl 0 rfl) ?_
      obtain ⟨x, hVx⟩ : ∃ x : Nat, V.1 = (x : Int) := ⟨V.1.toNat, by omega⟩
      have hxt : V.1.toNat = x := by omega
      rw [hxt] at hroom
      refine lx_top (x2 := iI (x : Int)) (congrArg iI hVx) ?_
      refine vx_Vv (As := [.ref ip, .int (iI ((x : Int)))]) (rest := []) (wr := [(h, .inr (2, [.ref tp, .ref ip, .ref wd, .int (iI (l1)), .int (iI (n1))])), (s3, .inl (cI, nl1, .inl (fun k => iI (sa1 k)))), (s4, .inl (cI, nl1, .inl (fun k => iI (za1 k))))]) (ci := 1) (q0 := 0) [3, 6, 7, 1, 2] [0, 4, 5] ⟨hx, hb, hml, hown, hts⟩ (c_X1_keepBytes l dC dI cB cI _ wd wb s3 s4 cnt1 wq 65536 wl 0 wf (Nat.zero_le _) hwl (by omega) hwl hwfit ip iq 65536 il n f hc hn (by omega) hfit x (by omega) (by omega) m1 m2 (fun z => by have q := hroom (by omega); rw [Nat.zero_add]; exact q)) (cwV 2 hts (gd_V tw_217 tw_218 tw_219 tw_21 tw_220) rfl rfl rfl (by decide +kernel) ⟨Nat.le_of_ble_eq_true rfl, Nat.le_of_ble_eq_true rfl⟩) hK hP hD hS hA rfl rfl rfl rfl (by decide) rfl rfl rfl rfl hl.1 rfl (Nat.le_of_ble_eq_true rfl) dX2_cut_59 ⟨by show 400 + m1 ≤ 400 + m1; omega, by show 8192 + m2 ≤ 8192 + m2; omega⟩ (fun u H locs hw hP hD hS => ?_)
      obtain ⟨q1, wl1, wc1, wf1⟩ := u
      try dsimp only at hw hP hD
      obtain ⟨hwfit1, hwl1, hwl2, hwc1, hwc2, -, hwf1⟩ := hw
      have hP : va_P (dC, dI) vwCl [(h, .inr (2, [.ref tp, .ref ip, .ref wd, .int (iI (l1)), .int (iI (n1))])), (ip, .inr (0, [.int (iI (((65536 : Nat) : Int))), .ref iq, .int (iI ((n : Int)))])), (iq, .inl (cB, il, .inl (f))), (wd, .inr (1, [.ref wb, .ref s3, .ref s4, .int (iI ((cnt1 : Int)))])), (s3, .inl (cI, nl1, .inl (fun k => iI (sa1 k)))), (s4, .inl (cI, nl1, .inl (fun k => iI (za1 k)))), (wb, .inr (0, [.int (iI (((65536 : Nat) : Int))), .ref q1, .int (iI ((wc1 : Int)))])), (q1, .inl (cB, wl1, .inl (wf1)))] H := hP.sub [0, 6, 7, 3, 1, 2, 4, 5] rfl
      have hD : va_D A [(h, .inr (2, [.ref tp, .ref ip, .ref wd, .int (iI (l1)), .int (iI (n1))])), (ip, .inr (0, [.int (iI (((65536 : Nat) : Int))), .ref iq, .int (iI ((n : Int)))])), (iq, .inl (cB, il, .inl (f))), (wd, .inr (1, [.ref wb, .ref s3, .ref s4, .int (iI ((cnt1 : Int)))])), (s3, .inl (cI, nl1, .inl (fun k => iI (sa1 k)))), (s4, .inl (cI, nl1, .inl (fun k => iI (za1 k)))), (wb, .inr (0, [.int (iI (((65536 : Nat) : Int))), .ref q1, .int (iI ((wc1 : Int)))])), (q1, .inl (cB, wl1, .inl (wf1)))] := hD.sub [0, 6, 7, 3, 1, 2, 4, 5] (by decide) rfl
      rw [Nat.zero_add] at hwl1 hwc1 hwc2
      refine lv_aload_n hx hb dX2_cut_62 rfl (lv_at hl 1 rfl) ?_
      refine va_get (D := (dC, dI)) (ci := 2) (v := .ref ip) (C := "RequestCutter") (T := TX2) (N := 5) hx hb hts (fun w h => List.mem_cons_of_mem _ (inX2 w h)) hown hK hP 0 rfl rfl 1 (by decide) (hts _ (List.mem_cons_of_mem _ tw_76)) (fun _ h9 => h9) rfl dX2_cut_63 ?_
      refine lv_iload_n hx hb dX2_cut_66 rfl (lv_at hl 0 rfl) ?_
      refine lx_top (x2 := iI (x : Int)) (congrArg iI hVx) ?_
      refine vx_Vi (As := [.int (iI ((x : Int)))]) (rest := []) (wr := [(h, .inr (2, [.ref tp, .ref ip, .ref wd, .int (iI (l1)), .int (iI (n1))])), (wd, .inr (1, [.ref wb, .ref s3, .ref s4, .int (iI ((cnt1 : Int)))])), (s3, .inl (cI, nl1, .inl (fun k => iI (sa1 k)))), (s4, .inl (cI, nl1, .inl (fun k => iI (za1 k)))), (wb, .inr (0, [.int (iI (((65536 : Nat) : Int))), .ref q1, .int (iI ((wc1 : Int)))])), (q1, .inl (cB, wl1, .inl (wf1)))]) (ci := 0) (q0 := 0) [1, 2] [0, 3, 4, 5, 6, 7] ⟨hx, hb, hml, hown, hts⟩ (c_X0_removeFirst l dC dI cB cI _ ip iq 65536 il n f hc hn (by omega) hfit (x : Int) (by omega)) (cwV 1 hts (gd_V tw_222 tw_223 tw_224 tw_20 tw_225) rfl rfl rfl (by decide +kernel) ⟨Nat.le_of_ble_eq_true rfl, Nat.le_of_ble_eq_true rfl⟩) hK hP hD hS hA rfl rfl rfl rfl (by decide) rfl rfl rfl rfl hl.1 rfl (Nat.le_of_ble_eq_true rfl) dX2_cut_67 ⟨Nat.le_refl _, Nat.le_refl _⟩ (fun r u H locs hw hP hD hS => ?_)
      obtain ⟨f2, n2⟩ := u
      try dsimp only at hw hP hD
      obtain ⟨hr2, hfit2, hok2, -⟩ := hw
      have hP : va_P (dC, dI) vwCl [(h, .inr (2, [.ref tp, .ref ip, .ref wd, .int (iI (l1)), .int (iI (n1))])), (ip, .inr (0, [.int (iI (((65536 : Nat) : Int))), .ref iq, .int (iI ((n2 : Int)))])), (iq, .inl (cB, il, .inl (f2))), (wd, .inr (1, [.ref wb, .ref s3, .ref s4, .int (iI ((cnt1 : Int)))])), (s3, .inl (cI, nl1, .inl (fun k => iI (sa1 k)))), (s4, .inl (cI, nl1, .inl (fun k => iI (za1 k)))), (wb, .inr (0, [.int (iI (((65536 : Nat) : Int))), .ref q1, .int (iI ((wc1 : Int)))])), (q1, .inl (cB, wl1, .inl (wf1)))] H := hP.sub [0, 6, 7, 1, 2, 3, 4, 5] rfl
      have hD : va_D A [(h, .inr (2, [.ref tp, .ref ip, .ref wd, .int (iI (l1)), .int (iI (n1))])), (ip, .inr (0, [.int (iI (((65536 : Nat) : Int))), .ref iq, .int (iI ((n2 : Int)))])), (iq, .inl (cB, il, .inl (f2))), (wd, .inr (1, [.ref wb, .ref s3, .ref s4, .int (iI ((cnt1 : Int)))])), (s3, .inl (cI, nl1, .inl (fun k => iI (sa1 k)))), (s4, .inl (cI, nl1, .inl (fun k => iI (za1 k)))), (wb, .inr (0, [.int (iI (((65536 : Nat) : Int))), .ref q1, .int (iI ((wc1 : Int)))])), (q1, .inl (cB, wl1, .inl (wf1)))] := hD.sub [0, 6, 7, 1, 2, 3, 4, 5] (by decide) rfl
      obtain ⟨hn2, hf2⟩ := hok2 (by omega)
      have hxt2 : (x : Int).toNat = x := by omega
      rw [hxt2] at hn2 hf2
      obtain ⟨b1, hb1, rfl⟩ := bo_of hr2
      refine lv_pop hx hb dX2_cut_70 rfl ?_
      refine lv_aload_n hx hb dX2_cut_71 rfl (lv_at hl 1 rfl) ?_
      refine va_get (D := (dC, dI)) (ci := 2) (v := .ref wd) (C := "RequestCutter") (T := TX2) (N := 5) hx hb hts (fun w h => List.mem_cons_of_mem _ (inX2 w h)) hown hK hP 0 rfl rfl 2 (by decide) (hts _ (List.mem_cons_of_mem _ tw_77)) (fun _ h9 => h9) rfl dX2_cut_72 ?_
      refine vx_Vs (As := []) (rest := []) (ci := 1) (q0 := 0) [3] ⟨hx, hb, hml, hown, hts⟩ (c_X1_count l dC dI cB cI wd wb s3 s4 cnt1) (cwV 0 hts (gd_V tw_226 tw_227 tw_228 tw_21 tw_229) rfl rfl rfl (by decide +kernel) ⟨Nat.le_of_ble_eq_true rfl, Nat.le_of_ble_eq_true rfl⟩) hK hP rfl rfl rfl rfl rfl hl.1 rfl (Nat.le_of_ble_eq_true rfl) dX2_cut_75 ⟨Nat.le_refl _, Nat.le_refl _⟩ (fun r hr => ?_)
      obtain rfl : r = iI ((cnt1 : Int)) := hr
      have hw1 := hx1 (by omega)
      exact W.iret (v := iI ((cnt1 : Int))) hx hb hr (fun t ht hW => ⟨⟨iI ((cnt1 : Int)), (l1, n1, n2, f2, s3, s4, nl1, cnt1, sa1, za1, q1, wl1, wc1, wf1), rfl, ⟨by rw [if_neg (by omega), hw1.1], hl1, gz1, hfit2, by show n2 ≤ il; omega, hn1, hc1, hwfit1, by show wc1 ≤ wl1; omega, hwl2, (by show (_ ∧ wl1 = _) ∨ (_ ∧ wl1 = _); rw [hxt]; by_cases q : wl < x; exact Or.inr ⟨by omega, by rw [hwl1, if_pos q]⟩; exact Or.inl ⟨by omega, by rw [hwl1, if_neg q]⟩), fun z => by omega, fun z => by rw [hxt]; exact ⟨hw1, hn2, hf2, hwc1, fun j hj => by have := hwf1 j hj; rw [Nat.zero_add] at this; exact this⟩⟩, by rw [ht]; exact hP, va_K.moved hW.alike hK, hD⟩, hS.F ht⟩) hS.2.2 dX2_cut_78
    · refine lv_aload_n hx hb dX2_cut_41 rfl (lv_at hl 1 rfl) ?_
      refine va_get (D := (dC, dI)) (ci := 2) (v := .ref wd) (C := "RequestCutter") (T := TX2) (N := 5) hx hb hts (fun w h => List.mem_cons_of_mem _ (inX2 w h)) hown hK hP 0 rfl rfl 2 (by decide) (hts _ (List.mem_cons_of_mem _ tw_77)) (fun _ h9 => h9) rfl dX2_cut_42 ?_
      refine vx_Vv (As := []) (rest := []) (wr := [(h, .inr (2, [.ref tp, .ref ip, .ref wd, .int (iI (l1)), .int (iI (n1))])), (ip, .inr (0, [.int (iI (((65536 : Nat) : Int))), .ref iq, .int (iI ((n : Int)))])), (iq, .inl (cB, il, .inl (f))), (s3, .inl (cI, nl1, .inl (fun k => iI (sa1 k)))), (s4, .inl (cI, nl1, .inl (fun k => iI (za1 k)))), (wq, .inl (cB, wl, .inl (wf)))]) (ci := 1) (q0 := 0) [3, 6] [0, 1, 2, 4, 5, 7] ⟨hx, hb, hml, hown, hts⟩ (c_X1_clear l dC dI cB cI _ wd wb s3 s4 (cnt1) wq 65536 ((0 : Nat))) (cwV 0 hts (gd_V tw_153 tw_154 tw_155 tw_21 tw_156) rfl rfl rfl (by decide +kernel) ⟨Nat.le_of_ble_eq_true rfl, Nat.le_of_ble_eq_true rfl⟩) hK hP hD hS hA rfl rfl rfl rfl (by decide) rfl rfl rfl rfl hl.1 rfl (Nat.le_of_ble_eq_true rfl) dX2_cut_45 ⟨by show 400 + 0 ≤ 400 + m1; omega, by show 8192 + 0 ≤ 8192 + m2; omega⟩ (fun u H locs hw hP hD hS => ?_)
      obtain - := u
      try dsimp only at hw hP hD
      obtain - := hw
      have hP : va_P (dC, dI) vwCl [(h, .inr (2, [.ref tp, .ref ip, .ref wd, .int (iI (l1)), .int (iI (n1))])), (ip, .inr (0, [.int (iI (((65536 : Nat) : Int))), .ref iq, .int (iI ((n : Int)))])), (iq, .inl (cB, il, .inl (f))), (wd, .inr (1, [.ref wb, .ref s3, .ref s4, .int (iI (((0 : Nat) : Int)))])), (s3, .inl (cI, nl1, .inl (fun k => iI (sa1 k)))), (s4, .inl (cI, nl1, .inl (fun k => iI (za1 k)))), (wb, .inr (0, [.int (iI (((65536 : Nat) : Int))), .ref wq, .int (iI (((0 : Nat) : Int)))])), (wq, .inl (cB, wl, .inl (wf)))] H := hP.sub [0, 1, 2, 6, 3, 4, 7, 5] rfl
      have hD : va_D A [(h, .inr (2, [.ref tp, .ref ip, .ref wd, .int (iI (l1)), .int (iI (n1))])), (ip, .inr (0, [.int (iI (((65536 : Nat) : Int))), .ref iq, .int (iI ((n : Int)))])), (iq, .inl (cB, il, .inl (f))), (wd, .inr (1, [.ref wb, .ref s3, .ref s4, .int (iI (((0 : Nat) : Int)))])), (s3, .inl (cI, nl1, .inl (fun k => iI (sa1 k)))), (s4, .inl (cI, nl1, .inl (fun k => iI (za1 k)))), (wb, .inr (0, [.int (iI (((65536 : Nat) : Int))), .ref wq, .int (iI (((0 : Nat) : Int)))])), (wq, .inl (cB, wl, .inl (wf)))] := hD.sub [0, 1, 2, 6, 3, 4, 7, 5] (by decide) rfl
      refine lv_iload_n hx hb dX2_cut_48 rfl (lv_at hl 0 rfl) ?_
      refine W.widen (k := 400 + m1) (n := 8192 + m2) (by omega) (by omega) ?_
      exact W.iret (v := iI (V.1)) hx hb hr (fun t ht hW => ⟨⟨iI (V.1), (l1, n1, n, f, s3, s4, nl1, 0, sa1, za1, wq, wl, 0, wf), rfl, ⟨by rw [if_pos (by omega)], hl1, gz1, hfit, hc, hn1, Nat.zero_le _, hwfit, Nat.zero_le _, hwl, Or.inl ⟨by omega, rfl⟩, fun _ => ⟨rfl, rfl, rfl⟩, fun z => by omega⟩, by rw [ht]; exact hP, va_K.moved hW.alike hK, hD⟩, hS.F ht⟩) hS.2.2 dX2_cut_49
set_option maxHeartbeats 4000000 in
set_option maxRecDepth 100000 in
/-- RequestCutter() -/
theorem c_X2_init (l : Launch) (dC : Nat → ClassId) (dI : Nat → Nat → Nat) (cB cI : ClassId) (sz : Nat) (h : Nat) : Met l yX2_init wX2_init ({ frames := 3, cells := 9, slots := 221, locals := 62 }) (va_Pc [.ref h] (vx_B (dC, dI) vwCl [(cB, .byte), (cI, .int)] [(h, .inr (2, [.null, .null, .null, .int (iI (0)), .int (iI (0))]))] sz)) (va_Qv (fun (u : Nat × Nat × Nat × Nat × Nat × Nat × Nat × Nat × Nat) => True) (fun (u : Nat × Nat × Nat × Nat × Nat × Nat × Nat × Nat × Nat) => vx_E (dC, dI) vwCl [(cB, .byte), (cI, .int)] (va_A [(h, .inr (2, [.null, .null, .null, .int (iI (0)), .int (iI (0))]))] sz) [(h, .inr (2, [.ref u.1, .ref u.2.2.1, .ref u.2.2.2.2.1, .int (iI (0)), .int (iI (0))])), (u.1, .inr (0, [.int (iI (((10240 : Nat) : Int))), .ref u.2.1, .int (iI (0))])), (u.2.1, .inl (cB, 64, .inl (fun _ => 0))), (u.2.2.1, .inr (0, [.int (iI (((65536 : Nat) : Int))), .ref u.2.2.2.1, .int (iI (0))])), (u.2.2.2.1, .inl (cB, 64, .inl (fun _ => 0))), (u.2.2.2.2.1, .inr (1, [.ref u.2.2.2.2.2.1, .ref u.2.2.2.2.2.2.2.1, .ref u.2.2.2.2.2.2.2.2, .int (iI (0))])), (u.2.2.2.2.2.2.2.1, .inl (cI, 8, .inl (fun _ => 0))), (u.2.2.2.2.2.2.2.2, .inl (cI, 8, .inl (fun _ => 0))), (u.2.2.2.2.2.1, .inr (0, [.int (iI (((65536 : Nat) : Int))), .ref u.2.2.2.2.2.2.1, .int (iI (0))])), (u.2.2.2.2.2.2.1, .inl (cB, 64, .inl (fun _ => 0)))]) (va_A [(h, .inr (2, [.null, .null, .null, .int (iI (0)), .int (iI (0))]))] sz)) (9) (221) (va_A [(h, .inr (2, [.null, .null, .null, .int (iI (0)), .int (iI (0))]))] sz) := by
  refine Met.ofW (cc := cX2_init) (maxL := 1) (ret := none) (by decide) rfl ?_
  intro p e s m args below meth c s₁ B hml hv
  obtain ⟨rfl, hsz, hP, hK, hD0⟩ := hv
  have hx := B.exec
  have hb := B.bytes
  have hr := B.returns
  have hts := atoms_spec (ws := wX2_init) B.pre
  have hown : s.vm.findClass "RequestCutter" = some m.cls := findClass_of_methodNamed B.named
  have hlocks := B.notSynchronized
  have hin : meth.name = "<init>" := (name_of_methodNamed B.named B.method).1
  subst hsz
  have hD := hD0.self (sz := s.heap.size)
  generalize hAe : va_A [(h, .inr (2, [.null, .null, .null, .int (iI (0)), .int (iI (0))]))] s.heap.size = A at hD ⊢
  have hA : ∀ q : Nat, s.heap.size ≤ q → A q := fun q h => by rw [← hAe]; exact Or.inr h
  have hS : va_S A s.heap s.heap [] := va_S.rf
  have hP : va_P (dC, dI) vwCl [(h, .inr (2, [.null, .null, .null, .int (iI (0)), .int (iI (0))]))] s.heap := hP
  have hl := lv_entry ([.ref h]) (n := 1) (Nat.le_of_ble_eq_true rfl)
  rw [lg_entry_eq]
  generalize (lg_sl ([.ref h]) ++ List.replicate (1 - (lg_sl ([.ref h])).length) Slot.unset).toArray = ls at hl ⊢
  have hl : lv_has ls 1 [(0, .ref h)] := hl
  refine lv_aload_n hx hb dX2_init_0 rfl (lv_at hl 0 rfl) ?_
  refine W.objInit hx hb hown (hts _ (List.mem_cons_of_mem _ tw_31)) (hts _ (List.mem_cons_of_mem _ tw_32)) (hts _ (List.mem_cons_of_mem _ tw_33)) rfl (by rw [hml]; exact hl.1) rfl dX2_init_1 (Nat.le_of_ble_eq_true rfl) (Nat.le_of_ble_eq_true rfl) ?_
  refine W.eq (g2 := F0 m 4 ls []) rfl ?_
  refine lv_aload_n hx hb dX2_init_4 rfl (lv_at hl 0 rfl) ?_
  refine va_new (ci := 0) (fs := [.int (iI (0)), .null, .int (iI (0))]) (C := "RequestCutter$ByteRow") (T := TX0) (N := 3) hx hb hts (fun w h => List.mem_cons_of_mem _ (inX0 w h)) tyX0 tyX0_ok hown (hts _ (List.mem_cons_of_mem _ tw_34)) (hts _ (List.mem_cons_of_mem _ tw_35)) (hts _ (List.mem_cons_of_mem _ tw_20)) hK hP hD hS hA rfl (fun j hj => by rcases (show j = 0 ∨ j = 1 ∨ j = 2 by omega) with rfl | rfl | rfl <;> rfl) (by show 0 + 1 ≤ 9; omega) (by show 0 + 3 ≤ 221; omega) dX2_init_5 (fun q1 H hP hD hS => ?_)
  have hP : va_P (dC, dI) vwCl [(h, .inr (2, [.null, .null, .null, .int (iI (0)), .int (iI (0))])), (q1, .inr (0, [.int (iI (0)), .null, .int (iI (0))]))] H := hP
  have hD : va_D A [(h, .inr (2, [.null, .null, .null, .int (iI (0)), .int (iI (0))])), (q1, .inr (0, [.int (iI (0)), .null, .int (iI (0))]))] := hD
  refine lv_dup hx hb dX2_init_8 rfl ?_
  refine lv_sipush (v := iI (10240)) hx hb dX2_init_9 (by decide) ?_
  refine vx_Iv (As := [.int (iI (((10240 : Nat) : Int)))]) (rest := [.ref q1, .ref h]) (wr := [(h, .inr (2, [.null, .null, .null, .int (iI (0)), .int (iI (0))]))]) [1] [0] ⟨hx, hb, hml, hown, hts⟩ (c_X0_init l dC dI cB cI _ q1 10240 (by omega)) (cwI 1 hts (gd_I tw_38) rfl rfl rfl (hts _ (List.mem_cons_of_mem _ tw_20)) (hts _ (List.mem_cons_of_mem _ tw_36)) (hts _ (List.mem_cons_of_mem _ tw_37)) rfl (by decide +kernel) ⟨Nat.le_of_ble_eq_true rfl, Nat.le_of_ble_eq_true rfl⟩) hK hP hD hS hA rfl rfl rfl rfl (by decide) rfl hl.1 rfl (Nat.le_of_ble_eq_true rfl) dX2_init_12 ⟨by show 0 + 1 + 1 ≤ 9; omega, by show 0 + 3 + 64 ≤ 221; omega⟩ (fun u H locs hw hP hD hS => ?_)
  obtain ⟨q2, rfl⟩ : ∃ z, z = u := ⟨_, rfl⟩
  try dsimp only at hw hP hD
  obtain - := hw
  have hP : va_P (dC, dI) vwCl [(h, .inr (2, [.null, .null, .null, .int (iI (0)), .int (iI (0))])), (q1, .inr (0, [.int (iI (((10240 : Nat) : Int))), .ref q2, .int (iI (0))])), (q2, .inl (cB, 64, .inl (fun _ => 0)))] H := hP.sub [0, 1, 2] rfl
  have hD : va_D A [(h, .inr (2, [.null, .null, .null, .int (iI (0)), .int (iI (0))])), (q1, .inr (0, [.int (iI (((10240 : Nat) : Int))), .ref q2, .int (iI (0))])), (q2, .inl (cB, 64, .inl (fun _ => 0)))] := hD.sub [0, 1, 2] (by decide) rfl
  refine W.widen (k := 2) (n := 67) (by omega) (by omega) ?_
  refine va_putF (D := (dC, dI)) (ci := 2) (v := .ref q1) (ty := .object "RequestCutter$ByteRow") (C := "RequestCutter") (T := TX2) (N := 5) hx hb hts (fun w h => List.mem_cons_of_mem _ (inX2 w h)) tyX2 tyX2_ok nmX2 hown hK hP hD hS 0 rfl rfl 0 (by decide) (hts _ (List.mem_cons_of_mem _ tw_75)) (fun _ h9 => h9) rfl hin rfl (by decide +kernel) rfl rfl (Nat.le_of_ble_eq_true rfl) dX2_init_15 (fun H locs hP hD hS => ?_)
  have hP : va_P (dC, dI) vwCl [(h, .inr (2, [.ref q1, .null, .null, .int (iI (0)), .int (iI (0))])), (q1, .inr (0, [.int (iI (((10240 : Nat) : Int))), .ref q2, .int (iI (0))])), (q2, .inl (cB, 64, .inl (fun _ => 0)))] H := hP
  have hD : va_D A [(h, .inr (2, [.ref q1, .null, .null, .int (iI (0)), .int (iI (0))])), (q1, .inr (0, [.int (iI (((10240 : Nat) : Int))), .ref q2, .int (iI (0))])), (q2, .inl (cB, 64, .inl (fun _ => 0)))] := hD
  refine lv_aload_n hx hb dX2_init_18 rfl (lv_at hl 0 rfl) ?_
  refine va_new (ci := 0) (fs := [.int (iI (0)), .null, .int (iI (0))]) (C := "RequestCutter$ByteRow") (T := TX0) (N := 3) hx hb hts (fun w h => List.mem_cons_of_mem _ (inX0 w h)) tyX0 tyX0_ok hown (hts _ (List.mem_cons_of_mem _ tw_34)) (hts _ (List.mem_cons_of_mem _ tw_35)) (hts _ (List.mem_cons_of_mem _ tw_20)) hK hP hD hS hA rfl (fun j hj => by rcases (show j = 0 ∨ j = 1 ∨ j = 2 by omega) with rfl | rfl | rfl <;> rfl) (by show 2 + 1 ≤ 9; omega) (by show 67 + 3 ≤ 221; omega) dX2_init_19 (fun q3 H hP hD hS => ?_)
  have hP : va_P (dC, dI) vwCl [(h, .inr (2, [.ref q1, .null, .null, .int (iI (0)), .int (iI (0))])), (q1, .inr (0, [.int (iI (((10240 : Nat) : Int))), .ref q2, .int (iI (0))])), (q2, .inl (cB, 64, .inl (fun _ => 0))), (q3, .inr (0, [.int (iI (0)), .null, .int (iI (0))]))] H := hP
  have hD : va_D A [(h, .inr (2, [.ref q1, .null, .null, .int (iI (0)), .int (iI (0))])), (q1, .inr (0, [.int (iI (((10240 : Nat) : Int))), .ref q2, .int (iI (0))])), (q2, .inl (cB, 64, .inl (fun _ => 0))), (q3, .inr (0, [.int (iI (0)), .null, .int (iI (0))]))] := hD
  refine lv_dup hx hb dX2_init_22 rfl ?_
  refine lx_ldc (z := 65536) (v := 65536) hx hb hown (hts _ (List.mem_cons_of_mem _ tw_51)) (by decide) dX2_init_23 ?_
  refine vx_Iv (As := [.int (iI (((65536 : Nat) : Int)))]) (rest := [.ref q3, .ref h]) (wr := [(h, .inr (2, [.ref q1, .null, .null, .int (iI (0)), .int (iI (0))])), (q1, .inr (0, [.int (iI (((10240 : Nat) : Int))), .ref q2, .int (iI (0))])), (q2, .inl (cB, 64, .inl (fun _ => 0)))]) [3] [0, 1, 2] ⟨hx, hb, hml, hown, hts⟩ (c_X0_init l dC dI cB cI _ q3 65536 (by omega)) (cwI 1 hts (gd_I tw_38) rfl rfl rfl (hts _ (List.mem_cons_of_mem _ tw_20)) (hts _ (List.mem_cons_of_mem _ tw_36)) (hts _ (List.mem_cons_of_mem _ tw_37)) rfl (by decide +kernel) ⟨Nat.le_of_ble_eq_true rfl, Nat.le_of_ble_eq_true rfl⟩) hK hP hD hS hA rfl rfl rfl rfl (by decide) rfl hl.1 rfl (Nat.le_of_ble_eq_true rfl) dX2_init_25 ⟨by show 2 + 1 + 1 ≤ 9; omega, by show 67 + 3 + 64 ≤ 221; omega⟩ (fun u H locs hw hP hD hS => ?_)
  obtain ⟨q4, rfl⟩ : ∃ z, z = u := ⟨_, rfl⟩
  try dsimp only at hw hP hD
  obtain - := hw
  have hP : va_P (dC, dI) vwCl [(h, .inr (2, [.ref q1, .null, .null, .int (iI (0)), .int (iI (0))])), (q1, .inr (0, [.int (iI (((10240 : Nat) : Int))), .ref q2, .int (iI (0))])), (q2, .inl (cB, 64, .inl (fun _ => 0))), (q3, .inr (0, [.int (iI (((65536 : Nat) : Int))), .ref q4, .int (iI (0))])), (q4, .inl (cB, 64, .inl (fun _ => 0)))] H := hP.sub [0, 1, 2, 3, 4] rfl
  have hD : va_D A [(h, .inr (2, [.ref q1, .null, .null, .int (iI (0)), .int (iI (0))])), (q1, .inr (0, [.int (iI (((10240 : Nat) : Int))), .ref q2, .int (iI (0))])), (q2, .inl (cB, 64, .inl (fun _ => 0))), (q3, .inr (0, [.int (iI (((65536 : Nat) : Int))), .ref q4, .int (iI (0))])), (q4, .inl (cB, 64, .inl (fun _ => 0)))] := hD.sub [0, 1, 2, 3, 4] (by decide) rfl
  refine W.widen (k := 4) (n := 134) (by omega) (by omega) ?_
  refine va_putF (D := (dC, dI)) (ci := 2) (v := .ref q3) (ty := .object "RequestCutter$ByteRow") (C := "RequestCutter") (T := TX2) (N := 5) hx hb hts (fun w h => List.mem_cons_of_mem _ (inX2 w h)) tyX2 tyX2_ok nmX2 hown hK hP hD hS 0 rfl rfl 1 (by decide) (hts _ (List.mem_cons_of_mem _ tw_76)) (fun _ h9 => h9) rfl hin rfl (by decide +kernel) rfl rfl (Nat.le_of_ble_eq_true rfl) dX2_init_28 (fun H locs hP hD hS => ?_)
  have hP : va_P (dC, dI) vwCl [(h, .inr (2, [.ref q1, .ref q3, .null, .int (iI (0)), .int (iI (0))])), (q1, .inr (0, [.int (iI (((10240 : Nat) : Int))), .ref q2, .int (iI (0))])), (q2, .inl (cB, 64, .inl (fun _ => 0))), (q3, .inr (0, [.int (iI (((65536 : Nat) : Int))), .ref q4, .int (iI (0))])), (q4, .inl (cB, 64, .inl (fun _ => 0)))] H := hP
  have hD : va_D A [(h, .inr (2, [.ref q1, .ref q3, .null, .int (iI (0)), .int (iI (0))])), (q1, .inr (0, [.int (iI (((10240 : Nat) : Int))), .ref q2, .int (iI (0))])), (q2, .inl (cB, 64, .inl (fun _ => 0))), (q3, .inr (0, [.int (iI (((65536 : Nat) : Int))), .ref q4, .int (iI (0))])), (q4, .inl (cB, 64, .inl (fun _ => 0)))] := hD
  refine lv_aload_n hx hb dX2_init_31 rfl (lv_at hl 0 rfl) ?_
  refine va_new (ci := 1) (fs := [.null, .null, .null, .int (iI (0))]) (C := "RequestCutter$WordRow") (T := TX1) (N := 4) hx hb hts (fun w h => List.mem_cons_of_mem _ (inX1 w h)) tyX1 tyX1_ok hown (hts _ (List.mem_cons_of_mem _ tw_52)) (hts _ (List.mem_cons_of_mem _ tw_53)) (hts _ (List.mem_cons_of_mem _ tw_21)) hK hP hD hS hA rfl (fun j hj => by rcases (show j = 0 ∨ j = 1 ∨ j = 2 ∨ j = 3 by omega) with rfl | rfl | rfl | rfl <;> rfl) (by show 4 + 1 ≤ 9; omega) (by show 134 + 4 ≤ 221; omega) dX2_init_32 (fun q5 H hP hD hS => ?_)
  have hP : va_P (dC, dI) vwCl [(h, .inr (2, [.ref q1, .ref q3, .null, .int (iI (0)), .int (iI (0))])), (q1, .inr (0, [.int (iI (((10240 : Nat) : Int))), .ref q2, .int (iI (0))])), (q2, .inl (cB, 64, .inl (fun _ => 0))), (q3, .inr (0, [.int (iI (((65536 : Nat) : Int))), .ref q4, .int (iI (0))])), (q4, .inl (cB, 64, .inl (fun _ => 0))), (q5, .inr (1, [.null, .null, .null, .int (iI (0))]))] H := hP
  have hD : va_D A [(h, .inr (2, [.ref q1, .ref q3, .null, .int (iI (0)), .int (iI (0))])), (q1, .inr (0, [.int (iI (((10240 : Nat) : Int))), .ref q2, .int (iI (0))])), (q2, .inl (cB, 64, .inl (fun _ => 0))), (q3, .inr (0, [.int (iI (((65536 : Nat) : Int))), .ref q4, .int (iI (0))])), (q4, .inl (cB, 64, .inl (fun _ => 0))), (q5, .inr (1, [.null, .null, .null, .int (iI (0))]))] := hD
  refine lv_dup hx hb dX2_init_35 rfl ?_
  refine vx_Iv (As := []) (rest := [.ref q5, .ref h]) (wr := [(h, .inr (2, [.ref q1, .ref q3, .null, .int (iI (0)), .int (iI (0))])), (q1, .inr (0, [.int (iI (((10240 : Nat) : Int))), .ref q2, .int (iI (0))])), (q2, .inl (cB, 64, .inl (fun _ => 0))), (q3, .inr (0, [.int (iI (((65536 : Nat) : Int))), .ref q4, .int (iI (0))])), (q4, .inl (cB, 64, .inl (fun _ => 0)))]) [5] [0, 1, 2, 3, 4] ⟨hx, hb, hml, hown, hts⟩ (c_X1_init l dC dI cB cI _ q5) (cwI 0 hts (gd_I tw_56) rfl rfl rfl (hts _ (List.mem_cons_of_mem _ tw_21)) (hts _ (List.mem_cons_of_mem _ tw_54)) (hts _ (List.mem_cons_of_mem _ tw_55)) rfl (by decide +kernel) ⟨Nat.le_of_ble_eq_true rfl, Nat.le_of_ble_eq_true rfl⟩) hK hP hD hS hA rfl rfl rfl rfl (by decide) rfl hl.1 rfl (Nat.le_of_ble_eq_true rfl) dX2_init_36 ⟨by show 4 + 1 + 4 ≤ 9; omega, by show 134 + 4 + 83 ≤ 221; omega⟩ (fun u H locs hw hP hD hS => ?_)
  obtain ⟨wb, wq, s1, s2⟩ := u
  try dsimp only at hw hP hD
  obtain - := hw
  have hP : va_P (dC, dI) vwCl [(h, .inr (2, [.ref q1, .ref q3, .null, .int (iI (0)), .int (iI (0))])), (q1, .inr (0, [.int (iI (((10240 : Nat) : Int))), .ref q2, .int (iI (0))])), (q2, .inl (cB, 64, .inl (fun _ => 0))), (q3, .inr (0, [.int (iI (((65536 : Nat) : Int))), .ref q4, .int (iI (0))])), (q4, .inl (cB, 64, .inl (fun _ => 0))), (q5, .inr (1, [.ref wb, .ref s1, .ref s2, .int (iI (0))])), (wb, .inr (0, [.int (iI (((65536 : Nat) : Int))), .ref wq, .int (iI (0))])), (wq, .inl (cB, 64, .inl (fun _ => 0))), (s1, .inl (cI, 8, .inl (fun _ => 0))), (s2, .inl (cI, 8, .inl (fun _ => 0)))] H := hP.sub [0, 1, 2, 3, 4, 5, 6, 7, 8, 9] rfl
  have hD : va_D A [(h, .inr (2, [.ref q1, .ref q3, .null, .int (iI (0)), .int (iI (0))])), (q1, .inr (0, [.int (iI (((10240 : Nat) : Int))), .ref q2, .int (iI (0))])), (q2, .inl (cB, 64, .inl (fun _ => 0))), (q3, .inr (0, [.int (iI (((65536 : Nat) : Int))), .ref q4, .int (iI (0))])), (q4, .inl (cB, 64, .inl (fun _ => 0))), (q5, .inr (1, [.ref wb, .ref s1, .ref s2, .int (iI (0))])), (wb, .inr (0, [.int (iI (((65536 : Nat) : Int))), .ref wq, .int (iI (0))])), (wq, .inl (cB, 64, .inl (fun _ => 0))), (s1, .inl (cI, 8, .inl (fun _ => 0))), (s2, .inl (cI, 8, .inl (fun _ => 0)))] := hD.sub [0, 1, 2, 3, 4, 5, 6, 7, 8, 9] (by decide) rfl
  refine W.widen (k := 9) (n := 221) (by omega) (by omega) ?_
  refine va_putF (D := (dC, dI)) (ci := 2) (v := .ref q5) (ty := .object "RequestCutter$WordRow") (C := "RequestCutter") (T := TX2) (N := 5) hx hb hts (fun w h => List.mem_cons_of_mem _ (inX2 w h)) tyX2 tyX2_ok nmX2 hown hK hP hD hS 0 rfl rfl 2 (by decide) (hts _ (List.mem_cons_of_mem _ tw_77)) (fun _ h9 => h9) rfl hin rfl (by decide +kernel) rfl rfl (Nat.le_of_ble_eq_true rfl) dX2_init_39 (fun H locs hP hD hS => ?_)
  have hP : va_P (dC, dI) vwCl [(h, .inr (2, [.ref q1, .ref q3, .ref q5, .int (iI (0)), .int (iI (0))])), (q1, .inr (0, [.int (iI (((10240 : Nat) : Int))), .ref q2, .int (iI (0))])), (q2, .inl (cB, 64, .inl (fun _ => 0))), (q3, .inr (0, [.int (iI (((65536 : Nat) : Int))), .ref q4, .int (iI (0))])), (q4, .inl (cB, 64, .inl (fun _ => 0))), (q5, .inr (1, [.ref wb, .ref s1, .ref s2, .int (iI (0))])), (wb, .inr (0, [.int (iI (((65536 : Nat) : Int))), .ref wq, .int (iI (0))])), (wq, .inl (cB, 64, .inl (fun _ => 0))), (s1, .inl (cI, 8, .inl (fun _ => 0))), (s2, .inl (cI, 8, .inl (fun _ => 0)))] H := hP
  have hD : va_D A [(h, .inr (2, [.ref q1, .ref q3, .ref q5, .int (iI (0)), .int (iI (0))])), (q1, .inr (0, [.int (iI (((10240 : Nat) : Int))), .ref q2, .int (iI (0))])), (q2, .inl (cB, 64, .inl (fun _ => 0))), (q3, .inr (0, [.int (iI (((65536 : Nat) : Int))), .ref q4, .int (iI (0))])), (q4, .inl (cB, 64, .inl (fun _ => 0))), (q5, .inr (1, [.ref wb, .ref s1, .ref s2, .int (iI (0))])), (wb, .inr (0, [.int (iI (((65536 : Nat) : Int))), .ref wq, .int (iI (0))])), (wq, .inl (cB, 64, .inl (fun _ => 0))), (s1, .inl (cI, 8, .inl (fun _ => 0))), (s2, .inl (cI, 8, .inl (fun _ => 0)))] := hD
  refine lv_aload_n hx hb dX2_init_42 rfl (lv_at hl 0 rfl) ?_
  refine lv_iconst (v := iI (0)) hx hb dX2_init_43 rfl ?_
  refine va_put (D := (dC, dI)) (ci := 2) (v := .int (iI (0))) (ty := .int) (C := "RequestCutter") (T := TX2) (N := 5) hx hb hts (fun w h => List.mem_cons_of_mem _ (inX2 w h)) tyX2 tyX2_ok nmX2 hown hK hP hD hS 0 rfl rfl 3 (by decide) (hts _ (List.mem_cons_of_mem _ tw_78)) (fun _ h9 => h9) rfl (by decide +kernel) rfl rfl (Nat.le_of_ble_eq_true rfl) dX2_init_44 (fun H locs hP hD hS => ?_)
  have hP : va_P (dC, dI) vwCl [(h, .inr (2, [.ref q1, .ref q3, .ref q5, .int (iI (0)), .int (iI (0))])), (q1, .inr (0, [.int (iI (((10240 : Nat) : Int))), .ref q2, .int (iI (0))])), (q2, .inl (cB, 64, .inl (fun _ => 0))), (q3, .inr (0, [.int (iI (((65536 : Nat) : Int))), .ref q4, .int (iI (0))])), (q4, .inl (cB, 64, .inl (fun _ => 0))), (q5, .inr (1, [.ref wb, .ref s1, .ref s2, .int (iI (0))])), (wb, .inr (0, [.int (iI (((65536 : Nat) : Int))), .ref wq, .int (iI (0))])), (wq, .inl (cB, 64, .inl (fun _ => 0))), (s1, .inl (cI, 8, .inl (fun _ => 0))), (s2, .inl (cI, 8, .inl (fun _ => 0)))] H := hP
  have hD : va_D A [(h, .inr (2, [.ref q1, .ref q3, .ref q5, .int (iI (0)), .int (iI (0))])), (q1, .inr (0, [.int (iI (((10240 : Nat) : Int))), .ref q2, .int (iI (0))])), (q2, .inl (cB, 64, .inl (fun _ => 0))), (q3, .inr (0, [.int (iI (((65536 : Nat) : Int))), .ref q4, .int (iI (0))])), (q4, .inl (cB, 64, .inl (fun _ => 0))), (q5, .inr (1, [.ref wb, .ref s1, .ref s2, .int (iI (0))])), (wb, .inr (0, [.int (iI (((65536 : Nat) : Int))), .ref wq, .int (iI (0))])), (wq, .inl (cB, 64, .inl (fun _ => 0))), (s1, .inl (cI, 8, .inl (fun _ => 0))), (s2, .inl (cI, 8, .inl (fun _ => 0)))] := hD
  refine lv_aload_n hx hb dX2_init_47 rfl (lv_at hl 0 rfl) ?_
  refine lv_iconst (v := iI (0)) hx hb dX2_init_48 rfl ?_
  refine va_put (D := (dC, dI)) (ci := 2) (v := .int (iI (0))) (ty := .int) (C := "RequestCutter") (T := TX2) (N := 5) hx hb hts (fun w h => List.mem_cons_of_mem _ (inX2 w h)) tyX2 tyX2_ok nmX2 hown hK hP hD hS 0 rfl rfl 4 (by decide) (hts _ (List.mem_cons_of_mem _ tw_79)) (fun _ h9 => h9) rfl (by decide +kernel) rfl rfl (Nat.le_of_ble_eq_true rfl) dX2_init_49 (fun H locs hP hD hS => ?_)
  have hP : va_P (dC, dI) vwCl [(h, .inr (2, [.ref q1, .ref q3, .ref q5, .int (iI (0)), .int (iI (0))])), (q1, .inr (0, [.int (iI (((10240 : Nat) : Int))), .ref q2, .int (iI (0))])), (q2, .inl (cB, 64, .inl (fun _ => 0))), (q3, .inr (0, [.int (iI (((65536 : Nat) : Int))), .ref q4, .int (iI (0))])), (q4, .inl (cB, 64, .inl (fun _ => 0))), (q5, .inr (1, [.ref wb, .ref s1, .ref s2, .int (iI (0))])), (wb, .inr (0, [.int (iI (((65536 : Nat) : Int))), .ref wq, .int (iI (0))])), (wq, .inl (cB, 64, .inl (fun _ => 0))), (s1, .inl (cI, 8, .inl (fun _ => 0))), (s2, .inl (cI, 8, .inl (fun _ => 0)))] H := hP
  have hD : va_D A [(h, .inr (2, [.ref q1, .ref q3, .ref q5, .int (iI (0)), .int (iI (0))])), (q1, .inr (0, [.int (iI (((10240 : Nat) : Int))), .ref q2, .int (iI (0))])), (q2, .inl (cB, 64, .inl (fun _ => 0))), (q3, .inr (0, [.int (iI (((65536 : Nat) : Int))), .ref q4, .int (iI (0))])), (q4, .inl (cB, 64, .inl (fun _ => 0))), (q5, .inr (1, [.ref wb, .ref s1, .ref s2, .int (iI (0))])), (wb, .inr (0, [.int (iI (((65536 : Nat) : Int))), .ref wq, .int (iI (0))])), (wq, .inl (cB, 64, .inl (fun _ => 0))), (s1, .inl (cI, 8, .inl (fun _ => 0))), (s2, .inl (cI, 8, .inl (fun _ => 0)))] := hD
  exact W.vret hx hb hr (fun t ht hW => ⟨⟨(q1, q2, q3, q4, q5, wb, wq, s1, s2), rfl, trivial, by rw [ht]; exact (hP.sub [0, 1, 2, 3, 4, 5, 8, 9, 6, 7] rfl), va_K.moved hW.alike hK, hD.sub [0, 1, 2, 3, 4, 5, 8, 9, 6, 7] (by decide) rfl⟩, hS.F ht⟩) hS.2.2 dX2_init_52
end
section
/-! THE REFERENCE's bytes: with their sign -/
theorem nar_fit {x : Int32} (h : fits .byte (.int x) = true) : vp_nar .byte x = x := by
  obtain ⟨h1, h2⟩ := by_sgn h
  obtain ⟨z, hz, rfl⟩ := iI_of x
  rw [iI_toInt hz] at h1 h2
  have key : ∀ k : Fin 256, vp_nar .byte (iI ((k.val : Int) - 128)) = iI ((k.val : Int) - 128) := by decide +kernel
  have := key ⟨(z + 128).toNat, by omega⟩
  rw [show (((⟨(z + 128).toNat, by omega⟩ : Fin 256).val : Int) - 128) = z by show (((z + 128).toNat : Nat) : Int) - 128 = z; omega] at this
  exact this
theorem bv_sg {x : Int32} (h : fits .byte (.int x) = true) : (0 ≤ x.toInt ∧ x.toInt ≤ 127 ∧ bv x = x.toInt) ∨ (-128 ≤ x.toInt ∧ x.toInt < 0 ∧ bv x = x.toInt + 256) := by
  obtain ⟨h1, h2⟩ := by_sgn h
  obtain ⟨z, hz, rfl⟩ := iI_of x
  rw [iI_toInt hz] at h1 h2 ⊢
  have key : ∀ k : Fin 256, bv (iI ((k.val : Int) - 128)) = if (k.val : Int) - 128 < 0 then (k.val : Int) - 128 + 256 else (k.val : Int) - 128 := by decide +kernel
  have := key ⟨(z + 128).toNat, by omega⟩
  rw [show (((⟨(z + 128).toNat, by omega⟩ : Fin 256).val : Int) - 128) = z by show (((z + 128).toNat : Nat) : Int) - 128 = z; omega] at this
  by_cases q : z < 0
  · rw [if_pos q] at this; exact Or.inr ⟨h1, q, this⟩
  · rw [if_neg q] at this; exact Or.inl ⟨by omega, h2, this⟩
/-- a byte of the reference's input beside the accessor -/
theorem mA {f : Nat → Int32} (hf : sb_Fit f) (n : Nat) (i : Int) (h : 0 ≤ i ∧ i < n) : (0 ≤ (f i.toNat).toInt ∧ (f i.toNat).toInt ≤ 127 ∧ bA f n i = (f i.toNat).toInt) ∨ (-128 ≤ (f i.toNat).toInt ∧ (f i.toNat).toInt < 0 ∧ bA f n i = (f i.toNat).toInt + 256) := by
  rw [bA_in h]
  exact bv_sg (hf _)
/-- the low byte of a number shifted with its sign is that of the number shifted without -/
theorem nb_s (x : Int32) (k : Int) (h : k = 24 ∨ k = 16 ∨ k = 8 ∨ k = 0) : (x >>> (iI k &&& 31)).toInt8.toInt32 = nb x k := by
  unfold nb
  have e : ∀ (y z : Int32), (∀ i, i < 8 → y.toBitVec.getLsbD i = z.toBitVec.getLsbD i) → y.toInt8.toInt32 = z.toInt8.toInt32 := by
    intro y z hyz
    have : y.toInt8 = z.toInt8 := by
      apply Int8.toBitVec.inj
      apply BitVec.eq_of_getLsbD_eq
      intro i hi
      have := hyz i hi
      simp only [Int32.toBitVec_toInt8, BitVec.getLsbD_signExtend]
      simp only [hi, decide_true, Bool.true_and]
      rw [if_pos (by omega), if_pos (by omega)]
      exact this
    rw [this]
  apply e
  intro i hi
  have hs : ((iI k &&& 31).toBitVec.smod 32).toNat = k.toNat := by rcases h with rfl | rfl | rfl | rfl <;> decide
  have hu : (((iI k).toUInt32 &&& Int32.toUInt32 31).toBitVec % 32).toNat = k.toNat := by rcases h with rfl | rfl | rfl | rfl <;> decide
  have a1 : (x >>> (iI k &&& 31)).toBitVec = x.toBitVec.sshiftRight ((iI k &&& 31).toBitVec.smod 32).toNat := by
    first | exact Int32.toBitVec_shiftRight x _ | rfl
  have a2 : ((x.toUInt32 >>> ((iI k).toUInt32 &&& Int32.toUInt32 31)).toInt32).toBitVec = x.toBitVec >>> ((((iI k).toUInt32 &&& Int32.toUInt32 31).toBitVec % 32).toNat) := by
    first | rfl | (simp [UInt32.toBitVec_shiftRight]; done)
  rw [a1, a2, hs, hu, BitVec.getLsbD_sshiftRight, BitVec.getLsbD_ushiftRight]
  have hk : k.toNat ≤ 24 := by omega
  rw [if_pos (by omega)]
  simp
  omega
end
section
set_option maxHeartbeats 4000000 in
set_option maxRecDepth 100000 in
/-- the reference: fault() -/
theorem c_X3_fault (l : Launch) (dC : Nat → ClassId) (dI : Nat → Nat → Nat) (cB cI : ClassId) (m0 mt mi mk mf ml tc n w ks : Nat) (ft pa : Int) : Met l yX3_fault wX3_fault ({ frames := 0, cells := 0, slots := 0, locals := 0 }) (va_Pc [.ref m0] (vx_R (dC, dI) vwCl [(cB, .byte), (cI, .int)] [(m0, .inr (3, [.ref mt, .ref mi, .ref mk, .ref mf, .ref ml, .int (iI ((tc : Int))), .int (iI ((n : Int))), .int (iI ((w : Int))), .int (iI ((ks : Int))), .int (iI (ft)), .int (iI (pa))]))])) (vp_Si (fun r => r = iI ft)) 0 0 (fun _ => False) := by
  refine Met.ofW (cc := cX3_fault) (maxL := 1) (ret := (some .int)) (by decide) rfl ?_
  intro p e s m args below meth c s₁ B hml hv
  obtain ⟨rfl, hP, hK⟩ := hv
  have hx := B.exec
  have hb := B.bytes
  have hr := B.returns
  have hts := atoms_spec (ws := wX3_fault) B.pre
  have hown : s.vm.findClass "RequestCutterModel" = some m.cls := findClass_of_methodNamed B.named
  have hlocks := B.notSynchronized
  have hP : va_P (dC, dI) vwCl [(m0, .inr (3, [.ref mt, .ref mi, .ref mk, .ref mf, .ref ml, .int (iI ((tc : Int))), .int (iI ((n : Int))), .int (iI ((w : Int))), .int (iI ((ks : Int))), .int (iI (ft)), .int (iI (pa))]))] s.heap := hP
  have hl := lv_entry ([.ref m0]) (n := 1) (Nat.le_of_ble_eq_true rfl)
  rw [lg_entry_eq]
  generalize (lg_sl ([.ref m0]) ++ List.replicate (1 - (lg_sl ([.ref m0])).length) Slot.unset).toArray = ls at hl ⊢
  have hl : lv_has ls 1 [(0, .ref m0)] := hl
  refine lv_aload_n hx hb dX3_fault_0 rfl (lv_at hl 0 rfl) ?_
  refine va_get (D := (dC, dI)) (ci := 3) (v := .int (iI (ft))) (C := "RequestCutterModel") (T := TX3) (N := 11) hx hb hts (fun w h => List.mem_cons_of_mem _ (inX3 w h)) hown hK hP 0 rfl rfl 9 (by decide) (hts _ (List.mem_cons_of_mem _ tw_275)) (fun _ h9 => h9) rfl dX3_fault_1 ?_
  exact W.iret (v := iI (ft)) hx hb hr (fun t ht hW => ⟨iI (ft), rfl, rfl, ht⟩) (fun _ h => by cases h) dX3_fault_4
set_option maxHeartbeats 4000000 in
set_option maxRecDepth 100000 in
/-- waiting() -/
theorem c_X3_waiting (l : Launch) (dC : Nat → ClassId) (dI : Nat → Nat → Nat) (cB cI : ClassId) (m0 mt mi mk mf ml tc n w ks : Nat) (ft pa : Int) : Met l yX3_waiting wX3_waiting ({ frames := 0, cells := 0, slots := 0, locals := 0 }) (va_Pc [.ref m0] (vx_R (dC, dI) vwCl [(cB, .byte), (cI, .int)] [(m0, .inr (3, [.ref mt, .ref mi, .ref mk, .ref mf, .ref ml, .int (iI ((tc : Int))), .int (iI ((n : Int))), .int (iI ((w : Int))), .int (iI ((ks : Int))), .int (iI (ft)), .int (iI (pa))]))])) (vp_Si (fun r => r = iI (n : Int))) 0 0 (fun _ => False) := by
  refine Met.ofW (cc := cX3_waiting) (maxL := 1) (ret := (some .int)) (by decide) rfl ?_
  intro p e s m args below meth c s₁ B hml hv
  obtain ⟨rfl, hP, hK⟩ := hv
  have hx := B.exec
  have hb := B.bytes
  have hr := B.returns
  have hts := atoms_spec (ws := wX3_waiting) B.pre
  have hown : s.vm.findClass "RequestCutterModel" = some m.cls := findClass_of_methodNamed B.named
  have hlocks := B.notSynchronized
  have hP : va_P (dC, dI) vwCl [(m0, .inr (3, [.ref mt, .ref mi, .ref mk, .ref mf, .ref ml, .int (iI ((tc : Int))), .int (iI ((n : Int))), .int (iI ((w : Int))), .int (iI ((ks : Int))), .int (iI (ft)), .int (iI (pa))]))] s.heap := hP
  have hl := lv_entry ([.ref m0]) (n := 1) (Nat.le_of_ble_eq_true rfl)
  rw [lg_entry_eq]
  generalize (lg_sl ([.ref m0]) ++ List.replicate (1 - (lg_sl ([.ref m0])).length) Slot.unset).toArray = ls at hl ⊢
  have hl : lv_has ls 1 [(0, .ref m0)] := hl
  refine lv_aload_n hx hb dX3_waiting_0 rfl (lv_at hl 0 rfl) ?_
  refine va_get (D := (dC, dI)) (ci := 3) (v := .int (iI ((n : Int)))) (C := "RequestCutterModel") (T := TX3) (N := 11) hx hb hts (fun w h => List.mem_cons_of_mem _ (inX3 w h)) hown hK hP 0 rfl rfl 6 (by decide) (hts _ (List.mem_cons_of_mem _ tw_272)) (fun _ h9 => h9) rfl dX3_waiting_1 ?_
  exact W.iret (v := iI ((n : Int))) hx hb hr (fun t ht hW => ⟨iI ((n : Int)), rfl, rfl, ht⟩) (fun _ h => by cases h) dX3_waiting_4
set_option maxHeartbeats 4000000 in
set_option maxRecDepth 100000 in
/-- size(w) -/
theorem c_X3_size (l : Launch) (dC : Nat → ClassId) (dI : Nat → Nat → Nat) (cB cI : ClassId) (m0 mt mi mk mf ml tc n w ks : Nat) (ft pa : Int) (la : Nat → Int) (hw : w ≤ 1024) (i : Int) (hi : -2147483648 ≤ i ∧ i ≤ 2147483647) : Met l yX3_size wX3_size ({ frames := 0, cells := 0, slots := 0, locals := 0 }) (va_Pc [.ref m0, .int (iI (i))] (vx_R (dC, dI) vwCl [(cB, .byte), (cI, .int)] [(m0, .inr (3, [.ref mt, .ref mi, .ref mk, .ref mf, .ref ml, .int (iI ((tc : Int))), .int (iI ((n : Int))), .int (iI ((w : Int))), .int (iI ((ks : Int))), .int (iI (ft)), .int (iI (pa))])), (ml, .inl (cI, 1025, .inl (fun k => iI (la k))))])) (vp_Si (fun r => r = iI (if 0 ≤ i ∧ i < w then la i.toNat else -1))) 0 0 (fun _ => False) := by
  refine Met.ofW (cc := cX3_size) (maxL := 2) (ret := (some .int)) (by decide) rfl ?_
  intro p e s m args below meth c s₁ B hml hv
  obtain ⟨rfl, hP, hK⟩ := hv
  have hx := B.exec
  have hb := B.bytes
  have hr := B.returns
  have hts := atoms_spec (ws := wX3_size) B.pre
  have hown : s.vm.findClass "RequestCutterModel" = some m.cls := findClass_of_methodNamed B.named
  have hlocks := B.notSynchronized
  have hP : va_P (dC, dI) vwCl [(m0, .inr (3, [.ref mt, .ref mi, .ref mk, .ref mf, .ref ml, .int (iI ((tc : Int))), .int (iI ((n : Int))), .int (iI ((w : Int))), .int (iI ((ks : Int))), .int (iI (ft)), .int (iI (pa))])), (ml, .inl (cI, 1025, .inl (fun k => iI (la k))))] s.heap := hP
  have hl := lv_entry ([.ref m0, .int (iI (i))]) (n := 2) (Nat.le_of_ble_eq_true rfl)
  rw [lg_entry_eq]
  generalize (lg_sl ([.ref m0, .int (iI (i))]) ++ List.replicate (2 - (lg_sl ([.ref m0, .int (iI (i))])).length) Slot.unset).toArray = ls at hl ⊢
  have hl : lv_has ls 2 [(0, .ref m0), (1, .int (iI (i)))] := hl
  refine lv_iload_n hx hb dX3_size_0 rfl (lv_at hl 1 rfl) ?_
  refine lx_if_lt (a := i) (tgt := 21) hx hb dX3_size_1 (by decide) (by omega) (fun cq1 => ?_) (fun cq1 => ?_)
  · refine lv_iconst (v := iI (-1)) hx hb dX3_size_21 rfl ?_
    exact W.iret (v := iI (-1)) hx hb hr (fun t ht hW => ⟨iI (-1), rfl, by rw [if_neg (by omega)], ht⟩) (fun _ h => by cases h) dX3_size_22
  · refine lv_iload_n hx hb dX3_size_4 rfl (lv_at hl 1 rfl) ?_
    refine lv_aload_n hx hb dX3_size_5 rfl (lv_at hl 0 rfl) ?_
    refine va_get (D := (dC, dI)) (ci := 3) (v := .int (iI ((w : Int)))) (C := "RequestCutterModel") (T := TX3) (N := 11) hx hb hts (fun w h => List.mem_cons_of_mem _ (inX3 w h)) hown hK hP 0 rfl rfl 7 (by decide) (hts _ (List.mem_cons_of_mem _ tw_273)) (fun _ h9 => h9) rfl dX3_size_6 ?_
    refine lx_icmp_ge (a := i) (b := (w : Int)) (tgt := 21) hx hb dX3_size_9 (by decide) (by omega) (by omega) (fun cq2 => ?_) (fun cq2 => ?_)
    · refine lv_iconst (v := iI (-1)) hx hb dX3_size_21 rfl ?_
      exact W.iret (v := iI (-1)) hx hb hr (fun t ht hW => ⟨iI (-1), rfl, by rw [if_neg (by omega)], ht⟩) (fun _ h => by cases h) dX3_size_22
    · refine lv_aload_n hx hb dX3_size_12 rfl (lv_at hl 0 rfl) ?_
      refine va_get (D := (dC, dI)) (ci := 3) (v := .ref ml) (C := "RequestCutterModel") (T := TX3) (N := 11) hx hb hts (fun w h => List.mem_cons_of_mem _ (inX3 w h)) hown hK hP 0 rfl rfl 4 (by decide) (hts _ (List.mem_cons_of_mem _ tw_270)) (fun _ h9 => h9) rfl dX3_size_13 ?_
      refine lv_iload_n hx hb dX3_size_16 rfl (lv_at hl 1 rfl) ?_
      refine va_iald hx hb hK hP 1 1 rfl rfl (iI_in (by omega)) dX3_size_17 ?_
      refine lx_top (x2 := iI (la ((i).toNat))) (congrArg (fun k => iI (la k)) (iI_cl (a := i) (by omega))) ?_
      refine lv_goto (tgt := 22) hx hb dX3_size_18 (by decide) ?_
      exact W.iret (v := iI (la ((i).toNat))) hx hb hr (fun t ht hW => ⟨iI (la ((i).toNat)), rfl, by rw [if_pos (by omega)], ht⟩) (fun _ h => by cases h) dX3_size_22
set_option maxHeartbeats 4000000 in
set_option maxRecDepth 100000 in
/-- byteOf(w, i) -/
theorem c_X3_byteOf (l : Launch) (dC : Nat → ClassId) (dI : Nat → Nat → Nat) (cB cI : ClassId) (m0 mt mi mk mf ml tc n w ks : Nat) (ft pa : Int) (kf : Nat → Int32) (fa la : Nat → Int) (hw : w ≤ 1024) (hz : ∀ j, j < w → (0 ≤ fa j ∧ 0 ≤ la j) ∧ fa j + la j ≤ 65536) (i k : Int) (hi : -2147483648 ≤ i ∧ i ≤ 2147483647) (hk : -2147483648 ≤ k ∧ k ≤ 2147483647) : Met l yX3_byteOf wX3_byteOf ({ frames := 1, cells := 0, slots := 0, locals := 21 }) (va_Pc [.ref m0, .int (iI (i)), .int (iI (k))] (vx_R (dC, dI) vwCl [(cB, .byte), (cI, .int)] [(m0, .inr (3, [.ref mt, .ref mi, .ref mk, .ref mf, .ref ml, .int (iI ((tc : Int))), .int (iI ((n : Int))), .int (iI ((w : Int))), .int (iI ((ks : Int))), .int (iI (ft)), .int (iI (pa))])), (mk, .inl (cB, 65536, .inl (kf))), (mf, .inl (cI, 1025, .inl (fun k => iI (fa k)))), (ml, .inl (cI, 1025, .inl (fun k => iI (la k))))])) (vp_Si (fun r => r = iI (if (0 ≤ i ∧ i < w) ∧ 0 ≤ k ∧ k < la i.toNat then bv (kf (fa i.toNat + k).toNat) else -1))) 0 0 (fun _ => False) := by
  refine Met.ofW (cc := cX3_byteOf) (maxL := 3) (ret := (some .int)) (by decide) rfl ?_
  intro p e s m args below meth c s₁ B hml hv
  obtain ⟨rfl, hP, hK⟩ := hv
  have hx := B.exec
  have hb := B.bytes
  have hr := B.returns
  have hts := atoms_spec (ws := wX3_byteOf) B.pre
  have hown : s.vm.findClass "RequestCutterModel" = some m.cls := findClass_of_methodNamed B.named
  have hlocks := B.notSynchronized
  have hP : va_P (dC, dI) vwCl [(m0, .inr (3, [.ref mt, .ref mi, .ref mk, .ref mf, .ref ml, .int (iI ((tc : Int))), .int (iI ((n : Int))), .int (iI ((w : Int))), .int (iI ((ks : Int))), .int (iI (ft)), .int (iI (pa))])), (mk, .inl (cB, 65536, .inl (kf))), (mf, .inl (cI, 1025, .inl (fun k => iI (fa k)))), (ml, .inl (cI, 1025, .inl (fun k => iI (la k))))] s.heap := hP
  have hl := lv_entry ([.ref m0, .int (iI (i)), .int (iI (k))]) (n := 3) (Nat.le_of_ble_eq_true rfl)
  rw [lg_entry_eq]
  generalize (lg_sl ([.ref m0, .int (iI (i)), .int (iI (k))]) ++ List.replicate (3 - (lg_sl ([.ref m0, .int (iI (i)), .int (iI (k))])).length) Slot.unset).toArray = ls at hl ⊢
  have hl : lv_has ls 3 [(0, .ref m0), (1, .int (iI (i))), (2, .int (iI (k)))] := hl
  refine lv_iload_n hx hb dX3_byteOf_0 rfl (lv_at hl 2 rfl) ?_
  refine lx_if_lt (a := k) (tgt := 33) hx hb dX3_byteOf_1 (by decide) (by omega) (fun cq1 => ?_) (fun cq1 => ?_)
  · refine lv_iconst (v := iI (-1)) hx hb dX3_byteOf_33 rfl ?_
    exact W.iret (v := iI (-1)) hx hb hr (fun t ht hW => ⟨iI (-1), rfl, by rw [if_neg (by omega)], ht⟩) (fun _ h => by cases h) dX3_byteOf_34
  · refine lv_iload_n hx hb dX3_byteOf_4 rfl (lv_at hl 2 rfl) ?_
    refine lv_aload_n hx hb dX3_byteOf_5 rfl (lv_at hl 0 rfl) ?_
    refine lv_iload_n hx hb dX3_byteOf_6 rfl (lv_at hl 1 rfl) ?_
    obtain ⟨z, hz1⟩ : ∃ z : Int, z = (if 0 ≤ i ∧ i < w then la i.toNat else -1) := ⟨_, rfl⟩
    have hz2 : ((0 ≤ i ∧ i < w) ∧ z = la i.toNat) ∨ (¬ (0 ≤ i ∧ i < w) ∧ z = -1) := by
      by_cases q : 0 ≤ i ∧ i < w
      · exact Or.inl ⟨q, by rw [hz1, if_pos q]⟩
      · exact Or.inr ⟨q, by rw [hz1, if_neg q]⟩
    have hz3 : 0 ≤ i ∧ i < w → (0 ≤ fa i.toNat ∧ 0 ≤ la i.toNat) ∧ fa i.toNat + la i.toNat ≤ 65536 := fun q => hz i.toNat (by omega)
    refine vx_Vs (As := [.int (iI (i))]) (rest := [.int (iI (k))]) (ci := 3) (q0 := 0) [0, 3] ⟨hx, hb, hml, hown, hts⟩ (c_X3_size l dC dI cB cI m0 mt mi mk mf ml tc n w ks ft pa la hw i hi) (cwV 1 hts (gd_V tw_366 tw_359 tw_360 tw_22 tw_361) rfl rfl rfl (by decide +kernel) ⟨Nat.le_of_ble_eq_true rfl, Nat.le_of_ble_eq_true rfl⟩) hK hP rfl rfl rfl rfl rfl hl.1 rfl (Nat.le_of_ble_eq_true rfl) dX3_byteOf_7 ⟨Nat.zero_le _, Nat.zero_le _⟩ (fun r hr => ?_)
    obtain rfl : r = iI (if 0 ≤ i ∧ i < w then la i.toNat else -1) := hr
    rw [← hz1]
    refine lx_icmp_ge (a := k) (b := z) (tgt := 33) hx hb dX3_byteOf_10 (by decide) (by omega) (by by_cases q : 0 ≤ i ∧ i < w; have := hz3 q; omega; omega) (fun cq2 => ?_) (fun cq2 => ?_)
    · refine lv_iconst (v := iI (-1)) hx hb dX3_byteOf_33 rfl ?_
      exact W.iret (v := iI (-1)) hx hb hr (fun t ht hW => ⟨iI (-1), rfl, by rw [if_neg (by omega)], ht⟩) (fun _ h => by cases h) dX3_byteOf_34
    · have hz4 := hz3 (by omega)
      refine lv_aload_n hx hb dX3_byteOf_13 rfl (lv_at hl 0 rfl) ?_
      refine va_get (D := (dC, dI)) (ci := 3) (v := .ref mk) (C := "RequestCutterModel") (T := TX3) (N := 11) hx hb hts (fun w h => List.mem_cons_of_mem _ (inX3 w h)) hown hK hP 0 rfl rfl 2 (by decide) (hts _ (List.mem_cons_of_mem _ tw_268)) (fun _ h9 => h9) rfl dX3_byteOf_14 ?_
      refine lv_aload_n hx hb dX3_byteOf_17 rfl (lv_at hl 0 rfl) ?_
      refine va_get (D := (dC, dI)) (ci := 3) (v := .ref mf) (C := "RequestCutterModel") (T := TX3) (N := 11) hx hb hts (fun w h => List.mem_cons_of_mem _ (inX3 w h)) hown hK hP 0 rfl rfl 3 (by decide) (hts _ (List.mem_cons_of_mem _ tw_269)) (fun _ h9 => h9) rfl dX3_byteOf_18 ?_
      refine lv_iload_n hx hb dX3_byteOf_21 rfl (lv_at hl 1 rfl) ?_
      refine va_iald hx hb hK hP 2 1 rfl rfl (iI_in (by omega)) dX3_byteOf_22 ?_
      refine lx_top (x2 := iI (fa ((i).toNat))) (congrArg (fun k => iI (fa k)) (iI_cl (a := i) (by omega))) ?_
      refine lv_iload_n hx hb dX3_byteOf_23 rfl (lv_at hl 2 rfl) ?_
      refine lx_iadd (a := fa ((i).toNat)) (b := k) hx hb dX3_byteOf_24 ?_
      refine va_bald hx hb hK hP 1 0 rfl rfl (iI_in (by omega)) dX3_byteOf_25 ?_
      refine lx_top (x2 := (kf) (((fa ((i).toNat)) + k).toNat)) (congrArg (kf) (iI_cl (a := (fa ((i).toNat)) + k) (by omega))) ?_
      refine lv_sipush (v := iI (255)) hx hb dX3_byteOf_26 (by decide) ?_
      refine lx_iand255 (x := (kf) (((fa ((i).toNat)) + k).toNat)) hx hb dX3_byteOf_29 ?_
      refine lv_goto (tgt := 34) hx hb dX3_byteOf_30 (by decide) ?_
      exact W.iret (v := iI (bv ((kf) (((fa ((i).toNat)) + k).toNat)))) hx hb hr (fun t ht hW => ⟨iI (bv ((kf) (((fa ((i).toNat)) + k).toNat))), rfl, by rw [if_pos (by omega)], ht⟩) (fun _ h => by cases h) dX3_byteOf_34
set_option maxHeartbeats 4000000 in
set_option maxRecDepth 100000 in
/-- end(n) -/
theorem c_X3_end (l : Launch) (dC : Nat → ClassId) (dI : Nat → Nat → Nat) (cB cI : ClassId) (sz : Nat) (m0 mt mi mk mf ml tc n w ks : Nat) (ft pa : Int) (ht : tc ≤ 10240) (i : Int) (hi : -2147483648 ≤ i ∧ i ≤ 2147483647) : Met l yX3_end wX3_end ({ frames := 0, cells := 0, slots := 0, locals := 0 }) (va_Pc [.ref m0, .int (iI (i))] (vx_B (dC, dI) vwCl [(cB, .byte), (cI, .int)] [(m0, .inr (3, [.ref mt, .ref mi, .ref mk, .ref mf, .ref ml, .int (iI ((tc : Int))), .int (iI ((n : Int))), .int (iI ((w : Int))), .int (iI ((ks : Int))), .int (iI (ft)), .int (iI (pa))]))] sz)) (va_Qi (fun (r : Int32) (u : Nat) => r = iI (if 0 ≤ i ∧ i ≤ (tc : Int) then 1 else 0) ∧ u = (if 0 ≤ i ∧ i ≤ (tc : Int) then i.toNat else tc)) (fun (u : Nat) => vx_E (dC, dI) vwCl [(cB, .byte), (cI, .int)] (va_A [(m0, .inr (3, [.ref mt, .ref mi, .ref mk, .ref mf, .ref ml, .int (iI ((tc : Int))), .int (iI ((n : Int))), .int (iI ((w : Int))), .int (iI ((ks : Int))), .int (iI (ft)), .int (iI (pa))]))] sz) [(m0, .inr (3, [.ref mt, .ref mi, .ref mk, .ref mf, .ref ml, .int (iI ((u : Int))), .int (iI ((n : Int))), .int (iI ((w : Int))), .int (iI ((ks : Int))), .int (iI (ft)), .int (iI (pa))]))]) (va_A [(m0, .inr (3, [.ref mt, .ref mi, .ref mk, .ref mf, .ref ml, .int (iI ((tc : Int))), .int (iI ((n : Int))), .int (iI ((w : Int))), .int (iI ((ks : Int))), .int (iI (ft)), .int (iI (pa))]))] sz)) (0) (0) (va_A [(m0, .inr (3, [.ref mt, .ref mi, .ref mk, .ref mf, .ref ml, .int (iI ((tc : Int))), .int (iI ((n : Int))), .int (iI ((w : Int))), .int (iI ((ks : Int))), .int (iI (ft)), .int (iI (pa))]))] sz) := by
  refine Met.ofW (cc := cX3_end) (maxL := 2) (ret := (some .boolean)) (by decide) rfl ?_
  intro p e s m args below meth c s₁ B hml hv
  obtain ⟨rfl, hsz, hP, hK, hD0⟩ := hv
  have hx := B.exec
  have hb := B.bytes
  have hr := B.returns
  have hts := atoms_spec (ws := wX3_end) B.pre
  have hown : s.vm.findClass "RequestCutterModel" = some m.cls := findClass_of_methodNamed B.named
  have hlocks := B.notSynchronized
  subst hsz
  have hD := hD0.self (sz := s.heap.size)
  generalize hAe : va_A [(m0, .inr (3, [.ref mt, .ref mi, .ref mk, .ref mf, .ref ml, .int (iI ((tc : Int))), .int (iI ((n : Int))), .int (iI ((w : Int))), .int (iI ((ks : Int))), .int (iI (ft)), .int (iI (pa))]))] s.heap.size = A at hD ⊢
  have hA : ∀ q : Nat, s.heap.size ≤ q → A q := fun q h => by rw [← hAe]; exact Or.inr h
  have hS : va_S A s.heap s.heap [] := va_S.rf
  have hP : va_P (dC, dI) vwCl [(m0, .inr (3, [.ref mt, .ref mi, .ref mk, .ref mf, .ref ml, .int (iI ((tc : Int))), .int (iI ((n : Int))), .int (iI ((w : Int))), .int (iI ((ks : Int))), .int (iI (ft)), .int (iI (pa))]))] s.heap := hP
  have hl := lv_entry ([.ref m0, .int (iI (i))]) (n := 2) (Nat.le_of_ble_eq_true rfl)
  rw [lg_entry_eq]
  generalize (lg_sl ([.ref m0, .int (iI (i))]) ++ List.replicate (2 - (lg_sl ([.ref m0, .int (iI (i))])).length) Slot.unset).toArray = ls at hl ⊢
  have hl : lv_has ls 2 [(0, .ref m0), (1, .int (iI (i)))] := hl
  refine lv_iload_n hx hb dX3_end_0 rfl (lv_at hl 1 rfl) ?_
  refine lx_if_lt (a := i) (tgt := 12) hx hb dX3_end_1 (by decide) (by omega) (fun cq1 => ?_) (fun cq1 => ?_)
  · refine lv_iconst (v := iI (0)) hx hb dX3_end_12 rfl ?_
    exact W.zret (v := iI (0)) hx hb hr (by rfl) (fun t ht hW => ⟨⟨iI (0), tc, rfl, ⟨by rw [if_neg (by omega)], by rw [if_neg (by omega)]⟩, by rw [ht]; exact hP, va_K.moved hW.alike hK, hD⟩, hS.F ht⟩) hS.2.2 dX3_end_13
  · refine lv_iload_n hx hb dX3_end_4 rfl (lv_at hl 1 rfl) ?_
    refine lv_aload_n hx hb dX3_end_5 rfl (lv_at hl 0 rfl) ?_
    refine va_get (D := (dC, dI)) (ci := 3) (v := .int (iI ((tc : Int)))) (C := "RequestCutterModel") (T := TX3) (N := 11) hx hb hts (fun w h => List.mem_cons_of_mem _ (inX3 w h)) hown hK hP 0 rfl rfl 5 (by decide) (hts _ (List.mem_cons_of_mem _ tw_271)) (fun _ h9 => h9) rfl dX3_end_6 ?_
    refine lx_icmp_le (a := i) (b := (tc : Int)) (tgt := 14) hx hb dX3_end_9 (by decide) (by omega) (by omega) (fun cq2 => ?_) (fun cq2 => ?_)
    · refine lv_aload_n hx hb dX3_end_14 rfl (lv_at hl 0 rfl) ?_
      refine lv_iload_n hx hb dX3_end_15 rfl (lv_at hl 1 rfl) ?_
      refine lx_top (x2 := iI (i.toNat : Int)) (congrArg iI (by omega)) ?_
      refine va_put (D := (dC, dI)) (ci := 3) (v := .int (iI ((i.toNat : Int)))) (ty := .int) (C := "RequestCutterModel") (T := TX3) (N := 11) hx hb hts (fun w h => List.mem_cons_of_mem _ (inX3 w h)) tyX3 tyX3_ok nmX3 hown hK hP hD hS 0 rfl rfl 5 (by decide) (hts _ (List.mem_cons_of_mem _ tw_271)) (fun _ h9 => h9) rfl (by decide +kernel) rfl rfl (Nat.le_of_ble_eq_true rfl) dX3_end_16 (fun H locs hP hD hS => ?_)
      have hP : va_P (dC, dI) vwCl [(m0, .inr (3, [.ref mt, .ref mi, .ref mk, .ref mf, .ref ml, .int (iI ((i.toNat : Int))), .int (iI ((n : Int))), .int (iI ((w : Int))), .int (iI ((ks : Int))), .int (iI (ft)), .int (iI (pa))]))] H := hP
      have hD : va_D A [(m0, .inr (3, [.ref mt, .ref mi, .ref mk, .ref mf, .ref ml, .int (iI ((i.toNat : Int))), .int (iI ((n : Int))), .int (iI ((w : Int))), .int (iI ((ks : Int))), .int (iI (ft)), .int (iI (pa))]))] := hD
      refine lv_iconst (v := iI (1)) hx hb dX3_end_19 rfl ?_
      exact W.zret (v := iI (1)) hx hb hr (by rfl) (fun t ht hW => ⟨⟨iI (1), i.toNat, rfl, ⟨by rw [if_pos (by omega)], by rw [if_pos (by omega)]⟩, by rw [ht]; exact hP, va_K.moved hW.alike hK, hD⟩, hS.F ht⟩) hS.2.2 dX3_end_20
    · refine lv_iconst (v := iI (0)) hx hb dX3_end_12 rfl ?_
      exact W.zret (v := iI (0)) hx hb hr (by rfl) (fun t ht hW => ⟨⟨iI (0), tc, rfl, ⟨by rw [if_neg (by omega)], by rw [if_neg (by omega)]⟩, by rw [ht]; exact hP, va_K.moved hW.alike hK, hD⟩, hS.F ht⟩) hS.2.2 dX3_end_13
set_option maxHeartbeats 4000000 in
set_option maxRecDepth 100000 in
/-- lay(v) -/
theorem c_X3_lay (l : Launch) (dC : Nat → ClassId) (dI : Nat → Nat → Nat) (cB cI : ClassId) (sz : Nat) (m0 mt mi mk mf ml tc n w ks : Nat) (ft pa : Int) (tf : Nat → Int32) (ht : tc + 4 ≤ 10240) (hfit : sb_Fit tf) (x : Int32) : Met l yX3_lay wX3_lay ({ frames := 0, cells := 0, slots := 0, locals := 0 }) (va_Pc [.ref m0, .int (x)] (vx_B (dC, dI) vwCl [(cB, .byte), (cI, .int)] [(m0, .inr (3, [.ref mt, .ref mi, .ref mk, .ref mf, .ref ml, .int (iI ((tc : Int))), .int (iI ((n : Int))), .int (iI ((w : Int))), .int (iI ((ks : Int))), .int (iI (ft)), .int (iI (pa))])), (mt, .inl (cB, 10240, .inl (tf)))] sz)) (va_Qv (fun (u : Nat → Int32) => sb_Fit u ∧ (∀ j, j < tc → u j = tf j) ∧ u tc = nb x 24 ∧ u (tc + 1) = nb x 16 ∧ u (tc + 2) = nb x 8 ∧ u (tc + 3) = nb x 0) (fun (u : Nat → Int32) => vx_E (dC, dI) vwCl [(cB, .byte), (cI, .int)] (va_A [(m0, .inr (3, [.ref mt, .ref mi, .ref mk, .ref mf, .ref ml, .int (iI ((tc : Int))), .int (iI ((n : Int))), .int (iI ((w : Int))), .int (iI ((ks : Int))), .int (iI (ft)), .int (iI (pa))])), (mt, .inl (cB, 10240, .inl (tf)))] sz) [(m0, .inr (3, [.ref mt, .ref mi, .ref mk, .ref mf, .ref ml, .int (iI (((tc + 4 : Nat) : Int))), .int (iI ((n : Int))), .int (iI ((w : Int))), .int (iI ((ks : Int))), .int (iI (ft)), .int (iI (pa))])), (mt, .inl (cB, 10240, .inl (u)))]) (va_A [(m0, .inr (3, [.ref mt, .ref mi, .ref mk, .ref mf, .ref ml, .int (iI ((tc : Int))), .int (iI ((n : Int))), .int (iI ((w : Int))), .int (iI ((ks : Int))), .int (iI (ft)), .int (iI (pa))])), (mt, .inl (cB, 10240, .inl (tf)))] sz)) (0) (0) (va_A [(m0, .inr (3, [.ref mt, .ref mi, .ref mk, .ref mf, .ref ml, .int (iI ((tc : Int))), .int (iI ((n : Int))), .int (iI ((w : Int))), .int (iI ((ks : Int))), .int (iI (ft)), .int (iI (pa))])), (mt, .inl (cB, 10240, .inl (tf)))] sz) := by
  refine Met.ofW (cc := cX3_lay) (maxL := 3) (ret := none) (by decide) rfl ?_
  intro p e s m args below meth c s₁ B hml hv
  obtain ⟨rfl, hsz, hP, hK, hD0⟩ := hv
  have hx := B.exec
  have hb := B.bytes
  have hr := B.returns
  have hts := atoms_spec (ws := wX3_lay) B.pre
  have hown : s.vm.findClass "RequestCutterModel" = some m.cls := findClass_of_methodNamed B.named
  have hlocks := B.notSynchronized
  subst hsz
  have hD := hD0.self (sz := s.heap.size)
  generalize hAe : va_A [(m0, .inr (3, [.ref mt, .ref mi, .ref mk, .ref mf, .ref ml, .int (iI ((tc : Int))), .int (iI ((n : Int))), .int (iI ((w : Int))), .int (iI ((ks : Int))), .int (iI (ft)), .int (iI (pa))])), (mt, .inl (cB, 10240, .inl (tf)))] s.heap.size = A at hD ⊢
  have hA : ∀ q : Nat, s.heap.size ≤ q → A q := fun q h => by rw [← hAe]; exact Or.inr h
  have hS : va_S A s.heap s.heap [] := va_S.rf
  have hP : va_P (dC, dI) vwCl [(m0, .inr (3, [.ref mt, .ref mi, .ref mk, .ref mf, .ref ml, .int (iI ((tc : Int))), .int (iI ((n : Int))), .int (iI ((w : Int))), .int (iI ((ks : Int))), .int (iI (ft)), .int (iI (pa))])), (mt, .inl (cB, 10240, .inl (tf)))] s.heap := hP
  have hl := lv_entry ([.ref m0, .int (x)]) (n := 3) (Nat.le_of_ble_eq_true rfl)
  rw [lg_entry_eq]
  generalize (lg_sl ([.ref m0, .int (x)]) ++ List.replicate (3 - (lg_sl ([.ref m0, .int (x)])).length) Slot.unset).toArray = ls at hl ⊢
  have hl : lv_has ls 3 [(0, .ref m0), (1, .int (x))] := hl
  refine lv_bipush (v := iI (24)) hx hb dX3_lay_0 (by decide) ?_
  refine lv_istore_n (lv' := [(2, .int (iI (24))), (0, .ref m0), (1, .int (x))]) hx hb dX3_lay_2 rfl hl (by decide) rfl (fun ls hl => ?_)
  refine lv_iload_n hx hb dX3_lay_3 rfl (lv_at hl 0 rfl) ?_
  refine lx_if_lt (a := 24) (tgt := 36) hx hb dX3_lay_4 (by decide) (by omega) (fun cq1 => ?_) (fun cq1 => ?_)
  · exact absurd cq1 (by omega)
  · refine lv_aload_n hx hb dX3_lay_7 rfl (lv_at hl 1 rfl) ?_
    refine va_get (D := (dC, dI)) (ci := 3) (v := .ref mt) (C := "RequestCutterModel") (T := TX3) (N := 11) hx hb hts (fun w h => List.mem_cons_of_mem _ (inX3 w h)) hown hK hP 0 rfl rfl 0 (by decide) (hts _ (List.mem_cons_of_mem _ tw_266)) (fun _ h9 => h9) rfl dX3_lay_8 ?_
    refine lv_aload_n hx hb dX3_lay_11 rfl (lv_at hl 1 rfl) ?_
    refine va_get (D := (dC, dI)) (ci := 3) (v := .int (iI ((tc : Int)))) (C := "RequestCutterModel") (T := TX3) (N := 11) hx hb hts (fun w h => List.mem_cons_of_mem _ (inX3 w h)) hown hK hP 0 rfl rfl 5 (by decide) (hts _ (List.mem_cons_of_mem _ tw_271)) (fun _ h9 => h9) rfl dX3_lay_12 ?_
    refine lv_iload_n hx hb dX3_lay_15 rfl (lv_at hl 2 rfl) ?_
    refine lv_iload_n hx hb dX3_lay_16 rfl (lv_at hl 0 rfl) ?_
    refine lv_ishr (x := x) (y := iI (24)) hx hb dX3_lay_17 ?_
    refine lv_i2b (v := nb (x) (24)) hx hb dX3_lay_18 (nb_s (x) (24) (by omega)) ?_
    refine lx_bast (x := nb (x) (24)) (v := nb (x) (24)) (i := (tc : Int)) hx hb hK hP hD hS 1 0 rfl rfl (tc) (by omega) (by omega) (nb_nar _ _) dX3_lay_19 (fun H locs hP hD hS => ?_)
    have hP : va_P (dC, dI) vwCl [(m0, .inr (3, [.ref mt, .ref mi, .ref mk, .ref mf, .ref ml, .int (iI ((tc : Int))), .int (iI ((n : Int))), .int (iI ((w : Int))), .int (iI ((ks : Int))), .int (iI (ft)), .int (iI (pa))])), (mt, .inl (cB, 10240, .inl (upd (tf) (tc) (nb (x) (24)))))] H := hP
    have hD : va_D A [(m0, .inr (3, [.ref mt, .ref mi, .ref mk, .ref mf, .ref ml, .int (iI ((tc : Int))), .int (iI ((n : Int))), .int (iI ((w : Int))), .int (iI ((ks : Int))), .int (iI (ft)), .int (iI (pa))])), (mt, .inl (cB, 10240, .inl (upd (tf) (tc) (nb (x) (24)))))] := hD
    refine lv_aload_n hx hb dX3_lay_20 rfl (lv_at hl 1 rfl) ?_
    refine lv_dup hx hb dX3_lay_21 rfl ?_
    refine va_get (D := (dC, dI)) (ci := 3) (v := .int (iI ((tc : Int)))) (C := "RequestCutterModel") (T := TX3) (N := 11) hx hb hts (fun w h => List.mem_cons_of_mem _ (inX3 w h)) hown hK hP 0 rfl rfl 5 (by decide) (hts _ (List.mem_cons_of_mem _ tw_271)) (fun _ h9 => h9) rfl dX3_lay_22 ?_
    refine lv_iconst (v := iI (1)) hx hb dX3_lay_25 rfl ?_
    refine lx_iadd (a := (tc : Int)) (b := 1) hx hb dX3_lay_26 ?_
    refine lx_top (x2 := iI ((tc + 1 : Nat) : Int)) (congrArg iI (by omega)) ?_
    refine va_put (D := (dC, dI)) (ci := 3) (v := .int (iI (((tc + 1 : Nat) : Int)))) (ty := .int) (C := "RequestCutterModel") (T := TX3) (N := 11) hx hb hts (fun w h => List.mem_cons_of_mem _ (inX3 w h)) tyX3 tyX3_ok nmX3 hown hK hP hD hS 0 rfl rfl 5 (by decide) (hts _ (List.mem_cons_of_mem _ tw_271)) (fun _ h9 => h9) rfl (by decide +kernel) rfl rfl (Nat.le_of_ble_eq_true rfl) dX3_lay_27 (fun H locs hP hD hS => ?_)
    have hP : va_P (dC, dI) vwCl [(m0, .inr (3, [.ref mt, .ref mi, .ref mk, .ref mf, .ref ml, .int (iI (((tc + 1 : Nat) : Int))), .int (iI ((n : Int))), .int (iI ((w : Int))), .int (iI ((ks : Int))), .int (iI (ft)), .int (iI (pa))])), (mt, .inl (cB, 10240, .inl (upd (tf) (tc) (nb (x) (24)))))] H := hP
    have hD : va_D A [(m0, .inr (3, [.ref mt, .ref mi, .ref mk, .ref mf, .ref ml, .int (iI (((tc + 1 : Nat) : Int))), .int (iI ((n : Int))), .int (iI ((w : Int))), .int (iI ((ks : Int))), .int (iI (ft)), .int (iI (pa))])), (mt, .inl (cB, 10240, .inl (upd (tf) (tc) (nb (x) (24)))))] := hD
    refine lv_iinc (v := iI (24 + (-8))) (lv' := [(2, .int (iI (24 + (-8)))), (0, .ref m0), (1, .int (x))]) hx hb dX3_lay_30 hl (k := 0) rfl (iI_add _ _) (by decide) rfl (fun ls hl => ?_)
    refine lv_goto (tgt := 3) hx hb dX3_lay_33 (by decide) ?_
    refine lv_iload_n hx hb dX3_lay_3 rfl (lv_at hl 0 rfl) ?_
    refine lx_if_lt (a := 24 + (-8)) (tgt := 36) hx hb dX3_lay_4 (by decide) (by omega) (fun cq2 => ?_) (fun cq2 => ?_)
    · exact absurd cq2 (by omega)
    · refine lv_aload_n hx hb dX3_lay_7 rfl (lv_at hl 1 rfl) ?_
      refine va_get (D := (dC, dI)) (ci := 3) (v := .ref mt) (C := "RequestCutterModel") (T := TX3) (N := 11) hx hb hts (fun w h => List.mem_cons_of_mem _ (inX3 w h)) hown hK hP 0 rfl rfl 0 (by decide) (hts _ (List.mem_cons_of_mem _ tw_266)) (fun _ h9 => h9) rfl dX3_lay_8 ?_
      refine lv_aload_n hx hb dX3_lay_11 rfl (lv_at hl 1 rfl) ?_
      refine va_get (D := (dC, dI)) (ci := 3) (v := .int (iI (((tc + 1 : Nat) : Int)))) (C := "RequestCutterModel") (T := TX3) (N := 11) hx hb hts (fun w h => List.mem_cons_of_mem _ (inX3 w h)) hown hK hP 0 rfl rfl 5 (by decide) (hts _ (List.mem_cons_of_mem _ tw_271)) (fun _ h9 => h9) rfl dX3_lay_12 ?_
      refine lv_iload_n hx hb dX3_lay_15 rfl (lv_at hl 2 rfl) ?_
      refine lv_iload_n hx hb dX3_lay_16 rfl (lv_at hl 0 rfl) ?_
      refine lv_ishr (x := x) (y := iI (24 + (-8))) hx hb dX3_lay_17 ?_
      refine lv_i2b (v := nb (x) (24 + (-8))) hx hb dX3_lay_18 (nb_s (x) (24 + (-8)) (by omega)) ?_
      refine lx_bast (x := nb (x) (24 + (-8))) (v := nb (x) (24 + (-8))) (i := ((tc + 1 : Nat) : Int)) hx hb hK hP hD hS 1 0 rfl rfl (tc + 1) (by omega) (by omega) (nb_nar _ _) dX3_lay_19 (fun H locs hP hD hS => ?_)
      have hP : va_P (dC, dI) vwCl [(m0, .inr (3, [.ref mt, .ref mi, .ref mk, .ref mf, .ref ml, .int (iI (((tc + 1 : Nat) : Int))), .int (iI ((n : Int))), .int (iI ((w : Int))), .int (iI ((ks : Int))), .int (iI (ft)), .int (iI (pa))])), (mt, .inl (cB, 10240, .inl (upd (upd (tf) (tc) (nb (x) (24))) (tc + 1) (nb (x) (24 + (-8))))))] H := hP
      have hD : va_D A [(m0, .inr (3, [.ref mt, .ref mi, .ref mk, .ref mf, .ref ml, .int (iI (((tc + 1 : Nat) : Int))), .int (iI ((n : Int))), .int (iI ((w : Int))), .int (iI ((ks : Int))), .int (iI (ft)), .int (iI (pa))])), (mt, .inl (cB, 10240, .inl (upd (upd (tf) (tc) (nb (x) (24))) (tc + 1) (nb (x) (24 + (-8))))))] := hD
      refine lv_aload_n hx hb dX3_lay_20 rfl (lv_at hl 1 rfl) ?_
      refine lv_dup hx hb dX3_lay_21 rfl ?_
      refine va_get (D := (dC, dI)) (ci := 3) (v := .int (iI (((tc + 1 : Nat) : Int)))) (C := "RequestCutterModel") (T := TX3) (N := 11) hx hb hts (fun w h => List.mem_cons_of_mem _ (inX3 w h)) hown hK hP 0 rfl rfl 5 (by decide) (hts _ (List.mem_cons_of_mem _ tw_271)) (fun _ h9 => h9) rfl dX3_lay_22 ?_
      refine lv_iconst (v := iI (1)) hx hb dX3_lay_25 rfl ?_
      refine lx_iadd (a := ((tc + 1 : Nat) : Int)) (b := 1) hx hb dX3_lay_26 ?_
      refine lx_top (x2 := iI ((tc + 2 : Nat) : Int)) (congrArg iI (by omega)) ?_
      refine va_put (D := (dC, dI)) (ci := 3) (v := .int (iI (((tc + 2 : Nat) : Int)))) (ty := .int) (C := "RequestCutterModel") (T := TX3) (N := 11) hx hb hts (fun w h => List.mem_cons_of_mem _ (inX3 w h)) tyX3 tyX3_ok nmX3 hown hK hP hD hS 0 rfl rfl 5 (by decide) (hts _ (List.mem_cons_of_mem _ tw_271)) (fun _ h9 => h9) rfl (by decide +kernel) rfl rfl (Nat.le_of_ble_eq_true rfl) dX3_lay_27 (fun H locs hP hD hS => ?_)
      have hP : va_P (dC, dI) vwCl [(m0, .inr (3, [.ref mt, .ref mi, .ref mk, .ref mf, .ref ml, .int (iI (((tc + 2 : Nat) : Int))), .int (iI ((n : Int))), .int (iI ((w : Int))), .int (iI ((ks : Int))), .int (iI (ft)), .int (iI (pa))])), (mt, .inl (cB, 10240, .inl (upd (upd (tf) (tc) (nb (x) (24))) (tc + 1) (nb (x) (24 + (-8))))))] H := hP
      have hD : va_D A [(m0, .inr (3, [.ref mt, .ref mi, .ref mk, .ref mf, .ref ml, .int (iI (((tc + 2 : Nat) : Int))), .int (iI ((n : Int))), .int (iI ((w : Int))), .int (iI ((ks : Int))), .int (iI (ft)), .int (iI (pa))])), (mt, .inl (cB, 10240, .inl (upd (upd (tf) (tc) (nb (x) (24))) (tc + 1) (nb (x) (24 + (-8))))))] := hD
      refine lv_iinc (v := iI (24 + (-8) + (-8))) (lv' := [(2, .int (iI (24 + (-8) + (-8)))), (0, .ref m0), (1, .int (x))]) hx hb dX3_lay_30 hl (k := 0) rfl (iI_add _ _) (by decide) rfl (fun ls hl => ?_)
      refine lv_goto (tgt := 3) hx hb dX3_lay_33 (by decide) ?_
      refine lv_iload_n hx hb dX3_lay_3 rfl (lv_at hl 0 rfl) ?_
      refine lx_if_lt (a := 24 + (-8) + (-8)) (tgt := 36) hx hb dX3_lay_4 (by decide) (by omega) (fun cq3 => ?_) (fun cq3 => ?_)
      · exact absurd cq3 (by omega)
      · refine lv_aload_n hx hb dX3_lay_7 rfl (lv_at hl 1 rfl) ?_
        refine va_get (D := (dC, dI)) (ci := 3) (v := .ref mt) (C := "RequestCutterModel") (T := TX3) (N := 11) hx hb hts (fun w h => List.mem_cons_of_mem _ (inX3 w h)) hown hK hP 0 rfl rfl 0 (by decide) (hts _ (List.mem_cons_of_mem _ tw_266)) (fun _ h9 => h9) rfl dX3_lay_8 ?_
        refine lv_aload_n hx hb dX3_lay_11 rfl (lv_at hl 1 rfl) ?_
        refine va_get (D := (dC, dI)) (ci := 3) (v := .int (iI (((tc + 2 : Nat) : Int)))) (C := "RequestCutterModel") (T := TX3) (N := 11) hx hb hts (fun w h => List.mem_cons_of_mem _ (inX3 w h)) hown hK hP 0 rfl rfl 5 (by decide) (hts _ (List.mem_cons_of_mem _ tw_271)) (fun _ h9 => h9) rfl dX3_lay_12 ?_
        refine lv_iload_n hx hb dX3_lay_15 rfl (lv_at hl 2 rfl) ?_
        refine lv_iload_n hx hb dX3_lay_16 rfl (lv_at hl 0 rfl) ?_
        refine lv_ishr (x := x) (y := iI (24 + (-8) + (-8))) hx hb dX3_lay_17 ?_
        refine lv_i2b (v := nb (x) (24 + (-8) + (-8))) hx hb dX3_lay_18 (nb_s (x) (24 + (-8) + (-8)) (by omega)) ?_
        refine lx_bast (x := nb (x) (24 + (-8) + (-8))) (v := nb (x) (24 + (-8) + (-8))) (i := ((tc + 2 : Nat) : Int)) hx hb hK hP hD hS 1 0 rfl rfl (tc + 2) (by omega) (by omega) (nb_nar _ _) dX3_lay_19 (fun H locs hP hD hS => ?_)
        have hP : va_P (dC, dI) vwCl [(m0, .inr (3, [.ref mt, .ref mi, .ref mk, .ref mf, .ref ml, .int (iI (((tc + 2 : Nat) : Int))), .int (iI ((n : Int))), .int (iI ((w : Int))), .int (iI ((ks : Int))), .int (iI (ft)), .int (iI (pa))])), (mt, .inl (cB, 10240, .inl (upd (upd (upd (tf) (tc) (nb (x) (24))) (tc + 1) (nb (x) (24 + (-8)))) (tc + 2) (nb (x) (24 + (-8) + (-8))))))] H := hP
        have hD : va_D A [(m0, .inr (3, [.ref mt, .ref mi, .ref mk, .ref mf, .ref ml, .int (iI (((tc + 2 : Nat) : Int))), .int (iI ((n : Int))), .int (iI ((w : Int))), .int (iI ((ks : Int))), .int (iI (ft)), .int (iI (pa))])), (mt, .inl (cB, 10240, .inl (upd (upd (upd (tf) (tc) (nb (x) (24))) (tc + 1) (nb (x) (24 + (-8)))) (tc + 2) (nb (x) (24 + (-8) + (-8))))))] := hD
        refine lv_aload_n hx hb dX3_lay_20 rfl (lv_at hl 1 rfl) ?_
        refine lv_dup hx hb dX3_lay_21 rfl ?_
        refine va_get (D := (dC, dI)) (ci := 3) (v := .int (iI (((tc + 2 : Nat) : Int)))) (C := "RequestCutterModel") (T := TX3) (N := 11) hx hb hts (fun w h => List.mem_cons_of_mem _ (inX3 w h)) hown hK hP 0 rfl rfl 5 (by decide) (hts _ (List.mem_cons_of_mem _ tw_271)) (fun _ h9 => h9) rfl dX3_lay_22 ?_
        refine lv_iconst (v := iI (1)) hx hb dX3_lay_25 rfl ?_
        refine lx_iadd (a := ((tc + 2 : Nat) : Int)) (b := 1) hx hb dX3_lay_26 ?_
        refine lx_top (x2 := iI ((tc + 3 : Nat) : Int)) (congrArg iI (by omega)) ?_
        refine va_put (D := (dC, dI)) (ci := 3) (v := .int (iI (((tc + 3 : Nat) : Int)))) (ty := .int) (C := "RequestCutterModel") (T := TX3) (N := 11) hx hb hts (fun w h => List.mem_cons_of_mem _ (inX3 w h)) tyX3 tyX3_ok nmX3 hown hK hP hD hS 0 rfl rfl 5 (by decide) (hts _ (List.mem_cons_of_mem _ tw_271)) (fun _ h9 => h9) rfl (by decide +kernel) rfl rfl (Nat.le_of_ble_eq_true rfl) dX3_lay_27 (fun H locs hP hD hS => ?_)
        have hP : va_P (dC, dI) vwCl [(m0, .inr (3, [.ref mt, .ref mi, .ref mk, .ref mf, .ref ml, .int (iI (((tc + 3 : Nat) : Int))), .int (iI ((n : Int))), .int (iI ((w : Int))), .int (iI ((ks : Int))), .int (iI (ft)), .int (iI (pa))])), (mt, .inl (cB, 10240, .inl (upd (upd (upd (tf) (tc) (nb (x) (24))) (tc + 1) (nb (x) (24 + (-8)))) (tc + 2) (nb (x) (24 + (-8) + (-8))))))] H := hP
        have hD : va_D A [(m0, .inr (3, [.ref mt, .ref mi, .ref mk, .ref mf, .ref ml, .int (iI (((tc + 3 : Nat) : Int))), .int (iI ((n : Int))), .int (iI ((w : Int))), .int (iI ((ks : Int))), .int (iI (ft)), .int (iI (pa))])), (mt, .inl (cB, 10240, .inl (upd (upd (upd (tf) (tc) (nb (x) (24))) (tc + 1) (nb (x) (24 + (-8)))) (tc + 2) (nb (x) (24 + (-8) + (-8))))))] := hD
        refine lv_iinc (v := iI (24 + (-8) + (-8) + (-8))) (lv' := [(2, .int (iI (24 + (-8) + (-8) + (-8)))), (0, .ref m0), (1, .int (x))]) hx hb dX3_lay_30 hl (k := 0) rfl (iI_add _ _) (by decide) rfl (fun ls hl => ?_)
        refine lv_goto (tgt := 3) hx hb dX3_lay_33 (by decide) ?_
        refine lv_iload_n hx hb dX3_lay_3 rfl (lv_at hl 0 rfl) ?_
        refine lx_if_lt (a := 24 + (-8) + (-8) + (-8)) (tgt := 36) hx hb dX3_lay_4 (by decide) (by omega) (fun cq4 => ?_) (fun cq4 => ?_)
        · exact absurd cq4 (by omega)
        · refine lv_aload_n hx hb dX3_lay_7 rfl (lv_at hl 1 rfl) ?_
          refine va_get (D := (dC, dI)) (ci := 3) (v := .ref mt) (C := "RequestCutterModel") (T := TX3) (N := 11) hx hb hts (fun w h => List.mem_cons_of_mem _ (inX3 w h)) hown hK hP 0 rfl rfl 0 (by decide) (hts _ (List.mem_cons_of_mem _ tw_266)) (fun _ h9 => h9) rfl dX3_lay_8 ?_
          refine lv_aload_n hx hb dX3_lay_11 rfl (lv_at hl 1 rfl) ?_
          refine va_get (D := (dC, dI)) (ci := 3) (v := .int (iI (((tc + 3 : Nat) : Int)))) (C := "RequestCutterModel") (T := TX3) (N := 11) hx hb hts (fun w h => List.mem_cons_of_mem _ (inX3 w h)) hown hK hP 0 rfl rfl 5 (by decide) (hts _ (List.mem_cons_of_mem _ tw_271)) (fun _ h9 => h9) rfl dX3_lay_12 ?_
          refine lv_iload_n hx hb dX3_lay_15 rfl (lv_at hl 2 rfl) ?_
          refine lv_iload_n hx hb dX3_lay_16 rfl (lv_at hl 0 rfl) ?_
          refine lv_ishr (x := x) (y := iI (24 + (-8) + (-8) + (-8))) hx hb dX3_lay_17 ?_
          refine lv_i2b (v := nb (x) (24 + (-8) + (-8) + (-8))) hx hb dX3_lay_18 (nb_s (x) (24 + (-8) + (-8) + (-8)) (by omega)) ?_
          refine lx_bast (x := nb (x) (24 + (-8) + (-8) + (-8))) (v := nb (x) (24 + (-8) + (-8) + (-8))) (i := ((tc + 3 : Nat) : Int)) hx hb hK hP hD hS 1 0 rfl rfl (tc + 3) (by omega) (by omega) (nb_nar _ _) dX3_lay_19 (fun H locs hP hD hS => ?_)
          have hP : va_P (dC, dI) vwCl [(m0, .inr (3, [.ref mt, .ref mi, .ref mk, .ref mf, .ref ml, .int (iI (((tc + 3 : Nat) : Int))), .int (iI ((n : Int))), .int (iI ((w : Int))), .int (iI ((ks : Int))), .int (iI (ft)), .int (iI (pa))])), (mt, .inl (cB, 10240, .inl (upd (upd (upd (upd (tf) (tc) (nb (x) (24))) (tc + 1) (nb (x) (24 + (-8)))) (tc + 2) (nb (x) (24 + (-8) + (-8)))) (tc + 3) (nb (x) (24 + (-8) + (-8) + (-8))))))] H := hP
          have hD : va_D A [(m0, .inr (3, [.ref mt, .ref mi, .ref mk, .ref mf, .ref ml, .int (iI (((tc + 3 : Nat) : Int))), .int (iI ((n : Int))), .int (iI ((w : Int))), .int (iI ((ks : Int))), .int (iI (ft)), .int (iI (pa))])), (mt, .inl (cB, 10240, .inl (upd (upd (upd (upd (tf) (tc) (nb (x) (24))) (tc + 1) (nb (x) (24 + (-8)))) (tc + 2) (nb (x) (24 + (-8) + (-8)))) (tc + 3) (nb (x) (24 + (-8) + (-8) + (-8))))))] := hD
          refine lv_aload_n hx hb dX3_lay_20 rfl (lv_at hl 1 rfl) ?_
          refine lv_dup hx hb dX3_lay_21 rfl ?_
          refine va_get (D := (dC, dI)) (ci := 3) (v := .int (iI (((tc + 3 : Nat) : Int)))) (C := "RequestCutterModel") (T := TX3) (N := 11) hx hb hts (fun w h => List.mem_cons_of_mem _ (inX3 w h)) hown hK hP 0 rfl rfl 5 (by decide) (hts _ (List.mem_cons_of_mem _ tw_271)) (fun _ h9 => h9) rfl dX3_lay_22 ?_
          refine lv_iconst (v := iI (1)) hx hb dX3_lay_25 rfl ?_
          refine lx_iadd (a := ((tc + 3 : Nat) : Int)) (b := 1) hx hb dX3_lay_26 ?_
          refine lx_top (x2 := iI ((tc + 4 : Nat) : Int)) (congrArg iI (by omega)) ?_
          refine va_put (D := (dC, dI)) (ci := 3) (v := .int (iI (((tc + 4 : Nat) : Int)))) (ty := .int) (C := "RequestCutterModel") (T := TX3) (N := 11) hx hb hts (fun w h => List.mem_cons_of_mem _ (inX3 w h)) tyX3 tyX3_ok nmX3 hown hK hP hD hS 0 rfl rfl 5 (by decide) (hts _ (List.mem_cons_of_mem _ tw_271)) (fun _ h9 => h9) rfl (by decide +kernel) rfl rfl (Nat.le_of_ble_eq_true rfl) dX3_lay_27 (fun H locs hP hD hS => ?_)
          have hP : va_P (dC, dI) vwCl [(m0, .inr (3, [.ref mt, .ref mi, .ref mk, .ref mf, .ref ml, .int (iI (((tc + 4 : Nat) : Int))), .int (iI ((n : Int))), .int (iI ((w : Int))), .int (iI ((ks : Int))), .int (iI (ft)), .int (iI (pa))])), (mt, .inl (cB, 10240, .inl (upd (upd (upd (upd (tf) (tc) (nb (x) (24))) (tc + 1) (nb (x) (24 + (-8)))) (tc + 2) (nb (x) (24 + (-8) + (-8)))) (tc + 3) (nb (x) (24 + (-8) + (-8) + (-8))))))] H := hP
          have hD : va_D A [(m0, .inr (3, [.ref mt, .ref mi, .ref mk, .ref mf, .ref ml, .int (iI (((tc + 4 : Nat) : Int))), .int (iI ((n : Int))), .int (iI ((w : Int))), .int (iI ((ks : Int))), .int (iI (ft)), .int (iI (pa))])), (mt, .inl (cB, 10240, .inl (upd (upd (upd (upd (tf) (tc) (nb (x) (24))) (tc + 1) (nb (x) (24 + (-8)))) (tc + 2) (nb (x) (24 + (-8) + (-8)))) (tc + 3) (nb (x) (24 + (-8) + (-8) + (-8))))))] := hD
          refine lv_iinc (v := iI (24 + (-8) + (-8) + (-8) + (-8))) (lv' := [(2, .int (iI (24 + (-8) + (-8) + (-8) + (-8)))), (0, .ref m0), (1, .int (x))]) hx hb dX3_lay_30 hl (k := 0) rfl (iI_add _ _) (by decide) rfl (fun ls hl => ?_)
          refine lv_goto (tgt := 3) hx hb dX3_lay_33 (by decide) ?_
          refine lv_iload_n hx hb dX3_lay_3 rfl (lv_at hl 0 rfl) ?_
          refine lx_if_lt (a := 24 + (-8) + (-8) + (-8) + (-8)) (tgt := 36) hx hb dX3_lay_4 (by decide) (by omega) (fun cq5 => ?_) (fun cq5 => ?_)
          · exact W.vret hx hb hr (fun t ht hW => ⟨⟨(upd (upd (upd (upd (tf) (tc) (nb (x) (24))) (tc + 1) (nb (x) (24 + (-8)))) (tc + 2) (nb (x) (24 + (-8) + (-8)))) (tc + 3) (nb (x) (24 + (-8) + (-8) + (-8)))), rfl, ⟨sb_fitU (sb_fitU (sb_fitU (sb_fitU hfit (nb_fit _ _)) (nb_fit _ _)) (nb_fit _ _)) (nb_fit _ _), fun j hj => by simp only [upd]; rw [if_neg (by omega), if_neg (by omega), if_neg (by omega), if_neg (by omega)], by simp only [upd]; rw [if_neg (by omega), if_neg (by omega), if_neg (by omega), if_pos trivial], by simp only [upd]; rw [if_neg (by omega), if_neg (by omega), if_pos trivial]; rfl, by simp only [upd]; rw [if_neg (by omega), if_pos trivial]; rfl, by simp only [upd]; rw [if_pos trivial]; rfl⟩, by rw [ht]; exact hP, va_K.moved hW.alike hK, hD⟩, hS.F ht⟩) hS.2.2 dX3_lay_36
          · exact absurd cq5 (by omega)
set_option maxHeartbeats 4000000 in
set_option maxRecDepth 100000 in
/-- feed -/
theorem c_X3_feed (l : Launch) (dC : Nat → ClassId) (dI : Nat → Nat → Nat) (cB cI : ClassId) (sz : Nat) (m0 mt mi mk mf ml tc n w ks : Nat) (ft pa : Int) (tf : Nat → Int32) (ht : tc ≤ 10240) (hfit0 : sb_Fit tf) (x1 x2 x3 x4 x5 : Int32) : Met l yX3_feed wX3_feed ({ frames := 1, cells := 0, slots := 0, locals := 22 }) (va_Pc [.ref m0, .int (x1), .int (x2), .int (x3), .int (x4), .int (x5)] (vx_B (dC, dI) vwCl [(cB, .byte), (cI, .int)] [(m0, .inr (3, [.ref mt, .ref mi, .ref mk, .ref mf, .ref ml, .int (iI ((tc : Int))), .int (iI ((n : Int))), .int (iI ((w : Int))), .int (iI ((ks : Int))), .int (iI (ft)), .int (iI (pa))])), (mt, .inl (cB, 10240, .inl (tf)))] sz)) (va_Qi (fun (r : Int32) (u : Nat × (Nat → Int32)) => r = iI (if tc + 20 ≤ 10240 then 1 else 0) ∧ sb_Fit u.2 ∧ (∀ j, j < tc → u.2 j = tf j) ∧ (tc + 20 ≤ 10240 → u.1 = tc + 20 ∧ ∀ j, j < 20 → u.2 (tc + j) = fB x1 x2 x3 x4 x5 j) ∧ (¬ tc + 20 ≤ 10240 → u.1 = tc)) (fun (u : Nat × (Nat → Int32)) => vx_E (dC, dI) vwCl [(cB, .byte), (cI, .int)] (va_A [(m0, .inr (3, [.ref mt, .ref mi, .ref mk, .ref mf, .ref ml, .int (iI ((tc : Int))), .int (iI ((n : Int))), .int (iI ((w : Int))), .int (iI ((ks : Int))), .int (iI (ft)), .int (iI (pa))])), (mt, .inl (cB, 10240, .inl (tf)))] sz) [(m0, .inr (3, [.ref mt, .ref mi, .ref mk, .ref mf, .ref ml, .int (iI ((u.1 : Int))), .int (iI ((n : Int))), .int (iI ((w : Int))), .int (iI ((ks : Int))), .int (iI (ft)), .int (iI (pa))])), (mt, .inl (cB, 10240, .inl (u.2)))]) (va_A [(m0, .inr (3, [.ref mt, .ref mi, .ref mk, .ref mf, .ref ml, .int (iI ((tc : Int))), .int (iI ((n : Int))), .int (iI ((w : Int))), .int (iI ((ks : Int))), .int (iI (ft)), .int (iI (pa))])), (mt, .inl (cB, 10240, .inl (tf)))] sz)) (0) (0) (va_A [(m0, .inr (3, [.ref mt, .ref mi, .ref mk, .ref mf, .ref ml, .int (iI ((tc : Int))), .int (iI ((n : Int))), .int (iI ((w : Int))), .int (iI ((ks : Int))), .int (iI (ft)), .int (iI (pa))])), (mt, .inl (cB, 10240, .inl (tf)))] sz) := by
  refine Met.ofW (cc := cX3_feed) (maxL := 6) (ret := (some .boolean)) (by decide) rfl ?_
  intro p e s m args below meth c s₁ B hml hv
  obtain ⟨rfl, hsz, hP, hK, hD0⟩ := hv
  have hx := B.exec
  have hb := B.bytes
  have hr := B.returns
  have hts := atoms_spec (ws := wX3_feed) B.pre
  have hown : s.vm.findClass "RequestCutterModel" = some m.cls := findClass_of_methodNamed B.named
  have hlocks := B.notSynchronized
  subst hsz
  have hD := hD0.self (sz := s.heap.size)
  generalize hAe : va_A [(m0, .inr (3, [.ref mt, .ref mi, .ref mk, .ref mf, .ref ml, .int (iI ((tc : Int))), .int (iI ((n : Int))), .int (iI ((w : Int))), .int (iI ((ks : Int))), .int (iI (ft)), .int (iI (pa))])), (mt, .inl (cB, 10240, .inl (tf)))] s.heap.size = A at hD ⊢
  have hA : ∀ q : Nat, s.heap.size ≤ q → A q := fun q h => by rw [← hAe]; exact Or.inr h
  have hS : va_S A s.heap s.heap [] := va_S.rf
  have hP : va_P (dC, dI) vwCl [(m0, .inr (3, [.ref mt, .ref mi, .ref mk, .ref mf, .ref ml, .int (iI ((tc : Int))), .int (iI ((n : Int))), .int (iI ((w : Int))), .int (iI ((ks : Int))), .int (iI (ft)), .int (iI (pa))])), (mt, .inl (cB, 10240, .inl (tf)))] s.heap := hP
  have hl := lv_entry ([.ref m0, .int (x1), .int (x2), .int (x3), .int (x4), .int (x5)]) (n := 6) (Nat.le_of_ble_eq_true rfl)
  rw [lg_entry_eq]
  generalize (lg_sl ([.ref m0, .int (x1), .int (x2), .int (x3), .int (x4), .int (x5)]) ++ List.replicate (6 - (lg_sl ([.ref m0, .int (x1), .int (x2), .int (x3), .int (x4), .int (x5)])).length) Slot.unset).toArray = ls at hl ⊢
  have hl : lv_has ls 6 [(0, .ref m0), (1, .int (x1)), (2, .int (x2)), (3, .int (x3)), (4, .int (x4)), (5, .int (x5))] := hl
  refine lv_aload_n hx hb dX3_feed_0 rfl (lv_at hl 0 rfl) ?_
  refine va_get (D := (dC, dI)) (ci := 3) (v := .int (iI ((tc : Int)))) (C := "RequestCutterModel") (T := TX3) (N := 11) hx hb hts (fun w h => List.mem_cons_of_mem _ (inX3 w h)) hown hK hP 0 rfl rfl 5 (by decide) (hts _ (List.mem_cons_of_mem _ tw_271)) (fun _ h9 => h9) rfl dX3_feed_1 ?_
  refine lv_bipush (v := iI (20)) hx hb dX3_feed_4 (by decide) ?_
  refine lx_iadd (a := (tc : Int)) (b := 20) hx hb dX3_feed_6 ?_
  refine lv_sipush (v := iI (10240)) hx hb dX3_feed_7 (by decide) ?_
  refine lx_icmp_le (a := ((tc : Int)) + 20) (b := 10240) (tgt := 15) hx hb dX3_feed_10 (by decide) (by omega) (by omega) (fun cq1 => ?_) (fun cq1 => ?_)
  · refine lv_aload_n hx hb dX3_feed_15 rfl (lv_at hl 0 rfl) ?_
    refine lv_iload_n hx hb dX3_feed_16 rfl (lv_at hl 1 rfl) ?_
    have hd0 : ∀ j, j < 0 → tf (tc + j) = fB x1 x2 x3 x4 x5 j := fun j hj => absurd hj (Nat.not_lt_zero j)
    refine vx_Vv (As := [.int (x1)]) (rest := []) (wr := []) (ci := 3) (q0 := 0) [0, 1] [] ⟨hx, hb, hml, hown, hts⟩ (c_X3_lay l dC dI cB cI _ m0 mt mi mk mf ml (tc) n w ks ft pa tf (by omega) hfit0 x1) (cwV 1 hts (gd_V tw_304 tw_306 tw_10 tw_22 tw_307) rfl rfl rfl (by decide +kernel) ⟨Nat.le_of_ble_eq_true rfl, Nat.le_of_ble_eq_true rfl⟩) hK hP hD hS hA rfl rfl rfl rfl (by decide) rfl rfl rfl rfl hl.1 rfl (Nat.le_of_ble_eq_true rfl) dX3_feed_17 ⟨Nat.zero_le _, Nat.zero_le _⟩ (fun u H locs hw hP hD hS => ?_)
    obtain ⟨f1, rfl⟩ : ∃ z, z = u := ⟨_, rfl⟩
    try dsimp only at hw hP hD
    obtain ⟨hfit1, hk1, e0, e1, e2, e3⟩ := hw
    have hP : va_P (dC, dI) vwCl [(m0, .inr (3, [.ref mt, .ref mi, .ref mk, .ref mf, .ref ml, .int (iI (((tc + 4 : Nat) : Int))), .int (iI ((n : Int))), .int (iI ((w : Int))), .int (iI ((ks : Int))), .int (iI (ft)), .int (iI (pa))])), (mt, .inl (cB, 10240, .inl (f1)))] H := hP.sub [0, 1] rfl
    have hD : va_D A [(m0, .inr (3, [.ref mt, .ref mi, .ref mk, .ref mf, .ref ml, .int (iI (((tc + 4 : Nat) : Int))), .int (iI ((n : Int))), .int (iI ((w : Int))), .int (iI ((ks : Int))), .int (iI (ft)), .int (iI (pa))])), (mt, .inl (cB, 10240, .inl (f1)))] := hD.sub [0, 1] (by decide) rfl
    have hd1 := fd_step hd0 (fun j hj => hk1 j (by omega)) e0 e1 e2 e3
    refine lv_aload_n hx hb dX3_feed_20 rfl (lv_at hl 0 rfl) ?_
    refine lv_iload_n hx hb dX3_feed_21 rfl (lv_at hl 2 rfl) ?_
    refine vx_Vv (As := [.int (x2)]) (rest := []) (wr := []) (ci := 3) (q0 := 0) [0, 1] [] ⟨hx, hb, hml, hown, hts⟩ (c_X3_lay l dC dI cB cI _ m0 mt mi mk mf ml (tc + 4) n w ks ft pa f1 (by omega) hfit1 x2) (cwV 1 hts (gd_V tw_304 tw_306 tw_10 tw_22 tw_307) rfl rfl rfl (by decide +kernel) ⟨Nat.le_of_ble_eq_true rfl, Nat.le_of_ble_eq_true rfl⟩) hK hP hD hS hA rfl rfl rfl rfl (by decide) rfl rfl rfl rfl hl.1 rfl (Nat.le_of_ble_eq_true rfl) dX3_feed_22 ⟨Nat.zero_le _, Nat.zero_le _⟩ (fun u H locs hw hP hD hS => ?_)
    obtain ⟨f2, rfl⟩ : ∃ z, z = u := ⟨_, rfl⟩
    try dsimp only at hw hP hD
    obtain ⟨hfit2, hk2, e0, e1, e2, e3⟩ := hw
    have hP : va_P (dC, dI) vwCl [(m0, .inr (3, [.ref mt, .ref mi, .ref mk, .ref mf, .ref ml, .int (iI (((tc + 4 + 4 : Nat) : Int))), .int (iI ((n : Int))), .int (iI ((w : Int))), .int (iI ((ks : Int))), .int (iI (ft)), .int (iI (pa))])), (mt, .inl (cB, 10240, .inl (f2)))] H := hP.sub [0, 1] rfl
    have hD : va_D A [(m0, .inr (3, [.ref mt, .ref mi, .ref mk, .ref mf, .ref ml, .int (iI (((tc + 4 + 4 : Nat) : Int))), .int (iI ((n : Int))), .int (iI ((w : Int))), .int (iI ((ks : Int))), .int (iI (ft)), .int (iI (pa))])), (mt, .inl (cB, 10240, .inl (f2)))] := hD.sub [0, 1] (by decide) rfl
    have hd2 := fd_step hd1 (fun j hj => hk2 j (by omega)) e0 e1 e2 e3
    refine lv_aload_n hx hb dX3_feed_25 rfl (lv_at hl 0 rfl) ?_
    refine lv_iload_n hx hb dX3_feed_26 rfl (lv_at hl 3 rfl) ?_
    refine vx_Vv (As := [.int (x3)]) (rest := []) (wr := []) (ci := 3) (q0 := 0) [0, 1] [] ⟨hx, hb, hml, hown, hts⟩ (c_X3_lay l dC dI cB cI _ m0 mt mi mk mf ml (tc + 4 + 4) n w ks ft pa f2 (by omega) hfit2 x3) (cwV 1 hts (gd_V tw_304 tw_306 tw_10 tw_22 tw_307) rfl rfl rfl (by decide +kernel) ⟨Nat.le_of_ble_eq_true rfl, Nat.le_of_ble_eq_true rfl⟩) hK hP hD hS hA rfl rfl rfl rfl (by decide) rfl rfl rfl rfl hl.1 rfl (Nat.le_of_ble_eq_true rfl) dX3_feed_27 ⟨Nat.zero_le _, Nat.zero_le _⟩ (fun u H locs hw hP hD hS => ?_)
    obtain ⟨f3, rfl⟩ : ∃ z, z = u := ⟨_, rfl⟩
    try dsimp only at hw hP hD
    obtain ⟨hfit3, hk3, e0, e1, e2, e3⟩ := hw
    have hP : va_P (dC, dI) vwCl [(m0, .inr (3, [.ref mt, .ref mi, .ref mk, .ref mf, .ref ml, .int (iI (((tc + 4 + 4 + 4 : Nat) : Int))), .int (iI ((n : Int))), .int (iI ((w : Int))), .int (iI ((ks : Int))), .int (iI (ft)), .int (iI (pa))])), (mt, .inl (cB, 10240, .inl (f3)))] H := hP.sub [0, 1] rfl
    have hD : va_D A [(m0, .inr (3, [.ref mt, .ref mi, .ref mk, .ref mf, .ref ml, .int (iI (((tc + 4 + 4 + 4 : Nat) : Int))), .int (iI ((n : Int))), .int (iI ((w : Int))), .int (iI ((ks : Int))), .int (iI (ft)), .int (iI (pa))])), (mt, .inl (cB, 10240, .inl (f3)))] := hD.sub [0, 1] (by decide) rfl
    have hd3 := fd_step hd2 (fun j hj => hk3 j (by omega)) e0 e1 e2 e3
    refine lv_aload_n hx hb dX3_feed_30 rfl (lv_at hl 0 rfl) ?_
    refine lv_iload hx hb dX3_feed_31 (lv_at hl 4 rfl) ?_
    refine vx_Vv (As := [.int (x4)]) (rest := []) (wr := []) (ci := 3) (q0 := 0) [0, 1] [] ⟨hx, hb, hml, hown, hts⟩ (c_X3_lay l dC dI cB cI _ m0 mt mi mk mf ml (tc + 4 + 4 + 4) n w ks ft pa f3 (by omega) hfit3 x4) (cwV 1 hts (gd_V tw_304 tw_306 tw_10 tw_22 tw_307) rfl rfl rfl (by decide +kernel) ⟨Nat.le_of_ble_eq_true rfl, Nat.le_of_ble_eq_true rfl⟩) hK hP hD hS hA rfl rfl rfl rfl (by decide) rfl rfl rfl rfl hl.1 rfl (Nat.le_of_ble_eq_true rfl) dX3_feed_33 ⟨Nat.zero_le _, Nat.zero_le _⟩ (fun u H locs hw hP hD hS => ?_)
    obtain ⟨f4, rfl⟩ : ∃ z, z = u := ⟨_, rfl⟩
    try dsimp only at hw hP hD
    obtain ⟨hfit4, hk4, e0, e1, e2, e3⟩ := hw
    have hP : va_P (dC, dI) vwCl [(m0, .inr (3, [.ref mt, .ref mi, .ref mk, .ref mf, .ref ml, .int (iI (((tc + 4 + 4 + 4 + 4 : Nat) : Int))), .int (iI ((n : Int))), .int (iI ((w : Int))), .int (iI ((ks : Int))), .int (iI (ft)), .int (iI (pa))])), (mt, .inl (cB, 10240, .inl (f4)))] H := hP.sub [0, 1] rfl
    have hD : va_D A [(m0, .inr (3, [.ref mt, .ref mi, .ref mk, .ref mf, .ref ml, .int (iI (((tc + 4 + 4 + 4 + 4 : Nat) : Int))), .int (iI ((n : Int))), .int (iI ((w : Int))), .int (iI ((ks : Int))), .int (iI (ft)), .int (iI (pa))])), (mt, .inl (cB, 10240, .inl (f4)))] := hD.sub [0, 1] (by decide) rfl
    have hd4 := fd_step hd3 (fun j hj => hk4 j (by omega)) e0 e1 e2 e3
    refine lv_aload_n hx hb dX3_feed_36 rfl (lv_at hl 0 rfl) ?_
    refine lv_iload hx hb dX3_feed_37 (lv_at hl 5 rfl) ?_
    refine vx_Vv (As := [.int (x5)]) (rest := []) (wr := []) (ci := 3) (q0 := 0) [0, 1] [] ⟨hx, hb, hml, hown, hts⟩ (c_X3_lay l dC dI cB cI _ m0 mt mi mk mf ml (tc + 4 + 4 + 4 + 4) n w ks ft pa f4 (by omega) hfit4 x5) (cwV 1 hts (gd_V tw_304 tw_306 tw_10 tw_22 tw_307) rfl rfl rfl (by decide +kernel) ⟨Nat.le_of_ble_eq_true rfl, Nat.le_of_ble_eq_true rfl⟩) hK hP hD hS hA rfl rfl rfl rfl (by decide) rfl rfl rfl rfl hl.1 rfl (Nat.le_of_ble_eq_true rfl) dX3_feed_39 ⟨Nat.zero_le _, Nat.zero_le _⟩ (fun u H locs hw hP hD hS => ?_)
    obtain ⟨f5, rfl⟩ : ∃ z, z = u := ⟨_, rfl⟩
    try dsimp only at hw hP hD
    obtain ⟨hfit5, hk5, e0, e1, e2, e3⟩ := hw
    have hP : va_P (dC, dI) vwCl [(m0, .inr (3, [.ref mt, .ref mi, .ref mk, .ref mf, .ref ml, .int (iI (((tc + 4 + 4 + 4 + 4 + 4 : Nat) : Int))), .int (iI ((n : Int))), .int (iI ((w : Int))), .int (iI ((ks : Int))), .int (iI (ft)), .int (iI (pa))])), (mt, .inl (cB, 10240, .inl (f5)))] H := hP.sub [0, 1] rfl
    have hD : va_D A [(m0, .inr (3, [.ref mt, .ref mi, .ref mk, .ref mf, .ref ml, .int (iI (((tc + 4 + 4 + 4 + 4 + 4 : Nat) : Int))), .int (iI ((n : Int))), .int (iI ((w : Int))), .int (iI ((ks : Int))), .int (iI (ft)), .int (iI (pa))])), (mt, .inl (cB, 10240, .inl (f5)))] := hD.sub [0, 1] (by decide) rfl
    have hd5 := fd_step hd4 (fun j hj => hk5 j (by omega)) e0 e1 e2 e3
    refine lv_iconst (v := iI (1)) hx hb dX3_feed_42 rfl ?_
    exact W.zret (v := iI (1)) hx hb hr (by rfl) (fun t ht hW => ⟨⟨iI (1), (tc + 4 + 4 + 4 + 4 + 4, f5), rfl, ⟨by rw [if_pos (by omega)], hfit5, fun j hj => by show f5 j = _; rw [hk5 j (by omega), hk4 j (by omega), hk3 j (by omega), hk2 j (by omega), hk1 j hj], fun _ => ⟨rfl, hd5⟩, fun z => by omega⟩, by rw [ht]; exact hP, va_K.moved hW.alike hK, hD⟩, hS.F ht⟩) hS.2.2 dX3_feed_43
  · refine lv_iconst (v := iI (0)) hx hb dX3_feed_13 rfl ?_
    exact W.zret (v := iI (0)) hx hb hr (by rfl) (fun t ht hW => ⟨⟨iI (0), (tc, tf), rfl, ⟨by rw [if_neg (by omega)], hfit0, fun _ _ => rfl, fun z => by omega, fun _ => rfl⟩, by rw [ht]; exact hP, va_K.moved hW.alike hK, hD⟩, hS.F ht⟩) hS.2.2 dX3_feed_14
set_option maxHeartbeats 4000000 in
set_option maxRecDepth 100000 in
/-- arrive() -/
theorem c_X3_arrive (l : Launch) (dC : Nat → ClassId) (dI : Nat → Nat → Nat) (cB cI : ClassId) (sz : Nat) (m0 mt mi mk mf ml tc n w ks : Nat) (ft pa : Int) (tf f : Nat → Int32) (ht : tc ≤ 10240) (hn : n ≤ 65536) (htf : sb_Fit tf) (hfit : sb_Fit f) : Met l yX3_arrive wX3_arrive ({ frames := 0, cells := 0, slots := 0, locals := 0 }) (va_Pc [.ref m0] (vx_B (dC, dI) vwCl [(cB, .byte), (cI, .int)] [(m0, .inr (3, [.ref mt, .ref mi, .ref mk, .ref mf, .ref ml, .int (iI ((tc : Int))), .int (iI ((n : Int))), .int (iI ((w : Int))), .int (iI ((ks : Int))), .int (iI (ft)), .int (iI (pa))])), (mt, .inl (cB, 10240, .inl (tf))), (mi, .inl (cB, 65536, .inl (f)))] sz)) (va_Qi (fun (r : Int32) (u : Nat × (Nat → Int32)) => r = iI (if n + tc ≤ 65536 then ((n + tc : Nat) : Int) else -1) ∧ sb_Fit u.2 ∧ (∀ j, j < n → u.2 j = f j) ∧ (n + tc ≤ 65536 → u.1 = n + tc ∧ ∀ j, j < tc → u.2 (n + j) = tf j) ∧ (¬ n + tc ≤ 65536 → u.1 = n)) (fun (u : Nat × (Nat → Int32)) => vx_E (dC, dI) vwCl [(cB, .byte), (cI, .int)] (va_A [(m0, .inr (3, [.ref mt, .ref mi, .ref mk, .ref mf, .ref ml, .int (iI ((tc : Int))), .int (iI ((n : Int))), .int (iI ((w : Int))), .int (iI ((ks : Int))), .int (iI (ft)), .int (iI (pa))])), (mt, .inl (cB, 10240, .inl (tf))), (mi, .inl (cB, 65536, .inl (f)))] sz) [(m0, .inr (3, [.ref mt, .ref mi, .ref mk, .ref mf, .ref ml, .int (iI (((0 : Nat) : Int))), .int (iI ((u.1 : Int))), .int (iI ((w : Int))), .int (iI ((ks : Int))), .int (iI (ft)), .int (iI (pa))])), (mt, .inl (cB, 10240, .inl (tf))), (mi, .inl (cB, 65536, .inl (u.2)))]) (va_A [(m0, .inr (3, [.ref mt, .ref mi, .ref mk, .ref mf, .ref ml, .int (iI ((tc : Int))), .int (iI ((n : Int))), .int (iI ((w : Int))), .int (iI ((ks : Int))), .int (iI (ft)), .int (iI (pa))])), (mt, .inl (cB, 10240, .inl (tf))), (mi, .inl (cB, 65536, .inl (f)))] sz)) (0) (0) (va_A [(m0, .inr (3, [.ref mt, .ref mi, .ref mk, .ref mf, .ref ml, .int (iI ((tc : Int))), .int (iI ((n : Int))), .int (iI ((w : Int))), .int (iI ((ks : Int))), .int (iI (ft)), .int (iI (pa))])), (mt, .inl (cB, 10240, .inl (tf))), (mi, .inl (cB, 65536, .inl (f)))] sz) := by
  refine Met.ofW (cc := cX3_arrive) (maxL := 3) (ret := (some .int)) (by decide) rfl ?_
  intro p e s m args below meth c s₁ B hml hv
  obtain ⟨rfl, hsz, hP, hK, hD0⟩ := hv
  have hx := B.exec
  have hb := B.bytes
  have hr := B.returns
  have hts := atoms_spec (ws := wX3_arrive) B.pre
  have hown : s.vm.findClass "RequestCutterModel" = some m.cls := findClass_of_methodNamed B.named
  have hlocks := B.notSynchronized
  subst hsz
  have hD := hD0.self (sz := s.heap.size)
  generalize hAe : va_A [(m0, .inr (3, [.ref mt, .ref mi, .ref mk, .ref mf, .ref ml, .int (iI ((tc : Int))), .int (iI ((n : Int))), .int (iI ((w : Int))), .int (iI ((ks : Int))), .int (iI (ft)), .int (iI (pa))])), (mt, .inl (cB, 10240, .inl (tf))), (mi, .inl (cB, 65536, .inl (f)))] s.heap.size = A at hD ⊢
  have hA : ∀ q : Nat, s.heap.size ≤ q → A q := fun q h => by rw [← hAe]; exact Or.inr h
  have hS : va_S A s.heap s.heap [] := va_S.rf
  have hP : va_P (dC, dI) vwCl [(m0, .inr (3, [.ref mt, .ref mi, .ref mk, .ref mf, .ref ml, .int (iI ((tc : Int))), .int (iI ((n : Int))), .int (iI ((w : Int))), .int (iI ((ks : Int))), .int (iI (ft)), .int (iI (pa))])), (mt, .inl (cB, 10240, .inl (tf))), (mi, .inl (cB, 65536, .inl (f)))] s.heap := hP
  have hl := lv_entry ([.ref m0]) (n := 3) (Nat.le_of_ble_eq_true rfl)
  rw [lg_entry_eq]
  generalize (lg_sl ([.ref m0]) ++ List.replicate (3 - (lg_sl ([.ref m0])).length) Slot.unset).toArray = ls at hl ⊢
  have hl : lv_has ls 3 [(0, .ref m0)] := hl
  refine lv_aload_n hx hb dX3_arrive_0 rfl (lv_at hl 0 rfl) ?_
  refine va_get (D := (dC, dI)) (ci := 3) (v := .int (iI ((tc : Int)))) (C := "RequestCutterModel") (T := TX3) (N := 11) hx hb hts (fun w h => List.mem_cons_of_mem _ (inX3 w h)) hown hK hP 0 rfl rfl 5 (by decide) (hts _ (List.mem_cons_of_mem _ tw_271)) (fun _ h9 => h9) rfl dX3_arrive_1 ?_
  refine lv_istore_n (lv' := [(1, .int (iI ((tc : Int)))), (0, .ref m0)]) hx hb dX3_arrive_4 rfl hl (by decide) rfl (fun ls hl => ?_)
  refine lv_aload_n hx hb dX3_arrive_5 rfl (lv_at hl 1 rfl) ?_
  refine lv_iconst (v := iI (0)) hx hb dX3_arrive_6 rfl ?_
  refine va_put (D := (dC, dI)) (ci := 3) (v := .int (iI (((0 : Nat) : Int)))) (ty := .int) (C := "RequestCutterModel") (T := TX3) (N := 11) hx hb hts (fun w h => List.mem_cons_of_mem _ (inX3 w h)) tyX3 tyX3_ok nmX3 hown hK hP hD hS 0 rfl rfl 5 (by decide) (hts _ (List.mem_cons_of_mem _ tw_271)) (fun _ h9 => h9) rfl (by decide +kernel) rfl rfl (Nat.le_of_ble_eq_true rfl) dX3_arrive_7 (fun H locs hP hD hS => ?_)
  have hP : va_P (dC, dI) vwCl [(m0, .inr (3, [.ref mt, .ref mi, .ref mk, .ref mf, .ref ml, .int (iI (((0 : Nat) : Int))), .int (iI ((n : Int))), .int (iI ((w : Int))), .int (iI ((ks : Int))), .int (iI (ft)), .int (iI (pa))])), (mt, .inl (cB, 10240, .inl (tf))), (mi, .inl (cB, 65536, .inl (f)))] H := hP
  have hD : va_D A [(m0, .inr (3, [.ref mt, .ref mi, .ref mk, .ref mf, .ref ml, .int (iI (((0 : Nat) : Int))), .int (iI ((n : Int))), .int (iI ((w : Int))), .int (iI ((ks : Int))), .int (iI (ft)), .int (iI (pa))])), (mt, .inl (cB, 10240, .inl (tf))), (mi, .inl (cB, 65536, .inl (f)))] := hD
  refine lv_aload_n hx hb dX3_arrive_10 rfl (lv_at hl 1 rfl) ?_
  refine va_get (D := (dC, dI)) (ci := 3) (v := .int (iI ((n : Int)))) (C := "RequestCutterModel") (T := TX3) (N := 11) hx hb hts (fun w h => List.mem_cons_of_mem _ (inX3 w h)) hown hK hP 0 rfl rfl 6 (by decide) (hts _ (List.mem_cons_of_mem _ tw_272)) (fun _ h9 => h9) rfl dX3_arrive_11 ?_
  refine lv_iload_n hx hb dX3_arrive_14 rfl (lv_at hl 0 rfl) ?_
  refine lx_iadd (a := (n : Int)) (b := (tc : Int)) hx hb dX3_arrive_15 ?_
  refine lx_ldc (z := 65536) (v := 65536) hx hb hown (hts _ (List.mem_cons_of_mem _ tw_265)) (by decide) dX3_arrive_16 ?_
  refine lx_icmp_le (a := ((n : Int)) + ((tc : Int))) (b := 65536) (tgt := 23) hx hb dX3_arrive_18 (by decide) (by omega) (by omega) (fun cq1 => ?_) (fun cq1 => ?_)
  · refine lv_iconst (v := iI (0)) hx hb dX3_arrive_23 rfl ?_
    refine lv_istore_n (lv' := [(2, .int (iI (0))), (1, .int (iI ((tc : Int)))), (0, .ref m0)]) hx hb dX3_arrive_24 rfl hl (by decide) rfl (fun ls hl => ?_)
    refine (?_ : ∀ (k : Nat) (i : Nat) (g : Nat → Int32) (H : Heap) (locs : List Loc) (ls : Array Slot), i + k = tc → n + tc ≤ 65536 → sb_Fit g → (∀ j, j < n → g j = f j) → (∀ j, j < i → g (n + j) = tf j) → va_P (dC, dI) vwCl [(m0, .inr (3, [.ref mt, .ref mi, .ref mk, .ref mf, .ref ml, .int (iI (((0 : Nat) : Int))), .int (iI ((n : Int))), .int (iI ((w : Int))), .int (iI ((ks : Int))), .int (iI (ft)), .int (iI (pa))])), (mt, .inl (cB, 10240, .inl (tf))), (mi, .inl (cB, 65536, .inl (g)))] H → va_D A [(m0, .inr (3, [.ref mt, .ref mi, .ref mk, .ref mf, .ref ml, .int (iI (((0 : Nat) : Int))), .int (iI ((n : Int))), .int (iI ((w : Int))), .int (iI ((ks : Int))), .int (iI (ft)), .int (iI (pa))])), (mt, .inl (cB, 10240, .inl (tf))), (mi, .inl (cB, 65536, .inl (g)))] → va_S A s.heap H locs → lv_has ls 3 [(2, .int (iI ((i : Int)))), (1, .int (iI ((tc : Int)))), (0, .ref m0)] → W p l e _ s m _ below meth c H locs _ _ _ (F0 m 25 ls [])) (tc) (0) (f) _ _ ls (by omega) (by omega) (hfit) (fun _ _ => rfl) (fun j hj => absurd hj (Nat.not_lt_zero j)) (hP.sub [0, 1, 2] rfl) (hD.sub [0, 1, 2] (by decide) rfl) hS (lv_sub hl [0, 1, 2] rfl)
    intro k
    induction k with
    | zero =>
      intro i g H locs ls hk hin hg hg1 hg2 hP hD hS hl
      refine lv_iload_n hx hb dX3_arrive_25 rfl (lv_at hl 0 rfl) ?_
      refine lv_iload_n hx hb dX3_arrive_26 rfl (lv_at hl 1 rfl) ?_
      refine lx_icmp_ge (a := (i : Int)) (b := (tc : Int)) (tgt := 53) hx hb dX3_arrive_27 (by decide) (by omega) (by omega) (fun cq2 => ?_) (fun cq2 => ?_)
      · refine lv_aload_n hx hb dX3_arrive_53 rfl (lv_at hl 2 rfl) ?_
        refine lv_dup hx hb dX3_arrive_54 rfl ?_
        refine va_get (D := (dC, dI)) (ci := 3) (v := .int (iI ((n : Int)))) (C := "RequestCutterModel") (T := TX3) (N := 11) hx hb hts (fun w h => List.mem_cons_of_mem _ (inX3 w h)) hown hK hP 0 rfl rfl 6 (by decide) (hts _ (List.mem_cons_of_mem _ tw_272)) (fun _ h9 => h9) rfl dX3_arrive_55 ?_
        refine lv_iload_n hx hb dX3_arrive_58 rfl (lv_at hl 1 rfl) ?_
        refine lx_iadd (a := (n : Int)) (b := (tc : Int)) hx hb dX3_arrive_59 ?_
        refine lx_top (x2 := iI ((n + tc : Nat) : Int)) (congrArg iI (by omega)) ?_
        refine va_put (D := (dC, dI)) (ci := 3) (v := .int (iI (((n + tc : Nat) : Int)))) (ty := .int) (C := "RequestCutterModel") (T := TX3) (N := 11) hx hb hts (fun w h => List.mem_cons_of_mem _ (inX3 w h)) tyX3 tyX3_ok nmX3 hown hK hP hD hS 0 rfl rfl 6 (by decide) (hts _ (List.mem_cons_of_mem _ tw_272)) (fun _ h9 => h9) rfl (by decide +kernel) rfl rfl (Nat.le_of_ble_eq_true rfl) dX3_arrive_60 (fun H locs hP hD hS => ?_)
        have hP : va_P (dC, dI) vwCl [(m0, .inr (3, [.ref mt, .ref mi, .ref mk, .ref mf, .ref ml, .int (iI (((0 : Nat) : Int))), .int (iI (((n + tc : Nat) : Int))), .int (iI ((w : Int))), .int (iI ((ks : Int))), .int (iI (ft)), .int (iI (pa))])), (mt, .inl (cB, 10240, .inl (tf))), (mi, .inl (cB, 65536, .inl (g)))] H := hP
        have hD : va_D A [(m0, .inr (3, [.ref mt, .ref mi, .ref mk, .ref mf, .ref ml, .int (iI (((0 : Nat) : Int))), .int (iI (((n + tc : Nat) : Int))), .int (iI ((w : Int))), .int (iI ((ks : Int))), .int (iI (ft)), .int (iI (pa))])), (mt, .inl (cB, 10240, .inl (tf))), (mi, .inl (cB, 65536, .inl (g)))] := hD
        refine lv_aload_n hx hb dX3_arrive_63 rfl (lv_at hl 2 rfl) ?_
        refine va_get (D := (dC, dI)) (ci := 3) (v := .int (iI (((n + tc : Nat) : Int)))) (C := "RequestCutterModel") (T := TX3) (N := 11) hx hb hts (fun w h => List.mem_cons_of_mem _ (inX3 w h)) hown hK hP 0 rfl rfl 6 (by decide) (hts _ (List.mem_cons_of_mem _ tw_272)) (fun _ h9 => h9) rfl dX3_arrive_64 ?_
        exact W.iret (v := iI (((n + tc : Nat) : Int))) hx hb hr (fun t ht hW => ⟨⟨iI (((n + tc : Nat) : Int)), (n + tc, g), rfl, ⟨by rw [if_pos (by omega)], hg, hg1, fun _ => ⟨rfl, fun j hj => hg2 j (by omega)⟩, fun z => by omega⟩, by rw [ht]; exact hP, va_K.moved hW.alike hK, hD⟩, hS.F ht⟩) hS.2.2 dX3_arrive_67
      · exact absurd cq2 (by omega)
    | succ k ih =>
      intro i g H locs ls hk hin hg hg1 hg2 hP hD hS hl
      refine lv_iload_n hx hb dX3_arrive_25 rfl (lv_at hl 0 rfl) ?_
      refine lv_iload_n hx hb dX3_arrive_26 rfl (lv_at hl 1 rfl) ?_
      refine lx_icmp_ge (a := (i : Int)) (b := (tc : Int)) (tgt := 53) hx hb dX3_arrive_27 (by decide) (by omega) (by omega) (fun cq3 => ?_) (fun cq3 => ?_)
      · exact absurd cq3 (by omega)
      · refine lv_aload_n hx hb dX3_arrive_30 rfl (lv_at hl 2 rfl) ?_
        refine va_get (D := (dC, dI)) (ci := 3) (v := .ref mi) (C := "RequestCutterModel") (T := TX3) (N := 11) hx hb hts (fun w h => List.mem_cons_of_mem _ (inX3 w h)) hown hK hP 0 rfl rfl 1 (by decide) (hts _ (List.mem_cons_of_mem _ tw_267)) (fun _ h9 => h9) rfl dX3_arrive_31 ?_
        refine lv_aload_n hx hb dX3_arrive_34 rfl (lv_at hl 2 rfl) ?_
        refine va_get (D := (dC, dI)) (ci := 3) (v := .int (iI ((n : Int)))) (C := "RequestCutterModel") (T := TX3) (N := 11) hx hb hts (fun w h => List.mem_cons_of_mem _ (inX3 w h)) hown hK hP 0 rfl rfl 6 (by decide) (hts _ (List.mem_cons_of_mem _ tw_272)) (fun _ h9 => h9) rfl dX3_arrive_35 ?_
        refine lv_iload_n hx hb dX3_arrive_38 rfl (lv_at hl 0 rfl) ?_
        refine lx_iadd (a := (n : Int)) (b := (i : Int)) hx hb dX3_arrive_39 ?_
        refine lv_aload_n hx hb dX3_arrive_40 rfl (lv_at hl 2 rfl) ?_
        refine va_get (D := (dC, dI)) (ci := 3) (v := .ref mt) (C := "RequestCutterModel") (T := TX3) (N := 11) hx hb hts (fun w h => List.mem_cons_of_mem _ (inX3 w h)) hown hK hP 0 rfl rfl 0 (by decide) (hts _ (List.mem_cons_of_mem _ tw_266)) (fun _ h9 => h9) rfl dX3_arrive_41 ?_
        refine lv_iload_n hx hb dX3_arrive_44 rfl (lv_at hl 0 rfl) ?_
        refine va_bald hx hb hK hP 1 0 rfl rfl (iI_in (by omega)) dX3_arrive_45 ?_
        refine lx_top (x2 := (tf) (i)) (congrArg (tf) (iI_clN (n := i) (by omega))) ?_
        refine lx_bast (x := (tf) (i)) (v := tf i) (i := ((n : Int)) + ((i : Int))) hx hb hK hP hD hS 2 0 rfl rfl (n + i) (by omega) (by omega) (nar_fit (htf _)) dX3_arrive_46 (fun H locs hP hD hS => ?_)
        have hP : va_P (dC, dI) vwCl [(m0, .inr (3, [.ref mt, .ref mi, .ref mk, .ref mf, .ref ml, .int (iI (((0 : Nat) : Int))), .int (iI ((n : Int))), .int (iI ((w : Int))), .int (iI ((ks : Int))), .int (iI (ft)), .int (iI (pa))])), (mt, .inl (cB, 10240, .inl (tf))), (mi, .inl (cB, 65536, .inl (upd (g) (n + i) (tf i))))] H := hP
        have hD : va_D A [(m0, .inr (3, [.ref mt, .ref mi, .ref mk, .ref mf, .ref ml, .int (iI (((0 : Nat) : Int))), .int (iI ((n : Int))), .int (iI ((w : Int))), .int (iI ((ks : Int))), .int (iI (ft)), .int (iI (pa))])), (mt, .inl (cB, 10240, .inl (tf))), (mi, .inl (cB, 65536, .inl (upd (g) (n + i) (tf i))))] := hD
        refine lv_iinc (v := iI ((i : Int) + 1)) (lv' := [(2, .int (iI ((i : Int) + 1))), (1, .int (iI ((tc : Int)))), (0, .ref m0)]) hx hb dX3_arrive_47 hl (k := 0) rfl (iI_add _ _) (by decide) rfl (fun ls hl => ?_)
        refine lv_goto (tgt := 25) hx hb dX3_arrive_50 (by decide) ?_
        exact ih (i + 1) (upd g (n + i) (tf i)) _ _ ls (by omega) (by omega) (sb_fitU hg (htf _)) (fun j hj => by simp only [upd]; rw [if_neg (by omega)]; exact hg1 j hj) (fun j hj => by simp only [upd]; by_cases q : j = i; rw [q, if_pos rfl]; rw [if_neg (by omega)]; exact hg2 j (by omega)) (hP.sub [0, 1, 2] rfl) (hD.sub [0, 1, 2] (by decide) rfl) hS (lv_sub hl [0, 1, 2] rfl)
  · refine lv_iconst (v := iI (-1)) hx hb dX3_arrive_21 rfl ?_
    exact W.iret (v := iI (-1)) hx hb hr (fun t ht hW => ⟨⟨iI (-1), (n, f), rfl, ⟨by rw [if_neg (by omega)], hfit, fun _ _ => rfl, fun z => by omega, fun _ => rfl⟩, by rw [ht]; exact hP, va_K.moved hW.alike hK, hD⟩, hS.F ht⟩) hS.2.2 dX3_arrive_22
end
section
set_option maxHeartbeats 4000000 in
set_option maxRecDepth 100000 in
/-- go(n) -/
theorem c_X3_go (l : Launch) (dC : Nat → ClassId) (dI : Nat → Nat → Nat) (cB cI : ClassId) (sz : Nat) (m0 mt mi mk mf ml tc n w ks : Nat) (ft pa : Int) (f : Nat → Int32) (hn : n ≤ 65536) (hfit : sb_Fit f) (x : Nat) (hx0 : x ≤ n) : Met l yX3_go wX3_go ({ frames := 0, cells := 0, slots := 0, locals := 0 }) (va_Pc [.ref m0, .int (iI ((x : Int)))] (vx_B (dC, dI) vwCl [(cB, .byte), (cI, .int)] [(m0, .inr (3, [.ref mt, .ref mi, .ref mk, .ref mf, .ref ml, .int (iI ((tc : Int))), .int (iI ((n : Int))), .int (iI ((w : Int))), .int (iI ((ks : Int))), .int (iI (ft)), .int (iI (pa))])), (mi, .inl (cB, 65536, .inl (f)))] sz)) (va_Qv (fun (u : Nat → Int32) => sb_Fit u ∧ ∀ j, j < n - x → u j = f (x + j)) (fun (u : Nat → Int32) => vx_E (dC, dI) vwCl [(cB, .byte), (cI, .int)] (va_A [(m0, .inr (3, [.ref mt, .ref mi, .ref mk, .ref mf, .ref ml, .int (iI ((tc : Int))), .int (iI ((n : Int))), .int (iI ((w : Int))), .int (iI ((ks : Int))), .int (iI (ft)), .int (iI (pa))])), (mi, .inl (cB, 65536, .inl (f)))] sz) [(m0, .inr (3, [.ref mt, .ref mi, .ref mk, .ref mf, .ref ml, .int (iI ((tc : Int))), .int (iI (((n - x : Nat) : Int))), .int (iI ((w : Int))), .int (iI ((ks : Int))), .int (iI (ft)), .int (iI (pa))])), (mi, .inl (cB, 65536, .inl (u)))]) (va_A [(m0, .inr (3, [.ref mt, .ref mi, .ref mk, .ref mf, .ref ml, .int (iI ((tc : Int))), .int (iI ((n : Int))), .int (iI ((w : Int))), .int (iI ((ks : Int))), .int (iI (ft)), .int (iI (pa))])), (mi, .inl (cB, 65536, .inl (f)))] sz)) (0) (0) (va_A [(m0, .inr (3, [.ref mt, .ref mi, .ref mk, .ref mf, .ref ml, .int (iI ((tc : Int))), .int (iI ((n : Int))), .int (iI ((w : Int))), .int (iI ((ks : Int))), .int (iI (ft)), .int (iI (pa))])), (mi, .inl (cB, 65536, .inl (f)))] sz) := by
  refine Met.ofW (cc := cX3_go) (maxL := 3) (ret := none) (by decide) rfl ?_
  intro p e s m args below meth c s₁ B hml hv
  obtain ⟨rfl, hsz, hP, hK, hD0⟩ := hv
  have hx := B.exec
  have hb := B.bytes
  have hr := B.returns
  have hts := atoms_spec (ws := wX3_go) B.pre
  have hown : s.vm.findClass "RequestCutterModel" = some m.cls := findClass_of_methodNamed B.named
  have hlocks := B.notSynchronized
  subst hsz
  have hD := hD0.self (sz := s.heap.size)
  generalize hAe : va_A [(m0, .inr (3, [.ref mt, .ref mi, .ref mk, .ref mf, .ref ml, .int (iI ((tc : Int))), .int (iI ((n : Int))), .int (iI ((w : Int))), .int (iI ((ks : Int))), .int (iI (ft)), .int (iI (pa))])), (mi, .inl (cB, 65536, .inl (f)))] s.heap.size = A at hD ⊢
  have hA : ∀ q : Nat, s.heap.size ≤ q → A q := fun q h => by rw [← hAe]; exact Or.inr h
  have hS : va_S A s.heap s.heap [] := va_S.rf
  have hP : va_P (dC, dI) vwCl [(m0, .inr (3, [.ref mt, .ref mi, .ref mk, .ref mf, .ref ml, .int (iI ((tc : Int))), .int (iI ((n : Int))), .int (iI ((w : Int))), .int (iI ((ks : Int))), .int (iI (ft)), .int (iI (pa))])), (mi, .inl (cB, 65536, .inl (f)))] s.heap := hP
  have hl := lv_entry ([.ref m0, .int (iI ((x : Int)))]) (n := 3) (Nat.le_of_ble_eq_true rfl)
  rw [lg_entry_eq]
  generalize (lg_sl ([.ref m0, .int (iI ((x : Int)))]) ++ List.replicate (3 - (lg_sl ([.ref m0, .int (iI ((x : Int)))])).length) Slot.unset).toArray = ls at hl ⊢
  have hl : lv_has ls 3 [(0, .ref m0), (1, .int (iI ((x : Int))))] := hl
  refine lv_iload_n hx hb dX3_go_0 rfl (lv_at hl 1 rfl) ?_
  refine lv_istore_n (lv' := [(2, .int (iI ((x : Int)))), (0, .ref m0), (1, .int (iI ((x : Int))))]) hx hb dX3_go_1 rfl hl (by decide) rfl (fun ls hl => ?_)
  refine (?_ : ∀ (k : Nat) (i : Nat) (g : Nat → Int32) (H : Heap) (locs : List Loc) (ls : Array Slot), i + k = n → x ≤ i → sb_Fit g → (∀ j, j < i - x → g j = f (x + j)) → (∀ j, i ≤ j → g j = f j) → va_P (dC, dI) vwCl [(m0, .inr (3, [.ref mt, .ref mi, .ref mk, .ref mf, .ref ml, .int (iI ((tc : Int))), .int (iI ((n : Int))), .int (iI ((w : Int))), .int (iI ((ks : Int))), .int (iI (ft)), .int (iI (pa))])), (mi, .inl (cB, 65536, .inl (g)))] H → va_D A [(m0, .inr (3, [.ref mt, .ref mi, .ref mk, .ref mf, .ref ml, .int (iI ((tc : Int))), .int (iI ((n : Int))), .int (iI ((w : Int))), .int (iI ((ks : Int))), .int (iI (ft)), .int (iI (pa))])), (mi, .inl (cB, 65536, .inl (g)))] → va_S A s.heap H locs → lv_has ls 3 [(2, .int (iI ((i : Int)))), (0, .ref m0), (1, .int (iI ((x : Int))))] → W p l e _ s m _ below meth c H locs _ _ _ (F0 m 2 ls [])) (n - x) (x) (f) _ _ ls (by omega) (Nat.le_refl _) (hfit) (fun j hj => by omega) (fun _ _ => rfl) (hP.sub [0, 1] rfl) (hD.sub [0, 1] (by decide) rfl) hS (lv_sub hl [0, 1, 2] rfl)
  intro k
  induction k with
  | zero =>
    intro i g H locs ls hk hix hg hg1 hg2 hP hD hS hl
    refine lv_iload_n hx hb dX3_go_2 rfl (lv_at hl 0 rfl) ?_
    refine lv_aload_n hx hb dX3_go_3 rfl (lv_at hl 1 rfl) ?_
    refine va_get (D := (dC, dI)) (ci := 3) (v := .int (iI ((n : Int)))) (C := "RequestCutterModel") (T := TX3) (N := 11) hx hb hts (fun w h => List.mem_cons_of_mem _ (inX3 w h)) hown hK hP 0 rfl rfl 6 (by decide) (hts _ (List.mem_cons_of_mem _ tw_272)) (fun _ h9 => h9) rfl dX3_go_4 ?_
    refine lx_icmp_ge (a := (i : Int)) (b := (n : Int)) (tgt := 30) hx hb dX3_go_7 (by decide) (by omega) (by omega) (fun cq1 => ?_) (fun cq1 => ?_)
    · refine lv_aload_n hx hb dX3_go_30 rfl (lv_at hl 1 rfl) ?_
      refine lv_dup hx hb dX3_go_31 rfl ?_
      refine va_get (D := (dC, dI)) (ci := 3) (v := .int (iI ((n : Int)))) (C := "RequestCutterModel") (T := TX3) (N := 11) hx hb hts (fun w h => List.mem_cons_of_mem _ (inX3 w h)) hown hK hP 0 rfl rfl 6 (by decide) (hts _ (List.mem_cons_of_mem _ tw_272)) (fun _ h9 => h9) rfl dX3_go_32 ?_
      refine lv_iload_n hx hb dX3_go_35 rfl (lv_at hl 2 rfl) ?_
      refine lx_isub (a := (n : Int)) (b := (x : Int)) hx hb dX3_go_36 ?_
      refine lx_top (x2 := iI ((n - x : Nat) : Int)) (congrArg iI (by omega)) ?_
      refine va_put (D := (dC, dI)) (ci := 3) (v := .int (iI (((n - x : Nat) : Int)))) (ty := .int) (C := "RequestCutterModel") (T := TX3) (N := 11) hx hb hts (fun w h => List.mem_cons_of_mem _ (inX3 w h)) tyX3 tyX3_ok nmX3 hown hK hP hD hS 0 rfl rfl 6 (by decide) (hts _ (List.mem_cons_of_mem _ tw_272)) (fun _ h9 => h9) rfl (by decide +kernel) rfl rfl (Nat.le_of_ble_eq_true rfl) dX3_go_37 (fun H locs hP hD hS => ?_)
      have hP : va_P (dC, dI) vwCl [(m0, .inr (3, [.ref mt, .ref mi, .ref mk, .ref mf, .ref ml, .int (iI ((tc : Int))), .int (iI (((n - x : Nat) : Int))), .int (iI ((w : Int))), .int (iI ((ks : Int))), .int (iI (ft)), .int (iI (pa))])), (mi, .inl (cB, 65536, .inl (g)))] H := hP
      have hD : va_D A [(m0, .inr (3, [.ref mt, .ref mi, .ref mk, .ref mf, .ref ml, .int (iI ((tc : Int))), .int (iI (((n - x : Nat) : Int))), .int (iI ((w : Int))), .int (iI ((ks : Int))), .int (iI (ft)), .int (iI (pa))])), (mi, .inl (cB, 65536, .inl (g)))] := hD
      exact W.vret hx hb hr (fun t ht hW => ⟨⟨g, rfl, ⟨hg, fun j hj => hg1 j (by omega)⟩, by rw [ht]; exact hP, va_K.moved hW.alike hK, hD⟩, hS.F ht⟩) hS.2.2 dX3_go_40
    · exact absurd cq1 (by omega)
  | succ k ih =>
    intro i g H locs ls hk hix hg hg1 hg2 hP hD hS hl
    refine lv_iload_n hx hb dX3_go_2 rfl (lv_at hl 0 rfl) ?_
    refine lv_aload_n hx hb dX3_go_3 rfl (lv_at hl 1 rfl) ?_
    refine va_get (D := (dC, dI)) (ci := 3) (v := .int (iI ((n : Int)))) (C := "RequestCutterModel") (T := TX3) (N := 11) hx hb hts (fun w h => List.mem_cons_of_mem _ (inX3 w h)) hown hK hP 0 rfl rfl 6 (by decide) (hts _ (List.mem_cons_of_mem _ tw_272)) (fun _ h9 => h9) rfl dX3_go_4 ?_
    refine lx_icmp_ge (a := (i : Int)) (b := (n : Int)) (tgt := 30) hx hb dX3_go_7 (by decide) (by omega) (by omega) (fun cq2 => ?_) (fun cq2 => ?_)
    · exact absurd cq2 (by omega)
    · refine lv_aload_n hx hb dX3_go_10 rfl (lv_at hl 1 rfl) ?_
      refine va_get (D := (dC, dI)) (ci := 3) (v := .ref mi) (C := "RequestCutterModel") (T := TX3) (N := 11) hx hb hts (fun w h => List.mem_cons_of_mem _ (inX3 w h)) hown hK hP 0 rfl rfl 1 (by decide) (hts _ (List.mem_cons_of_mem _ tw_267)) (fun _ h9 => h9) rfl dX3_go_11 ?_
      refine lv_iload_n hx hb dX3_go_14 rfl (lv_at hl 0 rfl) ?_
      refine lv_iload_n hx hb dX3_go_15 rfl (lv_at hl 2 rfl) ?_
      refine lx_isub (a := (i : Int)) (b := (x : Int)) hx hb dX3_go_16 ?_
      refine lv_aload_n hx hb dX3_go_17 rfl (lv_at hl 1 rfl) ?_
      refine va_get (D := (dC, dI)) (ci := 3) (v := .ref mi) (C := "RequestCutterModel") (T := TX3) (N := 11) hx hb hts (fun w h => List.mem_cons_of_mem _ (inX3 w h)) hown hK hP 0 rfl rfl 1 (by decide) (hts _ (List.mem_cons_of_mem _ tw_267)) (fun _ h9 => h9) rfl dX3_go_18 ?_
      refine lv_iload_n hx hb dX3_go_21 rfl (lv_at hl 0 rfl) ?_
      refine va_bald hx hb hK hP 1 0 rfl rfl (iI_in (by omega)) dX3_go_22 ?_
      refine lx_top (x2 := (g) (i)) (congrArg (g) (iI_clN (n := i) (by omega))) ?_
      refine lx_bast (x := (g) (i)) (v := g i) (i := ((i : Int)) - ((x : Int))) hx hb hK hP hD hS 1 0 rfl rfl (i - x) (by omega) (by omega) (nar_fit (hg _)) dX3_go_23 (fun H locs hP hD hS => ?_)
      have hP : va_P (dC, dI) vwCl [(m0, .inr (3, [.ref mt, .ref mi, .ref mk, .ref mf, .ref ml, .int (iI ((tc : Int))), .int (iI ((n : Int))), .int (iI ((w : Int))), .int (iI ((ks : Int))), .int (iI (ft)), .int (iI (pa))])), (mi, .inl (cB, 65536, .inl (upd (g) (i - x) (g i))))] H := hP
      have hD : va_D A [(m0, .inr (3, [.ref mt, .ref mi, .ref mk, .ref mf, .ref ml, .int (iI ((tc : Int))), .int (iI ((n : Int))), .int (iI ((w : Int))), .int (iI ((ks : Int))), .int (iI (ft)), .int (iI (pa))])), (mi, .inl (cB, 65536, .inl (upd (g) (i - x) (g i))))] := hD
      refine lv_iinc (v := iI ((i : Int) + 1)) (lv' := [(2, .int (iI ((i : Int) + 1))), (0, .ref m0), (1, .int (iI ((x : Int))))]) hx hb dX3_go_24 hl (k := 0) rfl (iI_add _ _) (by decide) rfl (fun ls hl => ?_)
      refine lv_goto (tgt := 2) hx hb dX3_go_27 (by decide) ?_
      exact ih (i + 1) (upd g (i - x) (g i)) _ _ ls (by omega) (by omega) (sb_fitU hg (hg _)) (fun j hj => by simp only [upd]; by_cases q : j = i - x; rw [q, if_pos rfl, hg2 i (by omega), show x + (i - x) = i by omega]; rw [if_neg q]; exact hg1 j (by omega)) (fun j hj => by simp only [upd]; rw [if_neg (by omega)]; exact hg2 j (by omega)) (hP.sub [0, 1] rfl) (hD.sub [0, 1] (by decide) rfl) hS (lv_sub hl [0, 1, 2] rfl)
set_option maxHeartbeats 4000000 in
set_option maxRecDepth 100000 in
/-- drop(n) -/
theorem c_X3_drop (l : Launch) (dC : Nat → ClassId) (dI : Nat → Nat → Nat) (cB cI : ClassId) (sz : Nat) (m0 mt mi mk mf ml tc n w ks : Nat) (ft pa : Int) (f : Nat → Int32) (hn : n ≤ 65536) (hfit : sb_Fit f) (i : Int) (hi : -2147483648 ≤ i ∧ i ≤ 2147483647) : Met l yX3_drop wX3_drop ({ frames := 1, cells := 0, slots := 0, locals := 22 }) (va_Pc [.ref m0, .int (iI (i))] (vx_B (dC, dI) vwCl [(cB, .byte), (cI, .int)] [(m0, .inr (3, [.ref mt, .ref mi, .ref mk, .ref mf, .ref ml, .int (iI ((tc : Int))), .int (iI ((n : Int))), .int (iI ((w : Int))), .int (iI ((ks : Int))), .int (iI (ft)), .int (iI (pa))])), (mi, .inl (cB, 65536, .inl (f)))] sz)) (va_Qi (fun (r : Int32) (u : (Nat → Int32) × Nat) => r = iI (if 0 ≤ i ∧ i ≤ (n : Int) then 1 else 0) ∧ sb_Fit u.1 ∧ (0 ≤ i ∧ i ≤ (n : Int) → u.2 = n - i.toNat ∧ ∀ j, j < n - i.toNat → u.1 j = f (i.toNat + j)) ∧ (¬ (0 ≤ i ∧ i ≤ (n : Int)) → u = (f, n))) (fun (u : (Nat → Int32) × Nat) => vx_E (dC, dI) vwCl [(cB, .byte), (cI, .int)] (va_A [(m0, .inr (3, [.ref mt, .ref mi, .ref mk, .ref mf, .ref ml, .int (iI ((tc : Int))), .int (iI ((n : Int))), .int (iI ((w : Int))), .int (iI ((ks : Int))), .int (iI (ft)), .int (iI (pa))])), (mi, .inl (cB, 65536, .inl (f)))] sz) [(m0, .inr (3, [.ref mt, .ref mi, .ref mk, .ref mf, .ref ml, .int (iI ((tc : Int))), .int (iI ((u.2 : Int))), .int (iI ((w : Int))), .int (iI ((ks : Int))), .int (iI (ft)), .int (iI (pa))])), (mi, .inl (cB, 65536, .inl (u.1)))]) (va_A [(m0, .inr (3, [.ref mt, .ref mi, .ref mk, .ref mf, .ref ml, .int (iI ((tc : Int))), .int (iI ((n : Int))), .int (iI ((w : Int))), .int (iI ((ks : Int))), .int (iI (ft)), .int (iI (pa))])), (mi, .inl (cB, 65536, .inl (f)))] sz)) (0) (0) (va_A [(m0, .inr (3, [.ref mt, .ref mi, .ref mk, .ref mf, .ref ml, .int (iI ((tc : Int))), .int (iI ((n : Int))), .int (iI ((w : Int))), .int (iI ((ks : Int))), .int (iI (ft)), .int (iI (pa))])), (mi, .inl (cB, 65536, .inl (f)))] sz) := by
  refine Met.ofW (cc := cX3_drop) (maxL := 2) (ret := (some .boolean)) (by decide) rfl ?_
  intro p e s m args below meth c s₁ B hml hv
  obtain ⟨rfl, hsz, hP, hK, hD0⟩ := hv
  have hx := B.exec
  have hb := B.bytes
  have hr := B.returns
  have hts := atoms_spec (ws := wX3_drop) B.pre
  have hown : s.vm.findClass "RequestCutterModel" = some m.cls := findClass_of_methodNamed B.named
  have hlocks := B.notSynchronized
  subst hsz
  have hD := hD0.self (sz := s.heap.size)
  generalize hAe : va_A [(m0, .inr (3, [.ref mt, .ref mi, .ref mk, .ref mf, .ref ml, .int (iI ((tc : Int))), .int (iI ((n : Int))), .int (iI ((w : Int))), .int (iI ((ks : Int))), .int (iI (ft)), .int (iI (pa))])), (mi, .inl (cB, 65536, .inl (f)))] s.heap.size = A at hD ⊢
  have hA : ∀ q : Nat, s.heap.size ≤ q → A q := fun q h => by rw [← hAe]; exact Or.inr h
  have hS : va_S A s.heap s.heap [] := va_S.rf
  have hP : va_P (dC, dI) vwCl [(m0, .inr (3, [.ref mt, .ref mi, .ref mk, .ref mf, .ref ml, .int (iI ((tc : Int))), .int (iI ((n : Int))), .int (iI ((w : Int))), .int (iI ((ks : Int))), .int (iI (ft)), .int (iI (pa))])), (mi, .inl (cB, 65536, .inl (f)))] s.heap := hP
  have hl := lv_entry ([.ref m0, .int (iI (i))]) (n := 2) (Nat.le_of_ble_eq_true rfl)
  rw [lg_entry_eq]
  generalize (lg_sl ([.ref m0, .int (iI (i))]) ++ List.replicate (2 - (lg_sl ([.ref m0, .int (iI (i))])).length) Slot.unset).toArray = ls at hl ⊢
  have hl : lv_has ls 2 [(0, .ref m0), (1, .int (iI (i)))] := hl
  refine lv_iload_n hx hb dX3_drop_0 rfl (lv_at hl 1 rfl) ?_
  refine lx_if_lt (a := i) (tgt := 12) hx hb dX3_drop_1 (by decide) (by omega) (fun cq1 => ?_) (fun cq1 => ?_)
  · refine lv_iconst (v := iI (0)) hx hb dX3_drop_12 rfl ?_
    exact W.zret (v := iI (0)) hx hb hr (by rfl) (fun t ht hW => ⟨⟨iI (0), (f, n), rfl, ⟨by rw [if_neg (by omega)], hfit, fun z => by omega, fun _ => rfl⟩, by rw [ht]; exact hP, va_K.moved hW.alike hK, hD⟩, hS.F ht⟩) hS.2.2 dX3_drop_13
  · refine lv_iload_n hx hb dX3_drop_4 rfl (lv_at hl 1 rfl) ?_
    refine lv_aload_n hx hb dX3_drop_5 rfl (lv_at hl 0 rfl) ?_
    refine va_get (D := (dC, dI)) (ci := 3) (v := .int (iI ((n : Int)))) (C := "RequestCutterModel") (T := TX3) (N := 11) hx hb hts (fun w h => List.mem_cons_of_mem _ (inX3 w h)) hown hK hP 0 rfl rfl 6 (by decide) (hts _ (List.mem_cons_of_mem _ tw_272)) (fun _ h9 => h9) rfl dX3_drop_6 ?_
    refine lx_icmp_le (a := i) (b := (n : Int)) (tgt := 14) hx hb dX3_drop_9 (by decide) (by omega) (by omega) (fun cq2 => ?_) (fun cq2 => ?_)
    · refine lv_aload_n hx hb dX3_drop_14 rfl (lv_at hl 0 rfl) ?_
      refine lv_iload_n hx hb dX3_drop_15 rfl (lv_at hl 1 rfl) ?_
      refine lx_top (x2 := iI (i.toNat : Int)) (congrArg iI (by omega)) ?_
      refine vx_Vv (As := [.int (iI ((i.toNat : Int)))]) (rest := []) (wr := []) (ci := 3) (q0 := 0) [0, 1] [] ⟨hx, hb, hml, hown, hts⟩ (c_X3_go l dC dI cB cI _ m0 mt mi mk mf ml tc n w ks ft pa f hn hfit i.toNat (by omega)) (cwV 1 hts (gd_V tw_320 tw_322 tw_11 tw_22 tw_323) rfl rfl rfl (by decide +kernel) ⟨Nat.le_of_ble_eq_true rfl, Nat.le_of_ble_eq_true rfl⟩) hK hP hD hS hA rfl rfl rfl rfl (by decide) rfl rfl rfl rfl hl.1 rfl (Nat.le_of_ble_eq_true rfl) dX3_drop_16 ⟨Nat.zero_le _, Nat.zero_le _⟩ (fun u H locs hw hP hD hS => ?_)
      obtain ⟨g, rfl⟩ : ∃ z, z = u := ⟨_, rfl⟩
      try dsimp only at hw hP hD
      obtain ⟨hg, hg1⟩ := hw
      have hP : va_P (dC, dI) vwCl [(m0, .inr (3, [.ref mt, .ref mi, .ref mk, .ref mf, .ref ml, .int (iI ((tc : Int))), .int (iI (((n - i.toNat : Nat) : Int))), .int (iI ((w : Int))), .int (iI ((ks : Int))), .int (iI (ft)), .int (iI (pa))])), (mi, .inl (cB, 65536, .inl (g)))] H := hP.sub [0, 1] rfl
      have hD : va_D A [(m0, .inr (3, [.ref mt, .ref mi, .ref mk, .ref mf, .ref ml, .int (iI ((tc : Int))), .int (iI (((n - i.toNat : Nat) : Int))), .int (iI ((w : Int))), .int (iI ((ks : Int))), .int (iI (ft)), .int (iI (pa))])), (mi, .inl (cB, 65536, .inl (g)))] := hD.sub [0, 1] (by decide) rfl
      refine lv_iconst (v := iI (1)) hx hb dX3_drop_19 rfl ?_
      exact W.zret (v := iI (1)) hx hb hr (by rfl) (fun t ht hW => ⟨⟨iI (1), (g, n - i.toNat), rfl, ⟨by rw [if_pos (by omega)], hg, fun _ => ⟨rfl, hg1⟩, fun z => by omega⟩, by rw [ht]; exact hP, va_K.moved hW.alike hK, hD⟩, hS.F ht⟩) hS.2.2 dX3_drop_20
    · refine lv_iconst (v := iI (0)) hx hb dX3_drop_12 rfl ?_
      exact W.zret (v := iI (0)) hx hb hr (by rfl) (fun t ht hW => ⟨⟨iI (0), (f, n), rfl, ⟨by rw [if_neg (by omega)], hfit, fun z => by omega, fun _ => rfl⟩, by rw [ht]; exact hP, va_K.moved hW.alike hK, hD⟩, hS.F ht⟩) hS.2.2 dX3_drop_13
set_option maxHeartbeats 4000000 in
set_option maxRecDepth 100000 in
/-- must(c) -/
theorem c_X3_must (l : Launch) (dC : Nat → ClassId) (dI : Nat → Nat → Nat) (cB cI : ClassId) (sz : Nat) (m0 mt mi mk mf ml tc n w ks : Nat) (ft pa : Int) (f : Nat → Int32) (hn : n ≤ 65536) (hfit : sb_Fit f) (hpa : 0 ≤ pa ∧ pa ≤ 200000) (x : Int) (hxr : 0 ≤ x ∧ x ≤ 127) : Met l yX3_must wX3_must ({ frames := 0, cells := 0, slots := 0, locals := 0 }) (va_Pc [.ref m0, .int (iI (x))] (vx_B (dC, dI) vwCl [(cB, .byte), (cI, .int)] [(m0, .inr (3, [.ref mt, .ref mi, .ref mk, .ref mf, .ref ml, .int (iI ((tc : Int))), .int (iI ((n : Int))), .int (iI ((w : Int))), .int (iI ((ks : Int))), .int (iI (ft)), .int (iI (pa))])), (mi, .inl (cB, 65536, .inl (f)))] sz)) (va_Qi (fun (r : Int32) (u : Int) => r = iI (if (n : Int) ≤ pa then 0 else if bA f n pa = x then 1 else -1) ∧ u = (if (n : Int) ≤ pa then pa else pa + 1)) (fun (u : Int) => vx_E (dC, dI) vwCl [(cB, .byte), (cI, .int)] (va_A [(m0, .inr (3, [.ref mt, .ref mi, .ref mk, .ref mf, .ref ml, .int (iI ((tc : Int))), .int (iI ((n : Int))), .int (iI ((w : Int))), .int (iI ((ks : Int))), .int (iI (ft)), .int (iI (pa))])), (mi, .inl (cB, 65536, .inl (f)))] sz) [(m0, .inr (3, [.ref mt, .ref mi, .ref mk, .ref mf, .ref ml, .int (iI ((tc : Int))), .int (iI ((n : Int))), .int (iI ((w : Int))), .int (iI ((ks : Int))), .int (iI (ft)), .int (iI (u))])), (mi, .inl (cB, 65536, .inl (f)))]) (va_A [(m0, .inr (3, [.ref mt, .ref mi, .ref mk, .ref mf, .ref ml, .int (iI ((tc : Int))), .int (iI ((n : Int))), .int (iI ((w : Int))), .int (iI ((ks : Int))), .int (iI (ft)), .int (iI (pa))])), (mi, .inl (cB, 65536, .inl (f)))] sz)) (0) (0) (va_A [(m0, .inr (3, [.ref mt, .ref mi, .ref mk, .ref mf, .ref ml, .int (iI ((tc : Int))), .int (iI ((n : Int))), .int (iI ((w : Int))), .int (iI ((ks : Int))), .int (iI (ft)), .int (iI (pa))])), (mi, .inl (cB, 65536, .inl (f)))] sz) := by
  refine Met.ofW (cc := cX3_must) (maxL := 3) (ret := (some .int)) (by decide) rfl ?_
  intro p e s m args below meth c s₁ B hml hv
  obtain ⟨rfl, hsz, hP, hK, hD0⟩ := hv
  have hx := B.exec
  have hb := B.bytes
  have hr := B.returns
  have hts := atoms_spec (ws := wX3_must) B.pre
  have hown : s.vm.findClass "RequestCutterModel" = some m.cls := findClass_of_methodNamed B.named
  have hlocks := B.notSynchronized
  subst hsz
  have hD := hD0.self (sz := s.heap.size)
  generalize hAe : va_A [(m0, .inr (3, [.ref mt, .ref mi, .ref mk, .ref mf, .ref ml, .int (iI ((tc : Int))), .int (iI ((n : Int))), .int (iI ((w : Int))), .int (iI ((ks : Int))), .int (iI (ft)), .int (iI (pa))])), (mi, .inl (cB, 65536, .inl (f)))] s.heap.size = A at hD ⊢
  have hA : ∀ q : Nat, s.heap.size ≤ q → A q := fun q h => by rw [← hAe]; exact Or.inr h
  have hS : va_S A s.heap s.heap [] := va_S.rf
  have hP : va_P (dC, dI) vwCl [(m0, .inr (3, [.ref mt, .ref mi, .ref mk, .ref mf, .ref ml, .int (iI ((tc : Int))), .int (iI ((n : Int))), .int (iI ((w : Int))), .int (iI ((ks : Int))), .int (iI (ft)), .int (iI (pa))])), (mi, .inl (cB, 65536, .inl (f)))] s.heap := hP
  have hl := lv_entry ([.ref m0, .int (iI (x))]) (n := 3) (Nat.le_of_ble_eq_true rfl)
  rw [lg_entry_eq]
  generalize (lg_sl ([.ref m0, .int (iI (x))]) ++ List.replicate (3 - (lg_sl ([.ref m0, .int (iI (x))])).length) Slot.unset).toArray = ls at hl ⊢
  have hl : lv_has ls 3 [(0, .ref m0), (1, .int (iI (x)))] := hl
  refine lv_aload_n hx hb dX3_must_0 rfl (lv_at hl 0 rfl) ?_
  refine va_get (D := (dC, dI)) (ci := 3) (v := .int (iI (pa))) (C := "RequestCutterModel") (T := TX3) (N := 11) hx hb hts (fun w h => List.mem_cons_of_mem _ (inX3 w h)) hown hK hP 0 rfl rfl 10 (by decide) (hts _ (List.mem_cons_of_mem _ tw_276)) (fun _ h9 => h9) rfl dX3_must_1 ?_
  refine lv_aload_n hx hb dX3_must_4 rfl (lv_at hl 0 rfl) ?_
  refine va_get (D := (dC, dI)) (ci := 3) (v := .int (iI ((n : Int)))) (C := "RequestCutterModel") (T := TX3) (N := 11) hx hb hts (fun w h => List.mem_cons_of_mem _ (inX3 w h)) hown hK hP 0 rfl rfl 6 (by decide) (hts _ (List.mem_cons_of_mem _ tw_272)) (fun _ h9 => h9) rfl dX3_must_5 ?_
  refine lx_icmp_lt (a := pa) (b := (n : Int)) (tgt := 13) hx hb dX3_must_8 (by decide) (by omega) (by omega) (fun cq1 => ?_) (fun cq1 => ?_)
  · refine lv_aload_n hx hb dX3_must_13 rfl (lv_at hl 0 rfl) ?_
    refine va_get (D := (dC, dI)) (ci := 3) (v := .ref mi) (C := "RequestCutterModel") (T := TX3) (N := 11) hx hb hts (fun w h => List.mem_cons_of_mem _ (inX3 w h)) hown hK hP 0 rfl rfl 1 (by decide) (hts _ (List.mem_cons_of_mem _ tw_267)) (fun _ h9 => h9) rfl dX3_must_14 ?_
    refine lv_aload_n hx hb dX3_must_17 rfl (lv_at hl 0 rfl) ?_
    refine va_get (D := (dC, dI)) (ci := 3) (v := .int (iI (pa))) (C := "RequestCutterModel") (T := TX3) (N := 11) hx hb hts (fun w h => List.mem_cons_of_mem _ (inX3 w h)) hown hK hP 0 rfl rfl 10 (by decide) (hts _ (List.mem_cons_of_mem _ tw_276)) (fun _ h9 => h9) rfl dX3_must_18 ?_
    refine va_bald hx hb hK hP 1 0 rfl rfl (iI_in (by omega)) dX3_must_21 ?_
    refine lx_top (x2 := (f) ((pa).toNat)) (congrArg (f) (iI_cl (a := pa) (by omega))) ?_
    refine lx_top (x2 := iI (((f) ((pa).toNat)).toInt)) (Int32.ofInt_toInt _).symm ?_
    have g_m := mA hfit n (pa) (by omega)
    refine lv_iload_n hx hb dX3_must_22 rfl (lv_at hl 1 rfl) ?_
    refine lx_icmp_ne (a := ((f) ((pa).toNat)).toInt) (b := x) (tgt := 30) hx hb dX3_must_23 (by decide) (by omega) (by omega) (fun cq2 => ?_) (fun cq2 => ?_)
    · refine lv_iconst (v := iI (0)) hx hb dX3_must_30 rfl ?_
      refine lv_istore_n (lv' := [(2, .int (iI (0))), (0, .ref m0), (1, .int (iI (x)))]) hx hb dX3_must_31 rfl hl (by decide) rfl (fun ls hl => ?_)
      refine lv_aload_n hx hb dX3_must_32 rfl (lv_at hl 1 rfl) ?_
      refine lv_dup hx hb dX3_must_33 rfl ?_
      refine va_get (D := (dC, dI)) (ci := 3) (v := .int (iI (pa))) (C := "RequestCutterModel") (T := TX3) (N := 11) hx hb hts (fun w h => List.mem_cons_of_mem _ (inX3 w h)) hown hK hP 0 rfl rfl 10 (by decide) (hts _ (List.mem_cons_of_mem _ tw_276)) (fun _ h9 => h9) rfl dX3_must_34 ?_
      refine lv_iconst (v := iI (1)) hx hb dX3_must_37 rfl ?_
      refine lx_iadd (a := pa) (b := 1) hx hb dX3_must_38 ?_
      refine va_put (D := (dC, dI)) (ci := 3) (v := .int (iI (pa + 1))) (ty := .int) (C := "RequestCutterModel") (T := TX3) (N := 11) hx hb hts (fun w h => List.mem_cons_of_mem _ (inX3 w h)) tyX3 tyX3_ok nmX3 hown hK hP hD hS 0 rfl rfl 10 (by decide) (hts _ (List.mem_cons_of_mem _ tw_276)) (fun _ h9 => h9) rfl (by decide +kernel) rfl rfl (Nat.le_of_ble_eq_true rfl) dX3_must_39 (fun H locs hP hD hS => ?_)
      have hP : va_P (dC, dI) vwCl [(m0, .inr (3, [.ref mt, .ref mi, .ref mk, .ref mf, .ref ml, .int (iI ((tc : Int))), .int (iI ((n : Int))), .int (iI ((w : Int))), .int (iI ((ks : Int))), .int (iI (ft)), .int (iI (pa + 1))])), (mi, .inl (cB, 65536, .inl (f)))] H := hP
      have hD : va_D A [(m0, .inr (3, [.ref mt, .ref mi, .ref mk, .ref mf, .ref ml, .int (iI ((tc : Int))), .int (iI ((n : Int))), .int (iI ((w : Int))), .int (iI ((ks : Int))), .int (iI (ft)), .int (iI (pa + 1))])), (mi, .inl (cB, 65536, .inl (f)))] := hD
      refine lv_iload_n hx hb dX3_must_42 rfl (lv_at hl 0 rfl) ?_
      refine lx_if_eq (a := 0) (tgt := 50) hx hb dX3_must_43 (by decide) (by omega) (fun cq3 => ?_) (fun cq3 => ?_)
      · refine lv_iconst (v := iI (-1)) hx hb dX3_must_50 rfl ?_
        exact W.iret (v := iI (-1)) hx hb hr (fun t ht hW => ⟨⟨iI (-1), (pa + 1), rfl, ⟨by rw [if_neg (by omega), if_neg (by omega)], by rw [if_neg (by omega)]⟩, by rw [ht]; exact hP, va_K.moved hW.alike hK, hD⟩, hS.F ht⟩) hS.2.2 dX3_must_51
      · exact absurd cq3 (by omega)
    · refine lv_iconst (v := iI (1)) hx hb dX3_must_26 rfl ?_
      refine lv_goto (tgt := 31) hx hb dX3_must_27 (by decide) ?_
      refine lv_istore_n (lv' := [(2, .int (iI (1))), (0, .ref m0), (1, .int (iI (x)))]) hx hb dX3_must_31 rfl hl (by decide) rfl (fun ls hl => ?_)
      refine lv_aload_n hx hb dX3_must_32 rfl (lv_at hl 1 rfl) ?_
      refine lv_dup hx hb dX3_must_33 rfl ?_
      refine va_get (D := (dC, dI)) (ci := 3) (v := .int (iI (pa))) (C := "RequestCutterModel") (T := TX3) (N := 11) hx hb hts (fun w h => List.mem_cons_of_mem _ (inX3 w h)) hown hK hP 0 rfl rfl 10 (by decide) (hts _ (List.mem_cons_of_mem _ tw_276)) (fun _ h9 => h9) rfl dX3_must_34 ?_
      refine lv_iconst (v := iI (1)) hx hb dX3_must_37 rfl ?_
      refine lx_iadd (a := pa) (b := 1) hx hb dX3_must_38 ?_
      refine va_put (D := (dC, dI)) (ci := 3) (v := .int (iI (pa + 1))) (ty := .int) (C := "RequestCutterModel") (T := TX3) (N := 11) hx hb hts (fun w h => List.mem_cons_of_mem _ (inX3 w h)) tyX3 tyX3_ok nmX3 hown hK hP hD hS 0 rfl rfl 10 (by decide) (hts _ (List.mem_cons_of_mem _ tw_276)) (fun _ h9 => h9) rfl (by decide +kernel) rfl rfl (Nat.le_of_ble_eq_true rfl) dX3_must_39 (fun H locs hP hD hS => ?_)
      have hP : va_P (dC, dI) vwCl [(m0, .inr (3, [.ref mt, .ref mi, .ref mk, .ref mf, .ref ml, .int (iI ((tc : Int))), .int (iI ((n : Int))), .int (iI ((w : Int))), .int (iI ((ks : Int))), .int (iI (ft)), .int (iI (pa + 1))])), (mi, .inl (cB, 65536, .inl (f)))] H := hP
      have hD : va_D A [(m0, .inr (3, [.ref mt, .ref mi, .ref mk, .ref mf, .ref ml, .int (iI ((tc : Int))), .int (iI ((n : Int))), .int (iI ((w : Int))), .int (iI ((ks : Int))), .int (iI (ft)), .int (iI (pa + 1))])), (mi, .inl (cB, 65536, .inl (f)))] := hD
      refine lv_iload_n hx hb dX3_must_42 rfl (lv_at hl 0 rfl) ?_
      refine lx_if_eq (a := 1) (tgt := 50) hx hb dX3_must_43 (by decide) (by omega) (fun cq4 => ?_) (fun cq4 => ?_)
      · exact absurd cq4 (by omega)
      · refine lv_iconst (v := iI (1)) hx hb dX3_must_46 rfl ?_
        refine lv_goto (tgt := 51) hx hb dX3_must_47 (by decide) ?_
        exact W.iret (v := iI (1)) hx hb hr (fun t ht hW => ⟨⟨iI (1), (pa + 1), rfl, ⟨by rw [if_neg (by omega), if_pos (by omega)], by rw [if_neg (by omega)]⟩, by rw [ht]; exact hP, va_K.moved hW.alike hK, hD⟩, hS.F ht⟩) hS.2.2 dX3_must_51
  · refine lv_iconst (v := iI (0)) hx hb dX3_must_11 rfl ?_
    exact W.iret (v := iI (0)) hx hb hr (fun t ht hW => ⟨⟨iI (0), (pa), rfl, ⟨by rw [if_pos (by omega)], by rw [if_pos (by omega)]⟩, by rw [ht]; exact hP, va_K.moved hW.alike hK, hD⟩, hS.F ht⟩) hS.2.2 dX3_must_12
set_option maxHeartbeats 4000000 in
set_option maxRecDepth 100000 in
/-- word(where, size) -/
theorem c_X3_word (l : Launch) (dC : Nat → ClassId) (dI : Nat → Nat → Nat) (cB cI : ClassId) (sz : Nat) (m0 mt mi mk mf ml tc n w ks : Nat) (ft pa : Int) (f kf : Nat → Int32) (fa la : Nat → Int) (hn : n ≤ 65536) (hfit : sb_Fit f) (hkf : sb_Fit kf) (hw : w ≤ 1024) (x z : Nat) (hxz : x + z ≤ n) (hks : ks + z ≤ 65536) : Met l yX3_word wX3_word ({ frames := 0, cells := 0, slots := 0, locals := 0 }) (va_Pc [.ref m0, .int (iI ((x : Int))), .int (iI ((z : Int)))] (vx_B (dC, dI) vwCl [(cB, .byte), (cI, .int)] [(m0, .inr (3, [.ref mt, .ref mi, .ref mk, .ref mf, .ref ml, .int (iI ((tc : Int))), .int (iI ((n : Int))), .int (iI ((w : Int))), .int (iI ((ks : Int))), .int (iI (ft)), .int (iI (pa))])), (mi, .inl (cB, 65536, .inl (f))), (mk, .inl (cB, 65536, .inl (kf))), (mf, .inl (cI, 1025, .inl (fun k => iI (fa k)))), (ml, .inl (cI, 1025, .inl (fun k => iI (la k))))] sz)) (va_Qv (fun (u : Nat → Int32) => sb_Fit u ∧ (∀ j, j < ks → u j = kf j) ∧ ∀ j, j < z → u (ks + j) = f (x + j)) (fun (u : Nat → Int32) => vx_E (dC, dI) vwCl [(cB, .byte), (cI, .int)] (va_A [(m0, .inr (3, [.ref mt, .ref mi, .ref mk, .ref mf, .ref ml, .int (iI ((tc : Int))), .int (iI ((n : Int))), .int (iI ((w : Int))), .int (iI ((ks : Int))), .int (iI (ft)), .int (iI (pa))])), (mi, .inl (cB, 65536, .inl (f))), (mk, .inl (cB, 65536, .inl (kf))), (mf, .inl (cI, 1025, .inl (fun k => iI (fa k)))), (ml, .inl (cI, 1025, .inl (fun k => iI (la k))))] sz) [(m0, .inr (3, [.ref mt, .ref mi, .ref mk, .ref mf, .ref ml, .int (iI ((tc : Int))), .int (iI ((n : Int))), .int (iI (((w + 1 : Nat) : Int))), .int (iI (((ks + z : Nat) : Int))), .int (iI (ft)), .int (iI (pa))])), (mi, .inl (cB, 65536, .inl (f))), (mk, .inl (cB, 65536, .inl (u))), (mf, .inl (cI, 1025, .inl (fun k => iI ((updZ fa w (ks : Int)) k)))), (ml, .inl (cI, 1025, .inl (fun k => iI ((updZ la w (z : Int)) k))))]) (va_A [(m0, .inr (3, [.ref mt, .ref mi, .ref mk, .ref mf, .ref ml, .int (iI ((tc : Int))), .int (iI ((n : Int))), .int (iI ((w : Int))), .int (iI ((ks : Int))), .int (iI (ft)), .int (iI (pa))])), (mi, .inl (cB, 65536, .inl (f))), (mk, .inl (cB, 65536, .inl (kf))), (mf, .inl (cI, 1025, .inl (fun k => iI (fa k)))), (ml, .inl (cI, 1025, .inl (fun k => iI (la k))))] sz)) (0) (0) (va_A [(m0, .inr (3, [.ref mt, .ref mi, .ref mk, .ref mf, .ref ml, .int (iI ((tc : Int))), .int (iI ((n : Int))), .int (iI ((w : Int))), .int (iI ((ks : Int))), .int (iI (ft)), .int (iI (pa))])), (mi, .inl (cB, 65536, .inl (f))), (mk, .inl (cB, 65536, .inl (kf))), (mf, .inl (cI, 1025, .inl (fun k => iI (fa k)))), (ml, .inl (cI, 1025, .inl (fun k => iI (la k))))] sz) := by
  refine Met.ofW (cc := cX3_word) (maxL := 4) (ret := none) (by decide) rfl ?_
  intro p e s m args below meth c s₁ B hml hv
  obtain ⟨rfl, hsz, hP, hK, hD0⟩ := hv
  have hx := B.exec
  have hb := B.bytes
  have hr := B.returns
  have hts := atoms_spec (ws := wX3_word) B.pre
  have hown : s.vm.findClass "RequestCutterModel" = some m.cls := findClass_of_methodNamed B.named
  have hlocks := B.notSynchronized
  subst hsz
  have hD := hD0.self (sz := s.heap.size)
  generalize hAe : va_A [(m0, .inr (3, [.ref mt, .ref mi, .ref mk, .ref mf, .ref ml, .int (iI ((tc : Int))), .int (iI ((n : Int))), .int (iI ((w : Int))), .int (iI ((ks : Int))), .int (iI (ft)), .int (iI (pa))])), (mi, .inl (cB, 65536, .inl (f))), (mk, .inl (cB, 65536, .inl (kf))), (mf, .inl (cI, 1025, .inl (fun k => iI (fa k)))), (ml, .inl (cI, 1025, .inl (fun k => iI (la k))))] s.heap.size = A at hD ⊢
  have hA : ∀ q : Nat, s.heap.size ≤ q → A q := fun q h => by rw [← hAe]; exact Or.inr h
  have hS : va_S A s.heap s.heap [] := va_S.rf
  have hP : va_P (dC, dI) vwCl [(m0, .inr (3, [.ref mt, .ref mi, .ref mk, .ref mf, .ref ml, .int (iI ((tc : Int))), .int (iI ((n : Int))), .int (iI ((w : Int))), .int (iI ((ks : Int))), .int (iI (ft)), .int (iI (pa))])), (mi, .inl (cB, 65536, .inl (f))), (mk, .inl (cB, 65536, .inl (kf))), (mf, .inl (cI, 1025, .inl (fun k => iI (fa k)))), (ml, .inl (cI, 1025, .inl (fun k => iI (la k))))] s.heap := hP
  have hl := lv_entry ([.ref m0, .int (iI ((x : Int))), .int (iI ((z : Int)))]) (n := 4) (Nat.le_of_ble_eq_true rfl)
  rw [lg_entry_eq]
  generalize (lg_sl ([.ref m0, .int (iI ((x : Int))), .int (iI ((z : Int)))]) ++ List.replicate (4 - (lg_sl ([.ref m0, .int (iI ((x : Int))), .int (iI ((z : Int)))])).length) Slot.unset).toArray = ls at hl ⊢
  have hl : lv_has ls 4 [(0, .ref m0), (1, .int (iI ((x : Int)))), (2, .int (iI ((z : Int))))] := hl
  refine lv_aload_n hx hb dX3_word_0 rfl (lv_at hl 0 rfl) ?_
  refine va_get (D := (dC, dI)) (ci := 3) (v := .ref mf) (C := "RequestCutterModel") (T := TX3) (N := 11) hx hb hts (fun w h => List.mem_cons_of_mem _ (inX3 w h)) hown hK hP 0 rfl rfl 3 (by decide) (hts _ (List.mem_cons_of_mem _ tw_269)) (fun _ h9 => h9) rfl dX3_word_1 ?_
  refine lv_aload_n hx hb dX3_word_4 rfl (lv_at hl 0 rfl) ?_
  refine va_get (D := (dC, dI)) (ci := 3) (v := .int (iI ((w : Int)))) (C := "RequestCutterModel") (T := TX3) (N := 11) hx hb hts (fun w h => List.mem_cons_of_mem _ (inX3 w h)) hown hK hP 0 rfl rfl 7 (by decide) (hts _ (List.mem_cons_of_mem _ tw_273)) (fun _ h9 => h9) rfl dX3_word_5 ?_
  refine lv_aload_n hx hb dX3_word_8 rfl (lv_at hl 0 rfl) ?_
  refine va_get (D := (dC, dI)) (ci := 3) (v := .int (iI ((ks : Int)))) (C := "RequestCutterModel") (T := TX3) (N := 11) hx hb hts (fun w h => List.mem_cons_of_mem _ (inX3 w h)) hown hK hP 0 rfl rfl 8 (by decide) (hts _ (List.mem_cons_of_mem _ tw_274)) (fun _ h9 => h9) rfl dX3_word_9 ?_
  refine lx_iast (x := iI ((ks : Int))) (i := (w : Int)) hx hb hK hP hD hS 3 1 rfl rfl (w) (by omega) (by omega) dX3_word_12 (fun H locs hP hD hS => ?_)
  have hP : va_P (dC, dI) vwCl [(m0, .inr (3, [.ref mt, .ref mi, .ref mk, .ref mf, .ref ml, .int (iI ((tc : Int))), .int (iI ((n : Int))), .int (iI ((w : Int))), .int (iI ((ks : Int))), .int (iI (ft)), .int (iI (pa))])), (mi, .inl (cB, 65536, .inl (f))), (mk, .inl (cB, 65536, .inl (kf))), (mf, .inl (cI, 1025, .inl (upd (fun k => iI (fa k)) (w) (iI ((ks : Int)))))), (ml, .inl (cI, 1025, .inl (fun k => iI (la k))))] H := hP
  have hD : va_D A [(m0, .inr (3, [.ref mt, .ref mi, .ref mk, .ref mf, .ref ml, .int (iI ((tc : Int))), .int (iI ((n : Int))), .int (iI ((w : Int))), .int (iI ((ks : Int))), .int (iI (ft)), .int (iI (pa))])), (mi, .inl (cB, 65536, .inl (f))), (mk, .inl (cB, 65536, .inl (kf))), (mf, .inl (cI, 1025, .inl (upd (fun k => iI (fa k)) (w) (iI ((ks : Int)))))), (ml, .inl (cI, 1025, .inl (fun k => iI (la k))))] := hD
  rw [up_iI] at hP hD
  refine lv_aload_n hx hb dX3_word_13 rfl (lv_at hl 0 rfl) ?_
  refine va_get (D := (dC, dI)) (ci := 3) (v := .ref ml) (C := "RequestCutterModel") (T := TX3) (N := 11) hx hb hts (fun w h => List.mem_cons_of_mem _ (inX3 w h)) hown hK hP 0 rfl rfl 4 (by decide) (hts _ (List.mem_cons_of_mem _ tw_270)) (fun _ h9 => h9) rfl dX3_word_14 ?_
  refine lv_aload_n hx hb dX3_word_17 rfl (lv_at hl 0 rfl) ?_
  refine va_get (D := (dC, dI)) (ci := 3) (v := .int (iI ((w : Int)))) (C := "RequestCutterModel") (T := TX3) (N := 11) hx hb hts (fun w h => List.mem_cons_of_mem _ (inX3 w h)) hown hK hP 0 rfl rfl 7 (by decide) (hts _ (List.mem_cons_of_mem _ tw_273)) (fun _ h9 => h9) rfl dX3_word_18 ?_
  refine lv_iload_n hx hb dX3_word_21 rfl (lv_at hl 2 rfl) ?_
  refine lx_iast (x := iI ((z : Int))) (i := (w : Int)) hx hb hK hP hD hS 4 1 rfl rfl (w) (by omega) (by omega) dX3_word_22 (fun H locs hP hD hS => ?_)
  have hP : va_P (dC, dI) vwCl [(m0, .inr (3, [.ref mt, .ref mi, .ref mk, .ref mf, .ref ml, .int (iI ((tc : Int))), .int (iI ((n : Int))), .int (iI ((w : Int))), .int (iI ((ks : Int))), .int (iI (ft)), .int (iI (pa))])), (mi, .inl (cB, 65536, .inl (f))), (mk, .inl (cB, 65536, .inl (kf))), (mf, .inl (cI, 1025, .inl (fun k => iI (updZ (fa) (w) ((ks : Int)) k)))), (ml, .inl (cI, 1025, .inl (upd (fun k => iI (la k)) (w) (iI ((z : Int))))))] H := hP
  have hD : va_D A [(m0, .inr (3, [.ref mt, .ref mi, .ref mk, .ref mf, .ref ml, .int (iI ((tc : Int))), .int (iI ((n : Int))), .int (iI ((w : Int))), .int (iI ((ks : Int))), .int (iI (ft)), .int (iI (pa))])), (mi, .inl (cB, 65536, .inl (f))), (mk, .inl (cB, 65536, .inl (kf))), (mf, .inl (cI, 1025, .inl (fun k => iI (updZ (fa) (w) ((ks : Int)) k)))), (ml, .inl (cI, 1025, .inl (upd (fun k => iI (la k)) (w) (iI ((z : Int))))))] := hD
  rw [up_iI] at hP hD
  refine lv_iconst (v := iI (0)) hx hb dX3_word_23 rfl ?_
  refine lv_istore_n (lv' := [(3, .int (iI (0))), (0, .ref m0), (1, .int (iI ((x : Int)))), (2, .int (iI ((z : Int))))]) hx hb dX3_word_24 rfl hl (by decide) rfl (fun ls hl => ?_)
  refine (?_ : ∀ (k : Nat) (i : Nat) (g : Nat → Int32) (H : Heap) (locs : List Loc) (ls : Array Slot), i + k = z → sb_Fit g → (∀ j, j < ks → g j = kf j) → (∀ j, j < i → g (ks + j) = f (x + j)) → va_P (dC, dI) vwCl [(m0, .inr (3, [.ref mt, .ref mi, .ref mk, .ref mf, .ref ml, .int (iI ((tc : Int))), .int (iI ((n : Int))), .int (iI ((w : Int))), .int (iI ((ks : Int))), .int (iI (ft)), .int (iI (pa))])), (mi, .inl (cB, 65536, .inl (f))), (mk, .inl (cB, 65536, .inl (g))), (mf, .inl (cI, 1025, .inl (fun k => iI (updZ (fa) (w) ((ks : Int)) k)))), (ml, .inl (cI, 1025, .inl (fun k => iI (updZ (la) (w) ((z : Int)) k))))] H → va_D A [(m0, .inr (3, [.ref mt, .ref mi, .ref mk, .ref mf, .ref ml, .int (iI ((tc : Int))), .int (iI ((n : Int))), .int (iI ((w : Int))), .int (iI ((ks : Int))), .int (iI (ft)), .int (iI (pa))])), (mi, .inl (cB, 65536, .inl (f))), (mk, .inl (cB, 65536, .inl (g))), (mf, .inl (cI, 1025, .inl (fun k => iI (updZ (fa) (w) ((ks : Int)) k)))), (ml, .inl (cI, 1025, .inl (fun k => iI (updZ (la) (w) ((z : Int)) k))))] → va_S A s.heap H locs → lv_has ls 4 [(3, .int (iI ((i : Int)))), (0, .ref m0), (1, .int (iI ((x : Int)))), (2, .int (iI ((z : Int))))] → W p l e _ s m _ below meth c H locs _ _ _ (F0 m 25 ls [])) (z) (0) (kf) _ _ ls (by omega) (hkf) (fun _ _ => rfl) (fun j hj => absurd hj (Nat.not_lt_zero j)) (hP.sub [0, 1, 2, 3, 4] rfl) (hD.sub [0, 1, 2, 3, 4] (by decide) rfl) hS (lv_sub hl [0, 1, 2, 3] rfl)
  intro k
  induction k with
  | zero =>
    intro i g H locs ls hk hg hg1 hg2 hP hD hS hl
    refine lv_iload_n hx hb dX3_word_25 rfl (lv_at hl 0 rfl) ?_
    refine lv_iload_n hx hb dX3_word_26 rfl (lv_at hl 3 rfl) ?_
    refine lx_icmp_ge (a := (i : Int)) (b := (z : Int)) (tgt := 55) hx hb dX3_word_27 (by decide) (by omega) (by omega) (fun cq1 => ?_) (fun cq1 => ?_)
    · refine lv_aload_n hx hb dX3_word_55 rfl (lv_at hl 1 rfl) ?_
      refine lv_dup hx hb dX3_word_56 rfl ?_
      refine va_get (D := (dC, dI)) (ci := 3) (v := .int (iI ((ks : Int)))) (C := "RequestCutterModel") (T := TX3) (N := 11) hx hb hts (fun w h => List.mem_cons_of_mem _ (inX3 w h)) hown hK hP 0 rfl rfl 8 (by decide) (hts _ (List.mem_cons_of_mem _ tw_274)) (fun _ h9 => h9) rfl dX3_word_57 ?_
      refine lv_iload_n hx hb dX3_word_60 rfl (lv_at hl 3 rfl) ?_
      refine lx_iadd (a := (ks : Int)) (b := (z : Int)) hx hb dX3_word_61 ?_
      refine lx_top (x2 := iI ((ks + z : Nat) : Int)) (congrArg iI (by omega)) ?_
      refine va_put (D := (dC, dI)) (ci := 3) (v := .int (iI (((ks + z : Nat) : Int)))) (ty := .int) (C := "RequestCutterModel") (T := TX3) (N := 11) hx hb hts (fun w h => List.mem_cons_of_mem _ (inX3 w h)) tyX3 tyX3_ok nmX3 hown hK hP hD hS 0 rfl rfl 8 (by decide) (hts _ (List.mem_cons_of_mem _ tw_274)) (fun _ h9 => h9) rfl (by decide +kernel) rfl rfl (Nat.le_of_ble_eq_true rfl) dX3_word_62 (fun H locs hP hD hS => ?_)
      have hP : va_P (dC, dI) vwCl [(m0, .inr (3, [.ref mt, .ref mi, .ref mk, .ref mf, .ref ml, .int (iI ((tc : Int))), .int (iI ((n : Int))), .int (iI ((w : Int))), .int (iI (((ks + z : Nat) : Int))), .int (iI (ft)), .int (iI (pa))])), (mi, .inl (cB, 65536, .inl (f))), (mk, .inl (cB, 65536, .inl (g))), (mf, .inl (cI, 1025, .inl (fun k => iI (updZ (fa) (w) ((ks : Int)) k)))), (ml, .inl (cI, 1025, .inl (fun k => iI (updZ (la) (w) ((z : Int)) k))))] H := hP
      have hD : va_D A [(m0, .inr (3, [.ref mt, .ref mi, .ref mk, .ref mf, .ref ml, .int (iI ((tc : Int))), .int (iI ((n : Int))), .int (iI ((w : Int))), .int (iI (((ks + z : Nat) : Int))), .int (iI (ft)), .int (iI (pa))])), (mi, .inl (cB, 65536, .inl (f))), (mk, .inl (cB, 65536, .inl (g))), (mf, .inl (cI, 1025, .inl (fun k => iI (updZ (fa) (w) ((ks : Int)) k)))), (ml, .inl (cI, 1025, .inl (fun k => iI (updZ (la) (w) ((z : Int)) k))))] := hD
      refine lv_aload_n hx hb dX3_word_65 rfl (lv_at hl 1 rfl) ?_
      refine lv_dup hx hb dX3_word_66 rfl ?_
      refine va_get (D := (dC, dI)) (ci := 3) (v := .int (iI ((w : Int)))) (C := "RequestCutterModel") (T := TX3) (N := 11) hx hb hts (fun w h => List.mem_cons_of_mem _ (inX3 w h)) hown hK hP 0 rfl rfl 7 (by decide) (hts _ (List.mem_cons_of_mem _ tw_273)) (fun _ h9 => h9) rfl dX3_word_67 ?_
      refine lv_iconst (v := iI (1)) hx hb dX3_word_70 rfl ?_
      refine lx_iadd (a := (w : Int)) (b := 1) hx hb dX3_word_71 ?_
      refine lx_top (x2 := iI ((w + 1 : Nat) : Int)) (congrArg iI (by omega)) ?_
      refine va_put (D := (dC, dI)) (ci := 3) (v := .int (iI (((w + 1 : Nat) : Int)))) (ty := .int) (C := "RequestCutterModel") (T := TX3) (N := 11) hx hb hts (fun w h => List.mem_cons_of_mem _ (inX3 w h)) tyX3 tyX3_ok nmX3 hown hK hP hD hS 0 rfl rfl 7 (by decide) (hts _ (List.mem_cons_of_mem _ tw_273)) (fun _ h9 => h9) rfl (by decide +kernel) rfl rfl (Nat.le_of_ble_eq_true rfl) dX3_word_72 (fun H locs hP hD hS => ?_)
      have hP : va_P (dC, dI) vwCl [(m0, .inr (3, [.ref mt, .ref mi, .ref mk, .ref mf, .ref ml, .int (iI ((tc : Int))), .int (iI ((n : Int))), .int (iI (((w + 1 : Nat) : Int))), .int (iI (((ks + z : Nat) : Int))), .int (iI (ft)), .int (iI (pa))])), (mi, .inl (cB, 65536, .inl (f))), (mk, .inl (cB, 65536, .inl (g))), (mf, .inl (cI, 1025, .inl (fun k => iI (updZ (fa) (w) ((ks : Int)) k)))), (ml, .inl (cI, 1025, .inl (fun k => iI (updZ (la) (w) ((z : Int)) k))))] H := hP
      have hD : va_D A [(m0, .inr (3, [.ref mt, .ref mi, .ref mk, .ref mf, .ref ml, .int (iI ((tc : Int))), .int (iI ((n : Int))), .int (iI (((w + 1 : Nat) : Int))), .int (iI (((ks + z : Nat) : Int))), .int (iI (ft)), .int (iI (pa))])), (mi, .inl (cB, 65536, .inl (f))), (mk, .inl (cB, 65536, .inl (g))), (mf, .inl (cI, 1025, .inl (fun k => iI (updZ (fa) (w) ((ks : Int)) k)))), (ml, .inl (cI, 1025, .inl (fun k => iI (updZ (la) (w) ((z : Int)) k))))] := hD
      exact W.vret hx hb hr (fun t ht hW => ⟨⟨g, rfl, ⟨hg, hg1, fun j hj => hg2 j (by omega)⟩, by rw [ht]; exact hP, va_K.moved hW.alike hK, hD⟩, hS.F ht⟩) hS.2.2 dX3_word_75
    · exact absurd cq1 (by omega)
  | succ k ih =>
    intro i g H locs ls hk hg hg1 hg2 hP hD hS hl
    refine lv_iload_n hx hb dX3_word_25 rfl (lv_at hl 0 rfl) ?_
    refine lv_iload_n hx hb dX3_word_26 rfl (lv_at hl 3 rfl) ?_
    refine lx_icmp_ge (a := (i : Int)) (b := (z : Int)) (tgt := 55) hx hb dX3_word_27 (by decide) (by omega) (by omega) (fun cq2 => ?_) (fun cq2 => ?_)
    · exact absurd cq2 (by omega)
    · refine lv_aload_n hx hb dX3_word_30 rfl (lv_at hl 1 rfl) ?_
      refine va_get (D := (dC, dI)) (ci := 3) (v := .ref mk) (C := "RequestCutterModel") (T := TX3) (N := 11) hx hb hts (fun w h => List.mem_cons_of_mem _ (inX3 w h)) hown hK hP 0 rfl rfl 2 (by decide) (hts _ (List.mem_cons_of_mem _ tw_268)) (fun _ h9 => h9) rfl dX3_word_31 ?_
      refine lv_aload_n hx hb dX3_word_34 rfl (lv_at hl 1 rfl) ?_
      refine va_get (D := (dC, dI)) (ci := 3) (v := .int (iI ((ks : Int)))) (C := "RequestCutterModel") (T := TX3) (N := 11) hx hb hts (fun w h => List.mem_cons_of_mem _ (inX3 w h)) hown hK hP 0 rfl rfl 8 (by decide) (hts _ (List.mem_cons_of_mem _ tw_274)) (fun _ h9 => h9) rfl dX3_word_35 ?_
      refine lv_iload_n hx hb dX3_word_38 rfl (lv_at hl 0 rfl) ?_
      refine lx_iadd (a := (ks : Int)) (b := (i : Int)) hx hb dX3_word_39 ?_
      refine lv_aload_n hx hb dX3_word_40 rfl (lv_at hl 1 rfl) ?_
      refine va_get (D := (dC, dI)) (ci := 3) (v := .ref mi) (C := "RequestCutterModel") (T := TX3) (N := 11) hx hb hts (fun w h => List.mem_cons_of_mem _ (inX3 w h)) hown hK hP 0 rfl rfl 1 (by decide) (hts _ (List.mem_cons_of_mem _ tw_267)) (fun _ h9 => h9) rfl dX3_word_41 ?_
      refine lv_iload_n hx hb dX3_word_44 rfl (lv_at hl 2 rfl) ?_
      refine lv_iload_n hx hb dX3_word_45 rfl (lv_at hl 0 rfl) ?_
      refine lx_iadd (a := (x : Int)) (b := (i : Int)) hx hb dX3_word_46 ?_
      refine va_bald hx hb hK hP 1 0 rfl rfl (iI_in (by omega)) dX3_word_47 ?_
      refine lx_top (x2 := (f) (x + i)) (congrArg (f) (iI_clN (n := x + i) (by omega))) ?_
      refine lx_bast (x := (f) (x + i)) (v := f (x + i)) (i := ((ks : Int)) + ((i : Int))) hx hb hK hP hD hS 2 0 rfl rfl (ks + i) (by omega) (by omega) (nar_fit (hfit _)) dX3_word_48 (fun H locs hP hD hS => ?_)
      have hP : va_P (dC, dI) vwCl [(m0, .inr (3, [.ref mt, .ref mi, .ref mk, .ref mf, .ref ml, .int (iI ((tc : Int))), .int (iI ((n : Int))), .int (iI ((w : Int))), .int (iI ((ks : Int))), .int (iI (ft)), .int (iI (pa))])), (mi, .inl (cB, 65536, .inl (f))), (mk, .inl (cB, 65536, .inl (upd (g) (ks + i) (f (x + i))))), (mf, .inl (cI, 1025, .inl (fun k => iI (updZ (fa) (w) ((ks : Int)) k)))), (ml, .inl (cI, 1025, .inl (fun k => iI (updZ (la) (w) ((z : Int)) k))))] H := hP
      have hD : va_D A [(m0, .inr (3, [.ref mt, .ref mi, .ref mk, .ref mf, .ref ml, .int (iI ((tc : Int))), .int (iI ((n : Int))), .int (iI ((w : Int))), .int (iI ((ks : Int))), .int (iI (ft)), .int (iI (pa))])), (mi, .inl (cB, 65536, .inl (f))), (mk, .inl (cB, 65536, .inl (upd (g) (ks + i) (f (x + i))))), (mf, .inl (cI, 1025, .inl (fun k => iI (updZ (fa) (w) ((ks : Int)) k)))), (ml, .inl (cI, 1025, .inl (fun k => iI (updZ (la) (w) ((z : Int)) k))))] := hD
      refine lv_iinc (v := iI ((i : Int) + 1)) (lv' := [(3, .int (iI ((i : Int) + 1))), (0, .ref m0), (1, .int (iI ((x : Int)))), (2, .int (iI ((z : Int))))]) hx hb dX3_word_49 hl (k := 0) rfl (iI_add _ _) (by decide) rfl (fun ls hl => ?_)
      refine lv_goto (tgt := 25) hx hb dX3_word_52 (by decide) ?_
      exact ih (i + 1) (upd g (ks + i) (f (x + i))) _ _ ls (by omega) (sb_fitU hg (hfit _)) (fun j hj => by simp only [upd]; rw [if_neg (by omega)]; exact hg1 j hj) (fun j hj => by simp only [upd]; by_cases q : j = i; rw [q, if_pos rfl]; rw [if_neg (by omega)]; exact hg2 j (by omega)) (hP.sub [0, 1, 2, 3, 4] rfl) (hD.sub [0, 1, 2, 3, 4] (by decide) rfl) hS (lv_sub hl [0, 1, 2, 3] rfl)
set_option maxHeartbeats 4000000 in
set_option maxRecDepth 100000 in
/-- RequestCutterModel() -/
theorem c_X3_init (l : Launch) (dC : Nat → ClassId) (dI : Nat → Nat → Nat) (cB cI : ClassId) (sz : Nat) (m0 : Nat) : Met l yX3_init wX3_init ({ frames := 1, cells := 5, slots := 143362, locals := 21 }) (va_Pc [.ref m0] (vx_B (dC, dI) vwCl [(cB, .byte), (cI, .int)] [(m0, .inr (3, [.null, .null, .null, .null, .null, .int (iI (0)), .int (iI (0)), .int (iI (0)), .int (iI (0)), .int (iI (0)), .int (iI (0))]))] sz)) (va_Qv (fun (u : Nat × Nat × Nat × Nat × Nat) => True) (fun (u : Nat × Nat × Nat × Nat × Nat) => vx_E (dC, dI) vwCl [(cB, .byte), (cI, .int)] (va_A [(m0, .inr (3, [.null, .null, .null, .null, .null, .int (iI (0)), .int (iI (0)), .int (iI (0)), .int (iI (0)), .int (iI (0)), .int (iI (0))]))] sz) [(m0, .inr (3, [.ref u.1, .ref u.2.1, .ref u.2.2.1, .ref u.2.2.2.1, .ref u.2.2.2.2, .int (iI (0)), .int (iI (0)), .int (iI (0)), .int (iI (0)), .int (iI (0)), .int (iI (0))])), (u.1, .inl (cB, 10240, .inl (fun _ => 0))), (u.2.1, .inl (cB, 65536, .inl (fun _ => 0))), (u.2.2.1, .inl (cB, 65536, .inl (fun _ => 0))), (u.2.2.2.1, .inl (cI, 1025, .inl (fun _ => 0))), (u.2.2.2.2, .inl (cI, 1025, .inl (fun _ => 0)))]) (va_A [(m0, .inr (3, [.null, .null, .null, .null, .null, .int (iI (0)), .int (iI (0)), .int (iI (0)), .int (iI (0)), .int (iI (0)), .int (iI (0))]))] sz)) (5) (143362) (va_A [(m0, .inr (3, [.null, .null, .null, .null, .null, .int (iI (0)), .int (iI (0)), .int (iI (0)), .int (iI (0)), .int (iI (0)), .int (iI (0))]))] sz) := by
  refine Met.ofW (cc := cX3_init) (maxL := 1) (ret := none) (by decide) rfl ?_
  intro p e s m args below meth c s₁ B hml hv
  obtain ⟨rfl, hsz, hP, hK, hD0⟩ := hv
  have hx := B.exec
  have hb := B.bytes
  have hr := B.returns
  have hts := atoms_spec (ws := wX3_init) B.pre
  have hown : s.vm.findClass "RequestCutterModel" = some m.cls := findClass_of_methodNamed B.named
  have hlocks := B.notSynchronized
  have hin : meth.name = "<init>" := (name_of_methodNamed B.named B.method).1
  subst hsz
  have hD := hD0.self (sz := s.heap.size)
  generalize hAe : va_A [(m0, .inr (3, [.null, .null, .null, .null, .null, .int (iI (0)), .int (iI (0)), .int (iI (0)), .int (iI (0)), .int (iI (0)), .int (iI (0))]))] s.heap.size = A at hD ⊢
  have hA : ∀ q : Nat, s.heap.size ≤ q → A q := fun q h => by rw [← hAe]; exact Or.inr h
  have hS : va_S A s.heap s.heap [] := va_S.rf
  have hP : va_P (dC, dI) vwCl [(m0, .inr (3, [.null, .null, .null, .null, .null, .int (iI (0)), .int (iI (0)), .int (iI (0)), .int (iI (0)), .int (iI (0)), .int (iI (0))]))] s.heap := hP
  have hl := lv_entry ([.ref m0]) (n := 1) (Nat.le_of_ble_eq_true rfl)
  rw [lg_entry_eq]
  generalize (lg_sl ([.ref m0]) ++ List.replicate (1 - (lg_sl ([.ref m0])).length) Slot.unset).toArray = ls at hl ⊢
  have hl : lv_has ls 1 [(0, .ref m0)] := hl
  refine lv_aload_n hx hb dX3_init_0 rfl (lv_at hl 0 rfl) ?_
  refine W.objInit hx hb hown (hts _ (List.mem_cons_of_mem _ tw_264)) (hts _ (List.mem_cons_of_mem _ tw_32)) (hts _ (List.mem_cons_of_mem _ tw_33)) rfl (by rw [hml]; exact hl.1) rfl dX3_init_1 (Nat.le_of_ble_eq_true rfl) (Nat.le_of_ble_eq_true rfl) ?_
  refine W.eq (g2 := F0 m 4 ls []) rfl ?_
  refine lv_aload_n hx hb dX3_init_4 rfl (lv_at hl 0 rfl) ?_
  refine lv_sipush (v := iI (10240)) hx hb dX3_init_5 (by decide) ?_
  refine va_newa (atype := .byte) (a0 := (10240, .inl (fun _ => 0))) (ty := .byte) hx hb (hts _ (List.mem_cons_of_mem _ tw_50)) rfl hK hP hD hS hA (fun _ => rfl) (iI_nn (by omega)) (by rw [iI_cl (by omega)]; omega) (by show 10240 * 1 ≤ 536870912; omega) (by show 0 + 1 ≤ 5; omega) (by show 0 + 10240 ≤ 143362; omega) dX3_init_8 (fun q1 cA H hK1 hP hD hS => ?_)
  obtain rfl : cB = cA := vx_nmB hK1 0 2 rfl rfl
  have hP : va_P (dC, dI) vwCl [(m0, .inr (3, [.null, .null, .null, .null, .null, .int (iI (0)), .int (iI (0)), .int (iI (0)), .int (iI (0)), .int (iI (0)), .int (iI (0))])), (q1, .inl (cB, 10240, .inl (fun _ => 0)))] H := hP
  have hD : va_D A [(m0, .inr (3, [.null, .null, .null, .null, .null, .int (iI (0)), .int (iI (0)), .int (iI (0)), .int (iI (0)), .int (iI (0)), .int (iI (0))])), (q1, .inl (cB, 10240, .inl (fun _ => 0)))] := hD
  refine W.widen (k := 1) (n := 10240) (by omega) (by omega) ?_
  refine va_putF (D := (dC, dI)) (ci := 3) (v := .ref q1) (ty := .array .byte) (C := "RequestCutterModel") (T := TX3) (N := 11) hx hb hts (fun w h => List.mem_cons_of_mem _ (inX3 w h)) tyX3 tyX3_ok nmX3 hown hK hP hD hS 0 rfl rfl 0 (by decide) (hts _ (List.mem_cons_of_mem _ tw_266)) (fun _ h9 => h9) rfl hin rfl (by decide +kernel) rfl rfl (Nat.le_of_ble_eq_true rfl) dX3_init_10 (fun H locs hP hD hS => ?_)
  have hP : va_P (dC, dI) vwCl [(m0, .inr (3, [.ref q1, .null, .null, .null, .null, .int (iI (0)), .int (iI (0)), .int (iI (0)), .int (iI (0)), .int (iI (0)), .int (iI (0))])), (q1, .inl (cB, 10240, .inl (fun _ => 0)))] H := hP
  have hD : va_D A [(m0, .inr (3, [.ref q1, .null, .null, .null, .null, .int (iI (0)), .int (iI (0)), .int (iI (0)), .int (iI (0)), .int (iI (0)), .int (iI (0))])), (q1, .inl (cB, 10240, .inl (fun _ => 0)))] := hD
  refine lv_aload_n hx hb dX3_init_13 rfl (lv_at hl 0 rfl) ?_
  refine lx_ldc (z := 65536) (v := 65536) hx hb hown (hts _ (List.mem_cons_of_mem _ tw_265)) (by decide) dX3_init_14 ?_
  refine va_newa (atype := .byte) (a0 := (65536, .inl (fun _ => 0))) (ty := .byte) hx hb (hts _ (List.mem_cons_of_mem _ tw_50)) rfl hK hP hD hS hA (fun _ => rfl) (iI_nn (by omega)) (by rw [iI_cl (by omega)]; omega) (by show 65536 * 1 ≤ 536870912; omega) (by show 1 + 1 ≤ 5; omega) (by show 10240 + 65536 ≤ 143362; omega) dX3_init_16 (fun q2 cA H hK1 hP hD hS => ?_)
  obtain rfl : cB = cA := vx_nmB hK1 0 2 rfl rfl
  have hP : va_P (dC, dI) vwCl [(m0, .inr (3, [.ref q1, .null, .null, .null, .null, .int (iI (0)), .int (iI (0)), .int (iI (0)), .int (iI (0)), .int (iI (0)), .int (iI (0))])), (q1, .inl (cB, 10240, .inl (fun _ => 0))), (q2, .inl (cB, 65536, .inl (fun _ => 0)))] H := hP
  have hD : va_D A [(m0, .inr (3, [.ref q1, .null, .null, .null, .null, .int (iI (0)), .int (iI (0)), .int (iI (0)), .int (iI (0)), .int (iI (0)), .int (iI (0))])), (q1, .inl (cB, 10240, .inl (fun _ => 0))), (q2, .inl (cB, 65536, .inl (fun _ => 0)))] := hD
  refine W.widen (k := 2) (n := 75776) (by omega) (by omega) ?_
  refine va_putF (D := (dC, dI)) (ci := 3) (v := .ref q2) (ty := .array .byte) (C := "RequestCutterModel") (T := TX3) (N := 11) hx hb hts (fun w h => List.mem_cons_of_mem _ (inX3 w h)) tyX3 tyX3_ok nmX3 hown hK hP hD hS 0 rfl rfl 1 (by decide) (hts _ (List.mem_cons_of_mem _ tw_267)) (fun _ h9 => h9) rfl hin rfl (by decide +kernel) rfl rfl (Nat.le_of_ble_eq_true rfl) dX3_init_18 (fun H locs hP hD hS => ?_)
  have hP : va_P (dC, dI) vwCl [(m0, .inr (3, [.ref q1, .ref q2, .null, .null, .null, .int (iI (0)), .int (iI (0)), .int (iI (0)), .int (iI (0)), .int (iI (0)), .int (iI (0))])), (q1, .inl (cB, 10240, .inl (fun _ => 0))), (q2, .inl (cB, 65536, .inl (fun _ => 0)))] H := hP
  have hD : va_D A [(m0, .inr (3, [.ref q1, .ref q2, .null, .null, .null, .int (iI (0)), .int (iI (0)), .int (iI (0)), .int (iI (0)), .int (iI (0)), .int (iI (0))])), (q1, .inl (cB, 10240, .inl (fun _ => 0))), (q2, .inl (cB, 65536, .inl (fun _ => 0)))] := hD
  refine lv_aload_n hx hb dX3_init_21 rfl (lv_at hl 0 rfl) ?_
  refine lx_ldc (z := 65536) (v := 65536) hx hb hown (hts _ (List.mem_cons_of_mem _ tw_265)) (by decide) dX3_init_22 ?_
  refine va_newa (atype := .byte) (a0 := (65536, .inl (fun _ => 0))) (ty := .byte) hx hb (hts _ (List.mem_cons_of_mem _ tw_50)) rfl hK hP hD hS hA (fun _ => rfl) (iI_nn (by omega)) (by rw [iI_cl (by omega)]; omega) (by show 65536 * 1 ≤ 536870912; omega) (by show 2 + 1 ≤ 5; omega) (by show 75776 + 65536 ≤ 143362; omega) dX3_init_24 (fun q3 cA H hK1 hP hD hS => ?_)
  obtain rfl : cB = cA := vx_nmB hK1 0 2 rfl rfl
  have hP : va_P (dC, dI) vwCl [(m0, .inr (3, [.ref q1, .ref q2, .null, .null, .null, .int (iI (0)), .int (iI (0)), .int (iI (0)), .int (iI (0)), .int (iI (0)), .int (iI (0))])), (q1, .inl (cB, 10240, .inl (fun _ => 0))), (q2, .inl (cB, 65536, .inl (fun _ => 0))), (q3, .inl (cB, 65536, .inl (fun _ => 0)))] H := hP
  have hD : va_D A [(m0, .inr (3, [.ref q1, .ref q2, .null, .null, .null, .int (iI (0)), .int (iI (0)), .int (iI (0)), .int (iI (0)), .int (iI (0)), .int (iI (0))])), (q1, .inl (cB, 10240, .inl (fun _ => 0))), (q2, .inl (cB, 65536, .inl (fun _ => 0))), (q3, .inl (cB, 65536, .inl (fun _ => 0)))] := hD
  refine W.widen (k := 3) (n := 141312) (by omega) (by omega) ?_
  refine va_putF (D := (dC, dI)) (ci := 3) (v := .ref q3) (ty := .array .byte) (C := "RequestCutterModel") (T := TX3) (N := 11) hx hb hts (fun w h => List.mem_cons_of_mem _ (inX3 w h)) tyX3 tyX3_ok nmX3 hown hK hP hD hS 0 rfl rfl 2 (by decide) (hts _ (List.mem_cons_of_mem _ tw_268)) (fun _ h9 => h9) rfl hin rfl (by decide +kernel) rfl rfl (Nat.le_of_ble_eq_true rfl) dX3_init_26 (fun H locs hP hD hS => ?_)
  have hP : va_P (dC, dI) vwCl [(m0, .inr (3, [.ref q1, .ref q2, .ref q3, .null, .null, .int (iI (0)), .int (iI (0)), .int (iI (0)), .int (iI (0)), .int (iI (0)), .int (iI (0))])), (q1, .inl (cB, 10240, .inl (fun _ => 0))), (q2, .inl (cB, 65536, .inl (fun _ => 0))), (q3, .inl (cB, 65536, .inl (fun _ => 0)))] H := hP
  have hD : va_D A [(m0, .inr (3, [.ref q1, .ref q2, .ref q3, .null, .null, .int (iI (0)), .int (iI (0)), .int (iI (0)), .int (iI (0)), .int (iI (0)), .int (iI (0))])), (q1, .inl (cB, 10240, .inl (fun _ => 0))), (q2, .inl (cB, 65536, .inl (fun _ => 0))), (q3, .inl (cB, 65536, .inl (fun _ => 0)))] := hD
  refine lv_aload_n hx hb dX3_init_29 rfl (lv_at hl 0 rfl) ?_
  refine lv_sipush (v := iI (1025)) hx hb dX3_init_30 (by decide) ?_
  refine va_newa (atype := .int) (a0 := (1025, .inl (fun _ => 0))) (ty := .int) hx hb (hts _ (List.mem_cons_of_mem _ tw_74)) rfl hK hP hD hS hA (fun _ => rfl) (iI_nn (by omega)) (by rw [iI_cl (by omega)]; omega) (by show 1025 * 4 ≤ 536870912; omega) (by show 3 + 1 ≤ 5; omega) (by show 141312 + 1025 ≤ 143362; omega) dX3_init_33 (fun q4 cA H hK1 hP hD hS => ?_)
  obtain rfl : cI = cA := vx_nmI hK1 1 2 rfl rfl
  have hP : va_P (dC, dI) vwCl [(m0, .inr (3, [.ref q1, .ref q2, .ref q3, .null, .null, .int (iI (0)), .int (iI (0)), .int (iI (0)), .int (iI (0)), .int (iI (0)), .int (iI (0))])), (q1, .inl (cB, 10240, .inl (fun _ => 0))), (q2, .inl (cB, 65536, .inl (fun _ => 0))), (q3, .inl (cB, 65536, .inl (fun _ => 0))), (q4, .inl (cI, 1025, .inl (fun _ => 0)))] H := hP
  have hD : va_D A [(m0, .inr (3, [.ref q1, .ref q2, .ref q3, .null, .null, .int (iI (0)), .int (iI (0)), .int (iI (0)), .int (iI (0)), .int (iI (0)), .int (iI (0))])), (q1, .inl (cB, 10240, .inl (fun _ => 0))), (q2, .inl (cB, 65536, .inl (fun _ => 0))), (q3, .inl (cB, 65536, .inl (fun _ => 0))), (q4, .inl (cI, 1025, .inl (fun _ => 0)))] := hD
  refine W.widen (k := 4) (n := 142337) (by omega) (by omega) ?_
  refine va_putF (D := (dC, dI)) (ci := 3) (v := .ref q4) (ty := .array .int) (C := "RequestCutterModel") (T := TX3) (N := 11) hx hb hts (fun w h => List.mem_cons_of_mem _ (inX3 w h)) tyX3 tyX3_ok nmX3 hown hK hP hD hS 0 rfl rfl 3 (by decide) (hts _ (List.mem_cons_of_mem _ tw_269)) (fun _ h9 => h9) rfl hin rfl (by decide +kernel) rfl rfl (Nat.le_of_ble_eq_true rfl) dX3_init_35 (fun H locs hP hD hS => ?_)
  have hP : va_P (dC, dI) vwCl [(m0, .inr (3, [.ref q1, .ref q2, .ref q3, .ref q4, .null, .int (iI (0)), .int (iI (0)), .int (iI (0)), .int (iI (0)), .int (iI (0)), .int (iI (0))])), (q1, .inl (cB, 10240, .inl (fun _ => 0))), (q2, .inl (cB, 65536, .inl (fun _ => 0))), (q3, .inl (cB, 65536, .inl (fun _ => 0))), (q4, .inl (cI, 1025, .inl (fun _ => 0)))] H := hP
  have hD : va_D A [(m0, .inr (3, [.ref q1, .ref q2, .ref q3, .ref q4, .null, .int (iI (0)), .int (iI (0)), .int (iI (0)), .int (iI (0)), .int (iI (0)), .int (iI (0))])), (q1, .inl (cB, 10240, .inl (fun _ => 0))), (q2, .inl (cB, 65536, .inl (fun _ => 0))), (q3, .inl (cB, 65536, .inl (fun _ => 0))), (q4, .inl (cI, 1025, .inl (fun _ => 0)))] := hD
  refine lv_aload_n hx hb dX3_init_38 rfl (lv_at hl 0 rfl) ?_
  refine lv_sipush (v := iI (1025)) hx hb dX3_init_39 (by decide) ?_
  refine va_newa (atype := .int) (a0 := (1025, .inl (fun _ => 0))) (ty := .int) hx hb (hts _ (List.mem_cons_of_mem _ tw_74)) rfl hK hP hD hS hA (fun _ => rfl) (iI_nn (by omega)) (by rw [iI_cl (by omega)]; omega) (by show 1025 * 4 ≤ 536870912; omega) (by show 4 + 1 ≤ 5; omega) (by show 142337 + 1025 ≤ 143362; omega) dX3_init_42 (fun q5 cA H hK1 hP hD hS => ?_)
  obtain rfl : cI = cA := vx_nmI hK1 1 2 rfl rfl
  have hP : va_P (dC, dI) vwCl [(m0, .inr (3, [.ref q1, .ref q2, .ref q3, .ref q4, .null, .int (iI (0)), .int (iI (0)), .int (iI (0)), .int (iI (0)), .int (iI (0)), .int (iI (0))])), (q1, .inl (cB, 10240, .inl (fun _ => 0))), (q2, .inl (cB, 65536, .inl (fun _ => 0))), (q3, .inl (cB, 65536, .inl (fun _ => 0))), (q4, .inl (cI, 1025, .inl (fun _ => 0))), (q5, .inl (cI, 1025, .inl (fun _ => 0)))] H := hP
  have hD : va_D A [(m0, .inr (3, [.ref q1, .ref q2, .ref q3, .ref q4, .null, .int (iI (0)), .int (iI (0)), .int (iI (0)), .int (iI (0)), .int (iI (0)), .int (iI (0))])), (q1, .inl (cB, 10240, .inl (fun _ => 0))), (q2, .inl (cB, 65536, .inl (fun _ => 0))), (q3, .inl (cB, 65536, .inl (fun _ => 0))), (q4, .inl (cI, 1025, .inl (fun _ => 0))), (q5, .inl (cI, 1025, .inl (fun _ => 0)))] := hD
  refine W.widen (k := 5) (n := 143362) (by omega) (by omega) ?_
  refine va_putF (D := (dC, dI)) (ci := 3) (v := .ref q5) (ty := .array .int) (C := "RequestCutterModel") (T := TX3) (N := 11) hx hb hts (fun w h => List.mem_cons_of_mem _ (inX3 w h)) tyX3 tyX3_ok nmX3 hown hK hP hD hS 0 rfl rfl 4 (by decide) (hts _ (List.mem_cons_of_mem _ tw_270)) (fun _ h9 => h9) rfl hin rfl (by decide +kernel) rfl rfl (Nat.le_of_ble_eq_true rfl) dX3_init_44 (fun H locs hP hD hS => ?_)
  have hP : va_P (dC, dI) vwCl [(m0, .inr (3, [.ref q1, .ref q2, .ref q3, .ref q4, .ref q5, .int (iI (0)), .int (iI (0)), .int (iI (0)), .int (iI (0)), .int (iI (0)), .int (iI (0))])), (q1, .inl (cB, 10240, .inl (fun _ => 0))), (q2, .inl (cB, 65536, .inl (fun _ => 0))), (q3, .inl (cB, 65536, .inl (fun _ => 0))), (q4, .inl (cI, 1025, .inl (fun _ => 0))), (q5, .inl (cI, 1025, .inl (fun _ => 0)))] H := hP
  have hD : va_D A [(m0, .inr (3, [.ref q1, .ref q2, .ref q3, .ref q4, .ref q5, .int (iI (0)), .int (iI (0)), .int (iI (0)), .int (iI (0)), .int (iI (0)), .int (iI (0))])), (q1, .inl (cB, 10240, .inl (fun _ => 0))), (q2, .inl (cB, 65536, .inl (fun _ => 0))), (q3, .inl (cB, 65536, .inl (fun _ => 0))), (q4, .inl (cI, 1025, .inl (fun _ => 0))), (q5, .inl (cI, 1025, .inl (fun _ => 0)))] := hD
  exact W.vret hx hb hr (fun t ht hW => ⟨⟨(q1, q2, q3, q4, q5), rfl, trivial, by rw [ht]; exact hP, va_K.moved hW.alike hK, hD⟩, hS.F ht⟩) hS.2.2 dX3_init_47
end
section
/-! THE REFERENCE's reading of a LINE, beside zLine -/
def mL (a : Int → Int) (n : Nat) (pa : Int) : Int × Int :=
  if zStop a pa = -1 then (if 16 ≤ (n : Int) - pa then -1000001 else -1000000, pa)
  else ((zNum a (pa + 1) (zStop a pa)).getD (-1000001), zStop a pa + 2)
theorem mL_1 {a : Int → Int} {n : Nat} {pa : Int} (h : zStop a pa = -1) : mL a n pa = (if 16 ≤ (n : Int) - pa then -1000001 else -1000000, pa) := if_pos h
theorem mL_2 {a : Int → Int} {n : Nat} {pa i : Int} (h : zStop a pa = i) (hi : ¬ i = -1) : mL a n pa = ((zNum a (pa + 1) i).getD (-1000001), i + 2) := by
  subst h
  exact if_neg hi
theorem zStopGo_out (f : Nat → Int32) (n : Nat) : ∀ (k : Nat) (i : Int), (n : Int) ≤ i + 1 → zStopGo (bA f n) k i = -1 := by
  intro k
  induction k with
  | zero => intro i _; rfl
  | succ k ih =>
    intro i h
    have e : ¬ (bA f n i = 13 ∧ bA f n (i + 1) = 10) := fun q => by
      have := bA_has (f := f) (n := n) (i := i + 1) (by omega)
      omega
    exact (if_neg e).trans (ih (i + 1) (by omega))
theorem zDig_s {a : Int → Int} {k : Nat} {i x : Int} (x' : Int) (h : ¬ (a i < 48 ∨ 57 < a i)) (hx : x' = x * 10 + (a i - 48)) : zDig a (k + 1) i x = zDig a k (i + 1) x' := by
  subst hx
  exact if_neg h
theorem zDig_b {a : Int → Int} {k : Nat} {i x : Int} (h : a i < 48 ∨ 57 < a i) : zDig a (k + 1) i x = none := if_pos h
theorem mL_rel (a : Int → Int) (n : Nat) (pa least most : Int) (hl : -999999 ≤ least ∧ most ≤ 999999) :
    ((mL a n pa).1 = -1000000 ∧ (zLine a n pa least most).1 = -1) ∨ ((mL a n pa).1 = -1000001 ∧ (zLine a n pa least most).1 = -2) ∨ (((mL a n pa).1 < least ∨ most < (mL a n pa).1) ∧ (zLine a n pa least most).1 = -2 ∧ -999999 ≤ (mL a n pa).1 ∧ (mL a n pa).1 ≤ 999999) ∨ ((least ≤ (mL a n pa).1 ∧ (mL a n pa).1 ≤ most) ∧ (zLine a n pa least most).1 = (mL a n pa).2 ∧ (zLine a n pa least most).2 = (mL a n pa).1) := by
  by_cases h : zStop a pa = -1
  · rw [mL_1 h, zLine_1 h]
    by_cases q : 16 ≤ (n : Int) - pa
    · rw [if_pos q, if_pos q]; exact Or.inr (Or.inl ⟨rfl, rfl⟩)
    · rw [if_neg q, if_neg q]; exact Or.inl ⟨rfl, rfl⟩
  · rw [mL_2 rfl h]
    by_cases q : (zNum a (pa + 1) (zStop a pa)).isSome = true
    · obtain ⟨z, hz⟩ : ∃ z, z = (zNum a (pa + 1) (zStop a pa)).getD (-1000001) := ⟨_, rfl⟩
      have hr : -999999 ≤ z ∧ z ≤ 999999 := by
        cases e : zNum a (pa + 1) (zStop a pa) with
        | none => rw [e] at q; exact absurd q (by decide)
        | some y => rw [e] at hz; have := zNum_rg e; rw [show z = y from hz]; exact this
      rw [← hz]
      by_cases q3 : z < least ∨ most < z
      · rw [zLine_3 h q hz q3]; exact Or.inr (Or.inr (Or.inl ⟨q3, rfl, hr⟩))
      · rw [zLine_4 h q hz q3]; exact Or.inr (Or.inr (Or.inr ⟨by show least ≤ z ∧ z ≤ most; omega, rfl, rfl⟩))
    · rw [zLine_2 h q]
      have e : zNum a (pa + 1) (zStop a pa) = none := by
        cases e : zNum a (pa + 1) (zStop a pa) with
        | none => rfl
        | some y => rw [e] at q; exact absurd rfl q
      rw [e]
      exact Or.inr (Or.inl ⟨rfl, rfl⟩)
theorem mL_rg (f : Nat → Int32) (n : Nat) (pa : Int) (hp : 0 ≤ pa) : (-1000001 ≤ (mL (bA f n) n pa).1 ∧ (mL (bA f n) n pa).1 ≤ 999999) ∧ pa ≤ (mL (bA f n) n pa).2 ∧ ((mL (bA f n) n pa).2 ≤ n ∨ (mL (bA f n) n pa).2 = pa) := by
  have g := mL_rel (bA f n) n pa (-999999) 999999 (by omega)
  have g2 : pa ≤ (mL (bA f n) n pa).2 ∧ ((mL (bA f n) n pa).2 ≤ n ∨ (mL (bA f n) n pa).2 = pa) := by
    rcases zStop_rg (bA f n) pa with h | ⟨h, h13, h10⟩
    · rw [mL_1 h]; exact ⟨by show pa ≤ pa; omega, Or.inr rfl⟩
    · rw [mL_2 rfl (by omega)]
      have := bA_has (f := f) (n := n) (i := zStop (bA f n) pa + 1) (by omega)
      exact ⟨by show pa ≤ zStop (bA f n) pa + 2; omega, Or.inl (by show zStop (bA f n) pa + 2 ≤ n; omega)⟩
  exact ⟨by omega, g2⟩
theorem bA_or (f : Nat → Int32) (n : Nat) (i : Int) (h : 0 ≤ i) : ((n : Int) ≤ i ∧ bA f n i = -1) ∨ (i < n ∧ 0 ≤ bA f n i ∧ bA f n i ≤ 255) := by
  by_cases q : i < n
  · exact Or.inr ⟨q, bA_ne ⟨h, q⟩, (bA_rg f n i).2⟩
  · exact Or.inl ⟨by omega, bA_out (by omega)⟩
theorem mu_of {P Q : Prop} [Decidable P] [Decidable Q] {r : Int32} {u x y : Int} (h : r = iI (if P then 0 else if Q then 1 else -1)) (h2 : u = (if P then x else y)) : ∃ s : Int, ((P ∧ s = 0 ∧ u = x) ∨ (¬ P ∧ Q ∧ s = 1 ∧ u = y) ∨ (¬ P ∧ ¬ Q ∧ s = -1 ∧ u = y)) ∧ r = iI s := by
  by_cases p : P
  · rw [if_pos p] at h h2; exact ⟨0, Or.inl ⟨p, rfl, h2⟩, h⟩
  · rw [if_neg p] at h h2
    by_cases q : Q
    · rw [if_pos q] at h; exact ⟨1, Or.inr (Or.inl ⟨p, q, rfl, h2⟩), h⟩
    · rw [if_neg q] at h; exact ⟨-1, Or.inr (Or.inr ⟨p, q, rfl, h2⟩), h⟩
/-- the words that the reference keeps, beside where they lay in the input f -/
def mR (f kf : Nat → Int32) (ws : List (Int × Int)) (w ks : Nat) (fa la : Nat → Int) : Prop :=
  ws.length = w ∧ ∀ j, j < w → ∃ x z b : Nat, ws[j]? = some ((x : Int), (z : Int)) ∧ la j = z ∧ fa j = b ∧ b + z ≤ ks ∧ ∀ i, i < z → kf (b + i) = f (x + i)
theorem mR_0 {f kf : Nat → Int32} {fa la : Nat → Int} : mR f kf [] 0 0 fa la := ⟨rfl, fun j h => absurd h (Nat.not_lt_zero j)⟩
theorem mR_add {f kf kf' : Nat → Int32} {ws : List (Int × Int)} {w ks x z : Nat} {fa la : Nat → Int} (h : mR f kf ws w ks fa la) (hk : ∀ j, j < ks → kf' j = kf j) (hn : ∀ j, j < z → kf' (ks + j) = f (x + j)) : mR f kf' (ws ++ [((x : Int), (z : Int))]) (w + 1) (ks + z) (updZ fa w (ks : Int)) (updZ la w (z : Int)) := by
  refine ⟨by rw [List.length_append, h.1]; rfl, fun j hj => ?_⟩
  by_cases q : j < w
  · obtain ⟨x1, z1, b1, h1, h2, h3, h4, h5⟩ := h.2 j q
    refine ⟨x1, z1, b1, by rw [List.getElem?_append_left (by rw [h.1]; exact q)]; exact h1, (updZ_n _ _ (by omega)).trans h2, (updZ_n _ _ (by omega)).trans h3, by omega, fun i hi => ?_⟩
    rw [hk _ (by omega)]
    exact h5 i hi
  · have e : j = w := by omega
    subst e
    refine ⟨x, z, ks, by rw [List.getElem?_append_right (by rw [h.1]; exact Nat.le_refl _), h.1, Nat.sub_self]; rfl, updZ_s _ _ _, updZ_s _ _ _, Nat.le_refl _, hn⟩
end
section
set_option maxHeartbeats 4000000 in
set_option maxRecDepth 100000 in
/-- line() -/
theorem c_X3_line (l : Launch) (dC : Nat → ClassId) (dI : Nat → Nat → Nat) (cB cI : ClassId) (sz : Nat) (m0 mt mi mk mf ml tc n w ks : Nat) (ft pa : Int) (f : Nat → Int32) (hn : n ≤ 65536) (hfit : sb_Fit f) (hpa : 0 ≤ pa ∧ pa < n) : Met l yX3_line wX3_line ({ frames := 0, cells := 0, slots := 0, locals := 0 }) (va_Pc [.ref m0] (vx_B (dC, dI) vwCl [(cB, .byte), (cI, .int)] [(m0, .inr (3, [.ref mt, .ref mi, .ref mk, .ref mf, .ref ml, .int (iI ((tc : Int))), .int (iI ((n : Int))), .int (iI ((w : Int))), .int (iI ((ks : Int))), .int (iI (ft)), .int (iI (pa))])), (mi, .inl (cB, 65536, .inl (f)))] sz)) (va_Qi (fun (r : Int32) (u : Int) => r = iI (mL (bA f n) n pa).1 ∧ u = (mL (bA f n) n pa).2) (fun (u : Int) => vx_E (dC, dI) vwCl [(cB, .byte), (cI, .int)] (va_A [(m0, .inr (3, [.ref mt, .ref mi, .ref mk, .ref mf, .ref ml, .int (iI ((tc : Int))), .int (iI ((n : Int))), .int (iI ((w : Int))), .int (iI ((ks : Int))), .int (iI (ft)), .int (iI (pa))])), (mi, .inl (cB, 65536, .inl (f)))] sz) [(m0, .inr (3, [.ref mt, .ref mi, .ref mk, .ref mf, .ref ml, .int (iI ((tc : Int))), .int (iI ((n : Int))), .int (iI ((w : Int))), .int (iI ((ks : Int))), .int (iI (ft)), .int (iI (u))])), (mi, .inl (cB, 65536, .inl (f)))]) (va_A [(m0, .inr (3, [.ref mt, .ref mi, .ref mk, .ref mf, .ref ml, .int (iI ((tc : Int))), .int (iI ((n : Int))), .int (iI ((w : Int))), .int (iI ((ks : Int))), .int (iI (ft)), .int (iI (pa))])), (mi, .inl (cB, 65536, .inl (f)))] sz)) (0) (0) (va_A [(m0, .inr (3, [.ref mt, .ref mi, .ref mk, .ref mf, .ref ml, .int (iI ((tc : Int))), .int (iI ((n : Int))), .int (iI ((w : Int))), .int (iI ((ks : Int))), .int (iI (ft)), .int (iI (pa))])), (mi, .inl (cB, 65536, .inl (f)))] sz) := by
  refine Met.ofW (cc := cX3_line) (maxL := 8) (ret := (some .int)) (by decide) rfl ?_
  intro p e s m args below meth c s₁ B hml hv
  obtain ⟨rfl, hsz, hP, hK, hD0⟩ := hv
  have hx := B.exec
  have hb := B.bytes
  have hr := B.returns
  have hts := atoms_spec (ws := wX3_line) B.pre
  have hown : s.vm.findClass "RequestCutterModel" = some m.cls := findClass_of_methodNamed B.named
  have hlocks := B.notSynchronized
  subst hsz
  have hD := hD0.self (sz := s.heap.size)
  generalize hAe : va_A [(m0, .inr (3, [.ref mt, .ref mi, .ref mk, .ref mf, .ref ml, .int (iI ((tc : Int))), .int (iI ((n : Int))), .int (iI ((w : Int))), .int (iI ((ks : Int))), .int (iI (ft)), .int (iI (pa))])), (mi, .inl (cB, 65536, .inl (f)))] s.heap.size = A at hD ⊢
  have hA : ∀ q : Nat, s.heap.size ≤ q → A q := fun q h => by rw [← hAe]; exact Or.inr h
  have hS : va_S A s.heap s.heap [] := va_S.rf
  have hP : va_P (dC, dI) vwCl [(m0, .inr (3, [.ref mt, .ref mi, .ref mk, .ref mf, .ref ml, .int (iI ((tc : Int))), .int (iI ((n : Int))), .int (iI ((w : Int))), .int (iI ((ks : Int))), .int (iI (ft)), .int (iI (pa))])), (mi, .inl (cB, 65536, .inl (f)))] s.heap := hP
  have hl := lv_entry ([.ref m0]) (n := 8) (Nat.le_of_ble_eq_true rfl)
  rw [lg_entry_eq]
  generalize (lg_sl ([.ref m0]) ++ List.replicate (8 - (lg_sl ([.ref m0])).length) Slot.unset).toArray = ls at hl ⊢
  have hl : lv_has ls 8 [(0, .ref m0)] := hl
  refine lv_aload_n hx hb dX3_line_0 rfl (lv_at hl 0 rfl) ?_
  refine va_get (D := (dC, dI)) (ci := 3) (v := .int (iI (pa))) (C := "RequestCutterModel") (T := TX3) (N := 11) hx hb hts (fun w h => List.mem_cons_of_mem _ (inX3 w h)) hown hK hP 0 rfl rfl 10 (by decide) (hts _ (List.mem_cons_of_mem _ tw_276)) (fun _ h9 => h9) rfl dX3_line_1 ?_
  refine lv_iconst (v := iI (1)) hx hb dX3_line_4 rfl ?_
  refine lx_iadd (a := pa) (b := 1) hx hb dX3_line_5 ?_
  refine lv_istore_n (lv' := [(1, .int (iI (pa + 1))), (0, .ref m0)]) hx hb dX3_line_6 rfl hl (by decide) rfl (fun ls hl => ?_)
  refine (?_ : ∀ (k : Nat) (i : Int) (ls : Array Slot), i + k = pa + 15 → pa + 1 ≤ i → zStopGo (bA f n) k i = zStop (bA f n) pa → lv_has ls 8 [(1, .int (iI (i))), (0, .ref m0)] → W p l e _ s m _ below meth c _ _ _ _ _ (F0 m 7 ls [])) (14) (pa + 1) ls (by omega) (by omega) (rfl) (lv_sub hl [0, 1] rfl)
  intro k
  induction k with
  | zero =>
    intro i ls hk hi0 hz hl
    refine lv_iload_n hx hb dX3_line_7 rfl (lv_at hl 0 rfl) ?_
    refine lv_iconst (v := iI (1)) hx hb dX3_line_8 rfl ?_
    refine lx_iadd (a := i) (b := 1) hx hb dX3_line_9 ?_
    refine lv_aload_n hx hb dX3_line_10 rfl (lv_at hl 1 rfl) ?_
    refine va_get (D := (dC, dI)) (ci := 3) (v := .int (iI ((n : Int)))) (C := "RequestCutterModel") (T := TX3) (N := 11) hx hb hts (fun w h => List.mem_cons_of_mem _ (inX3 w h)) hown hK hP 0 rfl rfl 6 (by decide) (hts _ (List.mem_cons_of_mem _ tw_272)) (fun _ h9 => h9) rfl dX3_line_11 ?_
    refine lx_icmp_ge (a := i + 1) (b := (n : Int)) (tgt := 60) hx hb dX3_line_14 (by decide) (by omega) (by omega) (fun cq1 => ?_) (fun cq1 => ?_)
    · have hStp : zStop (bA f n) pa = -1 := by rw [← hz]; exact zStopGo_out f n _ _ (by omega)
      refine lv_iload_n hx hb dX3_line_60 rfl (lv_at hl 0 rfl) ?_
      refine lv_iconst (v := iI (1)) hx hb dX3_line_61 rfl ?_
      refine lx_iadd (a := i) (b := 1) hx hb dX3_line_62 ?_
      refine lv_aload_n hx hb dX3_line_63 rfl (lv_at hl 1 rfl) ?_
      refine va_get (D := (dC, dI)) (ci := 3) (v := .int (iI ((n : Int)))) (C := "RequestCutterModel") (T := TX3) (N := 11) hx hb hts (fun w h => List.mem_cons_of_mem _ (inX3 w h)) hown hK hP 0 rfl rfl 6 (by decide) (hts _ (List.mem_cons_of_mem _ tw_272)) (fun _ h9 => h9) rfl dX3_line_64 ?_
      refine lx_icmp_ge (a := i + 1) (b := (n : Int)) (tgt := 87) hx hb dX3_line_67 (by decide) (by omega) (by omega) (fun cq2 => ?_) (fun cq2 => ?_)
      · refine lv_iconst (v := iI (0)) hx hb dX3_line_87 rfl ?_
        refine lv_istore_n (lv' := [(2, .int (iI (0))), (1, .int (iI (i))), (0, .ref m0)]) hx hb dX3_line_88 rfl hl (by decide) rfl (fun ls hl => ?_)
        refine lv_iload_n hx hb dX3_line_89 rfl (lv_at hl 0 rfl) ?_
        refine lx_if_ne (a := 0) (tgt := 115) hx hb dX3_line_90 (by decide) (by omega) (fun cq3 => ?_) (fun cq3 => ?_)
        · exact absurd cq3 (by omega)
        · refine lv_aload_n hx hb dX3_line_93 rfl (lv_at hl 2 rfl) ?_
          refine va_get (D := (dC, dI)) (ci := 3) (v := .int (iI ((n : Int)))) (C := "RequestCutterModel") (T := TX3) (N := 11) hx hb hts (fun w h => List.mem_cons_of_mem _ (inX3 w h)) hown hK hP 0 rfl rfl 6 (by decide) (hts _ (List.mem_cons_of_mem _ tw_272)) (fun _ h9 => h9) rfl dX3_line_94 ?_
          refine lv_aload_n hx hb dX3_line_97 rfl (lv_at hl 2 rfl) ?_
          refine va_get (D := (dC, dI)) (ci := 3) (v := .int (iI (pa))) (C := "RequestCutterModel") (T := TX3) (N := 11) hx hb hts (fun w h => List.mem_cons_of_mem _ (inX3 w h)) hown hK hP 0 rfl rfl 10 (by decide) (hts _ (List.mem_cons_of_mem _ tw_276)) (fun _ h9 => h9) rfl dX3_line_98 ?_
          refine lx_isub (a := (n : Int)) (b := pa) hx hb dX3_line_101 ?_
          refine lv_bipush (v := iI (16)) hx hb dX3_line_102 (by decide) ?_
          refine lx_icmp_lt (a := ((n : Int)) - pa) (b := 16) (tgt := 112) hx hb dX3_line_104 (by decide) (by omega) (by omega) (fun cq4 => ?_) (fun cq4 => ?_)
          · refine lx_ldc (z := -1000000) (v := -1000000) hx hb hown (hts _ (List.mem_cons_of_mem _ tw_337)) (by decide) dX3_line_112 ?_
            exact W.iret (v := iI (-1000000)) hx hb hr (fun t ht hW => ⟨⟨iI (-1000000), pa, rfl, ⟨by rw [mL_1 hStp, if_neg (by omega)], by rw [mL_1 hStp]⟩, by rw [ht]; exact hP, va_K.moved hW.alike hK, hD⟩, hS.F ht⟩) hS.2.2 dX3_line_114
          · refine lx_ldc (z := -1000001) (v := -1000001) hx hb hown (hts _ (List.mem_cons_of_mem _ tw_336)) (by decide) dX3_line_107 ?_
            refine lv_goto (tgt := 114) hx hb dX3_line_109 (by decide) ?_
            exact W.iret (v := iI (-1000001)) hx hb hr (fun t ht hW => ⟨⟨iI (-1000001), pa, rfl, ⟨by rw [mL_1 hStp, if_pos (by omega)], by rw [mL_1 hStp]⟩, by rw [ht]; exact hP, va_K.moved hW.alike hK, hD⟩, hS.F ht⟩) hS.2.2 dX3_line_114
      · exact absurd cq2 (by omega)
    · refine lv_iload_n hx hb dX3_line_17 rfl (lv_at hl 0 rfl) ?_
      refine lv_iconst (v := iI (1)) hx hb dX3_line_18 rfl ?_
      refine lx_iadd (a := i) (b := 1) hx hb dX3_line_19 ?_
      refine lv_aload_n hx hb dX3_line_20 rfl (lv_at hl 1 rfl) ?_
      refine va_get (D := (dC, dI)) (ci := 3) (v := .int (iI (pa))) (C := "RequestCutterModel") (T := TX3) (N := 11) hx hb hts (fun w h => List.mem_cons_of_mem _ (inX3 w h)) hown hK hP 0 rfl rfl 10 (by decide) (hts _ (List.mem_cons_of_mem _ tw_276)) (fun _ h9 => h9) rfl dX3_line_21 ?_
      refine lv_bipush (v := iI (16)) hx hb dX3_line_24 (by decide) ?_
      refine lx_iadd (a := pa) (b := 16) hx hb dX3_line_26 ?_
      refine lx_icmp_ge (a := i + 1) (b := pa + 16) (tgt := 60) hx hb dX3_line_27 (by decide) (by omega) (by omega) (fun cq5 => ?_) (fun cq5 => ?_)
      · have hStp : zStop (bA f n) pa = -1 := by rw [← hz]; rfl
        refine lv_iload_n hx hb dX3_line_60 rfl (lv_at hl 0 rfl) ?_
        refine lv_iconst (v := iI (1)) hx hb dX3_line_61 rfl ?_
        refine lx_iadd (a := i) (b := 1) hx hb dX3_line_62 ?_
        refine lv_aload_n hx hb dX3_line_63 rfl (lv_at hl 1 rfl) ?_
        refine va_get (D := (dC, dI)) (ci := 3) (v := .int (iI ((n : Int)))) (C := "RequestCutterModel") (T := TX3) (N := 11) hx hb hts (fun w h => List.mem_cons_of_mem _ (inX3 w h)) hown hK hP 0 rfl rfl 6 (by decide) (hts _ (List.mem_cons_of_mem _ tw_272)) (fun _ h9 => h9) rfl dX3_line_64 ?_
        refine lx_icmp_ge (a := i + 1) (b := (n : Int)) (tgt := 87) hx hb dX3_line_67 (by decide) (by omega) (by omega) (fun cq6 => ?_) (fun cq6 => ?_)
        · exact absurd cq6 (by omega)
        · refine lv_iload_n hx hb dX3_line_70 rfl (lv_at hl 0 rfl) ?_
          refine lv_iconst (v := iI (1)) hx hb dX3_line_71 rfl ?_
          refine lx_iadd (a := i) (b := 1) hx hb dX3_line_72 ?_
          refine lv_aload_n hx hb dX3_line_73 rfl (lv_at hl 1 rfl) ?_
          refine va_get (D := (dC, dI)) (ci := 3) (v := .int (iI (pa))) (C := "RequestCutterModel") (T := TX3) (N := 11) hx hb hts (fun w h => List.mem_cons_of_mem _ (inX3 w h)) hown hK hP 0 rfl rfl 10 (by decide) (hts _ (List.mem_cons_of_mem _ tw_276)) (fun _ h9 => h9) rfl dX3_line_74 ?_
          refine lv_bipush (v := iI (16)) hx hb dX3_line_77 (by decide) ?_
          refine lx_iadd (a := pa) (b := 16) hx hb dX3_line_79 ?_
          refine lx_icmp_ge (a := i + 1) (b := pa + 16) (tgt := 87) hx hb dX3_line_80 (by decide) (by omega) (by omega) (fun cq7 => ?_) (fun cq7 => ?_)
          · refine lv_iconst (v := iI (0)) hx hb dX3_line_87 rfl ?_
            refine lv_istore_n (lv' := [(2, .int (iI (0))), (1, .int (iI (i))), (0, .ref m0)]) hx hb dX3_line_88 rfl hl (by decide) rfl (fun ls hl => ?_)
            refine lv_iload_n hx hb dX3_line_89 rfl (lv_at hl 0 rfl) ?_
            refine lx_if_ne (a := 0) (tgt := 115) hx hb dX3_line_90 (by decide) (by omega) (fun cq8 => ?_) (fun cq8 => ?_)
            · exact absurd cq8 (by omega)
            · refine lv_aload_n hx hb dX3_line_93 rfl (lv_at hl 2 rfl) ?_
              refine va_get (D := (dC, dI)) (ci := 3) (v := .int (iI ((n : Int)))) (C := "RequestCutterModel") (T := TX3) (N := 11) hx hb hts (fun w h => List.mem_cons_of_mem _ (inX3 w h)) hown hK hP 0 rfl rfl 6 (by decide) (hts _ (List.mem_cons_of_mem _ tw_272)) (fun _ h9 => h9) rfl dX3_line_94 ?_
              refine lv_aload_n hx hb dX3_line_97 rfl (lv_at hl 2 rfl) ?_
              refine va_get (D := (dC, dI)) (ci := 3) (v := .int (iI (pa))) (C := "RequestCutterModel") (T := TX3) (N := 11) hx hb hts (fun w h => List.mem_cons_of_mem _ (inX3 w h)) hown hK hP 0 rfl rfl 10 (by decide) (hts _ (List.mem_cons_of_mem _ tw_276)) (fun _ h9 => h9) rfl dX3_line_98 ?_
              refine lx_isub (a := (n : Int)) (b := pa) hx hb dX3_line_101 ?_
              refine lv_bipush (v := iI (16)) hx hb dX3_line_102 (by decide) ?_
              refine lx_icmp_lt (a := ((n : Int)) - pa) (b := 16) (tgt := 112) hx hb dX3_line_104 (by decide) (by omega) (by omega) (fun cq9 => ?_) (fun cq9 => ?_)
              · refine lx_ldc (z := -1000000) (v := -1000000) hx hb hown (hts _ (List.mem_cons_of_mem _ tw_337)) (by decide) dX3_line_112 ?_
                exact W.iret (v := iI (-1000000)) hx hb hr (fun t ht hW => ⟨⟨iI (-1000000), pa, rfl, ⟨by rw [mL_1 hStp, if_neg (by omega)], by rw [mL_1 hStp]⟩, by rw [ht]; exact hP, va_K.moved hW.alike hK, hD⟩, hS.F ht⟩) hS.2.2 dX3_line_114
              · refine lx_ldc (z := -1000001) (v := -1000001) hx hb hown (hts _ (List.mem_cons_of_mem _ tw_336)) (by decide) dX3_line_107 ?_
                refine lv_goto (tgt := 114) hx hb dX3_line_109 (by decide) ?_
                exact W.iret (v := iI (-1000001)) hx hb hr (fun t ht hW => ⟨⟨iI (-1000001), pa, rfl, ⟨by rw [mL_1 hStp, if_pos (by omega)], by rw [mL_1 hStp]⟩, by rw [ht]; exact hP, va_K.moved hW.alike hK, hD⟩, hS.F ht⟩) hS.2.2 dX3_line_114
          · exact absurd cq7 (by omega)
      · exact absurd cq5 (by omega)
  | succ k ih =>
    intro i ls hk hi0 hz hl
    refine lv_iload_n hx hb dX3_line_7 rfl (lv_at hl 0 rfl) ?_
    refine lv_iconst (v := iI (1)) hx hb dX3_line_8 rfl ?_
    refine lx_iadd (a := i) (b := 1) hx hb dX3_line_9 ?_
    refine lv_aload_n hx hb dX3_line_10 rfl (lv_at hl 1 rfl) ?_
    refine va_get (D := (dC, dI)) (ci := 3) (v := .int (iI ((n : Int)))) (C := "RequestCutterModel") (T := TX3) (N := 11) hx hb hts (fun w h => List.mem_cons_of_mem _ (inX3 w h)) hown hK hP 0 rfl rfl 6 (by decide) (hts _ (List.mem_cons_of_mem _ tw_272)) (fun _ h9 => h9) rfl dX3_line_11 ?_
    refine lx_icmp_ge (a := i + 1) (b := (n : Int)) (tgt := 60) hx hb dX3_line_14 (by decide) (by omega) (by omega) (fun cq10 => ?_) (fun cq10 => ?_)
    · have hStp : zStop (bA f n) pa = -1 := by rw [← hz]; exact zStopGo_out f n _ _ (by omega)
      refine lv_iload_n hx hb dX3_line_60 rfl (lv_at hl 0 rfl) ?_
      refine lv_iconst (v := iI (1)) hx hb dX3_line_61 rfl ?_
      refine lx_iadd (a := i) (b := 1) hx hb dX3_line_62 ?_
      refine lv_aload_n hx hb dX3_line_63 rfl (lv_at hl 1 rfl) ?_
      refine va_get (D := (dC, dI)) (ci := 3) (v := .int (iI ((n : Int)))) (C := "RequestCutterModel") (T := TX3) (N := 11) hx hb hts (fun w h => List.mem_cons_of_mem _ (inX3 w h)) hown hK hP 0 rfl rfl 6 (by decide) (hts _ (List.mem_cons_of_mem _ tw_272)) (fun _ h9 => h9) rfl dX3_line_64 ?_
      refine lx_icmp_ge (a := i + 1) (b := (n : Int)) (tgt := 87) hx hb dX3_line_67 (by decide) (by omega) (by omega) (fun cq11 => ?_) (fun cq11 => ?_)
      · refine lv_iconst (v := iI (0)) hx hb dX3_line_87 rfl ?_
        refine lv_istore_n (lv' := [(2, .int (iI (0))), (1, .int (iI (i))), (0, .ref m0)]) hx hb dX3_line_88 rfl hl (by decide) rfl (fun ls hl => ?_)
        refine lv_iload_n hx hb dX3_line_89 rfl (lv_at hl 0 rfl) ?_
        refine lx_if_ne (a := 0) (tgt := 115) hx hb dX3_line_90 (by decide) (by omega) (fun cq12 => ?_) (fun cq12 => ?_)
        · exact absurd cq12 (by omega)
        · refine lv_aload_n hx hb dX3_line_93 rfl (lv_at hl 2 rfl) ?_
          refine va_get (D := (dC, dI)) (ci := 3) (v := .int (iI ((n : Int)))) (C := "RequestCutterModel") (T := TX3) (N := 11) hx hb hts (fun w h => List.mem_cons_of_mem _ (inX3 w h)) hown hK hP 0 rfl rfl 6 (by decide) (hts _ (List.mem_cons_of_mem _ tw_272)) (fun _ h9 => h9) rfl dX3_line_94 ?_
          refine lv_aload_n hx hb dX3_line_97 rfl (lv_at hl 2 rfl) ?_
          refine va_get (D := (dC, dI)) (ci := 3) (v := .int (iI (pa))) (C := "RequestCutterModel") (T := TX3) (N := 11) hx hb hts (fun w h => List.mem_cons_of_mem _ (inX3 w h)) hown hK hP 0 rfl rfl 10 (by decide) (hts _ (List.mem_cons_of_mem _ tw_276)) (fun _ h9 => h9) rfl dX3_line_98 ?_
          refine lx_isub (a := (n : Int)) (b := pa) hx hb dX3_line_101 ?_
          refine lv_bipush (v := iI (16)) hx hb dX3_line_102 (by decide) ?_
          refine lx_icmp_lt (a := ((n : Int)) - pa) (b := 16) (tgt := 112) hx hb dX3_line_104 (by decide) (by omega) (by omega) (fun cq13 => ?_) (fun cq13 => ?_)
          · refine lx_ldc (z := -1000000) (v := -1000000) hx hb hown (hts _ (List.mem_cons_of_mem _ tw_337)) (by decide) dX3_line_112 ?_
            exact W.iret (v := iI (-1000000)) hx hb hr (fun t ht hW => ⟨⟨iI (-1000000), pa, rfl, ⟨by rw [mL_1 hStp, if_neg (by omega)], by rw [mL_1 hStp]⟩, by rw [ht]; exact hP, va_K.moved hW.alike hK, hD⟩, hS.F ht⟩) hS.2.2 dX3_line_114
          · refine lx_ldc (z := -1000001) (v := -1000001) hx hb hown (hts _ (List.mem_cons_of_mem _ tw_336)) (by decide) dX3_line_107 ?_
            refine lv_goto (tgt := 114) hx hb dX3_line_109 (by decide) ?_
            exact W.iret (v := iI (-1000001)) hx hb hr (fun t ht hW => ⟨⟨iI (-1000001), pa, rfl, ⟨by rw [mL_1 hStp, if_pos (by omega)], by rw [mL_1 hStp]⟩, by rw [ht]; exact hP, va_K.moved hW.alike hK, hD⟩, hS.F ht⟩) hS.2.2 dX3_line_114
      · exact absurd cq11 (by omega)
    · refine lv_iload_n hx hb dX3_line_17 rfl (lv_at hl 0 rfl) ?_
      refine lv_iconst (v := iI (1)) hx hb dX3_line_18 rfl ?_
      refine lx_iadd (a := i) (b := 1) hx hb dX3_line_19 ?_
      refine lv_aload_n hx hb dX3_line_20 rfl (lv_at hl 1 rfl) ?_
      refine va_get (D := (dC, dI)) (ci := 3) (v := .int (iI (pa))) (C := "RequestCutterModel") (T := TX3) (N := 11) hx hb hts (fun w h => List.mem_cons_of_mem _ (inX3 w h)) hown hK hP 0 rfl rfl 10 (by decide) (hts _ (List.mem_cons_of_mem _ tw_276)) (fun _ h9 => h9) rfl dX3_line_21 ?_
      refine lv_bipush (v := iI (16)) hx hb dX3_line_24 (by decide) ?_
      refine lx_iadd (a := pa) (b := 16) hx hb dX3_line_26 ?_
      refine lx_icmp_ge (a := i + 1) (b := pa + 16) (tgt := 60) hx hb dX3_line_27 (by decide) (by omega) (by omega) (fun cq14 => ?_) (fun cq14 => ?_)
      · exact absurd cq14 (by omega)
      · refine lv_aload_n hx hb dX3_line_30 rfl (lv_at hl 1 rfl) ?_
        refine va_get (D := (dC, dI)) (ci := 3) (v := .ref mi) (C := "RequestCutterModel") (T := TX3) (N := 11) hx hb hts (fun w h => List.mem_cons_of_mem _ (inX3 w h)) hown hK hP 0 rfl rfl 1 (by decide) (hts _ (List.mem_cons_of_mem _ tw_267)) (fun _ h9 => h9) rfl dX3_line_31 ?_
        refine lv_iload_n hx hb dX3_line_34 rfl (lv_at hl 0 rfl) ?_
        refine va_bald hx hb hK hP 1 0 rfl rfl (iI_in (by omega)) dX3_line_35 ?_
        refine lx_top (x2 := (f) ((i).toNat)) (congrArg (f) (iI_cl (a := i) (by omega))) ?_
        refine lx_top (x2 := iI (((f) ((i).toNat)).toInt)) (Int32.ofInt_toInt _).symm ?_
        have g_m := mA hfit n (i) (by omega)
        refine lv_bipush (v := iI (13)) hx hb dX3_line_36 (by decide) ?_
        refine lx_icmp_ne (a := ((f) ((i).toNat)).toInt) (b := 13) (tgt := 54) hx hb dX3_line_38 (by decide) (by omega) (by omega) (fun cq15 => ?_) (fun cq15 => ?_)
        · refine lv_iinc (v := iI (i + 1)) (lv' := [(1, .int (iI (i + 1))), (0, .ref m0)]) hx hb dX3_line_54 hl (k := 0) rfl (iI_add _ _) (by decide) rfl (fun ls hl => ?_)
          refine lv_goto (tgt := 7) hx hb dX3_line_57 (by decide) ?_
          exact ih (i + 1) ls (by omega) (by omega) (by rw [← hz]; exact (if_neg (by omega)).symm) (lv_sub hl [0, 1] rfl)
        · refine lv_aload_n hx hb dX3_line_41 rfl (lv_at hl 1 rfl) ?_
          refine va_get (D := (dC, dI)) (ci := 3) (v := .ref mi) (C := "RequestCutterModel") (T := TX3) (N := 11) hx hb hts (fun w h => List.mem_cons_of_mem _ (inX3 w h)) hown hK hP 0 rfl rfl 1 (by decide) (hts _ (List.mem_cons_of_mem _ tw_267)) (fun _ h9 => h9) rfl dX3_line_42 ?_
          refine lv_iload_n hx hb dX3_line_45 rfl (lv_at hl 0 rfl) ?_
          refine lv_iconst (v := iI (1)) hx hb dX3_line_46 rfl ?_
          refine lx_iadd (a := i) (b := 1) hx hb dX3_line_47 ?_
          refine va_bald hx hb hK hP 1 0 rfl rfl (iI_in (by omega)) dX3_line_48 ?_
          refine lx_top (x2 := (f) ((i + 1).toNat)) (congrArg (f) (iI_cl (a := i + 1) (by omega))) ?_
          refine lx_top (x2 := iI (((f) ((i + 1).toNat)).toInt)) (Int32.ofInt_toInt _).symm ?_
          have g_m := mA hfit n (i + 1) (by omega)
          refine lv_bipush (v := iI (10)) hx hb dX3_line_49 (by decide) ?_
          refine lx_icmp_eq (a := ((f) ((i + 1).toNat)).toInt) (b := 10) (tgt := 60) hx hb dX3_line_51 (by decide) (by omega) (by omega) (fun cq16 => ?_) (fun cq16 => ?_)
          · have hStp : zStop (bA f n) pa = i := by rw [← hz]; exact if_pos ⟨by omega, by omega⟩
            refine lv_iload_n hx hb dX3_line_60 rfl (lv_at hl 0 rfl) ?_
            refine lv_iconst (v := iI (1)) hx hb dX3_line_61 rfl ?_
            refine lx_iadd (a := i) (b := 1) hx hb dX3_line_62 ?_
            refine lv_aload_n hx hb dX3_line_63 rfl (lv_at hl 1 rfl) ?_
            refine va_get (D := (dC, dI)) (ci := 3) (v := .int (iI ((n : Int)))) (C := "RequestCutterModel") (T := TX3) (N := 11) hx hb hts (fun w h => List.mem_cons_of_mem _ (inX3 w h)) hown hK hP 0 rfl rfl 6 (by decide) (hts _ (List.mem_cons_of_mem _ tw_272)) (fun _ h9 => h9) rfl dX3_line_64 ?_
            refine lx_icmp_ge (a := i + 1) (b := (n : Int)) (tgt := 87) hx hb dX3_line_67 (by decide) (by omega) (by omega) (fun cq17 => ?_) (fun cq17 => ?_)
            · exact absurd cq17 (by omega)
            · refine lv_iload_n hx hb dX3_line_70 rfl (lv_at hl 0 rfl) ?_
              refine lv_iconst (v := iI (1)) hx hb dX3_line_71 rfl ?_
              refine lx_iadd (a := i) (b := 1) hx hb dX3_line_72 ?_
              refine lv_aload_n hx hb dX3_line_73 rfl (lv_at hl 1 rfl) ?_
              refine va_get (D := (dC, dI)) (ci := 3) (v := .int (iI (pa))) (C := "RequestCutterModel") (T := TX3) (N := 11) hx hb hts (fun w h => List.mem_cons_of_mem _ (inX3 w h)) hown hK hP 0 rfl rfl 10 (by decide) (hts _ (List.mem_cons_of_mem _ tw_276)) (fun _ h9 => h9) rfl dX3_line_74 ?_
              refine lv_bipush (v := iI (16)) hx hb dX3_line_77 (by decide) ?_
              refine lx_iadd (a := pa) (b := 16) hx hb dX3_line_79 ?_
              refine lx_icmp_ge (a := i + 1) (b := pa + 16) (tgt := 87) hx hb dX3_line_80 (by decide) (by omega) (by omega) (fun cq18 => ?_) (fun cq18 => ?_)
              · exact absurd cq18 (by omega)
              · refine lv_iconst (v := iI (1)) hx hb dX3_line_83 rfl ?_
                refine lv_goto (tgt := 88) hx hb dX3_line_84 (by decide) ?_
                refine lv_istore_n (lv' := [(2, .int (iI (1))), (1, .int (iI (i))), (0, .ref m0)]) hx hb dX3_line_88 rfl hl (by decide) rfl (fun ls hl => ?_)
                refine lv_iload_n hx hb dX3_line_89 rfl (lv_at hl 0 rfl) ?_
                refine lx_if_ne (a := 1) (tgt := 115) hx hb dX3_line_90 (by decide) (by omega) (fun cq19 => ?_) (fun cq19 => ?_)
                · refine lv_aload_n hx hb dX3_line_115 rfl (lv_at hl 2 rfl) ?_
                  refine va_get (D := (dC, dI)) (ci := 3) (v := .int (iI (pa))) (C := "RequestCutterModel") (T := TX3) (N := 11) hx hb hts (fun w h => List.mem_cons_of_mem _ (inX3 w h)) hown hK hP 0 rfl rfl 10 (by decide) (hts _ (List.mem_cons_of_mem _ tw_276)) (fun _ h9 => h9) rfl dX3_line_116 ?_
                  refine lv_iconst (v := iI (1)) hx hb dX3_line_119 rfl ?_
                  refine lx_iadd (a := pa) (b := 1) hx hb dX3_line_120 ?_
                  refine lv_istore_n (lv' := [(3, .int (iI (pa + 1))), (2, .int (iI (1))), (1, .int (iI (i))), (0, .ref m0)]) hx hb dX3_line_121 rfl hl (by decide) rfl (fun ls hl => ?_)
                  refine lv_aload_n hx hb dX3_line_122 rfl (lv_at hl 3 rfl) ?_
                  refine va_get (D := (dC, dI)) (ci := 3) (v := .ref mi) (C := "RequestCutterModel") (T := TX3) (N := 11) hx hb hts (fun w h => List.mem_cons_of_mem _ (inX3 w h)) hown hK hP 0 rfl rfl 1 (by decide) (hts _ (List.mem_cons_of_mem _ tw_267)) (fun _ h9 => h9) rfl dX3_line_123 ?_
                  refine lv_iload_n hx hb dX3_line_126 rfl (lv_at hl 0 rfl) ?_
                  refine va_bald hx hb hK hP 1 0 rfl rfl (iI_in (by omega)) dX3_line_127 ?_
                  refine lx_top (x2 := (f) ((pa + 1).toNat)) (congrArg (f) (iI_cl (a := pa + 1) (by omega))) ?_
                  refine lx_top (x2 := iI (((f) ((pa + 1).toNat)).toInt)) (Int32.ofInt_toInt _).symm ?_
                  have g_m := mA hfit n (pa + 1) (by omega)
                  refine lv_bipush (v := iI (45)) hx hb dX3_line_128 (by decide) ?_
                  refine lx_icmp_ne (a := ((f) ((pa + 1).toNat)).toInt) (b := 45) (tgt := 137) hx hb dX3_line_130 (by decide) (by omega) (by omega) (fun cq20 => ?_) (fun cq20 => ?_)
                  · refine lv_iconst (v := iI (0)) hx hb dX3_line_137 rfl ?_
                    refine lv_istore (lv' := [(4, .int (iI (0))), (3, .int (iI (pa + 1))), (2, .int (iI (1))), (1, .int (iI (i))), (0, .ref m0)]) hx hb dX3_line_138 hl (by decide) rfl (fun ls hl => ?_)
                    refine lv_iload hx hb dX3_line_140 (lv_at hl 0 rfl) ?_
                    refine lx_if_eq (a := 0) (tgt := 151) hx hb dX3_line_142 (by decide) (by omega) (fun cq21 => ?_) (fun cq21 => ?_)
                    · refine lv_iload_n hx hb dX3_line_151 rfl (lv_at hl 1 rfl) ?_
                      refine lv_istore_n (lv' := [(3, .int (iI (pa + 1))), (4, .int (iI (0))), (2, .int (iI (1))), (1, .int (iI (i))), (0, .ref m0)]) hx hb dX3_line_152 rfl hl (by decide) rfl (fun ls hl => ?_)
                      refine lv_iconst (v := iI (0)) hx hb dX3_line_153 rfl ?_
                      refine lv_istore (lv' := [(5, .int (iI (0))), (3, .int (iI (pa + 1))), (4, .int (iI (0))), (2, .int (iI (1))), (1, .int (iI (i))), (0, .ref m0)]) hx hb dX3_line_154 hl (by decide) rfl (fun ls hl => ?_)
                      refine lv_iload_n hx hb dX3_line_156 rfl (lv_at hl 4 rfl) ?_
                      refine lv_iload_n hx hb dX3_line_157 rfl (lv_at hl 1 rfl) ?_
                      refine lx_icmp_le (a := i) (b := pa + 1) (tgt := 173) hx hb dX3_line_158 (by decide) (by omega) (by omega) (fun cq22 => ?_) (fun cq22 => ?_)
                      · refine lv_iconst (v := iI (0)) hx hb dX3_line_173 rfl ?_
                        refine lv_istore (lv' := [(6, .int (iI (0))), (5, .int (iI (0))), (3, .int (iI (pa + 1))), (4, .int (iI (0))), (2, .int (iI (1))), (1, .int (iI (i))), (0, .ref m0)]) hx hb dX3_line_174 hl (by decide) rfl (fun ls hl => ?_)
                        refine lv_iload_n hx hb dX3_line_176 rfl (lv_at hl 2 rfl) ?_
                        refine lv_istore (lv' := [(7, .int (iI (pa + 1))), (6, .int (iI (0))), (5, .int (iI (0))), (3, .int (iI (pa + 1))), (4, .int (iI (0))), (2, .int (iI (1))), (1, .int (iI (i))), (0, .ref m0)]) hx hb dX3_line_177 hl (by decide) rfl (fun ls hl => ?_)
                        refine (?_ : ∀ (k2 : Nat) (j : Int) (v : Int) (g : Int) (ls : Array Slot), (i - j ≤ k2 ∧ (0 < k2 → j + k2 = i)) → (pa + 1 ≤ j ∧ j ≤ pa + 20) → ((g = 1 ∧ zNum (bA f n) (pa + 1) i = (zDig (bA f n) k2 j v).map (fun x => x)) ∨ (g = 0 ∧ zNum (bA f n) (pa + 1) i = none)) → lv_has ls 8 [(7, .int (iI (j))), (5, .int (iI (v))), (6, .int (iI (g))), (3, .int (iI (pa + 1))), (4, .int (iI (0))), (2, .int (iI (1))), (1, .int (iI (i))), (0, .ref m0)] → W p l e _ s m _ below meth c _ _ _ _ _ (F0 m 179 ls [])) ((i - (pa + 1)).toNat) (pa + 1) (0) (0) ls (by omega) (by omega) (Or.inr ⟨rfl, zNum_0 (by rw [if_neg (by omega)]; omega)⟩) (lv_sub hl [0, 2, 1, 3, 4, 5, 6, 7] rfl)
                        intro k2
                        induction k2 with
                        | zero =>
                          intro j v g ls hk2 hj hg hl
                          refine lv_iload hx hb dX3_line_179 (lv_at hl 0 rfl) ?_
                          refine lv_iload_n hx hb dX3_line_181 rfl (lv_at hl 6 rfl) ?_
                          refine lx_icmp_ge (a := j) (b := i) (tgt := 254) hx hb dX3_line_182 (by decide) (by omega) (by omega) (fun cq23 => ?_) (fun cq23 => ?_)
                          · refine lv_aload_n hx hb dX3_line_254 rfl (lv_at hl 7 rfl) ?_
                            refine lv_iload_n hx hb dX3_line_255 rfl (lv_at hl 6 rfl) ?_
                            refine lv_iconst (v := iI (2)) hx hb dX3_line_256 rfl ?_
                            refine lx_iadd (a := i) (b := 2) hx hb dX3_line_257 ?_
                            refine va_put (D := (dC, dI)) (ci := 3) (v := .int (iI (i + 2))) (ty := .int) (C := "RequestCutterModel") (T := TX3) (N := 11) hx hb hts (fun w h => List.mem_cons_of_mem _ (inX3 w h)) tyX3 tyX3_ok nmX3 hown hK hP hD hS 0 rfl rfl 10 (by decide) (hts _ (List.mem_cons_of_mem _ tw_276)) (fun _ h9 => h9) rfl (by decide +kernel) rfl rfl (Nat.le_of_ble_eq_true rfl) dX3_line_258 (fun H locs hP hD hS => ?_)
                            have hP : va_P (dC, dI) vwCl [(m0, .inr (3, [.ref mt, .ref mi, .ref mk, .ref mf, .ref ml, .int (iI ((tc : Int))), .int (iI ((n : Int))), .int (iI ((w : Int))), .int (iI ((ks : Int))), .int (iI (ft)), .int (iI (i + 2))])), (mi, .inl (cB, 65536, .inl (f)))] H := hP
                            have hD : va_D A [(m0, .inr (3, [.ref mt, .ref mi, .ref mk, .ref mf, .ref ml, .int (iI ((tc : Int))), .int (iI ((n : Int))), .int (iI ((w : Int))), .int (iI ((ks : Int))), .int (iI (ft)), .int (iI (i + 2))])), (mi, .inl (cB, 65536, .inl (f)))] := hD
                            refine lv_iload hx hb dX3_line_261 (lv_at hl 2 rfl) ?_
                            refine lx_if_ne (a := g) (tgt := 271) hx hb dX3_line_263 (by decide) (by omega) (fun cq24 => ?_) (fun cq24 => ?_)
                            · refine lv_iload hx hb dX3_line_271 (lv_at hl 4 rfl) ?_
                              refine lx_if_eq (a := 0) (tgt := 282) hx hb dX3_line_273 (by decide) (by omega) (fun cq25 => ?_) (fun cq25 => ?_)
                              · refine lv_iload hx hb dX3_line_282 (lv_at hl 1 rfl) ?_
                                have hN : (zNum (bA f n) (pa + 1) i).getD (-1000001) = v := by (rcases hg with ⟨e0, e⟩ | ⟨e0, e⟩); rw [e]; rfl; omega
                                exact W.iret (v := iI (v)) hx hb hr (fun t ht hW => ⟨⟨iI (v), (i + 2), rfl, ⟨by rw [mL_2 hStp (by omega), hN], by rw [mL_2 hStp (by omega)]⟩, by rw [ht]; exact hP, va_K.moved hW.alike hK, hD⟩, hS.F ht⟩) hS.2.2 dX3_line_284
                              · exact absurd cq25 (by omega)
                            · refine lx_ldc (z := -1000001) (v := -1000001) hx hb hown (hts _ (List.mem_cons_of_mem _ tw_336)) (by decide) dX3_line_266 ?_
                              refine lv_goto (tgt := 284) hx hb dX3_line_268 (by decide) ?_
                              have hN : (zNum (bA f n) (pa + 1) i).getD (-1000001) = -1000001 := by (rcases hg with ⟨e0, e⟩ | ⟨e0, e⟩); omega; rw [e]; rfl
                              exact W.iret (v := iI (-1000001)) hx hb hr (fun t ht hW => ⟨⟨iI (-1000001), (i + 2), rfl, ⟨by rw [mL_2 hStp (by omega), hN], by rw [mL_2 hStp (by omega)]⟩, by rw [ht]; exact hP, va_K.moved hW.alike hK, hD⟩, hS.F ht⟩) hS.2.2 dX3_line_284
                          · exact absurd cq23 (by omega)
                        | succ k2 ih2 =>
                          intro j v g ls hk2 hj hg hl
                          refine lv_iload hx hb dX3_line_179 (lv_at hl 0 rfl) ?_
                          refine lv_iload_n hx hb dX3_line_181 rfl (lv_at hl 6 rfl) ?_
                          refine lx_icmp_ge (a := j) (b := i) (tgt := 254) hx hb dX3_line_182 (by decide) (by omega) (by omega) (fun cq26 => ?_) (fun cq26 => ?_)
                          · exact absurd cq26 (by omega)
                          · refine lv_iload hx hb dX3_line_185 (lv_at hl 2 rfl) ?_
                            refine lx_if_eq (a := g) (tgt := 218) hx hb dX3_line_187 (by decide) (by omega) (fun cq27 => ?_) (fun cq27 => ?_)
                            · refine lv_iconst (v := iI (0)) hx hb dX3_line_218 rfl ?_
                              refine lv_istore (lv' := [(6, .int (iI (0))), (7, .int (iI (j))), (5, .int (iI (v))), (3, .int (iI (pa + 1))), (4, .int (iI (0))), (2, .int (iI (1))), (1, .int (iI (i))), (0, .ref m0)]) hx hb dX3_line_219 hl (by decide) rfl (fun ls hl => ?_)
                              refine lv_iload hx hb dX3_line_221 (lv_at hl 0 rfl) ?_
                              refine lx_if_eq (a := 0) (tgt := 245) hx hb dX3_line_223 (by decide) (by omega) (fun cq28 => ?_) (fun cq28 => ?_)
                              · refine lv_iconst (v := iI (0)) hx hb dX3_line_245 rfl ?_
                                refine lv_istore (lv' := [(5, .int (iI (0))), (6, .int (iI (0))), (7, .int (iI (j))), (3, .int (iI (pa + 1))), (4, .int (iI (0))), (2, .int (iI (1))), (1, .int (iI (i))), (0, .ref m0)]) hx hb dX3_line_246 hl (by decide) rfl (fun ls hl => ?_)
                                refine lv_iinc (v := iI (j + 1)) (lv' := [(7, .int (iI (j + 1))), (5, .int (iI (0))), (6, .int (iI (0))), (3, .int (iI (pa + 1))), (4, .int (iI (0))), (2, .int (iI (1))), (1, .int (iI (i))), (0, .ref m0)]) hx hb dX3_line_248 hl (k := 2) rfl (iI_add _ _) (by decide) rfl (fun ls hl => ?_)
                                refine lv_goto (tgt := 179) hx hb dX3_line_251 (by decide) ?_
                                exact ih2 (j + 1) (0) (0) ls (by omega) (by omega) (Or.inr ⟨rfl, by (rcases hg with ⟨e0, e⟩ | ⟨e0, e⟩); (first | omega | (rw [e, zDig_b (by omega)]; rfl)); exact e⟩) (lv_sub hl [0, 1, 2, 3, 4, 5, 6, 7] rfl)
                              · exact absurd cq28 (by omega)
                            · refine lv_aload_n hx hb dX3_line_190 rfl (lv_at hl 7 rfl) ?_
                              refine va_get (D := (dC, dI)) (ci := 3) (v := .ref mi) (C := "RequestCutterModel") (T := TX3) (N := 11) hx hb hts (fun w h => List.mem_cons_of_mem _ (inX3 w h)) hown hK hP 0 rfl rfl 1 (by decide) (hts _ (List.mem_cons_of_mem _ tw_267)) (fun _ h9 => h9) rfl dX3_line_191 ?_
                              refine lv_iload hx hb dX3_line_194 (lv_at hl 0 rfl) ?_
                              refine va_bald hx hb hK hP 1 0 rfl rfl (iI_in (by omega)) dX3_line_196 ?_
                              refine lx_top (x2 := (f) ((j).toNat)) (congrArg (f) (iI_cl (a := j) (by omega))) ?_
                              refine lx_top (x2 := iI (((f) ((j).toNat)).toInt)) (Int32.ofInt_toInt _).symm ?_
                              have g_m := mA hfit n (j) (by omega)
                              refine lv_bipush (v := iI (48)) hx hb dX3_line_197 (by decide) ?_
                              refine lx_icmp_lt (a := ((f) ((j).toNat)).toInt) (b := 48) (tgt := 218) hx hb dX3_line_199 (by decide) (by omega) (by omega) (fun cq29 => ?_) (fun cq29 => ?_)
                              · refine lv_iconst (v := iI (0)) hx hb dX3_line_218 rfl ?_
                                refine lv_istore (lv' := [(6, .int (iI (0))), (7, .int (iI (j))), (5, .int (iI (v))), (3, .int (iI (pa + 1))), (4, .int (iI (0))), (2, .int (iI (1))), (1, .int (iI (i))), (0, .ref m0)]) hx hb dX3_line_219 hl (by decide) rfl (fun ls hl => ?_)
                                refine lv_iload hx hb dX3_line_221 (lv_at hl 0 rfl) ?_
                                refine lx_if_eq (a := 0) (tgt := 245) hx hb dX3_line_223 (by decide) (by omega) (fun cq30 => ?_) (fun cq30 => ?_)
                                · refine lv_iconst (v := iI (0)) hx hb dX3_line_245 rfl ?_
                                  refine lv_istore (lv' := [(5, .int (iI (0))), (6, .int (iI (0))), (7, .int (iI (j))), (3, .int (iI (pa + 1))), (4, .int (iI (0))), (2, .int (iI (1))), (1, .int (iI (i))), (0, .ref m0)]) hx hb dX3_line_246 hl (by decide) rfl (fun ls hl => ?_)
                                  refine lv_iinc (v := iI (j + 1)) (lv' := [(7, .int (iI (j + 1))), (5, .int (iI (0))), (6, .int (iI (0))), (3, .int (iI (pa + 1))), (4, .int (iI (0))), (2, .int (iI (1))), (1, .int (iI (i))), (0, .ref m0)]) hx hb dX3_line_248 hl (k := 2) rfl (iI_add _ _) (by decide) rfl (fun ls hl => ?_)
                                  refine lv_goto (tgt := 179) hx hb dX3_line_251 (by decide) ?_
                                  exact ih2 (j + 1) (0) (0) ls (by omega) (by omega) (Or.inr ⟨rfl, by (rcases hg with ⟨e0, e⟩ | ⟨e0, e⟩); (first | omega | (rw [e, zDig_b (by omega)]; rfl)); exact e⟩) (lv_sub hl [0, 1, 2, 3, 4, 5, 6, 7] rfl)
                                · exact absurd cq30 (by omega)
                              · refine lv_aload_n hx hb dX3_line_202 rfl (lv_at hl 7 rfl) ?_
                                refine va_get (D := (dC, dI)) (ci := 3) (v := .ref mi) (C := "RequestCutterModel") (T := TX3) (N := 11) hx hb hts (fun w h => List.mem_cons_of_mem _ (inX3 w h)) hown hK hP 0 rfl rfl 1 (by decide) (hts _ (List.mem_cons_of_mem _ tw_267)) (fun _ h9 => h9) rfl dX3_line_203 ?_
                                refine lv_iload hx hb dX3_line_206 (lv_at hl 0 rfl) ?_
                                refine va_bald hx hb hK hP 1 0 rfl rfl (iI_in (by omega)) dX3_line_208 ?_
                                refine lx_top (x2 := (f) ((j).toNat)) (congrArg (f) (iI_cl (a := j) (by omega))) ?_
                                refine lx_top (x2 := iI (((f) ((j).toNat)).toInt)) (Int32.ofInt_toInt _).symm ?_
                                have g_m := mA hfit n (j) (by omega)
                                refine lv_bipush (v := iI (57)) hx hb dX3_line_209 (by decide) ?_
                                refine lx_icmp_gt (a := ((f) ((j).toNat)).toInt) (b := 57) (tgt := 218) hx hb dX3_line_211 (by decide) (by omega) (by omega) (fun cq31 => ?_) (fun cq31 => ?_)
                                · refine lv_iconst (v := iI (0)) hx hb dX3_line_218 rfl ?_
                                  refine lv_istore (lv' := [(6, .int (iI (0))), (7, .int (iI (j))), (5, .int (iI (v))), (3, .int (iI (pa + 1))), (4, .int (iI (0))), (2, .int (iI (1))), (1, .int (iI (i))), (0, .ref m0)]) hx hb dX3_line_219 hl (by decide) rfl (fun ls hl => ?_)
                                  refine lv_iload hx hb dX3_line_221 (lv_at hl 0 rfl) ?_
                                  refine lx_if_eq (a := 0) (tgt := 245) hx hb dX3_line_223 (by decide) (by omega) (fun cq32 => ?_) (fun cq32 => ?_)
                                  · refine lv_iconst (v := iI (0)) hx hb dX3_line_245 rfl ?_
                                    refine lv_istore (lv' := [(5, .int (iI (0))), (6, .int (iI (0))), (7, .int (iI (j))), (3, .int (iI (pa + 1))), (4, .int (iI (0))), (2, .int (iI (1))), (1, .int (iI (i))), (0, .ref m0)]) hx hb dX3_line_246 hl (by decide) rfl (fun ls hl => ?_)
                                    refine lv_iinc (v := iI (j + 1)) (lv' := [(7, .int (iI (j + 1))), (5, .int (iI (0))), (6, .int (iI (0))), (3, .int (iI (pa + 1))), (4, .int (iI (0))), (2, .int (iI (1))), (1, .int (iI (i))), (0, .ref m0)]) hx hb dX3_line_248 hl (k := 2) rfl (iI_add _ _) (by decide) rfl (fun ls hl => ?_)
                                    refine lv_goto (tgt := 179) hx hb dX3_line_251 (by decide) ?_
                                    exact ih2 (j + 1) (0) (0) ls (by omega) (by omega) (Or.inr ⟨rfl, by (rcases hg with ⟨e0, e⟩ | ⟨e0, e⟩); (first | omega | (rw [e, zDig_b (by omega)]; rfl)); exact e⟩) (lv_sub hl [0, 1, 2, 3, 4, 5, 6, 7] rfl)
                                  · exact absurd cq32 (by omega)
                                · refine lv_iconst (v := iI (1)) hx hb dX3_line_214 rfl ?_
                                  refine lv_goto (tgt := 219) hx hb dX3_line_215 (by decide) ?_
                                  refine lv_istore (lv' := [(6, .int (iI (1))), (7, .int (iI (j))), (5, .int (iI (v))), (3, .int (iI (pa + 1))), (4, .int (iI (0))), (2, .int (iI (1))), (1, .int (iI (i))), (0, .ref m0)]) hx hb dX3_line_219 hl (by decide) rfl (fun ls hl => ?_)
                                  refine lv_iload hx hb dX3_line_221 (lv_at hl 0 rfl) ?_
                                  refine lx_if_eq (a := 1) (tgt := 245) hx hb dX3_line_223 (by decide) (by omega) (fun cq33 => ?_) (fun cq33 => ?_)
                                  · exact absurd cq33 (by omega)
                                  · refine lv_bipush (v := iI (10)) hx hb dX3_line_226 (by decide) ?_
                                    refine lv_iload hx hb dX3_line_228 (lv_at hl 2 rfl) ?_
                                    refine lx_imul (a := 10) (b := v) hx hb dX3_line_230 ?_
                                    refine lv_aload_n hx hb dX3_line_231 rfl (lv_at hl 7 rfl) ?_
                                    refine va_get (D := (dC, dI)) (ci := 3) (v := .ref mi) (C := "RequestCutterModel") (T := TX3) (N := 11) hx hb hts (fun w h => List.mem_cons_of_mem _ (inX3 w h)) hown hK hP 0 rfl rfl 1 (by decide) (hts _ (List.mem_cons_of_mem _ tw_267)) (fun _ h9 => h9) rfl dX3_line_232 ?_
                                    refine lv_iload hx hb dX3_line_235 (lv_at hl 1 rfl) ?_
                                    refine va_bald hx hb hK hP 1 0 rfl rfl (iI_in (by omega)) dX3_line_237 ?_
                                    refine lx_top (x2 := (f) ((j).toNat)) (congrArg (f) (iI_cl (a := j) (by omega))) ?_
                                    refine lx_top (x2 := iI (((f) ((j).toNat)).toInt)) (Int32.ofInt_toInt _).symm ?_
                                    have g_m := mA hfit n (j) (by omega)
                                    refine lx_iadd (a := 10 * v) (b := ((f) ((j).toNat)).toInt) hx hb dX3_line_238 ?_
                                    refine lv_bipush (v := iI (48)) hx hb dX3_line_239 (by decide) ?_
                                    refine lx_isub (a := (10 * v) + (((f) ((j).toNat)).toInt)) (b := 48) hx hb dX3_line_241 ?_
                                    refine lv_goto (tgt := 246) hx hb dX3_line_242 (by decide) ?_
                                    refine lv_istore (lv' := [(5, .int (iI (((10 * v) + (((f) ((j).toNat)).toInt)) - 48))), (6, .int (iI (1))), (7, .int (iI (j))), (3, .int (iI (pa + 1))), (4, .int (iI (0))), (2, .int (iI (1))), (1, .int (iI (i))), (0, .ref m0)]) hx hb dX3_line_246 hl (by decide) rfl (fun ls hl => ?_)
                                    refine lv_iinc (v := iI (j + 1)) (lv' := [(7, .int (iI (j + 1))), (5, .int (iI (((10 * v) + (((f) ((j).toNat)).toInt)) - 48))), (6, .int (iI (1))), (3, .int (iI (pa + 1))), (4, .int (iI (0))), (2, .int (iI (1))), (1, .int (iI (i))), (0, .ref m0)]) hx hb dX3_line_248 hl (k := 2) rfl (iI_add _ _) (by decide) rfl (fun ls hl => ?_)
                                    refine lv_goto (tgt := 179) hx hb dX3_line_251 (by decide) ?_
                                    exact ih2 (j + 1) (((10 * v) + (((f) ((j).toNat)).toInt)) - 48) (1) ls (by omega) (by omega) (Or.inl ⟨rfl, by rcases hg with ⟨e0, e⟩ | ⟨e0, e⟩; rw [e, zDig_s (((10 * v) + (((f) ((j).toNat)).toInt)) - 48) (by omega) (by omega)]; omega⟩) (lv_sub hl [0, 1, 2, 3, 4, 5, 6, 7] rfl)
                      · refine lv_iload_n hx hb dX3_line_161 rfl (lv_at hl 4 rfl) ?_
                        refine lv_iload_n hx hb dX3_line_162 rfl (lv_at hl 1 rfl) ?_
                        refine lv_bipush (v := iI (6)) hx hb dX3_line_163 (by decide) ?_
                        refine lx_iadd (a := pa + 1) (b := 6) hx hb dX3_line_165 ?_
                        refine lx_icmp_gt (a := i) (b := (pa + 1) + 6) (tgt := 173) hx hb dX3_line_166 (by decide) (by omega) (by omega) (fun cq34 => ?_) (fun cq34 => ?_)
                        · refine lv_iconst (v := iI (0)) hx hb dX3_line_173 rfl ?_
                          refine lv_istore (lv' := [(6, .int (iI (0))), (5, .int (iI (0))), (3, .int (iI (pa + 1))), (4, .int (iI (0))), (2, .int (iI (1))), (1, .int (iI (i))), (0, .ref m0)]) hx hb dX3_line_174 hl (by decide) rfl (fun ls hl => ?_)
                          refine lv_iload_n hx hb dX3_line_176 rfl (lv_at hl 2 rfl) ?_
                          refine lv_istore (lv' := [(7, .int (iI (pa + 1))), (6, .int (iI (0))), (5, .int (iI (0))), (3, .int (iI (pa + 1))), (4, .int (iI (0))), (2, .int (iI (1))), (1, .int (iI (i))), (0, .ref m0)]) hx hb dX3_line_177 hl (by decide) rfl (fun ls hl => ?_)
                          refine (?_ : ∀ (k2 : Nat) (j : Int) (v : Int) (g : Int) (ls : Array Slot), (i - j ≤ k2 ∧ (0 < k2 → j + k2 = i)) → (pa + 1 ≤ j ∧ j ≤ pa + 20) → ((g = 1 ∧ zNum (bA f n) (pa + 1) i = (zDig (bA f n) k2 j v).map (fun x => x)) ∨ (g = 0 ∧ zNum (bA f n) (pa + 1) i = none)) → lv_has ls 8 [(7, .int (iI (j))), (5, .int (iI (v))), (6, .int (iI (g))), (3, .int (iI (pa + 1))), (4, .int (iI (0))), (2, .int (iI (1))), (1, .int (iI (i))), (0, .ref m0)] → W p l e _ s m _ below meth c _ _ _ _ _ (F0 m 179 ls [])) ((i - (pa + 1)).toNat) (pa + 1) (0) (0) ls (by omega) (by omega) (Or.inr ⟨rfl, zNum_0 (by rw [if_neg (by omega)]; omega)⟩) (lv_sub hl [0, 2, 1, 3, 4, 5, 6, 7] rfl)
                          intro k2
                          induction k2 with
                          | zero =>
                            intro j v g ls hk2 hj hg hl
                            refine lv_iload hx hb dX3_line_179 (lv_at hl 0 rfl) ?_
                            refine lv_iload_n hx hb dX3_line_181 rfl (lv_at hl 6 rfl) ?_
                            refine lx_icmp_ge (a := j) (b := i) (tgt := 254) hx hb dX3_line_182 (by decide) (by omega) (by omega) (fun cq35 => ?_) (fun cq35 => ?_)
                            · refine lv_aload_n hx hb dX3_line_254 rfl (lv_at hl 7 rfl) ?_
                              refine lv_iload_n hx hb dX3_line_255 rfl (lv_at hl 6 rfl) ?_
                              refine lv_iconst (v := iI (2)) hx hb dX3_line_256 rfl ?_
                              refine lx_iadd (a := i) (b := 2) hx hb dX3_line_257 ?_
                              refine va_put (D := (dC, dI)) (ci := 3) (v := .int (iI (i + 2))) (ty := .int) (C := "RequestCutterModel") (T := TX3) (N := 11) hx hb hts (fun w h => List.mem_cons_of_mem _ (inX3 w h)) tyX3 tyX3_ok nmX3 hown hK hP hD hS 0 rfl rfl 10 (by decide) (hts _ (List.mem_cons_of_mem _ tw_276)) (fun _ h9 => h9) rfl (by decide +kernel) rfl rfl (Nat.le_of_ble_eq_true rfl) dX3_line_258 (fun H locs hP hD hS => ?_)
                              have hP : va_P (dC, dI) vwCl [(m0, .inr (3, [.ref mt, .ref mi, .ref mk, .ref mf, .ref ml, .int (iI ((tc : Int))), .int (iI ((n : Int))), .int (iI ((w : Int))), .int (iI ((ks : Int))), .int (iI (ft)), .int (iI (i + 2))])), (mi, .inl (cB, 65536, .inl (f)))] H := hP
                              have hD : va_D A [(m0, .inr (3, [.ref mt, .ref mi, .ref mk, .ref mf, .ref ml, .int (iI ((tc : Int))), .int (iI ((n : Int))), .int (iI ((w : Int))), .int (iI ((ks : Int))), .int (iI (ft)), .int (iI (i + 2))])), (mi, .inl (cB, 65536, .inl (f)))] := hD
                              refine lv_iload hx hb dX3_line_261 (lv_at hl 2 rfl) ?_
                              refine lx_if_ne (a := g) (tgt := 271) hx hb dX3_line_263 (by decide) (by omega) (fun cq36 => ?_) (fun cq36 => ?_)
                              · refine lv_iload hx hb dX3_line_271 (lv_at hl 4 rfl) ?_
                                refine lx_if_eq (a := 0) (tgt := 282) hx hb dX3_line_273 (by decide) (by omega) (fun cq37 => ?_) (fun cq37 => ?_)
                                · refine lv_iload hx hb dX3_line_282 (lv_at hl 1 rfl) ?_
                                  have hN : (zNum (bA f n) (pa + 1) i).getD (-1000001) = v := by (rcases hg with ⟨e0, e⟩ | ⟨e0, e⟩); rw [e]; rfl; omega
                                  exact W.iret (v := iI (v)) hx hb hr (fun t ht hW => ⟨⟨iI (v), (i + 2), rfl, ⟨by rw [mL_2 hStp (by omega), hN], by rw [mL_2 hStp (by omega)]⟩, by rw [ht]; exact hP, va_K.moved hW.alike hK, hD⟩, hS.F ht⟩) hS.2.2 dX3_line_284
                                · exact absurd cq37 (by omega)
                              · refine lx_ldc (z := -1000001) (v := -1000001) hx hb hown (hts _ (List.mem_cons_of_mem _ tw_336)) (by decide) dX3_line_266 ?_
                                refine lv_goto (tgt := 284) hx hb dX3_line_268 (by decide) ?_
                                have hN : (zNum (bA f n) (pa + 1) i).getD (-1000001) = -1000001 := by (rcases hg with ⟨e0, e⟩ | ⟨e0, e⟩); omega; rw [e]; rfl
                                exact W.iret (v := iI (-1000001)) hx hb hr (fun t ht hW => ⟨⟨iI (-1000001), (i + 2), rfl, ⟨by rw [mL_2 hStp (by omega), hN], by rw [mL_2 hStp (by omega)]⟩, by rw [ht]; exact hP, va_K.moved hW.alike hK, hD⟩, hS.F ht⟩) hS.2.2 dX3_line_284
                            · exact absurd cq35 (by omega)
                          | succ k2 ih2 =>
                            intro j v g ls hk2 hj hg hl
                            refine lv_iload hx hb dX3_line_179 (lv_at hl 0 rfl) ?_
                            refine lv_iload_n hx hb dX3_line_181 rfl (lv_at hl 6 rfl) ?_
                            refine lx_icmp_ge (a := j) (b := i) (tgt := 254) hx hb dX3_line_182 (by decide) (by omega) (by omega) (fun cq38 => ?_) (fun cq38 => ?_)
                            · exact absurd cq38 (by omega)
                            · refine lv_iload hx hb dX3_line_185 (lv_at hl 2 rfl) ?_
                              refine lx_if_eq (a := g) (tgt := 218) hx hb dX3_line_187 (by decide) (by omega) (fun cq39 => ?_) (fun cq39 => ?_)
                              · refine lv_iconst (v := iI (0)) hx hb dX3_line_218 rfl ?_
                                refine lv_istore (lv' := [(6, .int (iI (0))), (7, .int (iI (j))), (5, .int (iI (v))), (3, .int (iI (pa + 1))), (4, .int (iI (0))), (2, .int (iI (1))), (1, .int (iI (i))), (0, .ref m0)]) hx hb dX3_line_219 hl (by decide) rfl (fun ls hl => ?_)
                                refine lv_iload hx hb dX3_line_221 (lv_at hl 0 rfl) ?_
                                refine lx_if_eq (a := 0) (tgt := 245) hx hb dX3_line_223 (by decide) (by omega) (fun cq40 => ?_) (fun cq40 => ?_)
                                · refine lv_iconst (v := iI (0)) hx hb dX3_line_245 rfl ?_
                                  refine lv_istore (lv' := [(5, .int (iI (0))), (6, .int (iI (0))), (7, .int (iI (j))), (3, .int (iI (pa + 1))), (4, .int (iI (0))), (2, .int (iI (1))), (1, .int (iI (i))), (0, .ref m0)]) hx hb dX3_line_246 hl (by decide) rfl (fun ls hl => ?_)
                                  refine lv_iinc (v := iI (j + 1)) (lv' := [(7, .int (iI (j + 1))), (5, .int (iI (0))), (6, .int (iI (0))), (3, .int (iI (pa + 1))), (4, .int (iI (0))), (2, .int (iI (1))), (1, .int (iI (i))), (0, .ref m0)]) hx hb dX3_line_248 hl (k := 2) rfl (iI_add _ _) (by decide) rfl (fun ls hl => ?_)
                                  refine lv_goto (tgt := 179) hx hb dX3_line_251 (by decide) ?_
                                  exact ih2 (j + 1) (0) (0) ls (by omega) (by omega) (Or.inr ⟨rfl, by (rcases hg with ⟨e0, e⟩ | ⟨e0, e⟩); (first | omega | (rw [e, zDig_b (by omega)]; rfl)); exact e⟩) (lv_sub hl [0, 1, 2, 3, 4, 5, 6, 7] rfl)
                                · exact absurd cq40 (by omega)
                              · refine lv_aload_n hx hb dX3_line_190 rfl (lv_at hl 7 rfl) ?_
                                refine va_get (D := (dC, dI)) (ci := 3) (v := .ref mi) (C := "RequestCutterModel") (T := TX3) (N := 11) hx hb hts (fun w h => List.mem_cons_of_mem _ (inX3 w h)) hown hK hP 0 rfl rfl 1 (by decide) (hts _ (List.mem_cons_of_mem _ tw_267)) (fun _ h9 => h9) rfl dX3_line_191 ?_
                                refine lv_iload hx hb dX3_line_194 (lv_at hl 0 rfl) ?_
                                refine va_bald hx hb hK hP 1 0 rfl rfl (iI_in (by omega)) dX3_line_196 ?_
                                refine lx_top (x2 := (f) ((j).toNat)) (congrArg (f) (iI_cl (a := j) (by omega))) ?_
                                refine lx_top (x2 := iI (((f) ((j).toNat)).toInt)) (Int32.ofInt_toInt _).symm ?_
                                have g_m := mA hfit n (j) (by omega)
                                refine lv_bipush (v := iI (48)) hx hb dX3_line_197 (by decide) ?_
                                refine lx_icmp_lt (a := ((f) ((j).toNat)).toInt) (b := 48) (tgt := 218) hx hb dX3_line_199 (by decide) (by omega) (by omega) (fun cq41 => ?_) (fun cq41 => ?_)
                                · refine lv_iconst (v := iI (0)) hx hb dX3_line_218 rfl ?_
                                  refine lv_istore (lv' := [(6, .int (iI (0))), (7, .int (iI (j))), (5, .int (iI (v))), (3, .int (iI (pa + 1))), (4, .int (iI (0))), (2, .int (iI (1))), (1, .int (iI (i))), (0, .ref m0)]) hx hb dX3_line_219 hl (by decide) rfl (fun ls hl => ?_)
                                  refine lv_iload hx hb dX3_line_221 (lv_at hl 0 rfl) ?_
                                  refine lx_if_eq (a := 0) (tgt := 245) hx hb dX3_line_223 (by decide) (by omega) (fun cq42 => ?_) (fun cq42 => ?_)
                                  · refine lv_iconst (v := iI (0)) hx hb dX3_line_245 rfl ?_
                                    refine lv_istore (lv' := [(5, .int (iI (0))), (6, .int (iI (0))), (7, .int (iI (j))), (3, .int (iI (pa + 1))), (4, .int (iI (0))), (2, .int (iI (1))), (1, .int (iI (i))), (0, .ref m0)]) hx hb dX3_line_246 hl (by decide) rfl (fun ls hl => ?_)
                                    refine lv_iinc (v := iI (j + 1)) (lv' := [(7, .int (iI (j + 1))), (5, .int (iI (0))), (6, .int (iI (0))), (3, .int (iI (pa + 1))), (4, .int (iI (0))), (2, .int (iI (1))), (1, .int (iI (i))), (0, .ref m0)]) hx hb dX3_line_248 hl (k := 2) rfl (iI_add _ _) (by decide) rfl (fun ls hl => ?_)
                                    refine lv_goto (tgt := 179) hx hb dX3_line_251 (by decide) ?_
                                    exact ih2 (j + 1) (0) (0) ls (by omega) (by omega) (Or.inr ⟨rfl, by (rcases hg with ⟨e0, e⟩ | ⟨e0, e⟩); (first | omega | (rw [e, zDig_b (by omega)]; rfl)); exact e⟩) (lv_sub hl [0, 1, 2, 3, 4, 5, 6, 7] rfl)
                                  · exact absurd cq42 (by omega)
                                · refine lv_aload_n hx hb dX3_line_202 rfl (lv_at hl 7 rfl) ?_
                                  refine va_get (D := (dC, dI)) (ci := 3) (v := .ref mi) (C := "RequestCutterModel") (T := TX3) (N := 11) hx hb hts (fun w h => List.mem_cons_of_mem _ (inX3 w h)) hown hK hP 0 rfl rfl 1 (by decide) (hts _ (List.mem_cons_of_mem _ tw_267)) (fun _ h9 => h9) rfl dX3_line_203 ?_
                                  refine lv_iload hx hb dX3_line_206 (lv_at hl 0 rfl) ?_
                                  refine va_bald hx hb hK hP 1 0 rfl rfl (iI_in (by omega)) dX3_line_208 ?_
                                  refine lx_top (x2 := (f) ((j).toNat)) (congrArg (f) (iI_cl (a := j) (by omega))) ?_
                                  refine lx_top (x2 := iI (((f) ((j).toNat)).toInt)) (Int32.ofInt_toInt _).symm ?_
                                  have g_m := mA hfit n (j) (by omega)
                                  refine lv_bipush (v := iI (57)) hx hb dX3_line_209 (by decide) ?_
                                  refine lx_icmp_gt (a := ((f) ((j).toNat)).toInt) (b := 57) (tgt := 218) hx hb dX3_line_211 (by decide) (by omega) (by omega) (fun cq43 => ?_) (fun cq43 => ?_)
                                  · refine lv_iconst (v := iI (0)) hx hb dX3_line_218 rfl ?_
                                    refine lv_istore (lv' := [(6, .int (iI (0))), (7, .int (iI (j))), (5, .int (iI (v))), (3, .int (iI (pa + 1))), (4, .int (iI (0))), (2, .int (iI (1))), (1, .int (iI (i))), (0, .ref m0)]) hx hb dX3_line_219 hl (by decide) rfl (fun ls hl => ?_)
                                    refine lv_iload hx hb dX3_line_221 (lv_at hl 0 rfl) ?_
                                    refine lx_if_eq (a := 0) (tgt := 245) hx hb dX3_line_223 (by decide) (by omega) (fun cq44 => ?_) (fun cq44 => ?_)
                                    · refine lv_iconst (v := iI (0)) hx hb dX3_line_245 rfl ?_
                                      refine lv_istore (lv' := [(5, .int (iI (0))), (6, .int (iI (0))), (7, .int (iI (j))), (3, .int (iI (pa + 1))), (4, .int (iI (0))), (2, .int (iI (1))), (1, .int (iI (i))), (0, .ref m0)]) hx hb dX3_line_246 hl (by decide) rfl (fun ls hl => ?_)
                                      refine lv_iinc (v := iI (j + 1)) (lv' := [(7, .int (iI (j + 1))), (5, .int (iI (0))), (6, .int (iI (0))), (3, .int (iI (pa + 1))), (4, .int (iI (0))), (2, .int (iI (1))), (1, .int (iI (i))), (0, .ref m0)]) hx hb dX3_line_248 hl (k := 2) rfl (iI_add _ _) (by decide) rfl (fun ls hl => ?_)
                                      refine lv_goto (tgt := 179) hx hb dX3_line_251 (by decide) ?_
                                      exact ih2 (j + 1) (0) (0) ls (by omega) (by omega) (Or.inr ⟨rfl, by (rcases hg with ⟨e0, e⟩ | ⟨e0, e⟩); (first | omega | (rw [e, zDig_b (by omega)]; rfl)); exact e⟩) (lv_sub hl [0, 1, 2, 3, 4, 5, 6, 7] rfl)
                                    · exact absurd cq44 (by omega)
                                  · refine lv_iconst (v := iI (1)) hx hb dX3_line_214 rfl ?_
                                    refine lv_goto (tgt := 219) hx hb dX3_line_215 (by decide) ?_
                                    refine lv_istore (lv' := [(6, .int (iI (1))), (7, .int (iI (j))), (5, .int (iI (v))), (3, .int (iI (pa + 1))), (4, .int (iI (0))), (2, .int (iI (1))), (1, .int (iI (i))), (0, .ref m0)]) hx hb dX3_line_219 hl (by decide) rfl (fun ls hl => ?_)
                                    refine lv_iload hx hb dX3_line_221 (lv_at hl 0 rfl) ?_
                                    refine lx_if_eq (a := 1) (tgt := 245) hx hb dX3_line_223 (by decide) (by omega) (fun cq45 => ?_) (fun cq45 => ?_)
                                    · exact absurd cq45 (by omega)
                                    · refine lv_bipush (v := iI (10)) hx hb dX3_line_226 (by decide) ?_
                                      refine lv_iload hx hb dX3_line_228 (lv_at hl 2 rfl) ?_
                                      refine lx_imul (a := 10) (b := v) hx hb dX3_line_230 ?_
                                      refine lv_aload_n hx hb dX3_line_231 rfl (lv_at hl 7 rfl) ?_
                                      refine va_get (D := (dC, dI)) (ci := 3) (v := .ref mi) (C := "RequestCutterModel") (T := TX3) (N := 11) hx hb hts (fun w h => List.mem_cons_of_mem _ (inX3 w h)) hown hK hP 0 rfl rfl 1 (by decide) (hts _ (List.mem_cons_of_mem _ tw_267)) (fun _ h9 => h9) rfl dX3_line_232 ?_
                                      refine lv_iload hx hb dX3_line_235 (lv_at hl 1 rfl) ?_
                                      refine va_bald hx hb hK hP 1 0 rfl rfl (iI_in (by omega)) dX3_line_237 ?_
                                      refine lx_top (x2 := (f) ((j).toNat)) (congrArg (f) (iI_cl (a := j) (by omega))) ?_
                                      refine lx_top (x2 := iI (((f) ((j).toNat)).toInt)) (Int32.ofInt_toInt _).symm ?_
                                      have g_m := mA hfit n (j) (by omega)
                                      refine lx_iadd (a := 10 * v) (b := ((f) ((j).toNat)).toInt) hx hb dX3_line_238 ?_
                                      refine lv_bipush (v := iI (48)) hx hb dX3_line_239 (by decide) ?_
                                      refine lx_isub (a := (10 * v) + (((f) ((j).toNat)).toInt)) (b := 48) hx hb dX3_line_241 ?_
                                      refine lv_goto (tgt := 246) hx hb dX3_line_242 (by decide) ?_
                                      refine lv_istore (lv' := [(5, .int (iI (((10 * v) + (((f) ((j).toNat)).toInt)) - 48))), (6, .int (iI (1))), (7, .int (iI (j))), (3, .int (iI (pa + 1))), (4, .int (iI (0))), (2, .int (iI (1))), (1, .int (iI (i))), (0, .ref m0)]) hx hb dX3_line_246 hl (by decide) rfl (fun ls hl => ?_)
                                      refine lv_iinc (v := iI (j + 1)) (lv' := [(7, .int (iI (j + 1))), (5, .int (iI (((10 * v) + (((f) ((j).toNat)).toInt)) - 48))), (6, .int (iI (1))), (3, .int (iI (pa + 1))), (4, .int (iI (0))), (2, .int (iI (1))), (1, .int (iI (i))), (0, .ref m0)]) hx hb dX3_line_248 hl (k := 2) rfl (iI_add _ _) (by decide) rfl (fun ls hl => ?_)
                                      refine lv_goto (tgt := 179) hx hb dX3_line_251 (by decide) ?_
                                      exact ih2 (j + 1) (((10 * v) + (((f) ((j).toNat)).toInt)) - 48) (1) ls (by omega) (by omega) (Or.inl ⟨rfl, by rcases hg with ⟨e0, e⟩ | ⟨e0, e⟩; rw [e, zDig_s (((10 * v) + (((f) ((j).toNat)).toInt)) - 48) (by omega) (by omega)]; omega⟩) (lv_sub hl [0, 1, 2, 3, 4, 5, 6, 7] rfl)
                        · refine lv_iconst (v := iI (1)) hx hb dX3_line_169 rfl ?_
                          refine lv_goto (tgt := 174) hx hb dX3_line_170 (by decide) ?_
                          refine lv_istore (lv' := [(6, .int (iI (1))), (5, .int (iI (0))), (3, .int (iI (pa + 1))), (4, .int (iI (0))), (2, .int (iI (1))), (1, .int (iI (i))), (0, .ref m0)]) hx hb dX3_line_174 hl (by decide) rfl (fun ls hl => ?_)
                          refine lv_iload_n hx hb dX3_line_176 rfl (lv_at hl 2 rfl) ?_
                          refine lv_istore (lv' := [(7, .int (iI (pa + 1))), (6, .int (iI (1))), (5, .int (iI (0))), (3, .int (iI (pa + 1))), (4, .int (iI (0))), (2, .int (iI (1))), (1, .int (iI (i))), (0, .ref m0)]) hx hb dX3_line_177 hl (by decide) rfl (fun ls hl => ?_)
                          refine (?_ : ∀ (k2 : Nat) (j : Int) (v : Int) (g : Int) (ls : Array Slot), (i - j ≤ k2 ∧ (0 < k2 → j + k2 = i)) → (pa + 1 ≤ j ∧ j ≤ pa + 20) → ((g = 1 ∧ zNum (bA f n) (pa + 1) i = (zDig (bA f n) k2 j v).map (fun x => x)) ∨ (g = 0 ∧ zNum (bA f n) (pa + 1) i = none)) → lv_has ls 8 [(7, .int (iI (j))), (5, .int (iI (v))), (6, .int (iI (g))), (3, .int (iI (pa + 1))), (4, .int (iI (0))), (2, .int (iI (1))), (1, .int (iI (i))), (0, .ref m0)] → W p l e _ s m _ below meth c _ _ _ _ _ (F0 m 179 ls [])) ((i - (pa + 1)).toNat) (pa + 1) (0) (1) ls (by omega) (by omega) (Or.inl ⟨rfl, zNum_p (by omega) (by omega)⟩) (lv_sub hl [0, 2, 1, 3, 4, 5, 6, 7] rfl)
                          intro k2
                          induction k2 with
                          | zero =>
                            intro j v g ls hk2 hj hg hl
                            refine lv_iload hx hb dX3_line_179 (lv_at hl 0 rfl) ?_
                            refine lv_iload_n hx hb dX3_line_181 rfl (lv_at hl 6 rfl) ?_
                            refine lx_icmp_ge (a := j) (b := i) (tgt := 254) hx hb dX3_line_182 (by decide) (by omega) (by omega) (fun cq46 => ?_) (fun cq46 => ?_)
                            · refine lv_aload_n hx hb dX3_line_254 rfl (lv_at hl 7 rfl) ?_
                              refine lv_iload_n hx hb dX3_line_255 rfl (lv_at hl 6 rfl) ?_
                              refine lv_iconst (v := iI (2)) hx hb dX3_line_256 rfl ?_
                              refine lx_iadd (a := i) (b := 2) hx hb dX3_line_257 ?_
                              refine va_put (D := (dC, dI)) (ci := 3) (v := .int (iI (i + 2))) (ty := .int) (C := "RequestCutterModel") (T := TX3) (N := 11) hx hb hts (fun w h => List.mem_cons_of_mem _ (inX3 w h)) tyX3 tyX3_ok nmX3 hown hK hP hD hS 0 rfl rfl 10 (by decide) (hts _ (List.mem_cons_of_mem _ tw_276)) (fun _ h9 => h9) rfl (by decide +kernel) rfl rfl (Nat.le_of_ble_eq_true rfl) dX3_line_258 (fun H locs hP hD hS => ?_)
                              have hP : va_P (dC, dI) vwCl [(m0, .inr (3, [.ref mt, .ref mi, .ref mk, .ref mf, .ref ml, .int (iI ((tc : Int))), .int (iI ((n : Int))), .int (iI ((w : Int))), .int (iI ((ks : Int))), .int (iI (ft)), .int (iI (i + 2))])), (mi, .inl (cB, 65536, .inl (f)))] H := hP
                              have hD : va_D A [(m0, .inr (3, [.ref mt, .ref mi, .ref mk, .ref mf, .ref ml, .int (iI ((tc : Int))), .int (iI ((n : Int))), .int (iI ((w : Int))), .int (iI ((ks : Int))), .int (iI (ft)), .int (iI (i + 2))])), (mi, .inl (cB, 65536, .inl (f)))] := hD
                              refine lv_iload hx hb dX3_line_261 (lv_at hl 2 rfl) ?_
                              refine lx_if_ne (a := g) (tgt := 271) hx hb dX3_line_263 (by decide) (by omega) (fun cq47 => ?_) (fun cq47 => ?_)
                              · refine lv_iload hx hb dX3_line_271 (lv_at hl 4 rfl) ?_
                                refine lx_if_eq (a := 0) (tgt := 282) hx hb dX3_line_273 (by decide) (by omega) (fun cq48 => ?_) (fun cq48 => ?_)
                                · refine lv_iload hx hb dX3_line_282 (lv_at hl 1 rfl) ?_
                                  have hN : (zNum (bA f n) (pa + 1) i).getD (-1000001) = v := by (rcases hg with ⟨e0, e⟩ | ⟨e0, e⟩); rw [e]; rfl; omega
                                  exact W.iret (v := iI (v)) hx hb hr (fun t ht hW => ⟨⟨iI (v), (i + 2), rfl, ⟨by rw [mL_2 hStp (by omega), hN], by rw [mL_2 hStp (by omega)]⟩, by rw [ht]; exact hP, va_K.moved hW.alike hK, hD⟩, hS.F ht⟩) hS.2.2 dX3_line_284
                                · exact absurd cq48 (by omega)
                              · refine lx_ldc (z := -1000001) (v := -1000001) hx hb hown (hts _ (List.mem_cons_of_mem _ tw_336)) (by decide) dX3_line_266 ?_
                                refine lv_goto (tgt := 284) hx hb dX3_line_268 (by decide) ?_
                                have hN : (zNum (bA f n) (pa + 1) i).getD (-1000001) = -1000001 := by (rcases hg with ⟨e0, e⟩ | ⟨e0, e⟩); omega; rw [e]; rfl
                                exact W.iret (v := iI (-1000001)) hx hb hr (fun t ht hW => ⟨⟨iI (-1000001), (i + 2), rfl, ⟨by rw [mL_2 hStp (by omega), hN], by rw [mL_2 hStp (by omega)]⟩, by rw [ht]; exact hP, va_K.moved hW.alike hK, hD⟩, hS.F ht⟩) hS.2.2 dX3_line_284
                            · exact absurd cq46 (by omega)
                          | succ k2 ih2 =>
                            intro j v g ls hk2 hj hg hl
                            refine lv_iload hx hb dX3_line_179 (lv_at hl 0 rfl) ?_
                            refine lv_iload_n hx hb dX3_line_181 rfl (lv_at hl 6 rfl) ?_
                            refine lx_icmp_ge (a := j) (b := i) (tgt := 254) hx hb dX3_line_182 (by decide) (by omega) (by omega) (fun cq49 => ?_) (fun cq49 => ?_)
                            · exact absurd cq49 (by omega)
                            · refine lv_iload hx hb dX3_line_185 (lv_at hl 2 rfl) ?_
                              refine lx_if_eq (a := g) (tgt := 218) hx hb dX3_line_187 (by decide) (by omega) (fun cq50 => ?_) (fun cq50 => ?_)
                              · refine lv_iconst (v := iI (0)) hx hb dX3_line_218 rfl ?_
                                refine lv_istore (lv' := [(6, .int (iI (0))), (7, .int (iI (j))), (5, .int (iI (v))), (3, .int (iI (pa + 1))), (4, .int (iI (0))), (2, .int (iI (1))), (1, .int (iI (i))), (0, .ref m0)]) hx hb dX3_line_219 hl (by decide) rfl (fun ls hl => ?_)
                                refine lv_iload hx hb dX3_line_221 (lv_at hl 0 rfl) ?_
                                refine lx_if_eq (a := 0) (tgt := 245) hx hb dX3_line_223 (by decide) (by omega) (fun cq51 => ?_) (fun cq51 => ?_)
                                · refine lv_iconst (v := iI (0)) hx hb dX3_line_245 rfl ?_
                                  refine lv_istore (lv' := [(5, .int (iI (0))), (6, .int (iI (0))), (7, .int (iI (j))), (3, .int (iI (pa + 1))), (4, .int (iI (0))), (2, .int (iI (1))), (1, .int (iI (i))), (0, .ref m0)]) hx hb dX3_line_246 hl (by decide) rfl (fun ls hl => ?_)
                                  refine lv_iinc (v := iI (j + 1)) (lv' := [(7, .int (iI (j + 1))), (5, .int (iI (0))), (6, .int (iI (0))), (3, .int (iI (pa + 1))), (4, .int (iI (0))), (2, .int (iI (1))), (1, .int (iI (i))), (0, .ref m0)]) hx hb dX3_line_248 hl (k := 2) rfl (iI_add _ _) (by decide) rfl (fun ls hl => ?_)
                                  refine lv_goto (tgt := 179) hx hb dX3_line_251 (by decide) ?_
                                  exact ih2 (j + 1) (0) (0) ls (by omega) (by omega) (Or.inr ⟨rfl, by (rcases hg with ⟨e0, e⟩ | ⟨e0, e⟩); (first | omega | (rw [e, zDig_b (by omega)]; rfl)); exact e⟩) (lv_sub hl [0, 1, 2, 3, 4, 5, 6, 7] rfl)
                                · exact absurd cq51 (by omega)
                              · refine lv_aload_n hx hb dX3_line_190 rfl (lv_at hl 7 rfl) ?_
                                refine va_get (D := (dC, dI)) (ci := 3) (v := .ref mi) (C := "RequestCutterModel") (T := TX3) (N := 11) hx hb hts (fun w h => List.mem_cons_of_mem _ (inX3 w h)) hown hK hP 0 rfl rfl 1 (by decide) (hts _ (List.mem_cons_of_mem _ tw_267)) (fun _ h9 => h9) rfl dX3_line_191 ?_
                                refine lv_iload hx hb dX3_line_194 (lv_at hl 0 rfl) ?_
                                refine va_bald hx hb hK hP 1 0 rfl rfl (iI_in (by omega)) dX3_line_196 ?_
                                refine lx_top (x2 := (f) ((j).toNat)) (congrArg (f) (iI_cl (a := j) (by omega))) ?_
                                refine lx_top (x2 := iI (((f) ((j).toNat)).toInt)) (Int32.ofInt_toInt _).symm ?_
                                have g_m := mA hfit n (j) (by omega)
                                refine lv_bipush (v := iI (48)) hx hb dX3_line_197 (by decide) ?_
                                refine lx_icmp_lt (a := ((f) ((j).toNat)).toInt) (b := 48) (tgt := 218) hx hb dX3_line_199 (by decide) (by omega) (by omega) (fun cq52 => ?_) (fun cq52 => ?_)
                                · refine lv_iconst (v := iI (0)) hx hb dX3_line_218 rfl ?_
                                  refine lv_istore (lv' := [(6, .int (iI (0))), (7, .int (iI (j))), (5, .int (iI (v))), (3, .int (iI (pa + 1))), (4, .int (iI (0))), (2, .int (iI (1))), (1, .int (iI (i))), (0, .ref m0)]) hx hb dX3_line_219 hl (by decide) rfl (fun ls hl => ?_)
                                  refine lv_iload hx hb dX3_line_221 (lv_at hl 0 rfl) ?_
                                  refine lx_if_eq (a := 0) (tgt := 245) hx hb dX3_line_223 (by decide) (by omega) (fun cq53 => ?_) (fun cq53 => ?_)
                                  · refine lv_iconst (v := iI (0)) hx hb dX3_line_245 rfl ?_
                                    refine lv_istore (lv' := [(5, .int (iI (0))), (6, .int (iI (0))), (7, .int (iI (j))), (3, .int (iI (pa + 1))), (4, .int (iI (0))), (2, .int (iI (1))), (1, .int (iI (i))), (0, .ref m0)]) hx hb dX3_line_246 hl (by decide) rfl (fun ls hl => ?_)
                                    refine lv_iinc (v := iI (j + 1)) (lv' := [(7, .int (iI (j + 1))), (5, .int (iI (0))), (6, .int (iI (0))), (3, .int (iI (pa + 1))), (4, .int (iI (0))), (2, .int (iI (1))), (1, .int (iI (i))), (0, .ref m0)]) hx hb dX3_line_248 hl (k := 2) rfl (iI_add _ _) (by decide) rfl (fun ls hl => ?_)
                                    refine lv_goto (tgt := 179) hx hb dX3_line_251 (by decide) ?_
                                    exact ih2 (j + 1) (0) (0) ls (by omega) (by omega) (Or.inr ⟨rfl, by (rcases hg with ⟨e0, e⟩ | ⟨e0, e⟩); (first | omega | (rw [e, zDig_b (by omega)]; rfl)); exact e⟩) (lv_sub hl [0, 1, 2, 3, 4, 5, 6, 7] rfl)
                                  · exact absurd cq53 (by omega)
                                · refine lv_aload_n hx hb dX3_line_202 rfl (lv_at hl 7 rfl) ?_
                                  refine va_get (D := (dC, dI)) (ci := 3) (v := .ref mi) (C := "RequestCutterModel") (T := TX3) (N := 11) hx hb hts (fun w h => List.mem_cons_of_mem _ (inX3 w h)) hown hK hP 0 rfl rfl 1 (by decide) (hts _ (List.mem_cons_of_mem _ tw_267)) (fun _ h9 => h9) rfl dX3_line_203 ?_
                                  refine lv_iload hx hb dX3_line_206 (lv_at hl 0 rfl) ?_
                                  refine va_bald hx hb hK hP 1 0 rfl rfl (iI_in (by omega)) dX3_line_208 ?_
                                  refine lx_top (x2 := (f) ((j).toNat)) (congrArg (f) (iI_cl (a := j) (by omega))) ?_
                                  refine lx_top (x2 := iI (((f) ((j).toNat)).toInt)) (Int32.ofInt_toInt _).symm ?_
                                  have g_m := mA hfit n (j) (by omega)
                                  refine lv_bipush (v := iI (57)) hx hb dX3_line_209 (by decide) ?_
                                  refine lx_icmp_gt (a := ((f) ((j).toNat)).toInt) (b := 57) (tgt := 218) hx hb dX3_line_211 (by decide) (by omega) (by omega) (fun cq54 => ?_) (fun cq54 => ?_)
                                  · refine lv_iconst (v := iI (0)) hx hb dX3_line_218 rfl ?_
                                    refine lv_istore (lv' := [(6, .int (iI (0))), (7, .int (iI (j))), (5, .int (iI (v))), (3, .int (iI (pa + 1))), (4, .int (iI (0))), (2, .int (iI (1))), (1, .int (iI (i))), (0, .ref m0)]) hx hb dX3_line_219 hl (by decide) rfl (fun ls hl => ?_)
                                    refine lv_iload hx hb dX3_line_221 (lv_at hl 0 rfl) ?_
                                    refine lx_if_eq (a := 0) (tgt := 245) hx hb dX3_line_223 (by decide) (by omega) (fun cq55 => ?_) (fun cq55 => ?_)
                                    · refine lv_iconst (v := iI (0)) hx hb dX3_line_245 rfl ?_
                                      refine lv_istore (lv' := [(5, .int (iI (0))), (6, .int (iI (0))), (7, .int (iI (j))), (3, .int (iI (pa + 1))), (4, .int (iI (0))), (2, .int (iI (1))), (1, .int (iI (i))), (0, .ref m0)]) hx hb dX3_line_246 hl (by decide) rfl (fun ls hl => ?_)
                                      refine lv_iinc (v := iI (j + 1)) (lv' := [(7, .int (iI (j + 1))), (5, .int (iI (0))), (6, .int (iI (0))), (3, .int (iI (pa + 1))), (4, .int (iI (0))), (2, .int (iI (1))), (1, .int (iI (i))), (0, .ref m0)]) hx hb dX3_line_248 hl (k := 2) rfl (iI_add _ _) (by decide) rfl (fun ls hl => ?_)
                                      refine lv_goto (tgt := 179) hx hb dX3_line_251 (by decide) ?_
                                      exact ih2 (j + 1) (0) (0) ls (by omega) (by omega) (Or.inr ⟨rfl, by (rcases hg with ⟨e0, e⟩ | ⟨e0, e⟩); (first | omega | (rw [e, zDig_b (by omega)]; rfl)); exact e⟩) (lv_sub hl [0, 1, 2, 3, 4, 5, 6, 7] rfl)
                                    · exact absurd cq55 (by omega)
                                  · refine lv_iconst (v := iI (1)) hx hb dX3_line_214 rfl ?_
                                    refine lv_goto (tgt := 219) hx hb dX3_line_215 (by decide) ?_
                                    refine lv_istore (lv' := [(6, .int (iI (1))), (7, .int (iI (j))), (5, .int (iI (v))), (3, .int (iI (pa + 1))), (4, .int (iI (0))), (2, .int (iI (1))), (1, .int (iI (i))), (0, .ref m0)]) hx hb dX3_line_219 hl (by decide) rfl (fun ls hl => ?_)
                                    refine lv_iload hx hb dX3_line_221 (lv_at hl 0 rfl) ?_
                                    refine lx_if_eq (a := 1) (tgt := 245) hx hb dX3_line_223 (by decide) (by omega) (fun cq56 => ?_) (fun cq56 => ?_)
                                    · exact absurd cq56 (by omega)
                                    · refine lv_bipush (v := iI (10)) hx hb dX3_line_226 (by decide) ?_
                                      refine lv_iload hx hb dX3_line_228 (lv_at hl 2 rfl) ?_
                                      refine lx_imul (a := 10) (b := v) hx hb dX3_line_230 ?_
                                      refine lv_aload_n hx hb dX3_line_231 rfl (lv_at hl 7 rfl) ?_
                                      refine va_get (D := (dC, dI)) (ci := 3) (v := .ref mi) (C := "RequestCutterModel") (T := TX3) (N := 11) hx hb hts (fun w h => List.mem_cons_of_mem _ (inX3 w h)) hown hK hP 0 rfl rfl 1 (by decide) (hts _ (List.mem_cons_of_mem _ tw_267)) (fun _ h9 => h9) rfl dX3_line_232 ?_
                                      refine lv_iload hx hb dX3_line_235 (lv_at hl 1 rfl) ?_
                                      refine va_bald hx hb hK hP 1 0 rfl rfl (iI_in (by omega)) dX3_line_237 ?_
                                      refine lx_top (x2 := (f) ((j).toNat)) (congrArg (f) (iI_cl (a := j) (by omega))) ?_
                                      refine lx_top (x2 := iI (((f) ((j).toNat)).toInt)) (Int32.ofInt_toInt _).symm ?_
                                      have g_m := mA hfit n (j) (by omega)
                                      refine lx_iadd (a := 10 * v) (b := ((f) ((j).toNat)).toInt) hx hb dX3_line_238 ?_
                                      refine lv_bipush (v := iI (48)) hx hb dX3_line_239 (by decide) ?_
                                      refine lx_isub (a := (10 * v) + (((f) ((j).toNat)).toInt)) (b := 48) hx hb dX3_line_241 ?_
                                      refine lv_goto (tgt := 246) hx hb dX3_line_242 (by decide) ?_
                                      refine lv_istore (lv' := [(5, .int (iI (((10 * v) + (((f) ((j).toNat)).toInt)) - 48))), (6, .int (iI (1))), (7, .int (iI (j))), (3, .int (iI (pa + 1))), (4, .int (iI (0))), (2, .int (iI (1))), (1, .int (iI (i))), (0, .ref m0)]) hx hb dX3_line_246 hl (by decide) rfl (fun ls hl => ?_)
                                      refine lv_iinc (v := iI (j + 1)) (lv' := [(7, .int (iI (j + 1))), (5, .int (iI (((10 * v) + (((f) ((j).toNat)).toInt)) - 48))), (6, .int (iI (1))), (3, .int (iI (pa + 1))), (4, .int (iI (0))), (2, .int (iI (1))), (1, .int (iI (i))), (0, .ref m0)]) hx hb dX3_line_248 hl (k := 2) rfl (iI_add _ _) (by decide) rfl (fun ls hl => ?_)
                                      refine lv_goto (tgt := 179) hx hb dX3_line_251 (by decide) ?_
                                      exact ih2 (j + 1) (((10 * v) + (((f) ((j).toNat)).toInt)) - 48) (1) ls (by omega) (by omega) (Or.inl ⟨rfl, by rcases hg with ⟨e0, e⟩ | ⟨e0, e⟩; rw [e, zDig_s (((10 * v) + (((f) ((j).toNat)).toInt)) - 48) (by omega) (by omega)]; omega⟩) (lv_sub hl [0, 1, 2, 3, 4, 5, 6, 7] rfl)
                    · exact absurd cq21 (by omega)
                  · refine lv_iconst (v := iI (1)) hx hb dX3_line_133 rfl ?_
                    refine lv_goto (tgt := 138) hx hb dX3_line_134 (by decide) ?_
                    refine lv_istore (lv' := [(4, .int (iI (1))), (3, .int (iI (pa + 1))), (2, .int (iI (1))), (1, .int (iI (i))), (0, .ref m0)]) hx hb dX3_line_138 hl (by decide) rfl (fun ls hl => ?_)
                    refine lv_iload hx hb dX3_line_140 (lv_at hl 0 rfl) ?_
                    refine lx_if_eq (a := 1) (tgt := 151) hx hb dX3_line_142 (by decide) (by omega) (fun cq57 => ?_) (fun cq57 => ?_)
                    · exact absurd cq57 (by omega)
                    · refine lv_iload_n hx hb dX3_line_145 rfl (lv_at hl 1 rfl) ?_
                      refine lv_iconst (v := iI (1)) hx hb dX3_line_146 rfl ?_
                      refine lx_iadd (a := pa + 1) (b := 1) hx hb dX3_line_147 ?_
                      refine lv_goto (tgt := 152) hx hb dX3_line_148 (by decide) ?_
                      refine lv_istore_n (lv' := [(3, .int (iI ((pa + 1) + 1))), (4, .int (iI (1))), (2, .int (iI (1))), (1, .int (iI (i))), (0, .ref m0)]) hx hb dX3_line_152 rfl hl (by decide) rfl (fun ls hl => ?_)
                      refine lv_iconst (v := iI (0)) hx hb dX3_line_153 rfl ?_
                      refine lv_istore (lv' := [(5, .int (iI (0))), (3, .int (iI ((pa + 1) + 1))), (4, .int (iI (1))), (2, .int (iI (1))), (1, .int (iI (i))), (0, .ref m0)]) hx hb dX3_line_154 hl (by decide) rfl (fun ls hl => ?_)
                      refine lv_iload_n hx hb dX3_line_156 rfl (lv_at hl 4 rfl) ?_
                      refine lv_iload_n hx hb dX3_line_157 rfl (lv_at hl 1 rfl) ?_
                      refine lx_icmp_le (a := i) (b := (pa + 1) + 1) (tgt := 173) hx hb dX3_line_158 (by decide) (by omega) (by omega) (fun cq58 => ?_) (fun cq58 => ?_)
                      · refine lv_iconst (v := iI (0)) hx hb dX3_line_173 rfl ?_
                        refine lv_istore (lv' := [(6, .int (iI (0))), (5, .int (iI (0))), (3, .int (iI ((pa + 1) + 1))), (4, .int (iI (1))), (2, .int (iI (1))), (1, .int (iI (i))), (0, .ref m0)]) hx hb dX3_line_174 hl (by decide) rfl (fun ls hl => ?_)
                        refine lv_iload_n hx hb dX3_line_176 rfl (lv_at hl 2 rfl) ?_
                        refine lv_istore (lv' := [(7, .int (iI ((pa + 1) + 1))), (6, .int (iI (0))), (5, .int (iI (0))), (3, .int (iI ((pa + 1) + 1))), (4, .int (iI (1))), (2, .int (iI (1))), (1, .int (iI (i))), (0, .ref m0)]) hx hb dX3_line_177 hl (by decide) rfl (fun ls hl => ?_)
                        refine (?_ : ∀ (k2 : Nat) (j : Int) (v : Int) (g : Int) (ls : Array Slot), (i - j ≤ k2 ∧ (0 < k2 → j + k2 = i)) → (pa + 1 ≤ j ∧ j ≤ pa + 20) → ((g = 1 ∧ zNum (bA f n) (pa + 1) i = (zDig (bA f n) k2 j v).map (fun x => -x)) ∨ (g = 0 ∧ zNum (bA f n) (pa + 1) i = none)) → lv_has ls 8 [(7, .int (iI (j))), (5, .int (iI (v))), (6, .int (iI (g))), (3, .int (iI ((pa + 1) + 1))), (4, .int (iI (1))), (2, .int (iI (1))), (1, .int (iI (i))), (0, .ref m0)] → W p l e _ s m _ below meth c _ _ _ _ _ (F0 m 179 ls [])) ((i - ((pa + 1) + 1)).toNat) ((pa + 1) + 1) (0) (0) ls (by omega) (by omega) (Or.inr ⟨rfl, zNum_0 (by rw [if_pos (by omega)]; omega)⟩) (lv_sub hl [0, 2, 1, 3, 4, 5, 6, 7] rfl)
                        intro k2
                        induction k2 with
                        | zero =>
                          intro j v g ls hk2 hj hg hl
                          refine lv_iload hx hb dX3_line_179 (lv_at hl 0 rfl) ?_
                          refine lv_iload_n hx hb dX3_line_181 rfl (lv_at hl 6 rfl) ?_
                          refine lx_icmp_ge (a := j) (b := i) (tgt := 254) hx hb dX3_line_182 (by decide) (by omega) (by omega) (fun cq59 => ?_) (fun cq59 => ?_)
                          · refine lv_aload_n hx hb dX3_line_254 rfl (lv_at hl 7 rfl) ?_
                            refine lv_iload_n hx hb dX3_line_255 rfl (lv_at hl 6 rfl) ?_
                            refine lv_iconst (v := iI (2)) hx hb dX3_line_256 rfl ?_
                            refine lx_iadd (a := i) (b := 2) hx hb dX3_line_257 ?_
                            refine va_put (D := (dC, dI)) (ci := 3) (v := .int (iI (i + 2))) (ty := .int) (C := "RequestCutterModel") (T := TX3) (N := 11) hx hb hts (fun w h => List.mem_cons_of_mem _ (inX3 w h)) tyX3 tyX3_ok nmX3 hown hK hP hD hS 0 rfl rfl 10 (by decide) (hts _ (List.mem_cons_of_mem _ tw_276)) (fun _ h9 => h9) rfl (by decide +kernel) rfl rfl (Nat.le_of_ble_eq_true rfl) dX3_line_258 (fun H locs hP hD hS => ?_)
                            have hP : va_P (dC, dI) vwCl [(m0, .inr (3, [.ref mt, .ref mi, .ref mk, .ref mf, .ref ml, .int (iI ((tc : Int))), .int (iI ((n : Int))), .int (iI ((w : Int))), .int (iI ((ks : Int))), .int (iI (ft)), .int (iI (i + 2))])), (mi, .inl (cB, 65536, .inl (f)))] H := hP
                            have hD : va_D A [(m0, .inr (3, [.ref mt, .ref mi, .ref mk, .ref mf, .ref ml, .int (iI ((tc : Int))), .int (iI ((n : Int))), .int (iI ((w : Int))), .int (iI ((ks : Int))), .int (iI (ft)), .int (iI (i + 2))])), (mi, .inl (cB, 65536, .inl (f)))] := hD
                            refine lv_iload hx hb dX3_line_261 (lv_at hl 2 rfl) ?_
                            refine lx_if_ne (a := g) (tgt := 271) hx hb dX3_line_263 (by decide) (by omega) (fun cq60 => ?_) (fun cq60 => ?_)
                            · refine lv_iload hx hb dX3_line_271 (lv_at hl 4 rfl) ?_
                              refine lx_if_eq (a := 1) (tgt := 282) hx hb dX3_line_273 (by decide) (by omega) (fun cq61 => ?_) (fun cq61 => ?_)
                              · exact absurd cq61 (by omega)
                              · refine lv_iload hx hb dX3_line_276 (lv_at hl 1 rfl) ?_
                                refine lx_ineg (a := v) hx hb dX3_line_278 ?_
                                refine lv_goto (tgt := 284) hx hb dX3_line_279 (by decide) ?_
                                have hN : (zNum (bA f n) (pa + 1) i).getD (-1000001) = -(v) := by (rcases hg with ⟨e0, e⟩ | ⟨e0, e⟩); rw [e]; rfl; omega
                                exact W.iret (v := iI (-(v))) hx hb hr (fun t ht hW => ⟨⟨iI (-(v)), (i + 2), rfl, ⟨by rw [mL_2 hStp (by omega), hN], by rw [mL_2 hStp (by omega)]⟩, by rw [ht]; exact hP, va_K.moved hW.alike hK, hD⟩, hS.F ht⟩) hS.2.2 dX3_line_284
                            · refine lx_ldc (z := -1000001) (v := -1000001) hx hb hown (hts _ (List.mem_cons_of_mem _ tw_336)) (by decide) dX3_line_266 ?_
                              refine lv_goto (tgt := 284) hx hb dX3_line_268 (by decide) ?_
                              have hN : (zNum (bA f n) (pa + 1) i).getD (-1000001) = -1000001 := by (rcases hg with ⟨e0, e⟩ | ⟨e0, e⟩); omega; rw [e]; rfl
                              exact W.iret (v := iI (-1000001)) hx hb hr (fun t ht hW => ⟨⟨iI (-1000001), (i + 2), rfl, ⟨by rw [mL_2 hStp (by omega), hN], by rw [mL_2 hStp (by omega)]⟩, by rw [ht]; exact hP, va_K.moved hW.alike hK, hD⟩, hS.F ht⟩) hS.2.2 dX3_line_284
                          · exact absurd cq59 (by omega)
                        | succ k2 ih2 =>
                          intro j v g ls hk2 hj hg hl
                          refine lv_iload hx hb dX3_line_179 (lv_at hl 0 rfl) ?_
                          refine lv_iload_n hx hb dX3_line_181 rfl (lv_at hl 6 rfl) ?_
                          refine lx_icmp_ge (a := j) (b := i) (tgt := 254) hx hb dX3_line_182 (by decide) (by omega) (by omega) (fun cq62 => ?_) (fun cq62 => ?_)
                          · exact absurd cq62 (by omega)
                          · refine lv_iload hx hb dX3_line_185 (lv_at hl 2 rfl) ?_
                            refine lx_if_eq (a := g) (tgt := 218) hx hb dX3_line_187 (by decide) (by omega) (fun cq63 => ?_) (fun cq63 => ?_)
                            · refine lv_iconst (v := iI (0)) hx hb dX3_line_218 rfl ?_
                              refine lv_istore (lv' := [(6, .int (iI (0))), (7, .int (iI (j))), (5, .int (iI (v))), (3, .int (iI ((pa + 1) + 1))), (4, .int (iI (1))), (2, .int (iI (1))), (1, .int (iI (i))), (0, .ref m0)]) hx hb dX3_line_219 hl (by decide) rfl (fun ls hl => ?_)
                              refine lv_iload hx hb dX3_line_221 (lv_at hl 0 rfl) ?_
                              refine lx_if_eq (a := 0) (tgt := 245) hx hb dX3_line_223 (by decide) (by omega) (fun cq64 => ?_) (fun cq64 => ?_)
                              · refine lv_iconst (v := iI (0)) hx hb dX3_line_245 rfl ?_
                                refine lv_istore (lv' := [(5, .int (iI (0))), (6, .int (iI (0))), (7, .int (iI (j))), (3, .int (iI ((pa + 1) + 1))), (4, .int (iI (1))), (2, .int (iI (1))), (1, .int (iI (i))), (0, .ref m0)]) hx hb dX3_line_246 hl (by decide) rfl (fun ls hl => ?_)
                                refine lv_iinc (v := iI (j + 1)) (lv' := [(7, .int (iI (j + 1))), (5, .int (iI (0))), (6, .int (iI (0))), (3, .int (iI ((pa + 1) + 1))), (4, .int (iI (1))), (2, .int (iI (1))), (1, .int (iI (i))), (0, .ref m0)]) hx hb dX3_line_248 hl (k := 2) rfl (iI_add _ _) (by decide) rfl (fun ls hl => ?_)
                                refine lv_goto (tgt := 179) hx hb dX3_line_251 (by decide) ?_
                                exact ih2 (j + 1) (0) (0) ls (by omega) (by omega) (Or.inr ⟨rfl, by (rcases hg with ⟨e0, e⟩ | ⟨e0, e⟩); (first | omega | (rw [e, zDig_b (by omega)]; rfl)); exact e⟩) (lv_sub hl [0, 1, 2, 3, 4, 5, 6, 7] rfl)
                              · exact absurd cq64 (by omega)
                            · refine lv_aload_n hx hb dX3_line_190 rfl (lv_at hl 7 rfl) ?_
                              refine va_get (D := (dC, dI)) (ci := 3) (v := .ref mi) (C := "RequestCutterModel") (T := TX3) (N := 11) hx hb hts (fun w h => List.mem_cons_of_mem _ (inX3 w h)) hown hK hP 0 rfl rfl 1 (by decide) (hts _ (List.mem_cons_of_mem _ tw_267)) (fun _ h9 => h9) rfl dX3_line_191 ?_
                              refine lv_iload hx hb dX3_line_194 (lv_at hl 0 rfl) ?_
                              refine va_bald hx hb hK hP 1 0 rfl rfl (iI_in (by omega)) dX3_line_196 ?_
                              refine lx_top (x2 := (f) ((j).toNat)) (congrArg (f) (iI_cl (a := j) (by omega))) ?_
                              refine lx_top (x2 := iI (((f) ((j).toNat)).toInt)) (Int32.ofInt_toInt _).symm ?_
                              have g_m := mA hfit n (j) (by omega)
                              refine lv_bipush (v := iI (48)) hx hb dX3_line_197 (by decide) ?_
                              refine lx_icmp_lt (a := ((f) ((j).toNat)).toInt) (b := 48) (tgt := 218) hx hb dX3_line_199 (by decide) (by omega) (by omega) (fun cq65 => ?_) (fun cq65 => ?_)
                              · refine lv_iconst (v := iI (0)) hx hb dX3_line_218 rfl ?_
                                refine lv_istore (lv' := [(6, .int (iI (0))), (7, .int (iI (j))), (5, .int (iI (v))), (3, .int (iI ((pa + 1) + 1))), (4, .int (iI (1))), (2, .int (iI (1))), (1, .int (iI (i))), (0, .ref m0)]) hx hb dX3_line_219 hl (by decide) rfl (fun ls hl => ?_)
                                refine lv_iload hx hb dX3_line_221 (lv_at hl 0 rfl) ?_
                                refine lx_if_eq (a := 0) (tgt := 245) hx hb dX3_line_223 (by decide) (by omega) (fun cq66 => ?_) (fun cq66 => ?_)
                                · refine lv_iconst (v := iI (0)) hx hb dX3_line_245 rfl ?_
                                  refine lv_istore (lv' := [(5, .int (iI (0))), (6, .int (iI (0))), (7, .int (iI (j))), (3, .int (iI ((pa + 1) + 1))), (4, .int (iI (1))), (2, .int (iI (1))), (1, .int (iI (i))), (0, .ref m0)]) hx hb dX3_line_246 hl (by decide) rfl (fun ls hl => ?_)
                                  refine lv_iinc (v := iI (j + 1)) (lv' := [(7, .int (iI (j + 1))), (5, .int (iI (0))), (6, .int (iI (0))), (3, .int (iI ((pa + 1) + 1))), (4, .int (iI (1))), (2, .int (iI (1))), (1, .int (iI (i))), (0, .ref m0)]) hx hb dX3_line_248 hl (k := 2) rfl (iI_add _ _) (by decide) rfl (fun ls hl => ?_)
                                  refine lv_goto (tgt := 179) hx hb dX3_line_251 (by decide) ?_
                                  exact ih2 (j + 1) (0) (0) ls (by omega) (by omega) (Or.inr ⟨rfl, by (rcases hg with ⟨e0, e⟩ | ⟨e0, e⟩); (first | omega | (rw [e, zDig_b (by omega)]; rfl)); exact e⟩) (lv_sub hl [0, 1, 2, 3, 4, 5, 6, 7] rfl)
                                · exact absurd cq66 (by omega)
                              · refine lv_aload_n hx hb dX3_line_202 rfl (lv_at hl 7 rfl) ?_
                                refine va_get (D := (dC, dI)) (ci := 3) (v := .ref mi) (C := "RequestCutterModel") (T := TX3) (N := 11) hx hb hts (fun w h => List.mem_cons_of_mem _ (inX3 w h)) hown hK hP 0 rfl rfl 1 (by decide) (hts _ (List.mem_cons_of_mem _ tw_267)) (fun _ h9 => h9) rfl dX3_line_203 ?_
                                refine lv_iload hx hb dX3_line_206 (lv_at hl 0 rfl) ?_
                                refine va_bald hx hb hK hP 1 0 rfl rfl (iI_in (by omega)) dX3_line_208 ?_
                                refine lx_top (x2 := (f) ((j).toNat)) (congrArg (f) (iI_cl (a := j) (by omega))) ?_
                                refine lx_top (x2 := iI (((f) ((j).toNat)).toInt)) (Int32.ofInt_toInt _).symm ?_
                                have g_m := mA hfit n (j) (by omega)
                                refine lv_bipush (v := iI (57)) hx hb dX3_line_209 (by decide) ?_
                                refine lx_icmp_gt (a := ((f) ((j).toNat)).toInt) (b := 57) (tgt := 218) hx hb dX3_line_211 (by decide) (by omega) (by omega) (fun cq67 => ?_) (fun cq67 => ?_)
                                · refine lv_iconst (v := iI (0)) hx hb dX3_line_218 rfl ?_
                                  refine lv_istore (lv' := [(6, .int (iI (0))), (7, .int (iI (j))), (5, .int (iI (v))), (3, .int (iI ((pa + 1) + 1))), (4, .int (iI (1))), (2, .int (iI (1))), (1, .int (iI (i))), (0, .ref m0)]) hx hb dX3_line_219 hl (by decide) rfl (fun ls hl => ?_)
                                  refine lv_iload hx hb dX3_line_221 (lv_at hl 0 rfl) ?_
                                  refine lx_if_eq (a := 0) (tgt := 245) hx hb dX3_line_223 (by decide) (by omega) (fun cq68 => ?_) (fun cq68 => ?_)
                                  · refine lv_iconst (v := iI (0)) hx hb dX3_line_245 rfl ?_
                                    refine lv_istore (lv' := [(5, .int (iI (0))), (6, .int (iI (0))), (7, .int (iI (j))), (3, .int (iI ((pa + 1) + 1))), (4, .int (iI (1))), (2, .int (iI (1))), (1, .int (iI (i))), (0, .ref m0)]) hx hb dX3_line_246 hl (by decide) rfl (fun ls hl => ?_)
                                    refine lv_iinc (v := iI (j + 1)) (lv' := [(7, .int (iI (j + 1))), (5, .int (iI (0))), (6, .int (iI (0))), (3, .int (iI ((pa + 1) + 1))), (4, .int (iI (1))), (2, .int (iI (1))), (1, .int (iI (i))), (0, .ref m0)]) hx hb dX3_line_248 hl (k := 2) rfl (iI_add _ _) (by decide) rfl (fun ls hl => ?_)
                                    refine lv_goto (tgt := 179) hx hb dX3_line_251 (by decide) ?_
                                    exact ih2 (j + 1) (0) (0) ls (by omega) (by omega) (Or.inr ⟨rfl, by (rcases hg with ⟨e0, e⟩ | ⟨e0, e⟩); (first | omega | (rw [e, zDig_b (by omega)]; rfl)); exact e⟩) (lv_sub hl [0, 1, 2, 3, 4, 5, 6, 7] rfl)
                                  · exact absurd cq68 (by omega)
                                · refine lv_iconst (v := iI (1)) hx hb dX3_line_214 rfl ?_
                                  refine lv_goto (tgt := 219) hx hb dX3_line_215 (by decide) ?_
                                  refine lv_istore (lv' := [(6, .int (iI (1))), (7, .int (iI (j))), (5, .int (iI (v))), (3, .int (iI ((pa + 1) + 1))), (4, .int (iI (1))), (2, .int (iI (1))), (1, .int (iI (i))), (0, .ref m0)]) hx hb dX3_line_219 hl (by decide) rfl (fun ls hl => ?_)
                                  refine lv_iload hx hb dX3_line_221 (lv_at hl 0 rfl) ?_
                                  refine lx_if_eq (a := 1) (tgt := 245) hx hb dX3_line_223 (by decide) (by omega) (fun cq69 => ?_) (fun cq69 => ?_)
                                  · exact absurd cq69 (by omega)
                                  · refine lv_bipush (v := iI (10)) hx hb dX3_line_226 (by decide) ?_
                                    refine lv_iload hx hb dX3_line_228 (lv_at hl 2 rfl) ?_
                                    refine lx_imul (a := 10) (b := v) hx hb dX3_line_230 ?_
                                    refine lv_aload_n hx hb dX3_line_231 rfl (lv_at hl 7 rfl) ?_
                                    refine va_get (D := (dC, dI)) (ci := 3) (v := .ref mi) (C := "RequestCutterModel") (T := TX3) (N := 11) hx hb hts (fun w h => List.mem_cons_of_mem _ (inX3 w h)) hown hK hP 0 rfl rfl 1 (by decide) (hts _ (List.mem_cons_of_mem _ tw_267)) (fun _ h9 => h9) rfl dX3_line_232 ?_
                                    refine lv_iload hx hb dX3_line_235 (lv_at hl 1 rfl) ?_
                                    refine va_bald hx hb hK hP 1 0 rfl rfl (iI_in (by omega)) dX3_line_237 ?_
                                    refine lx_top (x2 := (f) ((j).toNat)) (congrArg (f) (iI_cl (a := j) (by omega))) ?_
                                    refine lx_top (x2 := iI (((f) ((j).toNat)).toInt)) (Int32.ofInt_toInt _).symm ?_
                                    have g_m := mA hfit n (j) (by omega)
                                    refine lx_iadd (a := 10 * v) (b := ((f) ((j).toNat)).toInt) hx hb dX3_line_238 ?_
                                    refine lv_bipush (v := iI (48)) hx hb dX3_line_239 (by decide) ?_
                                    refine lx_isub (a := (10 * v) + (((f) ((j).toNat)).toInt)) (b := 48) hx hb dX3_line_241 ?_
                                    refine lv_goto (tgt := 246) hx hb dX3_line_242 (by decide) ?_
                                    refine lv_istore (lv' := [(5, .int (iI (((10 * v) + (((f) ((j).toNat)).toInt)) - 48))), (6, .int (iI (1))), (7, .int (iI (j))), (3, .int (iI ((pa + 1) + 1))), (4, .int (iI (1))), (2, .int (iI (1))), (1, .int (iI (i))), (0, .ref m0)]) hx hb dX3_line_246 hl (by decide) rfl (fun ls hl => ?_)
                                    refine lv_iinc (v := iI (j + 1)) (lv' := [(7, .int (iI (j + 1))), (5, .int (iI (((10 * v) + (((f) ((j).toNat)).toInt)) - 48))), (6, .int (iI (1))), (3, .int (iI ((pa + 1) + 1))), (4, .int (iI (1))), (2, .int (iI (1))), (1, .int (iI (i))), (0, .ref m0)]) hx hb dX3_line_248 hl (k := 2) rfl (iI_add _ _) (by decide) rfl (fun ls hl => ?_)
                                    refine lv_goto (tgt := 179) hx hb dX3_line_251 (by decide) ?_
                                    exact ih2 (j + 1) (((10 * v) + (((f) ((j).toNat)).toInt)) - 48) (1) ls (by omega) (by omega) (Or.inl ⟨rfl, by rcases hg with ⟨e0, e⟩ | ⟨e0, e⟩; rw [e, zDig_s (((10 * v) + (((f) ((j).toNat)).toInt)) - 48) (by omega) (by omega)]; omega⟩) (lv_sub hl [0, 1, 2, 3, 4, 5, 6, 7] rfl)
                      · refine lv_iload_n hx hb dX3_line_161 rfl (lv_at hl 4 rfl) ?_
                        refine lv_iload_n hx hb dX3_line_162 rfl (lv_at hl 1 rfl) ?_
                        refine lv_bipush (v := iI (6)) hx hb dX3_line_163 (by decide) ?_
                        refine lx_iadd (a := (pa + 1) + 1) (b := 6) hx hb dX3_line_165 ?_
                        refine lx_icmp_gt (a := i) (b := ((pa + 1) + 1) + 6) (tgt := 173) hx hb dX3_line_166 (by decide) (by omega) (by omega) (fun cq70 => ?_) (fun cq70 => ?_)
                        · refine lv_iconst (v := iI (0)) hx hb dX3_line_173 rfl ?_
                          refine lv_istore (lv' := [(6, .int (iI (0))), (5, .int (iI (0))), (3, .int (iI ((pa + 1) + 1))), (4, .int (iI (1))), (2, .int (iI (1))), (1, .int (iI (i))), (0, .ref m0)]) hx hb dX3_line_174 hl (by decide) rfl (fun ls hl => ?_)
                          refine lv_iload_n hx hb dX3_line_176 rfl (lv_at hl 2 rfl) ?_
                          refine lv_istore (lv' := [(7, .int (iI ((pa + 1) + 1))), (6, .int (iI (0))), (5, .int (iI (0))), (3, .int (iI ((pa + 1) + 1))), (4, .int (iI (1))), (2, .int (iI (1))), (1, .int (iI (i))), (0, .ref m0)]) hx hb dX3_line_177 hl (by decide) rfl (fun ls hl => ?_)
                          refine (?_ : ∀ (k2 : Nat) (j : Int) (v : Int) (g : Int) (ls : Array Slot), (i - j ≤ k2 ∧ (0 < k2 → j + k2 = i)) → (pa + 1 ≤ j ∧ j ≤ pa + 20) → ((g = 1 ∧ zNum (bA f n) (pa + 1) i = (zDig (bA f n) k2 j v).map (fun x => -x)) ∨ (g = 0 ∧ zNum (bA f n) (pa + 1) i = none)) → lv_has ls 8 [(7, .int (iI (j))), (5, .int (iI (v))), (6, .int (iI (g))), (3, .int (iI ((pa + 1) + 1))), (4, .int (iI (1))), (2, .int (iI (1))), (1, .int (iI (i))), (0, .ref m0)] → W p l e _ s m _ below meth c _ _ _ _ _ (F0 m 179 ls [])) ((i - ((pa + 1) + 1)).toNat) ((pa + 1) + 1) (0) (0) ls (by omega) (by omega) (Or.inr ⟨rfl, zNum_0 (by rw [if_pos (by omega)]; omega)⟩) (lv_sub hl [0, 2, 1, 3, 4, 5, 6, 7] rfl)
                          intro k2
                          induction k2 with
                          | zero =>
                            intro j v g ls hk2 hj hg hl
                            refine lv_iload hx hb dX3_line_179 (lv_at hl 0 rfl) ?_
                            refine lv_iload_n hx hb dX3_line_181 rfl (lv_at hl 6 rfl) ?_
                            refine lx_icmp_ge (a := j) (b := i) (tgt := 254) hx hb dX3_line_182 (by decide) (by omega) (by omega) (fun cq71 => ?_) (fun cq71 => ?_)
                            · refine lv_aload_n hx hb dX3_line_254 rfl (lv_at hl 7 rfl) ?_
                              refine lv_iload_n hx hb dX3_line_255 rfl (lv_at hl 6 rfl) ?_
                              refine lv_iconst (v := iI (2)) hx hb dX3_line_256 rfl ?_
                              refine lx_iadd (a := i) (b := 2) hx hb dX3_line_257 ?_
                              refine va_put (D := (dC, dI)) (ci := 3) (v := .int (iI (i + 2))) (ty := .int) (C := "RequestCutterModel") (T := TX3) (N := 11) hx hb hts (fun w h => List.mem_cons_of_mem _ (inX3 w h)) tyX3 tyX3_ok nmX3 hown hK hP hD hS 0 rfl rfl 10 (by decide) (hts _ (List.mem_cons_of_mem _ tw_276)) (fun _ h9 => h9) rfl (by decide +kernel) rfl rfl (Nat.le_of_ble_eq_true rfl) dX3_line_258 (fun H locs hP hD hS => ?_)
                              have hP : va_P (dC, dI) vwCl [(m0, .inr (3, [.ref mt, .ref mi, .ref mk, .ref mf, .ref ml, .int (iI ((tc : Int))), .int (iI ((n : Int))), .int (iI ((w : Int))), .int (iI ((ks : Int))), .int (iI (ft)), .int (iI (i + 2))])), (mi, .inl (cB, 65536, .inl (f)))] H := hP
                              have hD : va_D A [(m0, .inr (3, [.ref mt, .ref mi, .ref mk, .ref mf, .ref ml, .int (iI ((tc : Int))), .int (iI ((n : Int))), .int (iI ((w : Int))), .int (iI ((ks : Int))), .int (iI (ft)), .int (iI (i + 2))])), (mi, .inl (cB, 65536, .inl (f)))] := hD
                              refine lv_iload hx hb dX3_line_261 (lv_at hl 2 rfl) ?_
                              refine lx_if_ne (a := g) (tgt := 271) hx hb dX3_line_263 (by decide) (by omega) (fun cq72 => ?_) (fun cq72 => ?_)
                              · refine lv_iload hx hb dX3_line_271 (lv_at hl 4 rfl) ?_
                                refine lx_if_eq (a := 1) (tgt := 282) hx hb dX3_line_273 (by decide) (by omega) (fun cq73 => ?_) (fun cq73 => ?_)
                                · exact absurd cq73 (by omega)
                                · refine lv_iload hx hb dX3_line_276 (lv_at hl 1 rfl) ?_
                                  refine lx_ineg (a := v) hx hb dX3_line_278 ?_
                                  refine lv_goto (tgt := 284) hx hb dX3_line_279 (by decide) ?_
                                  have hN : (zNum (bA f n) (pa + 1) i).getD (-1000001) = -(v) := by (rcases hg with ⟨e0, e⟩ | ⟨e0, e⟩); rw [e]; rfl; omega
                                  exact W.iret (v := iI (-(v))) hx hb hr (fun t ht hW => ⟨⟨iI (-(v)), (i + 2), rfl, ⟨by rw [mL_2 hStp (by omega), hN], by rw [mL_2 hStp (by omega)]⟩, by rw [ht]; exact hP, va_K.moved hW.alike hK, hD⟩, hS.F ht⟩) hS.2.2 dX3_line_284
                              · refine lx_ldc (z := -1000001) (v := -1000001) hx hb hown (hts _ (List.mem_cons_of_mem _ tw_336)) (by decide) dX3_line_266 ?_
                                refine lv_goto (tgt := 284) hx hb dX3_line_268 (by decide) ?_
                                have hN : (zNum (bA f n) (pa + 1) i).getD (-1000001) = -1000001 := by (rcases hg with ⟨e0, e⟩ | ⟨e0, e⟩); omega; rw [e]; rfl
                                exact W.iret (v := iI (-1000001)) hx hb hr (fun t ht hW => ⟨⟨iI (-1000001), (i + 2), rfl, ⟨by rw [mL_2 hStp (by omega), hN], by rw [mL_2 hStp (by omega)]⟩, by rw [ht]; exact hP, va_K.moved hW.alike hK, hD⟩, hS.F ht⟩) hS.2.2 dX3_line_284
                            · exact absurd cq71 (by omega)
                          | succ k2 ih2 =>
                            intro j v g ls hk2 hj hg hl
                            refine lv_iload hx hb dX3_line_179 (lv_at hl 0 rfl) ?_
                            refine lv_iload_n hx hb dX3_line_181 rfl (lv_at hl 6 rfl) ?_
                            refine lx_icmp_ge (a := j) (b := i) (tgt := 254) hx hb dX3_line_182 (by decide) (by omega) (by omega) (fun cq74 => ?_) (fun cq74 => ?_)
                            · exact absurd cq74 (by omega)
                            · refine lv_iload hx hb dX3_line_185 (lv_at hl 2 rfl) ?_
                              refine lx_if_eq (a := g) (tgt := 218) hx hb dX3_line_187 (by decide) (by omega) (fun cq75 => ?_) (fun cq75 => ?_)
                              · refine lv_iconst (v := iI (0)) hx hb dX3_line_218 rfl ?_
                                refine lv_istore (lv' := [(6, .int (iI (0))), (7, .int (iI (j))), (5, .int (iI (v))), (3, .int (iI ((pa + 1) + 1))), (4, .int (iI (1))), (2, .int (iI (1))), (1, .int (iI (i))), (0, .ref m0)]) hx hb dX3_line_219 hl (by decide) rfl (fun ls hl => ?_)
                                refine lv_iload hx hb dX3_line_221 (lv_at hl 0 rfl) ?_
                                refine lx_if_eq (a := 0) (tgt := 245) hx hb dX3_line_223 (by decide) (by omega) (fun cq76 => ?_) (fun cq76 => ?_)
                                · refine lv_iconst (v := iI (0)) hx hb dX3_line_245 rfl ?_
                                  refine lv_istore (lv' := [(5, .int (iI (0))), (6, .int (iI (0))), (7, .int (iI (j))), (3, .int (iI ((pa + 1) + 1))), (4, .int (iI (1))), (2, .int (iI (1))), (1, .int (iI (i))), (0, .ref m0)]) hx hb dX3_line_246 hl (by decide) rfl (fun ls hl => ?_)
                                  refine lv_iinc (v := iI (j + 1)) (lv' := [(7, .int (iI (j + 1))), (5, .int (iI (0))), (6, .int (iI (0))), (3, .int (iI ((pa + 1) + 1))), (4, .int (iI (1))), (2, .int (iI (1))), (1, .int (iI (i))), (0, .ref m0)]) hx hb dX3_line_248 hl (k := 2) rfl (iI_add _ _) (by decide) rfl (fun ls hl => ?_)
                                  refine lv_goto (tgt := 179) hx hb dX3_line_251 (by decide) ?_
                                  exact ih2 (j + 1) (0) (0) ls (by omega) (by omega) (Or.inr ⟨rfl, by (rcases hg with ⟨e0, e⟩ | ⟨e0, e⟩); (first | omega | (rw [e, zDig_b (by omega)]; rfl)); exact e⟩) (lv_sub hl [0, 1, 2, 3, 4, 5, 6, 7] rfl)
                                · exact absurd cq76 (by omega)
                              · refine lv_aload_n hx hb dX3_line_190 rfl (lv_at hl 7 rfl) ?_
                                refine va_get (D := (dC, dI)) (ci := 3) (v := .ref mi) (C := "RequestCutterModel") (T := TX3) (N := 11) hx hb hts (fun w h => List.mem_cons_of_mem _ (inX3 w h)) hown hK hP 0 rfl rfl 1 (by decide) (hts _ (List.mem_cons_of_mem _ tw_267)) (fun _ h9 => h9) rfl dX3_line_191 ?_
                                refine lv_iload hx hb dX3_line_194 (lv_at hl 0 rfl) ?_
                                refine va_bald hx hb hK hP 1 0 rfl rfl (iI_in (by omega)) dX3_line_196 ?_
                                refine lx_top (x2 := (f) ((j).toNat)) (congrArg (f) (iI_cl (a := j) (by omega))) ?_
                                refine lx_top (x2 := iI (((f) ((j).toNat)).toInt)) (Int32.ofInt_toInt _).symm ?_
                                have g_m := mA hfit n (j) (by omega)
                                refine lv_bipush (v := iI (48)) hx hb dX3_line_197 (by decide) ?_
                                refine lx_icmp_lt (a := ((f) ((j).toNat)).toInt) (b := 48) (tgt := 218) hx hb dX3_line_199 (by decide) (by omega) (by omega) (fun cq77 => ?_) (fun cq77 => ?_)
                                · refine lv_iconst (v := iI (0)) hx hb dX3_line_218 rfl ?_
                                  refine lv_istore (lv' := [(6, .int (iI (0))), (7, .int (iI (j))), (5, .int (iI (v))), (3, .int (iI ((pa + 1) + 1))), (4, .int (iI (1))), (2, .int (iI (1))), (1, .int (iI (i))), (0, .ref m0)]) hx hb dX3_line_219 hl (by decide) rfl (fun ls hl => ?_)
                                  refine lv_iload hx hb dX3_line_221 (lv_at hl 0 rfl) ?_
                                  refine lx_if_eq (a := 0) (tgt := 245) hx hb dX3_line_223 (by decide) (by omega) (fun cq78 => ?_) (fun cq78 => ?_)
                                  · refine lv_iconst (v := iI (0)) hx hb dX3_line_245 rfl ?_
                                    refine lv_istore (lv' := [(5, .int (iI (0))), (6, .int (iI (0))), (7, .int (iI (j))), (3, .int (iI ((pa + 1) + 1))), (4, .int (iI (1))), (2, .int (iI (1))), (1, .int (iI (i))), (0, .ref m0)]) hx hb dX3_line_246 hl (by decide) rfl (fun ls hl => ?_)
                                    refine lv_iinc (v := iI (j + 1)) (lv' := [(7, .int (iI (j + 1))), (5, .int (iI (0))), (6, .int (iI (0))), (3, .int (iI ((pa + 1) + 1))), (4, .int (iI (1))), (2, .int (iI (1))), (1, .int (iI (i))), (0, .ref m0)]) hx hb dX3_line_248 hl (k := 2) rfl (iI_add _ _) (by decide) rfl (fun ls hl => ?_)
                                    refine lv_goto (tgt := 179) hx hb dX3_line_251 (by decide) ?_
                                    exact ih2 (j + 1) (0) (0) ls (by omega) (by omega) (Or.inr ⟨rfl, by (rcases hg with ⟨e0, e⟩ | ⟨e0, e⟩); (first | omega | (rw [e, zDig_b (by omega)]; rfl)); exact e⟩) (lv_sub hl [0, 1, 2, 3, 4, 5, 6, 7] rfl)
                                  · exact absurd cq78 (by omega)
                                · refine lv_aload_n hx hb dX3_line_202 rfl (lv_at hl 7 rfl) ?_
                                  refine va_get (D := (dC, dI)) (ci := 3) (v := .ref mi) (C := "RequestCutterModel") (T := TX3) (N := 11) hx hb hts (fun w h => List.mem_cons_of_mem _ (inX3 w h)) hown hK hP 0 rfl rfl 1 (by decide) (hts _ (List.mem_cons_of_mem _ tw_267)) (fun _ h9 => h9) rfl dX3_line_203 ?_
                                  refine lv_iload hx hb dX3_line_206 (lv_at hl 0 rfl) ?_
                                  refine va_bald hx hb hK hP 1 0 rfl rfl (iI_in (by omega)) dX3_line_208 ?_
                                  refine lx_top (x2 := (f) ((j).toNat)) (congrArg (f) (iI_cl (a := j) (by omega))) ?_
                                  refine lx_top (x2 := iI (((f) ((j).toNat)).toInt)) (Int32.ofInt_toInt _).symm ?_
                                  have g_m := mA hfit n (j) (by omega)
                                  refine lv_bipush (v := iI (57)) hx hb dX3_line_209 (by decide) ?_
                                  refine lx_icmp_gt (a := ((f) ((j).toNat)).toInt) (b := 57) (tgt := 218) hx hb dX3_line_211 (by decide) (by omega) (by omega) (fun cq79 => ?_) (fun cq79 => ?_)
                                  · refine lv_iconst (v := iI (0)) hx hb dX3_line_218 rfl ?_
                                    refine lv_istore (lv' := [(6, .int (iI (0))), (7, .int (iI (j))), (5, .int (iI (v))), (3, .int (iI ((pa + 1) + 1))), (4, .int (iI (1))), (2, .int (iI (1))), (1, .int (iI (i))), (0, .ref m0)]) hx hb dX3_line_219 hl (by decide) rfl (fun ls hl => ?_)
                                    refine lv_iload hx hb dX3_line_221 (lv_at hl 0 rfl) ?_
                                    refine lx_if_eq (a := 0) (tgt := 245) hx hb dX3_line_223 (by decide) (by omega) (fun cq80 => ?_) (fun cq80 => ?_)
                                    · refine lv_iconst (v := iI (0)) hx hb dX3_line_245 rfl ?_
                                      refine lv_istore (lv' := [(5, .int (iI (0))), (6, .int (iI (0))), (7, .int (iI (j))), (3, .int (iI ((pa + 1) + 1))), (4, .int (iI (1))), (2, .int (iI (1))), (1, .int (iI (i))), (0, .ref m0)]) hx hb dX3_line_246 hl (by decide) rfl (fun ls hl => ?_)
                                      refine lv_iinc (v := iI (j + 1)) (lv' := [(7, .int (iI (j + 1))), (5, .int (iI (0))), (6, .int (iI (0))), (3, .int (iI ((pa + 1) + 1))), (4, .int (iI (1))), (2, .int (iI (1))), (1, .int (iI (i))), (0, .ref m0)]) hx hb dX3_line_248 hl (k := 2) rfl (iI_add _ _) (by decide) rfl (fun ls hl => ?_)
                                      refine lv_goto (tgt := 179) hx hb dX3_line_251 (by decide) ?_
                                      exact ih2 (j + 1) (0) (0) ls (by omega) (by omega) (Or.inr ⟨rfl, by (rcases hg with ⟨e0, e⟩ | ⟨e0, e⟩); (first | omega | (rw [e, zDig_b (by omega)]; rfl)); exact e⟩) (lv_sub hl [0, 1, 2, 3, 4, 5, 6, 7] rfl)
                                    · exact absurd cq80 (by omega)
                                  · refine lv_iconst (v := iI (1)) hx hb dX3_line_214 rfl ?_
                                    refine lv_goto (tgt := 219) hx hb dX3_line_215 (by decide) ?_
                                    refine lv_istore (lv' := [(6, .int (iI (1))), (7, .int (iI (j))), (5, .int (iI (v))), (3, .int (iI ((pa + 1) + 1))), (4, .int (iI (1))), (2, .int (iI (1))), (1, .int (iI (i))), (0, .ref m0)]) hx hb dX3_line_219 hl (by decide) rfl (fun ls hl => ?_)
                                    refine lv_iload hx hb dX3_line_221 (lv_at hl 0 rfl) ?_
                                    refine lx_if_eq (a := 1) (tgt := 245) hx hb dX3_line_223 (by decide) (by omega) (fun cq81 => ?_) (fun cq81 => ?_)
                                    · exact absurd cq81 (by omega)
                                    · refine lv_bipush (v := iI (10)) hx hb dX3_line_226 (by decide) ?_
                                      refine lv_iload hx hb dX3_line_228 (lv_at hl 2 rfl) ?_
                                      refine lx_imul (a := 10) (b := v) hx hb dX3_line_230 ?_
                                      refine lv_aload_n hx hb dX3_line_231 rfl (lv_at hl 7 rfl) ?_
                                      refine va_get (D := (dC, dI)) (ci := 3) (v := .ref mi) (C := "RequestCutterModel") (T := TX3) (N := 11) hx hb hts (fun w h => List.mem_cons_of_mem _ (inX3 w h)) hown hK hP 0 rfl rfl 1 (by decide) (hts _ (List.mem_cons_of_mem _ tw_267)) (fun _ h9 => h9) rfl dX3_line_232 ?_
                                      refine lv_iload hx hb dX3_line_235 (lv_at hl 1 rfl) ?_
                                      refine va_bald hx hb hK hP 1 0 rfl rfl (iI_in (by omega)) dX3_line_237 ?_
                                      refine lx_top (x2 := (f) ((j).toNat)) (congrArg (f) (iI_cl (a := j) (by omega))) ?_
                                      refine lx_top (x2 := iI (((f) ((j).toNat)).toInt)) (Int32.ofInt_toInt _).symm ?_
                                      have g_m := mA hfit n (j) (by omega)
                                      refine lx_iadd (a := 10 * v) (b := ((f) ((j).toNat)).toInt) hx hb dX3_line_238 ?_
                                      refine lv_bipush (v := iI (48)) hx hb dX3_line_239 (by decide) ?_
                                      refine lx_isub (a := (10 * v) + (((f) ((j).toNat)).toInt)) (b := 48) hx hb dX3_line_241 ?_
                                      refine lv_goto (tgt := 246) hx hb dX3_line_242 (by decide) ?_
                                      refine lv_istore (lv' := [(5, .int (iI (((10 * v) + (((f) ((j).toNat)).toInt)) - 48))), (6, .int (iI (1))), (7, .int (iI (j))), (3, .int (iI ((pa + 1) + 1))), (4, .int (iI (1))), (2, .int (iI (1))), (1, .int (iI (i))), (0, .ref m0)]) hx hb dX3_line_246 hl (by decide) rfl (fun ls hl => ?_)
                                      refine lv_iinc (v := iI (j + 1)) (lv' := [(7, .int (iI (j + 1))), (5, .int (iI (((10 * v) + (((f) ((j).toNat)).toInt)) - 48))), (6, .int (iI (1))), (3, .int (iI ((pa + 1) + 1))), (4, .int (iI (1))), (2, .int (iI (1))), (1, .int (iI (i))), (0, .ref m0)]) hx hb dX3_line_248 hl (k := 2) rfl (iI_add _ _) (by decide) rfl (fun ls hl => ?_)
                                      refine lv_goto (tgt := 179) hx hb dX3_line_251 (by decide) ?_
                                      exact ih2 (j + 1) (((10 * v) + (((f) ((j).toNat)).toInt)) - 48) (1) ls (by omega) (by omega) (Or.inl ⟨rfl, by rcases hg with ⟨e0, e⟩ | ⟨e0, e⟩; rw [e, zDig_s (((10 * v) + (((f) ((j).toNat)).toInt)) - 48) (by omega) (by omega)]; omega⟩) (lv_sub hl [0, 1, 2, 3, 4, 5, 6, 7] rfl)
                        · refine lv_iconst (v := iI (1)) hx hb dX3_line_169 rfl ?_
                          refine lv_goto (tgt := 174) hx hb dX3_line_170 (by decide) ?_
                          refine lv_istore (lv' := [(6, .int (iI (1))), (5, .int (iI (0))), (3, .int (iI ((pa + 1) + 1))), (4, .int (iI (1))), (2, .int (iI (1))), (1, .int (iI (i))), (0, .ref m0)]) hx hb dX3_line_174 hl (by decide) rfl (fun ls hl => ?_)
                          refine lv_iload_n hx hb dX3_line_176 rfl (lv_at hl 2 rfl) ?_
                          refine lv_istore (lv' := [(7, .int (iI ((pa + 1) + 1))), (6, .int (iI (1))), (5, .int (iI (0))), (3, .int (iI ((pa + 1) + 1))), (4, .int (iI (1))), (2, .int (iI (1))), (1, .int (iI (i))), (0, .ref m0)]) hx hb dX3_line_177 hl (by decide) rfl (fun ls hl => ?_)
                          refine (?_ : ∀ (k2 : Nat) (j : Int) (v : Int) (g : Int) (ls : Array Slot), (i - j ≤ k2 ∧ (0 < k2 → j + k2 = i)) → (pa + 1 ≤ j ∧ j ≤ pa + 20) → ((g = 1 ∧ zNum (bA f n) (pa + 1) i = (zDig (bA f n) k2 j v).map (fun x => -x)) ∨ (g = 0 ∧ zNum (bA f n) (pa + 1) i = none)) → lv_has ls 8 [(7, .int (iI (j))), (5, .int (iI (v))), (6, .int (iI (g))), (3, .int (iI ((pa + 1) + 1))), (4, .int (iI (1))), (2, .int (iI (1))), (1, .int (iI (i))), (0, .ref m0)] → W p l e _ s m _ below meth c _ _ _ _ _ (F0 m 179 ls [])) ((i - ((pa + 1) + 1)).toNat) ((pa + 1) + 1) (0) (1) ls (by omega) (by omega) (Or.inl ⟨rfl, zNum_m (by omega) (by omega)⟩) (lv_sub hl [0, 2, 1, 3, 4, 5, 6, 7] rfl)
                          intro k2
                          induction k2 with
                          | zero =>
                            intro j v g ls hk2 hj hg hl
                            refine lv_iload hx hb dX3_line_179 (lv_at hl 0 rfl) ?_
                            refine lv_iload_n hx hb dX3_line_181 rfl (lv_at hl 6 rfl) ?_
                            refine lx_icmp_ge (a := j) (b := i) (tgt := 254) hx hb dX3_line_182 (by decide) (by omega) (by omega) (fun cq82 => ?_) (fun cq82 => ?_)
                            · refine lv_aload_n hx hb dX3_line_254 rfl (lv_at hl 7 rfl) ?_
                              refine lv_iload_n hx hb dX3_line_255 rfl (lv_at hl 6 rfl) ?_
                              refine lv_iconst (v := iI (2)) hx hb dX3_line_256 rfl ?_
                              refine lx_iadd (a := i) (b := 2) hx hb dX3_line_257 ?_
                              refine va_put (D := (dC, dI)) (ci := 3) (v := .int (iI (i + 2))) (ty := .int) (C := "RequestCutterModel") (T := TX3) (N := 11) hx hb hts (fun w h => List.mem_cons_of_mem _ (inX3 w h)) tyX3 tyX3_ok nmX3 hown hK hP hD hS 0 rfl rfl 10 (by decide) (hts _ (List.mem_cons_of_mem _ tw_276)) (fun _ h9 => h9) rfl (by decide +kernel) rfl rfl (Nat.le_of_ble_eq_true rfl) dX3_line_258 (fun H locs hP hD hS => ?_)
                              have hP : va_P (dC, dI) vwCl [(m0, .inr (3, [.ref mt, .ref mi, .ref mk, .ref mf, .ref ml, .int (iI ((tc : Int))), .int (iI ((n : Int))), .int (iI ((w : Int))), .int (iI ((ks : Int))), .int (iI (ft)), .int (iI (i + 2))])), (mi, .inl (cB, 65536, .inl (f)))] H := hP
                              have hD : va_D A [(m0, .inr (3, [.ref mt, .ref mi, .ref mk, .ref mf, .ref ml, .int (iI ((tc : Int))), .int (iI ((n : Int))), .int (iI ((w : Int))), .int (iI ((ks : Int))), .int (iI (ft)), .int (iI (i + 2))])), (mi, .inl (cB, 65536, .inl (f)))] := hD
                              refine lv_iload hx hb dX3_line_261 (lv_at hl 2 rfl) ?_
                              refine lx_if_ne (a := g) (tgt := 271) hx hb dX3_line_263 (by decide) (by omega) (fun cq83 => ?_) (fun cq83 => ?_)
                              · refine lv_iload hx hb dX3_line_271 (lv_at hl 4 rfl) ?_
                                refine lx_if_eq (a := 1) (tgt := 282) hx hb dX3_line_273 (by decide) (by omega) (fun cq84 => ?_) (fun cq84 => ?_)
                                · exact absurd cq84 (by omega)
                                · refine lv_iload hx hb dX3_line_276 (lv_at hl 1 rfl) ?_
                                  refine lx_ineg (a := v) hx hb dX3_line_278 ?_
                                  refine lv_goto (tgt := 284) hx hb dX3_line_279 (by decide) ?_
                                  have hN : (zNum (bA f n) (pa + 1) i).getD (-1000001) = -(v) := by (rcases hg with ⟨e0, e⟩ | ⟨e0, e⟩); rw [e]; rfl; omega
                                  exact W.iret (v := iI (-(v))) hx hb hr (fun t ht hW => ⟨⟨iI (-(v)), (i + 2), rfl, ⟨by rw [mL_2 hStp (by omega), hN], by rw [mL_2 hStp (by omega)]⟩, by rw [ht]; exact hP, va_K.moved hW.alike hK, hD⟩, hS.F ht⟩) hS.2.2 dX3_line_284
                              · refine lx_ldc (z := -1000001) (v := -1000001) hx hb hown (hts _ (List.mem_cons_of_mem _ tw_336)) (by decide) dX3_line_266 ?_
                                refine lv_goto (tgt := 284) hx hb dX3_line_268 (by decide) ?_
                                have hN : (zNum (bA f n) (pa + 1) i).getD (-1000001) = -1000001 := by (rcases hg with ⟨e0, e⟩ | ⟨e0, e⟩); omega; rw [e]; rfl
                                exact W.iret (v := iI (-1000001)) hx hb hr (fun t ht hW => ⟨⟨iI (-1000001), (i + 2), rfl, ⟨by rw [mL_2 hStp (by omega), hN], by rw [mL_2 hStp (by omega)]⟩, by rw [ht]; exact hP, va_K.moved hW.alike hK, hD⟩, hS.F ht⟩) hS.2.2 dX3_line_284
                            · exact absurd cq82 (by omega)
                          | succ k2 ih2 =>
                            intro j v g ls hk2 hj hg hl
                            refine lv_iload hx hb dX3_line_179 (lv_at hl 0 rfl) ?_
                            refine lv_iload_n hx hb dX3_line_181 rfl (lv_at hl 6 rfl) ?_
                            refine lx_icmp_ge (a := j) (b := i) (tgt := 254) hx hb dX3_line_182 (by decide) (by omega) (by omega) (fun cq85 => ?_) (fun cq85 => ?_)
                            · exact absurd cq85 (by omega)
                            · refine lv_iload hx hb dX3_line_185 (lv_at hl 2 rfl) ?_
                              refine lx_if_eq (a := g) (tgt := 218) hx hb dX3_line_187 (by decide) (by omega) (fun cq86 => ?_) (fun cq86 => ?_)
                              · refine lv_iconst (v := iI (0)) hx hb dX3_line_218 rfl ?_
                                refine lv_istore (lv' := [(6, .int (iI (0))), (7, .int (iI (j))), (5, .int (iI (v))), (3, .int (iI ((pa + 1) + 1))), (4, .int (iI (1))), (2, .int (iI (1))), (1, .int (iI (i))), (0, .ref m0)]) hx hb dX3_line_219 hl (by decide) rfl (fun ls hl => ?_)
                                refine lv_iload hx hb dX3_line_221 (lv_at hl 0 rfl) ?_
                                refine lx_if_eq (a := 0) (tgt := 245) hx hb dX3_line_223 (by decide) (by omega) (fun cq87 => ?_) (fun cq87 => ?_)
                                · refine lv_iconst (v := iI (0)) hx hb dX3_line_245 rfl ?_
                                  refine lv_istore (lv' := [(5, .int (iI (0))), (6, .int (iI (0))), (7, .int (iI (j))), (3, .int (iI ((pa + 1) + 1))), (4, .int (iI (1))), (2, .int (iI (1))), (1, .int (iI (i))), (0, .ref m0)]) hx hb dX3_line_246 hl (by decide) rfl (fun ls hl => ?_)
                                  refine lv_iinc (v := iI (j + 1)) (lv' := [(7, .int (iI (j + 1))), (5, .int (iI (0))), (6, .int (iI (0))), (3, .int (iI ((pa + 1) + 1))), (4, .int (iI (1))), (2, .int (iI (1))), (1, .int (iI (i))), (0, .ref m0)]) hx hb dX3_line_248 hl (k := 2) rfl (iI_add _ _) (by decide) rfl (fun ls hl => ?_)
                                  refine lv_goto (tgt := 179) hx hb dX3_line_251 (by decide) ?_
                                  exact ih2 (j + 1) (0) (0) ls (by omega) (by omega) (Or.inr ⟨rfl, by (rcases hg with ⟨e0, e⟩ | ⟨e0, e⟩); (first | omega | (rw [e, zDig_b (by omega)]; rfl)); exact e⟩) (lv_sub hl [0, 1, 2, 3, 4, 5, 6, 7] rfl)
                                · exact absurd cq87 (by omega)
                              · refine lv_aload_n hx hb dX3_line_190 rfl (lv_at hl 7 rfl) ?_
                                refine va_get (D := (dC, dI)) (ci := 3) (v := .ref mi) (C := "RequestCutterModel") (T := TX3) (N := 11) hx hb hts (fun w h => List.mem_cons_of_mem _ (inX3 w h)) hown hK hP 0 rfl rfl 1 (by decide) (hts _ (List.mem_cons_of_mem _ tw_267)) (fun _ h9 => h9) rfl dX3_line_191 ?_
                                refine lv_iload hx hb dX3_line_194 (lv_at hl 0 rfl) ?_
                                refine va_bald hx hb hK hP 1 0 rfl rfl (iI_in (by omega)) dX3_line_196 ?_
                                refine lx_top (x2 := (f) ((j).toNat)) (congrArg (f) (iI_cl (a := j) (by omega))) ?_
                                refine lx_top (x2 := iI (((f) ((j).toNat)).toInt)) (Int32.ofInt_toInt _).symm ?_
                                have g_m := mA hfit n (j) (by omega)
                                refine lv_bipush (v := iI (48)) hx hb dX3_line_197 (by decide) ?_
                                refine lx_icmp_lt (a := ((f) ((j).toNat)).toInt) (b := 48) (tgt := 218) hx hb dX3_line_199 (by decide) (by omega) (by omega) (fun cq88 => ?_) (fun cq88 => ?_)
                                · refine lv_iconst (v := iI (0)) hx hb dX3_line_218 rfl ?_
                                  refine lv_istore (lv' := [(6, .int (iI (0))), (7, .int (iI (j))), (5, .int (iI (v))), (3, .int (iI ((pa + 1) + 1))), (4, .int (iI (1))), (2, .int (iI (1))), (1, .int (iI (i))), (0, .ref m0)]) hx hb dX3_line_219 hl (by decide) rfl (fun ls hl => ?_)
                                  refine lv_iload hx hb dX3_line_221 (lv_at hl 0 rfl) ?_
                                  refine lx_if_eq (a := 0) (tgt := 245) hx hb dX3_line_223 (by decide) (by omega) (fun cq89 => ?_) (fun cq89 => ?_)
                                  · refine lv_iconst (v := iI (0)) hx hb dX3_line_245 rfl ?_
                                    refine lv_istore (lv' := [(5, .int (iI (0))), (6, .int (iI (0))), (7, .int (iI (j))), (3, .int (iI ((pa + 1) + 1))), (4, .int (iI (1))), (2, .int (iI (1))), (1, .int (iI (i))), (0, .ref m0)]) hx hb dX3_line_246 hl (by decide) rfl (fun ls hl => ?_)
                                    refine lv_iinc (v := iI (j + 1)) (lv' := [(7, .int (iI (j + 1))), (5, .int (iI (0))), (6, .int (iI (0))), (3, .int (iI ((pa + 1) + 1))), (4, .int (iI (1))), (2, .int (iI (1))), (1, .int (iI (i))), (0, .ref m0)]) hx hb dX3_line_248 hl (k := 2) rfl (iI_add _ _) (by decide) rfl (fun ls hl => ?_)
                                    refine lv_goto (tgt := 179) hx hb dX3_line_251 (by decide) ?_
                                    exact ih2 (j + 1) (0) (0) ls (by omega) (by omega) (Or.inr ⟨rfl, by (rcases hg with ⟨e0, e⟩ | ⟨e0, e⟩); (first | omega | (rw [e, zDig_b (by omega)]; rfl)); exact e⟩) (lv_sub hl [0, 1, 2, 3, 4, 5, 6, 7] rfl)
                                  · exact absurd cq89 (by omega)
                                · refine lv_aload_n hx hb dX3_line_202 rfl (lv_at hl 7 rfl) ?_
                                  refine va_get (D := (dC, dI)) (ci := 3) (v := .ref mi) (C := "RequestCutterModel") (T := TX3) (N := 11) hx hb hts (fun w h => List.mem_cons_of_mem _ (inX3 w h)) hown hK hP 0 rfl rfl 1 (by decide) (hts _ (List.mem_cons_of_mem _ tw_267)) (fun _ h9 => h9) rfl dX3_line_203 ?_
                                  refine lv_iload hx hb dX3_line_206 (lv_at hl 0 rfl) ?_
                                  refine va_bald hx hb hK hP 1 0 rfl rfl (iI_in (by omega)) dX3_line_208 ?_
                                  refine lx_top (x2 := (f) ((j).toNat)) (congrArg (f) (iI_cl (a := j) (by omega))) ?_
                                  refine lx_top (x2 := iI (((f) ((j).toNat)).toInt)) (Int32.ofInt_toInt _).symm ?_
                                  have g_m := mA hfit n (j) (by omega)
                                  refine lv_bipush (v := iI (57)) hx hb dX3_line_209 (by decide) ?_
                                  refine lx_icmp_gt (a := ((f) ((j).toNat)).toInt) (b := 57) (tgt := 218) hx hb dX3_line_211 (by decide) (by omega) (by omega) (fun cq90 => ?_) (fun cq90 => ?_)
                                  · refine lv_iconst (v := iI (0)) hx hb dX3_line_218 rfl ?_
                                    refine lv_istore (lv' := [(6, .int (iI (0))), (7, .int (iI (j))), (5, .int (iI (v))), (3, .int (iI ((pa + 1) + 1))), (4, .int (iI (1))), (2, .int (iI (1))), (1, .int (iI (i))), (0, .ref m0)]) hx hb dX3_line_219 hl (by decide) rfl (fun ls hl => ?_)
                                    refine lv_iload hx hb dX3_line_221 (lv_at hl 0 rfl) ?_
                                    refine lx_if_eq (a := 0) (tgt := 245) hx hb dX3_line_223 (by decide) (by omega) (fun cq91 => ?_) (fun cq91 => ?_)
                                    · refine lv_iconst (v := iI (0)) hx hb dX3_line_245 rfl ?_
                                      refine lv_istore (lv' := [(5, .int (iI (0))), (6, .int (iI (0))), (7, .int (iI (j))), (3, .int (iI ((pa + 1) + 1))), (4, .int (iI (1))), (2, .int (iI (1))), (1, .int (iI (i))), (0, .ref m0)]) hx hb dX3_line_246 hl (by decide) rfl (fun ls hl => ?_)
                                      refine lv_iinc (v := iI (j + 1)) (lv' := [(7, .int (iI (j + 1))), (5, .int (iI (0))), (6, .int (iI (0))), (3, .int (iI ((pa + 1) + 1))), (4, .int (iI (1))), (2, .int (iI (1))), (1, .int (iI (i))), (0, .ref m0)]) hx hb dX3_line_248 hl (k := 2) rfl (iI_add _ _) (by decide) rfl (fun ls hl => ?_)
                                      refine lv_goto (tgt := 179) hx hb dX3_line_251 (by decide) ?_
                                      exact ih2 (j + 1) (0) (0) ls (by omega) (by omega) (Or.inr ⟨rfl, by (rcases hg with ⟨e0, e⟩ | ⟨e0, e⟩); (first | omega | (rw [e, zDig_b (by omega)]; rfl)); exact e⟩) (lv_sub hl [0, 1, 2, 3, 4, 5, 6, 7] rfl)
                                    · exact absurd cq91 (by omega)
                                  · refine lv_iconst (v := iI (1)) hx hb dX3_line_214 rfl ?_
                                    refine lv_goto (tgt := 219) hx hb dX3_line_215 (by decide) ?_
                                    refine lv_istore (lv' := [(6, .int (iI (1))), (7, .int (iI (j))), (5, .int (iI (v))), (3, .int (iI ((pa + 1) + 1))), (4, .int (iI (1))), (2, .int (iI (1))), (1, .int (iI (i))), (0, .ref m0)]) hx hb dX3_line_219 hl (by decide) rfl (fun ls hl => ?_)
                                    refine lv_iload hx hb dX3_line_221 (lv_at hl 0 rfl) ?_
                                    refine lx_if_eq (a := 1) (tgt := 245) hx hb dX3_line_223 (by decide) (by omega) (fun cq92 => ?_) (fun cq92 => ?_)
                                    · exact absurd cq92 (by omega)
                                    · refine lv_bipush (v := iI (10)) hx hb dX3_line_226 (by decide) ?_
                                      refine lv_iload hx hb dX3_line_228 (lv_at hl 2 rfl) ?_
                                      refine lx_imul (a := 10) (b := v) hx hb dX3_line_230 ?_
                                      refine lv_aload_n hx hb dX3_line_231 rfl (lv_at hl 7 rfl) ?_
                                      refine va_get (D := (dC, dI)) (ci := 3) (v := .ref mi) (C := "RequestCutterModel") (T := TX3) (N := 11) hx hb hts (fun w h => List.mem_cons_of_mem _ (inX3 w h)) hown hK hP 0 rfl rfl 1 (by decide) (hts _ (List.mem_cons_of_mem _ tw_267)) (fun _ h9 => h9) rfl dX3_line_232 ?_
                                      refine lv_iload hx hb dX3_line_235 (lv_at hl 1 rfl) ?_
                                      refine va_bald hx hb hK hP 1 0 rfl rfl (iI_in (by omega)) dX3_line_237 ?_
                                      refine lx_top (x2 := (f) ((j).toNat)) (congrArg (f) (iI_cl (a := j) (by omega))) ?_
                                      refine lx_top (x2 := iI (((f) ((j).toNat)).toInt)) (Int32.ofInt_toInt _).symm ?_
                                      have g_m := mA hfit n (j) (by omega)
                                      refine lx_iadd (a := 10 * v) (b := ((f) ((j).toNat)).toInt) hx hb dX3_line_238 ?_
                                      refine lv_bipush (v := iI (48)) hx hb dX3_line_239 (by decide) ?_
                                      refine lx_isub (a := (10 * v) + (((f) ((j).toNat)).toInt)) (b := 48) hx hb dX3_line_241 ?_
                                      refine lv_goto (tgt := 246) hx hb dX3_line_242 (by decide) ?_
                                      refine lv_istore (lv' := [(5, .int (iI (((10 * v) + (((f) ((j).toNat)).toInt)) - 48))), (6, .int (iI (1))), (7, .int (iI (j))), (3, .int (iI ((pa + 1) + 1))), (4, .int (iI (1))), (2, .int (iI (1))), (1, .int (iI (i))), (0, .ref m0)]) hx hb dX3_line_246 hl (by decide) rfl (fun ls hl => ?_)
                                      refine lv_iinc (v := iI (j + 1)) (lv' := [(7, .int (iI (j + 1))), (5, .int (iI (((10 * v) + (((f) ((j).toNat)).toInt)) - 48))), (6, .int (iI (1))), (3, .int (iI ((pa + 1) + 1))), (4, .int (iI (1))), (2, .int (iI (1))), (1, .int (iI (i))), (0, .ref m0)]) hx hb dX3_line_248 hl (k := 2) rfl (iI_add _ _) (by decide) rfl (fun ls hl => ?_)
                                      refine lv_goto (tgt := 179) hx hb dX3_line_251 (by decide) ?_
                                      exact ih2 (j + 1) (((10 * v) + (((f) ((j).toNat)).toInt)) - 48) (1) ls (by omega) (by omega) (Or.inl ⟨rfl, by rcases hg with ⟨e0, e⟩ | ⟨e0, e⟩; rw [e, zDig_s (((10 * v) + (((f) ((j).toNat)).toInt)) - 48) (by omega) (by omega)]; omega⟩) (lv_sub hl [0, 1, 2, 3, 4, 5, 6, 7] rfl)
                · exact absurd cq19 (by omega)
          · refine lv_iinc (v := iI (i + 1)) (lv' := [(1, .int (iI (i + 1))), (0, .ref m0)]) hx hb dX3_line_54 hl (k := 0) rfl (iI_add _ _) (by decide) rfl (fun ls hl => ?_)
            refine lv_goto (tgt := 7) hx hb dX3_line_57 (by decide) ?_
            exact ih (i + 1) ls (by omega) (by omega) (by rw [← hz]; exact (if_neg (by omega)).symm) (lv_sub hl [0, 1] rfl)
end
section
set_option maxHeartbeats 4000000 in
set_option maxRecDepth 100000 in
/-- told() -/
theorem c_X3_told (l : Launch) (dC : Nat → ClassId) (dI : Nat → Nat → Nat) (cB cI : ClassId) (sz : Nat) (m0 mt mi mk mf ml tc n w ks : Nat) (ft pa : Int) (f kf : Nat → Int32) (fa la : Nat → Int) (hn : n ≤ 65536) (hfit : sb_Fit f) (hkf : sb_Fit kf) (hw : w ≤ 1023) (hpa : 0 ≤ pa ∧ pa ≤ n) (hkp : (ks : Int) ≤ pa) : Met l yX3_told wX3_told ({ frames := 1, cells := 0, slots := 0, locals := 27 }) (va_Pc [.ref m0] (vx_B (dC, dI) vwCl [(cB, .byte), (cI, .int)] [(m0, .inr (3, [.ref mt, .ref mi, .ref mk, .ref mf, .ref ml, .int (iI ((tc : Int))), .int (iI ((n : Int))), .int (iI ((w : Int))), .int (iI ((ks : Int))), .int (iI (ft)), .int (iI (pa))])), (mi, .inl (cB, 65536, .inl (f))), (mk, .inl (cB, 65536, .inl (kf))), (mf, .inl (cI, 1025, .inl (fun k => iI (fa k)))), (ml, .inl (cI, 1025, .inl (fun k => iI (la k))))] sz)) (va_Qi (fun (r : Int32) (u : Int × Int × Nat × Nat × (Nat → Int32) × (Nat → Int) × (Nat → Int)) => r = iI (if 0 ≤ (zWord (bA f n) n pa).1 then 1 else 0) ∧ u.1 = (if (zWord (bA f n) n pa).1 = -2 then (zWord (bA f n) n pa).2.1 else 0) ∧ sb_Fit u.2.2.2.2.1 ∧ (0 ≤ (zWord (bA f n) n pa).1 → u.2.1 = (zWord (bA f n) n pa).1 ∧ u.2.2.1 = w + 1 ∧ ∃ x z : Nat, (zWord (bA f n) n pa).2.2 = ((x : Int), (z : Int)) ∧ u.2.2.2.1 = ks + z ∧ u.2.2.2.2.2.1 = updZ fa w (ks : Int) ∧ u.2.2.2.2.2.2 = updZ la w (z : Int) ∧ (∀ j, j < ks → u.2.2.2.2.1 j = kf j) ∧ ∀ j, j < z → u.2.2.2.2.1 (ks + j) = f (x + j))) (fun (u : Int × Int × Nat × Nat × (Nat → Int32) × (Nat → Int) × (Nat → Int)) => vx_E (dC, dI) vwCl [(cB, .byte), (cI, .int)] (va_A [(m0, .inr (3, [.ref mt, .ref mi, .ref mk, .ref mf, .ref ml, .int (iI ((tc : Int))), .int (iI ((n : Int))), .int (iI ((w : Int))), .int (iI ((ks : Int))), .int (iI (ft)), .int (iI (pa))])), (mi, .inl (cB, 65536, .inl (f))), (mk, .inl (cB, 65536, .inl (kf))), (mf, .inl (cI, 1025, .inl (fun k => iI (fa k)))), (ml, .inl (cI, 1025, .inl (fun k => iI (la k))))] sz) [(m0, .inr (3, [.ref mt, .ref mi, .ref mk, .ref mf, .ref ml, .int (iI ((tc : Int))), .int (iI ((n : Int))), .int (iI ((u.2.2.1 : Int))), .int (iI ((u.2.2.2.1 : Int))), .int (iI (u.1)), .int (iI (u.2.1))])), (mi, .inl (cB, 65536, .inl (f))), (mk, .inl (cB, 65536, .inl (u.2.2.2.2.1))), (mf, .inl (cI, 1025, .inl (fun k => iI (u.2.2.2.2.2.1 k)))), (ml, .inl (cI, 1025, .inl (fun k => iI (u.2.2.2.2.2.2 k))))]) (va_A [(m0, .inr (3, [.ref mt, .ref mi, .ref mk, .ref mf, .ref ml, .int (iI ((tc : Int))), .int (iI ((n : Int))), .int (iI ((w : Int))), .int (iI ((ks : Int))), .int (iI (ft)), .int (iI (pa))])), (mi, .inl (cB, 65536, .inl (f))), (mk, .inl (cB, 65536, .inl (kf))), (mf, .inl (cI, 1025, .inl (fun k => iI (fa k)))), (ml, .inl (cI, 1025, .inl (fun k => iI (la k))))] sz)) (0) (0) (va_A [(m0, .inr (3, [.ref mt, .ref mi, .ref mk, .ref mf, .ref ml, .int (iI ((tc : Int))), .int (iI ((n : Int))), .int (iI ((w : Int))), .int (iI ((ks : Int))), .int (iI (ft)), .int (iI (pa))])), (mi, .inl (cB, 65536, .inl (f))), (mk, .inl (cB, 65536, .inl (kf))), (mf, .inl (cI, 1025, .inl (fun k => iI (fa k)))), (ml, .inl (cI, 1025, .inl (fun k => iI (la k))))] sz) := by
  refine Met.ofW (cc := cX3_told) (maxL := 6) (ret := (some .boolean)) (by decide) rfl ?_
  intro p e s m args below meth c s₁ B hml hv
  obtain ⟨rfl, hsz, hP, hK, hD0⟩ := hv
  have hx := B.exec
  have hb := B.bytes
  have hr := B.returns
  have hts := atoms_spec (ws := wX3_told) B.pre
  have hown : s.vm.findClass "RequestCutterModel" = some m.cls := findClass_of_methodNamed B.named
  have hlocks := B.notSynchronized
  subst hsz
  have hD := hD0.self (sz := s.heap.size)
  generalize hAe : va_A [(m0, .inr (3, [.ref mt, .ref mi, .ref mk, .ref mf, .ref ml, .int (iI ((tc : Int))), .int (iI ((n : Int))), .int (iI ((w : Int))), .int (iI ((ks : Int))), .int (iI (ft)), .int (iI (pa))])), (mi, .inl (cB, 65536, .inl (f))), (mk, .inl (cB, 65536, .inl (kf))), (mf, .inl (cI, 1025, .inl (fun k => iI (fa k)))), (ml, .inl (cI, 1025, .inl (fun k => iI (la k))))] s.heap.size = A at hD ⊢
  have hA : ∀ q : Nat, s.heap.size ≤ q → A q := fun q h => by rw [← hAe]; exact Or.inr h
  have hS : va_S A s.heap s.heap [] := va_S.rf
  have hP : va_P (dC, dI) vwCl [(m0, .inr (3, [.ref mt, .ref mi, .ref mk, .ref mf, .ref ml, .int (iI ((tc : Int))), .int (iI ((n : Int))), .int (iI ((w : Int))), .int (iI ((ks : Int))), .int (iI (ft)), .int (iI (pa))])), (mi, .inl (cB, 65536, .inl (f))), (mk, .inl (cB, 65536, .inl (kf))), (mf, .inl (cI, 1025, .inl (fun k => iI (fa k)))), (ml, .inl (cI, 1025, .inl (fun k => iI (la k))))] s.heap := hP
  have hl := lv_entry ([.ref m0]) (n := 6) (Nat.le_of_ble_eq_true rfl)
  rw [lg_entry_eq]
  generalize (lg_sl ([.ref m0]) ++ List.replicate (6 - (lg_sl ([.ref m0])).length) Slot.unset).toArray = ls at hl ⊢
  have hl : lv_has ls 6 [(0, .ref m0)] := hl
  refine lv_aload_n hx hb dX3_told_0 rfl (lv_at hl 0 rfl) ?_
  refine lv_bipush (v := iI (36)) hx hb dX3_told_1 (by decide) ?_
  have g_o := bA_or f n (pa) (by omega)
  refine vx_Vi (As := [.int (iI (36))]) (rest := []) (wr := [(mk, .inl (cB, 65536, .inl (kf))), (mf, .inl (cI, 1025, .inl (fun k => iI (fa k)))), (ml, .inl (cI, 1025, .inl (fun k => iI (la k))))]) (ci := 3) (q0 := 0) [0, 1] [2, 3, 4] ⟨hx, hb, hml, hown, hts⟩ (c_X3_must l dC dI cB cI _ m0 mt mi mk mf ml tc n w ks (ft) (pa) f hn hfit (by omega) (36) (by omega)) (cwV 1 hts (gd_V tw_342 tw_344 tw_15 tw_22 tw_345) rfl rfl rfl (by decide +kernel) ⟨Nat.le_of_ble_eq_true rfl, Nat.le_of_ble_eq_true rfl⟩) hK hP hD hS hA rfl rfl rfl rfl (by decide) rfl rfl rfl rfl hl.1 rfl (Nat.le_of_ble_eq_true rfl) dX3_told_3 ⟨Nat.zero_le _, Nat.zero_le _⟩ (fun r u H locs hw hP hD hS => ?_)
  obtain ⟨p1, rfl⟩ : ∃ z, z = u := ⟨_, rfl⟩
  try dsimp only at hw hP hD
  obtain ⟨hr1, hu1⟩ := hw
  have hP : va_P (dC, dI) vwCl [(m0, .inr (3, [.ref mt, .ref mi, .ref mk, .ref mf, .ref ml, .int (iI ((tc : Int))), .int (iI ((n : Int))), .int (iI ((w : Int))), .int (iI ((ks : Int))), .int (iI (ft)), .int (iI (p1))])), (mi, .inl (cB, 65536, .inl (f))), (mk, .inl (cB, 65536, .inl (kf))), (mf, .inl (cI, 1025, .inl (fun k => iI (fa k)))), (ml, .inl (cI, 1025, .inl (fun k => iI (la k))))] H := hP.sub [3, 4, 0, 1, 2] rfl
  have hD : va_D A [(m0, .inr (3, [.ref mt, .ref mi, .ref mk, .ref mf, .ref ml, .int (iI ((tc : Int))), .int (iI ((n : Int))), .int (iI ((w : Int))), .int (iI ((ks : Int))), .int (iI (ft)), .int (iI (p1))])), (mi, .inl (cB, 65536, .inl (f))), (mk, .inl (cB, 65536, .inl (kf))), (mf, .inl (cI, 1025, .inl (fun k => iI (fa k)))), (ml, .inl (cI, 1025, .inl (fun k => iI (la k))))] := hD.sub [3, 4, 0, 1, 2] (by decide) rfl
  obtain ⟨s2, hs_s2, rfl⟩ := mu_of hr1 hu1
  refine lv_istore_n (lv' := [(1, .int (iI (s2))), (0, .ref m0)]) hx hb dX3_told_6 rfl hl (by decide) rfl (fun ls hl => ?_)
  refine lv_aload_n hx hb dX3_told_7 rfl (lv_at hl 1 rfl) ?_
  refine lv_iload_n hx hb dX3_told_8 rfl (lv_at hl 0 rfl) ?_
  refine lx_if_ge (a := s2) (tgt := 16) hx hb dX3_told_9 (by decide) (by omega) (fun cq3 => ?_) (fun cq3 => ?_)
  · refine lv_iconst (v := iI (0)) hx hb dX3_told_16 rfl ?_
    refine va_put (D := (dC, dI)) (ci := 3) (v := .int (iI (0))) (ty := .int) (C := "RequestCutterModel") (T := TX3) (N := 11) hx hb hts (fun w h => List.mem_cons_of_mem _ (inX3 w h)) tyX3 tyX3_ok nmX3 hown hK hP hD hS 0 rfl rfl 9 (by decide) (hts _ (List.mem_cons_of_mem _ tw_275)) (fun _ h9 => h9) rfl (by decide +kernel) rfl rfl (Nat.le_of_ble_eq_true rfl) dX3_told_17 (fun H locs hP hD hS => ?_)
    have hP : va_P (dC, dI) vwCl [(m0, .inr (3, [.ref mt, .ref mi, .ref mk, .ref mf, .ref ml, .int (iI ((tc : Int))), .int (iI ((n : Int))), .int (iI ((w : Int))), .int (iI ((ks : Int))), .int (iI (0)), .int (iI (p1))])), (mi, .inl (cB, 65536, .inl (f))), (mk, .inl (cB, 65536, .inl (kf))), (mf, .inl (cI, 1025, .inl (fun k => iI (fa k)))), (ml, .inl (cI, 1025, .inl (fun k => iI (la k))))] H := hP
    have hD : va_D A [(m0, .inr (3, [.ref mt, .ref mi, .ref mk, .ref mf, .ref ml, .int (iI ((tc : Int))), .int (iI ((n : Int))), .int (iI ((w : Int))), .int (iI ((ks : Int))), .int (iI (0)), .int (iI (p1))])), (mi, .inl (cB, 65536, .inl (f))), (mk, .inl (cB, 65536, .inl (kf))), (mf, .inl (cI, 1025, .inl (fun k => iI (fa k)))), (ml, .inl (cI, 1025, .inl (fun k => iI (la k))))] := hD
    refine lv_iload_n hx hb dX3_told_20 rfl (lv_at hl 0 rfl) ?_
    refine lv_iconst (v := iI (1)) hx hb dX3_told_21 rfl ?_
    refine lx_icmp_ge (a := s2) (b := 1) (tgt := 27) hx hb dX3_told_22 (by decide) (by omega) (by omega) (fun cq4 => ?_) (fun cq4 => ?_)
    · refine lv_aload_n hx hb dX3_told_27 rfl (lv_at hl 1 rfl) ?_
      refine lv_dup hx hb dX3_told_28 rfl ?_
      refine va_get (D := (dC, dI)) (ci := 3) (v := .int (iI (p1))) (C := "RequestCutterModel") (T := TX3) (N := 11) hx hb hts (fun w h => List.mem_cons_of_mem _ (inX3 w h)) hown hK hP 0 rfl rfl 10 (by decide) (hts _ (List.mem_cons_of_mem _ tw_276)) (fun _ h9 => h9) rfl dX3_told_29 ?_
      refine lv_iconst (v := iI (1)) hx hb dX3_told_32 rfl ?_
      refine lx_isub (a := p1) (b := 1) hx hb dX3_told_33 ?_
      refine lx_top (x2 := iI pa) (congrArg iI (by omega)) ?_
      refine va_put (D := (dC, dI)) (ci := 3) (v := .int (iI (pa))) (ty := .int) (C := "RequestCutterModel") (T := TX3) (N := 11) hx hb hts (fun w h => List.mem_cons_of_mem _ (inX3 w h)) tyX3 tyX3_ok nmX3 hown hK hP hD hS 0 rfl rfl 10 (by decide) (hts _ (List.mem_cons_of_mem _ tw_276)) (fun _ h9 => h9) rfl (by decide +kernel) rfl rfl (Nat.le_of_ble_eq_true rfl) dX3_told_34 (fun H locs hP hD hS => ?_)
      have hP : va_P (dC, dI) vwCl [(m0, .inr (3, [.ref mt, .ref mi, .ref mk, .ref mf, .ref ml, .int (iI ((tc : Int))), .int (iI ((n : Int))), .int (iI ((w : Int))), .int (iI ((ks : Int))), .int (iI (0)), .int (iI (pa))])), (mi, .inl (cB, 65536, .inl (f))), (mk, .inl (cB, 65536, .inl (kf))), (mf, .inl (cI, 1025, .inl (fun k => iI (fa k)))), (ml, .inl (cI, 1025, .inl (fun k => iI (la k))))] H := hP
      have hD : va_D A [(m0, .inr (3, [.ref mt, .ref mi, .ref mk, .ref mf, .ref ml, .int (iI ((tc : Int))), .int (iI ((n : Int))), .int (iI ((w : Int))), .int (iI ((ks : Int))), .int (iI (0)), .int (iI (pa))])), (mi, .inl (cB, 65536, .inl (f))), (mk, .inl (cB, 65536, .inl (kf))), (mf, .inl (cI, 1025, .inl (fun k => iI (fa k)))), (ml, .inl (cI, 1025, .inl (fun k => iI (la k))))] := hD
      refine lv_aload_n hx hb dX3_told_37 rfl (lv_at hl 1 rfl) ?_
      obtain ⟨Lm, hLm⟩ : ∃ Lm, Lm = mL (bA f n) n pa := ⟨_, rfl⟩
      have gM := mL_rg f n pa (by omega)
      rw [← hLm] at gM
      obtain ⟨L, hL⟩ : ∃ L, L = zLine (bA f n) n pa 0 16384 := ⟨_, rfl⟩
      have gR := mL_rel (bA f n) n pa 0 16384 (by omega)
      rw [← hLm, ← hL] at gR
      have gLr := zLine_rg f n pa 0 16384
      rw [← hL] at gLr
      refine vx_Vi (As := []) (rest := []) (wr := [(mk, .inl (cB, 65536, .inl (kf))), (mf, .inl (cI, 1025, .inl (fun k => iI (fa k)))), (ml, .inl (cI, 1025, .inl (fun k => iI (la k))))]) (ci := 3) (q0 := 0) [0, 1] [2, 3, 4] ⟨hx, hb, hml, hown, hts⟩ (c_X3_line l dC dI cB cI _ m0 mt mi mk mf ml tc n w ks (0) pa f hn hfit (by omega)) (cwV 0 hts (gd_V tw_332 tw_334 tw_13 tw_22 tw_335) rfl rfl rfl (by decide +kernel) ⟨Nat.le_of_ble_eq_true rfl, Nat.le_of_ble_eq_true rfl⟩) hK hP hD hS hA rfl rfl rfl rfl (by decide) rfl rfl rfl rfl hl.1 rfl (Nat.le_of_ble_eq_true rfl) dX3_told_38 ⟨Nat.zero_le _, Nat.zero_le _⟩ (fun r u H locs hw hP hD hS => ?_)
      obtain ⟨q1, rfl⟩ : ∃ z, z = u := ⟨_, rfl⟩
      try dsimp only at hw hP hD
      rw [← hLm] at hw
      obtain ⟨rfl, hq1⟩ := hw
      have hP : va_P (dC, dI) vwCl [(m0, .inr (3, [.ref mt, .ref mi, .ref mk, .ref mf, .ref ml, .int (iI ((tc : Int))), .int (iI ((n : Int))), .int (iI ((w : Int))), .int (iI ((ks : Int))), .int (iI (0)), .int (iI (q1))])), (mi, .inl (cB, 65536, .inl (f))), (mk, .inl (cB, 65536, .inl (kf))), (mf, .inl (cI, 1025, .inl (fun k => iI (fa k)))), (ml, .inl (cI, 1025, .inl (fun k => iI (la k))))] H := hP.sub [3, 4, 0, 1, 2] rfl
      have hD : va_D A [(m0, .inr (3, [.ref mt, .ref mi, .ref mk, .ref mf, .ref ml, .int (iI ((tc : Int))), .int (iI ((n : Int))), .int (iI ((w : Int))), .int (iI ((ks : Int))), .int (iI (0)), .int (iI (q1))])), (mi, .inl (cB, 65536, .inl (f))), (mk, .inl (cB, 65536, .inl (kf))), (mf, .inl (cI, 1025, .inl (fun k => iI (fa k)))), (ml, .inl (cI, 1025, .inl (fun k => iI (la k))))] := hD.sub [3, 4, 0, 1, 2] (by decide) rfl
      subst hq1
      have hP : va_P (dC, dI) vwCl [(m0, .inr (3, [.ref mt, .ref mi, .ref mk, .ref mf, .ref ml, .int (iI ((tc : Int))), .int (iI ((n : Int))), .int (iI ((w : Int))), .int (iI ((ks : Int))), .int (iI (0)), .int (iI (Lm.2))])), (mi, .inl (cB, 65536, .inl (f))), (mk, .inl (cB, 65536, .inl (kf))), (mf, .inl (cI, 1025, .inl (fun k => iI (fa k)))), (ml, .inl (cI, 1025, .inl (fun k => iI (la k))))] H := hP
      refine lv_istore_n (lv' := [(2, .int (iI (Lm.1))), (1, .int (iI (s2))), (0, .ref m0)]) hx hb dX3_told_41 rfl hl (by decide) rfl (fun ls hl => ?_)
      refine lv_aload_n hx hb dX3_told_42 rfl (lv_at hl 2 rfl) ?_
      refine lv_iload_n hx hb dX3_told_43 rfl (lv_at hl 0 rfl) ?_
      refine lx_ldc (z := -1000001) (v := -1000001) hx hb hown (hts _ (List.mem_cons_of_mem _ tw_336)) (by decide) dX3_told_44 ?_
      refine lx_icmp_eq (a := Lm.1) (b := -1000001) (tgt := 66) hx hb dX3_told_46 (by decide) (by omega) (by omega) (fun cq5 => ?_) (fun cq5 => ?_)
      · refine lv_iconst (v := iI (3)) hx hb dX3_told_66 rfl ?_
        refine lv_goto (tgt := 71) hx hb dX3_told_67 (by decide) ?_
        refine va_put (D := (dC, dI)) (ci := 3) (v := .int (iI (3))) (ty := .int) (C := "RequestCutterModel") (T := TX3) (N := 11) hx hb hts (fun w h => List.mem_cons_of_mem _ (inX3 w h)) tyX3 tyX3_ok nmX3 hown hK hP hD hS 0 rfl rfl 9 (by decide) (hts _ (List.mem_cons_of_mem _ tw_275)) (fun _ h9 => h9) rfl (by decide +kernel) rfl rfl (Nat.le_of_ble_eq_true rfl) dX3_told_71 (fun H locs hP hD hS => ?_)
        have hP : va_P (dC, dI) vwCl [(m0, .inr (3, [.ref mt, .ref mi, .ref mk, .ref mf, .ref ml, .int (iI ((tc : Int))), .int (iI ((n : Int))), .int (iI ((w : Int))), .int (iI ((ks : Int))), .int (iI (3)), .int (iI (Lm.2))])), (mi, .inl (cB, 65536, .inl (f))), (mk, .inl (cB, 65536, .inl (kf))), (mf, .inl (cI, 1025, .inl (fun k => iI (fa k)))), (ml, .inl (cI, 1025, .inl (fun k => iI (la k))))] H := hP
        have hD : va_D A [(m0, .inr (3, [.ref mt, .ref mi, .ref mk, .ref mf, .ref ml, .int (iI ((tc : Int))), .int (iI ((n : Int))), .int (iI ((w : Int))), .int (iI ((ks : Int))), .int (iI (3)), .int (iI (Lm.2))])), (mi, .inl (cB, 65536, .inl (f))), (mk, .inl (cB, 65536, .inl (kf))), (mf, .inl (cI, 1025, .inl (fun k => iI (fa k)))), (ml, .inl (cI, 1025, .inl (fun k => iI (la k))))] := hD
        refine lv_iload_n hx hb dX3_told_74 rfl (lv_at hl 0 rfl) ?_
        refine lx_if_lt (a := Lm.1) (tgt := 85) hx hb dX3_told_75 (by decide) (by omega) (fun cq6 => ?_) (fun cq6 => ?_)
        · refine lv_iconst (v := iI (0)) hx hb dX3_told_85 rfl ?_
          have hZ := zWord_3 (a := (bA f n)) (n := n) (fr := pa) hL (by omega) (by omega)
          have e1 : L.1 = -2 := by omega
          rw [e1] at hZ
          exact W.zret (v := iI (0)) hx hb hr (by rfl) (fun t ht hW => ⟨⟨iI (0), (3, Lm.2, w, ks, kf, fa, la), rfl, ⟨by rw [hZ]; rfl, by rw [hZ]; rfl, hkf, fun q => by rw [hZ] at q; exact absurd q (by decide)⟩, by rw [ht]; exact hP, va_K.moved hW.alike hK, hD⟩, hS.F ht⟩) hS.2.2 dX3_told_86
        · exact absurd cq6 (by omega)
      · refine lv_iload_n hx hb dX3_told_49 rfl (lv_at hl 0 rfl) ?_
        refine lx_ldc (z := -1000000) (v := -1000000) hx hb hown (hts _ (List.mem_cons_of_mem _ tw_337)) (by decide) dX3_told_50 ?_
        refine lx_icmp_eq (a := Lm.1) (b := -1000000) (tgt := 70) hx hb dX3_told_52 (by decide) (by omega) (by omega) (fun cq7 => ?_) (fun cq7 => ?_)
        · refine lv_iconst (v := iI (0)) hx hb dX3_told_70 rfl ?_
          refine va_put (D := (dC, dI)) (ci := 3) (v := .int (iI (0))) (ty := .int) (C := "RequestCutterModel") (T := TX3) (N := 11) hx hb hts (fun w h => List.mem_cons_of_mem _ (inX3 w h)) tyX3 tyX3_ok nmX3 hown hK hP hD hS 0 rfl rfl 9 (by decide) (hts _ (List.mem_cons_of_mem _ tw_275)) (fun _ h9 => h9) rfl (by decide +kernel) rfl rfl (Nat.le_of_ble_eq_true rfl) dX3_told_71 (fun H locs hP hD hS => ?_)
          have hP : va_P (dC, dI) vwCl [(m0, .inr (3, [.ref mt, .ref mi, .ref mk, .ref mf, .ref ml, .int (iI ((tc : Int))), .int (iI ((n : Int))), .int (iI ((w : Int))), .int (iI ((ks : Int))), .int (iI (0)), .int (iI (Lm.2))])), (mi, .inl (cB, 65536, .inl (f))), (mk, .inl (cB, 65536, .inl (kf))), (mf, .inl (cI, 1025, .inl (fun k => iI (fa k)))), (ml, .inl (cI, 1025, .inl (fun k => iI (la k))))] H := hP
          have hD : va_D A [(m0, .inr (3, [.ref mt, .ref mi, .ref mk, .ref mf, .ref ml, .int (iI ((tc : Int))), .int (iI ((n : Int))), .int (iI ((w : Int))), .int (iI ((ks : Int))), .int (iI (0)), .int (iI (Lm.2))])), (mi, .inl (cB, 65536, .inl (f))), (mk, .inl (cB, 65536, .inl (kf))), (mf, .inl (cI, 1025, .inl (fun k => iI (fa k)))), (ml, .inl (cI, 1025, .inl (fun k => iI (la k))))] := hD
          refine lv_iload_n hx hb dX3_told_74 rfl (lv_at hl 0 rfl) ?_
          refine lx_if_lt (a := Lm.1) (tgt := 85) hx hb dX3_told_75 (by decide) (by omega) (fun cq8 => ?_) (fun cq8 => ?_)
          · refine lv_iconst (v := iI (0)) hx hb dX3_told_85 rfl ?_
            have hZ := zWord_3 (a := (bA f n)) (n := n) (fr := pa) hL (by omega) (by omega)
            have e1 : L.1 = -1 := by omega
            rw [e1] at hZ
            exact W.zret (v := iI (0)) hx hb hr (by rfl) (fun t ht hW => ⟨⟨iI (0), (0, Lm.2, w, ks, kf, fa, la), rfl, ⟨by rw [hZ]; rfl, by rw [hZ]; rfl, hkf, fun q => by rw [hZ] at q; exact absurd q (by decide)⟩, by rw [ht]; exact hP, va_K.moved hW.alike hK, hD⟩, hS.F ht⟩) hS.2.2 dX3_told_86
          · exact absurd cq8 (by omega)
        · refine lv_iload_n hx hb dX3_told_55 rfl (lv_at hl 0 rfl) ?_
          refine lx_if_lt (a := Lm.1) (tgt := 66) hx hb dX3_told_56 (by decide) (by omega) (fun cq9 => ?_) (fun cq9 => ?_)
          · refine lv_iconst (v := iI (3)) hx hb dX3_told_66 rfl ?_
            refine lv_goto (tgt := 71) hx hb dX3_told_67 (by decide) ?_
            refine va_put (D := (dC, dI)) (ci := 3) (v := .int (iI (3))) (ty := .int) (C := "RequestCutterModel") (T := TX3) (N := 11) hx hb hts (fun w h => List.mem_cons_of_mem _ (inX3 w h)) tyX3 tyX3_ok nmX3 hown hK hP hD hS 0 rfl rfl 9 (by decide) (hts _ (List.mem_cons_of_mem _ tw_275)) (fun _ h9 => h9) rfl (by decide +kernel) rfl rfl (Nat.le_of_ble_eq_true rfl) dX3_told_71 (fun H locs hP hD hS => ?_)
            have hP : va_P (dC, dI) vwCl [(m0, .inr (3, [.ref mt, .ref mi, .ref mk, .ref mf, .ref ml, .int (iI ((tc : Int))), .int (iI ((n : Int))), .int (iI ((w : Int))), .int (iI ((ks : Int))), .int (iI (3)), .int (iI (Lm.2))])), (mi, .inl (cB, 65536, .inl (f))), (mk, .inl (cB, 65536, .inl (kf))), (mf, .inl (cI, 1025, .inl (fun k => iI (fa k)))), (ml, .inl (cI, 1025, .inl (fun k => iI (la k))))] H := hP
            have hD : va_D A [(m0, .inr (3, [.ref mt, .ref mi, .ref mk, .ref mf, .ref ml, .int (iI ((tc : Int))), .int (iI ((n : Int))), .int (iI ((w : Int))), .int (iI ((ks : Int))), .int (iI (3)), .int (iI (Lm.2))])), (mi, .inl (cB, 65536, .inl (f))), (mk, .inl (cB, 65536, .inl (kf))), (mf, .inl (cI, 1025, .inl (fun k => iI (fa k)))), (ml, .inl (cI, 1025, .inl (fun k => iI (la k))))] := hD
            refine lv_iload_n hx hb dX3_told_74 rfl (lv_at hl 0 rfl) ?_
            refine lx_if_lt (a := Lm.1) (tgt := 85) hx hb dX3_told_75 (by decide) (by omega) (fun cq10 => ?_) (fun cq10 => ?_)
            · refine lv_iconst (v := iI (0)) hx hb dX3_told_85 rfl ?_
              have hZ := zWord_3 (a := (bA f n)) (n := n) (fr := pa) hL (by omega) (by omega)
              have e1 : L.1 = -2 := by omega
              rw [e1] at hZ
              exact W.zret (v := iI (0)) hx hb hr (by rfl) (fun t ht hW => ⟨⟨iI (0), (3, Lm.2, w, ks, kf, fa, la), rfl, ⟨by rw [hZ]; rfl, by rw [hZ]; rfl, hkf, fun q => by rw [hZ] at q; exact absurd q (by decide)⟩, by rw [ht]; exact hP, va_K.moved hW.alike hK, hD⟩, hS.F ht⟩) hS.2.2 dX3_told_86
            · exact absurd cq10 (by omega)
          · refine lv_iload_n hx hb dX3_told_59 rfl (lv_at hl 0 rfl) ?_
            refine lv_sipush (v := iI (16384)) hx hb dX3_told_60 (by decide) ?_
            refine lx_icmp_le (a := Lm.1) (b := 16384) (tgt := 70) hx hb dX3_told_63 (by decide) (by omega) (by omega) (fun cq11 => ?_) (fun cq11 => ?_)
            · refine lv_iconst (v := iI (0)) hx hb dX3_told_70 rfl ?_
              refine va_put (D := (dC, dI)) (ci := 3) (v := .int (iI (0))) (ty := .int) (C := "RequestCutterModel") (T := TX3) (N := 11) hx hb hts (fun w h => List.mem_cons_of_mem _ (inX3 w h)) tyX3 tyX3_ok nmX3 hown hK hP hD hS 0 rfl rfl 9 (by decide) (hts _ (List.mem_cons_of_mem _ tw_275)) (fun _ h9 => h9) rfl (by decide +kernel) rfl rfl (Nat.le_of_ble_eq_true rfl) dX3_told_71 (fun H locs hP hD hS => ?_)
              have hP : va_P (dC, dI) vwCl [(m0, .inr (3, [.ref mt, .ref mi, .ref mk, .ref mf, .ref ml, .int (iI ((tc : Int))), .int (iI ((n : Int))), .int (iI ((w : Int))), .int (iI ((ks : Int))), .int (iI (0)), .int (iI (Lm.2))])), (mi, .inl (cB, 65536, .inl (f))), (mk, .inl (cB, 65536, .inl (kf))), (mf, .inl (cI, 1025, .inl (fun k => iI (fa k)))), (ml, .inl (cI, 1025, .inl (fun k => iI (la k))))] H := hP
              have hD : va_D A [(m0, .inr (3, [.ref mt, .ref mi, .ref mk, .ref mf, .ref ml, .int (iI ((tc : Int))), .int (iI ((n : Int))), .int (iI ((w : Int))), .int (iI ((ks : Int))), .int (iI (0)), .int (iI (Lm.2))])), (mi, .inl (cB, 65536, .inl (f))), (mk, .inl (cB, 65536, .inl (kf))), (mf, .inl (cI, 1025, .inl (fun k => iI (fa k)))), (ml, .inl (cI, 1025, .inl (fun k => iI (la k))))] := hD
              refine lv_iload_n hx hb dX3_told_74 rfl (lv_at hl 0 rfl) ?_
              refine lx_if_lt (a := Lm.1) (tgt := 85) hx hb dX3_told_75 (by decide) (by omega) (fun cq12 => ?_) (fun cq12 => ?_)
              · exact absurd cq12 (by omega)
              · refine lv_aload_n hx hb dX3_told_78 rfl (lv_at hl 2 rfl) ?_
                refine va_get (D := (dC, dI)) (ci := 3) (v := .int (iI (0))) (C := "RequestCutterModel") (T := TX3) (N := 11) hx hb hts (fun w h => List.mem_cons_of_mem _ (inX3 w h)) hown hK hP 0 rfl rfl 9 (by decide) (hts _ (List.mem_cons_of_mem _ tw_275)) (fun _ h9 => h9) rfl dX3_told_79 ?_
                refine lx_if_le (a := 0) (tgt := 87) hx hb dX3_told_82 (by decide) (by omega) (fun cq13 => ?_) (fun cq13 => ?_)
                · refine lv_aload_n hx hb dX3_told_87 rfl (lv_at hl 2 rfl) ?_
                  refine va_get (D := (dC, dI)) (ci := 3) (v := .int (iI (Lm.2))) (C := "RequestCutterModel") (T := TX3) (N := 11) hx hb hts (fun w h => List.mem_cons_of_mem _ (inX3 w h)) hown hK hP 0 rfl rfl 10 (by decide) (hts _ (List.mem_cons_of_mem _ tw_276)) (fun _ h9 => h9) rfl dX3_told_88 ?_
                  refine lv_istore_n (lv' := [(3, .int (iI (Lm.2))), (2, .int (iI (Lm.1))), (1, .int (iI (s2))), (0, .ref m0)]) hx hb dX3_told_91 rfl hl (by decide) rfl (fun ls hl => ?_)
                  refine lv_aload_n hx hb dX3_told_92 rfl (lv_at hl 3 rfl) ?_
                  refine lv_dup hx hb dX3_told_93 rfl ?_
                  refine va_get (D := (dC, dI)) (ci := 3) (v := .int (iI (Lm.2))) (C := "RequestCutterModel") (T := TX3) (N := 11) hx hb hts (fun w h => List.mem_cons_of_mem _ (inX3 w h)) hown hK hP 0 rfl rfl 10 (by decide) (hts _ (List.mem_cons_of_mem _ tw_276)) (fun _ h9 => h9) rfl dX3_told_94 ?_
                  refine lv_iload_n hx hb dX3_told_97 rfl (lv_at hl 1 rfl) ?_
                  refine lx_iadd (a := Lm.2) (b := Lm.1) hx hb dX3_told_98 ?_
                  refine va_put (D := (dC, dI)) (ci := 3) (v := .int (iI (Lm.2 + Lm.1))) (ty := .int) (C := "RequestCutterModel") (T := TX3) (N := 11) hx hb hts (fun w h => List.mem_cons_of_mem _ (inX3 w h)) tyX3 tyX3_ok nmX3 hown hK hP hD hS 0 rfl rfl 10 (by decide) (hts _ (List.mem_cons_of_mem _ tw_276)) (fun _ h9 => h9) rfl (by decide +kernel) rfl rfl (Nat.le_of_ble_eq_true rfl) dX3_told_99 (fun H locs hP hD hS => ?_)
                  have hP : va_P (dC, dI) vwCl [(m0, .inr (3, [.ref mt, .ref mi, .ref mk, .ref mf, .ref ml, .int (iI ((tc : Int))), .int (iI ((n : Int))), .int (iI ((w : Int))), .int (iI ((ks : Int))), .int (iI (0)), .int (iI (Lm.2 + Lm.1))])), (mi, .inl (cB, 65536, .inl (f))), (mk, .inl (cB, 65536, .inl (kf))), (mf, .inl (cI, 1025, .inl (fun k => iI (fa k)))), (ml, .inl (cI, 1025, .inl (fun k => iI (la k))))] H := hP
                  have hD : va_D A [(m0, .inr (3, [.ref mt, .ref mi, .ref mk, .ref mf, .ref ml, .int (iI ((tc : Int))), .int (iI ((n : Int))), .int (iI ((w : Int))), .int (iI ((ks : Int))), .int (iI (0)), .int (iI (Lm.2 + Lm.1))])), (mi, .inl (cB, 65536, .inl (f))), (mk, .inl (cB, 65536, .inl (kf))), (mf, .inl (cI, 1025, .inl (fun k => iI (fa k)))), (ml, .inl (cI, 1025, .inl (fun k => iI (la k))))] := hD
                  refine lv_aload_n hx hb dX3_told_102 rfl (lv_at hl 3 rfl) ?_
                  refine lv_bipush (v := iI (13)) hx hb dX3_told_103 (by decide) ?_
                  have g_o := bA_or f n (Lm.2 + Lm.1) (by omega)
                  refine vx_Vi (As := [.int (iI (13))]) (rest := []) (wr := [(mk, .inl (cB, 65536, .inl (kf))), (mf, .inl (cI, 1025, .inl (fun k => iI (fa k)))), (ml, .inl (cI, 1025, .inl (fun k => iI (la k))))]) (ci := 3) (q0 := 0) [0, 1] [2, 3, 4] ⟨hx, hb, hml, hown, hts⟩ (c_X3_must l dC dI cB cI _ m0 mt mi mk mf ml tc n w ks (0) (Lm.2 + Lm.1) f hn hfit (by omega) (13) (by omega)) (cwV 1 hts (gd_V tw_342 tw_344 tw_15 tw_22 tw_345) rfl rfl rfl (by decide +kernel) ⟨Nat.le_of_ble_eq_true rfl, Nat.le_of_ble_eq_true rfl⟩) hK hP hD hS hA rfl rfl rfl rfl (by decide) rfl rfl rfl rfl hl.1 rfl (Nat.le_of_ble_eq_true rfl) dX3_told_105 ⟨Nat.zero_le _, Nat.zero_le _⟩ (fun r u H locs hw hP hD hS => ?_)
                  obtain ⟨p14, rfl⟩ : ∃ z, z = u := ⟨_, rfl⟩
                  try dsimp only at hw hP hD
                  obtain ⟨hr1, hu1⟩ := hw
                  have hP : va_P (dC, dI) vwCl [(m0, .inr (3, [.ref mt, .ref mi, .ref mk, .ref mf, .ref ml, .int (iI ((tc : Int))), .int (iI ((n : Int))), .int (iI ((w : Int))), .int (iI ((ks : Int))), .int (iI (0)), .int (iI (p14))])), (mi, .inl (cB, 65536, .inl (f))), (mk, .inl (cB, 65536, .inl (kf))), (mf, .inl (cI, 1025, .inl (fun k => iI (fa k)))), (ml, .inl (cI, 1025, .inl (fun k => iI (la k))))] H := hP.sub [3, 4, 0, 1, 2] rfl
                  have hD : va_D A [(m0, .inr (3, [.ref mt, .ref mi, .ref mk, .ref mf, .ref ml, .int (iI ((tc : Int))), .int (iI ((n : Int))), .int (iI ((w : Int))), .int (iI ((ks : Int))), .int (iI (0)), .int (iI (p14))])), (mi, .inl (cB, 65536, .inl (f))), (mk, .inl (cB, 65536, .inl (kf))), (mf, .inl (cI, 1025, .inl (fun k => iI (fa k)))), (ml, .inl (cI, 1025, .inl (fun k => iI (la k))))] := hD.sub [3, 4, 0, 1, 2] (by decide) rfl
                  obtain ⟨s15, hs_s15, rfl⟩ := mu_of hr1 hu1
                  refine lv_istore (lv' := [(4, .int (iI (s15))), (3, .int (iI (Lm.2))), (2, .int (iI (Lm.1))), (1, .int (iI (s2))), (0, .ref m0)]) hx hb dX3_told_108 hl (by decide) rfl (fun ls hl => ?_)
                  refine lv_iload hx hb dX3_told_110 (lv_at hl 0 rfl) ?_
                  refine lx_if_le (a := s15) (tgt := 124) hx hb dX3_told_112 (by decide) (by omega) (fun cq16 => ?_) (fun cq16 => ?_)
                  · refine lv_iconst (v := iI (0)) hx hb dX3_told_124 rfl ?_
                    refine lv_istore (lv' := [(5, .int (iI (0))), (4, .int (iI (s15))), (3, .int (iI (Lm.2))), (2, .int (iI (Lm.1))), (1, .int (iI (s2))), (0, .ref m0)]) hx hb dX3_told_125 hl (by decide) rfl (fun ls hl => ?_)
                    refine lv_aload_n hx hb dX3_told_127 rfl (lv_at hl 5 rfl) ?_
                    refine lv_iload hx hb dX3_told_128 (lv_at hl 1 rfl) ?_
                    refine lx_if_lt (a := s15) (tgt := 138) hx hb dX3_told_130 (by decide) (by omega) (fun cq17 => ?_) (fun cq17 => ?_)
                    · refine lv_iconst (v := iI (4)) hx hb dX3_told_138 rfl ?_
                      refine lv_goto (tgt := 143) hx hb dX3_told_139 (by decide) ?_
                      refine va_put (D := (dC, dI)) (ci := 3) (v := .int (iI (4))) (ty := .int) (C := "RequestCutterModel") (T := TX3) (N := 11) hx hb hts (fun w h => List.mem_cons_of_mem _ (inX3 w h)) tyX3 tyX3_ok nmX3 hown hK hP hD hS 0 rfl rfl 9 (by decide) (hts _ (List.mem_cons_of_mem _ tw_275)) (fun _ h9 => h9) rfl (by decide +kernel) rfl rfl (Nat.le_of_ble_eq_true rfl) dX3_told_143 (fun H locs hP hD hS => ?_)
                      have hP : va_P (dC, dI) vwCl [(m0, .inr (3, [.ref mt, .ref mi, .ref mk, .ref mf, .ref ml, .int (iI ((tc : Int))), .int (iI ((n : Int))), .int (iI ((w : Int))), .int (iI ((ks : Int))), .int (iI (4)), .int (iI (p14))])), (mi, .inl (cB, 65536, .inl (f))), (mk, .inl (cB, 65536, .inl (kf))), (mf, .inl (cI, 1025, .inl (fun k => iI (fa k)))), (ml, .inl (cI, 1025, .inl (fun k => iI (la k))))] H := hP
                      have hD : va_D A [(m0, .inr (3, [.ref mt, .ref mi, .ref mk, .ref mf, .ref ml, .int (iI ((tc : Int))), .int (iI ((n : Int))), .int (iI ((w : Int))), .int (iI ((ks : Int))), .int (iI (4)), .int (iI (p14))])), (mi, .inl (cB, 65536, .inl (f))), (mk, .inl (cB, 65536, .inl (kf))), (mf, .inl (cI, 1025, .inl (fun k => iI (fa k)))), (ml, .inl (cI, 1025, .inl (fun k => iI (la k))))] := hD
                      refine lv_iload hx hb dX3_told_146 (lv_at hl 0 rfl) ?_
                      refine lv_iconst (v := iI (1)) hx hb dX3_told_148 rfl ?_
                      refine lx_icmp_ge (a := 0) (b := 1) (tgt := 154) hx hb dX3_told_149 (by decide) (by omega) (by omega) (fun cq18 => ?_) (fun cq18 => ?_)
                      · exact absurd cq18 (by omega)
                      · refine lv_iconst (v := iI (0)) hx hb dX3_told_152 rfl ?_
                        have hE : zEnd (bA f n) (Lm.2 + Lm.1) = -2 := by unfold zEnd; repeat (first | rw [if_pos (by omega)] | rw [if_neg (by omega)])
                        have hZ := zWord_4 (a := (bA f n)) (n := n) (fr := pa) hL (by omega) (by omega)
                        rw [show L.1 = Lm.2 by omega, show L.2 = Lm.1 by omega, hE] at hZ
                        exact W.zret (v := iI (0)) hx hb hr (by rfl) (fun t ht hW => ⟨⟨iI (0), (4, p14, w, ks, kf, fa, la), rfl, ⟨by rw [hZ]; rfl, by rw [hZ]; rfl, hkf, fun q => by rw [hZ] at q; exact absurd (show (0 : Int) ≤ -2 from q) (by decide)⟩, by rw [ht]; exact hP, va_K.moved hW.alike hK, hD⟩, hS.F ht⟩) hS.2.2 dX3_told_153
                    · refine lv_iload hx hb dX3_told_133 (lv_at hl 0 rfl) ?_
                      refine lx_if_ge (a := 0) (tgt := 142) hx hb dX3_told_135 (by decide) (by omega) (fun cq19 => ?_) (fun cq19 => ?_)
                      · refine lv_iconst (v := iI (0)) hx hb dX3_told_142 rfl ?_
                        refine va_put (D := (dC, dI)) (ci := 3) (v := .int (iI (0))) (ty := .int) (C := "RequestCutterModel") (T := TX3) (N := 11) hx hb hts (fun w h => List.mem_cons_of_mem _ (inX3 w h)) tyX3 tyX3_ok nmX3 hown hK hP hD hS 0 rfl rfl 9 (by decide) (hts _ (List.mem_cons_of_mem _ tw_275)) (fun _ h9 => h9) rfl (by decide +kernel) rfl rfl (Nat.le_of_ble_eq_true rfl) dX3_told_143 (fun H locs hP hD hS => ?_)
                        have hP : va_P (dC, dI) vwCl [(m0, .inr (3, [.ref mt, .ref mi, .ref mk, .ref mf, .ref ml, .int (iI ((tc : Int))), .int (iI ((n : Int))), .int (iI ((w : Int))), .int (iI ((ks : Int))), .int (iI (0)), .int (iI (p14))])), (mi, .inl (cB, 65536, .inl (f))), (mk, .inl (cB, 65536, .inl (kf))), (mf, .inl (cI, 1025, .inl (fun k => iI (fa k)))), (ml, .inl (cI, 1025, .inl (fun k => iI (la k))))] H := hP
                        have hD : va_D A [(m0, .inr (3, [.ref mt, .ref mi, .ref mk, .ref mf, .ref ml, .int (iI ((tc : Int))), .int (iI ((n : Int))), .int (iI ((w : Int))), .int (iI ((ks : Int))), .int (iI (0)), .int (iI (p14))])), (mi, .inl (cB, 65536, .inl (f))), (mk, .inl (cB, 65536, .inl (kf))), (mf, .inl (cI, 1025, .inl (fun k => iI (fa k)))), (ml, .inl (cI, 1025, .inl (fun k => iI (la k))))] := hD
                        refine lv_iload hx hb dX3_told_146 (lv_at hl 0 rfl) ?_
                        refine lv_iconst (v := iI (1)) hx hb dX3_told_148 rfl ?_
                        refine lx_icmp_ge (a := 0) (b := 1) (tgt := 154) hx hb dX3_told_149 (by decide) (by omega) (by omega) (fun cq20 => ?_) (fun cq20 => ?_)
                        · exact absurd cq20 (by omega)
                        · refine lv_iconst (v := iI (0)) hx hb dX3_told_152 rfl ?_
                          have hE : zEnd (bA f n) (Lm.2 + Lm.1) = -1 := by unfold zEnd; repeat (first | rw [if_pos (by omega)] | rw [if_neg (by omega)])
                          have hZ := zWord_4 (a := (bA f n)) (n := n) (fr := pa) hL (by omega) (by omega)
                          rw [show L.1 = Lm.2 by omega, show L.2 = Lm.1 by omega, hE] at hZ
                          exact W.zret (v := iI (0)) hx hb hr (by rfl) (fun t ht hW => ⟨⟨iI (0), (0, p14, w, ks, kf, fa, la), rfl, ⟨by rw [hZ]; rfl, by rw [hZ]; rfl, hkf, fun q => by rw [hZ] at q; exact absurd (show (0 : Int) ≤ -1 from q) (by decide)⟩, by rw [ht]; exact hP, va_K.moved hW.alike hK, hD⟩, hS.F ht⟩) hS.2.2 dX3_told_153
                      · exact absurd cq19 (by omega)
                  · obtain rfl : p14 = Lm.2 + Lm.1 + 1 := by omega
                    refine lv_aload_n hx hb dX3_told_115 rfl (lv_at hl 4 rfl) ?_
                    refine lv_bipush (v := iI (10)) hx hb dX3_told_116 (by decide) ?_
                    have g_o := bA_or f n (Lm.2 + Lm.1 + 1) (by omega)
                    refine vx_Vi (As := [.int (iI (10))]) (rest := []) (wr := [(mk, .inl (cB, 65536, .inl (kf))), (mf, .inl (cI, 1025, .inl (fun k => iI (fa k)))), (ml, .inl (cI, 1025, .inl (fun k => iI (la k))))]) (ci := 3) (q0 := 0) [0, 1] [2, 3, 4] ⟨hx, hb, hml, hown, hts⟩ (c_X3_must l dC dI cB cI _ m0 mt mi mk mf ml tc n w ks (0) (Lm.2 + Lm.1 + 1) f hn hfit (by omega) (10) (by omega)) (cwV 1 hts (gd_V tw_342 tw_344 tw_15 tw_22 tw_345) rfl rfl rfl (by decide +kernel) ⟨Nat.le_of_ble_eq_true rfl, Nat.le_of_ble_eq_true rfl⟩) hK hP hD hS hA rfl rfl rfl rfl (by decide) rfl rfl rfl rfl hl.1 rfl (Nat.le_of_ble_eq_true rfl) dX3_told_118 ⟨Nat.zero_le _, Nat.zero_le _⟩ (fun r u H locs hw hP hD hS => ?_)
                    obtain ⟨p21, rfl⟩ : ∃ z, z = u := ⟨_, rfl⟩
                    try dsimp only at hw hP hD
                    obtain ⟨hr1, hu1⟩ := hw
                    have hP : va_P (dC, dI) vwCl [(m0, .inr (3, [.ref mt, .ref mi, .ref mk, .ref mf, .ref ml, .int (iI ((tc : Int))), .int (iI ((n : Int))), .int (iI ((w : Int))), .int (iI ((ks : Int))), .int (iI (0)), .int (iI (p21))])), (mi, .inl (cB, 65536, .inl (f))), (mk, .inl (cB, 65536, .inl (kf))), (mf, .inl (cI, 1025, .inl (fun k => iI (fa k)))), (ml, .inl (cI, 1025, .inl (fun k => iI (la k))))] H := hP.sub [3, 4, 0, 1, 2] rfl
                    have hD : va_D A [(m0, .inr (3, [.ref mt, .ref mi, .ref mk, .ref mf, .ref ml, .int (iI ((tc : Int))), .int (iI ((n : Int))), .int (iI ((w : Int))), .int (iI ((ks : Int))), .int (iI (0)), .int (iI (p21))])), (mi, .inl (cB, 65536, .inl (f))), (mk, .inl (cB, 65536, .inl (kf))), (mf, .inl (cI, 1025, .inl (fun k => iI (fa k)))), (ml, .inl (cI, 1025, .inl (fun k => iI (la k))))] := hD.sub [3, 4, 0, 1, 2] (by decide) rfl
                    obtain ⟨s22, hs_s22, rfl⟩ := mu_of hr1 hu1
                    refine lv_goto (tgt := 125) hx hb dX3_told_121 (by decide) ?_
                    refine lv_istore (lv' := [(5, .int (iI (s22))), (4, .int (iI (s15))), (3, .int (iI (Lm.2))), (2, .int (iI (Lm.1))), (1, .int (iI (s2))), (0, .ref m0)]) hx hb dX3_told_125 hl (by decide) rfl (fun ls hl => ?_)
                    refine lv_aload_n hx hb dX3_told_127 rfl (lv_at hl 5 rfl) ?_
                    refine lv_iload hx hb dX3_told_128 (lv_at hl 1 rfl) ?_
                    refine lx_if_lt (a := s15) (tgt := 138) hx hb dX3_told_130 (by decide) (by omega) (fun cq23 => ?_) (fun cq23 => ?_)
                    · exact absurd cq23 (by omega)
                    · refine lv_iload hx hb dX3_told_133 (lv_at hl 0 rfl) ?_
                      refine lx_if_ge (a := s22) (tgt := 142) hx hb dX3_told_135 (by decide) (by omega) (fun cq24 => ?_) (fun cq24 => ?_)
                      · refine lv_iconst (v := iI (0)) hx hb dX3_told_142 rfl ?_
                        refine va_put (D := (dC, dI)) (ci := 3) (v := .int (iI (0))) (ty := .int) (C := "RequestCutterModel") (T := TX3) (N := 11) hx hb hts (fun w h => List.mem_cons_of_mem _ (inX3 w h)) tyX3 tyX3_ok nmX3 hown hK hP hD hS 0 rfl rfl 9 (by decide) (hts _ (List.mem_cons_of_mem _ tw_275)) (fun _ h9 => h9) rfl (by decide +kernel) rfl rfl (Nat.le_of_ble_eq_true rfl) dX3_told_143 (fun H locs hP hD hS => ?_)
                        have hP : va_P (dC, dI) vwCl [(m0, .inr (3, [.ref mt, .ref mi, .ref mk, .ref mf, .ref ml, .int (iI ((tc : Int))), .int (iI ((n : Int))), .int (iI ((w : Int))), .int (iI ((ks : Int))), .int (iI (0)), .int (iI (p21))])), (mi, .inl (cB, 65536, .inl (f))), (mk, .inl (cB, 65536, .inl (kf))), (mf, .inl (cI, 1025, .inl (fun k => iI (fa k)))), (ml, .inl (cI, 1025, .inl (fun k => iI (la k))))] H := hP
                        have hD : va_D A [(m0, .inr (3, [.ref mt, .ref mi, .ref mk, .ref mf, .ref ml, .int (iI ((tc : Int))), .int (iI ((n : Int))), .int (iI ((w : Int))), .int (iI ((ks : Int))), .int (iI (0)), .int (iI (p21))])), (mi, .inl (cB, 65536, .inl (f))), (mk, .inl (cB, 65536, .inl (kf))), (mf, .inl (cI, 1025, .inl (fun k => iI (fa k)))), (ml, .inl (cI, 1025, .inl (fun k => iI (la k))))] := hD
                        refine lv_iload hx hb dX3_told_146 (lv_at hl 0 rfl) ?_
                        refine lv_iconst (v := iI (1)) hx hb dX3_told_148 rfl ?_
                        refine lx_icmp_ge (a := s22) (b := 1) (tgt := 154) hx hb dX3_told_149 (by decide) (by omega) (by omega) (fun cq25 => ?_) (fun cq25 => ?_)
                        · obtain ⟨x, hx1⟩ : ∃ x : Nat, Lm.2 = (x : Int) := ⟨Lm.2.toNat, by omega⟩
                          obtain ⟨z, hz1⟩ : ∃ z : Nat, Lm.1 = (z : Int) := ⟨Lm.1.toNat, by omega⟩
                          have hE : zEnd (bA f n) (Lm.2 + Lm.1) = Lm.2 + Lm.1 + 2 := by unfold zEnd; repeat (first | rw [if_pos (by omega)] | rw [if_neg (by omega)])
                          have gE := zEnd_rg f n (Lm.2 + Lm.1)
                          refine lv_aload_n hx hb dX3_told_154 rfl (lv_at hl 5 rfl) ?_
                          refine lv_iload_n hx hb dX3_told_155 rfl (lv_at hl 2 rfl) ?_
                          refine lx_top (x2 := iI (x : Int)) (congrArg iI (by omega)) ?_
                          refine lv_iload_n hx hb dX3_told_156 rfl (lv_at hl 3 rfl) ?_
                          refine lx_top (x2 := iI (z : Int)) (congrArg iI (by omega)) ?_
                          refine vx_Vv (As := [.int (iI ((x : Int))), .int (iI ((z : Int)))]) (rest := []) (wr := []) (ci := 3) (q0 := 0) [0, 1, 2, 3, 4] [] ⟨hx, hb, hml, hown, hts⟩ (c_X3_word l dC dI cB cI _ m0 mt mi mk mf ml tc n w ks (0) (p21) f kf fa la hn hfit hkf (by omega) x z (by omega) (by omega)) (cwV 2 hts (gd_V tw_346 tw_348 tw_16 tw_22 tw_349) rfl rfl rfl (by decide +kernel) ⟨Nat.le_of_ble_eq_true rfl, Nat.le_of_ble_eq_true rfl⟩) hK hP hD hS hA rfl rfl rfl rfl (by decide) rfl rfl rfl rfl hl.1 rfl (Nat.le_of_ble_eq_true rfl) dX3_told_157 ⟨Nat.zero_le _, Nat.zero_le _⟩ (fun u H locs hw hP hD hS => ?_)
                          obtain ⟨k1, rfl⟩ : ∃ z, z = u := ⟨_, rfl⟩
                          try dsimp only at hw hP hD
                          obtain ⟨hk1, hk2, hk3⟩ := hw
                          have hP : va_P (dC, dI) vwCl [(m0, .inr (3, [.ref mt, .ref mi, .ref mk, .ref mf, .ref ml, .int (iI ((tc : Int))), .int (iI ((n : Int))), .int (iI (((w + 1 : Nat) : Int))), .int (iI (((ks + z : Nat) : Int))), .int (iI (0)), .int (iI (p21))])), (mi, .inl (cB, 65536, .inl (f))), (mk, .inl (cB, 65536, .inl (k1))), (mf, .inl (cI, 1025, .inl (fun k => iI ((updZ fa w (ks : Int)) k)))), (ml, .inl (cI, 1025, .inl (fun k => iI ((updZ la w (z : Int)) k))))] H := hP.sub [0, 1, 2, 3, 4] rfl
                          have hD : va_D A [(m0, .inr (3, [.ref mt, .ref mi, .ref mk, .ref mf, .ref ml, .int (iI ((tc : Int))), .int (iI ((n : Int))), .int (iI (((w + 1 : Nat) : Int))), .int (iI (((ks + z : Nat) : Int))), .int (iI (0)), .int (iI (p21))])), (mi, .inl (cB, 65536, .inl (f))), (mk, .inl (cB, 65536, .inl (k1))), (mf, .inl (cI, 1025, .inl (fun k => iI ((updZ fa w (ks : Int)) k)))), (ml, .inl (cI, 1025, .inl (fun k => iI ((updZ la w (z : Int)) k))))] := hD.sub [0, 1, 2, 3, 4] (by decide) rfl
                          refine lv_iconst (v := iI (1)) hx hb dX3_told_160 rfl ?_
                          have hZ := zWord_4 (a := (bA f n)) (n := n) (fr := pa) hL (by omega) (by omega)
                          have eL : L = (Lm.2, Lm.1) := Prod.ext (by show L.1 = Lm.2; omega) (by show L.2 = Lm.1; omega)
                          rw [eL] at hZ
                          have hZ : (zWord (bA f n) n pa) = (Lm.2 + Lm.1 + 2, 0, (Lm.2, Lm.1)) := by rw [hZ]; show (zEnd (bA f n) (Lm.2 + Lm.1), (if zEnd (bA f n) (Lm.2 + Lm.1) = -2 then (4 : Int) else 0), (Lm.2, Lm.1)) = _; rw [hE, if_neg (by omega)]
                          exact W.zret (v := iI (1)) hx hb hr (by rfl) (fun t ht hW => ⟨⟨iI (1), (0, p21, w + 1, ks + z, k1, updZ fa w (ks : Int), updZ la w (z : Int)), rfl, ⟨by rw [hZ]; exact congrArg iI (if_pos (by show 0 ≤ Lm.2 + Lm.1 + 2; omega)).symm, by rw [hZ]; exact (if_neg (by show ¬ Lm.2 + Lm.1 + 2 = -2; omega)).symm, hk1, fun _ => ⟨by rw [hZ]; show p21 = Lm.2 + Lm.1 + 2; omega, rfl, x, z, by rw [hZ, hx1, hz1], rfl, rfl, rfl, hk2, hk3⟩⟩, by rw [ht]; exact hP, va_K.moved hW.alike hK, hD⟩, hS.F ht⟩) hS.2.2 dX3_told_161
                        · refine lv_iconst (v := iI (0)) hx hb dX3_told_152 rfl ?_
                          have hE : zEnd (bA f n) (Lm.2 + Lm.1) = -1 := by unfold zEnd; repeat (first | rw [if_pos (by omega)] | rw [if_neg (by omega)])
                          have hZ := zWord_4 (a := (bA f n)) (n := n) (fr := pa) hL (by omega) (by omega)
                          rw [show L.1 = Lm.2 by omega, show L.2 = Lm.1 by omega, hE] at hZ
                          exact W.zret (v := iI (0)) hx hb hr (by rfl) (fun t ht hW => ⟨⟨iI (0), (0, p21, w, ks, kf, fa, la), rfl, ⟨by rw [hZ]; rfl, by rw [hZ]; rfl, hkf, fun q => by rw [hZ] at q; exact absurd (show (0 : Int) ≤ -1 from q) (by decide)⟩, by rw [ht]; exact hP, va_K.moved hW.alike hK, hD⟩, hS.F ht⟩) hS.2.2 dX3_told_153
                      · refine lv_iconst (v := iI (4)) hx hb dX3_told_138 rfl ?_
                        refine lv_goto (tgt := 143) hx hb dX3_told_139 (by decide) ?_
                        refine va_put (D := (dC, dI)) (ci := 3) (v := .int (iI (4))) (ty := .int) (C := "RequestCutterModel") (T := TX3) (N := 11) hx hb hts (fun w h => List.mem_cons_of_mem _ (inX3 w h)) tyX3 tyX3_ok nmX3 hown hK hP hD hS 0 rfl rfl 9 (by decide) (hts _ (List.mem_cons_of_mem _ tw_275)) (fun _ h9 => h9) rfl (by decide +kernel) rfl rfl (Nat.le_of_ble_eq_true rfl) dX3_told_143 (fun H locs hP hD hS => ?_)
                        have hP : va_P (dC, dI) vwCl [(m0, .inr (3, [.ref mt, .ref mi, .ref mk, .ref mf, .ref ml, .int (iI ((tc : Int))), .int (iI ((n : Int))), .int (iI ((w : Int))), .int (iI ((ks : Int))), .int (iI (4)), .int (iI (p21))])), (mi, .inl (cB, 65536, .inl (f))), (mk, .inl (cB, 65536, .inl (kf))), (mf, .inl (cI, 1025, .inl (fun k => iI (fa k)))), (ml, .inl (cI, 1025, .inl (fun k => iI (la k))))] H := hP
                        have hD : va_D A [(m0, .inr (3, [.ref mt, .ref mi, .ref mk, .ref mf, .ref ml, .int (iI ((tc : Int))), .int (iI ((n : Int))), .int (iI ((w : Int))), .int (iI ((ks : Int))), .int (iI (4)), .int (iI (p21))])), (mi, .inl (cB, 65536, .inl (f))), (mk, .inl (cB, 65536, .inl (kf))), (mf, .inl (cI, 1025, .inl (fun k => iI (fa k)))), (ml, .inl (cI, 1025, .inl (fun k => iI (la k))))] := hD
                        refine lv_iload hx hb dX3_told_146 (lv_at hl 0 rfl) ?_
                        refine lv_iconst (v := iI (1)) hx hb dX3_told_148 rfl ?_
                        refine lx_icmp_ge (a := s22) (b := 1) (tgt := 154) hx hb dX3_told_149 (by decide) (by omega) (by omega) (fun cq26 => ?_) (fun cq26 => ?_)
                        · exact absurd cq26 (by omega)
                        · refine lv_iconst (v := iI (0)) hx hb dX3_told_152 rfl ?_
                          have hE : zEnd (bA f n) (Lm.2 + Lm.1) = -2 := by unfold zEnd; repeat (first | rw [if_pos (by omega)] | rw [if_neg (by omega)])
                          have hZ := zWord_4 (a := (bA f n)) (n := n) (fr := pa) hL (by omega) (by omega)
                          rw [show L.1 = Lm.2 by omega, show L.2 = Lm.1 by omega, hE] at hZ
                          exact W.zret (v := iI (0)) hx hb hr (by rfl) (fun t ht hW => ⟨⟨iI (0), (4, p21, w, ks, kf, fa, la), rfl, ⟨by rw [hZ]; rfl, by rw [hZ]; rfl, hkf, fun q => by rw [hZ] at q; exact absurd (show (0 : Int) ≤ -2 from q) (by decide)⟩, by rw [ht]; exact hP, va_K.moved hW.alike hK, hD⟩, hS.F ht⟩) hS.2.2 dX3_told_153
                · exact absurd cq13 (by omega)
            · refine lv_iconst (v := iI (3)) hx hb dX3_told_66 rfl ?_
              refine lv_goto (tgt := 71) hx hb dX3_told_67 (by decide) ?_
              refine va_put (D := (dC, dI)) (ci := 3) (v := .int (iI (3))) (ty := .int) (C := "RequestCutterModel") (T := TX3) (N := 11) hx hb hts (fun w h => List.mem_cons_of_mem _ (inX3 w h)) tyX3 tyX3_ok nmX3 hown hK hP hD hS 0 rfl rfl 9 (by decide) (hts _ (List.mem_cons_of_mem _ tw_275)) (fun _ h9 => h9) rfl (by decide +kernel) rfl rfl (Nat.le_of_ble_eq_true rfl) dX3_told_71 (fun H locs hP hD hS => ?_)
              have hP : va_P (dC, dI) vwCl [(m0, .inr (3, [.ref mt, .ref mi, .ref mk, .ref mf, .ref ml, .int (iI ((tc : Int))), .int (iI ((n : Int))), .int (iI ((w : Int))), .int (iI ((ks : Int))), .int (iI (3)), .int (iI (Lm.2))])), (mi, .inl (cB, 65536, .inl (f))), (mk, .inl (cB, 65536, .inl (kf))), (mf, .inl (cI, 1025, .inl (fun k => iI (fa k)))), (ml, .inl (cI, 1025, .inl (fun k => iI (la k))))] H := hP
              have hD : va_D A [(m0, .inr (3, [.ref mt, .ref mi, .ref mk, .ref mf, .ref ml, .int (iI ((tc : Int))), .int (iI ((n : Int))), .int (iI ((w : Int))), .int (iI ((ks : Int))), .int (iI (3)), .int (iI (Lm.2))])), (mi, .inl (cB, 65536, .inl (f))), (mk, .inl (cB, 65536, .inl (kf))), (mf, .inl (cI, 1025, .inl (fun k => iI (fa k)))), (ml, .inl (cI, 1025, .inl (fun k => iI (la k))))] := hD
              refine lv_iload_n hx hb dX3_told_74 rfl (lv_at hl 0 rfl) ?_
              refine lx_if_lt (a := Lm.1) (tgt := 85) hx hb dX3_told_75 (by decide) (by omega) (fun cq27 => ?_) (fun cq27 => ?_)
              · exact absurd cq27 (by omega)
              · refine lv_aload_n hx hb dX3_told_78 rfl (lv_at hl 2 rfl) ?_
                refine va_get (D := (dC, dI)) (ci := 3) (v := .int (iI (3))) (C := "RequestCutterModel") (T := TX3) (N := 11) hx hb hts (fun w h => List.mem_cons_of_mem _ (inX3 w h)) hown hK hP 0 rfl rfl 9 (by decide) (hts _ (List.mem_cons_of_mem _ tw_275)) (fun _ h9 => h9) rfl dX3_told_79 ?_
                refine lx_if_le (a := 3) (tgt := 87) hx hb dX3_told_82 (by decide) (by omega) (fun cq28 => ?_) (fun cq28 => ?_)
                · exact absurd cq28 (by omega)
                · refine lv_iconst (v := iI (0)) hx hb dX3_told_85 rfl ?_
                  have hZ := zWord_3 (a := (bA f n)) (n := n) (fr := pa) hL (by omega) (by omega)
                  have e1 : L.1 = -2 := by omega
                  rw [e1] at hZ
                  exact W.zret (v := iI (0)) hx hb hr (by rfl) (fun t ht hW => ⟨⟨iI (0), (3, Lm.2, w, ks, kf, fa, la), rfl, ⟨by rw [hZ]; rfl, by rw [hZ]; rfl, hkf, fun q => by rw [hZ] at q; exact absurd q (by decide)⟩, by rw [ht]; exact hP, va_K.moved hW.alike hK, hD⟩, hS.F ht⟩) hS.2.2 dX3_told_86
    · refine lv_iconst (v := iI (0)) hx hb dX3_told_25 rfl ?_
      have hZ := zWord_1 (a := (bA f n)) (n := n) (fr := pa) (by omega)
      exact W.zret (v := iI (0)) hx hb hr (by rfl) (fun t ht hW => ⟨⟨iI (0), (0, p1, w, ks, kf, fa, la), rfl, ⟨by rw [hZ]; rfl, by rw [hZ]; rfl, hkf, fun q => by rw [hZ] at q; exact absurd q (by decide)⟩, by rw [ht]; exact hP, va_K.moved hW.alike hK, hD⟩, hS.F ht⟩) hS.2.2 dX3_told_26
  · refine lv_iconst (v := iI (2)) hx hb dX3_told_12 rfl ?_
    refine lv_goto (tgt := 17) hx hb dX3_told_13 (by decide) ?_
    refine va_put (D := (dC, dI)) (ci := 3) (v := .int (iI (2))) (ty := .int) (C := "RequestCutterModel") (T := TX3) (N := 11) hx hb hts (fun w h => List.mem_cons_of_mem _ (inX3 w h)) tyX3 tyX3_ok nmX3 hown hK hP hD hS 0 rfl rfl 9 (by decide) (hts _ (List.mem_cons_of_mem _ tw_275)) (fun _ h9 => h9) rfl (by decide +kernel) rfl rfl (Nat.le_of_ble_eq_true rfl) dX3_told_17 (fun H locs hP hD hS => ?_)
    have hP : va_P (dC, dI) vwCl [(m0, .inr (3, [.ref mt, .ref mi, .ref mk, .ref mf, .ref ml, .int (iI ((tc : Int))), .int (iI ((n : Int))), .int (iI ((w : Int))), .int (iI ((ks : Int))), .int (iI (2)), .int (iI (p1))])), (mi, .inl (cB, 65536, .inl (f))), (mk, .inl (cB, 65536, .inl (kf))), (mf, .inl (cI, 1025, .inl (fun k => iI (fa k)))), (ml, .inl (cI, 1025, .inl (fun k => iI (la k))))] H := hP
    have hD : va_D A [(m0, .inr (3, [.ref mt, .ref mi, .ref mk, .ref mf, .ref ml, .int (iI ((tc : Int))), .int (iI ((n : Int))), .int (iI ((w : Int))), .int (iI ((ks : Int))), .int (iI (2)), .int (iI (p1))])), (mi, .inl (cB, 65536, .inl (f))), (mk, .inl (cB, 65536, .inl (kf))), (mf, .inl (cI, 1025, .inl (fun k => iI (fa k)))), (ml, .inl (cI, 1025, .inl (fun k => iI (la k))))] := hD
    refine lv_iload_n hx hb dX3_told_20 rfl (lv_at hl 0 rfl) ?_
    refine lv_iconst (v := iI (1)) hx hb dX3_told_21 rfl ?_
    refine lx_icmp_ge (a := s2) (b := 1) (tgt := 27) hx hb dX3_told_22 (by decide) (by omega) (by omega) (fun cq29 => ?_) (fun cq29 => ?_)
    · exact absurd cq29 (by omega)
    · refine lv_iconst (v := iI (0)) hx hb dX3_told_25 rfl ?_
      have hZ := zWord_2 (a := (bA f n)) (n := n) (fr := pa) (by omega) (by omega)
      exact W.zret (v := iI (0)) hx hb hr (by rfl) (fun t ht hW => ⟨⟨iI (0), (2, p1, w, ks, kf, fa, la), rfl, ⟨by rw [hZ]; rfl, by rw [hZ]; rfl, hkf, fun q => by rw [hZ] at q; exact absurd q (by decide)⟩, by rw [ht]; exact hP, va_K.moved hW.alike hK, hD⟩, hS.F ht⟩) hS.2.2 dX3_told_26
end
