def TX0 : u_T := fun k => match k with
  | 0 => ("RequestCutter$ByteRow", "limit", "I", true)
  | 1 => ("RequestCutter$ByteRow", "bytes", "[B", false)
  | _ => ("RequestCutter$ByteRow", "count", "I", false)
def tyX0 : Nat → FieldType := fun k => match k with
  | 0 => .int
  | 1 => .array .byte
  | _ => .int
theorem nmX0 : ∀ a, a < 3 → ∀ b, b < 3 → a ≠ b → (TX0 a).2.1 ≠ (TX0 b).2.1 := by decide +kernel
theorem tyX0_ok : ∀ k, k < 3 → parseFieldDescriptor (TX0 k).2.2.1 = some (tyX0 k) := by decide +kernel
def TX1 : u_T := fun k => match k with
  | 0 => ("RequestCutter$WordRow", "bytes", "LRequestCutter$ByteRow;", true)
  | 1 => ("RequestCutter$WordRow", "starts", "[I", false)
  | 2 => ("RequestCutter$WordRow", "sizes", "[I", false)
  | _ => ("RequestCutter$WordRow", "count", "I", false)
def tyX1 : Nat → FieldType := fun k => match k with
  | 0 => .object "RequestCutter$ByteRow"
  | 1 => .array .int
  | 2 => .array .int
  | _ => .int
theorem nmX1 : ∀ a, a < 4 → ∀ b, b < 4 → a ≠ b → (TX1 a).2.1 ≠ (TX1 b).2.1 := by decide +kernel
theorem tyX1_ok : ∀ k, k < 4 → parseFieldDescriptor (TX1 k).2.2.1 = some (tyX1 k) := by decide +kernel
def TX2 : u_T := fun k => match k with
  | 0 => ("RequestCutter", "tape", "LRequestCutter$ByteRow;", true)
  | 1 => ("RequestCutter", "input", "LRequestCutter$ByteRow;", true)
  | 2 => ("RequestCutter", "words", "LRequestCutter$WordRow;", true)
  | 3 => ("RequestCutter", "latestFault", "I", false)
  | _ => ("RequestCutter", "lineNumber", "I", false)
def tyX2 : Nat → FieldType := fun k => match k with
  | 0 => .object "RequestCutter$ByteRow"
  | 1 => .object "RequestCutter$ByteRow"
  | 2 => .object "RequestCutter$WordRow"
  | 3 => .int
  | _ => .int
theorem nmX2 : ∀ a, a < 5 → ∀ b, b < 5 → a ≠ b → (TX2 a).2.1 ≠ (TX2 b).2.1 := by decide +kernel
theorem tyX2_ok : ∀ k, k < 5 → parseFieldDescriptor (TX2 k).2.2.1 = some (tyX2 k) := by decide +kernel
def TX3 : u_T := fun k => match k with
  | 0 => ("RequestCutterModel", "tape", "[B", true)
  | 1 => ("RequestCutterModel", "input", "[B", true)
  | 2 => ("RequestCutterModel", "kept", "[B", true)
  | 3 => ("RequestCutterModel", "from", "[I", true)
  | 4 => ("RequestCutterModel", "long1", "[I", true)
  | 5 => ("RequestCutterModel", "taped", "I", false)
  | 6 => ("RequestCutterModel", "waits", "I", false)
  | 7 => ("RequestCutterModel", "words", "I", false)
  | 8 => ("RequestCutterModel", "keptSize", "I", false)
  | 9 => ("RequestCutterModel", "fault", "I", false)
  | _ => ("RequestCutterModel", "at", "I", false)
def tyX3 : Nat → FieldType := fun k => match k with
  | 0 => .array .byte
  | 1 => .array .byte
  | 2 => .array .byte
  | 3 => .array .int
  | 4 => .array .int
  | 5 => .int
  | 6 => .int
  | 7 => .int
  | 8 => .int
  | 9 => .int
  | _ => .int
theorem nmX3 : ∀ a, a < 11 → ∀ b, b < 11 → a ≠ b → (TX3 a).2.1 ≠ (TX3 b).2.1 := by decide +kernel
theorem tyX3_ok : ∀ k, k < 11 → parseFieldDescriptor (TX3 k).2.2.1 = some (tyX3 k) := by decide +kernel
abbrev cX2_init : ByteArray := prog_1_method_1_code
def yX2_init : MethodName := ⟨"RequestCutter", "<init>", "()V"⟩
abbrev cX0_init : ByteArray := prog_2_method_1_code
def yX0_init : MethodName := ⟨"RequestCutter$ByteRow", "<init>", "(I)V"⟩
abbrev cX1_init : ByteArray := prog_3_method_1_code
def yX1_init : MethodName := ⟨"RequestCutter$WordRow", "<init>", "()V"⟩
abbrev cX2_feed : ByteArray := prog_1_method_2_code
def yX2_feed : MethodName := ⟨"RequestCutter", "feed", "(IIIII)Z"⟩
abbrev cX0_makeRoom : ByteArray := prog_2_method_5_code
def yX0_makeRoom : MethodName := ⟨"RequestCutter$ByteRow", "makeRoom", "(I)Z"⟩
abbrev cJ7_copyB : ByteArray := prog_9_method_121_code
def yJ7_copyB : MethodName := ⟨"java/util/Arrays", "copyOf", "([BI)[B"⟩
abbrev cX0_addNumber : ByteArray := prog_2_method_6_code
def yX0_addNumber : MethodName := ⟨"RequestCutter$ByteRow", "addNumber", "(I)V"⟩
abbrev cX2_end : ByteArray := prog_1_method_3_code
def yX2_end : MethodName := ⟨"RequestCutter", "end", "(I)Z"⟩
abbrev cX0_keepFirst : ByteArray := prog_2_method_8_code
def yX0_keepFirst : MethodName := ⟨"RequestCutter$ByteRow", "keepFirst", "(I)Z"⟩
abbrev cX2_arrive : ByteArray := prog_1_method_4_code
def yX2_arrive : MethodName := ⟨"RequestCutter", "arrive", "()I"⟩
abbrev cX0_count : ByteArray := prog_2_method_2_code
def yX0_count : MethodName := ⟨"RequestCutter$ByteRow", "count", "()I"⟩
abbrev cX0_addFirstOf : ByteArray := prog_2_method_7_code
def yX0_addFirstOf : MethodName := ⟨"RequestCutter$ByteRow", "addFirstOf", "(LRequestCutter$ByteRow;I)Z"⟩
abbrev cX0_clear : ByteArray := prog_2_method_4_code
def yX0_clear : MethodName := ⟨"RequestCutter$ByteRow", "clear", "()V"⟩
abbrev cX2_cut : ByteArray := prog_1_method_5_code
def yX2_cut : MethodName := ⟨"RequestCutter", "cut", "()I"⟩
abbrev cX1_clear : ByteArray := prog_3_method_3_code
def yX1_clear : MethodName := ⟨"RequestCutter$WordRow", "clear", "()V"⟩
abbrev cX0_at : ByteArray := prog_2_method_3_code
def yX0_at : MethodName := ⟨"RequestCutter$ByteRow", "at", "(I)I"⟩
abbrev cX2_scanCounted : ByteArray := prog_1_method_11_code
def yX2_scanCounted : MethodName := ⟨"RequestCutter", "scanCounted", "()I"⟩
abbrev cX2_scanLine : ByteArray := prog_1_method_14_code
def yX2_scanLine : MethodName := ⟨"RequestCutter", "scanLine", "(IIII)I"⟩
abbrev cX2_findLineStop : ByteArray := prog_1_method_15_code
def yX2_findLineStop : MethodName := ⟨"RequestCutter", "findLineStop", "(I)I"⟩
abbrev cX2_tell : ByteArray := prog_1_method_20_code
def yX2_tell : MethodName := ⟨"RequestCutter", "tell", "(I)I"⟩
abbrev cX2_readNumber : ByteArray := prog_1_method_16_code
def yX2_readNumber : MethodName := ⟨"RequestCutter", "readNumber", "(II)Z"⟩
abbrev cX2_scanWord : ByteArray := prog_1_method_12_code
def yX2_scanWord : MethodName := ⟨"RequestCutter", "scanWord", "(I)I"⟩
abbrev cX1_add : ByteArray := prog_3_method_4_code
def yX1_add : MethodName := ⟨"RequestCutter$WordRow", "add", "(II)V"⟩
abbrev cJ7_copyI : ByteArray := prog_9_method_123_code
def yJ7_copyI : MethodName := ⟨"java/util/Arrays", "copyOf", "([II)[I"⟩
abbrev cX2_scanWordEnd : ByteArray := prog_1_method_13_code
def yX2_scanWordEnd : MethodName := ⟨"RequestCutter", "scanWordEnd", "(I)I"⟩
abbrev cX2_scanPlain : ByteArray := prog_1_method_17_code
def yX2_scanPlain : MethodName := ⟨"RequestCutter", "scanPlain", "()I"⟩
abbrev cX2_findLineFeed : ByteArray := prog_1_method_18_code
def yX2_findLineFeed : MethodName := ⟨"RequestCutter", "findLineFeed", "()I"⟩
abbrev cX2_addPlainWords : ByteArray := prog_1_method_19_code
def yX2_addPlainWords : MethodName := ⟨"RequestCutter", "addPlainWords", "(I)V"⟩
abbrev cX1_keepBytes : ByteArray := prog_3_method_5_code
def yX1_keepBytes : MethodName := ⟨"RequestCutter$WordRow", "keepBytes", "(LRequestCutter$ByteRow;I)V"⟩
abbrev cX0_removeFirst : ByteArray := prog_2_method_9_code
def yX0_removeFirst : MethodName := ⟨"RequestCutter$ByteRow", "removeFirst", "(I)Z"⟩
abbrev cX1_count : ByteArray := prog_3_method_2_code
def yX1_count : MethodName := ⟨"RequestCutter$WordRow", "count", "()I"⟩
abbrev cX2_fault : ByteArray := prog_1_method_6_code
def yX2_fault : MethodName := ⟨"RequestCutter", "fault", "()I"⟩
abbrev cX2_size : ByteArray := prog_1_method_7_code
def yX2_size : MethodName := ⟨"RequestCutter", "size", "(I)I"⟩
abbrev cX1_sizeOf : ByteArray := prog_3_method_6_code
def yX1_sizeOf : MethodName := ⟨"RequestCutter$WordRow", "sizeOf", "(I)I"⟩
abbrev cX2_byteOf : ByteArray := prog_1_method_8_code
def yX2_byteOf : MethodName := ⟨"RequestCutter", "byteOf", "(II)I"⟩
abbrev cX1_byteAt : ByteArray := prog_3_method_7_code
def yX1_byteAt : MethodName := ⟨"RequestCutter$WordRow", "byteAt", "(II)I"⟩
abbrev cX2_drop : ByteArray := prog_1_method_9_code
def yX2_drop : MethodName := ⟨"RequestCutter", "drop", "(I)Z"⟩
abbrev cX2_waiting : ByteArray := prog_1_method_10_code
def yX2_waiting : MethodName := ⟨"RequestCutter", "waiting", "()I"⟩
abbrev cX3_init : ByteArray := prog_5_method_1_code
def yX3_init : MethodName := ⟨"RequestCutterModel", "<init>", "()V"⟩
abbrev cX3_feed : ByteArray := prog_5_method_3_code
def yX3_feed : MethodName := ⟨"RequestCutterModel", "feed", "(IIIII)Z"⟩
abbrev cX3_lay : ByteArray := prog_5_method_2_code
def yX3_lay : MethodName := ⟨"RequestCutterModel", "lay", "(I)V"⟩
abbrev cX3_end : ByteArray := prog_5_method_4_code
def yX3_end : MethodName := ⟨"RequestCutterModel", "end", "(I)Z"⟩
abbrev cX3_arrive : ByteArray := prog_5_method_5_code
def yX3_arrive : MethodName := ⟨"RequestCutterModel", "arrive", "()I"⟩
abbrev cX3_drop : ByteArray := prog_5_method_7_code
def yX3_drop : MethodName := ⟨"RequestCutterModel", "drop", "(I)Z"⟩
abbrev cX3_go : ByteArray := prog_5_method_6_code
def yX3_go : MethodName := ⟨"RequestCutterModel", "go", "(I)V"⟩
abbrev cX3_cut : ByteArray := prog_5_method_14_code
def yX3_cut : MethodName := ⟨"RequestCutterModel", "cut", "()I"⟩
abbrev cX3_cutTold : ByteArray := prog_5_method_12_code
def yX3_cutTold : MethodName := ⟨"RequestCutterModel", "cutTold", "()Z"⟩
abbrev cX3_line : ByteArray := prog_5_method_8_code
def yX3_line : MethodName := ⟨"RequestCutterModel", "line", "()I"⟩
abbrev cX3_told : ByteArray := prog_5_method_11_code
def yX3_told : MethodName := ⟨"RequestCutterModel", "told", "()Z"⟩
abbrev cX3_must : ByteArray := prog_5_method_10_code
def yX3_must : MethodName := ⟨"RequestCutterModel", "must", "(I)I"⟩
abbrev cX3_word : ByteArray := prog_5_method_9_code
def yX3_word : MethodName := ⟨"RequestCutterModel", "word", "(II)V"⟩
abbrev cX3_cutLine : ByteArray := prog_5_method_13_code
def yX3_cutLine : MethodName := ⟨"RequestCutterModel", "cutLine", "()Z"⟩
abbrev cX3_fault : ByteArray := prog_5_method_15_code
def yX3_fault : MethodName := ⟨"RequestCutterModel", "fault", "()I"⟩
abbrev cX3_size : ByteArray := prog_5_method_16_code
def yX3_size : MethodName := ⟨"RequestCutterModel", "size", "(I)I"⟩
abbrev cX3_byteOf : ByteArray := prog_5_method_17_code
def yX3_byteOf : MethodName := ⟨"RequestCutterModel", "byteOf", "(II)I"⟩
abbrev cX3_waiting : ByteArray := prog_5_method_18_code
def yX3_waiting : MethodName := ⟨"RequestCutterModel", "waiting", "()I"⟩
def yL_law : MethodName := ⟨"RequestCutterLaw", "law", "([I)Z"⟩
abbrev vwCl : List vw_C := [("RequestCutter$ByteRow", TX0, 3), ("RequestCutter$WordRow", TX1, 4), ("RequestCutter", TX2, 5), ("RequestCutterModel", TX3, 11)]
def lw_g : List Cond := lw_tbl.filter goodWord
theorem tw_0 : Cond.selects "RequestCutter" yX2_scanCounted yX2_scanCounted ∈ lw_g := List.mem_filter.mpr ⟨List.mem_of_getElem? (i := 0) rfl, rfl⟩
theorem tw_1 : Cond.selects "RequestCutter" yX2_scanLine yX2_scanLine ∈ lw_g := List.mem_filter.mpr ⟨List.mem_of_getElem? (i := 1) rfl, rfl⟩
theorem tw_2 : Cond.selects "RequestCutter" yX2_findLineStop yX2_findLineStop ∈ lw_g := List.mem_filter.mpr ⟨List.mem_of_getElem? (i := 2) rfl, rfl⟩
theorem tw_3 : Cond.selects "RequestCutter" yX2_tell yX2_tell ∈ lw_g := List.mem_filter.mpr ⟨List.mem_of_getElem? (i := 3) rfl, rfl⟩
theorem tw_4 : Cond.selects "RequestCutter" yX2_readNumber yX2_readNumber ∈ lw_g := List.mem_filter.mpr ⟨List.mem_of_getElem? (i := 4) rfl, rfl⟩
theorem tw_5 : Cond.selects "RequestCutter" yX2_scanWord yX2_scanWord ∈ lw_g := List.mem_filter.mpr ⟨List.mem_of_getElem? (i := 5) rfl, rfl⟩
theorem tw_6 : Cond.selects "RequestCutter" yX2_scanWordEnd yX2_scanWordEnd ∈ lw_g := List.mem_filter.mpr ⟨List.mem_of_getElem? (i := 6) rfl, rfl⟩
theorem tw_7 : Cond.selects "RequestCutter" yX2_scanPlain yX2_scanPlain ∈ lw_g := List.mem_filter.mpr ⟨List.mem_of_getElem? (i := 7) rfl, rfl⟩
theorem tw_8 : Cond.selects "RequestCutter" yX2_findLineFeed yX2_findLineFeed ∈ lw_g := List.mem_filter.mpr ⟨List.mem_of_getElem? (i := 8) rfl, rfl⟩
theorem tw_9 : Cond.selects "RequestCutter" yX2_addPlainWords yX2_addPlainWords ∈ lw_g := List.mem_filter.mpr ⟨List.mem_of_getElem? (i := 9) rfl, rfl⟩
theorem tw_10 : Cond.selects "RequestCutterModel" yX3_lay yX3_lay ∈ lw_g := List.mem_filter.mpr ⟨List.mem_of_getElem? (i := 10) rfl, rfl⟩
theorem tw_11 : Cond.selects "RequestCutterModel" yX3_go yX3_go ∈ lw_g := List.mem_filter.mpr ⟨List.mem_of_getElem? (i := 11) rfl, rfl⟩
theorem tw_12 : Cond.selects "RequestCutterModel" yX3_cutTold yX3_cutTold ∈ lw_g := List.mem_filter.mpr ⟨List.mem_of_getElem? (i := 12) rfl, rfl⟩
theorem tw_13 : Cond.selects "RequestCutterModel" yX3_line yX3_line ∈ lw_g := List.mem_filter.mpr ⟨List.mem_of_getElem? (i := 13) rfl, rfl⟩
theorem tw_14 : Cond.selects "RequestCutterModel" yX3_told yX3_told ∈ lw_g := List.mem_filter.mpr ⟨List.mem_of_getElem? (i := 14) rfl, rfl⟩
theorem tw_15 : Cond.selects "RequestCutterModel" yX3_must yX3_must ∈ lw_g := List.mem_filter.mpr ⟨List.mem_of_getElem? (i := 15) rfl, rfl⟩
theorem tw_16 : Cond.selects "RequestCutterModel" yX3_word yX3_word ∈ lw_g := List.mem_filter.mpr ⟨List.mem_of_getElem? (i := 16) rfl, rfl⟩
theorem tw_17 : Cond.selects "RequestCutterModel" yX3_cutLine yX3_cutLine ∈ lw_g := List.mem_filter.mpr ⟨List.mem_of_getElem? (i := 17) rfl, rfl⟩
theorem tw_18 : Cond.initialized "RequestCutterLaw" ∈ lw_g := List.mem_filter.mpr ⟨List.mem_of_getElem? (i := 18) rfl, rfl⟩
theorem tw_19 : Cond.initialized "RequestCutter" ∈ lw_g := List.mem_filter.mpr ⟨List.mem_of_getElem? (i := 19) rfl, rfl⟩
theorem tw_20 : Cond.initialized "RequestCutter$ByteRow" ∈ lw_g := List.mem_filter.mpr ⟨List.mem_of_getElem? (i := 20) rfl, rfl⟩
theorem tw_21 : Cond.initialized "RequestCutter$WordRow" ∈ lw_g := List.mem_filter.mpr ⟨List.mem_of_getElem? (i := 21) rfl, rfl⟩
theorem tw_22 : Cond.initialized "RequestCutterModel" ∈ lw_g := List.mem_filter.mpr ⟨List.mem_of_getElem? (i := 22) rfl, rfl⟩
theorem tw_23 : Cond.initialized "java/lang/Math" ∈ lw_g := List.mem_filter.mpr ⟨List.mem_of_getElem? (i := 23) rfl, rfl⟩
theorem tw_24 : Cond.initialized "java/util/Arrays" ∈ lw_g := List.mem_filter.mpr ⟨List.mem_of_getElem? (i := 24) rfl, rfl⟩
theorem tw_25 : Cond.initialized "java/lang/System" ∈ lw_g := List.mem_filter.mpr ⟨List.mem_of_getElem? (i := 25) rfl, rfl⟩
theorem tw_26 : Cond.classLink "RequestCutterLaw" 7 "RequestCutter" ∈ lw_g := List.mem_filter.mpr ⟨List.mem_of_getElem? (i := 26) rfl, rfl⟩
theorem tw_27 : Cond.instantiable "RequestCutter" 5 ∈ lw_g := List.mem_filter.mpr ⟨List.mem_of_getElem? (i := 27) rfl, rfl⟩
theorem tw_28 : Cond.methodLink "RequestCutterLaw" 9 yX2_init ∈ lw_g := List.mem_filter.mpr ⟨List.mem_of_getElem? (i := 28) rfl, rfl⟩
theorem tw_29 : Cond.instanceMethod yX2_init ∈ lw_g := List.mem_filter.mpr ⟨List.mem_of_getElem? (i := 29) rfl, rfl⟩
theorem tw_30 : Cond.code yX2_init prog_1_method_1_code 1 none ∈ lw_g := List.mem_filter.mpr ⟨List.mem_of_getElem? (i := 30) rfl, rfl⟩
theorem tw_31 : Cond.methodLink "RequestCutter" 1 objectInit ∈ lw_g := List.mem_filter.mpr ⟨List.mem_of_getElem? (i := 31) rfl, rfl⟩
theorem tw_32 : Cond.instanceMethod objectInit ∈ lw_g := List.mem_filter.mpr ⟨List.mem_of_getElem? (i := 32) rfl, rfl⟩
theorem tw_33 : Cond.code objectInit object_method_1_code 1 none ∈ lw_g := List.mem_filter.mpr ⟨List.mem_of_getElem? (i := 33) rfl, rfl⟩
theorem tw_34 : Cond.classLink "RequestCutter" 7 "RequestCutter$ByteRow" ∈ lw_g := List.mem_filter.mpr ⟨List.mem_of_getElem? (i := 34) rfl, rfl⟩
theorem tw_35 : Cond.instantiable "RequestCutter$ByteRow" 3 ∈ lw_g := List.mem_filter.mpr ⟨List.mem_of_getElem? (i := 35) rfl, rfl⟩
theorem tw_36 : Cond.methodLink "RequestCutter" 11 yX0_init ∈ lw_g := List.mem_filter.mpr ⟨List.mem_of_getElem? (i := 36) rfl, rfl⟩
theorem tw_37 : Cond.instanceMethod yX0_init ∈ lw_g := List.mem_filter.mpr ⟨List.mem_of_getElem? (i := 37) rfl, rfl⟩
theorem tw_38 : Cond.code yX0_init prog_2_method_1_code 2 none ∈ lw_g := List.mem_filter.mpr ⟨List.mem_of_getElem? (i := 38) rfl, rfl⟩
theorem tw_39 : Cond.methodLink "RequestCutter$ByteRow" 3 objectInit ∈ lw_g := List.mem_filter.mpr ⟨List.mem_of_getElem? (i := 39) rfl, rfl⟩
theorem tw_40 : Cond.fieldLink "RequestCutter$ByteRow" 9 "RequestCutter$ByteRow" "limit" "I" ∈ lw_g := List.mem_filter.mpr ⟨List.mem_of_getElem? (i := 40) rfl, rfl⟩
theorem tw_41 : Cond.fieldLink "RequestCutter$ByteRow" 15 "RequestCutter$ByteRow" "bytes" "[B" ∈ lw_g := List.mem_filter.mpr ⟨List.mem_of_getElem? (i := 41) rfl, rfl⟩
theorem tw_42 : Cond.fieldLink "RequestCutter$ByteRow" 19 "RequestCutter$ByteRow" "count" "I" ∈ lw_g := List.mem_filter.mpr ⟨List.mem_of_getElem? (i := 42) rfl, rfl⟩
theorem tw_43 : Cond.laysFinal "RequestCutter$ByteRow" "RequestCutter$ByteRow" "limit" "I" ∈ lw_g := List.mem_filter.mpr ⟨List.mem_of_getElem? (i := 43) rfl, rfl⟩
theorem tw_45 : Cond.lays "RequestCutter$ByteRow" "RequestCutter$ByteRow" "bytes" "[B" ∈ lw_g := List.mem_filter.mpr ⟨List.mem_of_getElem? (i := 45) rfl, rfl⟩
theorem tw_47 : Cond.lays "RequestCutter$ByteRow" "RequestCutter$ByteRow" "count" "I" ∈ lw_g := List.mem_filter.mpr ⟨List.mem_of_getElem? (i := 47) rfl, rfl⟩
theorem tw_50 : Cond.arrayClass .byte ∈ lw_g := List.mem_filter.mpr ⟨List.mem_of_getElem? (i := 50) rfl, rfl⟩
theorem tw_51 : Cond.constant "RequestCutter" 18 (65536) ∈ lw_g := List.mem_filter.mpr ⟨List.mem_of_getElem? (i := 51) rfl, rfl⟩
theorem tw_52 : Cond.classLink "RequestCutter" 22 "RequestCutter$WordRow" ∈ lw_g := List.mem_filter.mpr ⟨List.mem_of_getElem? (i := 52) rfl, rfl⟩
theorem tw_53 : Cond.instantiable "RequestCutter$WordRow" 4 ∈ lw_g := List.mem_filter.mpr ⟨List.mem_of_getElem? (i := 53) rfl, rfl⟩
theorem tw_54 : Cond.methodLink "RequestCutter" 24 yX1_init ∈ lw_g := List.mem_filter.mpr ⟨List.mem_of_getElem? (i := 54) rfl, rfl⟩
theorem tw_55 : Cond.instanceMethod yX1_init ∈ lw_g := List.mem_filter.mpr ⟨List.mem_of_getElem? (i := 55) rfl, rfl⟩
theorem tw_56 : Cond.code yX1_init prog_3_method_1_code 1 none ∈ lw_g := List.mem_filter.mpr ⟨List.mem_of_getElem? (i := 56) rfl, rfl⟩
theorem tw_57 : Cond.methodLink "RequestCutter$WordRow" 3 objectInit ∈ lw_g := List.mem_filter.mpr ⟨List.mem_of_getElem? (i := 57) rfl, rfl⟩
theorem tw_58 : Cond.classLink "RequestCutter$WordRow" 9 "RequestCutter$ByteRow" ∈ lw_g := List.mem_filter.mpr ⟨List.mem_of_getElem? (i := 58) rfl, rfl⟩
theorem tw_59 : Cond.constant "RequestCutter$WordRow" 11 (65536) ∈ lw_g := List.mem_filter.mpr ⟨List.mem_of_getElem? (i := 59) rfl, rfl⟩
theorem tw_60 : Cond.methodLink "RequestCutter$WordRow" 12 yX0_init ∈ lw_g := List.mem_filter.mpr ⟨List.mem_of_getElem? (i := 60) rfl, rfl⟩
theorem tw_61 : Cond.fieldLink "RequestCutter$WordRow" 15 "RequestCutter$WordRow" "bytes" "LRequestCutter$ByteRow;" ∈ lw_g := List.mem_filter.mpr ⟨List.mem_of_getElem? (i := 61) rfl, rfl⟩
theorem tw_62 : Cond.fieldLink "RequestCutter$WordRow" 21 "RequestCutter$WordRow" "starts" "[I" ∈ lw_g := List.mem_filter.mpr ⟨List.mem_of_getElem? (i := 62) rfl, rfl⟩
theorem tw_63 : Cond.fieldLink "RequestCutter$WordRow" 25 "RequestCutter$WordRow" "sizes" "[I" ∈ lw_g := List.mem_filter.mpr ⟨List.mem_of_getElem? (i := 63) rfl, rfl⟩
theorem tw_64 : Cond.fieldLink "RequestCutter$WordRow" 28 "RequestCutter$WordRow" "count" "I" ∈ lw_g := List.mem_filter.mpr ⟨List.mem_of_getElem? (i := 64) rfl, rfl⟩
theorem tw_65 : Cond.laysFinal "RequestCutter$WordRow" "RequestCutter$WordRow" "bytes" "LRequestCutter$ByteRow;" ∈ lw_g := List.mem_filter.mpr ⟨List.mem_of_getElem? (i := 65) rfl, rfl⟩
theorem tw_67 : Cond.lays "RequestCutter$WordRow" "RequestCutter$WordRow" "starts" "[I" ∈ lw_g := List.mem_filter.mpr ⟨List.mem_of_getElem? (i := 67) rfl, rfl⟩
theorem tw_69 : Cond.lays "RequestCutter$WordRow" "RequestCutter$WordRow" "sizes" "[I" ∈ lw_g := List.mem_filter.mpr ⟨List.mem_of_getElem? (i := 69) rfl, rfl⟩
theorem tw_71 : Cond.lays "RequestCutter$WordRow" "RequestCutter$WordRow" "count" "I" ∈ lw_g := List.mem_filter.mpr ⟨List.mem_of_getElem? (i := 71) rfl, rfl⟩
theorem tw_74 : Cond.arrayClass .int ∈ lw_g := List.mem_filter.mpr ⟨List.mem_of_getElem? (i := 74) rfl, rfl⟩
theorem tw_75 : Cond.fieldLink "RequestCutter" 14 "RequestCutter" "tape" "LRequestCutter$ByteRow;" ∈ lw_g := List.mem_filter.mpr ⟨List.mem_of_getElem? (i := 75) rfl, rfl⟩
theorem tw_76 : Cond.fieldLink "RequestCutter" 19 "RequestCutter" "input" "LRequestCutter$ByteRow;" ∈ lw_g := List.mem_filter.mpr ⟨List.mem_of_getElem? (i := 76) rfl, rfl⟩
theorem tw_77 : Cond.fieldLink "RequestCutter" 25 "RequestCutter" "words" "LRequestCutter$WordRow;" ∈ lw_g := List.mem_filter.mpr ⟨List.mem_of_getElem? (i := 77) rfl, rfl⟩
theorem tw_78 : Cond.fieldLink "RequestCutter" 29 "RequestCutter" "latestFault" "I" ∈ lw_g := List.mem_filter.mpr ⟨List.mem_of_getElem? (i := 78) rfl, rfl⟩
theorem tw_79 : Cond.fieldLink "RequestCutter" 33 "RequestCutter" "lineNumber" "I" ∈ lw_g := List.mem_filter.mpr ⟨List.mem_of_getElem? (i := 79) rfl, rfl⟩
theorem tw_80 : Cond.laysFinal "RequestCutter" "RequestCutter" "tape" "LRequestCutter$ByteRow;" ∈ lw_g := List.mem_filter.mpr ⟨List.mem_of_getElem? (i := 80) rfl, rfl⟩
theorem tw_82 : Cond.laysFinal "RequestCutter" "RequestCutter" "input" "LRequestCutter$ByteRow;" ∈ lw_g := List.mem_filter.mpr ⟨List.mem_of_getElem? (i := 82) rfl, rfl⟩
theorem tw_84 : Cond.laysFinal "RequestCutter" "RequestCutter" "words" "LRequestCutter$WordRow;" ∈ lw_g := List.mem_filter.mpr ⟨List.mem_of_getElem? (i := 84) rfl, rfl⟩
theorem tw_86 : Cond.lays "RequestCutter" "RequestCutter" "latestFault" "I" ∈ lw_g := List.mem_filter.mpr ⟨List.mem_of_getElem? (i := 86) rfl, rfl⟩
theorem tw_88 : Cond.lays "RequestCutter" "RequestCutter" "lineNumber" "I" ∈ lw_g := List.mem_filter.mpr ⟨List.mem_of_getElem? (i := 88) rfl, rfl⟩
theorem tw_91 : Cond.methodLink "RequestCutterLaw" 13 yX2_feed ∈ lw_g := List.mem_filter.mpr ⟨List.mem_of_getElem? (i := 91) rfl, rfl⟩
theorem tw_92 : Cond.instanceMethod yX2_feed ∈ lw_g := List.mem_filter.mpr ⟨List.mem_of_getElem? (i := 92) rfl, rfl⟩
theorem tw_93 : Cond.selects "RequestCutter" yX2_feed yX2_feed ∈ lw_g := List.mem_filter.mpr ⟨List.mem_of_getElem? (i := 93) rfl, rfl⟩
theorem tw_94 : Cond.code yX2_feed prog_1_method_2_code 6 (some .boolean) ∈ lw_g := List.mem_filter.mpr ⟨List.mem_of_getElem? (i := 94) rfl, rfl⟩
theorem tw_95 : Cond.methodLink "RequestCutter" 36 yX0_makeRoom ∈ lw_g := List.mem_filter.mpr ⟨List.mem_of_getElem? (i := 95) rfl, rfl⟩
theorem tw_96 : Cond.instanceMethod yX0_makeRoom ∈ lw_g := List.mem_filter.mpr ⟨List.mem_of_getElem? (i := 96) rfl, rfl⟩
theorem tw_97 : Cond.selects "RequestCutter$ByteRow" yX0_makeRoom yX0_makeRoom ∈ lw_g := List.mem_filter.mpr ⟨List.mem_of_getElem? (i := 97) rfl, rfl⟩
theorem tw_98 : Cond.code yX0_makeRoom prog_2_method_5_code 4 (some .boolean) ∈ lw_g := List.mem_filter.mpr ⟨List.mem_of_getElem? (i := 98) rfl, rfl⟩
theorem tw_99 : Cond.methodLink "RequestCutter$ByteRow" 22 Lib.Math.max.name ∈ lw_g := List.mem_filter.mpr ⟨List.mem_of_getElem? (i := 99) rfl, rfl⟩
theorem tw_100 : Cond.static Lib.Math.max.name ∈ lw_g := List.mem_filter.mpr ⟨List.mem_of_getElem? (i := 100) rfl, rfl⟩
theorem tw_101 : Cond.code Lib.Math.max.name prog_7_method_65_code 2 (some .int) ∈ lw_g := List.mem_filter.mpr ⟨List.mem_of_getElem? (i := 101) rfl, rfl⟩
theorem tw_102 : Cond.methodLink "RequestCutter$ByteRow" 28 Lib.Math.min.name ∈ lw_g := List.mem_filter.mpr ⟨List.mem_of_getElem? (i := 102) rfl, rfl⟩
theorem tw_103 : Cond.static Lib.Math.min.name ∈ lw_g := List.mem_filter.mpr ⟨List.mem_of_getElem? (i := 103) rfl, rfl⟩
theorem tw_104 : Cond.code Lib.Math.min.name prog_7_method_69_code 2 (some .int) ∈ lw_g := List.mem_filter.mpr ⟨List.mem_of_getElem? (i := 104) rfl, rfl⟩
theorem tw_105 : Cond.methodLink "RequestCutter$ByteRow" 31 yJ7_copyB ∈ lw_g := List.mem_filter.mpr ⟨List.mem_of_getElem? (i := 105) rfl, rfl⟩
theorem tw_106 : Cond.static yJ7_copyB ∈ lw_g := List.mem_filter.mpr ⟨List.mem_of_getElem? (i := 106) rfl, rfl⟩
theorem tw_107 : Cond.code yJ7_copyB prog_9_method_121_code 3 (some (.array .byte)) ∈ lw_g := List.mem_filter.mpr ⟨List.mem_of_getElem? (i := 107) rfl, rfl⟩
theorem tw_108 : Cond.methodLink "java/util/Arrays" 310 ⟨"[B", "clone", "()Ljava/lang/Object;"⟩ ∈ lw_g := List.mem_filter.mpr ⟨List.mem_of_getElem? (i := 108) rfl, rfl⟩
theorem tw_110 : Cond.native ⟨"java/lang/Object", "clone", "()Ljava/lang/Object;"⟩ ∈ lw_g := List.mem_filter.mpr ⟨List.mem_of_getElem? (i := 110) rfl, rfl⟩
theorem tw_111 : Cond.instanceMethod ⟨"java/lang/Object", "clone", "()Ljava/lang/Object;"⟩ ∈ lw_g := List.mem_filter.mpr ⟨List.mem_of_getElem? (i := 111) rfl, rfl⟩
theorem tw_112 : Cond.selects "[B" ⟨"[B", "clone", "()Ljava/lang/Object;"⟩ ⟨"java/lang/Object", "clone", "()Ljava/lang/Object;"⟩ ∈ lw_g := List.mem_filter.mpr ⟨List.mem_of_getElem? (i := 112) rfl, rfl⟩
theorem tw_114 : Cond.classLink "java/util/Arrays" 311 "[B" ∈ lw_g := List.mem_filter.mpr ⟨List.mem_of_getElem? (i := 114) rfl, rfl⟩
theorem tw_115 : Cond.methodLink "java/util/Arrays" 304 Lib.Math.min.name ∈ lw_g := List.mem_filter.mpr ⟨List.mem_of_getElem? (i := 115) rfl, rfl⟩
theorem tw_116 : Cond.methodLink "java/util/Arrays" 150 arraycopyName ∈ lw_g := List.mem_filter.mpr ⟨List.mem_of_getElem? (i := 116) rfl, rfl⟩
theorem tw_117 : Cond.static arraycopyName ∈ lw_g := List.mem_filter.mpr ⟨List.mem_of_getElem? (i := 117) rfl, rfl⟩
theorem tw_118 : Cond.native arraycopyName ∈ lw_g := List.mem_filter.mpr ⟨List.mem_of_getElem? (i := 118) rfl, rfl⟩
theorem tw_119 : Cond.methodLink "RequestCutter" 40 yX0_addNumber ∈ lw_g := List.mem_filter.mpr ⟨List.mem_of_getElem? (i := 119) rfl, rfl⟩
theorem tw_120 : Cond.instanceMethod yX0_addNumber ∈ lw_g := List.mem_filter.mpr ⟨List.mem_of_getElem? (i := 120) rfl, rfl⟩
theorem tw_121 : Cond.selects "RequestCutter$ByteRow" yX0_addNumber yX0_addNumber ∈ lw_g := List.mem_filter.mpr ⟨List.mem_of_getElem? (i := 121) rfl, rfl⟩
theorem tw_122 : Cond.code yX0_addNumber prog_2_method_6_code 3 none ∈ lw_g := List.mem_filter.mpr ⟨List.mem_of_getElem? (i := 122) rfl, rfl⟩
theorem tw_123 : Cond.methodLink "RequestCutterLaw" 18 yX2_end ∈ lw_g := List.mem_filter.mpr ⟨List.mem_of_getElem? (i := 123) rfl, rfl⟩
theorem tw_124 : Cond.instanceMethod yX2_end ∈ lw_g := List.mem_filter.mpr ⟨List.mem_of_getElem? (i := 124) rfl, rfl⟩
theorem tw_125 : Cond.selects "RequestCutter" yX2_end yX2_end ∈ lw_g := List.mem_filter.mpr ⟨List.mem_of_getElem? (i := 125) rfl, rfl⟩
theorem tw_126 : Cond.code yX2_end prog_1_method_3_code 2 (some .boolean) ∈ lw_g := List.mem_filter.mpr ⟨List.mem_of_getElem? (i := 126) rfl, rfl⟩
theorem tw_127 : Cond.methodLink "RequestCutter" 43 yX0_keepFirst ∈ lw_g := List.mem_filter.mpr ⟨List.mem_of_getElem? (i := 127) rfl, rfl⟩
theorem tw_128 : Cond.instanceMethod yX0_keepFirst ∈ lw_g := List.mem_filter.mpr ⟨List.mem_of_getElem? (i := 128) rfl, rfl⟩
theorem tw_129 : Cond.selects "RequestCutter$ByteRow" yX0_keepFirst yX0_keepFirst ∈ lw_g := List.mem_filter.mpr ⟨List.mem_of_getElem? (i := 129) rfl, rfl⟩
theorem tw_130 : Cond.code yX0_keepFirst prog_2_method_8_code 2 (some .boolean) ∈ lw_g := List.mem_filter.mpr ⟨List.mem_of_getElem? (i := 130) rfl, rfl⟩
theorem tw_131 : Cond.methodLink "RequestCutterLaw" 23 yX2_arrive ∈ lw_g := List.mem_filter.mpr ⟨List.mem_of_getElem? (i := 131) rfl, rfl⟩
theorem tw_132 : Cond.instanceMethod yX2_arrive ∈ lw_g := List.mem_filter.mpr ⟨List.mem_of_getElem? (i := 132) rfl, rfl⟩
theorem tw_133 : Cond.selects "RequestCutter" yX2_arrive yX2_arrive ∈ lw_g := List.mem_filter.mpr ⟨List.mem_of_getElem? (i := 133) rfl, rfl⟩
theorem tw_134 : Cond.code yX2_arrive prog_1_method_4_code 2 (some .int) ∈ lw_g := List.mem_filter.mpr ⟨List.mem_of_getElem? (i := 134) rfl, rfl⟩
theorem tw_135 : Cond.methodLink "RequestCutter" 46 yX0_count ∈ lw_g := List.mem_filter.mpr ⟨List.mem_of_getElem? (i := 135) rfl, rfl⟩
theorem tw_136 : Cond.instanceMethod yX0_count ∈ lw_g := List.mem_filter.mpr ⟨List.mem_of_getElem? (i := 136) rfl, rfl⟩
theorem tw_137 : Cond.selects "RequestCutter$ByteRow" yX0_count yX0_count ∈ lw_g := List.mem_filter.mpr ⟨List.mem_of_getElem? (i := 137) rfl, rfl⟩
theorem tw_138 : Cond.code yX0_count prog_2_method_2_code 1 (some .int) ∈ lw_g := List.mem_filter.mpr ⟨List.mem_of_getElem? (i := 138) rfl, rfl⟩
theorem tw_139 : Cond.methodLink "RequestCutter" 50 yX0_addFirstOf ∈ lw_g := List.mem_filter.mpr ⟨List.mem_of_getElem? (i := 139) rfl, rfl⟩
theorem tw_140 : Cond.instanceMethod yX0_addFirstOf ∈ lw_g := List.mem_filter.mpr ⟨List.mem_of_getElem? (i := 140) rfl, rfl⟩
theorem tw_141 : Cond.selects "RequestCutter$ByteRow" yX0_addFirstOf yX0_addFirstOf ∈ lw_g := List.mem_filter.mpr ⟨List.mem_of_getElem? (i := 141) rfl, rfl⟩
theorem tw_142 : Cond.code yX0_addFirstOf prog_2_method_7_code 3 (some .boolean) ∈ lw_g := List.mem_filter.mpr ⟨List.mem_of_getElem? (i := 142) rfl, rfl⟩
theorem tw_143 : Cond.methodLink "RequestCutter$ByteRow" 37 yX0_makeRoom ∈ lw_g := List.mem_filter.mpr ⟨List.mem_of_getElem? (i := 143) rfl, rfl⟩
theorem tw_144 : Cond.methodLink "RequestCutter$ByteRow" 41 arraycopyName ∈ lw_g := List.mem_filter.mpr ⟨List.mem_of_getElem? (i := 144) rfl, rfl⟩
theorem tw_145 : Cond.methodLink "RequestCutter" 54 yX0_clear ∈ lw_g := List.mem_filter.mpr ⟨List.mem_of_getElem? (i := 145) rfl, rfl⟩
theorem tw_146 : Cond.instanceMethod yX0_clear ∈ lw_g := List.mem_filter.mpr ⟨List.mem_of_getElem? (i := 146) rfl, rfl⟩
theorem tw_147 : Cond.selects "RequestCutter$ByteRow" yX0_clear yX0_clear ∈ lw_g := List.mem_filter.mpr ⟨List.mem_of_getElem? (i := 147) rfl, rfl⟩
theorem tw_148 : Cond.code yX0_clear prog_2_method_4_code 1 none ∈ lw_g := List.mem_filter.mpr ⟨List.mem_of_getElem? (i := 148) rfl, rfl⟩
theorem tw_149 : Cond.methodLink "RequestCutterLaw" 28 yX2_cut ∈ lw_g := List.mem_filter.mpr ⟨List.mem_of_getElem? (i := 149) rfl, rfl⟩
theorem tw_150 : Cond.instanceMethod yX2_cut ∈ lw_g := List.mem_filter.mpr ⟨List.mem_of_getElem? (i := 150) rfl, rfl⟩
theorem tw_151 : Cond.selects "RequestCutter" yX2_cut yX2_cut ∈ lw_g := List.mem_filter.mpr ⟨List.mem_of_getElem? (i := 151) rfl, rfl⟩
theorem tw_152 : Cond.code yX2_cut prog_1_method_5_code 2 (some .int) ∈ lw_g := List.mem_filter.mpr ⟨List.mem_of_getElem? (i := 152) rfl, rfl⟩
theorem tw_153 : Cond.methodLink "RequestCutter" 57 yX1_clear ∈ lw_g := List.mem_filter.mpr ⟨List.mem_of_getElem? (i := 153) rfl, rfl⟩
theorem tw_154 : Cond.instanceMethod yX1_clear ∈ lw_g := List.mem_filter.mpr ⟨List.mem_of_getElem? (i := 154) rfl, rfl⟩
theorem tw_155 : Cond.selects "RequestCutter$WordRow" yX1_clear yX1_clear ∈ lw_g := List.mem_filter.mpr ⟨List.mem_of_getElem? (i := 155) rfl, rfl⟩
theorem tw_156 : Cond.code yX1_clear prog_3_method_3_code 1 none ∈ lw_g := List.mem_filter.mpr ⟨List.mem_of_getElem? (i := 156) rfl, rfl⟩
theorem tw_157 : Cond.methodLink "RequestCutter$WordRow" 32 yX0_clear ∈ lw_g := List.mem_filter.mpr ⟨List.mem_of_getElem? (i := 157) rfl, rfl⟩
theorem tw_158 : Cond.methodLink "RequestCutter" 58 yX0_at ∈ lw_g := List.mem_filter.mpr ⟨List.mem_of_getElem? (i := 158) rfl, rfl⟩
theorem tw_159 : Cond.instanceMethod yX0_at ∈ lw_g := List.mem_filter.mpr ⟨List.mem_of_getElem? (i := 159) rfl, rfl⟩
theorem tw_160 : Cond.selects "RequestCutter$ByteRow" yX0_at yX0_at ∈ lw_g := List.mem_filter.mpr ⟨List.mem_of_getElem? (i := 160) rfl, rfl⟩
theorem tw_161 : Cond.code yX0_at prog_2_method_3_code 2 (some .int) ∈ lw_g := List.mem_filter.mpr ⟨List.mem_of_getElem? (i := 161) rfl, rfl⟩
theorem tw_162 : Cond.methodLink "RequestCutter" 62 yX2_scanCounted ∈ lw_g := List.mem_filter.mpr ⟨List.mem_of_getElem? (i := 162) rfl, rfl⟩
theorem tw_164 : Cond.instanceMethod yX2_scanCounted ∈ lw_g := List.mem_filter.mpr ⟨List.mem_of_getElem? (i := 164) rfl, rfl⟩
theorem tw_165 : Cond.code yX2_scanCounted prog_1_method_11_code 4 (some .int) ∈ lw_g := List.mem_filter.mpr ⟨List.mem_of_getElem? (i := 165) rfl, rfl⟩
theorem tw_166 : Cond.constant "RequestCutter" 83 (-999999) ∈ lw_g := List.mem_filter.mpr ⟨List.mem_of_getElem? (i := 166) rfl, rfl⟩
theorem tw_167 : Cond.methodLink "RequestCutter" 84 yX2_scanLine ∈ lw_g := List.mem_filter.mpr ⟨List.mem_of_getElem? (i := 167) rfl, rfl⟩
theorem tw_169 : Cond.instanceMethod yX2_scanLine ∈ lw_g := List.mem_filter.mpr ⟨List.mem_of_getElem? (i := 169) rfl, rfl⟩
theorem tw_170 : Cond.code yX2_scanLine prog_1_method_14_code 6 (some .int) ∈ lw_g := List.mem_filter.mpr ⟨List.mem_of_getElem? (i := 170) rfl, rfl⟩
theorem tw_171 : Cond.methodLink "RequestCutter" 101 yX2_findLineStop ∈ lw_g := List.mem_filter.mpr ⟨List.mem_of_getElem? (i := 171) rfl, rfl⟩
theorem tw_173 : Cond.instanceMethod yX2_findLineStop ∈ lw_g := List.mem_filter.mpr ⟨List.mem_of_getElem? (i := 173) rfl, rfl⟩
theorem tw_174 : Cond.code yX2_findLineStop prog_1_method_15_code 3 (some .int) ∈ lw_g := List.mem_filter.mpr ⟨List.mem_of_getElem? (i := 174) rfl, rfl⟩
theorem tw_175 : Cond.methodLink "RequestCutter" 91 yX2_tell ∈ lw_g := List.mem_filter.mpr ⟨List.mem_of_getElem? (i := 175) rfl, rfl⟩
theorem tw_177 : Cond.instanceMethod yX2_tell ∈ lw_g := List.mem_filter.mpr ⟨List.mem_of_getElem? (i := 177) rfl, rfl⟩
theorem tw_178 : Cond.code yX2_tell prog_1_method_20_code 2 (some .int) ∈ lw_g := List.mem_filter.mpr ⟨List.mem_of_getElem? (i := 178) rfl, rfl⟩
theorem tw_179 : Cond.methodLink "RequestCutter" 104 yX2_readNumber ∈ lw_g := List.mem_filter.mpr ⟨List.mem_of_getElem? (i := 179) rfl, rfl⟩
theorem tw_181 : Cond.instanceMethod yX2_readNumber ∈ lw_g := List.mem_filter.mpr ⟨List.mem_of_getElem? (i := 181) rfl, rfl⟩
theorem tw_182 : Cond.code yX2_readNumber prog_1_method_16_code 8 (some .boolean) ∈ lw_g := List.mem_filter.mpr ⟨List.mem_of_getElem? (i := 182) rfl, rfl⟩
theorem tw_183 : Cond.methodLink "RequestCutter" 88 yX2_scanWord ∈ lw_g := List.mem_filter.mpr ⟨List.mem_of_getElem? (i := 183) rfl, rfl⟩
theorem tw_185 : Cond.instanceMethod yX2_scanWord ∈ lw_g := List.mem_filter.mpr ⟨List.mem_of_getElem? (i := 185) rfl, rfl⟩
theorem tw_186 : Cond.code yX2_scanWord prog_1_method_12_code 4 (some .int) ∈ lw_g := List.mem_filter.mpr ⟨List.mem_of_getElem? (i := 186) rfl, rfl⟩
theorem tw_187 : Cond.methodLink "RequestCutter" 94 yX1_add ∈ lw_g := List.mem_filter.mpr ⟨List.mem_of_getElem? (i := 187) rfl, rfl⟩
theorem tw_188 : Cond.instanceMethod yX1_add ∈ lw_g := List.mem_filter.mpr ⟨List.mem_of_getElem? (i := 188) rfl, rfl⟩
theorem tw_189 : Cond.selects "RequestCutter$WordRow" yX1_add yX1_add ∈ lw_g := List.mem_filter.mpr ⟨List.mem_of_getElem? (i := 189) rfl, rfl⟩
theorem tw_190 : Cond.code yX1_add prog_3_method_4_code 4 none ∈ lw_g := List.mem_filter.mpr ⟨List.mem_of_getElem? (i := 190) rfl, rfl⟩
theorem tw_191 : Cond.methodLink "RequestCutter$WordRow" 35 Lib.Math.min.name ∈ lw_g := List.mem_filter.mpr ⟨List.mem_of_getElem? (i := 191) rfl, rfl⟩
theorem tw_192 : Cond.methodLink "RequestCutter$WordRow" 41 yJ7_copyI ∈ lw_g := List.mem_filter.mpr ⟨List.mem_of_getElem? (i := 192) rfl, rfl⟩
theorem tw_193 : Cond.static yJ7_copyI ∈ lw_g := List.mem_filter.mpr ⟨List.mem_of_getElem? (i := 193) rfl, rfl⟩
theorem tw_194 : Cond.code yJ7_copyI prog_9_method_123_code 3 (some (.array .int)) ∈ lw_g := List.mem_filter.mpr ⟨List.mem_of_getElem? (i := 194) rfl, rfl⟩
theorem tw_195 : Cond.methodLink "java/util/Arrays" 316 ⟨"[I", "clone", "()Ljava/lang/Object;"⟩ ∈ lw_g := List.mem_filter.mpr ⟨List.mem_of_getElem? (i := 195) rfl, rfl⟩
theorem tw_197 : Cond.selects "[I" ⟨"[I", "clone", "()Ljava/lang/Object;"⟩ ⟨"java/lang/Object", "clone", "()Ljava/lang/Object;"⟩ ∈ lw_g := List.mem_filter.mpr ⟨List.mem_of_getElem? (i := 197) rfl, rfl⟩
theorem tw_199 : Cond.classLink "java/util/Arrays" 317 "[I" ∈ lw_g := List.mem_filter.mpr ⟨List.mem_of_getElem? (i := 199) rfl, rfl⟩
theorem tw_200 : Cond.methodLink "RequestCutter" 98 yX2_scanWordEnd ∈ lw_g := List.mem_filter.mpr ⟨List.mem_of_getElem? (i := 200) rfl, rfl⟩
theorem tw_202 : Cond.instanceMethod yX2_scanWordEnd ∈ lw_g := List.mem_filter.mpr ⟨List.mem_of_getElem? (i := 202) rfl, rfl⟩
theorem tw_203 : Cond.code yX2_scanWordEnd prog_1_method_13_code 4 (some .int) ∈ lw_g := List.mem_filter.mpr ⟨List.mem_of_getElem? (i := 203) rfl, rfl⟩
theorem tw_204 : Cond.methodLink "RequestCutter" 65 yX2_scanPlain ∈ lw_g := List.mem_filter.mpr ⟨List.mem_of_getElem? (i := 204) rfl, rfl⟩
theorem tw_206 : Cond.instanceMethod yX2_scanPlain ∈ lw_g := List.mem_filter.mpr ⟨List.mem_of_getElem? (i := 206) rfl, rfl⟩
theorem tw_207 : Cond.code yX2_scanPlain prog_1_method_17_code 3 (some .int) ∈ lw_g := List.mem_filter.mpr ⟨List.mem_of_getElem? (i := 207) rfl, rfl⟩
theorem tw_208 : Cond.methodLink "RequestCutter" 108 yX2_findLineFeed ∈ lw_g := List.mem_filter.mpr ⟨List.mem_of_getElem? (i := 208) rfl, rfl⟩
theorem tw_210 : Cond.instanceMethod yX2_findLineFeed ∈ lw_g := List.mem_filter.mpr ⟨List.mem_of_getElem? (i := 210) rfl, rfl⟩
theorem tw_211 : Cond.code yX2_findLineFeed prog_1_method_18_code 3 (some .int) ∈ lw_g := List.mem_filter.mpr ⟨List.mem_of_getElem? (i := 211) rfl, rfl⟩
theorem tw_212 : Cond.methodLink "RequestCutter" 114 Lib.Math.min.name ∈ lw_g := List.mem_filter.mpr ⟨List.mem_of_getElem? (i := 212) rfl, rfl⟩
theorem tw_213 : Cond.methodLink "RequestCutter" 111 yX2_addPlainWords ∈ lw_g := List.mem_filter.mpr ⟨List.mem_of_getElem? (i := 213) rfl, rfl⟩
theorem tw_215 : Cond.instanceMethod yX2_addPlainWords ∈ lw_g := List.mem_filter.mpr ⟨List.mem_of_getElem? (i := 215) rfl, rfl⟩
theorem tw_216 : Cond.code yX2_addPlainWords prog_1_method_19_code 4 none ∈ lw_g := List.mem_filter.mpr ⟨List.mem_of_getElem? (i := 216) rfl, rfl⟩
theorem tw_217 : Cond.methodLink "RequestCutter" 68 yX1_keepBytes ∈ lw_g := List.mem_filter.mpr ⟨List.mem_of_getElem? (i := 217) rfl, rfl⟩
theorem tw_218 : Cond.instanceMethod yX1_keepBytes ∈ lw_g := List.mem_filter.mpr ⟨List.mem_of_getElem? (i := 218) rfl, rfl⟩
theorem tw_219 : Cond.selects "RequestCutter$WordRow" yX1_keepBytes yX1_keepBytes ∈ lw_g := List.mem_filter.mpr ⟨List.mem_of_getElem? (i := 219) rfl, rfl⟩
theorem tw_220 : Cond.code yX1_keepBytes prog_3_method_5_code 3 none ∈ lw_g := List.mem_filter.mpr ⟨List.mem_of_getElem? (i := 220) rfl, rfl⟩
theorem tw_221 : Cond.methodLink "RequestCutter$WordRow" 47 yX0_addFirstOf ∈ lw_g := List.mem_filter.mpr ⟨List.mem_of_getElem? (i := 221) rfl, rfl⟩
theorem tw_222 : Cond.methodLink "RequestCutter" 72 yX0_removeFirst ∈ lw_g := List.mem_filter.mpr ⟨List.mem_of_getElem? (i := 222) rfl, rfl⟩
theorem tw_223 : Cond.instanceMethod yX0_removeFirst ∈ lw_g := List.mem_filter.mpr ⟨List.mem_of_getElem? (i := 223) rfl, rfl⟩
theorem tw_224 : Cond.selects "RequestCutter$ByteRow" yX0_removeFirst yX0_removeFirst ∈ lw_g := List.mem_filter.mpr ⟨List.mem_of_getElem? (i := 224) rfl, rfl⟩
theorem tw_225 : Cond.code yX0_removeFirst prog_2_method_9_code 2 (some .boolean) ∈ lw_g := List.mem_filter.mpr ⟨List.mem_of_getElem? (i := 225) rfl, rfl⟩
theorem tw_226 : Cond.methodLink "RequestCutter" 75 yX1_count ∈ lw_g := List.mem_filter.mpr ⟨List.mem_of_getElem? (i := 226) rfl, rfl⟩
theorem tw_227 : Cond.instanceMethod yX1_count ∈ lw_g := List.mem_filter.mpr ⟨List.mem_of_getElem? (i := 227) rfl, rfl⟩
theorem tw_228 : Cond.selects "RequestCutter$WordRow" yX1_count yX1_count ∈ lw_g := List.mem_filter.mpr ⟨List.mem_of_getElem? (i := 228) rfl, rfl⟩
theorem tw_229 : Cond.code yX1_count prog_3_method_2_code 1 (some .int) ∈ lw_g := List.mem_filter.mpr ⟨List.mem_of_getElem? (i := 229) rfl, rfl⟩
theorem tw_230 : Cond.methodLink "RequestCutterLaw" 32 yX2_fault ∈ lw_g := List.mem_filter.mpr ⟨List.mem_of_getElem? (i := 230) rfl, rfl⟩
theorem tw_231 : Cond.instanceMethod yX2_fault ∈ lw_g := List.mem_filter.mpr ⟨List.mem_of_getElem? (i := 231) rfl, rfl⟩
theorem tw_232 : Cond.selects "RequestCutter" yX2_fault yX2_fault ∈ lw_g := List.mem_filter.mpr ⟨List.mem_of_getElem? (i := 232) rfl, rfl⟩
theorem tw_233 : Cond.code yX2_fault prog_1_method_6_code 1 (some .int) ∈ lw_g := List.mem_filter.mpr ⟨List.mem_of_getElem? (i := 233) rfl, rfl⟩
theorem tw_234 : Cond.methodLink "RequestCutterLaw" 36 yX2_size ∈ lw_g := List.mem_filter.mpr ⟨List.mem_of_getElem? (i := 234) rfl, rfl⟩
theorem tw_235 : Cond.instanceMethod yX2_size ∈ lw_g := List.mem_filter.mpr ⟨List.mem_of_getElem? (i := 235) rfl, rfl⟩
theorem tw_236 : Cond.selects "RequestCutter" yX2_size yX2_size ∈ lw_g := List.mem_filter.mpr ⟨List.mem_of_getElem? (i := 236) rfl, rfl⟩
theorem tw_237 : Cond.code yX2_size prog_1_method_7_code 2 (some .int) ∈ lw_g := List.mem_filter.mpr ⟨List.mem_of_getElem? (i := 237) rfl, rfl⟩
theorem tw_238 : Cond.methodLink "RequestCutter" 76 yX1_sizeOf ∈ lw_g := List.mem_filter.mpr ⟨List.mem_of_getElem? (i := 238) rfl, rfl⟩
theorem tw_239 : Cond.instanceMethod yX1_sizeOf ∈ lw_g := List.mem_filter.mpr ⟨List.mem_of_getElem? (i := 239) rfl, rfl⟩
theorem tw_240 : Cond.selects "RequestCutter$WordRow" yX1_sizeOf yX1_sizeOf ∈ lw_g := List.mem_filter.mpr ⟨List.mem_of_getElem? (i := 240) rfl, rfl⟩
theorem tw_241 : Cond.code yX1_sizeOf prog_3_method_6_code 2 (some .int) ∈ lw_g := List.mem_filter.mpr ⟨List.mem_of_getElem? (i := 241) rfl, rfl⟩
theorem tw_242 : Cond.methodLink "RequestCutterLaw" 41 yX2_byteOf ∈ lw_g := List.mem_filter.mpr ⟨List.mem_of_getElem? (i := 242) rfl, rfl⟩
theorem tw_243 : Cond.instanceMethod yX2_byteOf ∈ lw_g := List.mem_filter.mpr ⟨List.mem_of_getElem? (i := 243) rfl, rfl⟩
theorem tw_244 : Cond.selects "RequestCutter" yX2_byteOf yX2_byteOf ∈ lw_g := List.mem_filter.mpr ⟨List.mem_of_getElem? (i := 244) rfl, rfl⟩
theorem tw_245 : Cond.code yX2_byteOf prog_1_method_8_code 3 (some .int) ∈ lw_g := List.mem_filter.mpr ⟨List.mem_of_getElem? (i := 245) rfl, rfl⟩
theorem tw_246 : Cond.methodLink "RequestCutter" 79 yX1_byteAt ∈ lw_g := List.mem_filter.mpr ⟨List.mem_of_getElem? (i := 246) rfl, rfl⟩
theorem tw_247 : Cond.instanceMethod yX1_byteAt ∈ lw_g := List.mem_filter.mpr ⟨List.mem_of_getElem? (i := 247) rfl, rfl⟩
theorem tw_248 : Cond.selects "RequestCutter$WordRow" yX1_byteAt yX1_byteAt ∈ lw_g := List.mem_filter.mpr ⟨List.mem_of_getElem? (i := 248) rfl, rfl⟩
theorem tw_249 : Cond.code yX1_byteAt prog_3_method_7_code 3 (some .int) ∈ lw_g := List.mem_filter.mpr ⟨List.mem_of_getElem? (i := 249) rfl, rfl⟩
theorem tw_250 : Cond.methodLink "RequestCutter$WordRow" 51 yX0_at ∈ lw_g := List.mem_filter.mpr ⟨List.mem_of_getElem? (i := 250) rfl, rfl⟩
theorem tw_251 : Cond.methodLink "RequestCutterLaw" 46 yX2_drop ∈ lw_g := List.mem_filter.mpr ⟨List.mem_of_getElem? (i := 251) rfl, rfl⟩
theorem tw_252 : Cond.instanceMethod yX2_drop ∈ lw_g := List.mem_filter.mpr ⟨List.mem_of_getElem? (i := 252) rfl, rfl⟩
theorem tw_253 : Cond.selects "RequestCutter" yX2_drop yX2_drop ∈ lw_g := List.mem_filter.mpr ⟨List.mem_of_getElem? (i := 253) rfl, rfl⟩
theorem tw_254 : Cond.code yX2_drop prog_1_method_9_code 2 (some .boolean) ∈ lw_g := List.mem_filter.mpr ⟨List.mem_of_getElem? (i := 254) rfl, rfl⟩
theorem tw_255 : Cond.methodLink "RequestCutterLaw" 50 yX2_waiting ∈ lw_g := List.mem_filter.mpr ⟨List.mem_of_getElem? (i := 255) rfl, rfl⟩
theorem tw_256 : Cond.instanceMethod yX2_waiting ∈ lw_g := List.mem_filter.mpr ⟨List.mem_of_getElem? (i := 256) rfl, rfl⟩
theorem tw_257 : Cond.selects "RequestCutter" yX2_waiting yX2_waiting ∈ lw_g := List.mem_filter.mpr ⟨List.mem_of_getElem? (i := 257) rfl, rfl⟩
theorem tw_258 : Cond.code yX2_waiting prog_1_method_10_code 1 (some .int) ∈ lw_g := List.mem_filter.mpr ⟨List.mem_of_getElem? (i := 258) rfl, rfl⟩
theorem tw_259 : Cond.classLink "RequestCutterLaw" 10 "RequestCutterModel" ∈ lw_g := List.mem_filter.mpr ⟨List.mem_of_getElem? (i := 259) rfl, rfl⟩
theorem tw_260 : Cond.instantiable "RequestCutterModel" 11 ∈ lw_g := List.mem_filter.mpr ⟨List.mem_of_getElem? (i := 260) rfl, rfl⟩
theorem tw_261 : Cond.methodLink "RequestCutterLaw" 12 yX3_init ∈ lw_g := List.mem_filter.mpr ⟨List.mem_of_getElem? (i := 261) rfl, rfl⟩
theorem tw_262 : Cond.instanceMethod yX3_init ∈ lw_g := List.mem_filter.mpr ⟨List.mem_of_getElem? (i := 262) rfl, rfl⟩
theorem tw_263 : Cond.code yX3_init prog_5_method_1_code 1 none ∈ lw_g := List.mem_filter.mpr ⟨List.mem_of_getElem? (i := 263) rfl, rfl⟩
theorem tw_264 : Cond.methodLink "RequestCutterModel" 1 objectInit ∈ lw_g := List.mem_filter.mpr ⟨List.mem_of_getElem? (i := 264) rfl, rfl⟩
theorem tw_265 : Cond.constant "RequestCutterModel" 13 (65536) ∈ lw_g := List.mem_filter.mpr ⟨List.mem_of_getElem? (i := 265) rfl, rfl⟩
theorem tw_266 : Cond.fieldLink "RequestCutterModel" 7 "RequestCutterModel" "tape" "[B" ∈ lw_g := List.mem_filter.mpr ⟨List.mem_of_getElem? (i := 266) rfl, rfl⟩
theorem tw_267 : Cond.fieldLink "RequestCutterModel" 14 "RequestCutterModel" "input" "[B" ∈ lw_g := List.mem_filter.mpr ⟨List.mem_of_getElem? (i := 267) rfl, rfl⟩
theorem tw_268 : Cond.fieldLink "RequestCutterModel" 17 "RequestCutterModel" "kept" "[B" ∈ lw_g := List.mem_filter.mpr ⟨List.mem_of_getElem? (i := 268) rfl, rfl⟩
theorem tw_269 : Cond.fieldLink "RequestCutterModel" 20 "RequestCutterModel" "from" "[I" ∈ lw_g := List.mem_filter.mpr ⟨List.mem_of_getElem? (i := 269) rfl, rfl⟩
theorem tw_270 : Cond.fieldLink "RequestCutterModel" 24 "RequestCutterModel" "long1" "[I" ∈ lw_g := List.mem_filter.mpr ⟨List.mem_of_getElem? (i := 270) rfl, rfl⟩
theorem tw_271 : Cond.fieldLink "RequestCutterModel" 27 "RequestCutterModel" "taped" "I" ∈ lw_g := List.mem_filter.mpr ⟨List.mem_of_getElem? (i := 271) rfl, rfl⟩
theorem tw_272 : Cond.fieldLink "RequestCutterModel" 35 "RequestCutterModel" "waits" "I" ∈ lw_g := List.mem_filter.mpr ⟨List.mem_of_getElem? (i := 272) rfl, rfl⟩
theorem tw_273 : Cond.fieldLink "RequestCutterModel" 46 "RequestCutterModel" "words" "I" ∈ lw_g := List.mem_filter.mpr ⟨List.mem_of_getElem? (i := 273) rfl, rfl⟩
theorem tw_274 : Cond.fieldLink "RequestCutterModel" 49 "RequestCutterModel" "keptSize" "I" ∈ lw_g := List.mem_filter.mpr ⟨List.mem_of_getElem? (i := 274) rfl, rfl⟩
theorem tw_275 : Cond.fieldLink "RequestCutterModel" 56 "RequestCutterModel" "fault" "I" ∈ lw_g := List.mem_filter.mpr ⟨List.mem_of_getElem? (i := 275) rfl, rfl⟩
theorem tw_276 : Cond.fieldLink "RequestCutterModel" 41 "RequestCutterModel" "at" "I" ∈ lw_g := List.mem_filter.mpr ⟨List.mem_of_getElem? (i := 276) rfl, rfl⟩
theorem tw_277 : Cond.laysFinal "RequestCutterModel" "RequestCutterModel" "tape" "[B" ∈ lw_g := List.mem_filter.mpr ⟨List.mem_of_getElem? (i := 277) rfl, rfl⟩
theorem tw_279 : Cond.laysFinal "RequestCutterModel" "RequestCutterModel" "input" "[B" ∈ lw_g := List.mem_filter.mpr ⟨List.mem_of_getElem? (i := 279) rfl, rfl⟩
theorem tw_281 : Cond.laysFinal "RequestCutterModel" "RequestCutterModel" "kept" "[B" ∈ lw_g := List.mem_filter.mpr ⟨List.mem_of_getElem? (i := 281) rfl, rfl⟩
theorem tw_283 : Cond.laysFinal "RequestCutterModel" "RequestCutterModel" "from" "[I" ∈ lw_g := List.mem_filter.mpr ⟨List.mem_of_getElem? (i := 283) rfl, rfl⟩
theorem tw_285 : Cond.laysFinal "RequestCutterModel" "RequestCutterModel" "long1" "[I" ∈ lw_g := List.mem_filter.mpr ⟨List.mem_of_getElem? (i := 285) rfl, rfl⟩
theorem tw_287 : Cond.lays "RequestCutterModel" "RequestCutterModel" "taped" "I" ∈ lw_g := List.mem_filter.mpr ⟨List.mem_of_getElem? (i := 287) rfl, rfl⟩
theorem tw_289 : Cond.lays "RequestCutterModel" "RequestCutterModel" "waits" "I" ∈ lw_g := List.mem_filter.mpr ⟨List.mem_of_getElem? (i := 289) rfl, rfl⟩
theorem tw_291 : Cond.lays "RequestCutterModel" "RequestCutterModel" "words" "I" ∈ lw_g := List.mem_filter.mpr ⟨List.mem_of_getElem? (i := 291) rfl, rfl⟩
theorem tw_293 : Cond.lays "RequestCutterModel" "RequestCutterModel" "keptSize" "I" ∈ lw_g := List.mem_filter.mpr ⟨List.mem_of_getElem? (i := 293) rfl, rfl⟩
theorem tw_295 : Cond.lays "RequestCutterModel" "RequestCutterModel" "fault" "I" ∈ lw_g := List.mem_filter.mpr ⟨List.mem_of_getElem? (i := 295) rfl, rfl⟩
theorem tw_297 : Cond.lays "RequestCutterModel" "RequestCutterModel" "at" "I" ∈ lw_g := List.mem_filter.mpr ⟨List.mem_of_getElem? (i := 297) rfl, rfl⟩
theorem tw_300 : Cond.methodLink "RequestCutterLaw" 17 yX3_feed ∈ lw_g := List.mem_filter.mpr ⟨List.mem_of_getElem? (i := 300) rfl, rfl⟩
theorem tw_301 : Cond.instanceMethod yX3_feed ∈ lw_g := List.mem_filter.mpr ⟨List.mem_of_getElem? (i := 301) rfl, rfl⟩
theorem tw_302 : Cond.selects "RequestCutterModel" yX3_feed yX3_feed ∈ lw_g := List.mem_filter.mpr ⟨List.mem_of_getElem? (i := 302) rfl, rfl⟩
theorem tw_303 : Cond.code yX3_feed prog_5_method_3_code 6 (some .boolean) ∈ lw_g := List.mem_filter.mpr ⟨List.mem_of_getElem? (i := 303) rfl, rfl⟩
theorem tw_304 : Cond.methodLink "RequestCutterModel" 31 yX3_lay ∈ lw_g := List.mem_filter.mpr ⟨List.mem_of_getElem? (i := 304) rfl, rfl⟩
theorem tw_306 : Cond.instanceMethod yX3_lay ∈ lw_g := List.mem_filter.mpr ⟨List.mem_of_getElem? (i := 306) rfl, rfl⟩
theorem tw_307 : Cond.code yX3_lay prog_5_method_2_code 3 none ∈ lw_g := List.mem_filter.mpr ⟨List.mem_of_getElem? (i := 307) rfl, rfl⟩
theorem tw_308 : Cond.methodLink "RequestCutterLaw" 22 yX3_end ∈ lw_g := List.mem_filter.mpr ⟨List.mem_of_getElem? (i := 308) rfl, rfl⟩
theorem tw_309 : Cond.instanceMethod yX3_end ∈ lw_g := List.mem_filter.mpr ⟨List.mem_of_getElem? (i := 309) rfl, rfl⟩
theorem tw_310 : Cond.selects "RequestCutterModel" yX3_end yX3_end ∈ lw_g := List.mem_filter.mpr ⟨List.mem_of_getElem? (i := 310) rfl, rfl⟩
theorem tw_311 : Cond.code yX3_end prog_5_method_4_code 2 (some .boolean) ∈ lw_g := List.mem_filter.mpr ⟨List.mem_of_getElem? (i := 311) rfl, rfl⟩
theorem tw_312 : Cond.methodLink "RequestCutterLaw" 27 yX3_arrive ∈ lw_g := List.mem_filter.mpr ⟨List.mem_of_getElem? (i := 312) rfl, rfl⟩
theorem tw_313 : Cond.instanceMethod yX3_arrive ∈ lw_g := List.mem_filter.mpr ⟨List.mem_of_getElem? (i := 313) rfl, rfl⟩
theorem tw_314 : Cond.selects "RequestCutterModel" yX3_arrive yX3_arrive ∈ lw_g := List.mem_filter.mpr ⟨List.mem_of_getElem? (i := 314) rfl, rfl⟩
theorem tw_315 : Cond.code yX3_arrive prog_5_method_5_code 3 (some .int) ∈ lw_g := List.mem_filter.mpr ⟨List.mem_of_getElem? (i := 315) rfl, rfl⟩
theorem tw_316 : Cond.methodLink "RequestCutterLaw" 49 yX3_drop ∈ lw_g := List.mem_filter.mpr ⟨List.mem_of_getElem? (i := 316) rfl, rfl⟩
theorem tw_317 : Cond.instanceMethod yX3_drop ∈ lw_g := List.mem_filter.mpr ⟨List.mem_of_getElem? (i := 317) rfl, rfl⟩
theorem tw_318 : Cond.selects "RequestCutterModel" yX3_drop yX3_drop ∈ lw_g := List.mem_filter.mpr ⟨List.mem_of_getElem? (i := 318) rfl, rfl⟩
theorem tw_319 : Cond.code yX3_drop prog_5_method_7_code 2 (some .boolean) ∈ lw_g := List.mem_filter.mpr ⟨List.mem_of_getElem? (i := 319) rfl, rfl⟩
theorem tw_320 : Cond.methodLink "RequestCutterModel" 38 yX3_go ∈ lw_g := List.mem_filter.mpr ⟨List.mem_of_getElem? (i := 320) rfl, rfl⟩
theorem tw_322 : Cond.instanceMethod yX3_go ∈ lw_g := List.mem_filter.mpr ⟨List.mem_of_getElem? (i := 322) rfl, rfl⟩
theorem tw_323 : Cond.code yX3_go prog_5_method_6_code 3 none ∈ lw_g := List.mem_filter.mpr ⟨List.mem_of_getElem? (i := 323) rfl, rfl⟩
theorem tw_324 : Cond.methodLink "RequestCutterLaw" 31 yX3_cut ∈ lw_g := List.mem_filter.mpr ⟨List.mem_of_getElem? (i := 324) rfl, rfl⟩
theorem tw_325 : Cond.instanceMethod yX3_cut ∈ lw_g := List.mem_filter.mpr ⟨List.mem_of_getElem? (i := 325) rfl, rfl⟩
theorem tw_326 : Cond.selects "RequestCutterModel" yX3_cut yX3_cut ∈ lw_g := List.mem_filter.mpr ⟨List.mem_of_getElem? (i := 326) rfl, rfl⟩
theorem tw_327 : Cond.code yX3_cut prog_5_method_14_code 2 (some .int) ∈ lw_g := List.mem_filter.mpr ⟨List.mem_of_getElem? (i := 327) rfl, rfl⟩
theorem tw_328 : Cond.methodLink "RequestCutterModel" 71 yX3_cutTold ∈ lw_g := List.mem_filter.mpr ⟨List.mem_of_getElem? (i := 328) rfl, rfl⟩
theorem tw_330 : Cond.instanceMethod yX3_cutTold ∈ lw_g := List.mem_filter.mpr ⟨List.mem_of_getElem? (i := 330) rfl, rfl⟩
theorem tw_331 : Cond.code yX3_cutTold prog_5_method_12_code 4 (some .boolean) ∈ lw_g := List.mem_filter.mpr ⟨List.mem_of_getElem? (i := 331) rfl, rfl⟩
theorem tw_332 : Cond.methodLink "RequestCutterModel" 59 yX3_line ∈ lw_g := List.mem_filter.mpr ⟨List.mem_of_getElem? (i := 332) rfl, rfl⟩
theorem tw_334 : Cond.instanceMethod yX3_line ∈ lw_g := List.mem_filter.mpr ⟨List.mem_of_getElem? (i := 334) rfl, rfl⟩
theorem tw_335 : Cond.code yX3_line prog_5_method_8_code 8 (some .int) ∈ lw_g := List.mem_filter.mpr ⟨List.mem_of_getElem? (i := 335) rfl, rfl⟩
theorem tw_336 : Cond.constant "RequestCutterModel" 44 (-1000001) ∈ lw_g := List.mem_filter.mpr ⟨List.mem_of_getElem? (i := 336) rfl, rfl⟩
theorem tw_337 : Cond.constant "RequestCutterModel" 45 (-1000000) ∈ lw_g := List.mem_filter.mpr ⟨List.mem_of_getElem? (i := 337) rfl, rfl⟩
theorem tw_338 : Cond.methodLink "RequestCutterModel" 67 yX3_told ∈ lw_g := List.mem_filter.mpr ⟨List.mem_of_getElem? (i := 338) rfl, rfl⟩
theorem tw_340 : Cond.instanceMethod yX3_told ∈ lw_g := List.mem_filter.mpr ⟨List.mem_of_getElem? (i := 340) rfl, rfl⟩
theorem tw_341 : Cond.code yX3_told prog_5_method_11_code 6 (some .boolean) ∈ lw_g := List.mem_filter.mpr ⟨List.mem_of_getElem? (i := 341) rfl, rfl⟩
theorem tw_342 : Cond.methodLink "RequestCutterModel" 52 yX3_must ∈ lw_g := List.mem_filter.mpr ⟨List.mem_of_getElem? (i := 342) rfl, rfl⟩
theorem tw_344 : Cond.instanceMethod yX3_must ∈ lw_g := List.mem_filter.mpr ⟨List.mem_of_getElem? (i := 344) rfl, rfl⟩
theorem tw_345 : Cond.code yX3_must prog_5_method_10_code 3 (some .int) ∈ lw_g := List.mem_filter.mpr ⟨List.mem_of_getElem? (i := 345) rfl, rfl⟩
theorem tw_346 : Cond.methodLink "RequestCutterModel" 63 yX3_word ∈ lw_g := List.mem_filter.mpr ⟨List.mem_of_getElem? (i := 346) rfl, rfl⟩
theorem tw_348 : Cond.instanceMethod yX3_word ∈ lw_g := List.mem_filter.mpr ⟨List.mem_of_getElem? (i := 348) rfl, rfl⟩
theorem tw_349 : Cond.code yX3_word prog_5_method_9_code 4 none ∈ lw_g := List.mem_filter.mpr ⟨List.mem_of_getElem? (i := 349) rfl, rfl⟩
theorem tw_350 : Cond.methodLink "RequestCutterModel" 74 yX3_cutLine ∈ lw_g := List.mem_filter.mpr ⟨List.mem_of_getElem? (i := 350) rfl, rfl⟩
theorem tw_352 : Cond.instanceMethod yX3_cutLine ∈ lw_g := List.mem_filter.mpr ⟨List.mem_of_getElem? (i := 352) rfl, rfl⟩
theorem tw_353 : Cond.code yX3_cutLine prog_5_method_13_code 5 (some .boolean) ∈ lw_g := List.mem_filter.mpr ⟨List.mem_of_getElem? (i := 353) rfl, rfl⟩
theorem tw_354 : Cond.methodLink "RequestCutterLaw" 35 yX3_fault ∈ lw_g := List.mem_filter.mpr ⟨List.mem_of_getElem? (i := 354) rfl, rfl⟩
theorem tw_355 : Cond.instanceMethod yX3_fault ∈ lw_g := List.mem_filter.mpr ⟨List.mem_of_getElem? (i := 355) rfl, rfl⟩
theorem tw_356 : Cond.selects "RequestCutterModel" yX3_fault yX3_fault ∈ lw_g := List.mem_filter.mpr ⟨List.mem_of_getElem? (i := 356) rfl, rfl⟩
theorem tw_357 : Cond.code yX3_fault prog_5_method_15_code 1 (some .int) ∈ lw_g := List.mem_filter.mpr ⟨List.mem_of_getElem? (i := 357) rfl, rfl⟩
theorem tw_358 : Cond.methodLink "RequestCutterLaw" 40 yX3_size ∈ lw_g := List.mem_filter.mpr ⟨List.mem_of_getElem? (i := 358) rfl, rfl⟩
theorem tw_359 : Cond.instanceMethod yX3_size ∈ lw_g := List.mem_filter.mpr ⟨List.mem_of_getElem? (i := 359) rfl, rfl⟩
theorem tw_360 : Cond.selects "RequestCutterModel" yX3_size yX3_size ∈ lw_g := List.mem_filter.mpr ⟨List.mem_of_getElem? (i := 360) rfl, rfl⟩
theorem tw_361 : Cond.code yX3_size prog_5_method_16_code 2 (some .int) ∈ lw_g := List.mem_filter.mpr ⟨List.mem_of_getElem? (i := 361) rfl, rfl⟩
theorem tw_362 : Cond.methodLink "RequestCutterLaw" 45 yX3_byteOf ∈ lw_g := List.mem_filter.mpr ⟨List.mem_of_getElem? (i := 362) rfl, rfl⟩
theorem tw_363 : Cond.instanceMethod yX3_byteOf ∈ lw_g := List.mem_filter.mpr ⟨List.mem_of_getElem? (i := 363) rfl, rfl⟩
theorem tw_364 : Cond.selects "RequestCutterModel" yX3_byteOf yX3_byteOf ∈ lw_g := List.mem_filter.mpr ⟨List.mem_of_getElem? (i := 364) rfl, rfl⟩
theorem tw_365 : Cond.code yX3_byteOf prog_5_method_17_code 3 (some .int) ∈ lw_g := List.mem_filter.mpr ⟨List.mem_of_getElem? (i := 365) rfl, rfl⟩
theorem tw_366 : Cond.methodLink "RequestCutterModel" 77 yX3_size ∈ lw_g := List.mem_filter.mpr ⟨List.mem_of_getElem? (i := 366) rfl, rfl⟩
theorem tw_367 : Cond.methodLink "RequestCutterLaw" 53 yX3_waiting ∈ lw_g := List.mem_filter.mpr ⟨List.mem_of_getElem? (i := 367) rfl, rfl⟩
theorem tw_368 : Cond.instanceMethod yX3_waiting ∈ lw_g := List.mem_filter.mpr ⟨List.mem_of_getElem? (i := 368) rfl, rfl⟩
theorem tw_369 : Cond.selects "RequestCutterModel" yX3_waiting yX3_waiting ∈ lw_g := List.mem_filter.mpr ⟨List.mem_of_getElem? (i := 369) rfl, rfl⟩
theorem tw_370 : Cond.code yX3_waiting prog_5_method_18_code 1 (some .int) ∈ lw_g := List.mem_filter.mpr ⟨List.mem_of_getElem? (i := 370) rfl, rfl⟩
theorem inX0 : ∀ w ∈ u_ws "RequestCutter$ByteRow" TX0 3, w ∈ lw_g := List.forall_mem_cons.mpr ⟨tw_43, List.forall_mem_cons.mpr ⟨tw_45, List.forall_mem_cons.mpr ⟨tw_47, fun _ h => absurd h List.not_mem_nil⟩⟩⟩
theorem inX1 : ∀ w ∈ u_ws "RequestCutter$WordRow" TX1 4, w ∈ lw_g := List.forall_mem_cons.mpr ⟨tw_65, List.forall_mem_cons.mpr ⟨tw_67, List.forall_mem_cons.mpr ⟨tw_69, List.forall_mem_cons.mpr ⟨tw_71, fun _ h => absurd h List.not_mem_nil⟩⟩⟩⟩
theorem inX2 : ∀ w ∈ u_ws "RequestCutter" TX2 5, w ∈ lw_g := List.forall_mem_cons.mpr ⟨tw_80, List.forall_mem_cons.mpr ⟨tw_82, List.forall_mem_cons.mpr ⟨tw_84, List.forall_mem_cons.mpr ⟨tw_86, List.forall_mem_cons.mpr ⟨tw_88, fun _ h => absurd h List.not_mem_nil⟩⟩⟩⟩⟩
theorem inX3 : ∀ w ∈ u_ws "RequestCutterModel" TX3 11, w ∈ lw_g := List.forall_mem_cons.mpr ⟨tw_277, List.forall_mem_cons.mpr ⟨tw_279, List.forall_mem_cons.mpr ⟨tw_281, List.forall_mem_cons.mpr ⟨tw_283, List.forall_mem_cons.mpr ⟨tw_285, List.forall_mem_cons.mpr ⟨tw_287, List.forall_mem_cons.mpr ⟨tw_289, List.forall_mem_cons.mpr ⟨tw_291, List.forall_mem_cons.mpr ⟨tw_293, List.forall_mem_cons.mpr ⟨tw_295, List.forall_mem_cons.mpr ⟨tw_297, fun _ h => absurd h List.not_mem_nil⟩⟩⟩⟩⟩⟩⟩⟩⟩⟩⟩
abbrev wX2_init : List Cond := .code yX2_init cX2_init 1 none :: lw_g
abbrev wX0_init : List Cond := .code yX0_init cX0_init 2 none :: lw_g
abbrev wX1_init : List Cond := .code yX1_init cX1_init 1 none :: lw_g
abbrev wX2_feed : List Cond := .code yX2_feed cX2_feed 6 (some .boolean) :: lw_g
abbrev wX0_makeRoom : List Cond := .code yX0_makeRoom cX0_makeRoom 4 (some .boolean) :: lw_g
abbrev wJ7_copyB : List Cond := .code yJ7_copyB cJ7_copyB 3 (some (.array .byte)) :: lw_g
abbrev wX0_addNumber : List Cond := .code yX0_addNumber cX0_addNumber 3 none :: lw_g
abbrev wX2_end : List Cond := .code yX2_end cX2_end 2 (some .boolean) :: lw_g
abbrev wX0_keepFirst : List Cond := .code yX0_keepFirst cX0_keepFirst 2 (some .boolean) :: lw_g
abbrev wX2_arrive : List Cond := .code yX2_arrive cX2_arrive 2 (some .int) :: lw_g
abbrev wX0_count : List Cond := .code yX0_count cX0_count 1 (some .int) :: lw_g
abbrev wX0_addFirstOf : List Cond := .code yX0_addFirstOf cX0_addFirstOf 3 (some .boolean) :: lw_g
abbrev wX0_clear : List Cond := .code yX0_clear cX0_clear 1 none :: lw_g
abbrev wX2_cut : List Cond := .code yX2_cut cX2_cut 2 (some .int) :: lw_g
abbrev wX1_clear : List Cond := .code yX1_clear cX1_clear 1 none :: lw_g
abbrev wX0_at : List Cond := .code yX0_at cX0_at 2 (some .int) :: lw_g
abbrev wX2_scanCounted : List Cond := .code yX2_scanCounted cX2_scanCounted 4 (some .int) :: lw_g
abbrev wX2_scanLine : List Cond := .code yX2_scanLine cX2_scanLine 6 (some .int) :: lw_g
abbrev wX2_findLineStop : List Cond := .code yX2_findLineStop cX2_findLineStop 3 (some .int) :: lw_g
abbrev wX2_tell : List Cond := .code yX2_tell cX2_tell 2 (some .int) :: lw_g
abbrev wX2_readNumber : List Cond := .code yX2_readNumber cX2_readNumber 8 (some .boolean) :: lw_g
abbrev wX2_scanWord : List Cond := .code yX2_scanWord cX2_scanWord 4 (some .int) :: lw_g
abbrev wX1_add : List Cond := .code yX1_add cX1_add 4 none :: lw_g
abbrev wJ7_copyI : List Cond := .code yJ7_copyI cJ7_copyI 3 (some (.array .int)) :: lw_g
abbrev wX2_scanWordEnd : List Cond := .code yX2_scanWordEnd cX2_scanWordEnd 4 (some .int) :: lw_g
abbrev wX2_scanPlain : List Cond := .code yX2_scanPlain cX2_scanPlain 3 (some .int) :: lw_g
abbrev wX2_findLineFeed : List Cond := .code yX2_findLineFeed cX2_findLineFeed 3 (some .int) :: lw_g
abbrev wX2_addPlainWords : List Cond := .code yX2_addPlainWords cX2_addPlainWords 4 none :: lw_g
abbrev wX1_keepBytes : List Cond := .code yX1_keepBytes cX1_keepBytes 3 none :: lw_g
abbrev wX0_removeFirst : List Cond := .code yX0_removeFirst cX0_removeFirst 2 (some .boolean) :: lw_g
abbrev wX1_count : List Cond := .code yX1_count cX1_count 1 (some .int) :: lw_g
abbrev wX2_fault : List Cond := .code yX2_fault cX2_fault 1 (some .int) :: lw_g
abbrev wX2_size : List Cond := .code yX2_size cX2_size 2 (some .int) :: lw_g
abbrev wX1_sizeOf : List Cond := .code yX1_sizeOf cX1_sizeOf 2 (some .int) :: lw_g
abbrev wX2_byteOf : List Cond := .code yX2_byteOf cX2_byteOf 3 (some .int) :: lw_g
abbrev wX1_byteAt : List Cond := .code yX1_byteAt cX1_byteAt 3 (some .int) :: lw_g
abbrev wX2_drop : List Cond := .code yX2_drop cX2_drop 2 (some .boolean) :: lw_g
abbrev wX2_waiting : List Cond := .code yX2_waiting cX2_waiting 1 (some .int) :: lw_g
abbrev wX3_init : List Cond := .code yX3_init cX3_init 1 none :: lw_g
abbrev wX3_feed : List Cond := .code yX3_feed cX3_feed 6 (some .boolean) :: lw_g
abbrev wX3_lay : List Cond := .code yX3_lay cX3_lay 3 none :: lw_g
abbrev wX3_end : List Cond := .code yX3_end cX3_end 2 (some .boolean) :: lw_g
abbrev wX3_arrive : List Cond := .code yX3_arrive cX3_arrive 3 (some .int) :: lw_g
abbrev wX3_drop : List Cond := .code yX3_drop cX3_drop 2 (some .boolean) :: lw_g
abbrev wX3_go : List Cond := .code yX3_go cX3_go 3 none :: lw_g
abbrev wX3_cut : List Cond := .code yX3_cut cX3_cut 2 (some .int) :: lw_g
abbrev wX3_cutTold : List Cond := .code yX3_cutTold cX3_cutTold 4 (some .boolean) :: lw_g
abbrev wX3_line : List Cond := .code yX3_line cX3_line 8 (some .int) :: lw_g
abbrev wX3_told : List Cond := .code yX3_told cX3_told 6 (some .boolean) :: lw_g
abbrev wX3_must : List Cond := .code yX3_must cX3_must 3 (some .int) :: lw_g
abbrev wX3_word : List Cond := .code yX3_word cX3_word 4 none :: lw_g
abbrev wX3_cutLine : List Cond := .code yX3_cutLine cX3_cutLine 5 (some .boolean) :: lw_g
abbrev wX3_fault : List Cond := .code yX3_fault cX3_fault 1 (some .int) :: lw_g
abbrev wX3_size : List Cond := .code yX3_size cX3_size 2 (some .int) :: lw_g
abbrev wX3_byteOf : List Cond := .code yX3_byteOf cX3_byteOf 3 (some .int) :: lw_g
abbrev wX3_waiting : List Cond := .code yX3_waiting cX3_waiting 1 (some .int) :: lw_g
theorem lw_g_in {w : Cond} (h : w ∈ lw_g) : w ∈ lw_tbl := (List.mem_filter.mp h).1
theorem gd_of {w : Cond} (h : w ∈ lw_g) : (w.onTables && w.keeps) = true ∨ ∃ ty, w = .arrayClass ty := good_of_word (List.mem_filter.mp h).2
/-- a virtual call's words, in a method's list -/
theorem gd_V {x0 : Cond} {own C : String} {idx : Nat} {y : MethodName} {b : ByteArray} {n : Nat} {r : Option FieldType} (h1 : Cond.methodLink own idx y ∈ lw_g) (h2 : Cond.instanceMethod y ∈ lw_g) (h3 : Cond.selects C y y ∈ lw_g) (h4 : Cond.initialized C ∈ lw_g) (h5 : Cond.code y b n r ∈ lw_g) : GoodIn (x0 :: lw_g) (wsV own idx C y (.code y b n r :: lw_g)) := by
  intro w hw
  have hm : w ∈ lw_g := by
    rcases List.mem_append.mp hw with h | h
    · rcases List.mem_cons.mp h with rfl | h
      · exact h1
      rcases List.mem_cons.mp h with rfl | h
      · exact h2
      rcases List.mem_cons.mp h with rfl | h
      · exact h3
      rcases List.mem_cons.mp h with rfl | h
      · exact h4
      exact absurd h List.not_mem_nil
    · rcases List.mem_cons.mp h with rfl | h
      · exact h5
      · exact h
  exact ⟨List.mem_cons_of_mem _ hm, gd_of hm⟩
/-- .. in the law's -/
theorem gd_VL {own C : String} {idx : Nat} {y : MethodName} {b : ByteArray} {n : Nat} {r : Option FieldType} (h1 : Cond.methodLink own idx y ∈ lw_g) (h2 : Cond.instanceMethod y ∈ lw_g) (h3 : Cond.selects C y y ∈ lw_g) (h4 : Cond.initialized C ∈ lw_g) (h5 : Cond.code y b n r ∈ lw_g) : GoodIn lw_g (wsV own idx C y (.code y b n r :: lw_g)) := fun w hw => by
  have h := gd_V (x0 := Cond.code y b n r) h1 h2 h3 h4 h5 w hw
  rcases List.mem_cons.mp h.1 with rfl | q
  · exact ⟨h5, h.2⟩
  · exact ⟨q, h.2⟩
/-- a constructor's -/
theorem gd_I {x0 : Cond} {y : MethodName} {b : ByteArray} {n : Nat} {r : Option FieldType} (h5 : Cond.code y b n r ∈ lw_g) : GoodIn (x0 :: lw_g) (.code y b n r :: lw_g) := by
  intro w hw
  have hm : w ∈ lw_g := by
    rcases List.mem_cons.mp hw with rfl | h
    · exact h5
    · exact h
  exact ⟨List.mem_cons_of_mem _ hm, gd_of hm⟩
theorem gd_IL {y : MethodName} {b : ByteArray} {n : Nat} {r : Option FieldType} (h5 : Cond.code y b n r ∈ lw_g) : GoodIn lw_g (.code y b n r :: lw_g) := by
  intro w hw
  have hm : w ∈ lw_g := by
    rcases List.mem_cons.mp hw with rfl | h
    · exact h5
    · exact h
  exact ⟨hm, gd_of hm⟩
/-- a static call's -/
theorem gd_S {x0 : Cond} {own : String} {idx : Nat} {y : MethodName} {b : ByteArray} {n : Nat} {r : Option FieldType} (h1 : Cond.methodLink own idx y ∈ lw_g) (h2 : Cond.static y ∈ lw_g) (h4 : Cond.initialized y.cls ∈ lw_g) (h5 : Cond.code y b n r ∈ lw_g) : GoodIn (x0 :: lw_g) (va_wsS own idx y (.code y b n r :: lw_g)) := by
  intro w hw
  have hm : w ∈ lw_g := by
    rcases List.mem_append.mp hw with h | h
    · rcases List.mem_cons.mp h with rfl | h
      · exact h1
      rcases List.mem_cons.mp h with rfl | h
      · exact h2
      rcases List.mem_cons.mp h with rfl | h
      · exact h4
      exact absurd h List.not_mem_nil
    · rcases List.mem_cons.mp h with rfl | h
      · exact h5
      · exact h
  exact ⟨List.mem_cons_of_mem _ hm, gd_of hm⟩
