/-- every word of the tables that a call may hand on -/
def WT : List Cond := lw_tbl.filter goodWord
theorem WT_good : ∀ w ∈ WT, (w.onTables && w.keeps) = true ∨ ∃ ty, w = .arrayClass ty := fun _ h => good_of_word (List.mem_filter.mp h).2
theorem WT_in : ∀ w ∈ WT, w ∈ lw_tbl := fun _ h => (List.mem_filter.mp h).1
theorem WT_of {w : Cond} (i : Nat) (h : lw_tbl[i]? = some w) (g : goodWord w = true) : w ∈ WT := List.mem_filter.mpr ⟨List.mem_of_getElem? h, g⟩
theorem gA {Ts : List Cond} (hTs : ∀ w ∈ WT, w ∈ Ts) : ∀ w ∈ WT, w ∈ Ts ∧ ((w.onTables && w.keeps) = true ∨ ∃ ty, w = .arrayClass ty) := fun w h => ⟨hTs w h, WT_good w h⟩
theorem gW {Ts : List Cond} (hTs : ∀ w ∈ WT, w ∈ Ts) {cd : Cond} (h4 : cd ∈ WT) : GoodIn Ts (cd :: WT) := by
  intro w hw
  rcases List.mem_cons.mp hw with rfl | hw
  · exact gA hTs _ h4
  · exact gA hTs _ hw
theorem gS {Ts : List Cond} (hTs : ∀ w ∈ WT, w ∈ Ts) {own : String} {idx : Nat} {y : MethodName} {cd : Cond} (h1 : Cond.methodLink own idx y ∈ WT) (h2 : Cond.static y ∈ WT) (h3 : Cond.initialized y.cls ∈ WT) (h4 : cd ∈ WT) : GoodIn Ts (va_wsS own idx y (cd :: WT)) := by
  intro w hw
  simp only [va_wsS, List.cons_append, List.nil_append, List.mem_cons] at hw
  rcases hw with rfl | rfl | rfl | rfl | hw
  · exact gA hTs _ h1
  · exact gA hTs _ h2
  · exact gA hTs _ h3
  · exact gA hTs _ h4
  · exact gA hTs _ hw
theorem gV {Ts : List Cond} (hTs : ∀ w ∈ WT, w ∈ Ts) {own C : String} {idx : Nat} {y : MethodName} {cd : Cond} (h1 : Cond.methodLink own idx y ∈ WT) (h2 : Cond.instanceMethod y ∈ WT) (h5 : Cond.selects C y y ∈ WT) (h3 : Cond.initialized C ∈ WT) (h4 : cd ∈ WT) : GoodIn Ts (wsV own idx C y (cd :: WT)) := by
  intro w hw
  simp only [wsV, List.cons_append, List.nil_append, List.mem_cons] at hw
  rcases hw with rfl | rfl | rfl | rfl | rfl | hw
  · exact gA hTs _ h1
  · exact gA hTs _ h2
  · exact gA hTs _ h5
  · exact gA hTs _ h3
  · exact gA hTs _ h4
  · exact gA hTs _ hw
theorem inC {cd : Cond} : ∀ w ∈ WT, w ∈ cd :: WT := fun _ h => List.mem_cons_of_mem _ h
def ushr (x y : Int32) : Int32 := (x.toUInt32 >>> (y.toUInt32 &&& Int32.toUInt32 31)).toInt32

def R_T : String := "InstructionReader$Text"
def F_T : u_T := fun k => match k with
  | 0 => ("InstructionReader$Text", "row", "[C", true)
  | _ => ("InstructionReader$Text", "length", "I", false)
def ft_T : Nat → FieldType := fun k => match k with
  | 0 => .array .char
  | _ => .int
theorem n_T : ∀ a, a < 2 → ∀ b, b < 2 → a ≠ b → (F_T a).2.1 ≠ (F_T b).2.1 := by decide +kernel
theorem ft_T_ok : ∀ k, k < 2 → parseFieldDescriptor (F_T k).2.2.1 = some (ft_T k) := by decide +kernel
theorem i_T : ∀ w ∈ u_ws R_T F_T 2, w ∈ WT := by decide +kernel
def R_R : String := "InstructionReader"
def F_R : u_T := fun k => match k with
  | 0 => ("InstructionReader", "stretch", "[I", true)
  | 1 => ("InstructionReader", "text", "LInstructionReader$Text;", true)
  | 2 => ("InstructionReader", "textBytes", "I", false)
  | 3 => ("InstructionReader", "textIsInstruction", "Z", false)
  | _ => ("InstructionReader", "textOperands", "I", false)
def ft_R : Nat → FieldType := fun k => match k with
  | 0 => .array .int
  | 1 => .object "InstructionReader$Text"
  | 2 => .int
  | 3 => .boolean
  | _ => .int
theorem n_R : ∀ a, a < 5 → ∀ b, b < 5 → a ≠ b → (F_R a).2.1 ≠ (F_R b).2.1 := by decide +kernel
theorem ft_R_ok : ∀ k, k < 5 → parseFieldDescriptor (F_R k).2.2.1 = some (ft_R k) := by decide +kernel
theorem i_R : ∀ w ∈ u_ws R_R F_R 5, w ∈ WT := by decide +kernel
def R_M : String := "InstructionReaderModel"
def F_M : u_T := fun k => match k with
  | 0 => ("InstructionReaderModel", "thrown", "I", false)
  | 1 => ("InstructionReaderModel", "text", "[C", true)
  | 2 => ("InstructionReaderModel", "size", "I", false)
  | 3 => ("InstructionReaderModel", "bytes", "I", false)
  | 4 => ("InstructionReaderModel", "operands", "I", false)
  | 5 => ("InstructionReaderModel", "line", "Z", false)
  | 6 => ("InstructionReaderModel", "stretch", "[I", true)
  | 7 => ("InstructionReaderModel", "bits", "I", false)
  | 8 => ("InstructionReaderModel", "d", "I", false)
  | 9 => ("InstructionReaderModel", "a", "I", false)
  | 10 => ("InstructionReaderModel", "b", "I", false)
  | 11 => ("InstructionReaderModel", "f", "I", false)
  | 12 => ("InstructionReaderModel", "registers", "[I", true)
  | _ => ("InstructionReaderModel", "kept", "[C", true)
def ft_M : Nat → FieldType := fun k => match k with
  | 0 => .int
  | 1 => .array .char
  | 2 => .int
  | 3 => .int
  | 4 => .int
  | 5 => .boolean
  | 6 => .array .int
  | 7 => .int
  | 8 => .int
  | 9 => .int
  | 10 => .int
  | 11 => .int
  | 12 => .array .int
  | _ => .array .char
theorem n_M : ∀ a, a < 14 → ∀ b, b < 14 → a ≠ b → (F_M a).2.1 ≠ (F_M b).2.1 := by decide +kernel
theorem ft_M_ok : ∀ k, k < 14 → parseFieldDescriptor (F_M k).2.2.1 = some (ft_M k) := by decide +kernel
theorem i_M : ∀ w ∈ u_ws R_M F_M 14, w ∈ WT := by decide +kernel
abbrev classes : List vw_C := [(R_T, F_T, 2), (R_R, F_R, 5), (R_M, F_M, 14)]
def R_F : String := "InstructionReader$Fields"
def R_K : String := "InstructionReader$Kind"
def R_L : String := "InstructionReader$LongKinds"
def R_S : String := "InstructionReader$ShortKinds"
def R_W : String := "InstructionReaderLaw"
def R_JS : String := "java/lang/String"
def R_JL : String := "java/lang/StringLatin1"
def R_JP : String := "jdk/internal/util/Preconditions"
abbrev b_R_init : ByteArray := prog_1_method_1_code
def y_R_init : MethodName := ⟨"InstructionReader", "<init>", "()V"⟩
abbrev b_T_init : ByteArray := prog_6_method_1_code
def y_T_init : MethodName := ⟨"InstructionReader$Text", "<init>", "()V"⟩
abbrev b_R_read : ByteArray := prog_1_method_2_code
def y_R_read : MethodName := ⟨"InstructionReader", "read", "(I)I"⟩
abbrev b_R_isLong : ByteArray := prog_1_method_12_code
def y_R_isLong : MethodName := ⟨"InstructionReader", "isLong", "(I)Z"⟩
abbrev b_R_show : ByteArray := prog_1_method_14_code
def y_R_show : MethodName := ⟨"InstructionReader", "show", "(I)V"⟩
abbrev b_R_kindOf : ByteArray := prog_1_method_13_code
def y_R_kindOf : MethodName := ⟨"InstructionReader", "kindOf", "(I)LInstructionReader$Kind;"⟩
abbrev b_L_ofWord : ByteArray := prog_4_method_2_code
def y_L_ofWord : MethodName := ⟨"InstructionReader$LongKinds", "ofWord", "(I)LInstructionReader$Kind;"⟩
abbrev b_L_load : ByteArray := prog_4_method_3_code
def y_L_load : MethodName := ⟨"InstructionReader$LongKinds", "load", "(I)LInstructionReader$Kind;"⟩
abbrev b_L_alone : ByteArray := prog_4_method_4_code
def y_L_alone : MethodName := ⟨"InstructionReader$LongKinds", "alone", "(I)LInstructionReader$Kind;"⟩
abbrev b_L_withNumber : ByteArray := prog_4_method_5_code
def y_L_withNumber : MethodName := ⟨"InstructionReader$LongKinds", "withNumber", "(II)LInstructionReader$Kind;"⟩
abbrev b_L_shiftRight : ByteArray := prog_4_method_6_code
def y_L_shiftRight : MethodName := ⟨"InstructionReader$LongKinds", "shiftRight", "(I)LInstructionReader$Kind;"⟩
abbrev b_L_store : ByteArray := prog_4_method_7_code
def y_L_store : MethodName := ⟨"InstructionReader$LongKinds", "store", "(I)LInstructionReader$Kind;"⟩
abbrev b_L_atomic : ByteArray := prog_4_method_8_code
def y_L_atomic : MethodName := ⟨"InstructionReader$LongKinds", "atomic", "(II)LInstructionReader$Kind;"⟩
abbrev b_L_ofRegisters : ByteArray := prog_4_method_9_code
def y_L_ofRegisters : MethodName := ⟨"InstructionReader$LongKinds", "ofRegisters", "(II)LInstructionReader$Kind;"⟩
abbrev b_L_plain : ByteArray := prog_4_method_10_code
def y_L_plain : MethodName := ⟨"InstructionReader$LongKinds", "plain", "(I)LInstructionReader$Kind;"⟩
abbrev b_L_product : ByteArray := prog_4_method_11_code
def y_L_product : MethodName := ⟨"InstructionReader$LongKinds", "product", "(I)LInstructionReader$Kind;"⟩
abbrev b_L_secondOfTwo : ByteArray := prog_4_method_12_code
def y_L_secondOfTwo : MethodName := ⟨"InstructionReader$LongKinds", "secondOfTwo", "(I)LInstructionReader$Kind;"⟩
abbrev b_L_branch : ByteArray := prog_4_method_13_code
def y_L_branch : MethodName := ⟨"InstructionReader$LongKinds", "branch", "(I)LInstructionReader$Kind;"⟩
abbrev b_L_counter : ByteArray := prog_4_method_14_code
def y_L_counter : MethodName := ⟨"InstructionReader$LongKinds", "counter", "(I)LInstructionReader$Kind;"⟩
abbrev b_S_ofHalf : ByteArray := prog_5_method_2_code
def y_S_ofHalf : MethodName := ⟨"InstructionReader$ShortKinds", "ofHalf", "(I)LInstructionReader$Kind;"⟩
abbrev b_S_ofQ0 : ByteArray := prog_5_method_3_code
def y_S_ofQ0 : MethodName := ⟨"InstructionReader$ShortKinds", "ofQ0", "(II)LInstructionReader$Kind;"⟩
abbrev b_F_times4 : ByteArray := prog_2_method_6_code
def y_F_times4 : MethodName := ⟨"InstructionReader$Fields", "times4", "(I)I"⟩
abbrev b_F_part : ByteArray := prog_2_method_13_code
def y_F_part : MethodName := ⟨"InstructionReader$Fields", "part", "(IIII)I"⟩
abbrev b_S_ofQ1 : ByteArray := prog_5_method_4_code
def y_S_ofQ1 : MethodName := ⟨"InstructionReader$ShortKinds", "ofQ1", "(II)LInstructionReader$Kind;"⟩
abbrev b_S_upperOrStack : ByteArray := prog_5_method_5_code
def y_S_upperOrStack : MethodName := ⟨"InstructionReader$ShortKinds", "upperOrStack", "(I)LInstructionReader$Kind;"⟩
abbrev b_F_six : ByteArray := prog_2_method_5_code
def y_F_six : MethodName := ⟨"InstructionReader$Fields", "six", "(I)I"⟩
abbrev b_F_signed : ByteArray := prog_2_method_14_code
def y_F_signed : MethodName := ⟨"InstructionReader$Fields", "signed", "(III)I"⟩
abbrev b_S_firstRegister : ByteArray := prog_5_method_11_code
def y_S_firstRegister : MethodName := ⟨"InstructionReader$ShortKinds", "firstRegister", "(I)I"⟩
abbrev b_S_onLesserRegister : ByteArray := prog_5_method_6_code
def y_S_onLesserRegister : MethodName := ⟨"InstructionReader$ShortKinds", "onLesserRegister", "(I)LInstructionReader$Kind;"⟩
abbrev b_S_hasBit12 : ByteArray := prog_5_method_13_code
def y_S_hasBit12 : MethodName := ⟨"InstructionReader$ShortKinds", "hasBit12", "(I)Z"⟩
abbrev b_S_ofLesserRegisters : ByteArray := prog_5_method_7_code
def y_S_ofLesserRegisters : MethodName := ⟨"InstructionReader$ShortKinds", "ofLesserRegisters", "(I)LInstructionReader$Kind;"⟩
abbrev b_S_ofQ2 : ByteArray := prog_5_method_8_code
def y_S_ofQ2 : MethodName := ⟨"InstructionReader$ShortKinds", "ofQ2", "(II)LInstructionReader$Kind;"⟩
abbrev b_S_addOrJump : ByteArray := prog_5_method_10_code
def y_S_addOrJump : MethodName := ⟨"InstructionReader$ShortKinds", "addOrJump", "(I)LInstructionReader$Kind;"⟩
abbrev b_S_secondRegister : ByteArray := prog_5_method_12_code
def y_S_secondRegister : MethodName := ⟨"InstructionReader$ShortKinds", "secondRegister", "(I)I"⟩
abbrev b_S_moveOrJump : ByteArray := prog_5_method_9_code
def y_S_moveOrJump : MethodName := ⟨"InstructionReader$ShortKinds", "moveOrJump", "(I)LInstructionReader$Kind;"⟩
abbrev b_T_write : ByteArray := prog_6_method_4_code
def y_T_write : MethodName := ⟨"InstructionReader$Text", "write", "(LInstructionReader$Kind;I)V"⟩
abbrev b_T_word : ByteArray := prog_6_method_12_code
def y_T_word : MethodName := ⟨"InstructionReader$Text", "word", "(Ljava/lang/String;)V"⟩
abbrev b_JS_length : ByteArray := prog_15_method_54_code
def y_JS_length : MethodName := ⟨"java/lang/String", "length", "()I"⟩
abbrev b_JS_coder : ByteArray := prog_15_method_152_code
def y_JS_coder : MethodName := ⟨"java/lang/String", "coder", "()B"⟩
abbrev b_JS_charAt : ByteArray := prog_15_method_56_code
def y_JS_charAt : MethodName := ⟨"java/lang/String", "charAt", "(I)C"⟩
abbrev b_JS_isLatin1 : ByteArray := prog_15_method_154_code
def y_JS_isLatin1 : MethodName := ⟨"java/lang/String", "isLatin1", "()Z"⟩
abbrev b_JL_charAt : ByteArray := prog_16_method_2_code
def y_JL_charAt : MethodName := ⟨"java/lang/StringLatin1", "charAt", "([BI)C"⟩
abbrev b_JS_checkIndex : ByteArray := prog_15_method_155_code
def y_JS_checkIndex : MethodName := ⟨"java/lang/String", "checkIndex", "(II)V"⟩
abbrev b_JP_checkIndex : ByteArray := prog_19_method_11_code
def y_JP_checkIndex : MethodName := ⟨"jdk/internal/util/Preconditions", "checkIndex", "(IILjava/util/function/BiFunction;)I"⟩
abbrev b_T_put : ByteArray := prog_6_method_13_code
def y_T_put : MethodName := ⟨"InstructionReader$Text", "put", "(C)V"⟩
abbrev b_T_order : ByteArray := prog_6_method_5_code
def y_T_order : MethodName := ⟨"InstructionReader$Text", "order", "(I)V"⟩
abbrev b_JS_isEmpty : ByteArray := prog_15_method_55_code
def y_JS_isEmpty : MethodName := ⟨"java/lang/String", "isEmpty", "()Z"⟩
abbrev b_T_operand : ByteArray := prog_6_method_6_code
def y_T_operand : MethodName := ⟨"InstructionReader$Text", "operand", "(CI)V"⟩
abbrev b_T_register : ByteArray := prog_6_method_7_code
def y_T_register : MethodName := ⟨"InstructionReader$Text", "register", "(I)V"⟩
abbrev b_T_registerName : ByteArray := prog_6_method_8_code
def y_T_registerName : MethodName := ⟨"InstructionReader$Text", "registerName", "(I)Ljava/lang/String;"⟩
abbrev b_T_number : ByteArray := prog_6_method_9_code
def y_T_number : MethodName := ⟨"InstructionReader$Text", "number", "(I)V"⟩
abbrev b_JM_abs : ByteArray := prog_13_method_59_code
def y_JM_abs : MethodName := ⟨"java/lang/Math", "abs", "(I)I"⟩
abbrev b_T_digits : ByteArray := prog_6_method_11_code
def y_T_digits : MethodName := ⟨"InstructionReader$Text", "digits", "(J)V"⟩
abbrev b_F_store : ByteArray := prog_2_method_2_code
def y_F_store : MethodName := ⟨"InstructionReader$Fields", "store", "(I)I"⟩
abbrev b_F_times16 : ByteArray := prog_2_method_7_code
def y_F_times16 : MethodName := ⟨"InstructionReader$Fields", "times16", "(I)I"⟩
abbrev b_F_shortWord : ByteArray := prog_2_method_8_code
def y_F_shortWord : MethodName := ⟨"InstructionReader$Fields", "shortWord", "(I)I"⟩
abbrev b_F_stackLoad : ByteArray := prog_2_method_9_code
def y_F_stackLoad : MethodName := ⟨"InstructionReader$Fields", "stackLoad", "(I)I"⟩
abbrev b_F_stackStore : ByteArray := prog_2_method_10_code
def y_F_stackStore : MethodName := ⟨"InstructionReader$Fields", "stackStore", "(I)I"⟩
abbrev b_F_branch : ByteArray := prog_2_method_3_code
def y_F_branch : MethodName := ⟨"InstructionReader$Fields", "branch", "(I)I"⟩
abbrev b_T_offset : ByteArray := prog_6_method_10_code
def y_T_offset : MethodName := ⟨"InstructionReader$Text", "offset", "(I)V"⟩
abbrev b_F_jump : ByteArray := prog_2_method_4_code
def y_F_jump : MethodName := ⟨"InstructionReader$Fields", "jump", "(I)I"⟩
abbrev b_F_shortJump : ByteArray := prog_2_method_11_code
def y_F_shortJump : MethodName := ⟨"InstructionReader$Fields", "shortJump", "(I)I"⟩
abbrev b_F_shortBranch : ByteArray := prog_2_method_12_code
def y_F_shortBranch : MethodName := ⟨"InstructionReader$Fields", "shortBranch", "(I)I"⟩
abbrev b_K_isInstruction : ByteArray := prog_3_method_5_code
def y_K_isInstruction : MethodName := ⟨"InstructionReader$Kind", "isInstruction", "()Z"⟩
abbrev b_K_operandCount : ByteArray := prog_3_method_6_code
def y_K_operandCount : MethodName := ⟨"InstructionReader$Kind", "operandCount", "()I"⟩
abbrev b_T_size : ByteArray := prog_6_method_2_code
def y_T_size : MethodName := ⟨"InstructionReader$Text", "size", "()I"⟩
abbrev b_R_about : ByteArray := prog_1_method_4_code
def y_R_about : MethodName := ⟨"InstructionReader", "about", "(I)I"⟩
abbrev b_W_letter : ByteArray := method_3_code
def y_W_letter : MethodName := ⟨"InstructionReaderLaw", "letter", "(LInstructionReader;I[J)I"⟩
abbrev b_R_letter : ByteArray := prog_1_method_3_code
def y_R_letter : MethodName := ⟨"InstructionReader", "letter", "(I)C"⟩
abbrev b_T_character : ByteArray := prog_6_method_3_code
def y_T_character : MethodName := ⟨"InstructionReader$Text", "character", "(I)C"⟩
abbrev b_W_poke : ByteArray := method_4_code
def y_W_poke : MethodName := ⟨"InstructionReaderLaw", "poke", "(LInstructionReader;II)I"⟩
abbrev b_R_poke : ByteArray := prog_1_method_5_code
def y_R_poke : MethodName := ⟨"InstructionReader", "poke", "(II)V"⟩
abbrev b_R_demandAddress : ByteArray := prog_1_method_10_code
def y_R_demandAddress : MethodName := ⟨"InstructionReader", "demandAddress", "(I)V"⟩
abbrev b_R_isAddress : ByteArray := prog_1_method_11_code
def y_R_isAddress : MethodName := ⟨"InstructionReader", "isAddress", "(I)Z"⟩
abbrev b_W_at : ByteArray := method_5_code
def y_W_at : MethodName := ⟨"InstructionReaderLaw", "at", "(LInstructionReader;I[J)I"⟩
abbrev b_R_at : ByteArray := prog_1_method_6_code
def y_R_at : MethodName := ⟨"InstructionReader", "at", "(I)I"⟩
abbrev b_R_isWholeAt : ByteArray := prog_1_method_15_code
def y_R_isWholeAt : MethodName := ⟨"InstructionReader", "isWholeAt", "(I)Z"⟩
abbrev b_R_bytesAt : ByteArray := prog_1_method_16_code
def y_R_bytesAt : MethodName := ⟨"InstructionReader", "bytesAt", "(I)I"⟩
abbrev b_R_isLongAt : ByteArray := prog_1_method_17_code
def y_R_isLongAt : MethodName := ⟨"InstructionReader", "isLongAt", "(I)Z"⟩
abbrev b_R_byteAt : ByteArray := prog_1_method_20_code
def y_R_byteAt : MethodName := ⟨"InstructionReader", "byteAt", "(I)I"⟩
abbrev b_R_bitsAt : ByteArray := prog_1_method_18_code
def y_R_bitsAt : MethodName := ⟨"InstructionReader", "bitsAt", "(I)I"⟩
abbrev b_R_halfAt : ByteArray := prog_1_method_19_code
def y_R_halfAt : MethodName := ⟨"InstructionReader", "halfAt", "(I)I"⟩
abbrev b_W_next : ByteArray := method_6_code
def y_W_next : MethodName := ⟨"InstructionReaderLaw", "next", "(LInstructionReader;II[J)I"⟩
abbrev b_R_next : ByteArray := prog_1_method_7_code
def y_R_next : MethodName := ⟨"InstructionReader", "next", "(II)I"⟩
abbrev b_W_before : ByteArray := method_7_code
def y_W_before : MethodName := ⟨"InstructionReaderLaw", "before", "(LInstructionReader;II[J)I"⟩
abbrev b_R_before : ByteArray := prog_1_method_8_code
def y_R_before : MethodName := ⟨"InstructionReader", "before", "(II)I"⟩
abbrev b_W_numbers : ByteArray := method_8_code
def y_W_numbers : MethodName := ⟨"InstructionReaderLaw", "numbers", "(LInstructionReader;I[J)I"⟩
abbrev b_R_numbers : ByteArray := prog_1_method_9_code
def y_R_numbers : MethodName := ⟨"InstructionReader", "numbers", "(I)I"⟩
abbrev b_M_init : ByteArray := prog_8_method_1_code
def y_M_init : MethodName := ⟨"InstructionReaderModel", "<init>", "()V"⟩
abbrev b_M_thrown : ByteArray := prog_8_method_2_code
def y_M_thrown : MethodName := ⟨"InstructionReaderModel", "thrown", "()I"⟩
abbrev b_M_read : ByteArray := prog_8_method_33_code
def y_M_read : MethodName := ⟨"InstructionReaderModel", "read", "(I)I"⟩
abbrev b_M_understand : ByteArray := prog_8_method_32_code
def y_M_understand : MethodName := ⟨"InstructionReaderModel", "understand", "()V"⟩
abbrev b_M_part : ByteArray := prog_8_method_3_code
def y_M_part : MethodName := ⟨"InstructionReaderModel", "part", "(II)I"⟩
abbrev b_M_longOne : ByteArray := prog_8_method_23_code
def y_M_longOne : MethodName := ⟨"InstructionReaderModel", "longOne", "()V"⟩
abbrev b_M_plain : ByteArray := prog_8_method_16_code
def y_M_plain : MethodName := ⟨"InstructionReaderModel", "plain", "(I)V"⟩
abbrev b_M_threes : ByteArray := prog_8_method_15_code
def y_M_threes : MethodName := ⟨"InstructionReaderModel", "threes", "(J)V"⟩
abbrev b_M_name : ByteArray := prog_8_method_8_code
def y_M_name : MethodName := ⟨"InstructionReaderModel", "name", "(J)V"⟩
abbrev b_M_say : ByteArray := prog_8_method_5_code
def y_M_say : MethodName := ⟨"InstructionReaderModel", "say", "(J)V"⟩
abbrev b_M_put : ByteArray := prog_8_method_4_code
def y_M_put : MethodName := ⟨"InstructionReaderModel", "put", "(I)V"⟩
abbrev b_M_register : ByteArray := prog_8_method_10_code
def y_M_register : MethodName := ⟨"InstructionReaderModel", "register", "(I)V"⟩
abbrev b_M_next : ByteArray := prog_8_method_9_code
def y_M_next : MethodName := ⟨"InstructionReaderModel", "next", "()V"⟩
abbrev b_M_twos : ByteArray := prog_8_method_17_code
def y_M_twos : MethodName := ⟨"InstructionReaderModel", "twos", "(I)V"⟩
abbrev b_M_immediate : ByteArray := prog_8_method_11_code
def y_M_immediate : MethodName := ⟨"InstructionReaderModel", "immediate", "(I)V"⟩
abbrev b_M_number : ByteArray := prog_8_method_7_code
def y_M_number : MethodName := ⟨"InstructionReaderModel", "number", "(I)V"⟩
abbrev b_M_digits : ByteArray := prog_8_method_6_code
def y_M_digits : MethodName := ⟨"InstructionReaderModel", "digits", "(J)V"⟩
abbrev b_M_loads : ByteArray := prog_8_method_18_code
def y_M_loads : MethodName := ⟨"InstructionReaderModel", "loads", "()V"⟩
abbrev b_M_memory : ByteArray := prog_8_method_14_code
def y_M_memory : MethodName := ⟨"InstructionReaderModel", "memory", "(II)V"⟩
abbrev b_M_bracket : ByteArray := prog_8_method_13_code
def y_M_bracket : MethodName := ⟨"InstructionReaderModel", "bracket", "(I)V"⟩
abbrev b_M_stores : ByteArray := prog_8_method_19_code
def y_M_stores : MethodName := ⟨"InstructionReaderModel", "stores", "()V"⟩
abbrev b_M_branches : ByteArray := prog_8_method_20_code
def y_M_branches : MethodName := ⟨"InstructionReaderModel", "branches", "()V"⟩
abbrev b_M_target : ByteArray := prog_8_method_12_code
def y_M_target : MethodName := ⟨"InstructionReaderModel", "target", "(I)V"⟩
abbrev b_M_atomic : ByteArray := prog_8_method_21_code
def y_M_atomic : MethodName := ⟨"InstructionReaderModel", "atomic", "(I)V"⟩
abbrev b_M_system : ByteArray := prog_8_method_22_code
def y_M_system : MethodName := ⟨"InstructionReaderModel", "system", "()V"⟩
abbrev b_M_others : ByteArray := prog_8_method_24_code
def y_M_others : MethodName := ⟨"InstructionReaderModel", "others", "()V"⟩
abbrev b_M_first : ByteArray := prog_8_method_26_code
def y_M_first : MethodName := ⟨"InstructionReaderModel", "first", "()V"⟩
abbrev b_M_second : ByteArray := prog_8_method_30_code
def y_M_second : MethodName := ⟨"InstructionReaderModel", "second", "()V"⟩
abbrev b_M_six : ByteArray := prog_8_method_25_code
def y_M_six : MethodName := ⟨"InstructionReaderModel", "six", "()I"⟩
abbrev b_M_jump : ByteArray := prog_8_method_27_code
def y_M_jump : MethodName := ⟨"InstructionReaderModel", "jump", "(J)V"⟩
abbrev b_M_upper : ByteArray := prog_8_method_29_code
def y_M_upper : MethodName := ⟨"InstructionReaderModel", "upper", "()V"⟩
abbrev b_M_reckon : ByteArray := prog_8_method_28_code
def y_M_reckon : MethodName := ⟨"InstructionReaderModel", "reckon", "(I)V"⟩
abbrev b_M_third : ByteArray := prog_8_method_31_code
def y_M_third : MethodName := ⟨"InstructionReaderModel", "third", "()V"⟩
abbrev b_M_letter : ByteArray := prog_8_method_34_code
def y_M_letter : MethodName := ⟨"InstructionReaderModel", "letter", "(I)C"⟩
abbrev b_M_about : ByteArray := prog_8_method_35_code
def y_M_about : MethodName := ⟨"InstructionReaderModel", "about", "(I)I"⟩
abbrev b_M_poke : ByteArray := prog_8_method_37_code
def y_M_poke : MethodName := ⟨"InstructionReaderModel", "poke", "(II)V"⟩
abbrev b_M_refuses : ByteArray := prog_8_method_36_code
def y_M_refuses : MethodName := ⟨"InstructionReaderModel", "refuses", "(I)Z"⟩
abbrev b_M_at : ByteArray := prog_8_method_40_code
def y_M_at : MethodName := ⟨"InstructionReaderModel", "at", "(I)I"⟩
abbrev b_M_long4 : ByteArray := prog_8_method_38_code
def y_M_long4 : MethodName := ⟨"InstructionReaderModel", "long4", "(I)I"⟩
abbrev b_M_take : ByteArray := prog_8_method_39_code
def y_M_take : MethodName := ⟨"InstructionReaderModel", "take", "(I)I"⟩
abbrev b_M_next2 : ByteArray := prog_8_method_41_code
def y_M_next2 : MethodName := ⟨"InstructionReaderModel", "next", "(II)I"⟩
abbrev b_M_before : ByteArray := prog_8_method_42_code
def y_M_before : MethodName := ⟨"InstructionReaderModel", "before", "(II)I"⟩
abbrev b_M_numbers : ByteArray := prog_8_method_43_code
def y_M_numbers : MethodName := ⟨"InstructionReaderModel", "numbers", "(I)I"⟩
