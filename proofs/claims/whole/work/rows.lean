section
-- ===== PART A: goes FIRST, ahead of the names: the tables' words, and 'selects' of the private methods out of them =====
/-- a private method of a class that the tables say can be made, by its rows of tables_1 -/
def lw_okq (q : MethodName × Nat) : Prop := (q.1.cls ≠ "java/lang/invoke/MethodHandle" ∧ q.1.cls ≠ "java/lang/invoke/VarHandle") ∧ Cond.instantiable q.1.cls q.2 ∈ tables_1 ∧ Cond.privateMethod q.1 ∈ tables_1 ∧ Cond.instanceMethod q.1 ∈ tables_1
theorem lw_p0 : lw_okq (⟨"InstructionReader", "show", "(I)V"⟩, 5) := ⟨⟨by decide +kernel, by decide +kernel⟩, List.mem_of_getElem? (i := 20) (by decide +kernel), List.mem_of_getElem? (i := 67) (by decide +kernel), List.mem_of_getElem? (i := 68) (by decide +kernel)⟩
theorem lw_p1 : lw_okq (⟨"InstructionReader$Text", "word", "(Ljava/lang/String;)V"⟩, 2) := ⟨⟨by decide +kernel, by decide +kernel⟩, List.mem_of_getElem? (i := 28) (by decide +kernel), List.mem_of_getElem? (i := 355) (by decide +kernel), List.mem_of_getElem? (i := 356) (by decide +kernel)⟩
theorem lw_p2 : lw_okq (⟨"InstructionReader$Text", "put", "(C)V"⟩, 2) := ⟨⟨by decide +kernel, by decide +kernel⟩, List.mem_of_getElem? (i := 28) (by decide +kernel), List.mem_of_getElem? (i := 407) (by decide +kernel), List.mem_of_getElem? (i := 408) (by decide +kernel)⟩
theorem lw_p3 : lw_okq (⟨"InstructionReader$Text", "order", "(I)V"⟩, 2) := ⟨⟨by decide +kernel, by decide +kernel⟩, List.mem_of_getElem? (i := 28) (by decide +kernel), List.mem_of_getElem? (i := 411) (by decide +kernel), List.mem_of_getElem? (i := 412) (by decide +kernel)⟩
theorem lw_p4 : lw_okq (⟨"InstructionReader$Text", "operand", "(CI)V"⟩, 2) := ⟨⟨by decide +kernel, by decide +kernel⟩, List.mem_of_getElem? (i := 28) (by decide +kernel), List.mem_of_getElem? (i := 422) (by decide +kernel), List.mem_of_getElem? (i := 423) (by decide +kernel)⟩
theorem lw_p5 : lw_okq (⟨"InstructionReader$Text", "register", "(I)V"⟩, 2) := ⟨⟨by decide +kernel, by decide +kernel⟩, List.mem_of_getElem? (i := 28) (by decide +kernel), List.mem_of_getElem? (i := 426) (by decide +kernel), List.mem_of_getElem? (i := 427) (by decide +kernel)⟩
theorem lw_p6 : lw_okq (⟨"InstructionReader$Text", "number", "(I)V"⟩, 2) := ⟨⟨by decide +kernel, by decide +kernel⟩, List.mem_of_getElem? (i := 28) (by decide +kernel), List.mem_of_getElem? (i := 465) (by decide +kernel), List.mem_of_getElem? (i := 466) (by decide +kernel)⟩
theorem lw_p7 : lw_okq (⟨"InstructionReader$Text", "digits", "(J)V"⟩, 2) := ⟨⟨by decide +kernel, by decide +kernel⟩, List.mem_of_getElem? (i := 28) (by decide +kernel), List.mem_of_getElem? (i := 472) (by decide +kernel), List.mem_of_getElem? (i := 473) (by decide +kernel)⟩
theorem lw_p8 : lw_okq (⟨"InstructionReader$Text", "offset", "(I)V"⟩, 2) := ⟨⟨by decide +kernel, by decide +kernel⟩, List.mem_of_getElem? (i := 28) (by decide +kernel), List.mem_of_getElem? (i := 499) (by decide +kernel), List.mem_of_getElem? (i := 500) (by decide +kernel)⟩
theorem lw_p9 : lw_okq (⟨"java/lang/Throwable", "fillInStackTrace", "(I)Ljava/lang/Throwable;"⟩, 6) := ⟨⟨by decide +kernel, by decide +kernel⟩, List.mem_of_getElem? (i := 580) (by decide +kernel), List.mem_of_getElem? (i := 578) (by decide +kernel), List.mem_of_getElem? (i := 579) (by decide +kernel)⟩
theorem lw_p10 : lw_okq (⟨"InstructionReader", "isWholeAt", "(I)Z"⟩, 5) := ⟨⟨by decide +kernel, by decide +kernel⟩, List.mem_of_getElem? (i := 20) (by decide +kernel), List.mem_of_getElem? (i := 634) (by decide +kernel), List.mem_of_getElem? (i := 635) (by decide +kernel)⟩
theorem lw_p11 : lw_okq (⟨"InstructionReader", "bytesAt", "(I)I"⟩, 5) := ⟨⟨by decide +kernel, by decide +kernel⟩, List.mem_of_getElem? (i := 20) (by decide +kernel), List.mem_of_getElem? (i := 638) (by decide +kernel), List.mem_of_getElem? (i := 639) (by decide +kernel)⟩
theorem lw_p12 : lw_okq (⟨"InstructionReader", "byteAt", "(I)I"⟩, 5) := ⟨⟨by decide +kernel, by decide +kernel⟩, List.mem_of_getElem? (i := 20) (by decide +kernel), List.mem_of_getElem? (i := 642) (by decide +kernel), List.mem_of_getElem? (i := 643) (by decide +kernel)⟩
theorem lw_p13 : lw_okq (⟨"InstructionReader", "bitsAt", "(I)I"⟩, 5) := ⟨⟨by decide +kernel, by decide +kernel⟩, List.mem_of_getElem? (i := 20) (by decide +kernel), List.mem_of_getElem? (i := 646) (by decide +kernel), List.mem_of_getElem? (i := 647) (by decide +kernel)⟩
theorem lw_p14 : lw_okq (⟨"InstructionReader", "halfAt", "(I)I"⟩, 5) := ⟨⟨by decide +kernel, by decide +kernel⟩, List.mem_of_getElem? (i := 20) (by decide +kernel), List.mem_of_getElem? (i := 650) (by decide +kernel), List.mem_of_getElem? (i := 651) (by decide +kernel)⟩
theorem lw_p15 : lw_okq (⟨"InstructionReaderModel", "understand", "()V"⟩, 14) := ⟨⟨by decide +kernel, by decide +kernel⟩, List.mem_of_getElem? (i := 692) (by decide +kernel), List.mem_of_getElem? (i := 753) (by decide +kernel), List.mem_of_getElem? (i := 754) (by decide +kernel)⟩
def lw_privs_1 : List (MethodName × Nat) := [(⟨"InstructionReader", "show", "(I)V"⟩, 5), (⟨"InstructionReader$Text", "word", "(Ljava/lang/String;)V"⟩, 2), (⟨"InstructionReader$Text", "put", "(C)V"⟩, 2), (⟨"InstructionReader$Text", "order", "(I)V"⟩, 2), (⟨"InstructionReader$Text", "operand", "(CI)V"⟩, 2), (⟨"InstructionReader$Text", "register", "(I)V"⟩, 2), (⟨"InstructionReader$Text", "number", "(I)V"⟩, 2), (⟨"InstructionReader$Text", "digits", "(J)V"⟩, 2), (⟨"InstructionReader$Text", "offset", "(I)V"⟩, 2), (⟨"java/lang/Throwable", "fillInStackTrace", "(I)Ljava/lang/Throwable;"⟩, 6), (⟨"InstructionReader", "isWholeAt", "(I)Z"⟩, 5), (⟨"InstructionReader", "bytesAt", "(I)I"⟩, 5), (⟨"InstructionReader", "byteAt", "(I)I"⟩, 5), (⟨"InstructionReader", "bitsAt", "(I)I"⟩, 5), (⟨"InstructionReader", "halfAt", "(I)I"⟩, 5), (⟨"InstructionReaderModel", "understand", "()V"⟩, 14)]
theorem lw_r1 : ∀ q ∈ lw_privs_1, lw_okq q := List.forall_mem_cons.mpr ⟨lw_p0, List.forall_mem_cons.mpr ⟨lw_p1, List.forall_mem_cons.mpr ⟨lw_p2, List.forall_mem_cons.mpr ⟨lw_p3, List.forall_mem_cons.mpr ⟨lw_p4, List.forall_mem_cons.mpr ⟨lw_p5, List.forall_mem_cons.mpr ⟨lw_p6, List.forall_mem_cons.mpr ⟨lw_p7, List.forall_mem_cons.mpr ⟨lw_p8, List.forall_mem_cons.mpr ⟨lw_p9, List.forall_mem_cons.mpr ⟨lw_p10, List.forall_mem_cons.mpr ⟨lw_p11, List.forall_mem_cons.mpr ⟨lw_p12, List.forall_mem_cons.mpr ⟨lw_p13, List.forall_mem_cons.mpr ⟨lw_p14, List.forall_mem_cons.mpr ⟨lw_p15, fun _ h => absurd h List.not_mem_nil⟩⟩⟩⟩⟩⟩⟩⟩⟩⟩⟩⟩⟩⟩⟩⟩
theorem lw_p16 : lw_okq (⟨"InstructionReaderModel", "part", "(II)I"⟩, 14) := ⟨⟨by decide +kernel, by decide +kernel⟩, List.mem_of_getElem? (i := 692) (by decide +kernel), List.mem_of_getElem? (i := 757) (by decide +kernel), List.mem_of_getElem? (i := 758) (by decide +kernel)⟩
theorem lw_p17 : lw_okq (⟨"InstructionReaderModel", "longOne", "()V"⟩, 14) := ⟨⟨by decide +kernel, by decide +kernel⟩, List.mem_of_getElem? (i := 692) (by decide +kernel), List.mem_of_getElem? (i := 761) (by decide +kernel), List.mem_of_getElem? (i := 762) (by decide +kernel)⟩
theorem lw_p18 : lw_okq (⟨"InstructionReaderModel", "plain", "(I)V"⟩, 14) := ⟨⟨by decide +kernel, by decide +kernel⟩, List.mem_of_getElem? (i := 692) (by decide +kernel), List.mem_of_getElem? (i := 765) (by decide +kernel), List.mem_of_getElem? (i := 766) (by decide +kernel)⟩
theorem lw_p19 : lw_okq (⟨"InstructionReaderModel", "threes", "(J)V"⟩, 14) := ⟨⟨by decide +kernel, by decide +kernel⟩, List.mem_of_getElem? (i := 692) (by decide +kernel), List.mem_of_getElem? (i := 777) (by decide +kernel), List.mem_of_getElem? (i := 778) (by decide +kernel)⟩
theorem lw_p20 : lw_okq (⟨"InstructionReaderModel", "name", "(J)V"⟩, 14) := ⟨⟨by decide +kernel, by decide +kernel⟩, List.mem_of_getElem? (i := 692) (by decide +kernel), List.mem_of_getElem? (i := 781) (by decide +kernel), List.mem_of_getElem? (i := 782) (by decide +kernel)⟩
theorem lw_p21 : lw_okq (⟨"InstructionReaderModel", "say", "(J)V"⟩, 14) := ⟨⟨by decide +kernel, by decide +kernel⟩, List.mem_of_getElem? (i := 692) (by decide +kernel), List.mem_of_getElem? (i := 785) (by decide +kernel), List.mem_of_getElem? (i := 786) (by decide +kernel)⟩
theorem lw_p22 : lw_okq (⟨"InstructionReaderModel", "put", "(I)V"⟩, 14) := ⟨⟨by decide +kernel, by decide +kernel⟩, List.mem_of_getElem? (i := 692) (by decide +kernel), List.mem_of_getElem? (i := 790) (by decide +kernel), List.mem_of_getElem? (i := 791) (by decide +kernel)⟩
theorem lw_p23 : lw_okq (⟨"InstructionReaderModel", "register", "(I)V"⟩, 14) := ⟨⟨by decide +kernel, by decide +kernel⟩, List.mem_of_getElem? (i := 692) (by decide +kernel), List.mem_of_getElem? (i := 794) (by decide +kernel), List.mem_of_getElem? (i := 795) (by decide +kernel)⟩
theorem lw_p24 : lw_okq (⟨"InstructionReaderModel", "next", "()V"⟩, 14) := ⟨⟨by decide +kernel, by decide +kernel⟩, List.mem_of_getElem? (i := 692) (by decide +kernel), List.mem_of_getElem? (i := 798) (by decide +kernel), List.mem_of_getElem? (i := 799) (by decide +kernel)⟩
theorem lw_p25 : lw_okq (⟨"InstructionReaderModel", "twos", "(I)V"⟩, 14) := ⟨⟨by decide +kernel, by decide +kernel⟩, List.mem_of_getElem? (i := 692) (by decide +kernel), List.mem_of_getElem? (i := 812) (by decide +kernel), List.mem_of_getElem? (i := 813) (by decide +kernel)⟩
theorem lw_p26 : lw_okq (⟨"InstructionReaderModel", "immediate", "(I)V"⟩, 14) := ⟨⟨by decide +kernel, by decide +kernel⟩, List.mem_of_getElem? (i := 692) (by decide +kernel), List.mem_of_getElem? (i := 825) (by decide +kernel), List.mem_of_getElem? (i := 826) (by decide +kernel)⟩
theorem lw_p27 : lw_okq (⟨"InstructionReaderModel", "number", "(I)V"⟩, 14) := ⟨⟨by decide +kernel, by decide +kernel⟩, List.mem_of_getElem? (i := 692) (by decide +kernel), List.mem_of_getElem? (i := 829) (by decide +kernel), List.mem_of_getElem? (i := 830) (by decide +kernel)⟩
theorem lw_p28 : lw_okq (⟨"InstructionReaderModel", "digits", "(J)V"⟩, 14) := ⟨⟨by decide +kernel, by decide +kernel⟩, List.mem_of_getElem? (i := 692) (by decide +kernel), List.mem_of_getElem? (i := 833) (by decide +kernel), List.mem_of_getElem? (i := 834) (by decide +kernel)⟩
theorem lw_p29 : lw_okq (⟨"InstructionReaderModel", "loads", "()V"⟩, 14) := ⟨⟨by decide +kernel, by decide +kernel⟩, List.mem_of_getElem? (i := 692) (by decide +kernel), List.mem_of_getElem? (i := 840) (by decide +kernel), List.mem_of_getElem? (i := 841) (by decide +kernel)⟩
theorem lw_p30 : lw_okq (⟨"InstructionReaderModel", "memory", "(II)V"⟩, 14) := ⟨⟨by decide +kernel, by decide +kernel⟩, List.mem_of_getElem? (i := 692) (by decide +kernel), List.mem_of_getElem? (i := 849) (by decide +kernel), List.mem_of_getElem? (i := 850) (by decide +kernel)⟩
theorem lw_p31 : lw_okq (⟨"InstructionReaderModel", "bracket", "(I)V"⟩, 14) := ⟨⟨by decide +kernel, by decide +kernel⟩, List.mem_of_getElem? (i := 692) (by decide +kernel), List.mem_of_getElem? (i := 853) (by decide +kernel), List.mem_of_getElem? (i := 854) (by decide +kernel)⟩
def lw_privs_2 : List (MethodName × Nat) := [(⟨"InstructionReaderModel", "part", "(II)I"⟩, 14), (⟨"InstructionReaderModel", "longOne", "()V"⟩, 14), (⟨"InstructionReaderModel", "plain", "(I)V"⟩, 14), (⟨"InstructionReaderModel", "threes", "(J)V"⟩, 14), (⟨"InstructionReaderModel", "name", "(J)V"⟩, 14), (⟨"InstructionReaderModel", "say", "(J)V"⟩, 14), (⟨"InstructionReaderModel", "put", "(I)V"⟩, 14), (⟨"InstructionReaderModel", "register", "(I)V"⟩, 14), (⟨"InstructionReaderModel", "next", "()V"⟩, 14), (⟨"InstructionReaderModel", "twos", "(I)V"⟩, 14), (⟨"InstructionReaderModel", "immediate", "(I)V"⟩, 14), (⟨"InstructionReaderModel", "number", "(I)V"⟩, 14), (⟨"InstructionReaderModel", "digits", "(J)V"⟩, 14), (⟨"InstructionReaderModel", "loads", "()V"⟩, 14), (⟨"InstructionReaderModel", "memory", "(II)V"⟩, 14), (⟨"InstructionReaderModel", "bracket", "(I)V"⟩, 14)]
theorem lw_r2 : ∀ q ∈ lw_privs_2, lw_okq q := List.forall_mem_cons.mpr ⟨lw_p16, List.forall_mem_cons.mpr ⟨lw_p17, List.forall_mem_cons.mpr ⟨lw_p18, List.forall_mem_cons.mpr ⟨lw_p19, List.forall_mem_cons.mpr ⟨lw_p20, List.forall_mem_cons.mpr ⟨lw_p21, List.forall_mem_cons.mpr ⟨lw_p22, List.forall_mem_cons.mpr ⟨lw_p23, List.forall_mem_cons.mpr ⟨lw_p24, List.forall_mem_cons.mpr ⟨lw_p25, List.forall_mem_cons.mpr ⟨lw_p26, List.forall_mem_cons.mpr ⟨lw_p27, List.forall_mem_cons.mpr ⟨lw_p28, List.forall_mem_cons.mpr ⟨lw_p29, List.forall_mem_cons.mpr ⟨lw_p30, List.forall_mem_cons.mpr ⟨lw_p31, fun _ h => absurd h List.not_mem_nil⟩⟩⟩⟩⟩⟩⟩⟩⟩⟩⟩⟩⟩⟩⟩⟩
theorem lw_p32 : lw_okq (⟨"InstructionReaderModel", "stores", "()V"⟩, 14) := ⟨⟨by decide +kernel, by decide +kernel⟩, List.mem_of_getElem? (i := 692) (by decide +kernel), List.mem_of_getElem? (i := 857) (by decide +kernel), List.mem_of_getElem? (i := 858) (by decide +kernel)⟩
theorem lw_p33 : lw_okq (⟨"InstructionReaderModel", "branches", "()V"⟩, 14) := ⟨⟨by decide +kernel, by decide +kernel⟩, List.mem_of_getElem? (i := 692) (by decide +kernel), List.mem_of_getElem? (i := 864) (by decide +kernel), List.mem_of_getElem? (i := 865) (by decide +kernel)⟩
theorem lw_p34 : lw_okq (⟨"InstructionReaderModel", "target", "(I)V"⟩, 14) := ⟨⟨by decide +kernel, by decide +kernel⟩, List.mem_of_getElem? (i := 692) (by decide +kernel), List.mem_of_getElem? (i := 874) (by decide +kernel), List.mem_of_getElem? (i := 875) (by decide +kernel)⟩
theorem lw_p35 : lw_okq (⟨"InstructionReaderModel", "atomic", "(I)V"⟩, 14) := ⟨⟨by decide +kernel, by decide +kernel⟩, List.mem_of_getElem? (i := 692) (by decide +kernel), List.mem_of_getElem? (i := 878) (by decide +kernel), List.mem_of_getElem? (i := 879) (by decide +kernel)⟩
theorem lw_p36 : lw_okq (⟨"InstructionReaderModel", "system", "()V"⟩, 14) := ⟨⟨by decide +kernel, by decide +kernel⟩, List.mem_of_getElem? (i := 692) (by decide +kernel), List.mem_of_getElem? (i := 894) (by decide +kernel), List.mem_of_getElem? (i := 895) (by decide +kernel)⟩
theorem lw_p37 : lw_okq (⟨"InstructionReaderModel", "others", "()V"⟩, 14) := ⟨⟨by decide +kernel, by decide +kernel⟩, List.mem_of_getElem? (i := 692) (by decide +kernel), List.mem_of_getElem? (i := 905) (by decide +kernel), List.mem_of_getElem? (i := 906) (by decide +kernel)⟩
theorem lw_p38 : lw_okq (⟨"InstructionReaderModel", "first", "()V"⟩, 14) := ⟨⟨by decide +kernel, by decide +kernel⟩, List.mem_of_getElem? (i := 692) (by decide +kernel), List.mem_of_getElem? (i := 916) (by decide +kernel), List.mem_of_getElem? (i := 917) (by decide +kernel)⟩
theorem lw_p39 : lw_okq (⟨"InstructionReaderModel", "second", "()V"⟩, 14) := ⟨⟨by decide +kernel, by decide +kernel⟩, List.mem_of_getElem? (i := 692) (by decide +kernel), List.mem_of_getElem? (i := 924) (by decide +kernel), List.mem_of_getElem? (i := 925) (by decide +kernel)⟩
theorem lw_p40 : lw_okq (⟨"InstructionReaderModel", "six", "()I"⟩, 14) := ⟨⟨by decide +kernel, by decide +kernel⟩, List.mem_of_getElem? (i := 692) (by decide +kernel), List.mem_of_getElem? (i := 931) (by decide +kernel), List.mem_of_getElem? (i := 932) (by decide +kernel)⟩
theorem lw_p41 : lw_okq (⟨"InstructionReaderModel", "jump", "(J)V"⟩, 14) := ⟨⟨by decide +kernel, by decide +kernel⟩, List.mem_of_getElem? (i := 692) (by decide +kernel), List.mem_of_getElem? (i := 937) (by decide +kernel), List.mem_of_getElem? (i := 938) (by decide +kernel)⟩
theorem lw_p42 : lw_okq (⟨"InstructionReaderModel", "upper", "()V"⟩, 14) := ⟨⟨by decide +kernel, by decide +kernel⟩, List.mem_of_getElem? (i := 692) (by decide +kernel), List.mem_of_getElem? (i := 941) (by decide +kernel), List.mem_of_getElem? (i := 942) (by decide +kernel)⟩
theorem lw_p43 : lw_okq (⟨"InstructionReaderModel", "reckon", "(I)V"⟩, 14) := ⟨⟨by decide +kernel, by decide +kernel⟩, List.mem_of_getElem? (i := 692) (by decide +kernel), List.mem_of_getElem? (i := 948) (by decide +kernel), List.mem_of_getElem? (i := 949) (by decide +kernel)⟩
theorem lw_p44 : lw_okq (⟨"InstructionReaderModel", "third", "()V"⟩, 14) := ⟨⟨by decide +kernel, by decide +kernel⟩, List.mem_of_getElem? (i := 692) (by decide +kernel), List.mem_of_getElem? (i := 961) (by decide +kernel), List.mem_of_getElem? (i := 962) (by decide +kernel)⟩
theorem lw_p45 : lw_okq (⟨"InstructionReaderModel", "refuses", "(I)Z"⟩, 14) := ⟨⟨by decide +kernel, by decide +kernel⟩, List.mem_of_getElem? (i := 692) (by decide +kernel), List.mem_of_getElem? (i := 988) (by decide +kernel), List.mem_of_getElem? (i := 989) (by decide +kernel)⟩
theorem lw_p46 : lw_okq (⟨"InstructionReaderModel", "long4", "(I)I"⟩, 14) := ⟨⟨by decide +kernel, by decide +kernel⟩, List.mem_of_getElem? (i := 692) (by decide +kernel), List.mem_of_getElem? (i := 996) (by decide +kernel), List.mem_of_getElem? (i := 997) (by decide +kernel)⟩
theorem lw_p47 : lw_okq (⟨"InstructionReaderModel", "take", "(I)I"⟩, 14) := ⟨⟨by decide +kernel, by decide +kernel⟩, List.mem_of_getElem? (i := 692) (by decide +kernel), List.mem_of_getElem? (i := 1000) (by decide +kernel), List.mem_of_getElem? (i := 1001) (by decide +kernel)⟩
def lw_privs_3 : List (MethodName × Nat) := [(⟨"InstructionReaderModel", "stores", "()V"⟩, 14), (⟨"InstructionReaderModel", "branches", "()V"⟩, 14), (⟨"InstructionReaderModel", "target", "(I)V"⟩, 14), (⟨"InstructionReaderModel", "atomic", "(I)V"⟩, 14), (⟨"InstructionReaderModel", "system", "()V"⟩, 14), (⟨"InstructionReaderModel", "others", "()V"⟩, 14), (⟨"InstructionReaderModel", "first", "()V"⟩, 14), (⟨"InstructionReaderModel", "second", "()V"⟩, 14), (⟨"InstructionReaderModel", "six", "()I"⟩, 14), (⟨"InstructionReaderModel", "jump", "(J)V"⟩, 14), (⟨"InstructionReaderModel", "upper", "()V"⟩, 14), (⟨"InstructionReaderModel", "reckon", "(I)V"⟩, 14), (⟨"InstructionReaderModel", "third", "()V"⟩, 14), (⟨"InstructionReaderModel", "refuses", "(I)Z"⟩, 14), (⟨"InstructionReaderModel", "long4", "(I)I"⟩, 14), (⟨"InstructionReaderModel", "take", "(I)I"⟩, 14)]
theorem lw_r3 : ∀ q ∈ lw_privs_3, lw_okq q := List.forall_mem_cons.mpr ⟨lw_p32, List.forall_mem_cons.mpr ⟨lw_p33, List.forall_mem_cons.mpr ⟨lw_p34, List.forall_mem_cons.mpr ⟨lw_p35, List.forall_mem_cons.mpr ⟨lw_p36, List.forall_mem_cons.mpr ⟨lw_p37, List.forall_mem_cons.mpr ⟨lw_p38, List.forall_mem_cons.mpr ⟨lw_p39, List.forall_mem_cons.mpr ⟨lw_p40, List.forall_mem_cons.mpr ⟨lw_p41, List.forall_mem_cons.mpr ⟨lw_p42, List.forall_mem_cons.mpr ⟨lw_p43, List.forall_mem_cons.mpr ⟨lw_p44, List.forall_mem_cons.mpr ⟨lw_p45, List.forall_mem_cons.mpr ⟨lw_p46, List.forall_mem_cons.mpr ⟨lw_p47, fun _ h => absurd h List.not_mem_nil⟩⟩⟩⟩⟩⟩⟩⟩⟩⟩⟩⟩⟩⟩⟩⟩
def lw_privs : List (MethodName × Nat) := lw_privs_1 ++ (lw_privs_2 ++ (lw_privs_3))
def lw_tbl : List Cond := k2_sels lw_privs ++ tables_1
theorem lw_privs_ok : ∀ q ∈ lw_privs, lw_okq q := by
  show ∀ q ∈ lw_privs_1 ++ (lw_privs_2 ++ (lw_privs_3)), lw_okq q
  exact List.forall_mem_append.mpr ⟨lw_r1, List.forall_mem_append.mpr ⟨lw_r2, lw_r3⟩⟩
end
section
/-- every word of the tables that a call may hand on -/
def WT : List Cond := lw_tbl.filter goodWord
theorem WT_good : ∀ w ∈ WT, (w.onTables && w.keeps) = true ∨ ∃ ty, w = .arrayClass ty := fun _ h => good_of_word (List.mem_filter.mp h).2
theorem WT_in : ∀ w ∈ WT, w ∈ lw_tbl := fun _ h => (List.mem_filter.mp h).1
theorem WT_of {w : Cond} (i : Nat) (h : lw_tbl[i]? = some w) (g : goodWord w = true) : w ∈ WT := List.mem_filter.mpr ⟨List.mem_of_getElem? h, g⟩
theorem gA {Ts : List Cond} (hTs : ∀ w ∈ WT, w ∈ Ts) : ∀ w ∈ WT, w ∈ Ts ∧ ((w.onTables && w.keeps) = true ∨ ∃ ty, w = .arrayClass ty) := fun w h => ⟨hTs w h, WT_good w h⟩
theorem gW {Ts : List Cond} (hTs : ∀ w ∈ WT, w ∈ Ts) {cd : Cond} (h4 : cd ∈ WT) : GoodIn Ts (cd :: WT) := by
  intro w hw
  rcases List.mem_cons.mp hw with rfl | hw
  · exact gA hTs _ h4
  · exact gA hTs _ hw
theorem gS {Ts : List Cond} (hTs : ∀ w ∈ WT, w ∈ Ts) {own : String} {idx : Nat} {y : MethodName} {cd : Cond} (h1 : Cond.methodLink own idx y ∈ WT) (h2 : Cond.static y ∈ WT) (h3 : Cond.initialized y.cls ∈ WT) (h4 : cd ∈ WT) : GoodIn Ts (va_wsS own idx y (cd :: WT)) := by
  intro w hw
  simp only [va_wsS, List.cons_append, List.nil_append, List.mem_cons] at hw
  rcases hw with rfl | rfl | rfl | rfl | hw
  · exact gA hTs _ h1
  · exact gA hTs _ h2
  · exact gA hTs _ h3
  · exact gA hTs _ h4
  · exact gA hTs _ hw
theorem gV {Ts : List Cond} (hTs : ∀ w ∈ WT, w ∈ Ts) {own C : String} {idx : Nat} {y : MethodName} {cd : Cond} (h1 : Cond.methodLink own idx y ∈ WT) (h2 : Cond.instanceMethod y ∈ WT) (h5 : Cond.selects C y y ∈ WT) (h3 : Cond.initialized C ∈ WT) (h4 : cd ∈ WT) : GoodIn Ts (wsV own idx C y (cd :: WT)) := by
  intro w hw
  simp only [wsV, List.cons_append, List.nil_append, List.mem_cons] at hw
  rcases hw with rfl | rfl | rfl | rfl | rfl | hw
  · exact gA hTs _ h1
  · exact gA hTs _ h2
  · exact gA hTs _ h5
  · exact gA hTs _ h3
  · exact gA hTs _ h4
  · exact gA hTs _ hw
theorem inC {cd : Cond} : ∀ w ∈ WT, w ∈ cd :: WT := fun _ h => List.mem_cons_of_mem _ h
def ushr (x y : Int32) : Int32 := (x.toUInt32 >>> (y.toUInt32 &&& Int32.toUInt32 31)).toInt32

def R_T : String := "InstructionReader$Text"
def F_T : u_T := fun k => match k with
  | 0 => ("InstructionReader$Text", "row", "[C", true)
  | _ => ("InstructionReader$Text", "length", "I", false)
def ft_T : Nat → FieldType := fun k => match k with
  | 0 => .array .char
  | _ => .int
theorem n_T : ∀ a, a < 2 → ∀ b, b < 2 → a ≠ b → (F_T a).2.1 ≠ (F_T b).2.1 := by decide +kernel
theorem ft_T_ok : ∀ k, k < 2 → parseFieldDescriptor (F_T k).2.2.1 = some (ft_T k) := by decide +kernel
theorem i_T : ∀ w ∈ u_ws R_T F_T 2, w ∈ WT := by decide +kernel
def R_R : String := "InstructionReader"
def F_R : u_T := fun k => match k with
  | 0 => ("InstructionReader", "stretch", "[I", true)
  | 1 => ("InstructionReader", "text", "LInstructionReader$Text;", true)
  | 2 => ("InstructionReader", "textBytes", "I", false)
  | 3 => ("InstructionReader", "textIsInstruction", "Z", false)
  | _ => ("InstructionReader", "textOperands", "I", false)
def ft_R : Nat → FieldType := fun k => match k with
  | 0 => .array .int
  | 1 => .object "InstructionReader$Text"
  | 2 => .int
  | 3 => .boolean
  | _ => .int
theorem n_R : ∀ a, a < 5 → ∀ b, b < 5 → a ≠ b → (F_R a).2.1 ≠ (F_R b).2.1 := by decide +kernel
theorem ft_R_ok : ∀ k, k < 5 → parseFieldDescriptor (F_R k).2.2.1 = some (ft_R k) := by decide +kernel
theorem i_R : ∀ w ∈ u_ws R_R F_R 5, w ∈ WT := by decide +kernel
def R_M : String := "InstructionReaderModel"
def F_M : u_T := fun k => match k with
  | 0 => ("InstructionReaderModel", "thrown", "I", false)
  | 1 => ("InstructionReaderModel", "text", "[C", true)
  | 2 => ("InstructionReaderModel", "size", "I", false)
  | 3 => ("InstructionReaderModel", "bytes", "I", false)
  | 4 => ("InstructionReaderModel", "operands", "I", false)
  | 5 => ("InstructionReaderModel", "line", "Z", false)
  | 6 => ("InstructionReaderModel", "stretch", "[I", true)
  | 7 => ("InstructionReaderModel", "bits", "I", false)
  | 8 => ("InstructionReaderModel", "d", "I", false)
  | 9 => ("InstructionReaderModel", "a", "I", false)
  | 10 => ("InstructionReaderModel", "b", "I", false)
  | 11 => ("InstructionReaderModel", "f", "I", false)
  | 12 => ("InstructionReaderModel", "registers", "[I", true)
  | _ => ("InstructionReaderModel", "kept", "[C", true)
def ft_M : Nat → FieldType := fun k => match k with
  | 0 => .int
  | 1 => .array .char
  | 2 => .int
  | 3 => .int
  | 4 => .int
  | 5 => .boolean
  | 6 => .array .int
  | 7 => .int
  | 8 => .int
  | 9 => .int
  | 10 => .int
  | 11 => .int
  | 12 => .array .int
  | _ => .array .char
theorem n_M : ∀ a, a < 14 → ∀ b, b < 14 → a ≠ b → (F_M a).2.1 ≠ (F_M b).2.1 := by decide +kernel
theorem ft_M_ok : ∀ k, k < 14 → parseFieldDescriptor (F_M k).2.2.1 = some (ft_M k) := by decide +kernel
theorem i_M : ∀ w ∈ u_ws R_M F_M 14, w ∈ WT := by decide +kernel
abbrev classes : List vw_C := [(R_T, F_T, 2), (R_R, F_R, 5), (R_M, F_M, 14)]
def R_F : String := "InstructionReader$Fields"
def R_K : String := "InstructionReader$Kind"
def R_L : String := "InstructionReader$LongKinds"
def R_S : String := "InstructionReader$ShortKinds"
def R_W : String := "InstructionReaderLaw"
def R_JS : String := "java/lang/String"
def R_JL : String := "java/lang/StringLatin1"
def R_JP : String := "jdk/internal/util/Preconditions"
abbrev b_R_init : ByteArray := prog_1_method_1_code
def y_R_init : MethodName := ⟨"InstructionReader", "<init>", "()V"⟩
abbrev b_T_init : ByteArray := prog_6_method_1_code
def y_T_init : MethodName := ⟨"InstructionReader$Text", "<init>", "()V"⟩
abbrev b_R_read : ByteArray := prog_1_method_2_code
def y_R_read : MethodName := ⟨"InstructionReader", "read", "(I)I"⟩
abbrev b_R_isLong : ByteArray := prog_1_method_12_code
def y_R_isLong : MethodName := ⟨"InstructionReader", "isLong", "(I)Z"⟩
abbrev b_R_show : ByteArray := prog_1_method_14_code
def y_R_show : MethodName := ⟨"InstructionReader", "show", "(I)V"⟩
abbrev b_R_kindOf : ByteArray := prog_1_method_13_code
def y_R_kindOf : MethodName := ⟨"InstructionReader", "kindOf", "(I)LInstructionReader$Kind;"⟩
abbrev b_L_ofWord : ByteArray := prog_4_method_2_code
def y_L_ofWord : MethodName := ⟨"InstructionReader$LongKinds", "ofWord", "(I)LInstructionReader$Kind;"⟩
abbrev b_L_load : ByteArray := prog_4_method_3_code
def y_L_load : MethodName := ⟨"InstructionReader$LongKinds", "load", "(I)LInstructionReader$Kind;"⟩
abbrev b_L_alone : ByteArray := prog_4_method_4_code
def y_L_alone : MethodName := ⟨"InstructionReader$LongKinds", "alone", "(I)LInstructionReader$Kind;"⟩
abbrev b_L_withNumber : ByteArray := prog_4_method_5_code
def y_L_withNumber : MethodName := ⟨"InstructionReader$LongKinds", "withNumber", "(II)LInstructionReader$Kind;"⟩
abbrev b_L_shiftRight : ByteArray := prog_4_method_6_code
def y_L_shiftRight : MethodName := ⟨"InstructionReader$LongKinds", "shiftRight", "(I)LInstructionReader$Kind;"⟩
abbrev b_L_store : ByteArray := prog_4_method_7_code
def y_L_store : MethodName := ⟨"InstructionReader$LongKinds", "store", "(I)LInstructionReader$Kind;"⟩
abbrev b_L_atomic : ByteArray := prog_4_method_8_code
def y_L_atomic : MethodName := ⟨"InstructionReader$LongKinds", "atomic", "(II)LInstructionReader$Kind;"⟩
abbrev b_L_ofRegisters : ByteArray := prog_4_method_9_code
def y_L_ofRegisters : MethodName := ⟨"InstructionReader$LongKinds", "ofRegisters", "(II)LInstructionReader$Kind;"⟩
abbrev b_L_plain : ByteArray := prog_4_method_10_code
def y_L_plain : MethodName := ⟨"InstructionReader$LongKinds", "plain", "(I)LInstructionReader$Kind;"⟩
abbrev b_L_product : ByteArray := prog_4_method_11_code
def y_L_product : MethodName := ⟨"InstructionReader$LongKinds", "product", "(I)LInstructionReader$Kind;"⟩
abbrev b_L_secondOfTwo : ByteArray := prog_4_method_12_code
def y_L_secondOfTwo : MethodName := ⟨"InstructionReader$LongKinds", "secondOfTwo", "(I)LInstructionReader$Kind;"⟩
abbrev b_L_branch : ByteArray := prog_4_method_13_code
def y_L_branch : MethodName := ⟨"InstructionReader$LongKinds", "branch", "(I)LInstructionReader$Kind;"⟩
abbrev b_L_counter : ByteArray := prog_4_method_14_code
def y_L_counter : MethodName := ⟨"InstructionReader$LongKinds", "counter", "(I)LInstructionReader$Kind;"⟩
abbrev b_S_ofHalf : ByteArray := prog_5_method_2_code
def y_S_ofHalf : MethodName := ⟨"InstructionReader$ShortKinds", "ofHalf", "(I)LInstructionReader$Kind;"⟩
abbrev b_S_ofQ0 : ByteArray := prog_5_method_3_code
def y_S_ofQ0 : MethodName := ⟨"InstructionReader$ShortKinds", "ofQ0", "(II)LInstructionReader$Kind;"⟩
abbrev b_F_times4 : ByteArray := prog_2_method_6_code
def y_F_times4 : MethodName := ⟨"InstructionReader$Fields", "times4", "(I)I"⟩
abbrev b_F_part : ByteArray := prog_2_method_13_code
def y_F_part : MethodName := ⟨"InstructionReader$Fields", "part", "(IIII)I"⟩
abbrev b_S_ofQ1 : ByteArray := prog_5_method_4_code
def y_S_ofQ1 : MethodName := ⟨"InstructionReader$ShortKinds", "ofQ1", "(II)LInstructionReader$Kind;"⟩
abbrev b_S_upperOrStack : ByteArray := prog_5_method_5_code
def y_S_upperOrStack : MethodName := ⟨"InstructionReader$ShortKinds", "upperOrStack", "(I)LInstructionReader$Kind;"⟩
abbrev b_F_six : ByteArray := prog_2_method_5_code
def y_F_six : MethodName := ⟨"InstructionReader$Fields", "six", "(I)I"⟩
abbrev b_F_signed : ByteArray := prog_2_method_14_code
def y_F_signed : MethodName := ⟨"InstructionReader$Fields", "signed", "(III)I"⟩
abbrev b_S_firstRegister : ByteArray := prog_5_method_11_code
def y_S_firstRegister : MethodName := ⟨"InstructionReader$ShortKinds", "firstRegister", "(I)I"⟩
abbrev b_S_onLesserRegister : ByteArray := prog_5_method_6_code
def y_S_onLesserRegister : MethodName := ⟨"InstructionReader$ShortKinds", "onLesserRegister", "(I)LInstructionReader$Kind;"⟩
abbrev b_S_hasBit12 : ByteArray := prog_5_method_13_code
def y_S_hasBit12 : MethodName := ⟨"InstructionReader$ShortKinds", "hasBit12", "(I)Z"⟩
abbrev b_S_ofLesserRegisters : ByteArray := prog_5_method_7_code
def y_S_ofLesserRegisters : MethodName := ⟨"InstructionReader$ShortKinds", "ofLesserRegisters", "(I)LInstructionReader$Kind;"⟩
abbrev b_S_ofQ2 : ByteArray := prog_5_method_8_code
def y_S_ofQ2 : MethodName := ⟨"InstructionReader$ShortKinds", "ofQ2", "(II)LInstructionReader$Kind;"⟩
abbrev b_S_addOrJump : ByteArray := prog_5_method_10_code
def y_S_addOrJump : MethodName := ⟨"InstructionReader$ShortKinds", "addOrJump", "(I)LInstructionReader$Kind;"⟩
abbrev b_S_secondRegister : ByteArray := prog_5_method_12_code
def y_S_secondRegister : MethodName := ⟨"InstructionReader$ShortKinds", "secondRegister", "(I)I"⟩
abbrev b_S_moveOrJump : ByteArray := prog_5_method_9_code
def y_S_moveOrJump : MethodName := ⟨"InstructionReader$ShortKinds", "moveOrJump", "(I)LInstructionReader$Kind;"⟩
abbrev b_T_write : ByteArray := prog_6_method_4_code
def y_T_write : MethodName := ⟨"InstructionReader$Text", "write", "(LInstructionReader$Kind;I)V"⟩
abbrev b_T_word : ByteArray := prog_6_method_12_code
def y_T_word : MethodName := ⟨"InstructionReader$Text", "word", "(Ljava/lang/String;)V"⟩
abbrev b_JS_length : ByteArray := prog_15_method_54_code
def y_JS_length : MethodName := ⟨"java/lang/String", "length", "()I"⟩
abbrev b_JS_coder : ByteArray := prog_15_method_152_code
def y_JS_coder : MethodName := ⟨"java/lang/String", "coder", "()B"⟩
abbrev b_JS_charAt : ByteArray := prog_15_method_56_code
def y_JS_charAt : MethodName := ⟨"java/lang/String", "charAt", "(I)C"⟩
abbrev b_JS_isLatin1 : ByteArray := prog_15_method_154_code
def y_JS_isLatin1 : MethodName := ⟨"java/lang/String", "isLatin1", "()Z"⟩
abbrev b_JL_charAt : ByteArray := prog_16_method_2_code
def y_JL_charAt : MethodName := ⟨"java/lang/StringLatin1", "charAt", "([BI)C"⟩
abbrev b_JS_checkIndex : ByteArray := prog_15_method_155_code
def y_JS_checkIndex : MethodName := ⟨"java/lang/String", "checkIndex", "(II)V"⟩
abbrev b_JP_checkIndex : ByteArray := prog_19_method_11_code
def y_JP_checkIndex : MethodName := ⟨"jdk/internal/util/Preconditions", "checkIndex", "(IILjava/util/function/BiFunction;)I"⟩
abbrev b_T_put : ByteArray := prog_6_method_13_code
def y_T_put : MethodName := ⟨"InstructionReader$Text", "put", "(C)V"⟩
abbrev b_T_order : ByteArray := prog_6_method_5_code
def y_T_order : MethodName := ⟨"InstructionReader$Text", "order", "(I)V"⟩
abbrev b_JS_isEmpty : ByteArray := prog_15_method_55_code
def y_JS_isEmpty : MethodName := ⟨"java/lang/String", "isEmpty", "()Z"⟩
abbrev b_T_operand : ByteArray := prog_6_method_6_code
def y_T_operand : MethodName := ⟨"InstructionReader$Text", "operand", "(CI)V"⟩
abbrev b_T_register : ByteArray := prog_6_method_7_code
def y_T_register : MethodName := ⟨"InstructionReader$Text", "register", "(I)V"⟩
abbrev b_T_registerName : ByteArray := prog_6_method_8_code
def y_T_registerName : MethodName := ⟨"InstructionReader$Text", "registerName", "(I)Ljava/lang/String;"⟩
abbrev b_T_number : ByteArray := prog_6_method_9_code
def y_T_number : MethodName := ⟨"InstructionReader$Text", "number", "(I)V"⟩
abbrev b_JM_abs : ByteArray := prog_13_method_59_code
def y_JM_abs : MethodName := ⟨"java/lang/Math", "abs", "(I)I"⟩
abbrev b_T_digits : ByteArray := prog_6_method_11_code
def y_T_digits : MethodName := ⟨"InstructionReader$Text", "digits", "(J)V"⟩
abbrev b_F_store : ByteArray := prog_2_method_2_code
def y_F_store : MethodName := ⟨"InstructionReader$Fields", "store", "(I)I"⟩
abbrev b_F_times16 : ByteArray := prog_2_method_7_code
def y_F_times16 : MethodName := ⟨"InstructionReader$Fields", "times16", "(I)I"⟩
abbrev b_F_shortWord : ByteArray := prog_2_method_8_code
def y_F_shortWord : MethodName := ⟨"InstructionReader$Fields", "shortWord", "(I)I"⟩
abbrev b_F_stackLoad : ByteArray := prog_2_method_9_code
def y_F_stackLoad : MethodName := ⟨"InstructionReader$Fields", "stackLoad", "(I)I"⟩
abbrev b_F_stackStore : ByteArray := prog_2_method_10_code
def y_F_stackStore : MethodName := ⟨"InstructionReader$Fields", "stackStore", "(I)I"⟩
abbrev b_F_branch : ByteArray := prog_2_method_3_code
def y_F_branch : MethodName := ⟨"InstructionReader$Fields", "branch", "(I)I"⟩
abbrev b_T_offset : ByteArray := prog_6_method_10_code
def y_T_offset : MethodName := ⟨"InstructionReader$Text", "offset", "(I)V"⟩
abbrev b_F_jump : ByteArray := prog_2_method_4_code
def y_F_jump : MethodName := ⟨"InstructionReader$Fields", "jump", "(I)I"⟩
abbrev b_F_shortJump : ByteArray := prog_2_method_11_code
def y_F_shortJump : MethodName := ⟨"InstructionReader$Fields", "shortJump", "(I)I"⟩
abbrev b_F_shortBranch : ByteArray := prog_2_method_12_code
def y_F_shortBranch : MethodName := ⟨"InstructionReader$Fields", "shortBranch", "(I)I"⟩
abbrev b_K_isInstruction : ByteArray := prog_3_method_5_code
def y_K_isInstruction : MethodName := ⟨"InstructionReader$Kind", "isInstruction", "()Z"⟩
abbrev b_K_operandCount : ByteArray := prog_3_method_6_code
def y_K_operandCount : MethodName := ⟨"InstructionReader$Kind", "operandCount", "()I"⟩
abbrev b_T_size : ByteArray := prog_6_method_2_code
def y_T_size : MethodName := ⟨"InstructionReader$Text", "size", "()I"⟩
abbrev b_R_about : ByteArray := prog_1_method_4_code
def y_R_about : MethodName := ⟨"InstructionReader", "about", "(I)I"⟩
abbrev b_W_letter : ByteArray := method_3_code
def y_W_letter : MethodName := ⟨"InstructionReaderLaw", "letter", "(LInstructionReader;I[J)I"⟩
abbrev b_R_letter : ByteArray := prog_1_method_3_code
def y_R_letter : MethodName := ⟨"InstructionReader", "letter", "(I)C"⟩
abbrev b_T_character : ByteArray := prog_6_method_3_code
def y_T_character : MethodName := ⟨"InstructionReader$Text", "character", "(I)C"⟩
abbrev b_W_poke : ByteArray := method_4_code
def y_W_poke : MethodName := ⟨"InstructionReaderLaw", "poke", "(LInstructionReader;II)I"⟩
abbrev b_R_poke : ByteArray := prog_1_method_5_code
def y_R_poke : MethodName := ⟨"InstructionReader", "poke", "(II)V"⟩
abbrev b_R_demandAddress : ByteArray := prog_1_method_10_code
def y_R_demandAddress : MethodName := ⟨"InstructionReader", "demandAddress", "(I)V"⟩
abbrev b_R_isAddress : ByteArray := prog_1_method_11_code
def y_R_isAddress : MethodName := ⟨"InstructionReader", "isAddress", "(I)Z"⟩
abbrev b_W_at : ByteArray := method_5_code
def y_W_at : MethodName := ⟨"InstructionReaderLaw", "at", "(LInstructionReader;I[J)I"⟩
abbrev b_R_at : ByteArray := prog_1_method_6_code
def y_R_at : MethodName := ⟨"InstructionReader", "at", "(I)I"⟩
abbrev b_R_isWholeAt : ByteArray := prog_1_method_15_code
def y_R_isWholeAt : MethodName := ⟨"InstructionReader", "isWholeAt", "(I)Z"⟩
abbrev b_R_bytesAt : ByteArray := prog_1_method_16_code
def y_R_bytesAt : MethodName := ⟨"InstructionReader", "bytesAt", "(I)I"⟩
abbrev b_R_byteAt : ByteArray := prog_1_method_19_code
def y_R_byteAt : MethodName := ⟨"InstructionReader", "byteAt", "(I)I"⟩
abbrev b_R_bitsAt : ByteArray := prog_1_method_17_code
def y_R_bitsAt : MethodName := ⟨"InstructionReader", "bitsAt", "(I)I"⟩
abbrev b_R_halfAt : ByteArray := prog_1_method_18_code
def y_R_halfAt : MethodName := ⟨"InstructionReader", "halfAt", "(I)I"⟩
abbrev b_W_next : ByteArray := method_6_code
def y_W_next : MethodName := ⟨"InstructionReaderLaw", "next", "(LInstructionReader;II[J)I"⟩
abbrev b_R_next : ByteArray := prog_1_method_7_code
def y_R_next : MethodName := ⟨"InstructionReader", "next", "(II)I"⟩
abbrev b_W_before : ByteArray := method_7_code
def y_W_before : MethodName := ⟨"InstructionReaderLaw", "before", "(LInstructionReader;II[J)I"⟩
abbrev b_R_before : ByteArray := prog_1_method_8_code
def y_R_before : MethodName := ⟨"InstructionReader", "before", "(II)I"⟩
abbrev b_W_numbers : ByteArray := method_8_code
def y_W_numbers : MethodName := ⟨"InstructionReaderLaw", "numbers", "(LInstructionReader;I[J)I"⟩
abbrev b_R_numbers : ByteArray := prog_1_method_9_code
def y_R_numbers : MethodName := ⟨"InstructionReader", "numbers", "(I)I"⟩
abbrev b_M_init : ByteArray := prog_8_method_1_code
def y_M_init : MethodName := ⟨"InstructionReaderModel", "<init>", "()V"⟩
abbrev b_M_thrown : ByteArray := prog_8_method_2_code
def y_M_thrown : MethodName := ⟨"InstructionReaderModel", "thrown", "()I"⟩
abbrev b_M_read : ByteArray := prog_8_method_33_code
def y_M_read : MethodName := ⟨"InstructionReaderModel", "read", "(I)I"⟩
abbrev b_M_understand : ByteArray := prog_8_method_32_code
def y_M_understand : MethodName := ⟨"InstructionReaderModel", "understand", "()V"⟩
abbrev b_M_part : ByteArray := prog_8_method_3_code
def y_M_part : MethodName := ⟨"InstructionReaderModel", "part", "(II)I"⟩
abbrev b_M_longOne : ByteArray := prog_8_method_23_code
def y_M_longOne : MethodName := ⟨"InstructionReaderModel", "longOne", "()V"⟩
abbrev b_M_plain : ByteArray := prog_8_method_16_code
def y_M_plain : MethodName := ⟨"InstructionReaderModel", "plain", "(I)V"⟩
abbrev b_M_threes : ByteArray := prog_8_method_15_code
def y_M_threes : MethodName := ⟨"InstructionReaderModel", "threes", "(J)V"⟩
abbrev b_M_name : ByteArray := prog_8_method_8_code
def y_M_name : MethodName := ⟨"InstructionReaderModel", "name", "(J)V"⟩
abbrev b_M_say : ByteArray := prog_8_method_5_code
def y_M_say : MethodName := ⟨"InstructionReaderModel", "say", "(J)V"⟩
abbrev b_M_put : ByteArray := prog_8_method_4_code
def y_M_put : MethodName := ⟨"InstructionReaderModel", "put", "(I)V"⟩
abbrev b_M_register : ByteArray := prog_8_method_10_code
def y_M_register : MethodName := ⟨"InstructionReaderModel", "register", "(I)V"⟩
abbrev b_M_next : ByteArray := prog_8_method_9_code
def y_M_next : MethodName := ⟨"InstructionReaderModel", "next", "()V"⟩
abbrev b_M_twos : ByteArray := prog_8_method_17_code
def y_M_twos : MethodName := ⟨"InstructionReaderModel", "twos", "(I)V"⟩
abbrev b_M_immediate : ByteArray := prog_8_method_11_code
def y_M_immediate : MethodName := ⟨"InstructionReaderModel", "immediate", "(I)V"⟩
abbrev b_M_number : ByteArray := prog_8_method_7_code
def y_M_number : MethodName := ⟨"InstructionReaderModel", "number", "(I)V"⟩
abbrev b_M_digits : ByteArray := prog_8_method_6_code
def y_M_digits : MethodName := ⟨"InstructionReaderModel", "digits", "(J)V"⟩
abbrev b_M_loads : ByteArray := prog_8_method_18_code
def y_M_loads : MethodName := ⟨"InstructionReaderModel", "loads", "()V"⟩
abbrev b_M_memory : ByteArray := prog_8_method_14_code
def y_M_memory : MethodName := ⟨"InstructionReaderModel", "memory", "(II)V"⟩
abbrev b_M_bracket : ByteArray := prog_8_method_13_code
def y_M_bracket : MethodName := ⟨"InstructionReaderModel", "bracket", "(I)V"⟩
abbrev b_M_stores : ByteArray := prog_8_method_19_code
def y_M_stores : MethodName := ⟨"InstructionReaderModel", "stores", "()V"⟩
abbrev b_M_branches : ByteArray := prog_8_method_20_code
def y_M_branches : MethodName := ⟨"InstructionReaderModel", "branches", "()V"⟩
abbrev b_M_target : ByteArray := prog_8_method_12_code
def y_M_target : MethodName := ⟨"InstructionReaderModel", "target", "(I)V"⟩
abbrev b_M_atomic : ByteArray := prog_8_method_21_code
def y_M_atomic : MethodName := ⟨"InstructionReaderModel", "atomic", "(I)V"⟩
abbrev b_M_system : ByteArray := prog_8_method_22_code
def y_M_system : MethodName := ⟨"InstructionReaderModel", "system", "()V"⟩
abbrev b_M_others : ByteArray := prog_8_method_24_code
def y_M_others : MethodName := ⟨"InstructionReaderModel", "others", "()V"⟩
abbrev b_M_first : ByteArray := prog_8_method_26_code
def y_M_first : MethodName := ⟨"InstructionReaderModel", "first", "()V"⟩
abbrev b_M_second : ByteArray := prog_8_method_30_code
def y_M_second : MethodName := ⟨"InstructionReaderModel", "second", "()V"⟩
abbrev b_M_six : ByteArray := prog_8_method_25_code
def y_M_six : MethodName := ⟨"InstructionReaderModel", "six", "()I"⟩
abbrev b_M_jump : ByteArray := prog_8_method_27_code
def y_M_jump : MethodName := ⟨"InstructionReaderModel", "jump", "(J)V"⟩
abbrev b_M_upper : ByteArray := prog_8_method_29_code
def y_M_upper : MethodName := ⟨"InstructionReaderModel", "upper", "()V"⟩
abbrev b_M_reckon : ByteArray := prog_8_method_28_code
def y_M_reckon : MethodName := ⟨"InstructionReaderModel", "reckon", "(I)V"⟩
abbrev b_M_third : ByteArray := prog_8_method_31_code
def y_M_third : MethodName := ⟨"InstructionReaderModel", "third", "()V"⟩
abbrev b_M_letter : ByteArray := prog_8_method_34_code
def y_M_letter : MethodName := ⟨"InstructionReaderModel", "letter", "(I)C"⟩
abbrev b_M_about : ByteArray := prog_8_method_35_code
def y_M_about : MethodName := ⟨"InstructionReaderModel", "about", "(I)I"⟩
abbrev b_M_poke : ByteArray := prog_8_method_37_code
def y_M_poke : MethodName := ⟨"InstructionReaderModel", "poke", "(II)V"⟩
abbrev b_M_refuses : ByteArray := prog_8_method_36_code
def y_M_refuses : MethodName := ⟨"InstructionReaderModel", "refuses", "(I)Z"⟩
abbrev b_M_at : ByteArray := prog_8_method_40_code
def y_M_at : MethodName := ⟨"InstructionReaderModel", "at", "(I)I"⟩
abbrev b_M_long4 : ByteArray := prog_8_method_38_code
def y_M_long4 : MethodName := ⟨"InstructionReaderModel", "long4", "(I)I"⟩
abbrev b_M_take : ByteArray := prog_8_method_39_code
def y_M_take : MethodName := ⟨"InstructionReaderModel", "take", "(I)I"⟩
abbrev b_M_next2 : ByteArray := prog_8_method_41_code
def y_M_next2 : MethodName := ⟨"InstructionReaderModel", "next", "(II)I"⟩
abbrev b_M_before : ByteArray := prog_8_method_42_code
def y_M_before : MethodName := ⟨"InstructionReaderModel", "before", "(II)I"⟩
abbrev b_M_numbers : ByteArray := prog_8_method_43_code
def y_M_numbers : MethodName := ⟨"InstructionReaderModel", "numbers", "(I)I"⟩
end
section
theorem d_R_init_0 : decode b_R_init 0 = .ok (.aload_n 0, 1) := by decide +kernel
theorem d_R_init_1 : decode b_R_init 1 = .ok (.invokespecial 3, 3) := by decide +kernel
theorem d_R_init_4 : decode b_R_init 4 = .ok (.aload_n 0, 1) := by decide +kernel
theorem d_R_init_5 : decode b_R_init 5 = .ok (.sipush 256, 3) := by decide +kernel
theorem d_R_init_8 : decode b_R_init 8 = .ok (.newarray .int, 2) := by decide +kernel
theorem d_R_init_10 : decode b_R_init 10 = .ok (.putfield 9, 3) := by decide +kernel
theorem d_R_init_13 : decode b_R_init 13 = .ok (.aload_n 0, 1) := by decide +kernel
theorem d_R_init_14 : decode b_R_init 14 = .ok (.new 13, 3) := by decide +kernel
theorem d_R_init_17 : decode b_R_init 17 = .ok (.dup, 1) := by decide +kernel
theorem d_R_init_18 : decode b_R_init 18 = .ok (.invokespecial 15, 3) := by decide +kernel
theorem d_R_init_21 : decode b_R_init 21 = .ok (.putfield 16, 3) := by decide +kernel
theorem d_R_init_24 : decode b_R_init 24 = .ok (.aload_n 0, 1) := by decide +kernel
theorem d_R_init_25 : decode b_R_init 25 = .ok (.iconst 0, 1) := by decide +kernel
theorem d_R_init_26 : decode b_R_init 26 = .ok (.putfield 20, 3) := by decide +kernel
theorem d_R_init_29 : decode b_R_init 29 = .ok (.aload_n 0, 1) := by decide +kernel
theorem d_R_init_30 : decode b_R_init 30 = .ok (.iconst 0, 1) := by decide +kernel
theorem d_R_init_31 : decode b_R_init 31 = .ok (.putfield 24, 3) := by decide +kernel
theorem d_R_init_34 : decode b_R_init 34 = .ok (.aload_n 0, 1) := by decide +kernel
theorem d_R_init_35 : decode b_R_init 35 = .ok (.iconst 0, 1) := by decide +kernel
theorem d_R_init_36 : decode b_R_init 36 = .ok (.putfield 28, 3) := by decide +kernel
theorem d_R_init_39 : decode b_R_init 39 = .ok (.return_, 1) := by decide +kernel
theorem d_T_init_0 : decode b_T_init 0 = .ok (.aload_n 0, 1) := by decide +kernel
theorem d_T_init_1 : decode b_T_init 1 = .ok (.invokespecial 1, 3) := by decide +kernel
theorem d_T_init_4 : decode b_T_init 4 = .ok (.aload_n 0, 1) := by decide +kernel
theorem d_T_init_5 : decode b_T_init 5 = .ok (.bipush 40, 2) := by decide +kernel
theorem d_T_init_7 : decode b_T_init 7 = .ok (.newarray .char, 2) := by decide +kernel
theorem d_T_init_9 : decode b_T_init 9 = .ok (.putfield 9, 3) := by decide +kernel
theorem d_T_init_12 : decode b_T_init 12 = .ok (.aload_n 0, 1) := by decide +kernel
theorem d_T_init_13 : decode b_T_init 13 = .ok (.iconst 0, 1) := by decide +kernel
theorem d_T_init_14 : decode b_T_init 14 = .ok (.putfield 13, 3) := by decide +kernel
theorem d_T_init_17 : decode b_T_init 17 = .ok (.return_, 1) := by decide +kernel
theorem d_R_read_0 : decode b_R_read 0 = .ok (.aload_n 0, 1) := by decide +kernel
theorem d_R_read_1 : decode b_R_read 1 = .ok (.iload_n 1, 1) := by decide +kernel
theorem d_R_read_2 : decode b_R_read 2 = .ok (.invokestatic 31, 3) := by decide +kernel
theorem d_R_read_5 : decode b_R_read 5 = .ok (.ifCond .eq 7, 3) := by decide +kernel
theorem d_R_read_8 : decode b_R_read 8 = .ok (.iload_n 1, 1) := by decide +kernel
theorem d_R_read_9 : decode b_R_read 9 = .ok (.goto 7, 3) := by decide +kernel
theorem d_R_read_12 : decode b_R_read 12 = .ok (.iload_n 1, 1) := by decide +kernel
theorem d_R_read_13 : decode b_R_read 13 = .ok (.ldc 35, 2) := by decide +kernel
theorem d_R_read_15 : decode b_R_read 15 = .ok (.iand, 1) := by decide +kernel
theorem d_R_read_16 : decode b_R_read 16 = .ok (.invokevirtual 36, 3) := by decide +kernel
theorem d_R_read_19 : decode b_R_read 19 = .ok (.aload_n 0, 1) := by decide +kernel
theorem d_R_read_20 : decode b_R_read 20 = .ok (.getfield 16, 3) := by decide +kernel
theorem d_R_read_23 : decode b_R_read 23 = .ok (.invokevirtual 40, 3) := by decide +kernel
theorem d_R_read_26 : decode b_R_read 26 = .ok (.ireturn, 1) := by decide +kernel
theorem d_R_isLong_0 : decode b_R_isLong 0 = .ok (.iload_n 0, 1) := by decide +kernel
theorem d_R_isLong_1 : decode b_R_isLong 1 = .ok (.iconst 3, 1) := by decide +kernel
theorem d_R_isLong_2 : decode b_R_isLong 2 = .ok (.iand, 1) := by decide +kernel
theorem d_R_isLong_3 : decode b_R_isLong 3 = .ok (.iconst 3, 1) := by decide +kernel
theorem d_R_isLong_4 : decode b_R_isLong 4 = .ok (.if_icmp .ne 7, 3) := by decide +kernel
theorem d_R_isLong_7 : decode b_R_isLong 7 = .ok (.iconst 1, 1) := by decide +kernel
theorem d_R_isLong_8 : decode b_R_isLong 8 = .ok (.goto 4, 3) := by decide +kernel
theorem d_R_isLong_11 : decode b_R_isLong 11 = .ok (.iconst 0, 1) := by decide +kernel
theorem d_R_isLong_12 : decode b_R_isLong 12 = .ok (.ireturn, 1) := by decide +kernel
theorem d_R_show_0 : decode b_R_show 0 = .ok (.iload_n 1, 1) := by decide +kernel
theorem d_R_show_1 : decode b_R_show 1 = .ok (.invokestatic 73, 3) := by decide +kernel
theorem d_R_show_4 : decode b_R_show 4 = .ok (.astore_n 2, 1) := by decide +kernel
theorem d_R_show_5 : decode b_R_show 5 = .ok (.aload_n 0, 1) := by decide +kernel
theorem d_R_show_6 : decode b_R_show 6 = .ok (.getfield 16, 3) := by decide +kernel
theorem d_R_show_9 : decode b_R_show 9 = .ok (.aload_n 2, 1) := by decide +kernel
theorem d_R_show_10 : decode b_R_show 10 = .ok (.iload_n 1, 1) := by decide +kernel
theorem d_R_show_11 : decode b_R_show 11 = .ok (.invokevirtual 98, 3) := by decide +kernel
theorem d_R_show_14 : decode b_R_show 14 = .ok (.aload_n 0, 1) := by decide +kernel
theorem d_R_show_15 : decode b_R_show 15 = .ok (.iload_n 1, 1) := by decide +kernel
theorem d_R_show_16 : decode b_R_show 16 = .ok (.invokestatic 31, 3) := by decide +kernel
theorem d_R_show_19 : decode b_R_show 19 = .ok (.ifCond .eq 7, 3) := by decide +kernel
theorem d_R_show_22 : decode b_R_show 22 = .ok (.iconst 4, 1) := by decide +kernel
theorem d_R_show_23 : decode b_R_show 23 = .ok (.goto 4, 3) := by decide +kernel
theorem d_R_show_26 : decode b_R_show 26 = .ok (.iconst 2, 1) := by decide +kernel
theorem d_R_show_27 : decode b_R_show 27 = .ok (.putfield 20, 3) := by decide +kernel
theorem d_R_show_30 : decode b_R_show 30 = .ok (.aload_n 0, 1) := by decide +kernel
theorem d_R_show_31 : decode b_R_show 31 = .ok (.aload_n 2, 1) := by decide +kernel
theorem d_R_show_32 : decode b_R_show 32 = .ok (.invokevirtual 77, 3) := by decide +kernel
theorem d_R_show_35 : decode b_R_show 35 = .ok (.putfield 24, 3) := by decide +kernel
theorem d_R_show_38 : decode b_R_show 38 = .ok (.aload_n 0, 1) := by decide +kernel
theorem d_R_show_39 : decode b_R_show 39 = .ok (.aload_n 2, 1) := by decide +kernel
theorem d_R_show_40 : decode b_R_show 40 = .ok (.invokevirtual 102, 3) := by decide +kernel
theorem d_R_show_43 : decode b_R_show 43 = .ok (.putfield 28, 3) := by decide +kernel
theorem d_R_show_46 : decode b_R_show 46 = .ok (.return_, 1) := by decide +kernel
theorem d_R_kindOf_0 : decode b_R_kindOf 0 = .ok (.iload_n 0, 1) := by decide +kernel
theorem d_R_kindOf_1 : decode b_R_kindOf 1 = .ok (.invokestatic 31, 3) := by decide +kernel
theorem d_R_kindOf_4 : decode b_R_kindOf 4 = .ok (.ifCond .eq 10, 3) := by decide +kernel
theorem d_R_kindOf_7 : decode b_R_kindOf 7 = .ok (.iload_n 0, 1) := by decide +kernel
theorem d_R_kindOf_8 : decode b_R_kindOf 8 = .ok (.invokestatic 88, 3) := by decide +kernel
theorem d_R_kindOf_11 : decode b_R_kindOf 11 = .ok (.goto 7, 3) := by decide +kernel
theorem d_R_kindOf_14 : decode b_R_kindOf 14 = .ok (.iload_n 0, 1) := by decide +kernel
theorem d_R_kindOf_15 : decode b_R_kindOf 15 = .ok (.invokestatic 93, 3) := by decide +kernel
theorem d_R_kindOf_18 : decode b_R_kindOf 18 = .ok (.areturn, 1) := by decide +kernel
theorem d_L_ofWord_0 : decode b_L_ofWord 0 = .ok (.iload_n 0, 1) := by decide +kernel
theorem d_L_ofWord_1 : decode b_L_ofWord 1 = .ok (.bipush 12, 2) := by decide +kernel
theorem d_L_ofWord_3 : decode b_L_ofWord 3 = .ok (.ishr, 1) := by decide +kernel
theorem d_L_ofWord_4 : decode b_L_ofWord 4 = .ok (.bipush 7, 2) := by decide +kernel
theorem d_L_ofWord_6 : decode b_L_ofWord 6 = .ok (.iand, 1) := by decide +kernel
theorem d_L_ofWord_7 : decode b_L_ofWord 7 = .ok (.istore_n 1, 1) := by decide +kernel
theorem d_L_ofWord_8 : decode b_L_ofWord 8 = .ok (.iload_n 0, 1) := by decide +kernel
theorem d_L_ofWord_9 : decode b_L_ofWord 9 = .ok (.bipush 25, 2) := by decide +kernel
theorem d_L_ofWord_11 : decode b_L_ofWord 11 = .ok (.iushr, 1) := by decide +kernel
theorem d_L_ofWord_12 : decode b_L_ofWord 12 = .ok (.istore_n 2, 1) := by decide +kernel
theorem d_L_ofWord_13 : decode b_L_ofWord 13 = .ok (.iload_n 0, 1) := by decide +kernel
theorem d_L_ofWord_14 : decode b_L_ofWord 14 = .ok (.bipush 127, 2) := by decide +kernel
theorem d_L_ofWord_16 : decode b_L_ofWord 16 = .ok (.iand, 1) := by decide +kernel
theorem d_L_ofWord_17 : decode b_L_ofWord 17 = .ok (.lookupswitch 201 #[(3, 107), (15, 112), (19, 117), (23, 123), (35, 127), (47, 132), (51, 151), (55, 157), (99, 161), (103, 166), (111, 180), (115, 184)], 107) := by decide +kernel
theorem d_L_ofWord_124 : decode b_L_ofWord 124 = .ok (.iload_n 1, 1) := by decide +kernel
theorem d_L_ofWord_125 : decode b_L_ofWord 125 = .ok (.invokestatic 7, 3) := by decide +kernel
theorem d_L_ofWord_128 : decode b_L_ofWord 128 = .ok (.areturn, 1) := by decide +kernel
theorem d_L_ofWord_129 : decode b_L_ofWord 129 = .ok (.iload_n 0, 1) := by decide +kernel
theorem d_L_ofWord_130 : decode b_L_ofWord 130 = .ok (.invokestatic 13, 3) := by decide +kernel
theorem d_L_ofWord_133 : decode b_L_ofWord 133 = .ok (.areturn, 1) := by decide +kernel
theorem d_L_ofWord_134 : decode b_L_ofWord 134 = .ok (.iload_n 1, 1) := by decide +kernel
theorem d_L_ofWord_135 : decode b_L_ofWord 135 = .ok (.iload_n 2, 1) := by decide +kernel
theorem d_L_ofWord_136 : decode b_L_ofWord 136 = .ok (.invokestatic 16, 3) := by decide +kernel
theorem d_L_ofWord_139 : decode b_L_ofWord 139 = .ok (.areturn, 1) := by decide +kernel
theorem d_L_ofWord_140 : decode b_L_ofWord 140 = .ok (.getstatic 20, 3) := by decide +kernel
theorem d_L_ofWord_143 : decode b_L_ofWord 143 = .ok (.areturn, 1) := by decide +kernel
theorem d_L_ofWord_144 : decode b_L_ofWord 144 = .ok (.iload_n 1, 1) := by decide +kernel
theorem d_L_ofWord_145 : decode b_L_ofWord 145 = .ok (.invokestatic 26, 3) := by decide +kernel
theorem d_L_ofWord_148 : decode b_L_ofWord 148 = .ok (.areturn, 1) := by decide +kernel
theorem d_L_ofWord_149 : decode b_L_ofWord 149 = .ok (.iload_n 1, 1) := by decide +kernel
theorem d_L_ofWord_150 : decode b_L_ofWord 150 = .ok (.iconst 2, 1) := by decide +kernel
theorem d_L_ofWord_151 : decode b_L_ofWord 151 = .ok (.if_icmp .ne 13, 3) := by decide +kernel
theorem d_L_ofWord_154 : decode b_L_ofWord 154 = .ok (.iload_n 2, 1) := by decide +kernel
theorem d_L_ofWord_155 : decode b_L_ofWord 155 = .ok (.iconst 2, 1) := by decide +kernel
theorem d_L_ofWord_156 : decode b_L_ofWord 156 = .ok (.ishr, 1) := by decide +kernel
theorem d_L_ofWord_157 : decode b_L_ofWord 157 = .ok (.iload_n 0, 1) := by decide +kernel
theorem d_L_ofWord_158 : decode b_L_ofWord 158 = .ok (.invokestatic 29, 3) := by decide +kernel
theorem d_L_ofWord_161 : decode b_L_ofWord 161 = .ok (.goto 6, 3) := by decide +kernel
theorem d_L_ofWord_164 : decode b_L_ofWord 164 = .ok (.getstatic 32, 3) := by decide +kernel
theorem d_L_ofWord_167 : decode b_L_ofWord 167 = .ok (.areturn, 1) := by decide +kernel
theorem d_L_ofWord_168 : decode b_L_ofWord 168 = .ok (.iload_n 1, 1) := by decide +kernel
theorem d_L_ofWord_169 : decode b_L_ofWord 169 = .ok (.iload_n 2, 1) := by decide +kernel
theorem d_L_ofWord_170 : decode b_L_ofWord 170 = .ok (.invokestatic 35, 3) := by decide +kernel
theorem d_L_ofWord_173 : decode b_L_ofWord 173 = .ok (.areturn, 1) := by decide +kernel
theorem d_L_ofWord_174 : decode b_L_ofWord 174 = .ok (.getstatic 38, 3) := by decide +kernel
theorem d_L_ofWord_177 : decode b_L_ofWord 177 = .ok (.areturn, 1) := by decide +kernel
theorem d_L_ofWord_178 : decode b_L_ofWord 178 = .ok (.iload_n 1, 1) := by decide +kernel
theorem d_L_ofWord_179 : decode b_L_ofWord 179 = .ok (.invokestatic 41, 3) := by decide +kernel
theorem d_L_ofWord_182 : decode b_L_ofWord 182 = .ok (.areturn, 1) := by decide +kernel
theorem d_L_ofWord_183 : decode b_L_ofWord 183 = .ok (.iload_n 1, 1) := by decide +kernel
theorem d_L_ofWord_184 : decode b_L_ofWord 184 = .ok (.ifCond .ne 9, 3) := by decide +kernel
theorem d_L_ofWord_187 : decode b_L_ofWord 187 = .ok (.getstatic 44, 3) := by decide +kernel
theorem d_L_ofWord_190 : decode b_L_ofWord 190 = .ok (.goto 6, 3) := by decide +kernel
theorem d_L_ofWord_193 : decode b_L_ofWord 193 = .ok (.getstatic 32, 3) := by decide +kernel
theorem d_L_ofWord_196 : decode b_L_ofWord 196 = .ok (.areturn, 1) := by decide +kernel
theorem d_L_ofWord_197 : decode b_L_ofWord 197 = .ok (.getstatic 47, 3) := by decide +kernel
theorem d_L_ofWord_200 : decode b_L_ofWord 200 = .ok (.areturn, 1) := by decide +kernel
theorem d_L_ofWord_201 : decode b_L_ofWord 201 = .ok (.iload_n 1, 1) := by decide +kernel
theorem d_L_ofWord_202 : decode b_L_ofWord 202 = .ok (.iconst 2, 1) := by decide +kernel
theorem d_L_ofWord_203 : decode b_L_ofWord 203 = .ok (.if_icmp .ne 10, 3) := by decide +kernel
theorem d_L_ofWord_206 : decode b_L_ofWord 206 = .ok (.iload_n 0, 1) := by decide +kernel
theorem d_L_ofWord_207 : decode b_L_ofWord 207 = .ok (.invokestatic 50, 3) := by decide +kernel
theorem d_L_ofWord_210 : decode b_L_ofWord 210 = .ok (.goto 7, 3) := by decide +kernel
theorem d_L_ofWord_213 : decode b_L_ofWord 213 = .ok (.iload_n 0, 1) := by decide +kernel
theorem d_L_ofWord_214 : decode b_L_ofWord 214 = .ok (.invokestatic 13, 3) := by decide +kernel
theorem d_L_ofWord_217 : decode b_L_ofWord 217 = .ok (.areturn, 1) := by decide +kernel
theorem d_L_ofWord_218 : decode b_L_ofWord 218 = .ok (.getstatic 32, 3) := by decide +kernel
theorem d_L_ofWord_221 : decode b_L_ofWord 221 = .ok (.areturn, 1) := by decide +kernel
theorem d_L_load_0 : decode b_L_load 0 = .ok (.iload_n 0, 1) := by decide +kernel
theorem d_L_load_1 : decode b_L_load 1 = .ok (.tableswitch 59 0 5 #[39, 43, 47, 59, 51, 55], 39) := by decide +kernel
theorem d_L_load_40 : decode b_L_load 40 = .ok (.getstatic 53, 3) := by decide +kernel
theorem d_L_load_43 : decode b_L_load 43 = .ok (.areturn, 1) := by decide +kernel
theorem d_L_load_44 : decode b_L_load 44 = .ok (.getstatic 56, 3) := by decide +kernel
theorem d_L_load_47 : decode b_L_load 47 = .ok (.areturn, 1) := by decide +kernel
theorem d_L_load_48 : decode b_L_load 48 = .ok (.getstatic 59, 3) := by decide +kernel
theorem d_L_load_51 : decode b_L_load 51 = .ok (.areturn, 1) := by decide +kernel
theorem d_L_load_52 : decode b_L_load 52 = .ok (.getstatic 62, 3) := by decide +kernel
theorem d_L_load_55 : decode b_L_load 55 = .ok (.areturn, 1) := by decide +kernel
theorem d_L_load_56 : decode b_L_load 56 = .ok (.getstatic 65, 3) := by decide +kernel
theorem d_L_load_59 : decode b_L_load 59 = .ok (.areturn, 1) := by decide +kernel
theorem d_L_load_60 : decode b_L_load 60 = .ok (.getstatic 32, 3) := by decide +kernel
theorem d_L_load_63 : decode b_L_load 63 = .ok (.areturn, 1) := by decide +kernel
theorem d_L_alone_0 : decode b_L_alone 0 = .ok (.iload_n 0, 1) := by decide +kernel
theorem d_L_alone_1 : decode b_L_alone 1 = .ok (.lookupswitch 59 #[(115, 51), (4111, 47), (1048691, 55), (267386895, 43)], 43) := by decide +kernel
theorem d_L_alone_44 : decode b_L_alone 44 = .ok (.getstatic 68, 3) := by decide +kernel
theorem d_L_alone_47 : decode b_L_alone 47 = .ok (.areturn, 1) := by decide +kernel
theorem d_L_alone_48 : decode b_L_alone 48 = .ok (.getstatic 71, 3) := by decide +kernel
theorem d_L_alone_51 : decode b_L_alone 51 = .ok (.areturn, 1) := by decide +kernel
theorem d_L_alone_52 : decode b_L_alone 52 = .ok (.getstatic 74, 3) := by decide +kernel
theorem d_L_alone_55 : decode b_L_alone 55 = .ok (.areturn, 1) := by decide +kernel
theorem d_L_alone_56 : decode b_L_alone 56 = .ok (.getstatic 77, 3) := by decide +kernel
theorem d_L_alone_59 : decode b_L_alone 59 = .ok (.areturn, 1) := by decide +kernel
theorem d_L_alone_60 : decode b_L_alone 60 = .ok (.getstatic 32, 3) := by decide +kernel
theorem d_L_alone_63 : decode b_L_alone 63 = .ok (.areturn, 1) := by decide +kernel
theorem d_L_withNumber_0 : decode b_L_withNumber 0 = .ok (.iload_n 0, 1) := by decide +kernel
theorem d_L_withNumber_1 : decode b_L_withNumber 1 = .ok (.tableswitch 82 0 6 #[43, 47, 61, 65, 69, 73, 78], 43) := by decide +kernel
theorem d_L_withNumber_44 : decode b_L_withNumber 44 = .ok (.getstatic 80, 3) := by decide +kernel
theorem d_L_withNumber_47 : decode b_L_withNumber 47 = .ok (.areturn, 1) := by decide +kernel
theorem d_L_withNumber_48 : decode b_L_withNumber 48 = .ok (.iload_n 1, 1) := by decide +kernel
theorem d_L_withNumber_49 : decode b_L_withNumber 49 = .ok (.ifCond .ne 9, 3) := by decide +kernel
theorem d_L_withNumber_52 : decode b_L_withNumber 52 = .ok (.getstatic 83, 3) := by decide +kernel
theorem d_L_withNumber_55 : decode b_L_withNumber 55 = .ok (.goto 6, 3) := by decide +kernel
theorem d_L_withNumber_58 : decode b_L_withNumber 58 = .ok (.getstatic 32, 3) := by decide +kernel
theorem d_L_withNumber_61 : decode b_L_withNumber 61 = .ok (.areturn, 1) := by decide +kernel
theorem d_L_withNumber_62 : decode b_L_withNumber 62 = .ok (.getstatic 86, 3) := by decide +kernel
theorem d_L_withNumber_65 : decode b_L_withNumber 65 = .ok (.areturn, 1) := by decide +kernel
theorem d_L_withNumber_66 : decode b_L_withNumber 66 = .ok (.getstatic 89, 3) := by decide +kernel
theorem d_L_withNumber_69 : decode b_L_withNumber 69 = .ok (.areturn, 1) := by decide +kernel
theorem d_L_withNumber_70 : decode b_L_withNumber 70 = .ok (.getstatic 92, 3) := by decide +kernel
theorem d_L_withNumber_73 : decode b_L_withNumber 73 = .ok (.areturn, 1) := by decide +kernel
theorem d_L_withNumber_74 : decode b_L_withNumber 74 = .ok (.iload_n 1, 1) := by decide +kernel
theorem d_L_withNumber_75 : decode b_L_withNumber 75 = .ok (.invokestatic 95, 3) := by decide +kernel
theorem d_L_withNumber_78 : decode b_L_withNumber 78 = .ok (.areturn, 1) := by decide +kernel
theorem d_L_withNumber_79 : decode b_L_withNumber 79 = .ok (.getstatic 98, 3) := by decide +kernel
theorem d_L_withNumber_82 : decode b_L_withNumber 82 = .ok (.areturn, 1) := by decide +kernel
theorem d_L_withNumber_83 : decode b_L_withNumber 83 = .ok (.getstatic 101, 3) := by decide +kernel
theorem d_L_withNumber_86 : decode b_L_withNumber 86 = .ok (.areturn, 1) := by decide +kernel
theorem d_L_shiftRight_0 : decode b_L_shiftRight 0 = .ok (.iload_n 0, 1) := by decide +kernel
theorem d_L_shiftRight_1 : decode b_L_shiftRight 1 = .ok (.ifCond .ne 7, 3) := by decide +kernel
theorem d_L_shiftRight_4 : decode b_L_shiftRight 4 = .ok (.getstatic 104, 3) := by decide +kernel
theorem d_L_shiftRight_7 : decode b_L_shiftRight 7 = .ok (.areturn, 1) := by decide +kernel
theorem d_L_shiftRight_8 : decode b_L_shiftRight 8 = .ok (.iload_n 0, 1) := by decide +kernel
theorem d_L_shiftRight_9 : decode b_L_shiftRight 9 = .ok (.bipush 32, 2) := by decide +kernel
theorem d_L_shiftRight_11 : decode b_L_shiftRight 11 = .ok (.if_icmp .ne 9, 3) := by decide +kernel
theorem d_L_shiftRight_14 : decode b_L_shiftRight 14 = .ok (.getstatic 107, 3) := by decide +kernel
theorem d_L_shiftRight_17 : decode b_L_shiftRight 17 = .ok (.goto 6, 3) := by decide +kernel
theorem d_L_shiftRight_20 : decode b_L_shiftRight 20 = .ok (.getstatic 32, 3) := by decide +kernel
theorem d_L_shiftRight_23 : decode b_L_shiftRight 23 = .ok (.areturn, 1) := by decide +kernel
theorem d_L_store_0 : decode b_L_store 0 = .ok (.iload_n 0, 1) := by decide +kernel
theorem d_L_store_1 : decode b_L_store 1 = .ok (.tableswitch 39 0 2 #[27, 31, 35], 27) := by decide +kernel
theorem d_L_store_28 : decode b_L_store 28 = .ok (.getstatic 110, 3) := by decide +kernel
theorem d_L_store_31 : decode b_L_store 31 = .ok (.areturn, 1) := by decide +kernel
theorem d_L_store_32 : decode b_L_store 32 = .ok (.getstatic 113, 3) := by decide +kernel
theorem d_L_store_35 : decode b_L_store 35 = .ok (.areturn, 1) := by decide +kernel
theorem d_L_store_36 : decode b_L_store 36 = .ok (.getstatic 116, 3) := by decide +kernel
theorem d_L_store_39 : decode b_L_store 39 = .ok (.areturn, 1) := by decide +kernel
theorem d_L_store_40 : decode b_L_store 40 = .ok (.getstatic 32, 3) := by decide +kernel
theorem d_L_store_43 : decode b_L_store 43 = .ok (.areturn, 1) := by decide +kernel
theorem d_L_atomic_0 : decode b_L_atomic 0 = .ok (.iload_n 0, 1) := by decide +kernel
theorem d_L_atomic_1 : decode b_L_atomic 1 = .ok (.tableswitch 191 0 28 #[131, 135, 139, 159, 163, 191, 191, 191, 167, 191, 191, 191, 171, 191, 191, 191, 175, 191, 191, 191, 179, 191, 191, 191, 183, 191, 191, 191, 187], 131) := by decide +kernel
theorem d_L_atomic_132 : decode b_L_atomic 132 = .ok (.getstatic 119, 3) := by decide +kernel
theorem d_L_atomic_135 : decode b_L_atomic 135 = .ok (.areturn, 1) := by decide +kernel
theorem d_L_atomic_136 : decode b_L_atomic 136 = .ok (.getstatic 122, 3) := by decide +kernel
theorem d_L_atomic_139 : decode b_L_atomic 139 = .ok (.areturn, 1) := by decide +kernel
theorem d_L_atomic_140 : decode b_L_atomic 140 = .ok (.iload_n 1, 1) := by decide +kernel
theorem d_L_atomic_141 : decode b_L_atomic 141 = .ok (.bipush 20, 2) := by decide +kernel
theorem d_L_atomic_143 : decode b_L_atomic 143 = .ok (.ishr, 1) := by decide +kernel
theorem d_L_atomic_144 : decode b_L_atomic 144 = .ok (.bipush 31, 2) := by decide +kernel
theorem d_L_atomic_146 : decode b_L_atomic 146 = .ok (.iand, 1) := by decide +kernel
theorem d_L_atomic_147 : decode b_L_atomic 147 = .ok (.ifCond .ne 9, 3) := by decide +kernel
theorem d_L_atomic_150 : decode b_L_atomic 150 = .ok (.getstatic 125, 3) := by decide +kernel
theorem d_L_atomic_153 : decode b_L_atomic 153 = .ok (.goto 6, 3) := by decide +kernel
theorem d_L_atomic_156 : decode b_L_atomic 156 = .ok (.getstatic 32, 3) := by decide +kernel
theorem d_L_atomic_159 : decode b_L_atomic 159 = .ok (.areturn, 1) := by decide +kernel
theorem d_L_atomic_160 : decode b_L_atomic 160 = .ok (.getstatic 128, 3) := by decide +kernel
theorem d_L_atomic_163 : decode b_L_atomic 163 = .ok (.areturn, 1) := by decide +kernel
theorem d_L_atomic_164 : decode b_L_atomic 164 = .ok (.getstatic 131, 3) := by decide +kernel
theorem d_L_atomic_167 : decode b_L_atomic 167 = .ok (.areturn, 1) := by decide +kernel
theorem d_L_atomic_168 : decode b_L_atomic 168 = .ok (.getstatic 134, 3) := by decide +kernel
theorem d_L_atomic_171 : decode b_L_atomic 171 = .ok (.areturn, 1) := by decide +kernel
theorem d_L_atomic_172 : decode b_L_atomic 172 = .ok (.getstatic 137, 3) := by decide +kernel
theorem d_L_atomic_175 : decode b_L_atomic 175 = .ok (.areturn, 1) := by decide +kernel
theorem d_L_atomic_176 : decode b_L_atomic 176 = .ok (.getstatic 140, 3) := by decide +kernel
theorem d_L_atomic_179 : decode b_L_atomic 179 = .ok (.areturn, 1) := by decide +kernel
theorem d_L_atomic_180 : decode b_L_atomic 180 = .ok (.getstatic 143, 3) := by decide +kernel
theorem d_L_atomic_183 : decode b_L_atomic 183 = .ok (.areturn, 1) := by decide +kernel
theorem d_L_atomic_184 : decode b_L_atomic 184 = .ok (.getstatic 146, 3) := by decide +kernel
theorem d_L_atomic_187 : decode b_L_atomic 187 = .ok (.areturn, 1) := by decide +kernel
theorem d_L_atomic_188 : decode b_L_atomic 188 = .ok (.getstatic 149, 3) := by decide +kernel
theorem d_L_atomic_191 : decode b_L_atomic 191 = .ok (.areturn, 1) := by decide +kernel
theorem d_L_atomic_192 : decode b_L_atomic 192 = .ok (.getstatic 32, 3) := by decide +kernel
theorem d_L_atomic_195 : decode b_L_atomic 195 = .ok (.areturn, 1) := by decide +kernel
theorem d_L_ofRegisters_0 : decode b_L_ofRegisters 0 = .ok (.iload_n 1, 1) := by decide +kernel
theorem d_L_ofRegisters_1 : decode b_L_ofRegisters 1 = .ok (.lookupswitch 50 #[(0, 35), (1, 40), (32, 45)], 35) := by decide +kernel
theorem d_L_ofRegisters_36 : decode b_L_ofRegisters 36 = .ok (.iload_n 0, 1) := by decide +kernel
theorem d_L_ofRegisters_37 : decode b_L_ofRegisters 37 = .ok (.invokestatic 152, 3) := by decide +kernel
theorem d_L_ofRegisters_40 : decode b_L_ofRegisters 40 = .ok (.areturn, 1) := by decide +kernel
theorem d_L_ofRegisters_41 : decode b_L_ofRegisters 41 = .ok (.iload_n 0, 1) := by decide +kernel
theorem d_L_ofRegisters_42 : decode b_L_ofRegisters 42 = .ok (.invokestatic 155, 3) := by decide +kernel
theorem d_L_ofRegisters_45 : decode b_L_ofRegisters 45 = .ok (.areturn, 1) := by decide +kernel
theorem d_L_ofRegisters_46 : decode b_L_ofRegisters 46 = .ok (.iload_n 0, 1) := by decide +kernel
theorem d_L_ofRegisters_47 : decode b_L_ofRegisters 47 = .ok (.invokestatic 158, 3) := by decide +kernel
theorem d_L_ofRegisters_50 : decode b_L_ofRegisters 50 = .ok (.areturn, 1) := by decide +kernel
theorem d_L_ofRegisters_51 : decode b_L_ofRegisters 51 = .ok (.getstatic 32, 3) := by decide +kernel
theorem d_L_ofRegisters_54 : decode b_L_ofRegisters 54 = .ok (.areturn, 1) := by decide +kernel
theorem d_L_plain_0 : decode b_L_plain 0 = .ok (.iload_n 0, 1) := by decide +kernel
theorem d_L_plain_1 : decode b_L_plain 1 = .ok (.tableswitch 71 0 6 #[43, 47, 51, 55, 59, 63, 67], 43) := by decide +kernel
theorem d_L_plain_44 : decode b_L_plain 44 = .ok (.getstatic 161, 3) := by decide +kernel
theorem d_L_plain_47 : decode b_L_plain 47 = .ok (.areturn, 1) := by decide +kernel
theorem d_L_plain_48 : decode b_L_plain 48 = .ok (.getstatic 164, 3) := by decide +kernel
theorem d_L_plain_51 : decode b_L_plain 51 = .ok (.areturn, 1) := by decide +kernel
theorem d_L_plain_52 : decode b_L_plain 52 = .ok (.getstatic 167, 3) := by decide +kernel
theorem d_L_plain_55 : decode b_L_plain 55 = .ok (.areturn, 1) := by decide +kernel
theorem d_L_plain_56 : decode b_L_plain 56 = .ok (.getstatic 170, 3) := by decide +kernel
theorem d_L_plain_59 : decode b_L_plain 59 = .ok (.areturn, 1) := by decide +kernel
theorem d_L_plain_60 : decode b_L_plain 60 = .ok (.getstatic 173, 3) := by decide +kernel
theorem d_L_plain_63 : decode b_L_plain 63 = .ok (.areturn, 1) := by decide +kernel
theorem d_L_plain_64 : decode b_L_plain 64 = .ok (.getstatic 176, 3) := by decide +kernel
theorem d_L_plain_67 : decode b_L_plain 67 = .ok (.areturn, 1) := by decide +kernel
theorem d_L_plain_68 : decode b_L_plain 68 = .ok (.getstatic 179, 3) := by decide +kernel
theorem d_L_plain_71 : decode b_L_plain 71 = .ok (.areturn, 1) := by decide +kernel
theorem d_L_plain_72 : decode b_L_plain 72 = .ok (.getstatic 182, 3) := by decide +kernel
theorem d_L_plain_75 : decode b_L_plain 75 = .ok (.areturn, 1) := by decide +kernel
theorem d_L_product_0 : decode b_L_product 0 = .ok (.iload_n 0, 1) := by decide +kernel
theorem d_L_product_1 : decode b_L_product 1 = .ok (.tableswitch 71 0 6 #[43, 47, 51, 55, 59, 63, 67], 43) := by decide +kernel
theorem d_L_product_44 : decode b_L_product 44 = .ok (.getstatic 185, 3) := by decide +kernel
theorem d_L_product_47 : decode b_L_product 47 = .ok (.areturn, 1) := by decide +kernel
theorem d_L_product_48 : decode b_L_product 48 = .ok (.getstatic 188, 3) := by decide +kernel
theorem d_L_product_51 : decode b_L_product 51 = .ok (.areturn, 1) := by decide +kernel
theorem d_L_product_52 : decode b_L_product 52 = .ok (.getstatic 191, 3) := by decide +kernel
theorem d_L_product_55 : decode b_L_product 55 = .ok (.areturn, 1) := by decide +kernel
theorem d_L_product_56 : decode b_L_product 56 = .ok (.getstatic 194, 3) := by decide +kernel
theorem d_L_product_59 : decode b_L_product 59 = .ok (.areturn, 1) := by decide +kernel
theorem d_L_product_60 : decode b_L_product 60 = .ok (.getstatic 197, 3) := by decide +kernel
theorem d_L_product_63 : decode b_L_product 63 = .ok (.areturn, 1) := by decide +kernel
theorem d_L_product_64 : decode b_L_product 64 = .ok (.getstatic 200, 3) := by decide +kernel
theorem d_L_product_67 : decode b_L_product 67 = .ok (.areturn, 1) := by decide +kernel
theorem d_L_product_68 : decode b_L_product 68 = .ok (.getstatic 203, 3) := by decide +kernel
theorem d_L_product_71 : decode b_L_product 71 = .ok (.areturn, 1) := by decide +kernel
theorem d_L_product_72 : decode b_L_product 72 = .ok (.getstatic 206, 3) := by decide +kernel
theorem d_L_product_75 : decode b_L_product 75 = .ok (.areturn, 1) := by decide +kernel
theorem d_L_secondOfTwo_0 : decode b_L_secondOfTwo 0 = .ok (.iload_n 0, 1) := by decide +kernel
theorem d_L_secondOfTwo_1 : decode b_L_secondOfTwo 1 = .ok (.lookupswitch 35 #[(0, 27), (5, 31)], 27) := by decide +kernel
theorem d_L_secondOfTwo_28 : decode b_L_secondOfTwo 28 = .ok (.getstatic 209, 3) := by decide +kernel
theorem d_L_secondOfTwo_31 : decode b_L_secondOfTwo 31 = .ok (.areturn, 1) := by decide +kernel
theorem d_L_secondOfTwo_32 : decode b_L_secondOfTwo 32 = .ok (.getstatic 212, 3) := by decide +kernel
theorem d_L_secondOfTwo_35 : decode b_L_secondOfTwo 35 = .ok (.areturn, 1) := by decide +kernel
theorem d_L_secondOfTwo_36 : decode b_L_secondOfTwo 36 = .ok (.getstatic 32, 3) := by decide +kernel
theorem d_L_secondOfTwo_39 : decode b_L_secondOfTwo 39 = .ok (.areturn, 1) := by decide +kernel
theorem d_L_branch_0 : decode b_L_branch 0 = .ok (.iload_n 0, 1) := by decide +kernel
theorem d_L_branch_1 : decode b_L_branch 1 = .ok (.tableswitch 71 0 7 #[47, 51, 71, 71, 55, 59, 63, 67], 47) := by decide +kernel
theorem d_L_branch_48 : decode b_L_branch 48 = .ok (.getstatic 215, 3) := by decide +kernel
theorem d_L_branch_51 : decode b_L_branch 51 = .ok (.areturn, 1) := by decide +kernel
theorem d_L_branch_52 : decode b_L_branch 52 = .ok (.getstatic 218, 3) := by decide +kernel
theorem d_L_branch_55 : decode b_L_branch 55 = .ok (.areturn, 1) := by decide +kernel
theorem d_L_branch_56 : decode b_L_branch 56 = .ok (.getstatic 221, 3) := by decide +kernel
theorem d_L_branch_59 : decode b_L_branch 59 = .ok (.areturn, 1) := by decide +kernel
theorem d_L_branch_60 : decode b_L_branch 60 = .ok (.getstatic 224, 3) := by decide +kernel
theorem d_L_branch_63 : decode b_L_branch 63 = .ok (.areturn, 1) := by decide +kernel
theorem d_L_branch_64 : decode b_L_branch 64 = .ok (.getstatic 227, 3) := by decide +kernel
theorem d_L_branch_67 : decode b_L_branch 67 = .ok (.areturn, 1) := by decide +kernel
theorem d_L_branch_68 : decode b_L_branch 68 = .ok (.getstatic 230, 3) := by decide +kernel
theorem d_L_branch_71 : decode b_L_branch 71 = .ok (.areturn, 1) := by decide +kernel
theorem d_L_branch_72 : decode b_L_branch 72 = .ok (.getstatic 32, 3) := by decide +kernel
theorem d_L_branch_75 : decode b_L_branch 75 = .ok (.areturn, 1) := by decide +kernel
theorem d_L_counter_0 : decode b_L_counter 0 = .ok (.iload_n 0, 1) := by decide +kernel
theorem d_L_counter_1 : decode b_L_counter 1 = .ok (.bipush 15, 2) := by decide +kernel
theorem d_L_counter_3 : decode b_L_counter 3 = .ok (.ishr, 1) := by decide +kernel
theorem d_L_counter_4 : decode b_L_counter 4 = .ok (.bipush 31, 2) := by decide +kernel
theorem d_L_counter_6 : decode b_L_counter 6 = .ok (.iand, 1) := by decide +kernel
theorem d_L_counter_7 : decode b_L_counter 7 = .ok (.ifCond .eq 7, 3) := by decide +kernel
theorem d_L_counter_10 : decode b_L_counter 10 = .ok (.getstatic 32, 3) := by decide +kernel
theorem d_L_counter_13 : decode b_L_counter 13 = .ok (.areturn, 1) := by decide +kernel
theorem d_L_counter_14 : decode b_L_counter 14 = .ok (.iload_n 0, 1) := by decide +kernel
theorem d_L_counter_15 : decode b_L_counter 15 = .ok (.bipush 20, 2) := by decide +kernel
theorem d_L_counter_17 : decode b_L_counter 17 = .ok (.iushr, 1) := by decide +kernel
theorem d_L_counter_18 : decode b_L_counter 18 = .ok (.lookupswitch 82 #[(3072, 58), (3073, 62), (3074, 66), (3200, 70), (3201, 74), (3202, 78)], 58) := by decide +kernel
theorem d_L_counter_76 : decode b_L_counter 76 = .ok (.getstatic 233, 3) := by decide +kernel
theorem d_L_counter_79 : decode b_L_counter 79 = .ok (.areturn, 1) := by decide +kernel
theorem d_L_counter_80 : decode b_L_counter 80 = .ok (.getstatic 236, 3) := by decide +kernel
theorem d_L_counter_83 : decode b_L_counter 83 = .ok (.areturn, 1) := by decide +kernel
theorem d_L_counter_84 : decode b_L_counter 84 = .ok (.getstatic 239, 3) := by decide +kernel
theorem d_L_counter_87 : decode b_L_counter 87 = .ok (.areturn, 1) := by decide +kernel
theorem d_L_counter_88 : decode b_L_counter 88 = .ok (.getstatic 242, 3) := by decide +kernel
theorem d_L_counter_91 : decode b_L_counter 91 = .ok (.areturn, 1) := by decide +kernel
theorem d_L_counter_92 : decode b_L_counter 92 = .ok (.getstatic 245, 3) := by decide +kernel
theorem d_L_counter_95 : decode b_L_counter 95 = .ok (.areturn, 1) := by decide +kernel
theorem d_L_counter_96 : decode b_L_counter 96 = .ok (.getstatic 248, 3) := by decide +kernel
theorem d_L_counter_99 : decode b_L_counter 99 = .ok (.areturn, 1) := by decide +kernel
theorem d_L_counter_100 : decode b_L_counter 100 = .ok (.getstatic 32, 3) := by decide +kernel
theorem d_L_counter_103 : decode b_L_counter 103 = .ok (.areturn, 1) := by decide +kernel
theorem d_S_ofHalf_0 : decode b_S_ofHalf 0 = .ok (.iload_n 0, 1) := by decide +kernel
theorem d_S_ofHalf_1 : decode b_S_ofHalf 1 = .ok (.bipush 13, 2) := by decide +kernel
theorem d_S_ofHalf_3 : decode b_S_ofHalf 3 = .ok (.ishr, 1) := by decide +kernel
theorem d_S_ofHalf_4 : decode b_S_ofHalf 4 = .ok (.bipush 7, 2) := by decide +kernel
theorem d_S_ofHalf_6 : decode b_S_ofHalf 6 = .ok (.iand, 1) := by decide +kernel
theorem d_S_ofHalf_7 : decode b_S_ofHalf 7 = .ok (.istore_n 1, 1) := by decide +kernel
theorem d_S_ofHalf_8 : decode b_S_ofHalf 8 = .ok (.iload_n 0, 1) := by decide +kernel
theorem d_S_ofHalf_9 : decode b_S_ofHalf 9 = .ok (.iconst 3, 1) := by decide +kernel
theorem d_S_ofHalf_10 : decode b_S_ofHalf 10 = .ok (.iand, 1) := by decide +kernel
theorem d_S_ofHalf_11 : decode b_S_ofHalf 11 = .ok (.tableswitch 43 0 2 #[25, 31, 37], 25) := by decide +kernel
theorem d_S_ofHalf_36 : decode b_S_ofHalf 36 = .ok (.iload_n 1, 1) := by decide +kernel
theorem d_S_ofHalf_37 : decode b_S_ofHalf 37 = .ok (.iload_n 0, 1) := by decide +kernel
theorem d_S_ofHalf_38 : decode b_S_ofHalf 38 = .ok (.invokestatic 7, 3) := by decide +kernel
theorem d_S_ofHalf_41 : decode b_S_ofHalf 41 = .ok (.areturn, 1) := by decide +kernel
theorem d_S_ofHalf_42 : decode b_S_ofHalf 42 = .ok (.iload_n 1, 1) := by decide +kernel
theorem d_S_ofHalf_43 : decode b_S_ofHalf 43 = .ok (.iload_n 0, 1) := by decide +kernel
theorem d_S_ofHalf_44 : decode b_S_ofHalf 44 = .ok (.invokestatic 13, 3) := by decide +kernel
theorem d_S_ofHalf_47 : decode b_S_ofHalf 47 = .ok (.areturn, 1) := by decide +kernel
theorem d_S_ofHalf_48 : decode b_S_ofHalf 48 = .ok (.iload_n 1, 1) := by decide +kernel
theorem d_S_ofHalf_49 : decode b_S_ofHalf 49 = .ok (.iload_n 0, 1) := by decide +kernel
theorem d_S_ofHalf_50 : decode b_S_ofHalf 50 = .ok (.invokestatic 16, 3) := by decide +kernel
theorem d_S_ofHalf_53 : decode b_S_ofHalf 53 = .ok (.areturn, 1) := by decide +kernel
theorem d_S_ofHalf_54 : decode b_S_ofHalf 54 = .ok (.getstatic 19, 3) := by decide +kernel
theorem d_S_ofHalf_57 : decode b_S_ofHalf 57 = .ok (.areturn, 1) := by decide +kernel
theorem d_S_ofQ0_0 : decode b_S_ofQ0 0 = .ok (.iload_n 0, 1) := by decide +kernel
theorem d_S_ofQ0_1 : decode b_S_ofQ0 1 = .ok (.lookupswitch 60 #[(0, 35), (2, 52), (6, 56)], 35) := by decide +kernel
theorem d_S_ofQ0_36 : decode b_S_ofQ0 36 = .ok (.iload_n 1, 1) := by decide +kernel
theorem d_S_ofQ0_37 : decode b_S_ofQ0 37 = .ok (.invokestatic 25, 3) := by decide +kernel
theorem d_S_ofQ0_40 : decode b_S_ofQ0 40 = .ok (.ifCond .eq 9, 3) := by decide +kernel
theorem d_S_ofQ0_43 : decode b_S_ofQ0 43 = .ok (.getstatic 31, 3) := by decide +kernel
theorem d_S_ofQ0_46 : decode b_S_ofQ0 46 = .ok (.goto 6, 3) := by decide +kernel
theorem d_S_ofQ0_49 : decode b_S_ofQ0 49 = .ok (.getstatic 19, 3) := by decide +kernel
theorem d_S_ofQ0_52 : decode b_S_ofQ0 52 = .ok (.areturn, 1) := by decide +kernel
theorem d_S_ofQ0_53 : decode b_S_ofQ0 53 = .ok (.getstatic 34, 3) := by decide +kernel
theorem d_S_ofQ0_56 : decode b_S_ofQ0 56 = .ok (.areturn, 1) := by decide +kernel
theorem d_S_ofQ0_57 : decode b_S_ofQ0 57 = .ok (.getstatic 37, 3) := by decide +kernel
theorem d_S_ofQ0_60 : decode b_S_ofQ0 60 = .ok (.areturn, 1) := by decide +kernel
theorem d_S_ofQ0_61 : decode b_S_ofQ0 61 = .ok (.getstatic 19, 3) := by decide +kernel
theorem d_S_ofQ0_64 : decode b_S_ofQ0 64 = .ok (.areturn, 1) := by decide +kernel
theorem d_F_times4_0 : decode b_F_times4 0 = .ok (.iload_n 0, 1) := by decide +kernel
theorem d_F_times4_1 : decode b_F_times4 1 = .ok (.bipush 11, 2) := by decide +kernel
theorem d_F_times4_3 : decode b_F_times4 3 = .ok (.iconst 2, 1) := by decide +kernel
theorem d_F_times4_4 : decode b_F_times4 4 = .ok (.iconst 4, 1) := by decide +kernel
theorem d_F_times4_5 : decode b_F_times4 5 = .ok (.invokestatic 13, 3) := by decide +kernel
theorem d_F_times4_8 : decode b_F_times4 8 = .ok (.iload_n 0, 1) := by decide +kernel
theorem d_F_times4_9 : decode b_F_times4 9 = .ok (.bipush 7, 2) := by decide +kernel
theorem d_F_times4_11 : decode b_F_times4 11 = .ok (.iconst 4, 1) := by decide +kernel
theorem d_F_times4_12 : decode b_F_times4 12 = .ok (.bipush 6, 2) := by decide +kernel
theorem d_F_times4_14 : decode b_F_times4 14 = .ok (.invokestatic 13, 3) := by decide +kernel
theorem d_F_times4_17 : decode b_F_times4 17 = .ok (.ior, 1) := by decide +kernel
theorem d_F_times4_18 : decode b_F_times4 18 = .ok (.iload_n 0, 1) := by decide +kernel
theorem d_F_times4_19 : decode b_F_times4 19 = .ok (.bipush 6, 2) := by decide +kernel
theorem d_F_times4_21 : decode b_F_times4 21 = .ok (.iconst 1, 1) := by decide +kernel
theorem d_F_times4_22 : decode b_F_times4 22 = .ok (.iconst 2, 1) := by decide +kernel
theorem d_F_times4_23 : decode b_F_times4 23 = .ok (.invokestatic 13, 3) := by decide +kernel
theorem d_F_times4_26 : decode b_F_times4 26 = .ok (.ior, 1) := by decide +kernel
theorem d_F_times4_27 : decode b_F_times4 27 = .ok (.iload_n 0, 1) := by decide +kernel
theorem d_F_times4_28 : decode b_F_times4 28 = .ok (.iconst 5, 1) := by decide +kernel
theorem d_F_times4_29 : decode b_F_times4 29 = .ok (.iconst 1, 1) := by decide +kernel
theorem d_F_times4_30 : decode b_F_times4 30 = .ok (.iconst 3, 1) := by decide +kernel
theorem d_F_times4_31 : decode b_F_times4 31 = .ok (.invokestatic 13, 3) := by decide +kernel
theorem d_F_times4_34 : decode b_F_times4 34 = .ok (.ior, 1) := by decide +kernel
theorem d_F_times4_35 : decode b_F_times4 35 = .ok (.ireturn, 1) := by decide +kernel
theorem d_F_part_0 : decode b_F_part 0 = .ok (.iload_n 0, 1) := by decide +kernel
theorem d_F_part_1 : decode b_F_part 1 = .ok (.iload_n 1, 1) := by decide +kernel
theorem d_F_part_2 : decode b_F_part 2 = .ok (.iushr, 1) := by decide +kernel
theorem d_F_part_3 : decode b_F_part 3 = .ok (.iconst 1, 1) := by decide +kernel
theorem d_F_part_4 : decode b_F_part 4 = .ok (.iload_n 2, 1) := by decide +kernel
theorem d_F_part_5 : decode b_F_part 5 = .ok (.ishl, 1) := by decide +kernel
theorem d_F_part_6 : decode b_F_part 6 = .ok (.iconst 1, 1) := by decide +kernel
theorem d_F_part_7 : decode b_F_part 7 = .ok (.isub, 1) := by decide +kernel
theorem d_F_part_8 : decode b_F_part 8 = .ok (.iand, 1) := by decide +kernel
theorem d_F_part_9 : decode b_F_part 9 = .ok (.iload_n 3, 1) := by decide +kernel
theorem d_F_part_10 : decode b_F_part 10 = .ok (.ishl, 1) := by decide +kernel
theorem d_F_part_11 : decode b_F_part 11 = .ok (.ireturn, 1) := by decide +kernel
theorem d_S_ofQ1_0 : decode b_S_ofQ1 0 = .ok (.iload_n 0, 1) := by decide +kernel
theorem d_S_ofQ1_1 : decode b_S_ofQ1 1 = .ok (.tableswitch 84 0 6 #[43, 58, 62, 66, 71, 76, 80], 43) := by decide +kernel
theorem d_S_ofQ1_44 : decode b_S_ofQ1 44 = .ok (.iload_n 1, 1) := by decide +kernel
theorem d_S_ofQ1_45 : decode b_S_ofQ1 45 = .ok (.iconst 1, 1) := by decide +kernel
theorem d_S_ofQ1_46 : decode b_S_ofQ1 46 = .ok (.if_icmp .ne 9, 3) := by decide +kernel
theorem d_S_ofQ1_49 : decode b_S_ofQ1 49 = .ok (.getstatic 40, 3) := by decide +kernel
theorem d_S_ofQ1_52 : decode b_S_ofQ1 52 = .ok (.goto 6, 3) := by decide +kernel
theorem d_S_ofQ1_55 : decode b_S_ofQ1 55 = .ok (.getstatic 43, 3) := by decide +kernel
theorem d_S_ofQ1_58 : decode b_S_ofQ1 58 = .ok (.areturn, 1) := by decide +kernel
theorem d_S_ofQ1_59 : decode b_S_ofQ1 59 = .ok (.getstatic 46, 3) := by decide +kernel
theorem d_S_ofQ1_62 : decode b_S_ofQ1 62 = .ok (.areturn, 1) := by decide +kernel
theorem d_S_ofQ1_63 : decode b_S_ofQ1 63 = .ok (.getstatic 49, 3) := by decide +kernel
theorem d_S_ofQ1_66 : decode b_S_ofQ1 66 = .ok (.areturn, 1) := by decide +kernel
theorem d_S_ofQ1_67 : decode b_S_ofQ1 67 = .ok (.iload_n 1, 1) := by decide +kernel
theorem d_S_ofQ1_68 : decode b_S_ofQ1 68 = .ok (.invokestatic 52, 3) := by decide +kernel
theorem d_S_ofQ1_71 : decode b_S_ofQ1 71 = .ok (.areturn, 1) := by decide +kernel
theorem d_S_ofQ1_72 : decode b_S_ofQ1 72 = .ok (.iload_n 1, 1) := by decide +kernel
theorem d_S_ofQ1_73 : decode b_S_ofQ1 73 = .ok (.invokestatic 56, 3) := by decide +kernel
theorem d_S_ofQ1_76 : decode b_S_ofQ1 76 = .ok (.areturn, 1) := by decide +kernel
theorem d_S_ofQ1_77 : decode b_S_ofQ1 77 = .ok (.getstatic 59, 3) := by decide +kernel
theorem d_S_ofQ1_80 : decode b_S_ofQ1 80 = .ok (.areturn, 1) := by decide +kernel
theorem d_S_ofQ1_81 : decode b_S_ofQ1 81 = .ok (.getstatic 62, 3) := by decide +kernel
theorem d_S_ofQ1_84 : decode b_S_ofQ1 84 = .ok (.areturn, 1) := by decide +kernel
theorem d_S_ofQ1_85 : decode b_S_ofQ1 85 = .ok (.getstatic 65, 3) := by decide +kernel
theorem d_S_ofQ1_88 : decode b_S_ofQ1 88 = .ok (.areturn, 1) := by decide +kernel
theorem d_S_upperOrStack_0 : decode b_S_upperOrStack 0 = .ok (.iload_n 0, 1) := by decide +kernel
theorem d_S_upperOrStack_1 : decode b_S_upperOrStack 1 = .ok (.invokestatic 68, 3) := by decide +kernel
theorem d_S_upperOrStack_4 : decode b_S_upperOrStack 4 = .ok (.ifCond .ne 7, 3) := by decide +kernel
theorem d_S_upperOrStack_7 : decode b_S_upperOrStack 7 = .ok (.getstatic 19, 3) := by decide +kernel
theorem d_S_upperOrStack_10 : decode b_S_upperOrStack 10 = .ok (.areturn, 1) := by decide +kernel
theorem d_S_upperOrStack_11 : decode b_S_upperOrStack 11 = .ok (.iload_n 0, 1) := by decide +kernel
theorem d_S_upperOrStack_12 : decode b_S_upperOrStack 12 = .ok (.invokestatic 71, 3) := by decide +kernel
theorem d_S_upperOrStack_15 : decode b_S_upperOrStack 15 = .ok (.iconst 2, 1) := by decide +kernel
theorem d_S_upperOrStack_16 : decode b_S_upperOrStack 16 = .ok (.if_icmp .ne 9, 3) := by decide +kernel
theorem d_S_upperOrStack_19 : decode b_S_upperOrStack 19 = .ok (.getstatic 74, 3) := by decide +kernel
theorem d_S_upperOrStack_22 : decode b_S_upperOrStack 22 = .ok (.goto 6, 3) := by decide +kernel
theorem d_S_upperOrStack_25 : decode b_S_upperOrStack 25 = .ok (.getstatic 77, 3) := by decide +kernel
theorem d_S_upperOrStack_28 : decode b_S_upperOrStack 28 = .ok (.areturn, 1) := by decide +kernel
theorem d_F_six_0 : decode b_F_six 0 = .ok (.iload_n 0, 1) := by decide +kernel
theorem d_F_six_1 : decode b_F_six 1 = .ok (.bipush 12, 2) := by decide +kernel
theorem d_F_six_3 : decode b_F_six 3 = .ok (.iconst 5, 1) := by decide +kernel
theorem d_F_six_4 : decode b_F_six 4 = .ok (.invokestatic 7, 3) := by decide +kernel
theorem d_F_six_7 : decode b_F_six 7 = .ok (.iload_n 0, 1) := by decide +kernel
theorem d_F_six_8 : decode b_F_six 8 = .ok (.iconst 2, 1) := by decide +kernel
theorem d_F_six_9 : decode b_F_six 9 = .ok (.iconst 5, 1) := by decide +kernel
theorem d_F_six_10 : decode b_F_six 10 = .ok (.iconst 0, 1) := by decide +kernel
theorem d_F_six_11 : decode b_F_six 11 = .ok (.invokestatic 13, 3) := by decide +kernel
theorem d_F_six_14 : decode b_F_six 14 = .ok (.ior, 1) := by decide +kernel
theorem d_F_six_15 : decode b_F_six 15 = .ok (.ireturn, 1) := by decide +kernel
theorem d_F_signed_0 : decode b_F_signed 0 = .ok (.iload_n 0, 1) := by decide +kernel
theorem d_F_signed_1 : decode b_F_signed 1 = .ok (.iload_n 1, 1) := by decide +kernel
theorem d_F_signed_2 : decode b_F_signed 2 = .ok (.iushr, 1) := by decide +kernel
theorem d_F_signed_3 : decode b_F_signed 3 = .ok (.iconst 1, 1) := by decide +kernel
theorem d_F_signed_4 : decode b_F_signed 4 = .ok (.iand, 1) := by decide +kernel
theorem d_F_signed_5 : decode b_F_signed 5 = .ok (.ineg, 1) := by decide +kernel
theorem d_F_signed_6 : decode b_F_signed 6 = .ok (.iload_n 2, 1) := by decide +kernel
theorem d_F_signed_7 : decode b_F_signed 7 = .ok (.ishl, 1) := by decide +kernel
theorem d_F_signed_8 : decode b_F_signed 8 = .ok (.ireturn, 1) := by decide +kernel
theorem d_S_firstRegister_0 : decode b_S_firstRegister 0 = .ok (.iload_n 0, 1) := by decide +kernel
theorem d_S_firstRegister_1 : decode b_S_firstRegister 1 = .ok (.bipush 7, 2) := by decide +kernel
theorem d_S_firstRegister_3 : decode b_S_firstRegister 3 = .ok (.ishr, 1) := by decide +kernel
theorem d_S_firstRegister_4 : decode b_S_firstRegister 4 = .ok (.bipush 31, 2) := by decide +kernel
theorem d_S_firstRegister_6 : decode b_S_firstRegister 6 = .ok (.iand, 1) := by decide +kernel
theorem d_S_firstRegister_7 : decode b_S_firstRegister 7 = .ok (.ireturn, 1) := by decide +kernel
theorem d_S_onLesserRegister_0 : decode b_S_onLesserRegister 0 = .ok (.iload_n 0, 1) := by decide +kernel
theorem d_S_onLesserRegister_1 : decode b_S_onLesserRegister 1 = .ok (.bipush 10, 2) := by decide +kernel
end
section
theorem d_S_onLesserRegister_3 : decode b_S_onLesserRegister 3 = .ok (.ishr, 1) := by decide +kernel
theorem d_S_onLesserRegister_4 : decode b_S_onLesserRegister 4 = .ok (.iconst 3, 1) := by decide +kernel
theorem d_S_onLesserRegister_5 : decode b_S_onLesserRegister 5 = .ok (.iand, 1) := by decide +kernel
theorem d_S_onLesserRegister_6 : decode b_S_onLesserRegister 6 = .ok (.istore_n 1, 1) := by decide +kernel
theorem d_S_onLesserRegister_7 : decode b_S_onLesserRegister 7 = .ok (.iload_n 1, 1) := by decide +kernel
theorem d_S_onLesserRegister_8 : decode b_S_onLesserRegister 8 = .ok (.iconst 2, 1) := by decide +kernel
theorem d_S_onLesserRegister_9 : decode b_S_onLesserRegister 9 = .ok (.if_icmp .ne 7, 3) := by decide +kernel
theorem d_S_onLesserRegister_12 : decode b_S_onLesserRegister 12 = .ok (.getstatic 80, 3) := by decide +kernel
theorem d_S_onLesserRegister_15 : decode b_S_onLesserRegister 15 = .ok (.areturn, 1) := by decide +kernel
theorem d_S_onLesserRegister_16 : decode b_S_onLesserRegister 16 = .ok (.iload_n 0, 1) := by decide +kernel
theorem d_S_onLesserRegister_17 : decode b_S_onLesserRegister 17 = .ok (.invokestatic 83, 3) := by decide +kernel
theorem d_S_onLesserRegister_20 : decode b_S_onLesserRegister 20 = .ok (.ifCond .eq 7, 3) := by decide +kernel
theorem d_S_onLesserRegister_23 : decode b_S_onLesserRegister 23 = .ok (.getstatic 19, 3) := by decide +kernel
theorem d_S_onLesserRegister_26 : decode b_S_onLesserRegister 26 = .ok (.areturn, 1) := by decide +kernel
theorem d_S_onLesserRegister_27 : decode b_S_onLesserRegister 27 = .ok (.iload_n 1, 1) := by decide +kernel
theorem d_S_onLesserRegister_28 : decode b_S_onLesserRegister 28 = .ok (.lookupswitch 36 #[(0, 28), (1, 32)], 28) := by decide +kernel
theorem d_S_onLesserRegister_56 : decode b_S_onLesserRegister 56 = .ok (.getstatic 87, 3) := by decide +kernel
theorem d_S_onLesserRegister_59 : decode b_S_onLesserRegister 59 = .ok (.areturn, 1) := by decide +kernel
theorem d_S_onLesserRegister_60 : decode b_S_onLesserRegister 60 = .ok (.getstatic 90, 3) := by decide +kernel
theorem d_S_onLesserRegister_63 : decode b_S_onLesserRegister 63 = .ok (.areturn, 1) := by decide +kernel
theorem d_S_onLesserRegister_64 : decode b_S_onLesserRegister 64 = .ok (.iload_n 0, 1) := by decide +kernel
theorem d_S_onLesserRegister_65 : decode b_S_onLesserRegister 65 = .ok (.iconst 5, 1) := by decide +kernel
theorem d_S_onLesserRegister_66 : decode b_S_onLesserRegister 66 = .ok (.ishr, 1) := by decide +kernel
theorem d_S_onLesserRegister_67 : decode b_S_onLesserRegister 67 = .ok (.iconst 3, 1) := by decide +kernel
theorem d_S_onLesserRegister_68 : decode b_S_onLesserRegister 68 = .ok (.iand, 1) := by decide +kernel
theorem d_S_onLesserRegister_69 : decode b_S_onLesserRegister 69 = .ok (.invokestatic 93, 3) := by decide +kernel
theorem d_S_onLesserRegister_72 : decode b_S_onLesserRegister 72 = .ok (.areturn, 1) := by decide +kernel
theorem d_S_hasBit12_0 : decode b_S_hasBit12 0 = .ok (.iload_n 0, 1) := by decide +kernel
theorem d_S_hasBit12_1 : decode b_S_hasBit12 1 = .ok (.bipush 12, 2) := by decide +kernel
theorem d_S_hasBit12_3 : decode b_S_hasBit12 3 = .ok (.ishr, 1) := by decide +kernel
theorem d_S_hasBit12_4 : decode b_S_hasBit12 4 = .ok (.iconst 1, 1) := by decide +kernel
theorem d_S_hasBit12_5 : decode b_S_hasBit12 5 = .ok (.iand, 1) := by decide +kernel
theorem d_S_hasBit12_6 : decode b_S_hasBit12 6 = .ok (.iconst 1, 1) := by decide +kernel
theorem d_S_hasBit12_7 : decode b_S_hasBit12 7 = .ok (.if_icmp .ne 7, 3) := by decide +kernel
theorem d_S_hasBit12_10 : decode b_S_hasBit12 10 = .ok (.iconst 1, 1) := by decide +kernel
theorem d_S_hasBit12_11 : decode b_S_hasBit12 11 = .ok (.goto 4, 3) := by decide +kernel
theorem d_S_hasBit12_14 : decode b_S_hasBit12 14 = .ok (.iconst 0, 1) := by decide +kernel
theorem d_S_hasBit12_15 : decode b_S_hasBit12 15 = .ok (.ireturn, 1) := by decide +kernel
theorem d_S_ofLesserRegisters_0 : decode b_S_ofLesserRegisters 0 = .ok (.iload_n 0, 1) := by decide +kernel
theorem d_S_ofLesserRegisters_1 : decode b_S_ofLesserRegisters 1 = .ok (.tableswitch 39 0 2 #[27, 31, 35], 27) := by decide +kernel
theorem d_S_ofLesserRegisters_28 : decode b_S_ofLesserRegisters 28 = .ok (.getstatic 96, 3) := by decide +kernel
theorem d_S_ofLesserRegisters_31 : decode b_S_ofLesserRegisters 31 = .ok (.areturn, 1) := by decide +kernel
theorem d_S_ofLesserRegisters_32 : decode b_S_ofLesserRegisters 32 = .ok (.getstatic 99, 3) := by decide +kernel
theorem d_S_ofLesserRegisters_35 : decode b_S_ofLesserRegisters 35 = .ok (.areturn, 1) := by decide +kernel
theorem d_S_ofLesserRegisters_36 : decode b_S_ofLesserRegisters 36 = .ok (.getstatic 102, 3) := by decide +kernel
theorem d_S_ofLesserRegisters_39 : decode b_S_ofLesserRegisters 39 = .ok (.areturn, 1) := by decide +kernel
theorem d_S_ofLesserRegisters_40 : decode b_S_ofLesserRegisters 40 = .ok (.getstatic 105, 3) := by decide +kernel
theorem d_S_ofLesserRegisters_43 : decode b_S_ofLesserRegisters 43 = .ok (.areturn, 1) := by decide +kernel
theorem d_S_ofQ2_0 : decode b_S_ofQ2 0 = .ok (.iload_n 0, 1) := by decide +kernel
theorem d_S_ofQ2_1 : decode b_S_ofQ2 1 = .ok (.tableswitch 100 0 6 #[43, 100, 60, 100, 77, 100, 96], 43) := by decide +kernel
theorem d_S_ofQ2_44 : decode b_S_ofQ2 44 = .ok (.iload_n 1, 1) := by decide +kernel
theorem d_S_ofQ2_45 : decode b_S_ofQ2 45 = .ok (.invokestatic 83, 3) := by decide +kernel
theorem d_S_ofQ2_48 : decode b_S_ofQ2 48 = .ok (.ifCond .eq 9, 3) := by decide +kernel
theorem d_S_ofQ2_51 : decode b_S_ofQ2 51 = .ok (.getstatic 19, 3) := by decide +kernel
theorem d_S_ofQ2_54 : decode b_S_ofQ2 54 = .ok (.goto 6, 3) := by decide +kernel
theorem d_S_ofQ2_57 : decode b_S_ofQ2 57 = .ok (.getstatic 108, 3) := by decide +kernel
theorem d_S_ofQ2_60 : decode b_S_ofQ2 60 = .ok (.areturn, 1) := by decide +kernel
theorem d_S_ofQ2_61 : decode b_S_ofQ2 61 = .ok (.iload_n 1, 1) := by decide +kernel
theorem d_S_ofQ2_62 : decode b_S_ofQ2 62 = .ok (.invokestatic 71, 3) := by decide +kernel
theorem d_S_ofQ2_65 : decode b_S_ofQ2 65 = .ok (.ifCond .eq 9, 3) := by decide +kernel
theorem d_S_ofQ2_68 : decode b_S_ofQ2 68 = .ok (.getstatic 111, 3) := by decide +kernel
theorem d_S_ofQ2_71 : decode b_S_ofQ2 71 = .ok (.goto 6, 3) := by decide +kernel
theorem d_S_ofQ2_74 : decode b_S_ofQ2 74 = .ok (.getstatic 19, 3) := by decide +kernel
theorem d_S_ofQ2_77 : decode b_S_ofQ2 77 = .ok (.areturn, 1) := by decide +kernel
theorem d_S_ofQ2_78 : decode b_S_ofQ2 78 = .ok (.iload_n 1, 1) := by decide +kernel
theorem d_S_ofQ2_79 : decode b_S_ofQ2 79 = .ok (.invokestatic 83, 3) := by decide +kernel
theorem d_S_ofQ2_82 : decode b_S_ofQ2 82 = .ok (.ifCond .eq 10, 3) := by decide +kernel
theorem d_S_ofQ2_85 : decode b_S_ofQ2 85 = .ok (.iload_n 1, 1) := by decide +kernel
theorem d_S_ofQ2_86 : decode b_S_ofQ2 86 = .ok (.invokestatic 114, 3) := by decide +kernel
theorem d_S_ofQ2_89 : decode b_S_ofQ2 89 = .ok (.goto 7, 3) := by decide +kernel
theorem d_S_ofQ2_92 : decode b_S_ofQ2 92 = .ok (.iload_n 1, 1) := by decide +kernel
theorem d_S_ofQ2_93 : decode b_S_ofQ2 93 = .ok (.invokestatic 117, 3) := by decide +kernel
theorem d_S_ofQ2_96 : decode b_S_ofQ2 96 = .ok (.areturn, 1) := by decide +kernel
theorem d_S_ofQ2_97 : decode b_S_ofQ2 97 = .ok (.getstatic 120, 3) := by decide +kernel
theorem d_S_ofQ2_100 : decode b_S_ofQ2 100 = .ok (.areturn, 1) := by decide +kernel
theorem d_S_ofQ2_101 : decode b_S_ofQ2 101 = .ok (.getstatic 19, 3) := by decide +kernel
theorem d_S_ofQ2_104 : decode b_S_ofQ2 104 = .ok (.areturn, 1) := by decide +kernel
theorem d_S_addOrJump_0 : decode b_S_addOrJump 0 = .ok (.iload_n 0, 1) := by decide +kernel
theorem d_S_addOrJump_1 : decode b_S_addOrJump 1 = .ok (.invokestatic 123, 3) := by decide +kernel
theorem d_S_addOrJump_4 : decode b_S_addOrJump 4 = .ok (.ifCond .eq 7, 3) := by decide +kernel
theorem d_S_addOrJump_7 : decode b_S_addOrJump 7 = .ok (.getstatic 132, 3) := by decide +kernel
theorem d_S_addOrJump_10 : decode b_S_addOrJump 10 = .ok (.areturn, 1) := by decide +kernel
theorem d_S_addOrJump_11 : decode b_S_addOrJump 11 = .ok (.iload_n 0, 1) := by decide +kernel
theorem d_S_addOrJump_12 : decode b_S_addOrJump 12 = .ok (.invokestatic 71, 3) := by decide +kernel
theorem d_S_addOrJump_15 : decode b_S_addOrJump 15 = .ok (.ifCond .eq 9, 3) := by decide +kernel
theorem d_S_addOrJump_18 : decode b_S_addOrJump 18 = .ok (.getstatic 135, 3) := by decide +kernel
theorem d_S_addOrJump_21 : decode b_S_addOrJump 21 = .ok (.goto 6, 3) := by decide +kernel
theorem d_S_addOrJump_24 : decode b_S_addOrJump 24 = .ok (.getstatic 138, 3) := by decide +kernel
theorem d_S_addOrJump_27 : decode b_S_addOrJump 27 = .ok (.areturn, 1) := by decide +kernel
theorem d_S_secondRegister_0 : decode b_S_secondRegister 0 = .ok (.iload_n 0, 1) := by decide +kernel
theorem d_S_secondRegister_1 : decode b_S_secondRegister 1 = .ok (.iconst 2, 1) := by decide +kernel
theorem d_S_secondRegister_2 : decode b_S_secondRegister 2 = .ok (.ishr, 1) := by decide +kernel
theorem d_S_secondRegister_3 : decode b_S_secondRegister 3 = .ok (.bipush 31, 2) := by decide +kernel
theorem d_S_secondRegister_5 : decode b_S_secondRegister 5 = .ok (.iand, 1) := by decide +kernel
theorem d_S_secondRegister_6 : decode b_S_secondRegister 6 = .ok (.ireturn, 1) := by decide +kernel
theorem d_S_moveOrJump_0 : decode b_S_moveOrJump 0 = .ok (.iload_n 0, 1) := by decide +kernel
theorem d_S_moveOrJump_1 : decode b_S_moveOrJump 1 = .ok (.invokestatic 123, 3) := by decide +kernel
theorem d_S_moveOrJump_4 : decode b_S_moveOrJump 4 = .ok (.ifCond .eq 7, 3) := by decide +kernel
theorem d_S_moveOrJump_7 : decode b_S_moveOrJump 7 = .ok (.getstatic 126, 3) := by decide +kernel
theorem d_S_moveOrJump_10 : decode b_S_moveOrJump 10 = .ok (.areturn, 1) := by decide +kernel
theorem d_S_moveOrJump_11 : decode b_S_moveOrJump 11 = .ok (.iload_n 0, 1) := by decide +kernel
theorem d_S_moveOrJump_12 : decode b_S_moveOrJump 12 = .ok (.invokestatic 71, 3) := by decide +kernel
theorem d_S_moveOrJump_15 : decode b_S_moveOrJump 15 = .ok (.ifCond .eq 9, 3) := by decide +kernel
theorem d_S_moveOrJump_18 : decode b_S_moveOrJump 18 = .ok (.getstatic 129, 3) := by decide +kernel
theorem d_S_moveOrJump_21 : decode b_S_moveOrJump 21 = .ok (.goto 6, 3) := by decide +kernel
theorem d_S_moveOrJump_24 : decode b_S_moveOrJump 24 = .ok (.getstatic 19, 3) := by decide +kernel
theorem d_S_moveOrJump_27 : decode b_S_moveOrJump 27 = .ok (.areturn, 1) := by decide +kernel
theorem d_T_write_0 : decode b_T_write 0 = .ok (.aload_n 0, 1) := by decide +kernel
theorem d_T_write_1 : decode b_T_write 1 = .ok (.iconst 0, 1) := by decide +kernel
theorem d_T_write_2 : decode b_T_write 2 = .ok (.putfield 13, 3) := by decide +kernel
theorem d_T_write_5 : decode b_T_write 5 = .ok (.aload_n 0, 1) := by decide +kernel
theorem d_T_write_6 : decode b_T_write 6 = .ok (.aload_n 1, 1) := by decide +kernel
theorem d_T_write_7 : decode b_T_write 7 = .ok (.getfield 17, 3) := by decide +kernel
theorem d_T_write_10 : decode b_T_write 10 = .ok (.invokevirtual 23, 3) := by decide +kernel
theorem d_T_write_13 : decode b_T_write 13 = .ok (.aload_n 1, 1) := by decide +kernel
theorem d_T_write_14 : decode b_T_write 14 = .ok (.getfield 26, 3) := by decide +kernel
theorem d_T_write_17 : decode b_T_write 17 = .ok (.ifCond .eq 13, 3) := by decide +kernel
theorem d_T_write_20 : decode b_T_write 20 = .ok (.aload_n 0, 1) := by decide +kernel
theorem d_T_write_21 : decode b_T_write 21 = .ok (.iload_n 2, 1) := by decide +kernel
theorem d_T_write_22 : decode b_T_write 22 = .ok (.bipush 25, 2) := by decide +kernel
theorem d_T_write_24 : decode b_T_write 24 = .ok (.ishr, 1) := by decide +kernel
theorem d_T_write_25 : decode b_T_write 25 = .ok (.iconst 3, 1) := by decide +kernel
theorem d_T_write_26 : decode b_T_write 26 = .ok (.iand, 1) := by decide +kernel
theorem d_T_write_27 : decode b_T_write 27 = .ok (.invokevirtual 30, 3) := by decide +kernel
theorem d_T_write_30 : decode b_T_write 30 = .ok (.aload_n 1, 1) := by decide +kernel
theorem d_T_write_31 : decode b_T_write 31 = .ok (.getfield 34, 3) := by decide +kernel
theorem d_T_write_34 : decode b_T_write 34 = .ok (.astore_n 3, 1) := by decide +kernel
theorem d_T_write_35 : decode b_T_write 35 = .ok (.aload_n 3, 1) := by decide +kernel
theorem d_T_write_36 : decode b_T_write 36 = .ok (.invokevirtual 37, 3) := by decide +kernel
theorem d_T_write_39 : decode b_T_write 39 = .ok (.ifCond .ne 9, 3) := by decide +kernel
theorem d_T_write_42 : decode b_T_write 42 = .ok (.aload_n 0, 1) := by decide +kernel
theorem d_T_write_43 : decode b_T_write 43 = .ok (.bipush 32, 2) := by decide +kernel
theorem d_T_write_45 : decode b_T_write 45 = .ok (.invokevirtual 43, 3) := by decide +kernel
theorem d_T_write_48 : decode b_T_write 48 = .ok (.iconst 0, 1) := by decide +kernel
theorem d_T_write_49 : decode b_T_write 49 = .ok (.istore 4, 2) := by decide +kernel
theorem d_T_write_51 : decode b_T_write 51 = .ok (.iload 4, 2) := by decide +kernel
theorem d_T_write_53 : decode b_T_write 53 = .ok (.aload_n 3, 1) := by decide +kernel
theorem d_T_write_54 : decode b_T_write 54 = .ok (.invokevirtual 47, 3) := by decide +kernel
theorem d_T_write_57 : decode b_T_write 57 = .ok (.if_icmp .ge 20, 3) := by decide +kernel
theorem d_T_write_60 : decode b_T_write 60 = .ok (.aload_n 0, 1) := by decide +kernel
theorem d_T_write_61 : decode b_T_write 61 = .ok (.aload_n 3, 1) := by decide +kernel
theorem d_T_write_62 : decode b_T_write 62 = .ok (.iload 4, 2) := by decide +kernel
theorem d_T_write_64 : decode b_T_write 64 = .ok (.invokevirtual 50, 3) := by decide +kernel
theorem d_T_write_67 : decode b_T_write 67 = .ok (.iload_n 2, 1) := by decide +kernel
theorem d_T_write_68 : decode b_T_write 68 = .ok (.invokevirtual 54, 3) := by decide +kernel
theorem d_T_write_71 : decode b_T_write 71 = .ok (.iinc 4 1, 3) := by decide +kernel
theorem d_T_write_74 : decode b_T_write 74 = .ok (.goto (-23), 3) := by decide +kernel
theorem d_T_write_77 : decode b_T_write 77 = .ok (.return_, 1) := by decide +kernel
theorem d_T_word_0 : decode b_T_word 0 = .ok (.iconst 0, 1) := by decide +kernel
theorem d_T_word_1 : decode b_T_word 1 = .ok (.istore_n 2, 1) := by decide +kernel
theorem d_T_word_2 : decode b_T_word 2 = .ok (.iload_n 2, 1) := by decide +kernel
theorem d_T_word_3 : decode b_T_word 3 = .ok (.aload_n 1, 1) := by decide +kernel
theorem d_T_word_4 : decode b_T_word 4 = .ok (.invokevirtual 47, 3) := by decide +kernel
theorem d_T_word_7 : decode b_T_word 7 = .ok (.if_icmp .ge 18, 3) := by decide +kernel
theorem d_T_word_10 : decode b_T_word 10 = .ok (.aload_n 0, 1) := by decide +kernel
theorem d_T_word_11 : decode b_T_word 11 = .ok (.aload_n 1, 1) := by decide +kernel
theorem d_T_word_12 : decode b_T_word 12 = .ok (.iload_n 2, 1) := by decide +kernel
theorem d_T_word_13 : decode b_T_word 13 = .ok (.invokevirtual 50, 3) := by decide +kernel
theorem d_T_word_16 : decode b_T_word 16 = .ok (.invokevirtual 43, 3) := by decide +kernel
theorem d_T_word_19 : decode b_T_word 19 = .ok (.iinc 2 1, 3) := by decide +kernel
theorem d_T_word_22 : decode b_T_word 22 = .ok (.goto (-20), 3) := by decide +kernel
theorem d_T_word_25 : decode b_T_word 25 = .ok (.return_, 1) := by decide +kernel
theorem d_JS_length_0 : decode b_JS_length 0 = .ok (.aload_n 0, 1) := by decide +kernel
theorem d_JS_length_1 : decode b_JS_length 1 = .ok (.getfield 9, 3) := by decide +kernel
theorem d_JS_length_4 : decode b_JS_length 4 = .ok (.arraylength, 1) := by decide +kernel
theorem d_JS_length_5 : decode b_JS_length 5 = .ok (.aload_n 0, 1) := by decide +kernel
theorem d_JS_length_6 : decode b_JS_length 6 = .ok (.invokevirtual 335, 3) := by decide +kernel
theorem d_JS_length_9 : decode b_JS_length 9 = .ok (.ishr, 1) := by decide +kernel
theorem d_JS_length_10 : decode b_JS_length 10 = .ok (.ireturn, 1) := by decide +kernel
theorem d_JS_coder_0 : decode b_JS_coder 0 = .ok (.getstatic 38, 3) := by decide +kernel
theorem d_JS_coder_3 : decode b_JS_coder 3 = .ok (.ifCond .eq 10, 3) := by decide +kernel
theorem d_JS_coder_6 : decode b_JS_coder 6 = .ok (.aload_n 0, 1) := by decide +kernel
theorem d_JS_coder_7 : decode b_JS_coder 7 = .ok (.getfield 15, 3) := by decide +kernel
theorem d_JS_coder_10 : decode b_JS_coder 10 = .ok (.goto 4, 3) := by decide +kernel
theorem d_JS_coder_13 : decode b_JS_coder 13 = .ok (.iconst 1, 1) := by decide +kernel
theorem d_JS_coder_14 : decode b_JS_coder 14 = .ok (.ireturn, 1) := by decide +kernel
theorem d_JS_charAt_0 : decode b_JS_charAt 0 = .ok (.aload_n 0, 1) := by decide +kernel
theorem d_JS_charAt_1 : decode b_JS_charAt 1 = .ok (.invokevirtual 492, 3) := by decide +kernel
theorem d_JS_charAt_4 : decode b_JS_charAt 4 = .ok (.ifCond .eq 12, 3) := by decide +kernel
theorem d_JS_charAt_7 : decode b_JS_charAt 7 = .ok (.aload_n 0, 1) := by decide +kernel
theorem d_JS_charAt_8 : decode b_JS_charAt 8 = .ok (.getfield 9, 3) := by decide +kernel
theorem d_JS_charAt_11 : decode b_JS_charAt 11 = .ok (.iload_n 1, 1) := by decide +kernel
theorem d_JS_charAt_12 : decode b_JS_charAt 12 = .ok (.invokestatic 495, 3) := by decide +kernel
theorem d_JS_charAt_15 : decode b_JS_charAt 15 = .ok (.ireturn, 1) := by decide +kernel
theorem d_JS_charAt_16 : decode b_JS_charAt 16 = .ok (.aload_n 0, 1) := by decide +kernel
theorem d_JS_charAt_17 : decode b_JS_charAt 17 = .ok (.getfield 9, 3) := by decide +kernel
theorem d_JS_charAt_20 : decode b_JS_charAt 20 = .ok (.iload_n 1, 1) := by decide +kernel
theorem d_JS_charAt_21 : decode b_JS_charAt 21 = .ok (.invokestatic 498, 3) := by decide +kernel
theorem d_JS_charAt_24 : decode b_JS_charAt 24 = .ok (.ireturn, 1) := by decide +kernel
theorem d_JS_isLatin1_0 : decode b_JS_isLatin1 0 = .ok (.getstatic 38, 3) := by decide +kernel
theorem d_JS_isLatin1_3 : decode b_JS_isLatin1 3 = .ok (.ifCond .eq 14, 3) := by decide +kernel
theorem d_JS_isLatin1_6 : decode b_JS_isLatin1 6 = .ok (.aload_n 0, 1) := by decide +kernel
theorem d_JS_isLatin1_7 : decode b_JS_isLatin1 7 = .ok (.getfield 15, 3) := by decide +kernel
theorem d_JS_isLatin1_10 : decode b_JS_isLatin1 10 = .ok (.ifCond .ne 7, 3) := by decide +kernel
theorem d_JS_isLatin1_13 : decode b_JS_isLatin1 13 = .ok (.iconst 1, 1) := by decide +kernel
theorem d_JS_isLatin1_14 : decode b_JS_isLatin1 14 = .ok (.goto 4, 3) := by decide +kernel
theorem d_JS_isLatin1_17 : decode b_JS_isLatin1 17 = .ok (.iconst 0, 1) := by decide +kernel
theorem d_JS_isLatin1_18 : decode b_JS_isLatin1 18 = .ok (.ireturn, 1) := by decide +kernel
theorem d_JL_charAt_0 : decode b_JL_charAt 0 = .ok (.iload_n 1, 1) := by decide +kernel
theorem d_JL_charAt_1 : decode b_JL_charAt 1 = .ok (.aload_n 0, 1) := by decide +kernel
theorem d_JL_charAt_2 : decode b_JL_charAt 2 = .ok (.arraylength, 1) := by decide +kernel
theorem d_JL_charAt_3 : decode b_JL_charAt 3 = .ok (.invokestatic 9, 3) := by decide +kernel
theorem d_JL_charAt_6 : decode b_JL_charAt 6 = .ok (.aload_n 0, 1) := by decide +kernel
theorem d_JL_charAt_7 : decode b_JL_charAt 7 = .ok (.iload_n 1, 1) := by decide +kernel
theorem d_JL_charAt_8 : decode b_JL_charAt 8 = .ok (.baload, 1) := by decide +kernel
theorem d_JL_charAt_9 : decode b_JL_charAt 9 = .ok (.sipush 255, 3) := by decide +kernel
theorem d_JL_charAt_12 : decode b_JL_charAt 12 = .ok (.iand, 1) := by decide +kernel
theorem d_JL_charAt_13 : decode b_JL_charAt 13 = .ok (.i2c, 1) := by decide +kernel
theorem d_JL_charAt_14 : decode b_JL_charAt 14 = .ok (.ireturn, 1) := by decide +kernel
theorem d_JS_checkIndex_0 : decode b_JS_checkIndex 0 = .ok (.iload_n 0, 1) := by decide +kernel
theorem d_JS_checkIndex_1 : decode b_JS_checkIndex 1 = .ok (.iload_n 1, 1) := by decide +kernel
theorem d_JS_checkIndex_2 : decode b_JS_checkIndex 2 = .ok (.getstatic 1053, 3) := by decide +kernel
theorem d_JS_checkIndex_5 : decode b_JS_checkIndex 5 = .ok (.invokestatic 1059, 3) := by decide +kernel
theorem d_JS_checkIndex_8 : decode b_JS_checkIndex 8 = .ok (.pop, 1) := by decide +kernel
theorem d_JS_checkIndex_9 : decode b_JS_checkIndex 9 = .ok (.return_, 1) := by decide +kernel
theorem d_JP_checkIndex_0 : decode b_JP_checkIndex 0 = .ok (.iload_n 0, 1) := by decide +kernel
theorem d_JP_checkIndex_1 : decode b_JP_checkIndex 1 = .ok (.ifCond .lt 8, 3) := by decide +kernel
theorem d_JP_checkIndex_4 : decode b_JP_checkIndex 4 = .ok (.iload_n 0, 1) := by decide +kernel
theorem d_JP_checkIndex_5 : decode b_JP_checkIndex 5 = .ok (.iload_n 1, 1) := by decide +kernel
theorem d_JP_checkIndex_6 : decode b_JP_checkIndex 6 = .ok (.if_icmp .lt 10, 3) := by decide +kernel
theorem d_JP_checkIndex_9 : decode b_JP_checkIndex 9 = .ok (.aload_n 2, 1) := by decide +kernel
theorem d_JP_checkIndex_10 : decode b_JP_checkIndex 10 = .ok (.iload_n 0, 1) := by decide +kernel
theorem d_JP_checkIndex_11 : decode b_JP_checkIndex 11 = .ok (.iload_n 1, 1) := by decide +kernel
theorem d_JP_checkIndex_12 : decode b_JP_checkIndex 12 = .ok (.invokestatic 95, 3) := by decide +kernel
theorem d_JP_checkIndex_15 : decode b_JP_checkIndex 15 = .ok (.athrow, 1) := by decide +kernel
theorem d_JP_checkIndex_16 : decode b_JP_checkIndex 16 = .ok (.iload_n 0, 1) := by decide +kernel
theorem d_JP_checkIndex_17 : decode b_JP_checkIndex 17 = .ok (.ireturn, 1) := by decide +kernel
theorem d_T_put_0 : decode b_T_put 0 = .ok (.aload_n 0, 1) := by decide +kernel
theorem d_T_put_1 : decode b_T_put 1 = .ok (.getfield 13, 3) := by decide +kernel
theorem d_T_put_4 : decode b_T_put 4 = .ok (.ifCond .lt 35, 3) := by decide +kernel
theorem d_T_put_7 : decode b_T_put 7 = .ok (.aload_n 0, 1) := by decide +kernel
theorem d_T_put_8 : decode b_T_put 8 = .ok (.getfield 13, 3) := by decide +kernel
theorem d_T_put_11 : decode b_T_put 11 = .ok (.aload_n 0, 1) := by decide +kernel
theorem d_T_put_12 : decode b_T_put 12 = .ok (.getfield 9, 3) := by decide +kernel
theorem d_T_put_15 : decode b_T_put 15 = .ok (.arraylength, 1) := by decide +kernel
theorem d_T_put_16 : decode b_T_put 16 = .ok (.if_icmp .ge 23, 3) := by decide +kernel
theorem d_T_put_19 : decode b_T_put 19 = .ok (.aload_n 0, 1) := by decide +kernel
theorem d_T_put_20 : decode b_T_put 20 = .ok (.getfield 9, 3) := by decide +kernel
theorem d_T_put_23 : decode b_T_put 23 = .ok (.aload_n 0, 1) := by decide +kernel
theorem d_T_put_24 : decode b_T_put 24 = .ok (.getfield 13, 3) := by decide +kernel
theorem d_T_put_27 : decode b_T_put 27 = .ok (.iload_n 1, 1) := by decide +kernel
theorem d_T_put_28 : decode b_T_put 28 = .ok (.castore, 1) := by decide +kernel
theorem d_T_put_29 : decode b_T_put 29 = .ok (.aload_n 0, 1) := by decide +kernel
theorem d_T_put_30 : decode b_T_put 30 = .ok (.dup, 1) := by decide +kernel
theorem d_T_put_31 : decode b_T_put 31 = .ok (.getfield 13, 3) := by decide +kernel
theorem d_T_put_34 : decode b_T_put 34 = .ok (.iconst 1, 1) := by decide +kernel
theorem d_T_put_35 : decode b_T_put 35 = .ok (.iadd, 1) := by decide +kernel
theorem d_T_put_36 : decode b_T_put 36 = .ok (.putfield 13, 3) := by decide +kernel
theorem d_T_put_39 : decode b_T_put 39 = .ok (.return_, 1) := by decide +kernel
theorem d_T_order_0 : decode b_T_order 0 = .ok (.iload_n 1, 1) := by decide +kernel
theorem d_T_order_1 : decode b_T_order 1 = .ok (.tableswitch 54 1 3 #[27, 36, 45], 27) := by decide +kernel
theorem d_T_order_28 : decode b_T_order 28 = .ok (.aload_n 0, 1) := by decide +kernel
theorem d_T_order_29 : decode b_T_order 29 = .ok (.ldc 58, 2) := by decide +kernel
theorem d_T_order_31 : decode b_T_order 31 = .ok (.invokevirtual 23, 3) := by decide +kernel
theorem d_T_order_34 : decode b_T_order 34 = .ok (.goto 21, 3) := by decide +kernel
theorem d_T_order_37 : decode b_T_order 37 = .ok (.aload_n 0, 1) := by decide +kernel
theorem d_T_order_38 : decode b_T_order 38 = .ok (.ldc 60, 2) := by decide +kernel
theorem d_T_order_40 : decode b_T_order 40 = .ok (.invokevirtual 23, 3) := by decide +kernel
theorem d_T_order_43 : decode b_T_order 43 = .ok (.goto 12, 3) := by decide +kernel
theorem d_T_order_46 : decode b_T_order 46 = .ok (.aload_n 0, 1) := by decide +kernel
theorem d_T_order_47 : decode b_T_order 47 = .ok (.ldc 62, 2) := by decide +kernel
theorem d_T_order_49 : decode b_T_order 49 = .ok (.invokevirtual 23, 3) := by decide +kernel
theorem d_T_order_52 : decode b_T_order 52 = .ok (.goto 3, 3) := by decide +kernel
theorem d_T_order_55 : decode b_T_order 55 = .ok (.return_, 1) := by decide +kernel
theorem d_JS_isEmpty_0 : decode b_JS_isEmpty 0 = .ok (.aload_n 0, 1) := by decide +kernel
theorem d_JS_isEmpty_1 : decode b_JS_isEmpty 1 = .ok (.getfield 9, 3) := by decide +kernel
theorem d_JS_isEmpty_4 : decode b_JS_isEmpty 4 = .ok (.arraylength, 1) := by decide +kernel
theorem d_JS_isEmpty_5 : decode b_JS_isEmpty 5 = .ok (.ifCond .ne 7, 3) := by decide +kernel
theorem d_JS_isEmpty_8 : decode b_JS_isEmpty 8 = .ok (.iconst 1, 1) := by decide +kernel
theorem d_JS_isEmpty_9 : decode b_JS_isEmpty 9 = .ok (.goto 4, 3) := by decide +kernel
theorem d_JS_isEmpty_12 : decode b_JS_isEmpty 12 = .ok (.iconst 0, 1) := by decide +kernel
theorem d_JS_isEmpty_13 : decode b_JS_isEmpty 13 = .ok (.ireturn, 1) := by decide +kernel
theorem d_T_operand_0 : decode b_T_operand 0 = .ok (.iload_n 1, 1) := by decide +kernel
theorem d_T_operand_1 : decode b_T_operand 1 = .ok (.tableswitch 510 66 121 #[453, 475, 510, 510, 510, 510, 510, 510, 464, 510, 510, 510, 510, 510, 510, 510, 510, 510, 510, 510, 510, 510, 510, 510, 486, 510, 510, 510, 510, 510, 510, 253, 267, 510, 239, 510, 398, 510, 338, 327, 510, 442, 431, 385, 374, 510, 409, 510, 281, 352, 510, 363, 497, 420, 294, 311], 239) := by decide +kernel
theorem d_T_operand_240 : decode b_T_operand 240 = .ok (.aload_n 0, 1) := by decide +kernel
theorem d_T_operand_241 : decode b_T_operand 241 = .ok (.iload_n 2, 1) := by decide +kernel
theorem d_T_operand_242 : decode b_T_operand 242 = .ok (.bipush 7, 2) := by decide +kernel
theorem d_T_operand_244 : decode b_T_operand 244 = .ok (.ishr, 1) := by decide +kernel
theorem d_T_operand_245 : decode b_T_operand 245 = .ok (.bipush 31, 2) := by decide +kernel
theorem d_T_operand_247 : decode b_T_operand 247 = .ok (.iand, 1) := by decide +kernel
theorem d_T_operand_248 : decode b_T_operand 248 = .ok (.invokevirtual 64, 3) := by decide +kernel
theorem d_T_operand_251 : decode b_T_operand 251 = .ok (.goto 265, 3) := by decide +kernel
theorem d_T_operand_254 : decode b_T_operand 254 = .ok (.aload_n 0, 1) := by decide +kernel
theorem d_T_operand_255 : decode b_T_operand 255 = .ok (.iload_n 2, 1) := by decide +kernel
theorem d_T_operand_256 : decode b_T_operand 256 = .ok (.bipush 15, 2) := by decide +kernel
theorem d_T_operand_258 : decode b_T_operand 258 = .ok (.ishr, 1) := by decide +kernel
theorem d_T_operand_259 : decode b_T_operand 259 = .ok (.bipush 31, 2) := by decide +kernel
theorem d_T_operand_261 : decode b_T_operand 261 = .ok (.iand, 1) := by decide +kernel
theorem d_T_operand_262 : decode b_T_operand 262 = .ok (.invokevirtual 64, 3) := by decide +kernel
theorem d_T_operand_265 : decode b_T_operand 265 = .ok (.goto 251, 3) := by decide +kernel
theorem d_T_operand_268 : decode b_T_operand 268 = .ok (.aload_n 0, 1) := by decide +kernel
theorem d_T_operand_269 : decode b_T_operand 269 = .ok (.iload_n 2, 1) := by decide +kernel
theorem d_T_operand_270 : decode b_T_operand 270 = .ok (.bipush 20, 2) := by decide +kernel
theorem d_T_operand_272 : decode b_T_operand 272 = .ok (.ishr, 1) := by decide +kernel
theorem d_T_operand_273 : decode b_T_operand 273 = .ok (.bipush 31, 2) := by decide +kernel
theorem d_T_operand_275 : decode b_T_operand 275 = .ok (.iand, 1) := by decide +kernel
theorem d_T_operand_276 : decode b_T_operand 276 = .ok (.invokevirtual 64, 3) := by decide +kernel
theorem d_T_operand_279 : decode b_T_operand 279 = .ok (.goto 237, 3) := by decide +kernel
theorem d_T_operand_282 : decode b_T_operand 282 = .ok (.aload_n 0, 1) := by decide +kernel
theorem d_T_operand_283 : decode b_T_operand 283 = .ok (.iload_n 2, 1) := by decide +kernel
theorem d_T_operand_284 : decode b_T_operand 284 = .ok (.iconst 2, 1) := by decide +kernel
theorem d_T_operand_285 : decode b_T_operand 285 = .ok (.ishr, 1) := by decide +kernel
theorem d_T_operand_286 : decode b_T_operand 286 = .ok (.bipush 31, 2) := by decide +kernel
theorem d_T_operand_288 : decode b_T_operand 288 = .ok (.iand, 1) := by decide +kernel
theorem d_T_operand_289 : decode b_T_operand 289 = .ok (.invokevirtual 64, 3) := by decide +kernel
theorem d_T_operand_292 : decode b_T_operand 292 = .ok (.goto 224, 3) := by decide +kernel
theorem d_T_operand_295 : decode b_T_operand 295 = .ok (.aload_n 0, 1) := by decide +kernel
theorem d_T_operand_296 : decode b_T_operand 296 = .ok (.bipush 8, 2) := by decide +kernel
theorem d_T_operand_298 : decode b_T_operand 298 = .ok (.iload_n 2, 1) := by decide +kernel
theorem d_T_operand_299 : decode b_T_operand 299 = .ok (.bipush 7, 2) := by decide +kernel
theorem d_T_operand_301 : decode b_T_operand 301 = .ok (.ishr, 1) := by decide +kernel
theorem d_T_operand_302 : decode b_T_operand 302 = .ok (.bipush 7, 2) := by decide +kernel
theorem d_T_operand_304 : decode b_T_operand 304 = .ok (.iand, 1) := by decide +kernel
theorem d_T_operand_305 : decode b_T_operand 305 = .ok (.iadd, 1) := by decide +kernel
theorem d_T_operand_306 : decode b_T_operand 306 = .ok (.invokevirtual 64, 3) := by decide +kernel
theorem d_T_operand_309 : decode b_T_operand 309 = .ok (.goto 207, 3) := by decide +kernel
theorem d_T_operand_312 : decode b_T_operand 312 = .ok (.aload_n 0, 1) := by decide +kernel
theorem d_T_operand_313 : decode b_T_operand 313 = .ok (.bipush 8, 2) := by decide +kernel
theorem d_T_operand_315 : decode b_T_operand 315 = .ok (.iload_n 2, 1) := by decide +kernel
theorem d_T_operand_316 : decode b_T_operand 316 = .ok (.iconst 2, 1) := by decide +kernel
theorem d_T_operand_317 : decode b_T_operand 317 = .ok (.ishr, 1) := by decide +kernel
theorem d_T_operand_318 : decode b_T_operand 318 = .ok (.bipush 7, 2) := by decide +kernel
theorem d_T_operand_320 : decode b_T_operand 320 = .ok (.iand, 1) := by decide +kernel
theorem d_T_operand_321 : decode b_T_operand 321 = .ok (.iadd, 1) := by decide +kernel
theorem d_T_operand_322 : decode b_T_operand 322 = .ok (.invokevirtual 64, 3) := by decide +kernel
theorem d_T_operand_325 : decode b_T_operand 325 = .ok (.goto 191, 3) := by decide +kernel
theorem d_T_operand_328 : decode b_T_operand 328 = .ok (.aload_n 0, 1) := by decide +kernel
theorem d_T_operand_329 : decode b_T_operand 329 = .ok (.iload_n 2, 1) := by decide +kernel
theorem d_T_operand_330 : decode b_T_operand 330 = .ok (.bipush 20, 2) := by decide +kernel
theorem d_T_operand_332 : decode b_T_operand 332 = .ok (.ishr, 1) := by decide +kernel
theorem d_T_operand_333 : decode b_T_operand 333 = .ok (.invokevirtual 67, 3) := by decide +kernel
theorem d_T_operand_336 : decode b_T_operand 336 = .ok (.goto 180, 3) := by decide +kernel
theorem d_T_operand_339 : decode b_T_operand 339 = .ok (.aload_n 0, 1) := by decide +kernel
theorem d_T_operand_340 : decode b_T_operand 340 = .ok (.iload_n 2, 1) := by decide +kernel
theorem d_T_operand_341 : decode b_T_operand 341 = .ok (.bipush 20, 2) := by decide +kernel
theorem d_T_operand_343 : decode b_T_operand 343 = .ok (.ishr, 1) := by decide +kernel
theorem d_T_operand_344 : decode b_T_operand 344 = .ok (.bipush 31, 2) := by decide +kernel
theorem d_T_operand_346 : decode b_T_operand 346 = .ok (.iand, 1) := by decide +kernel
theorem d_T_operand_347 : decode b_T_operand 347 = .ok (.invokevirtual 67, 3) := by decide +kernel
theorem d_T_operand_350 : decode b_T_operand 350 = .ok (.goto 166, 3) := by decide +kernel
theorem d_T_operand_353 : decode b_T_operand 353 = .ok (.aload_n 0, 1) := by decide +kernel
theorem d_T_operand_354 : decode b_T_operand 354 = .ok (.iload_n 2, 1) := by decide +kernel
theorem d_T_operand_355 : decode b_T_operand 355 = .ok (.invokestatic 70, 3) := by decide +kernel
theorem d_T_operand_358 : decode b_T_operand 358 = .ok (.invokevirtual 67, 3) := by decide +kernel
theorem d_T_operand_361 : decode b_T_operand 361 = .ok (.goto 155, 3) := by decide +kernel
theorem d_T_operand_364 : decode b_T_operand 364 = .ok (.aload_n 0, 1) := by decide +kernel
theorem d_T_operand_365 : decode b_T_operand 365 = .ok (.iload_n 2, 1) := by decide +kernel
theorem d_T_operand_366 : decode b_T_operand 366 = .ok (.bipush 12, 2) := by decide +kernel
theorem d_T_operand_368 : decode b_T_operand 368 = .ok (.iushr, 1) := by decide +kernel
theorem d_T_operand_369 : decode b_T_operand 369 = .ok (.invokevirtual 67, 3) := by decide +kernel
theorem d_T_operand_372 : decode b_T_operand 372 = .ok (.goto 144, 3) := by decide +kernel
theorem d_T_operand_375 : decode b_T_operand 375 = .ok (.aload_n 0, 1) := by decide +kernel
theorem d_T_operand_376 : decode b_T_operand 376 = .ok (.iload_n 2, 1) := by decide +kernel
theorem d_T_operand_377 : decode b_T_operand 377 = .ok (.invokestatic 76, 3) := by decide +kernel
theorem d_T_operand_380 : decode b_T_operand 380 = .ok (.invokevirtual 67, 3) := by decide +kernel
theorem d_T_operand_383 : decode b_T_operand 383 = .ok (.goto 133, 3) := by decide +kernel
theorem d_T_operand_386 : decode b_T_operand 386 = .ok (.aload_n 0, 1) := by decide +kernel
theorem d_T_operand_387 : decode b_T_operand 387 = .ok (.iload_n 2, 1) := by decide +kernel
theorem d_T_operand_388 : decode b_T_operand 388 = .ok (.iconst 2, 1) := by decide +kernel
theorem d_T_operand_389 : decode b_T_operand 389 = .ok (.ishr, 1) := by decide +kernel
theorem d_T_operand_390 : decode b_T_operand 390 = .ok (.bipush 31, 2) := by decide +kernel
theorem d_T_operand_392 : decode b_T_operand 392 = .ok (.iand, 1) := by decide +kernel
theorem d_T_operand_393 : decode b_T_operand 393 = .ok (.invokevirtual 67, 3) := by decide +kernel
theorem d_T_operand_396 : decode b_T_operand 396 = .ok (.goto 120, 3) := by decide +kernel
theorem d_T_operand_399 : decode b_T_operand 399 = .ok (.aload_n 0, 1) := by decide +kernel
theorem d_T_operand_400 : decode b_T_operand 400 = .ok (.iload_n 2, 1) := by decide +kernel
theorem d_T_operand_401 : decode b_T_operand 401 = .ok (.invokestatic 79, 3) := by decide +kernel
theorem d_T_operand_404 : decode b_T_operand 404 = .ok (.invokevirtual 67, 3) := by decide +kernel
theorem d_T_operand_407 : decode b_T_operand 407 = .ok (.goto 109, 3) := by decide +kernel
theorem d_T_operand_410 : decode b_T_operand 410 = .ok (.aload_n 0, 1) := by decide +kernel
theorem d_T_operand_411 : decode b_T_operand 411 = .ok (.iload_n 2, 1) := by decide +kernel
theorem d_T_operand_412 : decode b_T_operand 412 = .ok (.invokestatic 82, 3) := by decide +kernel
theorem d_T_operand_415 : decode b_T_operand 415 = .ok (.invokevirtual 67, 3) := by decide +kernel
theorem d_T_operand_418 : decode b_T_operand 418 = .ok (.goto 98, 3) := by decide +kernel
theorem d_T_operand_421 : decode b_T_operand 421 = .ok (.aload_n 0, 1) := by decide +kernel
theorem d_T_operand_422 : decode b_T_operand 422 = .ok (.iload_n 2, 1) := by decide +kernel
theorem d_T_operand_423 : decode b_T_operand 423 = .ok (.invokestatic 85, 3) := by decide +kernel
theorem d_T_operand_426 : decode b_T_operand 426 = .ok (.invokevirtual 67, 3) := by decide +kernel
theorem d_T_operand_429 : decode b_T_operand 429 = .ok (.goto 87, 3) := by decide +kernel
theorem d_T_operand_432 : decode b_T_operand 432 = .ok (.aload_n 0, 1) := by decide +kernel
theorem d_T_operand_433 : decode b_T_operand 433 = .ok (.iload_n 2, 1) := by decide +kernel
theorem d_T_operand_434 : decode b_T_operand 434 = .ok (.invokestatic 88, 3) := by decide +kernel
theorem d_T_operand_437 : decode b_T_operand 437 = .ok (.invokevirtual 67, 3) := by decide +kernel
theorem d_T_operand_440 : decode b_T_operand 440 = .ok (.goto 76, 3) := by decide +kernel
theorem d_T_operand_443 : decode b_T_operand 443 = .ok (.aload_n 0, 1) := by decide +kernel
theorem d_T_operand_444 : decode b_T_operand 444 = .ok (.iload_n 2, 1) := by decide +kernel
theorem d_T_operand_445 : decode b_T_operand 445 = .ok (.invokestatic 91, 3) := by decide +kernel
theorem d_T_operand_448 : decode b_T_operand 448 = .ok (.invokevirtual 67, 3) := by decide +kernel
theorem d_T_operand_451 : decode b_T_operand 451 = .ok (.goto 65, 3) := by decide +kernel
theorem d_T_operand_454 : decode b_T_operand 454 = .ok (.aload_n 0, 1) := by decide +kernel
theorem d_T_operand_455 : decode b_T_operand 455 = .ok (.iload_n 2, 1) := by decide +kernel
theorem d_T_operand_456 : decode b_T_operand 456 = .ok (.invokestatic 94, 3) := by decide +kernel
theorem d_T_operand_459 : decode b_T_operand 459 = .ok (.invokevirtual 97, 3) := by decide +kernel
theorem d_T_operand_462 : decode b_T_operand 462 = .ok (.goto 54, 3) := by decide +kernel
theorem d_T_operand_465 : decode b_T_operand 465 = .ok (.aload_n 0, 1) := by decide +kernel
theorem d_T_operand_466 : decode b_T_operand 466 = .ok (.iload_n 2, 1) := by decide +kernel
theorem d_T_operand_467 : decode b_T_operand 467 = .ok (.invokestatic 100, 3) := by decide +kernel
theorem d_T_operand_470 : decode b_T_operand 470 = .ok (.invokevirtual 97, 3) := by decide +kernel
theorem d_T_operand_473 : decode b_T_operand 473 = .ok (.goto 43, 3) := by decide +kernel
theorem d_T_operand_476 : decode b_T_operand 476 = .ok (.aload_n 0, 1) := by decide +kernel
theorem d_T_operand_477 : decode b_T_operand 477 = .ok (.iload_n 2, 1) := by decide +kernel
theorem d_T_operand_478 : decode b_T_operand 478 = .ok (.invokestatic 103, 3) := by decide +kernel
theorem d_T_operand_481 : decode b_T_operand 481 = .ok (.invokevirtual 97, 3) := by decide +kernel
theorem d_T_operand_484 : decode b_T_operand 484 = .ok (.goto 32, 3) := by decide +kernel
theorem d_T_operand_487 : decode b_T_operand 487 = .ok (.aload_n 0, 1) := by decide +kernel
theorem d_T_operand_488 : decode b_T_operand 488 = .ok (.iload_n 2, 1) := by decide +kernel
theorem d_T_operand_489 : decode b_T_operand 489 = .ok (.invokestatic 106, 3) := by decide +kernel
theorem d_T_operand_492 : decode b_T_operand 492 = .ok (.invokevirtual 97, 3) := by decide +kernel
theorem d_T_operand_495 : decode b_T_operand 495 = .ok (.goto 21, 3) := by decide +kernel
theorem d_T_operand_498 : decode b_T_operand 498 = .ok (.aload_n 0, 1) := by decide +kernel
theorem d_T_operand_499 : decode b_T_operand 499 = .ok (.iload_n 2, 1) := by decide +kernel
theorem d_T_operand_500 : decode b_T_operand 500 = .ok (.i2l, 1) := by decide +kernel
theorem d_T_operand_501 : decode b_T_operand 501 = .ok (.ldc2_w 109, 3) := by decide +kernel
theorem d_T_operand_504 : decode b_T_operand 504 = .ok (.land, 1) := by decide +kernel
theorem d_T_operand_505 : decode b_T_operand 505 = .ok (.invokevirtual 111, 3) := by decide +kernel
theorem d_T_operand_508 : decode b_T_operand 508 = .ok (.goto 8, 3) := by decide +kernel
theorem d_T_operand_511 : decode b_T_operand 511 = .ok (.aload_n 0, 1) := by decide +kernel
theorem d_T_operand_512 : decode b_T_operand 512 = .ok (.iload_n 1, 1) := by decide +kernel
theorem d_T_operand_513 : decode b_T_operand 513 = .ok (.invokevirtual 43, 3) := by decide +kernel
theorem d_T_operand_516 : decode b_T_operand 516 = .ok (.return_, 1) := by decide +kernel
theorem d_T_register_0 : decode b_T_register 0 = .ok (.aload_n 0, 1) := by decide +kernel
theorem d_T_register_1 : decode b_T_register 1 = .ok (.iload_n 1, 1) := by decide +kernel
theorem d_T_register_2 : decode b_T_register 2 = .ok (.invokestatic 115, 3) := by decide +kernel
theorem d_T_register_5 : decode b_T_register 5 = .ok (.invokevirtual 23, 3) := by decide +kernel
theorem d_T_register_8 : decode b_T_register 8 = .ok (.return_, 1) := by decide +kernel
theorem d_T_registerName_0 : decode b_T_registerName 0 = .ok (.iload_n 0, 1) := by decide +kernel
theorem d_T_registerName_1 : decode b_T_registerName 1 = .ok (.tableswitch 232 0 30 #[139, 142, 145, 148, 151, 154, 157, 160, 163, 166, 169, 172, 175, 178, 181, 184, 187, 190, 193, 196, 199, 202, 205, 208, 211, 214, 217, 220, 223, 226, 229], 139) := by decide +kernel
theorem d_T_registerName_140 : decode b_T_registerName 140 = .ok (.ldc 119, 2) := by decide +kernel
theorem d_T_registerName_142 : decode b_T_registerName 142 = .ok (.areturn, 1) := by decide +kernel
theorem d_T_registerName_143 : decode b_T_registerName 143 = .ok (.ldc 121, 2) := by decide +kernel
theorem d_T_registerName_145 : decode b_T_registerName 145 = .ok (.areturn, 1) := by decide +kernel
theorem d_T_registerName_146 : decode b_T_registerName 146 = .ok (.ldc 123, 2) := by decide +kernel
theorem d_T_registerName_148 : decode b_T_registerName 148 = .ok (.areturn, 1) := by decide +kernel
theorem d_T_registerName_149 : decode b_T_registerName 149 = .ok (.ldc 125, 2) := by decide +kernel
theorem d_T_registerName_151 : decode b_T_registerName 151 = .ok (.areturn, 1) := by decide +kernel
theorem d_T_registerName_152 : decode b_T_registerName 152 = .ok (.ldc 127, 2) := by decide +kernel
theorem d_T_registerName_154 : decode b_T_registerName 154 = .ok (.areturn, 1) := by decide +kernel
theorem d_T_registerName_155 : decode b_T_registerName 155 = .ok (.ldc 129, 2) := by decide +kernel
theorem d_T_registerName_157 : decode b_T_registerName 157 = .ok (.areturn, 1) := by decide +kernel
theorem d_T_registerName_158 : decode b_T_registerName 158 = .ok (.ldc 131, 2) := by decide +kernel
theorem d_T_registerName_160 : decode b_T_registerName 160 = .ok (.areturn, 1) := by decide +kernel
theorem d_T_registerName_161 : decode b_T_registerName 161 = .ok (.ldc 133, 2) := by decide +kernel
theorem d_T_registerName_163 : decode b_T_registerName 163 = .ok (.areturn, 1) := by decide +kernel
theorem d_T_registerName_164 : decode b_T_registerName 164 = .ok (.ldc 135, 2) := by decide +kernel
theorem d_T_registerName_166 : decode b_T_registerName 166 = .ok (.areturn, 1) := by decide +kernel
theorem d_T_registerName_167 : decode b_T_registerName 167 = .ok (.ldc 137, 2) := by decide +kernel
theorem d_T_registerName_169 : decode b_T_registerName 169 = .ok (.areturn, 1) := by decide +kernel
theorem d_T_registerName_170 : decode b_T_registerName 170 = .ok (.ldc 139, 2) := by decide +kernel
theorem d_T_registerName_172 : decode b_T_registerName 172 = .ok (.areturn, 1) := by decide +kernel
theorem d_T_registerName_173 : decode b_T_registerName 173 = .ok (.ldc 141, 2) := by decide +kernel
theorem d_T_registerName_175 : decode b_T_registerName 175 = .ok (.areturn, 1) := by decide +kernel
theorem d_T_registerName_176 : decode b_T_registerName 176 = .ok (.ldc 143, 2) := by decide +kernel
theorem d_T_registerName_178 : decode b_T_registerName 178 = .ok (.areturn, 1) := by decide +kernel
theorem d_T_registerName_179 : decode b_T_registerName 179 = .ok (.ldc 145, 2) := by decide +kernel
theorem d_T_registerName_181 : decode b_T_registerName 181 = .ok (.areturn, 1) := by decide +kernel
theorem d_T_registerName_182 : decode b_T_registerName 182 = .ok (.ldc 147, 2) := by decide +kernel
theorem d_T_registerName_184 : decode b_T_registerName 184 = .ok (.areturn, 1) := by decide +kernel
theorem d_T_registerName_185 : decode b_T_registerName 185 = .ok (.ldc 149, 2) := by decide +kernel
theorem d_T_registerName_187 : decode b_T_registerName 187 = .ok (.areturn, 1) := by decide +kernel
theorem d_T_registerName_188 : decode b_T_registerName 188 = .ok (.ldc 151, 2) := by decide +kernel
theorem d_T_registerName_190 : decode b_T_registerName 190 = .ok (.areturn, 1) := by decide +kernel
theorem d_T_registerName_191 : decode b_T_registerName 191 = .ok (.ldc 153, 2) := by decide +kernel
theorem d_T_registerName_193 : decode b_T_registerName 193 = .ok (.areturn, 1) := by decide +kernel
theorem d_T_registerName_194 : decode b_T_registerName 194 = .ok (.ldc 155, 2) := by decide +kernel
theorem d_T_registerName_196 : decode b_T_registerName 196 = .ok (.areturn, 1) := by decide +kernel
theorem d_T_registerName_197 : decode b_T_registerName 197 = .ok (.ldc 157, 2) := by decide +kernel
theorem d_T_registerName_199 : decode b_T_registerName 199 = .ok (.areturn, 1) := by decide +kernel
theorem d_T_registerName_200 : decode b_T_registerName 200 = .ok (.ldc 159, 2) := by decide +kernel
theorem d_T_registerName_202 : decode b_T_registerName 202 = .ok (.areturn, 1) := by decide +kernel
theorem d_T_registerName_203 : decode b_T_registerName 203 = .ok (.ldc 161, 2) := by decide +kernel
theorem d_T_registerName_205 : decode b_T_registerName 205 = .ok (.areturn, 1) := by decide +kernel
theorem d_T_registerName_206 : decode b_T_registerName 206 = .ok (.ldc 163, 2) := by decide +kernel
theorem d_T_registerName_208 : decode b_T_registerName 208 = .ok (.areturn, 1) := by decide +kernel
theorem d_T_registerName_209 : decode b_T_registerName 209 = .ok (.ldc 165, 2) := by decide +kernel
theorem d_T_registerName_211 : decode b_T_registerName 211 = .ok (.areturn, 1) := by decide +kernel
theorem d_T_registerName_212 : decode b_T_registerName 212 = .ok (.ldc 167, 2) := by decide +kernel
theorem d_T_registerName_214 : decode b_T_registerName 214 = .ok (.areturn, 1) := by decide +kernel
theorem d_T_registerName_215 : decode b_T_registerName 215 = .ok (.ldc 169, 2) := by decide +kernel
theorem d_T_registerName_217 : decode b_T_registerName 217 = .ok (.areturn, 1) := by decide +kernel
theorem d_T_registerName_218 : decode b_T_registerName 218 = .ok (.ldc 171, 2) := by decide +kernel
theorem d_T_registerName_220 : decode b_T_registerName 220 = .ok (.areturn, 1) := by decide +kernel
theorem d_T_registerName_221 : decode b_T_registerName 221 = .ok (.ldc 173, 2) := by decide +kernel
theorem d_T_registerName_223 : decode b_T_registerName 223 = .ok (.areturn, 1) := by decide +kernel
theorem d_T_registerName_224 : decode b_T_registerName 224 = .ok (.ldc 175, 2) := by decide +kernel
theorem d_T_registerName_226 : decode b_T_registerName 226 = .ok (.areturn, 1) := by decide +kernel
theorem d_T_registerName_227 : decode b_T_registerName 227 = .ok (.ldc 177, 2) := by decide +kernel
theorem d_T_registerName_229 : decode b_T_registerName 229 = .ok (.areturn, 1) := by decide +kernel
theorem d_T_registerName_230 : decode b_T_registerName 230 = .ok (.ldc 179, 2) := by decide +kernel
theorem d_T_registerName_232 : decode b_T_registerName 232 = .ok (.areturn, 1) := by decide +kernel
theorem d_T_registerName_233 : decode b_T_registerName 233 = .ok (.ldc 181, 2) := by decide +kernel
theorem d_T_registerName_235 : decode b_T_registerName 235 = .ok (.areturn, 1) := by decide +kernel
theorem d_T_number_0 : decode b_T_number 0 = .ok (.iload_n 1, 1) := by decide +kernel
theorem d_T_number_1 : decode b_T_number 1 = .ok (.ifCond .ge 9, 3) := by decide +kernel
theorem d_T_number_4 : decode b_T_number 4 = .ok (.aload_n 0, 1) := by decide +kernel
theorem d_T_number_5 : decode b_T_number 5 = .ok (.bipush 45, 2) := by decide +kernel
theorem d_T_number_7 : decode b_T_number 7 = .ok (.invokevirtual 43, 3) := by decide +kernel
theorem d_T_number_10 : decode b_T_number 10 = .ok (.aload_n 0, 1) := by decide +kernel
theorem d_T_number_11 : decode b_T_number 11 = .ok (.iload_n 1, 1) := by decide +kernel
theorem d_T_number_12 : decode b_T_number 12 = .ok (.invokestatic 183, 3) := by decide +kernel
theorem d_T_number_15 : decode b_T_number 15 = .ok (.i2l, 1) := by decide +kernel
end
section
theorem d_T_number_16 : decode b_T_number 16 = .ok (.invokevirtual 111, 3) := by decide +kernel
theorem d_T_number_19 : decode b_T_number 19 = .ok (.return_, 1) := by decide +kernel
theorem d_T_digits_0 : decode b_T_digits 0 = .ok (.ldc2_w 188, 3) := by decide +kernel
theorem d_T_digits_3 : decode b_T_digits 3 = .ok (.lstore_n 3, 1) := by decide +kernel
theorem d_T_digits_4 : decode b_T_digits 4 = .ok (.lload_n 3, 1) := by decide +kernel
theorem d_T_digits_5 : decode b_T_digits 5 = .ok (.lconst 0, 1) := by decide +kernel
theorem d_T_digits_6 : decode b_T_digits 6 = .ok (.lcmp, 1) := by decide +kernel
theorem d_T_digits_7 : decode b_T_digits 7 = .ok (.ifCond .le 41, 3) := by decide +kernel
theorem d_T_digits_10 : decode b_T_digits 10 = .ok (.lload_n 1, 1) := by decide +kernel
theorem d_T_digits_11 : decode b_T_digits 11 = .ok (.lload_n 3, 1) := by decide +kernel
theorem d_T_digits_12 : decode b_T_digits 12 = .ok (.lcmp, 1) := by decide +kernel
theorem d_T_digits_13 : decode b_T_digits 13 = .ok (.ifCond .ge 9, 3) := by decide +kernel
theorem d_T_digits_16 : decode b_T_digits 16 = .ok (.lload_n 3, 1) := by decide +kernel
theorem d_T_digits_17 : decode b_T_digits 17 = .ok (.lconst 1, 1) := by decide +kernel
theorem d_T_digits_18 : decode b_T_digits 18 = .ok (.lcmp, 1) := by decide +kernel
theorem d_T_digits_19 : decode b_T_digits 19 = .ok (.ifCond .ne 20, 3) := by decide +kernel
theorem d_T_digits_22 : decode b_T_digits 22 = .ok (.aload_n 0, 1) := by decide +kernel
theorem d_T_digits_23 : decode b_T_digits 23 = .ok (.ldc2_w 190, 3) := by decide +kernel
theorem d_T_digits_26 : decode b_T_digits 26 = .ok (.lload_n 1, 1) := by decide +kernel
theorem d_T_digits_27 : decode b_T_digits 27 = .ok (.lload_n 3, 1) := by decide +kernel
theorem d_T_digits_28 : decode b_T_digits 28 = .ok (.ldiv, 1) := by decide +kernel
theorem d_T_digits_29 : decode b_T_digits 29 = .ok (.ldc2_w 192, 3) := by decide +kernel
theorem d_T_digits_32 : decode b_T_digits 32 = .ok (.lrem, 1) := by decide +kernel
theorem d_T_digits_33 : decode b_T_digits 33 = .ok (.ladd, 1) := by decide +kernel
theorem d_T_digits_34 : decode b_T_digits 34 = .ok (.l2i, 1) := by decide +kernel
theorem d_T_digits_35 : decode b_T_digits 35 = .ok (.i2c, 1) := by decide +kernel
theorem d_T_digits_36 : decode b_T_digits 36 = .ok (.invokevirtual 43, 3) := by decide +kernel
theorem d_T_digits_39 : decode b_T_digits 39 = .ok (.lload_n 3, 1) := by decide +kernel
theorem d_T_digits_40 : decode b_T_digits 40 = .ok (.ldc2_w 192, 3) := by decide +kernel
theorem d_T_digits_43 : decode b_T_digits 43 = .ok (.ldiv, 1) := by decide +kernel
theorem d_T_digits_44 : decode b_T_digits 44 = .ok (.lstore_n 3, 1) := by decide +kernel
theorem d_T_digits_45 : decode b_T_digits 45 = .ok (.goto (-41), 3) := by decide +kernel
theorem d_T_digits_48 : decode b_T_digits 48 = .ok (.return_, 1) := by decide +kernel
theorem d_F_store_0 : decode b_F_store 0 = .ok (.iload_n 0, 1) := by decide +kernel
theorem d_F_store_1 : decode b_F_store 1 = .ok (.bipush 25, 2) := by decide +kernel
theorem d_F_store_3 : decode b_F_store 3 = .ok (.ishr, 1) := by decide +kernel
theorem d_F_store_4 : decode b_F_store 4 = .ok (.iconst 5, 1) := by decide +kernel
theorem d_F_store_5 : decode b_F_store 5 = .ok (.ishl, 1) := by decide +kernel
theorem d_F_store_6 : decode b_F_store 6 = .ok (.iload_n 0, 1) := by decide +kernel
theorem d_F_store_7 : decode b_F_store 7 = .ok (.bipush 7, 2) := by decide +kernel
theorem d_F_store_9 : decode b_F_store 9 = .ok (.ishr, 1) := by decide +kernel
theorem d_F_store_10 : decode b_F_store 10 = .ok (.bipush 31, 2) := by decide +kernel
theorem d_F_store_12 : decode b_F_store 12 = .ok (.iand, 1) := by decide +kernel
theorem d_F_store_13 : decode b_F_store 13 = .ok (.ior, 1) := by decide +kernel
theorem d_F_store_14 : decode b_F_store 14 = .ok (.ireturn, 1) := by decide +kernel
theorem d_F_times16_0 : decode b_F_times16 0 = .ok (.iload_n 0, 1) := by decide +kernel
theorem d_F_times16_1 : decode b_F_times16 1 = .ok (.bipush 12, 2) := by decide +kernel
theorem d_F_times16_3 : decode b_F_times16 3 = .ok (.bipush 9, 2) := by decide +kernel
theorem d_F_times16_5 : decode b_F_times16 5 = .ok (.invokestatic 7, 3) := by decide +kernel
theorem d_F_times16_8 : decode b_F_times16 8 = .ok (.iload_n 0, 1) := by decide +kernel
theorem d_F_times16_9 : decode b_F_times16 9 = .ok (.bipush 6, 2) := by decide +kernel
theorem d_F_times16_11 : decode b_F_times16 11 = .ok (.iconst 1, 1) := by decide +kernel
theorem d_F_times16_12 : decode b_F_times16 12 = .ok (.iconst 4, 1) := by decide +kernel
theorem d_F_times16_13 : decode b_F_times16 13 = .ok (.invokestatic 13, 3) := by decide +kernel
theorem d_F_times16_16 : decode b_F_times16 16 = .ok (.ior, 1) := by decide +kernel
theorem d_F_times16_17 : decode b_F_times16 17 = .ok (.iload_n 0, 1) := by decide +kernel
theorem d_F_times16_18 : decode b_F_times16 18 = .ok (.iconst 5, 1) := by decide +kernel
theorem d_F_times16_19 : decode b_F_times16 19 = .ok (.iconst 1, 1) := by decide +kernel
theorem d_F_times16_20 : decode b_F_times16 20 = .ok (.bipush 6, 2) := by decide +kernel
theorem d_F_times16_22 : decode b_F_times16 22 = .ok (.invokestatic 13, 3) := by decide +kernel
theorem d_F_times16_25 : decode b_F_times16 25 = .ok (.ior, 1) := by decide +kernel
theorem d_F_times16_26 : decode b_F_times16 26 = .ok (.iload_n 0, 1) := by decide +kernel
theorem d_F_times16_27 : decode b_F_times16 27 = .ok (.iconst 3, 1) := by decide +kernel
theorem d_F_times16_28 : decode b_F_times16 28 = .ok (.iconst 2, 1) := by decide +kernel
theorem d_F_times16_29 : decode b_F_times16 29 = .ok (.bipush 7, 2) := by decide +kernel
theorem d_F_times16_31 : decode b_F_times16 31 = .ok (.invokestatic 13, 3) := by decide +kernel
theorem d_F_times16_34 : decode b_F_times16 34 = .ok (.ior, 1) := by decide +kernel
theorem d_F_times16_35 : decode b_F_times16 35 = .ok (.iload_n 0, 1) := by decide +kernel
theorem d_F_times16_36 : decode b_F_times16 36 = .ok (.iconst 2, 1) := by decide +kernel
theorem d_F_times16_37 : decode b_F_times16 37 = .ok (.iconst 1, 1) := by decide +kernel
theorem d_F_times16_38 : decode b_F_times16 38 = .ok (.iconst 5, 1) := by decide +kernel
theorem d_F_times16_39 : decode b_F_times16 39 = .ok (.invokestatic 13, 3) := by decide +kernel
theorem d_F_times16_42 : decode b_F_times16 42 = .ok (.ior, 1) := by decide +kernel
theorem d_F_times16_43 : decode b_F_times16 43 = .ok (.ireturn, 1) := by decide +kernel
theorem d_F_shortWord_0 : decode b_F_shortWord 0 = .ok (.iload_n 0, 1) := by decide +kernel
theorem d_F_shortWord_1 : decode b_F_shortWord 1 = .ok (.bipush 10, 2) := by decide +kernel
theorem d_F_shortWord_3 : decode b_F_shortWord 3 = .ok (.iconst 3, 1) := by decide +kernel
theorem d_F_shortWord_4 : decode b_F_shortWord 4 = .ok (.iconst 3, 1) := by decide +kernel
theorem d_F_shortWord_5 : decode b_F_shortWord 5 = .ok (.invokestatic 13, 3) := by decide +kernel
theorem d_F_shortWord_8 : decode b_F_shortWord 8 = .ok (.iload_n 0, 1) := by decide +kernel
theorem d_F_shortWord_9 : decode b_F_shortWord 9 = .ok (.bipush 6, 2) := by decide +kernel
theorem d_F_shortWord_11 : decode b_F_shortWord 11 = .ok (.iconst 1, 1) := by decide +kernel
theorem d_F_shortWord_12 : decode b_F_shortWord 12 = .ok (.iconst 2, 1) := by decide +kernel
theorem d_F_shortWord_13 : decode b_F_shortWord 13 = .ok (.invokestatic 13, 3) := by decide +kernel
theorem d_F_shortWord_16 : decode b_F_shortWord 16 = .ok (.ior, 1) := by decide +kernel
theorem d_F_shortWord_17 : decode b_F_shortWord 17 = .ok (.iload_n 0, 1) := by decide +kernel
theorem d_F_shortWord_18 : decode b_F_shortWord 18 = .ok (.iconst 5, 1) := by decide +kernel
theorem d_F_shortWord_19 : decode b_F_shortWord 19 = .ok (.iconst 1, 1) := by decide +kernel
theorem d_F_shortWord_20 : decode b_F_shortWord 20 = .ok (.bipush 6, 2) := by decide +kernel
theorem d_F_shortWord_22 : decode b_F_shortWord 22 = .ok (.invokestatic 13, 3) := by decide +kernel
theorem d_F_shortWord_25 : decode b_F_shortWord 25 = .ok (.ior, 1) := by decide +kernel
theorem d_F_shortWord_26 : decode b_F_shortWord 26 = .ok (.ireturn, 1) := by decide +kernel
theorem d_F_stackLoad_0 : decode b_F_stackLoad 0 = .ok (.iload_n 0, 1) := by decide +kernel
theorem d_F_stackLoad_1 : decode b_F_stackLoad 1 = .ok (.bipush 12, 2) := by decide +kernel
theorem d_F_stackLoad_3 : decode b_F_stackLoad 3 = .ok (.iconst 1, 1) := by decide +kernel
theorem d_F_stackLoad_4 : decode b_F_stackLoad 4 = .ok (.iconst 5, 1) := by decide +kernel
theorem d_F_stackLoad_5 : decode b_F_stackLoad 5 = .ok (.invokestatic 13, 3) := by decide +kernel
theorem d_F_stackLoad_8 : decode b_F_stackLoad 8 = .ok (.iload_n 0, 1) := by decide +kernel
theorem d_F_stackLoad_9 : decode b_F_stackLoad 9 = .ok (.iconst 4, 1) := by decide +kernel
theorem d_F_stackLoad_10 : decode b_F_stackLoad 10 = .ok (.iconst 3, 1) := by decide +kernel
theorem d_F_stackLoad_11 : decode b_F_stackLoad 11 = .ok (.iconst 2, 1) := by decide +kernel
theorem d_F_stackLoad_12 : decode b_F_stackLoad 12 = .ok (.invokestatic 13, 3) := by decide +kernel
theorem d_F_stackLoad_15 : decode b_F_stackLoad 15 = .ok (.ior, 1) := by decide +kernel
theorem d_F_stackLoad_16 : decode b_F_stackLoad 16 = .ok (.iload_n 0, 1) := by decide +kernel
theorem d_F_stackLoad_17 : decode b_F_stackLoad 17 = .ok (.iconst 2, 1) := by decide +kernel
theorem d_F_stackLoad_18 : decode b_F_stackLoad 18 = .ok (.iconst 2, 1) := by decide +kernel
theorem d_F_stackLoad_19 : decode b_F_stackLoad 19 = .ok (.bipush 6, 2) := by decide +kernel
theorem d_F_stackLoad_21 : decode b_F_stackLoad 21 = .ok (.invokestatic 13, 3) := by decide +kernel
theorem d_F_stackLoad_24 : decode b_F_stackLoad 24 = .ok (.ior, 1) := by decide +kernel
theorem d_F_stackLoad_25 : decode b_F_stackLoad 25 = .ok (.ireturn, 1) := by decide +kernel
theorem d_F_stackStore_0 : decode b_F_stackStore 0 = .ok (.iload_n 0, 1) := by decide +kernel
theorem d_F_stackStore_1 : decode b_F_stackStore 1 = .ok (.bipush 9, 2) := by decide +kernel
theorem d_F_stackStore_3 : decode b_F_stackStore 3 = .ok (.iconst 4, 1) := by decide +kernel
theorem d_F_stackStore_4 : decode b_F_stackStore 4 = .ok (.iconst 2, 1) := by decide +kernel
theorem d_F_stackStore_5 : decode b_F_stackStore 5 = .ok (.invokestatic 13, 3) := by decide +kernel
theorem d_F_stackStore_8 : decode b_F_stackStore 8 = .ok (.iload_n 0, 1) := by decide +kernel
theorem d_F_stackStore_9 : decode b_F_stackStore 9 = .ok (.bipush 7, 2) := by decide +kernel
theorem d_F_stackStore_11 : decode b_F_stackStore 11 = .ok (.iconst 2, 1) := by decide +kernel
theorem d_F_stackStore_12 : decode b_F_stackStore 12 = .ok (.bipush 6, 2) := by decide +kernel
theorem d_F_stackStore_14 : decode b_F_stackStore 14 = .ok (.invokestatic 13, 3) := by decide +kernel
theorem d_F_stackStore_17 : decode b_F_stackStore 17 = .ok (.ior, 1) := by decide +kernel
theorem d_F_stackStore_18 : decode b_F_stackStore 18 = .ok (.ireturn, 1) := by decide +kernel
theorem d_F_branch_0 : decode b_F_branch 0 = .ok (.iload_n 0, 1) := by decide +kernel
theorem d_F_branch_1 : decode b_F_branch 1 = .ok (.bipush 31, 2) := by decide +kernel
theorem d_F_branch_3 : decode b_F_branch 3 = .ok (.bipush 12, 2) := by decide +kernel
theorem d_F_branch_5 : decode b_F_branch 5 = .ok (.invokestatic 7, 3) := by decide +kernel
theorem d_F_branch_8 : decode b_F_branch 8 = .ok (.iload_n 0, 1) := by decide +kernel
theorem d_F_branch_9 : decode b_F_branch 9 = .ok (.bipush 7, 2) := by decide +kernel
theorem d_F_branch_11 : decode b_F_branch 11 = .ok (.iconst 1, 1) := by decide +kernel
theorem d_F_branch_12 : decode b_F_branch 12 = .ok (.bipush 11, 2) := by decide +kernel
theorem d_F_branch_14 : decode b_F_branch 14 = .ok (.invokestatic 13, 3) := by decide +kernel
theorem d_F_branch_17 : decode b_F_branch 17 = .ok (.ior, 1) := by decide +kernel
theorem d_F_branch_18 : decode b_F_branch 18 = .ok (.iload_n 0, 1) := by decide +kernel
theorem d_F_branch_19 : decode b_F_branch 19 = .ok (.bipush 25, 2) := by decide +kernel
theorem d_F_branch_21 : decode b_F_branch 21 = .ok (.bipush 6, 2) := by decide +kernel
theorem d_F_branch_23 : decode b_F_branch 23 = .ok (.iconst 5, 1) := by decide +kernel
theorem d_F_branch_24 : decode b_F_branch 24 = .ok (.invokestatic 13, 3) := by decide +kernel
theorem d_F_branch_27 : decode b_F_branch 27 = .ok (.ior, 1) := by decide +kernel
theorem d_F_branch_28 : decode b_F_branch 28 = .ok (.iload_n 0, 1) := by decide +kernel
theorem d_F_branch_29 : decode b_F_branch 29 = .ok (.bipush 8, 2) := by decide +kernel
theorem d_F_branch_31 : decode b_F_branch 31 = .ok (.iconst 4, 1) := by decide +kernel
theorem d_F_branch_32 : decode b_F_branch 32 = .ok (.iconst 1, 1) := by decide +kernel
theorem d_F_branch_33 : decode b_F_branch 33 = .ok (.invokestatic 13, 3) := by decide +kernel
theorem d_F_branch_36 : decode b_F_branch 36 = .ok (.ior, 1) := by decide +kernel
theorem d_F_branch_37 : decode b_F_branch 37 = .ok (.ireturn, 1) := by decide +kernel
theorem d_T_offset_0 : decode b_T_offset 0 = .ok (.aload_n 0, 1) := by decide +kernel
theorem d_T_offset_1 : decode b_T_offset 1 = .ok (.bipush 46, 2) := by decide +kernel
theorem d_T_offset_3 : decode b_T_offset 3 = .ok (.invokevirtual 43, 3) := by decide +kernel
theorem d_T_offset_6 : decode b_T_offset 6 = .ok (.aload_n 0, 1) := by decide +kernel
theorem d_T_offset_7 : decode b_T_offset 7 = .ok (.iload_n 1, 1) := by decide +kernel
theorem d_T_offset_8 : decode b_T_offset 8 = .ok (.ifCond .ge 8, 3) := by decide +kernel
theorem d_T_offset_11 : decode b_T_offset 11 = .ok (.bipush 45, 2) := by decide +kernel
theorem d_T_offset_13 : decode b_T_offset 13 = .ok (.goto 5, 3) := by decide +kernel
theorem d_T_offset_16 : decode b_T_offset 16 = .ok (.bipush 43, 2) := by decide +kernel
theorem d_T_offset_18 : decode b_T_offset 18 = .ok (.invokevirtual 43, 3) := by decide +kernel
theorem d_T_offset_21 : decode b_T_offset 21 = .ok (.aload_n 0, 1) := by decide +kernel
theorem d_T_offset_22 : decode b_T_offset 22 = .ok (.iload_n 1, 1) := by decide +kernel
theorem d_T_offset_23 : decode b_T_offset 23 = .ok (.invokestatic 183, 3) := by decide +kernel
theorem d_T_offset_26 : decode b_T_offset 26 = .ok (.i2l, 1) := by decide +kernel
theorem d_T_offset_27 : decode b_T_offset 27 = .ok (.invokevirtual 111, 3) := by decide +kernel
theorem d_T_offset_30 : decode b_T_offset 30 = .ok (.return_, 1) := by decide +kernel
theorem d_F_jump_0 : decode b_F_jump 0 = .ok (.iload_n 0, 1) := by decide +kernel
theorem d_F_jump_1 : decode b_F_jump 1 = .ok (.bipush 31, 2) := by decide +kernel
theorem d_F_jump_3 : decode b_F_jump 3 = .ok (.bipush 20, 2) := by decide +kernel
theorem d_F_jump_5 : decode b_F_jump 5 = .ok (.invokestatic 7, 3) := by decide +kernel
theorem d_F_jump_8 : decode b_F_jump 8 = .ok (.iload_n 0, 1) := by decide +kernel
theorem d_F_jump_9 : decode b_F_jump 9 = .ok (.bipush 12, 2) := by decide +kernel
theorem d_F_jump_11 : decode b_F_jump 11 = .ok (.bipush 8, 2) := by decide +kernel
theorem d_F_jump_13 : decode b_F_jump 13 = .ok (.bipush 12, 2) := by decide +kernel
theorem d_F_jump_15 : decode b_F_jump 15 = .ok (.invokestatic 13, 3) := by decide +kernel
theorem d_F_jump_18 : decode b_F_jump 18 = .ok (.ior, 1) := by decide +kernel
theorem d_F_jump_19 : decode b_F_jump 19 = .ok (.iload_n 0, 1) := by decide +kernel
theorem d_F_jump_20 : decode b_F_jump 20 = .ok (.bipush 20, 2) := by decide +kernel
theorem d_F_jump_22 : decode b_F_jump 22 = .ok (.iconst 1, 1) := by decide +kernel
theorem d_F_jump_23 : decode b_F_jump 23 = .ok (.bipush 11, 2) := by decide +kernel
theorem d_F_jump_25 : decode b_F_jump 25 = .ok (.invokestatic 13, 3) := by decide +kernel
theorem d_F_jump_28 : decode b_F_jump 28 = .ok (.ior, 1) := by decide +kernel
theorem d_F_jump_29 : decode b_F_jump 29 = .ok (.iload_n 0, 1) := by decide +kernel
theorem d_F_jump_30 : decode b_F_jump 30 = .ok (.bipush 21, 2) := by decide +kernel
theorem d_F_jump_32 : decode b_F_jump 32 = .ok (.bipush 10, 2) := by decide +kernel
theorem d_F_jump_34 : decode b_F_jump 34 = .ok (.iconst 1, 1) := by decide +kernel
theorem d_F_jump_35 : decode b_F_jump 35 = .ok (.invokestatic 13, 3) := by decide +kernel
theorem d_F_jump_38 : decode b_F_jump 38 = .ok (.ior, 1) := by decide +kernel
theorem d_F_jump_39 : decode b_F_jump 39 = .ok (.ireturn, 1) := by decide +kernel
theorem d_F_shortJump_0 : decode b_F_shortJump 0 = .ok (.iload_n 0, 1) := by decide +kernel
theorem d_F_shortJump_1 : decode b_F_shortJump 1 = .ok (.bipush 12, 2) := by decide +kernel
theorem d_F_shortJump_3 : decode b_F_shortJump 3 = .ok (.bipush 11, 2) := by decide +kernel
theorem d_F_shortJump_5 : decode b_F_shortJump 5 = .ok (.invokestatic 7, 3) := by decide +kernel
theorem d_F_shortJump_8 : decode b_F_shortJump 8 = .ok (.iload_n 0, 1) := by decide +kernel
theorem d_F_shortJump_9 : decode b_F_shortJump 9 = .ok (.bipush 11, 2) := by decide +kernel
theorem d_F_shortJump_11 : decode b_F_shortJump 11 = .ok (.iconst 1, 1) := by decide +kernel
theorem d_F_shortJump_12 : decode b_F_shortJump 12 = .ok (.iconst 4, 1) := by decide +kernel
theorem d_F_shortJump_13 : decode b_F_shortJump 13 = .ok (.invokestatic 13, 3) := by decide +kernel
theorem d_F_shortJump_16 : decode b_F_shortJump 16 = .ok (.ior, 1) := by decide +kernel
theorem d_F_shortJump_17 : decode b_F_shortJump 17 = .ok (.iload_n 0, 1) := by decide +kernel
theorem d_F_shortJump_18 : decode b_F_shortJump 18 = .ok (.bipush 9, 2) := by decide +kernel
theorem d_F_shortJump_20 : decode b_F_shortJump 20 = .ok (.iconst 2, 1) := by decide +kernel
theorem d_F_shortJump_21 : decode b_F_shortJump 21 = .ok (.bipush 8, 2) := by decide +kernel
theorem d_F_shortJump_23 : decode b_F_shortJump 23 = .ok (.invokestatic 13, 3) := by decide +kernel
theorem d_F_shortJump_26 : decode b_F_shortJump 26 = .ok (.ior, 1) := by decide +kernel
theorem d_F_shortJump_27 : decode b_F_shortJump 27 = .ok (.iload_n 0, 1) := by decide +kernel
theorem d_F_shortJump_28 : decode b_F_shortJump 28 = .ok (.bipush 8, 2) := by decide +kernel
theorem d_F_shortJump_30 : decode b_F_shortJump 30 = .ok (.iconst 1, 1) := by decide +kernel
theorem d_F_shortJump_31 : decode b_F_shortJump 31 = .ok (.bipush 10, 2) := by decide +kernel
theorem d_F_shortJump_33 : decode b_F_shortJump 33 = .ok (.invokestatic 13, 3) := by decide +kernel
theorem d_F_shortJump_36 : decode b_F_shortJump 36 = .ok (.ior, 1) := by decide +kernel
theorem d_F_shortJump_37 : decode b_F_shortJump 37 = .ok (.iload_n 0, 1) := by decide +kernel
theorem d_F_shortJump_38 : decode b_F_shortJump 38 = .ok (.bipush 7, 2) := by decide +kernel
theorem d_F_shortJump_40 : decode b_F_shortJump 40 = .ok (.iconst 1, 1) := by decide +kernel
theorem d_F_shortJump_41 : decode b_F_shortJump 41 = .ok (.bipush 6, 2) := by decide +kernel
theorem d_F_shortJump_43 : decode b_F_shortJump 43 = .ok (.invokestatic 13, 3) := by decide +kernel
theorem d_F_shortJump_46 : decode b_F_shortJump 46 = .ok (.ior, 1) := by decide +kernel
theorem d_F_shortJump_47 : decode b_F_shortJump 47 = .ok (.iload_n 0, 1) := by decide +kernel
theorem d_F_shortJump_48 : decode b_F_shortJump 48 = .ok (.bipush 6, 2) := by decide +kernel
theorem d_F_shortJump_50 : decode b_F_shortJump 50 = .ok (.iconst 1, 1) := by decide +kernel
theorem d_F_shortJump_51 : decode b_F_shortJump 51 = .ok (.bipush 7, 2) := by decide +kernel
theorem d_F_shortJump_53 : decode b_F_shortJump 53 = .ok (.invokestatic 13, 3) := by decide +kernel
theorem d_F_shortJump_56 : decode b_F_shortJump 56 = .ok (.ior, 1) := by decide +kernel
theorem d_F_shortJump_57 : decode b_F_shortJump 57 = .ok (.iload_n 0, 1) := by decide +kernel
theorem d_F_shortJump_58 : decode b_F_shortJump 58 = .ok (.iconst 3, 1) := by decide +kernel
theorem d_F_shortJump_59 : decode b_F_shortJump 59 = .ok (.iconst 3, 1) := by decide +kernel
theorem d_F_shortJump_60 : decode b_F_shortJump 60 = .ok (.iconst 1, 1) := by decide +kernel
theorem d_F_shortJump_61 : decode b_F_shortJump 61 = .ok (.invokestatic 13, 3) := by decide +kernel
theorem d_F_shortJump_64 : decode b_F_shortJump 64 = .ok (.ior, 1) := by decide +kernel
theorem d_F_shortJump_65 : decode b_F_shortJump 65 = .ok (.iload_n 0, 1) := by decide +kernel
theorem d_F_shortJump_66 : decode b_F_shortJump 66 = .ok (.iconst 2, 1) := by decide +kernel
theorem d_F_shortJump_67 : decode b_F_shortJump 67 = .ok (.iconst 1, 1) := by decide +kernel
theorem d_F_shortJump_68 : decode b_F_shortJump 68 = .ok (.iconst 5, 1) := by decide +kernel
theorem d_F_shortJump_69 : decode b_F_shortJump 69 = .ok (.invokestatic 13, 3) := by decide +kernel
theorem d_F_shortJump_72 : decode b_F_shortJump 72 = .ok (.ior, 1) := by decide +kernel
theorem d_F_shortJump_73 : decode b_F_shortJump 73 = .ok (.ireturn, 1) := by decide +kernel
theorem d_F_shortBranch_0 : decode b_F_shortBranch 0 = .ok (.iload_n 0, 1) := by decide +kernel
theorem d_F_shortBranch_1 : decode b_F_shortBranch 1 = .ok (.bipush 12, 2) := by decide +kernel
theorem d_F_shortBranch_3 : decode b_F_shortBranch 3 = .ok (.bipush 8, 2) := by decide +kernel
theorem d_F_shortBranch_5 : decode b_F_shortBranch 5 = .ok (.invokestatic 7, 3) := by decide +kernel
theorem d_F_shortBranch_8 : decode b_F_shortBranch 8 = .ok (.iload_n 0, 1) := by decide +kernel
theorem d_F_shortBranch_9 : decode b_F_shortBranch 9 = .ok (.bipush 10, 2) := by decide +kernel
theorem d_F_shortBranch_11 : decode b_F_shortBranch 11 = .ok (.iconst 2, 1) := by decide +kernel
theorem d_F_shortBranch_12 : decode b_F_shortBranch 12 = .ok (.iconst 3, 1) := by decide +kernel
theorem d_F_shortBranch_13 : decode b_F_shortBranch 13 = .ok (.invokestatic 13, 3) := by decide +kernel
theorem d_F_shortBranch_16 : decode b_F_shortBranch 16 = .ok (.ior, 1) := by decide +kernel
theorem d_F_shortBranch_17 : decode b_F_shortBranch 17 = .ok (.iload_n 0, 1) := by decide +kernel
theorem d_F_shortBranch_18 : decode b_F_shortBranch 18 = .ok (.iconst 5, 1) := by decide +kernel
theorem d_F_shortBranch_19 : decode b_F_shortBranch 19 = .ok (.iconst 2, 1) := by decide +kernel
theorem d_F_shortBranch_20 : decode b_F_shortBranch 20 = .ok (.bipush 6, 2) := by decide +kernel
theorem d_F_shortBranch_22 : decode b_F_shortBranch 22 = .ok (.invokestatic 13, 3) := by decide +kernel
theorem d_F_shortBranch_25 : decode b_F_shortBranch 25 = .ok (.ior, 1) := by decide +kernel
theorem d_F_shortBranch_26 : decode b_F_shortBranch 26 = .ok (.iload_n 0, 1) := by decide +kernel
theorem d_F_shortBranch_27 : decode b_F_shortBranch 27 = .ok (.iconst 3, 1) := by decide +kernel
theorem d_F_shortBranch_28 : decode b_F_shortBranch 28 = .ok (.iconst 2, 1) := by decide +kernel
theorem d_F_shortBranch_29 : decode b_F_shortBranch 29 = .ok (.iconst 1, 1) := by decide +kernel
theorem d_F_shortBranch_30 : decode b_F_shortBranch 30 = .ok (.invokestatic 13, 3) := by decide +kernel
theorem d_F_shortBranch_33 : decode b_F_shortBranch 33 = .ok (.ior, 1) := by decide +kernel
theorem d_F_shortBranch_34 : decode b_F_shortBranch 34 = .ok (.iload_n 0, 1) := by decide +kernel
theorem d_F_shortBranch_35 : decode b_F_shortBranch 35 = .ok (.iconst 2, 1) := by decide +kernel
theorem d_F_shortBranch_36 : decode b_F_shortBranch 36 = .ok (.iconst 1, 1) := by decide +kernel
theorem d_F_shortBranch_37 : decode b_F_shortBranch 37 = .ok (.iconst 5, 1) := by decide +kernel
theorem d_F_shortBranch_38 : decode b_F_shortBranch 38 = .ok (.invokestatic 13, 3) := by decide +kernel
theorem d_F_shortBranch_41 : decode b_F_shortBranch 41 = .ok (.ior, 1) := by decide +kernel
theorem d_F_shortBranch_42 : decode b_F_shortBranch 42 = .ok (.ireturn, 1) := by decide +kernel
theorem d_K_isInstruction_0 : decode b_K_isInstruction 0 = .ok (.aload_n 0, 1) := by decide +kernel
theorem d_K_isInstruction_1 : decode b_K_isInstruction 1 = .ok (.getstatic 3, 3) := by decide +kernel
theorem d_K_isInstruction_4 : decode b_K_isInstruction 4 = .ok (.if_acmp .eq 14, 3) := by decide +kernel
theorem d_K_isInstruction_7 : decode b_K_isInstruction 7 = .ok (.aload_n 0, 1) := by decide +kernel
theorem d_K_isInstruction_8 : decode b_K_isInstruction 8 = .ok (.getstatic 7, 3) := by decide +kernel
theorem d_K_isInstruction_11 : decode b_K_isInstruction 11 = .ok (.if_acmp .eq 7, 3) := by decide +kernel
theorem d_K_isInstruction_14 : decode b_K_isInstruction 14 = .ok (.iconst 1, 1) := by decide +kernel
theorem d_K_isInstruction_15 : decode b_K_isInstruction 15 = .ok (.goto 4, 3) := by decide +kernel
theorem d_K_isInstruction_18 : decode b_K_isInstruction 18 = .ok (.iconst 0, 1) := by decide +kernel
theorem d_K_isInstruction_19 : decode b_K_isInstruction 19 = .ok (.ireturn, 1) := by decide +kernel
theorem d_K_operandCount_0 : decode b_K_operandCount 0 = .ok (.aload_n 0, 1) := by decide +kernel
theorem d_K_operandCount_1 : decode b_K_operandCount 1 = .ok (.getfield 312, 3) := by decide +kernel
theorem d_K_operandCount_4 : decode b_K_operandCount 4 = .ok (.invokevirtual 319, 3) := by decide +kernel
theorem d_K_operandCount_7 : decode b_K_operandCount 7 = .ok (.ifCond .eq 5, 3) := by decide +kernel
theorem d_K_operandCount_10 : decode b_K_operandCount 10 = .ok (.iconst 0, 1) := by decide +kernel
theorem d_K_operandCount_11 : decode b_K_operandCount 11 = .ok (.ireturn, 1) := by decide +kernel
theorem d_K_operandCount_12 : decode b_K_operandCount 12 = .ok (.iconst 1, 1) := by decide +kernel
theorem d_K_operandCount_13 : decode b_K_operandCount 13 = .ok (.istore_n 1, 1) := by decide +kernel
theorem d_K_operandCount_14 : decode b_K_operandCount 14 = .ok (.iconst 0, 1) := by decide +kernel
theorem d_K_operandCount_15 : decode b_K_operandCount 15 = .ok (.istore_n 2, 1) := by decide +kernel
theorem d_K_operandCount_16 : decode b_K_operandCount 16 = .ok (.iload_n 2, 1) := by decide +kernel
theorem d_K_operandCount_17 : decode b_K_operandCount 17 = .ok (.aload_n 0, 1) := by decide +kernel
theorem d_K_operandCount_18 : decode b_K_operandCount 18 = .ok (.getfield 312, 3) := by decide +kernel
theorem d_K_operandCount_21 : decode b_K_operandCount 21 = .ok (.invokevirtual 325, 3) := by decide +kernel
theorem d_K_operandCount_24 : decode b_K_operandCount 24 = .ok (.if_icmp .ge 25, 3) := by decide +kernel
theorem d_K_operandCount_27 : decode b_K_operandCount 27 = .ok (.aload_n 0, 1) := by decide +kernel
theorem d_K_operandCount_28 : decode b_K_operandCount 28 = .ok (.getfield 312, 3) := by decide +kernel
theorem d_K_operandCount_31 : decode b_K_operandCount 31 = .ok (.iload_n 2, 1) := by decide +kernel
theorem d_K_operandCount_32 : decode b_K_operandCount 32 = .ok (.invokevirtual 329, 3) := by decide +kernel
theorem d_K_operandCount_35 : decode b_K_operandCount 35 = .ok (.bipush 44, 2) := by decide +kernel
theorem d_K_operandCount_37 : decode b_K_operandCount 37 = .ok (.if_icmp .ne 6, 3) := by decide +kernel
theorem d_K_operandCount_40 : decode b_K_operandCount 40 = .ok (.iinc 1 1, 3) := by decide +kernel
theorem d_K_operandCount_43 : decode b_K_operandCount 43 = .ok (.iinc 2 1, 3) := by decide +kernel
theorem d_K_operandCount_46 : decode b_K_operandCount 46 = .ok (.goto (-30), 3) := by decide +kernel
theorem d_K_operandCount_49 : decode b_K_operandCount 49 = .ok (.iload_n 1, 1) := by decide +kernel
theorem d_K_operandCount_50 : decode b_K_operandCount 50 = .ok (.ireturn, 1) := by decide +kernel
theorem d_T_size_0 : decode b_T_size 0 = .ok (.aload_n 0, 1) := by decide +kernel
theorem d_T_size_1 : decode b_T_size 1 = .ok (.getfield 13, 3) := by decide +kernel
theorem d_T_size_4 : decode b_T_size 4 = .ok (.ireturn, 1) := by decide +kernel
theorem d_R_about_0 : decode b_R_about 0 = .ok (.iload_n 1, 1) := by decide +kernel
theorem d_R_about_1 : decode b_R_about 1 = .ok (.tableswitch 62 0 3 #[31, 39, 44, 57], 31) := by decide +kernel
theorem d_R_about_32 : decode b_R_about 32 = .ok (.aload_n 0, 1) := by decide +kernel
theorem d_R_about_33 : decode b_R_about 33 = .ok (.getfield 16, 3) := by decide +kernel
theorem d_R_about_36 : decode b_R_about 36 = .ok (.invokevirtual 40, 3) := by decide +kernel
theorem d_R_about_39 : decode b_R_about 39 = .ok (.ireturn, 1) := by decide +kernel
theorem d_R_about_40 : decode b_R_about 40 = .ok (.aload_n 0, 1) := by decide +kernel
theorem d_R_about_41 : decode b_R_about 41 = .ok (.getfield 20, 3) := by decide +kernel
theorem d_R_about_44 : decode b_R_about 44 = .ok (.ireturn, 1) := by decide +kernel
theorem d_R_about_45 : decode b_R_about 45 = .ok (.aload_n 0, 1) := by decide +kernel
theorem d_R_about_46 : decode b_R_about 46 = .ok (.getfield 24, 3) := by decide +kernel
theorem d_R_about_49 : decode b_R_about 49 = .ok (.ifCond .eq 7, 3) := by decide +kernel
theorem d_R_about_52 : decode b_R_about 52 = .ok (.iconst 1, 1) := by decide +kernel
theorem d_R_about_53 : decode b_R_about 53 = .ok (.goto 4, 3) := by decide +kernel
theorem d_R_about_56 : decode b_R_about 56 = .ok (.iconst 0, 1) := by decide +kernel
theorem d_R_about_57 : decode b_R_about 57 = .ok (.ireturn, 1) := by decide +kernel
theorem d_R_about_58 : decode b_R_about 58 = .ok (.aload_n 0, 1) := by decide +kernel
theorem d_R_about_59 : decode b_R_about 59 = .ok (.getfield 28, 3) := by decide +kernel
theorem d_R_about_62 : decode b_R_about 62 = .ok (.ireturn, 1) := by decide +kernel
theorem d_R_about_63 : decode b_R_about 63 = .ok (.iconst (-1), 1) := by decide +kernel
theorem d_R_about_64 : decode b_R_about 64 = .ok (.ireturn, 1) := by decide +kernel
theorem d_W_letter_0 : decode b_W_letter 0 = .ok (.aload_n 2, 1) := by decide +kernel
theorem d_W_letter_1 : decode b_W_letter 1 = .ok (.iconst 0, 1) := by decide +kernel
theorem d_W_letter_2 : decode b_W_letter 2 = .ok (.aload_n 0, 1) := by decide +kernel
theorem d_W_letter_3 : decode b_W_letter 3 = .ok (.iload_n 1, 1) := by decide +kernel
theorem d_W_letter_4 : decode b_W_letter 4 = .ok (.invokevirtual 7, 3) := by decide +kernel
theorem d_W_letter_7 : decode b_W_letter 7 = .ok (.i2l, 1) := by decide +kernel
theorem d_W_letter_8 : decode b_W_letter 8 = .ok (.lastore, 1) := by decide +kernel
theorem d_W_letter_9 : decode b_W_letter 9 = .ok (.goto 6, 3) := by decide +kernel
theorem d_W_letter_12 : decode b_W_letter 12 = .ok (.astore_n 3, 1) := by decide +kernel
theorem d_W_letter_13 : decode b_W_letter 13 = .ok (.iconst 1, 1) := by decide +kernel
theorem d_W_letter_14 : decode b_W_letter 14 = .ok (.ireturn, 1) := by decide +kernel
theorem d_W_letter_15 : decode b_W_letter 15 = .ok (.iconst 0, 1) := by decide +kernel
theorem d_W_letter_16 : decode b_W_letter 16 = .ok (.ireturn, 1) := by decide +kernel
theorem d_R_letter_0 : decode b_R_letter 0 = .ok (.iload_n 1, 1) := by decide +kernel
theorem d_R_letter_1 : decode b_R_letter 1 = .ok (.ifCond .lt 14, 3) := by decide +kernel
theorem d_R_letter_4 : decode b_R_letter 4 = .ok (.iload_n 1, 1) := by decide +kernel
theorem d_R_letter_5 : decode b_R_letter 5 = .ok (.aload_n 0, 1) := by decide +kernel
theorem d_R_letter_6 : decode b_R_letter 6 = .ok (.getfield 16, 3) := by decide +kernel
theorem d_R_letter_9 : decode b_R_letter 9 = .ok (.invokevirtual 40, 3) := by decide +kernel
theorem d_R_letter_12 : decode b_R_letter 12 = .ok (.if_icmp .lt 13, 3) := by decide +kernel
theorem d_R_letter_15 : decode b_R_letter 15 = .ok (.new 44, 3) := by decide +kernel
theorem d_R_letter_18 : decode b_R_letter 18 = .ok (.dup, 1) := by decide +kernel
theorem d_R_letter_19 : decode b_R_letter 19 = .ok (.ldc 46, 2) := by decide +kernel
theorem d_R_letter_21 : decode b_R_letter 21 = .ok (.invokespecial 48, 3) := by decide +kernel
theorem d_R_letter_24 : decode b_R_letter 24 = .ok (.athrow, 1) := by decide +kernel
theorem d_R_letter_25 : decode b_R_letter 25 = .ok (.aload_n 0, 1) := by decide +kernel
theorem d_R_letter_26 : decode b_R_letter 26 = .ok (.getfield 16, 3) := by decide +kernel
theorem d_R_letter_29 : decode b_R_letter 29 = .ok (.iload_n 1, 1) := by decide +kernel
theorem d_R_letter_30 : decode b_R_letter 30 = .ok (.invokevirtual 51, 3) := by decide +kernel
theorem d_R_letter_33 : decode b_R_letter 33 = .ok (.ireturn, 1) := by decide +kernel
theorem d_T_character_0 : decode b_T_character 0 = .ok (.iload_n 1, 1) := by decide +kernel
theorem d_T_character_1 : decode b_T_character 1 = .ok (.ifCond .lt 29, 3) := by decide +kernel
theorem d_T_character_4 : decode b_T_character 4 = .ok (.iload_n 1, 1) := by decide +kernel
theorem d_T_character_5 : decode b_T_character 5 = .ok (.aload_n 0, 1) := by decide +kernel
theorem d_T_character_6 : decode b_T_character 6 = .ok (.getfield 13, 3) := by decide +kernel
theorem d_T_character_9 : decode b_T_character 9 = .ok (.if_icmp .ge 21, 3) := by decide +kernel
theorem d_T_character_12 : decode b_T_character 12 = .ok (.iload_n 1, 1) := by decide +kernel
theorem d_T_character_13 : decode b_T_character 13 = .ok (.aload_n 0, 1) := by decide +kernel
theorem d_T_character_14 : decode b_T_character 14 = .ok (.getfield 9, 3) := by decide +kernel
theorem d_T_character_17 : decode b_T_character 17 = .ok (.arraylength, 1) := by decide +kernel
theorem d_T_character_18 : decode b_T_character 18 = .ok (.if_icmp .ge 12, 3) := by decide +kernel
theorem d_T_character_21 : decode b_T_character 21 = .ok (.aload_n 0, 1) := by decide +kernel
theorem d_T_character_22 : decode b_T_character 22 = .ok (.getfield 9, 3) := by decide +kernel
theorem d_T_character_25 : decode b_T_character 25 = .ok (.iload_n 1, 1) := by decide +kernel
theorem d_T_character_26 : decode b_T_character 26 = .ok (.caload, 1) := by decide +kernel
theorem d_T_character_27 : decode b_T_character 27 = .ok (.goto 5, 3) := by decide +kernel
theorem d_T_character_30 : decode b_T_character 30 = .ok (.bipush 32, 2) := by decide +kernel
theorem d_T_character_32 : decode b_T_character 32 = .ok (.ireturn, 1) := by decide +kernel
theorem d_W_poke_0 : decode b_W_poke 0 = .ok (.aload_n 0, 1) := by decide +kernel
theorem d_W_poke_1 : decode b_W_poke 1 = .ok (.iload_n 1, 1) := by decide +kernel
theorem d_W_poke_2 : decode b_W_poke 2 = .ok (.iload_n 2, 1) := by decide +kernel
theorem d_W_poke_3 : decode b_W_poke 3 = .ok (.invokevirtual 15, 3) := by decide +kernel
theorem d_W_poke_6 : decode b_W_poke 6 = .ok (.goto 6, 3) := by decide +kernel
theorem d_W_poke_9 : decode b_W_poke 9 = .ok (.astore_n 3, 1) := by decide +kernel
theorem d_W_poke_10 : decode b_W_poke 10 = .ok (.iconst 1, 1) := by decide +kernel
theorem d_W_poke_11 : decode b_W_poke 11 = .ok (.ireturn, 1) := by decide +kernel
theorem d_W_poke_12 : decode b_W_poke 12 = .ok (.iconst 0, 1) := by decide +kernel
theorem d_W_poke_13 : decode b_W_poke 13 = .ok (.ireturn, 1) := by decide +kernel
theorem d_R_poke_0 : decode b_R_poke 0 = .ok (.iload_n 1, 1) := by decide +kernel
theorem d_R_poke_1 : decode b_R_poke 1 = .ok (.invokestatic 55, 3) := by decide +kernel
theorem d_R_poke_4 : decode b_R_poke 4 = .ok (.aload_n 0, 1) := by decide +kernel
theorem d_R_poke_5 : decode b_R_poke 5 = .ok (.getfield 9, 3) := by decide +kernel
theorem d_R_poke_8 : decode b_R_poke 8 = .ok (.iload_n 1, 1) := by decide +kernel
theorem d_R_poke_9 : decode b_R_poke 9 = .ok (.iload_n 2, 1) := by decide +kernel
theorem d_R_poke_10 : decode b_R_poke 10 = .ok (.sipush 255, 3) := by decide +kernel
theorem d_R_poke_13 : decode b_R_poke 13 = .ok (.iand, 1) := by decide +kernel
theorem d_R_poke_14 : decode b_R_poke 14 = .ok (.iastore, 1) := by decide +kernel
theorem d_R_poke_15 : decode b_R_poke 15 = .ok (.return_, 1) := by decide +kernel
theorem d_R_demandAddress_0 : decode b_R_demandAddress 0 = .ok (.iload_n 0, 1) := by decide +kernel
theorem d_R_demandAddress_1 : decode b_R_demandAddress 1 = .ok (.invokestatic 83, 3) := by decide +kernel
theorem d_R_demandAddress_4 : decode b_R_demandAddress 4 = .ok (.ifCond .ne 13, 3) := by decide +kernel
theorem d_R_demandAddress_7 : decode b_R_demandAddress 7 = .ok (.new 44, 3) := by decide +kernel
theorem d_R_demandAddress_10 : decode b_R_demandAddress 10 = .ok (.dup, 1) := by decide +kernel
theorem d_R_demandAddress_11 : decode b_R_demandAddress 11 = .ok (.ldc 86, 2) := by decide +kernel
theorem d_R_demandAddress_13 : decode b_R_demandAddress 13 = .ok (.invokespecial 48, 3) := by decide +kernel
theorem d_R_demandAddress_16 : decode b_R_demandAddress 16 = .ok (.athrow, 1) := by decide +kernel
theorem d_R_demandAddress_17 : decode b_R_demandAddress 17 = .ok (.return_, 1) := by decide +kernel
theorem d_R_isAddress_0 : decode b_R_isAddress 0 = .ok (.iload_n 0, 1) := by decide +kernel
theorem d_R_isAddress_1 : decode b_R_isAddress 1 = .ok (.ifCond .lt 14, 3) := by decide +kernel
theorem d_R_isAddress_4 : decode b_R_isAddress 4 = .ok (.iload_n 0, 1) := by decide +kernel
theorem d_R_isAddress_5 : decode b_R_isAddress 5 = .ok (.sipush 256, 3) := by decide +kernel
theorem d_R_isAddress_8 : decode b_R_isAddress 8 = .ok (.if_icmp .ge 7, 3) := by decide +kernel
theorem d_R_isAddress_11 : decode b_R_isAddress 11 = .ok (.iconst 1, 1) := by decide +kernel
theorem d_R_isAddress_12 : decode b_R_isAddress 12 = .ok (.goto 4, 3) := by decide +kernel
theorem d_R_isAddress_15 : decode b_R_isAddress 15 = .ok (.iconst 0, 1) := by decide +kernel
theorem d_R_isAddress_16 : decode b_R_isAddress 16 = .ok (.ireturn, 1) := by decide +kernel
theorem d_W_at_0 : decode b_W_at 0 = .ok (.aload_n 2, 1) := by decide +kernel
theorem d_W_at_1 : decode b_W_at 1 = .ok (.iconst 0, 1) := by decide +kernel
theorem d_W_at_2 : decode b_W_at 2 = .ok (.aload_n 0, 1) := by decide +kernel
theorem d_W_at_3 : decode b_W_at 3 = .ok (.iload_n 1, 1) := by decide +kernel
theorem d_W_at_4 : decode b_W_at 4 = .ok (.invokevirtual 19, 3) := by decide +kernel
theorem d_W_at_7 : decode b_W_at 7 = .ok (.i2l, 1) := by decide +kernel
theorem d_W_at_8 : decode b_W_at 8 = .ok (.lastore, 1) := by decide +kernel
theorem d_W_at_9 : decode b_W_at 9 = .ok (.goto 6, 3) := by decide +kernel
theorem d_W_at_12 : decode b_W_at 12 = .ok (.astore_n 3, 1) := by decide +kernel
theorem d_W_at_13 : decode b_W_at 13 = .ok (.iconst 1, 1) := by decide +kernel
theorem d_W_at_14 : decode b_W_at 14 = .ok (.ireturn, 1) := by decide +kernel
theorem d_W_at_15 : decode b_W_at 15 = .ok (.iconst 0, 1) := by decide +kernel
theorem d_W_at_16 : decode b_W_at 16 = .ok (.ireturn, 1) := by decide +kernel
theorem d_R_at_0 : decode b_R_at 0 = .ok (.iload_n 1, 1) := by decide +kernel
theorem d_R_at_1 : decode b_R_at 1 = .ok (.invokestatic 55, 3) := by decide +kernel
theorem d_R_at_4 : decode b_R_at 4 = .ok (.aload_n 0, 1) := by decide +kernel
theorem d_R_at_5 : decode b_R_at 5 = .ok (.iload_n 1, 1) := by decide +kernel
theorem d_R_at_6 : decode b_R_at 6 = .ok (.invokevirtual 58, 3) := by decide +kernel
theorem d_R_at_9 : decode b_R_at 9 = .ok (.ifCond .ne 5, 3) := by decide +kernel
theorem d_R_at_12 : decode b_R_at 12 = .ok (.iconst 0, 1) := by decide +kernel
theorem d_R_at_13 : decode b_R_at 13 = .ok (.ireturn, 1) := by decide +kernel
theorem d_R_at_14 : decode b_R_at 14 = .ok (.aload_n 0, 1) := by decide +kernel
theorem d_R_at_15 : decode b_R_at 15 = .ok (.aload_n 0, 1) := by decide +kernel
theorem d_R_at_16 : decode b_R_at 16 = .ok (.iload_n 1, 1) := by decide +kernel
theorem d_R_at_17 : decode b_R_at 17 = .ok (.invokevirtual 61, 3) := by decide +kernel
theorem d_R_at_20 : decode b_R_at 20 = .ok (.invokevirtual 36, 3) := by decide +kernel
theorem d_R_at_23 : decode b_R_at 23 = .ok (.aload_n 0, 1) := by decide +kernel
theorem d_R_at_24 : decode b_R_at 24 = .ok (.getfield 20, 3) := by decide +kernel
theorem d_R_at_27 : decode b_R_at 27 = .ok (.ireturn, 1) := by decide +kernel
theorem d_R_isWholeAt_0 : decode b_R_isWholeAt 0 = .ok (.iload_n 1, 1) := by decide +kernel
theorem d_R_isWholeAt_1 : decode b_R_isWholeAt 1 = .ok (.aload_n 0, 1) := by decide +kernel
theorem d_R_isWholeAt_2 : decode b_R_isWholeAt 2 = .ok (.iload_n 1, 1) := by decide +kernel
theorem d_R_isWholeAt_3 : decode b_R_isWholeAt 3 = .ok (.invokevirtual 70, 3) := by decide +kernel
theorem d_R_isWholeAt_6 : decode b_R_isWholeAt 6 = .ok (.iadd, 1) := by decide +kernel
theorem d_R_isWholeAt_7 : decode b_R_isWholeAt 7 = .ok (.sipush 256, 3) := by decide +kernel
theorem d_R_isWholeAt_10 : decode b_R_isWholeAt 10 = .ok (.if_icmp .gt 7, 3) := by decide +kernel
theorem d_R_isWholeAt_13 : decode b_R_isWholeAt 13 = .ok (.iconst 1, 1) := by decide +kernel
theorem d_R_isWholeAt_14 : decode b_R_isWholeAt 14 = .ok (.goto 4, 3) := by decide +kernel
theorem d_R_isWholeAt_17 : decode b_R_isWholeAt 17 = .ok (.iconst 0, 1) := by decide +kernel
theorem d_R_isWholeAt_18 : decode b_R_isWholeAt 18 = .ok (.ireturn, 1) := by decide +kernel
theorem d_R_bytesAt_0 : decode b_R_bytesAt 0 = .ok (.aload_n 0, 1) := by decide +kernel
theorem d_R_bytesAt_1 : decode b_R_bytesAt 1 = .ok (.iload_n 1, 1) := by decide +kernel
theorem d_R_bytesAt_2 : decode b_R_bytesAt 2 = .ok (.invokevirtual 105, 3) := by decide +kernel
theorem d_R_bytesAt_5 : decode b_R_bytesAt 5 = .ok (.invokestatic 31, 3) := by decide +kernel
theorem d_R_bytesAt_8 : decode b_R_bytesAt 8 = .ok (.ifCond .eq 7, 3) := by decide +kernel
theorem d_R_bytesAt_11 : decode b_R_bytesAt 11 = .ok (.iconst 4, 1) := by decide +kernel
theorem d_R_bytesAt_12 : decode b_R_bytesAt 12 = .ok (.goto 4, 3) := by decide +kernel
theorem d_R_bytesAt_15 : decode b_R_bytesAt 15 = .ok (.iconst 2, 1) := by decide +kernel
theorem d_R_bytesAt_16 : decode b_R_bytesAt 16 = .ok (.ireturn, 1) := by decide +kernel
theorem d_R_byteAt_0 : decode b_R_byteAt 0 = .ok (.iload_n 1, 1) := by decide +kernel
theorem d_R_byteAt_1 : decode b_R_byteAt 1 = .ok (.invokestatic 83, 3) := by decide +kernel
theorem d_R_byteAt_4 : decode b_R_byteAt 4 = .ok (.ifCond .eq 12, 3) := by decide +kernel
theorem d_R_byteAt_7 : decode b_R_byteAt 7 = .ok (.aload_n 0, 1) := by decide +kernel
theorem d_R_byteAt_8 : decode b_R_byteAt 8 = .ok (.getfield 9, 3) := by decide +kernel
theorem d_R_byteAt_11 : decode b_R_byteAt 11 = .ok (.iload_n 1, 1) := by decide +kernel
theorem d_R_byteAt_12 : decode b_R_byteAt 12 = .ok (.iaload, 1) := by decide +kernel
theorem d_R_byteAt_13 : decode b_R_byteAt 13 = .ok (.goto 4, 3) := by decide +kernel
theorem d_R_byteAt_16 : decode b_R_byteAt 16 = .ok (.iconst 0, 1) := by decide +kernel
theorem d_R_byteAt_17 : decode b_R_byteAt 17 = .ok (.ireturn, 1) := by decide +kernel
theorem d_R_bitsAt_0 : decode b_R_bitsAt 0 = .ok (.aload_n 0, 1) := by decide +kernel
theorem d_R_bitsAt_1 : decode b_R_bitsAt 1 = .ok (.iload_n 1, 1) := by decide +kernel
theorem d_R_bitsAt_2 : decode b_R_bitsAt 2 = .ok (.invokevirtual 108, 3) := by decide +kernel
theorem d_R_bitsAt_5 : decode b_R_bitsAt 5 = .ok (.istore_n 2, 1) := by decide +kernel
theorem d_R_bitsAt_6 : decode b_R_bitsAt 6 = .ok (.iload_n 2, 1) := by decide +kernel
theorem d_R_bitsAt_7 : decode b_R_bitsAt 7 = .ok (.invokestatic 31, 3) := by decide +kernel
theorem d_R_bitsAt_10 : decode b_R_bitsAt 10 = .ok (.ifCond .eq 18, 3) := by decide +kernel
theorem d_R_bitsAt_13 : decode b_R_bitsAt 13 = .ok (.iload_n 2, 1) := by decide +kernel
theorem d_R_bitsAt_14 : decode b_R_bitsAt 14 = .ok (.aload_n 0, 1) := by decide +kernel
theorem d_R_bitsAt_15 : decode b_R_bitsAt 15 = .ok (.iload_n 1, 1) := by decide +kernel
theorem d_R_bitsAt_16 : decode b_R_bitsAt 16 = .ok (.iconst 2, 1) := by decide +kernel
theorem d_R_bitsAt_17 : decode b_R_bitsAt 17 = .ok (.iadd, 1) := by decide +kernel
theorem d_R_bitsAt_18 : decode b_R_bitsAt 18 = .ok (.invokevirtual 108, 3) := by decide +kernel
theorem d_R_bitsAt_21 : decode b_R_bitsAt 21 = .ok (.bipush 16, 2) := by decide +kernel
theorem d_R_bitsAt_23 : decode b_R_bitsAt 23 = .ok (.ishl, 1) := by decide +kernel
theorem d_R_bitsAt_24 : decode b_R_bitsAt 24 = .ok (.ior, 1) := by decide +kernel
theorem d_R_bitsAt_25 : decode b_R_bitsAt 25 = .ok (.goto 4, 3) := by decide +kernel
theorem d_R_bitsAt_28 : decode b_R_bitsAt 28 = .ok (.iload_n 2, 1) := by decide +kernel
theorem d_R_bitsAt_29 : decode b_R_bitsAt 29 = .ok (.ireturn, 1) := by decide +kernel
theorem d_R_halfAt_0 : decode b_R_halfAt 0 = .ok (.aload_n 0, 1) := by decide +kernel
theorem d_R_halfAt_1 : decode b_R_halfAt 1 = .ok (.iload_n 1, 1) := by decide +kernel
theorem d_R_halfAt_2 : decode b_R_halfAt 2 = .ok (.invokevirtual 105, 3) := by decide +kernel
theorem d_R_halfAt_5 : decode b_R_halfAt 5 = .ok (.aload_n 0, 1) := by decide +kernel
theorem d_R_halfAt_6 : decode b_R_halfAt 6 = .ok (.iload_n 1, 1) := by decide +kernel
theorem d_R_halfAt_7 : decode b_R_halfAt 7 = .ok (.iconst 1, 1) := by decide +kernel
theorem d_R_halfAt_8 : decode b_R_halfAt 8 = .ok (.iadd, 1) := by decide +kernel
theorem d_R_halfAt_9 : decode b_R_halfAt 9 = .ok (.invokevirtual 105, 3) := by decide +kernel
theorem d_R_halfAt_12 : decode b_R_halfAt 12 = .ok (.bipush 8, 2) := by decide +kernel
theorem d_R_halfAt_14 : decode b_R_halfAt 14 = .ok (.ishl, 1) := by decide +kernel
theorem d_R_halfAt_15 : decode b_R_halfAt 15 = .ok (.ior, 1) := by decide +kernel
theorem d_R_halfAt_16 : decode b_R_halfAt 16 = .ok (.ireturn, 1) := by decide +kernel
theorem d_W_next_0 : decode b_W_next 0 = .ok (.aload_n 3, 1) := by decide +kernel
theorem d_W_next_1 : decode b_W_next 1 = .ok (.iconst 0, 1) := by decide +kernel
theorem d_W_next_2 : decode b_W_next 2 = .ok (.aload_n 0, 1) := by decide +kernel
theorem d_W_next_3 : decode b_W_next 3 = .ok (.iload_n 1, 1) := by decide +kernel
end
section
theorem d_W_next_4 : decode b_W_next 4 = .ok (.iload_n 2, 1) := by decide +kernel
theorem d_W_next_5 : decode b_W_next 5 = .ok (.invokevirtual 23, 3) := by decide +kernel
theorem d_W_next_8 : decode b_W_next 8 = .ok (.i2l, 1) := by decide +kernel
theorem d_W_next_9 : decode b_W_next 9 = .ok (.lastore, 1) := by decide +kernel
theorem d_W_next_10 : decode b_W_next 10 = .ok (.goto 11, 3) := by decide +kernel
theorem d_W_next_13 : decode b_W_next 13 = .ok (.astore 4, 2) := by decide +kernel
theorem d_W_next_15 : decode b_W_next 15 = .ok (.iconst 1, 1) := by decide +kernel
theorem d_W_next_16 : decode b_W_next 16 = .ok (.ireturn, 1) := by decide +kernel
theorem d_W_next_17 : decode b_W_next 17 = .ok (.astore 4, 2) := by decide +kernel
theorem d_W_next_19 : decode b_W_next 19 = .ok (.iconst 2, 1) := by decide +kernel
theorem d_W_next_20 : decode b_W_next 20 = .ok (.ireturn, 1) := by decide +kernel
theorem d_W_next_21 : decode b_W_next 21 = .ok (.iconst 0, 1) := by decide +kernel
theorem d_W_next_22 : decode b_W_next 22 = .ok (.ireturn, 1) := by decide +kernel
theorem d_R_next_0 : decode b_R_next 0 = .ok (.iload_n 1, 1) := by decide +kernel
theorem d_R_next_1 : decode b_R_next 1 = .ok (.invokestatic 55, 3) := by decide +kernel
theorem d_R_next_4 : decode b_R_next 4 = .ok (.iload_n 2, 1) := by decide +kernel
theorem d_R_next_5 : decode b_R_next 5 = .ok (.ifCond .ge 13, 3) := by decide +kernel
theorem d_R_next_8 : decode b_R_next 8 = .ok (.new 65, 3) := by decide +kernel
theorem d_R_next_11 : decode b_R_next 11 = .ok (.dup, 1) := by decide +kernel
theorem d_R_next_12 : decode b_R_next 12 = .ok (.ldc 67, 2) := by decide +kernel
theorem d_R_next_14 : decode b_R_next 14 = .ok (.invokespecial 69, 3) := by decide +kernel
theorem d_R_next_17 : decode b_R_next 17 = .ok (.athrow, 1) := by decide +kernel
theorem d_R_next_18 : decode b_R_next 18 = .ok (.iload_n 1, 1) := by decide +kernel
theorem d_R_next_19 : decode b_R_next 19 = .ok (.istore_n 3, 1) := by decide +kernel
theorem d_R_next_20 : decode b_R_next 20 = .ok (.iconst 0, 1) := by decide +kernel
theorem d_R_next_21 : decode b_R_next 21 = .ok (.istore 4, 2) := by decide +kernel
theorem d_R_next_23 : decode b_R_next 23 = .ok (.iload 4, 2) := by decide +kernel
theorem d_R_next_25 : decode b_R_next 25 = .ok (.iload_n 2, 1) := by decide +kernel
theorem d_R_next_26 : decode b_R_next 26 = .ok (.if_icmp .ge 24, 3) := by decide +kernel
theorem d_R_next_29 : decode b_R_next 29 = .ok (.iload_n 3, 1) := by decide +kernel
theorem d_R_next_30 : decode b_R_next 30 = .ok (.sipush 254, 3) := by decide +kernel
theorem d_R_next_33 : decode b_R_next 33 = .ok (.if_icmp .gt 17, 3) := by decide +kernel
theorem d_R_next_36 : decode b_R_next 36 = .ok (.iload_n 3, 1) := by decide +kernel
theorem d_R_next_37 : decode b_R_next 37 = .ok (.aload_n 0, 1) := by decide +kernel
theorem d_R_next_38 : decode b_R_next 38 = .ok (.iload_n 3, 1) := by decide +kernel
theorem d_R_next_39 : decode b_R_next 39 = .ok (.invokevirtual 70, 3) := by decide +kernel
theorem d_R_next_42 : decode b_R_next 42 = .ok (.iadd, 1) := by decide +kernel
theorem d_R_next_43 : decode b_R_next 43 = .ok (.istore_n 3, 1) := by decide +kernel
theorem d_R_next_44 : decode b_R_next 44 = .ok (.iinc 4 1, 3) := by decide +kernel
theorem d_R_next_47 : decode b_R_next 47 = .ok (.goto (-24), 3) := by decide +kernel
theorem d_R_next_50 : decode b_R_next 50 = .ok (.iload_n 3, 1) := by decide +kernel
theorem d_R_next_51 : decode b_R_next 51 = .ok (.sipush 254, 3) := by decide +kernel
theorem d_R_next_54 : decode b_R_next 54 = .ok (.if_icmp .gt 7, 3) := by decide +kernel
theorem d_R_next_57 : decode b_R_next 57 = .ok (.iload_n 3, 1) := by decide +kernel
theorem d_R_next_58 : decode b_R_next 58 = .ok (.goto 4, 3) := by decide +kernel
theorem d_R_next_61 : decode b_R_next 61 = .ok (.iconst (-1), 1) := by decide +kernel
theorem d_R_next_62 : decode b_R_next 62 = .ok (.ireturn, 1) := by decide +kernel
theorem d_W_before_0 : decode b_W_before 0 = .ok (.aload_n 3, 1) := by decide +kernel
theorem d_W_before_1 : decode b_W_before 1 = .ok (.iconst 0, 1) := by decide +kernel
theorem d_W_before_2 : decode b_W_before 2 = .ok (.aload_n 0, 1) := by decide +kernel
theorem d_W_before_3 : decode b_W_before 3 = .ok (.iload_n 1, 1) := by decide +kernel
theorem d_W_before_4 : decode b_W_before 4 = .ok (.iload_n 2, 1) := by decide +kernel
theorem d_W_before_5 : decode b_W_before 5 = .ok (.invokevirtual 29, 3) := by decide +kernel
theorem d_W_before_8 : decode b_W_before 8 = .ok (.i2l, 1) := by decide +kernel
theorem d_W_before_9 : decode b_W_before 9 = .ok (.lastore, 1) := by decide +kernel
theorem d_W_before_10 : decode b_W_before 10 = .ok (.goto 7, 3) := by decide +kernel
theorem d_W_before_13 : decode b_W_before 13 = .ok (.astore 4, 2) := by decide +kernel
theorem d_W_before_15 : decode b_W_before 15 = .ok (.iconst 1, 1) := by decide +kernel
theorem d_W_before_16 : decode b_W_before 16 = .ok (.ireturn, 1) := by decide +kernel
theorem d_W_before_17 : decode b_W_before 17 = .ok (.iconst 0, 1) := by decide +kernel
theorem d_W_before_18 : decode b_W_before 18 = .ok (.ireturn, 1) := by decide +kernel
theorem d_R_before_0 : decode b_R_before 0 = .ok (.iload_n 1, 1) := by decide +kernel
theorem d_R_before_1 : decode b_R_before 1 = .ok (.invokestatic 55, 3) := by decide +kernel
theorem d_R_before_4 : decode b_R_before 4 = .ok (.iload_n 2, 1) := by decide +kernel
theorem d_R_before_5 : decode b_R_before 5 = .ok (.invokestatic 55, 3) := by decide +kernel
theorem d_R_before_8 : decode b_R_before 8 = .ok (.iconst (-1), 1) := by decide +kernel
theorem d_R_before_9 : decode b_R_before 9 = .ok (.istore_n 3, 1) := by decide +kernel
theorem d_R_before_10 : decode b_R_before 10 = .ok (.iload_n 1, 1) := by decide +kernel
theorem d_R_before_11 : decode b_R_before 11 = .ok (.istore 4, 2) := by decide +kernel
theorem d_R_before_13 : decode b_R_before 13 = .ok (.iload 4, 2) := by decide +kernel
theorem d_R_before_15 : decode b_R_before 15 = .ok (.iload_n 2, 1) := by decide +kernel
theorem d_R_before_16 : decode b_R_before 16 = .ok (.if_icmp .ge 28, 3) := by decide +kernel
theorem d_R_before_19 : decode b_R_before 19 = .ok (.iload 4, 2) := by decide +kernel
theorem d_R_before_21 : decode b_R_before 21 = .ok (.sipush 254, 3) := by decide +kernel
theorem d_R_before_24 : decode b_R_before 24 = .ok (.if_icmp .gt 20, 3) := by decide +kernel
theorem d_R_before_27 : decode b_R_before 27 = .ok (.iload 4, 2) := by decide +kernel
theorem d_R_before_29 : decode b_R_before 29 = .ok (.istore_n 3, 1) := by decide +kernel
theorem d_R_before_30 : decode b_R_before 30 = .ok (.iload 4, 2) := by decide +kernel
theorem d_R_before_32 : decode b_R_before 32 = .ok (.aload_n 0, 1) := by decide +kernel
theorem d_R_before_33 : decode b_R_before 33 = .ok (.iload 4, 2) := by decide +kernel
theorem d_R_before_35 : decode b_R_before 35 = .ok (.invokevirtual 70, 3) := by decide +kernel
theorem d_R_before_38 : decode b_R_before 38 = .ok (.iadd, 1) := by decide +kernel
theorem d_R_before_39 : decode b_R_before 39 = .ok (.istore 4, 2) := by decide +kernel
theorem d_R_before_41 : decode b_R_before 41 = .ok (.goto (-28), 3) := by decide +kernel
theorem d_R_before_44 : decode b_R_before 44 = .ok (.iload_n 3, 1) := by decide +kernel
theorem d_R_before_45 : decode b_R_before 45 = .ok (.ireturn, 1) := by decide +kernel
theorem d_W_numbers_0 : decode b_W_numbers 0 = .ok (.aload_n 2, 1) := by decide +kernel
theorem d_W_numbers_1 : decode b_W_numbers 1 = .ok (.iconst 0, 1) := by decide +kernel
theorem d_W_numbers_2 : decode b_W_numbers 2 = .ok (.aload_n 0, 1) := by decide +kernel
theorem d_W_numbers_3 : decode b_W_numbers 3 = .ok (.iload_n 1, 1) := by decide +kernel
theorem d_W_numbers_4 : decode b_W_numbers 4 = .ok (.invokevirtual 32, 3) := by decide +kernel
theorem d_W_numbers_7 : decode b_W_numbers 7 = .ok (.i2l, 1) := by decide +kernel
theorem d_W_numbers_8 : decode b_W_numbers 8 = .ok (.lastore, 1) := by decide +kernel
theorem d_W_numbers_9 : decode b_W_numbers 9 = .ok (.goto 6, 3) := by decide +kernel
theorem d_W_numbers_12 : decode b_W_numbers 12 = .ok (.astore_n 3, 1) := by decide +kernel
theorem d_W_numbers_13 : decode b_W_numbers 13 = .ok (.iconst 1, 1) := by decide +kernel
theorem d_W_numbers_14 : decode b_W_numbers 14 = .ok (.ireturn, 1) := by decide +kernel
theorem d_W_numbers_15 : decode b_W_numbers 15 = .ok (.iconst 0, 1) := by decide +kernel
theorem d_W_numbers_16 : decode b_W_numbers 16 = .ok (.ireturn, 1) := by decide +kernel
theorem d_R_numbers_0 : decode b_R_numbers 0 = .ok (.iload_n 1, 1) := by decide +kernel
theorem d_R_numbers_1 : decode b_R_numbers 1 = .ok (.invokestatic 55, 3) := by decide +kernel
theorem d_R_numbers_4 : decode b_R_numbers 4 = .ok (.iconst 0, 1) := by decide +kernel
theorem d_R_numbers_5 : decode b_R_numbers 5 = .ok (.istore_n 2, 1) := by decide +kernel
theorem d_R_numbers_6 : decode b_R_numbers 6 = .ok (.iload_n 1, 1) := by decide +kernel
theorem d_R_numbers_7 : decode b_R_numbers 7 = .ok (.istore_n 3, 1) := by decide +kernel
theorem d_R_numbers_8 : decode b_R_numbers 8 = .ok (.iload_n 3, 1) := by decide +kernel
theorem d_R_numbers_9 : decode b_R_numbers 9 = .ok (.sipush 254, 3) := by decide +kernel
theorem d_R_numbers_12 : decode b_R_numbers 12 = .ok (.if_icmp .gt 39, 3) := by decide +kernel
theorem d_R_numbers_15 : decode b_R_numbers 15 = .ok (.aload_n 0, 1) := by decide +kernel
theorem d_R_numbers_16 : decode b_R_numbers 16 = .ok (.iload_n 3, 1) := by decide +kernel
theorem d_R_numbers_17 : decode b_R_numbers 17 = .ok (.invokevirtual 58, 3) := by decide +kernel
theorem d_R_numbers_20 : decode b_R_numbers 20 = .ok (.ifCond .eq 20, 3) := by decide +kernel
theorem d_R_numbers_23 : decode b_R_numbers 23 = .ok (.aload_n 0, 1) := by decide +kernel
theorem d_R_numbers_24 : decode b_R_numbers 24 = .ok (.iload_n 3, 1) := by decide +kernel
theorem d_R_numbers_25 : decode b_R_numbers 25 = .ok (.invokevirtual 61, 3) := by decide +kernel
theorem d_R_numbers_28 : decode b_R_numbers 28 = .ok (.invokestatic 73, 3) := by decide +kernel
theorem d_R_numbers_31 : decode b_R_numbers 31 = .ok (.invokevirtual 77, 3) := by decide +kernel
theorem d_R_numbers_34 : decode b_R_numbers 34 = .ok (.ifCond .ne 6, 3) := by decide +kernel
theorem d_R_numbers_37 : decode b_R_numbers 37 = .ok (.iinc 2 1, 3) := by decide +kernel
theorem d_R_numbers_40 : decode b_R_numbers 40 = .ok (.iload_n 3, 1) := by decide +kernel
theorem d_R_numbers_41 : decode b_R_numbers 41 = .ok (.aload_n 0, 1) := by decide +kernel
theorem d_R_numbers_42 : decode b_R_numbers 42 = .ok (.iload_n 3, 1) := by decide +kernel
theorem d_R_numbers_43 : decode b_R_numbers 43 = .ok (.invokevirtual 70, 3) := by decide +kernel
theorem d_R_numbers_46 : decode b_R_numbers 46 = .ok (.iadd, 1) := by decide +kernel
theorem d_R_numbers_47 : decode b_R_numbers 47 = .ok (.istore_n 3, 1) := by decide +kernel
theorem d_R_numbers_48 : decode b_R_numbers 48 = .ok (.goto (-40), 3) := by decide +kernel
theorem d_R_numbers_51 : decode b_R_numbers 51 = .ok (.iload_n 2, 1) := by decide +kernel
theorem d_R_numbers_52 : decode b_R_numbers 52 = .ok (.ireturn, 1) := by decide +kernel
theorem d_M_init_0 : decode b_M_init 0 = .ok (.aload_n 0, 1) := by decide +kernel
theorem d_M_init_1 : decode b_M_init 1 = .ok (.invokespecial 1, 3) := by decide +kernel
theorem d_M_init_4 : decode b_M_init 4 = .ok (.aload_n 0, 1) := by decide +kernel
theorem d_M_init_5 : decode b_M_init 5 = .ok (.bipush 64, 2) := by decide +kernel
theorem d_M_init_7 : decode b_M_init 7 = .ok (.newarray .char, 2) := by decide +kernel
theorem d_M_init_9 : decode b_M_init 9 = .ok (.putfield 7, 3) := by decide +kernel
theorem d_M_init_12 : decode b_M_init 12 = .ok (.aload_n 0, 1) := by decide +kernel
theorem d_M_init_13 : decode b_M_init 13 = .ok (.sipush 256, 3) := by decide +kernel
theorem d_M_init_16 : decode b_M_init 16 = .ok (.newarray .int, 2) := by decide +kernel
theorem d_M_init_18 : decode b_M_init 18 = .ok (.putfield 13, 3) := by decide +kernel
theorem d_M_init_21 : decode b_M_init 21 = .ok (.aload_n 0, 1) := by decide +kernel
theorem d_M_init_22 : decode b_M_init 22 = .ok (.bipush 32, 2) := by decide +kernel
theorem d_M_init_24 : decode b_M_init 24 = .ok (.newarray .int, 2) := by decide +kernel
theorem d_M_init_26 : decode b_M_init 26 = .ok (.dup, 1) := by decide +kernel
theorem d_M_init_27 : decode b_M_init 27 = .ok (.iconst 0, 1) := by decide +kernel
theorem d_M_init_28 : decode b_M_init 28 = .ok (.ldc 17, 2) := by decide +kernel
theorem d_M_init_30 : decode b_M_init 30 = .ok (.iastore, 1) := by decide +kernel
theorem d_M_init_31 : decode b_M_init 31 = .ok (.dup, 1) := by decide +kernel
theorem d_M_init_32 : decode b_M_init 32 = .ok (.iconst 1, 1) := by decide +kernel
theorem d_M_init_33 : decode b_M_init 33 = .ok (.sipush 24946, 3) := by decide +kernel
theorem d_M_init_36 : decode b_M_init 36 = .ok (.iastore, 1) := by decide +kernel
theorem d_M_init_37 : decode b_M_init 37 = .ok (.dup, 1) := by decide +kernel
theorem d_M_init_38 : decode b_M_init 38 = .ok (.iconst 2, 1) := by decide +kernel
theorem d_M_init_39 : decode b_M_init 39 = .ok (.sipush 28787, 3) := by decide +kernel
theorem d_M_init_42 : decode b_M_init 42 = .ok (.iastore, 1) := by decide +kernel
theorem d_M_init_43 : decode b_M_init 43 = .ok (.dup, 1) := by decide +kernel
theorem d_M_init_44 : decode b_M_init 44 = .ok (.iconst 3, 1) := by decide +kernel
theorem d_M_init_45 : decode b_M_init 45 = .ok (.sipush 28775, 3) := by decide +kernel
theorem d_M_init_48 : decode b_M_init 48 = .ok (.iastore, 1) := by decide +kernel
theorem d_M_init_49 : decode b_M_init 49 = .ok (.dup, 1) := by decide +kernel
theorem d_M_init_50 : decode b_M_init 50 = .ok (.iconst 4, 1) := by decide +kernel
theorem d_M_init_51 : decode b_M_init 51 = .ok (.sipush 28788, 3) := by decide +kernel
theorem d_M_init_54 : decode b_M_init 54 = .ok (.iastore, 1) := by decide +kernel
theorem d_M_init_55 : decode b_M_init 55 = .ok (.dup, 1) := by decide +kernel
theorem d_M_init_56 : decode b_M_init 56 = .ok (.iconst 5, 1) := by decide +kernel
theorem d_M_init_57 : decode b_M_init 57 = .ok (.sipush 12404, 3) := by decide +kernel
theorem d_M_init_60 : decode b_M_init 60 = .ok (.iastore, 1) := by decide +kernel
theorem d_M_init_61 : decode b_M_init 61 = .ok (.dup, 1) := by decide +kernel
theorem d_M_init_62 : decode b_M_init 62 = .ok (.bipush 6, 2) := by decide +kernel
theorem d_M_init_64 : decode b_M_init 64 = .ok (.sipush 12660, 3) := by decide +kernel
theorem d_M_init_67 : decode b_M_init 67 = .ok (.iastore, 1) := by decide +kernel
theorem d_M_init_68 : decode b_M_init 68 = .ok (.dup, 1) := by decide +kernel
theorem d_M_init_69 : decode b_M_init 69 = .ok (.bipush 7, 2) := by decide +kernel
theorem d_M_init_71 : decode b_M_init 71 = .ok (.sipush 12916, 3) := by decide +kernel
theorem d_M_init_74 : decode b_M_init 74 = .ok (.iastore, 1) := by decide +kernel
theorem d_M_init_75 : decode b_M_init 75 = .ok (.dup, 1) := by decide +kernel
theorem d_M_init_76 : decode b_M_init 76 = .ok (.bipush 8, 2) := by decide +kernel
theorem d_M_init_78 : decode b_M_init 78 = .ok (.sipush 12403, 3) := by decide +kernel
theorem d_M_init_81 : decode b_M_init 81 = .ok (.iastore, 1) := by decide +kernel
theorem d_M_init_82 : decode b_M_init 82 = .ok (.dup, 1) := by decide +kernel
theorem d_M_init_83 : decode b_M_init 83 = .ok (.bipush 9, 2) := by decide +kernel
theorem d_M_init_85 : decode b_M_init 85 = .ok (.sipush 12659, 3) := by decide +kernel
theorem d_M_init_88 : decode b_M_init 88 = .ok (.iastore, 1) := by decide +kernel
theorem d_M_init_89 : decode b_M_init 89 = .ok (.dup, 1) := by decide +kernel
theorem d_M_init_90 : decode b_M_init 90 = .ok (.bipush 10, 2) := by decide +kernel
theorem d_M_init_92 : decode b_M_init 92 = .ok (.sipush 12385, 3) := by decide +kernel
theorem d_M_init_95 : decode b_M_init 95 = .ok (.iastore, 1) := by decide +kernel
theorem d_M_init_96 : decode b_M_init 96 = .ok (.dup, 1) := by decide +kernel
theorem d_M_init_97 : decode b_M_init 97 = .ok (.bipush 11, 2) := by decide +kernel
theorem d_M_init_99 : decode b_M_init 99 = .ok (.sipush 12641, 3) := by decide +kernel
theorem d_M_init_102 : decode b_M_init 102 = .ok (.iastore, 1) := by decide +kernel
theorem d_M_init_103 : decode b_M_init 103 = .ok (.dup, 1) := by decide +kernel
theorem d_M_init_104 : decode b_M_init 104 = .ok (.bipush 12, 2) := by decide +kernel
theorem d_M_init_106 : decode b_M_init 106 = .ok (.sipush 12897, 3) := by decide +kernel
theorem d_M_init_109 : decode b_M_init 109 = .ok (.iastore, 1) := by decide +kernel
theorem d_M_init_110 : decode b_M_init 110 = .ok (.dup, 1) := by decide +kernel
theorem d_M_init_111 : decode b_M_init 111 = .ok (.bipush 13, 2) := by decide +kernel
theorem d_M_init_113 : decode b_M_init 113 = .ok (.sipush 13153, 3) := by decide +kernel
theorem d_M_init_116 : decode b_M_init 116 = .ok (.iastore, 1) := by decide +kernel
theorem d_M_init_117 : decode b_M_init 117 = .ok (.dup, 1) := by decide +kernel
theorem d_M_init_118 : decode b_M_init 118 = .ok (.bipush 14, 2) := by decide +kernel
theorem d_M_init_120 : decode b_M_init 120 = .ok (.sipush 13409, 3) := by decide +kernel
theorem d_M_init_123 : decode b_M_init 123 = .ok (.iastore, 1) := by decide +kernel
theorem d_M_init_124 : decode b_M_init 124 = .ok (.dup, 1) := by decide +kernel
theorem d_M_init_125 : decode b_M_init 125 = .ok (.bipush 15, 2) := by decide +kernel
theorem d_M_init_127 : decode b_M_init 127 = .ok (.sipush 13665, 3) := by decide +kernel
theorem d_M_init_130 : decode b_M_init 130 = .ok (.iastore, 1) := by decide +kernel
theorem d_M_init_131 : decode b_M_init 131 = .ok (.dup, 1) := by decide +kernel
theorem d_M_init_132 : decode b_M_init 132 = .ok (.bipush 16, 2) := by decide +kernel
theorem d_M_init_134 : decode b_M_init 134 = .ok (.sipush 13921, 3) := by decide +kernel
theorem d_M_init_137 : decode b_M_init 137 = .ok (.iastore, 1) := by decide +kernel
theorem d_M_init_138 : decode b_M_init 138 = .ok (.dup, 1) := by decide +kernel
theorem d_M_init_139 : decode b_M_init 139 = .ok (.bipush 17, 2) := by decide +kernel
theorem d_M_init_141 : decode b_M_init 141 = .ok (.sipush 14177, 3) := by decide +kernel
theorem d_M_init_144 : decode b_M_init 144 = .ok (.iastore, 1) := by decide +kernel
theorem d_M_init_145 : decode b_M_init 145 = .ok (.dup, 1) := by decide +kernel
theorem d_M_init_146 : decode b_M_init 146 = .ok (.bipush 18, 2) := by decide +kernel
theorem d_M_init_148 : decode b_M_init 148 = .ok (.sipush 12915, 3) := by decide +kernel
theorem d_M_init_151 : decode b_M_init 151 = .ok (.iastore, 1) := by decide +kernel
theorem d_M_init_152 : decode b_M_init 152 = .ok (.dup, 1) := by decide +kernel
theorem d_M_init_153 : decode b_M_init 153 = .ok (.bipush 19, 2) := by decide +kernel
theorem d_M_init_155 : decode b_M_init 155 = .ok (.sipush 13171, 3) := by decide +kernel
theorem d_M_init_158 : decode b_M_init 158 = .ok (.iastore, 1) := by decide +kernel
theorem d_M_init_159 : decode b_M_init 159 = .ok (.dup, 1) := by decide +kernel
theorem d_M_init_160 : decode b_M_init 160 = .ok (.bipush 20, 2) := by decide +kernel
theorem d_M_init_162 : decode b_M_init 162 = .ok (.sipush 13427, 3) := by decide +kernel
theorem d_M_init_165 : decode b_M_init 165 = .ok (.iastore, 1) := by decide +kernel
theorem d_M_init_166 : decode b_M_init 166 = .ok (.dup, 1) := by decide +kernel
theorem d_M_init_167 : decode b_M_init 167 = .ok (.bipush 21, 2) := by decide +kernel
theorem d_M_init_169 : decode b_M_init 169 = .ok (.sipush 13683, 3) := by decide +kernel
theorem d_M_init_172 : decode b_M_init 172 = .ok (.iastore, 1) := by decide +kernel
theorem d_M_init_173 : decode b_M_init 173 = .ok (.dup, 1) := by decide +kernel
theorem d_M_init_174 : decode b_M_init 174 = .ok (.bipush 22, 2) := by decide +kernel
theorem d_M_init_176 : decode b_M_init 176 = .ok (.sipush 13939, 3) := by decide +kernel
theorem d_M_init_179 : decode b_M_init 179 = .ok (.iastore, 1) := by decide +kernel
theorem d_M_init_180 : decode b_M_init 180 = .ok (.dup, 1) := by decide +kernel
theorem d_M_init_181 : decode b_M_init 181 = .ok (.bipush 23, 2) := by decide +kernel
theorem d_M_init_183 : decode b_M_init 183 = .ok (.sipush 14195, 3) := by decide +kernel
theorem d_M_init_186 : decode b_M_init 186 = .ok (.iastore, 1) := by decide +kernel
theorem d_M_init_187 : decode b_M_init 187 = .ok (.dup, 1) := by decide +kernel
theorem d_M_init_188 : decode b_M_init 188 = .ok (.bipush 24, 2) := by decide +kernel
theorem d_M_init_190 : decode b_M_init 190 = .ok (.sipush 14451, 3) := by decide +kernel
theorem d_M_init_193 : decode b_M_init 193 = .ok (.iastore, 1) := by decide +kernel
theorem d_M_init_194 : decode b_M_init 194 = .ok (.dup, 1) := by decide +kernel
theorem d_M_init_195 : decode b_M_init 195 = .ok (.bipush 25, 2) := by decide +kernel
theorem d_M_init_197 : decode b_M_init 197 = .ok (.sipush 14707, 3) := by decide +kernel
theorem d_M_init_200 : decode b_M_init 200 = .ok (.iastore, 1) := by decide +kernel
theorem d_M_init_201 : decode b_M_init 201 = .ok (.dup, 1) := by decide +kernel
theorem d_M_init_202 : decode b_M_init 202 = .ok (.bipush 26, 2) := by decide +kernel
theorem d_M_init_204 : decode b_M_init 204 = .ok (.ldc 18, 2) := by decide +kernel
theorem d_M_init_206 : decode b_M_init 206 = .ok (.iastore, 1) := by decide +kernel
theorem d_M_init_207 : decode b_M_init 207 = .ok (.dup, 1) := by decide +kernel
theorem d_M_init_208 : decode b_M_init 208 = .ok (.bipush 27, 2) := by decide +kernel
theorem d_M_init_210 : decode b_M_init 210 = .ok (.ldc 19, 2) := by decide +kernel
theorem d_M_init_212 : decode b_M_init 212 = .ok (.iastore, 1) := by decide +kernel
theorem d_M_init_213 : decode b_M_init 213 = .ok (.dup, 1) := by decide +kernel
theorem d_M_init_214 : decode b_M_init 214 = .ok (.bipush 28, 2) := by decide +kernel
theorem d_M_init_216 : decode b_M_init 216 = .ok (.sipush 13172, 3) := by decide +kernel
theorem d_M_init_219 : decode b_M_init 219 = .ok (.iastore, 1) := by decide +kernel
theorem d_M_init_220 : decode b_M_init 220 = .ok (.dup, 1) := by decide +kernel
theorem d_M_init_221 : decode b_M_init 221 = .ok (.bipush 29, 2) := by decide +kernel
theorem d_M_init_223 : decode b_M_init 223 = .ok (.sipush 13428, 3) := by decide +kernel
theorem d_M_init_226 : decode b_M_init 226 = .ok (.iastore, 1) := by decide +kernel
theorem d_M_init_227 : decode b_M_init 227 = .ok (.dup, 1) := by decide +kernel
theorem d_M_init_228 : decode b_M_init 228 = .ok (.bipush 30, 2) := by decide +kernel
theorem d_M_init_230 : decode b_M_init 230 = .ok (.sipush 13684, 3) := by decide +kernel
theorem d_M_init_233 : decode b_M_init 233 = .ok (.iastore, 1) := by decide +kernel
theorem d_M_init_234 : decode b_M_init 234 = .ok (.dup, 1) := by decide +kernel
theorem d_M_init_235 : decode b_M_init 235 = .ok (.bipush 31, 2) := by decide +kernel
theorem d_M_init_237 : decode b_M_init 237 = .ok (.sipush 13940, 3) := by decide +kernel
theorem d_M_init_240 : decode b_M_init 240 = .ok (.iastore, 1) := by decide +kernel
theorem d_M_init_241 : decode b_M_init 241 = .ok (.putfield 20, 3) := by decide +kernel
theorem d_M_init_244 : decode b_M_init 244 = .ok (.aload_n 0, 1) := by decide +kernel
theorem d_M_init_245 : decode b_M_init 245 = .ok (.bipush 64, 2) := by decide +kernel
theorem d_M_init_247 : decode b_M_init 247 = .ok (.newarray .char, 2) := by decide +kernel
theorem d_M_init_249 : decode b_M_init 249 = .ok (.putfield 23, 3) := by decide +kernel
theorem d_M_init_252 : decode b_M_init 252 = .ok (.return_, 1) := by decide +kernel
theorem d_M_thrown_0 : decode b_M_thrown 0 = .ok (.aload_n 0, 1) := by decide +kernel
theorem d_M_thrown_1 : decode b_M_thrown 1 = .ok (.getfield 26, 3) := by decide +kernel
theorem d_M_thrown_4 : decode b_M_thrown 4 = .ok (.ireturn, 1) := by decide +kernel
theorem d_M_read_0 : decode b_M_read 0 = .ok (.aload_n 0, 1) := by decide +kernel
theorem d_M_read_1 : decode b_M_read 1 = .ok (.iconst 0, 1) := by decide +kernel
theorem d_M_read_2 : decode b_M_read 2 = .ok (.putfield 26, 3) := by decide +kernel
theorem d_M_read_5 : decode b_M_read 5 = .ok (.aload_n 0, 1) := by decide +kernel
theorem d_M_read_6 : decode b_M_read 6 = .ok (.iload_n 1, 1) := by decide +kernel
theorem d_M_read_7 : decode b_M_read 7 = .ok (.iconst 3, 1) := by decide +kernel
theorem d_M_read_8 : decode b_M_read 8 = .ok (.iand, 1) := by decide +kernel
theorem d_M_read_9 : decode b_M_read 9 = .ok (.iconst 3, 1) := by decide +kernel
theorem d_M_read_10 : decode b_M_read 10 = .ok (.if_icmp .ne 7, 3) := by decide +kernel
theorem d_M_read_13 : decode b_M_read 13 = .ok (.iload_n 1, 1) := by decide +kernel
theorem d_M_read_14 : decode b_M_read 14 = .ok (.goto 8, 3) := by decide +kernel
theorem d_M_read_17 : decode b_M_read 17 = .ok (.iload_n 1, 1) := by decide +kernel
theorem d_M_read_18 : decode b_M_read 18 = .ok (.ldc_w 354, 3) := by decide +kernel
theorem d_M_read_21 : decode b_M_read 21 = .ok (.iand, 1) := by decide +kernel
theorem d_M_read_22 : decode b_M_read 22 = .ok (.putfield 30, 3) := by decide +kernel
theorem d_M_read_25 : decode b_M_read 25 = .ok (.aload_n 0, 1) := by decide +kernel
theorem d_M_read_26 : decode b_M_read 26 = .ok (.invokevirtual 355, 3) := by decide +kernel
theorem d_M_read_29 : decode b_M_read 29 = .ok (.aload_n 0, 1) := by decide +kernel
theorem d_M_read_30 : decode b_M_read 30 = .ok (.getfield 33, 3) := by decide +kernel
theorem d_M_read_33 : decode b_M_read 33 = .ok (.ireturn, 1) := by decide +kernel
theorem d_M_understand_0 : decode b_M_understand 0 = .ok (.aload_n 0, 1) := by decide +kernel
theorem d_M_understand_1 : decode b_M_understand 1 = .ok (.getfield 30, 3) := by decide +kernel
theorem d_M_understand_4 : decode b_M_understand 4 = .ok (.iconst 3, 1) := by decide +kernel
theorem d_M_understand_5 : decode b_M_understand 5 = .ok (.iand, 1) := by decide +kernel
theorem d_M_understand_6 : decode b_M_understand 6 = .ok (.iconst 3, 1) := by decide +kernel
theorem d_M_understand_7 : decode b_M_understand 7 = .ok (.if_icmp .ne 7, 3) := by decide +kernel
theorem d_M_understand_10 : decode b_M_understand 10 = .ok (.iconst 1, 1) := by decide +kernel
theorem d_M_understand_11 : decode b_M_understand 11 = .ok (.goto 4, 3) := by decide +kernel
theorem d_M_understand_14 : decode b_M_understand 14 = .ok (.iconst 0, 1) := by decide +kernel
theorem d_M_understand_15 : decode b_M_understand 15 = .ok (.istore_n 1, 1) := by decide +kernel
theorem d_M_understand_16 : decode b_M_understand 16 = .ok (.aload_n 0, 1) := by decide +kernel
theorem d_M_understand_17 : decode b_M_understand 17 = .ok (.iconst 0, 1) := by decide +kernel
theorem d_M_understand_18 : decode b_M_understand 18 = .ok (.putfield 33, 3) := by decide +kernel
theorem d_M_understand_21 : decode b_M_understand 21 = .ok (.aload_n 0, 1) := by decide +kernel
theorem d_M_understand_22 : decode b_M_understand 22 = .ok (.iconst 0, 1) := by decide +kernel
theorem d_M_understand_23 : decode b_M_understand 23 = .ok (.putfield 52, 3) := by decide +kernel
theorem d_M_understand_26 : decode b_M_understand 26 = .ok (.aload_n 0, 1) := by decide +kernel
theorem d_M_understand_27 : decode b_M_understand 27 = .ok (.iconst 0, 1) := by decide +kernel
theorem d_M_understand_28 : decode b_M_understand 28 = .ok (.putfield 56, 3) := by decide +kernel
theorem d_M_understand_31 : decode b_M_understand 31 = .ok (.aload_n 0, 1) := by decide +kernel
theorem d_M_understand_32 : decode b_M_understand 32 = .ok (.iload_n 1, 1) := by decide +kernel
theorem d_M_understand_33 : decode b_M_understand 33 = .ok (.ifCond .eq 7, 3) := by decide +kernel
theorem d_M_understand_36 : decode b_M_understand 36 = .ok (.iconst 4, 1) := by decide +kernel
theorem d_M_understand_37 : decode b_M_understand 37 = .ok (.goto 4, 3) := by decide +kernel
theorem d_M_understand_40 : decode b_M_understand 40 = .ok (.iconst 2, 1) := by decide +kernel
theorem d_M_understand_41 : decode b_M_understand 41 = .ok (.putfield 333, 3) := by decide +kernel
theorem d_M_understand_44 : decode b_M_understand 44 = .ok (.aload_n 0, 1) := by decide +kernel
theorem d_M_understand_45 : decode b_M_understand 45 = .ok (.aload_n 0, 1) := by decide +kernel
theorem d_M_understand_46 : decode b_M_understand 46 = .ok (.bipush 7, 2) := by decide +kernel
theorem d_M_understand_48 : decode b_M_understand 48 = .ok (.iconst 5, 1) := by decide +kernel
theorem d_M_understand_49 : decode b_M_understand 49 = .ok (.invokevirtual 181, 3) := by decide +kernel
theorem d_M_understand_52 : decode b_M_understand 52 = .ok (.putfield 77, 3) := by decide +kernel
theorem d_M_understand_55 : decode b_M_understand 55 = .ok (.aload_n 0, 1) := by decide +kernel
theorem d_M_understand_56 : decode b_M_understand 56 = .ok (.aload_n 0, 1) := by decide +kernel
theorem d_M_understand_57 : decode b_M_understand 57 = .ok (.bipush 13, 2) := by decide +kernel
theorem d_M_understand_59 : decode b_M_understand 59 = .ok (.iconst 3, 1) := by decide +kernel
theorem d_M_understand_60 : decode b_M_understand 60 = .ok (.invokevirtual 181, 3) := by decide +kernel
theorem d_M_understand_63 : decode b_M_understand 63 = .ok (.putfield 89, 3) := by decide +kernel
theorem d_M_understand_66 : decode b_M_understand 66 = .ok (.iload_n 1, 1) := by decide +kernel
theorem d_M_understand_67 : decode b_M_understand 67 = .ok (.ifCond .eq 10, 3) := by decide +kernel
theorem d_M_understand_70 : decode b_M_understand 70 = .ok (.aload_n 0, 1) := by decide +kernel
theorem d_M_understand_71 : decode b_M_understand 71 = .ok (.invokevirtual 336, 3) := by decide +kernel
theorem d_M_understand_74 : decode b_M_understand 74 = .ok (.goto 40, 3) := by decide +kernel
theorem d_M_understand_77 : decode b_M_understand 77 = .ok (.aload_n 0, 1) := by decide +kernel
theorem d_M_understand_78 : decode b_M_understand 78 = .ok (.getfield 30, 3) := by decide +kernel
theorem d_M_understand_81 : decode b_M_understand 81 = .ok (.iconst 3, 1) := by decide +kernel
theorem d_M_understand_82 : decode b_M_understand 82 = .ok (.iand, 1) := by decide +kernel
theorem d_M_understand_83 : decode b_M_understand 83 = .ok (.ifCond .ne 10, 3) := by decide +kernel
theorem d_M_understand_86 : decode b_M_understand 86 = .ok (.aload_n 0, 1) := by decide +kernel
theorem d_M_understand_87 : decode b_M_understand 87 = .ok (.invokevirtual 339, 3) := by decide +kernel
theorem d_M_understand_90 : decode b_M_understand 90 = .ok (.goto 24, 3) := by decide +kernel
theorem d_M_understand_93 : decode b_M_understand 93 = .ok (.aload_n 0, 1) := by decide +kernel
theorem d_M_understand_94 : decode b_M_understand 94 = .ok (.getfield 30, 3) := by decide +kernel
theorem d_M_understand_97 : decode b_M_understand 97 = .ok (.iconst 3, 1) := by decide +kernel
theorem d_M_understand_98 : decode b_M_understand 98 = .ok (.iand, 1) := by decide +kernel
theorem d_M_understand_99 : decode b_M_understand 99 = .ok (.iconst 1, 1) := by decide +kernel
theorem d_M_understand_100 : decode b_M_understand 100 = .ok (.if_icmp .ne 10, 3) := by decide +kernel
theorem d_M_understand_103 : decode b_M_understand 103 = .ok (.aload_n 0, 1) := by decide +kernel
theorem d_M_understand_104 : decode b_M_understand 104 = .ok (.invokevirtual 342, 3) := by decide +kernel
theorem d_M_understand_107 : decode b_M_understand 107 = .ok (.goto 7, 3) := by decide +kernel
theorem d_M_understand_110 : decode b_M_understand 110 = .ok (.aload_n 0, 1) := by decide +kernel
theorem d_M_understand_111 : decode b_M_understand 111 = .ok (.invokevirtual 345, 3) := by decide +kernel
theorem d_M_understand_114 : decode b_M_understand 114 = .ok (.aload_n 0, 1) := by decide +kernel
theorem d_M_understand_115 : decode b_M_understand 115 = .ok (.getfield 52, 3) := by decide +kernel
theorem d_M_understand_118 : decode b_M_understand 118 = .ok (.ifCond .eq 4, 3) := by decide +kernel
theorem d_M_understand_121 : decode b_M_understand 121 = .ok (.return_, 1) := by decide +kernel
theorem d_M_understand_122 : decode b_M_understand 122 = .ok (.aload_n 0, 1) := by decide +kernel
theorem d_M_understand_123 : decode b_M_understand 123 = .ok (.iload_n 1, 1) := by decide +kernel
theorem d_M_understand_124 : decode b_M_understand 124 = .ok (.ifCond .eq 9, 3) := by decide +kernel
theorem d_M_understand_127 : decode b_M_understand 127 = .ok (.ldc2_w 348, 3) := by decide +kernel
theorem d_M_understand_130 : decode b_M_understand 130 = .ok (.goto 6, 3) := by decide +kernel
theorem d_M_understand_133 : decode b_M_understand 133 = .ok (.ldc2_w 350, 3) := by decide +kernel
theorem d_M_understand_136 : decode b_M_understand 136 = .ok (.invokevirtual 59, 3) := by decide +kernel
theorem d_M_understand_139 : decode b_M_understand 139 = .ok (.aload_n 0, 1) := by decide +kernel
theorem d_M_understand_140 : decode b_M_understand 140 = .ok (.invokevirtual 62, 3) := by decide +kernel
theorem d_M_understand_143 : decode b_M_understand 143 = .ok (.aload_n 0, 1) := by decide +kernel
theorem d_M_understand_144 : decode b_M_understand 144 = .ok (.aload_n 0, 1) := by decide +kernel
theorem d_M_understand_145 : decode b_M_understand 145 = .ok (.getfield 30, 3) := by decide +kernel
theorem d_M_understand_148 : decode b_M_understand 148 = .ok (.i2l, 1) := by decide +kernel
theorem d_M_understand_149 : decode b_M_understand 149 = .ok (.ldc2_w 352, 3) := by decide +kernel
theorem d_M_understand_152 : decode b_M_understand 152 = .ok (.land, 1) := by decide +kernel
theorem d_M_understand_153 : decode b_M_understand 153 = .ok (.invokevirtual 48, 3) := by decide +kernel
theorem d_M_understand_156 : decode b_M_understand 156 = .ok (.return_, 1) := by decide +kernel
theorem d_M_part_0 : decode b_M_part 0 = .ok (.aload_n 0, 1) := by decide +kernel
theorem d_M_part_1 : decode b_M_part 1 = .ok (.getfield 30, 3) := by decide +kernel
theorem d_M_part_4 : decode b_M_part 4 = .ok (.iload_n 1, 1) := by decide +kernel
theorem d_M_part_5 : decode b_M_part 5 = .ok (.iushr, 1) := by decide +kernel
theorem d_M_part_6 : decode b_M_part 6 = .ok (.iconst 1, 1) := by decide +kernel
theorem d_M_part_7 : decode b_M_part 7 = .ok (.iload_n 2, 1) := by decide +kernel
theorem d_M_part_8 : decode b_M_part 8 = .ok (.ishl, 1) := by decide +kernel
theorem d_M_part_9 : decode b_M_part 9 = .ok (.iconst 1, 1) := by decide +kernel
theorem d_M_part_10 : decode b_M_part 10 = .ok (.isub, 1) := by decide +kernel
theorem d_M_part_11 : decode b_M_part 11 = .ok (.iand, 1) := by decide +kernel
theorem d_M_part_12 : decode b_M_part 12 = .ok (.ireturn, 1) := by decide +kernel
theorem d_M_longOne_0 : decode b_M_longOne 0 = .ok (.aload_n 0, 1) := by decide +kernel
theorem d_M_longOne_1 : decode b_M_longOne 1 = .ok (.aload_n 0, 1) := by decide +kernel
theorem d_M_longOne_2 : decode b_M_longOne 2 = .ok (.bipush 7, 2) := by decide +kernel
theorem d_M_longOne_4 : decode b_M_longOne 4 = .ok (.iconst 5, 1) := by decide +kernel
theorem d_M_longOne_5 : decode b_M_longOne 5 = .ok (.invokevirtual 181, 3) := by decide +kernel
theorem d_M_longOne_8 : decode b_M_longOne 8 = .ok (.putfield 77, 3) := by decide +kernel
theorem d_M_longOne_11 : decode b_M_longOne 11 = .ok (.aload_n 0, 1) := by decide +kernel
theorem d_M_longOne_12 : decode b_M_longOne 12 = .ok (.aload_n 0, 1) := by decide +kernel
theorem d_M_longOne_13 : decode b_M_longOne 13 = .ok (.bipush 12, 2) := by decide +kernel
theorem d_M_longOne_15 : decode b_M_longOne 15 = .ok (.iconst 3, 1) := by decide +kernel
theorem d_M_longOne_16 : decode b_M_longOne 16 = .ok (.invokevirtual 181, 3) := by decide +kernel
theorem d_M_longOne_19 : decode b_M_longOne 19 = .ok (.putfield 89, 3) := by decide +kernel
theorem d_M_longOne_22 : decode b_M_longOne 22 = .ok (.aload_n 0, 1) := by decide +kernel
theorem d_M_longOne_23 : decode b_M_longOne 23 = .ok (.aload_n 0, 1) := by decide +kernel
theorem d_M_longOne_24 : decode b_M_longOne 24 = .ok (.bipush 15, 2) := by decide +kernel
theorem d_M_longOne_26 : decode b_M_longOne 26 = .ok (.iconst 5, 1) := by decide +kernel
theorem d_M_longOne_27 : decode b_M_longOne 27 = .ok (.invokevirtual 181, 3) := by decide +kernel
theorem d_M_longOne_30 : decode b_M_longOne 30 = .ok (.putfield 83, 3) := by decide +kernel
theorem d_M_longOne_33 : decode b_M_longOne 33 = .ok (.aload_n 0, 1) := by decide +kernel
theorem d_M_longOne_34 : decode b_M_longOne 34 = .ok (.aload_n 0, 1) := by decide +kernel
theorem d_M_longOne_35 : decode b_M_longOne 35 = .ok (.bipush 20, 2) := by decide +kernel
theorem d_M_longOne_37 : decode b_M_longOne 37 = .ok (.iconst 5, 1) := by decide +kernel
theorem d_M_longOne_38 : decode b_M_longOne 38 = .ok (.invokevirtual 181, 3) := by decide +kernel
theorem d_M_longOne_41 : decode b_M_longOne 41 = .ok (.putfield 86, 3) := by decide +kernel
theorem d_M_longOne_44 : decode b_M_longOne 44 = .ok (.aload_n 0, 1) := by decide +kernel
theorem d_M_longOne_45 : decode b_M_longOne 45 = .ok (.bipush 25, 2) := by decide +kernel
theorem d_M_longOne_47 : decode b_M_longOne 47 = .ok (.bipush 7, 2) := by decide +kernel
theorem d_M_longOne_49 : decode b_M_longOne 49 = .ok (.invokevirtual 181, 3) := by decide +kernel
theorem d_M_longOne_52 : decode b_M_longOne 52 = .ok (.istore_n 1, 1) := by decide +kernel
theorem d_M_longOne_53 : decode b_M_longOne 53 = .ok (.aload_n 0, 1) := by decide +kernel
theorem d_M_longOne_54 : decode b_M_longOne 54 = .ok (.getfield 30, 3) := by decide +kernel
theorem d_M_longOne_57 : decode b_M_longOne 57 = .ok (.bipush 127, 2) := by decide +kernel
theorem d_M_longOne_59 : decode b_M_longOne 59 = .ok (.iand, 1) := by decide +kernel
theorem d_M_longOne_60 : decode b_M_longOne 60 = .ok (.lookupswitch 126 #[(3, 84), (19, 76), (35, 91), (47, 105), (51, 68), (99, 98), (115, 119)], 68) := by decide +kernel
theorem d_M_longOne_128 : decode b_M_longOne 128 = .ok (.aload_n 0, 1) := by decide +kernel
theorem d_M_longOne_129 : decode b_M_longOne 129 = .ok (.iload_n 1, 1) := by decide +kernel
theorem d_M_longOne_130 : decode b_M_longOne 130 = .ok (.invokevirtual 225, 3) := by decide +kernel
theorem d_M_longOne_133 : decode b_M_longOne 133 = .ok (.goto 57, 3) := by decide +kernel
theorem d_M_longOne_136 : decode b_M_longOne 136 = .ok (.aload_n 0, 1) := by decide +kernel
theorem d_M_longOne_137 : decode b_M_longOne 137 = .ok (.iload_n 1, 1) := by decide +kernel
theorem d_M_longOne_138 : decode b_M_longOne 138 = .ok (.invokevirtual 228, 3) := by decide +kernel
theorem d_M_longOne_141 : decode b_M_longOne 141 = .ok (.goto 49, 3) := by decide +kernel
theorem d_M_longOne_144 : decode b_M_longOne 144 = .ok (.aload_n 0, 1) := by decide +kernel
theorem d_M_longOne_145 : decode b_M_longOne 145 = .ok (.invokevirtual 231, 3) := by decide +kernel
theorem d_M_longOne_148 : decode b_M_longOne 148 = .ok (.goto 42, 3) := by decide +kernel
theorem d_M_longOne_151 : decode b_M_longOne 151 = .ok (.aload_n 0, 1) := by decide +kernel
theorem d_M_longOne_152 : decode b_M_longOne 152 = .ok (.invokevirtual 234, 3) := by decide +kernel
theorem d_M_longOne_155 : decode b_M_longOne 155 = .ok (.goto 35, 3) := by decide +kernel
theorem d_M_longOne_158 : decode b_M_longOne 158 = .ok (.aload_n 0, 1) := by decide +kernel
theorem d_M_longOne_159 : decode b_M_longOne 159 = .ok (.invokevirtual 237, 3) := by decide +kernel
theorem d_M_longOne_162 : decode b_M_longOne 162 = .ok (.goto 28, 3) := by decide +kernel
theorem d_M_longOne_165 : decode b_M_longOne 165 = .ok (.aload_n 0, 1) := by decide +kernel
theorem d_M_longOne_166 : decode b_M_longOne 166 = .ok (.aload_n 0, 1) := by decide +kernel
theorem d_M_longOne_167 : decode b_M_longOne 167 = .ok (.bipush 27, 2) := by decide +kernel
theorem d_M_longOne_169 : decode b_M_longOne 169 = .ok (.iconst 5, 1) := by decide +kernel
theorem d_M_longOne_170 : decode b_M_longOne 170 = .ok (.invokevirtual 181, 3) := by decide +kernel
theorem d_M_longOne_173 : decode b_M_longOne 173 = .ok (.invokevirtual 240, 3) := by decide +kernel
theorem d_M_longOne_176 : decode b_M_longOne 176 = .ok (.goto 14, 3) := by decide +kernel
theorem d_M_longOne_179 : decode b_M_longOne 179 = .ok (.aload_n 0, 1) := by decide +kernel
theorem d_M_longOne_180 : decode b_M_longOne 180 = .ok (.invokevirtual 243, 3) := by decide +kernel
theorem d_M_longOne_183 : decode b_M_longOne 183 = .ok (.goto 7, 3) := by decide +kernel
theorem d_M_longOne_186 : decode b_M_longOne 186 = .ok (.aload_n 0, 1) := by decide +kernel
theorem d_M_longOne_187 : decode b_M_longOne 187 = .ok (.invokevirtual 246, 3) := by decide +kernel
theorem d_M_longOne_190 : decode b_M_longOne 190 = .ok (.return_, 1) := by decide +kernel
theorem d_M_plain_0 : decode b_M_plain 0 = .ok (.iload_n 1, 1) := by decide +kernel
theorem d_M_plain_1 : decode b_M_plain 1 = .ok (.ifCond .ne 111, 3) := by decide +kernel
theorem d_M_plain_4 : decode b_M_plain 4 = .ok (.aload_n 0, 1) := by decide +kernel
theorem d_M_plain_5 : decode b_M_plain 5 = .ok (.aload_n 0, 1) := by decide +kernel
theorem d_M_plain_6 : decode b_M_plain 6 = .ok (.getfield 89, 3) := by decide +kernel
theorem d_M_plain_9 : decode b_M_plain 9 = .ok (.ifCond .ne 9, 3) := by decide +kernel
theorem d_M_plain_12 : decode b_M_plain 12 = .ok (.ldc2_w 92, 3) := by decide +kernel
theorem d_M_plain_15 : decode b_M_plain 15 = .ok (.goto 91, 3) := by decide +kernel
theorem d_M_plain_18 : decode b_M_plain 18 = .ok (.aload_n 0, 1) := by decide +kernel
theorem d_M_plain_19 : decode b_M_plain 19 = .ok (.getfield 89, 3) := by decide +kernel
theorem d_M_plain_22 : decode b_M_plain 22 = .ok (.iconst 1, 1) := by decide +kernel
theorem d_M_plain_23 : decode b_M_plain 23 = .ok (.if_icmp .ne 9, 3) := by decide +kernel
theorem d_M_plain_26 : decode b_M_plain 26 = .ok (.ldc2_w 94, 3) := by decide +kernel
theorem d_M_plain_29 : decode b_M_plain 29 = .ok (.goto 77, 3) := by decide +kernel
theorem d_M_plain_32 : decode b_M_plain 32 = .ok (.aload_n 0, 1) := by decide +kernel
theorem d_M_plain_33 : decode b_M_plain 33 = .ok (.getfield 89, 3) := by decide +kernel
theorem d_M_plain_36 : decode b_M_plain 36 = .ok (.iconst 2, 1) := by decide +kernel
theorem d_M_plain_37 : decode b_M_plain 37 = .ok (.if_icmp .ne 9, 3) := by decide +kernel
theorem d_M_plain_40 : decode b_M_plain 40 = .ok (.ldc2_w 96, 3) := by decide +kernel
theorem d_M_plain_43 : decode b_M_plain 43 = .ok (.goto 63, 3) := by decide +kernel
theorem d_M_plain_46 : decode b_M_plain 46 = .ok (.aload_n 0, 1) := by decide +kernel
theorem d_M_plain_47 : decode b_M_plain 47 = .ok (.getfield 89, 3) := by decide +kernel
theorem d_M_plain_50 : decode b_M_plain 50 = .ok (.iconst 3, 1) := by decide +kernel
theorem d_M_plain_51 : decode b_M_plain 51 = .ok (.if_icmp .ne 9, 3) := by decide +kernel
theorem d_M_plain_54 : decode b_M_plain 54 = .ok (.ldc2_w 98, 3) := by decide +kernel
theorem d_M_plain_57 : decode b_M_plain 57 = .ok (.goto 49, 3) := by decide +kernel
theorem d_M_plain_60 : decode b_M_plain 60 = .ok (.aload_n 0, 1) := by decide +kernel
theorem d_M_plain_61 : decode b_M_plain 61 = .ok (.getfield 89, 3) := by decide +kernel
theorem d_M_plain_64 : decode b_M_plain 64 = .ok (.iconst 4, 1) := by decide +kernel
theorem d_M_plain_65 : decode b_M_plain 65 = .ok (.if_icmp .ne 9, 3) := by decide +kernel
theorem d_M_plain_68 : decode b_M_plain 68 = .ok (.ldc2_w 100, 3) := by decide +kernel
theorem d_M_plain_71 : decode b_M_plain 71 = .ok (.goto 35, 3) := by decide +kernel
theorem d_M_plain_74 : decode b_M_plain 74 = .ok (.aload_n 0, 1) := by decide +kernel
theorem d_M_plain_75 : decode b_M_plain 75 = .ok (.getfield 89, 3) := by decide +kernel
theorem d_M_plain_78 : decode b_M_plain 78 = .ok (.iconst 5, 1) := by decide +kernel
theorem d_M_plain_79 : decode b_M_plain 79 = .ok (.if_icmp .ne 9, 3) := by decide +kernel
theorem d_M_plain_82 : decode b_M_plain 82 = .ok (.ldc2_w 102, 3) := by decide +kernel
theorem d_M_plain_85 : decode b_M_plain 85 = .ok (.goto 21, 3) := by decide +kernel
theorem d_M_plain_88 : decode b_M_plain 88 = .ok (.aload_n 0, 1) := by decide +kernel
theorem d_M_plain_89 : decode b_M_plain 89 = .ok (.getfield 89, 3) := by decide +kernel
theorem d_M_plain_92 : decode b_M_plain 92 = .ok (.bipush 6, 2) := by decide +kernel
theorem d_M_plain_94 : decode b_M_plain 94 = .ok (.if_icmp .ne 9, 3) := by decide +kernel
theorem d_M_plain_97 : decode b_M_plain 97 = .ok (.ldc2_w 104, 3) := by decide +kernel
theorem d_M_plain_100 : decode b_M_plain 100 = .ok (.goto 6, 3) := by decide +kernel
end
section
theorem d_M_plain_103 : decode b_M_plain 103 = .ok (.ldc2_w 106, 3) := by decide +kernel
theorem d_M_plain_106 : decode b_M_plain 106 = .ok (.invokevirtual 108, 3) := by decide +kernel
theorem d_M_plain_109 : decode b_M_plain 109 = .ok (.goto 157, 3) := by decide +kernel
theorem d_M_plain_112 : decode b_M_plain 112 = .ok (.iload_n 1, 1) := by decide +kernel
theorem d_M_plain_113 : decode b_M_plain 113 = .ok (.iconst 1, 1) := by decide +kernel
theorem d_M_plain_114 : decode b_M_plain 114 = .ok (.if_icmp .ne 111, 3) := by decide +kernel
theorem d_M_plain_117 : decode b_M_plain 117 = .ok (.aload_n 0, 1) := by decide +kernel
theorem d_M_plain_118 : decode b_M_plain 118 = .ok (.aload_n 0, 1) := by decide +kernel
theorem d_M_plain_119 : decode b_M_plain 119 = .ok (.getfield 89, 3) := by decide +kernel
theorem d_M_plain_122 : decode b_M_plain 122 = .ok (.ifCond .ne 9, 3) := by decide +kernel
theorem d_M_plain_125 : decode b_M_plain 125 = .ok (.ldc2_w 111, 3) := by decide +kernel
theorem d_M_plain_128 : decode b_M_plain 128 = .ok (.goto 91, 3) := by decide +kernel
theorem d_M_plain_131 : decode b_M_plain 131 = .ok (.aload_n 0, 1) := by decide +kernel
theorem d_M_plain_132 : decode b_M_plain 132 = .ok (.getfield 89, 3) := by decide +kernel
theorem d_M_plain_135 : decode b_M_plain 135 = .ok (.iconst 1, 1) := by decide +kernel
theorem d_M_plain_136 : decode b_M_plain 136 = .ok (.if_icmp .ne 9, 3) := by decide +kernel
theorem d_M_plain_139 : decode b_M_plain 139 = .ok (.ldc2_w 113, 3) := by decide +kernel
theorem d_M_plain_142 : decode b_M_plain 142 = .ok (.goto 77, 3) := by decide +kernel
theorem d_M_plain_145 : decode b_M_plain 145 = .ok (.aload_n 0, 1) := by decide +kernel
theorem d_M_plain_146 : decode b_M_plain 146 = .ok (.getfield 89, 3) := by decide +kernel
theorem d_M_plain_149 : decode b_M_plain 149 = .ok (.iconst 2, 1) := by decide +kernel
theorem d_M_plain_150 : decode b_M_plain 150 = .ok (.if_icmp .ne 9, 3) := by decide +kernel
theorem d_M_plain_153 : decode b_M_plain 153 = .ok (.ldc2_w 115, 3) := by decide +kernel
theorem d_M_plain_156 : decode b_M_plain 156 = .ok (.goto 63, 3) := by decide +kernel
theorem d_M_plain_159 : decode b_M_plain 159 = .ok (.aload_n 0, 1) := by decide +kernel
theorem d_M_plain_160 : decode b_M_plain 160 = .ok (.getfield 89, 3) := by decide +kernel
theorem d_M_plain_163 : decode b_M_plain 163 = .ok (.iconst 3, 1) := by decide +kernel
theorem d_M_plain_164 : decode b_M_plain 164 = .ok (.if_icmp .ne 9, 3) := by decide +kernel
theorem d_M_plain_167 : decode b_M_plain 167 = .ok (.ldc2_w 117, 3) := by decide +kernel
theorem d_M_plain_170 : decode b_M_plain 170 = .ok (.goto 49, 3) := by decide +kernel
theorem d_M_plain_173 : decode b_M_plain 173 = .ok (.aload_n 0, 1) := by decide +kernel
theorem d_M_plain_174 : decode b_M_plain 174 = .ok (.getfield 89, 3) := by decide +kernel
theorem d_M_plain_177 : decode b_M_plain 177 = .ok (.iconst 4, 1) := by decide +kernel
theorem d_M_plain_178 : decode b_M_plain 178 = .ok (.if_icmp .ne 9, 3) := by decide +kernel
theorem d_M_plain_181 : decode b_M_plain 181 = .ok (.ldc2_w 119, 3) := by decide +kernel
theorem d_M_plain_184 : decode b_M_plain 184 = .ok (.goto 35, 3) := by decide +kernel
theorem d_M_plain_187 : decode b_M_plain 187 = .ok (.aload_n 0, 1) := by decide +kernel
theorem d_M_plain_188 : decode b_M_plain 188 = .ok (.getfield 89, 3) := by decide +kernel
theorem d_M_plain_191 : decode b_M_plain 191 = .ok (.iconst 5, 1) := by decide +kernel
theorem d_M_plain_192 : decode b_M_plain 192 = .ok (.if_icmp .ne 9, 3) := by decide +kernel
theorem d_M_plain_195 : decode b_M_plain 195 = .ok (.ldc2_w 121, 3) := by decide +kernel
theorem d_M_plain_198 : decode b_M_plain 198 = .ok (.goto 21, 3) := by decide +kernel
theorem d_M_plain_201 : decode b_M_plain 201 = .ok (.aload_n 0, 1) := by decide +kernel
theorem d_M_plain_202 : decode b_M_plain 202 = .ok (.getfield 89, 3) := by decide +kernel
theorem d_M_plain_205 : decode b_M_plain 205 = .ok (.bipush 6, 2) := by decide +kernel
theorem d_M_plain_207 : decode b_M_plain 207 = .ok (.if_icmp .ne 9, 3) := by decide +kernel
theorem d_M_plain_210 : decode b_M_plain 210 = .ok (.ldc2_w 123, 3) := by decide +kernel
theorem d_M_plain_213 : decode b_M_plain 213 = .ok (.goto 6, 3) := by decide +kernel
theorem d_M_plain_216 : decode b_M_plain 216 = .ok (.ldc2_w 125, 3) := by decide +kernel
theorem d_M_plain_219 : decode b_M_plain 219 = .ok (.invokevirtual 108, 3) := by decide +kernel
theorem d_M_plain_222 : decode b_M_plain 222 = .ok (.goto 44, 3) := by decide +kernel
theorem d_M_plain_225 : decode b_M_plain 225 = .ok (.iload_n 1, 1) := by decide +kernel
theorem d_M_plain_226 : decode b_M_plain 226 = .ok (.bipush 32, 2) := by decide +kernel
theorem d_M_plain_228 : decode b_M_plain 228 = .ok (.if_icmp .ne 38, 3) := by decide +kernel
theorem d_M_plain_231 : decode b_M_plain 231 = .ok (.aload_n 0, 1) := by decide +kernel
theorem d_M_plain_232 : decode b_M_plain 232 = .ok (.getfield 89, 3) := by decide +kernel
theorem d_M_plain_235 : decode b_M_plain 235 = .ok (.ifCond .eq 11, 3) := by decide +kernel
theorem d_M_plain_238 : decode b_M_plain 238 = .ok (.aload_n 0, 1) := by decide +kernel
theorem d_M_plain_239 : decode b_M_plain 239 = .ok (.getfield 89, 3) := by decide +kernel
theorem d_M_plain_242 : decode b_M_plain 242 = .ok (.iconst 5, 1) := by decide +kernel
theorem d_M_plain_243 : decode b_M_plain 243 = .ok (.if_icmp .ne 23, 3) := by decide +kernel
theorem d_M_plain_246 : decode b_M_plain 246 = .ok (.aload_n 0, 1) := by decide +kernel
theorem d_M_plain_247 : decode b_M_plain 247 = .ok (.aload_n 0, 1) := by decide +kernel
theorem d_M_plain_248 : decode b_M_plain 248 = .ok (.getfield 89, 3) := by decide +kernel
theorem d_M_plain_251 : decode b_M_plain 251 = .ok (.ifCond .ne 9, 3) := by decide +kernel
theorem d_M_plain_254 : decode b_M_plain 254 = .ok (.ldc2_w 127, 3) := by decide +kernel
theorem d_M_plain_257 : decode b_M_plain 257 = .ok (.goto 6, 3) := by decide +kernel
theorem d_M_plain_260 : decode b_M_plain 260 = .ok (.ldc2_w 129, 3) := by decide +kernel
theorem d_M_plain_263 : decode b_M_plain 263 = .ok (.invokevirtual 108, 3) := by decide +kernel
theorem d_M_plain_266 : decode b_M_plain 266 = .ok (.return_, 1) := by decide +kernel
theorem d_M_threes_0 : decode b_M_threes 0 = .ok (.aload_n 0, 1) := by decide +kernel
theorem d_M_threes_1 : decode b_M_threes 1 = .ok (.lload_n 1, 1) := by decide +kernel
theorem d_M_threes_2 : decode b_M_threes 2 = .ok (.invokevirtual 74, 3) := by decide +kernel
theorem d_M_threes_5 : decode b_M_threes 5 = .ok (.aload_n 0, 1) := by decide +kernel
theorem d_M_threes_6 : decode b_M_threes 6 = .ok (.aload_n 0, 1) := by decide +kernel
theorem d_M_threes_7 : decode b_M_threes 7 = .ok (.getfield 77, 3) := by decide +kernel
theorem d_M_threes_10 : decode b_M_threes 10 = .ok (.invokevirtual 80, 3) := by decide +kernel
theorem d_M_threes_13 : decode b_M_threes 13 = .ok (.aload_n 0, 1) := by decide +kernel
theorem d_M_threes_14 : decode b_M_threes 14 = .ok (.aload_n 0, 1) := by decide +kernel
theorem d_M_threes_15 : decode b_M_threes 15 = .ok (.getfield 83, 3) := by decide +kernel
theorem d_M_threes_18 : decode b_M_threes 18 = .ok (.invokevirtual 80, 3) := by decide +kernel
theorem d_M_threes_21 : decode b_M_threes 21 = .ok (.aload_n 0, 1) := by decide +kernel
theorem d_M_threes_22 : decode b_M_threes 22 = .ok (.aload_n 0, 1) := by decide +kernel
theorem d_M_threes_23 : decode b_M_threes 23 = .ok (.getfield 86, 3) := by decide +kernel
theorem d_M_threes_26 : decode b_M_threes 26 = .ok (.invokevirtual 80, 3) := by decide +kernel
theorem d_M_threes_29 : decode b_M_threes 29 = .ok (.return_, 1) := by decide +kernel
theorem d_M_name_0 : decode b_M_name 0 = .ok (.aload_n 0, 1) := by decide +kernel
theorem d_M_name_1 : decode b_M_name 1 = .ok (.iconst 1, 1) := by decide +kernel
theorem d_M_name_2 : decode b_M_name 2 = .ok (.putfield 52, 3) := by decide +kernel
theorem d_M_name_5 : decode b_M_name 5 = .ok (.aload_n 0, 1) := by decide +kernel
theorem d_M_name_6 : decode b_M_name 6 = .ok (.iconst 0, 1) := by decide +kernel
theorem d_M_name_7 : decode b_M_name 7 = .ok (.putfield 56, 3) := by decide +kernel
theorem d_M_name_10 : decode b_M_name 10 = .ok (.aload_n 0, 1) := by decide +kernel
theorem d_M_name_11 : decode b_M_name 11 = .ok (.lload_n 1, 1) := by decide +kernel
theorem d_M_name_12 : decode b_M_name 12 = .ok (.invokevirtual 59, 3) := by decide +kernel
theorem d_M_name_15 : decode b_M_name 15 = .ok (.return_, 1) := by decide +kernel
theorem d_M_say_0 : decode b_M_say 0 = .ok (.lload_n 1, 1) := by decide +kernel
theorem d_M_say_1 : decode b_M_say 1 = .ok (.lstore_n 3, 1) := by decide +kernel
theorem d_M_say_2 : decode b_M_say 2 = .ok (.lload_n 3, 1) := by decide +kernel
theorem d_M_say_3 : decode b_M_say 3 = .ok (.lconst 0, 1) := by decide +kernel
theorem d_M_say_4 : decode b_M_say 4 = .ok (.lcmp, 1) := by decide +kernel
theorem d_M_say_5 : decode b_M_say 5 = .ok (.ifCond .eq 21, 3) := by decide +kernel
theorem d_M_say_8 : decode b_M_say 8 = .ok (.aload_n 0, 1) := by decide +kernel
theorem d_M_say_9 : decode b_M_say 9 = .ok (.lload_n 3, 1) := by decide +kernel
theorem d_M_say_10 : decode b_M_say 10 = .ok (.ldc2_w 36, 3) := by decide +kernel
theorem d_M_say_13 : decode b_M_say 13 = .ok (.land, 1) := by decide +kernel
theorem d_M_say_14 : decode b_M_say 14 = .ok (.l2i, 1) := by decide +kernel
theorem d_M_say_15 : decode b_M_say 15 = .ok (.invokevirtual 38, 3) := by decide +kernel
theorem d_M_say_18 : decode b_M_say 18 = .ok (.lload_n 3, 1) := by decide +kernel
theorem d_M_say_19 : decode b_M_say 19 = .ok (.bipush 8, 2) := by decide +kernel
theorem d_M_say_21 : decode b_M_say 21 = .ok (.lushr, 1) := by decide +kernel
theorem d_M_say_22 : decode b_M_say 22 = .ok (.lstore_n 3, 1) := by decide +kernel
theorem d_M_say_23 : decode b_M_say 23 = .ok (.goto (-21), 3) := by decide +kernel
theorem d_M_say_26 : decode b_M_say 26 = .ok (.return_, 1) := by decide +kernel
theorem d_M_put_0 : decode b_M_put 0 = .ok (.aload_n 0, 1) := by decide +kernel
theorem d_M_put_1 : decode b_M_put 1 = .ok (.getfield 7, 3) := by decide +kernel
theorem d_M_put_4 : decode b_M_put 4 = .ok (.aload_n 0, 1) := by decide +kernel
theorem d_M_put_5 : decode b_M_put 5 = .ok (.getfield 33, 3) := by decide +kernel
theorem d_M_put_8 : decode b_M_put 8 = .ok (.iload_n 1, 1) := by decide +kernel
theorem d_M_put_9 : decode b_M_put 9 = .ok (.i2c, 1) := by decide +kernel
theorem d_M_put_10 : decode b_M_put 10 = .ok (.castore, 1) := by decide +kernel
theorem d_M_put_11 : decode b_M_put 11 = .ok (.aload_n 0, 1) := by decide +kernel
theorem d_M_put_12 : decode b_M_put 12 = .ok (.dup, 1) := by decide +kernel
theorem d_M_put_13 : decode b_M_put 13 = .ok (.getfield 33, 3) := by decide +kernel
theorem d_M_put_16 : decode b_M_put 16 = .ok (.iconst 1, 1) := by decide +kernel
theorem d_M_put_17 : decode b_M_put 17 = .ok (.iadd, 1) := by decide +kernel
theorem d_M_put_18 : decode b_M_put 18 = .ok (.putfield 33, 3) := by decide +kernel
theorem d_M_put_21 : decode b_M_put 21 = .ok (.return_, 1) := by decide +kernel
theorem d_M_register_0 : decode b_M_register 0 = .ok (.aload_n 0, 1) := by decide +kernel
theorem d_M_register_1 : decode b_M_register 1 = .ok (.invokevirtual 62, 3) := by decide +kernel
theorem d_M_register_4 : decode b_M_register 4 = .ok (.aload_n 0, 1) := by decide +kernel
theorem d_M_register_5 : decode b_M_register 5 = .ok (.aload_n 0, 1) := by decide +kernel
theorem d_M_register_6 : decode b_M_register 6 = .ok (.getfield 20, 3) := by decide +kernel
theorem d_M_register_9 : decode b_M_register 9 = .ok (.iload_n 1, 1) := by decide +kernel
theorem d_M_register_10 : decode b_M_register 10 = .ok (.iaload, 1) := by decide +kernel
theorem d_M_register_11 : decode b_M_register 11 = .ok (.i2l, 1) := by decide +kernel
theorem d_M_register_12 : decode b_M_register 12 = .ok (.invokevirtual 59, 3) := by decide +kernel
theorem d_M_register_15 : decode b_M_register 15 = .ok (.return_, 1) := by decide +kernel
theorem d_M_next_0 : decode b_M_next 0 = .ok (.aload_n 0, 1) := by decide +kernel
theorem d_M_next_1 : decode b_M_next 1 = .ok (.getfield 56, 3) := by decide +kernel
theorem d_M_next_4 : decode b_M_next 4 = .ok (.ifCond .le 9, 3) := by decide +kernel
theorem d_M_next_7 : decode b_M_next 7 = .ok (.aload_n 0, 1) := by decide +kernel
theorem d_M_next_8 : decode b_M_next 8 = .ok (.bipush 44, 2) := by decide +kernel
theorem d_M_next_10 : decode b_M_next 10 = .ok (.invokevirtual 38, 3) := by decide +kernel
theorem d_M_next_13 : decode b_M_next 13 = .ok (.aload_n 0, 1) := by decide +kernel
theorem d_M_next_14 : decode b_M_next 14 = .ok (.bipush 32, 2) := by decide +kernel
theorem d_M_next_16 : decode b_M_next 16 = .ok (.invokevirtual 38, 3) := by decide +kernel
theorem d_M_next_19 : decode b_M_next 19 = .ok (.aload_n 0, 1) := by decide +kernel
theorem d_M_next_20 : decode b_M_next 20 = .ok (.dup, 1) := by decide +kernel
theorem d_M_next_21 : decode b_M_next 21 = .ok (.getfield 56, 3) := by decide +kernel
theorem d_M_next_24 : decode b_M_next 24 = .ok (.iconst 1, 1) := by decide +kernel
theorem d_M_next_25 : decode b_M_next 25 = .ok (.iadd, 1) := by decide +kernel
theorem d_M_next_26 : decode b_M_next 26 = .ok (.putfield 56, 3) := by decide +kernel
theorem d_M_next_29 : decode b_M_next 29 = .ok (.return_, 1) := by decide +kernel
theorem d_M_twos_0 : decode b_M_twos 0 = .ok (.aload_n 0, 1) := by decide +kernel
theorem d_M_twos_1 : decode b_M_twos 1 = .ok (.getfield 89, 3) := by decide +kernel
theorem d_M_twos_4 : decode b_M_twos 4 = .ok (.iconst 1, 1) := by decide +kernel
theorem d_M_twos_5 : decode b_M_twos 5 = .ok (.if_icmp .eq 11, 3) := by decide +kernel
theorem d_M_twos_8 : decode b_M_twos 8 = .ok (.aload_n 0, 1) := by decide +kernel
theorem d_M_twos_9 : decode b_M_twos 9 = .ok (.getfield 89, 3) := by decide +kernel
theorem d_M_twos_12 : decode b_M_twos 12 = .ok (.iconst 5, 1) := by decide +kernel
theorem d_M_twos_13 : decode b_M_twos 13 = .ok (.if_icmp .ne 7, 3) := by decide +kernel
theorem d_M_twos_16 : decode b_M_twos 16 = .ok (.iconst 1, 1) := by decide +kernel
theorem d_M_twos_17 : decode b_M_twos 17 = .ok (.goto 4, 3) := by decide +kernel
theorem d_M_twos_20 : decode b_M_twos 20 = .ok (.iconst 0, 1) := by decide +kernel
theorem d_M_twos_21 : decode b_M_twos 21 = .ok (.istore_n 2, 1) := by decide +kernel
theorem d_M_twos_22 : decode b_M_twos 22 = .ok (.iload_n 2, 1) := by decide +kernel
theorem d_M_twos_23 : decode b_M_twos 23 = .ok (.ifCond .eq 22, 3) := by decide +kernel
theorem d_M_twos_26 : decode b_M_twos 26 = .ok (.iload_n 1, 1) := by decide +kernel
theorem d_M_twos_27 : decode b_M_twos 27 = .ok (.ifCond .eq 18, 3) := by decide +kernel
theorem d_M_twos_30 : decode b_M_twos 30 = .ok (.iload_n 1, 1) := by decide +kernel
theorem d_M_twos_31 : decode b_M_twos 31 = .ok (.bipush 32, 2) := by decide +kernel
theorem d_M_twos_33 : decode b_M_twos 33 = .ok (.if_icmp .ne 11, 3) := by decide +kernel
theorem d_M_twos_36 : decode b_M_twos 36 = .ok (.aload_n 0, 1) := by decide +kernel
theorem d_M_twos_37 : decode b_M_twos 37 = .ok (.getfield 89, 3) := by decide +kernel
theorem d_M_twos_40 : decode b_M_twos 40 = .ok (.iconst 1, 1) := by decide +kernel
theorem d_M_twos_41 : decode b_M_twos 41 = .ok (.if_icmp .ne 4, 3) := by decide +kernel
theorem d_M_twos_44 : decode b_M_twos 44 = .ok (.return_, 1) := by decide +kernel
theorem d_M_twos_45 : decode b_M_twos 45 = .ok (.aload_n 0, 1) := by decide +kernel
theorem d_M_twos_46 : decode b_M_twos 46 = .ok (.iload_n 1, 1) := by decide +kernel
theorem d_M_twos_47 : decode b_M_twos 47 = .ok (.bipush 32, 2) := by decide +kernel
theorem d_M_twos_49 : decode b_M_twos 49 = .ok (.if_icmp .ne 13, 3) := by decide +kernel
theorem d_M_twos_52 : decode b_M_twos 52 = .ok (.iload_n 2, 1) := by decide +kernel
theorem d_M_twos_53 : decode b_M_twos 53 = .ok (.ifCond .eq 9, 3) := by decide +kernel
theorem d_M_twos_56 : decode b_M_twos 56 = .ok (.ldc2_w 131, 3) := by decide +kernel
theorem d_M_twos_59 : decode b_M_twos 59 = .ok (.goto 104, 3) := by decide +kernel
theorem d_M_twos_62 : decode b_M_twos 62 = .ok (.aload_n 0, 1) := by decide +kernel
theorem d_M_twos_63 : decode b_M_twos 63 = .ok (.getfield 89, 3) := by decide +kernel
theorem d_M_twos_66 : decode b_M_twos 66 = .ok (.ifCond .ne 9, 3) := by decide +kernel
theorem d_M_twos_69 : decode b_M_twos 69 = .ok (.ldc2_w 133, 3) := by decide +kernel
theorem d_M_twos_72 : decode b_M_twos 72 = .ok (.goto 91, 3) := by decide +kernel
theorem d_M_twos_75 : decode b_M_twos 75 = .ok (.aload_n 0, 1) := by decide +kernel
theorem d_M_twos_76 : decode b_M_twos 76 = .ok (.getfield 89, 3) := by decide +kernel
theorem d_M_twos_79 : decode b_M_twos 79 = .ok (.iconst 1, 1) := by decide +kernel
theorem d_M_twos_80 : decode b_M_twos 80 = .ok (.if_icmp .ne 9, 3) := by decide +kernel
theorem d_M_twos_83 : decode b_M_twos 83 = .ok (.ldc2_w 135, 3) := by decide +kernel
theorem d_M_twos_86 : decode b_M_twos 86 = .ok (.goto 77, 3) := by decide +kernel
theorem d_M_twos_89 : decode b_M_twos 89 = .ok (.aload_n 0, 1) := by decide +kernel
theorem d_M_twos_90 : decode b_M_twos 90 = .ok (.getfield 89, 3) := by decide +kernel
theorem d_M_twos_93 : decode b_M_twos 93 = .ok (.iconst 2, 1) := by decide +kernel
theorem d_M_twos_94 : decode b_M_twos 94 = .ok (.if_icmp .ne 9, 3) := by decide +kernel
theorem d_M_twos_97 : decode b_M_twos 97 = .ok (.ldc2_w 137, 3) := by decide +kernel
theorem d_M_twos_100 : decode b_M_twos 100 = .ok (.goto 63, 3) := by decide +kernel
theorem d_M_twos_103 : decode b_M_twos 103 = .ok (.aload_n 0, 1) := by decide +kernel
theorem d_M_twos_104 : decode b_M_twos 104 = .ok (.getfield 89, 3) := by decide +kernel
theorem d_M_twos_107 : decode b_M_twos 107 = .ok (.iconst 3, 1) := by decide +kernel
theorem d_M_twos_108 : decode b_M_twos 108 = .ok (.if_icmp .ne 9, 3) := by decide +kernel
theorem d_M_twos_111 : decode b_M_twos 111 = .ok (.ldc2_w 139, 3) := by decide +kernel
theorem d_M_twos_114 : decode b_M_twos 114 = .ok (.goto 49, 3) := by decide +kernel
theorem d_M_twos_117 : decode b_M_twos 117 = .ok (.aload_n 0, 1) := by decide +kernel
theorem d_M_twos_118 : decode b_M_twos 118 = .ok (.getfield 89, 3) := by decide +kernel
theorem d_M_twos_121 : decode b_M_twos 121 = .ok (.iconst 4, 1) := by decide +kernel
theorem d_M_twos_122 : decode b_M_twos 122 = .ok (.if_icmp .ne 9, 3) := by decide +kernel
theorem d_M_twos_125 : decode b_M_twos 125 = .ok (.ldc2_w 141, 3) := by decide +kernel
theorem d_M_twos_128 : decode b_M_twos 128 = .ok (.goto 35, 3) := by decide +kernel
theorem d_M_twos_131 : decode b_M_twos 131 = .ok (.aload_n 0, 1) := by decide +kernel
theorem d_M_twos_132 : decode b_M_twos 132 = .ok (.getfield 89, 3) := by decide +kernel
theorem d_M_twos_135 : decode b_M_twos 135 = .ok (.iconst 5, 1) := by decide +kernel
theorem d_M_twos_136 : decode b_M_twos 136 = .ok (.if_icmp .ne 9, 3) := by decide +kernel
theorem d_M_twos_139 : decode b_M_twos 139 = .ok (.ldc2_w 143, 3) := by decide +kernel
theorem d_M_twos_142 : decode b_M_twos 142 = .ok (.goto 21, 3) := by decide +kernel
theorem d_M_twos_145 : decode b_M_twos 145 = .ok (.aload_n 0, 1) := by decide +kernel
theorem d_M_twos_146 : decode b_M_twos 146 = .ok (.getfield 89, 3) := by decide +kernel
theorem d_M_twos_149 : decode b_M_twos 149 = .ok (.bipush 6, 2) := by decide +kernel
theorem d_M_twos_151 : decode b_M_twos 151 = .ok (.if_icmp .ne 9, 3) := by decide +kernel
theorem d_M_twos_154 : decode b_M_twos 154 = .ok (.ldc2_w 145, 3) := by decide +kernel
theorem d_M_twos_157 : decode b_M_twos 157 = .ok (.goto 6, 3) := by decide +kernel
theorem d_M_twos_160 : decode b_M_twos 160 = .ok (.ldc2_w 147, 3) := by decide +kernel
theorem d_M_twos_163 : decode b_M_twos 163 = .ok (.invokevirtual 74, 3) := by decide +kernel
theorem d_M_twos_166 : decode b_M_twos 166 = .ok (.aload_n 0, 1) := by decide +kernel
theorem d_M_twos_167 : decode b_M_twos 167 = .ok (.aload_n 0, 1) := by decide +kernel
theorem d_M_twos_168 : decode b_M_twos 168 = .ok (.getfield 77, 3) := by decide +kernel
theorem d_M_twos_171 : decode b_M_twos 171 = .ok (.invokevirtual 80, 3) := by decide +kernel
theorem d_M_twos_174 : decode b_M_twos 174 = .ok (.aload_n 0, 1) := by decide +kernel
theorem d_M_twos_175 : decode b_M_twos 175 = .ok (.aload_n 0, 1) := by decide +kernel
theorem d_M_twos_176 : decode b_M_twos 176 = .ok (.getfield 83, 3) := by decide +kernel
theorem d_M_twos_179 : decode b_M_twos 179 = .ok (.invokevirtual 80, 3) := by decide +kernel
theorem d_M_twos_182 : decode b_M_twos 182 = .ok (.aload_n 0, 1) := by decide +kernel
theorem d_M_twos_183 : decode b_M_twos 183 = .ok (.iload_n 2, 1) := by decide +kernel
theorem d_M_twos_184 : decode b_M_twos 184 = .ok (.ifCond .eq 10, 3) := by decide +kernel
theorem d_M_twos_187 : decode b_M_twos 187 = .ok (.aload_n 0, 1) := by decide +kernel
theorem d_M_twos_188 : decode b_M_twos 188 = .ok (.getfield 86, 3) := by decide +kernel
theorem d_M_twos_191 : decode b_M_twos 191 = .ok (.goto 10, 3) := by decide +kernel
theorem d_M_twos_194 : decode b_M_twos 194 = .ok (.aload_n 0, 1) := by decide +kernel
theorem d_M_twos_195 : decode b_M_twos 195 = .ok (.getfield 30, 3) := by decide +kernel
theorem d_M_twos_198 : decode b_M_twos 198 = .ok (.bipush 20, 2) := by decide +kernel
theorem d_M_twos_200 : decode b_M_twos 200 = .ok (.ishr, 1) := by decide +kernel
theorem d_M_twos_201 : decode b_M_twos 201 = .ok (.invokevirtual 68, 3) := by decide +kernel
theorem d_M_twos_204 : decode b_M_twos 204 = .ok (.return_, 1) := by decide +kernel
theorem d_M_immediate_0 : decode b_M_immediate 0 = .ok (.aload_n 0, 1) := by decide +kernel
theorem d_M_immediate_1 : decode b_M_immediate 1 = .ok (.invokevirtual 62, 3) := by decide +kernel
theorem d_M_immediate_4 : decode b_M_immediate 4 = .ok (.aload_n 0, 1) := by decide +kernel
theorem d_M_immediate_5 : decode b_M_immediate 5 = .ok (.iload_n 1, 1) := by decide +kernel
theorem d_M_immediate_6 : decode b_M_immediate 6 = .ok (.invokevirtual 65, 3) := by decide +kernel
theorem d_M_immediate_9 : decode b_M_immediate 9 = .ok (.return_, 1) := by decide +kernel
theorem d_M_number_0 : decode b_M_number 0 = .ok (.iload_n 1, 1) := by decide +kernel
theorem d_M_number_1 : decode b_M_number 1 = .ok (.ifCond .ge 9, 3) := by decide +kernel
theorem d_M_number_4 : decode b_M_number 4 = .ok (.aload_n 0, 1) := by decide +kernel
theorem d_M_number_5 : decode b_M_number 5 = .ok (.bipush 45, 2) := by decide +kernel
theorem d_M_number_7 : decode b_M_number 7 = .ok (.invokevirtual 38, 3) := by decide +kernel
theorem d_M_number_10 : decode b_M_number 10 = .ok (.aload_n 0, 1) := by decide +kernel
theorem d_M_number_11 : decode b_M_number 11 = .ok (.iload_n 1, 1) := by decide +kernel
theorem d_M_number_12 : decode b_M_number 12 = .ok (.ifCond .ge 9, 3) := by decide +kernel
theorem d_M_number_15 : decode b_M_number 15 = .ok (.iload_n 1, 1) := by decide +kernel
theorem d_M_number_16 : decode b_M_number 16 = .ok (.i2l, 1) := by decide +kernel
theorem d_M_number_17 : decode b_M_number 17 = .ok (.lneg, 1) := by decide +kernel
theorem d_M_number_18 : decode b_M_number 18 = .ok (.goto 5, 3) := by decide +kernel
theorem d_M_number_21 : decode b_M_number 21 = .ok (.iload_n 1, 1) := by decide +kernel
theorem d_M_number_22 : decode b_M_number 22 = .ok (.i2l, 1) := by decide +kernel
theorem d_M_number_23 : decode b_M_number 23 = .ok (.invokevirtual 48, 3) := by decide +kernel
theorem d_M_number_26 : decode b_M_number 26 = .ok (.return_, 1) := by decide +kernel
theorem d_M_digits_0 : decode b_M_digits 0 = .ok (.lconst 1, 1) := by decide +kernel
theorem d_M_digits_1 : decode b_M_digits 1 = .ok (.lstore_n 3, 1) := by decide +kernel
theorem d_M_digits_2 : decode b_M_digits 2 = .ok (.lload_n 1, 1) := by decide +kernel
theorem d_M_digits_3 : decode b_M_digits 3 = .ok (.lload_n 3, 1) := by decide +kernel
theorem d_M_digits_4 : decode b_M_digits 4 = .ok (.ldiv, 1) := by decide +kernel
theorem d_M_digits_5 : decode b_M_digits 5 = .ok (.ldc2_w 42, 3) := by decide +kernel
theorem d_M_digits_8 : decode b_M_digits 8 = .ok (.lcmp, 1) := by decide +kernel
theorem d_M_digits_9 : decode b_M_digits 9 = .ok (.ifCond .le 12, 3) := by decide +kernel
theorem d_M_digits_12 : decode b_M_digits 12 = .ok (.ldc2_w 44, 3) := by decide +kernel
theorem d_M_digits_15 : decode b_M_digits 15 = .ok (.lload_n 3, 1) := by decide +kernel
theorem d_M_digits_16 : decode b_M_digits 16 = .ok (.lmul, 1) := by decide +kernel
theorem d_M_digits_17 : decode b_M_digits 17 = .ok (.lstore_n 3, 1) := by decide +kernel
theorem d_M_digits_18 : decode b_M_digits 18 = .ok (.goto (-16), 3) := by decide +kernel
theorem d_M_digits_21 : decode b_M_digits 21 = .ok (.lload_n 3, 1) := by decide +kernel
theorem d_M_digits_22 : decode b_M_digits 22 = .ok (.lstore 5, 2) := by decide +kernel
theorem d_M_digits_24 : decode b_M_digits 24 = .ok (.lload 5, 2) := by decide +kernel
theorem d_M_digits_26 : decode b_M_digits 26 = .ok (.lconst 0, 1) := by decide +kernel
theorem d_M_digits_27 : decode b_M_digits 27 = .ok (.lcmp, 1) := by decide +kernel
theorem d_M_digits_28 : decode b_M_digits 28 = .ok (.ifCond .le 31, 3) := by decide +kernel
theorem d_M_digits_31 : decode b_M_digits 31 = .ok (.aload_n 0, 1) := by decide +kernel
theorem d_M_digits_32 : decode b_M_digits 32 = .ok (.ldc2_w 46, 3) := by decide +kernel
theorem d_M_digits_35 : decode b_M_digits 35 = .ok (.lload_n 1, 1) := by decide +kernel
theorem d_M_digits_36 : decode b_M_digits 36 = .ok (.lload 5, 2) := by decide +kernel
theorem d_M_digits_38 : decode b_M_digits 38 = .ok (.ldiv, 1) := by decide +kernel
theorem d_M_digits_39 : decode b_M_digits 39 = .ok (.ldc2_w 44, 3) := by decide +kernel
theorem d_M_digits_42 : decode b_M_digits 42 = .ok (.lrem, 1) := by decide +kernel
theorem d_M_digits_43 : decode b_M_digits 43 = .ok (.ladd, 1) := by decide +kernel
theorem d_M_digits_44 : decode b_M_digits 44 = .ok (.l2i, 1) := by decide +kernel
theorem d_M_digits_45 : decode b_M_digits 45 = .ok (.invokevirtual 38, 3) := by decide +kernel
theorem d_M_digits_48 : decode b_M_digits 48 = .ok (.lload 5, 2) := by decide +kernel
theorem d_M_digits_50 : decode b_M_digits 50 = .ok (.ldc2_w 44, 3) := by decide +kernel
theorem d_M_digits_53 : decode b_M_digits 53 = .ok (.ldiv, 1) := by decide +kernel
theorem d_M_digits_54 : decode b_M_digits 54 = .ok (.lstore 5, 2) := by decide +kernel
theorem d_M_digits_56 : decode b_M_digits 56 = .ok (.goto (-32), 3) := by decide +kernel
theorem d_M_digits_59 : decode b_M_digits 59 = .ok (.return_, 1) := by decide +kernel
theorem d_M_loads_0 : decode b_M_loads 0 = .ok (.aload_n 0, 1) := by decide +kernel
theorem d_M_loads_1 : decode b_M_loads 1 = .ok (.getfield 89, 3) := by decide +kernel
theorem d_M_loads_4 : decode b_M_loads 4 = .ok (.iconst 3, 1) := by decide +kernel
theorem d_M_loads_5 : decode b_M_loads 5 = .ok (.if_icmp .eq 11, 3) := by decide +kernel
theorem d_M_loads_8 : decode b_M_loads 8 = .ok (.aload_n 0, 1) := by decide +kernel
theorem d_M_loads_9 : decode b_M_loads 9 = .ok (.getfield 89, 3) := by decide +kernel
theorem d_M_loads_12 : decode b_M_loads 12 = .ok (.iconst 5, 1) := by decide +kernel
theorem d_M_loads_13 : decode b_M_loads 13 = .ok (.if_icmp .le 4, 3) := by decide +kernel
theorem d_M_loads_16 : decode b_M_loads 16 = .ok (.return_, 1) := by decide +kernel
theorem d_M_loads_17 : decode b_M_loads 17 = .ok (.aload_n 0, 1) := by decide +kernel
theorem d_M_loads_18 : decode b_M_loads 18 = .ok (.aload_n 0, 1) := by decide +kernel
theorem d_M_loads_19 : decode b_M_loads 19 = .ok (.getfield 89, 3) := by decide +kernel
theorem d_M_loads_22 : decode b_M_loads 22 = .ok (.ifCond .ne 9, 3) := by decide +kernel
theorem d_M_loads_25 : decode b_M_loads 25 = .ok (.ldc2_w 149, 3) := by decide +kernel
theorem d_M_loads_28 : decode b_M_loads 28 = .ok (.goto 48, 3) := by decide +kernel
theorem d_M_loads_31 : decode b_M_loads 31 = .ok (.aload_n 0, 1) := by decide +kernel
theorem d_M_loads_32 : decode b_M_loads 32 = .ok (.getfield 89, 3) := by decide +kernel
theorem d_M_loads_35 : decode b_M_loads 35 = .ok (.iconst 1, 1) := by decide +kernel
theorem d_M_loads_36 : decode b_M_loads 36 = .ok (.if_icmp .ne 9, 3) := by decide +kernel
theorem d_M_loads_39 : decode b_M_loads 39 = .ok (.ldc2_w 151, 3) := by decide +kernel
theorem d_M_loads_42 : decode b_M_loads 42 = .ok (.goto 34, 3) := by decide +kernel
theorem d_M_loads_45 : decode b_M_loads 45 = .ok (.aload_n 0, 1) := by decide +kernel
theorem d_M_loads_46 : decode b_M_loads 46 = .ok (.getfield 89, 3) := by decide +kernel
theorem d_M_loads_49 : decode b_M_loads 49 = .ok (.iconst 2, 1) := by decide +kernel
theorem d_M_loads_50 : decode b_M_loads 50 = .ok (.if_icmp .ne 9, 3) := by decide +kernel
theorem d_M_loads_53 : decode b_M_loads 53 = .ok (.ldc2_w 153, 3) := by decide +kernel
theorem d_M_loads_56 : decode b_M_loads 56 = .ok (.goto 20, 3) := by decide +kernel
theorem d_M_loads_59 : decode b_M_loads 59 = .ok (.aload_n 0, 1) := by decide +kernel
theorem d_M_loads_60 : decode b_M_loads 60 = .ok (.getfield 89, 3) := by decide +kernel
theorem d_M_loads_63 : decode b_M_loads 63 = .ok (.iconst 4, 1) := by decide +kernel
theorem d_M_loads_64 : decode b_M_loads 64 = .ok (.if_icmp .ne 9, 3) := by decide +kernel
theorem d_M_loads_67 : decode b_M_loads 67 = .ok (.ldc2_w 155, 3) := by decide +kernel
theorem d_M_loads_70 : decode b_M_loads 70 = .ok (.goto 6, 3) := by decide +kernel
theorem d_M_loads_73 : decode b_M_loads 73 = .ok (.ldc2_w 157, 3) := by decide +kernel
theorem d_M_loads_76 : decode b_M_loads 76 = .ok (.invokevirtual 74, 3) := by decide +kernel
theorem d_M_loads_79 : decode b_M_loads 79 = .ok (.aload_n 0, 1) := by decide +kernel
theorem d_M_loads_80 : decode b_M_loads 80 = .ok (.aload_n 0, 1) := by decide +kernel
theorem d_M_loads_81 : decode b_M_loads 81 = .ok (.getfield 77, 3) := by decide +kernel
theorem d_M_loads_84 : decode b_M_loads 84 = .ok (.invokevirtual 80, 3) := by decide +kernel
theorem d_M_loads_87 : decode b_M_loads 87 = .ok (.aload_n 0, 1) := by decide +kernel
theorem d_M_loads_88 : decode b_M_loads 88 = .ok (.aload_n 0, 1) := by decide +kernel
theorem d_M_loads_89 : decode b_M_loads 89 = .ok (.getfield 30, 3) := by decide +kernel
theorem d_M_loads_92 : decode b_M_loads 92 = .ok (.bipush 20, 2) := by decide +kernel
theorem d_M_loads_94 : decode b_M_loads 94 = .ok (.ishr, 1) := by decide +kernel
theorem d_M_loads_95 : decode b_M_loads 95 = .ok (.aload_n 0, 1) := by decide +kernel
theorem d_M_loads_96 : decode b_M_loads 96 = .ok (.getfield 83, 3) := by decide +kernel
theorem d_M_loads_99 : decode b_M_loads 99 = .ok (.invokevirtual 159, 3) := by decide +kernel
theorem d_M_loads_102 : decode b_M_loads 102 = .ok (.return_, 1) := by decide +kernel
theorem d_M_memory_0 : decode b_M_memory 0 = .ok (.aload_n 0, 1) := by decide +kernel
theorem d_M_memory_1 : decode b_M_memory 1 = .ok (.iload_n 1, 1) := by decide +kernel
theorem d_M_memory_2 : decode b_M_memory 2 = .ok (.invokevirtual 68, 3) := by decide +kernel
theorem d_M_memory_5 : decode b_M_memory 5 = .ok (.aload_n 0, 1) := by decide +kernel
theorem d_M_memory_6 : decode b_M_memory 6 = .ok (.iload_n 2, 1) := by decide +kernel
theorem d_M_memory_7 : decode b_M_memory 7 = .ok (.invokevirtual 71, 3) := by decide +kernel
theorem d_M_memory_10 : decode b_M_memory 10 = .ok (.return_, 1) := by decide +kernel
theorem d_M_bracket_0 : decode b_M_bracket 0 = .ok (.aload_n 0, 1) := by decide +kernel
theorem d_M_bracket_1 : decode b_M_bracket 1 = .ok (.bipush 40, 2) := by decide +kernel
theorem d_M_bracket_3 : decode b_M_bracket 3 = .ok (.invokevirtual 38, 3) := by decide +kernel
theorem d_M_bracket_6 : decode b_M_bracket 6 = .ok (.aload_n 0, 1) := by decide +kernel
theorem d_M_bracket_7 : decode b_M_bracket 7 = .ok (.aload_n 0, 1) := by decide +kernel
theorem d_M_bracket_8 : decode b_M_bracket 8 = .ok (.getfield 20, 3) := by decide +kernel
theorem d_M_bracket_11 : decode b_M_bracket 11 = .ok (.iload_n 1, 1) := by decide +kernel
theorem d_M_bracket_12 : decode b_M_bracket 12 = .ok (.iaload, 1) := by decide +kernel
theorem d_M_bracket_13 : decode b_M_bracket 13 = .ok (.i2l, 1) := by decide +kernel
theorem d_M_bracket_14 : decode b_M_bracket 14 = .ok (.invokevirtual 59, 3) := by decide +kernel
theorem d_M_bracket_17 : decode b_M_bracket 17 = .ok (.aload_n 0, 1) := by decide +kernel
theorem d_M_bracket_18 : decode b_M_bracket 18 = .ok (.bipush 41, 2) := by decide +kernel
theorem d_M_bracket_20 : decode b_M_bracket 20 = .ok (.invokevirtual 38, 3) := by decide +kernel
theorem d_M_bracket_23 : decode b_M_bracket 23 = .ok (.return_, 1) := by decide +kernel
theorem d_M_stores_0 : decode b_M_stores 0 = .ok (.aload_n 0, 1) := by decide +kernel
theorem d_M_stores_1 : decode b_M_stores 1 = .ok (.getfield 89, 3) := by decide +kernel
theorem d_M_stores_4 : decode b_M_stores 4 = .ok (.iconst 2, 1) := by decide +kernel
theorem d_M_stores_5 : decode b_M_stores 5 = .ok (.if_icmp .le 4, 3) := by decide +kernel
theorem d_M_stores_8 : decode b_M_stores 8 = .ok (.return_, 1) := by decide +kernel
theorem d_M_stores_9 : decode b_M_stores 9 = .ok (.aload_n 0, 1) := by decide +kernel
theorem d_M_stores_10 : decode b_M_stores 10 = .ok (.aload_n 0, 1) := by decide +kernel
theorem d_M_stores_11 : decode b_M_stores 11 = .ok (.getfield 89, 3) := by decide +kernel
theorem d_M_stores_14 : decode b_M_stores 14 = .ok (.ifCond .ne 9, 3) := by decide +kernel
theorem d_M_stores_17 : decode b_M_stores 17 = .ok (.ldc2_w 163, 3) := by decide +kernel
theorem d_M_stores_20 : decode b_M_stores 20 = .ok (.goto 20, 3) := by decide +kernel
theorem d_M_stores_23 : decode b_M_stores 23 = .ok (.aload_n 0, 1) := by decide +kernel
theorem d_M_stores_24 : decode b_M_stores 24 = .ok (.getfield 89, 3) := by decide +kernel
theorem d_M_stores_27 : decode b_M_stores 27 = .ok (.iconst 1, 1) := by decide +kernel
theorem d_M_stores_28 : decode b_M_stores 28 = .ok (.if_icmp .ne 9, 3) := by decide +kernel
theorem d_M_stores_31 : decode b_M_stores 31 = .ok (.ldc2_w 165, 3) := by decide +kernel
theorem d_M_stores_34 : decode b_M_stores 34 = .ok (.goto 6, 3) := by decide +kernel
theorem d_M_stores_37 : decode b_M_stores 37 = .ok (.ldc2_w 167, 3) := by decide +kernel
theorem d_M_stores_40 : decode b_M_stores 40 = .ok (.invokevirtual 74, 3) := by decide +kernel
theorem d_M_stores_43 : decode b_M_stores 43 = .ok (.aload_n 0, 1) := by decide +kernel
theorem d_M_stores_44 : decode b_M_stores 44 = .ok (.aload_n 0, 1) := by decide +kernel
theorem d_M_stores_45 : decode b_M_stores 45 = .ok (.getfield 86, 3) := by decide +kernel
theorem d_M_stores_48 : decode b_M_stores 48 = .ok (.invokevirtual 80, 3) := by decide +kernel
theorem d_M_stores_51 : decode b_M_stores 51 = .ok (.aload_n 0, 1) := by decide +kernel
theorem d_M_stores_52 : decode b_M_stores 52 = .ok (.aload_n 0, 1) := by decide +kernel
theorem d_M_stores_53 : decode b_M_stores 53 = .ok (.getfield 30, 3) := by decide +kernel
theorem d_M_stores_56 : decode b_M_stores 56 = .ok (.bipush 25, 2) := by decide +kernel
theorem d_M_stores_58 : decode b_M_stores 58 = .ok (.ishr, 1) := by decide +kernel
theorem d_M_stores_59 : decode b_M_stores 59 = .ok (.iconst 5, 1) := by decide +kernel
theorem d_M_stores_60 : decode b_M_stores 60 = .ok (.ishl, 1) := by decide +kernel
theorem d_M_stores_61 : decode b_M_stores 61 = .ok (.aload_n 0, 1) := by decide +kernel
theorem d_M_stores_62 : decode b_M_stores 62 = .ok (.getfield 77, 3) := by decide +kernel
theorem d_M_stores_65 : decode b_M_stores 65 = .ok (.ior, 1) := by decide +kernel
theorem d_M_stores_66 : decode b_M_stores 66 = .ok (.aload_n 0, 1) := by decide +kernel
theorem d_M_stores_67 : decode b_M_stores 67 = .ok (.getfield 83, 3) := by decide +kernel
theorem d_M_stores_70 : decode b_M_stores 70 = .ok (.invokevirtual 159, 3) := by decide +kernel
theorem d_M_stores_73 : decode b_M_stores 73 = .ok (.return_, 1) := by decide +kernel
theorem d_M_branches_0 : decode b_M_branches 0 = .ok (.aload_n 0, 1) := by decide +kernel
theorem d_M_branches_1 : decode b_M_branches 1 = .ok (.getfield 89, 3) := by decide +kernel
theorem d_M_branches_4 : decode b_M_branches 4 = .ok (.iconst 2, 1) := by decide +kernel
theorem d_M_branches_5 : decode b_M_branches 5 = .ok (.if_icmp .eq 11, 3) := by decide +kernel
theorem d_M_branches_8 : decode b_M_branches 8 = .ok (.aload_n 0, 1) := by decide +kernel
theorem d_M_branches_9 : decode b_M_branches 9 = .ok (.getfield 89, 3) := by decide +kernel
theorem d_M_branches_12 : decode b_M_branches 12 = .ok (.iconst 3, 1) := by decide +kernel
theorem d_M_branches_13 : decode b_M_branches 13 = .ok (.if_icmp .ne 4, 3) := by decide +kernel
theorem d_M_branches_16 : decode b_M_branches 16 = .ok (.return_, 1) := by decide +kernel
theorem d_M_branches_17 : decode b_M_branches 17 = .ok (.aload_n 0, 1) := by decide +kernel
theorem d_M_branches_18 : decode b_M_branches 18 = .ok (.aload_n 0, 1) := by decide +kernel
theorem d_M_branches_19 : decode b_M_branches 19 = .ok (.getfield 89, 3) := by decide +kernel
theorem d_M_branches_22 : decode b_M_branches 22 = .ok (.ifCond .ne 9, 3) := by decide +kernel
theorem d_M_branches_25 : decode b_M_branches 25 = .ok (.ldc2_w 169, 3) := by decide +kernel
theorem d_M_branches_28 : decode b_M_branches 28 = .ok (.goto 63, 3) := by decide +kernel
theorem d_M_branches_31 : decode b_M_branches 31 = .ok (.aload_n 0, 1) := by decide +kernel
theorem d_M_branches_32 : decode b_M_branches 32 = .ok (.getfield 89, 3) := by decide +kernel
theorem d_M_branches_35 : decode b_M_branches 35 = .ok (.iconst 1, 1) := by decide +kernel
theorem d_M_branches_36 : decode b_M_branches 36 = .ok (.if_icmp .ne 9, 3) := by decide +kernel
theorem d_M_branches_39 : decode b_M_branches 39 = .ok (.ldc2_w 171, 3) := by decide +kernel
theorem d_M_branches_42 : decode b_M_branches 42 = .ok (.goto 49, 3) := by decide +kernel
theorem d_M_branches_45 : decode b_M_branches 45 = .ok (.aload_n 0, 1) := by decide +kernel
theorem d_M_branches_46 : decode b_M_branches 46 = .ok (.getfield 89, 3) := by decide +kernel
theorem d_M_branches_49 : decode b_M_branches 49 = .ok (.iconst 4, 1) := by decide +kernel
theorem d_M_branches_50 : decode b_M_branches 50 = .ok (.if_icmp .ne 9, 3) := by decide +kernel
theorem d_M_branches_53 : decode b_M_branches 53 = .ok (.ldc2_w 173, 3) := by decide +kernel
theorem d_M_branches_56 : decode b_M_branches 56 = .ok (.goto 35, 3) := by decide +kernel
theorem d_M_branches_59 : decode b_M_branches 59 = .ok (.aload_n 0, 1) := by decide +kernel
theorem d_M_branches_60 : decode b_M_branches 60 = .ok (.getfield 89, 3) := by decide +kernel
theorem d_M_branches_63 : decode b_M_branches 63 = .ok (.iconst 5, 1) := by decide +kernel
theorem d_M_branches_64 : decode b_M_branches 64 = .ok (.if_icmp .ne 9, 3) := by decide +kernel
theorem d_M_branches_67 : decode b_M_branches 67 = .ok (.ldc2_w 175, 3) := by decide +kernel
theorem d_M_branches_70 : decode b_M_branches 70 = .ok (.goto 21, 3) := by decide +kernel
theorem d_M_branches_73 : decode b_M_branches 73 = .ok (.aload_n 0, 1) := by decide +kernel
theorem d_M_branches_74 : decode b_M_branches 74 = .ok (.getfield 89, 3) := by decide +kernel
theorem d_M_branches_77 : decode b_M_branches 77 = .ok (.bipush 6, 2) := by decide +kernel
theorem d_M_branches_79 : decode b_M_branches 79 = .ok (.if_icmp .ne 9, 3) := by decide +kernel
theorem d_M_branches_82 : decode b_M_branches 82 = .ok (.ldc2_w 177, 3) := by decide +kernel
theorem d_M_branches_85 : decode b_M_branches 85 = .ok (.goto 6, 3) := by decide +kernel
theorem d_M_branches_88 : decode b_M_branches 88 = .ok (.ldc2_w 179, 3) := by decide +kernel
theorem d_M_branches_91 : decode b_M_branches 91 = .ok (.invokevirtual 74, 3) := by decide +kernel
theorem d_M_branches_94 : decode b_M_branches 94 = .ok (.aload_n 0, 1) := by decide +kernel
theorem d_M_branches_95 : decode b_M_branches 95 = .ok (.aload_n 0, 1) := by decide +kernel
theorem d_M_branches_96 : decode b_M_branches 96 = .ok (.getfield 83, 3) := by decide +kernel
theorem d_M_branches_99 : decode b_M_branches 99 = .ok (.invokevirtual 80, 3) := by decide +kernel
theorem d_M_branches_102 : decode b_M_branches 102 = .ok (.aload_n 0, 1) := by decide +kernel
theorem d_M_branches_103 : decode b_M_branches 103 = .ok (.aload_n 0, 1) := by decide +kernel
theorem d_M_branches_104 : decode b_M_branches 104 = .ok (.getfield 86, 3) := by decide +kernel
theorem d_M_branches_107 : decode b_M_branches 107 = .ok (.invokevirtual 80, 3) := by decide +kernel
theorem d_M_branches_110 : decode b_M_branches 110 = .ok (.aload_n 0, 1) := by decide +kernel
theorem d_M_branches_111 : decode b_M_branches 111 = .ok (.aload_n 0, 1) := by decide +kernel
theorem d_M_branches_112 : decode b_M_branches 112 = .ok (.getfield 30, 3) := by decide +kernel
theorem d_M_branches_115 : decode b_M_branches 115 = .ok (.bipush 31, 2) := by decide +kernel
theorem d_M_branches_117 : decode b_M_branches 117 = .ok (.ishr, 1) := by decide +kernel
theorem d_M_branches_118 : decode b_M_branches 118 = .ok (.bipush 12, 2) := by decide +kernel
theorem d_M_branches_120 : decode b_M_branches 120 = .ok (.ishl, 1) := by decide +kernel
theorem d_M_branches_121 : decode b_M_branches 121 = .ok (.aload_n 0, 1) := by decide +kernel
theorem d_M_branches_122 : decode b_M_branches 122 = .ok (.bipush 7, 2) := by decide +kernel
theorem d_M_branches_124 : decode b_M_branches 124 = .ok (.iconst 1, 1) := by decide +kernel
theorem d_M_branches_125 : decode b_M_branches 125 = .ok (.invokevirtual 181, 3) := by decide +kernel
theorem d_M_branches_128 : decode b_M_branches 128 = .ok (.bipush 11, 2) := by decide +kernel
theorem d_M_branches_130 : decode b_M_branches 130 = .ok (.ishl, 1) := by decide +kernel
theorem d_M_branches_131 : decode b_M_branches 131 = .ok (.ior, 1) := by decide +kernel
theorem d_M_branches_132 : decode b_M_branches 132 = .ok (.aload_n 0, 1) := by decide +kernel
theorem d_M_branches_133 : decode b_M_branches 133 = .ok (.bipush 25, 2) := by decide +kernel
theorem d_M_branches_135 : decode b_M_branches 135 = .ok (.bipush 6, 2) := by decide +kernel
theorem d_M_branches_137 : decode b_M_branches 137 = .ok (.invokevirtual 181, 3) := by decide +kernel
theorem d_M_branches_140 : decode b_M_branches 140 = .ok (.iconst 5, 1) := by decide +kernel
theorem d_M_branches_141 : decode b_M_branches 141 = .ok (.ishl, 1) := by decide +kernel
theorem d_M_branches_142 : decode b_M_branches 142 = .ok (.ior, 1) := by decide +kernel
theorem d_M_branches_143 : decode b_M_branches 143 = .ok (.aload_n 0, 1) := by decide +kernel
theorem d_M_branches_144 : decode b_M_branches 144 = .ok (.bipush 8, 2) := by decide +kernel
theorem d_M_branches_146 : decode b_M_branches 146 = .ok (.iconst 4, 1) := by decide +kernel
theorem d_M_branches_147 : decode b_M_branches 147 = .ok (.invokevirtual 181, 3) := by decide +kernel
theorem d_M_branches_150 : decode b_M_branches 150 = .ok (.iconst 1, 1) := by decide +kernel
theorem d_M_branches_151 : decode b_M_branches 151 = .ok (.ishl, 1) := by decide +kernel
theorem d_M_branches_152 : decode b_M_branches 152 = .ok (.ior, 1) := by decide +kernel
theorem d_M_branches_153 : decode b_M_branches 153 = .ok (.invokevirtual 185, 3) := by decide +kernel
theorem d_M_branches_156 : decode b_M_branches 156 = .ok (.return_, 1) := by decide +kernel
theorem d_M_target_0 : decode b_M_target 0 = .ok (.aload_n 0, 1) := by decide +kernel
theorem d_M_target_1 : decode b_M_target 1 = .ok (.invokevirtual 62, 3) := by decide +kernel
theorem d_M_target_4 : decode b_M_target 4 = .ok (.aload_n 0, 1) := by decide +kernel
theorem d_M_target_5 : decode b_M_target 5 = .ok (.bipush 46, 2) := by decide +kernel
theorem d_M_target_7 : decode b_M_target 7 = .ok (.invokevirtual 38, 3) := by decide +kernel
theorem d_M_target_10 : decode b_M_target 10 = .ok (.iload_n 1, 1) := by decide +kernel
theorem d_M_target_11 : decode b_M_target 11 = .ok (.ifCond .lt 9, 3) := by decide +kernel
theorem d_M_target_14 : decode b_M_target 14 = .ok (.aload_n 0, 1) := by decide +kernel
theorem d_M_target_15 : decode b_M_target 15 = .ok (.bipush 43, 2) := by decide +kernel
end
section
theorem d_M_target_17 : decode b_M_target 17 = .ok (.invokevirtual 38, 3) := by decide +kernel
theorem d_M_target_20 : decode b_M_target 20 = .ok (.aload_n 0, 1) := by decide +kernel
theorem d_M_target_21 : decode b_M_target 21 = .ok (.iload_n 1, 1) := by decide +kernel
theorem d_M_target_22 : decode b_M_target 22 = .ok (.invokevirtual 65, 3) := by decide +kernel
theorem d_M_target_25 : decode b_M_target 25 = .ok (.return_, 1) := by decide +kernel
theorem d_M_atomic_0 : decode b_M_atomic 0 = .ok (.aload_n 0, 1) := by decide +kernel
theorem d_M_atomic_1 : decode b_M_atomic 1 = .ok (.getfield 89, 3) := by decide +kernel
theorem d_M_atomic_4 : decode b_M_atomic 4 = .ok (.iconst 2, 1) := by decide +kernel
theorem d_M_atomic_5 : decode b_M_atomic 5 = .ok (.if_icmp .ne 15, 3) := by decide +kernel
theorem d_M_atomic_8 : decode b_M_atomic 8 = .ok (.iload_n 1, 1) := by decide +kernel
theorem d_M_atomic_9 : decode b_M_atomic 9 = .ok (.iconst 2, 1) := by decide +kernel
theorem d_M_atomic_10 : decode b_M_atomic 10 = .ok (.if_icmp .ne 11, 3) := by decide +kernel
theorem d_M_atomic_13 : decode b_M_atomic 13 = .ok (.aload_n 0, 1) := by decide +kernel
theorem d_M_atomic_14 : decode b_M_atomic 14 = .ok (.getfield 86, 3) := by decide +kernel
theorem d_M_atomic_17 : decode b_M_atomic 17 = .ok (.ifCond .eq 4, 3) := by decide +kernel
theorem d_M_atomic_20 : decode b_M_atomic 20 = .ok (.return_, 1) := by decide +kernel
theorem d_M_atomic_21 : decode b_M_atomic 21 = .ok (.iload_n 1, 1) := by decide +kernel
theorem d_M_atomic_22 : decode b_M_atomic 22 = .ok (.iconst 1, 1) := by decide +kernel
theorem d_M_atomic_23 : decode b_M_atomic 23 = .ok (.if_icmp .ne 7, 3) := by decide +kernel
theorem d_M_atomic_26 : decode b_M_atomic 26 = .ok (.iconst 1, 1) := by decide +kernel
theorem d_M_atomic_27 : decode b_M_atomic 27 = .ok (.goto 4, 3) := by decide +kernel
theorem d_M_atomic_30 : decode b_M_atomic 30 = .ok (.iconst 0, 1) := by decide +kernel
theorem d_M_atomic_31 : decode b_M_atomic 31 = .ok (.istore_n 2, 1) := by decide +kernel
theorem d_M_atomic_32 : decode b_M_atomic 32 = .ok (.iload_n 1, 1) := by decide +kernel
theorem d_M_atomic_33 : decode b_M_atomic 33 = .ok (.bipush 16, 2) := by decide +kernel
theorem d_M_atomic_35 : decode b_M_atomic 35 = .ok (.if_icmp .lt 13, 3) := by decide +kernel
theorem d_M_atomic_38 : decode b_M_atomic 38 = .ok (.iload_n 1, 1) := by decide +kernel
theorem d_M_atomic_39 : decode b_M_atomic 39 = .ok (.iconst 4, 1) := by decide +kernel
theorem d_M_atomic_40 : decode b_M_atomic 40 = .ok (.irem, 1) := by decide +kernel
theorem d_M_atomic_41 : decode b_M_atomic 41 = .ok (.ifCond .ne 7, 3) := by decide +kernel
theorem d_M_atomic_44 : decode b_M_atomic 44 = .ok (.iconst 1, 1) := by decide +kernel
theorem d_M_atomic_45 : decode b_M_atomic 45 = .ok (.goto 4, 3) := by decide +kernel
theorem d_M_atomic_48 : decode b_M_atomic 48 = .ok (.iconst 0, 1) := by decide +kernel
theorem d_M_atomic_49 : decode b_M_atomic 49 = .ok (.istore_n 3, 1) := by decide +kernel
theorem d_M_atomic_50 : decode b_M_atomic 50 = .ok (.iload_n 1, 1) := by decide +kernel
theorem d_M_atomic_51 : decode b_M_atomic 51 = .ok (.iconst 5, 1) := by decide +kernel
theorem d_M_atomic_52 : decode b_M_atomic 52 = .ok (.if_icmp .lt 19, 3) := by decide +kernel
theorem d_M_atomic_55 : decode b_M_atomic 55 = .ok (.iload_n 1, 1) := by decide +kernel
theorem d_M_atomic_56 : decode b_M_atomic 56 = .ok (.bipush 8, 2) := by decide +kernel
theorem d_M_atomic_58 : decode b_M_atomic 58 = .ok (.if_icmp .eq 13, 3) := by decide +kernel
theorem d_M_atomic_61 : decode b_M_atomic 61 = .ok (.iload_n 1, 1) := by decide +kernel
theorem d_M_atomic_62 : decode b_M_atomic 62 = .ok (.bipush 12, 2) := by decide +kernel
theorem d_M_atomic_64 : decode b_M_atomic 64 = .ok (.if_icmp .eq 7, 3) := by decide +kernel
theorem d_M_atomic_67 : decode b_M_atomic 67 = .ok (.iload_n 3, 1) := by decide +kernel
theorem d_M_atomic_68 : decode b_M_atomic 68 = .ok (.ifCond .eq 7, 3) := by decide +kernel
theorem d_M_atomic_71 : decode b_M_atomic 71 = .ok (.iconst 1, 1) := by decide +kernel
theorem d_M_atomic_72 : decode b_M_atomic 72 = .ok (.goto 4, 3) := by decide +kernel
theorem d_M_atomic_75 : decode b_M_atomic 75 = .ok (.iconst 0, 1) := by decide +kernel
theorem d_M_atomic_76 : decode b_M_atomic 76 = .ok (.istore 4, 2) := by decide +kernel
theorem d_M_atomic_78 : decode b_M_atomic 78 = .ok (.iload 4, 2) := by decide +kernel
theorem d_M_atomic_80 : decode b_M_atomic 80 = .ok (.ifCond .ne 4, 3) := by decide +kernel
theorem d_M_atomic_83 : decode b_M_atomic 83 = .ok (.return_, 1) := by decide +kernel
theorem d_M_atomic_84 : decode b_M_atomic 84 = .ok (.aload_n 0, 1) := by decide +kernel
theorem d_M_atomic_85 : decode b_M_atomic 85 = .ok (.iload_n 1, 1) := by decide +kernel
theorem d_M_atomic_86 : decode b_M_atomic 86 = .ok (.iconst 2, 1) := by decide +kernel
theorem d_M_atomic_87 : decode b_M_atomic 87 = .ok (.if_icmp .ne 9, 3) := by decide +kernel
theorem d_M_atomic_90 : decode b_M_atomic 90 = .ok (.ldc2_w 188, 3) := by decide +kernel
theorem d_M_atomic_93 : decode b_M_atomic 93 = .ok (.goto 17, 3) := by decide +kernel
theorem d_M_atomic_96 : decode b_M_atomic 96 = .ok (.iload_n 1, 1) := by decide +kernel
theorem d_M_atomic_97 : decode b_M_atomic 97 = .ok (.iconst 3, 1) := by decide +kernel
theorem d_M_atomic_98 : decode b_M_atomic 98 = .ok (.if_icmp .ne 9, 3) := by decide +kernel
theorem d_M_atomic_101 : decode b_M_atomic 101 = .ok (.ldc2_w 190, 3) := by decide +kernel
theorem d_M_atomic_104 : decode b_M_atomic 104 = .ok (.goto 6, 3) := by decide +kernel
theorem d_M_atomic_107 : decode b_M_atomic 107 = .ok (.ldc2_w 192, 3) := by decide +kernel
theorem d_M_atomic_110 : decode b_M_atomic 110 = .ok (.invokevirtual 74, 3) := by decide +kernel
theorem d_M_atomic_113 : decode b_M_atomic 113 = .ok (.aload_n 0, 1) := by decide +kernel
theorem d_M_atomic_114 : decode b_M_atomic 114 = .ok (.iconst 0, 1) := by decide +kernel
theorem d_M_atomic_115 : decode b_M_atomic 115 = .ok (.putfield 56, 3) := by decide +kernel
theorem d_M_atomic_118 : decode b_M_atomic 118 = .ok (.iload_n 1, 1) := by decide +kernel
theorem d_M_atomic_119 : decode b_M_atomic 119 = .ok (.iconst 2, 1) := by decide +kernel
theorem d_M_atomic_120 : decode b_M_atomic 120 = .ok (.if_icmp .eq 106, 3) := by decide +kernel
theorem d_M_atomic_123 : decode b_M_atomic 123 = .ok (.iload_n 1, 1) := by decide +kernel
theorem d_M_atomic_124 : decode b_M_atomic 124 = .ok (.iconst 3, 1) := by decide +kernel
theorem d_M_atomic_125 : decode b_M_atomic 125 = .ok (.if_icmp .eq 101, 3) := by decide +kernel
theorem d_M_atomic_128 : decode b_M_atomic 128 = .ok (.aload_n 0, 1) := by decide +kernel
theorem d_M_atomic_129 : decode b_M_atomic 129 = .ok (.iload_n 2, 1) := by decide +kernel
theorem d_M_atomic_130 : decode b_M_atomic 130 = .ok (.ifCond .eq 9, 3) := by decide +kernel
theorem d_M_atomic_133 : decode b_M_atomic 133 = .ok (.ldc2_w 194, 3) := by decide +kernel
theorem d_M_atomic_136 : decode b_M_atomic 136 = .ok (.goto 87, 3) := by decide +kernel
theorem d_M_atomic_139 : decode b_M_atomic 139 = .ok (.iload_n 1, 1) := by decide +kernel
theorem d_M_atomic_140 : decode b_M_atomic 140 = .ok (.ifCond .ne 9, 3) := by decide +kernel
theorem d_M_atomic_143 : decode b_M_atomic 143 = .ok (.ldc2_w 92, 3) := by decide +kernel
theorem d_M_atomic_146 : decode b_M_atomic 146 = .ok (.goto 77, 3) := by decide +kernel
theorem d_M_atomic_149 : decode b_M_atomic 149 = .ok (.iload_n 1, 1) := by decide +kernel
theorem d_M_atomic_150 : decode b_M_atomic 150 = .ok (.iconst 4, 1) := by decide +kernel
theorem d_M_atomic_151 : decode b_M_atomic 151 = .ok (.if_icmp .ne 9, 3) := by decide +kernel
theorem d_M_atomic_154 : decode b_M_atomic 154 = .ok (.ldc2_w 100, 3) := by decide +kernel
theorem d_M_atomic_157 : decode b_M_atomic 157 = .ok (.goto 66, 3) := by decide +kernel
theorem d_M_atomic_160 : decode b_M_atomic 160 = .ok (.iload_n 1, 1) := by decide +kernel
theorem d_M_atomic_161 : decode b_M_atomic 161 = .ok (.bipush 12, 2) := by decide +kernel
theorem d_M_atomic_163 : decode b_M_atomic 163 = .ok (.if_icmp .ne 9, 3) := by decide +kernel
theorem d_M_atomic_166 : decode b_M_atomic 166 = .ok (.ldc2_w 106, 3) := by decide +kernel
theorem d_M_atomic_169 : decode b_M_atomic 169 = .ok (.goto 54, 3) := by decide +kernel
theorem d_M_atomic_172 : decode b_M_atomic 172 = .ok (.iload_n 1, 1) := by decide +kernel
theorem d_M_atomic_173 : decode b_M_atomic 173 = .ok (.bipush 8, 2) := by decide +kernel
theorem d_M_atomic_175 : decode b_M_atomic 175 = .ok (.if_icmp .ne 9, 3) := by decide +kernel
theorem d_M_atomic_178 : decode b_M_atomic 178 = .ok (.ldc2_w 104, 3) := by decide +kernel
theorem d_M_atomic_181 : decode b_M_atomic 181 = .ok (.goto 42, 3) := by decide +kernel
theorem d_M_atomic_184 : decode b_M_atomic 184 = .ok (.iload_n 1, 1) := by decide +kernel
theorem d_M_atomic_185 : decode b_M_atomic 185 = .ok (.bipush 16, 2) := by decide +kernel
theorem d_M_atomic_187 : decode b_M_atomic 187 = .ok (.if_icmp .ne 9, 3) := by decide +kernel
theorem d_M_atomic_190 : decode b_M_atomic 190 = .ok (.ldc2_w 196, 3) := by decide +kernel
theorem d_M_atomic_193 : decode b_M_atomic 193 = .ok (.goto 30, 3) := by decide +kernel
theorem d_M_atomic_196 : decode b_M_atomic 196 = .ok (.iload_n 1, 1) := by decide +kernel
theorem d_M_atomic_197 : decode b_M_atomic 197 = .ok (.bipush 20, 2) := by decide +kernel
theorem d_M_atomic_199 : decode b_M_atomic 199 = .ok (.if_icmp .ne 9, 3) := by decide +kernel
theorem d_M_atomic_202 : decode b_M_atomic 202 = .ok (.ldc2_w 198, 3) := by decide +kernel
theorem d_M_atomic_205 : decode b_M_atomic 205 = .ok (.goto 18, 3) := by decide +kernel
theorem d_M_atomic_208 : decode b_M_atomic 208 = .ok (.iload_n 1, 1) := by decide +kernel
theorem d_M_atomic_209 : decode b_M_atomic 209 = .ok (.bipush 24, 2) := by decide +kernel
theorem d_M_atomic_211 : decode b_M_atomic 211 = .ok (.if_icmp .ne 9, 3) := by decide +kernel
theorem d_M_atomic_214 : decode b_M_atomic 214 = .ok (.ldc2_w 200, 3) := by decide +kernel
theorem d_M_atomic_217 : decode b_M_atomic 217 = .ok (.goto 6, 3) := by decide +kernel
theorem d_M_atomic_220 : decode b_M_atomic 220 = .ok (.ldc2_w 202, 3) := by decide +kernel
theorem d_M_atomic_223 : decode b_M_atomic 223 = .ok (.invokevirtual 59, 3) := by decide +kernel
theorem d_M_atomic_226 : decode b_M_atomic 226 = .ok (.aload_n 0, 1) := by decide +kernel
theorem d_M_atomic_227 : decode b_M_atomic 227 = .ok (.ldc2_w 204, 3) := by decide +kernel
theorem d_M_atomic_230 : decode b_M_atomic 230 = .ok (.invokevirtual 59, 3) := by decide +kernel
theorem d_M_atomic_233 : decode b_M_atomic 233 = .ok (.aload_n 0, 1) := by decide +kernel
theorem d_M_atomic_234 : decode b_M_atomic 234 = .ok (.bipush 25, 2) := by decide +kernel
theorem d_M_atomic_236 : decode b_M_atomic 236 = .ok (.iconst 2, 1) := by decide +kernel
theorem d_M_atomic_237 : decode b_M_atomic 237 = .ok (.invokevirtual 181, 3) := by decide +kernel
theorem d_M_atomic_240 : decode b_M_atomic 240 = .ok (.ifCond .eq 44, 3) := by decide +kernel
theorem d_M_atomic_243 : decode b_M_atomic 243 = .ok (.aload_n 0, 1) := by decide +kernel
theorem d_M_atomic_244 : decode b_M_atomic 244 = .ok (.aload_n 0, 1) := by decide +kernel
theorem d_M_atomic_245 : decode b_M_atomic 245 = .ok (.bipush 25, 2) := by decide +kernel
theorem d_M_atomic_247 : decode b_M_atomic 247 = .ok (.iconst 2, 1) := by decide +kernel
theorem d_M_atomic_248 : decode b_M_atomic 248 = .ok (.invokevirtual 181, 3) := by decide +kernel
theorem d_M_atomic_251 : decode b_M_atomic 251 = .ok (.iconst 1, 1) := by decide +kernel
theorem d_M_atomic_252 : decode b_M_atomic 252 = .ok (.if_icmp .ne 9, 3) := by decide +kernel
theorem d_M_atomic_255 : decode b_M_atomic 255 = .ok (.ldc2_w 206, 3) := by decide +kernel
theorem d_M_atomic_258 : decode b_M_atomic 258 = .ok (.goto 23, 3) := by decide +kernel
theorem d_M_atomic_261 : decode b_M_atomic 261 = .ok (.aload_n 0, 1) := by decide +kernel
theorem d_M_atomic_262 : decode b_M_atomic 262 = .ok (.bipush 25, 2) := by decide +kernel
theorem d_M_atomic_264 : decode b_M_atomic 264 = .ok (.iconst 2, 1) := by decide +kernel
theorem d_M_atomic_265 : decode b_M_atomic 265 = .ok (.invokevirtual 181, 3) := by decide +kernel
theorem d_M_atomic_268 : decode b_M_atomic 268 = .ok (.iconst 2, 1) := by decide +kernel
theorem d_M_atomic_269 : decode b_M_atomic 269 = .ok (.if_icmp .ne 9, 3) := by decide +kernel
theorem d_M_atomic_272 : decode b_M_atomic 272 = .ok (.ldc2_w 208, 3) := by decide +kernel
theorem d_M_atomic_275 : decode b_M_atomic 275 = .ok (.goto 6, 3) := by decide +kernel
theorem d_M_atomic_278 : decode b_M_atomic 278 = .ok (.ldc2_w 210, 3) := by decide +kernel
theorem d_M_atomic_281 : decode b_M_atomic 281 = .ok (.invokevirtual 59, 3) := by decide +kernel
theorem d_M_atomic_284 : decode b_M_atomic 284 = .ok (.aload_n 0, 1) := by decide +kernel
theorem d_M_atomic_285 : decode b_M_atomic 285 = .ok (.aload_n 0, 1) := by decide +kernel
theorem d_M_atomic_286 : decode b_M_atomic 286 = .ok (.getfield 77, 3) := by decide +kernel
theorem d_M_atomic_289 : decode b_M_atomic 289 = .ok (.invokevirtual 80, 3) := by decide +kernel
theorem d_M_atomic_292 : decode b_M_atomic 292 = .ok (.iload_n 1, 1) := by decide +kernel
theorem d_M_atomic_293 : decode b_M_atomic 293 = .ok (.iconst 2, 1) := by decide +kernel
theorem d_M_atomic_294 : decode b_M_atomic 294 = .ok (.if_icmp .eq 11, 3) := by decide +kernel
theorem d_M_atomic_297 : decode b_M_atomic 297 = .ok (.aload_n 0, 1) := by decide +kernel
theorem d_M_atomic_298 : decode b_M_atomic 298 = .ok (.aload_n 0, 1) := by decide +kernel
theorem d_M_atomic_299 : decode b_M_atomic 299 = .ok (.getfield 86, 3) := by decide +kernel
theorem d_M_atomic_302 : decode b_M_atomic 302 = .ok (.invokevirtual 80, 3) := by decide +kernel
theorem d_M_atomic_305 : decode b_M_atomic 305 = .ok (.aload_n 0, 1) := by decide +kernel
theorem d_M_atomic_306 : decode b_M_atomic 306 = .ok (.invokevirtual 62, 3) := by decide +kernel
theorem d_M_atomic_309 : decode b_M_atomic 309 = .ok (.aload_n 0, 1) := by decide +kernel
theorem d_M_atomic_310 : decode b_M_atomic 310 = .ok (.aload_n 0, 1) := by decide +kernel
theorem d_M_atomic_311 : decode b_M_atomic 311 = .ok (.getfield 83, 3) := by decide +kernel
theorem d_M_atomic_314 : decode b_M_atomic 314 = .ok (.invokevirtual 71, 3) := by decide +kernel
theorem d_M_atomic_317 : decode b_M_atomic 317 = .ok (.return_, 1) := by decide +kernel
theorem d_M_system_0 : decode b_M_system 0 = .ok (.aload_n 0, 1) := by decide +kernel
theorem d_M_system_1 : decode b_M_system 1 = .ok (.getfield 30, 3) := by decide +kernel
theorem d_M_system_4 : decode b_M_system 4 = .ok (.bipush 115, 2) := by decide +kernel
theorem d_M_system_6 : decode b_M_system 6 = .ok (.if_icmp .eq 12, 3) := by decide +kernel
theorem d_M_system_9 : decode b_M_system 9 = .ok (.aload_n 0, 1) := by decide +kernel
theorem d_M_system_10 : decode b_M_system 10 = .ok (.getfield 30, 3) := by decide +kernel
theorem d_M_system_13 : decode b_M_system 13 = .ok (.ldc 212, 2) := by decide +kernel
theorem d_M_system_15 : decode b_M_system 15 = .ok (.if_icmp .ne 25, 3) := by decide +kernel
theorem d_M_system_18 : decode b_M_system 18 = .ok (.aload_n 0, 1) := by decide +kernel
theorem d_M_system_19 : decode b_M_system 19 = .ok (.aload_n 0, 1) := by decide +kernel
theorem d_M_system_20 : decode b_M_system 20 = .ok (.getfield 30, 3) := by decide +kernel
theorem d_M_system_23 : decode b_M_system 23 = .ok (.bipush 115, 2) := by decide +kernel
theorem d_M_system_25 : decode b_M_system 25 = .ok (.if_icmp .ne 9, 3) := by decide +kernel
theorem d_M_system_28 : decode b_M_system 28 = .ok (.ldc2_w 213, 3) := by decide +kernel
theorem d_M_system_31 : decode b_M_system 31 = .ok (.goto 6, 3) := by decide +kernel
theorem d_M_system_34 : decode b_M_system 34 = .ok (.ldc2_w 215, 3) := by decide +kernel
theorem d_M_system_37 : decode b_M_system 37 = .ok (.invokevirtual 74, 3) := by decide +kernel
theorem d_M_system_40 : decode b_M_system 40 = .ok (.aload_n 0, 1) := by decide +kernel
theorem d_M_system_41 : decode b_M_system 41 = .ok (.bipush 20, 2) := by decide +kernel
theorem d_M_system_43 : decode b_M_system 43 = .ok (.bipush 12, 2) := by decide +kernel
theorem d_M_system_45 : decode b_M_system 45 = .ok (.invokevirtual 181, 3) := by decide +kernel
theorem d_M_system_48 : decode b_M_system 48 = .ok (.istore_n 1, 1) := by decide +kernel
theorem d_M_system_49 : decode b_M_system 49 = .ok (.iload_n 1, 1) := by decide +kernel
theorem d_M_system_50 : decode b_M_system 50 = .ok (.bipush 127, 2) := by decide +kernel
theorem d_M_system_52 : decode b_M_system 52 = .ok (.iand, 1) := by decide +kernel
theorem d_M_system_53 : decode b_M_system 53 = .ok (.istore_n 2, 1) := by decide +kernel
theorem d_M_system_54 : decode b_M_system 54 = .ok (.aload_n 0, 1) := by decide +kernel
theorem d_M_system_55 : decode b_M_system 55 = .ok (.getfield 89, 3) := by decide +kernel
theorem d_M_system_58 : decode b_M_system 58 = .ok (.iconst 2, 1) := by decide +kernel
theorem d_M_system_59 : decode b_M_system 59 = .ok (.if_icmp .ne 33, 3) := by decide +kernel
theorem d_M_system_62 : decode b_M_system 62 = .ok (.aload_n 0, 1) := by decide +kernel
theorem d_M_system_63 : decode b_M_system 63 = .ok (.getfield 83, 3) := by decide +kernel
theorem d_M_system_66 : decode b_M_system 66 = .ok (.ifCond .ne 26, 3) := by decide +kernel
theorem d_M_system_69 : decode b_M_system 69 = .ok (.iload_n 1, 1) := by decide +kernel
theorem d_M_system_70 : decode b_M_system 70 = .ok (.iload_n 2, 1) := by decide +kernel
theorem d_M_system_71 : decode b_M_system 71 = .ok (.isub, 1) := by decide +kernel
theorem d_M_system_72 : decode b_M_system 72 = .ok (.sipush 3072, 3) := by decide +kernel
theorem d_M_system_75 : decode b_M_system 75 = .ok (.if_icmp .eq 12, 3) := by decide +kernel
theorem d_M_system_78 : decode b_M_system 78 = .ok (.iload_n 1, 1) := by decide +kernel
theorem d_M_system_79 : decode b_M_system 79 = .ok (.iload_n 2, 1) := by decide +kernel
theorem d_M_system_80 : decode b_M_system 80 = .ok (.isub, 1) := by decide +kernel
theorem d_M_system_81 : decode b_M_system 81 = .ok (.sipush 3200, 3) := by decide +kernel
theorem d_M_system_84 : decode b_M_system 84 = .ok (.if_icmp .ne 8, 3) := by decide +kernel
theorem d_M_system_87 : decode b_M_system 87 = .ok (.iload_n 2, 1) := by decide +kernel
theorem d_M_system_88 : decode b_M_system 88 = .ok (.iconst 2, 1) := by decide +kernel
theorem d_M_system_89 : decode b_M_system 89 = .ok (.if_icmp .le 4, 3) := by decide +kernel
theorem d_M_system_92 : decode b_M_system 92 = .ok (.return_, 1) := by decide +kernel
theorem d_M_system_93 : decode b_M_system 93 = .ok (.aload_n 0, 1) := by decide +kernel
theorem d_M_system_94 : decode b_M_system 94 = .ok (.ldc2_w 217, 3) := by decide +kernel
theorem d_M_system_97 : decode b_M_system 97 = .ok (.invokevirtual 74, 3) := by decide +kernel
theorem d_M_system_100 : decode b_M_system 100 = .ok (.aload_n 0, 1) := by decide +kernel
theorem d_M_system_101 : decode b_M_system 101 = .ok (.iload_n 2, 1) := by decide +kernel
theorem d_M_system_102 : decode b_M_system 102 = .ok (.ifCond .ne 9, 3) := by decide +kernel
theorem d_M_system_105 : decode b_M_system 105 = .ok (.ldc2_w 219, 3) := by decide +kernel
theorem d_M_system_108 : decode b_M_system 108 = .ok (.goto 17, 3) := by decide +kernel
theorem d_M_system_111 : decode b_M_system 111 = .ok (.iload_n 2, 1) := by decide +kernel
theorem d_M_system_112 : decode b_M_system 112 = .ok (.iconst 1, 1) := by decide +kernel
theorem d_M_system_113 : decode b_M_system 113 = .ok (.if_icmp .ne 9, 3) := by decide +kernel
theorem d_M_system_116 : decode b_M_system 116 = .ok (.ldc2_w 221, 3) := by decide +kernel
theorem d_M_system_119 : decode b_M_system 119 = .ok (.goto 6, 3) := by decide +kernel
theorem d_M_system_122 : decode b_M_system 122 = .ok (.ldc2_w 223, 3) := by decide +kernel
theorem d_M_system_125 : decode b_M_system 125 = .ok (.invokevirtual 59, 3) := by decide +kernel
theorem d_M_system_128 : decode b_M_system 128 = .ok (.iload_n 1, 1) := by decide +kernel
theorem d_M_system_129 : decode b_M_system 129 = .ok (.sipush 3200, 3) := by decide +kernel
theorem d_M_system_132 : decode b_M_system 132 = .ok (.if_icmp .lt 9, 3) := by decide +kernel
theorem d_M_system_135 : decode b_M_system 135 = .ok (.aload_n 0, 1) := by decide +kernel
theorem d_M_system_136 : decode b_M_system 136 = .ok (.bipush 104, 2) := by decide +kernel
theorem d_M_system_138 : decode b_M_system 138 = .ok (.invokevirtual 38, 3) := by decide +kernel
theorem d_M_system_141 : decode b_M_system 141 = .ok (.aload_n 0, 1) := by decide +kernel
theorem d_M_system_142 : decode b_M_system 142 = .ok (.aload_n 0, 1) := by decide +kernel
theorem d_M_system_143 : decode b_M_system 143 = .ok (.getfield 77, 3) := by decide +kernel
theorem d_M_system_146 : decode b_M_system 146 = .ok (.invokevirtual 80, 3) := by decide +kernel
theorem d_M_system_149 : decode b_M_system 149 = .ok (.return_, 1) := by decide +kernel
theorem d_M_others_0 : decode b_M_others 0 = .ok (.aload_n 0, 1) := by decide +kernel
theorem d_M_others_1 : decode b_M_others 1 = .ok (.getfield 30, 3) := by decide +kernel
theorem d_M_others_4 : decode b_M_others 4 = .ok (.bipush 127, 2) := by decide +kernel
theorem d_M_others_6 : decode b_M_others 6 = .ok (.iand, 1) := by decide +kernel
theorem d_M_others_7 : decode b_M_others 7 = .ok (.istore_n 1, 1) := by decide +kernel
theorem d_M_others_8 : decode b_M_others 8 = .ok (.iload_n 1, 1) := by decide +kernel
theorem d_M_others_9 : decode b_M_others 9 = .ok (.bipush 55, 2) := by decide +kernel
theorem d_M_others_11 : decode b_M_others 11 = .ok (.if_icmp .eq 9, 3) := by decide +kernel
theorem d_M_others_14 : decode b_M_others 14 = .ok (.iload_n 1, 1) := by decide +kernel
theorem d_M_others_15 : decode b_M_others 15 = .ok (.bipush 23, 2) := by decide +kernel
theorem d_M_others_17 : decode b_M_others 17 = .ok (.if_icmp .ne 44, 3) := by decide +kernel
theorem d_M_others_20 : decode b_M_others 20 = .ok (.aload_n 0, 1) := by decide +kernel
theorem d_M_others_21 : decode b_M_others 21 = .ok (.iload_n 1, 1) := by decide +kernel
theorem d_M_others_22 : decode b_M_others 22 = .ok (.bipush 55, 2) := by decide +kernel
theorem d_M_others_24 : decode b_M_others 24 = .ok (.if_icmp .ne 9, 3) := by decide +kernel
theorem d_M_others_27 : decode b_M_others 27 = .ok (.ldc2_w 249, 3) := by decide +kernel
theorem d_M_others_30 : decode b_M_others 30 = .ok (.goto 6, 3) := by decide +kernel
theorem d_M_others_33 : decode b_M_others 33 = .ok (.ldc2_w 251, 3) := by decide +kernel
theorem d_M_others_36 : decode b_M_others 36 = .ok (.invokevirtual 74, 3) := by decide +kernel
theorem d_M_others_39 : decode b_M_others 39 = .ok (.aload_n 0, 1) := by decide +kernel
theorem d_M_others_40 : decode b_M_others 40 = .ok (.aload_n 0, 1) := by decide +kernel
theorem d_M_others_41 : decode b_M_others 41 = .ok (.getfield 77, 3) := by decide +kernel
theorem d_M_others_44 : decode b_M_others 44 = .ok (.invokevirtual 80, 3) := by decide +kernel
theorem d_M_others_47 : decode b_M_others 47 = .ok (.aload_n 0, 1) := by decide +kernel
theorem d_M_others_48 : decode b_M_others 48 = .ok (.aload_n 0, 1) := by decide +kernel
theorem d_M_others_49 : decode b_M_others 49 = .ok (.getfield 30, 3) := by decide +kernel
theorem d_M_others_52 : decode b_M_others 52 = .ok (.bipush 12, 2) := by decide +kernel
theorem d_M_others_54 : decode b_M_others 54 = .ok (.iushr, 1) := by decide +kernel
theorem d_M_others_55 : decode b_M_others 55 = .ok (.invokevirtual 68, 3) := by decide +kernel
theorem d_M_others_58 : decode b_M_others 58 = .ok (.goto 158, 3) := by decide +kernel
theorem d_M_others_61 : decode b_M_others 61 = .ok (.iload_n 1, 1) := by decide +kernel
theorem d_M_others_62 : decode b_M_others 62 = .ok (.bipush 103, 2) := by decide +kernel
theorem d_M_others_64 : decode b_M_others 64 = .ok (.if_icmp .ne 43, 3) := by decide +kernel
theorem d_M_others_67 : decode b_M_others 67 = .ok (.aload_n 0, 1) := by decide +kernel
theorem d_M_others_68 : decode b_M_others 68 = .ok (.getfield 89, 3) := by decide +kernel
theorem d_M_others_71 : decode b_M_others 71 = .ok (.ifCond .ne 36, 3) := by decide +kernel
theorem d_M_others_74 : decode b_M_others 74 = .ok (.aload_n 0, 1) := by decide +kernel
theorem d_M_others_75 : decode b_M_others 75 = .ok (.ldc2_w 253, 3) := by decide +kernel
theorem d_M_others_78 : decode b_M_others 78 = .ok (.invokevirtual 74, 3) := by decide +kernel
theorem d_M_others_81 : decode b_M_others 81 = .ok (.aload_n 0, 1) := by decide +kernel
theorem d_M_others_82 : decode b_M_others 82 = .ok (.aload_n 0, 1) := by decide +kernel
theorem d_M_others_83 : decode b_M_others 83 = .ok (.getfield 77, 3) := by decide +kernel
theorem d_M_others_86 : decode b_M_others 86 = .ok (.invokevirtual 80, 3) := by decide +kernel
theorem d_M_others_89 : decode b_M_others 89 = .ok (.aload_n 0, 1) := by decide +kernel
theorem d_M_others_90 : decode b_M_others 90 = .ok (.aload_n 0, 1) := by decide +kernel
theorem d_M_others_91 : decode b_M_others 91 = .ok (.getfield 30, 3) := by decide +kernel
theorem d_M_others_94 : decode b_M_others 94 = .ok (.bipush 20, 2) := by decide +kernel
theorem d_M_others_96 : decode b_M_others 96 = .ok (.ishr, 1) := by decide +kernel
theorem d_M_others_97 : decode b_M_others 97 = .ok (.aload_n 0, 1) := by decide +kernel
theorem d_M_others_98 : decode b_M_others 98 = .ok (.getfield 83, 3) := by decide +kernel
theorem d_M_others_101 : decode b_M_others 101 = .ok (.invokevirtual 159, 3) := by decide +kernel
theorem d_M_others_104 : decode b_M_others 104 = .ok (.goto 112, 3) := by decide +kernel
theorem d_M_others_107 : decode b_M_others 107 = .ok (.iload_n 1, 1) := by decide +kernel
theorem d_M_others_108 : decode b_M_others 108 = .ok (.bipush 111, 2) := by decide +kernel
theorem d_M_others_110 : decode b_M_others 110 = .ok (.if_icmp .ne 69, 3) := by decide +kernel
theorem d_M_others_113 : decode b_M_others 113 = .ok (.aload_n 0, 1) := by decide +kernel
theorem d_M_others_114 : decode b_M_others 114 = .ok (.ldc2_w 255, 3) := by decide +kernel
theorem d_M_others_117 : decode b_M_others 117 = .ok (.invokevirtual 74, 3) := by decide +kernel
theorem d_M_others_120 : decode b_M_others 120 = .ok (.aload_n 0, 1) := by decide +kernel
theorem d_M_others_121 : decode b_M_others 121 = .ok (.aload_n 0, 1) := by decide +kernel
theorem d_M_others_122 : decode b_M_others 122 = .ok (.getfield 77, 3) := by decide +kernel
theorem d_M_others_125 : decode b_M_others 125 = .ok (.invokevirtual 80, 3) := by decide +kernel
theorem d_M_others_128 : decode b_M_others 128 = .ok (.aload_n 0, 1) := by decide +kernel
theorem d_M_others_129 : decode b_M_others 129 = .ok (.aload_n 0, 1) := by decide +kernel
theorem d_M_others_130 : decode b_M_others 130 = .ok (.getfield 30, 3) := by decide +kernel
theorem d_M_others_133 : decode b_M_others 133 = .ok (.bipush 31, 2) := by decide +kernel
theorem d_M_others_135 : decode b_M_others 135 = .ok (.ishr, 1) := by decide +kernel
theorem d_M_others_136 : decode b_M_others 136 = .ok (.bipush 20, 2) := by decide +kernel
theorem d_M_others_138 : decode b_M_others 138 = .ok (.ishl, 1) := by decide +kernel
theorem d_M_others_139 : decode b_M_others 139 = .ok (.aload_n 0, 1) := by decide +kernel
theorem d_M_others_140 : decode b_M_others 140 = .ok (.bipush 12, 2) := by decide +kernel
theorem d_M_others_142 : decode b_M_others 142 = .ok (.bipush 8, 2) := by decide +kernel
theorem d_M_others_144 : decode b_M_others 144 = .ok (.invokevirtual 181, 3) := by decide +kernel
theorem d_M_others_147 : decode b_M_others 147 = .ok (.bipush 12, 2) := by decide +kernel
theorem d_M_others_149 : decode b_M_others 149 = .ok (.ishl, 1) := by decide +kernel
theorem d_M_others_150 : decode b_M_others 150 = .ok (.ior, 1) := by decide +kernel
theorem d_M_others_151 : decode b_M_others 151 = .ok (.aload_n 0, 1) := by decide +kernel
theorem d_M_others_152 : decode b_M_others 152 = .ok (.bipush 20, 2) := by decide +kernel
theorem d_M_others_154 : decode b_M_others 154 = .ok (.iconst 1, 1) := by decide +kernel
theorem d_M_others_155 : decode b_M_others 155 = .ok (.invokevirtual 181, 3) := by decide +kernel
theorem d_M_others_158 : decode b_M_others 158 = .ok (.bipush 11, 2) := by decide +kernel
theorem d_M_others_160 : decode b_M_others 160 = .ok (.ishl, 1) := by decide +kernel
theorem d_M_others_161 : decode b_M_others 161 = .ok (.ior, 1) := by decide +kernel
theorem d_M_others_162 : decode b_M_others 162 = .ok (.aload_n 0, 1) := by decide +kernel
theorem d_M_others_163 : decode b_M_others 163 = .ok (.bipush 21, 2) := by decide +kernel
theorem d_M_others_165 : decode b_M_others 165 = .ok (.bipush 10, 2) := by decide +kernel
theorem d_M_others_167 : decode b_M_others 167 = .ok (.invokevirtual 181, 3) := by decide +kernel
theorem d_M_others_170 : decode b_M_others 170 = .ok (.iconst 1, 1) := by decide +kernel
theorem d_M_others_171 : decode b_M_others 171 = .ok (.ishl, 1) := by decide +kernel
theorem d_M_others_172 : decode b_M_others 172 = .ok (.ior, 1) := by decide +kernel
theorem d_M_others_173 : decode b_M_others 173 = .ok (.invokevirtual 185, 3) := by decide +kernel
theorem d_M_others_176 : decode b_M_others 176 = .ok (.goto 40, 3) := by decide +kernel
theorem d_M_others_179 : decode b_M_others 179 = .ok (.aload_n 0, 1) := by decide +kernel
theorem d_M_others_180 : decode b_M_others 180 = .ok (.getfield 30, 3) := by decide +kernel
theorem d_M_others_183 : decode b_M_others 183 = .ok (.ldc_w 257, 3) := by decide +kernel
theorem d_M_others_186 : decode b_M_others 186 = .ok (.if_icmp .ne 13, 3) := by decide +kernel
theorem d_M_others_189 : decode b_M_others 189 = .ok (.aload_n 0, 1) := by decide +kernel
theorem d_M_others_190 : decode b_M_others 190 = .ok (.ldc2_w 258, 3) := by decide +kernel
theorem d_M_others_193 : decode b_M_others 193 = .ok (.invokevirtual 74, 3) := by decide +kernel
theorem d_M_others_196 : decode b_M_others 196 = .ok (.goto 20, 3) := by decide +kernel
theorem d_M_others_199 : decode b_M_others 199 = .ok (.aload_n 0, 1) := by decide +kernel
theorem d_M_others_200 : decode b_M_others 200 = .ok (.getfield 30, 3) := by decide +kernel
theorem d_M_others_203 : decode b_M_others 203 = .ok (.sipush 4111, 3) := by decide +kernel
theorem d_M_others_206 : decode b_M_others 206 = .ok (.if_icmp .ne 10, 3) := by decide +kernel
theorem d_M_others_209 : decode b_M_others 209 = .ok (.aload_n 0, 1) := by decide +kernel
theorem d_M_others_210 : decode b_M_others 210 = .ok (.ldc2_w 260, 3) := by decide +kernel
theorem d_M_others_213 : decode b_M_others 213 = .ok (.invokevirtual 74, 3) := by decide +kernel
theorem d_M_others_216 : decode b_M_others 216 = .ok (.return_, 1) := by decide +kernel
theorem d_M_first_0 : decode b_M_first 0 = .ok (.bipush 8, 2) := by decide +kernel
theorem d_M_first_2 : decode b_M_first 2 = .ok (.aload_n 0, 1) := by decide +kernel
theorem d_M_first_3 : decode b_M_first 3 = .ok (.iconst 2, 1) := by decide +kernel
theorem d_M_first_4 : decode b_M_first 4 = .ok (.iconst 3, 1) := by decide +kernel
theorem d_M_first_5 : decode b_M_first 5 = .ok (.invokevirtual 181, 3) := by decide +kernel
theorem d_M_first_8 : decode b_M_first 8 = .ok (.iadd, 1) := by decide +kernel
theorem d_M_first_9 : decode b_M_first 9 = .ok (.istore_n 1, 1) := by decide +kernel
theorem d_M_first_10 : decode b_M_first 10 = .ok (.bipush 8, 2) := by decide +kernel
theorem d_M_first_12 : decode b_M_first 12 = .ok (.aload_n 0, 1) := by decide +kernel
theorem d_M_first_13 : decode b_M_first 13 = .ok (.bipush 7, 2) := by decide +kernel
theorem d_M_first_15 : decode b_M_first 15 = .ok (.iconst 3, 1) := by decide +kernel
theorem d_M_first_16 : decode b_M_first 16 = .ok (.invokevirtual 181, 3) := by decide +kernel
theorem d_M_first_19 : decode b_M_first 19 = .ok (.iadd, 1) := by decide +kernel
theorem d_M_first_20 : decode b_M_first 20 = .ok (.istore_n 2, 1) := by decide +kernel
theorem d_M_first_21 : decode b_M_first 21 = .ok (.aload_n 0, 1) := by decide +kernel
theorem d_M_first_22 : decode b_M_first 22 = .ok (.bipush 11, 2) := by decide +kernel
theorem d_M_first_24 : decode b_M_first 24 = .ok (.iconst 2, 1) := by decide +kernel
theorem d_M_first_25 : decode b_M_first 25 = .ok (.invokevirtual 181, 3) := by decide +kernel
theorem d_M_first_28 : decode b_M_first 28 = .ok (.iconst 4, 1) := by decide +kernel
theorem d_M_first_29 : decode b_M_first 29 = .ok (.ishl, 1) := by decide +kernel
theorem d_M_first_30 : decode b_M_first 30 = .ok (.aload_n 0, 1) := by decide +kernel
theorem d_M_first_31 : decode b_M_first 31 = .ok (.bipush 7, 2) := by decide +kernel
theorem d_M_first_33 : decode b_M_first 33 = .ok (.iconst 4, 1) := by decide +kernel
theorem d_M_first_34 : decode b_M_first 34 = .ok (.invokevirtual 181, 3) := by decide +kernel
theorem d_M_first_37 : decode b_M_first 37 = .ok (.bipush 6, 2) := by decide +kernel
theorem d_M_first_39 : decode b_M_first 39 = .ok (.ishl, 1) := by decide +kernel
theorem d_M_first_40 : decode b_M_first 40 = .ok (.ior, 1) := by decide +kernel
theorem d_M_first_41 : decode b_M_first 41 = .ok (.aload_n 0, 1) := by decide +kernel
theorem d_M_first_42 : decode b_M_first 42 = .ok (.bipush 6, 2) := by decide +kernel
theorem d_M_first_44 : decode b_M_first 44 = .ok (.iconst 1, 1) := by decide +kernel
theorem d_M_first_45 : decode b_M_first 45 = .ok (.invokevirtual 181, 3) := by decide +kernel
theorem d_M_first_48 : decode b_M_first 48 = .ok (.iconst 2, 1) := by decide +kernel
theorem d_M_first_49 : decode b_M_first 49 = .ok (.ishl, 1) := by decide +kernel
theorem d_M_first_50 : decode b_M_first 50 = .ok (.ior, 1) := by decide +kernel
theorem d_M_first_51 : decode b_M_first 51 = .ok (.aload_n 0, 1) := by decide +kernel
theorem d_M_first_52 : decode b_M_first 52 = .ok (.iconst 5, 1) := by decide +kernel
theorem d_M_first_53 : decode b_M_first 53 = .ok (.iconst 1, 1) := by decide +kernel
theorem d_M_first_54 : decode b_M_first 54 = .ok (.invokevirtual 181, 3) := by decide +kernel
theorem d_M_first_57 : decode b_M_first 57 = .ok (.iconst 3, 1) := by decide +kernel
theorem d_M_first_58 : decode b_M_first 58 = .ok (.ishl, 1) := by decide +kernel
theorem d_M_first_59 : decode b_M_first 59 = .ok (.ior, 1) := by decide +kernel
theorem d_M_first_60 : decode b_M_first 60 = .ok (.istore_n 3, 1) := by decide +kernel
theorem d_M_first_61 : decode b_M_first 61 = .ok (.aload_n 0, 1) := by decide +kernel
theorem d_M_first_62 : decode b_M_first 62 = .ok (.bipush 10, 2) := by decide +kernel
theorem d_M_first_64 : decode b_M_first 64 = .ok (.iconst 3, 1) := by decide +kernel
theorem d_M_first_65 : decode b_M_first 65 = .ok (.invokevirtual 181, 3) := by decide +kernel
theorem d_M_first_68 : decode b_M_first 68 = .ok (.iconst 3, 1) := by decide +kernel
theorem d_M_first_69 : decode b_M_first 69 = .ok (.ishl, 1) := by decide +kernel
theorem d_M_first_70 : decode b_M_first 70 = .ok (.aload_n 0, 1) := by decide +kernel
theorem d_M_first_71 : decode b_M_first 71 = .ok (.bipush 6, 2) := by decide +kernel
theorem d_M_first_73 : decode b_M_first 73 = .ok (.iconst 1, 1) := by decide +kernel
theorem d_M_first_74 : decode b_M_first 74 = .ok (.invokevirtual 181, 3) := by decide +kernel
theorem d_M_first_77 : decode b_M_first 77 = .ok (.iconst 2, 1) := by decide +kernel
theorem d_M_first_78 : decode b_M_first 78 = .ok (.ishl, 1) := by decide +kernel
theorem d_M_first_79 : decode b_M_first 79 = .ok (.ior, 1) := by decide +kernel
theorem d_M_first_80 : decode b_M_first 80 = .ok (.aload_n 0, 1) := by decide +kernel
theorem d_M_first_81 : decode b_M_first 81 = .ok (.iconst 5, 1) := by decide +kernel
theorem d_M_first_82 : decode b_M_first 82 = .ok (.iconst 1, 1) := by decide +kernel
theorem d_M_first_83 : decode b_M_first 83 = .ok (.invokevirtual 181, 3) := by decide +kernel
theorem d_M_first_86 : decode b_M_first 86 = .ok (.bipush 6, 2) := by decide +kernel
theorem d_M_first_88 : decode b_M_first 88 = .ok (.ishl, 1) := by decide +kernel
theorem d_M_first_89 : decode b_M_first 89 = .ok (.ior, 1) := by decide +kernel
theorem d_M_first_90 : decode b_M_first 90 = .ok (.istore 4, 2) := by decide +kernel
theorem d_M_first_92 : decode b_M_first 92 = .ok (.aload_n 0, 1) := by decide +kernel
theorem d_M_first_93 : decode b_M_first 93 = .ok (.getfield 89, 3) := by decide +kernel
theorem d_M_first_96 : decode b_M_first 96 = .ok (.ifCond .ne 34, 3) := by decide +kernel
theorem d_M_first_99 : decode b_M_first 99 = .ok (.iload_n 3, 1) := by decide +kernel
theorem d_M_first_100 : decode b_M_first 100 = .ok (.ifCond .le 30, 3) := by decide +kernel
theorem d_M_first_103 : decode b_M_first 103 = .ok (.aload_n 0, 1) := by decide +kernel
theorem d_M_first_104 : decode b_M_first 104 = .ok (.ldc2_w 262, 3) := by decide +kernel
theorem d_M_first_107 : decode b_M_first 107 = .ok (.invokevirtual 74, 3) := by decide +kernel
theorem d_M_first_110 : decode b_M_first 110 = .ok (.aload_n 0, 1) := by decide +kernel
theorem d_M_first_111 : decode b_M_first 111 = .ok (.ldc2_w 264, 3) := by decide +kernel
theorem d_M_first_114 : decode b_M_first 114 = .ok (.invokevirtual 59, 3) := by decide +kernel
theorem d_M_first_117 : decode b_M_first 117 = .ok (.aload_n 0, 1) := by decide +kernel
theorem d_M_first_118 : decode b_M_first 118 = .ok (.iload_n 1, 1) := by decide +kernel
theorem d_M_first_119 : decode b_M_first 119 = .ok (.invokevirtual 80, 3) := by decide +kernel
theorem d_M_first_122 : decode b_M_first 122 = .ok (.aload_n 0, 1) := by decide +kernel
theorem d_M_first_123 : decode b_M_first 123 = .ok (.iload_n 3, 1) := by decide +kernel
theorem d_M_first_124 : decode b_M_first 124 = .ok (.invokevirtual 68, 3) := by decide +kernel
theorem d_M_first_127 : decode b_M_first 127 = .ok (.goto 53, 3) := by decide +kernel
theorem d_M_first_130 : decode b_M_first 130 = .ok (.aload_n 0, 1) := by decide +kernel
theorem d_M_first_131 : decode b_M_first 131 = .ok (.getfield 89, 3) := by decide +kernel
theorem d_M_first_134 : decode b_M_first 134 = .ok (.iconst 2, 1) := by decide +kernel
theorem d_M_first_135 : decode b_M_first 135 = .ok (.if_icmp .eq 12, 3) := by decide +kernel
theorem d_M_first_138 : decode b_M_first 138 = .ok (.aload_n 0, 1) := by decide +kernel
theorem d_M_first_139 : decode b_M_first 139 = .ok (.getfield 89, 3) := by decide +kernel
theorem d_M_first_142 : decode b_M_first 142 = .ok (.bipush 6, 2) := by decide +kernel
theorem d_M_first_144 : decode b_M_first 144 = .ok (.if_icmp .ne 36, 3) := by decide +kernel
theorem d_M_first_147 : decode b_M_first 147 = .ok (.aload_n 0, 1) := by decide +kernel
theorem d_M_first_148 : decode b_M_first 148 = .ok (.aload_n 0, 1) := by decide +kernel
theorem d_M_first_149 : decode b_M_first 149 = .ok (.getfield 89, 3) := by decide +kernel
theorem d_M_first_152 : decode b_M_first 152 = .ok (.iconst 2, 1) := by decide +kernel
theorem d_M_first_153 : decode b_M_first 153 = .ok (.if_icmp .ne 9, 3) := by decide +kernel
theorem d_M_first_156 : decode b_M_first 156 = .ok (.ldc2_w 266, 3) := by decide +kernel
theorem d_M_first_159 : decode b_M_first 159 = .ok (.goto 6, 3) := by decide +kernel
theorem d_M_first_162 : decode b_M_first 162 = .ok (.ldc2_w 268, 3) := by decide +kernel
theorem d_M_first_165 : decode b_M_first 165 = .ok (.invokevirtual 74, 3) := by decide +kernel
theorem d_M_first_168 : decode b_M_first 168 = .ok (.aload_n 0, 1) := by decide +kernel
theorem d_M_first_169 : decode b_M_first 169 = .ok (.iload_n 1, 1) := by decide +kernel
theorem d_M_first_170 : decode b_M_first 170 = .ok (.invokevirtual 80, 3) := by decide +kernel
theorem d_M_first_173 : decode b_M_first 173 = .ok (.aload_n 0, 1) := by decide +kernel
theorem d_M_first_174 : decode b_M_first 174 = .ok (.iload 4, 2) := by decide +kernel
theorem d_M_first_176 : decode b_M_first 176 = .ok (.iload_n 2, 1) := by decide +kernel
theorem d_M_first_177 : decode b_M_first 177 = .ok (.invokevirtual 159, 3) := by decide +kernel
theorem d_M_first_180 : decode b_M_first 180 = .ok (.return_, 1) := by decide +kernel
theorem d_M_second_0 : decode b_M_second 0 = .ok (.aload_n 0, 1) := by decide +kernel
theorem d_M_second_1 : decode b_M_second 1 = .ok (.getfield 30, 3) := by decide +kernel
theorem d_M_second_4 : decode b_M_second 4 = .ok (.iconst 1, 1) := by decide +kernel
theorem d_M_second_5 : decode b_M_second 5 = .ok (.if_icmp .ne 13, 3) := by decide +kernel
theorem d_M_second_8 : decode b_M_second 8 = .ok (.aload_n 0, 1) := by decide +kernel
theorem d_M_second_9 : decode b_M_second 9 = .ok (.ldc2_w 294, 3) := by decide +kernel
theorem d_M_second_12 : decode b_M_second 12 = .ok (.invokevirtual 74, 3) := by decide +kernel
theorem d_M_second_15 : decode b_M_second 15 = .ok (.goto 223, 3) := by decide +kernel
theorem d_M_second_18 : decode b_M_second 18 = .ok (.aload_n 0, 1) := by decide +kernel
theorem d_M_second_19 : decode b_M_second 19 = .ok (.getfield 89, 3) := by decide +kernel
theorem d_M_second_22 : decode b_M_second 22 = .ok (.ifCond .eq 11, 3) := by decide +kernel
theorem d_M_second_25 : decode b_M_second 25 = .ok (.aload_n 0, 1) := by decide +kernel
theorem d_M_second_26 : decode b_M_second 26 = .ok (.getfield 89, 3) := by decide +kernel
theorem d_M_second_29 : decode b_M_second 29 = .ok (.iconst 2, 1) := by decide +kernel
theorem d_M_second_30 : decode b_M_second 30 = .ok (.if_icmp .ne 42, 3) := by decide +kernel
theorem d_M_second_33 : decode b_M_second 33 = .ok (.aload_n 0, 1) := by decide +kernel
theorem d_M_second_34 : decode b_M_second 34 = .ok (.aload_n 0, 1) := by decide +kernel
theorem d_M_second_35 : decode b_M_second 35 = .ok (.getfield 89, 3) := by decide +kernel
theorem d_M_second_38 : decode b_M_second 38 = .ok (.ifCond .ne 9, 3) := by decide +kernel
theorem d_M_second_41 : decode b_M_second 41 = .ok (.ldc2_w 296, 3) := by decide +kernel
theorem d_M_second_44 : decode b_M_second 44 = .ok (.goto 6, 3) := by decide +kernel
theorem d_M_second_47 : decode b_M_second 47 = .ok (.ldc2_w 298, 3) := by decide +kernel
theorem d_M_second_50 : decode b_M_second 50 = .ok (.invokevirtual 74, 3) := by decide +kernel
theorem d_M_second_53 : decode b_M_second 53 = .ok (.aload_n 0, 1) := by decide +kernel
theorem d_M_second_54 : decode b_M_second 54 = .ok (.aload_n 0, 1) := by decide +kernel
theorem d_M_second_55 : decode b_M_second 55 = .ok (.getfield 77, 3) := by decide +kernel
theorem d_M_second_58 : decode b_M_second 58 = .ok (.invokevirtual 80, 3) := by decide +kernel
theorem d_M_second_61 : decode b_M_second 61 = .ok (.aload_n 0, 1) := by decide +kernel
theorem d_M_second_62 : decode b_M_second 62 = .ok (.aload_n 0, 1) := by decide +kernel
theorem d_M_second_63 : decode b_M_second 63 = .ok (.invokevirtual 276, 3) := by decide +kernel
theorem d_M_second_66 : decode b_M_second 66 = .ok (.invokevirtual 68, 3) := by decide +kernel
theorem d_M_second_69 : decode b_M_second 69 = .ok (.goto 169, 3) := by decide +kernel
theorem d_M_second_72 : decode b_M_second 72 = .ok (.aload_n 0, 1) := by decide +kernel
theorem d_M_second_73 : decode b_M_second 73 = .ok (.getfield 89, 3) := by decide +kernel
theorem d_M_second_76 : decode b_M_second 76 = .ok (.iconst 1, 1) := by decide +kernel
theorem d_M_second_77 : decode b_M_second 77 = .ok (.if_icmp .eq 11, 3) := by decide +kernel
theorem d_M_second_80 : decode b_M_second 80 = .ok (.aload_n 0, 1) := by decide +kernel
theorem d_M_second_81 : decode b_M_second 81 = .ok (.getfield 89, 3) := by decide +kernel
theorem d_M_second_84 : decode b_M_second 84 = .ok (.iconst 5, 1) := by decide +kernel
theorem d_M_second_85 : decode b_M_second 85 = .ok (.if_icmp .ne 27, 3) := by decide +kernel
theorem d_M_second_88 : decode b_M_second 88 = .ok (.aload_n 0, 1) := by decide +kernel
theorem d_M_second_89 : decode b_M_second 89 = .ok (.aload_n 0, 1) := by decide +kernel
theorem d_M_second_90 : decode b_M_second 90 = .ok (.getfield 89, 3) := by decide +kernel
theorem d_M_second_93 : decode b_M_second 93 = .ok (.iconst 1, 1) := by decide +kernel
theorem d_M_second_94 : decode b_M_second 94 = .ok (.if_icmp .ne 9, 3) := by decide +kernel
theorem d_M_second_97 : decode b_M_second 97 = .ok (.ldc2_w 300, 3) := by decide +kernel
theorem d_M_second_100 : decode b_M_second 100 = .ok (.goto 6, 3) := by decide +kernel
theorem d_M_second_103 : decode b_M_second 103 = .ok (.ldc2_w 302, 3) := by decide +kernel
theorem d_M_second_106 : decode b_M_second 106 = .ok (.invokevirtual 304, 3) := by decide +kernel
theorem d_M_second_109 : decode b_M_second 109 = .ok (.goto 129, 3) := by decide +kernel
theorem d_M_second_112 : decode b_M_second 112 = .ok (.aload_n 0, 1) := by decide +kernel
theorem d_M_second_113 : decode b_M_second 113 = .ok (.getfield 89, 3) := by decide +kernel
theorem d_M_second_116 : decode b_M_second 116 = .ok (.iconst 3, 1) := by decide +kernel
end
section
theorem d_M_second_117 : decode b_M_second 117 = .ok (.if_icmp .ne 10, 3) := by decide +kernel
theorem d_M_second_120 : decode b_M_second 120 = .ok (.aload_n 0, 1) := by decide +kernel
theorem d_M_second_121 : decode b_M_second 121 = .ok (.invokevirtual 307, 3) := by decide +kernel
theorem d_M_second_124 : decode b_M_second 124 = .ok (.goto 114, 3) := by decide +kernel
theorem d_M_second_127 : decode b_M_second 127 = .ok (.aload_n 0, 1) := by decide +kernel
theorem d_M_second_128 : decode b_M_second 128 = .ok (.getfield 89, 3) := by decide +kernel
theorem d_M_second_131 : decode b_M_second 131 = .ok (.iconst 4, 1) := by decide +kernel
theorem d_M_second_132 : decode b_M_second 132 = .ok (.if_icmp .ne 17, 3) := by decide +kernel
theorem d_M_second_135 : decode b_M_second 135 = .ok (.aload_n 0, 1) := by decide +kernel
theorem d_M_second_136 : decode b_M_second 136 = .ok (.aload_n 0, 1) := by decide +kernel
theorem d_M_second_137 : decode b_M_second 137 = .ok (.bipush 10, 2) := by decide +kernel
theorem d_M_second_139 : decode b_M_second 139 = .ok (.iconst 2, 1) := by decide +kernel
theorem d_M_second_140 : decode b_M_second 140 = .ok (.invokevirtual 181, 3) := by decide +kernel
theorem d_M_second_143 : decode b_M_second 143 = .ok (.invokevirtual 310, 3) := by decide +kernel
theorem d_M_second_146 : decode b_M_second 146 = .ok (.goto 92, 3) := by decide +kernel
theorem d_M_second_149 : decode b_M_second 149 = .ok (.aload_n 0, 1) := by decide +kernel
theorem d_M_second_150 : decode b_M_second 150 = .ok (.aload_n 0, 1) := by decide +kernel
theorem d_M_second_151 : decode b_M_second 151 = .ok (.getfield 89, 3) := by decide +kernel
theorem d_M_second_154 : decode b_M_second 154 = .ok (.bipush 6, 2) := by decide +kernel
theorem d_M_second_156 : decode b_M_second 156 = .ok (.if_icmp .ne 9, 3) := by decide +kernel
theorem d_M_second_159 : decode b_M_second 159 = .ok (.ldc2_w 313, 3) := by decide +kernel
theorem d_M_second_162 : decode b_M_second 162 = .ok (.goto 6, 3) := by decide +kernel
theorem d_M_second_165 : decode b_M_second 165 = .ok (.ldc2_w 315, 3) := by decide +kernel
theorem d_M_second_168 : decode b_M_second 168 = .ok (.invokevirtual 74, 3) := by decide +kernel
theorem d_M_second_171 : decode b_M_second 171 = .ok (.aload_n 0, 1) := by decide +kernel
theorem d_M_second_172 : decode b_M_second 172 = .ok (.bipush 8, 2) := by decide +kernel
theorem d_M_second_174 : decode b_M_second 174 = .ok (.aload_n 0, 1) := by decide +kernel
theorem d_M_second_175 : decode b_M_second 175 = .ok (.bipush 7, 2) := by decide +kernel
theorem d_M_second_177 : decode b_M_second 177 = .ok (.iconst 3, 1) := by decide +kernel
theorem d_M_second_178 : decode b_M_second 178 = .ok (.invokevirtual 181, 3) := by decide +kernel
theorem d_M_second_181 : decode b_M_second 181 = .ok (.iadd, 1) := by decide +kernel
theorem d_M_second_182 : decode b_M_second 182 = .ok (.invokevirtual 80, 3) := by decide +kernel
theorem d_M_second_185 : decode b_M_second 185 = .ok (.aload_n 0, 1) := by decide +kernel
theorem d_M_second_186 : decode b_M_second 186 = .ok (.aload_n 0, 1) := by decide +kernel
theorem d_M_second_187 : decode b_M_second 187 = .ok (.iconst 3, 1) := by decide +kernel
theorem d_M_second_188 : decode b_M_second 188 = .ok (.iconst 2, 1) := by decide +kernel
theorem d_M_second_189 : decode b_M_second 189 = .ok (.invokevirtual 181, 3) := by decide +kernel
theorem d_M_second_192 : decode b_M_second 192 = .ok (.iconst 1, 1) := by decide +kernel
theorem d_M_second_193 : decode b_M_second 193 = .ok (.ishl, 1) := by decide +kernel
theorem d_M_second_194 : decode b_M_second 194 = .ok (.aload_n 0, 1) := by decide +kernel
theorem d_M_second_195 : decode b_M_second 195 = .ok (.bipush 10, 2) := by decide +kernel
theorem d_M_second_197 : decode b_M_second 197 = .ok (.iconst 2, 1) := by decide +kernel
theorem d_M_second_198 : decode b_M_second 198 = .ok (.invokevirtual 181, 3) := by decide +kernel
theorem d_M_second_201 : decode b_M_second 201 = .ok (.iconst 3, 1) := by decide +kernel
theorem d_M_second_202 : decode b_M_second 202 = .ok (.ishl, 1) := by decide +kernel
theorem d_M_second_203 : decode b_M_second 203 = .ok (.ior, 1) := by decide +kernel
theorem d_M_second_204 : decode b_M_second 204 = .ok (.aload_n 0, 1) := by decide +kernel
theorem d_M_second_205 : decode b_M_second 205 = .ok (.iconst 2, 1) := by decide +kernel
theorem d_M_second_206 : decode b_M_second 206 = .ok (.iconst 1, 1) := by decide +kernel
theorem d_M_second_207 : decode b_M_second 207 = .ok (.invokevirtual 181, 3) := by decide +kernel
theorem d_M_second_210 : decode b_M_second 210 = .ok (.iconst 5, 1) := by decide +kernel
theorem d_M_second_211 : decode b_M_second 211 = .ok (.ishl, 1) := by decide +kernel
theorem d_M_second_212 : decode b_M_second 212 = .ok (.ior, 1) := by decide +kernel
theorem d_M_second_213 : decode b_M_second 213 = .ok (.aload_n 0, 1) := by decide +kernel
theorem d_M_second_214 : decode b_M_second 214 = .ok (.iconst 5, 1) := by decide +kernel
theorem d_M_second_215 : decode b_M_second 215 = .ok (.iconst 2, 1) := by decide +kernel
theorem d_M_second_216 : decode b_M_second 216 = .ok (.invokevirtual 181, 3) := by decide +kernel
theorem d_M_second_219 : decode b_M_second 219 = .ok (.bipush 6, 2) := by decide +kernel
theorem d_M_second_221 : decode b_M_second 221 = .ok (.ishl, 1) := by decide +kernel
theorem d_M_second_222 : decode b_M_second 222 = .ok (.ior, 1) := by decide +kernel
theorem d_M_second_223 : decode b_M_second 223 = .ok (.aload_n 0, 1) := by decide +kernel
theorem d_M_second_224 : decode b_M_second 224 = .ok (.bipush 12, 2) := by decide +kernel
theorem d_M_second_226 : decode b_M_second 226 = .ok (.iconst 1, 1) := by decide +kernel
theorem d_M_second_227 : decode b_M_second 227 = .ok (.invokevirtual 181, 3) := by decide +kernel
theorem d_M_second_230 : decode b_M_second 230 = .ok (.ineg, 1) := by decide +kernel
theorem d_M_second_231 : decode b_M_second 231 = .ok (.bipush 8, 2) := by decide +kernel
theorem d_M_second_233 : decode b_M_second 233 = .ok (.ishl, 1) := by decide +kernel
theorem d_M_second_234 : decode b_M_second 234 = .ok (.ior, 1) := by decide +kernel
theorem d_M_second_235 : decode b_M_second 235 = .ok (.invokevirtual 185, 3) := by decide +kernel
theorem d_M_second_238 : decode b_M_second 238 = .ok (.return_, 1) := by decide +kernel
theorem d_M_six_0 : decode b_M_six 0 = .ok (.aload_n 0, 1) := by decide +kernel
theorem d_M_six_1 : decode b_M_six 1 = .ok (.iconst 2, 1) := by decide +kernel
theorem d_M_six_2 : decode b_M_six 2 = .ok (.iconst 5, 1) := by decide +kernel
theorem d_M_six_3 : decode b_M_six 3 = .ok (.invokevirtual 181, 3) := by decide +kernel
theorem d_M_six_6 : decode b_M_six 6 = .ok (.bipush 32, 2) := by decide +kernel
theorem d_M_six_8 : decode b_M_six 8 = .ok (.aload_n 0, 1) := by decide +kernel
theorem d_M_six_9 : decode b_M_six 9 = .ok (.bipush 12, 2) := by decide +kernel
theorem d_M_six_11 : decode b_M_six 11 = .ok (.iconst 1, 1) := by decide +kernel
theorem d_M_six_12 : decode b_M_six 12 = .ok (.invokevirtual 181, 3) := by decide +kernel
theorem d_M_six_15 : decode b_M_six 15 = .ok (.imul, 1) := by decide +kernel
theorem d_M_six_16 : decode b_M_six 16 = .ok (.isub, 1) := by decide +kernel
theorem d_M_six_17 : decode b_M_six 17 = .ok (.ireturn, 1) := by decide +kernel
theorem d_M_jump_0 : decode b_M_jump 0 = .ok (.aload_n 0, 1) := by decide +kernel
theorem d_M_jump_1 : decode b_M_jump 1 = .ok (.lload_n 1, 1) := by decide +kernel
theorem d_M_jump_2 : decode b_M_jump 2 = .ok (.invokevirtual 74, 3) := by decide +kernel
theorem d_M_jump_5 : decode b_M_jump 5 = .ok (.aload_n 0, 1) := by decide +kernel
theorem d_M_jump_6 : decode b_M_jump 6 = .ok (.aload_n 0, 1) := by decide +kernel
theorem d_M_jump_7 : decode b_M_jump 7 = .ok (.iconst 3, 1) := by decide +kernel
theorem d_M_jump_8 : decode b_M_jump 8 = .ok (.iconst 3, 1) := by decide +kernel
theorem d_M_jump_9 : decode b_M_jump 9 = .ok (.invokevirtual 181, 3) := by decide +kernel
theorem d_M_jump_12 : decode b_M_jump 12 = .ok (.iconst 1, 1) := by decide +kernel
theorem d_M_jump_13 : decode b_M_jump 13 = .ok (.ishl, 1) := by decide +kernel
theorem d_M_jump_14 : decode b_M_jump 14 = .ok (.aload_n 0, 1) := by decide +kernel
theorem d_M_jump_15 : decode b_M_jump 15 = .ok (.bipush 11, 2) := by decide +kernel
theorem d_M_jump_17 : decode b_M_jump 17 = .ok (.iconst 1, 1) := by decide +kernel
theorem d_M_jump_18 : decode b_M_jump 18 = .ok (.invokevirtual 181, 3) := by decide +kernel
theorem d_M_jump_21 : decode b_M_jump 21 = .ok (.iconst 4, 1) := by decide +kernel
theorem d_M_jump_22 : decode b_M_jump 22 = .ok (.ishl, 1) := by decide +kernel
theorem d_M_jump_23 : decode b_M_jump 23 = .ok (.ior, 1) := by decide +kernel
theorem d_M_jump_24 : decode b_M_jump 24 = .ok (.aload_n 0, 1) := by decide +kernel
theorem d_M_jump_25 : decode b_M_jump 25 = .ok (.iconst 2, 1) := by decide +kernel
theorem d_M_jump_26 : decode b_M_jump 26 = .ok (.iconst 1, 1) := by decide +kernel
theorem d_M_jump_27 : decode b_M_jump 27 = .ok (.invokevirtual 181, 3) := by decide +kernel
theorem d_M_jump_30 : decode b_M_jump 30 = .ok (.iconst 5, 1) := by decide +kernel
theorem d_M_jump_31 : decode b_M_jump 31 = .ok (.ishl, 1) := by decide +kernel
theorem d_M_jump_32 : decode b_M_jump 32 = .ok (.ior, 1) := by decide +kernel
theorem d_M_jump_33 : decode b_M_jump 33 = .ok (.aload_n 0, 1) := by decide +kernel
theorem d_M_jump_34 : decode b_M_jump 34 = .ok (.bipush 7, 2) := by decide +kernel
theorem d_M_jump_36 : decode b_M_jump 36 = .ok (.iconst 1, 1) := by decide +kernel
theorem d_M_jump_37 : decode b_M_jump 37 = .ok (.invokevirtual 181, 3) := by decide +kernel
theorem d_M_jump_40 : decode b_M_jump 40 = .ok (.bipush 6, 2) := by decide +kernel
theorem d_M_jump_42 : decode b_M_jump 42 = .ok (.ishl, 1) := by decide +kernel
theorem d_M_jump_43 : decode b_M_jump 43 = .ok (.ior, 1) := by decide +kernel
theorem d_M_jump_44 : decode b_M_jump 44 = .ok (.aload_n 0, 1) := by decide +kernel
theorem d_M_jump_45 : decode b_M_jump 45 = .ok (.bipush 6, 2) := by decide +kernel
theorem d_M_jump_47 : decode b_M_jump 47 = .ok (.iconst 1, 1) := by decide +kernel
theorem d_M_jump_48 : decode b_M_jump 48 = .ok (.invokevirtual 181, 3) := by decide +kernel
theorem d_M_jump_51 : decode b_M_jump 51 = .ok (.bipush 7, 2) := by decide +kernel
theorem d_M_jump_53 : decode b_M_jump 53 = .ok (.ishl, 1) := by decide +kernel
theorem d_M_jump_54 : decode b_M_jump 54 = .ok (.ior, 1) := by decide +kernel
theorem d_M_jump_55 : decode b_M_jump 55 = .ok (.aload_n 0, 1) := by decide +kernel
theorem d_M_jump_56 : decode b_M_jump 56 = .ok (.bipush 9, 2) := by decide +kernel
theorem d_M_jump_58 : decode b_M_jump 58 = .ok (.iconst 2, 1) := by decide +kernel
theorem d_M_jump_59 : decode b_M_jump 59 = .ok (.invokevirtual 181, 3) := by decide +kernel
theorem d_M_jump_62 : decode b_M_jump 62 = .ok (.bipush 8, 2) := by decide +kernel
theorem d_M_jump_64 : decode b_M_jump 64 = .ok (.ishl, 1) := by decide +kernel
theorem d_M_jump_65 : decode b_M_jump 65 = .ok (.ior, 1) := by decide +kernel
theorem d_M_jump_66 : decode b_M_jump 66 = .ok (.aload_n 0, 1) := by decide +kernel
theorem d_M_jump_67 : decode b_M_jump 67 = .ok (.bipush 8, 2) := by decide +kernel
theorem d_M_jump_69 : decode b_M_jump 69 = .ok (.iconst 1, 1) := by decide +kernel
theorem d_M_jump_70 : decode b_M_jump 70 = .ok (.invokevirtual 181, 3) := by decide +kernel
theorem d_M_jump_73 : decode b_M_jump 73 = .ok (.bipush 10, 2) := by decide +kernel
theorem d_M_jump_75 : decode b_M_jump 75 = .ok (.ishl, 1) := by decide +kernel
theorem d_M_jump_76 : decode b_M_jump 76 = .ok (.ior, 1) := by decide +kernel
theorem d_M_jump_77 : decode b_M_jump 77 = .ok (.aload_n 0, 1) := by decide +kernel
theorem d_M_jump_78 : decode b_M_jump 78 = .ok (.bipush 12, 2) := by decide +kernel
theorem d_M_jump_80 : decode b_M_jump 80 = .ok (.iconst 1, 1) := by decide +kernel
theorem d_M_jump_81 : decode b_M_jump 81 = .ok (.invokevirtual 181, 3) := by decide +kernel
theorem d_M_jump_84 : decode b_M_jump 84 = .ok (.ineg, 1) := by decide +kernel
theorem d_M_jump_85 : decode b_M_jump 85 = .ok (.bipush 11, 2) := by decide +kernel
theorem d_M_jump_87 : decode b_M_jump 87 = .ok (.ishl, 1) := by decide +kernel
theorem d_M_jump_88 : decode b_M_jump 88 = .ok (.ior, 1) := by decide +kernel
theorem d_M_jump_89 : decode b_M_jump 89 = .ok (.invokevirtual 185, 3) := by decide +kernel
theorem d_M_jump_92 : decode b_M_jump 92 = .ok (.return_, 1) := by decide +kernel
theorem d_M_upper_0 : decode b_M_upper 0 = .ok (.aload_n 0, 1) := by decide +kernel
theorem d_M_upper_1 : decode b_M_upper 1 = .ok (.bipush 6, 2) := by decide +kernel
theorem d_M_upper_3 : decode b_M_upper 3 = .ok (.iconst 1, 1) := by decide +kernel
theorem d_M_upper_4 : decode b_M_upper 4 = .ok (.invokevirtual 181, 3) := by decide +kernel
theorem d_M_upper_7 : decode b_M_upper 7 = .ok (.iconst 4, 1) := by decide +kernel
theorem d_M_upper_8 : decode b_M_upper 8 = .ok (.ishl, 1) := by decide +kernel
theorem d_M_upper_9 : decode b_M_upper 9 = .ok (.aload_n 0, 1) := by decide +kernel
theorem d_M_upper_10 : decode b_M_upper 10 = .ok (.iconst 5, 1) := by decide +kernel
theorem d_M_upper_11 : decode b_M_upper 11 = .ok (.iconst 1, 1) := by decide +kernel
theorem d_M_upper_12 : decode b_M_upper 12 = .ok (.invokevirtual 181, 3) := by decide +kernel
theorem d_M_upper_15 : decode b_M_upper 15 = .ok (.bipush 6, 2) := by decide +kernel
theorem d_M_upper_17 : decode b_M_upper 17 = .ok (.ishl, 1) := by decide +kernel
theorem d_M_upper_18 : decode b_M_upper 18 = .ok (.ior, 1) := by decide +kernel
theorem d_M_upper_19 : decode b_M_upper 19 = .ok (.aload_n 0, 1) := by decide +kernel
theorem d_M_upper_20 : decode b_M_upper 20 = .ok (.iconst 3, 1) := by decide +kernel
theorem d_M_upper_21 : decode b_M_upper 21 = .ok (.iconst 2, 1) := by decide +kernel
theorem d_M_upper_22 : decode b_M_upper 22 = .ok (.invokevirtual 181, 3) := by decide +kernel
theorem d_M_upper_25 : decode b_M_upper 25 = .ok (.bipush 7, 2) := by decide +kernel
theorem d_M_upper_27 : decode b_M_upper 27 = .ok (.ishl, 1) := by decide +kernel
theorem d_M_upper_28 : decode b_M_upper 28 = .ok (.ior, 1) := by decide +kernel
theorem d_M_upper_29 : decode b_M_upper 29 = .ok (.aload_n 0, 1) := by decide +kernel
theorem d_M_upper_30 : decode b_M_upper 30 = .ok (.iconst 2, 1) := by decide +kernel
theorem d_M_upper_31 : decode b_M_upper 31 = .ok (.iconst 1, 1) := by decide +kernel
theorem d_M_upper_32 : decode b_M_upper 32 = .ok (.invokevirtual 181, 3) := by decide +kernel
theorem d_M_upper_35 : decode b_M_upper 35 = .ok (.iconst 5, 1) := by decide +kernel
theorem d_M_upper_36 : decode b_M_upper 36 = .ok (.ishl, 1) := by decide +kernel
theorem d_M_upper_37 : decode b_M_upper 37 = .ok (.ior, 1) := by decide +kernel
theorem d_M_upper_38 : decode b_M_upper 38 = .ok (.aload_n 0, 1) := by decide +kernel
theorem d_M_upper_39 : decode b_M_upper 39 = .ok (.bipush 12, 2) := by decide +kernel
theorem d_M_upper_41 : decode b_M_upper 41 = .ok (.iconst 1, 1) := by decide +kernel
theorem d_M_upper_42 : decode b_M_upper 42 = .ok (.invokevirtual 181, 3) := by decide +kernel
theorem d_M_upper_45 : decode b_M_upper 45 = .ok (.ineg, 1) := by decide +kernel
theorem d_M_upper_46 : decode b_M_upper 46 = .ok (.bipush 9, 2) := by decide +kernel
theorem d_M_upper_48 : decode b_M_upper 48 = .ok (.ishl, 1) := by decide +kernel
theorem d_M_upper_49 : decode b_M_upper 49 = .ok (.ior, 1) := by decide +kernel
theorem d_M_upper_50 : decode b_M_upper 50 = .ok (.istore_n 1, 1) := by decide +kernel
theorem d_M_upper_51 : decode b_M_upper 51 = .ok (.aload_n 0, 1) := by decide +kernel
theorem d_M_upper_52 : decode b_M_upper 52 = .ok (.getfield 77, 3) := by decide +kernel
theorem d_M_upper_55 : decode b_M_upper 55 = .ok (.iconst 2, 1) := by decide +kernel
theorem d_M_upper_56 : decode b_M_upper 56 = .ok (.if_icmp .ne 10, 3) := by decide +kernel
theorem d_M_upper_59 : decode b_M_upper 59 = .ok (.iload_n 1, 1) := by decide +kernel
theorem d_M_upper_60 : decode b_M_upper 60 = .ok (.ifCond .ne 14, 3) := by decide +kernel
theorem d_M_upper_63 : decode b_M_upper 63 = .ok (.goto 10, 3) := by decide +kernel
theorem d_M_upper_66 : decode b_M_upper 66 = .ok (.aload_n 0, 1) := by decide +kernel
theorem d_M_upper_67 : decode b_M_upper 67 = .ok (.invokevirtual 276, 3) := by decide +kernel
theorem d_M_upper_70 : decode b_M_upper 70 = .ok (.ifCond .ne 4, 3) := by decide +kernel
theorem d_M_upper_73 : decode b_M_upper 73 = .ok (.return_, 1) := by decide +kernel
theorem d_M_upper_74 : decode b_M_upper 74 = .ok (.aload_n 0, 1) := by decide +kernel
theorem d_M_upper_75 : decode b_M_upper 75 = .ok (.getfield 77, 3) := by decide +kernel
theorem d_M_upper_78 : decode b_M_upper 78 = .ok (.iconst 2, 1) := by decide +kernel
theorem d_M_upper_79 : decode b_M_upper 79 = .ok (.if_icmp .ne 23, 3) := by decide +kernel
theorem d_M_upper_82 : decode b_M_upper 82 = .ok (.aload_n 0, 1) := by decide +kernel
theorem d_M_upper_83 : decode b_M_upper 83 = .ok (.ldc2_w 288, 3) := by decide +kernel
theorem d_M_upper_86 : decode b_M_upper 86 = .ok (.invokevirtual 74, 3) := by decide +kernel
theorem d_M_upper_89 : decode b_M_upper 89 = .ok (.aload_n 0, 1) := by decide +kernel
theorem d_M_upper_90 : decode b_M_upper 90 = .ok (.ldc2_w 290, 3) := by decide +kernel
theorem d_M_upper_93 : decode b_M_upper 93 = .ok (.invokevirtual 59, 3) := by decide +kernel
theorem d_M_upper_96 : decode b_M_upper 96 = .ok (.aload_n 0, 1) := by decide +kernel
theorem d_M_upper_97 : decode b_M_upper 97 = .ok (.iload_n 1, 1) := by decide +kernel
theorem d_M_upper_98 : decode b_M_upper 98 = .ok (.invokevirtual 68, 3) := by decide +kernel
theorem d_M_upper_101 : decode b_M_upper 101 = .ok (.return_, 1) := by decide +kernel
theorem d_M_upper_102 : decode b_M_upper 102 = .ok (.aload_n 0, 1) := by decide +kernel
theorem d_M_upper_103 : decode b_M_upper 103 = .ok (.ldc2_w 292, 3) := by decide +kernel
theorem d_M_upper_106 : decode b_M_upper 106 = .ok (.invokevirtual 74, 3) := by decide +kernel
theorem d_M_upper_109 : decode b_M_upper 109 = .ok (.aload_n 0, 1) := by decide +kernel
theorem d_M_upper_110 : decode b_M_upper 110 = .ok (.aload_n 0, 1) := by decide +kernel
theorem d_M_upper_111 : decode b_M_upper 111 = .ok (.getfield 77, 3) := by decide +kernel
theorem d_M_upper_114 : decode b_M_upper 114 = .ok (.invokevirtual 80, 3) := by decide +kernel
theorem d_M_upper_117 : decode b_M_upper 117 = .ok (.aload_n 0, 1) := by decide +kernel
theorem d_M_upper_118 : decode b_M_upper 118 = .ok (.aload_n 0, 1) := by decide +kernel
theorem d_M_upper_119 : decode b_M_upper 119 = .ok (.invokevirtual 276, 3) := by decide +kernel
theorem d_M_upper_122 : decode b_M_upper 122 = .ok (.invokevirtual 68, 3) := by decide +kernel
theorem d_M_upper_125 : decode b_M_upper 125 = .ok (.return_, 1) := by decide +kernel
theorem d_M_reckon_0 : decode b_M_reckon 0 = .ok (.bipush 8, 2) := by decide +kernel
theorem d_M_reckon_2 : decode b_M_reckon 2 = .ok (.aload_n 0, 1) := by decide +kernel
theorem d_M_reckon_3 : decode b_M_reckon 3 = .ok (.iconst 2, 1) := by decide +kernel
theorem d_M_reckon_4 : decode b_M_reckon 4 = .ok (.iconst 3, 1) := by decide +kernel
theorem d_M_reckon_5 : decode b_M_reckon 5 = .ok (.invokevirtual 181, 3) := by decide +kernel
theorem d_M_reckon_8 : decode b_M_reckon 8 = .ok (.iadd, 1) := by decide +kernel
theorem d_M_reckon_9 : decode b_M_reckon 9 = .ok (.istore_n 2, 1) := by decide +kernel
theorem d_M_reckon_10 : decode b_M_reckon 10 = .ok (.bipush 8, 2) := by decide +kernel
theorem d_M_reckon_12 : decode b_M_reckon 12 = .ok (.aload_n 0, 1) := by decide +kernel
theorem d_M_reckon_13 : decode b_M_reckon 13 = .ok (.bipush 7, 2) := by decide +kernel
theorem d_M_reckon_15 : decode b_M_reckon 15 = .ok (.iconst 3, 1) := by decide +kernel
theorem d_M_reckon_16 : decode b_M_reckon 16 = .ok (.invokevirtual 181, 3) := by decide +kernel
theorem d_M_reckon_19 : decode b_M_reckon 19 = .ok (.iadd, 1) := by decide +kernel
theorem d_M_reckon_20 : decode b_M_reckon 20 = .ok (.istore_n 3, 1) := by decide +kernel
theorem d_M_reckon_21 : decode b_M_reckon 21 = .ok (.iload_n 1, 1) := by decide +kernel
theorem d_M_reckon_22 : decode b_M_reckon 22 = .ok (.iconst 2, 1) := by decide +kernel
theorem d_M_reckon_23 : decode b_M_reckon 23 = .ok (.if_icmp .eq 15, 3) := by decide +kernel
theorem d_M_reckon_26 : decode b_M_reckon 26 = .ok (.aload_n 0, 1) := by decide +kernel
theorem d_M_reckon_27 : decode b_M_reckon 27 = .ok (.bipush 12, 2) := by decide +kernel
theorem d_M_reckon_29 : decode b_M_reckon 29 = .ok (.iconst 1, 1) := by decide +kernel
theorem d_M_reckon_30 : decode b_M_reckon 30 = .ok (.invokevirtual 181, 3) := by decide +kernel
theorem d_M_reckon_33 : decode b_M_reckon 33 = .ok (.iconst 1, 1) := by decide +kernel
theorem d_M_reckon_34 : decode b_M_reckon 34 = .ok (.if_icmp .ne 4, 3) := by decide +kernel
theorem d_M_reckon_37 : decode b_M_reckon 37 = .ok (.return_, 1) := by decide +kernel
theorem d_M_reckon_38 : decode b_M_reckon 38 = .ok (.iload_n 1, 1) := by decide +kernel
theorem d_M_reckon_39 : decode b_M_reckon 39 = .ok (.iconst 3, 1) := by decide +kernel
theorem d_M_reckon_40 : decode b_M_reckon 40 = .ok (.if_icmp .ge 59, 3) := by decide +kernel
theorem d_M_reckon_43 : decode b_M_reckon 43 = .ok (.aload_n 0, 1) := by decide +kernel
theorem d_M_reckon_44 : decode b_M_reckon 44 = .ok (.iload_n 1, 1) := by decide +kernel
theorem d_M_reckon_45 : decode b_M_reckon 45 = .ok (.ifCond .ne 9, 3) := by decide +kernel
theorem d_M_reckon_48 : decode b_M_reckon 48 = .ok (.ldc2_w 270, 3) := by decide +kernel
theorem d_M_reckon_51 : decode b_M_reckon 51 = .ok (.goto 17, 3) := by decide +kernel
theorem d_M_reckon_54 : decode b_M_reckon 54 = .ok (.iload_n 1, 1) := by decide +kernel
theorem d_M_reckon_55 : decode b_M_reckon 55 = .ok (.iconst 1, 1) := by decide +kernel
theorem d_M_reckon_56 : decode b_M_reckon 56 = .ok (.if_icmp .ne 9, 3) := by decide +kernel
theorem d_M_reckon_59 : decode b_M_reckon 59 = .ok (.ldc2_w 272, 3) := by decide +kernel
theorem d_M_reckon_62 : decode b_M_reckon 62 = .ok (.goto 6, 3) := by decide +kernel
theorem d_M_reckon_65 : decode b_M_reckon 65 = .ok (.ldc2_w 274, 3) := by decide +kernel
theorem d_M_reckon_68 : decode b_M_reckon 68 = .ok (.invokevirtual 74, 3) := by decide +kernel
theorem d_M_reckon_71 : decode b_M_reckon 71 = .ok (.aload_n 0, 1) := by decide +kernel
theorem d_M_reckon_72 : decode b_M_reckon 72 = .ok (.iload_n 3, 1) := by decide +kernel
theorem d_M_reckon_73 : decode b_M_reckon 73 = .ok (.invokevirtual 80, 3) := by decide +kernel
theorem d_M_reckon_76 : decode b_M_reckon 76 = .ok (.aload_n 0, 1) := by decide +kernel
theorem d_M_reckon_77 : decode b_M_reckon 77 = .ok (.iload_n 1, 1) := by decide +kernel
theorem d_M_reckon_78 : decode b_M_reckon 78 = .ok (.iconst 2, 1) := by decide +kernel
theorem d_M_reckon_79 : decode b_M_reckon 79 = .ok (.if_icmp .ne 10, 3) := by decide +kernel
theorem d_M_reckon_82 : decode b_M_reckon 82 = .ok (.aload_n 0, 1) := by decide +kernel
theorem d_M_reckon_83 : decode b_M_reckon 83 = .ok (.invokevirtual 276, 3) := by decide +kernel
theorem d_M_reckon_86 : decode b_M_reckon 86 = .ok (.goto 9, 3) := by decide +kernel
theorem d_M_reckon_89 : decode b_M_reckon 89 = .ok (.aload_n 0, 1) := by decide +kernel
theorem d_M_reckon_90 : decode b_M_reckon 90 = .ok (.iconst 2, 1) := by decide +kernel
theorem d_M_reckon_91 : decode b_M_reckon 91 = .ok (.iconst 5, 1) := by decide +kernel
theorem d_M_reckon_92 : decode b_M_reckon 92 = .ok (.invokevirtual 181, 3) := by decide +kernel
theorem d_M_reckon_95 : decode b_M_reckon 95 = .ok (.invokevirtual 68, 3) := by decide +kernel
theorem d_M_reckon_98 : decode b_M_reckon 98 = .ok (.return_, 1) := by decide +kernel
theorem d_M_reckon_99 : decode b_M_reckon 99 = .ok (.aload_n 0, 1) := by decide +kernel
theorem d_M_reckon_100 : decode b_M_reckon 100 = .ok (.iconst 5, 1) := by decide +kernel
theorem d_M_reckon_101 : decode b_M_reckon 101 = .ok (.iconst 2, 1) := by decide +kernel
theorem d_M_reckon_102 : decode b_M_reckon 102 = .ok (.invokevirtual 181, 3) := by decide +kernel
theorem d_M_reckon_105 : decode b_M_reckon 105 = .ok (.istore 4, 2) := by decide +kernel
theorem d_M_reckon_107 : decode b_M_reckon 107 = .ok (.aload_n 0, 1) := by decide +kernel
theorem d_M_reckon_108 : decode b_M_reckon 108 = .ok (.iload 4, 2) := by decide +kernel
theorem d_M_reckon_110 : decode b_M_reckon 110 = .ok (.ifCond .ne 9, 3) := by decide +kernel
theorem d_M_reckon_113 : decode b_M_reckon 113 = .ok (.ldc2_w 280, 3) := by decide +kernel
theorem d_M_reckon_116 : decode b_M_reckon 116 = .ok (.goto 30, 3) := by decide +kernel
theorem d_M_reckon_119 : decode b_M_reckon 119 = .ok (.iload 4, 2) := by decide +kernel
theorem d_M_reckon_121 : decode b_M_reckon 121 = .ok (.iconst 1, 1) := by decide +kernel
theorem d_M_reckon_122 : decode b_M_reckon 122 = .ok (.if_icmp .ne 9, 3) := by decide +kernel
theorem d_M_reckon_125 : decode b_M_reckon 125 = .ok (.ldc2_w 282, 3) := by decide +kernel
theorem d_M_reckon_128 : decode b_M_reckon 128 = .ok (.goto 18, 3) := by decide +kernel
theorem d_M_reckon_131 : decode b_M_reckon 131 = .ok (.iload 4, 2) := by decide +kernel
theorem d_M_reckon_133 : decode b_M_reckon 133 = .ok (.iconst 2, 1) := by decide +kernel
theorem d_M_reckon_134 : decode b_M_reckon 134 = .ok (.if_icmp .ne 9, 3) := by decide +kernel
theorem d_M_reckon_137 : decode b_M_reckon 137 = .ok (.ldc2_w 284, 3) := by decide +kernel
theorem d_M_reckon_140 : decode b_M_reckon 140 = .ok (.goto 6, 3) := by decide +kernel
theorem d_M_reckon_143 : decode b_M_reckon 143 = .ok (.ldc2_w 286, 3) := by decide +kernel
theorem d_M_reckon_146 : decode b_M_reckon 146 = .ok (.invokevirtual 74, 3) := by decide +kernel
theorem d_M_reckon_149 : decode b_M_reckon 149 = .ok (.aload_n 0, 1) := by decide +kernel
theorem d_M_reckon_150 : decode b_M_reckon 150 = .ok (.iload_n 3, 1) := by decide +kernel
theorem d_M_reckon_151 : decode b_M_reckon 151 = .ok (.invokevirtual 80, 3) := by decide +kernel
theorem d_M_reckon_154 : decode b_M_reckon 154 = .ok (.aload_n 0, 1) := by decide +kernel
theorem d_M_reckon_155 : decode b_M_reckon 155 = .ok (.iload_n 2, 1) := by decide +kernel
theorem d_M_reckon_156 : decode b_M_reckon 156 = .ok (.invokevirtual 80, 3) := by decide +kernel
theorem d_M_reckon_159 : decode b_M_reckon 159 = .ok (.return_, 1) := by decide +kernel
theorem d_M_third_0 : decode b_M_third 0 = .ok (.aload_n 0, 1) := by decide +kernel
theorem d_M_third_1 : decode b_M_third 1 = .ok (.bipush 12, 2) := by decide +kernel
theorem d_M_third_3 : decode b_M_third 3 = .ok (.iconst 1, 1) := by decide +kernel
theorem d_M_third_4 : decode b_M_third 4 = .ok (.invokevirtual 181, 3) := by decide +kernel
theorem d_M_third_7 : decode b_M_third 7 = .ok (.iconst 1, 1) := by decide +kernel
theorem d_M_third_8 : decode b_M_third 8 = .ok (.if_icmp .ne 7, 3) := by decide +kernel
theorem d_M_third_11 : decode b_M_third 11 = .ok (.iconst 1, 1) := by decide +kernel
theorem d_M_third_12 : decode b_M_third 12 = .ok (.goto 4, 3) := by decide +kernel
theorem d_M_third_15 : decode b_M_third 15 = .ok (.iconst 0, 1) := by decide +kernel
theorem d_M_third_16 : decode b_M_third 16 = .ok (.istore_n 1, 1) := by decide +kernel
theorem d_M_third_17 : decode b_M_third 17 = .ok (.aload_n 0, 1) := by decide +kernel
theorem d_M_third_18 : decode b_M_third 18 = .ok (.aload_n 0, 1) := by decide +kernel
theorem d_M_third_19 : decode b_M_third 19 = .ok (.iconst 2, 1) := by decide +kernel
theorem d_M_third_20 : decode b_M_third 20 = .ok (.iconst 5, 1) := by decide +kernel
theorem d_M_third_21 : decode b_M_third 21 = .ok (.invokevirtual 181, 3) := by decide +kernel
theorem d_M_third_24 : decode b_M_third 24 = .ok (.putfield 86, 3) := by decide +kernel
theorem d_M_third_27 : decode b_M_third 27 = .ok (.aload_n 0, 1) := by decide +kernel
theorem d_M_third_28 : decode b_M_third 28 = .ok (.getfield 89, 3) := by decide +kernel
theorem d_M_third_31 : decode b_M_third 31 = .ok (.ifCond .ne 33, 3) := by decide +kernel
theorem d_M_third_34 : decode b_M_third 34 = .ok (.iload_n 1, 1) := by decide +kernel
theorem d_M_third_35 : decode b_M_third 35 = .ok (.ifCond .ne 29, 3) := by decide +kernel
theorem d_M_third_38 : decode b_M_third 38 = .ok (.aload_n 0, 1) := by decide +kernel
theorem d_M_third_39 : decode b_M_third 39 = .ok (.ldc2_w 317, 3) := by decide +kernel
theorem d_M_third_42 : decode b_M_third 42 = .ok (.invokevirtual 74, 3) := by decide +kernel
theorem d_M_third_45 : decode b_M_third 45 = .ok (.aload_n 0, 1) := by decide +kernel
theorem d_M_third_46 : decode b_M_third 46 = .ok (.aload_n 0, 1) := by decide +kernel
theorem d_M_third_47 : decode b_M_third 47 = .ok (.getfield 77, 3) := by decide +kernel
theorem d_M_third_50 : decode b_M_third 50 = .ok (.invokevirtual 80, 3) := by decide +kernel
theorem d_M_third_53 : decode b_M_third 53 = .ok (.aload_n 0, 1) := by decide +kernel
theorem d_M_third_54 : decode b_M_third 54 = .ok (.aload_n 0, 1) := by decide +kernel
theorem d_M_third_55 : decode b_M_third 55 = .ok (.getfield 86, 3) := by decide +kernel
theorem d_M_third_58 : decode b_M_third 58 = .ok (.invokevirtual 68, 3) := by decide +kernel
theorem d_M_third_61 : decode b_M_third 61 = .ok (.goto 232, 3) := by decide +kernel
theorem d_M_third_64 : decode b_M_third 64 = .ok (.aload_n 0, 1) := by decide +kernel
theorem d_M_third_65 : decode b_M_third 65 = .ok (.getfield 89, 3) := by decide +kernel
theorem d_M_third_68 : decode b_M_third 68 = .ok (.iconst 2, 1) := by decide +kernel
theorem d_M_third_69 : decode b_M_third 69 = .ok (.if_icmp .ne 60, 3) := by decide +kernel
theorem d_M_third_72 : decode b_M_third 72 = .ok (.aload_n 0, 1) := by decide +kernel
theorem d_M_third_73 : decode b_M_third 73 = .ok (.getfield 77, 3) := by decide +kernel
theorem d_M_third_76 : decode b_M_third 76 = .ok (.ifCond .eq 53, 3) := by decide +kernel
theorem d_M_third_79 : decode b_M_third 79 = .ok (.aload_n 0, 1) := by decide +kernel
theorem d_M_third_80 : decode b_M_third 80 = .ok (.ldc2_w 319, 3) := by decide +kernel
theorem d_M_third_83 : decode b_M_third 83 = .ok (.invokevirtual 74, 3) := by decide +kernel
theorem d_M_third_86 : decode b_M_third 86 = .ok (.aload_n 0, 1) := by decide +kernel
theorem d_M_third_87 : decode b_M_third 87 = .ok (.aload_n 0, 1) := by decide +kernel
theorem d_M_third_88 : decode b_M_third 88 = .ok (.getfield 77, 3) := by decide +kernel
theorem d_M_third_91 : decode b_M_third 91 = .ok (.invokevirtual 80, 3) := by decide +kernel
theorem d_M_third_94 : decode b_M_third 94 = .ok (.aload_n 0, 1) := by decide +kernel
theorem d_M_third_95 : decode b_M_third 95 = .ok (.aload_n 0, 1) := by decide +kernel
theorem d_M_third_96 : decode b_M_third 96 = .ok (.bipush 12, 2) := by decide +kernel
theorem d_M_third_98 : decode b_M_third 98 = .ok (.iconst 1, 1) := by decide +kernel
theorem d_M_third_99 : decode b_M_third 99 = .ok (.invokevirtual 181, 3) := by decide +kernel
theorem d_M_third_102 : decode b_M_third 102 = .ok (.iconst 5, 1) := by decide +kernel
theorem d_M_third_103 : decode b_M_third 103 = .ok (.ishl, 1) := by decide +kernel
theorem d_M_third_104 : decode b_M_third 104 = .ok (.aload_n 0, 1) := by decide +kernel
theorem d_M_third_105 : decode b_M_third 105 = .ok (.iconst 4, 1) := by decide +kernel
theorem d_M_third_106 : decode b_M_third 106 = .ok (.iconst 3, 1) := by decide +kernel
theorem d_M_third_107 : decode b_M_third 107 = .ok (.invokevirtual 181, 3) := by decide +kernel
theorem d_M_third_110 : decode b_M_third 110 = .ok (.iconst 2, 1) := by decide +kernel
theorem d_M_third_111 : decode b_M_third 111 = .ok (.ishl, 1) := by decide +kernel
theorem d_M_third_112 : decode b_M_third 112 = .ok (.ior, 1) := by decide +kernel
theorem d_M_third_113 : decode b_M_third 113 = .ok (.aload_n 0, 1) := by decide +kernel
theorem d_M_third_114 : decode b_M_third 114 = .ok (.iconst 2, 1) := by decide +kernel
theorem d_M_third_115 : decode b_M_third 115 = .ok (.iconst 2, 1) := by decide +kernel
theorem d_M_third_116 : decode b_M_third 116 = .ok (.invokevirtual 181, 3) := by decide +kernel
theorem d_M_third_119 : decode b_M_third 119 = .ok (.bipush 6, 2) := by decide +kernel
theorem d_M_third_121 : decode b_M_third 121 = .ok (.ishl, 1) := by decide +kernel
theorem d_M_third_122 : decode b_M_third 122 = .ok (.ior, 1) := by decide +kernel
theorem d_M_third_123 : decode b_M_third 123 = .ok (.invokevirtual 68, 3) := by decide +kernel
theorem d_M_third_126 : decode b_M_third 126 = .ok (.goto 167, 3) := by decide +kernel
theorem d_M_third_129 : decode b_M_third 129 = .ok (.aload_n 0, 1) := by decide +kernel
theorem d_M_third_130 : decode b_M_third 130 = .ok (.getfield 89, 3) := by decide +kernel
theorem d_M_third_133 : decode b_M_third 133 = .ok (.bipush 6, 2) := by decide +kernel
theorem d_M_third_135 : decode b_M_third 135 = .ok (.if_icmp .ne 45, 3) := by decide +kernel
theorem d_M_third_138 : decode b_M_third 138 = .ok (.aload_n 0, 1) := by decide +kernel
theorem d_M_third_139 : decode b_M_third 139 = .ok (.ldc2_w 321, 3) := by decide +kernel
theorem d_M_third_142 : decode b_M_third 142 = .ok (.invokevirtual 74, 3) := by decide +kernel
theorem d_M_third_145 : decode b_M_third 145 = .ok (.aload_n 0, 1) := by decide +kernel
theorem d_M_third_146 : decode b_M_third 146 = .ok (.aload_n 0, 1) := by decide +kernel
theorem d_M_third_147 : decode b_M_third 147 = .ok (.getfield 86, 3) := by decide +kernel
theorem d_M_third_150 : decode b_M_third 150 = .ok (.invokevirtual 80, 3) := by decide +kernel
theorem d_M_third_153 : decode b_M_third 153 = .ok (.aload_n 0, 1) := by decide +kernel
theorem d_M_third_154 : decode b_M_third 154 = .ok (.aload_n 0, 1) := by decide +kernel
theorem d_M_third_155 : decode b_M_third 155 = .ok (.bipush 9, 2) := by decide +kernel
theorem d_M_third_157 : decode b_M_third 157 = .ok (.iconst 4, 1) := by decide +kernel
theorem d_M_third_158 : decode b_M_third 158 = .ok (.invokevirtual 181, 3) := by decide +kernel
theorem d_M_third_161 : decode b_M_third 161 = .ok (.iconst 2, 1) := by decide +kernel
theorem d_M_third_162 : decode b_M_third 162 = .ok (.ishl, 1) := by decide +kernel
theorem d_M_third_163 : decode b_M_third 163 = .ok (.aload_n 0, 1) := by decide +kernel
theorem d_M_third_164 : decode b_M_third 164 = .ok (.bipush 7, 2) := by decide +kernel
theorem d_M_third_166 : decode b_M_third 166 = .ok (.iconst 2, 1) := by decide +kernel
theorem d_M_third_167 : decode b_M_third 167 = .ok (.invokevirtual 181, 3) := by decide +kernel
theorem d_M_third_170 : decode b_M_third 170 = .ok (.bipush 6, 2) := by decide +kernel
theorem d_M_third_172 : decode b_M_third 172 = .ok (.ishl, 1) := by decide +kernel
theorem d_M_third_173 : decode b_M_third 173 = .ok (.ior, 1) := by decide +kernel
theorem d_M_third_174 : decode b_M_third 174 = .ok (.invokevirtual 68, 3) := by decide +kernel
theorem d_M_third_177 : decode b_M_third 177 = .ok (.goto 116, 3) := by decide +kernel
theorem d_M_third_180 : decode b_M_third 180 = .ok (.aload_n 0, 1) := by decide +kernel
theorem d_M_third_181 : decode b_M_third 181 = .ok (.getfield 89, 3) := by decide +kernel
theorem d_M_third_184 : decode b_M_third 184 = .ok (.iconst 4, 1) := by decide +kernel
theorem d_M_third_185 : decode b_M_third 185 = .ok (.if_icmp .ne 46, 3) := by decide +kernel
theorem d_M_third_188 : decode b_M_third 188 = .ok (.aload_n 0, 1) := by decide +kernel
theorem d_M_third_189 : decode b_M_third 189 = .ok (.getfield 86, 3) := by decide +kernel
theorem d_M_third_192 : decode b_M_third 192 = .ok (.ifCond .eq 39, 3) := by decide +kernel
theorem d_M_third_195 : decode b_M_third 195 = .ok (.aload_n 0, 1) := by decide +kernel
theorem d_M_third_196 : decode b_M_third 196 = .ok (.iload_n 1, 1) := by decide +kernel
theorem d_M_third_197 : decode b_M_third 197 = .ok (.ifCond .eq 9, 3) := by decide +kernel
theorem d_M_third_200 : decode b_M_third 200 = .ok (.ldc2_w 323, 3) := by decide +kernel
theorem d_M_third_203 : decode b_M_third 203 = .ok (.goto 6, 3) := by decide +kernel
theorem d_M_third_206 : decode b_M_third 206 = .ok (.ldc2_w 325, 3) := by decide +kernel
theorem d_M_third_209 : decode b_M_third 209 = .ok (.invokevirtual 74, 3) := by decide +kernel
theorem d_M_third_212 : decode b_M_third 212 = .ok (.aload_n 0, 1) := by decide +kernel
theorem d_M_third_213 : decode b_M_third 213 = .ok (.aload_n 0, 1) := by decide +kernel
theorem d_M_third_214 : decode b_M_third 214 = .ok (.getfield 77, 3) := by decide +kernel
theorem d_M_third_217 : decode b_M_third 217 = .ok (.invokevirtual 80, 3) := by decide +kernel
theorem d_M_third_220 : decode b_M_third 220 = .ok (.aload_n 0, 1) := by decide +kernel
theorem d_M_third_221 : decode b_M_third 221 = .ok (.aload_n 0, 1) := by decide +kernel
theorem d_M_third_222 : decode b_M_third 222 = .ok (.getfield 86, 3) := by decide +kernel
theorem d_M_third_225 : decode b_M_third 225 = .ok (.invokevirtual 80, 3) := by decide +kernel
theorem d_M_third_228 : decode b_M_third 228 = .ok (.goto 65, 3) := by decide +kernel
theorem d_M_third_231 : decode b_M_third 231 = .ok (.aload_n 0, 1) := by decide +kernel
theorem d_M_third_232 : decode b_M_third 232 = .ok (.getfield 89, 3) := by decide +kernel
theorem d_M_third_235 : decode b_M_third 235 = .ok (.iconst 4, 1) := by decide +kernel
theorem d_M_third_236 : decode b_M_third 236 = .ok (.if_icmp .ne 38, 3) := by decide +kernel
theorem d_M_third_239 : decode b_M_third 239 = .ok (.aload_n 0, 1) := by decide +kernel
theorem d_M_third_240 : decode b_M_third 240 = .ok (.getfield 77, 3) := by decide +kernel
theorem d_M_third_243 : decode b_M_third 243 = .ok (.ifCond .eq 31, 3) := by decide +kernel
theorem d_M_third_246 : decode b_M_third 246 = .ok (.aload_n 0, 1) := by decide +kernel
theorem d_M_third_247 : decode b_M_third 247 = .ok (.iload_n 1, 1) := by decide +kernel
theorem d_M_third_248 : decode b_M_third 248 = .ok (.ifCond .eq 9, 3) := by decide +kernel
theorem d_M_third_251 : decode b_M_third 251 = .ok (.ldc2_w 327, 3) := by decide +kernel
theorem d_M_third_254 : decode b_M_third 254 = .ok (.goto 6, 3) := by decide +kernel
theorem d_M_third_257 : decode b_M_third 257 = .ok (.ldc2_w 329, 3) := by decide +kernel
theorem d_M_third_260 : decode b_M_third 260 = .ok (.invokevirtual 74, 3) := by decide +kernel
theorem d_M_third_263 : decode b_M_third 263 = .ok (.aload_n 0, 1) := by decide +kernel
theorem d_M_third_264 : decode b_M_third 264 = .ok (.aload_n 0, 1) := by decide +kernel
theorem d_M_third_265 : decode b_M_third 265 = .ok (.getfield 77, 3) := by decide +kernel
theorem d_M_third_268 : decode b_M_third 268 = .ok (.invokevirtual 80, 3) := by decide +kernel
theorem d_M_third_271 : decode b_M_third 271 = .ok (.goto 22, 3) := by decide +kernel
theorem d_M_third_274 : decode b_M_third 274 = .ok (.aload_n 0, 1) := by decide +kernel
theorem d_M_third_275 : decode b_M_third 275 = .ok (.getfield 89, 3) := by decide +kernel
theorem d_M_third_278 : decode b_M_third 278 = .ok (.iconst 4, 1) := by decide +kernel
theorem d_M_third_279 : decode b_M_third 279 = .ok (.if_icmp .ne 14, 3) := by decide +kernel
theorem d_M_third_282 : decode b_M_third 282 = .ok (.iload_n 1, 1) := by decide +kernel
theorem d_M_third_283 : decode b_M_third 283 = .ok (.ifCond .eq 10, 3) := by decide +kernel
theorem d_M_third_286 : decode b_M_third 286 = .ok (.aload_n 0, 1) := by decide +kernel
theorem d_M_third_287 : decode b_M_third 287 = .ok (.ldc2_w 331, 3) := by decide +kernel
theorem d_M_third_290 : decode b_M_third 290 = .ok (.invokevirtual 74, 3) := by decide +kernel
theorem d_M_third_293 : decode b_M_third 293 = .ok (.return_, 1) := by decide +kernel
theorem d_M_letter_0 : decode b_M_letter 0 = .ok (.aload_n 0, 1) := by decide +kernel
theorem d_M_letter_1 : decode b_M_letter 1 = .ok (.iload_n 1, 1) := by decide +kernel
theorem d_M_letter_2 : decode b_M_letter 2 = .ok (.ifCond .lt 11, 3) := by decide +kernel
theorem d_M_letter_5 : decode b_M_letter 5 = .ok (.iload_n 1, 1) := by decide +kernel
theorem d_M_letter_6 : decode b_M_letter 6 = .ok (.aload_n 0, 1) := by decide +kernel
theorem d_M_letter_7 : decode b_M_letter 7 = .ok (.getfield 33, 3) := by decide +kernel
theorem d_M_letter_10 : decode b_M_letter 10 = .ok (.if_icmp .lt 7, 3) := by decide +kernel
theorem d_M_letter_13 : decode b_M_letter 13 = .ok (.iconst 1, 1) := by decide +kernel
theorem d_M_letter_14 : decode b_M_letter 14 = .ok (.goto 4, 3) := by decide +kernel
theorem d_M_letter_17 : decode b_M_letter 17 = .ok (.iconst 0, 1) := by decide +kernel
theorem d_M_letter_18 : decode b_M_letter 18 = .ok (.putfield 26, 3) := by decide +kernel
theorem d_M_letter_21 : decode b_M_letter 21 = .ok (.aload_n 0, 1) := by decide +kernel
theorem d_M_letter_22 : decode b_M_letter 22 = .ok (.getfield 26, 3) := by decide +kernel
theorem d_M_letter_25 : decode b_M_letter 25 = .ok (.ifCond .le 7, 3) := by decide +kernel
theorem d_M_letter_28 : decode b_M_letter 28 = .ok (.iconst 0, 1) := by decide +kernel
theorem d_M_letter_29 : decode b_M_letter 29 = .ok (.goto 9, 3) := by decide +kernel
theorem d_M_letter_32 : decode b_M_letter 32 = .ok (.aload_n 0, 1) := by decide +kernel
theorem d_M_letter_33 : decode b_M_letter 33 = .ok (.getfield 7, 3) := by decide +kernel
theorem d_M_letter_36 : decode b_M_letter 36 = .ok (.iload_n 1, 1) := by decide +kernel
theorem d_M_letter_37 : decode b_M_letter 37 = .ok (.caload, 1) := by decide +kernel
theorem d_M_letter_38 : decode b_M_letter 38 = .ok (.ireturn, 1) := by decide +kernel
theorem d_M_about_0 : decode b_M_about 0 = .ok (.aload_n 0, 1) := by decide +kernel
theorem d_M_about_1 : decode b_M_about 1 = .ok (.iconst 0, 1) := by decide +kernel
theorem d_M_about_2 : decode b_M_about 2 = .ok (.putfield 26, 3) := by decide +kernel
theorem d_M_about_5 : decode b_M_about 5 = .ok (.iload_n 1, 1) := by decide +kernel
theorem d_M_about_6 : decode b_M_about 6 = .ok (.ifCond .ne 10, 3) := by decide +kernel
theorem d_M_about_9 : decode b_M_about 9 = .ok (.aload_n 0, 1) := by decide +kernel
theorem d_M_about_10 : decode b_M_about 10 = .ok (.getfield 33, 3) := by decide +kernel
theorem d_M_about_13 : decode b_M_about 13 = .ok (.goto 48, 3) := by decide +kernel
theorem d_M_about_16 : decode b_M_about 16 = .ok (.iload_n 1, 1) := by decide +kernel
theorem d_M_about_17 : decode b_M_about 17 = .ok (.iconst 1, 1) := by decide +kernel
theorem d_M_about_18 : decode b_M_about 18 = .ok (.if_icmp .ne 10, 3) := by decide +kernel
theorem d_M_about_21 : decode b_M_about 21 = .ok (.aload_n 0, 1) := by decide +kernel
theorem d_M_about_22 : decode b_M_about 22 = .ok (.getfield 333, 3) := by decide +kernel
theorem d_M_about_25 : decode b_M_about 25 = .ok (.goto 36, 3) := by decide +kernel
theorem d_M_about_28 : decode b_M_about 28 = .ok (.iload_n 1, 1) := by decide +kernel
theorem d_M_about_29 : decode b_M_about 29 = .ok (.iconst 2, 1) := by decide +kernel
theorem d_M_about_30 : decode b_M_about 30 = .ok (.if_icmp .ne 18, 3) := by decide +kernel
theorem d_M_about_33 : decode b_M_about 33 = .ok (.aload_n 0, 1) := by decide +kernel
theorem d_M_about_34 : decode b_M_about 34 = .ok (.getfield 52, 3) := by decide +kernel
theorem d_M_about_37 : decode b_M_about 37 = .ok (.ifCond .eq 7, 3) := by decide +kernel
theorem d_M_about_40 : decode b_M_about 40 = .ok (.iconst 1, 1) := by decide +kernel
theorem d_M_about_41 : decode b_M_about 41 = .ok (.goto 20, 3) := by decide +kernel
theorem d_M_about_44 : decode b_M_about 44 = .ok (.iconst 0, 1) := by decide +kernel
theorem d_M_about_45 : decode b_M_about 45 = .ok (.goto 16, 3) := by decide +kernel
theorem d_M_about_48 : decode b_M_about 48 = .ok (.iload_n 1, 1) := by decide +kernel
theorem d_M_about_49 : decode b_M_about 49 = .ok (.iconst 3, 1) := by decide +kernel
theorem d_M_about_50 : decode b_M_about 50 = .ok (.if_icmp .ne 10, 3) := by decide +kernel
theorem d_M_about_53 : decode b_M_about 53 = .ok (.aload_n 0, 1) := by decide +kernel
theorem d_M_about_54 : decode b_M_about 54 = .ok (.getfield 56, 3) := by decide +kernel
end
section
theorem d_M_about_57 : decode b_M_about 57 = .ok (.goto 4, 3) := by decide +kernel
theorem d_M_about_60 : decode b_M_about 60 = .ok (.iconst (-1), 1) := by decide +kernel
theorem d_M_about_61 : decode b_M_about 61 = .ok (.ireturn, 1) := by decide +kernel
theorem d_M_poke_0 : decode b_M_poke 0 = .ok (.aload_n 0, 1) := by decide +kernel
theorem d_M_poke_1 : decode b_M_poke 1 = .ok (.iload_n 1, 1) := by decide +kernel
theorem d_M_poke_2 : decode b_M_poke 2 = .ok (.invokevirtual 358, 3) := by decide +kernel
theorem d_M_poke_5 : decode b_M_poke 5 = .ok (.ifCond .ne 14, 3) := by decide +kernel
theorem d_M_poke_8 : decode b_M_poke 8 = .ok (.aload_n 0, 1) := by decide +kernel
theorem d_M_poke_9 : decode b_M_poke 9 = .ok (.getfield 13, 3) := by decide +kernel
theorem d_M_poke_12 : decode b_M_poke 12 = .ok (.iload_n 1, 1) := by decide +kernel
theorem d_M_poke_13 : decode b_M_poke 13 = .ok (.iload_n 2, 1) := by decide +kernel
theorem d_M_poke_14 : decode b_M_poke 14 = .ok (.sipush 255, 3) := by decide +kernel
theorem d_M_poke_17 : decode b_M_poke 17 = .ok (.iand, 1) := by decide +kernel
theorem d_M_poke_18 : decode b_M_poke 18 = .ok (.iastore, 1) := by decide +kernel
theorem d_M_poke_19 : decode b_M_poke 19 = .ok (.return_, 1) := by decide +kernel
theorem d_M_refuses_0 : decode b_M_refuses 0 = .ok (.aload_n 0, 1) := by decide +kernel
theorem d_M_refuses_1 : decode b_M_refuses 1 = .ok (.iload_n 1, 1) := by decide +kernel
theorem d_M_refuses_2 : decode b_M_refuses 2 = .ok (.ifCond .lt 10, 3) := by decide +kernel
theorem d_M_refuses_5 : decode b_M_refuses 5 = .ok (.iload_n 1, 1) := by decide +kernel
theorem d_M_refuses_6 : decode b_M_refuses 6 = .ok (.sipush 255, 3) := by decide +kernel
theorem d_M_refuses_9 : decode b_M_refuses 9 = .ok (.if_icmp .le 7, 3) := by decide +kernel
theorem d_M_refuses_12 : decode b_M_refuses 12 = .ok (.iconst 1, 1) := by decide +kernel
theorem d_M_refuses_13 : decode b_M_refuses 13 = .ok (.goto 4, 3) := by decide +kernel
theorem d_M_refuses_16 : decode b_M_refuses 16 = .ok (.iconst 0, 1) := by decide +kernel
theorem d_M_refuses_17 : decode b_M_refuses 17 = .ok (.putfield 26, 3) := by decide +kernel
theorem d_M_refuses_20 : decode b_M_refuses 20 = .ok (.aload_n 0, 1) := by decide +kernel
theorem d_M_refuses_21 : decode b_M_refuses 21 = .ok (.getfield 26, 3) := by decide +kernel
theorem d_M_refuses_24 : decode b_M_refuses 24 = .ok (.ifCond .le 7, 3) := by decide +kernel
theorem d_M_refuses_27 : decode b_M_refuses 27 = .ok (.iconst 1, 1) := by decide +kernel
theorem d_M_refuses_28 : decode b_M_refuses 28 = .ok (.goto 4, 3) := by decide +kernel
theorem d_M_refuses_31 : decode b_M_refuses 31 = .ok (.iconst 0, 1) := by decide +kernel
theorem d_M_refuses_32 : decode b_M_refuses 32 = .ok (.ireturn, 1) := by decide +kernel
theorem d_M_at_0 : decode b_M_at 0 = .ok (.aload_n 0, 1) := by decide +kernel
theorem d_M_at_1 : decode b_M_at 1 = .ok (.iload_n 1, 1) := by decide +kernel
theorem d_M_at_2 : decode b_M_at 2 = .ok (.invokevirtual 358, 3) := by decide +kernel
theorem d_M_at_5 : decode b_M_at 5 = .ok (.ifCond .ne 16, 3) := by decide +kernel
theorem d_M_at_8 : decode b_M_at 8 = .ok (.iload_n 1, 1) := by decide +kernel
theorem d_M_at_9 : decode b_M_at 9 = .ok (.aload_n 0, 1) := by decide +kernel
theorem d_M_at_10 : decode b_M_at 10 = .ok (.iload_n 1, 1) := by decide +kernel
theorem d_M_at_11 : decode b_M_at 11 = .ok (.invokevirtual 362, 3) := by decide +kernel
theorem d_M_at_14 : decode b_M_at 14 = .ok (.iadd, 1) := by decide +kernel
theorem d_M_at_15 : decode b_M_at 15 = .ok (.sipush 256, 3) := by decide +kernel
theorem d_M_at_18 : decode b_M_at 18 = .ok (.if_icmp .le 5, 3) := by decide +kernel
theorem d_M_at_21 : decode b_M_at 21 = .ok (.iconst 0, 1) := by decide +kernel
theorem d_M_at_22 : decode b_M_at 22 = .ok (.ireturn, 1) := by decide +kernel
theorem d_M_at_23 : decode b_M_at 23 = .ok (.aload_n 0, 1) := by decide +kernel
theorem d_M_at_24 : decode b_M_at 24 = .ok (.aload_n 0, 1) := by decide +kernel
theorem d_M_at_25 : decode b_M_at 25 = .ok (.iload_n 1, 1) := by decide +kernel
theorem d_M_at_26 : decode b_M_at 26 = .ok (.invokevirtual 366, 3) := by decide +kernel
theorem d_M_at_29 : decode b_M_at 29 = .ok (.putfield 30, 3) := by decide +kernel
theorem d_M_at_32 : decode b_M_at 32 = .ok (.aload_n 0, 1) := by decide +kernel
theorem d_M_at_33 : decode b_M_at 33 = .ok (.invokevirtual 355, 3) := by decide +kernel
theorem d_M_at_36 : decode b_M_at 36 = .ok (.aload_n 0, 1) := by decide +kernel
theorem d_M_at_37 : decode b_M_at 37 = .ok (.getfield 333, 3) := by decide +kernel
theorem d_M_at_40 : decode b_M_at 40 = .ok (.ireturn, 1) := by decide +kernel
theorem d_M_long4_0 : decode b_M_long4 0 = .ok (.aload_n 0, 1) := by decide +kernel
theorem d_M_long4_1 : decode b_M_long4 1 = .ok (.getfield 13, 3) := by decide +kernel
theorem d_M_long4_4 : decode b_M_long4 4 = .ok (.iload_n 1, 1) := by decide +kernel
theorem d_M_long4_5 : decode b_M_long4 5 = .ok (.iaload, 1) := by decide +kernel
theorem d_M_long4_6 : decode b_M_long4 6 = .ok (.iconst 3, 1) := by decide +kernel
theorem d_M_long4_7 : decode b_M_long4 7 = .ok (.iand, 1) := by decide +kernel
theorem d_M_long4_8 : decode b_M_long4 8 = .ok (.iconst 3, 1) := by decide +kernel
theorem d_M_long4_9 : decode b_M_long4 9 = .ok (.if_icmp .ne 7, 3) := by decide +kernel
theorem d_M_long4_12 : decode b_M_long4 12 = .ok (.iconst 4, 1) := by decide +kernel
theorem d_M_long4_13 : decode b_M_long4 13 = .ok (.goto 4, 3) := by decide +kernel
theorem d_M_long4_16 : decode b_M_long4 16 = .ok (.iconst 2, 1) := by decide +kernel
theorem d_M_long4_17 : decode b_M_long4 17 = .ok (.ireturn, 1) := by decide +kernel
theorem d_M_take_0 : decode b_M_take 0 = .ok (.aload_n 0, 1) := by decide +kernel
theorem d_M_take_1 : decode b_M_take 1 = .ok (.getfield 13, 3) := by decide +kernel
theorem d_M_take_4 : decode b_M_take 4 = .ok (.iload_n 1, 1) := by decide +kernel
theorem d_M_take_5 : decode b_M_take 5 = .ok (.iaload, 1) := by decide +kernel
theorem d_M_take_6 : decode b_M_take 6 = .ok (.aload_n 0, 1) := by decide +kernel
theorem d_M_take_7 : decode b_M_take 7 = .ok (.getfield 13, 3) := by decide +kernel
theorem d_M_take_10 : decode b_M_take 10 = .ok (.iload_n 1, 1) := by decide +kernel
theorem d_M_take_11 : decode b_M_take 11 = .ok (.iconst 1, 1) := by decide +kernel
theorem d_M_take_12 : decode b_M_take 12 = .ok (.iadd, 1) := by decide +kernel
theorem d_M_take_13 : decode b_M_take 13 = .ok (.iaload, 1) := by decide +kernel
theorem d_M_take_14 : decode b_M_take 14 = .ok (.bipush 8, 2) := by decide +kernel
theorem d_M_take_16 : decode b_M_take 16 = .ok (.ishl, 1) := by decide +kernel
theorem d_M_take_17 : decode b_M_take 17 = .ok (.ior, 1) := by decide +kernel
theorem d_M_take_18 : decode b_M_take 18 = .ok (.istore_n 2, 1) := by decide +kernel
theorem d_M_take_19 : decode b_M_take 19 = .ok (.aload_n 0, 1) := by decide +kernel
theorem d_M_take_20 : decode b_M_take 20 = .ok (.iload_n 1, 1) := by decide +kernel
theorem d_M_take_21 : decode b_M_take 21 = .ok (.invokevirtual 362, 3) := by decide +kernel
theorem d_M_take_24 : decode b_M_take 24 = .ok (.iconst 2, 1) := by decide +kernel
theorem d_M_take_25 : decode b_M_take 25 = .ok (.if_icmp .ne 7, 3) := by decide +kernel
theorem d_M_take_28 : decode b_M_take 28 = .ok (.iload_n 2, 1) := by decide +kernel
theorem d_M_take_29 : decode b_M_take 29 = .ok (.goto 28, 3) := by decide +kernel
theorem d_M_take_32 : decode b_M_take 32 = .ok (.iload_n 2, 1) := by decide +kernel
theorem d_M_take_33 : decode b_M_take 33 = .ok (.aload_n 0, 1) := by decide +kernel
theorem d_M_take_34 : decode b_M_take 34 = .ok (.getfield 13, 3) := by decide +kernel
theorem d_M_take_37 : decode b_M_take 37 = .ok (.iload_n 1, 1) := by decide +kernel
theorem d_M_take_38 : decode b_M_take 38 = .ok (.iconst 2, 1) := by decide +kernel
theorem d_M_take_39 : decode b_M_take 39 = .ok (.iadd, 1) := by decide +kernel
theorem d_M_take_40 : decode b_M_take 40 = .ok (.iaload, 1) := by decide +kernel
theorem d_M_take_41 : decode b_M_take 41 = .ok (.bipush 16, 2) := by decide +kernel
theorem d_M_take_43 : decode b_M_take 43 = .ok (.ishl, 1) := by decide +kernel
theorem d_M_take_44 : decode b_M_take 44 = .ok (.ior, 1) := by decide +kernel
theorem d_M_take_45 : decode b_M_take 45 = .ok (.aload_n 0, 1) := by decide +kernel
theorem d_M_take_46 : decode b_M_take 46 = .ok (.getfield 13, 3) := by decide +kernel
theorem d_M_take_49 : decode b_M_take 49 = .ok (.iload_n 1, 1) := by decide +kernel
theorem d_M_take_50 : decode b_M_take 50 = .ok (.iconst 3, 1) := by decide +kernel
theorem d_M_take_51 : decode b_M_take 51 = .ok (.iadd, 1) := by decide +kernel
theorem d_M_take_52 : decode b_M_take 52 = .ok (.iaload, 1) := by decide +kernel
theorem d_M_take_53 : decode b_M_take 53 = .ok (.bipush 24, 2) := by decide +kernel
theorem d_M_take_55 : decode b_M_take 55 = .ok (.ishl, 1) := by decide +kernel
theorem d_M_take_56 : decode b_M_take 56 = .ok (.ior, 1) := by decide +kernel
theorem d_M_take_57 : decode b_M_take 57 = .ok (.ireturn, 1) := by decide +kernel
theorem d_M_next2_0 : decode b_M_next2 0 = .ok (.aload_n 0, 1) := by decide +kernel
theorem d_M_next2_1 : decode b_M_next2 1 = .ok (.iload_n 1, 1) := by decide +kernel
theorem d_M_next2_2 : decode b_M_next2 2 = .ok (.invokevirtual 358, 3) := by decide +kernel
theorem d_M_next2_5 : decode b_M_next2 5 = .ok (.ifCond .eq 5, 3) := by decide +kernel
theorem d_M_next2_8 : decode b_M_next2 8 = .ok (.iconst 0, 1) := by decide +kernel
theorem d_M_next2_9 : decode b_M_next2 9 = .ok (.ireturn, 1) := by decide +kernel
theorem d_M_next2_10 : decode b_M_next2 10 = .ok (.aload_n 0, 1) := by decide +kernel
theorem d_M_next2_11 : decode b_M_next2 11 = .ok (.iload_n 2, 1) := by decide +kernel
theorem d_M_next2_12 : decode b_M_next2 12 = .ok (.ifCond .ge 7, 3) := by decide +kernel
theorem d_M_next2_15 : decode b_M_next2 15 = .ok (.iconst 2, 1) := by decide +kernel
theorem d_M_next2_16 : decode b_M_next2 16 = .ok (.goto 4, 3) := by decide +kernel
theorem d_M_next2_19 : decode b_M_next2 19 = .ok (.iconst 0, 1) := by decide +kernel
theorem d_M_next2_20 : decode b_M_next2 20 = .ok (.putfield 26, 3) := by decide +kernel
theorem d_M_next2_23 : decode b_M_next2 23 = .ok (.iload_n 2, 1) := by decide +kernel
theorem d_M_next2_24 : decode b_M_next2 24 = .ok (.ifCond .ge 5, 3) := by decide +kernel
theorem d_M_next2_27 : decode b_M_next2 27 = .ok (.iconst 0, 1) := by decide +kernel
theorem d_M_next2_28 : decode b_M_next2 28 = .ok (.ireturn, 1) := by decide +kernel
theorem d_M_next2_29 : decode b_M_next2 29 = .ok (.iload_n 1, 1) := by decide +kernel
theorem d_M_next2_30 : decode b_M_next2 30 = .ok (.istore_n 3, 1) := by decide +kernel
theorem d_M_next2_31 : decode b_M_next2 31 = .ok (.iconst 0, 1) := by decide +kernel
theorem d_M_next2_32 : decode b_M_next2 32 = .ok (.istore 4, 2) := by decide +kernel
theorem d_M_next2_34 : decode b_M_next2 34 = .ok (.iload 4, 2) := by decide +kernel
theorem d_M_next2_36 : decode b_M_next2 36 = .ok (.iload_n 2, 1) := by decide +kernel
theorem d_M_next2_37 : decode b_M_next2 37 = .ok (.if_icmp .ge 24, 3) := by decide +kernel
theorem d_M_next2_40 : decode b_M_next2 40 = .ok (.iload_n 3, 1) := by decide +kernel
theorem d_M_next2_41 : decode b_M_next2 41 = .ok (.sipush 255, 3) := by decide +kernel
theorem d_M_next2_44 : decode b_M_next2 44 = .ok (.if_icmp .ge 17, 3) := by decide +kernel
theorem d_M_next2_47 : decode b_M_next2 47 = .ok (.iload_n 3, 1) := by decide +kernel
theorem d_M_next2_48 : decode b_M_next2 48 = .ok (.aload_n 0, 1) := by decide +kernel
theorem d_M_next2_49 : decode b_M_next2 49 = .ok (.iload_n 3, 1) := by decide +kernel
theorem d_M_next2_50 : decode b_M_next2 50 = .ok (.invokevirtual 362, 3) := by decide +kernel
theorem d_M_next2_53 : decode b_M_next2 53 = .ok (.iadd, 1) := by decide +kernel
theorem d_M_next2_54 : decode b_M_next2 54 = .ok (.istore_n 3, 1) := by decide +kernel
theorem d_M_next2_55 : decode b_M_next2 55 = .ok (.iinc 4 1, 3) := by decide +kernel
theorem d_M_next2_58 : decode b_M_next2 58 = .ok (.goto (-24), 3) := by decide +kernel
theorem d_M_next2_61 : decode b_M_next2 61 = .ok (.iload_n 3, 1) := by decide +kernel
theorem d_M_next2_62 : decode b_M_next2 62 = .ok (.sipush 255, 3) := by decide +kernel
theorem d_M_next2_65 : decode b_M_next2 65 = .ok (.if_icmp .ge 7, 3) := by decide +kernel
theorem d_M_next2_68 : decode b_M_next2 68 = .ok (.iload_n 3, 1) := by decide +kernel
theorem d_M_next2_69 : decode b_M_next2 69 = .ok (.goto 4, 3) := by decide +kernel
theorem d_M_next2_72 : decode b_M_next2 72 = .ok (.iconst (-1), 1) := by decide +kernel
theorem d_M_next2_73 : decode b_M_next2 73 = .ok (.ireturn, 1) := by decide +kernel
theorem d_M_before_0 : decode b_M_before 0 = .ok (.aload_n 0, 1) := by decide +kernel
theorem d_M_before_1 : decode b_M_before 1 = .ok (.iload_n 1, 1) := by decide +kernel
theorem d_M_before_2 : decode b_M_before 2 = .ok (.invokevirtual 358, 3) := by decide +kernel
theorem d_M_before_5 : decode b_M_before 5 = .ok (.ifCond .ne 11, 3) := by decide +kernel
theorem d_M_before_8 : decode b_M_before 8 = .ok (.aload_n 0, 1) := by decide +kernel
theorem d_M_before_9 : decode b_M_before 9 = .ok (.iload_n 2, 1) := by decide +kernel
theorem d_M_before_10 : decode b_M_before 10 = .ok (.invokevirtual 358, 3) := by decide +kernel
theorem d_M_before_13 : decode b_M_before 13 = .ok (.ifCond .eq 5, 3) := by decide +kernel
theorem d_M_before_16 : decode b_M_before 16 = .ok (.iconst 0, 1) := by decide +kernel
theorem d_M_before_17 : decode b_M_before 17 = .ok (.ireturn, 1) := by decide +kernel
theorem d_M_before_18 : decode b_M_before 18 = .ok (.iconst (-1), 1) := by decide +kernel
theorem d_M_before_19 : decode b_M_before 19 = .ok (.istore_n 3, 1) := by decide +kernel
theorem d_M_before_20 : decode b_M_before 20 = .ok (.iload_n 1, 1) := by decide +kernel
theorem d_M_before_21 : decode b_M_before 21 = .ok (.istore 4, 2) := by decide +kernel
theorem d_M_before_23 : decode b_M_before 23 = .ok (.iload 4, 2) := by decide +kernel
theorem d_M_before_25 : decode b_M_before 25 = .ok (.iload_n 2, 1) := by decide +kernel
theorem d_M_before_26 : decode b_M_before 26 = .ok (.if_icmp .ge 28, 3) := by decide +kernel
theorem d_M_before_29 : decode b_M_before 29 = .ok (.iload 4, 2) := by decide +kernel
theorem d_M_before_31 : decode b_M_before 31 = .ok (.sipush 255, 3) := by decide +kernel
theorem d_M_before_34 : decode b_M_before 34 = .ok (.if_icmp .ge 20, 3) := by decide +kernel
theorem d_M_before_37 : decode b_M_before 37 = .ok (.iload 4, 2) := by decide +kernel
theorem d_M_before_39 : decode b_M_before 39 = .ok (.istore_n 3, 1) := by decide +kernel
theorem d_M_before_40 : decode b_M_before 40 = .ok (.iload 4, 2) := by decide +kernel
theorem d_M_before_42 : decode b_M_before 42 = .ok (.aload_n 0, 1) := by decide +kernel
theorem d_M_before_43 : decode b_M_before 43 = .ok (.iload 4, 2) := by decide +kernel
theorem d_M_before_45 : decode b_M_before 45 = .ok (.invokevirtual 362, 3) := by decide +kernel
theorem d_M_before_48 : decode b_M_before 48 = .ok (.iadd, 1) := by decide +kernel
theorem d_M_before_49 : decode b_M_before 49 = .ok (.istore 4, 2) := by decide +kernel
theorem d_M_before_51 : decode b_M_before 51 = .ok (.goto (-28), 3) := by decide +kernel
theorem d_M_before_54 : decode b_M_before 54 = .ok (.iload_n 3, 1) := by decide +kernel
theorem d_M_before_55 : decode b_M_before 55 = .ok (.ireturn, 1) := by decide +kernel
theorem d_M_numbers_0 : decode b_M_numbers 0 = .ok (.aload_n 0, 1) := by decide +kernel
theorem d_M_numbers_1 : decode b_M_numbers 1 = .ok (.iload_n 1, 1) := by decide +kernel
theorem d_M_numbers_2 : decode b_M_numbers 2 = .ok (.invokevirtual 358, 3) := by decide +kernel
theorem d_M_numbers_5 : decode b_M_numbers 5 = .ok (.ifCond .eq 5, 3) := by decide +kernel
theorem d_M_numbers_8 : decode b_M_numbers 8 = .ok (.iconst 0, 1) := by decide +kernel
theorem d_M_numbers_9 : decode b_M_numbers 9 = .ok (.ireturn, 1) := by decide +kernel
theorem d_M_numbers_10 : decode b_M_numbers 10 = .ok (.iconst 0, 1) := by decide +kernel
theorem d_M_numbers_11 : decode b_M_numbers 11 = .ok (.istore_n 2, 1) := by decide +kernel
theorem d_M_numbers_12 : decode b_M_numbers 12 = .ok (.iload_n 1, 1) := by decide +kernel
theorem d_M_numbers_13 : decode b_M_numbers 13 = .ok (.istore_n 3, 1) := by decide +kernel
theorem d_M_numbers_14 : decode b_M_numbers 14 = .ok (.aload_n 0, 1) := by decide +kernel
theorem d_M_numbers_15 : decode b_M_numbers 15 = .ok (.getfield 33, 3) := by decide +kernel
theorem d_M_numbers_18 : decode b_M_numbers 18 = .ok (.istore 4, 2) := by decide +kernel
theorem d_M_numbers_20 : decode b_M_numbers 20 = .ok (.aload_n 0, 1) := by decide +kernel
theorem d_M_numbers_21 : decode b_M_numbers 21 = .ok (.getfield 333, 3) := by decide +kernel
theorem d_M_numbers_24 : decode b_M_numbers 24 = .ok (.istore 5, 2) := by decide +kernel
theorem d_M_numbers_26 : decode b_M_numbers 26 = .ok (.aload_n 0, 1) := by decide +kernel
theorem d_M_numbers_27 : decode b_M_numbers 27 = .ok (.getfield 56, 3) := by decide +kernel
theorem d_M_numbers_30 : decode b_M_numbers 30 = .ok (.istore 6, 2) := by decide +kernel
theorem d_M_numbers_32 : decode b_M_numbers 32 = .ok (.aload_n 0, 1) := by decide +kernel
theorem d_M_numbers_33 : decode b_M_numbers 33 = .ok (.getfield 52, 3) := by decide +kernel
theorem d_M_numbers_36 : decode b_M_numbers 36 = .ok (.istore 7, 2) := by decide +kernel
theorem d_M_numbers_38 : decode b_M_numbers 38 = .ok (.iconst 0, 1) := by decide +kernel
theorem d_M_numbers_39 : decode b_M_numbers 39 = .ok (.istore 8, 2) := by decide +kernel
theorem d_M_numbers_41 : decode b_M_numbers 41 = .ok (.iload 8, 2) := by decide +kernel
theorem d_M_numbers_43 : decode b_M_numbers 43 = .ok (.aload_n 0, 1) := by decide +kernel
theorem d_M_numbers_44 : decode b_M_numbers 44 = .ok (.getfield 33, 3) := by decide +kernel
theorem d_M_numbers_47 : decode b_M_numbers 47 = .ok (.if_icmp .ge 23, 3) := by decide +kernel
theorem d_M_numbers_50 : decode b_M_numbers 50 = .ok (.aload_n 0, 1) := by decide +kernel
theorem d_M_numbers_51 : decode b_M_numbers 51 = .ok (.getfield 23, 3) := by decide +kernel
theorem d_M_numbers_54 : decode b_M_numbers 54 = .ok (.iload 8, 2) := by decide +kernel
theorem d_M_numbers_56 : decode b_M_numbers 56 = .ok (.aload_n 0, 1) := by decide +kernel
theorem d_M_numbers_57 : decode b_M_numbers 57 = .ok (.getfield 7, 3) := by decide +kernel
theorem d_M_numbers_60 : decode b_M_numbers 60 = .ok (.iload 8, 2) := by decide +kernel
theorem d_M_numbers_62 : decode b_M_numbers 62 = .ok (.caload, 1) := by decide +kernel
theorem d_M_numbers_63 : decode b_M_numbers 63 = .ok (.castore, 1) := by decide +kernel
theorem d_M_numbers_64 : decode b_M_numbers 64 = .ok (.iinc 8 1, 3) := by decide +kernel
theorem d_M_numbers_67 : decode b_M_numbers 67 = .ok (.goto (-26), 3) := by decide +kernel
theorem d_M_numbers_70 : decode b_M_numbers 70 = .ok (.iload_n 3, 1) := by decide +kernel
theorem d_M_numbers_71 : decode b_M_numbers 71 = .ok (.sipush 255, 3) := by decide +kernel
theorem d_M_numbers_74 : decode b_M_numbers 74 = .ok (.if_icmp .ge 54, 3) := by decide +kernel
theorem d_M_numbers_77 : decode b_M_numbers 77 = .ok (.iload_n 3, 1) := by decide +kernel
theorem d_M_numbers_78 : decode b_M_numbers 78 = .ok (.aload_n 0, 1) := by decide +kernel
theorem d_M_numbers_79 : decode b_M_numbers 79 = .ok (.iload_n 3, 1) := by decide +kernel
theorem d_M_numbers_80 : decode b_M_numbers 80 = .ok (.invokevirtual 362, 3) := by decide +kernel
theorem d_M_numbers_83 : decode b_M_numbers 83 = .ok (.iadd, 1) := by decide +kernel
theorem d_M_numbers_84 : decode b_M_numbers 84 = .ok (.sipush 256, 3) := by decide +kernel
theorem d_M_numbers_87 : decode b_M_numbers 87 = .ok (.if_icmp .gt 41, 3) := by decide +kernel
theorem d_M_numbers_90 : decode b_M_numbers 90 = .ok (.aload_n 0, 1) := by decide +kernel
theorem d_M_numbers_91 : decode b_M_numbers 91 = .ok (.aload_n 0, 1) := by decide +kernel
theorem d_M_numbers_92 : decode b_M_numbers 92 = .ok (.iload_n 3, 1) := by decide +kernel
theorem d_M_numbers_93 : decode b_M_numbers 93 = .ok (.invokevirtual 366, 3) := by decide +kernel
theorem d_M_numbers_96 : decode b_M_numbers 96 = .ok (.putfield 30, 3) := by decide +kernel
theorem d_M_numbers_99 : decode b_M_numbers 99 = .ok (.aload_n 0, 1) := by decide +kernel
theorem d_M_numbers_100 : decode b_M_numbers 100 = .ok (.invokevirtual 355, 3) := by decide +kernel
theorem d_M_numbers_103 : decode b_M_numbers 103 = .ok (.iload_n 2, 1) := by decide +kernel
theorem d_M_numbers_104 : decode b_M_numbers 104 = .ok (.aload_n 0, 1) := by decide +kernel
theorem d_M_numbers_105 : decode b_M_numbers 105 = .ok (.getfield 52, 3) := by decide +kernel
theorem d_M_numbers_108 : decode b_M_numbers 108 = .ok (.ifCond .eq 7, 3) := by decide +kernel
theorem d_M_numbers_111 : decode b_M_numbers 111 = .ok (.iconst 0, 1) := by decide +kernel
theorem d_M_numbers_112 : decode b_M_numbers 112 = .ok (.goto 4, 3) := by decide +kernel
theorem d_M_numbers_115 : decode b_M_numbers 115 = .ok (.iconst 1, 1) := by decide +kernel
theorem d_M_numbers_116 : decode b_M_numbers 116 = .ok (.iadd, 1) := by decide +kernel
theorem d_M_numbers_117 : decode b_M_numbers 117 = .ok (.istore_n 2, 1) := by decide +kernel
theorem d_M_numbers_118 : decode b_M_numbers 118 = .ok (.iload_n 3, 1) := by decide +kernel
theorem d_M_numbers_119 : decode b_M_numbers 119 = .ok (.aload_n 0, 1) := by decide +kernel
theorem d_M_numbers_120 : decode b_M_numbers 120 = .ok (.getfield 333, 3) := by decide +kernel
theorem d_M_numbers_123 : decode b_M_numbers 123 = .ok (.iadd, 1) := by decide +kernel
theorem d_M_numbers_124 : decode b_M_numbers 124 = .ok (.istore_n 3, 1) := by decide +kernel
theorem d_M_numbers_125 : decode b_M_numbers 125 = .ok (.goto (-55), 3) := by decide +kernel
theorem d_M_numbers_128 : decode b_M_numbers 128 = .ok (.aload_n 0, 1) := by decide +kernel
theorem d_M_numbers_129 : decode b_M_numbers 129 = .ok (.iload 4, 2) := by decide +kernel
theorem d_M_numbers_131 : decode b_M_numbers 131 = .ok (.putfield 33, 3) := by decide +kernel
theorem d_M_numbers_134 : decode b_M_numbers 134 = .ok (.aload_n 0, 1) := by decide +kernel
theorem d_M_numbers_135 : decode b_M_numbers 135 = .ok (.iload 5, 2) := by decide +kernel
theorem d_M_numbers_137 : decode b_M_numbers 137 = .ok (.putfield 333, 3) := by decide +kernel
theorem d_M_numbers_140 : decode b_M_numbers 140 = .ok (.aload_n 0, 1) := by decide +kernel
theorem d_M_numbers_141 : decode b_M_numbers 141 = .ok (.iload 6, 2) := by decide +kernel
theorem d_M_numbers_143 : decode b_M_numbers 143 = .ok (.putfield 56, 3) := by decide +kernel
theorem d_M_numbers_146 : decode b_M_numbers 146 = .ok (.aload_n 0, 1) := by decide +kernel
theorem d_M_numbers_147 : decode b_M_numbers 147 = .ok (.iload 7, 2) := by decide +kernel
theorem d_M_numbers_149 : decode b_M_numbers 149 = .ok (.putfield 52, 3) := by decide +kernel
theorem d_M_numbers_152 : decode b_M_numbers 152 = .ok (.iconst 0, 1) := by decide +kernel
theorem d_M_numbers_153 : decode b_M_numbers 153 = .ok (.istore 8, 2) := by decide +kernel
theorem d_M_numbers_155 : decode b_M_numbers 155 = .ok (.iload 8, 2) := by decide +kernel
theorem d_M_numbers_157 : decode b_M_numbers 157 = .ok (.aload_n 0, 1) := by decide +kernel
theorem d_M_numbers_158 : decode b_M_numbers 158 = .ok (.getfield 33, 3) := by decide +kernel
theorem d_M_numbers_161 : decode b_M_numbers 161 = .ok (.if_icmp .ge 23, 3) := by decide +kernel
theorem d_M_numbers_164 : decode b_M_numbers 164 = .ok (.aload_n 0, 1) := by decide +kernel
theorem d_M_numbers_165 : decode b_M_numbers 165 = .ok (.getfield 7, 3) := by decide +kernel
theorem d_M_numbers_168 : decode b_M_numbers 168 = .ok (.iload 8, 2) := by decide +kernel
theorem d_M_numbers_170 : decode b_M_numbers 170 = .ok (.aload_n 0, 1) := by decide +kernel
theorem d_M_numbers_171 : decode b_M_numbers 171 = .ok (.getfield 23, 3) := by decide +kernel
theorem d_M_numbers_174 : decode b_M_numbers 174 = .ok (.iload 8, 2) := by decide +kernel
theorem d_M_numbers_176 : decode b_M_numbers 176 = .ok (.caload, 1) := by decide +kernel
theorem d_M_numbers_177 : decode b_M_numbers 177 = .ok (.castore, 1) := by decide +kernel
theorem d_M_numbers_178 : decode b_M_numbers 178 = .ok (.iinc 8 1, 3) := by decide +kernel
theorem d_M_numbers_181 : decode b_M_numbers 181 = .ok (.goto (-26), 3) := by decide +kernel
theorem d_M_numbers_184 : decode b_M_numbers 184 = .ok (.iload_n 2, 1) := by decide +kernel
theorem d_M_numbers_185 : decode b_M_numbers 185 = .ok (.ireturn, 1) := by decide +kernel
theorem d_W_law_0 : decode code 0 = .ok (.new 8, 3) := by decide +kernel
theorem d_W_law_3 : decode code 3 = .ok (.dup, 1) := by decide +kernel
theorem d_W_law_4 : decode code 4 = .ok (.invokespecial 35, 3) := by decide +kernel
theorem d_W_law_7 : decode code 7 = .ok (.astore_n 1, 1) := by decide +kernel
theorem d_W_law_8 : decode code 8 = .ok (.new 36, 3) := by decide +kernel
theorem d_W_law_11 : decode code 11 = .ok (.dup, 1) := by decide +kernel
theorem d_W_law_12 : decode code 12 = .ok (.invokespecial 38, 3) := by decide +kernel
theorem d_W_law_15 : decode code 15 = .ok (.astore_n 2, 1) := by decide +kernel
theorem d_W_law_16 : decode code 16 = .ok (.iconst 1, 1) := by decide +kernel
theorem d_W_law_17 : decode code 17 = .ok (.newarray .long, 2) := by decide +kernel
theorem d_W_law_19 : decode code 19 = .ok (.astore_n 3, 1) := by decide +kernel
theorem d_W_law_20 : decode code 20 = .ok (.iconst 0, 1) := by decide +kernel
theorem d_W_law_21 : decode code 21 = .ok (.istore 4, 2) := by decide +kernel
theorem d_W_law_23 : decode code 23 = .ok (.iload 4, 2) := by decide +kernel
theorem d_W_law_25 : decode code 25 = .ok (.aload_n 0, 1) := by decide +kernel
theorem d_W_law_26 : decode code 26 = .ok (.arraylength, 1) := by decide +kernel
theorem d_W_law_27 : decode code 27 = .ok (.iconst 3, 1) := by decide +kernel
theorem d_W_law_28 : decode code 28 = .ok (.isub, 1) := by decide +kernel
theorem d_W_law_29 : decode code 29 = .ok (.if_icmp .gt 463, 3) := by decide +kernel
theorem d_W_law_32 : decode code 32 = .ok (.aload_n 0, 1) := by decide +kernel
theorem d_W_law_33 : decode code 33 = .ok (.iload 4, 2) := by decide +kernel
theorem d_W_law_35 : decode code 35 = .ok (.iaload, 1) := by decide +kernel
theorem d_W_law_36 : decode code 36 = .ok (.bipush 7, 2) := by decide +kernel
theorem d_W_law_38 : decode code 38 = .ok (.iand, 1) := by decide +kernel
theorem d_W_law_39 : decode code 39 = .ok (.tableswitch 447 0 7 #[45, 70, 126, 151, 199, 255, 323, 391], 45) := by decide +kernel
theorem d_W_law_84 : decode code 84 = .ok (.aload_n 1, 1) := by decide +kernel
theorem d_W_law_85 : decode code 85 = .ok (.aload_n 0, 1) := by decide +kernel
theorem d_W_law_86 : decode code 86 = .ok (.iload 4, 2) := by decide +kernel
theorem d_W_law_88 : decode code 88 = .ok (.iconst 1, 1) := by decide +kernel
theorem d_W_law_89 : decode code 89 = .ok (.iadd, 1) := by decide +kernel
theorem d_W_law_90 : decode code 90 = .ok (.iaload, 1) := by decide +kernel
theorem d_W_law_91 : decode code 91 = .ok (.invokevirtual 39, 3) := by decide +kernel
theorem d_W_law_94 : decode code 94 = .ok (.aload_n 2, 1) := by decide +kernel
theorem d_W_law_95 : decode code 95 = .ok (.aload_n 0, 1) := by decide +kernel
theorem d_W_law_96 : decode code 96 = .ok (.iload 4, 2) := by decide +kernel
theorem d_W_law_98 : decode code 98 = .ok (.iconst 1, 1) := by decide +kernel
theorem d_W_law_99 : decode code 99 = .ok (.iadd, 1) := by decide +kernel
theorem d_W_law_100 : decode code 100 = .ok (.iaload, 1) := by decide +kernel
theorem d_W_law_101 : decode code 101 = .ok (.invokevirtual 42, 3) := by decide +kernel
theorem d_W_law_104 : decode code 104 = .ok (.if_icmp .eq 382, 3) := by decide +kernel
theorem d_W_law_107 : decode code 107 = .ok (.iconst 0, 1) := by decide +kernel
theorem d_W_law_108 : decode code 108 = .ok (.ireturn, 1) := by decide +kernel
theorem d_W_law_109 : decode code 109 = .ok (.aload_n 1, 1) := by decide +kernel
theorem d_W_law_110 : decode code 110 = .ok (.aload_n 0, 1) := by decide +kernel
theorem d_W_law_111 : decode code 111 = .ok (.iload 4, 2) := by decide +kernel
theorem d_W_law_113 : decode code 113 = .ok (.iconst 1, 1) := by decide +kernel
theorem d_W_law_114 : decode code 114 = .ok (.iadd, 1) := by decide +kernel
theorem d_W_law_115 : decode code 115 = .ok (.iaload, 1) := by decide +kernel
theorem d_W_law_116 : decode code 116 = .ok (.aload_n 3, 1) := by decide +kernel
theorem d_W_law_117 : decode code 117 = .ok (.invokestatic 43, 3) := by decide +kernel
theorem d_W_law_120 : decode code 120 = .ok (.istore 5, 2) := by decide +kernel
theorem d_W_law_122 : decode code 122 = .ok (.aload_n 2, 1) := by decide +kernel
theorem d_W_law_123 : decode code 123 = .ok (.aload_n 0, 1) := by decide +kernel
theorem d_W_law_124 : decode code 124 = .ok (.iload 4, 2) := by decide +kernel
theorem d_W_law_126 : decode code 126 = .ok (.iconst 1, 1) := by decide +kernel
theorem d_W_law_127 : decode code 127 = .ok (.iadd, 1) := by decide +kernel
theorem d_W_law_128 : decode code 128 = .ok (.iaload, 1) := by decide +kernel
theorem d_W_law_129 : decode code 129 = .ok (.invokevirtual 48, 3) := by decide +kernel
theorem d_W_law_132 : decode code 132 = .ok (.istore 6, 2) := by decide +kernel
theorem d_W_law_134 : decode code 134 = .ok (.aload_n 2, 1) := by decide +kernel
theorem d_W_law_135 : decode code 135 = .ok (.invokevirtual 49, 3) := by decide +kernel
theorem d_W_law_138 : decode code 138 = .ok (.iload 5, 2) := by decide +kernel
theorem d_W_law_140 : decode code 140 = .ok (.if_icmp .eq 5, 3) := by decide +kernel
theorem d_W_law_143 : decode code 143 = .ok (.iconst 0, 1) := by decide +kernel
theorem d_W_law_144 : decode code 144 = .ok (.ireturn, 1) := by decide +kernel
theorem d_W_law_145 : decode code 145 = .ok (.iload 5, 2) := by decide +kernel
theorem d_W_law_147 : decode code 147 = .ok (.ifCond .ne 15, 3) := by decide +kernel
theorem d_W_law_150 : decode code 150 = .ok (.aload_n 3, 1) := by decide +kernel
theorem d_W_law_151 : decode code 151 = .ok (.iconst 0, 1) := by decide +kernel
theorem d_W_law_152 : decode code 152 = .ok (.laload, 1) := by decide +kernel
theorem d_W_law_153 : decode code 153 = .ok (.iload 6, 2) := by decide +kernel
theorem d_W_law_155 : decode code 155 = .ok (.i2l, 1) := by decide +kernel
theorem d_W_law_156 : decode code 156 = .ok (.lcmp, 1) := by decide +kernel
theorem d_W_law_157 : decode code 157 = .ok (.ifCond .eq 5, 3) := by decide +kernel
theorem d_W_law_160 : decode code 160 = .ok (.iconst 0, 1) := by decide +kernel
theorem d_W_law_161 : decode code 161 = .ok (.ireturn, 1) := by decide +kernel
theorem d_W_law_162 : decode code 162 = .ok (.goto 324, 3) := by decide +kernel
theorem d_W_law_165 : decode code 165 = .ok (.aload_n 1, 1) := by decide +kernel
theorem d_W_law_166 : decode code 166 = .ok (.aload_n 0, 1) := by decide +kernel
theorem d_W_law_167 : decode code 167 = .ok (.iload 4, 2) := by decide +kernel
theorem d_W_law_169 : decode code 169 = .ok (.iconst 1, 1) := by decide +kernel
theorem d_W_law_170 : decode code 170 = .ok (.iadd, 1) := by decide +kernel
theorem d_W_law_171 : decode code 171 = .ok (.iaload, 1) := by decide +kernel
theorem d_W_law_172 : decode code 172 = .ok (.invokevirtual 53, 3) := by decide +kernel
theorem d_W_law_175 : decode code 175 = .ok (.aload_n 2, 1) := by decide +kernel
theorem d_W_law_176 : decode code 176 = .ok (.aload_n 0, 1) := by decide +kernel
theorem d_W_law_177 : decode code 177 = .ok (.iload 4, 2) := by decide +kernel
theorem d_W_law_179 : decode code 179 = .ok (.iconst 1, 1) := by decide +kernel
theorem d_W_law_180 : decode code 180 = .ok (.iadd, 1) := by decide +kernel
theorem d_W_law_181 : decode code 181 = .ok (.iaload, 1) := by decide +kernel
theorem d_W_law_182 : decode code 182 = .ok (.invokevirtual 56, 3) := by decide +kernel
theorem d_W_law_185 : decode code 185 = .ok (.if_icmp .eq 301, 3) := by decide +kernel
theorem d_W_law_188 : decode code 188 = .ok (.iconst 0, 1) := by decide +kernel
theorem d_W_law_189 : decode code 189 = .ok (.ireturn, 1) := by decide +kernel
theorem d_W_law_190 : decode code 190 = .ok (.aload_n 1, 1) := by decide +kernel
theorem d_W_law_191 : decode code 191 = .ok (.aload_n 0, 1) := by decide +kernel
theorem d_W_law_192 : decode code 192 = .ok (.iload 4, 2) := by decide +kernel
theorem d_W_law_194 : decode code 194 = .ok (.iconst 1, 1) := by decide +kernel
theorem d_W_law_195 : decode code 195 = .ok (.iadd, 1) := by decide +kernel
theorem d_W_law_196 : decode code 196 = .ok (.iaload, 1) := by decide +kernel
theorem d_W_law_197 : decode code 197 = .ok (.aload_n 0, 1) := by decide +kernel
theorem d_W_law_198 : decode code 198 = .ok (.iload 4, 2) := by decide +kernel
theorem d_W_law_200 : decode code 200 = .ok (.iconst 2, 1) := by decide +kernel
theorem d_W_law_201 : decode code 201 = .ok (.iadd, 1) := by decide +kernel
theorem d_W_law_202 : decode code 202 = .ok (.iaload, 1) := by decide +kernel
theorem d_W_law_203 : decode code 203 = .ok (.invokestatic 57, 3) := by decide +kernel
theorem d_W_law_206 : decode code 206 = .ok (.istore 5, 2) := by decide +kernel
theorem d_W_law_208 : decode code 208 = .ok (.aload_n 2, 1) := by decide +kernel
theorem d_W_law_209 : decode code 209 = .ok (.aload_n 0, 1) := by decide +kernel
theorem d_W_law_210 : decode code 210 = .ok (.iload 4, 2) := by decide +kernel
theorem d_W_law_212 : decode code 212 = .ok (.iconst 1, 1) := by decide +kernel
theorem d_W_law_213 : decode code 213 = .ok (.iadd, 1) := by decide +kernel
theorem d_W_law_214 : decode code 214 = .ok (.iaload, 1) := by decide +kernel
theorem d_W_law_215 : decode code 215 = .ok (.aload_n 0, 1) := by decide +kernel
theorem d_W_law_216 : decode code 216 = .ok (.iload 4, 2) := by decide +kernel
theorem d_W_law_218 : decode code 218 = .ok (.iconst 2, 1) := by decide +kernel
theorem d_W_law_219 : decode code 219 = .ok (.iadd, 1) := by decide +kernel
theorem d_W_law_220 : decode code 220 = .ok (.iaload, 1) := by decide +kernel
theorem d_W_law_221 : decode code 221 = .ok (.invokevirtual 60, 3) := by decide +kernel
theorem d_W_law_224 : decode code 224 = .ok (.aload_n 2, 1) := by decide +kernel
theorem d_W_law_225 : decode code 225 = .ok (.invokevirtual 49, 3) := by decide +kernel
theorem d_W_law_228 : decode code 228 = .ok (.iload 5, 2) := by decide +kernel
theorem d_W_law_230 : decode code 230 = .ok (.if_icmp .eq 5, 3) := by decide +kernel
theorem d_W_law_233 : decode code 233 = .ok (.iconst 0, 1) := by decide +kernel
theorem d_W_law_234 : decode code 234 = .ok (.ireturn, 1) := by decide +kernel
theorem d_W_law_235 : decode code 235 = .ok (.goto 251, 3) := by decide +kernel
theorem d_W_law_238 : decode code 238 = .ok (.aload_n 1, 1) := by decide +kernel
theorem d_W_law_239 : decode code 239 = .ok (.aload_n 0, 1) := by decide +kernel
theorem d_W_law_240 : decode code 240 = .ok (.iload 4, 2) := by decide +kernel
theorem d_W_law_242 : decode code 242 = .ok (.iconst 1, 1) := by decide +kernel
theorem d_W_law_243 : decode code 243 = .ok (.iadd, 1) := by decide +kernel
theorem d_W_law_244 : decode code 244 = .ok (.iaload, 1) := by decide +kernel
theorem d_W_law_245 : decode code 245 = .ok (.aload_n 3, 1) := by decide +kernel
theorem d_W_law_246 : decode code 246 = .ok (.invokestatic 61, 3) := by decide +kernel
theorem d_W_law_249 : decode code 249 = .ok (.istore 5, 2) := by decide +kernel
theorem d_W_law_251 : decode code 251 = .ok (.aload_n 2, 1) := by decide +kernel
theorem d_W_law_252 : decode code 252 = .ok (.aload_n 0, 1) := by decide +kernel
theorem d_W_law_253 : decode code 253 = .ok (.iload 4, 2) := by decide +kernel
theorem d_W_law_255 : decode code 255 = .ok (.iconst 1, 1) := by decide +kernel
theorem d_W_law_256 : decode code 256 = .ok (.iadd, 1) := by decide +kernel
theorem d_W_law_257 : decode code 257 = .ok (.iaload, 1) := by decide +kernel
theorem d_W_law_258 : decode code 258 = .ok (.invokevirtual 63, 3) := by decide +kernel
theorem d_W_law_261 : decode code 261 = .ok (.istore 6, 2) := by decide +kernel
theorem d_W_law_263 : decode code 263 = .ok (.aload_n 2, 1) := by decide +kernel
theorem d_W_law_264 : decode code 264 = .ok (.invokevirtual 49, 3) := by decide +kernel
theorem d_W_law_267 : decode code 267 = .ok (.iload 5, 2) := by decide +kernel
theorem d_W_law_269 : decode code 269 = .ok (.if_icmp .eq 5, 3) := by decide +kernel
theorem d_W_law_272 : decode code 272 = .ok (.iconst 0, 1) := by decide +kernel
theorem d_W_law_273 : decode code 273 = .ok (.ireturn, 1) := by decide +kernel
theorem d_W_law_274 : decode code 274 = .ok (.iload 5, 2) := by decide +kernel
theorem d_W_law_276 : decode code 276 = .ok (.ifCond .ne 15, 3) := by decide +kernel
theorem d_W_law_279 : decode code 279 = .ok (.aload_n 3, 1) := by decide +kernel
theorem d_W_law_280 : decode code 280 = .ok (.iconst 0, 1) := by decide +kernel
theorem d_W_law_281 : decode code 281 = .ok (.laload, 1) := by decide +kernel
theorem d_W_law_282 : decode code 282 = .ok (.iload 6, 2) := by decide +kernel
theorem d_W_law_284 : decode code 284 = .ok (.i2l, 1) := by decide +kernel
theorem d_W_law_285 : decode code 285 = .ok (.lcmp, 1) := by decide +kernel
theorem d_W_law_286 : decode code 286 = .ok (.ifCond .eq 5, 3) := by decide +kernel
theorem d_W_law_289 : decode code 289 = .ok (.iconst 0, 1) := by decide +kernel
theorem d_W_law_290 : decode code 290 = .ok (.ireturn, 1) := by decide +kernel
theorem d_W_law_291 : decode code 291 = .ok (.goto 195, 3) := by decide +kernel
theorem d_W_law_294 : decode code 294 = .ok (.aload_n 1, 1) := by decide +kernel
theorem d_W_law_295 : decode code 295 = .ok (.aload_n 0, 1) := by decide +kernel
theorem d_W_law_296 : decode code 296 = .ok (.iload 4, 2) := by decide +kernel
theorem d_W_law_298 : decode code 298 = .ok (.iconst 1, 1) := by decide +kernel
theorem d_W_law_299 : decode code 299 = .ok (.iadd, 1) := by decide +kernel
theorem d_W_law_300 : decode code 300 = .ok (.iaload, 1) := by decide +kernel
theorem d_W_law_301 : decode code 301 = .ok (.aload_n 0, 1) := by decide +kernel
theorem d_W_law_302 : decode code 302 = .ok (.iload 4, 2) := by decide +kernel
theorem d_W_law_304 : decode code 304 = .ok (.iconst 2, 1) := by decide +kernel
theorem d_W_law_305 : decode code 305 = .ok (.iadd, 1) := by decide +kernel
theorem d_W_law_306 : decode code 306 = .ok (.iaload, 1) := by decide +kernel
theorem d_W_law_307 : decode code 307 = .ok (.aload_n 3, 1) := by decide +kernel
theorem d_W_law_308 : decode code 308 = .ok (.invokestatic 64, 3) := by decide +kernel
theorem d_W_law_311 : decode code 311 = .ok (.istore 5, 2) := by decide +kernel
theorem d_W_law_313 : decode code 313 = .ok (.aload_n 2, 1) := by decide +kernel
theorem d_W_law_314 : decode code 314 = .ok (.aload_n 0, 1) := by decide +kernel
theorem d_W_law_315 : decode code 315 = .ok (.iload 4, 2) := by decide +kernel
theorem d_W_law_317 : decode code 317 = .ok (.iconst 1, 1) := by decide +kernel
theorem d_W_law_318 : decode code 318 = .ok (.iadd, 1) := by decide +kernel
theorem d_W_law_319 : decode code 319 = .ok (.iaload, 1) := by decide +kernel
theorem d_W_law_320 : decode code 320 = .ok (.aload_n 0, 1) := by decide +kernel
theorem d_W_law_321 : decode code 321 = .ok (.iload 4, 2) := by decide +kernel
theorem d_W_law_323 : decode code 323 = .ok (.iconst 2, 1) := by decide +kernel
theorem d_W_law_324 : decode code 324 = .ok (.iadd, 1) := by decide +kernel
theorem d_W_law_325 : decode code 325 = .ok (.iaload, 1) := by decide +kernel
theorem d_W_law_326 : decode code 326 = .ok (.invokevirtual 67, 3) := by decide +kernel
theorem d_W_law_329 : decode code 329 = .ok (.istore 6, 2) := by decide +kernel
theorem d_W_law_331 : decode code 331 = .ok (.aload_n 2, 1) := by decide +kernel
theorem d_W_law_332 : decode code 332 = .ok (.invokevirtual 49, 3) := by decide +kernel
theorem d_W_law_335 : decode code 335 = .ok (.iload 5, 2) := by decide +kernel
theorem d_W_law_337 : decode code 337 = .ok (.if_icmp .eq 5, 3) := by decide +kernel
theorem d_W_law_340 : decode code 340 = .ok (.iconst 0, 1) := by decide +kernel
theorem d_W_law_341 : decode code 341 = .ok (.ireturn, 1) := by decide +kernel
theorem d_W_law_342 : decode code 342 = .ok (.iload 5, 2) := by decide +kernel
theorem d_W_law_344 : decode code 344 = .ok (.ifCond .ne 15, 3) := by decide +kernel
theorem d_W_law_347 : decode code 347 = .ok (.aload_n 3, 1) := by decide +kernel
theorem d_W_law_348 : decode code 348 = .ok (.iconst 0, 1) := by decide +kernel
theorem d_W_law_349 : decode code 349 = .ok (.laload, 1) := by decide +kernel
theorem d_W_law_350 : decode code 350 = .ok (.iload 6, 2) := by decide +kernel
theorem d_W_law_352 : decode code 352 = .ok (.i2l, 1) := by decide +kernel
theorem d_W_law_353 : decode code 353 = .ok (.lcmp, 1) := by decide +kernel
theorem d_W_law_354 : decode code 354 = .ok (.ifCond .eq 5, 3) := by decide +kernel
theorem d_W_law_357 : decode code 357 = .ok (.iconst 0, 1) := by decide +kernel
theorem d_W_law_358 : decode code 358 = .ok (.ireturn, 1) := by decide +kernel
theorem d_W_law_359 : decode code 359 = .ok (.goto 127, 3) := by decide +kernel
theorem d_W_law_362 : decode code 362 = .ok (.aload_n 1, 1) := by decide +kernel
theorem d_W_law_363 : decode code 363 = .ok (.aload_n 0, 1) := by decide +kernel
theorem d_W_law_364 : decode code 364 = .ok (.iload 4, 2) := by decide +kernel
theorem d_W_law_366 : decode code 366 = .ok (.iconst 1, 1) := by decide +kernel
theorem d_W_law_367 : decode code 367 = .ok (.iadd, 1) := by decide +kernel
theorem d_W_law_368 : decode code 368 = .ok (.iaload, 1) := by decide +kernel
theorem d_W_law_369 : decode code 369 = .ok (.aload_n 0, 1) := by decide +kernel
theorem d_W_law_370 : decode code 370 = .ok (.iload 4, 2) := by decide +kernel
theorem d_W_law_372 : decode code 372 = .ok (.iconst 2, 1) := by decide +kernel
theorem d_W_law_373 : decode code 373 = .ok (.iadd, 1) := by decide +kernel
theorem d_W_law_374 : decode code 374 = .ok (.iaload, 1) := by decide +kernel
theorem d_W_law_375 : decode code 375 = .ok (.aload_n 3, 1) := by decide +kernel
theorem d_W_law_376 : decode code 376 = .ok (.invokestatic 68, 3) := by decide +kernel
end
section
theorem d_W_law_379 : decode code 379 = .ok (.istore 5, 2) := by decide +kernel
theorem d_W_law_381 : decode code 381 = .ok (.aload_n 2, 1) := by decide +kernel
theorem d_W_law_382 : decode code 382 = .ok (.aload_n 0, 1) := by decide +kernel
theorem d_W_law_383 : decode code 383 = .ok (.iload 4, 2) := by decide +kernel
theorem d_W_law_385 : decode code 385 = .ok (.iconst 1, 1) := by decide +kernel
theorem d_W_law_386 : decode code 386 = .ok (.iadd, 1) := by decide +kernel
theorem d_W_law_387 : decode code 387 = .ok (.iaload, 1) := by decide +kernel
theorem d_W_law_388 : decode code 388 = .ok (.aload_n 0, 1) := by decide +kernel
theorem d_W_law_389 : decode code 389 = .ok (.iload 4, 2) := by decide +kernel
theorem d_W_law_391 : decode code 391 = .ok (.iconst 2, 1) := by decide +kernel
theorem d_W_law_392 : decode code 392 = .ok (.iadd, 1) := by decide +kernel
theorem d_W_law_393 : decode code 393 = .ok (.iaload, 1) := by decide +kernel
theorem d_W_law_394 : decode code 394 = .ok (.invokevirtual 70, 3) := by decide +kernel
theorem d_W_law_397 : decode code 397 = .ok (.istore 6, 2) := by decide +kernel
theorem d_W_law_399 : decode code 399 = .ok (.aload_n 2, 1) := by decide +kernel
theorem d_W_law_400 : decode code 400 = .ok (.invokevirtual 49, 3) := by decide +kernel
theorem d_W_law_403 : decode code 403 = .ok (.iload 5, 2) := by decide +kernel
theorem d_W_law_405 : decode code 405 = .ok (.if_icmp .eq 5, 3) := by decide +kernel
theorem d_W_law_408 : decode code 408 = .ok (.iconst 0, 1) := by decide +kernel
theorem d_W_law_409 : decode code 409 = .ok (.ireturn, 1) := by decide +kernel
theorem d_W_law_410 : decode code 410 = .ok (.iload 5, 2) := by decide +kernel
theorem d_W_law_412 : decode code 412 = .ok (.ifCond .ne 15, 3) := by decide +kernel
theorem d_W_law_415 : decode code 415 = .ok (.aload_n 3, 1) := by decide +kernel
theorem d_W_law_416 : decode code 416 = .ok (.iconst 0, 1) := by decide +kernel
theorem d_W_law_417 : decode code 417 = .ok (.laload, 1) := by decide +kernel
theorem d_W_law_418 : decode code 418 = .ok (.iload 6, 2) := by decide +kernel
theorem d_W_law_420 : decode code 420 = .ok (.i2l, 1) := by decide +kernel
theorem d_W_law_421 : decode code 421 = .ok (.lcmp, 1) := by decide +kernel
theorem d_W_law_422 : decode code 422 = .ok (.ifCond .eq 5, 3) := by decide +kernel
theorem d_W_law_425 : decode code 425 = .ok (.iconst 0, 1) := by decide +kernel
theorem d_W_law_426 : decode code 426 = .ok (.ireturn, 1) := by decide +kernel
theorem d_W_law_427 : decode code 427 = .ok (.goto 59, 3) := by decide +kernel
theorem d_W_law_430 : decode code 430 = .ok (.aload_n 1, 1) := by decide +kernel
theorem d_W_law_431 : decode code 431 = .ok (.aload_n 0, 1) := by decide +kernel
theorem d_W_law_432 : decode code 432 = .ok (.iload 4, 2) := by decide +kernel
theorem d_W_law_434 : decode code 434 = .ok (.iconst 1, 1) := by decide +kernel
theorem d_W_law_435 : decode code 435 = .ok (.iadd, 1) := by decide +kernel
theorem d_W_law_436 : decode code 436 = .ok (.iaload, 1) := by decide +kernel
theorem d_W_law_437 : decode code 437 = .ok (.aload_n 3, 1) := by decide +kernel
theorem d_W_law_438 : decode code 438 = .ok (.invokestatic 71, 3) := by decide +kernel
theorem d_W_law_441 : decode code 441 = .ok (.istore 5, 2) := by decide +kernel
theorem d_W_law_443 : decode code 443 = .ok (.aload_n 2, 1) := by decide +kernel
theorem d_W_law_444 : decode code 444 = .ok (.aload_n 0, 1) := by decide +kernel
theorem d_W_law_445 : decode code 445 = .ok (.iload 4, 2) := by decide +kernel
theorem d_W_law_447 : decode code 447 = .ok (.iconst 1, 1) := by decide +kernel
theorem d_W_law_448 : decode code 448 = .ok (.iadd, 1) := by decide +kernel
theorem d_W_law_449 : decode code 449 = .ok (.iaload, 1) := by decide +kernel
theorem d_W_law_450 : decode code 450 = .ok (.invokevirtual 73, 3) := by decide +kernel
theorem d_W_law_453 : decode code 453 = .ok (.istore 6, 2) := by decide +kernel
theorem d_W_law_455 : decode code 455 = .ok (.aload_n 2, 1) := by decide +kernel
theorem d_W_law_456 : decode code 456 = .ok (.invokevirtual 49, 3) := by decide +kernel
theorem d_W_law_459 : decode code 459 = .ok (.iload 5, 2) := by decide +kernel
theorem d_W_law_461 : decode code 461 = .ok (.if_icmp .eq 5, 3) := by decide +kernel
theorem d_W_law_464 : decode code 464 = .ok (.iconst 0, 1) := by decide +kernel
theorem d_W_law_465 : decode code 465 = .ok (.ireturn, 1) := by decide +kernel
theorem d_W_law_466 : decode code 466 = .ok (.iload 5, 2) := by decide +kernel
theorem d_W_law_468 : decode code 468 = .ok (.ifCond .ne 15, 3) := by decide +kernel
theorem d_W_law_471 : decode code 471 = .ok (.aload_n 3, 1) := by decide +kernel
theorem d_W_law_472 : decode code 472 = .ok (.iconst 0, 1) := by decide +kernel
theorem d_W_law_473 : decode code 473 = .ok (.laload, 1) := by decide +kernel
theorem d_W_law_474 : decode code 474 = .ok (.iload 6, 2) := by decide +kernel
theorem d_W_law_476 : decode code 476 = .ok (.i2l, 1) := by decide +kernel
theorem d_W_law_477 : decode code 477 = .ok (.lcmp, 1) := by decide +kernel
theorem d_W_law_478 : decode code 478 = .ok (.ifCond .eq 5, 3) := by decide +kernel
theorem d_W_law_481 : decode code 481 = .ok (.iconst 0, 1) := by decide +kernel
theorem d_W_law_482 : decode code 482 = .ok (.ireturn, 1) := by decide +kernel
theorem d_W_law_483 : decode code 483 = .ok (.goto 3, 3) := by decide +kernel
theorem d_W_law_486 : decode code 486 = .ok (.iinc 4 3, 3) := by decide +kernel
theorem d_W_law_489 : decode code 489 = .ok (.goto (-466), 3) := by decide +kernel
theorem d_W_law_492 : decode code 492 = .ok (.iconst 1, 1) := by decide +kernel
theorem d_W_law_493 : decode code 493 = .ok (.ireturn, 1) := by decide +kernel
end
section
theorem m_0 : (Jvm.Cond.selects "InstructionReader" y_R_show y_R_show) ∈ WT := WT_of 0 (by decide +kernel) (by decide +kernel)
theorem m_1 : (Jvm.Cond.selects "InstructionReader$Text" y_T_word y_T_word) ∈ WT := WT_of 1 (by decide +kernel) (by decide +kernel)
theorem m_2 : (Jvm.Cond.selects "InstructionReader$Text" y_T_put y_T_put) ∈ WT := WT_of 2 (by decide +kernel) (by decide +kernel)
theorem m_3 : (Jvm.Cond.selects "InstructionReader$Text" y_T_order y_T_order) ∈ WT := WT_of 3 (by decide +kernel) (by decide +kernel)
theorem m_4 : (Jvm.Cond.selects "InstructionReader$Text" y_T_operand y_T_operand) ∈ WT := WT_of 4 (by decide +kernel) (by decide +kernel)
theorem m_5 : (Jvm.Cond.selects "InstructionReader$Text" y_T_register y_T_register) ∈ WT := WT_of 5 (by decide +kernel) (by decide +kernel)
theorem m_6 : (Jvm.Cond.selects "InstructionReader$Text" y_T_number y_T_number) ∈ WT := WT_of 6 (by decide +kernel) (by decide +kernel)
theorem m_7 : (Jvm.Cond.selects "InstructionReader$Text" y_T_digits y_T_digits) ∈ WT := WT_of 7 (by decide +kernel) (by decide +kernel)
theorem m_8 : (Jvm.Cond.selects "InstructionReader$Text" y_T_offset y_T_offset) ∈ WT := WT_of 8 (by decide +kernel) (by decide +kernel)
theorem m_9 : (Jvm.Cond.selects "java/lang/Throwable" ({ cls := "java/lang/Throwable", name := "fillInStackTrace", desc := "(I)Ljava/lang/Throwable;" } : Jvm.MethodName) ({ cls := "java/lang/Throwable", name := "fillInStackTrace", desc := "(I)Ljava/lang/Throwable;" } : Jvm.MethodName)) ∈ WT := WT_of 9 (by decide +kernel) (by decide +kernel)
theorem m_10 : (Jvm.Cond.selects "InstructionReader" y_R_isWholeAt y_R_isWholeAt) ∈ WT := WT_of 10 (by decide +kernel) (by decide +kernel)
theorem m_11 : (Jvm.Cond.selects "InstructionReader" y_R_bytesAt y_R_bytesAt) ∈ WT := WT_of 11 (by decide +kernel) (by decide +kernel)
theorem m_12 : (Jvm.Cond.selects "InstructionReader" y_R_byteAt y_R_byteAt) ∈ WT := WT_of 12 (by decide +kernel) (by decide +kernel)
theorem m_13 : (Jvm.Cond.selects "InstructionReader" y_R_bitsAt y_R_bitsAt) ∈ WT := WT_of 13 (by decide +kernel) (by decide +kernel)
theorem m_14 : (Jvm.Cond.selects "InstructionReader" y_R_halfAt y_R_halfAt) ∈ WT := WT_of 14 (by decide +kernel) (by decide +kernel)
theorem m_15 : (Jvm.Cond.selects "InstructionReaderModel" y_M_understand y_M_understand) ∈ WT := WT_of 15 (by decide +kernel) (by decide +kernel)
theorem m_16 : (Jvm.Cond.selects "InstructionReaderModel" y_M_part y_M_part) ∈ WT := WT_of 16 (by decide +kernel) (by decide +kernel)
theorem m_17 : (Jvm.Cond.selects "InstructionReaderModel" y_M_longOne y_M_longOne) ∈ WT := WT_of 17 (by decide +kernel) (by decide +kernel)
theorem m_18 : (Jvm.Cond.selects "InstructionReaderModel" y_M_plain y_M_plain) ∈ WT := WT_of 18 (by decide +kernel) (by decide +kernel)
theorem m_19 : (Jvm.Cond.selects "InstructionReaderModel" y_M_threes y_M_threes) ∈ WT := WT_of 19 (by decide +kernel) (by decide +kernel)
theorem m_20 : (Jvm.Cond.selects "InstructionReaderModel" y_M_name y_M_name) ∈ WT := WT_of 20 (by decide +kernel) (by decide +kernel)
theorem m_21 : (Jvm.Cond.selects "InstructionReaderModel" y_M_say y_M_say) ∈ WT := WT_of 21 (by decide +kernel) (by decide +kernel)
theorem m_22 : (Jvm.Cond.selects "InstructionReaderModel" y_M_put y_M_put) ∈ WT := WT_of 22 (by decide +kernel) (by decide +kernel)
theorem m_23 : (Jvm.Cond.selects "InstructionReaderModel" y_M_register y_M_register) ∈ WT := WT_of 23 (by decide +kernel) (by decide +kernel)
theorem m_24 : (Jvm.Cond.selects "InstructionReaderModel" y_M_next y_M_next) ∈ WT := WT_of 24 (by decide +kernel) (by decide +kernel)
theorem m_25 : (Jvm.Cond.selects "InstructionReaderModel" y_M_twos y_M_twos) ∈ WT := WT_of 25 (by decide +kernel) (by decide +kernel)
theorem m_26 : (Jvm.Cond.selects "InstructionReaderModel" y_M_immediate y_M_immediate) ∈ WT := WT_of 26 (by decide +kernel) (by decide +kernel)
theorem m_27 : (Jvm.Cond.selects "InstructionReaderModel" y_M_number y_M_number) ∈ WT := WT_of 27 (by decide +kernel) (by decide +kernel)
theorem m_28 : (Jvm.Cond.selects "InstructionReaderModel" y_M_digits y_M_digits) ∈ WT := WT_of 28 (by decide +kernel) (by decide +kernel)
theorem m_29 : (Jvm.Cond.selects "InstructionReaderModel" y_M_loads y_M_loads) ∈ WT := WT_of 29 (by decide +kernel) (by decide +kernel)
theorem m_30 : (Jvm.Cond.selects "InstructionReaderModel" y_M_memory y_M_memory) ∈ WT := WT_of 30 (by decide +kernel) (by decide +kernel)
theorem m_31 : (Jvm.Cond.selects "InstructionReaderModel" y_M_bracket y_M_bracket) ∈ WT := WT_of 31 (by decide +kernel) (by decide +kernel)
theorem m_32 : (Jvm.Cond.selects "InstructionReaderModel" y_M_stores y_M_stores) ∈ WT := WT_of 32 (by decide +kernel) (by decide +kernel)
theorem m_33 : (Jvm.Cond.selects "InstructionReaderModel" y_M_branches y_M_branches) ∈ WT := WT_of 33 (by decide +kernel) (by decide +kernel)
theorem m_34 : (Jvm.Cond.selects "InstructionReaderModel" y_M_target y_M_target) ∈ WT := WT_of 34 (by decide +kernel) (by decide +kernel)
theorem m_35 : (Jvm.Cond.selects "InstructionReaderModel" y_M_atomic y_M_atomic) ∈ WT := WT_of 35 (by decide +kernel) (by decide +kernel)
theorem m_36 : (Jvm.Cond.selects "InstructionReaderModel" y_M_system y_M_system) ∈ WT := WT_of 36 (by decide +kernel) (by decide +kernel)
theorem m_37 : (Jvm.Cond.selects "InstructionReaderModel" y_M_others y_M_others) ∈ WT := WT_of 37 (by decide +kernel) (by decide +kernel)
theorem m_38 : (Jvm.Cond.selects "InstructionReaderModel" y_M_first y_M_first) ∈ WT := WT_of 38 (by decide +kernel) (by decide +kernel)
theorem m_39 : (Jvm.Cond.selects "InstructionReaderModel" y_M_second y_M_second) ∈ WT := WT_of 39 (by decide +kernel) (by decide +kernel)
theorem m_40 : (Jvm.Cond.selects "InstructionReaderModel" y_M_six y_M_six) ∈ WT := WT_of 40 (by decide +kernel) (by decide +kernel)
theorem m_41 : (Jvm.Cond.selects "InstructionReaderModel" y_M_jump y_M_jump) ∈ WT := WT_of 41 (by decide +kernel) (by decide +kernel)
theorem m_42 : (Jvm.Cond.selects "InstructionReaderModel" y_M_upper y_M_upper) ∈ WT := WT_of 42 (by decide +kernel) (by decide +kernel)
theorem m_43 : (Jvm.Cond.selects "InstructionReaderModel" y_M_reckon y_M_reckon) ∈ WT := WT_of 43 (by decide +kernel) (by decide +kernel)
theorem m_44 : (Jvm.Cond.selects "InstructionReaderModel" y_M_third y_M_third) ∈ WT := WT_of 44 (by decide +kernel) (by decide +kernel)
theorem m_45 : (Jvm.Cond.selects "InstructionReaderModel" y_M_refuses y_M_refuses) ∈ WT := WT_of 45 (by decide +kernel) (by decide +kernel)
theorem m_46 : (Jvm.Cond.selects "InstructionReaderModel" y_M_long4 y_M_long4) ∈ WT := WT_of 46 (by decide +kernel) (by decide +kernel)
theorem m_47 : (Jvm.Cond.selects "InstructionReaderModel" y_M_take y_M_take) ∈ WT := WT_of 47 (by decide +kernel) (by decide +kernel)
theorem m_48 : (Jvm.Cond.initialized "InstructionReaderLaw") ∈ WT := WT_of 48 (by decide +kernel) (by decide +kernel)
theorem m_49 : (Jvm.Cond.initialized "InstructionReader") ∈ WT := WT_of 49 (by decide +kernel) (by decide +kernel)
theorem m_50 : (Jvm.Cond.initialized "InstructionReader$Text") ∈ WT := WT_of 50 (by decide +kernel) (by decide +kernel)
theorem m_51 : (Jvm.Cond.initialized "InstructionReaderModel") ∈ WT := WT_of 51 (by decide +kernel) (by decide +kernel)
theorem m_52 : (Jvm.Cond.initialized "InstructionReader$LongKinds") ∈ WT := WT_of 52 (by decide +kernel) (by decide +kernel)
theorem m_53 : (Jvm.Cond.initialized "java/lang/Enum") ∈ WT := WT_of 53 (by decide +kernel) (by decide +kernel)
theorem m_54 : (Jvm.Cond.initialized "InstructionReader$Kind") ∈ WT := WT_of 54 (by decide +kernel) (by decide +kernel)
theorem m_55 : (Jvm.Cond.initialized "InstructionReader$ShortKinds") ∈ WT := WT_of 55 (by decide +kernel) (by decide +kernel)
theorem m_56 : (Jvm.Cond.initialized "InstructionReader$Fields") ∈ WT := WT_of 56 (by decide +kernel) (by decide +kernel)
theorem m_57 : (Jvm.Cond.initialized "java/lang/String") ∈ WT := WT_of 57 (by decide +kernel) (by decide +kernel)
theorem m_58 : (Jvm.Cond.initialized "java/lang/StringLatin1") ∈ WT := WT_of 58 (by decide +kernel) (by decide +kernel)
theorem m_59 : (Jvm.Cond.initialized "jdk/internal/util/Preconditions") ∈ WT := WT_of 59 (by decide +kernel) (by decide +kernel)
theorem m_60 : (Jvm.Cond.initialized "java/lang/StringUTF16") ∈ WT := WT_of 60 (by decide +kernel) (by decide +kernel)
theorem m_61 : (Jvm.Cond.initialized "java/lang/Math") ∈ WT := WT_of 61 (by decide +kernel) (by decide +kernel)
theorem m_62 : (Jvm.Cond.initialized "java/lang/Throwable") ∈ WT := WT_of 62 (by decide +kernel) (by decide +kernel)
theorem m_63 : (Jvm.Cond.initialized "java/lang/Exception") ∈ WT := WT_of 63 (by decide +kernel) (by decide +kernel)
theorem m_64 : (Jvm.Cond.initialized "java/lang/RuntimeException") ∈ WT := WT_of 64 (by decide +kernel) (by decide +kernel)
theorem m_65 : (Jvm.Cond.initialized "java/lang/IndexOutOfBoundsException") ∈ WT := WT_of 65 (by decide +kernel) (by decide +kernel)
theorem m_66 : (Jvm.Cond.initialized "java/lang/IllegalArgumentException") ∈ WT := WT_of 66 (by decide +kernel) (by decide +kernel)
theorem m_67 : (Jvm.Cond.classLink "InstructionReaderLaw" (8 : Nat) "InstructionReader") ∈ WT := WT_of 67 (by decide +kernel) (by decide +kernel)
theorem m_68 : (Jvm.Cond.instantiable "InstructionReader" (5 : Nat)) ∈ WT := WT_of 68 (by decide +kernel) (by decide +kernel)
theorem m_69 : (Jvm.Cond.methodLink "InstructionReaderLaw" (35 : Nat) y_R_init) ∈ WT := WT_of 69 (by decide +kernel) (by decide +kernel)
theorem m_70 : (Jvm.Cond.instanceMethod y_R_init) ∈ WT := WT_of 70 (by decide +kernel) (by decide +kernel)
theorem m_71 : (Jvm.Cond.code y_R_init prog_1_method_1_code (1 : Nat) (Option.none : Option Jvm.ClassFile.FieldType)) ∈ WT := WT_of 71 (by decide +kernel) (by decide +kernel)
theorem m_72 : (Jvm.Cond.methodLink "InstructionReader" (3 : Nat) ({ cls := "java/lang/Object", name := "<init>", desc := "()V" } : Jvm.MethodName)) ∈ WT := WT_of 72 (by decide +kernel) (by decide +kernel)
theorem m_73 : (Jvm.Cond.instanceMethod ({ cls := "java/lang/Object", name := "<init>", desc := "()V" } : Jvm.MethodName)) ∈ WT := WT_of 73 (by decide +kernel) (by decide +kernel)
theorem m_74 : (Jvm.Cond.code ({ cls := "java/lang/Object", name := "<init>", desc := "()V" } : Jvm.MethodName) object_method_1_code (1 : Nat) (Option.none : Option Jvm.ClassFile.FieldType)) ∈ WT := WT_of 74 (by decide +kernel) (by decide +kernel)
theorem m_75 : (Jvm.Cond.classLink "InstructionReader" (13 : Nat) "InstructionReader$Text") ∈ WT := WT_of 75 (by decide +kernel) (by decide +kernel)
theorem m_76 : (Jvm.Cond.instantiable "InstructionReader$Text" (2 : Nat)) ∈ WT := WT_of 76 (by decide +kernel) (by decide +kernel)
theorem m_77 : (Jvm.Cond.methodLink "InstructionReader" (15 : Nat) y_T_init) ∈ WT := WT_of 77 (by decide +kernel) (by decide +kernel)
theorem m_78 : (Jvm.Cond.instanceMethod y_T_init) ∈ WT := WT_of 78 (by decide +kernel) (by decide +kernel)
theorem m_79 : (Jvm.Cond.code y_T_init prog_6_method_1_code (1 : Nat) (Option.none : Option Jvm.ClassFile.FieldType)) ∈ WT := WT_of 79 (by decide +kernel) (by decide +kernel)
theorem m_80 : (Jvm.Cond.methodLink "InstructionReader$Text" (1 : Nat) ({ cls := "java/lang/Object", name := "<init>", desc := "()V" } : Jvm.MethodName)) ∈ WT := WT_of 80 (by decide +kernel) (by decide +kernel)
theorem m_81 : (Jvm.Cond.fieldLink "InstructionReader$Text" (9 : Nat) "InstructionReader$Text" "row" "[C") ∈ WT := WT_of 81 (by decide +kernel) (by decide +kernel)
theorem m_82 : (Jvm.Cond.fieldLink "InstructionReader$Text" (13 : Nat) "InstructionReader$Text" "length" "I") ∈ WT := WT_of 82 (by decide +kernel) (by decide +kernel)
theorem m_83 : (Jvm.Cond.laysFinal "InstructionReader$Text" "InstructionReader$Text" "row" "[C") ∈ WT := WT_of 83 (by decide +kernel) (by decide +kernel)
theorem m_85 : (Jvm.Cond.lays "InstructionReader$Text" "InstructionReader$Text" "length" "I") ∈ WT := WT_of 85 (by decide +kernel) (by decide +kernel)
theorem m_88 : (Jvm.Cond.arrayClass Jvm.ClassFile.FieldType.int) ∈ WT := WT_of 88 (by decide +kernel) (by decide +kernel)
theorem m_89 : (Jvm.Cond.arrayClass Jvm.ClassFile.FieldType.char) ∈ WT := WT_of 89 (by decide +kernel) (by decide +kernel)
theorem m_90 : (Jvm.Cond.fieldLink "InstructionReader" (9 : Nat) "InstructionReader" "stretch" "[I") ∈ WT := WT_of 90 (by decide +kernel) (by decide +kernel)
theorem m_91 : (Jvm.Cond.fieldLink "InstructionReader" (16 : Nat) "InstructionReader" "text" "LInstructionReader$Text;") ∈ WT := WT_of 91 (by decide +kernel) (by decide +kernel)
theorem m_92 : (Jvm.Cond.fieldLink "InstructionReader" (20 : Nat) "InstructionReader" "textBytes" "I") ∈ WT := WT_of 92 (by decide +kernel) (by decide +kernel)
theorem m_93 : (Jvm.Cond.fieldLink "InstructionReader" (24 : Nat) "InstructionReader" "textIsInstruction" "Z") ∈ WT := WT_of 93 (by decide +kernel) (by decide +kernel)
theorem m_94 : (Jvm.Cond.fieldLink "InstructionReader" (28 : Nat) "InstructionReader" "textOperands" "I") ∈ WT := WT_of 94 (by decide +kernel) (by decide +kernel)
theorem m_95 : (Jvm.Cond.laysFinal "InstructionReader" "InstructionReader" "stretch" "[I") ∈ WT := WT_of 95 (by decide +kernel) (by decide +kernel)
theorem m_97 : (Jvm.Cond.laysFinal "InstructionReader" "InstructionReader" "text" "LInstructionReader$Text;") ∈ WT := WT_of 97 (by decide +kernel) (by decide +kernel)
theorem m_99 : (Jvm.Cond.lays "InstructionReader" "InstructionReader" "textBytes" "I") ∈ WT := WT_of 99 (by decide +kernel) (by decide +kernel)
theorem m_101 : (Jvm.Cond.lays "InstructionReader" "InstructionReader" "textIsInstruction" "Z") ∈ WT := WT_of 101 (by decide +kernel) (by decide +kernel)
theorem m_103 : (Jvm.Cond.lays "InstructionReader" "InstructionReader" "textOperands" "I") ∈ WT := WT_of 103 (by decide +kernel) (by decide +kernel)
theorem m_106 : (Jvm.Cond.methodLink "InstructionReaderLaw" (39 : Nat) y_R_read) ∈ WT := WT_of 106 (by decide +kernel) (by decide +kernel)
theorem m_107 : (Jvm.Cond.instanceMethod y_R_read) ∈ WT := WT_of 107 (by decide +kernel) (by decide +kernel)
theorem m_108 : (Jvm.Cond.selects "InstructionReader" y_R_read y_R_read) ∈ WT := WT_of 108 (by decide +kernel) (by decide +kernel)
theorem m_109 : (Jvm.Cond.code y_R_read prog_1_method_2_code (2 : Nat) (Option.some Jvm.ClassFile.FieldType.int)) ∈ WT := WT_of 109 (by decide +kernel) (by decide +kernel)
theorem m_110 : (Jvm.Cond.methodLink "InstructionReader" (31 : Nat) y_R_isLong) ∈ WT := WT_of 110 (by decide +kernel) (by decide +kernel)
theorem m_111 : (Jvm.Cond.static y_R_isLong) ∈ WT := WT_of 111 (by decide +kernel) (by decide +kernel)
theorem m_112 : (Jvm.Cond.code y_R_isLong prog_1_method_12_code (1 : Nat) (Option.some Jvm.ClassFile.FieldType.boolean)) ∈ WT := WT_of 112 (by decide +kernel) (by decide +kernel)
theorem m_113 : (Jvm.Cond.constant "InstructionReader" (35 : Nat) (65535 : Int32)) ∈ WT := WT_of 113 (by decide +kernel) (by decide +kernel)
theorem m_114 : (Jvm.Cond.methodLink "InstructionReader" (36 : Nat) y_R_show) ∈ WT := WT_of 114 (by decide +kernel) (by decide +kernel)
theorem m_116 : (Jvm.Cond.instanceMethod y_R_show) ∈ WT := WT_of 116 (by decide +kernel) (by decide +kernel)
theorem m_117 : (Jvm.Cond.code y_R_show prog_1_method_14_code (3 : Nat) (Option.none : Option Jvm.ClassFile.FieldType)) ∈ WT := WT_of 117 (by decide +kernel) (by decide +kernel)
theorem m_118 : (Jvm.Cond.methodLink "InstructionReader" (73 : Nat) y_R_kindOf) ∈ WT := WT_of 118 (by decide +kernel) (by decide +kernel)
theorem m_119 : (Jvm.Cond.static y_R_kindOf) ∈ WT := WT_of 119 (by decide +kernel) (by decide +kernel)
theorem m_120 : (Jvm.Cond.code y_R_kindOf prog_1_method_13_code (1 : Nat) (Option.some (Jvm.ClassFile.FieldType.object "InstructionReader$Kind"))) ∈ WT := WT_of 120 (by decide +kernel) (by decide +kernel)
theorem m_121 : (Jvm.Cond.methodLink "InstructionReader" (88 : Nat) y_L_ofWord) ∈ WT := WT_of 121 (by decide +kernel) (by decide +kernel)
theorem m_122 : (Jvm.Cond.static y_L_ofWord) ∈ WT := WT_of 122 (by decide +kernel) (by decide +kernel)
theorem m_123 : (Jvm.Cond.code y_L_ofWord prog_4_method_2_code (3 : Nat) (Option.some (Jvm.ClassFile.FieldType.object "InstructionReader$Kind"))) ∈ WT := WT_of 123 (by decide +kernel) (by decide +kernel)
theorem m_124 : (Jvm.Cond.methodLink "InstructionReader$LongKinds" (7 : Nat) y_L_load) ∈ WT := WT_of 124 (by decide +kernel) (by decide +kernel)
theorem m_125 : (Jvm.Cond.static y_L_load) ∈ WT := WT_of 125 (by decide +kernel) (by decide +kernel)
theorem m_126 : (Jvm.Cond.code y_L_load prog_4_method_3_code (1 : Nat) (Option.some (Jvm.ClassFile.FieldType.object "InstructionReader$Kind"))) ∈ WT := WT_of 126 (by decide +kernel) (by decide +kernel)
theorem m_127 : (Jvm.Cond.fieldLink "InstructionReader$LongKinds" (53 : Nat) "InstructionReader$Kind" "LB" "LInstructionReader$Kind;") ∈ WT := WT_of 127 (by decide +kernel) (by decide +kernel)
theorem m_129 : (Jvm.Cond.fieldLink "InstructionReader$LongKinds" (56 : Nat) "InstructionReader$Kind" "LH" "LInstructionReader$Kind;") ∈ WT := WT_of 129 (by decide +kernel) (by decide +kernel)
theorem m_131 : (Jvm.Cond.fieldLink "InstructionReader$LongKinds" (59 : Nat) "InstructionReader$Kind" "LW" "LInstructionReader$Kind;") ∈ WT := WT_of 131 (by decide +kernel) (by decide +kernel)
theorem m_133 : (Jvm.Cond.fieldLink "InstructionReader$LongKinds" (62 : Nat) "InstructionReader$Kind" "LBU" "LInstructionReader$Kind;") ∈ WT := WT_of 133 (by decide +kernel) (by decide +kernel)
theorem m_135 : (Jvm.Cond.fieldLink "InstructionReader$LongKinds" (65 : Nat) "InstructionReader$Kind" "LHU" "LInstructionReader$Kind;") ∈ WT := WT_of 135 (by decide +kernel) (by decide +kernel)
theorem m_137 : (Jvm.Cond.fieldLink "InstructionReader$LongKinds" (32 : Nat) "InstructionReader$Kind" "WORD" "LInstructionReader$Kind;") ∈ WT := WT_of 137 (by decide +kernel) (by decide +kernel)
theorem m_139 : (Jvm.Cond.methodLink "InstructionReader$LongKinds" (13 : Nat) y_L_alone) ∈ WT := WT_of 139 (by decide +kernel) (by decide +kernel)
theorem m_140 : (Jvm.Cond.static y_L_alone) ∈ WT := WT_of 140 (by decide +kernel) (by decide +kernel)
theorem m_141 : (Jvm.Cond.code y_L_alone prog_4_method_4_code (1 : Nat) (Option.some (Jvm.ClassFile.FieldType.object "InstructionReader$Kind"))) ∈ WT := WT_of 141 (by decide +kernel) (by decide +kernel)
theorem m_142 : (Jvm.Cond.fieldLink "InstructionReader$LongKinds" (68 : Nat) "InstructionReader$Kind" "FENCE" "LInstructionReader$Kind;") ∈ WT := WT_of 142 (by decide +kernel) (by decide +kernel)
theorem m_144 : (Jvm.Cond.fieldLink "InstructionReader$LongKinds" (71 : Nat) "InstructionReader$Kind" "FENCE_I" "LInstructionReader$Kind;") ∈ WT := WT_of 144 (by decide +kernel) (by decide +kernel)
theorem m_146 : (Jvm.Cond.fieldLink "InstructionReader$LongKinds" (74 : Nat) "InstructionReader$Kind" "ECALL" "LInstructionReader$Kind;") ∈ WT := WT_of 146 (by decide +kernel) (by decide +kernel)
theorem m_148 : (Jvm.Cond.fieldLink "InstructionReader$LongKinds" (77 : Nat) "InstructionReader$Kind" "EBREAK" "LInstructionReader$Kind;") ∈ WT := WT_of 148 (by decide +kernel) (by decide +kernel)
theorem m_150 : (Jvm.Cond.methodLink "InstructionReader$LongKinds" (16 : Nat) y_L_withNumber) ∈ WT := WT_of 150 (by decide +kernel) (by decide +kernel)
theorem m_151 : (Jvm.Cond.static y_L_withNumber) ∈ WT := WT_of 151 (by decide +kernel) (by decide +kernel)
theorem m_152 : (Jvm.Cond.code y_L_withNumber prog_4_method_5_code (2 : Nat) (Option.some (Jvm.ClassFile.FieldType.object "InstructionReader$Kind"))) ∈ WT := WT_of 152 (by decide +kernel) (by decide +kernel)
theorem m_153 : (Jvm.Cond.fieldLink "InstructionReader$LongKinds" (80 : Nat) "InstructionReader$Kind" "ADDI" "LInstructionReader$Kind;") ∈ WT := WT_of 153 (by decide +kernel) (by decide +kernel)
theorem m_155 : (Jvm.Cond.fieldLink "InstructionReader$LongKinds" (83 : Nat) "InstructionReader$Kind" "SLLI" "LInstructionReader$Kind;") ∈ WT := WT_of 155 (by decide +kernel) (by decide +kernel)
theorem m_157 : (Jvm.Cond.fieldLink "InstructionReader$LongKinds" (86 : Nat) "InstructionReader$Kind" "SLTI" "LInstructionReader$Kind;") ∈ WT := WT_of 157 (by decide +kernel) (by decide +kernel)
theorem m_159 : (Jvm.Cond.fieldLink "InstructionReader$LongKinds" (89 : Nat) "InstructionReader$Kind" "SLTIU" "LInstructionReader$Kind;") ∈ WT := WT_of 159 (by decide +kernel) (by decide +kernel)
theorem m_161 : (Jvm.Cond.fieldLink "InstructionReader$LongKinds" (92 : Nat) "InstructionReader$Kind" "XORI" "LInstructionReader$Kind;") ∈ WT := WT_of 161 (by decide +kernel) (by decide +kernel)
theorem m_163 : (Jvm.Cond.methodLink "InstructionReader$LongKinds" (95 : Nat) y_L_shiftRight) ∈ WT := WT_of 163 (by decide +kernel) (by decide +kernel)
theorem m_164 : (Jvm.Cond.static y_L_shiftRight) ∈ WT := WT_of 164 (by decide +kernel) (by decide +kernel)
theorem m_165 : (Jvm.Cond.code y_L_shiftRight prog_4_method_6_code (1 : Nat) (Option.some (Jvm.ClassFile.FieldType.object "InstructionReader$Kind"))) ∈ WT := WT_of 165 (by decide +kernel) (by decide +kernel)
theorem m_166 : (Jvm.Cond.fieldLink "InstructionReader$LongKinds" (104 : Nat) "InstructionReader$Kind" "SRLI" "LInstructionReader$Kind;") ∈ WT := WT_of 166 (by decide +kernel) (by decide +kernel)
theorem m_168 : (Jvm.Cond.fieldLink "InstructionReader$LongKinds" (107 : Nat) "InstructionReader$Kind" "SRAI" "LInstructionReader$Kind;") ∈ WT := WT_of 168 (by decide +kernel) (by decide +kernel)
theorem m_170 : (Jvm.Cond.fieldLink "InstructionReader$LongKinds" (98 : Nat) "InstructionReader$Kind" "ORI" "LInstructionReader$Kind;") ∈ WT := WT_of 170 (by decide +kernel) (by decide +kernel)
theorem m_172 : (Jvm.Cond.fieldLink "InstructionReader$LongKinds" (101 : Nat) "InstructionReader$Kind" "ANDI" "LInstructionReader$Kind;") ∈ WT := WT_of 172 (by decide +kernel) (by decide +kernel)
theorem m_174 : (Jvm.Cond.fieldLink "InstructionReader$LongKinds" (20 : Nat) "InstructionReader$Kind" "AUIPC" "LInstructionReader$Kind;") ∈ WT := WT_of 174 (by decide +kernel) (by decide +kernel)
theorem m_176 : (Jvm.Cond.methodLink "InstructionReader$LongKinds" (26 : Nat) y_L_store) ∈ WT := WT_of 176 (by decide +kernel) (by decide +kernel)
theorem m_177 : (Jvm.Cond.static y_L_store) ∈ WT := WT_of 177 (by decide +kernel) (by decide +kernel)
theorem m_178 : (Jvm.Cond.code y_L_store prog_4_method_7_code (1 : Nat) (Option.some (Jvm.ClassFile.FieldType.object "InstructionReader$Kind"))) ∈ WT := WT_of 178 (by decide +kernel) (by decide +kernel)
theorem m_179 : (Jvm.Cond.fieldLink "InstructionReader$LongKinds" (110 : Nat) "InstructionReader$Kind" "SB" "LInstructionReader$Kind;") ∈ WT := WT_of 179 (by decide +kernel) (by decide +kernel)
theorem m_181 : (Jvm.Cond.fieldLink "InstructionReader$LongKinds" (113 : Nat) "InstructionReader$Kind" "SH" "LInstructionReader$Kind;") ∈ WT := WT_of 181 (by decide +kernel) (by decide +kernel)
theorem m_183 : (Jvm.Cond.fieldLink "InstructionReader$LongKinds" (116 : Nat) "InstructionReader$Kind" "SW" "LInstructionReader$Kind;") ∈ WT := WT_of 183 (by decide +kernel) (by decide +kernel)
theorem m_185 : (Jvm.Cond.methodLink "InstructionReader$LongKinds" (29 : Nat) y_L_atomic) ∈ WT := WT_of 185 (by decide +kernel) (by decide +kernel)
theorem m_186 : (Jvm.Cond.static y_L_atomic) ∈ WT := WT_of 186 (by decide +kernel) (by decide +kernel)
theorem m_187 : (Jvm.Cond.code y_L_atomic prog_4_method_8_code (2 : Nat) (Option.some (Jvm.ClassFile.FieldType.object "InstructionReader$Kind"))) ∈ WT := WT_of 187 (by decide +kernel) (by decide +kernel)
theorem m_188 : (Jvm.Cond.fieldLink "InstructionReader$LongKinds" (119 : Nat) "InstructionReader$Kind" "AMOADD" "LInstructionReader$Kind;") ∈ WT := WT_of 188 (by decide +kernel) (by decide +kernel)
theorem m_190 : (Jvm.Cond.fieldLink "InstructionReader$LongKinds" (122 : Nat) "InstructionReader$Kind" "AMOSWAP" "LInstructionReader$Kind;") ∈ WT := WT_of 190 (by decide +kernel) (by decide +kernel)
theorem m_192 : (Jvm.Cond.fieldLink "InstructionReader$LongKinds" (125 : Nat) "InstructionReader$Kind" "LR" "LInstructionReader$Kind;") ∈ WT := WT_of 192 (by decide +kernel) (by decide +kernel)
theorem m_194 : (Jvm.Cond.fieldLink "InstructionReader$LongKinds" (128 : Nat) "InstructionReader$Kind" "SC" "LInstructionReader$Kind;") ∈ WT := WT_of 194 (by decide +kernel) (by decide +kernel)
theorem m_196 : (Jvm.Cond.fieldLink "InstructionReader$LongKinds" (131 : Nat) "InstructionReader$Kind" "AMOXOR" "LInstructionReader$Kind;") ∈ WT := WT_of 196 (by decide +kernel) (by decide +kernel)
theorem m_198 : (Jvm.Cond.fieldLink "InstructionReader$LongKinds" (134 : Nat) "InstructionReader$Kind" "AMOOR" "LInstructionReader$Kind;") ∈ WT := WT_of 198 (by decide +kernel) (by decide +kernel)
theorem m_200 : (Jvm.Cond.fieldLink "InstructionReader$LongKinds" (137 : Nat) "InstructionReader$Kind" "AMOAND" "LInstructionReader$Kind;") ∈ WT := WT_of 200 (by decide +kernel) (by decide +kernel)
theorem m_202 : (Jvm.Cond.fieldLink "InstructionReader$LongKinds" (140 : Nat) "InstructionReader$Kind" "AMOMIN" "LInstructionReader$Kind;") ∈ WT := WT_of 202 (by decide +kernel) (by decide +kernel)
theorem m_204 : (Jvm.Cond.fieldLink "InstructionReader$LongKinds" (143 : Nat) "InstructionReader$Kind" "AMOMAX" "LInstructionReader$Kind;") ∈ WT := WT_of 204 (by decide +kernel) (by decide +kernel)
theorem m_206 : (Jvm.Cond.fieldLink "InstructionReader$LongKinds" (146 : Nat) "InstructionReader$Kind" "AMOMINU" "LInstructionReader$Kind;") ∈ WT := WT_of 206 (by decide +kernel) (by decide +kernel)
theorem m_208 : (Jvm.Cond.fieldLink "InstructionReader$LongKinds" (149 : Nat) "InstructionReader$Kind" "AMOMAXU" "LInstructionReader$Kind;") ∈ WT := WT_of 208 (by decide +kernel) (by decide +kernel)
theorem m_210 : (Jvm.Cond.methodLink "InstructionReader$LongKinds" (35 : Nat) y_L_ofRegisters) ∈ WT := WT_of 210 (by decide +kernel) (by decide +kernel)
theorem m_211 : (Jvm.Cond.static y_L_ofRegisters) ∈ WT := WT_of 211 (by decide +kernel) (by decide +kernel)
theorem m_212 : (Jvm.Cond.code y_L_ofRegisters prog_4_method_9_code (2 : Nat) (Option.some (Jvm.ClassFile.FieldType.object "InstructionReader$Kind"))) ∈ WT := WT_of 212 (by decide +kernel) (by decide +kernel)
theorem m_213 : (Jvm.Cond.methodLink "InstructionReader$LongKinds" (152 : Nat) y_L_plain) ∈ WT := WT_of 213 (by decide +kernel) (by decide +kernel)
theorem m_214 : (Jvm.Cond.static y_L_plain) ∈ WT := WT_of 214 (by decide +kernel) (by decide +kernel)
theorem m_215 : (Jvm.Cond.code y_L_plain prog_4_method_10_code (1 : Nat) (Option.some (Jvm.ClassFile.FieldType.object "InstructionReader$Kind"))) ∈ WT := WT_of 215 (by decide +kernel) (by decide +kernel)
theorem m_216 : (Jvm.Cond.fieldLink "InstructionReader$LongKinds" (161 : Nat) "InstructionReader$Kind" "ADD" "LInstructionReader$Kind;") ∈ WT := WT_of 216 (by decide +kernel) (by decide +kernel)
theorem m_218 : (Jvm.Cond.fieldLink "InstructionReader$LongKinds" (164 : Nat) "InstructionReader$Kind" "SLL" "LInstructionReader$Kind;") ∈ WT := WT_of 218 (by decide +kernel) (by decide +kernel)
theorem m_220 : (Jvm.Cond.fieldLink "InstructionReader$LongKinds" (167 : Nat) "InstructionReader$Kind" "SLT" "LInstructionReader$Kind;") ∈ WT := WT_of 220 (by decide +kernel) (by decide +kernel)
theorem m_222 : (Jvm.Cond.fieldLink "InstructionReader$LongKinds" (170 : Nat) "InstructionReader$Kind" "SLTU" "LInstructionReader$Kind;") ∈ WT := WT_of 222 (by decide +kernel) (by decide +kernel)
theorem m_224 : (Jvm.Cond.fieldLink "InstructionReader$LongKinds" (173 : Nat) "InstructionReader$Kind" "XOR" "LInstructionReader$Kind;") ∈ WT := WT_of 224 (by decide +kernel) (by decide +kernel)
theorem m_226 : (Jvm.Cond.fieldLink "InstructionReader$LongKinds" (176 : Nat) "InstructionReader$Kind" "SRL" "LInstructionReader$Kind;") ∈ WT := WT_of 226 (by decide +kernel) (by decide +kernel)
theorem m_228 : (Jvm.Cond.fieldLink "InstructionReader$LongKinds" (179 : Nat) "InstructionReader$Kind" "OR" "LInstructionReader$Kind;") ∈ WT := WT_of 228 (by decide +kernel) (by decide +kernel)
theorem m_230 : (Jvm.Cond.fieldLink "InstructionReader$LongKinds" (182 : Nat) "InstructionReader$Kind" "AND" "LInstructionReader$Kind;") ∈ WT := WT_of 230 (by decide +kernel) (by decide +kernel)
theorem m_232 : (Jvm.Cond.methodLink "InstructionReader$LongKinds" (155 : Nat) y_L_product) ∈ WT := WT_of 232 (by decide +kernel) (by decide +kernel)
theorem m_233 : (Jvm.Cond.static y_L_product) ∈ WT := WT_of 233 (by decide +kernel) (by decide +kernel)
theorem m_234 : (Jvm.Cond.code y_L_product prog_4_method_11_code (1 : Nat) (Option.some (Jvm.ClassFile.FieldType.object "InstructionReader$Kind"))) ∈ WT := WT_of 234 (by decide +kernel) (by decide +kernel)
theorem m_235 : (Jvm.Cond.fieldLink "InstructionReader$LongKinds" (185 : Nat) "InstructionReader$Kind" "MUL" "LInstructionReader$Kind;") ∈ WT := WT_of 235 (by decide +kernel) (by decide +kernel)
theorem m_237 : (Jvm.Cond.fieldLink "InstructionReader$LongKinds" (188 : Nat) "InstructionReader$Kind" "MULH" "LInstructionReader$Kind;") ∈ WT := WT_of 237 (by decide +kernel) (by decide +kernel)
theorem m_239 : (Jvm.Cond.fieldLink "InstructionReader$LongKinds" (191 : Nat) "InstructionReader$Kind" "MULHSU" "LInstructionReader$Kind;") ∈ WT := WT_of 239 (by decide +kernel) (by decide +kernel)
theorem m_241 : (Jvm.Cond.fieldLink "InstructionReader$LongKinds" (194 : Nat) "InstructionReader$Kind" "MULHU" "LInstructionReader$Kind;") ∈ WT := WT_of 241 (by decide +kernel) (by decide +kernel)
theorem m_243 : (Jvm.Cond.fieldLink "InstructionReader$LongKinds" (197 : Nat) "InstructionReader$Kind" "DIV" "LInstructionReader$Kind;") ∈ WT := WT_of 243 (by decide +kernel) (by decide +kernel)
theorem m_245 : (Jvm.Cond.fieldLink "InstructionReader$LongKinds" (200 : Nat) "InstructionReader$Kind" "DIVU" "LInstructionReader$Kind;") ∈ WT := WT_of 245 (by decide +kernel) (by decide +kernel)
theorem m_247 : (Jvm.Cond.fieldLink "InstructionReader$LongKinds" (203 : Nat) "InstructionReader$Kind" "REM" "LInstructionReader$Kind;") ∈ WT := WT_of 247 (by decide +kernel) (by decide +kernel)
theorem m_249 : (Jvm.Cond.fieldLink "InstructionReader$LongKinds" (206 : Nat) "InstructionReader$Kind" "REMU" "LInstructionReader$Kind;") ∈ WT := WT_of 249 (by decide +kernel) (by decide +kernel)
theorem m_251 : (Jvm.Cond.methodLink "InstructionReader$LongKinds" (158 : Nat) y_L_secondOfTwo) ∈ WT := WT_of 251 (by decide +kernel) (by decide +kernel)
theorem m_252 : (Jvm.Cond.static y_L_secondOfTwo) ∈ WT := WT_of 252 (by decide +kernel) (by decide +kernel)
theorem m_253 : (Jvm.Cond.code y_L_secondOfTwo prog_4_method_12_code (1 : Nat) (Option.some (Jvm.ClassFile.FieldType.object "InstructionReader$Kind"))) ∈ WT := WT_of 253 (by decide +kernel) (by decide +kernel)
theorem m_254 : (Jvm.Cond.fieldLink "InstructionReader$LongKinds" (209 : Nat) "InstructionReader$Kind" "SUB" "LInstructionReader$Kind;") ∈ WT := WT_of 254 (by decide +kernel) (by decide +kernel)
theorem m_256 : (Jvm.Cond.fieldLink "InstructionReader$LongKinds" (212 : Nat) "InstructionReader$Kind" "SRA" "LInstructionReader$Kind;") ∈ WT := WT_of 256 (by decide +kernel) (by decide +kernel)
theorem m_258 : (Jvm.Cond.fieldLink "InstructionReader$LongKinds" (38 : Nat) "InstructionReader$Kind" "LUI" "LInstructionReader$Kind;") ∈ WT := WT_of 258 (by decide +kernel) (by decide +kernel)
theorem m_260 : (Jvm.Cond.methodLink "InstructionReader$LongKinds" (41 : Nat) y_L_branch) ∈ WT := WT_of 260 (by decide +kernel) (by decide +kernel)
theorem m_261 : (Jvm.Cond.static y_L_branch) ∈ WT := WT_of 261 (by decide +kernel) (by decide +kernel)
theorem m_262 : (Jvm.Cond.code y_L_branch prog_4_method_13_code (1 : Nat) (Option.some (Jvm.ClassFile.FieldType.object "InstructionReader$Kind"))) ∈ WT := WT_of 262 (by decide +kernel) (by decide +kernel)
theorem m_263 : (Jvm.Cond.fieldLink "InstructionReader$LongKinds" (215 : Nat) "InstructionReader$Kind" "BEQ" "LInstructionReader$Kind;") ∈ WT := WT_of 263 (by decide +kernel) (by decide +kernel)
theorem m_265 : (Jvm.Cond.fieldLink "InstructionReader$LongKinds" (218 : Nat) "InstructionReader$Kind" "BNE" "LInstructionReader$Kind;") ∈ WT := WT_of 265 (by decide +kernel) (by decide +kernel)
theorem m_267 : (Jvm.Cond.fieldLink "InstructionReader$LongKinds" (221 : Nat) "InstructionReader$Kind" "BLT" "LInstructionReader$Kind;") ∈ WT := WT_of 267 (by decide +kernel) (by decide +kernel)
theorem m_269 : (Jvm.Cond.fieldLink "InstructionReader$LongKinds" (224 : Nat) "InstructionReader$Kind" "BGE" "LInstructionReader$Kind;") ∈ WT := WT_of 269 (by decide +kernel) (by decide +kernel)
theorem m_271 : (Jvm.Cond.fieldLink "InstructionReader$LongKinds" (227 : Nat) "InstructionReader$Kind" "BLTU" "LInstructionReader$Kind;") ∈ WT := WT_of 271 (by decide +kernel) (by decide +kernel)
theorem m_273 : (Jvm.Cond.fieldLink "InstructionReader$LongKinds" (230 : Nat) "InstructionReader$Kind" "BGEU" "LInstructionReader$Kind;") ∈ WT := WT_of 273 (by decide +kernel) (by decide +kernel)
theorem m_275 : (Jvm.Cond.fieldLink "InstructionReader$LongKinds" (44 : Nat) "InstructionReader$Kind" "JALR" "LInstructionReader$Kind;") ∈ WT := WT_of 275 (by decide +kernel) (by decide +kernel)
theorem m_277 : (Jvm.Cond.fieldLink "InstructionReader$LongKinds" (47 : Nat) "InstructionReader$Kind" "JAL" "LInstructionReader$Kind;") ∈ WT := WT_of 277 (by decide +kernel) (by decide +kernel)
theorem m_279 : (Jvm.Cond.methodLink "InstructionReader$LongKinds" (50 : Nat) y_L_counter) ∈ WT := WT_of 279 (by decide +kernel) (by decide +kernel)
theorem m_280 : (Jvm.Cond.static y_L_counter) ∈ WT := WT_of 280 (by decide +kernel) (by decide +kernel)
theorem m_281 : (Jvm.Cond.code y_L_counter prog_4_method_14_code (1 : Nat) (Option.some (Jvm.ClassFile.FieldType.object "InstructionReader$Kind"))) ∈ WT := WT_of 281 (by decide +kernel) (by decide +kernel)
theorem m_282 : (Jvm.Cond.fieldLink "InstructionReader$LongKinds" (233 : Nat) "InstructionReader$Kind" "RDCYCLE" "LInstructionReader$Kind;") ∈ WT := WT_of 282 (by decide +kernel) (by decide +kernel)
theorem m_284 : (Jvm.Cond.fieldLink "InstructionReader$LongKinds" (236 : Nat) "InstructionReader$Kind" "RDTIME" "LInstructionReader$Kind;") ∈ WT := WT_of 284 (by decide +kernel) (by decide +kernel)
theorem m_286 : (Jvm.Cond.fieldLink "InstructionReader$LongKinds" (239 : Nat) "InstructionReader$Kind" "RDINSTRET" "LInstructionReader$Kind;") ∈ WT := WT_of 286 (by decide +kernel) (by decide +kernel)
theorem m_288 : (Jvm.Cond.fieldLink "InstructionReader$LongKinds" (242 : Nat) "InstructionReader$Kind" "RDCYCLEH" "LInstructionReader$Kind;") ∈ WT := WT_of 288 (by decide +kernel) (by decide +kernel)
theorem m_290 : (Jvm.Cond.fieldLink "InstructionReader$LongKinds" (245 : Nat) "InstructionReader$Kind" "RDTIMEH" "LInstructionReader$Kind;") ∈ WT := WT_of 290 (by decide +kernel) (by decide +kernel)
theorem m_292 : (Jvm.Cond.fieldLink "InstructionReader$LongKinds" (248 : Nat) "InstructionReader$Kind" "RDINSTRETH" "LInstructionReader$Kind;") ∈ WT := WT_of 292 (by decide +kernel) (by decide +kernel)
theorem m_294 : (Jvm.Cond.methodLink "InstructionReader" (93 : Nat) y_S_ofHalf) ∈ WT := WT_of 294 (by decide +kernel) (by decide +kernel)
theorem m_295 : (Jvm.Cond.static y_S_ofHalf) ∈ WT := WT_of 295 (by decide +kernel) (by decide +kernel)
theorem m_296 : (Jvm.Cond.code y_S_ofHalf prog_5_method_2_code (2 : Nat) (Option.some (Jvm.ClassFile.FieldType.object "InstructionReader$Kind"))) ∈ WT := WT_of 296 (by decide +kernel) (by decide +kernel)
theorem m_297 : (Jvm.Cond.methodLink "InstructionReader$ShortKinds" (7 : Nat) y_S_ofQ0) ∈ WT := WT_of 297 (by decide +kernel) (by decide +kernel)
theorem m_298 : (Jvm.Cond.static y_S_ofQ0) ∈ WT := WT_of 298 (by decide +kernel) (by decide +kernel)
theorem m_299 : (Jvm.Cond.code y_S_ofQ0 prog_5_method_3_code (2 : Nat) (Option.some (Jvm.ClassFile.FieldType.object "InstructionReader$Kind"))) ∈ WT := WT_of 299 (by decide +kernel) (by decide +kernel)
theorem m_300 : (Jvm.Cond.methodLink "InstructionReader$ShortKinds" (25 : Nat) y_F_times4) ∈ WT := WT_of 300 (by decide +kernel) (by decide +kernel)
theorem m_301 : (Jvm.Cond.static y_F_times4) ∈ WT := WT_of 301 (by decide +kernel) (by decide +kernel)
theorem m_302 : (Jvm.Cond.code y_F_times4 prog_2_method_6_code (1 : Nat) (Option.some Jvm.ClassFile.FieldType.int)) ∈ WT := WT_of 302 (by decide +kernel) (by decide +kernel)
theorem m_303 : (Jvm.Cond.methodLink "InstructionReader$Fields" (13 : Nat) y_F_part) ∈ WT := WT_of 303 (by decide +kernel) (by decide +kernel)
theorem m_304 : (Jvm.Cond.static y_F_part) ∈ WT := WT_of 304 (by decide +kernel) (by decide +kernel)
theorem m_305 : (Jvm.Cond.code y_F_part prog_2_method_13_code (4 : Nat) (Option.some Jvm.ClassFile.FieldType.int)) ∈ WT := WT_of 305 (by decide +kernel) (by decide +kernel)
theorem m_306 : (Jvm.Cond.fieldLink "InstructionReader$ShortKinds" (31 : Nat) "InstructionReader$Kind" "C_ADDI4SPN" "LInstructionReader$Kind;") ∈ WT := WT_of 306 (by decide +kernel) (by decide +kernel)
theorem m_308 : (Jvm.Cond.fieldLink "InstructionReader$ShortKinds" (19 : Nat) "InstructionReader$Kind" "HALF" "LInstructionReader$Kind;") ∈ WT := WT_of 308 (by decide +kernel) (by decide +kernel)
theorem m_310 : (Jvm.Cond.fieldLink "InstructionReader$ShortKinds" (34 : Nat) "InstructionReader$Kind" "C_LW" "LInstructionReader$Kind;") ∈ WT := WT_of 310 (by decide +kernel) (by decide +kernel)
theorem m_312 : (Jvm.Cond.fieldLink "InstructionReader$ShortKinds" (37 : Nat) "InstructionReader$Kind" "C_SW" "LInstructionReader$Kind;") ∈ WT := WT_of 312 (by decide +kernel) (by decide +kernel)
theorem m_314 : (Jvm.Cond.methodLink "InstructionReader$ShortKinds" (13 : Nat) y_S_ofQ1) ∈ WT := WT_of 314 (by decide +kernel) (by decide +kernel)
theorem m_315 : (Jvm.Cond.static y_S_ofQ1) ∈ WT := WT_of 315 (by decide +kernel) (by decide +kernel)
theorem m_316 : (Jvm.Cond.code y_S_ofQ1 prog_5_method_4_code (2 : Nat) (Option.some (Jvm.ClassFile.FieldType.object "InstructionReader$Kind"))) ∈ WT := WT_of 316 (by decide +kernel) (by decide +kernel)
theorem m_317 : (Jvm.Cond.fieldLink "InstructionReader$ShortKinds" (40 : Nat) "InstructionReader$Kind" "C_NOP" "LInstructionReader$Kind;") ∈ WT := WT_of 317 (by decide +kernel) (by decide +kernel)
theorem m_319 : (Jvm.Cond.fieldLink "InstructionReader$ShortKinds" (43 : Nat) "InstructionReader$Kind" "C_ADDI" "LInstructionReader$Kind;") ∈ WT := WT_of 319 (by decide +kernel) (by decide +kernel)
theorem m_321 : (Jvm.Cond.fieldLink "InstructionReader$ShortKinds" (46 : Nat) "InstructionReader$Kind" "C_JAL" "LInstructionReader$Kind;") ∈ WT := WT_of 321 (by decide +kernel) (by decide +kernel)
theorem m_323 : (Jvm.Cond.fieldLink "InstructionReader$ShortKinds" (49 : Nat) "InstructionReader$Kind" "C_LI" "LInstructionReader$Kind;") ∈ WT := WT_of 323 (by decide +kernel) (by decide +kernel)
theorem m_325 : (Jvm.Cond.methodLink "InstructionReader$ShortKinds" (52 : Nat) y_S_upperOrStack) ∈ WT := WT_of 325 (by decide +kernel) (by decide +kernel)
theorem m_326 : (Jvm.Cond.static y_S_upperOrStack) ∈ WT := WT_of 326 (by decide +kernel) (by decide +kernel)
theorem m_327 : (Jvm.Cond.code y_S_upperOrStack prog_5_method_5_code (1 : Nat) (Option.some (Jvm.ClassFile.FieldType.object "InstructionReader$Kind"))) ∈ WT := WT_of 327 (by decide +kernel) (by decide +kernel)
theorem m_328 : (Jvm.Cond.methodLink "InstructionReader$ShortKinds" (68 : Nat) y_F_six) ∈ WT := WT_of 328 (by decide +kernel) (by decide +kernel)
theorem m_329 : (Jvm.Cond.static y_F_six) ∈ WT := WT_of 329 (by decide +kernel) (by decide +kernel)
theorem m_330 : (Jvm.Cond.code y_F_six prog_2_method_5_code (1 : Nat) (Option.some Jvm.ClassFile.FieldType.int)) ∈ WT := WT_of 330 (by decide +kernel) (by decide +kernel)
theorem m_331 : (Jvm.Cond.methodLink "InstructionReader$Fields" (7 : Nat) y_F_signed) ∈ WT := WT_of 331 (by decide +kernel) (by decide +kernel)
theorem m_332 : (Jvm.Cond.static y_F_signed) ∈ WT := WT_of 332 (by decide +kernel) (by decide +kernel)
theorem m_333 : (Jvm.Cond.code y_F_signed prog_2_method_14_code (3 : Nat) (Option.some Jvm.ClassFile.FieldType.int)) ∈ WT := WT_of 333 (by decide +kernel) (by decide +kernel)
theorem m_334 : (Jvm.Cond.methodLink "InstructionReader$ShortKinds" (71 : Nat) y_S_firstRegister) ∈ WT := WT_of 334 (by decide +kernel) (by decide +kernel)
theorem m_335 : (Jvm.Cond.static y_S_firstRegister) ∈ WT := WT_of 335 (by decide +kernel) (by decide +kernel)
theorem m_336 : (Jvm.Cond.code y_S_firstRegister prog_5_method_11_code (1 : Nat) (Option.some Jvm.ClassFile.FieldType.int)) ∈ WT := WT_of 336 (by decide +kernel) (by decide +kernel)
theorem m_337 : (Jvm.Cond.fieldLink "InstructionReader$ShortKinds" (74 : Nat) "InstructionReader$Kind" "C_ADDI16SP" "LInstructionReader$Kind;") ∈ WT := WT_of 337 (by decide +kernel) (by decide +kernel)
theorem m_339 : (Jvm.Cond.fieldLink "InstructionReader$ShortKinds" (77 : Nat) "InstructionReader$Kind" "C_LUI" "LInstructionReader$Kind;") ∈ WT := WT_of 339 (by decide +kernel) (by decide +kernel)
theorem m_341 : (Jvm.Cond.methodLink "InstructionReader$ShortKinds" (56 : Nat) y_S_onLesserRegister) ∈ WT := WT_of 341 (by decide +kernel) (by decide +kernel)
theorem m_342 : (Jvm.Cond.static y_S_onLesserRegister) ∈ WT := WT_of 342 (by decide +kernel) (by decide +kernel)
theorem m_343 : (Jvm.Cond.code y_S_onLesserRegister prog_5_method_6_code (2 : Nat) (Option.some (Jvm.ClassFile.FieldType.object "InstructionReader$Kind"))) ∈ WT := WT_of 343 (by decide +kernel) (by decide +kernel)
theorem m_344 : (Jvm.Cond.fieldLink "InstructionReader$ShortKinds" (80 : Nat) "InstructionReader$Kind" "C_ANDI" "LInstructionReader$Kind;") ∈ WT := WT_of 344 (by decide +kernel) (by decide +kernel)
theorem m_346 : (Jvm.Cond.methodLink "InstructionReader$ShortKinds" (83 : Nat) y_S_hasBit12) ∈ WT := WT_of 346 (by decide +kernel) (by decide +kernel)
theorem m_347 : (Jvm.Cond.static y_S_hasBit12) ∈ WT := WT_of 347 (by decide +kernel) (by decide +kernel)
theorem m_348 : (Jvm.Cond.code y_S_hasBit12 prog_5_method_13_code (1 : Nat) (Option.some Jvm.ClassFile.FieldType.boolean)) ∈ WT := WT_of 348 (by decide +kernel) (by decide +kernel)
theorem m_349 : (Jvm.Cond.fieldLink "InstructionReader$ShortKinds" (87 : Nat) "InstructionReader$Kind" "C_SRLI" "LInstructionReader$Kind;") ∈ WT := WT_of 349 (by decide +kernel) (by decide +kernel)
theorem m_351 : (Jvm.Cond.fieldLink "InstructionReader$ShortKinds" (90 : Nat) "InstructionReader$Kind" "C_SRAI" "LInstructionReader$Kind;") ∈ WT := WT_of 351 (by decide +kernel) (by decide +kernel)
theorem m_353 : (Jvm.Cond.methodLink "InstructionReader$ShortKinds" (93 : Nat) y_S_ofLesserRegisters) ∈ WT := WT_of 353 (by decide +kernel) (by decide +kernel)
theorem m_354 : (Jvm.Cond.static y_S_ofLesserRegisters) ∈ WT := WT_of 354 (by decide +kernel) (by decide +kernel)
theorem m_355 : (Jvm.Cond.code y_S_ofLesserRegisters prog_5_method_7_code (1 : Nat) (Option.some (Jvm.ClassFile.FieldType.object "InstructionReader$Kind"))) ∈ WT := WT_of 355 (by decide +kernel) (by decide +kernel)
theorem m_356 : (Jvm.Cond.fieldLink "InstructionReader$ShortKinds" (96 : Nat) "InstructionReader$Kind" "C_SUB" "LInstructionReader$Kind;") ∈ WT := WT_of 356 (by decide +kernel) (by decide +kernel)
theorem m_358 : (Jvm.Cond.fieldLink "InstructionReader$ShortKinds" (99 : Nat) "InstructionReader$Kind" "C_XOR" "LInstructionReader$Kind;") ∈ WT := WT_of 358 (by decide +kernel) (by decide +kernel)
theorem m_360 : (Jvm.Cond.fieldLink "InstructionReader$ShortKinds" (102 : Nat) "InstructionReader$Kind" "C_OR" "LInstructionReader$Kind;") ∈ WT := WT_of 360 (by decide +kernel) (by decide +kernel)
theorem m_362 : (Jvm.Cond.fieldLink "InstructionReader$ShortKinds" (105 : Nat) "InstructionReader$Kind" "C_AND" "LInstructionReader$Kind;") ∈ WT := WT_of 362 (by decide +kernel) (by decide +kernel)
theorem m_364 : (Jvm.Cond.fieldLink "InstructionReader$ShortKinds" (59 : Nat) "InstructionReader$Kind" "C_J" "LInstructionReader$Kind;") ∈ WT := WT_of 364 (by decide +kernel) (by decide +kernel)
theorem m_366 : (Jvm.Cond.fieldLink "InstructionReader$ShortKinds" (62 : Nat) "InstructionReader$Kind" "C_BEQZ" "LInstructionReader$Kind;") ∈ WT := WT_of 366 (by decide +kernel) (by decide +kernel)
theorem m_368 : (Jvm.Cond.fieldLink "InstructionReader$ShortKinds" (65 : Nat) "InstructionReader$Kind" "C_BNEZ" "LInstructionReader$Kind;") ∈ WT := WT_of 368 (by decide +kernel) (by decide +kernel)
theorem m_370 : (Jvm.Cond.methodLink "InstructionReader$ShortKinds" (16 : Nat) y_S_ofQ2) ∈ WT := WT_of 370 (by decide +kernel) (by decide +kernel)
theorem m_371 : (Jvm.Cond.static y_S_ofQ2) ∈ WT := WT_of 371 (by decide +kernel) (by decide +kernel)
theorem m_372 : (Jvm.Cond.code y_S_ofQ2 prog_5_method_8_code (2 : Nat) (Option.some (Jvm.ClassFile.FieldType.object "InstructionReader$Kind"))) ∈ WT := WT_of 372 (by decide +kernel) (by decide +kernel)
theorem m_373 : (Jvm.Cond.fieldLink "InstructionReader$ShortKinds" (108 : Nat) "InstructionReader$Kind" "C_SLLI" "LInstructionReader$Kind;") ∈ WT := WT_of 373 (by decide +kernel) (by decide +kernel)
theorem m_375 : (Jvm.Cond.fieldLink "InstructionReader$ShortKinds" (111 : Nat) "InstructionReader$Kind" "C_LWSP" "LInstructionReader$Kind;") ∈ WT := WT_of 375 (by decide +kernel) (by decide +kernel)
theorem m_377 : (Jvm.Cond.methodLink "InstructionReader$ShortKinds" (114 : Nat) y_S_addOrJump) ∈ WT := WT_of 377 (by decide +kernel) (by decide +kernel)
theorem m_378 : (Jvm.Cond.static y_S_addOrJump) ∈ WT := WT_of 378 (by decide +kernel) (by decide +kernel)
theorem m_379 : (Jvm.Cond.code y_S_addOrJump prog_5_method_10_code (1 : Nat) (Option.some (Jvm.ClassFile.FieldType.object "InstructionReader$Kind"))) ∈ WT := WT_of 379 (by decide +kernel) (by decide +kernel)
theorem m_380 : (Jvm.Cond.methodLink "InstructionReader$ShortKinds" (123 : Nat) y_S_secondRegister) ∈ WT := WT_of 380 (by decide +kernel) (by decide +kernel)
theorem m_381 : (Jvm.Cond.static y_S_secondRegister) ∈ WT := WT_of 381 (by decide +kernel) (by decide +kernel)
theorem m_382 : (Jvm.Cond.code y_S_secondRegister prog_5_method_12_code (1 : Nat) (Option.some Jvm.ClassFile.FieldType.int)) ∈ WT := WT_of 382 (by decide +kernel) (by decide +kernel)
theorem m_383 : (Jvm.Cond.fieldLink "InstructionReader$ShortKinds" (132 : Nat) "InstructionReader$Kind" "C_ADD" "LInstructionReader$Kind;") ∈ WT := WT_of 383 (by decide +kernel) (by decide +kernel)
theorem m_385 : (Jvm.Cond.fieldLink "InstructionReader$ShortKinds" (135 : Nat) "InstructionReader$Kind" "C_JALR" "LInstructionReader$Kind;") ∈ WT := WT_of 385 (by decide +kernel) (by decide +kernel)
theorem m_387 : (Jvm.Cond.fieldLink "InstructionReader$ShortKinds" (138 : Nat) "InstructionReader$Kind" "C_EBREAK" "LInstructionReader$Kind;") ∈ WT := WT_of 387 (by decide +kernel) (by decide +kernel)
theorem m_389 : (Jvm.Cond.methodLink "InstructionReader$ShortKinds" (117 : Nat) y_S_moveOrJump) ∈ WT := WT_of 389 (by decide +kernel) (by decide +kernel)
theorem m_390 : (Jvm.Cond.static y_S_moveOrJump) ∈ WT := WT_of 390 (by decide +kernel) (by decide +kernel)
theorem m_391 : (Jvm.Cond.code y_S_moveOrJump prog_5_method_9_code (1 : Nat) (Option.some (Jvm.ClassFile.FieldType.object "InstructionReader$Kind"))) ∈ WT := WT_of 391 (by decide +kernel) (by decide +kernel)
theorem m_392 : (Jvm.Cond.fieldLink "InstructionReader$ShortKinds" (126 : Nat) "InstructionReader$Kind" "C_MV" "LInstructionReader$Kind;") ∈ WT := WT_of 392 (by decide +kernel) (by decide +kernel)
theorem m_394 : (Jvm.Cond.fieldLink "InstructionReader$ShortKinds" (129 : Nat) "InstructionReader$Kind" "C_JR" "LInstructionReader$Kind;") ∈ WT := WT_of 394 (by decide +kernel) (by decide +kernel)
theorem m_396 : (Jvm.Cond.fieldLink "InstructionReader$ShortKinds" (120 : Nat) "InstructionReader$Kind" "C_SWSP" "LInstructionReader$Kind;") ∈ WT := WT_of 396 (by decide +kernel) (by decide +kernel)
theorem m_398 : (Jvm.Cond.methodLink "InstructionReader" (98 : Nat) y_T_write) ∈ WT := WT_of 398 (by decide +kernel) (by decide +kernel)
theorem m_399 : (Jvm.Cond.instanceMethod y_T_write) ∈ WT := WT_of 399 (by decide +kernel) (by decide +kernel)
theorem m_400 : (Jvm.Cond.selects "InstructionReader$Text" y_T_write y_T_write) ∈ WT := WT_of 400 (by decide +kernel) (by decide +kernel)
theorem m_401 : (Jvm.Cond.code y_T_write prog_6_method_4_code (5 : Nat) (Option.none : Option Jvm.ClassFile.FieldType)) ∈ WT := WT_of 401 (by decide +kernel) (by decide +kernel)
theorem m_402 : (Jvm.Cond.methodLink "InstructionReader$Text" (23 : Nat) y_T_word) ∈ WT := WT_of 402 (by decide +kernel) (by decide +kernel)
theorem m_404 : (Jvm.Cond.instanceMethod y_T_word) ∈ WT := WT_of 404 (by decide +kernel) (by decide +kernel)
theorem m_405 : (Jvm.Cond.code y_T_word prog_6_method_12_code (3 : Nat) (Option.none : Option Jvm.ClassFile.FieldType)) ∈ WT := WT_of 405 (by decide +kernel) (by decide +kernel)
theorem m_406 : (Jvm.Cond.methodLink "InstructionReader$Text" (47 : Nat) y_JS_length) ∈ WT := WT_of 406 (by decide +kernel) (by decide +kernel)
theorem m_407 : (Jvm.Cond.instanceMethod y_JS_length) ∈ WT := WT_of 407 (by decide +kernel) (by decide +kernel)
theorem m_408 : (Jvm.Cond.selects "java/lang/String" y_JS_length y_JS_length) ∈ WT := WT_of 408 (by decide +kernel) (by decide +kernel)
theorem m_409 : (Jvm.Cond.code y_JS_length prog_15_method_54_code (1 : Nat) (Option.some Jvm.ClassFile.FieldType.int)) ∈ WT := WT_of 409 (by decide +kernel) (by decide +kernel)
theorem m_410 : (Jvm.Cond.methodLink "java/lang/String" (335 : Nat) y_JS_coder) ∈ WT := WT_of 410 (by decide +kernel) (by decide +kernel)
theorem m_411 : (Jvm.Cond.instanceMethod y_JS_coder) ∈ WT := WT_of 411 (by decide +kernel) (by decide +kernel)
theorem m_412 : (Jvm.Cond.selects "java/lang/String" y_JS_coder y_JS_coder) ∈ WT := WT_of 412 (by decide +kernel) (by decide +kernel)
theorem m_413 : (Jvm.Cond.code y_JS_coder prog_15_method_152_code (1 : Nat) (Option.some Jvm.ClassFile.FieldType.byte)) ∈ WT := WT_of 413 (by decide +kernel) (by decide +kernel)
theorem m_414 : (Jvm.Cond.fieldLink "java/lang/String" (38 : Nat) "java/lang/String" "COMPACT_STRINGS" "Z") ∈ WT := WT_of 414 (by decide +kernel) (by decide +kernel)
theorem m_416 : (Jvm.Cond.methodLink "InstructionReader$Text" (50 : Nat) y_JS_charAt) ∈ WT := WT_of 416 (by decide +kernel) (by decide +kernel)
theorem m_417 : (Jvm.Cond.instanceMethod y_JS_charAt) ∈ WT := WT_of 417 (by decide +kernel) (by decide +kernel)
theorem m_418 : (Jvm.Cond.selects "java/lang/String" y_JS_charAt y_JS_charAt) ∈ WT := WT_of 418 (by decide +kernel) (by decide +kernel)
theorem m_419 : (Jvm.Cond.code y_JS_charAt prog_15_method_56_code (2 : Nat) (Option.some Jvm.ClassFile.FieldType.char)) ∈ WT := WT_of 419 (by decide +kernel) (by decide +kernel)
theorem m_420 : (Jvm.Cond.methodLink "java/lang/String" (492 : Nat) y_JS_isLatin1) ∈ WT := WT_of 420 (by decide +kernel) (by decide +kernel)
theorem m_421 : (Jvm.Cond.instanceMethod y_JS_isLatin1) ∈ WT := WT_of 421 (by decide +kernel) (by decide +kernel)
theorem m_422 : (Jvm.Cond.selects "java/lang/String" y_JS_isLatin1 y_JS_isLatin1) ∈ WT := WT_of 422 (by decide +kernel) (by decide +kernel)
theorem m_423 : (Jvm.Cond.code y_JS_isLatin1 prog_15_method_154_code (1 : Nat) (Option.some Jvm.ClassFile.FieldType.boolean)) ∈ WT := WT_of 423 (by decide +kernel) (by decide +kernel)
theorem m_424 : (Jvm.Cond.methodLink "java/lang/String" (495 : Nat) y_JL_charAt) ∈ WT := WT_of 424 (by decide +kernel) (by decide +kernel)
theorem m_425 : (Jvm.Cond.static y_JL_charAt) ∈ WT := WT_of 425 (by decide +kernel) (by decide +kernel)
theorem m_426 : (Jvm.Cond.code y_JL_charAt prog_16_method_2_code (2 : Nat) (Option.some Jvm.ClassFile.FieldType.char)) ∈ WT := WT_of 426 (by decide +kernel) (by decide +kernel)
theorem m_427 : (Jvm.Cond.methodLink "java/lang/StringLatin1" (9 : Nat) y_JS_checkIndex) ∈ WT := WT_of 427 (by decide +kernel) (by decide +kernel)
theorem m_428 : (Jvm.Cond.static y_JS_checkIndex) ∈ WT := WT_of 428 (by decide +kernel) (by decide +kernel)
theorem m_429 : (Jvm.Cond.code y_JS_checkIndex prog_15_method_155_code (2 : Nat) (Option.none : Option Jvm.ClassFile.FieldType)) ∈ WT := WT_of 429 (by decide +kernel) (by decide +kernel)
theorem m_430 : (Jvm.Cond.fieldLink "java/lang/String" (1053 : Nat) "jdk/internal/util/Preconditions" "SIOOBE_FORMATTER" "Ljava/util/function/BiFunction;") ∈ WT := WT_of 430 (by decide +kernel) (by decide +kernel)
theorem m_432 : (Jvm.Cond.methodLink "java/lang/String" (1059 : Nat) y_JP_checkIndex) ∈ WT := WT_of 432 (by decide +kernel) (by decide +kernel)
theorem m_433 : (Jvm.Cond.static y_JP_checkIndex) ∈ WT := WT_of 433 (by decide +kernel) (by decide +kernel)
theorem m_434 : (Jvm.Cond.code y_JP_checkIndex prog_19_method_11_code (3 : Nat) (Option.some Jvm.ClassFile.FieldType.int)) ∈ WT := WT_of 434 (by decide +kernel) (by decide +kernel)
theorem m_435 : (Jvm.Cond.methodLink "java/lang/String" (498 : Nat) ({ cls := "java/lang/StringUTF16", name := "charAt", desc := "([BI)C" } : Jvm.MethodName)) ∈ WT := WT_of 435 (by decide +kernel) (by decide +kernel)
theorem m_436 : (Jvm.Cond.static ({ cls := "java/lang/StringUTF16", name := "charAt", desc := "([BI)C" } : Jvm.MethodName)) ∈ WT := WT_of 436 (by decide +kernel) (by decide +kernel)
theorem m_437 : (Jvm.Cond.code ({ cls := "java/lang/StringUTF16", name := "charAt", desc := "([BI)C" } : Jvm.MethodName) prog_17_method_83_code (2 : Nat) (Option.some Jvm.ClassFile.FieldType.char)) ∈ WT := WT_of 437 (by decide +kernel) (by decide +kernel)
theorem m_438 : (Jvm.Cond.methodLink "java/lang/StringUTF16" (67 : Nat) ({ cls := "java/lang/StringUTF16", name := "checkIndex", desc := "(I[B)V" } : Jvm.MethodName)) ∈ WT := WT_of 438 (by decide +kernel) (by decide +kernel)
theorem m_439 : (Jvm.Cond.static ({ cls := "java/lang/StringUTF16", name := "checkIndex", desc := "(I[B)V" } : Jvm.MethodName)) ∈ WT := WT_of 439 (by decide +kernel) (by decide +kernel)
theorem m_440 : (Jvm.Cond.code ({ cls := "java/lang/StringUTF16", name := "checkIndex", desc := "(I[B)V" } : Jvm.MethodName) prog_17_method_91_code (2 : Nat) (Option.none : Option Jvm.ClassFile.FieldType)) ∈ WT := WT_of 440 (by decide +kernel) (by decide +kernel)
theorem m_441 : (Jvm.Cond.methodLink "java/lang/StringUTF16" (48 : Nat) ({ cls := "java/lang/StringUTF16", name := "length", desc := "([B)I" } : Jvm.MethodName)) ∈ WT := WT_of 441 (by decide +kernel) (by decide +kernel)
theorem m_442 : (Jvm.Cond.static ({ cls := "java/lang/StringUTF16", name := "length", desc := "([B)I" } : Jvm.MethodName)) ∈ WT := WT_of 442 (by decide +kernel) (by decide +kernel)
theorem m_443 : (Jvm.Cond.code ({ cls := "java/lang/StringUTF16", name := "length", desc := "([B)I" } : Jvm.MethodName) prog_17_method_6_code (1 : Nat) (Option.some Jvm.ClassFile.FieldType.int)) ∈ WT := WT_of 443 (by decide +kernel) (by decide +kernel)
theorem m_444 : (Jvm.Cond.methodLink "java/lang/StringUTF16" (414 : Nat) y_JS_checkIndex) ∈ WT := WT_of 444 (by decide +kernel) (by decide +kernel)
theorem m_445 : (Jvm.Cond.methodLink "java/lang/StringUTF16" (71 : Nat) ({ cls := "java/lang/StringUTF16", name := "getChar", desc := "([BI)C" } : Jvm.MethodName)) ∈ WT := WT_of 445 (by decide +kernel) (by decide +kernel)
theorem m_446 : (Jvm.Cond.static ({ cls := "java/lang/StringUTF16", name := "getChar", desc := "([BI)C" } : Jvm.MethodName)) ∈ WT := WT_of 446 (by decide +kernel) (by decide +kernel)
theorem m_447 : (Jvm.Cond.code ({ cls := "java/lang/StringUTF16", name := "getChar", desc := "([BI)C" } : Jvm.MethodName) prog_17_method_5_code (2 : Nat) (Option.some Jvm.ClassFile.FieldType.char)) ∈ WT := WT_of 447 (by decide +kernel) (by decide +kernel)
theorem m_448 : (Jvm.Cond.fieldLink "java/lang/StringUTF16" (44 : Nat) "java/lang/StringUTF16" "$assertionsDisabled" "Z") ∈ WT := WT_of 448 (by decide +kernel) (by decide +kernel)
theorem m_450 : (Jvm.Cond.fieldLink "java/lang/StringUTF16" (59 : Nat) "java/lang/StringUTF16" "HI_BYTE_SHIFT" "I") ∈ WT := WT_of 450 (by decide +kernel) (by decide +kernel)
theorem m_452 : (Jvm.Cond.fieldLink "java/lang/StringUTF16" (63 : Nat) "java/lang/StringUTF16" "LO_BYTE_SHIFT" "I") ∈ WT := WT_of 452 (by decide +kernel) (by decide +kernel)
theorem m_454 : (Jvm.Cond.methodLink "InstructionReader$Text" (43 : Nat) y_T_put) ∈ WT := WT_of 454 (by decide +kernel) (by decide +kernel)
theorem m_456 : (Jvm.Cond.instanceMethod y_T_put) ∈ WT := WT_of 456 (by decide +kernel) (by decide +kernel)
theorem m_457 : (Jvm.Cond.code y_T_put prog_6_method_13_code (2 : Nat) (Option.none : Option Jvm.ClassFile.FieldType)) ∈ WT := WT_of 457 (by decide +kernel) (by decide +kernel)
theorem m_458 : (Jvm.Cond.methodLink "InstructionReader$Text" (30 : Nat) y_T_order) ∈ WT := WT_of 458 (by decide +kernel) (by decide +kernel)
theorem m_460 : (Jvm.Cond.instanceMethod y_T_order) ∈ WT := WT_of 460 (by decide +kernel) (by decide +kernel)
theorem m_461 : (Jvm.Cond.code y_T_order prog_6_method_5_code (2 : Nat) (Option.none : Option Jvm.ClassFile.FieldType)) ∈ WT := WT_of 461 (by decide +kernel) (by decide +kernel)
theorem m_465 : (Jvm.Cond.methodLink "InstructionReader$Text" (37 : Nat) y_JS_isEmpty) ∈ WT := WT_of 465 (by decide +kernel) (by decide +kernel)
theorem m_466 : (Jvm.Cond.instanceMethod y_JS_isEmpty) ∈ WT := WT_of 466 (by decide +kernel) (by decide +kernel)
theorem m_467 : (Jvm.Cond.selects "java/lang/String" y_JS_isEmpty y_JS_isEmpty) ∈ WT := WT_of 467 (by decide +kernel) (by decide +kernel)
theorem m_468 : (Jvm.Cond.code y_JS_isEmpty prog_15_method_55_code (1 : Nat) (Option.some Jvm.ClassFile.FieldType.boolean)) ∈ WT := WT_of 468 (by decide +kernel) (by decide +kernel)
theorem m_469 : (Jvm.Cond.methodLink "InstructionReader$Text" (54 : Nat) y_T_operand) ∈ WT := WT_of 469 (by decide +kernel) (by decide +kernel)
theorem m_471 : (Jvm.Cond.instanceMethod y_T_operand) ∈ WT := WT_of 471 (by decide +kernel) (by decide +kernel)
theorem m_472 : (Jvm.Cond.code y_T_operand prog_6_method_6_code (3 : Nat) (Option.none : Option Jvm.ClassFile.FieldType)) ∈ WT := WT_of 472 (by decide +kernel) (by decide +kernel)
theorem m_473 : (Jvm.Cond.methodLink "InstructionReader$Text" (64 : Nat) y_T_register) ∈ WT := WT_of 473 (by decide +kernel) (by decide +kernel)
theorem m_475 : (Jvm.Cond.instanceMethod y_T_register) ∈ WT := WT_of 475 (by decide +kernel) (by decide +kernel)
theorem m_476 : (Jvm.Cond.code y_T_register prog_6_method_7_code (2 : Nat) (Option.none : Option Jvm.ClassFile.FieldType)) ∈ WT := WT_of 476 (by decide +kernel) (by decide +kernel)
theorem m_477 : (Jvm.Cond.methodLink "InstructionReader$Text" (115 : Nat) y_T_registerName) ∈ WT := WT_of 477 (by decide +kernel) (by decide +kernel)
theorem m_478 : (Jvm.Cond.static y_T_registerName) ∈ WT := WT_of 478 (by decide +kernel) (by decide +kernel)
theorem m_479 : (Jvm.Cond.code y_T_registerName prog_6_method_8_code (1 : Nat) (Option.some (Jvm.ClassFile.FieldType.object "java/lang/String"))) ∈ WT := WT_of 479 (by decide +kernel) (by decide +kernel)
theorem m_512 : (Jvm.Cond.methodLink "InstructionReader$Text" (67 : Nat) y_T_number) ∈ WT := WT_of 512 (by decide +kernel) (by decide +kernel)
theorem m_514 : (Jvm.Cond.instanceMethod y_T_number) ∈ WT := WT_of 514 (by decide +kernel) (by decide +kernel)
theorem m_515 : (Jvm.Cond.code y_T_number prog_6_method_9_code (2 : Nat) (Option.none : Option Jvm.ClassFile.FieldType)) ∈ WT := WT_of 515 (by decide +kernel) (by decide +kernel)
theorem m_516 : (Jvm.Cond.methodLink "InstructionReader$Text" (183 : Nat) ({ cls := "java/lang/Math", name := "abs", desc := "(I)I" } : Jvm.MethodName)) ∈ WT := WT_of 516 (by decide +kernel) (by decide +kernel)
theorem m_517 : (Jvm.Cond.static ({ cls := "java/lang/Math", name := "abs", desc := "(I)I" } : Jvm.MethodName)) ∈ WT := WT_of 517 (by decide +kernel) (by decide +kernel)
theorem m_518 : (Jvm.Cond.code ({ cls := "java/lang/Math", name := "abs", desc := "(I)I" } : Jvm.MethodName) prog_13_method_59_code (1 : Nat) (Option.some Jvm.ClassFile.FieldType.int)) ∈ WT := WT_of 518 (by decide +kernel) (by decide +kernel)
theorem m_519 : (Jvm.Cond.methodLink "InstructionReader$Text" (111 : Nat) y_T_digits) ∈ WT := WT_of 519 (by decide +kernel) (by decide +kernel)
theorem m_521 : (Jvm.Cond.instanceMethod y_T_digits) ∈ WT := WT_of 521 (by decide +kernel) (by decide +kernel)
theorem m_522 : (Jvm.Cond.code y_T_digits prog_6_method_11_code (5 : Nat) (Option.none : Option Jvm.ClassFile.FieldType)) ∈ WT := WT_of 522 (by decide +kernel) (by decide +kernel)
theorem m_523 : (Jvm.Cond.constantLong "InstructionReader$Text" (188 : Nat) (1000000000 : Int64)) ∈ WT := WT_of 523 (by decide +kernel) (by decide +kernel)
theorem m_524 : (Jvm.Cond.constantLong "InstructionReader$Text" (190 : Nat) (48 : Int64)) ∈ WT := WT_of 524 (by decide +kernel) (by decide +kernel)
theorem m_525 : (Jvm.Cond.constantLong "InstructionReader$Text" (192 : Nat) (10 : Int64)) ∈ WT := WT_of 525 (by decide +kernel) (by decide +kernel)
theorem m_526 : (Jvm.Cond.methodLink "InstructionReader$Text" (70 : Nat) y_F_store) ∈ WT := WT_of 526 (by decide +kernel) (by decide +kernel)
theorem m_527 : (Jvm.Cond.static y_F_store) ∈ WT := WT_of 527 (by decide +kernel) (by decide +kernel)
theorem m_528 : (Jvm.Cond.code y_F_store prog_2_method_2_code (1 : Nat) (Option.some Jvm.ClassFile.FieldType.int)) ∈ WT := WT_of 528 (by decide +kernel) (by decide +kernel)
theorem m_529 : (Jvm.Cond.methodLink "InstructionReader$Text" (76 : Nat) y_F_six) ∈ WT := WT_of 529 (by decide +kernel) (by decide +kernel)
theorem m_530 : (Jvm.Cond.methodLink "InstructionReader$Text" (79 : Nat) y_F_times4) ∈ WT := WT_of 530 (by decide +kernel) (by decide +kernel)
theorem m_531 : (Jvm.Cond.methodLink "InstructionReader$Text" (82 : Nat) y_F_times16) ∈ WT := WT_of 531 (by decide +kernel) (by decide +kernel)
theorem m_532 : (Jvm.Cond.static y_F_times16) ∈ WT := WT_of 532 (by decide +kernel) (by decide +kernel)
theorem m_533 : (Jvm.Cond.code y_F_times16 prog_2_method_7_code (1 : Nat) (Option.some Jvm.ClassFile.FieldType.int)) ∈ WT := WT_of 533 (by decide +kernel) (by decide +kernel)
theorem m_534 : (Jvm.Cond.methodLink "InstructionReader$Text" (85 : Nat) y_F_shortWord) ∈ WT := WT_of 534 (by decide +kernel) (by decide +kernel)
theorem m_535 : (Jvm.Cond.static y_F_shortWord) ∈ WT := WT_of 535 (by decide +kernel) (by decide +kernel)
theorem m_536 : (Jvm.Cond.code y_F_shortWord prog_2_method_8_code (1 : Nat) (Option.some Jvm.ClassFile.FieldType.int)) ∈ WT := WT_of 536 (by decide +kernel) (by decide +kernel)
theorem m_537 : (Jvm.Cond.methodLink "InstructionReader$Text" (88 : Nat) y_F_stackLoad) ∈ WT := WT_of 537 (by decide +kernel) (by decide +kernel)
theorem m_538 : (Jvm.Cond.static y_F_stackLoad) ∈ WT := WT_of 538 (by decide +kernel) (by decide +kernel)
theorem m_539 : (Jvm.Cond.code y_F_stackLoad prog_2_method_9_code (1 : Nat) (Option.some Jvm.ClassFile.FieldType.int)) ∈ WT := WT_of 539 (by decide +kernel) (by decide +kernel)
theorem m_540 : (Jvm.Cond.methodLink "InstructionReader$Text" (91 : Nat) y_F_stackStore) ∈ WT := WT_of 540 (by decide +kernel) (by decide +kernel)
theorem m_541 : (Jvm.Cond.static y_F_stackStore) ∈ WT := WT_of 541 (by decide +kernel) (by decide +kernel)
theorem m_542 : (Jvm.Cond.code y_F_stackStore prog_2_method_10_code (1 : Nat) (Option.some Jvm.ClassFile.FieldType.int)) ∈ WT := WT_of 542 (by decide +kernel) (by decide +kernel)
theorem m_543 : (Jvm.Cond.methodLink "InstructionReader$Text" (94 : Nat) y_F_branch) ∈ WT := WT_of 543 (by decide +kernel) (by decide +kernel)
theorem m_544 : (Jvm.Cond.static y_F_branch) ∈ WT := WT_of 544 (by decide +kernel) (by decide +kernel)
theorem m_545 : (Jvm.Cond.code y_F_branch prog_2_method_3_code (1 : Nat) (Option.some Jvm.ClassFile.FieldType.int)) ∈ WT := WT_of 545 (by decide +kernel) (by decide +kernel)
theorem m_546 : (Jvm.Cond.methodLink "InstructionReader$Text" (97 : Nat) y_T_offset) ∈ WT := WT_of 546 (by decide +kernel) (by decide +kernel)
theorem m_548 : (Jvm.Cond.instanceMethod y_T_offset) ∈ WT := WT_of 548 (by decide +kernel) (by decide +kernel)
theorem m_549 : (Jvm.Cond.code y_T_offset prog_6_method_10_code (2 : Nat) (Option.none : Option Jvm.ClassFile.FieldType)) ∈ WT := WT_of 549 (by decide +kernel) (by decide +kernel)
theorem m_550 : (Jvm.Cond.methodLink "InstructionReader$Text" (100 : Nat) y_F_jump) ∈ WT := WT_of 550 (by decide +kernel) (by decide +kernel)
theorem m_551 : (Jvm.Cond.static y_F_jump) ∈ WT := WT_of 551 (by decide +kernel) (by decide +kernel)
theorem m_552 : (Jvm.Cond.code y_F_jump prog_2_method_4_code (1 : Nat) (Option.some Jvm.ClassFile.FieldType.int)) ∈ WT := WT_of 552 (by decide +kernel) (by decide +kernel)
theorem m_553 : (Jvm.Cond.methodLink "InstructionReader$Text" (103 : Nat) y_F_shortJump) ∈ WT := WT_of 553 (by decide +kernel) (by decide +kernel)
theorem m_554 : (Jvm.Cond.static y_F_shortJump) ∈ WT := WT_of 554 (by decide +kernel) (by decide +kernel)
theorem m_555 : (Jvm.Cond.code y_F_shortJump prog_2_method_11_code (1 : Nat) (Option.some Jvm.ClassFile.FieldType.int)) ∈ WT := WT_of 555 (by decide +kernel) (by decide +kernel)
theorem m_556 : (Jvm.Cond.methodLink "InstructionReader$Text" (106 : Nat) y_F_shortBranch) ∈ WT := WT_of 556 (by decide +kernel) (by decide +kernel)
theorem m_557 : (Jvm.Cond.static y_F_shortBranch) ∈ WT := WT_of 557 (by decide +kernel) (by decide +kernel)
theorem m_558 : (Jvm.Cond.code y_F_shortBranch prog_2_method_12_code (1 : Nat) (Option.some Jvm.ClassFile.FieldType.int)) ∈ WT := WT_of 558 (by decide +kernel) (by decide +kernel)
theorem m_559 : (Jvm.Cond.constantLong "InstructionReader$Text" (109 : Nat) (4294967295 : Int64)) ∈ WT := WT_of 559 (by decide +kernel) (by decide +kernel)
theorem m_560 : (Jvm.Cond.methodLink "InstructionReader" (77 : Nat) y_K_isInstruction) ∈ WT := WT_of 560 (by decide +kernel) (by decide +kernel)
theorem m_561 : (Jvm.Cond.instanceMethod y_K_isInstruction) ∈ WT := WT_of 561 (by decide +kernel) (by decide +kernel)
theorem m_562 : (Jvm.Cond.selects "InstructionReader$Kind" y_K_isInstruction y_K_isInstruction) ∈ WT := WT_of 562 (by decide +kernel) (by decide +kernel)
theorem m_563 : (Jvm.Cond.code y_K_isInstruction prog_3_method_5_code (1 : Nat) (Option.some Jvm.ClassFile.FieldType.boolean)) ∈ WT := WT_of 563 (by decide +kernel) (by decide +kernel)
theorem m_564 : (Jvm.Cond.fieldLink "InstructionReader$Kind" (3 : Nat) "InstructionReader$Kind" "WORD" "LInstructionReader$Kind;") ∈ WT := WT_of 564 (by decide +kernel) (by decide +kernel)
theorem m_565 : (Jvm.Cond.fieldLink "InstructionReader$Kind" (7 : Nat) "InstructionReader$Kind" "HALF" "LInstructionReader$Kind;") ∈ WT := WT_of 565 (by decide +kernel) (by decide +kernel)
theorem m_566 : (Jvm.Cond.methodLink "InstructionReader" (102 : Nat) y_K_operandCount) ∈ WT := WT_of 566 (by decide +kernel) (by decide +kernel)
theorem m_567 : (Jvm.Cond.instanceMethod y_K_operandCount) ∈ WT := WT_of 567 (by decide +kernel) (by decide +kernel)
theorem m_568 : (Jvm.Cond.selects "InstructionReader$Kind" y_K_operandCount y_K_operandCount) ∈ WT := WT_of 568 (by decide +kernel) (by decide +kernel)
theorem m_569 : (Jvm.Cond.code y_K_operandCount prog_3_method_6_code (3 : Nat) (Option.some Jvm.ClassFile.FieldType.int)) ∈ WT := WT_of 569 (by decide +kernel) (by decide +kernel)
theorem m_570 : (Jvm.Cond.methodLink "InstructionReader$Kind" (319 : Nat) y_JS_isEmpty) ∈ WT := WT_of 570 (by decide +kernel) (by decide +kernel)
theorem m_571 : (Jvm.Cond.methodLink "InstructionReader$Kind" (325 : Nat) y_JS_length) ∈ WT := WT_of 571 (by decide +kernel) (by decide +kernel)
theorem m_572 : (Jvm.Cond.methodLink "InstructionReader$Kind" (329 : Nat) y_JS_charAt) ∈ WT := WT_of 572 (by decide +kernel) (by decide +kernel)
theorem m_573 : (Jvm.Cond.methodLink "InstructionReader" (40 : Nat) y_T_size) ∈ WT := WT_of 573 (by decide +kernel) (by decide +kernel)
theorem m_574 : (Jvm.Cond.instanceMethod y_T_size) ∈ WT := WT_of 574 (by decide +kernel) (by decide +kernel)
theorem m_575 : (Jvm.Cond.selects "InstructionReader$Text" y_T_size y_T_size) ∈ WT := WT_of 575 (by decide +kernel) (by decide +kernel)
theorem m_576 : (Jvm.Cond.code y_T_size prog_6_method_2_code (1 : Nat) (Option.some Jvm.ClassFile.FieldType.int)) ∈ WT := WT_of 576 (by decide +kernel) (by decide +kernel)
theorem m_577 : (Jvm.Cond.arrayClass Jvm.ClassFile.FieldType.byte) ∈ WT := WT_of 577 (by decide +kernel) (by decide +kernel)
theorem m_578 : (Jvm.Cond.methodLink "InstructionReaderLaw" (53 : Nat) y_R_about) ∈ WT := WT_of 578 (by decide +kernel) (by decide +kernel)
theorem m_579 : (Jvm.Cond.instanceMethod y_R_about) ∈ WT := WT_of 579 (by decide +kernel) (by decide +kernel)
theorem m_580 : (Jvm.Cond.selects "InstructionReader" y_R_about y_R_about) ∈ WT := WT_of 580 (by decide +kernel) (by decide +kernel)
theorem m_581 : (Jvm.Cond.code y_R_about prog_1_method_4_code (2 : Nat) (Option.some Jvm.ClassFile.FieldType.int)) ∈ WT := WT_of 581 (by decide +kernel) (by decide +kernel)
theorem m_582 : (Jvm.Cond.methodLink "InstructionReaderLaw" (43 : Nat) y_W_letter) ∈ WT := WT_of 582 (by decide +kernel) (by decide +kernel)
theorem m_583 : (Jvm.Cond.static y_W_letter) ∈ WT := WT_of 583 (by decide +kernel) (by decide +kernel)
theorem m_585 : (Jvm.Cond.classLink "InstructionReaderLaw" (13 : Nat) "java/lang/IndexOutOfBoundsException") ∈ WT := WT_of 585 (by decide +kernel) (by decide +kernel)
theorem m_586 : (Jvm.Cond.methodLink "InstructionReaderLaw" (7 : Nat) y_R_letter) ∈ WT := WT_of 586 (by decide +kernel) (by decide +kernel)
theorem m_587 : (Jvm.Cond.instanceMethod y_R_letter) ∈ WT := WT_of 587 (by decide +kernel) (by decide +kernel)
theorem m_588 : (Jvm.Cond.selects "InstructionReader" y_R_letter y_R_letter) ∈ WT := WT_of 588 (by decide +kernel) (by decide +kernel)
theorem m_589 : (Jvm.Cond.code y_R_letter prog_1_method_3_code (2 : Nat) (Option.some Jvm.ClassFile.FieldType.char)) ∈ WT := WT_of 589 (by decide +kernel) (by decide +kernel)
theorem m_590 : (Jvm.Cond.classLink "InstructionReader" (44 : Nat) "java/lang/IndexOutOfBoundsException") ∈ WT := WT_of 590 (by decide +kernel) (by decide +kernel)
theorem m_591 : (Jvm.Cond.instantiable "java/lang/IndexOutOfBoundsException" (6 : Nat)) ∈ WT := WT_of 591 (by decide +kernel) (by decide +kernel)
theorem m_599 : (Jvm.Cond.selects "java/lang/IndexOutOfBoundsException" ({ cls := "java/lang/Throwable", name := "fillInStackTrace", desc := "(I)Ljava/lang/Throwable;" } : Jvm.MethodName) ({ cls := "java/lang/Throwable", name := "fillInStackTrace", desc := "(I)Ljava/lang/Throwable;" } : Jvm.MethodName)) ∈ WT := WT_of 599 (by decide +kernel) (by decide +kernel)
theorem m_600 : (Jvm.Cond.selects "java/lang/IndexOutOfBoundsException" ({ cls := "java/lang/Throwable", name := "fillInStackTrace", desc := "()Ljava/lang/Throwable;" } : Jvm.MethodName) ({ cls := "java/lang/Throwable", name := "fillInStackTrace", desc := "()Ljava/lang/Throwable;" } : Jvm.MethodName)) ∈ WT := WT_of 600 (by decide +kernel) (by decide +kernel)
theorem m_601 : (Jvm.Cond.lays "java/lang/IndexOutOfBoundsException" "java/lang/Throwable" "cause" "Ljava/lang/Throwable;") ∈ WT := WT_of 601 (by decide +kernel) (by decide +kernel)
theorem m_602 : (Jvm.Cond.lays "java/lang/Throwable" "java/lang/Throwable" "cause" "Ljava/lang/Throwable;") ∈ WT := WT_of 602 (by decide +kernel) (by decide +kernel)
theorem m_603 : (Jvm.Cond.lays "java/lang/IndexOutOfBoundsException" "java/lang/Throwable" "stackTrace" "[Ljava/lang/StackTraceElement;") ∈ WT := WT_of 603 (by decide +kernel) (by decide +kernel)
theorem m_604 : (Jvm.Cond.lays "java/lang/Throwable" "java/lang/Throwable" "stackTrace" "[Ljava/lang/StackTraceElement;") ∈ WT := WT_of 604 (by decide +kernel) (by decide +kernel)
theorem m_605 : (Jvm.Cond.lays "java/lang/IndexOutOfBoundsException" "java/lang/Throwable" "suppressedExceptions" "Ljava/util/List;") ∈ WT := WT_of 605 (by decide +kernel) (by decide +kernel)
theorem m_606 : (Jvm.Cond.lays "java/lang/Throwable" "java/lang/Throwable" "suppressedExceptions" "Ljava/util/List;") ∈ WT := WT_of 606 (by decide +kernel) (by decide +kernel)
theorem m_607 : (Jvm.Cond.lays "java/lang/IndexOutOfBoundsException" "java/lang/Throwable" "detailMessage" "Ljava/lang/String;") ∈ WT := WT_of 607 (by decide +kernel) (by decide +kernel)
theorem m_608 : (Jvm.Cond.lays "java/lang/Throwable" "java/lang/Throwable" "detailMessage" "Ljava/lang/String;") ∈ WT := WT_of 608 (by decide +kernel) (by decide +kernel)
theorem m_609 : (Jvm.Cond.lays "java/lang/IndexOutOfBoundsException" "java/lang/Throwable" "backtrace" "Ljava/lang/Object;") ∈ WT := WT_of 609 (by decide +kernel) (by decide +kernel)
theorem m_610 : (Jvm.Cond.lays "java/lang/Throwable" "java/lang/Throwable" "backtrace" "Ljava/lang/Object;") ∈ WT := WT_of 610 (by decide +kernel) (by decide +kernel)
theorem m_611 : (Jvm.Cond.fieldLink "java/lang/Throwable" (198 : Nat) "java/lang/Throwable" "backtrace" "Ljava/lang/Object;") ∈ WT := WT_of 611 (by decide +kernel) (by decide +kernel)
theorem m_613 : (Jvm.Cond.instanceMethod ({ cls := "java/lang/Throwable", name := "<init>", desc := "()V" } : Jvm.MethodName)) ∈ WT := WT_of 613 (by decide +kernel) (by decide +kernel)
theorem m_614 : (Jvm.Cond.code ({ cls := "java/lang/Throwable", name := "<init>", desc := "()V" } : Jvm.MethodName) prog_18_method_1_code (1 : Nat) (Option.none : Option Jvm.ClassFile.FieldType)) ∈ WT := WT_of 614 (by decide +kernel) (by decide +kernel)
theorem m_615 : (Jvm.Cond.methodLink "java/lang/Throwable" (1 : Nat) ({ cls := "java/lang/Object", name := "<init>", desc := "()V" } : Jvm.MethodName)) ∈ WT := WT_of 615 (by decide +kernel) (by decide +kernel)
theorem m_616 : (Jvm.Cond.fieldLink "java/lang/Throwable" (13 : Nat) "java/lang/Throwable" "UNASSIGNED_STACK" "[Ljava/lang/StackTraceElement;") ∈ WT := WT_of 616 (by decide +kernel) (by decide +kernel)
theorem m_618 : (Jvm.Cond.fieldLink "java/lang/Throwable" (20 : Nat) "java/lang/Throwable" "SUPPRESSED_SENTINEL" "Ljava/util/List;") ∈ WT := WT_of 618 (by decide +kernel) (by decide +kernel)
theorem m_620 : (Jvm.Cond.methodLink "java/lang/Throwable" (27 : Nat) ({ cls := "java/lang/Throwable", name := "fillInStackTrace", desc := "()Ljava/lang/Throwable;" } : Jvm.MethodName)) ∈ WT := WT_of 620 (by decide +kernel) (by decide +kernel)
theorem m_621 : (Jvm.Cond.instanceMethod ({ cls := "java/lang/Throwable", name := "fillInStackTrace", desc := "()Ljava/lang/Throwable;" } : Jvm.MethodName)) ∈ WT := WT_of 621 (by decide +kernel) (by decide +kernel)
theorem m_623 : (Jvm.Cond.selects "java/lang/IllegalArgumentException" ({ cls := "java/lang/Throwable", name := "fillInStackTrace", desc := "()Ljava/lang/Throwable;" } : Jvm.MethodName) ({ cls := "java/lang/Throwable", name := "fillInStackTrace", desc := "()Ljava/lang/Throwable;" } : Jvm.MethodName)) ∈ WT := WT_of 623 (by decide +kernel) (by decide +kernel)
theorem m_625 : (Jvm.Cond.methodLink "java/lang/Throwable" (202 : Nat) ({ cls := "java/lang/Throwable", name := "fillInStackTrace", desc := "(I)Ljava/lang/Throwable;" } : Jvm.MethodName)) ∈ WT := WT_of 625 (by decide +kernel) (by decide +kernel)
theorem m_627 : (Jvm.Cond.instanceMethod ({ cls := "java/lang/Throwable", name := "fillInStackTrace", desc := "(I)Ljava/lang/Throwable;" } : Jvm.MethodName)) ∈ WT := WT_of 627 (by decide +kernel) (by decide +kernel)
theorem m_628 : (Jvm.Cond.instantiable "java/lang/Throwable" (6 : Nat)) ∈ WT := WT_of 628 (by decide +kernel) (by decide +kernel)
theorem m_631 : (Jvm.Cond.methodLink "InstructionReader" (48 : Nat) ({ cls := "java/lang/IndexOutOfBoundsException", name := "<init>", desc := "(Ljava/lang/String;)V" } : Jvm.MethodName)) ∈ WT := WT_of 631 (by decide +kernel) (by decide +kernel)
theorem m_632 : (Jvm.Cond.instanceMethod ({ cls := "java/lang/IndexOutOfBoundsException", name := "<init>", desc := "(Ljava/lang/String;)V" } : Jvm.MethodName)) ∈ WT := WT_of 632 (by decide +kernel) (by decide +kernel)
theorem m_633 : (Jvm.Cond.code ({ cls := "java/lang/IndexOutOfBoundsException", name := "<init>", desc := "(Ljava/lang/String;)V" } : Jvm.MethodName) prog_12_method_2_code (2 : Nat) (Option.none : Option Jvm.ClassFile.FieldType)) ∈ WT := WT_of 633 (by decide +kernel) (by decide +kernel)
theorem m_634 : (Jvm.Cond.methodLink "java/lang/IndexOutOfBoundsException" (7 : Nat) ({ cls := "java/lang/RuntimeException", name := "<init>", desc := "(Ljava/lang/String;)V" } : Jvm.MethodName)) ∈ WT := WT_of 634 (by decide +kernel) (by decide +kernel)
theorem m_635 : (Jvm.Cond.instanceMethod ({ cls := "java/lang/RuntimeException", name := "<init>", desc := "(Ljava/lang/String;)V" } : Jvm.MethodName)) ∈ WT := WT_of 635 (by decide +kernel) (by decide +kernel)
theorem m_636 : (Jvm.Cond.code ({ cls := "java/lang/RuntimeException", name := "<init>", desc := "(Ljava/lang/String;)V" } : Jvm.MethodName) prog_14_method_2_code (2 : Nat) (Option.none : Option Jvm.ClassFile.FieldType)) ∈ WT := WT_of 636 (by decide +kernel) (by decide +kernel)
theorem m_637 : (Jvm.Cond.methodLink "java/lang/RuntimeException" (7 : Nat) ({ cls := "java/lang/Exception", name := "<init>", desc := "(Ljava/lang/String;)V" } : Jvm.MethodName)) ∈ WT := WT_of 637 (by decide +kernel) (by decide +kernel)
theorem m_638 : (Jvm.Cond.instanceMethod ({ cls := "java/lang/Exception", name := "<init>", desc := "(Ljava/lang/String;)V" } : Jvm.MethodName)) ∈ WT := WT_of 638 (by decide +kernel) (by decide +kernel)
theorem m_639 : (Jvm.Cond.code ({ cls := "java/lang/Exception", name := "<init>", desc := "(Ljava/lang/String;)V" } : Jvm.MethodName) prog_10_method_2_code (2 : Nat) (Option.none : Option Jvm.ClassFile.FieldType)) ∈ WT := WT_of 639 (by decide +kernel) (by decide +kernel)
theorem m_640 : (Jvm.Cond.methodLink "java/lang/Exception" (7 : Nat) ({ cls := "java/lang/Throwable", name := "<init>", desc := "(Ljava/lang/String;)V" } : Jvm.MethodName)) ∈ WT := WT_of 640 (by decide +kernel) (by decide +kernel)
theorem m_641 : (Jvm.Cond.instanceMethod ({ cls := "java/lang/Throwable", name := "<init>", desc := "(Ljava/lang/String;)V" } : Jvm.MethodName)) ∈ WT := WT_of 641 (by decide +kernel) (by decide +kernel)
theorem m_642 : (Jvm.Cond.code ({ cls := "java/lang/Throwable", name := "<init>", desc := "(Ljava/lang/String;)V" } : Jvm.MethodName) prog_18_method_2_code (2 : Nat) (Option.none : Option Jvm.ClassFile.FieldType)) ∈ WT := WT_of 642 (by decide +kernel) (by decide +kernel)
theorem m_644 : (Jvm.Cond.fieldLink "java/lang/Throwable" (31 : Nat) "java/lang/Throwable" "detailMessage" "Ljava/lang/String;") ∈ WT := WT_of 644 (by decide +kernel) (by decide +kernel)
theorem m_645 : (Jvm.Cond.fieldLink "java/lang/Throwable" (7 : Nat) "java/lang/Throwable" "cause" "Ljava/lang/Throwable;") ∈ WT := WT_of 645 (by decide +kernel) (by decide +kernel)
theorem m_646 : (Jvm.Cond.fieldLink "java/lang/Throwable" (17 : Nat) "java/lang/Throwable" "stackTrace" "[Ljava/lang/StackTraceElement;") ∈ WT := WT_of 646 (by decide +kernel) (by decide +kernel)
theorem m_647 : (Jvm.Cond.fieldLink "java/lang/Throwable" (24 : Nat) "java/lang/Throwable" "suppressedExceptions" "Ljava/util/List;") ∈ WT := WT_of 647 (by decide +kernel) (by decide +kernel)
theorem m_652 : (Jvm.Cond.lays "java/lang/IndexOutOfBoundsException" "java/lang/Throwable" "depth" "I") ∈ WT := WT_of 652 (by decide +kernel) (by decide +kernel)
theorem m_656 : (Jvm.Cond.methodLink "InstructionReader" (51 : Nat) y_T_character) ∈ WT := WT_of 656 (by decide +kernel) (by decide +kernel)
theorem m_657 : (Jvm.Cond.instanceMethod y_T_character) ∈ WT := WT_of 657 (by decide +kernel) (by decide +kernel)
theorem m_658 : (Jvm.Cond.selects "InstructionReader$Text" y_T_character y_T_character) ∈ WT := WT_of 658 (by decide +kernel) (by decide +kernel)
theorem m_659 : (Jvm.Cond.code y_T_character prog_6_method_3_code (2 : Nat) (Option.some Jvm.ClassFile.FieldType.char)) ∈ WT := WT_of 659 (by decide +kernel) (by decide +kernel)
theorem m_660 : (Jvm.Cond.methodLink "InstructionReaderLaw" (57 : Nat) y_W_poke) ∈ WT := WT_of 660 (by decide +kernel) (by decide +kernel)
theorem m_661 : (Jvm.Cond.static y_W_poke) ∈ WT := WT_of 661 (by decide +kernel) (by decide +kernel)
theorem m_663 : (Jvm.Cond.methodLink "InstructionReaderLaw" (15 : Nat) y_R_poke) ∈ WT := WT_of 663 (by decide +kernel) (by decide +kernel)
theorem m_664 : (Jvm.Cond.instanceMethod y_R_poke) ∈ WT := WT_of 664 (by decide +kernel) (by decide +kernel)
theorem m_665 : (Jvm.Cond.selects "InstructionReader" y_R_poke y_R_poke) ∈ WT := WT_of 665 (by decide +kernel) (by decide +kernel)
theorem m_666 : (Jvm.Cond.code y_R_poke prog_1_method_5_code (3 : Nat) (Option.none : Option Jvm.ClassFile.FieldType)) ∈ WT := WT_of 666 (by decide +kernel) (by decide +kernel)
theorem m_667 : (Jvm.Cond.methodLink "InstructionReader" (55 : Nat) y_R_demandAddress) ∈ WT := WT_of 667 (by decide +kernel) (by decide +kernel)
theorem m_668 : (Jvm.Cond.static y_R_demandAddress) ∈ WT := WT_of 668 (by decide +kernel) (by decide +kernel)
theorem m_669 : (Jvm.Cond.code y_R_demandAddress prog_1_method_10_code (1 : Nat) (Option.none : Option Jvm.ClassFile.FieldType)) ∈ WT := WT_of 669 (by decide +kernel) (by decide +kernel)
theorem m_670 : (Jvm.Cond.methodLink "InstructionReader" (83 : Nat) y_R_isAddress) ∈ WT := WT_of 670 (by decide +kernel) (by decide +kernel)
theorem m_671 : (Jvm.Cond.static y_R_isAddress) ∈ WT := WT_of 671 (by decide +kernel) (by decide +kernel)
theorem m_672 : (Jvm.Cond.code y_R_isAddress prog_1_method_11_code (1 : Nat) (Option.some Jvm.ClassFile.FieldType.boolean)) ∈ WT := WT_of 672 (by decide +kernel) (by decide +kernel)
theorem m_674 : (Jvm.Cond.methodLink "InstructionReaderLaw" (61 : Nat) y_W_at) ∈ WT := WT_of 674 (by decide +kernel) (by decide +kernel)
theorem m_675 : (Jvm.Cond.static y_W_at) ∈ WT := WT_of 675 (by decide +kernel) (by decide +kernel)
theorem m_677 : (Jvm.Cond.methodLink "InstructionReaderLaw" (19 : Nat) y_R_at) ∈ WT := WT_of 677 (by decide +kernel) (by decide +kernel)
theorem m_678 : (Jvm.Cond.instanceMethod y_R_at) ∈ WT := WT_of 678 (by decide +kernel) (by decide +kernel)
theorem m_679 : (Jvm.Cond.selects "InstructionReader" y_R_at y_R_at) ∈ WT := WT_of 679 (by decide +kernel) (by decide +kernel)
theorem m_680 : (Jvm.Cond.code y_R_at prog_1_method_6_code (2 : Nat) (Option.some Jvm.ClassFile.FieldType.int)) ∈ WT := WT_of 680 (by decide +kernel) (by decide +kernel)
theorem m_681 : (Jvm.Cond.methodLink "InstructionReader" (58 : Nat) y_R_isWholeAt) ∈ WT := WT_of 681 (by decide +kernel) (by decide +kernel)
theorem m_683 : (Jvm.Cond.instanceMethod y_R_isWholeAt) ∈ WT := WT_of 683 (by decide +kernel) (by decide +kernel)
theorem m_684 : (Jvm.Cond.code y_R_isWholeAt prog_1_method_15_code (2 : Nat) (Option.some Jvm.ClassFile.FieldType.boolean)) ∈ WT := WT_of 684 (by decide +kernel) (by decide +kernel)
theorem m_685 : (Jvm.Cond.methodLink "InstructionReader" (70 : Nat) y_R_bytesAt) ∈ WT := WT_of 685 (by decide +kernel) (by decide +kernel)
theorem m_687 : (Jvm.Cond.instanceMethod y_R_bytesAt) ∈ WT := WT_of 687 (by decide +kernel) (by decide +kernel)
theorem m_688 : (Jvm.Cond.code y_R_bytesAt prog_1_method_16_code (2 : Nat) (Option.some Jvm.ClassFile.FieldType.int)) ∈ WT := WT_of 688 (by decide +kernel) (by decide +kernel)
theorem m_689 : (Jvm.Cond.methodLink "InstructionReader" (105 : Nat) y_R_byteAt) ∈ WT := WT_of 689 (by decide +kernel) (by decide +kernel)
theorem m_691 : (Jvm.Cond.instanceMethod y_R_byteAt) ∈ WT := WT_of 691 (by decide +kernel) (by decide +kernel)
theorem m_692 : (Jvm.Cond.code y_R_byteAt prog_1_method_19_code (2 : Nat) (Option.some Jvm.ClassFile.FieldType.int)) ∈ WT := WT_of 692 (by decide +kernel) (by decide +kernel)
theorem m_693 : (Jvm.Cond.methodLink "InstructionReader" (61 : Nat) y_R_bitsAt) ∈ WT := WT_of 693 (by decide +kernel) (by decide +kernel)
theorem m_695 : (Jvm.Cond.instanceMethod y_R_bitsAt) ∈ WT := WT_of 695 (by decide +kernel) (by decide +kernel)
theorem m_696 : (Jvm.Cond.code y_R_bitsAt prog_1_method_17_code (3 : Nat) (Option.some Jvm.ClassFile.FieldType.int)) ∈ WT := WT_of 696 (by decide +kernel) (by decide +kernel)
theorem m_697 : (Jvm.Cond.methodLink "InstructionReader" (108 : Nat) y_R_halfAt) ∈ WT := WT_of 697 (by decide +kernel) (by decide +kernel)
theorem m_699 : (Jvm.Cond.instanceMethod y_R_halfAt) ∈ WT := WT_of 699 (by decide +kernel) (by decide +kernel)
theorem m_700 : (Jvm.Cond.code y_R_halfAt prog_1_method_18_code (2 : Nat) (Option.some Jvm.ClassFile.FieldType.int)) ∈ WT := WT_of 700 (by decide +kernel) (by decide +kernel)
theorem m_701 : (Jvm.Cond.methodLink "InstructionReaderLaw" (64 : Nat) y_W_next) ∈ WT := WT_of 701 (by decide +kernel) (by decide +kernel)
theorem m_702 : (Jvm.Cond.static y_W_next) ∈ WT := WT_of 702 (by decide +kernel) (by decide +kernel)
theorem m_704 : (Jvm.Cond.classLink "InstructionReaderLaw" (27 : Nat) "java/lang/IllegalArgumentException") ∈ WT := WT_of 704 (by decide +kernel) (by decide +kernel)
theorem m_705 : (Jvm.Cond.methodLink "InstructionReaderLaw" (23 : Nat) y_R_next) ∈ WT := WT_of 705 (by decide +kernel) (by decide +kernel)
theorem m_706 : (Jvm.Cond.instanceMethod y_R_next) ∈ WT := WT_of 706 (by decide +kernel) (by decide +kernel)
theorem m_707 : (Jvm.Cond.selects "InstructionReader" y_R_next y_R_next) ∈ WT := WT_of 707 (by decide +kernel) (by decide +kernel)
theorem m_708 : (Jvm.Cond.code y_R_next prog_1_method_7_code (5 : Nat) (Option.some Jvm.ClassFile.FieldType.int)) ∈ WT := WT_of 708 (by decide +kernel) (by decide +kernel)
theorem m_709 : (Jvm.Cond.classLink "InstructionReader" (65 : Nat) "java/lang/IllegalArgumentException") ∈ WT := WT_of 709 (by decide +kernel) (by decide +kernel)
theorem m_710 : (Jvm.Cond.instantiable "java/lang/IllegalArgumentException" (6 : Nat)) ∈ WT := WT_of 710 (by decide +kernel) (by decide +kernel)
theorem m_712 : (Jvm.Cond.selects "java/lang/IllegalArgumentException" ({ cls := "java/lang/Throwable", name := "fillInStackTrace", desc := "(I)Ljava/lang/Throwable;" } : Jvm.MethodName) ({ cls := "java/lang/Throwable", name := "fillInStackTrace", desc := "(I)Ljava/lang/Throwable;" } : Jvm.MethodName)) ∈ WT := WT_of 712 (by decide +kernel) (by decide +kernel)
theorem m_713 : (Jvm.Cond.lays "java/lang/IllegalArgumentException" "java/lang/Throwable" "cause" "Ljava/lang/Throwable;") ∈ WT := WT_of 713 (by decide +kernel) (by decide +kernel)
theorem m_714 : (Jvm.Cond.lays "java/lang/IllegalArgumentException" "java/lang/Throwable" "stackTrace" "[Ljava/lang/StackTraceElement;") ∈ WT := WT_of 714 (by decide +kernel) (by decide +kernel)
theorem m_715 : (Jvm.Cond.lays "java/lang/IllegalArgumentException" "java/lang/Throwable" "suppressedExceptions" "Ljava/util/List;") ∈ WT := WT_of 715 (by decide +kernel) (by decide +kernel)
theorem m_716 : (Jvm.Cond.lays "java/lang/IllegalArgumentException" "java/lang/Throwable" "detailMessage" "Ljava/lang/String;") ∈ WT := WT_of 716 (by decide +kernel) (by decide +kernel)
theorem m_717 : (Jvm.Cond.lays "java/lang/IllegalArgumentException" "java/lang/Throwable" "backtrace" "Ljava/lang/Object;") ∈ WT := WT_of 717 (by decide +kernel) (by decide +kernel)
theorem m_719 : (Jvm.Cond.methodLink "InstructionReader" (69 : Nat) ({ cls := "java/lang/IllegalArgumentException", name := "<init>", desc := "(Ljava/lang/String;)V" } : Jvm.MethodName)) ∈ WT := WT_of 719 (by decide +kernel) (by decide +kernel)
theorem m_720 : (Jvm.Cond.instanceMethod ({ cls := "java/lang/IllegalArgumentException", name := "<init>", desc := "(Ljava/lang/String;)V" } : Jvm.MethodName)) ∈ WT := WT_of 720 (by decide +kernel) (by decide +kernel)
theorem m_721 : (Jvm.Cond.code ({ cls := "java/lang/IllegalArgumentException", name := "<init>", desc := "(Ljava/lang/String;)V" } : Jvm.MethodName) prog_11_method_2_code (2 : Nat) (Option.none : Option Jvm.ClassFile.FieldType)) ∈ WT := WT_of 721 (by decide +kernel) (by decide +kernel)
theorem m_722 : (Jvm.Cond.methodLink "java/lang/IllegalArgumentException" (7 : Nat) ({ cls := "java/lang/RuntimeException", name := "<init>", desc := "(Ljava/lang/String;)V" } : Jvm.MethodName)) ∈ WT := WT_of 722 (by decide +kernel) (by decide +kernel)
theorem m_723 : (Jvm.Cond.lays "java/lang/IllegalArgumentException" "java/lang/Throwable" "depth" "I") ∈ WT := WT_of 723 (by decide +kernel) (by decide +kernel)
theorem m_725 : (Jvm.Cond.methodLink "InstructionReaderLaw" (68 : Nat) y_W_before) ∈ WT := WT_of 725 (by decide +kernel) (by decide +kernel)
theorem m_726 : (Jvm.Cond.static y_W_before) ∈ WT := WT_of 726 (by decide +kernel) (by decide +kernel)
theorem m_728 : (Jvm.Cond.methodLink "InstructionReaderLaw" (29 : Nat) y_R_before) ∈ WT := WT_of 728 (by decide +kernel) (by decide +kernel)
theorem m_729 : (Jvm.Cond.instanceMethod y_R_before) ∈ WT := WT_of 729 (by decide +kernel) (by decide +kernel)
theorem m_730 : (Jvm.Cond.selects "InstructionReader" y_R_before y_R_before) ∈ WT := WT_of 730 (by decide +kernel) (by decide +kernel)
theorem m_731 : (Jvm.Cond.code y_R_before prog_1_method_8_code (5 : Nat) (Option.some Jvm.ClassFile.FieldType.int)) ∈ WT := WT_of 731 (by decide +kernel) (by decide +kernel)
theorem m_732 : (Jvm.Cond.methodLink "InstructionReaderLaw" (71 : Nat) y_W_numbers) ∈ WT := WT_of 732 (by decide +kernel) (by decide +kernel)
theorem m_733 : (Jvm.Cond.static y_W_numbers) ∈ WT := WT_of 733 (by decide +kernel) (by decide +kernel)
theorem m_735 : (Jvm.Cond.methodLink "InstructionReaderLaw" (32 : Nat) y_R_numbers) ∈ WT := WT_of 735 (by decide +kernel) (by decide +kernel)
theorem m_736 : (Jvm.Cond.instanceMethod y_R_numbers) ∈ WT := WT_of 736 (by decide +kernel) (by decide +kernel)
theorem m_737 : (Jvm.Cond.selects "InstructionReader" y_R_numbers y_R_numbers) ∈ WT := WT_of 737 (by decide +kernel) (by decide +kernel)
theorem m_738 : (Jvm.Cond.code y_R_numbers prog_1_method_9_code (4 : Nat) (Option.some Jvm.ClassFile.FieldType.int)) ∈ WT := WT_of 738 (by decide +kernel) (by decide +kernel)
theorem m_739 : (Jvm.Cond.classLink "InstructionReaderLaw" (36 : Nat) "InstructionReaderModel") ∈ WT := WT_of 739 (by decide +kernel) (by decide +kernel)
theorem m_740 : (Jvm.Cond.instantiable "InstructionReaderModel" (14 : Nat)) ∈ WT := WT_of 740 (by decide +kernel) (by decide +kernel)
theorem m_741 : (Jvm.Cond.methodLink "InstructionReaderLaw" (38 : Nat) y_M_init) ∈ WT := WT_of 741 (by decide +kernel) (by decide +kernel)
theorem m_742 : (Jvm.Cond.instanceMethod y_M_init) ∈ WT := WT_of 742 (by decide +kernel) (by decide +kernel)
theorem m_743 : (Jvm.Cond.code y_M_init prog_8_method_1_code (1 : Nat) (Option.none : Option Jvm.ClassFile.FieldType)) ∈ WT := WT_of 743 (by decide +kernel) (by decide +kernel)
theorem m_744 : (Jvm.Cond.methodLink "InstructionReaderModel" (1 : Nat) ({ cls := "java/lang/Object", name := "<init>", desc := "()V" } : Jvm.MethodName)) ∈ WT := WT_of 744 (by decide +kernel) (by decide +kernel)
theorem m_745 : (Jvm.Cond.constant "InstructionReaderModel" (17 : Nat) (1869768058 : Int32)) ∈ WT := WT_of 745 (by decide +kernel) (by decide +kernel)
theorem m_746 : (Jvm.Cond.constant "InstructionReaderModel" (18 : Nat) (3158387 : Int32)) ∈ WT := WT_of 746 (by decide +kernel) (by decide +kernel)
theorem m_747 : (Jvm.Cond.constant "InstructionReaderModel" (19 : Nat) (3223923 : Int32)) ∈ WT := WT_of 747 (by decide +kernel) (by decide +kernel)
theorem m_748 : (Jvm.Cond.fieldLink "InstructionReaderModel" (26 : Nat) "InstructionReaderModel" "thrown" "I") ∈ WT := WT_of 748 (by decide +kernel) (by decide +kernel)
theorem m_749 : (Jvm.Cond.fieldLink "InstructionReaderModel" (7 : Nat) "InstructionReaderModel" "text" "[C") ∈ WT := WT_of 749 (by decide +kernel) (by decide +kernel)
theorem m_750 : (Jvm.Cond.fieldLink "InstructionReaderModel" (33 : Nat) "InstructionReaderModel" "size" "I") ∈ WT := WT_of 750 (by decide +kernel) (by decide +kernel)
theorem m_751 : (Jvm.Cond.fieldLink "InstructionReaderModel" (333 : Nat) "InstructionReaderModel" "bytes" "I") ∈ WT := WT_of 751 (by decide +kernel) (by decide +kernel)
theorem m_752 : (Jvm.Cond.fieldLink "InstructionReaderModel" (56 : Nat) "InstructionReaderModel" "operands" "I") ∈ WT := WT_of 752 (by decide +kernel) (by decide +kernel)
theorem m_753 : (Jvm.Cond.fieldLink "InstructionReaderModel" (52 : Nat) "InstructionReaderModel" "line" "Z") ∈ WT := WT_of 753 (by decide +kernel) (by decide +kernel)
theorem m_754 : (Jvm.Cond.fieldLink "InstructionReaderModel" (13 : Nat) "InstructionReaderModel" "stretch" "[I") ∈ WT := WT_of 754 (by decide +kernel) (by decide +kernel)
theorem m_755 : (Jvm.Cond.fieldLink "InstructionReaderModel" (30 : Nat) "InstructionReaderModel" "bits" "I") ∈ WT := WT_of 755 (by decide +kernel) (by decide +kernel)
theorem m_756 : (Jvm.Cond.fieldLink "InstructionReaderModel" (77 : Nat) "InstructionReaderModel" "d" "I") ∈ WT := WT_of 756 (by decide +kernel) (by decide +kernel)
theorem m_757 : (Jvm.Cond.fieldLink "InstructionReaderModel" (83 : Nat) "InstructionReaderModel" "a" "I") ∈ WT := WT_of 757 (by decide +kernel) (by decide +kernel)
theorem m_758 : (Jvm.Cond.fieldLink "InstructionReaderModel" (86 : Nat) "InstructionReaderModel" "b" "I") ∈ WT := WT_of 758 (by decide +kernel) (by decide +kernel)
theorem m_759 : (Jvm.Cond.fieldLink "InstructionReaderModel" (89 : Nat) "InstructionReaderModel" "f" "I") ∈ WT := WT_of 759 (by decide +kernel) (by decide +kernel)
theorem m_760 : (Jvm.Cond.fieldLink "InstructionReaderModel" (20 : Nat) "InstructionReaderModel" "registers" "[I") ∈ WT := WT_of 760 (by decide +kernel) (by decide +kernel)
theorem m_761 : (Jvm.Cond.fieldLink "InstructionReaderModel" (23 : Nat) "InstructionReaderModel" "kept" "[C") ∈ WT := WT_of 761 (by decide +kernel) (by decide +kernel)
theorem m_762 : (Jvm.Cond.lays "InstructionReaderModel" "InstructionReaderModel" "thrown" "I") ∈ WT := WT_of 762 (by decide +kernel) (by decide +kernel)
theorem m_764 : (Jvm.Cond.laysFinal "InstructionReaderModel" "InstructionReaderModel" "text" "[C") ∈ WT := WT_of 764 (by decide +kernel) (by decide +kernel)
theorem m_766 : (Jvm.Cond.lays "InstructionReaderModel" "InstructionReaderModel" "size" "I") ∈ WT := WT_of 766 (by decide +kernel) (by decide +kernel)
theorem m_768 : (Jvm.Cond.lays "InstructionReaderModel" "InstructionReaderModel" "bytes" "I") ∈ WT := WT_of 768 (by decide +kernel) (by decide +kernel)
theorem m_770 : (Jvm.Cond.lays "InstructionReaderModel" "InstructionReaderModel" "operands" "I") ∈ WT := WT_of 770 (by decide +kernel) (by decide +kernel)
theorem m_772 : (Jvm.Cond.lays "InstructionReaderModel" "InstructionReaderModel" "line" "Z") ∈ WT := WT_of 772 (by decide +kernel) (by decide +kernel)
theorem m_774 : (Jvm.Cond.laysFinal "InstructionReaderModel" "InstructionReaderModel" "stretch" "[I") ∈ WT := WT_of 774 (by decide +kernel) (by decide +kernel)
theorem m_776 : (Jvm.Cond.lays "InstructionReaderModel" "InstructionReaderModel" "bits" "I") ∈ WT := WT_of 776 (by decide +kernel) (by decide +kernel)
theorem m_778 : (Jvm.Cond.lays "InstructionReaderModel" "InstructionReaderModel" "d" "I") ∈ WT := WT_of 778 (by decide +kernel) (by decide +kernel)
theorem m_780 : (Jvm.Cond.lays "InstructionReaderModel" "InstructionReaderModel" "a" "I") ∈ WT := WT_of 780 (by decide +kernel) (by decide +kernel)
theorem m_782 : (Jvm.Cond.lays "InstructionReaderModel" "InstructionReaderModel" "b" "I") ∈ WT := WT_of 782 (by decide +kernel) (by decide +kernel)
theorem m_784 : (Jvm.Cond.lays "InstructionReaderModel" "InstructionReaderModel" "f" "I") ∈ WT := WT_of 784 (by decide +kernel) (by decide +kernel)
theorem m_786 : (Jvm.Cond.laysFinal "InstructionReaderModel" "InstructionReaderModel" "registers" "[I") ∈ WT := WT_of 786 (by decide +kernel) (by decide +kernel)
theorem m_788 : (Jvm.Cond.laysFinal "InstructionReaderModel" "InstructionReaderModel" "kept" "[C") ∈ WT := WT_of 788 (by decide +kernel) (by decide +kernel)
theorem m_791 : (Jvm.Cond.methodLink "InstructionReaderLaw" (49 : Nat) y_M_thrown) ∈ WT := WT_of 791 (by decide +kernel) (by decide +kernel)
theorem m_792 : (Jvm.Cond.instanceMethod y_M_thrown) ∈ WT := WT_of 792 (by decide +kernel) (by decide +kernel)
theorem m_793 : (Jvm.Cond.selects "InstructionReaderModel" y_M_thrown y_M_thrown) ∈ WT := WT_of 793 (by decide +kernel) (by decide +kernel)
theorem m_794 : (Jvm.Cond.code y_M_thrown prog_8_method_2_code (1 : Nat) (Option.some Jvm.ClassFile.FieldType.int)) ∈ WT := WT_of 794 (by decide +kernel) (by decide +kernel)
theorem m_795 : (Jvm.Cond.methodLink "InstructionReaderLaw" (42 : Nat) y_M_read) ∈ WT := WT_of 795 (by decide +kernel) (by decide +kernel)
theorem m_796 : (Jvm.Cond.instanceMethod y_M_read) ∈ WT := WT_of 796 (by decide +kernel) (by decide +kernel)
theorem m_797 : (Jvm.Cond.selects "InstructionReaderModel" y_M_read y_M_read) ∈ WT := WT_of 797 (by decide +kernel) (by decide +kernel)
theorem m_798 : (Jvm.Cond.code y_M_read prog_8_method_33_code (2 : Nat) (Option.some Jvm.ClassFile.FieldType.int)) ∈ WT := WT_of 798 (by decide +kernel) (by decide +kernel)
theorem m_799 : (Jvm.Cond.constant "InstructionReaderModel" (354 : Nat) (65535 : Int32)) ∈ WT := WT_of 799 (by decide +kernel) (by decide +kernel)
theorem m_800 : (Jvm.Cond.methodLink "InstructionReaderModel" (355 : Nat) y_M_understand) ∈ WT := WT_of 800 (by decide +kernel) (by decide +kernel)
theorem m_802 : (Jvm.Cond.instanceMethod y_M_understand) ∈ WT := WT_of 802 (by decide +kernel) (by decide +kernel)
theorem m_803 : (Jvm.Cond.code y_M_understand prog_8_method_32_code (2 : Nat) (Option.none : Option Jvm.ClassFile.FieldType)) ∈ WT := WT_of 803 (by decide +kernel) (by decide +kernel)
theorem m_804 : (Jvm.Cond.methodLink "InstructionReaderModel" (181 : Nat) y_M_part) ∈ WT := WT_of 804 (by decide +kernel) (by decide +kernel)
theorem m_806 : (Jvm.Cond.instanceMethod y_M_part) ∈ WT := WT_of 806 (by decide +kernel) (by decide +kernel)
theorem m_807 : (Jvm.Cond.code y_M_part prog_8_method_3_code (3 : Nat) (Option.some Jvm.ClassFile.FieldType.int)) ∈ WT := WT_of 807 (by decide +kernel) (by decide +kernel)
theorem m_808 : (Jvm.Cond.methodLink "InstructionReaderModel" (336 : Nat) y_M_longOne) ∈ WT := WT_of 808 (by decide +kernel) (by decide +kernel)
theorem m_810 : (Jvm.Cond.instanceMethod y_M_longOne) ∈ WT := WT_of 810 (by decide +kernel) (by decide +kernel)
theorem m_811 : (Jvm.Cond.code y_M_longOne prog_8_method_23_code (2 : Nat) (Option.none : Option Jvm.ClassFile.FieldType)) ∈ WT := WT_of 811 (by decide +kernel) (by decide +kernel)
theorem m_812 : (Jvm.Cond.methodLink "InstructionReaderModel" (225 : Nat) y_M_plain) ∈ WT := WT_of 812 (by decide +kernel) (by decide +kernel)
theorem m_814 : (Jvm.Cond.instanceMethod y_M_plain) ∈ WT := WT_of 814 (by decide +kernel) (by decide +kernel)
theorem m_815 : (Jvm.Cond.code y_M_plain prog_8_method_16_code (2 : Nat) (Option.none : Option Jvm.ClassFile.FieldType)) ∈ WT := WT_of 815 (by decide +kernel) (by decide +kernel)
theorem m_816 : (Jvm.Cond.constantLong "InstructionReaderModel" (92 : Nat) (6579297 : Int64)) ∈ WT := WT_of 816 (by decide +kernel) (by decide +kernel)
theorem m_817 : (Jvm.Cond.constantLong "InstructionReaderModel" (94 : Nat) (7105651 : Int64)) ∈ WT := WT_of 817 (by decide +kernel) (by decide +kernel)
theorem m_818 : (Jvm.Cond.constantLong "InstructionReaderModel" (96 : Nat) (7629939 : Int64)) ∈ WT := WT_of 818 (by decide +kernel) (by decide +kernel)
theorem m_819 : (Jvm.Cond.constantLong "InstructionReaderModel" (98 : Nat) (1970564211 : Int64)) ∈ WT := WT_of 819 (by decide +kernel) (by decide +kernel)
theorem m_820 : (Jvm.Cond.constantLong "InstructionReaderModel" (100 : Nat) (7499640 : Int64)) ∈ WT := WT_of 820 (by decide +kernel) (by decide +kernel)
theorem m_821 : (Jvm.Cond.constantLong "InstructionReaderModel" (102 : Nat) (7107187 : Int64)) ∈ WT := WT_of 821 (by decide +kernel) (by decide +kernel)
theorem m_822 : (Jvm.Cond.constantLong "InstructionReaderModel" (104 : Nat) (29295 : Int64)) ∈ WT := WT_of 822 (by decide +kernel) (by decide +kernel)
theorem m_823 : (Jvm.Cond.constantLong "InstructionReaderModel" (106 : Nat) (6581857 : Int64)) ∈ WT := WT_of 823 (by decide +kernel) (by decide +kernel)
theorem m_824 : (Jvm.Cond.methodLink "InstructionReaderModel" (108 : Nat) y_M_threes) ∈ WT := WT_of 824 (by decide +kernel) (by decide +kernel)
theorem m_826 : (Jvm.Cond.instanceMethod y_M_threes) ∈ WT := WT_of 826 (by decide +kernel) (by decide +kernel)
theorem m_827 : (Jvm.Cond.code y_M_threes prog_8_method_15_code (3 : Nat) (Option.none : Option Jvm.ClassFile.FieldType)) ∈ WT := WT_of 827 (by decide +kernel) (by decide +kernel)
theorem m_828 : (Jvm.Cond.methodLink "InstructionReaderModel" (74 : Nat) y_M_name) ∈ WT := WT_of 828 (by decide +kernel) (by decide +kernel)
theorem m_830 : (Jvm.Cond.instanceMethod y_M_name) ∈ WT := WT_of 830 (by decide +kernel) (by decide +kernel)
theorem m_831 : (Jvm.Cond.code y_M_name prog_8_method_8_code (3 : Nat) (Option.none : Option Jvm.ClassFile.FieldType)) ∈ WT := WT_of 831 (by decide +kernel) (by decide +kernel)
theorem m_832 : (Jvm.Cond.methodLink "InstructionReaderModel" (59 : Nat) y_M_say) ∈ WT := WT_of 832 (by decide +kernel) (by decide +kernel)
theorem m_834 : (Jvm.Cond.instanceMethod y_M_say) ∈ WT := WT_of 834 (by decide +kernel) (by decide +kernel)
theorem m_835 : (Jvm.Cond.code y_M_say prog_8_method_5_code (5 : Nat) (Option.none : Option Jvm.ClassFile.FieldType)) ∈ WT := WT_of 835 (by decide +kernel) (by decide +kernel)
theorem m_836 : (Jvm.Cond.constantLong "InstructionReaderModel" (36 : Nat) (255 : Int64)) ∈ WT := WT_of 836 (by decide +kernel) (by decide +kernel)
theorem m_837 : (Jvm.Cond.methodLink "InstructionReaderModel" (38 : Nat) y_M_put) ∈ WT := WT_of 837 (by decide +kernel) (by decide +kernel)
theorem m_839 : (Jvm.Cond.instanceMethod y_M_put) ∈ WT := WT_of 839 (by decide +kernel) (by decide +kernel)
theorem m_840 : (Jvm.Cond.code y_M_put prog_8_method_4_code (2 : Nat) (Option.none : Option Jvm.ClassFile.FieldType)) ∈ WT := WT_of 840 (by decide +kernel) (by decide +kernel)
theorem m_841 : (Jvm.Cond.methodLink "InstructionReaderModel" (80 : Nat) y_M_register) ∈ WT := WT_of 841 (by decide +kernel) (by decide +kernel)
theorem m_843 : (Jvm.Cond.instanceMethod y_M_register) ∈ WT := WT_of 843 (by decide +kernel) (by decide +kernel)
theorem m_844 : (Jvm.Cond.code y_M_register prog_8_method_10_code (2 : Nat) (Option.none : Option Jvm.ClassFile.FieldType)) ∈ WT := WT_of 844 (by decide +kernel) (by decide +kernel)
theorem m_845 : (Jvm.Cond.methodLink "InstructionReaderModel" (62 : Nat) y_M_next) ∈ WT := WT_of 845 (by decide +kernel) (by decide +kernel)
theorem m_847 : (Jvm.Cond.instanceMethod y_M_next) ∈ WT := WT_of 847 (by decide +kernel) (by decide +kernel)
theorem m_848 : (Jvm.Cond.code y_M_next prog_8_method_9_code (1 : Nat) (Option.none : Option Jvm.ClassFile.FieldType)) ∈ WT := WT_of 848 (by decide +kernel) (by decide +kernel)
theorem m_849 : (Jvm.Cond.constantLong "InstructionReaderModel" (111 : Nat) (7107949 : Int64)) ∈ WT := WT_of 849 (by decide +kernel) (by decide +kernel)
theorem m_850 : (Jvm.Cond.constantLong "InstructionReaderModel" (113 : Nat) (1751938413 : Int64)) ∈ WT := WT_of 850 (by decide +kernel) (by decide +kernel)
theorem m_851 : (Jvm.Cond.constantLong "InstructionReaderModel" (115 : Nat) (129138533627245 : Int64)) ∈ WT := WT_of 851 (by decide +kernel) (by decide +kernel)
theorem m_852 : (Jvm.Cond.constantLong "InstructionReaderModel" (117 : Nat) (504263112045 : Int64)) ∈ WT := WT_of 852 (by decide +kernel) (by decide +kernel)
theorem m_853 : (Jvm.Cond.constantLong "InstructionReaderModel" (119 : Nat) (7760228 : Int64)) ∈ WT := WT_of 853 (by decide +kernel) (by decide +kernel)
theorem m_854 : (Jvm.Cond.constantLong "InstructionReaderModel" (121 : Nat) (1970694500 : Int64)) ∈ WT := WT_of 854 (by decide +kernel) (by decide +kernel)
theorem m_855 : (Jvm.Cond.constantLong "InstructionReaderModel" (123 : Nat) (7169394 : Int64)) ∈ WT := WT_of 855 (by decide +kernel) (by decide +kernel)
theorem m_856 : (Jvm.Cond.constantLong "InstructionReaderModel" (125 : Nat) (1970103666 : Int64)) ∈ WT := WT_of 856 (by decide +kernel) (by decide +kernel)
theorem m_857 : (Jvm.Cond.constantLong "InstructionReaderModel" (127 : Nat) (6452595 : Int64)) ∈ WT := WT_of 857 (by decide +kernel) (by decide +kernel)
theorem m_858 : (Jvm.Cond.constantLong "InstructionReaderModel" (129 : Nat) (6386291 : Int64)) ∈ WT := WT_of 858 (by decide +kernel) (by decide +kernel)
theorem m_859 : (Jvm.Cond.methodLink "InstructionReaderModel" (228 : Nat) y_M_twos) ∈ WT := WT_of 859 (by decide +kernel) (by decide +kernel)
theorem m_861 : (Jvm.Cond.instanceMethod y_M_twos) ∈ WT := WT_of 861 (by decide +kernel) (by decide +kernel)
theorem m_862 : (Jvm.Cond.code y_M_twos prog_8_method_17_code (3 : Nat) (Option.none : Option Jvm.ClassFile.FieldType)) ∈ WT := WT_of 862 (by decide +kernel) (by decide +kernel)
theorem m_863 : (Jvm.Cond.constantLong "InstructionReaderModel" (131 : Nat) (1767993971 : Int64)) ∈ WT := WT_of 863 (by decide +kernel) (by decide +kernel)
theorem m_864 : (Jvm.Cond.constantLong "InstructionReaderModel" (133 : Nat) (1768186977 : Int64)) ∈ WT := WT_of 864 (by decide +kernel) (by decide +kernel)
theorem m_865 : (Jvm.Cond.constantLong "InstructionReaderModel" (135 : Nat) (1768713331 : Int64)) ∈ WT := WT_of 865 (by decide +kernel) (by decide +kernel)
theorem m_866 : (Jvm.Cond.constantLong "InstructionReaderModel" (137 : Nat) (1769237619 : Int64)) ∈ WT := WT_of 866 (by decide +kernel) (by decide +kernel)
theorem m_867 : (Jvm.Cond.constantLong "InstructionReaderModel" (139 : Nat) (504280411251 : Int64)) ∈ WT := WT_of 867 (by decide +kernel) (by decide +kernel)
theorem m_868 : (Jvm.Cond.constantLong "InstructionReaderModel" (141 : Nat) (1769107320 : Int64)) ∈ WT := WT_of 868 (by decide +kernel) (by decide +kernel)
theorem m_869 : (Jvm.Cond.constantLong "InstructionReaderModel" (143 : Nat) (1768714867 : Int64)) ∈ WT := WT_of 869 (by decide +kernel) (by decide +kernel)
theorem m_870 : (Jvm.Cond.constantLong "InstructionReaderModel" (145 : Nat) (6910575 : Int64)) ∈ WT := WT_of 870 (by decide +kernel) (by decide +kernel)
theorem m_871 : (Jvm.Cond.constantLong "InstructionReaderModel" (147 : Nat) (1768189537 : Int64)) ∈ WT := WT_of 871 (by decide +kernel) (by decide +kernel)
theorem m_872 : (Jvm.Cond.methodLink "InstructionReaderModel" (68 : Nat) y_M_immediate) ∈ WT := WT_of 872 (by decide +kernel) (by decide +kernel)
theorem m_874 : (Jvm.Cond.instanceMethod y_M_immediate) ∈ WT := WT_of 874 (by decide +kernel) (by decide +kernel)
theorem m_875 : (Jvm.Cond.code y_M_immediate prog_8_method_11_code (2 : Nat) (Option.none : Option Jvm.ClassFile.FieldType)) ∈ WT := WT_of 875 (by decide +kernel) (by decide +kernel)
theorem m_876 : (Jvm.Cond.methodLink "InstructionReaderModel" (65 : Nat) y_M_number) ∈ WT := WT_of 876 (by decide +kernel) (by decide +kernel)
theorem m_878 : (Jvm.Cond.instanceMethod y_M_number) ∈ WT := WT_of 878 (by decide +kernel) (by decide +kernel)
theorem m_879 : (Jvm.Cond.code y_M_number prog_8_method_7_code (2 : Nat) (Option.none : Option Jvm.ClassFile.FieldType)) ∈ WT := WT_of 879 (by decide +kernel) (by decide +kernel)
theorem m_880 : (Jvm.Cond.methodLink "InstructionReaderModel" (48 : Nat) y_M_digits) ∈ WT := WT_of 880 (by decide +kernel) (by decide +kernel)
theorem m_882 : (Jvm.Cond.instanceMethod y_M_digits) ∈ WT := WT_of 882 (by decide +kernel) (by decide +kernel)
theorem m_883 : (Jvm.Cond.code y_M_digits prog_8_method_6_code (7 : Nat) (Option.none : Option Jvm.ClassFile.FieldType)) ∈ WT := WT_of 883 (by decide +kernel) (by decide +kernel)
theorem m_884 : (Jvm.Cond.constantLong "InstructionReaderModel" (42 : Nat) (9 : Int64)) ∈ WT := WT_of 884 (by decide +kernel) (by decide +kernel)
theorem m_885 : (Jvm.Cond.constantLong "InstructionReaderModel" (44 : Nat) (10 : Int64)) ∈ WT := WT_of 885 (by decide +kernel) (by decide +kernel)
theorem m_886 : (Jvm.Cond.constantLong "InstructionReaderModel" (46 : Nat) (48 : Int64)) ∈ WT := WT_of 886 (by decide +kernel) (by decide +kernel)
theorem m_887 : (Jvm.Cond.methodLink "InstructionReaderModel" (231 : Nat) y_M_loads) ∈ WT := WT_of 887 (by decide +kernel) (by decide +kernel)
theorem m_889 : (Jvm.Cond.instanceMethod y_M_loads) ∈ WT := WT_of 889 (by decide +kernel) (by decide +kernel)
theorem m_890 : (Jvm.Cond.code y_M_loads prog_8_method_18_code (1 : Nat) (Option.none : Option Jvm.ClassFile.FieldType)) ∈ WT := WT_of 890 (by decide +kernel) (by decide +kernel)
theorem m_891 : (Jvm.Cond.constantLong "InstructionReaderModel" (149 : Nat) (25196 : Int64)) ∈ WT := WT_of 891 (by decide +kernel) (by decide +kernel)
theorem m_892 : (Jvm.Cond.constantLong "InstructionReaderModel" (151 : Nat) (26732 : Int64)) ∈ WT := WT_of 892 (by decide +kernel) (by decide +kernel)
theorem m_893 : (Jvm.Cond.constantLong "InstructionReaderModel" (153 : Nat) (30572 : Int64)) ∈ WT := WT_of 893 (by decide +kernel) (by decide +kernel)
theorem m_894 : (Jvm.Cond.constantLong "InstructionReaderModel" (155 : Nat) (7692908 : Int64)) ∈ WT := WT_of 894 (by decide +kernel) (by decide +kernel)
theorem m_895 : (Jvm.Cond.constantLong "InstructionReaderModel" (157 : Nat) (7694444 : Int64)) ∈ WT := WT_of 895 (by decide +kernel) (by decide +kernel)
theorem m_896 : (Jvm.Cond.methodLink "InstructionReaderModel" (159 : Nat) y_M_memory) ∈ WT := WT_of 896 (by decide +kernel) (by decide +kernel)
theorem m_898 : (Jvm.Cond.instanceMethod y_M_memory) ∈ WT := WT_of 898 (by decide +kernel) (by decide +kernel)
theorem m_899 : (Jvm.Cond.code y_M_memory prog_8_method_14_code (3 : Nat) (Option.none : Option Jvm.ClassFile.FieldType)) ∈ WT := WT_of 899 (by decide +kernel) (by decide +kernel)
theorem m_900 : (Jvm.Cond.methodLink "InstructionReaderModel" (71 : Nat) y_M_bracket) ∈ WT := WT_of 900 (by decide +kernel) (by decide +kernel)
theorem m_902 : (Jvm.Cond.instanceMethod y_M_bracket) ∈ WT := WT_of 902 (by decide +kernel) (by decide +kernel)
theorem m_903 : (Jvm.Cond.code y_M_bracket prog_8_method_13_code (2 : Nat) (Option.none : Option Jvm.ClassFile.FieldType)) ∈ WT := WT_of 903 (by decide +kernel) (by decide +kernel)
theorem m_904 : (Jvm.Cond.methodLink "InstructionReaderModel" (234 : Nat) y_M_stores) ∈ WT := WT_of 904 (by decide +kernel) (by decide +kernel)
theorem m_906 : (Jvm.Cond.instanceMethod y_M_stores) ∈ WT := WT_of 906 (by decide +kernel) (by decide +kernel)
theorem m_907 : (Jvm.Cond.code y_M_stores prog_8_method_19_code (1 : Nat) (Option.none : Option Jvm.ClassFile.FieldType)) ∈ WT := WT_of 907 (by decide +kernel) (by decide +kernel)
theorem m_908 : (Jvm.Cond.constantLong "InstructionReaderModel" (163 : Nat) (25203 : Int64)) ∈ WT := WT_of 908 (by decide +kernel) (by decide +kernel)
theorem m_909 : (Jvm.Cond.constantLong "InstructionReaderModel" (165 : Nat) (26739 : Int64)) ∈ WT := WT_of 909 (by decide +kernel) (by decide +kernel)
theorem m_910 : (Jvm.Cond.constantLong "InstructionReaderModel" (167 : Nat) (30579 : Int64)) ∈ WT := WT_of 910 (by decide +kernel) (by decide +kernel)
theorem m_911 : (Jvm.Cond.methodLink "InstructionReaderModel" (237 : Nat) y_M_branches) ∈ WT := WT_of 911 (by decide +kernel) (by decide +kernel)
theorem m_913 : (Jvm.Cond.instanceMethod y_M_branches) ∈ WT := WT_of 913 (by decide +kernel) (by decide +kernel)
theorem m_914 : (Jvm.Cond.code y_M_branches prog_8_method_20_code (1 : Nat) (Option.none : Option Jvm.ClassFile.FieldType)) ∈ WT := WT_of 914 (by decide +kernel) (by decide +kernel)
theorem m_915 : (Jvm.Cond.constantLong "InstructionReaderModel" (169 : Nat) (7431522 : Int64)) ∈ WT := WT_of 915 (by decide +kernel) (by decide +kernel)
theorem m_916 : (Jvm.Cond.constantLong "InstructionReaderModel" (171 : Nat) (6647394 : Int64)) ∈ WT := WT_of 916 (by decide +kernel) (by decide +kernel)
theorem m_917 : (Jvm.Cond.constantLong "InstructionReaderModel" (173 : Nat) (7629922 : Int64)) ∈ WT := WT_of 917 (by decide +kernel) (by decide +kernel)
theorem m_918 : (Jvm.Cond.constantLong "InstructionReaderModel" (175 : Nat) (6645602 : Int64)) ∈ WT := WT_of 918 (by decide +kernel) (by decide +kernel)
theorem m_919 : (Jvm.Cond.constantLong "InstructionReaderModel" (177 : Nat) (1970564194 : Int64)) ∈ WT := WT_of 919 (by decide +kernel) (by decide +kernel)
theorem m_920 : (Jvm.Cond.constantLong "InstructionReaderModel" (179 : Nat) (1969579874 : Int64)) ∈ WT := WT_of 920 (by decide +kernel) (by decide +kernel)
theorem m_921 : (Jvm.Cond.methodLink "InstructionReaderModel" (185 : Nat) y_M_target) ∈ WT := WT_of 921 (by decide +kernel) (by decide +kernel)
theorem m_923 : (Jvm.Cond.instanceMethod y_M_target) ∈ WT := WT_of 923 (by decide +kernel) (by decide +kernel)
theorem m_924 : (Jvm.Cond.code y_M_target prog_8_method_12_code (2 : Nat) (Option.none : Option Jvm.ClassFile.FieldType)) ∈ WT := WT_of 924 (by decide +kernel) (by decide +kernel)
theorem m_925 : (Jvm.Cond.methodLink "InstructionReaderModel" (240 : Nat) y_M_atomic) ∈ WT := WT_of 925 (by decide +kernel) (by decide +kernel)
theorem m_927 : (Jvm.Cond.instanceMethod y_M_atomic) ∈ WT := WT_of 927 (by decide +kernel) (by decide +kernel)
theorem m_928 : (Jvm.Cond.code y_M_atomic prog_8_method_21_code (5 : Nat) (Option.none : Option Jvm.ClassFile.FieldType)) ∈ WT := WT_of 928 (by decide +kernel) (by decide +kernel)
theorem m_929 : (Jvm.Cond.constantLong "InstructionReaderModel" (188 : Nat) (29292 : Int64)) ∈ WT := WT_of 929 (by decide +kernel) (by decide +kernel)
theorem m_930 : (Jvm.Cond.constantLong "InstructionReaderModel" (190 : Nat) (25459 : Int64)) ∈ WT := WT_of 930 (by decide +kernel) (by decide +kernel)
theorem m_931 : (Jvm.Cond.constantLong "InstructionReaderModel" (192 : Nat) (7302497 : Int64)) ∈ WT := WT_of 931 (by decide +kernel) (by decide +kernel)
theorem m_932 : (Jvm.Cond.constantLong "InstructionReaderModel" (194 : Nat) (1885435763 : Int64)) ∈ WT := WT_of 932 (by decide +kernel) (by decide +kernel)
theorem m_933 : (Jvm.Cond.constantLong "InstructionReaderModel" (196 : Nat) (7235949 : Int64)) ∈ WT := WT_of 933 (by decide +kernel) (by decide +kernel)
theorem m_934 : (Jvm.Cond.constantLong "InstructionReaderModel" (198 : Nat) (7889261 : Int64)) ∈ WT := WT_of 934 (by decide +kernel) (by decide +kernel)
theorem m_935 : (Jvm.Cond.constantLong "InstructionReaderModel" (200 : Nat) (1970170221 : Int64)) ∈ WT := WT_of 935 (by decide +kernel) (by decide +kernel)
theorem m_936 : (Jvm.Cond.constantLong "InstructionReaderModel" (202 : Nat) (1970823533 : Int64)) ∈ WT := WT_of 936 (by decide +kernel) (by decide +kernel)
theorem m_937 : (Jvm.Cond.constantLong "InstructionReaderModel" (204 : Nat) (30510 : Int64)) ∈ WT := WT_of 937 (by decide +kernel) (by decide +kernel)
theorem m_938 : (Jvm.Cond.constantLong "InstructionReaderModel" (206 : Nat) (7107118 : Int64)) ∈ WT := WT_of 938 (by decide +kernel) (by decide +kernel)
theorem m_939 : (Jvm.Cond.constantLong "InstructionReaderModel" (208 : Nat) (7430446 : Int64)) ∈ WT := WT_of 939 (by decide +kernel) (by decide +kernel)
theorem m_940 : (Jvm.Cond.constantLong "InstructionReaderModel" (210 : Nat) (465776501038 : Int64)) ∈ WT := WT_of 940 (by decide +kernel) (by decide +kernel)
theorem m_941 : (Jvm.Cond.methodLink "InstructionReaderModel" (243 : Nat) y_M_system) ∈ WT := WT_of 941 (by decide +kernel) (by decide +kernel)
theorem m_943 : (Jvm.Cond.instanceMethod y_M_system) ∈ WT := WT_of 943 (by decide +kernel) (by decide +kernel)
theorem m_944 : (Jvm.Cond.code y_M_system prog_8_method_22_code (3 : Nat) (Option.none : Option Jvm.ClassFile.FieldType)) ∈ WT := WT_of 944 (by decide +kernel) (by decide +kernel)
theorem m_945 : (Jvm.Cond.constant "InstructionReaderModel" (212 : Nat) (1048691 : Int32)) ∈ WT := WT_of 945 (by decide +kernel) (by decide +kernel)
theorem m_946 : (Jvm.Cond.constantLong "InstructionReaderModel" (213 : Nat) (465674789733 : Int64)) ∈ WT := WT_of 946 (by decide +kernel) (by decide +kernel)
theorem m_947 : (Jvm.Cond.constantLong "InstructionReaderModel" (215 : Nat) (118066057994853 : Int64)) ∈ WT := WT_of 947 (by decide +kernel) (by decide +kernel)
theorem m_948 : (Jvm.Cond.constantLong "InstructionReaderModel" (217 : Nat) (25714 : Int64)) ∈ WT := WT_of 948 (by decide +kernel) (by decide +kernel)
theorem m_949 : (Jvm.Cond.constantLong "InstructionReaderModel" (219 : Nat) (435610155363 : Int64)) ∈ WT := WT_of 949 (by decide +kernel) (by decide +kernel)
theorem m_950 : (Jvm.Cond.constantLong "InstructionReaderModel" (221 : Nat) (1701669236 : Int64)) ∈ WT := WT_of 950 (by decide +kernel) (by decide +kernel)
theorem m_951 : (Jvm.Cond.constantLong "InstructionReaderModel" (223 : Nat) (32762639552835177 : Int64)) ∈ WT := WT_of 951 (by decide +kernel) (by decide +kernel)
theorem m_952 : (Jvm.Cond.methodLink "InstructionReaderModel" (246 : Nat) y_M_others) ∈ WT := WT_of 952 (by decide +kernel) (by decide +kernel)
theorem m_954 : (Jvm.Cond.instanceMethod y_M_others) ∈ WT := WT_of 954 (by decide +kernel) (by decide +kernel)
theorem m_955 : (Jvm.Cond.code y_M_others prog_8_method_24_code (2 : Nat) (Option.none : Option Jvm.ClassFile.FieldType)) ∈ WT := WT_of 955 (by decide +kernel) (by decide +kernel)
theorem m_956 : (Jvm.Cond.constantLong "InstructionReaderModel" (249 : Nat) (6911340 : Int64)) ∈ WT := WT_of 956 (by decide +kernel) (by decide +kernel)
theorem m_957 : (Jvm.Cond.constantLong "InstructionReaderModel" (251 : Nat) (427087721825 : Int64)) ∈ WT := WT_of 957 (by decide +kernel) (by decide +kernel)
theorem m_958 : (Jvm.Cond.constantLong "InstructionReaderModel" (253 : Nat) (1919705450 : Int64)) ∈ WT := WT_of 958 (by decide +kernel) (by decide +kernel)
theorem m_959 : (Jvm.Cond.constantLong "InstructionReaderModel" (255 : Nat) (7102826 : Int64)) ∈ WT := WT_of 959 (by decide +kernel) (by decide +kernel)
theorem m_960 : (Jvm.Cond.constant "InstructionReaderModel" (257 : Nat) (267386895 : Int32)) ∈ WT := WT_of 960 (by decide +kernel) (by decide +kernel)
theorem m_961 : (Jvm.Cond.constantLong "InstructionReaderModel" (258 : Nat) (435459876198 : Int64)) ∈ WT := WT_of 961 (by decide +kernel) (by decide +kernel)
theorem m_962 : (Jvm.Cond.constantLong "InstructionReaderModel" (260 : Nat) (29605885549372774 : Int64)) ∈ WT := WT_of 962 (by decide +kernel) (by decide +kernel)
theorem m_963 : (Jvm.Cond.methodLink "InstructionReaderModel" (339 : Nat) y_M_first) ∈ WT := WT_of 963 (by decide +kernel) (by decide +kernel)
theorem m_965 : (Jvm.Cond.instanceMethod y_M_first) ∈ WT := WT_of 965 (by decide +kernel) (by decide +kernel)
theorem m_966 : (Jvm.Cond.code y_M_first prog_8_method_26_code (5 : Nat) (Option.none : Option Jvm.ClassFile.FieldType)) ∈ WT := WT_of 966 (by decide +kernel) (by decide +kernel)
theorem m_967 : (Jvm.Cond.constantLong "InstructionReaderModel" (262 : Nat) (8301375893052403299 : Int64)) ∈ WT := WT_of 967 (by decide +kernel) (by decide +kernel)
theorem m_968 : (Jvm.Cond.constantLong "InstructionReaderModel" (264 : Nat) (28272 : Int64)) ∈ WT := WT_of 968 (by decide +kernel) (by decide +kernel)
theorem m_969 : (Jvm.Cond.constantLong "InstructionReaderModel" (266 : Nat) (2003578467 : Int64)) ∈ WT := WT_of 969 (by decide +kernel) (by decide +kernel)
theorem m_970 : (Jvm.Cond.constantLong "InstructionReaderModel" (268 : Nat) (2004037219 : Int64)) ∈ WT := WT_of 970 (by decide +kernel) (by decide +kernel)
theorem m_971 : (Jvm.Cond.methodLink "InstructionReaderModel" (342 : Nat) y_M_second) ∈ WT := WT_of 971 (by decide +kernel) (by decide +kernel)
theorem m_973 : (Jvm.Cond.instanceMethod y_M_second) ∈ WT := WT_of 973 (by decide +kernel) (by decide +kernel)
theorem m_974 : (Jvm.Cond.code y_M_second prog_8_method_30_code (1 : Nat) (Option.none : Option Jvm.ClassFile.FieldType)) ∈ WT := WT_of 974 (by decide +kernel) (by decide +kernel)
theorem m_975 : (Jvm.Cond.constantLong "InstructionReaderModel" (294 : Nat) (482905828963 : Int64)) ∈ WT := WT_of 975 (by decide +kernel) (by decide +kernel)
theorem m_976 : (Jvm.Cond.constantLong "InstructionReaderModel" (296 : Nat) (115879901736547 : Int64)) ∈ WT := WT_of 976 (by decide +kernel) (by decide +kernel)
theorem m_977 : (Jvm.Cond.constantLong "InstructionReaderModel" (298 : Nat) (1768697443 : Int64)) ∈ WT := WT_of 977 (by decide +kernel) (by decide +kernel)
theorem m_978 : (Jvm.Cond.methodLink "InstructionReaderModel" (276 : Nat) y_M_six) ∈ WT := WT_of 978 (by decide +kernel) (by decide +kernel)
theorem m_980 : (Jvm.Cond.instanceMethod y_M_six) ∈ WT := WT_of 980 (by decide +kernel) (by decide +kernel)
theorem m_981 : (Jvm.Cond.code y_M_six prog_8_method_25_code (1 : Nat) (Option.some Jvm.ClassFile.FieldType.int)) ∈ WT := WT_of 981 (by decide +kernel) (by decide +kernel)
theorem m_982 : (Jvm.Cond.constantLong "InstructionReaderModel" (300 : Nat) (465490816611 : Int64)) ∈ WT := WT_of 982 (by decide +kernel) (by decide +kernel)
theorem m_983 : (Jvm.Cond.constantLong "InstructionReaderModel" (302 : Nat) (6958691 : Int64)) ∈ WT := WT_of 983 (by decide +kernel) (by decide +kernel)
theorem m_984 : (Jvm.Cond.methodLink "InstructionReaderModel" (304 : Nat) y_M_jump) ∈ WT := WT_of 984 (by decide +kernel) (by decide +kernel)
theorem m_986 : (Jvm.Cond.instanceMethod y_M_jump) ∈ WT := WT_of 986 (by decide +kernel) (by decide +kernel)
theorem m_987 : (Jvm.Cond.code y_M_jump prog_8_method_27_code (3 : Nat) (Option.none : Option Jvm.ClassFile.FieldType)) ∈ WT := WT_of 987 (by decide +kernel) (by decide +kernel)
theorem m_988 : (Jvm.Cond.methodLink "InstructionReaderModel" (307 : Nat) y_M_upper) ∈ WT := WT_of 988 (by decide +kernel) (by decide +kernel)
theorem m_990 : (Jvm.Cond.instanceMethod y_M_upper) ∈ WT := WT_of 990 (by decide +kernel) (by decide +kernel)
theorem m_991 : (Jvm.Cond.code y_M_upper prog_8_method_29_code (2 : Nat) (Option.none : Option Jvm.ClassFile.FieldType)) ∈ WT := WT_of 991 (by decide +kernel) (by decide +kernel)
theorem m_992 : (Jvm.Cond.constantLong "InstructionReaderModel" (288 : Nat) (3905018231808667235 : Int64)) ∈ WT := WT_of 992 (by decide +kernel) (by decide +kernel)
theorem m_993 : (Jvm.Cond.constantLong "InstructionReaderModel" (290 : Nat) (28787 : Int64)) ∈ WT := WT_of 993 (by decide +kernel) (by decide +kernel)
theorem m_994 : (Jvm.Cond.constantLong "InstructionReaderModel" (292 : Nat) (452941590115 : Int64)) ∈ WT := WT_of 994 (by decide +kernel) (by decide +kernel)
theorem m_995 : (Jvm.Cond.methodLink "InstructionReaderModel" (310 : Nat) y_M_reckon) ∈ WT := WT_of 995 (by decide +kernel) (by decide +kernel)
theorem m_997 : (Jvm.Cond.instanceMethod y_M_reckon) ∈ WT := WT_of 997 (by decide +kernel) (by decide +kernel)
theorem m_998 : (Jvm.Cond.code y_M_reckon prog_8_method_28_code (5 : Nat) (Option.none : Option Jvm.ClassFile.FieldType)) ∈ WT := WT_of 998 (by decide +kernel) (by decide +kernel)
theorem m_999 : (Jvm.Cond.constantLong "InstructionReaderModel" (270 : Nat) (115914497535587 : Int64)) ∈ WT := WT_of 999 (by decide +kernel) (by decide +kernel)
theorem m_1000 : (Jvm.Cond.constantLong "InstructionReaderModel" (272 : Nat) (115867252895331 : Int64)) ∈ WT := WT_of 1000 (by decide +kernel) (by decide +kernel)
theorem m_1001 : (Jvm.Cond.constantLong "InstructionReaderModel" (274 : Nat) (115880069508707 : Int64)) ∈ WT := WT_of 1001 (by decide +kernel) (by decide +kernel)
theorem m_1002 : (Jvm.Cond.constantLong "InstructionReaderModel" (280 : Nat) (422877277795 : Int64)) ∈ WT := WT_of 1002 (by decide +kernel) (by decide +kernel)
theorem m_1003 : (Jvm.Cond.constantLong "InstructionReaderModel" (282 : Nat) (491496418915 : Int64)) ∈ WT := WT_of 1003 (by decide +kernel) (by decide +kernel)
theorem m_1004 : (Jvm.Cond.constantLong "InstructionReaderModel" (284 : Nat) (1919888995 : Int64)) ∈ WT := WT_of 1004 (by decide +kernel) (by decide +kernel)
theorem m_1005 : (Jvm.Cond.constantLong "InstructionReaderModel" (286 : Nat) (431348592227 : Int64)) ∈ WT := WT_of 1005 (by decide +kernel) (by decide +kernel)
theorem m_1006 : (Jvm.Cond.constantLong "InstructionReaderModel" (313 : Nat) (134627450826339 : Int64)) ∈ WT := WT_of 1006 (by decide +kernel) (by decide +kernel)
theorem m_1007 : (Jvm.Cond.constantLong "InstructionReaderModel" (315 : Nat) (134576062213731 : Int64)) ∈ WT := WT_of 1007 (by decide +kernel) (by decide +kernel)
theorem m_1008 : (Jvm.Cond.methodLink "InstructionReaderModel" (345 : Nat) y_M_third) ∈ WT := WT_of 1008 (by decide +kernel) (by decide +kernel)
theorem m_1010 : (Jvm.Cond.instanceMethod y_M_third) ∈ WT := WT_of 1010 (by decide +kernel) (by decide +kernel)
theorem m_1011 : (Jvm.Cond.code y_M_third prog_8_method_31_code (2 : Nat) (Option.none : Option Jvm.ClassFile.FieldType)) ∈ WT := WT_of 1011 (by decide +kernel) (by decide +kernel)
theorem m_1012 : (Jvm.Cond.constantLong "InstructionReaderModel" (317 : Nat) (115914396872291 : Int64)) ∈ WT := WT_of 1012 (by decide +kernel) (by decide +kernel)
theorem m_1013 : (Jvm.Cond.constantLong "InstructionReaderModel" (319 : Nat) (123641227128419 : Int64)) ∈ WT := WT_of 1013 (by decide +kernel) (by decide +kernel)
theorem m_1014 : (Jvm.Cond.constantLong "InstructionReaderModel" (321 : Nat) (123641227587171 : Int64)) ∈ WT := WT_of 1014 (by decide +kernel) (by decide +kernel)
theorem m_1015 : (Jvm.Cond.constantLong "InstructionReaderModel" (323 : Nat) (431180820067 : Int64)) ∈ WT := WT_of 1015 (by decide +kernel) (by decide +kernel)
theorem m_1016 : (Jvm.Cond.constantLong "InstructionReaderModel" (325 : Nat) (1986866787 : Int64)) ∈ WT := WT_of 1016 (by decide +kernel) (by decide +kernel)
theorem m_1017 : (Jvm.Cond.constantLong "InstructionReaderModel" (327 : Nat) (125809816383075 : Int64)) ∈ WT := WT_of 1017 (by decide +kernel) (by decide +kernel)
theorem m_1018 : (Jvm.Cond.constantLong "InstructionReaderModel" (329 : Nat) (1919561315 : Int64)) ∈ WT := WT_of 1018 (by decide +kernel) (by decide +kernel)
theorem m_1019 : (Jvm.Cond.constantLong "InstructionReaderModel" (331 : Nat) (7737577176750698083 : Int64)) ∈ WT := WT_of 1019 (by decide +kernel) (by decide +kernel)
theorem m_1020 : (Jvm.Cond.constantLong "InstructionReaderModel" (348 : Nat) (431416637230 : Int64)) ∈ WT := WT_of 1020 (by decide +kernel) (by decide +kernel)
theorem m_1021 : (Jvm.Cond.constantLong "InstructionReaderModel" (350 : Nat) (439904987182 : Int64)) ∈ WT := WT_of 1021 (by decide +kernel) (by decide +kernel)
theorem m_1022 : (Jvm.Cond.constantLong "InstructionReaderModel" (352 : Nat) (4294967295 : Int64)) ∈ WT := WT_of 1022 (by decide +kernel) (by decide +kernel)
theorem m_1023 : (Jvm.Cond.methodLink "InstructionReaderLaw" (48 : Nat) y_M_letter) ∈ WT := WT_of 1023 (by decide +kernel) (by decide +kernel)
theorem m_1024 : (Jvm.Cond.instanceMethod y_M_letter) ∈ WT := WT_of 1024 (by decide +kernel) (by decide +kernel)
theorem m_1025 : (Jvm.Cond.selects "InstructionReaderModel" y_M_letter y_M_letter) ∈ WT := WT_of 1025 (by decide +kernel) (by decide +kernel)
theorem m_1026 : (Jvm.Cond.code y_M_letter prog_8_method_34_code (2 : Nat) (Option.some Jvm.ClassFile.FieldType.char)) ∈ WT := WT_of 1026 (by decide +kernel) (by decide +kernel)
theorem m_1027 : (Jvm.Cond.methodLink "InstructionReaderLaw" (56 : Nat) y_M_about) ∈ WT := WT_of 1027 (by decide +kernel) (by decide +kernel)
theorem m_1028 : (Jvm.Cond.instanceMethod y_M_about) ∈ WT := WT_of 1028 (by decide +kernel) (by decide +kernel)
theorem m_1029 : (Jvm.Cond.selects "InstructionReaderModel" y_M_about y_M_about) ∈ WT := WT_of 1029 (by decide +kernel) (by decide +kernel)
theorem m_1030 : (Jvm.Cond.code y_M_about prog_8_method_35_code (2 : Nat) (Option.some Jvm.ClassFile.FieldType.int)) ∈ WT := WT_of 1030 (by decide +kernel) (by decide +kernel)
theorem m_1031 : (Jvm.Cond.methodLink "InstructionReaderLaw" (60 : Nat) y_M_poke) ∈ WT := WT_of 1031 (by decide +kernel) (by decide +kernel)
theorem m_1032 : (Jvm.Cond.instanceMethod y_M_poke) ∈ WT := WT_of 1032 (by decide +kernel) (by decide +kernel)
theorem m_1033 : (Jvm.Cond.selects "InstructionReaderModel" y_M_poke y_M_poke) ∈ WT := WT_of 1033 (by decide +kernel) (by decide +kernel)
theorem m_1034 : (Jvm.Cond.code y_M_poke prog_8_method_37_code (3 : Nat) (Option.none : Option Jvm.ClassFile.FieldType)) ∈ WT := WT_of 1034 (by decide +kernel) (by decide +kernel)
theorem m_1035 : (Jvm.Cond.methodLink "InstructionReaderModel" (358 : Nat) y_M_refuses) ∈ WT := WT_of 1035 (by decide +kernel) (by decide +kernel)
theorem m_1037 : (Jvm.Cond.instanceMethod y_M_refuses) ∈ WT := WT_of 1037 (by decide +kernel) (by decide +kernel)
theorem m_1038 : (Jvm.Cond.code y_M_refuses prog_8_method_36_code (2 : Nat) (Option.some Jvm.ClassFile.FieldType.boolean)) ∈ WT := WT_of 1038 (by decide +kernel) (by decide +kernel)
theorem m_1039 : (Jvm.Cond.methodLink "InstructionReaderLaw" (63 : Nat) y_M_at) ∈ WT := WT_of 1039 (by decide +kernel) (by decide +kernel)
theorem m_1040 : (Jvm.Cond.instanceMethod y_M_at) ∈ WT := WT_of 1040 (by decide +kernel) (by decide +kernel)
theorem m_1041 : (Jvm.Cond.selects "InstructionReaderModel" y_M_at y_M_at) ∈ WT := WT_of 1041 (by decide +kernel) (by decide +kernel)
theorem m_1042 : (Jvm.Cond.code y_M_at prog_8_method_40_code (2 : Nat) (Option.some Jvm.ClassFile.FieldType.int)) ∈ WT := WT_of 1042 (by decide +kernel) (by decide +kernel)
theorem m_1043 : (Jvm.Cond.methodLink "InstructionReaderModel" (362 : Nat) y_M_long4) ∈ WT := WT_of 1043 (by decide +kernel) (by decide +kernel)
theorem m_1045 : (Jvm.Cond.instanceMethod y_M_long4) ∈ WT := WT_of 1045 (by decide +kernel) (by decide +kernel)
theorem m_1046 : (Jvm.Cond.code y_M_long4 prog_8_method_38_code (2 : Nat) (Option.some Jvm.ClassFile.FieldType.int)) ∈ WT := WT_of 1046 (by decide +kernel) (by decide +kernel)
theorem m_1047 : (Jvm.Cond.methodLink "InstructionReaderModel" (366 : Nat) y_M_take) ∈ WT := WT_of 1047 (by decide +kernel) (by decide +kernel)
theorem m_1049 : (Jvm.Cond.instanceMethod y_M_take) ∈ WT := WT_of 1049 (by decide +kernel) (by decide +kernel)
theorem m_1050 : (Jvm.Cond.code y_M_take prog_8_method_39_code (3 : Nat) (Option.some Jvm.ClassFile.FieldType.int)) ∈ WT := WT_of 1050 (by decide +kernel) (by decide +kernel)
theorem m_1051 : (Jvm.Cond.methodLink "InstructionReaderLaw" (67 : Nat) y_M_next2) ∈ WT := WT_of 1051 (by decide +kernel) (by decide +kernel)
theorem m_1052 : (Jvm.Cond.instanceMethod y_M_next2) ∈ WT := WT_of 1052 (by decide +kernel) (by decide +kernel)
theorem m_1053 : (Jvm.Cond.selects "InstructionReaderModel" y_M_next2 y_M_next2) ∈ WT := WT_of 1053 (by decide +kernel) (by decide +kernel)
theorem m_1054 : (Jvm.Cond.code y_M_next2 prog_8_method_41_code (5 : Nat) (Option.some Jvm.ClassFile.FieldType.int)) ∈ WT := WT_of 1054 (by decide +kernel) (by decide +kernel)
theorem m_1055 : (Jvm.Cond.methodLink "InstructionReaderLaw" (70 : Nat) y_M_before) ∈ WT := WT_of 1055 (by decide +kernel) (by decide +kernel)
theorem m_1056 : (Jvm.Cond.instanceMethod y_M_before) ∈ WT := WT_of 1056 (by decide +kernel) (by decide +kernel)
theorem m_1057 : (Jvm.Cond.selects "InstructionReaderModel" y_M_before y_M_before) ∈ WT := WT_of 1057 (by decide +kernel) (by decide +kernel)
theorem m_1058 : (Jvm.Cond.code y_M_before prog_8_method_42_code (5 : Nat) (Option.some Jvm.ClassFile.FieldType.int)) ∈ WT := WT_of 1058 (by decide +kernel) (by decide +kernel)
theorem m_1059 : (Jvm.Cond.methodLink "InstructionReaderLaw" (73 : Nat) y_M_numbers) ∈ WT := WT_of 1059 (by decide +kernel) (by decide +kernel)
theorem m_1060 : (Jvm.Cond.instanceMethod y_M_numbers) ∈ WT := WT_of 1060 (by decide +kernel) (by decide +kernel)
theorem m_1061 : (Jvm.Cond.selects "InstructionReaderModel" y_M_numbers y_M_numbers) ∈ WT := WT_of 1061 (by decide +kernel) (by decide +kernel)
theorem m_1062 : (Jvm.Cond.code y_M_numbers prog_8_method_43_code (9 : Nat) (Option.some Jvm.ClassFile.FieldType.int)) ∈ WT := WT_of 1062 (by decide +kernel) (by decide +kernel)
theorem m_1063 : (Jvm.Cond.arrayClass Jvm.ClassFile.FieldType.long) ∈ WT := WT_of 1063 (by decide +kernel) (by decide +kernel)
theorem m_1065 : (Jvm.Cond.fieldLink "InstructionReader$Text" (17 : Nat) "InstructionReader$Kind" "word" "Ljava/lang/String;") ∈ WT := WT_of 1065 (by decide +kernel) (by decide +kernel)
theorem m_1066 : (Jvm.Cond.fieldLink "java/lang/String" (9 : Nat) "java/lang/String" "value" "[B") ∈ WT := WT_of 1066 (by decide +kernel) (by decide +kernel)
theorem m_1067 : (Jvm.Cond.fieldLink "java/lang/String" (15 : Nat) "java/lang/String" "coder" "B") ∈ WT := WT_of 1067 (by decide +kernel) (by decide +kernel)
theorem m_1068 : (Jvm.Cond.fieldLink "InstructionReader$Text" (26 : Nat) "InstructionReader$Kind" "ordered" "Z") ∈ WT := WT_of 1068 (by decide +kernel) (by decide +kernel)
theorem m_1069 : (Jvm.Cond.fieldLink "InstructionReader$Text" (34 : Nat) "InstructionReader$Kind" "operands" "Ljava/lang/String;") ∈ WT := WT_of 1069 (by decide +kernel) (by decide +kernel)
theorem m_1070 : (Jvm.Cond.fieldLink "InstructionReader$Kind" (312 : Nat) "InstructionReader$Kind" "operands" "Ljava/lang/String;") ∈ WT := WT_of 1070 (by decide +kernel) (by decide +kernel)
end
section
def kNm : List String := ["WORD", "HALF", "ADD", "SUB", "SLL", "SLT", "SLTU", "XOR", "SRL", "SRA", "OR", "AND", "MUL", "MULH", "MULHSU", "MULHU", "DIV", "DIVU", "REM", "REMU", "ADDI", "SLTI", "SLTIU", "XORI", "ORI", "ANDI", "SLLI", "SRLI", "SRAI", "LB", "LH", "LW", "LBU", "LHU", "JALR", "SB", "SH", "SW", "LUI", "AUIPC", "BEQ", "BNE", "BLT", "BGE", "BLTU", "BGEU", "JAL", "LR", "SC", "AMOSWAP", "AMOADD", "AMOXOR", "AMOAND", "AMOOR", "AMOMIN", "AMOMAX", "AMOMINU", "AMOMAXU", "RDCYCLE", "RDTIME", "RDINSTRET", "RDCYCLEH", "RDTIMEH", "RDINSTRETH", "FENCE", "FENCE_I", "ECALL", "EBREAK", "C_ADDI4SPN", "C_LW", "C_SW", "C_NOP", "C_ADDI", "C_JAL", "C_J", "C_LI", "C_ADDI16SP", "C_LUI", "C_SRLI", "C_SRAI", "C_ANDI", "C_SUB", "C_XOR", "C_OR", "C_AND", "C_BEQZ", "C_BNEZ", "C_SLLI", "C_LWSP", "C_JR", "C_MV", "C_EBREAK", "C_JALR", "C_ADD", "C_SWSP"]
def kOrd : List Int32 := [0, 0, 0, 0, 0, 0, 0, 0, 0, 0, 0, 0, 0, 0, 0, 0, 0, 0, 0, 0, 0, 0, 0, 0, 0, 0, 0, 0, 0, 0, 0, 0, 0, 0, 0, 0, 0, 0, 0, 0, 0, 0, 0, 0, 0, 0, 0, 1, 1, 1, 1, 1, 1, 1, 1, 1, 1, 1, 0, 0, 0, 0, 0, 0, 0, 0, 0, 0, 0, 0, 0, 0, 0, 0, 0, 0, 0, 0, 0, 0, 0, 0, 0, 0, 0, 0, 0, 0, 0, 0, 0, 0, 0, 0, 0]
def kW : List Nat := [44, 120, 81, 98, 83, 84, 85, 86, 87, 99, 88, 89, 90, 91, 92, 93, 94, 95, 96, 97, 51, 55, 56, 57, 60, 61, 53, 58, 59, 38, 40, 41, 42, 43, 108, 64, 66, 67, 100, 62, 101, 103, 104, 105, 106, 107, 109, 71, 73, 70, 68, 74, 76, 75, 77, 78, 79, 80, 111, 113, 114, 115, 116, 117, 46, 48, 49, 50, 118, 121, 123, 124, 125, 127, 143, 129, 130, 132, 135, 137, 133, 138, 140, 141, 142, 144, 146, 147, 149, 156, 155, 154, 153, 151, 157]
def kO : List Nat := [45, 45, 82, 82, 82, 82, 82, 82, 82, 82, 82, 82, 82, 82, 82, 82, 82, 82, 82, 82, 52, 52, 52, 52, 52, 52, 54, 54, 54, 39, 39, 39, 39, 39, 39, 65, 65, 65, 63, 63, 102, 102, 102, 102, 102, 102, 110, 72, 69, 69, 69, 69, 69, 69, 69, 69, 69, 69, 112, 112, 112, 112, 112, 112, 47, 47, 47, 47, 119, 122, 122, 47, 126, 128, 128, 126, 131, 126, 136, 136, 134, 139, 139, 139, 139, 145, 145, 148, 150, 112, 152, 47, 112, 152, 158]
def sOwn : List (String × Nat × String) := [("InstructionReader$Text", 58, ".rl"), ("InstructionReader$Text", 60, ".aq"), ("InstructionReader$Text", 62, ".aqrl"), ("InstructionReader$Text", 119, "zero"), ("InstructionReader$Text", 121, "ra"), ("InstructionReader$Text", 123, "sp"), ("InstructionReader$Text", 125, "gp"), ("InstructionReader$Text", 127, "tp"), ("InstructionReader$Text", 129, "t0"), ("InstructionReader$Text", 131, "t1"), ("InstructionReader$Text", 133, "t2"), ("InstructionReader$Text", 135, "s0"), ("InstructionReader$Text", 137, "s1"), ("InstructionReader$Text", 139, "a0"), ("InstructionReader$Text", 141, "a1"), ("InstructionReader$Text", 143, "a2"), ("InstructionReader$Text", 145, "a3"), ("InstructionReader$Text", 147, "a4"), ("InstructionReader$Text", 149, "a5"), ("InstructionReader$Text", 151, "a6"), ("InstructionReader$Text", 153, "a7"), ("InstructionReader$Text", 155, "s2"), ("InstructionReader$Text", 157, "s3"), ("InstructionReader$Text", 159, "s4"), ("InstructionReader$Text", 161, "s5"), ("InstructionReader$Text", 163, "s6"), ("InstructionReader$Text", 165, "s7"), ("InstructionReader$Text", 167, "s8"), ("InstructionReader$Text", 169, "s9"), ("InstructionReader$Text", 171, "s10"), ("InstructionReader$Text", 173, "s11"), ("InstructionReader$Text", 175, "t3"), ("InstructionReader$Text", 177, "t4"), ("InstructionReader$Text", 179, "t5"), ("InstructionReader$Text", 181, "t6"), ("InstructionReader", 46, "no such character in the text"), ("InstructionReader", 86, "an address is 0 .. 255"), ("InstructionReader", 67, "n is below 0"), ("InstructionReader$Kind", 432, "lb"), ("InstructionReader$Kind", 434, "d, i(a)"), ("InstructionReader$Kind", 437, "lh"), ("InstructionReader$Kind", 440, "lw"), ("InstructionReader$Kind", 443, "lbu"), ("InstructionReader$Kind", 446, "lhu"), ("InstructionReader$Kind", 334, ".word"), ("InstructionReader$Kind", 336, "v"), ("InstructionReader$Kind", 556, "fence"), ("InstructionReader$Kind", 558, ""), ("InstructionReader$Kind", 561, "fence.i"), ("InstructionReader$Kind", 564, "ecall"), ("InstructionReader$Kind", 567, "ebreak"), ("InstructionReader$Kind", 401, "addi"), ("InstructionReader$Kind", 403, "d, a, i"), ("InstructionReader$Kind", 421, "slli"), ("InstructionReader$Kind", 423, "d, a, h"), ("InstructionReader$Kind", 406, "slti"), ("InstructionReader$Kind", 409, "sltiu"), ("InstructionReader$Kind", 412, "xori"), ("InstructionReader$Kind", 426, "srli"), ("InstructionReader$Kind", 429, "srai"), ("InstructionReader$Kind", 415, "ori"), ("InstructionReader$Kind", 418, "andi"), ("InstructionReader$Kind", 468, "auipc"), ("InstructionReader$Kind", 465, "d, u"), ("InstructionReader$Kind", 452, "sb"), ("InstructionReader$Kind", 454, "b, s(a)"), ("InstructionReader$Kind", 457, "sh"), ("InstructionReader$Kind", 460, "sw"), ("InstructionReader$Kind", 512, "amoadd.w"), ("InstructionReader$Kind", 506, "d, b, (a)"), ("InstructionReader$Kind", 509, "amoswap.w"), ("InstructionReader$Kind", 496, "lr.w"), ("InstructionReader$Kind", 498, "d, (a)"), ("InstructionReader$Kind", 504, "sc.w"), ("InstructionReader$Kind", 515, "amoxor.w"), ("InstructionReader$Kind", 521, "amoor.w"), ("InstructionReader$Kind", 518, "amoand.w"), ("InstructionReader$Kind", 524, "amomin.w"), ("InstructionReader$Kind", 527, "amomax.w"), ("InstructionReader$Kind", 530, "amominu.w"), ("InstructionReader$Kind", 533, "amomaxu.w"), ("InstructionReader$Kind", 345, "add"), ("InstructionReader$Kind", 347, "d, a, b"), ("InstructionReader$Kind", 353, "sll"), ("InstructionReader$Kind", 356, "slt"), ("InstructionReader$Kind", 359, "sltu"), ("InstructionReader$Kind", 362, "xo\x72"), ("InstructionReader$Kind", 365, "srl"), ("InstructionReader$Kind", 371, "o\x72"), ("InstructionReader$Kind", 374, "and"), ("InstructionReader$Kind", 377, "mul"), ("InstructionReader$Kind", 380, "mulh"), ("InstructionReader$Kind", 383, "mulhsu"), ("InstructionReader$Kind", 386, "mulhu"), ("InstructionReader$Kind", 389, "div"), ("InstructionReader$Kind", 392, "divu"), ("InstructionReader$Kind", 395, "rem"), ("InstructionReader$Kind", 398, "remu"), ("InstructionReader$Kind", 350, "sub"), ("InstructionReader$Kind", 368, "sra"), ("InstructionReader$Kind", 463, "lui"), ("InstructionReader$Kind", 471, "beq"), ("InstructionReader$Kind", 473, "a, b, B"), ("InstructionReader$Kind", 476, "bne"), ("InstructionReader$Kind", 479, "blt"), ("InstructionReader$Kind", 482, "bge"), ("InstructionReader$Kind", 485, "bltu"), ("InstructionReader$Kind", 488, "bgeu"), ("InstructionReader$Kind", 449, "jal\x72"), ("InstructionReader$Kind", 491, "jal"), ("InstructionReader$Kind", 493, "d, J"), ("InstructionReader$Kind", 536, "rdcycle"), ("InstructionReader$Kind", 538, "d"), ("InstructionReader$Kind", 541, "rdtime"), ("InstructionReader$Kind", 544, "rdinstret"), ("InstructionReader$Kind", 547, "rdcycleh"), ("InstructionReader$Kind", 550, "rdtimeh"), ("InstructionReader$Kind", 553, "rdinstreth"), ("InstructionReader$Kind", 570, "c.addi4spn"), ("InstructionReader$Kind", 572, "y, f"), ("InstructionReader$Kind", 342, ".half"), ("InstructionReader$Kind", 575, "c.lw"), ("InstructionReader$Kind", 577, "y, w(x)"), ("InstructionReader$Kind", 580, "c.sw"), ("InstructionReader$Kind", 583, "c.nop"), ("InstructionReader$Kind", 586, "c.addi"), ("InstructionReader$Kind", 588, "d, n"), ("InstructionReader$Kind", 591, "c.jal"), ("InstructionReader$Kind", 593, "C"), ("InstructionReader$Kind", 599, "c.li"), ("InstructionReader$Kind", 602, "c.addi16sp"), ("InstructionReader$Kind", 604, "p"), ("InstructionReader$Kind", 607, "c.lui"), ("InstructionReader$Kind", 618, "c.andi"), ("InstructionReader$Kind", 620, "x, n"), ("InstructionReader$Kind", 610, "c.srli"), ("InstructionReader$Kind", 612, "x, m"), ("InstructionReader$Kind", 615, "c.srai"), ("InstructionReader$Kind", 623, "c.sub"), ("InstructionReader$Kind", 625, "x, y"), ("InstructionReader$Kind", 628, "c.xo\x72"), ("InstructionReader$Kind", 631, "c.o\x72"), ("InstructionReader$Kind", 634, "c.and"), ("InstructionReader$Kind", 596, "c.j"), ("InstructionReader$Kind", 637, "c.beqz"), ("InstructionReader$Kind", 639, "x, Z"), ("InstructionReader$Kind", 642, "c.bnez"), ("InstructionReader$Kind", 645, "c.slli"), ("InstructionReader$Kind", 647, "d, m"), ("InstructionReader$Kind", 650, "c.lwsp"), ("InstructionReader$Kind", 652, "d, l"), ("InstructionReader$Kind", 669, "c.add"), ("InstructionReader$Kind", 660, "d, \x72"), ("InstructionReader$Kind", 666, "c.jal\x72"), ("InstructionReader$Kind", 663, "c.ebreak"), ("InstructionReader$Kind", 658, "c.mv"), ("InstructionReader$Kind", 655, "c.j\x72"), ("InstructionReader$Kind", 672, "c.swsp"), ("InstructionReader$Kind", 674, "r, k")]
def sB : List (List Int32) := [[46, 114, 108], [46, 97, 113], [46, 97, 113, 114, 108], [122, 101, 114, 111], [114, 97], [115, 112], [103, 112], [116, 112], [116, 48], [116, 49], [116, 50], [115, 48], [115, 49], [97, 48], [97, 49], [97, 50], [97, 51], [97, 52], [97, 53], [97, 54], [97, 55], [115, 50], [115, 51], [115, 52], [115, 53], [115, 54], [115, 55], [115, 56], [115, 57], [115, 49, 48], [115, 49, 49], [116, 51], [116, 52], [116, 53], [116, 54], [110, 111, 32, 115, 117, 99, 104, 32, 99, 104, 97, 114, 97, 99, 116, 101, 114, 32, 105, 110, 32, 116, 104, 101, 32, 116, 101, 120, 116], [97, 110, 32, 97, 100, 100, 114, 101, 115, 115, 32, 105, 115, 32, 48, 32, 46, 46, 32, 50, 53, 53], [110, 32, 105, 115, 32, 98, 101, 108, 111, 119, 32, 48], [108, 98], [100, 44, 32, 105, 40, 97, 41], [108, 104], [108, 119], [108, 98, 117], [108, 104, 117], [46, 119, 111, 114, 100], [118], [102, 101, 110, 99, 101], [], [102, 101, 110, 99, 101, 46, 105], [101, 99, 97, 108, 108], [101, 98, 114, 101, 97, 107], [97, 100, 100, 105], [100, 44, 32, 97, 44, 32, 105], [115, 108, 108, 105], [100, 44, 32, 97, 44, 32, 104], [115, 108, 116, 105], [115, 108, 116, 105, 117], [120, 111, 114, 105], [115, 114, 108, 105], [115, 114, 97, 105], [111, 114, 105], [97, 110, 100, 105], [97, 117, 105, 112, 99], [100, 44, 32, 117], [115, 98], [98, 44, 32, 115, 40, 97, 41], [115, 104], [115, 119], [97, 109, 111, 97, 100, 100, 46, 119], [100, 44, 32, 98, 44, 32, 40, 97, 41], [97, 109, 111, 115, 119, 97, 112, 46, 119], [108, 114, 46, 119], [100, 44, 32, 40, 97, 41], [115, 99, 46, 119], [97, 109, 111, 120, 111, 114, 46, 119], [97, 109, 111, 111, 114, 46, 119], [97, 109, 111, 97, 110, 100, 46, 119], [97, 109, 111, 109, 105, 110, 46, 119], [97, 109, 111, 109, 97, 120, 46, 119], [97, 109, 111, 109, 105, 110, 117, 46, 119], [97, 109, 111, 109, 97, 120, 117, 46, 119], [97, 100, 100], [100, 44, 32, 97, 44, 32, 98], [115, 108, 108], [115, 108, 116], [115, 108, 116, 117], [120, 111, 114], [115, 114, 108], [111, 114], [97, 110, 100], [109, 117, 108], [109, 117, 108, 104], [109, 117, 108, 104, 115, 117], [109, 117, 108, 104, 117], [100, 105, 118], [100, 105, 118, 117], [114, 101, 109], [114, 101, 109, 117], [115, 117, 98], [115, 114, 97], [108, 117, 105], [98, 101, 113], [97, 44, 32, 98, 44, 32, 66], [98, 110, 101], [98, 108, 116], [98, 103, 101], [98, 108, 116, 117], [98, 103, 101, 117], [106, 97, 108, 114], [106, 97, 108], [100, 44, 32, 74], [114, 100, 99, 121, 99, 108, 101], [100], [114, 100, 116, 105, 109, 101], [114, 100, 105, 110, 115, 116, 114, 101, 116], [114, 100, 99, 121, 99, 108, 101, 104], [114, 100, 116, 105, 109, 101, 104], [114, 100, 105, 110, 115, 116, 114, 101, 116, 104], [99, 46, 97, 100, 100, 105, 52, 115, 112, 110], [121, 44, 32, 102], [46, 104, 97, 108, 102], [99, 46, 108, 119], [121, 44, 32, 119, 40, 120, 41], [99, 46, 115, 119], [99, 46, 110, 111, 112], [99, 46, 97, 100, 100, 105], [100, 44, 32, 110], [99, 46, 106, 97, 108], [67], [99, 46, 108, 105], [99, 46, 97, 100, 100, 105, 49, 54, 115, 112], [112], [99, 46, 108, 117, 105], [99, 46, 97, 110, 100, 105], [120, 44, 32, 110], [99, 46, 115, 114, 108, 105], [120, 44, 32, 109], [99, 46, 115, 114, 97, 105], [99, 46, 115, 117, 98], [120, 44, 32, 121], [99, 46, 120, 111, 114], [99, 46, 111, 114], [99, 46, 97, 110, 100], [99, 46, 106], [99, 46, 98, 101, 113, 122], [120, 44, 32, 90], [99, 46, 98, 110, 101, 122], [99, 46, 115, 108, 108, 105], [100, 44, 32, 109], [99, 46, 108, 119, 115, 112], [100, 44, 32, 108], [99, 46, 97, 100, 100], [100, 44, 32, 114], [99, 46, 106, 97, 108, 114], [99, 46, 101, 98, 114, 101, 97, 107], [99, 46, 109, 118], [99, 46, 106, 114], [99, 46, 115, 119, 115, 112], [114, 44, 32, 107]]
abbrev dK : String := "LInstructionReader$Kind;"
abbrev dS : String := "Ljava/lang/String;"
def sTx (k : Nat) : List Int32 := sB.getD k []
def cxE (adE adK : Nat → Nat) (A : Nat → Prop) (U : State) (H : Heap) : Prop := ∀ i, i < 95 → va_Z R_K (kNm.getD i "") dK (.ref (adE i)) A U H ∧ va_O R_K (adE i) A U H ∧ va_OF R_K "ordered" "Z" (.int (kOrd.getD i 0)) (adE i) A U H ∧ va_OF R_K "word" dS (.ref (adK (kW.getD i 0))) (adE i) A U H ∧ va_OF R_K "operands" dS (.ref (adK (kO.getD i 0))) (adE i) A U H
def cxS (adK adV : Nat → Nat) (A : Nat → Prop) (U : State) (H : Heap) : Prop := ∀ k, k < 159 → va_O R_JS (adK k) A U H ∧ va_OF R_JS "coder" "B" (.int 0) (adK k) A U H ∧ va_OF R_JS "value" "[B" (.ref (adV k)) (adK k) A U H ∧ va_T .byte (adV k) (sTx k).length (fun j => .int ((sTx k).getD j 0)) A U H
def cxR (adK : Nat → Nat) (U : State) : Prop := ∀ k, k < 159 → vk_R (sOwn.getD k ("", 0, "")).1 (sOwn.getD k ("", 0, "")).2.1 (sOwn.getD k ("", 0, "")).2.2 (adK k) U
def cxI (adE : Nat → Nat) : Prop := ∀ i j, i < 95 → j < 95 → adE i = adE j → i = j
def cxC (A : Nat → Prop) (U : State) (H : Heap) : Prop := va_Z R_JS "COMPACT_STRINGS" "Z" (.int 1) A U H ∧ va_Zq R_JP "SIOOBE_FORMATTER" "Ljava/util/function/BiFunction;" A U H
/-- what is there from the start and is never written: the constants of Kind, the texts -/
def cx (adE adK adV : Nat → Nat) (A : Nat → Prop) (U : State) (H : Heap) : Prop := cxE adE adK A U H ∧ cxS adK adV A U H ∧ cxR adK U ∧ cxI adE ∧ cxC A U H
theorem cxE.moved {adE adK : Nat → Nat} {A : Nat → Prop} {u U : State} {H : Heap} (v : u.vm.Alike U.vm) (h : cxE adE adK A u H) : cxE adE adK A U H := fun i hi => ⟨(h i hi).1.moved v, (h i hi).2.1.moved v, (h i hi).2.2.1.moved v, (h i hi).2.2.2.1.moved v, (h i hi).2.2.2.2.moved v⟩
theorem cxE.kept {adE adK : Nat → Nat} {A : Nat → Prop} {U : State} {H H1 : Heap} (h : cxE adE adK A U H) (q : ∀ a : Nat, a < H.size → ¬ A a → H1[a]? = H[a]?) : cxE adE adK A U H1 := fun i hi => ⟨(h i hi).1.kept q, (h i hi).2.1.kept q, (h i hi).2.2.1.kept q, (h i hi).2.2.2.1.kept q, (h i hi).2.2.2.2.kept q⟩
theorem cxE.narrow {adE adK : Nat → Nat} {A B : Nat → Prop} {U : State} {H : Heap} (h : cxE adE adK A U H) (q : ∀ a, B a → A a) : cxE adE adK B U H := fun i hi => ⟨(h i hi).1.narrow q, (h i hi).2.1.narrow q, (h i hi).2.2.1.narrow q, (h i hi).2.2.2.1.narrow q, (h i hi).2.2.2.2.narrow q⟩
theorem cxS.moved {adK adV : Nat → Nat} {A : Nat → Prop} {u U : State} {H : Heap} (v : u.vm.Alike U.vm) (h : cxS adK adV A u H) : cxS adK adV A U H := fun i hi => ⟨(h i hi).1.moved v, (h i hi).2.1.moved v, (h i hi).2.2.1.moved v, (h i hi).2.2.2.moved v⟩
theorem cxS.kept {adK adV : Nat → Nat} {A : Nat → Prop} {U : State} {H H1 : Heap} (h : cxS adK adV A U H) (q : ∀ a : Nat, a < H.size → ¬ A a → H1[a]? = H[a]?) : cxS adK adV A U H1 := fun i hi => ⟨(h i hi).1.kept q, (h i hi).2.1.kept q, (h i hi).2.2.1.kept q, (h i hi).2.2.2.kept q⟩
theorem cxS.narrow {adK adV : Nat → Nat} {A B : Nat → Prop} {U : State} {H : Heap} (h : cxS adK adV A U H) (q : ∀ a, B a → A a) : cxS adK adV B U H := fun i hi => ⟨(h i hi).1.narrow q, (h i hi).2.1.narrow q, (h i hi).2.2.1.narrow q, (h i hi).2.2.2.narrow q⟩
theorem cx.blind {adE adK adV : Nat → Nat} {A : Nat → Prop} {U : State} {H : Heap} {g : JFrame} {mk : MethodId} {a : Array Value} (h : cx adE adK adV A U H) : cx adE adK adV A (U.calling g mk a) H :=
  ⟨h.1.moved (U := U.calling g mk a) (Vm.Alike.refl U.vm), h.2.1.moved (U := U.calling g mk a) (Vm.Alike.refl U.vm), fun k hk => vk_R.same (U := U.calling g mk a) rfl (h.2.2.1 k hk), h.2.2.2.1, h.2.2.2.2.1.moved (U := U.calling g mk a) (Vm.Alike.refl U.vm), h.2.2.2.2.2.moved (U := U.calling g mk a) (Vm.Alike.refl U.vm)⟩
/-- at a call: the callee's start -/
theorem cx.at {adE adK adV : Nat → Nat} {A B : Nat → Prop} {s U : State} {H : Heap} {locs : List Loc} (h : cx adE adK adV A s s.heap) (hS : va_S A s.heap H locs) (hAB : ∀ q, B q → A q) (hU : U.heap = H) (hW : s.WarmedH U.vm) : cx adE adK adV B U U.heap := by
  subst hU
  exact ⟨((h.1.kept hS.2.1).narrow hAB).moved hW.alike, ((h.2.1.kept hS.2.1).narrow hAB).moved hW.alike, fun k hk => vk_R.warm hW (h.2.2.1 k hk), h.2.2.2.1, ((h.2.2.2.2.1.kept hS.2.1).narrow hAB).moved hW.alike, ((h.2.2.2.2.2.kept hS.2.1).narrow hAB).moved hW.alike⟩
abbrev no : Nat → Prop := fun _ => False
theorem no_in {A : Nat → Prop} : ∀ q, no q → A q := fun _ h => h.elim

theorem z_WORD {adE adK adV : Nat → Nat} {A : Nat → Prop} {U : State} {H : Heap} (h : cx adE adK adV A U H) : va_Z R_K "WORD" dK (.ref (adE 0)) A U H := (h.1 0 (by decide)).1
theorem z_HALF {adE adK adV : Nat → Nat} {A : Nat → Prop} {U : State} {H : Heap} (h : cx adE adK adV A U H) : va_Z R_K "HALF" dK (.ref (adE 1)) A U H := (h.1 1 (by decide)).1
theorem z_ADD {adE adK adV : Nat → Nat} {A : Nat → Prop} {U : State} {H : Heap} (h : cx adE adK adV A U H) : va_Z R_K "ADD" dK (.ref (adE 2)) A U H := (h.1 2 (by decide)).1
theorem z_SUB {adE adK adV : Nat → Nat} {A : Nat → Prop} {U : State} {H : Heap} (h : cx adE adK adV A U H) : va_Z R_K "SUB" dK (.ref (adE 3)) A U H := (h.1 3 (by decide)).1
theorem z_SLL {adE adK adV : Nat → Nat} {A : Nat → Prop} {U : State} {H : Heap} (h : cx adE adK adV A U H) : va_Z R_K "SLL" dK (.ref (adE 4)) A U H := (h.1 4 (by decide)).1
theorem z_SLT {adE adK adV : Nat → Nat} {A : Nat → Prop} {U : State} {H : Heap} (h : cx adE adK adV A U H) : va_Z R_K "SLT" dK (.ref (adE 5)) A U H := (h.1 5 (by decide)).1
theorem z_SLTU {adE adK adV : Nat → Nat} {A : Nat → Prop} {U : State} {H : Heap} (h : cx adE adK adV A U H) : va_Z R_K "SLTU" dK (.ref (adE 6)) A U H := (h.1 6 (by decide)).1
theorem z_XOR {adE adK adV : Nat → Nat} {A : Nat → Prop} {U : State} {H : Heap} (h : cx adE adK adV A U H) : va_Z R_K "XOR" dK (.ref (adE 7)) A U H := (h.1 7 (by decide)).1
theorem z_SRL {adE adK adV : Nat → Nat} {A : Nat → Prop} {U : State} {H : Heap} (h : cx adE adK adV A U H) : va_Z R_K "SRL" dK (.ref (adE 8)) A U H := (h.1 8 (by decide)).1
theorem z_SRA {adE adK adV : Nat → Nat} {A : Nat → Prop} {U : State} {H : Heap} (h : cx adE adK adV A U H) : va_Z R_K "SRA" dK (.ref (adE 9)) A U H := (h.1 9 (by decide)).1
theorem z_OR {adE adK adV : Nat → Nat} {A : Nat → Prop} {U : State} {H : Heap} (h : cx adE adK adV A U H) : va_Z R_K "OR" dK (.ref (adE 10)) A U H := (h.1 10 (by decide)).1
theorem z_AND {adE adK adV : Nat → Nat} {A : Nat → Prop} {U : State} {H : Heap} (h : cx adE adK adV A U H) : va_Z R_K "AND" dK (.ref (adE 11)) A U H := (h.1 11 (by decide)).1
theorem z_MUL {adE adK adV : Nat → Nat} {A : Nat → Prop} {U : State} {H : Heap} (h : cx adE adK adV A U H) : va_Z R_K "MUL" dK (.ref (adE 12)) A U H := (h.1 12 (by decide)).1
theorem z_MULH {adE adK adV : Nat → Nat} {A : Nat → Prop} {U : State} {H : Heap} (h : cx adE adK adV A U H) : va_Z R_K "MULH" dK (.ref (adE 13)) A U H := (h.1 13 (by decide)).1
theorem z_MULHSU {adE adK adV : Nat → Nat} {A : Nat → Prop} {U : State} {H : Heap} (h : cx adE adK adV A U H) : va_Z R_K "MULHSU" dK (.ref (adE 14)) A U H := (h.1 14 (by decide)).1
theorem z_MULHU {adE adK adV : Nat → Nat} {A : Nat → Prop} {U : State} {H : Heap} (h : cx adE adK adV A U H) : va_Z R_K "MULHU" dK (.ref (adE 15)) A U H := (h.1 15 (by decide)).1
theorem z_DIV {adE adK adV : Nat → Nat} {A : Nat → Prop} {U : State} {H : Heap} (h : cx adE adK adV A U H) : va_Z R_K "DIV" dK (.ref (adE 16)) A U H := (h.1 16 (by decide)).1
theorem z_DIVU {adE adK adV : Nat → Nat} {A : Nat → Prop} {U : State} {H : Heap} (h : cx adE adK adV A U H) : va_Z R_K "DIVU" dK (.ref (adE 17)) A U H := (h.1 17 (by decide)).1
theorem z_REM {adE adK adV : Nat → Nat} {A : Nat → Prop} {U : State} {H : Heap} (h : cx adE adK adV A U H) : va_Z R_K "REM" dK (.ref (adE 18)) A U H := (h.1 18 (by decide)).1
theorem z_REMU {adE adK adV : Nat → Nat} {A : Nat → Prop} {U : State} {H : Heap} (h : cx adE adK adV A U H) : va_Z R_K "REMU" dK (.ref (adE 19)) A U H := (h.1 19 (by decide)).1
theorem z_ADDI {adE adK adV : Nat → Nat} {A : Nat → Prop} {U : State} {H : Heap} (h : cx adE adK adV A U H) : va_Z R_K "ADDI" dK (.ref (adE 20)) A U H := (h.1 20 (by decide)).1
theorem z_SLTI {adE adK adV : Nat → Nat} {A : Nat → Prop} {U : State} {H : Heap} (h : cx adE adK adV A U H) : va_Z R_K "SLTI" dK (.ref (adE 21)) A U H := (h.1 21 (by decide)).1
theorem z_SLTIU {adE adK adV : Nat → Nat} {A : Nat → Prop} {U : State} {H : Heap} (h : cx adE adK adV A U H) : va_Z R_K "SLTIU" dK (.ref (adE 22)) A U H := (h.1 22 (by decide)).1
theorem z_XORI {adE adK adV : Nat → Nat} {A : Nat → Prop} {U : State} {H : Heap} (h : cx adE adK adV A U H) : va_Z R_K "XORI" dK (.ref (adE 23)) A U H := (h.1 23 (by decide)).1
theorem z_ORI {adE adK adV : Nat → Nat} {A : Nat → Prop} {U : State} {H : Heap} (h : cx adE adK adV A U H) : va_Z R_K "ORI" dK (.ref (adE 24)) A U H := (h.1 24 (by decide)).1
theorem z_ANDI {adE adK adV : Nat → Nat} {A : Nat → Prop} {U : State} {H : Heap} (h : cx adE adK adV A U H) : va_Z R_K "ANDI" dK (.ref (adE 25)) A U H := (h.1 25 (by decide)).1
theorem z_SLLI {adE adK adV : Nat → Nat} {A : Nat → Prop} {U : State} {H : Heap} (h : cx adE adK adV A U H) : va_Z R_K "SLLI" dK (.ref (adE 26)) A U H := (h.1 26 (by decide)).1
theorem z_SRLI {adE adK adV : Nat → Nat} {A : Nat → Prop} {U : State} {H : Heap} (h : cx adE adK adV A U H) : va_Z R_K "SRLI" dK (.ref (adE 27)) A U H := (h.1 27 (by decide)).1
theorem z_SRAI {adE adK adV : Nat → Nat} {A : Nat → Prop} {U : State} {H : Heap} (h : cx adE adK adV A U H) : va_Z R_K "SRAI" dK (.ref (adE 28)) A U H := (h.1 28 (by decide)).1
theorem z_LB {adE adK adV : Nat → Nat} {A : Nat → Prop} {U : State} {H : Heap} (h : cx adE adK adV A U H) : va_Z R_K "LB" dK (.ref (adE 29)) A U H := (h.1 29 (by decide)).1
theorem z_LH {adE adK adV : Nat → Nat} {A : Nat → Prop} {U : State} {H : Heap} (h : cx adE adK adV A U H) : va_Z R_K "LH" dK (.ref (adE 30)) A U H := (h.1 30 (by decide)).1
theorem z_LW {adE adK adV : Nat → Nat} {A : Nat → Prop} {U : State} {H : Heap} (h : cx adE adK adV A U H) : va_Z R_K "LW" dK (.ref (adE 31)) A U H := (h.1 31 (by decide)).1
theorem z_LBU {adE adK adV : Nat → Nat} {A : Nat → Prop} {U : State} {H : Heap} (h : cx adE adK adV A U H) : va_Z R_K "LBU" dK (.ref (adE 32)) A U H := (h.1 32 (by decide)).1
theorem z_LHU {adE adK adV : Nat → Nat} {A : Nat → Prop} {U : State} {H : Heap} (h : cx adE adK adV A U H) : va_Z R_K "LHU" dK (.ref (adE 33)) A U H := (h.1 33 (by decide)).1
theorem z_JALR {adE adK adV : Nat → Nat} {A : Nat → Prop} {U : State} {H : Heap} (h : cx adE adK adV A U H) : va_Z R_K "JALR" dK (.ref (adE 34)) A U H := (h.1 34 (by decide)).1
theorem z_SB {adE adK adV : Nat → Nat} {A : Nat → Prop} {U : State} {H : Heap} (h : cx adE adK adV A U H) : va_Z R_K "SB" dK (.ref (adE 35)) A U H := (h.1 35 (by decide)).1
theorem z_SH {adE adK adV : Nat → Nat} {A : Nat → Prop} {U : State} {H : Heap} (h : cx adE adK adV A U H) : va_Z R_K "SH" dK (.ref (adE 36)) A U H := (h.1 36 (by decide)).1
theorem z_SW {adE adK adV : Nat → Nat} {A : Nat → Prop} {U : State} {H : Heap} (h : cx adE adK adV A U H) : va_Z R_K "SW" dK (.ref (adE 37)) A U H := (h.1 37 (by decide)).1
theorem z_LUI {adE adK adV : Nat → Nat} {A : Nat → Prop} {U : State} {H : Heap} (h : cx adE adK adV A U H) : va_Z R_K "LUI" dK (.ref (adE 38)) A U H := (h.1 38 (by decide)).1
theorem z_AUIPC {adE adK adV : Nat → Nat} {A : Nat → Prop} {U : State} {H : Heap} (h : cx adE adK adV A U H) : va_Z R_K "AUIPC" dK (.ref (adE 39)) A U H := (h.1 39 (by decide)).1
theorem z_BEQ {adE adK adV : Nat → Nat} {A : Nat → Prop} {U : State} {H : Heap} (h : cx adE adK adV A U H) : va_Z R_K "BEQ" dK (.ref (adE 40)) A U H := (h.1 40 (by decide)).1
theorem z_BNE {adE adK adV : Nat → Nat} {A : Nat → Prop} {U : State} {H : Heap} (h : cx adE adK adV A U H) : va_Z R_K "BNE" dK (.ref (adE 41)) A U H := (h.1 41 (by decide)).1
theorem z_BLT {adE adK adV : Nat → Nat} {A : Nat → Prop} {U : State} {H : Heap} (h : cx adE adK adV A U H) : va_Z R_K "BLT" dK (.ref (adE 42)) A U H := (h.1 42 (by decide)).1
theorem z_BGE {adE adK adV : Nat → Nat} {A : Nat → Prop} {U : State} {H : Heap} (h : cx adE adK adV A U H) : va_Z R_K "BGE" dK (.ref (adE 43)) A U H := (h.1 43 (by decide)).1
theorem z_BLTU {adE adK adV : Nat → Nat} {A : Nat → Prop} {U : State} {H : Heap} (h : cx adE adK adV A U H) : va_Z R_K "BLTU" dK (.ref (adE 44)) A U H := (h.1 44 (by decide)).1
theorem z_BGEU {adE adK adV : Nat → Nat} {A : Nat → Prop} {U : State} {H : Heap} (h : cx adE adK adV A U H) : va_Z R_K "BGEU" dK (.ref (adE 45)) A U H := (h.1 45 (by decide)).1
theorem z_JAL {adE adK adV : Nat → Nat} {A : Nat → Prop} {U : State} {H : Heap} (h : cx adE adK adV A U H) : va_Z R_K "JAL" dK (.ref (adE 46)) A U H := (h.1 46 (by decide)).1
theorem z_LR {adE adK adV : Nat → Nat} {A : Nat → Prop} {U : State} {H : Heap} (h : cx adE adK adV A U H) : va_Z R_K "LR" dK (.ref (adE 47)) A U H := (h.1 47 (by decide)).1
theorem z_SC {adE adK adV : Nat → Nat} {A : Nat → Prop} {U : State} {H : Heap} (h : cx adE adK adV A U H) : va_Z R_K "SC" dK (.ref (adE 48)) A U H := (h.1 48 (by decide)).1
theorem z_AMOSWAP {adE adK adV : Nat → Nat} {A : Nat → Prop} {U : State} {H : Heap} (h : cx adE adK adV A U H) : va_Z R_K "AMOSWAP" dK (.ref (adE 49)) A U H := (h.1 49 (by decide)).1
theorem z_AMOADD {adE adK adV : Nat → Nat} {A : Nat → Prop} {U : State} {H : Heap} (h : cx adE adK adV A U H) : va_Z R_K "AMOADD" dK (.ref (adE 50)) A U H := (h.1 50 (by decide)).1
theorem z_AMOXOR {adE adK adV : Nat → Nat} {A : Nat → Prop} {U : State} {H : Heap} (h : cx adE adK adV A U H) : va_Z R_K "AMOXOR" dK (.ref (adE 51)) A U H := (h.1 51 (by decide)).1
theorem z_AMOAND {adE adK adV : Nat → Nat} {A : Nat → Prop} {U : State} {H : Heap} (h : cx adE adK adV A U H) : va_Z R_K "AMOAND" dK (.ref (adE 52)) A U H := (h.1 52 (by decide)).1
theorem z_AMOOR {adE adK adV : Nat → Nat} {A : Nat → Prop} {U : State} {H : Heap} (h : cx adE adK adV A U H) : va_Z R_K "AMOOR" dK (.ref (adE 53)) A U H := (h.1 53 (by decide)).1
theorem z_AMOMIN {adE adK adV : Nat → Nat} {A : Nat → Prop} {U : State} {H : Heap} (h : cx adE adK adV A U H) : va_Z R_K "AMOMIN" dK (.ref (adE 54)) A U H := (h.1 54 (by decide)).1
theorem z_AMOMAX {adE adK adV : Nat → Nat} {A : Nat → Prop} {U : State} {H : Heap} (h : cx adE adK adV A U H) : va_Z R_K "AMOMAX" dK (.ref (adE 55)) A U H := (h.1 55 (by decide)).1
theorem z_AMOMINU {adE adK adV : Nat → Nat} {A : Nat → Prop} {U : State} {H : Heap} (h : cx adE adK adV A U H) : va_Z R_K "AMOMINU" dK (.ref (adE 56)) A U H := (h.1 56 (by decide)).1
theorem z_AMOMAXU {adE adK adV : Nat → Nat} {A : Nat → Prop} {U : State} {H : Heap} (h : cx adE adK adV A U H) : va_Z R_K "AMOMAXU" dK (.ref (adE 57)) A U H := (h.1 57 (by decide)).1
theorem z_RDCYCLE {adE adK adV : Nat → Nat} {A : Nat → Prop} {U : State} {H : Heap} (h : cx adE adK adV A U H) : va_Z R_K "RDCYCLE" dK (.ref (adE 58)) A U H := (h.1 58 (by decide)).1
theorem z_RDTIME {adE adK adV : Nat → Nat} {A : Nat → Prop} {U : State} {H : Heap} (h : cx adE adK adV A U H) : va_Z R_K "RDTIME" dK (.ref (adE 59)) A U H := (h.1 59 (by decide)).1
theorem z_RDINSTRET {adE adK adV : Nat → Nat} {A : Nat → Prop} {U : State} {H : Heap} (h : cx adE adK adV A U H) : va_Z R_K "RDINSTRET" dK (.ref (adE 60)) A U H := (h.1 60 (by decide)).1
theorem z_RDCYCLEH {adE adK adV : Nat → Nat} {A : Nat → Prop} {U : State} {H : Heap} (h : cx adE adK adV A U H) : va_Z R_K "RDCYCLEH" dK (.ref (adE 61)) A U H := (h.1 61 (by decide)).1
theorem z_RDTIMEH {adE adK adV : Nat → Nat} {A : Nat → Prop} {U : State} {H : Heap} (h : cx adE adK adV A U H) : va_Z R_K "RDTIMEH" dK (.ref (adE 62)) A U H := (h.1 62 (by decide)).1
theorem z_RDINSTRETH {adE adK adV : Nat → Nat} {A : Nat → Prop} {U : State} {H : Heap} (h : cx adE adK adV A U H) : va_Z R_K "RDINSTRETH" dK (.ref (adE 63)) A U H := (h.1 63 (by decide)).1
theorem z_FENCE {adE adK adV : Nat → Nat} {A : Nat → Prop} {U : State} {H : Heap} (h : cx adE adK adV A U H) : va_Z R_K "FENCE" dK (.ref (adE 64)) A U H := (h.1 64 (by decide)).1
theorem z_FENCE_I {adE adK adV : Nat → Nat} {A : Nat → Prop} {U : State} {H : Heap} (h : cx adE adK adV A U H) : va_Z R_K "FENCE_I" dK (.ref (adE 65)) A U H := (h.1 65 (by decide)).1
theorem z_ECALL {adE adK adV : Nat → Nat} {A : Nat → Prop} {U : State} {H : Heap} (h : cx adE adK adV A U H) : va_Z R_K "ECALL" dK (.ref (adE 66)) A U H := (h.1 66 (by decide)).1
theorem z_EBREAK {adE adK adV : Nat → Nat} {A : Nat → Prop} {U : State} {H : Heap} (h : cx adE adK adV A U H) : va_Z R_K "EBREAK" dK (.ref (adE 67)) A U H := (h.1 67 (by decide)).1
theorem z_C_ADDI4SPN {adE adK adV : Nat → Nat} {A : Nat → Prop} {U : State} {H : Heap} (h : cx adE adK adV A U H) : va_Z R_K "C_ADDI4SPN" dK (.ref (adE 68)) A U H := (h.1 68 (by decide)).1
theorem z_C_LW {adE adK adV : Nat → Nat} {A : Nat → Prop} {U : State} {H : Heap} (h : cx adE adK adV A U H) : va_Z R_K "C_LW" dK (.ref (adE 69)) A U H := (h.1 69 (by decide)).1
theorem z_C_SW {adE adK adV : Nat → Nat} {A : Nat → Prop} {U : State} {H : Heap} (h : cx adE adK adV A U H) : va_Z R_K "C_SW" dK (.ref (adE 70)) A U H := (h.1 70 (by decide)).1
theorem z_C_NOP {adE adK adV : Nat → Nat} {A : Nat → Prop} {U : State} {H : Heap} (h : cx adE adK adV A U H) : va_Z R_K "C_NOP" dK (.ref (adE 71)) A U H := (h.1 71 (by decide)).1
theorem z_C_ADDI {adE adK adV : Nat → Nat} {A : Nat → Prop} {U : State} {H : Heap} (h : cx adE adK adV A U H) : va_Z R_K "C_ADDI" dK (.ref (adE 72)) A U H := (h.1 72 (by decide)).1
theorem z_C_JAL {adE adK adV : Nat → Nat} {A : Nat → Prop} {U : State} {H : Heap} (h : cx adE adK adV A U H) : va_Z R_K "C_JAL" dK (.ref (adE 73)) A U H := (h.1 73 (by decide)).1
theorem z_C_J {adE adK adV : Nat → Nat} {A : Nat → Prop} {U : State} {H : Heap} (h : cx adE adK adV A U H) : va_Z R_K "C_J" dK (.ref (adE 74)) A U H := (h.1 74 (by decide)).1
theorem z_C_LI {adE adK adV : Nat → Nat} {A : Nat → Prop} {U : State} {H : Heap} (h : cx adE adK adV A U H) : va_Z R_K "C_LI" dK (.ref (adE 75)) A U H := (h.1 75 (by decide)).1
theorem z_C_ADDI16SP {adE adK adV : Nat → Nat} {A : Nat → Prop} {U : State} {H : Heap} (h : cx adE adK adV A U H) : va_Z R_K "C_ADDI16SP" dK (.ref (adE 76)) A U H := (h.1 76 (by decide)).1
theorem z_C_LUI {adE adK adV : Nat → Nat} {A : Nat → Prop} {U : State} {H : Heap} (h : cx adE adK adV A U H) : va_Z R_K "C_LUI" dK (.ref (adE 77)) A U H := (h.1 77 (by decide)).1
theorem z_C_SRLI {adE adK adV : Nat → Nat} {A : Nat → Prop} {U : State} {H : Heap} (h : cx adE adK adV A U H) : va_Z R_K "C_SRLI" dK (.ref (adE 78)) A U H := (h.1 78 (by decide)).1
theorem z_C_SRAI {adE adK adV : Nat → Nat} {A : Nat → Prop} {U : State} {H : Heap} (h : cx adE adK adV A U H) : va_Z R_K "C_SRAI" dK (.ref (adE 79)) A U H := (h.1 79 (by decide)).1
theorem z_C_ANDI {adE adK adV : Nat → Nat} {A : Nat → Prop} {U : State} {H : Heap} (h : cx adE adK adV A U H) : va_Z R_K "C_ANDI" dK (.ref (adE 80)) A U H := (h.1 80 (by decide)).1
theorem z_C_SUB {adE adK adV : Nat → Nat} {A : Nat → Prop} {U : State} {H : Heap} (h : cx adE adK adV A U H) : va_Z R_K "C_SUB" dK (.ref (adE 81)) A U H := (h.1 81 (by decide)).1
theorem z_C_XOR {adE adK adV : Nat → Nat} {A : Nat → Prop} {U : State} {H : Heap} (h : cx adE adK adV A U H) : va_Z R_K "C_XOR" dK (.ref (adE 82)) A U H := (h.1 82 (by decide)).1
theorem z_C_OR {adE adK adV : Nat → Nat} {A : Nat → Prop} {U : State} {H : Heap} (h : cx adE adK adV A U H) : va_Z R_K "C_OR" dK (.ref (adE 83)) A U H := (h.1 83 (by decide)).1
theorem z_C_AND {adE adK adV : Nat → Nat} {A : Nat → Prop} {U : State} {H : Heap} (h : cx adE adK adV A U H) : va_Z R_K "C_AND" dK (.ref (adE 84)) A U H := (h.1 84 (by decide)).1
theorem z_C_BEQZ {adE adK adV : Nat → Nat} {A : Nat → Prop} {U : State} {H : Heap} (h : cx adE adK adV A U H) : va_Z R_K "C_BEQZ" dK (.ref (adE 85)) A U H := (h.1 85 (by decide)).1
theorem z_C_BNEZ {adE adK adV : Nat → Nat} {A : Nat → Prop} {U : State} {H : Heap} (h : cx adE adK adV A U H) : va_Z R_K "C_BNEZ" dK (.ref (adE 86)) A U H := (h.1 86 (by decide)).1
theorem z_C_SLLI {adE adK adV : Nat → Nat} {A : Nat → Prop} {U : State} {H : Heap} (h : cx adE adK adV A U H) : va_Z R_K "C_SLLI" dK (.ref (adE 87)) A U H := (h.1 87 (by decide)).1
theorem z_C_LWSP {adE adK adV : Nat → Nat} {A : Nat → Prop} {U : State} {H : Heap} (h : cx adE adK adV A U H) : va_Z R_K "C_LWSP" dK (.ref (adE 88)) A U H := (h.1 88 (by decide)).1
theorem z_C_JR {adE adK adV : Nat → Nat} {A : Nat → Prop} {U : State} {H : Heap} (h : cx adE adK adV A U H) : va_Z R_K "C_JR" dK (.ref (adE 89)) A U H := (h.1 89 (by decide)).1
theorem z_C_MV {adE adK adV : Nat → Nat} {A : Nat → Prop} {U : State} {H : Heap} (h : cx adE adK adV A U H) : va_Z R_K "C_MV" dK (.ref (adE 90)) A U H := (h.1 90 (by decide)).1
theorem z_C_EBREAK {adE adK adV : Nat → Nat} {A : Nat → Prop} {U : State} {H : Heap} (h : cx adE adK adV A U H) : va_Z R_K "C_EBREAK" dK (.ref (adE 91)) A U H := (h.1 91 (by decide)).1
theorem z_C_JALR {adE adK adV : Nat → Nat} {A : Nat → Prop} {U : State} {H : Heap} (h : cx adE adK adV A U H) : va_Z R_K "C_JALR" dK (.ref (adE 92)) A U H := (h.1 92 (by decide)).1
theorem z_C_ADD {adE adK adV : Nat → Nat} {A : Nat → Prop} {U : State} {H : Heap} (h : cx adE adK adV A U H) : va_Z R_K "C_ADD" dK (.ref (adE 93)) A U H := (h.1 93 (by decide)).1
theorem z_C_SWSP {adE adK adV : Nat → Nat} {A : Nat → Prop} {U : State} {H : Heap} (h : cx adE adK adV A U H) : va_Z R_K "C_SWSP" dK (.ref (adE 94)) A U H := (h.1 94 (by decide)).1
end
section
/-- a tableswitch whose value lies at none of the told places -/
theorem tb_out {p : Program} {l : Launch} {e : Env} {R : Room} {s : State} {m : MethodId} {args : Array Value} {below : List Frame} {meth : Method} {c : Code} {H : Heap} {locs : List Loc} {cells slots : Nat} {Q : State → Prop} {cc : ByteArray} {pc : Nat} {ls : Array Slot} {rest : List Value} (hexec : p.tables.exec = Jvm.exec) (hb : c.code = cc) {dflt lo hi : Int} {offs : Array Int} {len : Nat} {x : Int32} {tgt : Nat} (hdg : decode cc pc = .ok (.tableswitch dflt lo hi offs, len))
    (hd : ∀ j : Nat, x.toInt = lo + j → x.toInt ≤ hi → offs[j]? = some dflt) (ht : (pc : Int) + dflt = (tgt : Int)) (k : W p l e R s m args below meth c H locs cells slots Q (F0 m tgt ls rest)) : W p l e R s m args below meth c H locs cells slots Q (F0 m pc ls (.int x :: rest)) := by
  by_cases h : x.toInt < lo ∨ hi < x.toInt
  · exact lv_tableOut hexec hb hdg h ht k
  · have h1 : ¬ x.toInt < lo := fun z => h (Or.inl z)
    have h2 : ¬ hi < x.toInt := fun z => h (Or.inr z)
    exact lv_tableIn hexec hb hdg h1 h2 (hd _ (by omega) (by omega)) ht k
end
section
def f_F_part (x0 x1 x2 x3 : Int32) : Int32 :=
  ((ushr x0 x1) &&& (((1 : Int32) <<< (x2 &&& 31)) - 1)) <<< (x3 &&& 31)
set_option maxRecDepth 100000 in
set_option maxHeartbeats 4000000 in
theorem c_F_part (l : Launch) (x0 x1 x2 x3 : Int32) : Met l y_F_part (Cond.code y_F_part b_F_part 4 (some .int) :: WT) ({ frames := 0, cells := 0, slots := 0, locals := 0 }) (va_Pc [.int x0, .int x1, .int x2, .int x3] (fun _ => True)) (vp_Si (fun r => r = f_F_part x0 x1 x2 x3)) 0 0 no := by
  refine va_MetF (cc := b_F_part) (maxL := 4) (ret := (some .int)) (by decide +kernel) rfl ?_
  intro p e s m args below meth c s₁ B hml hv
  obtain ⟨rfl, -⟩ := hv
  have hx := B.exec
  have hb := B.bytes
  have hr := B.returns
  have hts := atoms_spec (ws := (Cond.code y_F_part b_F_part 4 (some .int) :: WT)) B.pre
  have hT : ∀ w ∈ WT, w.before _ s = true := fun w h => hts w (inC w h)
  have hown : s.vm.findClass R_F = some m.cls := findClass_of_methodNamed B.named
  have hlocks := B.notSynchronized
  have hS : va_S no s.heap s.heap [] := va_S.rf
  have S : CallFix p m c b_F_part 4 s _ (Cond.code y_F_part b_F_part 4 (some .int) :: WT) R_F := ⟨hx, hb, hml, hown, hts⟩
  have hl := lv_entry ([.int x0, .int x1, .int x2, .int x3]) (n := 4) (Nat.le_of_ble_eq_true rfl)
  rw [lg_entry_eq]
  generalize (lg_sl ([.int x0, .int x1, .int x2, .int x3]) ++ List.replicate (4 - (lg_sl ([.int x0, .int x1, .int x2, .int x3])).length) Slot.unset).toArray = ls at hl ⊢
  have hl : lv_has ls 4 [(0, .int x0), (1, .int x1), (2, .int x2), (3, .int x3)] := hl
  refine lv_iload_n hx hb d_F_part_0 rfl (lv_at hl 0 rfl) ?_
  refine lv_iload_n hx hb d_F_part_1 rfl (lv_at hl 1 rfl) ?_
  refine lv_iushr (v := ushr x0 x1) hx hb d_F_part_2 rfl ?_
  refine lv_iconst (v := 1) hx hb d_F_part_3 (by decide) ?_
  refine lv_iload_n hx hb d_F_part_4 rfl (lv_at hl 2 rfl) ?_
  refine lv_ishl hx hb d_F_part_5 ?_
  refine lv_iconst (v := 1) hx hb d_F_part_6 (by decide) ?_
  refine lv_isub hx hb d_F_part_7 ?_
  refine lv_iand hx hb d_F_part_8 ?_
  refine lv_iload_n hx hb d_F_part_9 rfl (lv_at hl 3 rfl) ?_
  refine lv_ishl hx hb d_F_part_10 ?_
  exact W.iret (v := ((ushr x0 x1) &&& (((1 : Int32) <<< (x2 &&& 31)) - 1)) <<< (x3 &&& 31)) hx hb hr (fun t ht hW => ⟨((ushr x0 x1) &&& (((1 : Int32) <<< (x2 &&& 31)) - 1)) <<< (x3 &&& 31), rfl, rfl, ht⟩) (fun _ h => by cases h) d_F_part_11
theorem call_F_part {p : Program} {l : Launch} {e : Env} {R : Room} {s : State} {m : MethodId} {args : Array Value} {below : List Frame} {meth : Method} {c : Code} {H : Heap} {locs : List Loc} {cells slots : Nat} {Q : State → Prop} {cc : ByteArray} {pc nL idx : Nat} {ls : Array Slot} {rest : List Value} {Ts : List Cond} {own : String} {x0 x1 x2 x3 : Int32} (S : CallFix p m c cc nL s args Ts own) (hTs : ∀ w ∈ WT, w ∈ Ts) (h1 : Cond.methodLink own idx y_F_part ∈ WT) (hR : 0 + 1 ≤ R.frames ∧ 8 + (4 + 11) + 0 ≤ R.locals) (hsz : ls.size = nL) (hrm : (rest.map fun v => v.category).sum ≤ 8) (hdg : decode cc pc = .ok (.invokestatic idx, 3)) (hc : cells ≤ R.cells ∧ slots ≤ R.slots) (kk : W p l e R s m args below meth c H locs cells slots Q (F0 m (pc + 3) ls (.int (f_F_part x0 x1 x2 x3) :: rest))) : W p l e R s m args below meth c H locs cells slots Q (F0 m pc ls (.int x3 :: .int x2 :: .int x1 :: .int x0 :: rest)) :=
  vp_callSi (va_Run.run (va_runS (As := [.int x0, .int x1, .int x2, .int x3]) (rest := rest) S (c_F_part l x0 x1 x2 x3) (va_cwS 4 S.2.2.2.2 (gS hTs h1 m_304 m_56 m_305) rfl rfl rfl (by decide +kernel) hR) ⟨fun a U g mk q => q, fun U hU hW => ⟨rfl, trivial⟩⟩ rfl rfl hsz rfl (lv_room hrm) hdg hc)) (fun r e => by subst e; exact kk)

def f_F_signed (x0 x1 x2 : Int32) : Int32 :=
  (-((ushr x0 x1) &&& 1)) <<< (x2 &&& 31)
set_option maxRecDepth 100000 in
set_option maxHeartbeats 4000000 in
theorem c_F_signed (l : Launch) (x0 x1 x2 : Int32) : Met l y_F_signed (Cond.code y_F_signed b_F_signed 3 (some .int) :: WT) ({ frames := 0, cells := 0, slots := 0, locals := 0 }) (va_Pc [.int x0, .int x1, .int x2] (fun _ => True)) (vp_Si (fun r => r = f_F_signed x0 x1 x2)) 0 0 no := by
  refine va_MetF (cc := b_F_signed) (maxL := 3) (ret := (some .int)) (by decide +kernel) rfl ?_
  intro p e s m args below meth c s₁ B hml hv
  obtain ⟨rfl, -⟩ := hv
  have hx := B.exec
  have hb := B.bytes
  have hr := B.returns
  have hts := atoms_spec (ws := (Cond.code y_F_signed b_F_signed 3 (some .int) :: WT)) B.pre
  have hT : ∀ w ∈ WT, w.before _ s = true := fun w h => hts w (inC w h)
  have hown : s.vm.findClass R_F = some m.cls := findClass_of_methodNamed B.named
  have hlocks := B.notSynchronized
  have hS : va_S no s.heap s.heap [] := va_S.rf
  have S : CallFix p m c b_F_signed 3 s _ (Cond.code y_F_signed b_F_signed 3 (some .int) :: WT) R_F := ⟨hx, hb, hml, hown, hts⟩
  have hl := lv_entry ([.int x0, .int x1, .int x2]) (n := 3) (Nat.le_of_ble_eq_true rfl)
  rw [lg_entry_eq]
  generalize (lg_sl ([.int x0, .int x1, .int x2]) ++ List.replicate (3 - (lg_sl ([.int x0, .int x1, .int x2])).length) Slot.unset).toArray = ls at hl ⊢
  have hl : lv_has ls 3 [(0, .int x0), (1, .int x1), (2, .int x2)] := hl
  refine lv_iload_n hx hb d_F_signed_0 rfl (lv_at hl 0 rfl) ?_
  refine lv_iload_n hx hb d_F_signed_1 rfl (lv_at hl 1 rfl) ?_
  refine lv_iushr (v := ushr x0 x1) hx hb d_F_signed_2 rfl ?_
  refine lv_iconst (v := 1) hx hb d_F_signed_3 (by decide) ?_
  refine lv_iand hx hb d_F_signed_4 ?_
  refine lv_ineg hx hb d_F_signed_5 ?_
  refine lv_iload_n hx hb d_F_signed_6 rfl (lv_at hl 2 rfl) ?_
  refine lv_ishl hx hb d_F_signed_7 ?_
  exact W.iret (v := (-((ushr x0 x1) &&& 1)) <<< (x2 &&& 31)) hx hb hr (fun t ht hW => ⟨(-((ushr x0 x1) &&& 1)) <<< (x2 &&& 31), rfl, rfl, ht⟩) (fun _ h => by cases h) d_F_signed_8
theorem call_F_signed {p : Program} {l : Launch} {e : Env} {R : Room} {s : State} {m : MethodId} {args : Array Value} {below : List Frame} {meth : Method} {c : Code} {H : Heap} {locs : List Loc} {cells slots : Nat} {Q : State → Prop} {cc : ByteArray} {pc nL idx : Nat} {ls : Array Slot} {rest : List Value} {Ts : List Cond} {own : String} {x0 x1 x2 : Int32} (S : CallFix p m c cc nL s args Ts own) (hTs : ∀ w ∈ WT, w ∈ Ts) (h1 : Cond.methodLink own idx y_F_signed ∈ WT) (hR : 0 + 1 ≤ R.frames ∧ 8 + (3 + 11) + 0 ≤ R.locals) (hsz : ls.size = nL) (hrm : (rest.map fun v => v.category).sum ≤ 8) (hdg : decode cc pc = .ok (.invokestatic idx, 3)) (hc : cells ≤ R.cells ∧ slots ≤ R.slots) (kk : W p l e R s m args below meth c H locs cells slots Q (F0 m (pc + 3) ls (.int (f_F_signed x0 x1 x2) :: rest))) : W p l e R s m args below meth c H locs cells slots Q (F0 m pc ls (.int x2 :: .int x1 :: .int x0 :: rest)) :=
  vp_callSi (va_Run.run (va_runS (As := [.int x0, .int x1, .int x2]) (rest := rest) S (c_F_signed l x0 x1 x2) (va_cwS 3 S.2.2.2.2 (gS hTs h1 m_332 m_56 m_333) rfl rfl rfl (by decide +kernel) hR) ⟨fun a U g mk q => q, fun U hU hW => ⟨rfl, trivial⟩⟩ rfl rfl hsz rfl (lv_room hrm) hdg hc)) (fun r e => by subst e; exact kk)

def f_F_store (x0 : Int32) : Int32 :=
  ((x0 >>> ((25 : Int32) &&& 31)) <<< ((5 : Int32) &&& 31)) ||| ((x0 >>> ((7 : Int32) &&& 31)) &&& 31)
set_option maxRecDepth 100000 in
set_option maxHeartbeats 4000000 in
theorem c_F_store (l : Launch) (x0 : Int32) : Met l y_F_store (Cond.code y_F_store b_F_store 1 (some .int) :: WT) ({ frames := 0, cells := 0, slots := 0, locals := 0 }) (va_Pc [.int x0] (fun _ => True)) (vp_Si (fun r => r = f_F_store x0)) 0 0 no := by
  refine va_MetF (cc := b_F_store) (maxL := 1) (ret := (some .int)) (by decide +kernel) rfl ?_
  intro p e s m args below meth c s₁ B hml hv
  obtain ⟨rfl, -⟩ := hv
  have hx := B.exec
  have hb := B.bytes
  have hr := B.returns
  have hts := atoms_spec (ws := (Cond.code y_F_store b_F_store 1 (some .int) :: WT)) B.pre
  have hT : ∀ w ∈ WT, w.before _ s = true := fun w h => hts w (inC w h)
  have hown : s.vm.findClass R_F = some m.cls := findClass_of_methodNamed B.named
  have hlocks := B.notSynchronized
  have hS : va_S no s.heap s.heap [] := va_S.rf
  have S : CallFix p m c b_F_store 1 s _ (Cond.code y_F_store b_F_store 1 (some .int) :: WT) R_F := ⟨hx, hb, hml, hown, hts⟩
  have hl := lv_entry ([.int x0]) (n := 1) (Nat.le_of_ble_eq_true rfl)
  rw [lg_entry_eq]
  generalize (lg_sl ([.int x0]) ++ List.replicate (1 - (lg_sl ([.int x0])).length) Slot.unset).toArray = ls at hl ⊢
  have hl : lv_has ls 1 [(0, .int x0)] := hl
  refine lv_iload_n hx hb d_F_store_0 rfl (lv_at hl 0 rfl) ?_
  refine lv_bipush (v := 25) hx hb d_F_store_1 (by decide) ?_
  refine lv_ishr hx hb d_F_store_3 ?_
  refine lv_iconst (v := 5) hx hb d_F_store_4 (by decide) ?_
  refine lv_ishl hx hb d_F_store_5 ?_
  refine lv_iload_n hx hb d_F_store_6 rfl (lv_at hl 0 rfl) ?_
  refine lv_bipush (v := 7) hx hb d_F_store_7 (by decide) ?_
  refine lv_ishr hx hb d_F_store_9 ?_
  refine lv_bipush (v := 31) hx hb d_F_store_10 (by decide) ?_
  refine lv_iand hx hb d_F_store_12 ?_
  refine lv_ior hx hb d_F_store_13 ?_
  exact W.iret (v := ((x0 >>> ((25 : Int32) &&& 31)) <<< ((5 : Int32) &&& 31)) ||| ((x0 >>> ((7 : Int32) &&& 31)) &&& 31)) hx hb hr (fun t ht hW => ⟨((x0 >>> ((25 : Int32) &&& 31)) <<< ((5 : Int32) &&& 31)) ||| ((x0 >>> ((7 : Int32) &&& 31)) &&& 31), rfl, rfl, ht⟩) (fun _ h => by cases h) d_F_store_14
theorem call_F_store {p : Program} {l : Launch} {e : Env} {R : Room} {s : State} {m : MethodId} {args : Array Value} {below : List Frame} {meth : Method} {c : Code} {H : Heap} {locs : List Loc} {cells slots : Nat} {Q : State → Prop} {cc : ByteArray} {pc nL idx : Nat} {ls : Array Slot} {rest : List Value} {Ts : List Cond} {own : String} {x0 : Int32} (S : CallFix p m c cc nL s args Ts own) (hTs : ∀ w ∈ WT, w ∈ Ts) (h1 : Cond.methodLink own idx y_F_store ∈ WT) (hR : 0 + 1 ≤ R.frames ∧ 8 + (1 + 11) + 0 ≤ R.locals) (hsz : ls.size = nL) (hrm : (rest.map fun v => v.category).sum ≤ 8) (hdg : decode cc pc = .ok (.invokestatic idx, 3)) (hc : cells ≤ R.cells ∧ slots ≤ R.slots) (kk : W p l e R s m args below meth c H locs cells slots Q (F0 m (pc + 3) ls (.int (f_F_store x0) :: rest))) : W p l e R s m args below meth c H locs cells slots Q (F0 m pc ls (.int x0 :: rest)) :=
  vp_callSi (va_Run.run (va_runS (As := [.int x0]) (rest := rest) S (c_F_store l x0) (va_cwS 1 S.2.2.2.2 (gS hTs h1 m_527 m_56 m_528) rfl rfl rfl (by decide +kernel) hR) ⟨fun a U g mk q => q, fun U hU hW => ⟨rfl, trivial⟩⟩ rfl rfl hsz rfl (lv_room hrm) hdg hc)) (fun r e => by subst e; exact kk)

def f_F_branch (x0 : Int32) : Int32 :=
  (((f_F_signed x0 31 12) ||| (f_F_part x0 7 1 11)) ||| (f_F_part x0 25 6 5)) ||| (f_F_part x0 8 4 1)
set_option maxRecDepth 100000 in
set_option maxHeartbeats 4000000 in
theorem c_F_branch (l : Launch) (x0 : Int32) : Met l y_F_branch (Cond.code y_F_branch b_F_branch 1 (some .int) :: WT) ({ frames := 1, cells := 0, slots := 0, locals := 23 }) (va_Pc [.int x0] (fun _ => True)) (vp_Si (fun r => r = f_F_branch x0)) 0 0 no := by
  refine va_MetF (cc := b_F_branch) (maxL := 1) (ret := (some .int)) (by decide +kernel) rfl ?_
  intro p e s m args below meth c s₁ B hml hv
  obtain ⟨rfl, -⟩ := hv
  have hx := B.exec
  have hb := B.bytes
  have hr := B.returns
  have hts := atoms_spec (ws := (Cond.code y_F_branch b_F_branch 1 (some .int) :: WT)) B.pre
  have hT : ∀ w ∈ WT, w.before _ s = true := fun w h => hts w (inC w h)
  have hown : s.vm.findClass R_F = some m.cls := findClass_of_methodNamed B.named
  have hlocks := B.notSynchronized
  have hS : va_S no s.heap s.heap [] := va_S.rf
  have S : CallFix p m c b_F_branch 1 s _ (Cond.code y_F_branch b_F_branch 1 (some .int) :: WT) R_F := ⟨hx, hb, hml, hown, hts⟩
  have hl := lv_entry ([.int x0]) (n := 1) (Nat.le_of_ble_eq_true rfl)
  rw [lg_entry_eq]
  generalize (lg_sl ([.int x0]) ++ List.replicate (1 - (lg_sl ([.int x0])).length) Slot.unset).toArray = ls at hl ⊢
  have hl : lv_has ls 1 [(0, .int x0)] := hl
  refine lv_iload_n hx hb d_F_branch_0 rfl (lv_at hl 0 rfl) ?_
  refine lv_bipush (v := 31) hx hb d_F_branch_1 (by decide) ?_
  refine lv_bipush (v := 12) hx hb d_F_branch_3 (by decide) ?_
  refine call_F_signed S inC m_331 ⟨(Nat.le_of_ble_eq_true rfl), (Nat.le_of_ble_eq_true rfl)⟩ hl.1 (Nat.le_of_ble_eq_true rfl) d_F_branch_5 ⟨(Nat.le_of_ble_eq_true rfl), (Nat.le_of_ble_eq_true rfl)⟩ ?_
  refine lv_iload_n hx hb d_F_branch_8 rfl (lv_at hl 0 rfl) ?_
  refine lv_bipush (v := 7) hx hb d_F_branch_9 (by decide) ?_
  refine lv_iconst (v := 1) hx hb d_F_branch_11 (by decide) ?_
  refine lv_bipush (v := 11) hx hb d_F_branch_12 (by decide) ?_
  refine call_F_part S inC m_303 ⟨(Nat.le_of_ble_eq_true rfl), (Nat.le_of_ble_eq_true rfl)⟩ hl.1 (Nat.le_of_ble_eq_true rfl) d_F_branch_14 ⟨(Nat.le_of_ble_eq_true rfl), (Nat.le_of_ble_eq_true rfl)⟩ ?_
  refine lv_ior hx hb d_F_branch_17 ?_
  refine lv_iload_n hx hb d_F_branch_18 rfl (lv_at hl 0 rfl) ?_
  refine lv_bipush (v := 25) hx hb d_F_branch_19 (by decide) ?_
  refine lv_bipush (v := 6) hx hb d_F_branch_21 (by decide) ?_
  refine lv_iconst (v := 5) hx hb d_F_branch_23 (by decide) ?_
  refine call_F_part S inC m_303 ⟨(Nat.le_of_ble_eq_true rfl), (Nat.le_of_ble_eq_true rfl)⟩ hl.1 (Nat.le_of_ble_eq_true rfl) d_F_branch_24 ⟨(Nat.le_of_ble_eq_true rfl), (Nat.le_of_ble_eq_true rfl)⟩ ?_
  refine lv_ior hx hb d_F_branch_27 ?_
  refine lv_iload_n hx hb d_F_branch_28 rfl (lv_at hl 0 rfl) ?_
  refine lv_bipush (v := 8) hx hb d_F_branch_29 (by decide) ?_
  refine lv_iconst (v := 4) hx hb d_F_branch_31 (by decide) ?_
  refine lv_iconst (v := 1) hx hb d_F_branch_32 (by decide) ?_
  refine call_F_part S inC m_303 ⟨(Nat.le_of_ble_eq_true rfl), (Nat.le_of_ble_eq_true rfl)⟩ hl.1 (Nat.le_of_ble_eq_true rfl) d_F_branch_33 ⟨(Nat.le_of_ble_eq_true rfl), (Nat.le_of_ble_eq_true rfl)⟩ ?_
  refine lv_ior hx hb d_F_branch_36 ?_
  exact W.iret (v := (((f_F_signed x0 31 12) ||| (f_F_part x0 7 1 11)) ||| (f_F_part x0 25 6 5)) ||| (f_F_part x0 8 4 1)) hx hb hr (fun t ht hW => ⟨(((f_F_signed x0 31 12) ||| (f_F_part x0 7 1 11)) ||| (f_F_part x0 25 6 5)) ||| (f_F_part x0 8 4 1), rfl, rfl, ht⟩) (fun _ h => by cases h) d_F_branch_37
theorem call_F_branch {p : Program} {l : Launch} {e : Env} {R : Room} {s : State} {m : MethodId} {args : Array Value} {below : List Frame} {meth : Method} {c : Code} {H : Heap} {locs : List Loc} {cells slots : Nat} {Q : State → Prop} {cc : ByteArray} {pc nL idx : Nat} {ls : Array Slot} {rest : List Value} {Ts : List Cond} {own : String} {x0 : Int32} (S : CallFix p m c cc nL s args Ts own) (hTs : ∀ w ∈ WT, w ∈ Ts) (h1 : Cond.methodLink own idx y_F_branch ∈ WT) (hR : 1 + 1 ≤ R.frames ∧ 8 + (1 + 11) + 23 ≤ R.locals) (hsz : ls.size = nL) (hrm : (rest.map fun v => v.category).sum ≤ 8) (hdg : decode cc pc = .ok (.invokestatic idx, 3)) (hc : cells ≤ R.cells ∧ slots ≤ R.slots) (kk : W p l e R s m args below meth c H locs cells slots Q (F0 m (pc + 3) ls (.int (f_F_branch x0) :: rest))) : W p l e R s m args below meth c H locs cells slots Q (F0 m pc ls (.int x0 :: rest)) :=
  vp_callSi (va_Run.run (va_runS (As := [.int x0]) (rest := rest) S (c_F_branch l x0) (va_cwS 1 S.2.2.2.2 (gS hTs h1 m_544 m_56 m_545) rfl rfl rfl (by decide +kernel) hR) ⟨fun a U g mk q => q, fun U hU hW => ⟨rfl, trivial⟩⟩ rfl rfl hsz rfl (lv_room hrm) hdg hc)) (fun r e => by subst e; exact kk)

def f_F_jump (x0 : Int32) : Int32 :=
  (((f_F_signed x0 31 20) ||| (f_F_part x0 12 8 12)) ||| (f_F_part x0 20 1 11)) ||| (f_F_part x0 21 10 1)
set_option maxRecDepth 100000 in
set_option maxHeartbeats 4000000 in
theorem c_F_jump (l : Launch) (x0 : Int32) : Met l y_F_jump (Cond.code y_F_jump b_F_jump 1 (some .int) :: WT) ({ frames := 1, cells := 0, slots := 0, locals := 23 }) (va_Pc [.int x0] (fun _ => True)) (vp_Si (fun r => r = f_F_jump x0)) 0 0 no := by
  refine va_MetF (cc := b_F_jump) (maxL := 1) (ret := (some .int)) (by decide +kernel) rfl ?_
  intro p e s m args below meth c s₁ B hml hv
  obtain ⟨rfl, -⟩ := hv
  have hx := B.exec
  have hb := B.bytes
  have hr := B.returns
  have hts := atoms_spec (ws := (Cond.code y_F_jump b_F_jump 1 (some .int) :: WT)) B.pre
  have hT : ∀ w ∈ WT, w.before _ s = true := fun w h => hts w (inC w h)
  have hown : s.vm.findClass R_F = some m.cls := findClass_of_methodNamed B.named
  have hlocks := B.notSynchronized
  have hS : va_S no s.heap s.heap [] := va_S.rf
  have S : CallFix p m c b_F_jump 1 s _ (Cond.code y_F_jump b_F_jump 1 (some .int) :: WT) R_F := ⟨hx, hb, hml, hown, hts⟩
  have hl := lv_entry ([.int x0]) (n := 1) (Nat.le_of_ble_eq_true rfl)
  rw [lg_entry_eq]
  generalize (lg_sl ([.int x0]) ++ List.replicate (1 - (lg_sl ([.int x0])).length) Slot.unset).toArray = ls at hl ⊢
  have hl : lv_has ls 1 [(0, .int x0)] := hl
  refine lv_iload_n hx hb d_F_jump_0 rfl (lv_at hl 0 rfl) ?_
  refine lv_bipush (v := 31) hx hb d_F_jump_1 (by decide) ?_
  refine lv_bipush (v := 20) hx hb d_F_jump_3 (by decide) ?_
  refine call_F_signed S inC m_331 ⟨(Nat.le_of_ble_eq_true rfl), (Nat.le_of_ble_eq_true rfl)⟩ hl.1 (Nat.le_of_ble_eq_true rfl) d_F_jump_5 ⟨(Nat.le_of_ble_eq_true rfl), (Nat.le_of_ble_eq_true rfl)⟩ ?_
  refine lv_iload_n hx hb d_F_jump_8 rfl (lv_at hl 0 rfl) ?_
  refine lv_bipush (v := 12) hx hb d_F_jump_9 (by decide) ?_
  refine lv_bipush (v := 8) hx hb d_F_jump_11 (by decide) ?_
  refine lv_bipush (v := 12) hx hb d_F_jump_13 (by decide) ?_
  refine call_F_part S inC m_303 ⟨(Nat.le_of_ble_eq_true rfl), (Nat.le_of_ble_eq_true rfl)⟩ hl.1 (Nat.le_of_ble_eq_true rfl) d_F_jump_15 ⟨(Nat.le_of_ble_eq_true rfl), (Nat.le_of_ble_eq_true rfl)⟩ ?_
  refine lv_ior hx hb d_F_jump_18 ?_
  refine lv_iload_n hx hb d_F_jump_19 rfl (lv_at hl 0 rfl) ?_
  refine lv_bipush (v := 20) hx hb d_F_jump_20 (by decide) ?_
  refine lv_iconst (v := 1) hx hb d_F_jump_22 (by decide) ?_
  refine lv_bipush (v := 11) hx hb d_F_jump_23 (by decide) ?_
  refine call_F_part S inC m_303 ⟨(Nat.le_of_ble_eq_true rfl), (Nat.le_of_ble_eq_true rfl)⟩ hl.1 (Nat.le_of_ble_eq_true rfl) d_F_jump_25 ⟨(Nat.le_of_ble_eq_true rfl), (Nat.le_of_ble_eq_true rfl)⟩ ?_
  refine lv_ior hx hb d_F_jump_28 ?_
  refine lv_iload_n hx hb d_F_jump_29 rfl (lv_at hl 0 rfl) ?_
  refine lv_bipush (v := 21) hx hb d_F_jump_30 (by decide) ?_
  refine lv_bipush (v := 10) hx hb d_F_jump_32 (by decide) ?_
  refine lv_iconst (v := 1) hx hb d_F_jump_34 (by decide) ?_
  refine call_F_part S inC m_303 ⟨(Nat.le_of_ble_eq_true rfl), (Nat.le_of_ble_eq_true rfl)⟩ hl.1 (Nat.le_of_ble_eq_true rfl) d_F_jump_35 ⟨(Nat.le_of_ble_eq_true rfl), (Nat.le_of_ble_eq_true rfl)⟩ ?_
  refine lv_ior hx hb d_F_jump_38 ?_
  exact W.iret (v := (((f_F_signed x0 31 20) ||| (f_F_part x0 12 8 12)) ||| (f_F_part x0 20 1 11)) ||| (f_F_part x0 21 10 1)) hx hb hr (fun t ht hW => ⟨(((f_F_signed x0 31 20) ||| (f_F_part x0 12 8 12)) ||| (f_F_part x0 20 1 11)) ||| (f_F_part x0 21 10 1), rfl, rfl, ht⟩) (fun _ h => by cases h) d_F_jump_39
theorem call_F_jump {p : Program} {l : Launch} {e : Env} {R : Room} {s : State} {m : MethodId} {args : Array Value} {below : List Frame} {meth : Method} {c : Code} {H : Heap} {locs : List Loc} {cells slots : Nat} {Q : State → Prop} {cc : ByteArray} {pc nL idx : Nat} {ls : Array Slot} {rest : List Value} {Ts : List Cond} {own : String} {x0 : Int32} (S : CallFix p m c cc nL s args Ts own) (hTs : ∀ w ∈ WT, w ∈ Ts) (h1 : Cond.methodLink own idx y_F_jump ∈ WT) (hR : 1 + 1 ≤ R.frames ∧ 8 + (1 + 11) + 23 ≤ R.locals) (hsz : ls.size = nL) (hrm : (rest.map fun v => v.category).sum ≤ 8) (hdg : decode cc pc = .ok (.invokestatic idx, 3)) (hc : cells ≤ R.cells ∧ slots ≤ R.slots) (kk : W p l e R s m args below meth c H locs cells slots Q (F0 m (pc + 3) ls (.int (f_F_jump x0) :: rest))) : W p l e R s m args below meth c H locs cells slots Q (F0 m pc ls (.int x0 :: rest)) :=
  vp_callSi (va_Run.run (va_runS (As := [.int x0]) (rest := rest) S (c_F_jump l x0) (va_cwS 1 S.2.2.2.2 (gS hTs h1 m_551 m_56 m_552) rfl rfl rfl (by decide +kernel) hR) ⟨fun a U g mk q => q, fun U hU hW => ⟨rfl, trivial⟩⟩ rfl rfl hsz rfl (lv_room hrm) hdg hc)) (fun r e => by subst e; exact kk)

def f_F_six (x0 : Int32) : Int32 :=
  (f_F_signed x0 12 5) ||| (f_F_part x0 2 5 0)
set_option maxRecDepth 100000 in
set_option maxHeartbeats 4000000 in
theorem c_F_six (l : Launch) (x0 : Int32) : Met l y_F_six (Cond.code y_F_six b_F_six 1 (some .int) :: WT) ({ frames := 1, cells := 0, slots := 0, locals := 23 }) (va_Pc [.int x0] (fun _ => True)) (vp_Si (fun r => r = f_F_six x0)) 0 0 no := by
  refine va_MetF (cc := b_F_six) (maxL := 1) (ret := (some .int)) (by decide +kernel) rfl ?_
  intro p e s m args below meth c s₁ B hml hv
  obtain ⟨rfl, -⟩ := hv
  have hx := B.exec
  have hb := B.bytes
  have hr := B.returns
  have hts := atoms_spec (ws := (Cond.code y_F_six b_F_six 1 (some .int) :: WT)) B.pre
  have hT : ∀ w ∈ WT, w.before _ s = true := fun w h => hts w (inC w h)
  have hown : s.vm.findClass R_F = some m.cls := findClass_of_methodNamed B.named
  have hlocks := B.notSynchronized
  have hS : va_S no s.heap s.heap [] := va_S.rf
  have S : CallFix p m c b_F_six 1 s _ (Cond.code y_F_six b_F_six 1 (some .int) :: WT) R_F := ⟨hx, hb, hml, hown, hts⟩
  have hl := lv_entry ([.int x0]) (n := 1) (Nat.le_of_ble_eq_true rfl)
  rw [lg_entry_eq]
  generalize (lg_sl ([.int x0]) ++ List.replicate (1 - (lg_sl ([.int x0])).length) Slot.unset).toArray = ls at hl ⊢
  have hl : lv_has ls 1 [(0, .int x0)] := hl
  refine lv_iload_n hx hb d_F_six_0 rfl (lv_at hl 0 rfl) ?_
  refine lv_bipush (v := 12) hx hb d_F_six_1 (by decide) ?_
  refine lv_iconst (v := 5) hx hb d_F_six_3 (by decide) ?_
  refine call_F_signed S inC m_331 ⟨(Nat.le_of_ble_eq_true rfl), (Nat.le_of_ble_eq_true rfl)⟩ hl.1 (Nat.le_of_ble_eq_true rfl) d_F_six_4 ⟨(Nat.le_of_ble_eq_true rfl), (Nat.le_of_ble_eq_true rfl)⟩ ?_
  refine lv_iload_n hx hb d_F_six_7 rfl (lv_at hl 0 rfl) ?_
  refine lv_iconst (v := 2) hx hb d_F_six_8 (by decide) ?_
  refine lv_iconst (v := 5) hx hb d_F_six_9 (by decide) ?_
  refine lv_iconst (v := 0) hx hb d_F_six_10 (by decide) ?_
  refine call_F_part S inC m_303 ⟨(Nat.le_of_ble_eq_true rfl), (Nat.le_of_ble_eq_true rfl)⟩ hl.1 (Nat.le_of_ble_eq_true rfl) d_F_six_11 ⟨(Nat.le_of_ble_eq_true rfl), (Nat.le_of_ble_eq_true rfl)⟩ ?_
  refine lv_ior hx hb d_F_six_14 ?_
  exact W.iret (v := (f_F_signed x0 12 5) ||| (f_F_part x0 2 5 0)) hx hb hr (fun t ht hW => ⟨(f_F_signed x0 12 5) ||| (f_F_part x0 2 5 0), rfl, rfl, ht⟩) (fun _ h => by cases h) d_F_six_15
theorem call_F_six {p : Program} {l : Launch} {e : Env} {R : Room} {s : State} {m : MethodId} {args : Array Value} {below : List Frame} {meth : Method} {c : Code} {H : Heap} {locs : List Loc} {cells slots : Nat} {Q : State → Prop} {cc : ByteArray} {pc nL idx : Nat} {ls : Array Slot} {rest : List Value} {Ts : List Cond} {own : String} {x0 : Int32} (S : CallFix p m c cc nL s args Ts own) (hTs : ∀ w ∈ WT, w ∈ Ts) (h1 : Cond.methodLink own idx y_F_six ∈ WT) (hR : 1 + 1 ≤ R.frames ∧ 8 + (1 + 11) + 23 ≤ R.locals) (hsz : ls.size = nL) (hrm : (rest.map fun v => v.category).sum ≤ 8) (hdg : decode cc pc = .ok (.invokestatic idx, 3)) (hc : cells ≤ R.cells ∧ slots ≤ R.slots) (kk : W p l e R s m args below meth c H locs cells slots Q (F0 m (pc + 3) ls (.int (f_F_six x0) :: rest))) : W p l e R s m args below meth c H locs cells slots Q (F0 m pc ls (.int x0 :: rest)) :=
  vp_callSi (va_Run.run (va_runS (As := [.int x0]) (rest := rest) S (c_F_six l x0) (va_cwS 1 S.2.2.2.2 (gS hTs h1 m_329 m_56 m_330) rfl rfl rfl (by decide +kernel) hR) ⟨fun a U g mk q => q, fun U hU hW => ⟨rfl, trivial⟩⟩ rfl rfl hsz rfl (lv_room hrm) hdg hc)) (fun r e => by subst e; exact kk)

def f_F_times4 (x0 : Int32) : Int32 :=
  (((f_F_part x0 11 2 4) ||| (f_F_part x0 7 4 6)) ||| (f_F_part x0 6 1 2)) ||| (f_F_part x0 5 1 3)
set_option maxRecDepth 100000 in
set_option maxHeartbeats 4000000 in
theorem c_F_times4 (l : Launch) (x0 : Int32) : Met l y_F_times4 (Cond.code y_F_times4 b_F_times4 1 (some .int) :: WT) ({ frames := 1, cells := 0, slots := 0, locals := 23 }) (va_Pc [.int x0] (fun _ => True)) (vp_Si (fun r => r = f_F_times4 x0)) 0 0 no := by
  refine va_MetF (cc := b_F_times4) (maxL := 1) (ret := (some .int)) (by decide +kernel) rfl ?_
  intro p e s m args below meth c s₁ B hml hv
  obtain ⟨rfl, -⟩ := hv
  have hx := B.exec
  have hb := B.bytes
  have hr := B.returns
  have hts := atoms_spec (ws := (Cond.code y_F_times4 b_F_times4 1 (some .int) :: WT)) B.pre
  have hT : ∀ w ∈ WT, w.before _ s = true := fun w h => hts w (inC w h)
  have hown : s.vm.findClass R_F = some m.cls := findClass_of_methodNamed B.named
  have hlocks := B.notSynchronized
  have hS : va_S no s.heap s.heap [] := va_S.rf
  have S : CallFix p m c b_F_times4 1 s _ (Cond.code y_F_times4 b_F_times4 1 (some .int) :: WT) R_F := ⟨hx, hb, hml, hown, hts⟩
  have hl := lv_entry ([.int x0]) (n := 1) (Nat.le_of_ble_eq_true rfl)
  rw [lg_entry_eq]
  generalize (lg_sl ([.int x0]) ++ List.replicate (1 - (lg_sl ([.int x0])).length) Slot.unset).toArray = ls at hl ⊢
  have hl : lv_has ls 1 [(0, .int x0)] := hl
  refine lv_iload_n hx hb d_F_times4_0 rfl (lv_at hl 0 rfl) ?_
  refine lv_bipush (v := 11) hx hb d_F_times4_1 (by decide) ?_
  refine lv_iconst (v := 2) hx hb d_F_times4_3 (by decide) ?_
  refine lv_iconst (v := 4) hx hb d_F_times4_4 (by decide) ?_
  refine call_F_part S inC m_303 ⟨(Nat.le_of_ble_eq_true rfl), (Nat.le_of_ble_eq_true rfl)⟩ hl.1 (Nat.le_of_ble_eq_true rfl) d_F_times4_5 ⟨(Nat.le_of_ble_eq_true rfl), (Nat.le_of_ble_eq_true rfl)⟩ ?_
  refine lv_iload_n hx hb d_F_times4_8 rfl (lv_at hl 0 rfl) ?_
  refine lv_bipush (v := 7) hx hb d_F_times4_9 (by decide) ?_
  refine lv_iconst (v := 4) hx hb d_F_times4_11 (by decide) ?_
  refine lv_bipush (v := 6) hx hb d_F_times4_12 (by decide) ?_
  refine call_F_part S inC m_303 ⟨(Nat.le_of_ble_eq_true rfl), (Nat.le_of_ble_eq_true rfl)⟩ hl.1 (Nat.le_of_ble_eq_true rfl) d_F_times4_14 ⟨(Nat.le_of_ble_eq_true rfl), (Nat.le_of_ble_eq_true rfl)⟩ ?_
  refine lv_ior hx hb d_F_times4_17 ?_
  refine lv_iload_n hx hb d_F_times4_18 rfl (lv_at hl 0 rfl) ?_
  refine lv_bipush (v := 6) hx hb d_F_times4_19 (by decide) ?_
  refine lv_iconst (v := 1) hx hb d_F_times4_21 (by decide) ?_
  refine lv_iconst (v := 2) hx hb d_F_times4_22 (by decide) ?_
  refine call_F_part S inC m_303 ⟨(Nat.le_of_ble_eq_true rfl), (Nat.le_of_ble_eq_true rfl)⟩ hl.1 (Nat.le_of_ble_eq_true rfl) d_F_times4_23 ⟨(Nat.le_of_ble_eq_true rfl), (Nat.le_of_ble_eq_true rfl)⟩ ?_
  refine lv_ior hx hb d_F_times4_26 ?_
  refine lv_iload_n hx hb d_F_times4_27 rfl (lv_at hl 0 rfl) ?_
  refine lv_iconst (v := 5) hx hb d_F_times4_28 (by decide) ?_
  refine lv_iconst (v := 1) hx hb d_F_times4_29 (by decide) ?_
  refine lv_iconst (v := 3) hx hb d_F_times4_30 (by decide) ?_
  refine call_F_part S inC m_303 ⟨(Nat.le_of_ble_eq_true rfl), (Nat.le_of_ble_eq_true rfl)⟩ hl.1 (Nat.le_of_ble_eq_true rfl) d_F_times4_31 ⟨(Nat.le_of_ble_eq_true rfl), (Nat.le_of_ble_eq_true rfl)⟩ ?_
  refine lv_ior hx hb d_F_times4_34 ?_
  exact W.iret (v := (((f_F_part x0 11 2 4) ||| (f_F_part x0 7 4 6)) ||| (f_F_part x0 6 1 2)) ||| (f_F_part x0 5 1 3)) hx hb hr (fun t ht hW => ⟨(((f_F_part x0 11 2 4) ||| (f_F_part x0 7 4 6)) ||| (f_F_part x0 6 1 2)) ||| (f_F_part x0 5 1 3), rfl, rfl, ht⟩) (fun _ h => by cases h) d_F_times4_35
theorem call_F_times4 {p : Program} {l : Launch} {e : Env} {R : Room} {s : State} {m : MethodId} {args : Array Value} {below : List Frame} {meth : Method} {c : Code} {H : Heap} {locs : List Loc} {cells slots : Nat} {Q : State → Prop} {cc : ByteArray} {pc nL idx : Nat} {ls : Array Slot} {rest : List Value} {Ts : List Cond} {own : String} {x0 : Int32} (S : CallFix p m c cc nL s args Ts own) (hTs : ∀ w ∈ WT, w ∈ Ts) (h1 : Cond.methodLink own idx y_F_times4 ∈ WT) (hR : 1 + 1 ≤ R.frames ∧ 8 + (1 + 11) + 23 ≤ R.locals) (hsz : ls.size = nL) (hrm : (rest.map fun v => v.category).sum ≤ 8) (hdg : decode cc pc = .ok (.invokestatic idx, 3)) (hc : cells ≤ R.cells ∧ slots ≤ R.slots) (kk : W p l e R s m args below meth c H locs cells slots Q (F0 m (pc + 3) ls (.int (f_F_times4 x0) :: rest))) : W p l e R s m args below meth c H locs cells slots Q (F0 m pc ls (.int x0 :: rest)) :=
  vp_callSi (va_Run.run (va_runS (As := [.int x0]) (rest := rest) S (c_F_times4 l x0) (va_cwS 1 S.2.2.2.2 (gS hTs h1 m_301 m_56 m_302) rfl rfl rfl (by decide +kernel) hR) ⟨fun a U g mk q => q, fun U hU hW => ⟨rfl, trivial⟩⟩ rfl rfl hsz rfl (lv_room hrm) hdg hc)) (fun r e => by subst e; exact kk)

def f_F_times16 (x0 : Int32) : Int32 :=
  ((((f_F_signed x0 12 9) ||| (f_F_part x0 6 1 4)) ||| (f_F_part x0 5 1 6)) ||| (f_F_part x0 3 2 7)) ||| (f_F_part x0 2 1 5)
set_option maxRecDepth 100000 in
set_option maxHeartbeats 4000000 in
theorem c_F_times16 (l : Launch) (x0 : Int32) : Met l y_F_times16 (Cond.code y_F_times16 b_F_times16 1 (some .int) :: WT) ({ frames := 1, cells := 0, slots := 0, locals := 23 }) (va_Pc [.int x0] (fun _ => True)) (vp_Si (fun r => r = f_F_times16 x0)) 0 0 no := by
  refine va_MetF (cc := b_F_times16) (maxL := 1) (ret := (some .int)) (by decide +kernel) rfl ?_
  intro p e s m args below meth c s₁ B hml hv
  obtain ⟨rfl, -⟩ := hv
  have hx := B.exec
  have hb := B.bytes
  have hr := B.returns
  have hts := atoms_spec (ws := (Cond.code y_F_times16 b_F_times16 1 (some .int) :: WT)) B.pre
  have hT : ∀ w ∈ WT, w.before _ s = true := fun w h => hts w (inC w h)
  have hown : s.vm.findClass R_F = some m.cls := findClass_of_methodNamed B.named
  have hlocks := B.notSynchronized
  have hS : va_S no s.heap s.heap [] := va_S.rf
  have S : CallFix p m c b_F_times16 1 s _ (Cond.code y_F_times16 b_F_times16 1 (some .int) :: WT) R_F := ⟨hx, hb, hml, hown, hts⟩
  have hl := lv_entry ([.int x0]) (n := 1) (Nat.le_of_ble_eq_true rfl)
  rw [lg_entry_eq]
  generalize (lg_sl ([.int x0]) ++ List.replicate (1 - (lg_sl ([.int x0])).length) Slot.unset).toArray = ls at hl ⊢
  have hl : lv_has ls 1 [(0, .int x0)] := hl
  refine lv_iload_n hx hb d_F_times16_0 rfl (lv_at hl 0 rfl) ?_
  refine lv_bipush (v := 12) hx hb d_F_times16_1 (by decide) ?_
  refine lv_bipush (v := 9) hx hb d_F_times16_3 (by decide) ?_
  refine call_F_signed S inC m_331 ⟨(Nat.le_of_ble_eq_true rfl), (Nat.le_of_ble_eq_true rfl)⟩ hl.1 (Nat.le_of_ble_eq_true rfl) d_F_times16_5 ⟨(Nat.le_of_ble_eq_true rfl), (Nat.le_of_ble_eq_true rfl)⟩ ?_
  refine lv_iload_n hx hb d_F_times16_8 rfl (lv_at hl 0 rfl) ?_
  refine lv_bipush (v := 6) hx hb d_F_times16_9 (by decide) ?_
  refine lv_iconst (v := 1) hx hb d_F_times16_11 (by decide) ?_
  refine lv_iconst (v := 4) hx hb d_F_times16_12 (by decide) ?_
  refine call_F_part S inC m_303 ⟨(Nat.le_of_ble_eq_true rfl), (Nat.le_of_ble_eq_true rfl)⟩ hl.1 (Nat.le_of_ble_eq_true rfl) d_F_times16_13 ⟨(Nat.le_of_ble_eq_true rfl), (Nat.le_of_ble_eq_true rfl)⟩ ?_
  refine lv_ior hx hb d_F_times16_16 ?_
  refine lv_iload_n hx hb d_F_times16_17 rfl (lv_at hl 0 rfl) ?_
  refine lv_iconst (v := 5) hx hb d_F_times16_18 (by decide) ?_
  refine lv_iconst (v := 1) hx hb d_F_times16_19 (by decide) ?_
  refine lv_bipush (v := 6) hx hb d_F_times16_20 (by decide) ?_
  refine call_F_part S inC m_303 ⟨(Nat.le_of_ble_eq_true rfl), (Nat.le_of_ble_eq_true rfl)⟩ hl.1 (Nat.le_of_ble_eq_true rfl) d_F_times16_22 ⟨(Nat.le_of_ble_eq_true rfl), (Nat.le_of_ble_eq_true rfl)⟩ ?_
  refine lv_ior hx hb d_F_times16_25 ?_
  refine lv_iload_n hx hb d_F_times16_26 rfl (lv_at hl 0 rfl) ?_
  refine lv_iconst (v := 3) hx hb d_F_times16_27 (by decide) ?_
  refine lv_iconst (v := 2) hx hb d_F_times16_28 (by decide) ?_
  refine lv_bipush (v := 7) hx hb d_F_times16_29 (by decide) ?_
  refine call_F_part S inC m_303 ⟨(Nat.le_of_ble_eq_true rfl), (Nat.le_of_ble_eq_true rfl)⟩ hl.1 (Nat.le_of_ble_eq_true rfl) d_F_times16_31 ⟨(Nat.le_of_ble_eq_true rfl), (Nat.le_of_ble_eq_true rfl)⟩ ?_
  refine lv_ior hx hb d_F_times16_34 ?_
  refine lv_iload_n hx hb d_F_times16_35 rfl (lv_at hl 0 rfl) ?_
  refine lv_iconst (v := 2) hx hb d_F_times16_36 (by decide) ?_
  refine lv_iconst (v := 1) hx hb d_F_times16_37 (by decide) ?_
  refine lv_iconst (v := 5) hx hb d_F_times16_38 (by decide) ?_
  refine call_F_part S inC m_303 ⟨(Nat.le_of_ble_eq_true rfl), (Nat.le_of_ble_eq_true rfl)⟩ hl.1 (Nat.le_of_ble_eq_true rfl) d_F_times16_39 ⟨(Nat.le_of_ble_eq_true rfl), (Nat.le_of_ble_eq_true rfl)⟩ ?_
  refine lv_ior hx hb d_F_times16_42 ?_
  exact W.iret (v := ((((f_F_signed x0 12 9) ||| (f_F_part x0 6 1 4)) ||| (f_F_part x0 5 1 6)) ||| (f_F_part x0 3 2 7)) ||| (f_F_part x0 2 1 5)) hx hb hr (fun t ht hW => ⟨((((f_F_signed x0 12 9) ||| (f_F_part x0 6 1 4)) ||| (f_F_part x0 5 1 6)) ||| (f_F_part x0 3 2 7)) ||| (f_F_part x0 2 1 5), rfl, rfl, ht⟩) (fun _ h => by cases h) d_F_times16_43
theorem call_F_times16 {p : Program} {l : Launch} {e : Env} {R : Room} {s : State} {m : MethodId} {args : Array Value} {below : List Frame} {meth : Method} {c : Code} {H : Heap} {locs : List Loc} {cells slots : Nat} {Q : State → Prop} {cc : ByteArray} {pc nL idx : Nat} {ls : Array Slot} {rest : List Value} {Ts : List Cond} {own : String} {x0 : Int32} (S : CallFix p m c cc nL s args Ts own) (hTs : ∀ w ∈ WT, w ∈ Ts) (h1 : Cond.methodLink own idx y_F_times16 ∈ WT) (hR : 1 + 1 ≤ R.frames ∧ 8 + (1 + 11) + 23 ≤ R.locals) (hsz : ls.size = nL) (hrm : (rest.map fun v => v.category).sum ≤ 8) (hdg : decode cc pc = .ok (.invokestatic idx, 3)) (hc : cells ≤ R.cells ∧ slots ≤ R.slots) (kk : W p l e R s m args below meth c H locs cells slots Q (F0 m (pc + 3) ls (.int (f_F_times16 x0) :: rest))) : W p l e R s m args below meth c H locs cells slots Q (F0 m pc ls (.int x0 :: rest)) :=
  vp_callSi (va_Run.run (va_runS (As := [.int x0]) (rest := rest) S (c_F_times16 l x0) (va_cwS 1 S.2.2.2.2 (gS hTs h1 m_532 m_56 m_533) rfl rfl rfl (by decide +kernel) hR) ⟨fun a U g mk q => q, fun U hU hW => ⟨rfl, trivial⟩⟩ rfl rfl hsz rfl (lv_room hrm) hdg hc)) (fun r e => by subst e; exact kk)

def f_F_shortWord (x0 : Int32) : Int32 :=
  ((f_F_part x0 10 3 3) ||| (f_F_part x0 6 1 2)) ||| (f_F_part x0 5 1 6)
set_option maxRecDepth 100000 in
set_option maxHeartbeats 4000000 in
theorem c_F_shortWord (l : Launch) (x0 : Int32) : Met l y_F_shortWord (Cond.code y_F_shortWord b_F_shortWord 1 (some .int) :: WT) ({ frames := 1, cells := 0, slots := 0, locals := 23 }) (va_Pc [.int x0] (fun _ => True)) (vp_Si (fun r => r = f_F_shortWord x0)) 0 0 no := by
  refine va_MetF (cc := b_F_shortWord) (maxL := 1) (ret := (some .int)) (by decide +kernel) rfl ?_
  intro p e s m args below meth c s₁ B hml hv
  obtain ⟨rfl, -⟩ := hv
  have hx := B.exec
  have hb := B.bytes
  have hr := B.returns
  have hts := atoms_spec (ws := (Cond.code y_F_shortWord b_F_shortWord 1 (some .int) :: WT)) B.pre
  have hT : ∀ w ∈ WT, w.before _ s = true := fun w h => hts w (inC w h)
  have hown : s.vm.findClass R_F = some m.cls := findClass_of_methodNamed B.named
  have hlocks := B.notSynchronized
  have hS : va_S no s.heap s.heap [] := va_S.rf
  have S : CallFix p m c b_F_shortWord 1 s _ (Cond.code y_F_shortWord b_F_shortWord 1 (some .int) :: WT) R_F := ⟨hx, hb, hml, hown, hts⟩
  have hl := lv_entry ([.int x0]) (n := 1) (Nat.le_of_ble_eq_true rfl)
  rw [lg_entry_eq]
  generalize (lg_sl ([.int x0]) ++ List.replicate (1 - (lg_sl ([.int x0])).length) Slot.unset).toArray = ls at hl ⊢
  have hl : lv_has ls 1 [(0, .int x0)] := hl
  refine lv_iload_n hx hb d_F_shortWord_0 rfl (lv_at hl 0 rfl) ?_
  refine lv_bipush (v := 10) hx hb d_F_shortWord_1 (by decide) ?_
  refine lv_iconst (v := 3) hx hb d_F_shortWord_3 (by decide) ?_
  refine lv_iconst (v := 3) hx hb d_F_shortWord_4 (by decide) ?_
  refine call_F_part S inC m_303 ⟨(Nat.le_of_ble_eq_true rfl), (Nat.le_of_ble_eq_true rfl)⟩ hl.1 (Nat.le_of_ble_eq_true rfl) d_F_shortWord_5 ⟨(Nat.le_of_ble_eq_true rfl), (Nat.le_of_ble_eq_true rfl)⟩ ?_
  refine lv_iload_n hx hb d_F_shortWord_8 rfl (lv_at hl 0 rfl) ?_
  refine lv_bipush (v := 6) hx hb d_F_shortWord_9 (by decide) ?_
  refine lv_iconst (v := 1) hx hb d_F_shortWord_11 (by decide) ?_
  refine lv_iconst (v := 2) hx hb d_F_shortWord_12 (by decide) ?_
  refine call_F_part S inC m_303 ⟨(Nat.le_of_ble_eq_true rfl), (Nat.le_of_ble_eq_true rfl)⟩ hl.1 (Nat.le_of_ble_eq_true rfl) d_F_shortWord_13 ⟨(Nat.le_of_ble_eq_true rfl), (Nat.le_of_ble_eq_true rfl)⟩ ?_
  refine lv_ior hx hb d_F_shortWord_16 ?_
  refine lv_iload_n hx hb d_F_shortWord_17 rfl (lv_at hl 0 rfl) ?_
  refine lv_iconst (v := 5) hx hb d_F_shortWord_18 (by decide) ?_
  refine lv_iconst (v := 1) hx hb d_F_shortWord_19 (by decide) ?_
  refine lv_bipush (v := 6) hx hb d_F_shortWord_20 (by decide) ?_
  refine call_F_part S inC m_303 ⟨(Nat.le_of_ble_eq_true rfl), (Nat.le_of_ble_eq_true rfl)⟩ hl.1 (Nat.le_of_ble_eq_true rfl) d_F_shortWord_22 ⟨(Nat.le_of_ble_eq_true rfl), (Nat.le_of_ble_eq_true rfl)⟩ ?_
  refine lv_ior hx hb d_F_shortWord_25 ?_
  exact W.iret (v := ((f_F_part x0 10 3 3) ||| (f_F_part x0 6 1 2)) ||| (f_F_part x0 5 1 6)) hx hb hr (fun t ht hW => ⟨((f_F_part x0 10 3 3) ||| (f_F_part x0 6 1 2)) ||| (f_F_part x0 5 1 6), rfl, rfl, ht⟩) (fun _ h => by cases h) d_F_shortWord_26
theorem call_F_shortWord {p : Program} {l : Launch} {e : Env} {R : Room} {s : State} {m : MethodId} {args : Array Value} {below : List Frame} {meth : Method} {c : Code} {H : Heap} {locs : List Loc} {cells slots : Nat} {Q : State → Prop} {cc : ByteArray} {pc nL idx : Nat} {ls : Array Slot} {rest : List Value} {Ts : List Cond} {own : String} {x0 : Int32} (S : CallFix p m c cc nL s args Ts own) (hTs : ∀ w ∈ WT, w ∈ Ts) (h1 : Cond.methodLink own idx y_F_shortWord ∈ WT) (hR : 1 + 1 ≤ R.frames ∧ 8 + (1 + 11) + 23 ≤ R.locals) (hsz : ls.size = nL) (hrm : (rest.map fun v => v.category).sum ≤ 8) (hdg : decode cc pc = .ok (.invokestatic idx, 3)) (hc : cells ≤ R.cells ∧ slots ≤ R.slots) (kk : W p l e R s m args below meth c H locs cells slots Q (F0 m (pc + 3) ls (.int (f_F_shortWord x0) :: rest))) : W p l e R s m args below meth c H locs cells slots Q (F0 m pc ls (.int x0 :: rest)) :=
  vp_callSi (va_Run.run (va_runS (As := [.int x0]) (rest := rest) S (c_F_shortWord l x0) (va_cwS 1 S.2.2.2.2 (gS hTs h1 m_535 m_56 m_536) rfl rfl rfl (by decide +kernel) hR) ⟨fun a U g mk q => q, fun U hU hW => ⟨rfl, trivial⟩⟩ rfl rfl hsz rfl (lv_room hrm) hdg hc)) (fun r e => by subst e; exact kk)

def f_F_stackLoad (x0 : Int32) : Int32 :=
  ((f_F_part x0 12 1 5) ||| (f_F_part x0 4 3 2)) ||| (f_F_part x0 2 2 6)
set_option maxRecDepth 100000 in
set_option maxHeartbeats 4000000 in
theorem c_F_stackLoad (l : Launch) (x0 : Int32) : Met l y_F_stackLoad (Cond.code y_F_stackLoad b_F_stackLoad 1 (some .int) :: WT) ({ frames := 1, cells := 0, slots := 0, locals := 23 }) (va_Pc [.int x0] (fun _ => True)) (vp_Si (fun r => r = f_F_stackLoad x0)) 0 0 no := by
  refine va_MetF (cc := b_F_stackLoad) (maxL := 1) (ret := (some .int)) (by decide +kernel) rfl ?_
  intro p e s m args below meth c s₁ B hml hv
  obtain ⟨rfl, -⟩ := hv
  have hx := B.exec
  have hb := B.bytes
  have hr := B.returns
  have hts := atoms_spec (ws := (Cond.code y_F_stackLoad b_F_stackLoad 1 (some .int) :: WT)) B.pre
  have hT : ∀ w ∈ WT, w.before _ s = true := fun w h => hts w (inC w h)
  have hown : s.vm.findClass R_F = some m.cls := findClass_of_methodNamed B.named
  have hlocks := B.notSynchronized
  have hS : va_S no s.heap s.heap [] := va_S.rf
  have S : CallFix p m c b_F_stackLoad 1 s _ (Cond.code y_F_stackLoad b_F_stackLoad 1 (some .int) :: WT) R_F := ⟨hx, hb, hml, hown, hts⟩
  have hl := lv_entry ([.int x0]) (n := 1) (Nat.le_of_ble_eq_true rfl)
  rw [lg_entry_eq]
  generalize (lg_sl ([.int x0]) ++ List.replicate (1 - (lg_sl ([.int x0])).length) Slot.unset).toArray = ls at hl ⊢
  have hl : lv_has ls 1 [(0, .int x0)] := hl
  refine lv_iload_n hx hb d_F_stackLoad_0 rfl (lv_at hl 0 rfl) ?_
  refine lv_bipush (v := 12) hx hb d_F_stackLoad_1 (by decide) ?_
  refine lv_iconst (v := 1) hx hb d_F_stackLoad_3 (by decide) ?_
  refine lv_iconst (v := 5) hx hb d_F_stackLoad_4 (by decide) ?_
  refine call_F_part S inC m_303 ⟨(Nat.le_of_ble_eq_true rfl), (Nat.le_of_ble_eq_true rfl)⟩ hl.1 (Nat.le_of_ble_eq_true rfl) d_F_stackLoad_5 ⟨(Nat.le_of_ble_eq_true rfl), (Nat.le_of_ble_eq_true rfl)⟩ ?_
  refine lv_iload_n hx hb d_F_stackLoad_8 rfl (lv_at hl 0 rfl) ?_
  refine lv_iconst (v := 4) hx hb d_F_stackLoad_9 (by decide) ?_
  refine lv_iconst (v := 3) hx hb d_F_stackLoad_10 (by decide) ?_
  refine lv_iconst (v := 2) hx hb d_F_stackLoad_11 (by decide) ?_
  refine call_F_part S inC m_303 ⟨(Nat.le_of_ble_eq_true rfl), (Nat.le_of_ble_eq_true rfl)⟩ hl.1 (Nat.le_of_ble_eq_true rfl) d_F_stackLoad_12 ⟨(Nat.le_of_ble_eq_true rfl), (Nat.le_of_ble_eq_true rfl)⟩ ?_
  refine lv_ior hx hb d_F_stackLoad_15 ?_
  refine lv_iload_n hx hb d_F_stackLoad_16 rfl (lv_at hl 0 rfl) ?_
  refine lv_iconst (v := 2) hx hb d_F_stackLoad_17 (by decide) ?_
  refine lv_iconst (v := 2) hx hb d_F_stackLoad_18 (by decide) ?_
  refine lv_bipush (v := 6) hx hb d_F_stackLoad_19 (by decide) ?_
  refine call_F_part S inC m_303 ⟨(Nat.le_of_ble_eq_true rfl), (Nat.le_of_ble_eq_true rfl)⟩ hl.1 (Nat.le_of_ble_eq_true rfl) d_F_stackLoad_21 ⟨(Nat.le_of_ble_eq_true rfl), (Nat.le_of_ble_eq_true rfl)⟩ ?_
  refine lv_ior hx hb d_F_stackLoad_24 ?_
  exact W.iret (v := ((f_F_part x0 12 1 5) ||| (f_F_part x0 4 3 2)) ||| (f_F_part x0 2 2 6)) hx hb hr (fun t ht hW => ⟨((f_F_part x0 12 1 5) ||| (f_F_part x0 4 3 2)) ||| (f_F_part x0 2 2 6), rfl, rfl, ht⟩) (fun _ h => by cases h) d_F_stackLoad_25
theorem call_F_stackLoad {p : Program} {l : Launch} {e : Env} {R : Room} {s : State} {m : MethodId} {args : Array Value} {below : List Frame} {meth : Method} {c : Code} {H : Heap} {locs : List Loc} {cells slots : Nat} {Q : State → Prop} {cc : ByteArray} {pc nL idx : Nat} {ls : Array Slot} {rest : List Value} {Ts : List Cond} {own : String} {x0 : Int32} (S : CallFix p m c cc nL s args Ts own) (hTs : ∀ w ∈ WT, w ∈ Ts) (h1 : Cond.methodLink own idx y_F_stackLoad ∈ WT) (hR : 1 + 1 ≤ R.frames ∧ 8 + (1 + 11) + 23 ≤ R.locals) (hsz : ls.size = nL) (hrm : (rest.map fun v => v.category).sum ≤ 8) (hdg : decode cc pc = .ok (.invokestatic idx, 3)) (hc : cells ≤ R.cells ∧ slots ≤ R.slots) (kk : W p l e R s m args below meth c H locs cells slots Q (F0 m (pc + 3) ls (.int (f_F_stackLoad x0) :: rest))) : W p l e R s m args below meth c H locs cells slots Q (F0 m pc ls (.int x0 :: rest)) :=
  vp_callSi (va_Run.run (va_runS (As := [.int x0]) (rest := rest) S (c_F_stackLoad l x0) (va_cwS 1 S.2.2.2.2 (gS hTs h1 m_538 m_56 m_539) rfl rfl rfl (by decide +kernel) hR) ⟨fun a U g mk q => q, fun U hU hW => ⟨rfl, trivial⟩⟩ rfl rfl hsz rfl (lv_room hrm) hdg hc)) (fun r e => by subst e; exact kk)

def f_F_stackStore (x0 : Int32) : Int32 :=
  (f_F_part x0 9 4 2) ||| (f_F_part x0 7 2 6)
set_option maxRecDepth 100000 in
set_option maxHeartbeats 4000000 in
theorem c_F_stackStore (l : Launch) (x0 : Int32) : Met l y_F_stackStore (Cond.code y_F_stackStore b_F_stackStore 1 (some .int) :: WT) ({ frames := 1, cells := 0, slots := 0, locals := 23 }) (va_Pc [.int x0] (fun _ => True)) (vp_Si (fun r => r = f_F_stackStore x0)) 0 0 no := by
  refine va_MetF (cc := b_F_stackStore) (maxL := 1) (ret := (some .int)) (by decide +kernel) rfl ?_
  intro p e s m args below meth c s₁ B hml hv
  obtain ⟨rfl, -⟩ := hv
  have hx := B.exec
  have hb := B.bytes
  have hr := B.returns
  have hts := atoms_spec (ws := (Cond.code y_F_stackStore b_F_stackStore 1 (some .int) :: WT)) B.pre
  have hT : ∀ w ∈ WT, w.before _ s = true := fun w h => hts w (inC w h)
  have hown : s.vm.findClass R_F = some m.cls := findClass_of_methodNamed B.named
  have hlocks := B.notSynchronized
  have hS : va_S no s.heap s.heap [] := va_S.rf
  have S : CallFix p m c b_F_stackStore 1 s _ (Cond.code y_F_stackStore b_F_stackStore 1 (some .int) :: WT) R_F := ⟨hx, hb, hml, hown, hts⟩
  have hl := lv_entry ([.int x0]) (n := 1) (Nat.le_of_ble_eq_true rfl)
  rw [lg_entry_eq]
  generalize (lg_sl ([.int x0]) ++ List.replicate (1 - (lg_sl ([.int x0])).length) Slot.unset).toArray = ls at hl ⊢
  have hl : lv_has ls 1 [(0, .int x0)] := hl
  refine lv_iload_n hx hb d_F_stackStore_0 rfl (lv_at hl 0 rfl) ?_
  refine lv_bipush (v := 9) hx hb d_F_stackStore_1 (by decide) ?_
  refine lv_iconst (v := 4) hx hb d_F_stackStore_3 (by decide) ?_
  refine lv_iconst (v := 2) hx hb d_F_stackStore_4 (by decide) ?_
  refine call_F_part S inC m_303 ⟨(Nat.le_of_ble_eq_true rfl), (Nat.le_of_ble_eq_true rfl)⟩ hl.1 (Nat.le_of_ble_eq_true rfl) d_F_stackStore_5 ⟨(Nat.le_of_ble_eq_true rfl), (Nat.le_of_ble_eq_true rfl)⟩ ?_
  refine lv_iload_n hx hb d_F_stackStore_8 rfl (lv_at hl 0 rfl) ?_
  refine lv_bipush (v := 7) hx hb d_F_stackStore_9 (by decide) ?_
  refine lv_iconst (v := 2) hx hb d_F_stackStore_11 (by decide) ?_
  refine lv_bipush (v := 6) hx hb d_F_stackStore_12 (by decide) ?_
  refine call_F_part S inC m_303 ⟨(Nat.le_of_ble_eq_true rfl), (Nat.le_of_ble_eq_true rfl)⟩ hl.1 (Nat.le_of_ble_eq_true rfl) d_F_stackStore_14 ⟨(Nat.le_of_ble_eq_true rfl), (Nat.le_of_ble_eq_true rfl)⟩ ?_
  refine lv_ior hx hb d_F_stackStore_17 ?_
  exact W.iret (v := (f_F_part x0 9 4 2) ||| (f_F_part x0 7 2 6)) hx hb hr (fun t ht hW => ⟨(f_F_part x0 9 4 2) ||| (f_F_part x0 7 2 6), rfl, rfl, ht⟩) (fun _ h => by cases h) d_F_stackStore_18
theorem call_F_stackStore {p : Program} {l : Launch} {e : Env} {R : Room} {s : State} {m : MethodId} {args : Array Value} {below : List Frame} {meth : Method} {c : Code} {H : Heap} {locs : List Loc} {cells slots : Nat} {Q : State → Prop} {cc : ByteArray} {pc nL idx : Nat} {ls : Array Slot} {rest : List Value} {Ts : List Cond} {own : String} {x0 : Int32} (S : CallFix p m c cc nL s args Ts own) (hTs : ∀ w ∈ WT, w ∈ Ts) (h1 : Cond.methodLink own idx y_F_stackStore ∈ WT) (hR : 1 + 1 ≤ R.frames ∧ 8 + (1 + 11) + 23 ≤ R.locals) (hsz : ls.size = nL) (hrm : (rest.map fun v => v.category).sum ≤ 8) (hdg : decode cc pc = .ok (.invokestatic idx, 3)) (hc : cells ≤ R.cells ∧ slots ≤ R.slots) (kk : W p l e R s m args below meth c H locs cells slots Q (F0 m (pc + 3) ls (.int (f_F_stackStore x0) :: rest))) : W p l e R s m args below meth c H locs cells slots Q (F0 m pc ls (.int x0 :: rest)) :=
  vp_callSi (va_Run.run (va_runS (As := [.int x0]) (rest := rest) S (c_F_stackStore l x0) (va_cwS 1 S.2.2.2.2 (gS hTs h1 m_541 m_56 m_542) rfl rfl rfl (by decide +kernel) hR) ⟨fun a U g mk q => q, fun U hU hW => ⟨rfl, trivial⟩⟩ rfl rfl hsz rfl (lv_room hrm) hdg hc)) (fun r e => by subst e; exact kk)

def f_F_shortJump (x0 : Int32) : Int32 :=
  (((((((f_F_signed x0 12 11) ||| (f_F_part x0 11 1 4)) ||| (f_F_part x0 9 2 8)) ||| (f_F_part x0 8 1 10)) ||| (f_F_part x0 7 1 6)) ||| (f_F_part x0 6 1 7)) ||| (f_F_part x0 3 3 1)) ||| (f_F_part x0 2 1 5)
set_option maxRecDepth 100000 in
set_option maxHeartbeats 4000000 in
theorem c_F_shortJump (l : Launch) (x0 : Int32) : Met l y_F_shortJump (Cond.code y_F_shortJump b_F_shortJump 1 (some .int) :: WT) ({ frames := 1, cells := 0, slots := 0, locals := 23 }) (va_Pc [.int x0] (fun _ => True)) (vp_Si (fun r => r = f_F_shortJump x0)) 0 0 no := by
  refine va_MetF (cc := b_F_shortJump) (maxL := 1) (ret := (some .int)) (by decide +kernel) rfl ?_
  intro p e s m args below meth c s₁ B hml hv
  obtain ⟨rfl, -⟩ := hv
  have hx := B.exec
  have hb := B.bytes
  have hr := B.returns
  have hts := atoms_spec (ws := (Cond.code y_F_shortJump b_F_shortJump 1 (some .int) :: WT)) B.pre
  have hT : ∀ w ∈ WT, w.before _ s = true := fun w h => hts w (inC w h)
  have hown : s.vm.findClass R_F = some m.cls := findClass_of_methodNamed B.named
  have hlocks := B.notSynchronized
  have hS : va_S no s.heap s.heap [] := va_S.rf
  have S : CallFix p m c b_F_shortJump 1 s _ (Cond.code y_F_shortJump b_F_shortJump 1 (some .int) :: WT) R_F := ⟨hx, hb, hml, hown, hts⟩
  have hl := lv_entry ([.int x0]) (n := 1) (Nat.le_of_ble_eq_true rfl)
  rw [lg_entry_eq]
  generalize (lg_sl ([.int x0]) ++ List.replicate (1 - (lg_sl ([.int x0])).length) Slot.unset).toArray = ls at hl ⊢
  have hl : lv_has ls 1 [(0, .int x0)] := hl
  refine lv_iload_n hx hb d_F_shortJump_0 rfl (lv_at hl 0 rfl) ?_
  refine lv_bipush (v := 12) hx hb d_F_shortJump_1 (by decide) ?_
  refine lv_bipush (v := 11) hx hb d_F_shortJump_3 (by decide) ?_
  refine call_F_signed S inC m_331 ⟨(Nat.le_of_ble_eq_true rfl), (Nat.le_of_ble_eq_true rfl)⟩ hl.1 (Nat.le_of_ble_eq_true rfl) d_F_shortJump_5 ⟨(Nat.le_of_ble_eq_true rfl), (Nat.le_of_ble_eq_true rfl)⟩ ?_
  refine lv_iload_n hx hb d_F_shortJump_8 rfl (lv_at hl 0 rfl) ?_
  refine lv_bipush (v := 11) hx hb d_F_shortJump_9 (by decide) ?_
  refine lv_iconst (v := 1) hx hb d_F_shortJump_11 (by decide) ?_
  refine lv_iconst (v := 4) hx hb d_F_shortJump_12 (by decide) ?_
  refine call_F_part S inC m_303 ⟨(Nat.le_of_ble_eq_true rfl), (Nat.le_of_ble_eq_true rfl)⟩ hl.1 (Nat.le_of_ble_eq_true rfl) d_F_shortJump_13 ⟨(Nat.le_of_ble_eq_true rfl), (Nat.le_of_ble_eq_true rfl)⟩ ?_
  refine lv_ior hx hb d_F_shortJump_16 ?_
  refine lv_iload_n hx hb d_F_shortJump_17 rfl (lv_at hl 0 rfl) ?_
  refine lv_bipush (v := 9) hx hb d_F_shortJump_18 (by decide) ?_
  refine lv_iconst (v := 2) hx hb d_F_shortJump_20 (by decide) ?_
  refine lv_bipush (v := 8) hx hb d_F_shortJump_21 (by decide) ?_
  refine call_F_part S inC m_303 ⟨(Nat.le_of_ble_eq_true rfl), (Nat.le_of_ble_eq_true rfl)⟩ hl.1 (Nat.le_of_ble_eq_true rfl) d_F_shortJump_23 ⟨(Nat.le_of_ble_eq_true rfl), (Nat.le_of_ble_eq_true rfl)⟩ ?_
  refine lv_ior hx hb d_F_shortJump_26 ?_
  refine lv_iload_n hx hb d_F_shortJump_27 rfl (lv_at hl 0 rfl) ?_
  refine lv_bipush (v := 8) hx hb d_F_shortJump_28 (by decide) ?_
  refine lv_iconst (v := 1) hx hb d_F_shortJump_30 (by decide) ?_
  refine lv_bipush (v := 10) hx hb d_F_shortJump_31 (by decide) ?_
  refine call_F_part S inC m_303 ⟨(Nat.le_of_ble_eq_true rfl), (Nat.le_of_ble_eq_true rfl)⟩ hl.1 (Nat.le_of_ble_eq_true rfl) d_F_shortJump_33 ⟨(Nat.le_of_ble_eq_true rfl), (Nat.le_of_ble_eq_true rfl)⟩ ?_
  refine lv_ior hx hb d_F_shortJump_36 ?_
  refine lv_iload_n hx hb d_F_shortJump_37 rfl (lv_at hl 0 rfl) ?_
  refine lv_bipush (v := 7) hx hb d_F_shortJump_38 (by decide) ?_
  refine lv_iconst (v := 1) hx hb d_F_shortJump_40 (by decide) ?_
  refine lv_bipush (v := 6) hx hb d_F_shortJump_41 (by decide) ?_
  refine call_F_part S inC m_303 ⟨(Nat.le_of_ble_eq_true rfl), (Nat.le_of_ble_eq_true rfl)⟩ hl.1 (Nat.le_of_ble_eq_true rfl) d_F_shortJump_43 ⟨(Nat.le_of_ble_eq_true rfl), (Nat.le_of_ble_eq_true rfl)⟩ ?_
  refine lv_ior hx hb d_F_shortJump_46 ?_
  refine lv_iload_n hx hb d_F_shortJump_47 rfl (lv_at hl 0 rfl) ?_
  refine lv_bipush (v := 6) hx hb d_F_shortJump_48 (by decide) ?_
  refine lv_iconst (v := 1) hx hb d_F_shortJump_50 (by decide) ?_
  refine lv_bipush (v := 7) hx hb d_F_shortJump_51 (by decide) ?_
  refine call_F_part S inC m_303 ⟨(Nat.le_of_ble_eq_true rfl), (Nat.le_of_ble_eq_true rfl)⟩ hl.1 (Nat.le_of_ble_eq_true rfl) d_F_shortJump_53 ⟨(Nat.le_of_ble_eq_true rfl), (Nat.le_of_ble_eq_true rfl)⟩ ?_
  refine lv_ior hx hb d_F_shortJump_56 ?_
  refine lv_iload_n hx hb d_F_shortJump_57 rfl (lv_at hl 0 rfl) ?_
  refine lv_iconst (v := 3) hx hb d_F_shortJump_58 (by decide) ?_
  refine lv_iconst (v := 3) hx hb d_F_shortJump_59 (by decide) ?_
  refine lv_iconst (v := 1) hx hb d_F_shortJump_60 (by decide) ?_
  refine call_F_part S inC m_303 ⟨(Nat.le_of_ble_eq_true rfl), (Nat.le_of_ble_eq_true rfl)⟩ hl.1 (Nat.le_of_ble_eq_true rfl) d_F_shortJump_61 ⟨(Nat.le_of_ble_eq_true rfl), (Nat.le_of_ble_eq_true rfl)⟩ ?_
  refine lv_ior hx hb d_F_shortJump_64 ?_
  refine lv_iload_n hx hb d_F_shortJump_65 rfl (lv_at hl 0 rfl) ?_
  refine lv_iconst (v := 2) hx hb d_F_shortJump_66 (by decide) ?_
  refine lv_iconst (v := 1) hx hb d_F_shortJump_67 (by decide) ?_
  refine lv_iconst (v := 5) hx hb d_F_shortJump_68 (by decide) ?_
  refine call_F_part S inC m_303 ⟨(Nat.le_of_ble_eq_true rfl), (Nat.le_of_ble_eq_true rfl)⟩ hl.1 (Nat.le_of_ble_eq_true rfl) d_F_shortJump_69 ⟨(Nat.le_of_ble_eq_true rfl), (Nat.le_of_ble_eq_true rfl)⟩ ?_
  refine lv_ior hx hb d_F_shortJump_72 ?_
  exact W.iret (v := (((((((f_F_signed x0 12 11) ||| (f_F_part x0 11 1 4)) ||| (f_F_part x0 9 2 8)) ||| (f_F_part x0 8 1 10)) ||| (f_F_part x0 7 1 6)) ||| (f_F_part x0 6 1 7)) ||| (f_F_part x0 3 3 1)) ||| (f_F_part x0 2 1 5)) hx hb hr (fun t ht hW => ⟨(((((((f_F_signed x0 12 11) ||| (f_F_part x0 11 1 4)) ||| (f_F_part x0 9 2 8)) ||| (f_F_part x0 8 1 10)) ||| (f_F_part x0 7 1 6)) ||| (f_F_part x0 6 1 7)) ||| (f_F_part x0 3 3 1)) ||| (f_F_part x0 2 1 5), rfl, rfl, ht⟩) (fun _ h => by cases h) d_F_shortJump_73
theorem call_F_shortJump {p : Program} {l : Launch} {e : Env} {R : Room} {s : State} {m : MethodId} {args : Array Value} {below : List Frame} {meth : Method} {c : Code} {H : Heap} {locs : List Loc} {cells slots : Nat} {Q : State → Prop} {cc : ByteArray} {pc nL idx : Nat} {ls : Array Slot} {rest : List Value} {Ts : List Cond} {own : String} {x0 : Int32} (S : CallFix p m c cc nL s args Ts own) (hTs : ∀ w ∈ WT, w ∈ Ts) (h1 : Cond.methodLink own idx y_F_shortJump ∈ WT) (hR : 1 + 1 ≤ R.frames ∧ 8 + (1 + 11) + 23 ≤ R.locals) (hsz : ls.size = nL) (hrm : (rest.map fun v => v.category).sum ≤ 8) (hdg : decode cc pc = .ok (.invokestatic idx, 3)) (hc : cells ≤ R.cells ∧ slots ≤ R.slots) (kk : W p l e R s m args below meth c H locs cells slots Q (F0 m (pc + 3) ls (.int (f_F_shortJump x0) :: rest))) : W p l e R s m args below meth c H locs cells slots Q (F0 m pc ls (.int x0 :: rest)) :=
  vp_callSi (va_Run.run (va_runS (As := [.int x0]) (rest := rest) S (c_F_shortJump l x0) (va_cwS 1 S.2.2.2.2 (gS hTs h1 m_554 m_56 m_555) rfl rfl rfl (by decide +kernel) hR) ⟨fun a U g mk q => q, fun U hU hW => ⟨rfl, trivial⟩⟩ rfl rfl hsz rfl (lv_room hrm) hdg hc)) (fun r e => by subst e; exact kk)

def f_F_shortBranch (x0 : Int32) : Int32 :=
  ((((f_F_signed x0 12 8) ||| (f_F_part x0 10 2 3)) ||| (f_F_part x0 5 2 6)) ||| (f_F_part x0 3 2 1)) ||| (f_F_part x0 2 1 5)
set_option maxRecDepth 100000 in
set_option maxHeartbeats 4000000 in
theorem c_F_shortBranch (l : Launch) (x0 : Int32) : Met l y_F_shortBranch (Cond.code y_F_shortBranch b_F_shortBranch 1 (some .int) :: WT) ({ frames := 1, cells := 0, slots := 0, locals := 23 }) (va_Pc [.int x0] (fun _ => True)) (vp_Si (fun r => r = f_F_shortBranch x0)) 0 0 no := by
  refine va_MetF (cc := b_F_shortBranch) (maxL := 1) (ret := (some .int)) (by decide +kernel) rfl ?_
  intro p e s m args below meth c s₁ B hml hv
  obtain ⟨rfl, -⟩ := hv
  have hx := B.exec
  have hb := B.bytes
  have hr := B.returns
  have hts := atoms_spec (ws := (Cond.code y_F_shortBranch b_F_shortBranch 1 (some .int) :: WT)) B.pre
  have hT : ∀ w ∈ WT, w.before _ s = true := fun w h => hts w (inC w h)
  have hown : s.vm.findClass R_F = some m.cls := findClass_of_methodNamed B.named
  have hlocks := B.notSynchronized
  have hS : va_S no s.heap s.heap [] := va_S.rf
  have S : CallFix p m c b_F_shortBranch 1 s _ (Cond.code y_F_shortBranch b_F_shortBranch 1 (some .int) :: WT) R_F := ⟨hx, hb, hml, hown, hts⟩
  have hl := lv_entry ([.int x0]) (n := 1) (Nat.le_of_ble_eq_true rfl)
  rw [lg_entry_eq]
  generalize (lg_sl ([.int x0]) ++ List.replicate (1 - (lg_sl ([.int x0])).length) Slot.unset).toArray = ls at hl ⊢
  have hl : lv_has ls 1 [(0, .int x0)] := hl
  refine lv_iload_n hx hb d_F_shortBranch_0 rfl (lv_at hl 0 rfl) ?_
  refine lv_bipush (v := 12) hx hb d_F_shortBranch_1 (by decide) ?_
  refine lv_bipush (v := 8) hx hb d_F_shortBranch_3 (by decide) ?_
  refine call_F_signed S inC m_331 ⟨(Nat.le_of_ble_eq_true rfl), (Nat.le_of_ble_eq_true rfl)⟩ hl.1 (Nat.le_of_ble_eq_true rfl) d_F_shortBranch_5 ⟨(Nat.le_of_ble_eq_true rfl), (Nat.le_of_ble_eq_true rfl)⟩ ?_
  refine lv_iload_n hx hb d_F_shortBranch_8 rfl (lv_at hl 0 rfl) ?_
  refine lv_bipush (v := 10) hx hb d_F_shortBranch_9 (by decide) ?_
  refine lv_iconst (v := 2) hx hb d_F_shortBranch_11 (by decide) ?_
  refine lv_iconst (v := 3) hx hb d_F_shortBranch_12 (by decide) ?_
  refine call_F_part S inC m_303 ⟨(Nat.le_of_ble_eq_true rfl), (Nat.le_of_ble_eq_true rfl)⟩ hl.1 (Nat.le_of_ble_eq_true rfl) d_F_shortBranch_13 ⟨(Nat.le_of_ble_eq_true rfl), (Nat.le_of_ble_eq_true rfl)⟩ ?_
  refine lv_ior hx hb d_F_shortBranch_16 ?_
  refine lv_iload_n hx hb d_F_shortBranch_17 rfl (lv_at hl 0 rfl) ?_
  refine lv_iconst (v := 5) hx hb d_F_shortBranch_18 (by decide) ?_
  refine lv_iconst (v := 2) hx hb d_F_shortBranch_19 (by decide) ?_
  refine lv_bipush (v := 6) hx hb d_F_shortBranch_20 (by decide) ?_
  refine call_F_part S inC m_303 ⟨(Nat.le_of_ble_eq_true rfl), (Nat.le_of_ble_eq_true rfl)⟩ hl.1 (Nat.le_of_ble_eq_true rfl) d_F_shortBranch_22 ⟨(Nat.le_of_ble_eq_true rfl), (Nat.le_of_ble_eq_true rfl)⟩ ?_
  refine lv_ior hx hb d_F_shortBranch_25 ?_
  refine lv_iload_n hx hb d_F_shortBranch_26 rfl (lv_at hl 0 rfl) ?_
  refine lv_iconst (v := 3) hx hb d_F_shortBranch_27 (by decide) ?_
  refine lv_iconst (v := 2) hx hb d_F_shortBranch_28 (by decide) ?_
  refine lv_iconst (v := 1) hx hb d_F_shortBranch_29 (by decide) ?_
  refine call_F_part S inC m_303 ⟨(Nat.le_of_ble_eq_true rfl), (Nat.le_of_ble_eq_true rfl)⟩ hl.1 (Nat.le_of_ble_eq_true rfl) d_F_shortBranch_30 ⟨(Nat.le_of_ble_eq_true rfl), (Nat.le_of_ble_eq_true rfl)⟩ ?_
  refine lv_ior hx hb d_F_shortBranch_33 ?_
  refine lv_iload_n hx hb d_F_shortBranch_34 rfl (lv_at hl 0 rfl) ?_
  refine lv_iconst (v := 2) hx hb d_F_shortBranch_35 (by decide) ?_
  refine lv_iconst (v := 1) hx hb d_F_shortBranch_36 (by decide) ?_
  refine lv_iconst (v := 5) hx hb d_F_shortBranch_37 (by decide) ?_
  refine call_F_part S inC m_303 ⟨(Nat.le_of_ble_eq_true rfl), (Nat.le_of_ble_eq_true rfl)⟩ hl.1 (Nat.le_of_ble_eq_true rfl) d_F_shortBranch_38 ⟨(Nat.le_of_ble_eq_true rfl), (Nat.le_of_ble_eq_true rfl)⟩ ?_
  refine lv_ior hx hb d_F_shortBranch_41 ?_
  exact W.iret (v := ((((f_F_signed x0 12 8) ||| (f_F_part x0 10 2 3)) ||| (f_F_part x0 5 2 6)) ||| (f_F_part x0 3 2 1)) ||| (f_F_part x0 2 1 5)) hx hb hr (fun t ht hW => ⟨((((f_F_signed x0 12 8) ||| (f_F_part x0 10 2 3)) ||| (f_F_part x0 5 2 6)) ||| (f_F_part x0 3 2 1)) ||| (f_F_part x0 2 1 5), rfl, rfl, ht⟩) (fun _ h => by cases h) d_F_shortBranch_42
theorem call_F_shortBranch {p : Program} {l : Launch} {e : Env} {R : Room} {s : State} {m : MethodId} {args : Array Value} {below : List Frame} {meth : Method} {c : Code} {H : Heap} {locs : List Loc} {cells slots : Nat} {Q : State → Prop} {cc : ByteArray} {pc nL idx : Nat} {ls : Array Slot} {rest : List Value} {Ts : List Cond} {own : String} {x0 : Int32} (S : CallFix p m c cc nL s args Ts own) (hTs : ∀ w ∈ WT, w ∈ Ts) (h1 : Cond.methodLink own idx y_F_shortBranch ∈ WT) (hR : 1 + 1 ≤ R.frames ∧ 8 + (1 + 11) + 23 ≤ R.locals) (hsz : ls.size = nL) (hrm : (rest.map fun v => v.category).sum ≤ 8) (hdg : decode cc pc = .ok (.invokestatic idx, 3)) (hc : cells ≤ R.cells ∧ slots ≤ R.slots) (kk : W p l e R s m args below meth c H locs cells slots Q (F0 m (pc + 3) ls (.int (f_F_shortBranch x0) :: rest))) : W p l e R s m args below meth c H locs cells slots Q (F0 m pc ls (.int x0 :: rest)) :=
  vp_callSi (va_Run.run (va_runS (As := [.int x0]) (rest := rest) S (c_F_shortBranch l x0) (va_cwS 1 S.2.2.2.2 (gS hTs h1 m_557 m_56 m_558) rfl rfl rfl (by decide +kernel) hR) ⟨fun a U g mk q => q, fun U hU hW => ⟨rfl, trivial⟩⟩ rfl rfl hsz rfl (lv_room hrm) hdg hc)) (fun r e => by subst e; exact kk)

def f_R_isLong (x0 : Int32) : Int32 :=
  if (x0 &&& 3) = 3 then
    1
  else
    0
set_option maxRecDepth 100000 in
set_option maxHeartbeats 4000000 in
theorem c_R_isLong (l : Launch) (x0 : Int32) : Met l y_R_isLong (Cond.code y_R_isLong b_R_isLong 1 (some .boolean) :: WT) ({ frames := 0, cells := 0, slots := 0, locals := 0 }) (va_Pc [.int x0] (fun _ => True)) (vp_Si (fun r => r = f_R_isLong x0)) 0 0 no := by
  refine va_MetF (cc := b_R_isLong) (maxL := 1) (ret := (some .boolean)) (by decide +kernel) rfl ?_
  intro p e s m args below meth c s₁ B hml hv
  obtain ⟨rfl, -⟩ := hv
  have hx := B.exec
  have hb := B.bytes
  have hr := B.returns
  have hts := atoms_spec (ws := (Cond.code y_R_isLong b_R_isLong 1 (some .boolean) :: WT)) B.pre
  have hT : ∀ w ∈ WT, w.before _ s = true := fun w h => hts w (inC w h)
  have hown : s.vm.findClass R_R = some m.cls := findClass_of_methodNamed B.named
  have hlocks := B.notSynchronized
  have hS : va_S no s.heap s.heap [] := va_S.rf
  have S : CallFix p m c b_R_isLong 1 s _ (Cond.code y_R_isLong b_R_isLong 1 (some .boolean) :: WT) R_R := ⟨hx, hb, hml, hown, hts⟩
  have hl := lv_entry ([.int x0]) (n := 1) (Nat.le_of_ble_eq_true rfl)
  rw [lg_entry_eq]
  generalize (lg_sl ([.int x0]) ++ List.replicate (1 - (lg_sl ([.int x0])).length) Slot.unset).toArray = ls at hl ⊢
  have hl : lv_has ls 1 [(0, .int x0)] := hl
  refine lv_iload_n hx hb d_R_isLong_0 rfl (lv_at hl 0 rfl) ?_
  refine lv_iconst (v := 3) hx hb d_R_isLong_1 (by decide) ?_
  refine lv_iand hx hb d_R_isLong_2 ?_
  refine lv_iconst (v := 3) hx hb d_R_isLong_3 (by decide) ?_
  refine lv_icmp_ne (tgt := 11) hx hb d_R_isLong_4 (by decide) (fun c_1 => ?_) (fun c_1 => ?_)
  · refine lv_iconst (v := 0) hx hb d_R_isLong_11 (by decide) ?_
    exact W.zret (v := 0) hx hb hr rfl (fun t ht hW => ⟨0, rfl, by rw [f_R_isLong, if_neg c_1], ht⟩) (fun _ h => by cases h) d_R_isLong_12
  · refine lv_iconst (v := 1) hx hb d_R_isLong_7 (by decide) ?_
    refine lv_goto (tgt := 12) hx hb d_R_isLong_8 (by decide) ?_
    exact W.zret (v := 1) hx hb hr rfl (fun t ht hW => ⟨1, rfl, by rw [f_R_isLong, if_pos c_1], ht⟩) (fun _ h => by cases h) d_R_isLong_12
theorem call_R_isLong {p : Program} {l : Launch} {e : Env} {R : Room} {s : State} {m : MethodId} {args : Array Value} {below : List Frame} {meth : Method} {c : Code} {H : Heap} {locs : List Loc} {cells slots : Nat} {Q : State → Prop} {cc : ByteArray} {pc nL idx : Nat} {ls : Array Slot} {rest : List Value} {Ts : List Cond} {own : String} {x0 : Int32} (S : CallFix p m c cc nL s args Ts own) (hTs : ∀ w ∈ WT, w ∈ Ts) (h1 : Cond.methodLink own idx y_R_isLong ∈ WT) (hR : 0 + 1 ≤ R.frames ∧ 8 + (1 + 11) + 0 ≤ R.locals) (hsz : ls.size = nL) (hrm : (rest.map fun v => v.category).sum ≤ 8) (hdg : decode cc pc = .ok (.invokestatic idx, 3)) (hc : cells ≤ R.cells ∧ slots ≤ R.slots) (kk : W p l e R s m args below meth c H locs cells slots Q (F0 m (pc + 3) ls (.int (f_R_isLong x0) :: rest))) : W p l e R s m args below meth c H locs cells slots Q (F0 m pc ls (.int x0 :: rest)) :=
  vp_callSi (va_Run.run (va_runS (As := [.int x0]) (rest := rest) S (c_R_isLong l x0) (va_cwS 1 S.2.2.2.2 (gS hTs h1 m_111 m_49 m_112) rfl rfl rfl (by decide +kernel) hR) ⟨fun a U g mk q => q, fun U hU hW => ⟨rfl, trivial⟩⟩ rfl rfl hsz rfl (lv_room hrm) hdg hc)) (fun r e => by subst e; exact kk)

def f_R_isAddress (x0 : Int32) : Int32 :=
  if x0 < 0 then
    0
  else
    if 256 ≤ x0 then
      0
    else
      1
set_option maxRecDepth 100000 in
set_option maxHeartbeats 4000000 in
theorem c_R_isAddress (l : Launch) (x0 : Int32) : Met l y_R_isAddress (Cond.code y_R_isAddress b_R_isAddress 1 (some .boolean) :: WT) ({ frames := 0, cells := 0, slots := 0, locals := 0 }) (va_Pc [.int x0] (fun _ => True)) (vp_Si (fun r => r = f_R_isAddress x0)) 0 0 no := by
  refine va_MetF (cc := b_R_isAddress) (maxL := 1) (ret := (some .boolean)) (by decide +kernel) rfl ?_
  intro p e s m args below meth c s₁ B hml hv
  obtain ⟨rfl, -⟩ := hv
  have hx := B.exec
  have hb := B.bytes
  have hr := B.returns
  have hts := atoms_spec (ws := (Cond.code y_R_isAddress b_R_isAddress 1 (some .boolean) :: WT)) B.pre
  have hT : ∀ w ∈ WT, w.before _ s = true := fun w h => hts w (inC w h)
  have hown : s.vm.findClass R_R = some m.cls := findClass_of_methodNamed B.named
  have hlocks := B.notSynchronized
  have hS : va_S no s.heap s.heap [] := va_S.rf
  have S : CallFix p m c b_R_isAddress 1 s _ (Cond.code y_R_isAddress b_R_isAddress 1 (some .boolean) :: WT) R_R := ⟨hx, hb, hml, hown, hts⟩
  have hl := lv_entry ([.int x0]) (n := 1) (Nat.le_of_ble_eq_true rfl)
  rw [lg_entry_eq]
  generalize (lg_sl ([.int x0]) ++ List.replicate (1 - (lg_sl ([.int x0])).length) Slot.unset).toArray = ls at hl ⊢
  have hl : lv_has ls 1 [(0, .int x0)] := hl
  refine lv_iload_n hx hb d_R_isAddress_0 rfl (lv_at hl 0 rfl) ?_
  refine lv_if_lt (tgt := 15) hx hb d_R_isAddress_1 (by decide) (fun c_1 => ?_) (fun c_1 => ?_)
  · refine lv_iconst (v := 0) hx hb d_R_isAddress_15 (by decide) ?_
    exact W.zret (v := 0) hx hb hr rfl (fun t ht hW => ⟨0, rfl, by rw [f_R_isAddress, if_pos c_1], ht⟩) (fun _ h => by cases h) d_R_isAddress_16
  · refine lv_iload_n hx hb d_R_isAddress_4 rfl (lv_at hl 0 rfl) ?_
    refine lv_sipush (v := 256) hx hb d_R_isAddress_5 (by decide) ?_
    refine lv_icmp_ge (tgt := 15) hx hb d_R_isAddress_8 (by decide) (fun c_2 => ?_) (fun c_2 => ?_)
    · refine lv_iconst (v := 0) hx hb d_R_isAddress_15 (by decide) ?_
      exact W.zret (v := 0) hx hb hr rfl (fun t ht hW => ⟨0, rfl, by rw [f_R_isAddress, if_neg c_1, if_pos c_2], ht⟩) (fun _ h => by cases h) d_R_isAddress_16
    · refine lv_iconst (v := 1) hx hb d_R_isAddress_11 (by decide) ?_
      refine lv_goto (tgt := 16) hx hb d_R_isAddress_12 (by decide) ?_
      exact W.zret (v := 1) hx hb hr rfl (fun t ht hW => ⟨1, rfl, by rw [f_R_isAddress, if_neg c_1, if_neg c_2], ht⟩) (fun _ h => by cases h) d_R_isAddress_16
theorem call_R_isAddress {p : Program} {l : Launch} {e : Env} {R : Room} {s : State} {m : MethodId} {args : Array Value} {below : List Frame} {meth : Method} {c : Code} {H : Heap} {locs : List Loc} {cells slots : Nat} {Q : State → Prop} {cc : ByteArray} {pc nL idx : Nat} {ls : Array Slot} {rest : List Value} {Ts : List Cond} {own : String} {x0 : Int32} (S : CallFix p m c cc nL s args Ts own) (hTs : ∀ w ∈ WT, w ∈ Ts) (h1 : Cond.methodLink own idx y_R_isAddress ∈ WT) (hR : 0 + 1 ≤ R.frames ∧ 8 + (1 + 11) + 0 ≤ R.locals) (hsz : ls.size = nL) (hrm : (rest.map fun v => v.category).sum ≤ 8) (hdg : decode cc pc = .ok (.invokestatic idx, 3)) (hc : cells ≤ R.cells ∧ slots ≤ R.slots) (kk : W p l e R s m args below meth c H locs cells slots Q (F0 m (pc + 3) ls (.int (f_R_isAddress x0) :: rest))) : W p l e R s m args below meth c H locs cells slots Q (F0 m pc ls (.int x0 :: rest)) :=
  vp_callSi (va_Run.run (va_runS (As := [.int x0]) (rest := rest) S (c_R_isAddress l x0) (va_cwS 1 S.2.2.2.2 (gS hTs h1 m_671 m_49 m_672) rfl rfl rfl (by decide +kernel) hR) ⟨fun a U g mk q => q, fun U hU hW => ⟨rfl, trivial⟩⟩ rfl rfl hsz rfl (lv_room hrm) hdg hc)) (fun r e => by subst e; exact kk)

def f_S_firstRegister (x0 : Int32) : Int32 :=
  (x0 >>> ((7 : Int32) &&& 31)) &&& 31
set_option maxRecDepth 100000 in
set_option maxHeartbeats 4000000 in
theorem c_S_firstRegister (l : Launch) (x0 : Int32) : Met l y_S_firstRegister (Cond.code y_S_firstRegister b_S_firstRegister 1 (some .int) :: WT) ({ frames := 0, cells := 0, slots := 0, locals := 0 }) (va_Pc [.int x0] (fun _ => True)) (vp_Si (fun r => r = f_S_firstRegister x0)) 0 0 no := by
  refine va_MetF (cc := b_S_firstRegister) (maxL := 1) (ret := (some .int)) (by decide +kernel) rfl ?_
  intro p e s m args below meth c s₁ B hml hv
  obtain ⟨rfl, -⟩ := hv
  have hx := B.exec
  have hb := B.bytes
  have hr := B.returns
  have hts := atoms_spec (ws := (Cond.code y_S_firstRegister b_S_firstRegister 1 (some .int) :: WT)) B.pre
  have hT : ∀ w ∈ WT, w.before _ s = true := fun w h => hts w (inC w h)
  have hown : s.vm.findClass R_S = some m.cls := findClass_of_methodNamed B.named
  have hlocks := B.notSynchronized
  have hS : va_S no s.heap s.heap [] := va_S.rf
  have S : CallFix p m c b_S_firstRegister 1 s _ (Cond.code y_S_firstRegister b_S_firstRegister 1 (some .int) :: WT) R_S := ⟨hx, hb, hml, hown, hts⟩
  have hl := lv_entry ([.int x0]) (n := 1) (Nat.le_of_ble_eq_true rfl)
  rw [lg_entry_eq]
  generalize (lg_sl ([.int x0]) ++ List.replicate (1 - (lg_sl ([.int x0])).length) Slot.unset).toArray = ls at hl ⊢
  have hl : lv_has ls 1 [(0, .int x0)] := hl
  refine lv_iload_n hx hb d_S_firstRegister_0 rfl (lv_at hl 0 rfl) ?_
  refine lv_bipush (v := 7) hx hb d_S_firstRegister_1 (by decide) ?_
  refine lv_ishr hx hb d_S_firstRegister_3 ?_
  refine lv_bipush (v := 31) hx hb d_S_firstRegister_4 (by decide) ?_
  refine lv_iand hx hb d_S_firstRegister_6 ?_
  exact W.iret (v := (x0 >>> ((7 : Int32) &&& 31)) &&& 31) hx hb hr (fun t ht hW => ⟨(x0 >>> ((7 : Int32) &&& 31)) &&& 31, rfl, rfl, ht⟩) (fun _ h => by cases h) d_S_firstRegister_7
theorem call_S_firstRegister {p : Program} {l : Launch} {e : Env} {R : Room} {s : State} {m : MethodId} {args : Array Value} {below : List Frame} {meth : Method} {c : Code} {H : Heap} {locs : List Loc} {cells slots : Nat} {Q : State → Prop} {cc : ByteArray} {pc nL idx : Nat} {ls : Array Slot} {rest : List Value} {Ts : List Cond} {own : String} {x0 : Int32} (S : CallFix p m c cc nL s args Ts own) (hTs : ∀ w ∈ WT, w ∈ Ts) (h1 : Cond.methodLink own idx y_S_firstRegister ∈ WT) (hR : 0 + 1 ≤ R.frames ∧ 8 + (1 + 11) + 0 ≤ R.locals) (hsz : ls.size = nL) (hrm : (rest.map fun v => v.category).sum ≤ 8) (hdg : decode cc pc = .ok (.invokestatic idx, 3)) (hc : cells ≤ R.cells ∧ slots ≤ R.slots) (kk : W p l e R s m args below meth c H locs cells slots Q (F0 m (pc + 3) ls (.int (f_S_firstRegister x0) :: rest))) : W p l e R s m args below meth c H locs cells slots Q (F0 m pc ls (.int x0 :: rest)) :=
  vp_callSi (va_Run.run (va_runS (As := [.int x0]) (rest := rest) S (c_S_firstRegister l x0) (va_cwS 1 S.2.2.2.2 (gS hTs h1 m_335 m_55 m_336) rfl rfl rfl (by decide +kernel) hR) ⟨fun a U g mk q => q, fun U hU hW => ⟨rfl, trivial⟩⟩ rfl rfl hsz rfl (lv_room hrm) hdg hc)) (fun r e => by subst e; exact kk)

def f_S_secondRegister (x0 : Int32) : Int32 :=
  (x0 >>> ((2 : Int32) &&& 31)) &&& 31
set_option maxRecDepth 100000 in
set_option maxHeartbeats 4000000 in
theorem c_S_secondRegister (l : Launch) (x0 : Int32) : Met l y_S_secondRegister (Cond.code y_S_secondRegister b_S_secondRegister 1 (some .int) :: WT) ({ frames := 0, cells := 0, slots := 0, locals := 0 }) (va_Pc [.int x0] (fun _ => True)) (vp_Si (fun r => r = f_S_secondRegister x0)) 0 0 no := by
  refine va_MetF (cc := b_S_secondRegister) (maxL := 1) (ret := (some .int)) (by decide +kernel) rfl ?_
  intro p e s m args below meth c s₁ B hml hv
  obtain ⟨rfl, -⟩ := hv
  have hx := B.exec
  have hb := B.bytes
  have hr := B.returns
  have hts := atoms_spec (ws := (Cond.code y_S_secondRegister b_S_secondRegister 1 (some .int) :: WT)) B.pre
  have hT : ∀ w ∈ WT, w.before _ s = true := fun w h => hts w (inC w h)
  have hown : s.vm.findClass R_S = some m.cls := findClass_of_methodNamed B.named
  have hlocks := B.notSynchronized
  have hS : va_S no s.heap s.heap [] := va_S.rf
  have S : CallFix p m c b_S_secondRegister 1 s _ (Cond.code y_S_secondRegister b_S_secondRegister 1 (some .int) :: WT) R_S := ⟨hx, hb, hml, hown, hts⟩
  have hl := lv_entry ([.int x0]) (n := 1) (Nat.le_of_ble_eq_true rfl)
  rw [lg_entry_eq]
  generalize (lg_sl ([.int x0]) ++ List.replicate (1 - (lg_sl ([.int x0])).length) Slot.unset).toArray = ls at hl ⊢
  have hl : lv_has ls 1 [(0, .int x0)] := hl
  refine lv_iload_n hx hb d_S_secondRegister_0 rfl (lv_at hl 0 rfl) ?_
  refine lv_iconst (v := 2) hx hb d_S_secondRegister_1 (by decide) ?_
  refine lv_ishr hx hb d_S_secondRegister_2 ?_
  refine lv_bipush (v := 31) hx hb d_S_secondRegister_3 (by decide) ?_
  refine lv_iand hx hb d_S_secondRegister_5 ?_
  exact W.iret (v := (x0 >>> ((2 : Int32) &&& 31)) &&& 31) hx hb hr (fun t ht hW => ⟨(x0 >>> ((2 : Int32) &&& 31)) &&& 31, rfl, rfl, ht⟩) (fun _ h => by cases h) d_S_secondRegister_6
theorem call_S_secondRegister {p : Program} {l : Launch} {e : Env} {R : Room} {s : State} {m : MethodId} {args : Array Value} {below : List Frame} {meth : Method} {c : Code} {H : Heap} {locs : List Loc} {cells slots : Nat} {Q : State → Prop} {cc : ByteArray} {pc nL idx : Nat} {ls : Array Slot} {rest : List Value} {Ts : List Cond} {own : String} {x0 : Int32} (S : CallFix p m c cc nL s args Ts own) (hTs : ∀ w ∈ WT, w ∈ Ts) (h1 : Cond.methodLink own idx y_S_secondRegister ∈ WT) (hR : 0 + 1 ≤ R.frames ∧ 8 + (1 + 11) + 0 ≤ R.locals) (hsz : ls.size = nL) (hrm : (rest.map fun v => v.category).sum ≤ 8) (hdg : decode cc pc = .ok (.invokestatic idx, 3)) (hc : cells ≤ R.cells ∧ slots ≤ R.slots) (kk : W p l e R s m args below meth c H locs cells slots Q (F0 m (pc + 3) ls (.int (f_S_secondRegister x0) :: rest))) : W p l e R s m args below meth c H locs cells slots Q (F0 m pc ls (.int x0 :: rest)) :=
  vp_callSi (va_Run.run (va_runS (As := [.int x0]) (rest := rest) S (c_S_secondRegister l x0) (va_cwS 1 S.2.2.2.2 (gS hTs h1 m_381 m_55 m_382) rfl rfl rfl (by decide +kernel) hR) ⟨fun a U g mk q => q, fun U hU hW => ⟨rfl, trivial⟩⟩ rfl rfl hsz rfl (lv_room hrm) hdg hc)) (fun r e => by subst e; exact kk)

def f_S_hasBit12 (x0 : Int32) : Int32 :=
  if ((x0 >>> ((12 : Int32) &&& 31)) &&& 1) = 1 then
    1
  else
    0
set_option maxRecDepth 100000 in
set_option maxHeartbeats 4000000 in
theorem c_S_hasBit12 (l : Launch) (x0 : Int32) : Met l y_S_hasBit12 (Cond.code y_S_hasBit12 b_S_hasBit12 1 (some .boolean) :: WT) ({ frames := 0, cells := 0, slots := 0, locals := 0 }) (va_Pc [.int x0] (fun _ => True)) (vp_Si (fun r => r = f_S_hasBit12 x0)) 0 0 no := by
  refine va_MetF (cc := b_S_hasBit12) (maxL := 1) (ret := (some .boolean)) (by decide +kernel) rfl ?_
  intro p e s m args below meth c s₁ B hml hv
  obtain ⟨rfl, -⟩ := hv
  have hx := B.exec
  have hb := B.bytes
  have hr := B.returns
  have hts := atoms_spec (ws := (Cond.code y_S_hasBit12 b_S_hasBit12 1 (some .boolean) :: WT)) B.pre
  have hT : ∀ w ∈ WT, w.before _ s = true := fun w h => hts w (inC w h)
  have hown : s.vm.findClass R_S = some m.cls := findClass_of_methodNamed B.named
  have hlocks := B.notSynchronized
  have hS : va_S no s.heap s.heap [] := va_S.rf
  have S : CallFix p m c b_S_hasBit12 1 s _ (Cond.code y_S_hasBit12 b_S_hasBit12 1 (some .boolean) :: WT) R_S := ⟨hx, hb, hml, hown, hts⟩
  have hl := lv_entry ([.int x0]) (n := 1) (Nat.le_of_ble_eq_true rfl)
  rw [lg_entry_eq]
  generalize (lg_sl ([.int x0]) ++ List.replicate (1 - (lg_sl ([.int x0])).length) Slot.unset).toArray = ls at hl ⊢
  have hl : lv_has ls 1 [(0, .int x0)] := hl
  refine lv_iload_n hx hb d_S_hasBit12_0 rfl (lv_at hl 0 rfl) ?_
  refine lv_bipush (v := 12) hx hb d_S_hasBit12_1 (by decide) ?_
  refine lv_ishr hx hb d_S_hasBit12_3 ?_
  refine lv_iconst (v := 1) hx hb d_S_hasBit12_4 (by decide) ?_
  refine lv_iand hx hb d_S_hasBit12_5 ?_
  refine lv_iconst (v := 1) hx hb d_S_hasBit12_6 (by decide) ?_
  refine lv_icmp_ne (tgt := 14) hx hb d_S_hasBit12_7 (by decide) (fun c_1 => ?_) (fun c_1 => ?_)
  · refine lv_iconst (v := 0) hx hb d_S_hasBit12_14 (by decide) ?_
    exact W.zret (v := 0) hx hb hr rfl (fun t ht hW => ⟨0, rfl, by rw [f_S_hasBit12, if_neg c_1], ht⟩) (fun _ h => by cases h) d_S_hasBit12_15
  · refine lv_iconst (v := 1) hx hb d_S_hasBit12_10 (by decide) ?_
    refine lv_goto (tgt := 15) hx hb d_S_hasBit12_11 (by decide) ?_
    exact W.zret (v := 1) hx hb hr rfl (fun t ht hW => ⟨1, rfl, by rw [f_S_hasBit12, if_pos c_1], ht⟩) (fun _ h => by cases h) d_S_hasBit12_15
theorem call_S_hasBit12 {p : Program} {l : Launch} {e : Env} {R : Room} {s : State} {m : MethodId} {args : Array Value} {below : List Frame} {meth : Method} {c : Code} {H : Heap} {locs : List Loc} {cells slots : Nat} {Q : State → Prop} {cc : ByteArray} {pc nL idx : Nat} {ls : Array Slot} {rest : List Value} {Ts : List Cond} {own : String} {x0 : Int32} (S : CallFix p m c cc nL s args Ts own) (hTs : ∀ w ∈ WT, w ∈ Ts) (h1 : Cond.methodLink own idx y_S_hasBit12 ∈ WT) (hR : 0 + 1 ≤ R.frames ∧ 8 + (1 + 11) + 0 ≤ R.locals) (hsz : ls.size = nL) (hrm : (rest.map fun v => v.category).sum ≤ 8) (hdg : decode cc pc = .ok (.invokestatic idx, 3)) (hc : cells ≤ R.cells ∧ slots ≤ R.slots) (kk : W p l e R s m args below meth c H locs cells slots Q (F0 m (pc + 3) ls (.int (f_S_hasBit12 x0) :: rest))) : W p l e R s m args below meth c H locs cells slots Q (F0 m pc ls (.int x0 :: rest)) :=
  vp_callSi (va_Run.run (va_runS (As := [.int x0]) (rest := rest) S (c_S_hasBit12 l x0) (va_cwS 1 S.2.2.2.2 (gS hTs h1 m_347 m_55 m_348) rfl rfl rfl (by decide +kernel) hR) ⟨fun a U g mk q => q, fun U hU hW => ⟨rfl, trivial⟩⟩ rfl rfl hsz rfl (lv_room hrm) hdg hc)) (fun r e => by subst e; exact kk)
end
section
def f_L_load (x0 : Int32) : Nat :=
  if x0 = 0 then
    29
  else
    if x0 = 1 then
      30
    else
      if x0 = 2 then
        31
      else
        if x0 = 4 then
          32
        else
          if x0 = 5 then
            33
          else
            0
set_option maxRecDepth 100000 in
set_option maxHeartbeats 4000000 in
theorem c_L_load (l : Launch) (adE adK adV : Nat → Nat) (x0 : Int32) : Met l y_L_load (Cond.code y_L_load b_L_load 1 (some (.object "InstructionReader$Kind")) :: WT) ({ frames := 0, cells := 0, slots := 0, locals := 0 }) (va_Pc [.int x0] (fun U => cx adE adK adV no U U.heap)) (va_Se adE (fun r => r = some (f_L_load x0))) 0 0 no := by
  refine va_MetF (cc := b_L_load) (maxL := 1) (ret := (some (.object "InstructionReader$Kind"))) (by decide +kernel) rfl ?_
  intro p e s m args below meth c s₁ B hml hv
  obtain ⟨rfl, hC⟩ := hv
  have hx := B.exec
  have hb := B.bytes
  have hr := B.returns
  have hts := atoms_spec (ws := (Cond.code y_L_load b_L_load 1 (some (.object "InstructionReader$Kind")) :: WT)) B.pre
  have hT : ∀ w ∈ WT, w.before _ s = true := fun w h => hts w (inC w h)
  have hown : s.vm.findClass R_L = some m.cls := findClass_of_methodNamed B.named
  have hlocks := B.notSynchronized
  have hS : va_S no s.heap s.heap [] := va_S.rf
  have S : CallFix p m c b_L_load 1 s _ (Cond.code y_L_load b_L_load 1 (some (.object "InstructionReader$Kind")) :: WT) R_L := ⟨hx, hb, hml, hown, hts⟩
  have hl := lv_entry ([.int x0]) (n := 1) (Nat.le_of_ble_eq_true rfl)
  rw [lg_entry_eq]
  generalize (lg_sl ([.int x0]) ++ List.replicate (1 - (lg_sl ([.int x0])).length) Slot.unset).toArray = ls at hl ⊢
  have hl : lv_has ls 1 [(0, .int x0)] := hl
  refine lv_iload_n hx hb d_L_load_0 rfl (lv_at hl 0 rfl) ?_
  by_cases c_1 : x0 = 0
  · refine lv_tableIn (off := 39) (tgt := 40) hx hb d_L_load_1 (by rw [c_1]; decide) (by rw [c_1]; decide) (by rw [c_1]; decide) (by decide) ?_
    refine va_gets (v := .ref (adE 29)) hx hb (z_LB hC) hS hown (hT _ m_127) (fun _ h => h) d_L_load_40 ?_
    exact W.aret (v := .ref (adE 29)) hx hb hr (Or.inl ⟨_, rfl⟩) (Or.inr ⟨_, rfl⟩) (fun t ht hW => ⟨some 29, rfl, congrArg some (by rw [f_L_load, if_pos c_1]), ht⟩) (fun _ h => by cases h) d_L_load_43
  · by_cases c_2 : x0 = 1
    · refine lv_tableIn (off := 43) (tgt := 44) hx hb d_L_load_1 (by rw [c_2]; decide) (by rw [c_2]; decide) (by rw [c_2]; decide) (by decide) ?_
      refine va_gets (v := .ref (adE 30)) hx hb (z_LH hC) hS hown (hT _ m_129) (fun _ h => h) d_L_load_44 ?_
      exact W.aret (v := .ref (adE 30)) hx hb hr (Or.inl ⟨_, rfl⟩) (Or.inr ⟨_, rfl⟩) (fun t ht hW => ⟨some 30, rfl, congrArg some (by rw [f_L_load, if_neg c_1, if_pos c_2]), ht⟩) (fun _ h => by cases h) d_L_load_47
    · by_cases c_3 : x0 = 2
      · refine lv_tableIn (off := 47) (tgt := 48) hx hb d_L_load_1 (by rw [c_3]; decide) (by rw [c_3]; decide) (by rw [c_3]; decide) (by decide) ?_
        refine va_gets (v := .ref (adE 31)) hx hb (z_LW hC) hS hown (hT _ m_131) (fun _ h => h) d_L_load_48 ?_
        exact W.aret (v := .ref (adE 31)) hx hb hr (Or.inl ⟨_, rfl⟩) (Or.inr ⟨_, rfl⟩) (fun t ht hW => ⟨some 31, rfl, congrArg some (by rw [f_L_load, if_neg c_1, if_neg c_2, if_pos c_3]), ht⟩) (fun _ h => by cases h) d_L_load_51
      · by_cases c_4 : x0 = 4
        · refine lv_tableIn (off := 51) (tgt := 52) hx hb d_L_load_1 (by rw [c_4]; decide) (by rw [c_4]; decide) (by rw [c_4]; decide) (by decide) ?_
          refine va_gets (v := .ref (adE 32)) hx hb (z_LBU hC) hS hown (hT _ m_133) (fun _ h => h) d_L_load_52 ?_
          exact W.aret (v := .ref (adE 32)) hx hb hr (Or.inl ⟨_, rfl⟩) (Or.inr ⟨_, rfl⟩) (fun t ht hW => ⟨some 32, rfl, congrArg some (by rw [f_L_load, if_neg c_1, if_neg c_2, if_neg c_3, if_pos c_4]), ht⟩) (fun _ h => by cases h) d_L_load_55
        · by_cases c_5 : x0 = 5
          · refine lv_tableIn (off := 55) (tgt := 56) hx hb d_L_load_1 (by rw [c_5]; decide) (by rw [c_5]; decide) (by rw [c_5]; decide) (by decide) ?_
            refine va_gets (v := .ref (adE 33)) hx hb (z_LHU hC) hS hown (hT _ m_135) (fun _ h => h) d_L_load_56 ?_
            exact W.aret (v := .ref (adE 33)) hx hb hr (Or.inl ⟨_, rfl⟩) (Or.inr ⟨_, rfl⟩) (fun t ht hW => ⟨some 33, rfl, congrArg some (by rw [f_L_load, if_neg c_1, if_neg c_2, if_neg c_3, if_neg c_4, if_pos c_5]), ht⟩) (fun _ h => by cases h) d_L_load_59
          · refine tb_out (tgt := 60) hx hb d_L_load_1 (by have n0 := lv_neT c_1 (show (0 : Int32).toInt = 0 from (by decide)); have n1 := lv_neT c_2 (show (1 : Int32).toInt = 1 from (by decide)); have n2 := lv_neT c_3 (show (2 : Int32).toInt = 2 from (by decide)); have n3 := lv_neT c_4 (show (4 : Int32).toInt = 4 from (by decide)); have n4 := lv_neT c_5 (show (5 : Int32).toInt = 5 from (by decide)); intro j hj hi; have key : ∀ j : Nat, j < 6 → j ∈ ([0, 1, 2, 4, 5] : List Nat) ∨ (#[39, 43, 47, 59, 51, 55] : Array Int)[j]? = some 59 := (by decide); exact (key j (by omega)).elim (fun h => absurd h (by simp only [List.mem_cons, List.not_mem_nil, or_false]; omega)) id) (by decide) ?_
            refine va_gets (v := .ref (adE 0)) hx hb (z_WORD hC) hS hown (hT _ m_137) (fun _ h => h) d_L_load_60 ?_
            exact W.aret (v := .ref (adE 0)) hx hb hr (Or.inl ⟨_, rfl⟩) (Or.inr ⟨_, rfl⟩) (fun t ht hW => ⟨some 0, rfl, congrArg some (by rw [f_L_load, if_neg c_1, if_neg c_2, if_neg c_3, if_neg c_4, if_neg c_5]), ht⟩) (fun _ h => by cases h) d_L_load_63
theorem call_L_load {p : Program} {l : Launch} {e : Env} {R : Room} {s : State} {m : MethodId} {args : Array Value} {below : List Frame} {meth : Method} {c : Code} {H : Heap} {locs : List Loc} {cells slots : Nat} {Q : State → Prop} {cc : ByteArray} {pc nL idx : Nat} {ls : Array Slot} {rest : List Value} {Ts : List Cond} {own : String} {adE adK adV : Nat → Nat} {A0 : Nat → Prop} {x0 : Int32} (S : CallFix p m c cc nL s args Ts own) (hTs : ∀ w ∈ WT, w ∈ Ts) (h1 : Cond.methodLink own idx y_L_load ∈ WT) (hR : 0 + 1 ≤ R.frames ∧ 8 + (1 + 11) + 0 ≤ R.locals) (hsz : ls.size = nL) (hrm : (rest.map fun v => v.category).sum ≤ 8) (hdg : decode cc pc = .ok (.invokestatic idx, 3)) (hc : cells ≤ R.cells ∧ slots ≤ R.slots) (hC : cx adE adK adV A0 s s.heap) (hS : va_S A0 s.heap H locs) (kk : W p l e R s m args below meth c H locs cells slots Q (F0 m (pc + 3) ls (.ref (adE (f_L_load x0)) :: rest))) : W p l e R s m args below meth c H locs cells slots Q (F0 m pc ls (.int x0 :: rest)) :=
  va_cse (va_Run.run (va_runS (As := [.int x0]) (rest := rest) S (c_L_load l adE adK adV x0) (va_cwS 1 S.2.2.2.2 (gS hTs h1 m_125 m_52 m_126) rfl rfl rfl (by decide +kernel) hR) ⟨fun a U g mk q => ⟨q.1, q.2.blind⟩, fun U hU hW => ⟨rfl, hC.at hS no_in hU hW⟩⟩ rfl rfl hsz rfl (lv_room hrm) hdg hc)) (fun r e => by subst e; exact kk)

def f_L_alone (x0 : Int32) : Nat :=
  if x0 = 115 then
    66
  else
    if x0 = 4111 then
      65
    else
      if x0 = 1048691 then
        67
      else
        if x0 = 267386895 then
          64
        else
          0
set_option maxRecDepth 100000 in
set_option maxHeartbeats 4000000 in
theorem c_L_alone (l : Launch) (adE adK adV : Nat → Nat) (x0 : Int32) : Met l y_L_alone (Cond.code y_L_alone b_L_alone 1 (some (.object "InstructionReader$Kind")) :: WT) ({ frames := 0, cells := 0, slots := 0, locals := 0 }) (va_Pc [.int x0] (fun U => cx adE adK adV no U U.heap)) (va_Se adE (fun r => r = some (f_L_alone x0))) 0 0 no := by
  refine va_MetF (cc := b_L_alone) (maxL := 1) (ret := (some (.object "InstructionReader$Kind"))) (by decide +kernel) rfl ?_
  intro p e s m args below meth c s₁ B hml hv
  obtain ⟨rfl, hC⟩ := hv
  have hx := B.exec
  have hb := B.bytes
  have hr := B.returns
  have hts := atoms_spec (ws := (Cond.code y_L_alone b_L_alone 1 (some (.object "InstructionReader$Kind")) :: WT)) B.pre
  have hT : ∀ w ∈ WT, w.before _ s = true := fun w h => hts w (inC w h)
  have hown : s.vm.findClass R_L = some m.cls := findClass_of_methodNamed B.named
  have hlocks := B.notSynchronized
  have hS : va_S no s.heap s.heap [] := va_S.rf
  have S : CallFix p m c b_L_alone 1 s _ (Cond.code y_L_alone b_L_alone 1 (some (.object "InstructionReader$Kind")) :: WT) R_L := ⟨hx, hb, hml, hown, hts⟩
  have hl := lv_entry ([.int x0]) (n := 1) (Nat.le_of_ble_eq_true rfl)
  rw [lg_entry_eq]
  generalize (lg_sl ([.int x0]) ++ List.replicate (1 - (lg_sl ([.int x0])).length) Slot.unset).toArray = ls at hl ⊢
  have hl : lv_has ls 1 [(0, .int x0)] := hl
  refine lv_iload_n hx hb d_L_alone_0 rfl (lv_at hl 0 rfl) ?_
  by_cases c_1 : x0 = 115
  · refine lv_lookup (off := 51) (tgt := 52) hx hb d_L_alone_1 (by decide) (by rw [c_1]; decide) (by decide) ?_
    refine va_gets (v := .ref (adE 66)) hx hb (z_ECALL hC) hS hown (hT _ m_146) (fun _ h => h) d_L_alone_52 ?_
    exact W.aret (v := .ref (adE 66)) hx hb hr (Or.inl ⟨_, rfl⟩) (Or.inr ⟨_, rfl⟩) (fun t ht hW => ⟨some 66, rfl, congrArg some (by rw [f_L_alone, if_pos c_1]), ht⟩) (fun _ h => by cases h) d_L_alone_55
  · by_cases c_2 : x0 = 4111
    · refine lv_lookup (off := 47) (tgt := 48) hx hb d_L_alone_1 (by decide) (by rw [c_2]; decide) (by decide) ?_
      refine va_gets (v := .ref (adE 65)) hx hb (z_FENCE_I hC) hS hown (hT _ m_144) (fun _ h => h) d_L_alone_48 ?_
      exact W.aret (v := .ref (adE 65)) hx hb hr (Or.inl ⟨_, rfl⟩) (Or.inr ⟨_, rfl⟩) (fun t ht hW => ⟨some 65, rfl, congrArg some (by rw [f_L_alone, if_neg c_1, if_pos c_2]), ht⟩) (fun _ h => by cases h) d_L_alone_51
    · by_cases c_3 : x0 = 1048691
      · refine lv_lookup (off := 55) (tgt := 56) hx hb d_L_alone_1 (by decide) (by rw [c_3]; decide) (by decide) ?_
        refine va_gets (v := .ref (adE 67)) hx hb (z_EBREAK hC) hS hown (hT _ m_148) (fun _ h => h) d_L_alone_56 ?_
        exact W.aret (v := .ref (adE 67)) hx hb hr (Or.inl ⟨_, rfl⟩) (Or.inr ⟨_, rfl⟩) (fun t ht hW => ⟨some 67, rfl, congrArg some (by rw [f_L_alone, if_neg c_1, if_neg c_2, if_pos c_3]), ht⟩) (fun _ h => by cases h) d_L_alone_59
      · by_cases c_4 : x0 = 267386895
        · refine lv_lookup (off := 43) (tgt := 44) hx hb d_L_alone_1 (by decide) (by rw [c_4]; decide) (by decide) ?_
          refine va_gets (v := .ref (adE 64)) hx hb (z_FENCE hC) hS hown (hT _ m_142) (fun _ h => h) d_L_alone_44 ?_
          exact W.aret (v := .ref (adE 64)) hx hb hr (Or.inl ⟨_, rfl⟩) (Or.inr ⟨_, rfl⟩) (fun t ht hW => ⟨some 64, rfl, congrArg some (by rw [f_L_alone, if_neg c_1, if_neg c_2, if_neg c_3, if_pos c_4]), ht⟩) (fun _ h => by cases h) d_L_alone_47
        · refine lv_lookup (off := 59) (tgt := 60) hx hb d_L_alone_1 (by decide) (by show Op.lookupswitch.offset [(115, 51), (4111, 47), (1048691, 55), (267386895, 43)] 59 _ = 59; rw [lv_osw c_1 (by decide), lv_osw c_2 (by decide), lv_osw c_3 (by decide), lv_osw c_4 (by decide)]; rfl) (by decide) ?_
          refine va_gets (v := .ref (adE 0)) hx hb (z_WORD hC) hS hown (hT _ m_137) (fun _ h => h) d_L_alone_60 ?_
          exact W.aret (v := .ref (adE 0)) hx hb hr (Or.inl ⟨_, rfl⟩) (Or.inr ⟨_, rfl⟩) (fun t ht hW => ⟨some 0, rfl, congrArg some (by rw [f_L_alone, if_neg c_1, if_neg c_2, if_neg c_3, if_neg c_4]), ht⟩) (fun _ h => by cases h) d_L_alone_63
theorem call_L_alone {p : Program} {l : Launch} {e : Env} {R : Room} {s : State} {m : MethodId} {args : Array Value} {below : List Frame} {meth : Method} {c : Code} {H : Heap} {locs : List Loc} {cells slots : Nat} {Q : State → Prop} {cc : ByteArray} {pc nL idx : Nat} {ls : Array Slot} {rest : List Value} {Ts : List Cond} {own : String} {adE adK adV : Nat → Nat} {A0 : Nat → Prop} {x0 : Int32} (S : CallFix p m c cc nL s args Ts own) (hTs : ∀ w ∈ WT, w ∈ Ts) (h1 : Cond.methodLink own idx y_L_alone ∈ WT) (hR : 0 + 1 ≤ R.frames ∧ 8 + (1 + 11) + 0 ≤ R.locals) (hsz : ls.size = nL) (hrm : (rest.map fun v => v.category).sum ≤ 8) (hdg : decode cc pc = .ok (.invokestatic idx, 3)) (hc : cells ≤ R.cells ∧ slots ≤ R.slots) (hC : cx adE adK adV A0 s s.heap) (hS : va_S A0 s.heap H locs) (kk : W p l e R s m args below meth c H locs cells slots Q (F0 m (pc + 3) ls (.ref (adE (f_L_alone x0)) :: rest))) : W p l e R s m args below meth c H locs cells slots Q (F0 m pc ls (.int x0 :: rest)) :=
  va_cse (va_Run.run (va_runS (As := [.int x0]) (rest := rest) S (c_L_alone l adE adK adV x0) (va_cwS 1 S.2.2.2.2 (gS hTs h1 m_140 m_52 m_141) rfl rfl rfl (by decide +kernel) hR) ⟨fun a U g mk q => ⟨q.1, q.2.blind⟩, fun U hU hW => ⟨rfl, hC.at hS no_in hU hW⟩⟩ rfl rfl hsz rfl (lv_room hrm) hdg hc)) (fun r e => by subst e; exact kk)

def f_L_shiftRight (x0 : Int32) : Nat :=
  if x0 = 0 then
    27
  else
    if x0 = 32 then
      28
    else
      0
set_option maxRecDepth 100000 in
set_option maxHeartbeats 4000000 in
theorem c_L_shiftRight (l : Launch) (adE adK adV : Nat → Nat) (x0 : Int32) : Met l y_L_shiftRight (Cond.code y_L_shiftRight b_L_shiftRight 1 (some (.object "InstructionReader$Kind")) :: WT) ({ frames := 0, cells := 0, slots := 0, locals := 0 }) (va_Pc [.int x0] (fun U => cx adE adK adV no U U.heap)) (va_Se adE (fun r => r = some (f_L_shiftRight x0))) 0 0 no := by
  refine va_MetF (cc := b_L_shiftRight) (maxL := 1) (ret := (some (.object "InstructionReader$Kind"))) (by decide +kernel) rfl ?_
  intro p e s m args below meth c s₁ B hml hv
  obtain ⟨rfl, hC⟩ := hv
  have hx := B.exec
  have hb := B.bytes
  have hr := B.returns
  have hts := atoms_spec (ws := (Cond.code y_L_shiftRight b_L_shiftRight 1 (some (.object "InstructionReader$Kind")) :: WT)) B.pre
  have hT : ∀ w ∈ WT, w.before _ s = true := fun w h => hts w (inC w h)
  have hown : s.vm.findClass R_L = some m.cls := findClass_of_methodNamed B.named
  have hlocks := B.notSynchronized
  have hS : va_S no s.heap s.heap [] := va_S.rf
  have S : CallFix p m c b_L_shiftRight 1 s _ (Cond.code y_L_shiftRight b_L_shiftRight 1 (some (.object "InstructionReader$Kind")) :: WT) R_L := ⟨hx, hb, hml, hown, hts⟩
  have hl := lv_entry ([.int x0]) (n := 1) (Nat.le_of_ble_eq_true rfl)
  rw [lg_entry_eq]
  generalize (lg_sl ([.int x0]) ++ List.replicate (1 - (lg_sl ([.int x0])).length) Slot.unset).toArray = ls at hl ⊢
  have hl : lv_has ls 1 [(0, .int x0)] := hl
  refine lv_iload_n hx hb d_L_shiftRight_0 rfl (lv_at hl 0 rfl) ?_
  refine lv_if_ne (tgt := 8) hx hb d_L_shiftRight_1 (by decide) (fun c_1 => ?_) (fun c_1 => ?_)
  · refine lv_iload_n hx hb d_L_shiftRight_8 rfl (lv_at hl 0 rfl) ?_
    refine lv_bipush (v := 32) hx hb d_L_shiftRight_9 (by decide) ?_
    refine lv_icmp_ne (tgt := 20) hx hb d_L_shiftRight_11 (by decide) (fun c_2 => ?_) (fun c_2 => ?_)
    · refine va_gets (v := .ref (adE 0)) hx hb (z_WORD hC) hS hown (hT _ m_137) (fun _ h => h) d_L_shiftRight_20 ?_
      exact W.aret (v := .ref (adE 0)) hx hb hr (Or.inl ⟨_, rfl⟩) (Or.inr ⟨_, rfl⟩) (fun t ht hW => ⟨some 0, rfl, congrArg some (by rw [f_L_shiftRight, if_neg c_1, if_neg c_2]), ht⟩) (fun _ h => by cases h) d_L_shiftRight_23
    · refine va_gets (v := .ref (adE 28)) hx hb (z_SRAI hC) hS hown (hT _ m_168) (fun _ h => h) d_L_shiftRight_14 ?_
      refine lv_goto (tgt := 23) hx hb d_L_shiftRight_17 (by decide) ?_
      exact W.aret (v := .ref (adE 28)) hx hb hr (Or.inl ⟨_, rfl⟩) (Or.inr ⟨_, rfl⟩) (fun t ht hW => ⟨some 28, rfl, congrArg some (by rw [f_L_shiftRight, if_neg c_1, if_pos c_2]), ht⟩) (fun _ h => by cases h) d_L_shiftRight_23
  · refine va_gets (v := .ref (adE 27)) hx hb (z_SRLI hC) hS hown (hT _ m_166) (fun _ h => h) d_L_shiftRight_4 ?_
    exact W.aret (v := .ref (adE 27)) hx hb hr (Or.inl ⟨_, rfl⟩) (Or.inr ⟨_, rfl⟩) (fun t ht hW => ⟨some 27, rfl, congrArg some (by rw [f_L_shiftRight, if_pos c_1]), ht⟩) (fun _ h => by cases h) d_L_shiftRight_7
theorem call_L_shiftRight {p : Program} {l : Launch} {e : Env} {R : Room} {s : State} {m : MethodId} {args : Array Value} {below : List Frame} {meth : Method} {c : Code} {H : Heap} {locs : List Loc} {cells slots : Nat} {Q : State → Prop} {cc : ByteArray} {pc nL idx : Nat} {ls : Array Slot} {rest : List Value} {Ts : List Cond} {own : String} {adE adK adV : Nat → Nat} {A0 : Nat → Prop} {x0 : Int32} (S : CallFix p m c cc nL s args Ts own) (hTs : ∀ w ∈ WT, w ∈ Ts) (h1 : Cond.methodLink own idx y_L_shiftRight ∈ WT) (hR : 0 + 1 ≤ R.frames ∧ 8 + (1 + 11) + 0 ≤ R.locals) (hsz : ls.size = nL) (hrm : (rest.map fun v => v.category).sum ≤ 8) (hdg : decode cc pc = .ok (.invokestatic idx, 3)) (hc : cells ≤ R.cells ∧ slots ≤ R.slots) (hC : cx adE adK adV A0 s s.heap) (hS : va_S A0 s.heap H locs) (kk : W p l e R s m args below meth c H locs cells slots Q (F0 m (pc + 3) ls (.ref (adE (f_L_shiftRight x0)) :: rest))) : W p l e R s m args below meth c H locs cells slots Q (F0 m pc ls (.int x0 :: rest)) :=
  va_cse (va_Run.run (va_runS (As := [.int x0]) (rest := rest) S (c_L_shiftRight l adE adK adV x0) (va_cwS 1 S.2.2.2.2 (gS hTs h1 m_164 m_52 m_165) rfl rfl rfl (by decide +kernel) hR) ⟨fun a U g mk q => ⟨q.1, q.2.blind⟩, fun U hU hW => ⟨rfl, hC.at hS no_in hU hW⟩⟩ rfl rfl hsz rfl (lv_room hrm) hdg hc)) (fun r e => by subst e; exact kk)

def f_L_withNumber (x0 x1 : Int32) : Nat :=
  if x0 = 0 then
    20
  else
    if x0 = 1 then
      if x1 = 0 then
        26
      else
        0
    else
      if x0 = 2 then
        21
      else
        if x0 = 3 then
          22
        else
          if x0 = 4 then
            23
          else
            if x0 = 5 then
              f_L_shiftRight x1
            else
              if x0 = 6 then
                24
              else
                25
set_option maxRecDepth 100000 in
set_option maxHeartbeats 4000000 in
theorem c_L_withNumber (l : Launch) (adE adK adV : Nat → Nat) (x0 x1 : Int32) : Met l y_L_withNumber (Cond.code y_L_withNumber b_L_withNumber 2 (some (.object "InstructionReader$Kind")) :: WT) ({ frames := 1, cells := 0, slots := 0, locals := 20 }) (va_Pc [.int x0, .int x1] (fun U => cx adE adK adV no U U.heap)) (va_Se adE (fun r => r = some (f_L_withNumber x0 x1))) 0 0 no := by
  refine va_MetF (cc := b_L_withNumber) (maxL := 2) (ret := (some (.object "InstructionReader$Kind"))) (by decide +kernel) rfl ?_
  intro p e s m args below meth c s₁ B hml hv
  obtain ⟨rfl, hC⟩ := hv
  have hx := B.exec
  have hb := B.bytes
  have hr := B.returns
  have hts := atoms_spec (ws := (Cond.code y_L_withNumber b_L_withNumber 2 (some (.object "InstructionReader$Kind")) :: WT)) B.pre
  have hT : ∀ w ∈ WT, w.before _ s = true := fun w h => hts w (inC w h)
  have hown : s.vm.findClass R_L = some m.cls := findClass_of_methodNamed B.named
  have hlocks := B.notSynchronized
  have hS : va_S no s.heap s.heap [] := va_S.rf
  have S : CallFix p m c b_L_withNumber 2 s _ (Cond.code y_L_withNumber b_L_withNumber 2 (some (.object "InstructionReader$Kind")) :: WT) R_L := ⟨hx, hb, hml, hown, hts⟩
  have hl := lv_entry ([.int x0, .int x1]) (n := 2) (Nat.le_of_ble_eq_true rfl)
  rw [lg_entry_eq]
  generalize (lg_sl ([.int x0, .int x1]) ++ List.replicate (2 - (lg_sl ([.int x0, .int x1])).length) Slot.unset).toArray = ls at hl ⊢
  have hl : lv_has ls 2 [(0, .int x0), (1, .int x1)] := hl
  refine lv_iload_n hx hb d_L_withNumber_0 rfl (lv_at hl 0 rfl) ?_
  by_cases c_1 : x0 = 0
  · refine lv_tableIn (off := 43) (tgt := 44) hx hb d_L_withNumber_1 (by rw [c_1]; decide) (by rw [c_1]; decide) (by rw [c_1]; decide) (by decide) ?_
    refine va_gets (v := .ref (adE 20)) hx hb (z_ADDI hC) hS hown (hT _ m_153) (fun _ h => h) d_L_withNumber_44 ?_
    exact W.aret (v := .ref (adE 20)) hx hb hr (Or.inl ⟨_, rfl⟩) (Or.inr ⟨_, rfl⟩) (fun t ht hW => ⟨some 20, rfl, congrArg some (by rw [f_L_withNumber, if_pos c_1]), ht⟩) (fun _ h => by cases h) d_L_withNumber_47
  · by_cases c_2 : x0 = 1
    · refine lv_tableIn (off := 47) (tgt := 48) hx hb d_L_withNumber_1 (by rw [c_2]; decide) (by rw [c_2]; decide) (by rw [c_2]; decide) (by decide) ?_
      refine lv_iload_n hx hb d_L_withNumber_48 rfl (lv_at hl 1 rfl) ?_
      refine lv_if_ne (tgt := 58) hx hb d_L_withNumber_49 (by decide) (fun c_3 => ?_) (fun c_3 => ?_)
      · refine va_gets (v := .ref (adE 0)) hx hb (z_WORD hC) hS hown (hT _ m_137) (fun _ h => h) d_L_withNumber_58 ?_
        exact W.aret (v := .ref (adE 0)) hx hb hr (Or.inl ⟨_, rfl⟩) (Or.inr ⟨_, rfl⟩) (fun t ht hW => ⟨some 0, rfl, congrArg some (by rw [f_L_withNumber, if_neg c_1, if_pos c_2, if_neg c_3]), ht⟩) (fun _ h => by cases h) d_L_withNumber_61
      · refine va_gets (v := .ref (adE 26)) hx hb (z_SLLI hC) hS hown (hT _ m_155) (fun _ h => h) d_L_withNumber_52 ?_
        refine lv_goto (tgt := 61) hx hb d_L_withNumber_55 (by decide) ?_
        exact W.aret (v := .ref (adE 26)) hx hb hr (Or.inl ⟨_, rfl⟩) (Or.inr ⟨_, rfl⟩) (fun t ht hW => ⟨some 26, rfl, congrArg some (by rw [f_L_withNumber, if_neg c_1, if_pos c_2, if_pos c_3]), ht⟩) (fun _ h => by cases h) d_L_withNumber_61
    · by_cases c_4 : x0 = 2
      · refine lv_tableIn (off := 61) (tgt := 62) hx hb d_L_withNumber_1 (by rw [c_4]; decide) (by rw [c_4]; decide) (by rw [c_4]; decide) (by decide) ?_
        refine va_gets (v := .ref (adE 21)) hx hb (z_SLTI hC) hS hown (hT _ m_157) (fun _ h => h) d_L_withNumber_62 ?_
        exact W.aret (v := .ref (adE 21)) hx hb hr (Or.inl ⟨_, rfl⟩) (Or.inr ⟨_, rfl⟩) (fun t ht hW => ⟨some 21, rfl, congrArg some (by rw [f_L_withNumber, if_neg c_1, if_neg c_2, if_pos c_4]), ht⟩) (fun _ h => by cases h) d_L_withNumber_65
      · by_cases c_5 : x0 = 3
        · refine lv_tableIn (off := 65) (tgt := 66) hx hb d_L_withNumber_1 (by rw [c_5]; decide) (by rw [c_5]; decide) (by rw [c_5]; decide) (by decide) ?_
          refine va_gets (v := .ref (adE 22)) hx hb (z_SLTIU hC) hS hown (hT _ m_159) (fun _ h => h) d_L_withNumber_66 ?_
          exact W.aret (v := .ref (adE 22)) hx hb hr (Or.inl ⟨_, rfl⟩) (Or.inr ⟨_, rfl⟩) (fun t ht hW => ⟨some 22, rfl, congrArg some (by rw [f_L_withNumber, if_neg c_1, if_neg c_2, if_neg c_4, if_pos c_5]), ht⟩) (fun _ h => by cases h) d_L_withNumber_69
        · by_cases c_6 : x0 = 4
          · refine lv_tableIn (off := 69) (tgt := 70) hx hb d_L_withNumber_1 (by rw [c_6]; decide) (by rw [c_6]; decide) (by rw [c_6]; decide) (by decide) ?_
            refine va_gets (v := .ref (adE 23)) hx hb (z_XORI hC) hS hown (hT _ m_161) (fun _ h => h) d_L_withNumber_70 ?_
            exact W.aret (v := .ref (adE 23)) hx hb hr (Or.inl ⟨_, rfl⟩) (Or.inr ⟨_, rfl⟩) (fun t ht hW => ⟨some 23, rfl, congrArg some (by rw [f_L_withNumber, if_neg c_1, if_neg c_2, if_neg c_4, if_neg c_5, if_pos c_6]), ht⟩) (fun _ h => by cases h) d_L_withNumber_73
          · by_cases c_7 : x0 = 5
            · refine lv_tableIn (off := 73) (tgt := 74) hx hb d_L_withNumber_1 (by rw [c_7]; decide) (by rw [c_7]; decide) (by rw [c_7]; decide) (by decide) ?_
              refine lv_iload_n hx hb d_L_withNumber_74 rfl (lv_at hl 1 rfl) ?_
              refine call_L_shiftRight S inC m_163 ⟨(Nat.le_of_ble_eq_true rfl), (Nat.le_of_ble_eq_true rfl)⟩ hl.1 (Nat.le_of_ble_eq_true rfl) d_L_withNumber_75 ⟨(Nat.le_of_ble_eq_true rfl), (Nat.le_of_ble_eq_true rfl)⟩ hC hS ?_
              exact W.aret (v := .ref (adE (f_L_shiftRight x1))) hx hb hr (Or.inl ⟨_, rfl⟩) (Or.inr ⟨_, rfl⟩) (fun t ht hW => ⟨some (f_L_shiftRight x1), rfl, congrArg some (by rw [f_L_withNumber, if_neg c_1, if_neg c_2, if_neg c_4, if_neg c_5, if_neg c_6, if_pos c_7]), ht⟩) (fun _ h => by cases h) d_L_withNumber_78
            · by_cases c_8 : x0 = 6
              · refine lv_tableIn (off := 78) (tgt := 79) hx hb d_L_withNumber_1 (by rw [c_8]; decide) (by rw [c_8]; decide) (by rw [c_8]; decide) (by decide) ?_
                refine va_gets (v := .ref (adE 24)) hx hb (z_ORI hC) hS hown (hT _ m_170) (fun _ h => h) d_L_withNumber_79 ?_
                exact W.aret (v := .ref (adE 24)) hx hb hr (Or.inl ⟨_, rfl⟩) (Or.inr ⟨_, rfl⟩) (fun t ht hW => ⟨some 24, rfl, congrArg some (by rw [f_L_withNumber, if_neg c_1, if_neg c_2, if_neg c_4, if_neg c_5, if_neg c_6, if_neg c_7, if_pos c_8]), ht⟩) (fun _ h => by cases h) d_L_withNumber_82
              · refine lv_tableOut (tgt := 83) hx hb d_L_withNumber_1 (by have n0 := lv_neT c_1 (show (0 : Int32).toInt = 0 by decide); have n1 := lv_neT c_2 (show (1 : Int32).toInt = 1 by decide); have n2 := lv_neT c_4 (show (2 : Int32).toInt = 2 by decide); have n3 := lv_neT c_5 (show (3 : Int32).toInt = 3 by decide); have n4 := lv_neT c_6 (show (4 : Int32).toInt = 4 by decide); have n5 := lv_neT c_7 (show (5 : Int32).toInt = 5 by decide); have n6 := lv_neT c_8 (show (6 : Int32).toInt = 6 by decide); omega) (by decide) ?_
                refine va_gets (v := .ref (adE 25)) hx hb (z_ANDI hC) hS hown (hT _ m_172) (fun _ h => h) d_L_withNumber_83 ?_
                exact W.aret (v := .ref (adE 25)) hx hb hr (Or.inl ⟨_, rfl⟩) (Or.inr ⟨_, rfl⟩) (fun t ht hW => ⟨some 25, rfl, congrArg some (by rw [f_L_withNumber, if_neg c_1, if_neg c_2, if_neg c_4, if_neg c_5, if_neg c_6, if_neg c_7, if_neg c_8]), ht⟩) (fun _ h => by cases h) d_L_withNumber_86
theorem call_L_withNumber {p : Program} {l : Launch} {e : Env} {R : Room} {s : State} {m : MethodId} {args : Array Value} {below : List Frame} {meth : Method} {c : Code} {H : Heap} {locs : List Loc} {cells slots : Nat} {Q : State → Prop} {cc : ByteArray} {pc nL idx : Nat} {ls : Array Slot} {rest : List Value} {Ts : List Cond} {own : String} {adE adK adV : Nat → Nat} {A0 : Nat → Prop} {x0 x1 : Int32} (S : CallFix p m c cc nL s args Ts own) (hTs : ∀ w ∈ WT, w ∈ Ts) (h1 : Cond.methodLink own idx y_L_withNumber ∈ WT) (hR : 1 + 1 ≤ R.frames ∧ 8 + (2 + 11) + 20 ≤ R.locals) (hsz : ls.size = nL) (hrm : (rest.map fun v => v.category).sum ≤ 8) (hdg : decode cc pc = .ok (.invokestatic idx, 3)) (hc : cells ≤ R.cells ∧ slots ≤ R.slots) (hC : cx adE adK adV A0 s s.heap) (hS : va_S A0 s.heap H locs) (kk : W p l e R s m args below meth c H locs cells slots Q (F0 m (pc + 3) ls (.ref (adE (f_L_withNumber x0 x1)) :: rest))) : W p l e R s m args below meth c H locs cells slots Q (F0 m pc ls (.int x1 :: .int x0 :: rest)) :=
  va_cse (va_Run.run (va_runS (As := [.int x0, .int x1]) (rest := rest) S (c_L_withNumber l adE adK adV x0 x1) (va_cwS 2 S.2.2.2.2 (gS hTs h1 m_151 m_52 m_152) rfl rfl rfl (by decide +kernel) hR) ⟨fun a U g mk q => ⟨q.1, q.2.blind⟩, fun U hU hW => ⟨rfl, hC.at hS no_in hU hW⟩⟩ rfl rfl hsz rfl (lv_room hrm) hdg hc)) (fun r e => by subst e; exact kk)

def f_L_store (x0 : Int32) : Nat :=
  if x0 = 0 then
    35
  else
    if x0 = 1 then
      36
    else
      if x0 = 2 then
        37
      else
        0
set_option maxRecDepth 100000 in
set_option maxHeartbeats 4000000 in
theorem c_L_store (l : Launch) (adE adK adV : Nat → Nat) (x0 : Int32) : Met l y_L_store (Cond.code y_L_store b_L_store 1 (some (.object "InstructionReader$Kind")) :: WT) ({ frames := 0, cells := 0, slots := 0, locals := 0 }) (va_Pc [.int x0] (fun U => cx adE adK adV no U U.heap)) (va_Se adE (fun r => r = some (f_L_store x0))) 0 0 no := by
  refine va_MetF (cc := b_L_store) (maxL := 1) (ret := (some (.object "InstructionReader$Kind"))) (by decide +kernel) rfl ?_
  intro p e s m args below meth c s₁ B hml hv
  obtain ⟨rfl, hC⟩ := hv
  have hx := B.exec
  have hb := B.bytes
  have hr := B.returns
  have hts := atoms_spec (ws := (Cond.code y_L_store b_L_store 1 (some (.object "InstructionReader$Kind")) :: WT)) B.pre
  have hT : ∀ w ∈ WT, w.before _ s = true := fun w h => hts w (inC w h)
  have hown : s.vm.findClass R_L = some m.cls := findClass_of_methodNamed B.named
  have hlocks := B.notSynchronized
  have hS : va_S no s.heap s.heap [] := va_S.rf
  have S : CallFix p m c b_L_store 1 s _ (Cond.code y_L_store b_L_store 1 (some (.object "InstructionReader$Kind")) :: WT) R_L := ⟨hx, hb, hml, hown, hts⟩
  have hl := lv_entry ([.int x0]) (n := 1) (Nat.le_of_ble_eq_true rfl)
  rw [lg_entry_eq]
  generalize (lg_sl ([.int x0]) ++ List.replicate (1 - (lg_sl ([.int x0])).length) Slot.unset).toArray = ls at hl ⊢
  have hl : lv_has ls 1 [(0, .int x0)] := hl
  refine lv_iload_n hx hb d_L_store_0 rfl (lv_at hl 0 rfl) ?_
  by_cases c_1 : x0 = 0
  · refine lv_tableIn (off := 27) (tgt := 28) hx hb d_L_store_1 (by rw [c_1]; decide) (by rw [c_1]; decide) (by rw [c_1]; decide) (by decide) ?_
    refine va_gets (v := .ref (adE 35)) hx hb (z_SB hC) hS hown (hT _ m_179) (fun _ h => h) d_L_store_28 ?_
    exact W.aret (v := .ref (adE 35)) hx hb hr (Or.inl ⟨_, rfl⟩) (Or.inr ⟨_, rfl⟩) (fun t ht hW => ⟨some 35, rfl, congrArg some (by rw [f_L_store, if_pos c_1]), ht⟩) (fun _ h => by cases h) d_L_store_31
  · by_cases c_2 : x0 = 1
    · refine lv_tableIn (off := 31) (tgt := 32) hx hb d_L_store_1 (by rw [c_2]; decide) (by rw [c_2]; decide) (by rw [c_2]; decide) (by decide) ?_
      refine va_gets (v := .ref (adE 36)) hx hb (z_SH hC) hS hown (hT _ m_181) (fun _ h => h) d_L_store_32 ?_
      exact W.aret (v := .ref (adE 36)) hx hb hr (Or.inl ⟨_, rfl⟩) (Or.inr ⟨_, rfl⟩) (fun t ht hW => ⟨some 36, rfl, congrArg some (by rw [f_L_store, if_neg c_1, if_pos c_2]), ht⟩) (fun _ h => by cases h) d_L_store_35
    · by_cases c_3 : x0 = 2
      · refine lv_tableIn (off := 35) (tgt := 36) hx hb d_L_store_1 (by rw [c_3]; decide) (by rw [c_3]; decide) (by rw [c_3]; decide) (by decide) ?_
        refine va_gets (v := .ref (adE 37)) hx hb (z_SW hC) hS hown (hT _ m_183) (fun _ h => h) d_L_store_36 ?_
        exact W.aret (v := .ref (adE 37)) hx hb hr (Or.inl ⟨_, rfl⟩) (Or.inr ⟨_, rfl⟩) (fun t ht hW => ⟨some 37, rfl, congrArg some (by rw [f_L_store, if_neg c_1, if_neg c_2, if_pos c_3]), ht⟩) (fun _ h => by cases h) d_L_store_39
      · refine lv_tableOut (tgt := 40) hx hb d_L_store_1 (by have n0 := lv_neT c_1 (show (0 : Int32).toInt = 0 by decide); have n1 := lv_neT c_2 (show (1 : Int32).toInt = 1 by decide); have n2 := lv_neT c_3 (show (2 : Int32).toInt = 2 by decide); omega) (by decide) ?_
        refine va_gets (v := .ref (adE 0)) hx hb (z_WORD hC) hS hown (hT _ m_137) (fun _ h => h) d_L_store_40 ?_
        exact W.aret (v := .ref (adE 0)) hx hb hr (Or.inl ⟨_, rfl⟩) (Or.inr ⟨_, rfl⟩) (fun t ht hW => ⟨some 0, rfl, congrArg some (by rw [f_L_store, if_neg c_1, if_neg c_2, if_neg c_3]), ht⟩) (fun _ h => by cases h) d_L_store_43
theorem call_L_store {p : Program} {l : Launch} {e : Env} {R : Room} {s : State} {m : MethodId} {args : Array Value} {below : List Frame} {meth : Method} {c : Code} {H : Heap} {locs : List Loc} {cells slots : Nat} {Q : State → Prop} {cc : ByteArray} {pc nL idx : Nat} {ls : Array Slot} {rest : List Value} {Ts : List Cond} {own : String} {adE adK adV : Nat → Nat} {A0 : Nat → Prop} {x0 : Int32} (S : CallFix p m c cc nL s args Ts own) (hTs : ∀ w ∈ WT, w ∈ Ts) (h1 : Cond.methodLink own idx y_L_store ∈ WT) (hR : 0 + 1 ≤ R.frames ∧ 8 + (1 + 11) + 0 ≤ R.locals) (hsz : ls.size = nL) (hrm : (rest.map fun v => v.category).sum ≤ 8) (hdg : decode cc pc = .ok (.invokestatic idx, 3)) (hc : cells ≤ R.cells ∧ slots ≤ R.slots) (hC : cx adE adK adV A0 s s.heap) (hS : va_S A0 s.heap H locs) (kk : W p l e R s m args below meth c H locs cells slots Q (F0 m (pc + 3) ls (.ref (adE (f_L_store x0)) :: rest))) : W p l e R s m args below meth c H locs cells slots Q (F0 m pc ls (.int x0 :: rest)) :=
  va_cse (va_Run.run (va_runS (As := [.int x0]) (rest := rest) S (c_L_store l adE adK adV x0) (va_cwS 1 S.2.2.2.2 (gS hTs h1 m_177 m_52 m_178) rfl rfl rfl (by decide +kernel) hR) ⟨fun a U g mk q => ⟨q.1, q.2.blind⟩, fun U hU hW => ⟨rfl, hC.at hS no_in hU hW⟩⟩ rfl rfl hsz rfl (lv_room hrm) hdg hc)) (fun r e => by subst e; exact kk)

def f_L_atomic (x0 x1 : Int32) : Nat :=
  if x0 = 0 then
    50
  else
    if x0 = 1 then
      49
    else
      if x0 = 2 then
        if ((x1 >>> ((20 : Int32) &&& 31)) &&& 31) = 0 then
          47
        else
          0
      else
        if x0 = 3 then
          48
        else
          if x0 = 4 then
            51
          else
            if x0 = 8 then
              53
            else
              if x0 = 12 then
                52
              else
                if x0 = 16 then
                  54
                else
                  if x0 = 20 then
                    55
                  else
                    if x0 = 24 then
                      56
                    else
                      if x0 = 28 then
                        57
                      else
                        0
set_option maxRecDepth 100000 in
set_option maxHeartbeats 4000000 in
theorem c_L_atomic (l : Launch) (adE adK adV : Nat → Nat) (x0 x1 : Int32) : Met l y_L_atomic (Cond.code y_L_atomic b_L_atomic 2 (some (.object "InstructionReader$Kind")) :: WT) ({ frames := 0, cells := 0, slots := 0, locals := 0 }) (va_Pc [.int x0, .int x1] (fun U => cx adE adK adV no U U.heap)) (va_Se adE (fun r => r = some (f_L_atomic x0 x1))) 0 0 no := by
  refine va_MetF (cc := b_L_atomic) (maxL := 2) (ret := (some (.object "InstructionReader$Kind"))) (by decide +kernel) rfl ?_
  intro p e s m args below meth c s₁ B hml hv
  obtain ⟨rfl, hC⟩ := hv
  have hx := B.exec
  have hb := B.bytes
  have hr := B.returns
  have hts := atoms_spec (ws := (Cond.code y_L_atomic b_L_atomic 2 (some (.object "InstructionReader$Kind")) :: WT)) B.pre
  have hT : ∀ w ∈ WT, w.before _ s = true := fun w h => hts w (inC w h)
  have hown : s.vm.findClass R_L = some m.cls := findClass_of_methodNamed B.named
  have hlocks := B.notSynchronized
  have hS : va_S no s.heap s.heap [] := va_S.rf
  have S : CallFix p m c b_L_atomic 2 s _ (Cond.code y_L_atomic b_L_atomic 2 (some (.object "InstructionReader$Kind")) :: WT) R_L := ⟨hx, hb, hml, hown, hts⟩
  have hl := lv_entry ([.int x0, .int x1]) (n := 2) (Nat.le_of_ble_eq_true rfl)
  rw [lg_entry_eq]
  generalize (lg_sl ([.int x0, .int x1]) ++ List.replicate (2 - (lg_sl ([.int x0, .int x1])).length) Slot.unset).toArray = ls at hl ⊢
  have hl : lv_has ls 2 [(0, .int x0), (1, .int x1)] := hl
  refine lv_iload_n hx hb d_L_atomic_0 rfl (lv_at hl 0 rfl) ?_
  by_cases c_1 : x0 = 0
  · refine lv_tableIn (off := 131) (tgt := 132) hx hb d_L_atomic_1 (by rw [c_1]; decide) (by rw [c_1]; decide) (by rw [c_1]; decide) (by decide) ?_
    refine va_gets (v := .ref (adE 50)) hx hb (z_AMOADD hC) hS hown (hT _ m_188) (fun _ h => h) d_L_atomic_132 ?_
    exact W.aret (v := .ref (adE 50)) hx hb hr (Or.inl ⟨_, rfl⟩) (Or.inr ⟨_, rfl⟩) (fun t ht hW => ⟨some 50, rfl, congrArg some (by rw [f_L_atomic, if_pos c_1]), ht⟩) (fun _ h => by cases h) d_L_atomic_135
  · by_cases c_2 : x0 = 1
    · refine lv_tableIn (off := 135) (tgt := 136) hx hb d_L_atomic_1 (by rw [c_2]; decide) (by rw [c_2]; decide) (by rw [c_2]; decide) (by decide) ?_
      refine va_gets (v := .ref (adE 49)) hx hb (z_AMOSWAP hC) hS hown (hT _ m_190) (fun _ h => h) d_L_atomic_136 ?_
      exact W.aret (v := .ref (adE 49)) hx hb hr (Or.inl ⟨_, rfl⟩) (Or.inr ⟨_, rfl⟩) (fun t ht hW => ⟨some 49, rfl, congrArg some (by rw [f_L_atomic, if_neg c_1, if_pos c_2]), ht⟩) (fun _ h => by cases h) d_L_atomic_139
    · by_cases c_3 : x0 = 2
      · refine lv_tableIn (off := 139) (tgt := 140) hx hb d_L_atomic_1 (by rw [c_3]; decide) (by rw [c_3]; decide) (by rw [c_3]; decide) (by decide) ?_
        refine lv_iload_n hx hb d_L_atomic_140 rfl (lv_at hl 1 rfl) ?_
        refine lv_bipush (v := 20) hx hb d_L_atomic_141 (by decide) ?_
        refine lv_ishr hx hb d_L_atomic_143 ?_
        refine lv_bipush (v := 31) hx hb d_L_atomic_144 (by decide) ?_
        refine lv_iand hx hb d_L_atomic_146 ?_
        refine lv_if_ne (tgt := 156) hx hb d_L_atomic_147 (by decide) (fun c_4 => ?_) (fun c_4 => ?_)
        · refine va_gets (v := .ref (adE 0)) hx hb (z_WORD hC) hS hown (hT _ m_137) (fun _ h => h) d_L_atomic_156 ?_
          exact W.aret (v := .ref (adE 0)) hx hb hr (Or.inl ⟨_, rfl⟩) (Or.inr ⟨_, rfl⟩) (fun t ht hW => ⟨some 0, rfl, congrArg some (by rw [f_L_atomic, if_neg c_1, if_neg c_2, if_pos c_3, if_neg c_4]), ht⟩) (fun _ h => by cases h) d_L_atomic_159
        · refine va_gets (v := .ref (adE 47)) hx hb (z_LR hC) hS hown (hT _ m_192) (fun _ h => h) d_L_atomic_150 ?_
          refine lv_goto (tgt := 159) hx hb d_L_atomic_153 (by decide) ?_
          exact W.aret (v := .ref (adE 47)) hx hb hr (Or.inl ⟨_, rfl⟩) (Or.inr ⟨_, rfl⟩) (fun t ht hW => ⟨some 47, rfl, congrArg some (by rw [f_L_atomic, if_neg c_1, if_neg c_2, if_pos c_3, if_pos c_4]), ht⟩) (fun _ h => by cases h) d_L_atomic_159
      · by_cases c_5 : x0 = 3
        · refine lv_tableIn (off := 159) (tgt := 160) hx hb d_L_atomic_1 (by rw [c_5]; decide) (by rw [c_5]; decide) (by rw [c_5]; decide) (by decide) ?_
          refine va_gets (v := .ref (adE 48)) hx hb (z_SC hC) hS hown (hT _ m_194) (fun _ h => h) d_L_atomic_160 ?_
          exact W.aret (v := .ref (adE 48)) hx hb hr (Or.inl ⟨_, rfl⟩) (Or.inr ⟨_, rfl⟩) (fun t ht hW => ⟨some 48, rfl, congrArg some (by rw [f_L_atomic, if_neg c_1, if_neg c_2, if_neg c_3, if_pos c_5]), ht⟩) (fun _ h => by cases h) d_L_atomic_163
        · by_cases c_6 : x0 = 4
          · refine lv_tableIn (off := 163) (tgt := 164) hx hb d_L_atomic_1 (by rw [c_6]; decide) (by rw [c_6]; decide) (by rw [c_6]; decide) (by decide) ?_
            refine va_gets (v := .ref (adE 51)) hx hb (z_AMOXOR hC) hS hown (hT _ m_196) (fun _ h => h) d_L_atomic_164 ?_
            exact W.aret (v := .ref (adE 51)) hx hb hr (Or.inl ⟨_, rfl⟩) (Or.inr ⟨_, rfl⟩) (fun t ht hW => ⟨some 51, rfl, congrArg some (by rw [f_L_atomic, if_neg c_1, if_neg c_2, if_neg c_3, if_neg c_5, if_pos c_6]), ht⟩) (fun _ h => by cases h) d_L_atomic_167
          · by_cases c_7 : x0 = 8
            · refine lv_tableIn (off := 167) (tgt := 168) hx hb d_L_atomic_1 (by rw [c_7]; decide) (by rw [c_7]; decide) (by rw [c_7]; decide) (by decide) ?_
              refine va_gets (v := .ref (adE 53)) hx hb (z_AMOOR hC) hS hown (hT _ m_198) (fun _ h => h) d_L_atomic_168 ?_
              exact W.aret (v := .ref (adE 53)) hx hb hr (Or.inl ⟨_, rfl⟩) (Or.inr ⟨_, rfl⟩) (fun t ht hW => ⟨some 53, rfl, congrArg some (by rw [f_L_atomic, if_neg c_1, if_neg c_2, if_neg c_3, if_neg c_5, if_neg c_6, if_pos c_7]), ht⟩) (fun _ h => by cases h) d_L_atomic_171
            · by_cases c_8 : x0 = 12
              · refine lv_tableIn (off := 171) (tgt := 172) hx hb d_L_atomic_1 (by rw [c_8]; decide) (by rw [c_8]; decide) (by rw [c_8]; decide) (by decide) ?_
                refine va_gets (v := .ref (adE 52)) hx hb (z_AMOAND hC) hS hown (hT _ m_200) (fun _ h => h) d_L_atomic_172 ?_
                exact W.aret (v := .ref (adE 52)) hx hb hr (Or.inl ⟨_, rfl⟩) (Or.inr ⟨_, rfl⟩) (fun t ht hW => ⟨some 52, rfl, congrArg some (by rw [f_L_atomic, if_neg c_1, if_neg c_2, if_neg c_3, if_neg c_5, if_neg c_6, if_neg c_7, if_pos c_8]), ht⟩) (fun _ h => by cases h) d_L_atomic_175
              · by_cases c_9 : x0 = 16
                · refine lv_tableIn (off := 175) (tgt := 176) hx hb d_L_atomic_1 (by rw [c_9]; decide) (by rw [c_9]; decide) (by rw [c_9]; decide) (by decide) ?_
                  refine va_gets (v := .ref (adE 54)) hx hb (z_AMOMIN hC) hS hown (hT _ m_202) (fun _ h => h) d_L_atomic_176 ?_
                  exact W.aret (v := .ref (adE 54)) hx hb hr (Or.inl ⟨_, rfl⟩) (Or.inr ⟨_, rfl⟩) (fun t ht hW => ⟨some 54, rfl, congrArg some (by rw [f_L_atomic, if_neg c_1, if_neg c_2, if_neg c_3, if_neg c_5, if_neg c_6, if_neg c_7, if_neg c_8, if_pos c_9]), ht⟩) (fun _ h => by cases h) d_L_atomic_179
                · by_cases c_10 : x0 = 20
                  · refine lv_tableIn (off := 179) (tgt := 180) hx hb d_L_atomic_1 (by rw [c_10]; decide) (by rw [c_10]; decide) (by rw [c_10]; decide) (by decide) ?_
                    refine va_gets (v := .ref (adE 55)) hx hb (z_AMOMAX hC) hS hown (hT _ m_204) (fun _ h => h) d_L_atomic_180 ?_
                    exact W.aret (v := .ref (adE 55)) hx hb hr (Or.inl ⟨_, rfl⟩) (Or.inr ⟨_, rfl⟩) (fun t ht hW => ⟨some 55, rfl, congrArg some (by rw [f_L_atomic, if_neg c_1, if_neg c_2, if_neg c_3, if_neg c_5, if_neg c_6, if_neg c_7, if_neg c_8, if_neg c_9, if_pos c_10]), ht⟩) (fun _ h => by cases h) d_L_atomic_183
                  · by_cases c_11 : x0 = 24
                    · refine lv_tableIn (off := 183) (tgt := 184) hx hb d_L_atomic_1 (by rw [c_11]; decide) (by rw [c_11]; decide) (by rw [c_11]; decide) (by decide) ?_
                      refine va_gets (v := .ref (adE 56)) hx hb (z_AMOMINU hC) hS hown (hT _ m_206) (fun _ h => h) d_L_atomic_184 ?_
                      exact W.aret (v := .ref (adE 56)) hx hb hr (Or.inl ⟨_, rfl⟩) (Or.inr ⟨_, rfl⟩) (fun t ht hW => ⟨some 56, rfl, congrArg some (by rw [f_L_atomic, if_neg c_1, if_neg c_2, if_neg c_3, if_neg c_5, if_neg c_6, if_neg c_7, if_neg c_8, if_neg c_9, if_neg c_10, if_pos c_11]), ht⟩) (fun _ h => by cases h) d_L_atomic_187
                    · by_cases c_12 : x0 = 28
                      · refine lv_tableIn (off := 187) (tgt := 188) hx hb d_L_atomic_1 (by rw [c_12]; decide) (by rw [c_12]; decide) (by rw [c_12]; decide) (by decide) ?_
                        refine va_gets (v := .ref (adE 57)) hx hb (z_AMOMAXU hC) hS hown (hT _ m_208) (fun _ h => h) d_L_atomic_188 ?_
                        exact W.aret (v := .ref (adE 57)) hx hb hr (Or.inl ⟨_, rfl⟩) (Or.inr ⟨_, rfl⟩) (fun t ht hW => ⟨some 57, rfl, congrArg some (by rw [f_L_atomic, if_neg c_1, if_neg c_2, if_neg c_3, if_neg c_5, if_neg c_6, if_neg c_7, if_neg c_8, if_neg c_9, if_neg c_10, if_neg c_11, if_pos c_12]), ht⟩) (fun _ h => by cases h) d_L_atomic_191
                      · refine tb_out (tgt := 192) hx hb d_L_atomic_1 (by have n0 := lv_neT c_1 (show (0 : Int32).toInt = 0 from (by decide)); have n1 := lv_neT c_2 (show (1 : Int32).toInt = 1 from (by decide)); have n2 := lv_neT c_3 (show (2 : Int32).toInt = 2 from (by decide)); have n3 := lv_neT c_5 (show (3 : Int32).toInt = 3 from (by decide)); have n4 := lv_neT c_6 (show (4 : Int32).toInt = 4 from (by decide)); have n5 := lv_neT c_7 (show (8 : Int32).toInt = 8 from (by decide)); have n6 := lv_neT c_8 (show (12 : Int32).toInt = 12 from (by decide)); have n7 := lv_neT c_9 (show (16 : Int32).toInt = 16 from (by decide)); have n8 := lv_neT c_10 (show (20 : Int32).toInt = 20 from (by decide)); have n9 := lv_neT c_11 (show (24 : Int32).toInt = 24 from (by decide)); have n10 := lv_neT c_12 (show (28 : Int32).toInt = 28 from (by decide)); intro j hj hi; have key : ∀ j : Nat, j < 29 → j ∈ ([0, 1, 2, 3, 4, 8, 12, 16, 20, 24, 28] : List Nat) ∨ (#[131, 135, 139, 159, 163, 191, 191, 191, 167, 191, 191, 191, 171, 191, 191, 191, 175, 191, 191, 191, 179, 191, 191, 191, 183, 191, 191, 191, 187] : Array Int)[j]? = some 191 := (by decide); exact (key j (by omega)).elim (fun h => absurd h (by simp only [List.mem_cons, List.not_mem_nil, or_false]; omega)) id) (by decide) ?_
                        refine va_gets (v := .ref (adE 0)) hx hb (z_WORD hC) hS hown (hT _ m_137) (fun _ h => h) d_L_atomic_192 ?_
                        exact W.aret (v := .ref (adE 0)) hx hb hr (Or.inl ⟨_, rfl⟩) (Or.inr ⟨_, rfl⟩) (fun t ht hW => ⟨some 0, rfl, congrArg some (by rw [f_L_atomic, if_neg c_1, if_neg c_2, if_neg c_3, if_neg c_5, if_neg c_6, if_neg c_7, if_neg c_8, if_neg c_9, if_neg c_10, if_neg c_11, if_neg c_12]), ht⟩) (fun _ h => by cases h) d_L_atomic_195
theorem call_L_atomic {p : Program} {l : Launch} {e : Env} {R : Room} {s : State} {m : MethodId} {args : Array Value} {below : List Frame} {meth : Method} {c : Code} {H : Heap} {locs : List Loc} {cells slots : Nat} {Q : State → Prop} {cc : ByteArray} {pc nL idx : Nat} {ls : Array Slot} {rest : List Value} {Ts : List Cond} {own : String} {adE adK adV : Nat → Nat} {A0 : Nat → Prop} {x0 x1 : Int32} (S : CallFix p m c cc nL s args Ts own) (hTs : ∀ w ∈ WT, w ∈ Ts) (h1 : Cond.methodLink own idx y_L_atomic ∈ WT) (hR : 0 + 1 ≤ R.frames ∧ 8 + (2 + 11) + 0 ≤ R.locals) (hsz : ls.size = nL) (hrm : (rest.map fun v => v.category).sum ≤ 8) (hdg : decode cc pc = .ok (.invokestatic idx, 3)) (hc : cells ≤ R.cells ∧ slots ≤ R.slots) (hC : cx adE adK adV A0 s s.heap) (hS : va_S A0 s.heap H locs) (kk : W p l e R s m args below meth c H locs cells slots Q (F0 m (pc + 3) ls (.ref (adE (f_L_atomic x0 x1)) :: rest))) : W p l e R s m args below meth c H locs cells slots Q (F0 m pc ls (.int x1 :: .int x0 :: rest)) :=
  va_cse (va_Run.run (va_runS (As := [.int x0, .int x1]) (rest := rest) S (c_L_atomic l adE adK adV x0 x1) (va_cwS 2 S.2.2.2.2 (gS hTs h1 m_186 m_52 m_187) rfl rfl rfl (by decide +kernel) hR) ⟨fun a U g mk q => ⟨q.1, q.2.blind⟩, fun U hU hW => ⟨rfl, hC.at hS no_in hU hW⟩⟩ rfl rfl hsz rfl (lv_room hrm) hdg hc)) (fun r e => by subst e; exact kk)

def f_L_plain (x0 : Int32) : Nat :=
  if x0 = 0 then
    2
  else
    if x0 = 1 then
      4
    else
      if x0 = 2 then
        5
      else
        if x0 = 3 then
          6
        else
          if x0 = 4 then
            7
          else
            if x0 = 5 then
              8
            else
              if x0 = 6 then
                10
              else
                11
set_option maxRecDepth 100000 in
set_option maxHeartbeats 4000000 in
theorem c_L_plain (l : Launch) (adE adK adV : Nat → Nat) (x0 : Int32) : Met l y_L_plain (Cond.code y_L_plain b_L_plain 1 (some (.object "InstructionReader$Kind")) :: WT) ({ frames := 0, cells := 0, slots := 0, locals := 0 }) (va_Pc [.int x0] (fun U => cx adE adK adV no U U.heap)) (va_Se adE (fun r => r = some (f_L_plain x0))) 0 0 no := by
  refine va_MetF (cc := b_L_plain) (maxL := 1) (ret := (some (.object "InstructionReader$Kind"))) (by decide +kernel) rfl ?_
  intro p e s m args below meth c s₁ B hml hv
  obtain ⟨rfl, hC⟩ := hv
  have hx := B.exec
  have hb := B.bytes
  have hr := B.returns
  have hts := atoms_spec (ws := (Cond.code y_L_plain b_L_plain 1 (some (.object "InstructionReader$Kind")) :: WT)) B.pre
  have hT : ∀ w ∈ WT, w.before _ s = true := fun w h => hts w (inC w h)
  have hown : s.vm.findClass R_L = some m.cls := findClass_of_methodNamed B.named
  have hlocks := B.notSynchronized
  have hS : va_S no s.heap s.heap [] := va_S.rf
  have S : CallFix p m c b_L_plain 1 s _ (Cond.code y_L_plain b_L_plain 1 (some (.object "InstructionReader$Kind")) :: WT) R_L := ⟨hx, hb, hml, hown, hts⟩
  have hl := lv_entry ([.int x0]) (n := 1) (Nat.le_of_ble_eq_true rfl)
  rw [lg_entry_eq]
  generalize (lg_sl ([.int x0]) ++ List.replicate (1 - (lg_sl ([.int x0])).length) Slot.unset).toArray = ls at hl ⊢
  have hl : lv_has ls 1 [(0, .int x0)] := hl
  refine lv_iload_n hx hb d_L_plain_0 rfl (lv_at hl 0 rfl) ?_
  by_cases c_1 : x0 = 0
  · refine lv_tableIn (off := 43) (tgt := 44) hx hb d_L_plain_1 (by rw [c_1]; decide) (by rw [c_1]; decide) (by rw [c_1]; decide) (by decide) ?_
    refine va_gets (v := .ref (adE 2)) hx hb (z_ADD hC) hS hown (hT _ m_216) (fun _ h => h) d_L_plain_44 ?_
    exact W.aret (v := .ref (adE 2)) hx hb hr (Or.inl ⟨_, rfl⟩) (Or.inr ⟨_, rfl⟩) (fun t ht hW => ⟨some 2, rfl, congrArg some (by rw [f_L_plain, if_pos c_1]), ht⟩) (fun _ h => by cases h) d_L_plain_47
  · by_cases c_2 : x0 = 1
    · refine lv_tableIn (off := 47) (tgt := 48) hx hb d_L_plain_1 (by rw [c_2]; decide) (by rw [c_2]; decide) (by rw [c_2]; decide) (by decide) ?_
      refine va_gets (v := .ref (adE 4)) hx hb (z_SLL hC) hS hown (hT _ m_218) (fun _ h => h) d_L_plain_48 ?_
      exact W.aret (v := .ref (adE 4)) hx hb hr (Or.inl ⟨_, rfl⟩) (Or.inr ⟨_, rfl⟩) (fun t ht hW => ⟨some 4, rfl, congrArg some (by rw [f_L_plain, if_neg c_1, if_pos c_2]), ht⟩) (fun _ h => by cases h) d_L_plain_51
    · by_cases c_3 : x0 = 2
      · refine lv_tableIn (off := 51) (tgt := 52) hx hb d_L_plain_1 (by rw [c_3]; decide) (by rw [c_3]; decide) (by rw [c_3]; decide) (by decide) ?_
        refine va_gets (v := .ref (adE 5)) hx hb (z_SLT hC) hS hown (hT _ m_220) (fun _ h => h) d_L_plain_52 ?_
        exact W.aret (v := .ref (adE 5)) hx hb hr (Or.inl ⟨_, rfl⟩) (Or.inr ⟨_, rfl⟩) (fun t ht hW => ⟨some 5, rfl, congrArg some (by rw [f_L_plain, if_neg c_1, if_neg c_2, if_pos c_3]), ht⟩) (fun _ h => by cases h) d_L_plain_55
      · by_cases c_4 : x0 = 3
        · refine lv_tableIn (off := 55) (tgt := 56) hx hb d_L_plain_1 (by rw [c_4]; decide) (by rw [c_4]; decide) (by rw [c_4]; decide) (by decide) ?_
          refine va_gets (v := .ref (adE 6)) hx hb (z_SLTU hC) hS hown (hT _ m_222) (fun _ h => h) d_L_plain_56 ?_
          exact W.aret (v := .ref (adE 6)) hx hb hr (Or.inl ⟨_, rfl⟩) (Or.inr ⟨_, rfl⟩) (fun t ht hW => ⟨some 6, rfl, congrArg some (by rw [f_L_plain, if_neg c_1, if_neg c_2, if_neg c_3, if_pos c_4]), ht⟩) (fun _ h => by cases h) d_L_plain_59
        · by_cases c_5 : x0 = 4
          · refine lv_tableIn (off := 59) (tgt := 60) hx hb d_L_plain_1 (by rw [c_5]; decide) (by rw [c_5]; decide) (by rw [c_5]; decide) (by decide) ?_
            refine va_gets (v := .ref (adE 7)) hx hb (z_XOR hC) hS hown (hT _ m_224) (fun _ h => h) d_L_plain_60 ?_
            exact W.aret (v := .ref (adE 7)) hx hb hr (Or.inl ⟨_, rfl⟩) (Or.inr ⟨_, rfl⟩) (fun t ht hW => ⟨some 7, rfl, congrArg some (by rw [f_L_plain, if_neg c_1, if_neg c_2, if_neg c_3, if_neg c_4, if_pos c_5]), ht⟩) (fun _ h => by cases h) d_L_plain_63
          · by_cases c_6 : x0 = 5
            · refine lv_tableIn (off := 63) (tgt := 64) hx hb d_L_plain_1 (by rw [c_6]; decide) (by rw [c_6]; decide) (by rw [c_6]; decide) (by decide) ?_
              refine va_gets (v := .ref (adE 8)) hx hb (z_SRL hC) hS hown (hT _ m_226) (fun _ h => h) d_L_plain_64 ?_
              exact W.aret (v := .ref (adE 8)) hx hb hr (Or.inl ⟨_, rfl⟩) (Or.inr ⟨_, rfl⟩) (fun t ht hW => ⟨some 8, rfl, congrArg some (by rw [f_L_plain, if_neg c_1, if_neg c_2, if_neg c_3, if_neg c_4, if_neg c_5, if_pos c_6]), ht⟩) (fun _ h => by cases h) d_L_plain_67
            · by_cases c_7 : x0 = 6
              · refine lv_tableIn (off := 67) (tgt := 68) hx hb d_L_plain_1 (by rw [c_7]; decide) (by rw [c_7]; decide) (by rw [c_7]; decide) (by decide) ?_
                refine va_gets (v := .ref (adE 10)) hx hb (z_OR hC) hS hown (hT _ m_228) (fun _ h => h) d_L_plain_68 ?_
                exact W.aret (v := .ref (adE 10)) hx hb hr (Or.inl ⟨_, rfl⟩) (Or.inr ⟨_, rfl⟩) (fun t ht hW => ⟨some 10, rfl, congrArg some (by rw [f_L_plain, if_neg c_1, if_neg c_2, if_neg c_3, if_neg c_4, if_neg c_5, if_neg c_6, if_pos c_7]), ht⟩) (fun _ h => by cases h) d_L_plain_71
              · refine lv_tableOut (tgt := 72) hx hb d_L_plain_1 (by have n0 := lv_neT c_1 (show (0 : Int32).toInt = 0 by decide); have n1 := lv_neT c_2 (show (1 : Int32).toInt = 1 by decide); have n2 := lv_neT c_3 (show (2 : Int32).toInt = 2 by decide); have n3 := lv_neT c_4 (show (3 : Int32).toInt = 3 by decide); have n4 := lv_neT c_5 (show (4 : Int32).toInt = 4 by decide); have n5 := lv_neT c_6 (show (5 : Int32).toInt = 5 by decide); have n6 := lv_neT c_7 (show (6 : Int32).toInt = 6 by decide); omega) (by decide) ?_
                refine va_gets (v := .ref (adE 11)) hx hb (z_AND hC) hS hown (hT _ m_230) (fun _ h => h) d_L_plain_72 ?_
                exact W.aret (v := .ref (adE 11)) hx hb hr (Or.inl ⟨_, rfl⟩) (Or.inr ⟨_, rfl⟩) (fun t ht hW => ⟨some 11, rfl, congrArg some (by rw [f_L_plain, if_neg c_1, if_neg c_2, if_neg c_3, if_neg c_4, if_neg c_5, if_neg c_6, if_neg c_7]), ht⟩) (fun _ h => by cases h) d_L_plain_75
theorem call_L_plain {p : Program} {l : Launch} {e : Env} {R : Room} {s : State} {m : MethodId} {args : Array Value} {below : List Frame} {meth : Method} {c : Code} {H : Heap} {locs : List Loc} {cells slots : Nat} {Q : State → Prop} {cc : ByteArray} {pc nL idx : Nat} {ls : Array Slot} {rest : List Value} {Ts : List Cond} {own : String} {adE adK adV : Nat → Nat} {A0 : Nat → Prop} {x0 : Int32} (S : CallFix p m c cc nL s args Ts own) (hTs : ∀ w ∈ WT, w ∈ Ts) (h1 : Cond.methodLink own idx y_L_plain ∈ WT) (hR : 0 + 1 ≤ R.frames ∧ 8 + (1 + 11) + 0 ≤ R.locals) (hsz : ls.size = nL) (hrm : (rest.map fun v => v.category).sum ≤ 8) (hdg : decode cc pc = .ok (.invokestatic idx, 3)) (hc : cells ≤ R.cells ∧ slots ≤ R.slots) (hC : cx adE adK adV A0 s s.heap) (hS : va_S A0 s.heap H locs) (kk : W p l e R s m args below meth c H locs cells slots Q (F0 m (pc + 3) ls (.ref (adE (f_L_plain x0)) :: rest))) : W p l e R s m args below meth c H locs cells slots Q (F0 m pc ls (.int x0 :: rest)) :=
  va_cse (va_Run.run (va_runS (As := [.int x0]) (rest := rest) S (c_L_plain l adE adK adV x0) (va_cwS 1 S.2.2.2.2 (gS hTs h1 m_214 m_52 m_215) rfl rfl rfl (by decide +kernel) hR) ⟨fun a U g mk q => ⟨q.1, q.2.blind⟩, fun U hU hW => ⟨rfl, hC.at hS no_in hU hW⟩⟩ rfl rfl hsz rfl (lv_room hrm) hdg hc)) (fun r e => by subst e; exact kk)

def f_L_product (x0 : Int32) : Nat :=
  if x0 = 0 then
    12
  else
    if x0 = 1 then
      13
    else
      if x0 = 2 then
        14
      else
        if x0 = 3 then
          15
        else
          if x0 = 4 then
            16
          else
            if x0 = 5 then
              17
            else
              if x0 = 6 then
                18
              else
                19
set_option maxRecDepth 100000 in
set_option maxHeartbeats 4000000 in
theorem c_L_product (l : Launch) (adE adK adV : Nat → Nat) (x0 : Int32) : Met l y_L_product (Cond.code y_L_product b_L_product 1 (some (.object "InstructionReader$Kind")) :: WT) ({ frames := 0, cells := 0, slots := 0, locals := 0 }) (va_Pc [.int x0] (fun U => cx adE adK adV no U U.heap)) (va_Se adE (fun r => r = some (f_L_product x0))) 0 0 no := by
  refine va_MetF (cc := b_L_product) (maxL := 1) (ret := (some (.object "InstructionReader$Kind"))) (by decide +kernel) rfl ?_
  intro p e s m args below meth c s₁ B hml hv
  obtain ⟨rfl, hC⟩ := hv
  have hx := B.exec
  have hb := B.bytes
  have hr := B.returns
  have hts := atoms_spec (ws := (Cond.code y_L_product b_L_product 1 (some (.object "InstructionReader$Kind")) :: WT)) B.pre
  have hT : ∀ w ∈ WT, w.before _ s = true := fun w h => hts w (inC w h)
  have hown : s.vm.findClass R_L = some m.cls := findClass_of_methodNamed B.named
  have hlocks := B.notSynchronized
  have hS : va_S no s.heap s.heap [] := va_S.rf
  have S : CallFix p m c b_L_product 1 s _ (Cond.code y_L_product b_L_product 1 (some (.object "InstructionReader$Kind")) :: WT) R_L := ⟨hx, hb, hml, hown, hts⟩
  have hl := lv_entry ([.int x0]) (n := 1) (Nat.le_of_ble_eq_true rfl)
  rw [lg_entry_eq]
  generalize (lg_sl ([.int x0]) ++ List.replicate (1 - (lg_sl ([.int x0])).length) Slot.unset).toArray = ls at hl ⊢
  have hl : lv_has ls 1 [(0, .int x0)] := hl
  refine lv_iload_n hx hb d_L_product_0 rfl (lv_at hl 0 rfl) ?_
  by_cases c_1 : x0 = 0
  · refine lv_tableIn (off := 43) (tgt := 44) hx hb d_L_product_1 (by rw [c_1]; decide) (by rw [c_1]; decide) (by rw [c_1]; decide) (by decide) ?_
    refine va_gets (v := .ref (adE 12)) hx hb (z_MUL hC) hS hown (hT _ m_235) (fun _ h => h) d_L_product_44 ?_
    exact W.aret (v := .ref (adE 12)) hx hb hr (Or.inl ⟨_, rfl⟩) (Or.inr ⟨_, rfl⟩) (fun t ht hW => ⟨some 12, rfl, congrArg some (by rw [f_L_product, if_pos c_1]), ht⟩) (fun _ h => by cases h) d_L_product_47
  · by_cases c_2 : x0 = 1
    · refine lv_tableIn (off := 47) (tgt := 48) hx hb d_L_product_1 (by rw [c_2]; decide) (by rw [c_2]; decide) (by rw [c_2]; decide) (by decide) ?_
      refine va_gets (v := .ref (adE 13)) hx hb (z_MULH hC) hS hown (hT _ m_237) (fun _ h => h) d_L_product_48 ?_
      exact W.aret (v := .ref (adE 13)) hx hb hr (Or.inl ⟨_, rfl⟩) (Or.inr ⟨_, rfl⟩) (fun t ht hW => ⟨some 13, rfl, congrArg some (by rw [f_L_product, if_neg c_1, if_pos c_2]), ht⟩) (fun _ h => by cases h) d_L_product_51
    · by_cases c_3 : x0 = 2
      · refine lv_tableIn (off := 51) (tgt := 52) hx hb d_L_product_1 (by rw [c_3]; decide) (by rw [c_3]; decide) (by rw [c_3]; decide) (by decide) ?_
        refine va_gets (v := .ref (adE 14)) hx hb (z_MULHSU hC) hS hown (hT _ m_239) (fun _ h => h) d_L_product_52 ?_
        exact W.aret (v := .ref (adE 14)) hx hb hr (Or.inl ⟨_, rfl⟩) (Or.inr ⟨_, rfl⟩) (fun t ht hW => ⟨some 14, rfl, congrArg some (by rw [f_L_product, if_neg c_1, if_neg c_2, if_pos c_3]), ht⟩) (fun _ h => by cases h) d_L_product_55
      · by_cases c_4 : x0 = 3
        · refine lv_tableIn (off := 55) (tgt := 56) hx hb d_L_product_1 (by rw [c_4]; decide) (by rw [c_4]; decide) (by rw [c_4]; decide) (by decide) ?_
          refine va_gets (v := .ref (adE 15)) hx hb (z_MULHU hC) hS hown (hT _ m_241) (fun _ h => h) d_L_product_56 ?_
          exact W.aret (v := .ref (adE 15)) hx hb hr (Or.inl ⟨_, rfl⟩) (Or.inr ⟨_, rfl⟩) (fun t ht hW => ⟨some 15, rfl, congrArg some (by rw [f_L_product, if_neg c_1, if_neg c_2, if_neg c_3, if_pos c_4]), ht⟩) (fun _ h => by cases h) d_L_product_59
        · by_cases c_5 : x0 = 4
          · refine lv_tableIn (off := 59) (tgt := 60) hx hb d_L_product_1 (by rw [c_5]; decide) (by rw [c_5]; decide) (by rw [c_5]; decide) (by decide) ?_
            refine va_gets (v := .ref (adE 16)) hx hb (z_DIV hC) hS hown (hT _ m_243) (fun _ h => h) d_L_product_60 ?_
            exact W.aret (v := .ref (adE 16)) hx hb hr (Or.inl ⟨_, rfl⟩) (Or.inr ⟨_, rfl⟩) (fun t ht hW => ⟨some 16, rfl, congrArg some (by rw [f_L_product, if_neg c_1, if_neg c_2, if_neg c_3, if_neg c_4, if_pos c_5]), ht⟩) (fun _ h => by cases h) d_L_product_63
          · by_cases c_6 : x0 = 5
            · refine lv_tableIn (off := 63) (tgt := 64) hx hb d_L_product_1 (by rw [c_6]; decide) (by rw [c_6]; decide) (by rw [c_6]; decide) (by decide) ?_
              refine va_gets (v := .ref (adE 17)) hx hb (z_DIVU hC) hS hown (hT _ m_245) (fun _ h => h) d_L_product_64 ?_
              exact W.aret (v := .ref (adE 17)) hx hb hr (Or.inl ⟨_, rfl⟩) (Or.inr ⟨_, rfl⟩) (fun t ht hW => ⟨some 17, rfl, congrArg some (by rw [f_L_product, if_neg c_1, if_neg c_2, if_neg c_3, if_neg c_4, if_neg c_5, if_pos c_6]), ht⟩) (fun _ h => by cases h) d_L_product_67
            · by_cases c_7 : x0 = 6
              · refine lv_tableIn (off := 67) (tgt := 68) hx hb d_L_product_1 (by rw [c_7]; decide) (by rw [c_7]; decide) (by rw [c_7]; decide) (by decide) ?_
                refine va_gets (v := .ref (adE 18)) hx hb (z_REM hC) hS hown (hT _ m_247) (fun _ h => h) d_L_product_68 ?_
                exact W.aret (v := .ref (adE 18)) hx hb hr (Or.inl ⟨_, rfl⟩) (Or.inr ⟨_, rfl⟩) (fun t ht hW => ⟨some 18, rfl, congrArg some (by rw [f_L_product, if_neg c_1, if_neg c_2, if_neg c_3, if_neg c_4, if_neg c_5, if_neg c_6, if_pos c_7]), ht⟩) (fun _ h => by cases h) d_L_product_71
              · refine lv_tableOut (tgt := 72) hx hb d_L_product_1 (by have n0 := lv_neT c_1 (show (0 : Int32).toInt = 0 by decide); have n1 := lv_neT c_2 (show (1 : Int32).toInt = 1 by decide); have n2 := lv_neT c_3 (show (2 : Int32).toInt = 2 by decide); have n3 := lv_neT c_4 (show (3 : Int32).toInt = 3 by decide); have n4 := lv_neT c_5 (show (4 : Int32).toInt = 4 by decide); have n5 := lv_neT c_6 (show (5 : Int32).toInt = 5 by decide); have n6 := lv_neT c_7 (show (6 : Int32).toInt = 6 by decide); omega) (by decide) ?_
                refine va_gets (v := .ref (adE 19)) hx hb (z_REMU hC) hS hown (hT _ m_249) (fun _ h => h) d_L_product_72 ?_
                exact W.aret (v := .ref (adE 19)) hx hb hr (Or.inl ⟨_, rfl⟩) (Or.inr ⟨_, rfl⟩) (fun t ht hW => ⟨some 19, rfl, congrArg some (by rw [f_L_product, if_neg c_1, if_neg c_2, if_neg c_3, if_neg c_4, if_neg c_5, if_neg c_6, if_neg c_7]), ht⟩) (fun _ h => by cases h) d_L_product_75
theorem call_L_product {p : Program} {l : Launch} {e : Env} {R : Room} {s : State} {m : MethodId} {args : Array Value} {below : List Frame} {meth : Method} {c : Code} {H : Heap} {locs : List Loc} {cells slots : Nat} {Q : State → Prop} {cc : ByteArray} {pc nL idx : Nat} {ls : Array Slot} {rest : List Value} {Ts : List Cond} {own : String} {adE adK adV : Nat → Nat} {A0 : Nat → Prop} {x0 : Int32} (S : CallFix p m c cc nL s args Ts own) (hTs : ∀ w ∈ WT, w ∈ Ts) (h1 : Cond.methodLink own idx y_L_product ∈ WT) (hR : 0 + 1 ≤ R.frames ∧ 8 + (1 + 11) + 0 ≤ R.locals) (hsz : ls.size = nL) (hrm : (rest.map fun v => v.category).sum ≤ 8) (hdg : decode cc pc = .ok (.invokestatic idx, 3)) (hc : cells ≤ R.cells ∧ slots ≤ R.slots) (hC : cx adE adK adV A0 s s.heap) (hS : va_S A0 s.heap H locs) (kk : W p l e R s m args below meth c H locs cells slots Q (F0 m (pc + 3) ls (.ref (adE (f_L_product x0)) :: rest))) : W p l e R s m args below meth c H locs cells slots Q (F0 m pc ls (.int x0 :: rest)) :=
  va_cse (va_Run.run (va_runS (As := [.int x0]) (rest := rest) S (c_L_product l adE adK adV x0) (va_cwS 1 S.2.2.2.2 (gS hTs h1 m_233 m_52 m_234) rfl rfl rfl (by decide +kernel) hR) ⟨fun a U g mk q => ⟨q.1, q.2.blind⟩, fun U hU hW => ⟨rfl, hC.at hS no_in hU hW⟩⟩ rfl rfl hsz rfl (lv_room hrm) hdg hc)) (fun r e => by subst e; exact kk)

def f_L_secondOfTwo (x0 : Int32) : Nat :=
  if x0 = 0 then
    3
  else
    if x0 = 5 then
      9
    else
      0
set_option maxRecDepth 100000 in
set_option maxHeartbeats 4000000 in
theorem c_L_secondOfTwo (l : Launch) (adE adK adV : Nat → Nat) (x0 : Int32) : Met l y_L_secondOfTwo (Cond.code y_L_secondOfTwo b_L_secondOfTwo 1 (some (.object "InstructionReader$Kind")) :: WT) ({ frames := 0, cells := 0, slots := 0, locals := 0 }) (va_Pc [.int x0] (fun U => cx adE adK adV no U U.heap)) (va_Se adE (fun r => r = some (f_L_secondOfTwo x0))) 0 0 no := by
  refine va_MetF (cc := b_L_secondOfTwo) (maxL := 1) (ret := (some (.object "InstructionReader$Kind"))) (by decide +kernel) rfl ?_
  intro p e s m args below meth c s₁ B hml hv
  obtain ⟨rfl, hC⟩ := hv
  have hx := B.exec
  have hb := B.bytes
  have hr := B.returns
  have hts := atoms_spec (ws := (Cond.code y_L_secondOfTwo b_L_secondOfTwo 1 (some (.object "InstructionReader$Kind")) :: WT)) B.pre
  have hT : ∀ w ∈ WT, w.before _ s = true := fun w h => hts w (inC w h)
  have hown : s.vm.findClass R_L = some m.cls := findClass_of_methodNamed B.named
  have hlocks := B.notSynchronized
  have hS : va_S no s.heap s.heap [] := va_S.rf
  have S : CallFix p m c b_L_secondOfTwo 1 s _ (Cond.code y_L_secondOfTwo b_L_secondOfTwo 1 (some (.object "InstructionReader$Kind")) :: WT) R_L := ⟨hx, hb, hml, hown, hts⟩
  have hl := lv_entry ([.int x0]) (n := 1) (Nat.le_of_ble_eq_true rfl)
  rw [lg_entry_eq]
  generalize (lg_sl ([.int x0]) ++ List.replicate (1 - (lg_sl ([.int x0])).length) Slot.unset).toArray = ls at hl ⊢
  have hl : lv_has ls 1 [(0, .int x0)] := hl
  refine lv_iload_n hx hb d_L_secondOfTwo_0 rfl (lv_at hl 0 rfl) ?_
  by_cases c_1 : x0 = 0
  · refine lv_lookup (off := 27) (tgt := 28) hx hb d_L_secondOfTwo_1 (by decide) (by rw [c_1]; decide) (by decide) ?_
    refine va_gets (v := .ref (adE 3)) hx hb (z_SUB hC) hS hown (hT _ m_254) (fun _ h => h) d_L_secondOfTwo_28 ?_
    exact W.aret (v := .ref (adE 3)) hx hb hr (Or.inl ⟨_, rfl⟩) (Or.inr ⟨_, rfl⟩) (fun t ht hW => ⟨some 3, rfl, congrArg some (by rw [f_L_secondOfTwo, if_pos c_1]), ht⟩) (fun _ h => by cases h) d_L_secondOfTwo_31
  · by_cases c_2 : x0 = 5
    · refine lv_lookup (off := 31) (tgt := 32) hx hb d_L_secondOfTwo_1 (by decide) (by rw [c_2]; decide) (by decide) ?_
      refine va_gets (v := .ref (adE 9)) hx hb (z_SRA hC) hS hown (hT _ m_256) (fun _ h => h) d_L_secondOfTwo_32 ?_
      exact W.aret (v := .ref (adE 9)) hx hb hr (Or.inl ⟨_, rfl⟩) (Or.inr ⟨_, rfl⟩) (fun t ht hW => ⟨some 9, rfl, congrArg some (by rw [f_L_secondOfTwo, if_neg c_1, if_pos c_2]), ht⟩) (fun _ h => by cases h) d_L_secondOfTwo_35
    · refine lv_lookup (off := 35) (tgt := 36) hx hb d_L_secondOfTwo_1 (by decide) (by show Op.lookupswitch.offset [(0, 27), (5, 31)] 35 _ = 35; rw [lv_osw c_1 (by decide), lv_osw c_2 (by decide)]; rfl) (by decide) ?_
      refine va_gets (v := .ref (adE 0)) hx hb (z_WORD hC) hS hown (hT _ m_137) (fun _ h => h) d_L_secondOfTwo_36 ?_
      exact W.aret (v := .ref (adE 0)) hx hb hr (Or.inl ⟨_, rfl⟩) (Or.inr ⟨_, rfl⟩) (fun t ht hW => ⟨some 0, rfl, congrArg some (by rw [f_L_secondOfTwo, if_neg c_1, if_neg c_2]), ht⟩) (fun _ h => by cases h) d_L_secondOfTwo_39
theorem call_L_secondOfTwo {p : Program} {l : Launch} {e : Env} {R : Room} {s : State} {m : MethodId} {args : Array Value} {below : List Frame} {meth : Method} {c : Code} {H : Heap} {locs : List Loc} {cells slots : Nat} {Q : State → Prop} {cc : ByteArray} {pc nL idx : Nat} {ls : Array Slot} {rest : List Value} {Ts : List Cond} {own : String} {adE adK adV : Nat → Nat} {A0 : Nat → Prop} {x0 : Int32} (S : CallFix p m c cc nL s args Ts own) (hTs : ∀ w ∈ WT, w ∈ Ts) (h1 : Cond.methodLink own idx y_L_secondOfTwo ∈ WT) (hR : 0 + 1 ≤ R.frames ∧ 8 + (1 + 11) + 0 ≤ R.locals) (hsz : ls.size = nL) (hrm : (rest.map fun v => v.category).sum ≤ 8) (hdg : decode cc pc = .ok (.invokestatic idx, 3)) (hc : cells ≤ R.cells ∧ slots ≤ R.slots) (hC : cx adE adK adV A0 s s.heap) (hS : va_S A0 s.heap H locs) (kk : W p l e R s m args below meth c H locs cells slots Q (F0 m (pc + 3) ls (.ref (adE (f_L_secondOfTwo x0)) :: rest))) : W p l e R s m args below meth c H locs cells slots Q (F0 m pc ls (.int x0 :: rest)) :=
  va_cse (va_Run.run (va_runS (As := [.int x0]) (rest := rest) S (c_L_secondOfTwo l adE adK adV x0) (va_cwS 1 S.2.2.2.2 (gS hTs h1 m_252 m_52 m_253) rfl rfl rfl (by decide +kernel) hR) ⟨fun a U g mk q => ⟨q.1, q.2.blind⟩, fun U hU hW => ⟨rfl, hC.at hS no_in hU hW⟩⟩ rfl rfl hsz rfl (lv_room hrm) hdg hc)) (fun r e => by subst e; exact kk)

def f_L_ofRegisters (x0 x1 : Int32) : Nat :=
  if x1 = 0 then
    f_L_plain x0
  else
    if x1 = 1 then
      f_L_product x0
    else
      if x1 = 32 then
        f_L_secondOfTwo x0
      else
        0
set_option maxRecDepth 100000 in
set_option maxHeartbeats 4000000 in
theorem c_L_ofRegisters (l : Launch) (adE adK adV : Nat → Nat) (x0 x1 : Int32) : Met l y_L_ofRegisters (Cond.code y_L_ofRegisters b_L_ofRegisters 2 (some (.object "InstructionReader$Kind")) :: WT) ({ frames := 1, cells := 0, slots := 0, locals := 20 }) (va_Pc [.int x0, .int x1] (fun U => cx adE adK adV no U U.heap)) (va_Se adE (fun r => r = some (f_L_ofRegisters x0 x1))) 0 0 no := by
  refine va_MetF (cc := b_L_ofRegisters) (maxL := 2) (ret := (some (.object "InstructionReader$Kind"))) (by decide +kernel) rfl ?_
  intro p e s m args below meth c s₁ B hml hv
  obtain ⟨rfl, hC⟩ := hv
  have hx := B.exec
  have hb := B.bytes
  have hr := B.returns
  have hts := atoms_spec (ws := (Cond.code y_L_ofRegisters b_L_ofRegisters 2 (some (.object "InstructionReader$Kind")) :: WT)) B.pre
  have hT : ∀ w ∈ WT, w.before _ s = true := fun w h => hts w (inC w h)
  have hown : s.vm.findClass R_L = some m.cls := findClass_of_methodNamed B.named
  have hlocks := B.notSynchronized
  have hS : va_S no s.heap s.heap [] := va_S.rf
  have S : CallFix p m c b_L_ofRegisters 2 s _ (Cond.code y_L_ofRegisters b_L_ofRegisters 2 (some (.object "InstructionReader$Kind")) :: WT) R_L := ⟨hx, hb, hml, hown, hts⟩
  have hl := lv_entry ([.int x0, .int x1]) (n := 2) (Nat.le_of_ble_eq_true rfl)
  rw [lg_entry_eq]
  generalize (lg_sl ([.int x0, .int x1]) ++ List.replicate (2 - (lg_sl ([.int x0, .int x1])).length) Slot.unset).toArray = ls at hl ⊢
  have hl : lv_has ls 2 [(0, .int x0), (1, .int x1)] := hl
  refine lv_iload_n hx hb d_L_ofRegisters_0 rfl (lv_at hl 1 rfl) ?_
  by_cases c_1 : x1 = 0
  · refine lv_lookup (off := 35) (tgt := 36) hx hb d_L_ofRegisters_1 (by decide) (by rw [c_1]; decide) (by decide) ?_
    refine lv_iload_n hx hb d_L_ofRegisters_36 rfl (lv_at hl 0 rfl) ?_
    refine call_L_plain S inC m_213 ⟨(Nat.le_of_ble_eq_true rfl), (Nat.le_of_ble_eq_true rfl)⟩ hl.1 (Nat.le_of_ble_eq_true rfl) d_L_ofRegisters_37 ⟨(Nat.le_of_ble_eq_true rfl), (Nat.le_of_ble_eq_true rfl)⟩ hC hS ?_
    exact W.aret (v := .ref (adE (f_L_plain x0))) hx hb hr (Or.inl ⟨_, rfl⟩) (Or.inr ⟨_, rfl⟩) (fun t ht hW => ⟨some (f_L_plain x0), rfl, congrArg some (by rw [f_L_ofRegisters, if_pos c_1]), ht⟩) (fun _ h => by cases h) d_L_ofRegisters_40
  · by_cases c_2 : x1 = 1
    · refine lv_lookup (off := 40) (tgt := 41) hx hb d_L_ofRegisters_1 (by decide) (by rw [c_2]; decide) (by decide) ?_
      refine lv_iload_n hx hb d_L_ofRegisters_41 rfl (lv_at hl 0 rfl) ?_
      refine call_L_product S inC m_232 ⟨(Nat.le_of_ble_eq_true rfl), (Nat.le_of_ble_eq_true rfl)⟩ hl.1 (Nat.le_of_ble_eq_true rfl) d_L_ofRegisters_42 ⟨(Nat.le_of_ble_eq_true rfl), (Nat.le_of_ble_eq_true rfl)⟩ hC hS ?_
      exact W.aret (v := .ref (adE (f_L_product x0))) hx hb hr (Or.inl ⟨_, rfl⟩) (Or.inr ⟨_, rfl⟩) (fun t ht hW => ⟨some (f_L_product x0), rfl, congrArg some (by rw [f_L_ofRegisters, if_neg c_1, if_pos c_2]), ht⟩) (fun _ h => by cases h) d_L_ofRegisters_45
    · by_cases c_3 : x1 = 32
      · refine lv_lookup (off := 45) (tgt := 46) hx hb d_L_ofRegisters_1 (by decide) (by rw [c_3]; decide) (by decide) ?_
        refine lv_iload_n hx hb d_L_ofRegisters_46 rfl (lv_at hl 0 rfl) ?_
        refine call_L_secondOfTwo S inC m_251 ⟨(Nat.le_of_ble_eq_true rfl), (Nat.le_of_ble_eq_true rfl)⟩ hl.1 (Nat.le_of_ble_eq_true rfl) d_L_ofRegisters_47 ⟨(Nat.le_of_ble_eq_true rfl), (Nat.le_of_ble_eq_true rfl)⟩ hC hS ?_
        exact W.aret (v := .ref (adE (f_L_secondOfTwo x0))) hx hb hr (Or.inl ⟨_, rfl⟩) (Or.inr ⟨_, rfl⟩) (fun t ht hW => ⟨some (f_L_secondOfTwo x0), rfl, congrArg some (by rw [f_L_ofRegisters, if_neg c_1, if_neg c_2, if_pos c_3]), ht⟩) (fun _ h => by cases h) d_L_ofRegisters_50
      · refine lv_lookup (off := 50) (tgt := 51) hx hb d_L_ofRegisters_1 (by decide) (by show Op.lookupswitch.offset [(0, 35), (1, 40), (32, 45)] 50 _ = 50; rw [lv_osw c_1 (by decide), lv_osw c_2 (by decide), lv_osw c_3 (by decide)]; rfl) (by decide) ?_
        refine va_gets (v := .ref (adE 0)) hx hb (z_WORD hC) hS hown (hT _ m_137) (fun _ h => h) d_L_ofRegisters_51 ?_
        exact W.aret (v := .ref (adE 0)) hx hb hr (Or.inl ⟨_, rfl⟩) (Or.inr ⟨_, rfl⟩) (fun t ht hW => ⟨some 0, rfl, congrArg some (by rw [f_L_ofRegisters, if_neg c_1, if_neg c_2, if_neg c_3]), ht⟩) (fun _ h => by cases h) d_L_ofRegisters_54
theorem call_L_ofRegisters {p : Program} {l : Launch} {e : Env} {R : Room} {s : State} {m : MethodId} {args : Array Value} {below : List Frame} {meth : Method} {c : Code} {H : Heap} {locs : List Loc} {cells slots : Nat} {Q : State → Prop} {cc : ByteArray} {pc nL idx : Nat} {ls : Array Slot} {rest : List Value} {Ts : List Cond} {own : String} {adE adK adV : Nat → Nat} {A0 : Nat → Prop} {x0 x1 : Int32} (S : CallFix p m c cc nL s args Ts own) (hTs : ∀ w ∈ WT, w ∈ Ts) (h1 : Cond.methodLink own idx y_L_ofRegisters ∈ WT) (hR : 1 + 1 ≤ R.frames ∧ 8 + (2 + 11) + 20 ≤ R.locals) (hsz : ls.size = nL) (hrm : (rest.map fun v => v.category).sum ≤ 8) (hdg : decode cc pc = .ok (.invokestatic idx, 3)) (hc : cells ≤ R.cells ∧ slots ≤ R.slots) (hC : cx adE adK adV A0 s s.heap) (hS : va_S A0 s.heap H locs) (kk : W p l e R s m args below meth c H locs cells slots Q (F0 m (pc + 3) ls (.ref (adE (f_L_ofRegisters x0 x1)) :: rest))) : W p l e R s m args below meth c H locs cells slots Q (F0 m pc ls (.int x1 :: .int x0 :: rest)) :=
  va_cse (va_Run.run (va_runS (As := [.int x0, .int x1]) (rest := rest) S (c_L_ofRegisters l adE adK adV x0 x1) (va_cwS 2 S.2.2.2.2 (gS hTs h1 m_211 m_52 m_212) rfl rfl rfl (by decide +kernel) hR) ⟨fun a U g mk q => ⟨q.1, q.2.blind⟩, fun U hU hW => ⟨rfl, hC.at hS no_in hU hW⟩⟩ rfl rfl hsz rfl (lv_room hrm) hdg hc)) (fun r e => by subst e; exact kk)

def f_L_branch (x0 : Int32) : Nat :=
  if x0 = 0 then
    40
  else
    if x0 = 1 then
      41
    else
      if x0 = 4 then
        42
      else
        if x0 = 5 then
          43
        else
          if x0 = 6 then
            44
          else
            if x0 = 7 then
              45
            else
              0
set_option maxRecDepth 100000 in
set_option maxHeartbeats 4000000 in
theorem c_L_branch (l : Launch) (adE adK adV : Nat → Nat) (x0 : Int32) : Met l y_L_branch (Cond.code y_L_branch b_L_branch 1 (some (.object "InstructionReader$Kind")) :: WT) ({ frames := 0, cells := 0, slots := 0, locals := 0 }) (va_Pc [.int x0] (fun U => cx adE adK adV no U U.heap)) (va_Se adE (fun r => r = some (f_L_branch x0))) 0 0 no := by
  refine va_MetF (cc := b_L_branch) (maxL := 1) (ret := (some (.object "InstructionReader$Kind"))) (by decide +kernel) rfl ?_
  intro p e s m args below meth c s₁ B hml hv
  obtain ⟨rfl, hC⟩ := hv
  have hx := B.exec
  have hb := B.bytes
  have hr := B.returns
  have hts := atoms_spec (ws := (Cond.code y_L_branch b_L_branch 1 (some (.object "InstructionReader$Kind")) :: WT)) B.pre
  have hT : ∀ w ∈ WT, w.before _ s = true := fun w h => hts w (inC w h)
  have hown : s.vm.findClass R_L = some m.cls := findClass_of_methodNamed B.named
  have hlocks := B.notSynchronized
  have hS : va_S no s.heap s.heap [] := va_S.rf
  have S : CallFix p m c b_L_branch 1 s _ (Cond.code y_L_branch b_L_branch 1 (some (.object "InstructionReader$Kind")) :: WT) R_L := ⟨hx, hb, hml, hown, hts⟩
  have hl := lv_entry ([.int x0]) (n := 1) (Nat.le_of_ble_eq_true rfl)
  rw [lg_entry_eq]
  generalize (lg_sl ([.int x0]) ++ List.replicate (1 - (lg_sl ([.int x0])).length) Slot.unset).toArray = ls at hl ⊢
  have hl : lv_has ls 1 [(0, .int x0)] := hl
  refine lv_iload_n hx hb d_L_branch_0 rfl (lv_at hl 0 rfl) ?_
  by_cases c_1 : x0 = 0
  · refine lv_tableIn (off := 47) (tgt := 48) hx hb d_L_branch_1 (by rw [c_1]; decide) (by rw [c_1]; decide) (by rw [c_1]; decide) (by decide) ?_
    refine va_gets (v := .ref (adE 40)) hx hb (z_BEQ hC) hS hown (hT _ m_263) (fun _ h => h) d_L_branch_48 ?_
    exact W.aret (v := .ref (adE 40)) hx hb hr (Or.inl ⟨_, rfl⟩) (Or.inr ⟨_, rfl⟩) (fun t ht hW => ⟨some 40, rfl, congrArg some (by rw [f_L_branch, if_pos c_1]), ht⟩) (fun _ h => by cases h) d_L_branch_51
  · by_cases c_2 : x0 = 1
    · refine lv_tableIn (off := 51) (tgt := 52) hx hb d_L_branch_1 (by rw [c_2]; decide) (by rw [c_2]; decide) (by rw [c_2]; decide) (by decide) ?_
      refine va_gets (v := .ref (adE 41)) hx hb (z_BNE hC) hS hown (hT _ m_265) (fun _ h => h) d_L_branch_52 ?_
      exact W.aret (v := .ref (adE 41)) hx hb hr (Or.inl ⟨_, rfl⟩) (Or.inr ⟨_, rfl⟩) (fun t ht hW => ⟨some 41, rfl, congrArg some (by rw [f_L_branch, if_neg c_1, if_pos c_2]), ht⟩) (fun _ h => by cases h) d_L_branch_55
    · by_cases c_3 : x0 = 4
      · refine lv_tableIn (off := 55) (tgt := 56) hx hb d_L_branch_1 (by rw [c_3]; decide) (by rw [c_3]; decide) (by rw [c_3]; decide) (by decide) ?_
        refine va_gets (v := .ref (adE 42)) hx hb (z_BLT hC) hS hown (hT _ m_267) (fun _ h => h) d_L_branch_56 ?_
        exact W.aret (v := .ref (adE 42)) hx hb hr (Or.inl ⟨_, rfl⟩) (Or.inr ⟨_, rfl⟩) (fun t ht hW => ⟨some 42, rfl, congrArg some (by rw [f_L_branch, if_neg c_1, if_neg c_2, if_pos c_3]), ht⟩) (fun _ h => by cases h) d_L_branch_59
      · by_cases c_4 : x0 = 5
        · refine lv_tableIn (off := 59) (tgt := 60) hx hb d_L_branch_1 (by rw [c_4]; decide) (by rw [c_4]; decide) (by rw [c_4]; decide) (by decide) ?_
          refine va_gets (v := .ref (adE 43)) hx hb (z_BGE hC) hS hown (hT _ m_269) (fun _ h => h) d_L_branch_60 ?_
          exact W.aret (v := .ref (adE 43)) hx hb hr (Or.inl ⟨_, rfl⟩) (Or.inr ⟨_, rfl⟩) (fun t ht hW => ⟨some 43, rfl, congrArg some (by rw [f_L_branch, if_neg c_1, if_neg c_2, if_neg c_3, if_pos c_4]), ht⟩) (fun _ h => by cases h) d_L_branch_63
        · by_cases c_5 : x0 = 6
          · refine lv_tableIn (off := 63) (tgt := 64) hx hb d_L_branch_1 (by rw [c_5]; decide) (by rw [c_5]; decide) (by rw [c_5]; decide) (by decide) ?_
            refine va_gets (v := .ref (adE 44)) hx hb (z_BLTU hC) hS hown (hT _ m_271) (fun _ h => h) d_L_branch_64 ?_
            exact W.aret (v := .ref (adE 44)) hx hb hr (Or.inl ⟨_, rfl⟩) (Or.inr ⟨_, rfl⟩) (fun t ht hW => ⟨some 44, rfl, congrArg some (by rw [f_L_branch, if_neg c_1, if_neg c_2, if_neg c_3, if_neg c_4, if_pos c_5]), ht⟩) (fun _ h => by cases h) d_L_branch_67
          · by_cases c_6 : x0 = 7
            · refine lv_tableIn (off := 67) (tgt := 68) hx hb d_L_branch_1 (by rw [c_6]; decide) (by rw [c_6]; decide) (by rw [c_6]; decide) (by decide) ?_
              refine va_gets (v := .ref (adE 45)) hx hb (z_BGEU hC) hS hown (hT _ m_273) (fun _ h => h) d_L_branch_68 ?_
              exact W.aret (v := .ref (adE 45)) hx hb hr (Or.inl ⟨_, rfl⟩) (Or.inr ⟨_, rfl⟩) (fun t ht hW => ⟨some 45, rfl, congrArg some (by rw [f_L_branch, if_neg c_1, if_neg c_2, if_neg c_3, if_neg c_4, if_neg c_5, if_pos c_6]), ht⟩) (fun _ h => by cases h) d_L_branch_71
            · refine tb_out (tgt := 72) hx hb d_L_branch_1 (by have n0 := lv_neT c_1 (show (0 : Int32).toInt = 0 from (by decide)); have n1 := lv_neT c_2 (show (1 : Int32).toInt = 1 from (by decide)); have n2 := lv_neT c_3 (show (4 : Int32).toInt = 4 from (by decide)); have n3 := lv_neT c_4 (show (5 : Int32).toInt = 5 from (by decide)); have n4 := lv_neT c_5 (show (6 : Int32).toInt = 6 from (by decide)); have n5 := lv_neT c_6 (show (7 : Int32).toInt = 7 from (by decide)); intro j hj hi; have key : ∀ j : Nat, j < 8 → j ∈ ([0, 1, 4, 5, 6, 7] : List Nat) ∨ (#[47, 51, 71, 71, 55, 59, 63, 67] : Array Int)[j]? = some 71 := (by decide); exact (key j (by omega)).elim (fun h => absurd h (by simp only [List.mem_cons, List.not_mem_nil, or_false]; omega)) id) (by decide) ?_
              refine va_gets (v := .ref (adE 0)) hx hb (z_WORD hC) hS hown (hT _ m_137) (fun _ h => h) d_L_branch_72 ?_
              exact W.aret (v := .ref (adE 0)) hx hb hr (Or.inl ⟨_, rfl⟩) (Or.inr ⟨_, rfl⟩) (fun t ht hW => ⟨some 0, rfl, congrArg some (by rw [f_L_branch, if_neg c_1, if_neg c_2, if_neg c_3, if_neg c_4, if_neg c_5, if_neg c_6]), ht⟩) (fun _ h => by cases h) d_L_branch_75
theorem call_L_branch {p : Program} {l : Launch} {e : Env} {R : Room} {s : State} {m : MethodId} {args : Array Value} {below : List Frame} {meth : Method} {c : Code} {H : Heap} {locs : List Loc} {cells slots : Nat} {Q : State → Prop} {cc : ByteArray} {pc nL idx : Nat} {ls : Array Slot} {rest : List Value} {Ts : List Cond} {own : String} {adE adK adV : Nat → Nat} {A0 : Nat → Prop} {x0 : Int32} (S : CallFix p m c cc nL s args Ts own) (hTs : ∀ w ∈ WT, w ∈ Ts) (h1 : Cond.methodLink own idx y_L_branch ∈ WT) (hR : 0 + 1 ≤ R.frames ∧ 8 + (1 + 11) + 0 ≤ R.locals) (hsz : ls.size = nL) (hrm : (rest.map fun v => v.category).sum ≤ 8) (hdg : decode cc pc = .ok (.invokestatic idx, 3)) (hc : cells ≤ R.cells ∧ slots ≤ R.slots) (hC : cx adE adK adV A0 s s.heap) (hS : va_S A0 s.heap H locs) (kk : W p l e R s m args below meth c H locs cells slots Q (F0 m (pc + 3) ls (.ref (adE (f_L_branch x0)) :: rest))) : W p l e R s m args below meth c H locs cells slots Q (F0 m pc ls (.int x0 :: rest)) :=
  va_cse (va_Run.run (va_runS (As := [.int x0]) (rest := rest) S (c_L_branch l adE adK adV x0) (va_cwS 1 S.2.2.2.2 (gS hTs h1 m_261 m_52 m_262) rfl rfl rfl (by decide +kernel) hR) ⟨fun a U g mk q => ⟨q.1, q.2.blind⟩, fun U hU hW => ⟨rfl, hC.at hS no_in hU hW⟩⟩ rfl rfl hsz rfl (lv_room hrm) hdg hc)) (fun r e => by subst e; exact kk)

def f_L_counter (x0 : Int32) : Nat :=
  if ((x0 >>> ((15 : Int32) &&& 31)) &&& 31) = 0 then
    if (ushr x0 20) = 3072 then
      58
    else
      if (ushr x0 20) = 3073 then
        59
      else
        if (ushr x0 20) = 3074 then
          60
        else
          if (ushr x0 20) = 3200 then
            61
          else
            if (ushr x0 20) = 3201 then
              62
            else
              if (ushr x0 20) = 3202 then
                63
              else
                0
  else
    0
set_option maxRecDepth 100000 in
set_option maxHeartbeats 4000000 in
theorem c_L_counter (l : Launch) (adE adK adV : Nat → Nat) (x0 : Int32) : Met l y_L_counter (Cond.code y_L_counter b_L_counter 1 (some (.object "InstructionReader$Kind")) :: WT) ({ frames := 0, cells := 0, slots := 0, locals := 0 }) (va_Pc [.int x0] (fun U => cx adE adK adV no U U.heap)) (va_Se adE (fun r => r = some (f_L_counter x0))) 0 0 no := by
  refine va_MetF (cc := b_L_counter) (maxL := 1) (ret := (some (.object "InstructionReader$Kind"))) (by decide +kernel) rfl ?_
  intro p e s m args below meth c s₁ B hml hv
  obtain ⟨rfl, hC⟩ := hv
  have hx := B.exec
  have hb := B.bytes
  have hr := B.returns
  have hts := atoms_spec (ws := (Cond.code y_L_counter b_L_counter 1 (some (.object "InstructionReader$Kind")) :: WT)) B.pre
  have hT : ∀ w ∈ WT, w.before _ s = true := fun w h => hts w (inC w h)
  have hown : s.vm.findClass R_L = some m.cls := findClass_of_methodNamed B.named
  have hlocks := B.notSynchronized
  have hS : va_S no s.heap s.heap [] := va_S.rf
  have S : CallFix p m c b_L_counter 1 s _ (Cond.code y_L_counter b_L_counter 1 (some (.object "InstructionReader$Kind")) :: WT) R_L := ⟨hx, hb, hml, hown, hts⟩
  have hl := lv_entry ([.int x0]) (n := 1) (Nat.le_of_ble_eq_true rfl)
  rw [lg_entry_eq]
  generalize (lg_sl ([.int x0]) ++ List.replicate (1 - (lg_sl ([.int x0])).length) Slot.unset).toArray = ls at hl ⊢
  have hl : lv_has ls 1 [(0, .int x0)] := hl
  refine lv_iload_n hx hb d_L_counter_0 rfl (lv_at hl 0 rfl) ?_
  refine lv_bipush (v := 15) hx hb d_L_counter_1 (by decide) ?_
  refine lv_ishr hx hb d_L_counter_3 ?_
  refine lv_bipush (v := 31) hx hb d_L_counter_4 (by decide) ?_
  refine lv_iand hx hb d_L_counter_6 ?_
  refine lv_if_eq (tgt := 14) hx hb d_L_counter_7 (by decide) (fun c_1 => ?_) (fun c_1 => ?_)
  · refine lv_iload_n hx hb d_L_counter_14 rfl (lv_at hl 0 rfl) ?_
    refine lv_bipush (v := 20) hx hb d_L_counter_15 (by decide) ?_
    refine lv_iushr (v := ushr x0 20) hx hb d_L_counter_17 rfl ?_
    by_cases c_2 : (ushr x0 20) = 3072
    · refine lv_lookup (off := 58) (tgt := 76) hx hb d_L_counter_18 (by decide) (by rw [c_2]; decide) (by decide) ?_
      refine va_gets (v := .ref (adE 58)) hx hb (z_RDCYCLE hC) hS hown (hT _ m_282) (fun _ h => h) d_L_counter_76 ?_
      exact W.aret (v := .ref (adE 58)) hx hb hr (Or.inl ⟨_, rfl⟩) (Or.inr ⟨_, rfl⟩) (fun t ht hW => ⟨some 58, rfl, congrArg some (by rw [f_L_counter, if_pos c_1, if_pos c_2]), ht⟩) (fun _ h => by cases h) d_L_counter_79
    · by_cases c_3 : (ushr x0 20) = 3073
      · refine lv_lookup (off := 62) (tgt := 80) hx hb d_L_counter_18 (by decide) (by rw [c_3]; decide) (by decide) ?_
        refine va_gets (v := .ref (adE 59)) hx hb (z_RDTIME hC) hS hown (hT _ m_284) (fun _ h => h) d_L_counter_80 ?_
        exact W.aret (v := .ref (adE 59)) hx hb hr (Or.inl ⟨_, rfl⟩) (Or.inr ⟨_, rfl⟩) (fun t ht hW => ⟨some 59, rfl, congrArg some (by rw [f_L_counter, if_pos c_1, if_neg c_2, if_pos c_3]), ht⟩) (fun _ h => by cases h) d_L_counter_83
      · by_cases c_4 : (ushr x0 20) = 3074
        · refine lv_lookup (off := 66) (tgt := 84) hx hb d_L_counter_18 (by decide) (by rw [c_4]; decide) (by decide) ?_
          refine va_gets (v := .ref (adE 60)) hx hb (z_RDINSTRET hC) hS hown (hT _ m_286) (fun _ h => h) d_L_counter_84 ?_
          exact W.aret (v := .ref (adE 60)) hx hb hr (Or.inl ⟨_, rfl⟩) (Or.inr ⟨_, rfl⟩) (fun t ht hW => ⟨some 60, rfl, congrArg some (by rw [f_L_counter, if_pos c_1, if_neg c_2, if_neg c_3, if_pos c_4]), ht⟩) (fun _ h => by cases h) d_L_counter_87
        · by_cases c_5 : (ushr x0 20) = 3200
          · refine lv_lookup (off := 70) (tgt := 88) hx hb d_L_counter_18 (by decide) (by rw [c_5]; decide) (by decide) ?_
            refine va_gets (v := .ref (adE 61)) hx hb (z_RDCYCLEH hC) hS hown (hT _ m_288) (fun _ h => h) d_L_counter_88 ?_
            exact W.aret (v := .ref (adE 61)) hx hb hr (Or.inl ⟨_, rfl⟩) (Or.inr ⟨_, rfl⟩) (fun t ht hW => ⟨some 61, rfl, congrArg some (by rw [f_L_counter, if_pos c_1, if_neg c_2, if_neg c_3, if_neg c_4, if_pos c_5]), ht⟩) (fun _ h => by cases h) d_L_counter_91
          · by_cases c_6 : (ushr x0 20) = 3201
            · refine lv_lookup (off := 74) (tgt := 92) hx hb d_L_counter_18 (by decide) (by rw [c_6]; decide) (by decide) ?_
              refine va_gets (v := .ref (adE 62)) hx hb (z_RDTIMEH hC) hS hown (hT _ m_290) (fun _ h => h) d_L_counter_92 ?_
              exact W.aret (v := .ref (adE 62)) hx hb hr (Or.inl ⟨_, rfl⟩) (Or.inr ⟨_, rfl⟩) (fun t ht hW => ⟨some 62, rfl, congrArg some (by rw [f_L_counter, if_pos c_1, if_neg c_2, if_neg c_3, if_neg c_4, if_neg c_5, if_pos c_6]), ht⟩) (fun _ h => by cases h) d_L_counter_95
            · by_cases c_7 : (ushr x0 20) = 3202
              · refine lv_lookup (off := 78) (tgt := 96) hx hb d_L_counter_18 (by decide) (by rw [c_7]; decide) (by decide) ?_
                refine va_gets (v := .ref (adE 63)) hx hb (z_RDINSTRETH hC) hS hown (hT _ m_292) (fun _ h => h) d_L_counter_96 ?_
                exact W.aret (v := .ref (adE 63)) hx hb hr (Or.inl ⟨_, rfl⟩) (Or.inr ⟨_, rfl⟩) (fun t ht hW => ⟨some 63, rfl, congrArg some (by rw [f_L_counter, if_pos c_1, if_neg c_2, if_neg c_3, if_neg c_4, if_neg c_5, if_neg c_6, if_pos c_7]), ht⟩) (fun _ h => by cases h) d_L_counter_99
              · refine lv_lookup (off := 82) (tgt := 100) hx hb d_L_counter_18 (by decide) (by show Op.lookupswitch.offset [(3072, 58), (3073, 62), (3074, 66), (3200, 70), (3201, 74), (3202, 78)] 82 _ = 82; rw [lv_osw c_2 (by decide), lv_osw c_3 (by decide), lv_osw c_4 (by decide), lv_osw c_5 (by decide), lv_osw c_6 (by decide), lv_osw c_7 (by decide)]; rfl) (by decide) ?_
                refine va_gets (v := .ref (adE 0)) hx hb (z_WORD hC) hS hown (hT _ m_137) (fun _ h => h) d_L_counter_100 ?_
                exact W.aret (v := .ref (adE 0)) hx hb hr (Or.inl ⟨_, rfl⟩) (Or.inr ⟨_, rfl⟩) (fun t ht hW => ⟨some 0, rfl, congrArg some (by rw [f_L_counter, if_pos c_1, if_neg c_2, if_neg c_3, if_neg c_4, if_neg c_5, if_neg c_6, if_neg c_7]), ht⟩) (fun _ h => by cases h) d_L_counter_103
  · refine va_gets (v := .ref (adE 0)) hx hb (z_WORD hC) hS hown (hT _ m_137) (fun _ h => h) d_L_counter_10 ?_
    exact W.aret (v := .ref (adE 0)) hx hb hr (Or.inl ⟨_, rfl⟩) (Or.inr ⟨_, rfl⟩) (fun t ht hW => ⟨some 0, rfl, congrArg some (by rw [f_L_counter, if_neg c_1]), ht⟩) (fun _ h => by cases h) d_L_counter_13
theorem call_L_counter {p : Program} {l : Launch} {e : Env} {R : Room} {s : State} {m : MethodId} {args : Array Value} {below : List Frame} {meth : Method} {c : Code} {H : Heap} {locs : List Loc} {cells slots : Nat} {Q : State → Prop} {cc : ByteArray} {pc nL idx : Nat} {ls : Array Slot} {rest : List Value} {Ts : List Cond} {own : String} {adE adK adV : Nat → Nat} {A0 : Nat → Prop} {x0 : Int32} (S : CallFix p m c cc nL s args Ts own) (hTs : ∀ w ∈ WT, w ∈ Ts) (h1 : Cond.methodLink own idx y_L_counter ∈ WT) (hR : 0 + 1 ≤ R.frames ∧ 8 + (1 + 11) + 0 ≤ R.locals) (hsz : ls.size = nL) (hrm : (rest.map fun v => v.category).sum ≤ 8) (hdg : decode cc pc = .ok (.invokestatic idx, 3)) (hc : cells ≤ R.cells ∧ slots ≤ R.slots) (hC : cx adE adK adV A0 s s.heap) (hS : va_S A0 s.heap H locs) (kk : W p l e R s m args below meth c H locs cells slots Q (F0 m (pc + 3) ls (.ref (adE (f_L_counter x0)) :: rest))) : W p l e R s m args below meth c H locs cells slots Q (F0 m pc ls (.int x0 :: rest)) :=
  va_cse (va_Run.run (va_runS (As := [.int x0]) (rest := rest) S (c_L_counter l adE adK adV x0) (va_cwS 1 S.2.2.2.2 (gS hTs h1 m_280 m_52 m_281) rfl rfl rfl (by decide +kernel) hR) ⟨fun a U g mk q => ⟨q.1, q.2.blind⟩, fun U hU hW => ⟨rfl, hC.at hS no_in hU hW⟩⟩ rfl rfl hsz rfl (lv_room hrm) hdg hc)) (fun r e => by subst e; exact kk)

def f_L_ofWord (x0 : Int32) : Nat :=
  if (x0 &&& 127) = 3 then
    f_L_load ((x0 >>> ((12 : Int32) &&& 31)) &&& 7)
  else
    if (x0 &&& 127) = 15 then
      f_L_alone x0
    else
      if (x0 &&& 127) = 19 then
        f_L_withNumber ((x0 >>> ((12 : Int32) &&& 31)) &&& 7) (ushr x0 25)
      else
        if (x0 &&& 127) = 23 then
          39
        else
          if (x0 &&& 127) = 35 then
            f_L_store ((x0 >>> ((12 : Int32) &&& 31)) &&& 7)
          else
            if (x0 &&& 127) = 47 then
              if ((x0 >>> ((12 : Int32) &&& 31)) &&& 7) = 2 then
                f_L_atomic ((ushr x0 25) >>> ((2 : Int32) &&& 31)) x0
              else
                0
            else
              if (x0 &&& 127) = 51 then
                f_L_ofRegisters ((x0 >>> ((12 : Int32) &&& 31)) &&& 7) (ushr x0 25)
              else
                if (x0 &&& 127) = 55 then
                  38
                else
                  if (x0 &&& 127) = 99 then
                    f_L_branch ((x0 >>> ((12 : Int32) &&& 31)) &&& 7)
                  else
                    if (x0 &&& 127) = 103 then
                      if ((x0 >>> ((12 : Int32) &&& 31)) &&& 7) = 0 then
                        34
                      else
                        0
                    else
                      if (x0 &&& 127) = 111 then
                        46
                      else
                        if (x0 &&& 127) = 115 then
                          if ((x0 >>> ((12 : Int32) &&& 31)) &&& 7) = 2 then
                            f_L_counter x0
                          else
                            f_L_alone x0
                        else
                          0
set_option maxRecDepth 100000 in
set_option maxHeartbeats 4000000 in
theorem c_L_ofWord (l : Launch) (adE adK adV : Nat → Nat) (x0 : Int32) : Met l y_L_ofWord (Cond.code y_L_ofWord b_L_ofWord 3 (some (.object "InstructionReader$Kind")) :: WT) ({ frames := 2, cells := 0, slots := 0, locals := 41 }) (va_Pc [.int x0] (fun U => cx adE adK adV no U U.heap)) (va_Se adE (fun r => r = some (f_L_ofWord x0))) 0 0 no := by
  refine va_MetF (cc := b_L_ofWord) (maxL := 3) (ret := (some (.object "InstructionReader$Kind"))) (by decide +kernel) rfl ?_
  intro p e s m args below meth c s₁ B hml hv
  obtain ⟨rfl, hC⟩ := hv
  have hx := B.exec
  have hb := B.bytes
  have hr := B.returns
  have hts := atoms_spec (ws := (Cond.code y_L_ofWord b_L_ofWord 3 (some (.object "InstructionReader$Kind")) :: WT)) B.pre
  have hT : ∀ w ∈ WT, w.before _ s = true := fun w h => hts w (inC w h)
  have hown : s.vm.findClass R_L = some m.cls := findClass_of_methodNamed B.named
  have hlocks := B.notSynchronized
  have hS : va_S no s.heap s.heap [] := va_S.rf
  have S : CallFix p m c b_L_ofWord 3 s _ (Cond.code y_L_ofWord b_L_ofWord 3 (some (.object "InstructionReader$Kind")) :: WT) R_L := ⟨hx, hb, hml, hown, hts⟩
  have hl := lv_entry ([.int x0]) (n := 3) (Nat.le_of_ble_eq_true rfl)
  rw [lg_entry_eq]
  generalize (lg_sl ([.int x0]) ++ List.replicate (3 - (lg_sl ([.int x0])).length) Slot.unset).toArray = ls at hl ⊢
  have hl : lv_has ls 3 [(0, .int x0)] := hl
  refine lv_iload_n hx hb d_L_ofWord_0 rfl (lv_at hl 0 rfl) ?_
  refine lv_bipush (v := 12) hx hb d_L_ofWord_1 (by decide) ?_
  refine lv_ishr hx hb d_L_ofWord_3 ?_
  refine lv_bipush (v := 7) hx hb d_L_ofWord_4 (by decide) ?_
  refine lv_iand hx hb d_L_ofWord_6 ?_
  refine lv_istore_n (lv' := [(1, .int ((x0 >>> ((12 : Int32) &&& 31)) &&& 7)), (0, .int x0)]) hx hb d_L_ofWord_7 rfl hl (by decide) rfl (fun ls hl => ?_)
  refine lv_iload_n hx hb d_L_ofWord_8 rfl (lv_at hl 1 rfl) ?_
  refine lv_bipush (v := 25) hx hb d_L_ofWord_9 (by decide) ?_
  refine lv_iushr (v := ushr x0 25) hx hb d_L_ofWord_11 rfl ?_
  refine lv_istore_n (lv' := [(2, .int (ushr x0 25)), (1, .int ((x0 >>> ((12 : Int32) &&& 31)) &&& 7)), (0, .int x0)]) hx hb d_L_ofWord_12 rfl hl (by decide) rfl (fun ls hl => ?_)
  refine lv_iload_n hx hb d_L_ofWord_13 rfl (lv_at hl 2 rfl) ?_
  refine lv_bipush (v := 127) hx hb d_L_ofWord_14 (by decide) ?_
  refine lv_iand hx hb d_L_ofWord_16 ?_
  by_cases c_1 : (x0 &&& 127) = 3
  · refine lv_lookup (off := 107) (tgt := 124) hx hb d_L_ofWord_17 (by decide) (by rw [c_1]; decide) (by decide) ?_
    refine lv_iload_n hx hb d_L_ofWord_124 rfl (lv_at hl 1 rfl) ?_
    refine call_L_load S inC m_124 ⟨(Nat.le_of_ble_eq_true rfl), (Nat.le_of_ble_eq_true rfl)⟩ hl.1 (Nat.le_of_ble_eq_true rfl) d_L_ofWord_125 ⟨(Nat.le_of_ble_eq_true rfl), (Nat.le_of_ble_eq_true rfl)⟩ hC hS ?_
    exact W.aret (v := .ref (adE (f_L_load ((x0 >>> ((12 : Int32) &&& 31)) &&& 7)))) hx hb hr (Or.inl ⟨_, rfl⟩) (Or.inr ⟨_, rfl⟩) (fun t ht hW => ⟨some (f_L_load ((x0 >>> ((12 : Int32) &&& 31)) &&& 7)), rfl, congrArg some (by rw [f_L_ofWord, if_pos c_1]), ht⟩) (fun _ h => by cases h) d_L_ofWord_128
  · by_cases c_2 : (x0 &&& 127) = 15
    · refine lv_lookup (off := 112) (tgt := 129) hx hb d_L_ofWord_17 (by decide) (by rw [c_2]; decide) (by decide) ?_
      refine lv_iload_n hx hb d_L_ofWord_129 rfl (lv_at hl 2 rfl) ?_
      refine call_L_alone S inC m_139 ⟨(Nat.le_of_ble_eq_true rfl), (Nat.le_of_ble_eq_true rfl)⟩ hl.1 (Nat.le_of_ble_eq_true rfl) d_L_ofWord_130 ⟨(Nat.le_of_ble_eq_true rfl), (Nat.le_of_ble_eq_true rfl)⟩ hC hS ?_
      exact W.aret (v := .ref (adE (f_L_alone x0))) hx hb hr (Or.inl ⟨_, rfl⟩) (Or.inr ⟨_, rfl⟩) (fun t ht hW => ⟨some (f_L_alone x0), rfl, congrArg some (by rw [f_L_ofWord, if_neg c_1, if_pos c_2]), ht⟩) (fun _ h => by cases h) d_L_ofWord_133
    · by_cases c_3 : (x0 &&& 127) = 19
      · refine lv_lookup (off := 117) (tgt := 134) hx hb d_L_ofWord_17 (by decide) (by rw [c_3]; decide) (by decide) ?_
        refine lv_iload_n hx hb d_L_ofWord_134 rfl (lv_at hl 1 rfl) ?_
        refine lv_iload_n hx hb d_L_ofWord_135 rfl (lv_at hl 0 rfl) ?_
        refine call_L_withNumber S inC m_150 ⟨(Nat.le_of_ble_eq_true rfl), (Nat.le_of_ble_eq_true rfl)⟩ hl.1 (Nat.le_of_ble_eq_true rfl) d_L_ofWord_136 ⟨(Nat.le_of_ble_eq_true rfl), (Nat.le_of_ble_eq_true rfl)⟩ hC hS ?_
        exact W.aret (v := .ref (adE (f_L_withNumber ((x0 >>> ((12 : Int32) &&& 31)) &&& 7) (ushr x0 25)))) hx hb hr (Or.inl ⟨_, rfl⟩) (Or.inr ⟨_, rfl⟩) (fun t ht hW => ⟨some (f_L_withNumber ((x0 >>> ((12 : Int32) &&& 31)) &&& 7) (ushr x0 25)), rfl, congrArg some (by rw [f_L_ofWord, if_neg c_1, if_neg c_2, if_pos c_3]), ht⟩) (fun _ h => by cases h) d_L_ofWord_139
      · by_cases c_4 : (x0 &&& 127) = 23
        · refine lv_lookup (off := 123) (tgt := 140) hx hb d_L_ofWord_17 (by decide) (by rw [c_4]; decide) (by decide) ?_
          refine va_gets (v := .ref (adE 39)) hx hb (z_AUIPC hC) hS hown (hT _ m_174) (fun _ h => h) d_L_ofWord_140 ?_
          exact W.aret (v := .ref (adE 39)) hx hb hr (Or.inl ⟨_, rfl⟩) (Or.inr ⟨_, rfl⟩) (fun t ht hW => ⟨some 39, rfl, congrArg some (by rw [f_L_ofWord, if_neg c_1, if_neg c_2, if_neg c_3, if_pos c_4]), ht⟩) (fun _ h => by cases h) d_L_ofWord_143
        · by_cases c_5 : (x0 &&& 127) = 35
          · refine lv_lookup (off := 127) (tgt := 144) hx hb d_L_ofWord_17 (by decide) (by rw [c_5]; decide) (by decide) ?_
            refine lv_iload_n hx hb d_L_ofWord_144 rfl (lv_at hl 1 rfl) ?_
            refine call_L_store S inC m_176 ⟨(Nat.le_of_ble_eq_true rfl), (Nat.le_of_ble_eq_true rfl)⟩ hl.1 (Nat.le_of_ble_eq_true rfl) d_L_ofWord_145 ⟨(Nat.le_of_ble_eq_true rfl), (Nat.le_of_ble_eq_true rfl)⟩ hC hS ?_
            exact W.aret (v := .ref (adE (f_L_store ((x0 >>> ((12 : Int32) &&& 31)) &&& 7)))) hx hb hr (Or.inl ⟨_, rfl⟩) (Or.inr ⟨_, rfl⟩) (fun t ht hW => ⟨some (f_L_store ((x0 >>> ((12 : Int32) &&& 31)) &&& 7)), rfl, congrArg some (by rw [f_L_ofWord, if_neg c_1, if_neg c_2, if_neg c_3, if_neg c_4, if_pos c_5]), ht⟩) (fun _ h => by cases h) d_L_ofWord_148
          · by_cases c_6 : (x0 &&& 127) = 47
            · refine lv_lookup (off := 132) (tgt := 149) hx hb d_L_ofWord_17 (by decide) (by rw [c_6]; decide) (by decide) ?_
              refine lv_iload_n hx hb d_L_ofWord_149 rfl (lv_at hl 1 rfl) ?_
              refine lv_iconst (v := 2) hx hb d_L_ofWord_150 (by decide) ?_
              refine lv_icmp_ne (tgt := 164) hx hb d_L_ofWord_151 (by decide) (fun c_7 => ?_) (fun c_7 => ?_)
              · refine va_gets (v := .ref (adE 0)) hx hb (z_WORD hC) hS hown (hT _ m_137) (fun _ h => h) d_L_ofWord_164 ?_
                exact W.aret (v := .ref (adE 0)) hx hb hr (Or.inl ⟨_, rfl⟩) (Or.inr ⟨_, rfl⟩) (fun t ht hW => ⟨some 0, rfl, congrArg some (by rw [f_L_ofWord, if_neg c_1, if_neg c_2, if_neg c_3, if_neg c_4, if_neg c_5, if_pos c_6, if_neg c_7]), ht⟩) (fun _ h => by cases h) d_L_ofWord_167
              · refine lv_iload_n hx hb d_L_ofWord_154 rfl (lv_at hl 0 rfl) ?_
                refine lv_iconst (v := 2) hx hb d_L_ofWord_155 (by decide) ?_
                refine lv_ishr hx hb d_L_ofWord_156 ?_
                refine lv_iload_n hx hb d_L_ofWord_157 rfl (lv_at hl 2 rfl) ?_
                refine call_L_atomic S inC m_185 ⟨(Nat.le_of_ble_eq_true rfl), (Nat.le_of_ble_eq_true rfl)⟩ hl.1 (Nat.le_of_ble_eq_true rfl) d_L_ofWord_158 ⟨(Nat.le_of_ble_eq_true rfl), (Nat.le_of_ble_eq_true rfl)⟩ hC hS ?_
                refine lv_goto (tgt := 167) hx hb d_L_ofWord_161 (by decide) ?_
                exact W.aret (v := .ref (adE (f_L_atomic ((ushr x0 25) >>> ((2 : Int32) &&& 31)) x0))) hx hb hr (Or.inl ⟨_, rfl⟩) (Or.inr ⟨_, rfl⟩) (fun t ht hW => ⟨some (f_L_atomic ((ushr x0 25) >>> ((2 : Int32) &&& 31)) x0), rfl, congrArg some (by rw [f_L_ofWord, if_neg c_1, if_neg c_2, if_neg c_3, if_neg c_4, if_neg c_5, if_pos c_6, if_pos c_7]), ht⟩) (fun _ h => by cases h) d_L_ofWord_167
            · by_cases c_8 : (x0 &&& 127) = 51
              · refine lv_lookup (off := 151) (tgt := 168) hx hb d_L_ofWord_17 (by decide) (by rw [c_8]; decide) (by decide) ?_
                refine lv_iload_n hx hb d_L_ofWord_168 rfl (lv_at hl 1 rfl) ?_
                refine lv_iload_n hx hb d_L_ofWord_169 rfl (lv_at hl 0 rfl) ?_
                refine call_L_ofRegisters S inC m_210 ⟨(Nat.le_of_ble_eq_true rfl), (Nat.le_of_ble_eq_true rfl)⟩ hl.1 (Nat.le_of_ble_eq_true rfl) d_L_ofWord_170 ⟨(Nat.le_of_ble_eq_true rfl), (Nat.le_of_ble_eq_true rfl)⟩ hC hS ?_
                exact W.aret (v := .ref (adE (f_L_ofRegisters ((x0 >>> ((12 : Int32) &&& 31)) &&& 7) (ushr x0 25)))) hx hb hr (Or.inl ⟨_, rfl⟩) (Or.inr ⟨_, rfl⟩) (fun t ht hW => ⟨some (f_L_ofRegisters ((x0 >>> ((12 : Int32) &&& 31)) &&& 7) (ushr x0 25)), rfl, congrArg some (by rw [f_L_ofWord, if_neg c_1, if_neg c_2, if_neg c_3, if_neg c_4, if_neg c_5, if_neg c_6, if_pos c_8]), ht⟩) (fun _ h => by cases h) d_L_ofWord_173
              · by_cases c_9 : (x0 &&& 127) = 55
                · refine lv_lookup (off := 157) (tgt := 174) hx hb d_L_ofWord_17 (by decide) (by rw [c_9]; decide) (by decide) ?_
                  refine va_gets (v := .ref (adE 38)) hx hb (z_LUI hC) hS hown (hT _ m_258) (fun _ h => h) d_L_ofWord_174 ?_
                  exact W.aret (v := .ref (adE 38)) hx hb hr (Or.inl ⟨_, rfl⟩) (Or.inr ⟨_, rfl⟩) (fun t ht hW => ⟨some 38, rfl, congrArg some (by rw [f_L_ofWord, if_neg c_1, if_neg c_2, if_neg c_3, if_neg c_4, if_neg c_5, if_neg c_6, if_neg c_8, if_pos c_9]), ht⟩) (fun _ h => by cases h) d_L_ofWord_177
                · by_cases c_10 : (x0 &&& 127) = 99
                  · refine lv_lookup (off := 161) (tgt := 178) hx hb d_L_ofWord_17 (by decide) (by rw [c_10]; decide) (by decide) ?_
                    refine lv_iload_n hx hb d_L_ofWord_178 rfl (lv_at hl 1 rfl) ?_
                    refine call_L_branch S inC m_260 ⟨(Nat.le_of_ble_eq_true rfl), (Nat.le_of_ble_eq_true rfl)⟩ hl.1 (Nat.le_of_ble_eq_true rfl) d_L_ofWord_179 ⟨(Nat.le_of_ble_eq_true rfl), (Nat.le_of_ble_eq_true rfl)⟩ hC hS ?_
                    exact W.aret (v := .ref (adE (f_L_branch ((x0 >>> ((12 : Int32) &&& 31)) &&& 7)))) hx hb hr (Or.inl ⟨_, rfl⟩) (Or.inr ⟨_, rfl⟩) (fun t ht hW => ⟨some (f_L_branch ((x0 >>> ((12 : Int32) &&& 31)) &&& 7)), rfl, congrArg some (by rw [f_L_ofWord, if_neg c_1, if_neg c_2, if_neg c_3, if_neg c_4, if_neg c_5, if_neg c_6, if_neg c_8, if_neg c_9, if_pos c_10]), ht⟩) (fun _ h => by cases h) d_L_ofWord_182
                  · by_cases c_11 : (x0 &&& 127) = 103
                    · refine lv_lookup (off := 166) (tgt := 183) hx hb d_L_ofWord_17 (by decide) (by rw [c_11]; decide) (by decide) ?_
                      refine lv_iload_n hx hb d_L_ofWord_183 rfl (lv_at hl 1 rfl) ?_
                      refine lv_if_ne (tgt := 193) hx hb d_L_ofWord_184 (by decide) (fun c_12 => ?_) (fun c_12 => ?_)
                      · refine va_gets (v := .ref (adE 0)) hx hb (z_WORD hC) hS hown (hT _ m_137) (fun _ h => h) d_L_ofWord_193 ?_
                        exact W.aret (v := .ref (adE 0)) hx hb hr (Or.inl ⟨_, rfl⟩) (Or.inr ⟨_, rfl⟩) (fun t ht hW => ⟨some 0, rfl, congrArg some (by rw [f_L_ofWord, if_neg c_1, if_neg c_2, if_neg c_3, if_neg c_4, if_neg c_5, if_neg c_6, if_neg c_8, if_neg c_9, if_neg c_10, if_pos c_11, if_neg c_12]), ht⟩) (fun _ h => by cases h) d_L_ofWord_196
                      · refine va_gets (v := .ref (adE 34)) hx hb (z_JALR hC) hS hown (hT _ m_275) (fun _ h => h) d_L_ofWord_187 ?_
                        refine lv_goto (tgt := 196) hx hb d_L_ofWord_190 (by decide) ?_
                        exact W.aret (v := .ref (adE 34)) hx hb hr (Or.inl ⟨_, rfl⟩) (Or.inr ⟨_, rfl⟩) (fun t ht hW => ⟨some 34, rfl, congrArg some (by rw [f_L_ofWord, if_neg c_1, if_neg c_2, if_neg c_3, if_neg c_4, if_neg c_5, if_neg c_6, if_neg c_8, if_neg c_9, if_neg c_10, if_pos c_11, if_pos c_12]), ht⟩) (fun _ h => by cases h) d_L_ofWord_196
                    · by_cases c_13 : (x0 &&& 127) = 111
                      · refine lv_lookup (off := 180) (tgt := 197) hx hb d_L_ofWord_17 (by decide) (by rw [c_13]; decide) (by decide) ?_
                        refine va_gets (v := .ref (adE 46)) hx hb (z_JAL hC) hS hown (hT _ m_277) (fun _ h => h) d_L_ofWord_197 ?_
                        exact W.aret (v := .ref (adE 46)) hx hb hr (Or.inl ⟨_, rfl⟩) (Or.inr ⟨_, rfl⟩) (fun t ht hW => ⟨some 46, rfl, congrArg some (by rw [f_L_ofWord, if_neg c_1, if_neg c_2, if_neg c_3, if_neg c_4, if_neg c_5, if_neg c_6, if_neg c_8, if_neg c_9, if_neg c_10, if_neg c_11, if_pos c_13]), ht⟩) (fun _ h => by cases h) d_L_ofWord_200
                      · by_cases c_14 : (x0 &&& 127) = 115
                        · refine lv_lookup (off := 184) (tgt := 201) hx hb d_L_ofWord_17 (by decide) (by rw [c_14]; decide) (by decide) ?_
                          refine lv_iload_n hx hb d_L_ofWord_201 rfl (lv_at hl 1 rfl) ?_
                          refine lv_iconst (v := 2) hx hb d_L_ofWord_202 (by decide) ?_
                          refine lv_icmp_ne (tgt := 213) hx hb d_L_ofWord_203 (by decide) (fun c_15 => ?_) (fun c_15 => ?_)
                          · refine lv_iload_n hx hb d_L_ofWord_213 rfl (lv_at hl 2 rfl) ?_
                            refine call_L_alone S inC m_139 ⟨(Nat.le_of_ble_eq_true rfl), (Nat.le_of_ble_eq_true rfl)⟩ hl.1 (Nat.le_of_ble_eq_true rfl) d_L_ofWord_214 ⟨(Nat.le_of_ble_eq_true rfl), (Nat.le_of_ble_eq_true rfl)⟩ hC hS ?_
                            exact W.aret (v := .ref (adE (f_L_alone x0))) hx hb hr (Or.inl ⟨_, rfl⟩) (Or.inr ⟨_, rfl⟩) (fun t ht hW => ⟨some (f_L_alone x0), rfl, congrArg some (by rw [f_L_ofWord, if_neg c_1, if_neg c_2, if_neg c_3, if_neg c_4, if_neg c_5, if_neg c_6, if_neg c_8, if_neg c_9, if_neg c_10, if_neg c_11, if_neg c_13, if_pos c_14, if_neg c_15]), ht⟩) (fun _ h => by cases h) d_L_ofWord_217
                          · refine lv_iload_n hx hb d_L_ofWord_206 rfl (lv_at hl 2 rfl) ?_
                            refine call_L_counter S inC m_279 ⟨(Nat.le_of_ble_eq_true rfl), (Nat.le_of_ble_eq_true rfl)⟩ hl.1 (Nat.le_of_ble_eq_true rfl) d_L_ofWord_207 ⟨(Nat.le_of_ble_eq_true rfl), (Nat.le_of_ble_eq_true rfl)⟩ hC hS ?_
                            refine lv_goto (tgt := 217) hx hb d_L_ofWord_210 (by decide) ?_
                            exact W.aret (v := .ref (adE (f_L_counter x0))) hx hb hr (Or.inl ⟨_, rfl⟩) (Or.inr ⟨_, rfl⟩) (fun t ht hW => ⟨some (f_L_counter x0), rfl, congrArg some (by rw [f_L_ofWord, if_neg c_1, if_neg c_2, if_neg c_3, if_neg c_4, if_neg c_5, if_neg c_6, if_neg c_8, if_neg c_9, if_neg c_10, if_neg c_11, if_neg c_13, if_pos c_14, if_pos c_15]), ht⟩) (fun _ h => by cases h) d_L_ofWord_217
                        · refine lv_lookup (off := 201) (tgt := 218) hx hb d_L_ofWord_17 (by decide) (by show Op.lookupswitch.offset [(3, 107), (15, 112), (19, 117), (23, 123), (35, 127), (47, 132), (51, 151), (55, 157), (99, 161), (103, 166), (111, 180), (115, 184)] 201 _ = 201; rw [lv_osw c_1 (by decide), lv_osw c_2 (by decide), lv_osw c_3 (by decide), lv_osw c_4 (by decide), lv_osw c_5 (by decide), lv_osw c_6 (by decide), lv_osw c_8 (by decide), lv_osw c_9 (by decide), lv_osw c_10 (by decide), lv_osw c_11 (by decide), lv_osw c_13 (by decide), lv_osw c_14 (by decide)]; rfl) (by decide) ?_
                          refine va_gets (v := .ref (adE 0)) hx hb (z_WORD hC) hS hown (hT _ m_137) (fun _ h => h) d_L_ofWord_218 ?_
                          exact W.aret (v := .ref (adE 0)) hx hb hr (Or.inl ⟨_, rfl⟩) (Or.inr ⟨_, rfl⟩) (fun t ht hW => ⟨some 0, rfl, congrArg some (by rw [f_L_ofWord, if_neg c_1, if_neg c_2, if_neg c_3, if_neg c_4, if_neg c_5, if_neg c_6, if_neg c_8, if_neg c_9, if_neg c_10, if_neg c_11, if_neg c_13, if_neg c_14]), ht⟩) (fun _ h => by cases h) d_L_ofWord_221
theorem call_L_ofWord {p : Program} {l : Launch} {e : Env} {R : Room} {s : State} {m : MethodId} {args : Array Value} {below : List Frame} {meth : Method} {c : Code} {H : Heap} {locs : List Loc} {cells slots : Nat} {Q : State → Prop} {cc : ByteArray} {pc nL idx : Nat} {ls : Array Slot} {rest : List Value} {Ts : List Cond} {own : String} {adE adK adV : Nat → Nat} {A0 : Nat → Prop} {x0 : Int32} (S : CallFix p m c cc nL s args Ts own) (hTs : ∀ w ∈ WT, w ∈ Ts) (h1 : Cond.methodLink own idx y_L_ofWord ∈ WT) (hR : 2 + 1 ≤ R.frames ∧ 8 + (3 + 11) + 41 ≤ R.locals) (hsz : ls.size = nL) (hrm : (rest.map fun v => v.category).sum ≤ 8) (hdg : decode cc pc = .ok (.invokestatic idx, 3)) (hc : cells ≤ R.cells ∧ slots ≤ R.slots) (hC : cx adE adK adV A0 s s.heap) (hS : va_S A0 s.heap H locs) (kk : W p l e R s m args below meth c H locs cells slots Q (F0 m (pc + 3) ls (.ref (adE (f_L_ofWord x0)) :: rest))) : W p l e R s m args below meth c H locs cells slots Q (F0 m pc ls (.int x0 :: rest)) :=
  va_cse (va_Run.run (va_runS (As := [.int x0]) (rest := rest) S (c_L_ofWord l adE adK adV x0) (va_cwS 1 S.2.2.2.2 (gS hTs h1 m_122 m_52 m_123) rfl rfl rfl (by decide +kernel) hR) ⟨fun a U g mk q => ⟨q.1, q.2.blind⟩, fun U hU hW => ⟨rfl, hC.at hS no_in hU hW⟩⟩ rfl rfl hsz rfl (lv_room hrm) hdg hc)) (fun r e => by subst e; exact kk)
end
section
def f_S_ofQ0 (x0 x1 : Int32) : Nat :=
  if x0 = 0 then
    if (f_F_times4 x1) = 0 then
      1
    else
      68
  else
    if x0 = 2 then
      69
    else
      if x0 = 6 then
        70
      else
        1
set_option maxRecDepth 100000 in
set_option maxHeartbeats 4000000 in
theorem c_S_ofQ0 (l : Launch) (adE adK adV : Nat → Nat) (x0 x1 : Int32) : Met l y_S_ofQ0 (Cond.code y_S_ofQ0 b_S_ofQ0 2 (some (.object "InstructionReader$Kind")) :: WT) ({ frames := 2, cells := 0, slots := 0, locals := 43 }) (va_Pc [.int x0, .int x1] (fun U => cx adE adK adV no U U.heap)) (va_Se adE (fun r => r = some (f_S_ofQ0 x0 x1))) 0 0 no := by
  refine va_MetF (cc := b_S_ofQ0) (maxL := 2) (ret := (some (.object "InstructionReader$Kind"))) (by decide +kernel) rfl ?_
  intro p e s m args below meth c s₁ B hml hv
  obtain ⟨rfl, hC⟩ := hv
  have hx := B.exec
  have hb := B.bytes
  have hr := B.returns
  have hts := atoms_spec (ws := (Cond.code y_S_ofQ0 b_S_ofQ0 2 (some (.object "InstructionReader$Kind")) :: WT)) B.pre
  have hT : ∀ w ∈ WT, w.before _ s = true := fun w h => hts w (inC w h)
  have hown : s.vm.findClass R_S = some m.cls := findClass_of_methodNamed B.named
  have hlocks := B.notSynchronized
  have hS : va_S no s.heap s.heap [] := va_S.rf
  have S : CallFix p m c b_S_ofQ0 2 s _ (Cond.code y_S_ofQ0 b_S_ofQ0 2 (some (.object "InstructionReader$Kind")) :: WT) R_S := ⟨hx, hb, hml, hown, hts⟩
  have hl := lv_entry ([.int x0, .int x1]) (n := 2) (Nat.le_of_ble_eq_true rfl)
  rw [lg_entry_eq]
  generalize (lg_sl ([.int x0, .int x1]) ++ List.replicate (2 - (lg_sl ([.int x0, .int x1])).length) Slot.unset).toArray = ls at hl ⊢
  have hl : lv_has ls 2 [(0, .int x0), (1, .int x1)] := hl
  refine lv_iload_n hx hb d_S_ofQ0_0 rfl (lv_at hl 0 rfl) ?_
  by_cases c_1 : x0 = 0
  · refine lv_lookup (off := 35) (tgt := 36) hx hb d_S_ofQ0_1 (by decide) (by rw [c_1]; decide) (by decide) ?_
    refine lv_iload_n hx hb d_S_ofQ0_36 rfl (lv_at hl 1 rfl) ?_
    refine call_F_times4 S inC m_300 ⟨(Nat.le_of_ble_eq_true rfl), (Nat.le_of_ble_eq_true rfl)⟩ hl.1 (Nat.le_of_ble_eq_true rfl) d_S_ofQ0_37 ⟨(Nat.le_of_ble_eq_true rfl), (Nat.le_of_ble_eq_true rfl)⟩ ?_
    refine lv_if_eq (tgt := 49) hx hb d_S_ofQ0_40 (by decide) (fun c_2 => ?_) (fun c_2 => ?_)
    · refine va_gets (v := .ref (adE 1)) hx hb (z_HALF hC) hS hown (hT _ m_308) (fun _ h => h) d_S_ofQ0_49 ?_
      exact W.aret (v := .ref (adE 1)) hx hb hr (Or.inl ⟨_, rfl⟩) (Or.inr ⟨_, rfl⟩) (fun t ht hW => ⟨some 1, rfl, congrArg some (by rw [f_S_ofQ0, if_pos c_1, if_pos c_2]), ht⟩) (fun _ h => by cases h) d_S_ofQ0_52
    · refine va_gets (v := .ref (adE 68)) hx hb (z_C_ADDI4SPN hC) hS hown (hT _ m_306) (fun _ h => h) d_S_ofQ0_43 ?_
      refine lv_goto (tgt := 52) hx hb d_S_ofQ0_46 (by decide) ?_
      exact W.aret (v := .ref (adE 68)) hx hb hr (Or.inl ⟨_, rfl⟩) (Or.inr ⟨_, rfl⟩) (fun t ht hW => ⟨some 68, rfl, congrArg some (by rw [f_S_ofQ0, if_pos c_1, if_neg c_2]), ht⟩) (fun _ h => by cases h) d_S_ofQ0_52
  · by_cases c_3 : x0 = 2
    · refine lv_lookup (off := 52) (tgt := 53) hx hb d_S_ofQ0_1 (by decide) (by rw [c_3]; decide) (by decide) ?_
      refine va_gets (v := .ref (adE 69)) hx hb (z_C_LW hC) hS hown (hT _ m_310) (fun _ h => h) d_S_ofQ0_53 ?_
      exact W.aret (v := .ref (adE 69)) hx hb hr (Or.inl ⟨_, rfl⟩) (Or.inr ⟨_, rfl⟩) (fun t ht hW => ⟨some 69, rfl, congrArg some (by rw [f_S_ofQ0, if_neg c_1, if_pos c_3]), ht⟩) (fun _ h => by cases h) d_S_ofQ0_56
    · by_cases c_4 : x0 = 6
      · refine lv_lookup (off := 56) (tgt := 57) hx hb d_S_ofQ0_1 (by decide) (by rw [c_4]; decide) (by decide) ?_
        refine va_gets (v := .ref (adE 70)) hx hb (z_C_SW hC) hS hown (hT _ m_312) (fun _ h => h) d_S_ofQ0_57 ?_
        exact W.aret (v := .ref (adE 70)) hx hb hr (Or.inl ⟨_, rfl⟩) (Or.inr ⟨_, rfl⟩) (fun t ht hW => ⟨some 70, rfl, congrArg some (by rw [f_S_ofQ0, if_neg c_1, if_neg c_3, if_pos c_4]), ht⟩) (fun _ h => by cases h) d_S_ofQ0_60
      · refine lv_lookup (off := 60) (tgt := 61) hx hb d_S_ofQ0_1 (by decide) (by show Op.lookupswitch.offset [(0, 35), (2, 52), (6, 56)] 60 _ = 60; rw [lv_osw c_1 (by decide), lv_osw c_3 (by decide), lv_osw c_4 (by decide)]; rfl) (by decide) ?_
        refine va_gets (v := .ref (adE 1)) hx hb (z_HALF hC) hS hown (hT _ m_308) (fun _ h => h) d_S_ofQ0_61 ?_
        exact W.aret (v := .ref (adE 1)) hx hb hr (Or.inl ⟨_, rfl⟩) (Or.inr ⟨_, rfl⟩) (fun t ht hW => ⟨some 1, rfl, congrArg some (by rw [f_S_ofQ0, if_neg c_1, if_neg c_3, if_neg c_4]), ht⟩) (fun _ h => by cases h) d_S_ofQ0_64
theorem call_S_ofQ0 {p : Program} {l : Launch} {e : Env} {R : Room} {s : State} {m : MethodId} {args : Array Value} {below : List Frame} {meth : Method} {c : Code} {H : Heap} {locs : List Loc} {cells slots : Nat} {Q : State → Prop} {cc : ByteArray} {pc nL idx : Nat} {ls : Array Slot} {rest : List Value} {Ts : List Cond} {own : String} {adE adK adV : Nat → Nat} {A0 : Nat → Prop} {x0 x1 : Int32} (S : CallFix p m c cc nL s args Ts own) (hTs : ∀ w ∈ WT, w ∈ Ts) (h1 : Cond.methodLink own idx y_S_ofQ0 ∈ WT) (hR : 2 + 1 ≤ R.frames ∧ 8 + (2 + 11) + 43 ≤ R.locals) (hsz : ls.size = nL) (hrm : (rest.map fun v => v.category).sum ≤ 8) (hdg : decode cc pc = .ok (.invokestatic idx, 3)) (hc : cells ≤ R.cells ∧ slots ≤ R.slots) (hC : cx adE adK adV A0 s s.heap) (hS : va_S A0 s.heap H locs) (kk : W p l e R s m args below meth c H locs cells slots Q (F0 m (pc + 3) ls (.ref (adE (f_S_ofQ0 x0 x1)) :: rest))) : W p l e R s m args below meth c H locs cells slots Q (F0 m pc ls (.int x1 :: .int x0 :: rest)) :=
  va_cse (va_Run.run (va_runS (As := [.int x0, .int x1]) (rest := rest) S (c_S_ofQ0 l adE adK adV x0 x1) (va_cwS 2 S.2.2.2.2 (gS hTs h1 m_298 m_55 m_299) rfl rfl rfl (by decide +kernel) hR) ⟨fun a U g mk q => ⟨q.1, q.2.blind⟩, fun U hU hW => ⟨rfl, hC.at hS no_in hU hW⟩⟩ rfl rfl hsz rfl (lv_room hrm) hdg hc)) (fun r e => by subst e; exact kk)

def f_S_upperOrStack (x0 : Int32) : Nat :=
  if (f_F_six x0) = 0 then
    1
  else
    if (f_S_firstRegister x0) = 2 then
      76
    else
      77
set_option maxRecDepth 100000 in
set_option maxHeartbeats 4000000 in
theorem c_S_upperOrStack (l : Launch) (adE adK adV : Nat → Nat) (x0 : Int32) : Met l y_S_upperOrStack (Cond.code y_S_upperOrStack b_S_upperOrStack 1 (some (.object "InstructionReader$Kind")) :: WT) ({ frames := 2, cells := 0, slots := 0, locals := 43 }) (va_Pc [.int x0] (fun U => cx adE adK adV no U U.heap)) (va_Se adE (fun r => r = some (f_S_upperOrStack x0))) 0 0 no := by
  refine va_MetF (cc := b_S_upperOrStack) (maxL := 1) (ret := (some (.object "InstructionReader$Kind"))) (by decide +kernel) rfl ?_
  intro p e s m args below meth c s₁ B hml hv
  obtain ⟨rfl, hC⟩ := hv
  have hx := B.exec
  have hb := B.bytes
  have hr := B.returns
  have hts := atoms_spec (ws := (Cond.code y_S_upperOrStack b_S_upperOrStack 1 (some (.object "InstructionReader$Kind")) :: WT)) B.pre
  have hT : ∀ w ∈ WT, w.before _ s = true := fun w h => hts w (inC w h)
  have hown : s.vm.findClass R_S = some m.cls := findClass_of_methodNamed B.named
  have hlocks := B.notSynchronized
  have hS : va_S no s.heap s.heap [] := va_S.rf
  have S : CallFix p m c b_S_upperOrStack 1 s _ (Cond.code y_S_upperOrStack b_S_upperOrStack 1 (some (.object "InstructionReader$Kind")) :: WT) R_S := ⟨hx, hb, hml, hown, hts⟩
  have hl := lv_entry ([.int x0]) (n := 1) (Nat.le_of_ble_eq_true rfl)
  rw [lg_entry_eq]
  generalize (lg_sl ([.int x0]) ++ List.replicate (1 - (lg_sl ([.int x0])).length) Slot.unset).toArray = ls at hl ⊢
  have hl : lv_has ls 1 [(0, .int x0)] := hl
  refine lv_iload_n hx hb d_S_upperOrStack_0 rfl (lv_at hl 0 rfl) ?_
  refine call_F_six S inC m_328 ⟨(Nat.le_of_ble_eq_true rfl), (Nat.le_of_ble_eq_true rfl)⟩ hl.1 (Nat.le_of_ble_eq_true rfl) d_S_upperOrStack_1 ⟨(Nat.le_of_ble_eq_true rfl), (Nat.le_of_ble_eq_true rfl)⟩ ?_
  refine lv_if_ne (tgt := 11) hx hb d_S_upperOrStack_4 (by decide) (fun c_1 => ?_) (fun c_1 => ?_)
  · refine lv_iload_n hx hb d_S_upperOrStack_11 rfl (lv_at hl 0 rfl) ?_
    refine call_S_firstRegister S inC m_334 ⟨(Nat.le_of_ble_eq_true rfl), (Nat.le_of_ble_eq_true rfl)⟩ hl.1 (Nat.le_of_ble_eq_true rfl) d_S_upperOrStack_12 ⟨(Nat.le_of_ble_eq_true rfl), (Nat.le_of_ble_eq_true rfl)⟩ ?_
    refine lv_iconst (v := 2) hx hb d_S_upperOrStack_15 (by decide) ?_
    refine lv_icmp_ne (tgt := 25) hx hb d_S_upperOrStack_16 (by decide) (fun c_2 => ?_) (fun c_2 => ?_)
    · refine va_gets (v := .ref (adE 77)) hx hb (z_C_LUI hC) hS hown (hT _ m_339) (fun _ h => h) d_S_upperOrStack_25 ?_
      exact W.aret (v := .ref (adE 77)) hx hb hr (Or.inl ⟨_, rfl⟩) (Or.inr ⟨_, rfl⟩) (fun t ht hW => ⟨some 77, rfl, congrArg some (by rw [f_S_upperOrStack, if_neg c_1, if_neg c_2]), ht⟩) (fun _ h => by cases h) d_S_upperOrStack_28
    · refine va_gets (v := .ref (adE 76)) hx hb (z_C_ADDI16SP hC) hS hown (hT _ m_337) (fun _ h => h) d_S_upperOrStack_19 ?_
      refine lv_goto (tgt := 28) hx hb d_S_upperOrStack_22 (by decide) ?_
      exact W.aret (v := .ref (adE 76)) hx hb hr (Or.inl ⟨_, rfl⟩) (Or.inr ⟨_, rfl⟩) (fun t ht hW => ⟨some 76, rfl, congrArg some (by rw [f_S_upperOrStack, if_neg c_1, if_pos c_2]), ht⟩) (fun _ h => by cases h) d_S_upperOrStack_28
  · refine va_gets (v := .ref (adE 1)) hx hb (z_HALF hC) hS hown (hT _ m_308) (fun _ h => h) d_S_upperOrStack_7 ?_
    exact W.aret (v := .ref (adE 1)) hx hb hr (Or.inl ⟨_, rfl⟩) (Or.inr ⟨_, rfl⟩) (fun t ht hW => ⟨some 1, rfl, congrArg some (by rw [f_S_upperOrStack, if_pos c_1]), ht⟩) (fun _ h => by cases h) d_S_upperOrStack_10
theorem call_S_upperOrStack {p : Program} {l : Launch} {e : Env} {R : Room} {s : State} {m : MethodId} {args : Array Value} {below : List Frame} {meth : Method} {c : Code} {H : Heap} {locs : List Loc} {cells slots : Nat} {Q : State → Prop} {cc : ByteArray} {pc nL idx : Nat} {ls : Array Slot} {rest : List Value} {Ts : List Cond} {own : String} {adE adK adV : Nat → Nat} {A0 : Nat → Prop} {x0 : Int32} (S : CallFix p m c cc nL s args Ts own) (hTs : ∀ w ∈ WT, w ∈ Ts) (h1 : Cond.methodLink own idx y_S_upperOrStack ∈ WT) (hR : 2 + 1 ≤ R.frames ∧ 8 + (1 + 11) + 43 ≤ R.locals) (hsz : ls.size = nL) (hrm : (rest.map fun v => v.category).sum ≤ 8) (hdg : decode cc pc = .ok (.invokestatic idx, 3)) (hc : cells ≤ R.cells ∧ slots ≤ R.slots) (hC : cx adE adK adV A0 s s.heap) (hS : va_S A0 s.heap H locs) (kk : W p l e R s m args below meth c H locs cells slots Q (F0 m (pc + 3) ls (.ref (adE (f_S_upperOrStack x0)) :: rest))) : W p l e R s m args below meth c H locs cells slots Q (F0 m pc ls (.int x0 :: rest)) :=
  va_cse (va_Run.run (va_runS (As := [.int x0]) (rest := rest) S (c_S_upperOrStack l adE adK adV x0) (va_cwS 1 S.2.2.2.2 (gS hTs h1 m_326 m_55 m_327) rfl rfl rfl (by decide +kernel) hR) ⟨fun a U g mk q => ⟨q.1, q.2.blind⟩, fun U hU hW => ⟨rfl, hC.at hS no_in hU hW⟩⟩ rfl rfl hsz rfl (lv_room hrm) hdg hc)) (fun r e => by subst e; exact kk)

def f_S_ofLesserRegisters (x0 : Int32) : Nat :=
  if x0 = 0 then
    81
  else
    if x0 = 1 then
      82
    else
      if x0 = 2 then
        83
      else
        84
set_option maxRecDepth 100000 in
set_option maxHeartbeats 4000000 in
theorem c_S_ofLesserRegisters (l : Launch) (adE adK adV : Nat → Nat) (x0 : Int32) : Met l y_S_ofLesserRegisters (Cond.code y_S_ofLesserRegisters b_S_ofLesserRegisters 1 (some (.object "InstructionReader$Kind")) :: WT) ({ frames := 0, cells := 0, slots := 0, locals := 0 }) (va_Pc [.int x0] (fun U => cx adE adK adV no U U.heap)) (va_Se adE (fun r => r = some (f_S_ofLesserRegisters x0))) 0 0 no := by
  refine va_MetF (cc := b_S_ofLesserRegisters) (maxL := 1) (ret := (some (.object "InstructionReader$Kind"))) (by decide +kernel) rfl ?_
  intro p e s m args below meth c s₁ B hml hv
  obtain ⟨rfl, hC⟩ := hv
  have hx := B.exec
  have hb := B.bytes
  have hr := B.returns
  have hts := atoms_spec (ws := (Cond.code y_S_ofLesserRegisters b_S_ofLesserRegisters 1 (some (.object "InstructionReader$Kind")) :: WT)) B.pre
  have hT : ∀ w ∈ WT, w.before _ s = true := fun w h => hts w (inC w h)
  have hown : s.vm.findClass R_S = some m.cls := findClass_of_methodNamed B.named
  have hlocks := B.notSynchronized
  have hS : va_S no s.heap s.heap [] := va_S.rf
  have S : CallFix p m c b_S_ofLesserRegisters 1 s _ (Cond.code y_S_ofLesserRegisters b_S_ofLesserRegisters 1 (some (.object "InstructionReader$Kind")) :: WT) R_S := ⟨hx, hb, hml, hown, hts⟩
  have hl := lv_entry ([.int x0]) (n := 1) (Nat.le_of_ble_eq_true rfl)
  rw [lg_entry_eq]
  generalize (lg_sl ([.int x0]) ++ List.replicate (1 - (lg_sl ([.int x0])).length) Slot.unset).toArray = ls at hl ⊢
  have hl : lv_has ls 1 [(0, .int x0)] := hl
  refine lv_iload_n hx hb d_S_ofLesserRegisters_0 rfl (lv_at hl 0 rfl) ?_
  by_cases c_1 : x0 = 0
  · refine lv_tableIn (off := 27) (tgt := 28) hx hb d_S_ofLesserRegisters_1 (by rw [c_1]; decide) (by rw [c_1]; decide) (by rw [c_1]; decide) (by decide) ?_
    refine va_gets (v := .ref (adE 81)) hx hb (z_C_SUB hC) hS hown (hT _ m_356) (fun _ h => h) d_S_ofLesserRegisters_28 ?_
    exact W.aret (v := .ref (adE 81)) hx hb hr (Or.inl ⟨_, rfl⟩) (Or.inr ⟨_, rfl⟩) (fun t ht hW => ⟨some 81, rfl, congrArg some (by rw [f_S_ofLesserRegisters, if_pos c_1]), ht⟩) (fun _ h => by cases h) d_S_ofLesserRegisters_31
  · by_cases c_2 : x0 = 1
    · refine lv_tableIn (off := 31) (tgt := 32) hx hb d_S_ofLesserRegisters_1 (by rw [c_2]; decide) (by rw [c_2]; decide) (by rw [c_2]; decide) (by decide) ?_
      refine va_gets (v := .ref (adE 82)) hx hb (z_C_XOR hC) hS hown (hT _ m_358) (fun _ h => h) d_S_ofLesserRegisters_32 ?_
      exact W.aret (v := .ref (adE 82)) hx hb hr (Or.inl ⟨_, rfl⟩) (Or.inr ⟨_, rfl⟩) (fun t ht hW => ⟨some 82, rfl, congrArg some (by rw [f_S_ofLesserRegisters, if_neg c_1, if_pos c_2]), ht⟩) (fun _ h => by cases h) d_S_ofLesserRegisters_35
    · by_cases c_3 : x0 = 2
      · refine lv_tableIn (off := 35) (tgt := 36) hx hb d_S_ofLesserRegisters_1 (by rw [c_3]; decide) (by rw [c_3]; decide) (by rw [c_3]; decide) (by decide) ?_
        refine va_gets (v := .ref (adE 83)) hx hb (z_C_OR hC) hS hown (hT _ m_360) (fun _ h => h) d_S_ofLesserRegisters_36 ?_
        exact W.aret (v := .ref (adE 83)) hx hb hr (Or.inl ⟨_, rfl⟩) (Or.inr ⟨_, rfl⟩) (fun t ht hW => ⟨some 83, rfl, congrArg some (by rw [f_S_ofLesserRegisters, if_neg c_1, if_neg c_2, if_pos c_3]), ht⟩) (fun _ h => by cases h) d_S_ofLesserRegisters_39
      · refine lv_tableOut (tgt := 40) hx hb d_S_ofLesserRegisters_1 (by have n0 := lv_neT c_1 (show (0 : Int32).toInt = 0 by decide); have n1 := lv_neT c_2 (show (1 : Int32).toInt = 1 by decide); have n2 := lv_neT c_3 (show (2 : Int32).toInt = 2 by decide); omega) (by decide) ?_
        refine va_gets (v := .ref (adE 84)) hx hb (z_C_AND hC) hS hown (hT _ m_362) (fun _ h => h) d_S_ofLesserRegisters_40 ?_
        exact W.aret (v := .ref (adE 84)) hx hb hr (Or.inl ⟨_, rfl⟩) (Or.inr ⟨_, rfl⟩) (fun t ht hW => ⟨some 84, rfl, congrArg some (by rw [f_S_ofLesserRegisters, if_neg c_1, if_neg c_2, if_neg c_3]), ht⟩) (fun _ h => by cases h) d_S_ofLesserRegisters_43
theorem call_S_ofLesserRegisters {p : Program} {l : Launch} {e : Env} {R : Room} {s : State} {m : MethodId} {args : Array Value} {below : List Frame} {meth : Method} {c : Code} {H : Heap} {locs : List Loc} {cells slots : Nat} {Q : State → Prop} {cc : ByteArray} {pc nL idx : Nat} {ls : Array Slot} {rest : List Value} {Ts : List Cond} {own : String} {adE adK adV : Nat → Nat} {A0 : Nat → Prop} {x0 : Int32} (S : CallFix p m c cc nL s args Ts own) (hTs : ∀ w ∈ WT, w ∈ Ts) (h1 : Cond.methodLink own idx y_S_ofLesserRegisters ∈ WT) (hR : 0 + 1 ≤ R.frames ∧ 8 + (1 + 11) + 0 ≤ R.locals) (hsz : ls.size = nL) (hrm : (rest.map fun v => v.category).sum ≤ 8) (hdg : decode cc pc = .ok (.invokestatic idx, 3)) (hc : cells ≤ R.cells ∧ slots ≤ R.slots) (hC : cx adE adK adV A0 s s.heap) (hS : va_S A0 s.heap H locs) (kk : W p l e R s m args below meth c H locs cells slots Q (F0 m (pc + 3) ls (.ref (adE (f_S_ofLesserRegisters x0)) :: rest))) : W p l e R s m args below meth c H locs cells slots Q (F0 m pc ls (.int x0 :: rest)) :=
  va_cse (va_Run.run (va_runS (As := [.int x0]) (rest := rest) S (c_S_ofLesserRegisters l adE adK adV x0) (va_cwS 1 S.2.2.2.2 (gS hTs h1 m_354 m_55 m_355) rfl rfl rfl (by decide +kernel) hR) ⟨fun a U g mk q => ⟨q.1, q.2.blind⟩, fun U hU hW => ⟨rfl, hC.at hS no_in hU hW⟩⟩ rfl rfl hsz rfl (lv_room hrm) hdg hc)) (fun r e => by subst e; exact kk)

def f_S_onLesserRegister (x0 : Int32) : Nat :=
  if ((x0 >>> ((10 : Int32) &&& 31)) &&& 3) = 2 then
    80
  else
    if (f_S_hasBit12 x0) = 0 then
      if ((x0 >>> ((10 : Int32) &&& 31)) &&& 3) = 0 then
        78
      else
        if ((x0 >>> ((10 : Int32) &&& 31)) &&& 3) = 1 then
          79
        else
          f_S_ofLesserRegisters ((x0 >>> ((5 : Int32) &&& 31)) &&& 3)
    else
      1
set_option maxRecDepth 100000 in
set_option maxHeartbeats 4000000 in
theorem c_S_onLesserRegister (l : Launch) (adE adK adV : Nat → Nat) (x0 : Int32) : Met l y_S_onLesserRegister (Cond.code y_S_onLesserRegister b_S_onLesserRegister 2 (some (.object "InstructionReader$Kind")) :: WT) ({ frames := 1, cells := 0, slots := 0, locals := 20 }) (va_Pc [.int x0] (fun U => cx adE adK adV no U U.heap)) (va_Se adE (fun r => r = some (f_S_onLesserRegister x0))) 0 0 no := by
  refine va_MetF (cc := b_S_onLesserRegister) (maxL := 2) (ret := (some (.object "InstructionReader$Kind"))) (by decide +kernel) rfl ?_
  intro p e s m args below meth c s₁ B hml hv
  obtain ⟨rfl, hC⟩ := hv
  have hx := B.exec
  have hb := B.bytes
  have hr := B.returns
  have hts := atoms_spec (ws := (Cond.code y_S_onLesserRegister b_S_onLesserRegister 2 (some (.object "InstructionReader$Kind")) :: WT)) B.pre
  have hT : ∀ w ∈ WT, w.before _ s = true := fun w h => hts w (inC w h)
  have hown : s.vm.findClass R_S = some m.cls := findClass_of_methodNamed B.named
  have hlocks := B.notSynchronized
  have hS : va_S no s.heap s.heap [] := va_S.rf
  have S : CallFix p m c b_S_onLesserRegister 2 s _ (Cond.code y_S_onLesserRegister b_S_onLesserRegister 2 (some (.object "InstructionReader$Kind")) :: WT) R_S := ⟨hx, hb, hml, hown, hts⟩
  have hl := lv_entry ([.int x0]) (n := 2) (Nat.le_of_ble_eq_true rfl)
  rw [lg_entry_eq]
  generalize (lg_sl ([.int x0]) ++ List.replicate (2 - (lg_sl ([.int x0])).length) Slot.unset).toArray = ls at hl ⊢
  have hl : lv_has ls 2 [(0, .int x0)] := hl
  refine lv_iload_n hx hb d_S_onLesserRegister_0 rfl (lv_at hl 0 rfl) ?_
  refine lv_bipush (v := 10) hx hb d_S_onLesserRegister_1 (by decide) ?_
  refine lv_ishr hx hb d_S_onLesserRegister_3 ?_
  refine lv_iconst (v := 3) hx hb d_S_onLesserRegister_4 (by decide) ?_
  refine lv_iand hx hb d_S_onLesserRegister_5 ?_
  refine lv_istore_n (lv' := [(1, .int ((x0 >>> ((10 : Int32) &&& 31)) &&& 3)), (0, .int x0)]) hx hb d_S_onLesserRegister_6 rfl hl (by decide) rfl (fun ls hl => ?_)
  refine lv_iload_n hx hb d_S_onLesserRegister_7 rfl (lv_at hl 0 rfl) ?_
  refine lv_iconst (v := 2) hx hb d_S_onLesserRegister_8 (by decide) ?_
  refine lv_icmp_ne (tgt := 16) hx hb d_S_onLesserRegister_9 (by decide) (fun c_1 => ?_) (fun c_1 => ?_)
  · refine lv_iload_n hx hb d_S_onLesserRegister_16 rfl (lv_at hl 1 rfl) ?_
    refine call_S_hasBit12 S inC m_346 ⟨(Nat.le_of_ble_eq_true rfl), (Nat.le_of_ble_eq_true rfl)⟩ hl.1 (Nat.le_of_ble_eq_true rfl) d_S_onLesserRegister_17 ⟨(Nat.le_of_ble_eq_true rfl), (Nat.le_of_ble_eq_true rfl)⟩ ?_
    refine lv_if_eq (tgt := 27) hx hb d_S_onLesserRegister_20 (by decide) (fun c_2 => ?_) (fun c_2 => ?_)
    · refine lv_iload_n hx hb d_S_onLesserRegister_27 rfl (lv_at hl 0 rfl) ?_
      by_cases c_3 : ((x0 >>> ((10 : Int32) &&& 31)) &&& 3) = 0
      · refine lv_lookup (off := 28) (tgt := 56) hx hb d_S_onLesserRegister_28 (by decide) (by rw [c_3]; decide) (by decide) ?_
        refine va_gets (v := .ref (adE 78)) hx hb (z_C_SRLI hC) hS hown (hT _ m_349) (fun _ h => h) d_S_onLesserRegister_56 ?_
        exact W.aret (v := .ref (adE 78)) hx hb hr (Or.inl ⟨_, rfl⟩) (Or.inr ⟨_, rfl⟩) (fun t ht hW => ⟨some 78, rfl, congrArg some (by rw [f_S_onLesserRegister, if_neg c_1, if_pos c_2, if_pos c_3]), ht⟩) (fun _ h => by cases h) d_S_onLesserRegister_59
      · by_cases c_4 : ((x0 >>> ((10 : Int32) &&& 31)) &&& 3) = 1
        · refine lv_lookup (off := 32) (tgt := 60) hx hb d_S_onLesserRegister_28 (by decide) (by rw [c_4]; decide) (by decide) ?_
          refine va_gets (v := .ref (adE 79)) hx hb (z_C_SRAI hC) hS hown (hT _ m_351) (fun _ h => h) d_S_onLesserRegister_60 ?_
          exact W.aret (v := .ref (adE 79)) hx hb hr (Or.inl ⟨_, rfl⟩) (Or.inr ⟨_, rfl⟩) (fun t ht hW => ⟨some 79, rfl, congrArg some (by rw [f_S_onLesserRegister, if_neg c_1, if_pos c_2, if_neg c_3, if_pos c_4]), ht⟩) (fun _ h => by cases h) d_S_onLesserRegister_63
        · refine lv_lookup (off := 36) (tgt := 64) hx hb d_S_onLesserRegister_28 (by decide) (by show Op.lookupswitch.offset [(0, 28), (1, 32)] 36 _ = 36; rw [lv_osw c_3 (by decide), lv_osw c_4 (by decide)]; rfl) (by decide) ?_
          refine lv_iload_n hx hb d_S_onLesserRegister_64 rfl (lv_at hl 1 rfl) ?_
          refine lv_iconst (v := 5) hx hb d_S_onLesserRegister_65 (by decide) ?_
          refine lv_ishr hx hb d_S_onLesserRegister_66 ?_
          refine lv_iconst (v := 3) hx hb d_S_onLesserRegister_67 (by decide) ?_
          refine lv_iand hx hb d_S_onLesserRegister_68 ?_
          refine call_S_ofLesserRegisters S inC m_353 ⟨(Nat.le_of_ble_eq_true rfl), (Nat.le_of_ble_eq_true rfl)⟩ hl.1 (Nat.le_of_ble_eq_true rfl) d_S_onLesserRegister_69 ⟨(Nat.le_of_ble_eq_true rfl), (Nat.le_of_ble_eq_true rfl)⟩ hC hS ?_
          exact W.aret (v := .ref (adE (f_S_ofLesserRegisters ((x0 >>> ((5 : Int32) &&& 31)) &&& 3)))) hx hb hr (Or.inl ⟨_, rfl⟩) (Or.inr ⟨_, rfl⟩) (fun t ht hW => ⟨some (f_S_ofLesserRegisters ((x0 >>> ((5 : Int32) &&& 31)) &&& 3)), rfl, congrArg some (by rw [f_S_onLesserRegister, if_neg c_1, if_pos c_2, if_neg c_3, if_neg c_4]), ht⟩) (fun _ h => by cases h) d_S_onLesserRegister_72
    · refine va_gets (v := .ref (adE 1)) hx hb (z_HALF hC) hS hown (hT _ m_308) (fun _ h => h) d_S_onLesserRegister_23 ?_
      exact W.aret (v := .ref (adE 1)) hx hb hr (Or.inl ⟨_, rfl⟩) (Or.inr ⟨_, rfl⟩) (fun t ht hW => ⟨some 1, rfl, congrArg some (by rw [f_S_onLesserRegister, if_neg c_1, if_neg c_2]), ht⟩) (fun _ h => by cases h) d_S_onLesserRegister_26
  · refine va_gets (v := .ref (adE 80)) hx hb (z_C_ANDI hC) hS hown (hT _ m_344) (fun _ h => h) d_S_onLesserRegister_12 ?_
    exact W.aret (v := .ref (adE 80)) hx hb hr (Or.inl ⟨_, rfl⟩) (Or.inr ⟨_, rfl⟩) (fun t ht hW => ⟨some 80, rfl, congrArg some (by rw [f_S_onLesserRegister, if_pos c_1]), ht⟩) (fun _ h => by cases h) d_S_onLesserRegister_15
theorem call_S_onLesserRegister {p : Program} {l : Launch} {e : Env} {R : Room} {s : State} {m : MethodId} {args : Array Value} {below : List Frame} {meth : Method} {c : Code} {H : Heap} {locs : List Loc} {cells slots : Nat} {Q : State → Prop} {cc : ByteArray} {pc nL idx : Nat} {ls : Array Slot} {rest : List Value} {Ts : List Cond} {own : String} {adE adK adV : Nat → Nat} {A0 : Nat → Prop} {x0 : Int32} (S : CallFix p m c cc nL s args Ts own) (hTs : ∀ w ∈ WT, w ∈ Ts) (h1 : Cond.methodLink own idx y_S_onLesserRegister ∈ WT) (hR : 1 + 1 ≤ R.frames ∧ 8 + (2 + 11) + 20 ≤ R.locals) (hsz : ls.size = nL) (hrm : (rest.map fun v => v.category).sum ≤ 8) (hdg : decode cc pc = .ok (.invokestatic idx, 3)) (hc : cells ≤ R.cells ∧ slots ≤ R.slots) (hC : cx adE adK adV A0 s s.heap) (hS : va_S A0 s.heap H locs) (kk : W p l e R s m args below meth c H locs cells slots Q (F0 m (pc + 3) ls (.ref (adE (f_S_onLesserRegister x0)) :: rest))) : W p l e R s m args below meth c H locs cells slots Q (F0 m pc ls (.int x0 :: rest)) :=
  va_cse (va_Run.run (va_runS (As := [.int x0]) (rest := rest) S (c_S_onLesserRegister l adE adK adV x0) (va_cwS 1 S.2.2.2.2 (gS hTs h1 m_342 m_55 m_343) rfl rfl rfl (by decide +kernel) hR) ⟨fun a U g mk q => ⟨q.1, q.2.blind⟩, fun U hU hW => ⟨rfl, hC.at hS no_in hU hW⟩⟩ rfl rfl hsz rfl (lv_room hrm) hdg hc)) (fun r e => by subst e; exact kk)

def f_S_ofQ1 (x0 x1 : Int32) : Nat :=
  if x0 = 0 then
    if x1 = 1 then
      71
    else
      72
  else
    if x0 = 1 then
      73
    else
      if x0 = 2 then
        75
      else
        if x0 = 3 then
          f_S_upperOrStack x1
        else
          if x0 = 4 then
            f_S_onLesserRegister x1
          else
            if x0 = 5 then
              74
            else
              if x0 = 6 then
                85
              else
                86
set_option maxRecDepth 100000 in
set_option maxHeartbeats 4000000 in
theorem c_S_ofQ1 (l : Launch) (adE adK adV : Nat → Nat) (x0 x1 : Int32) : Met l y_S_ofQ1 (Cond.code y_S_ofQ1 b_S_ofQ1 2 (some (.object "InstructionReader$Kind")) :: WT) ({ frames := 3, cells := 0, slots := 0, locals := 63 }) (va_Pc [.int x0, .int x1] (fun U => cx adE adK adV no U U.heap)) (va_Se adE (fun r => r = some (f_S_ofQ1 x0 x1))) 0 0 no := by
  refine va_MetF (cc := b_S_ofQ1) (maxL := 2) (ret := (some (.object "InstructionReader$Kind"))) (by decide +kernel) rfl ?_
  intro p e s m args below meth c s₁ B hml hv
  obtain ⟨rfl, hC⟩ := hv
  have hx := B.exec
  have hb := B.bytes
  have hr := B.returns
  have hts := atoms_spec (ws := (Cond.code y_S_ofQ1 b_S_ofQ1 2 (some (.object "InstructionReader$Kind")) :: WT)) B.pre
  have hT : ∀ w ∈ WT, w.before _ s = true := fun w h => hts w (inC w h)
  have hown : s.vm.findClass R_S = some m.cls := findClass_of_methodNamed B.named
  have hlocks := B.notSynchronized
  have hS : va_S no s.heap s.heap [] := va_S.rf
  have S : CallFix p m c b_S_ofQ1 2 s _ (Cond.code y_S_ofQ1 b_S_ofQ1 2 (some (.object "InstructionReader$Kind")) :: WT) R_S := ⟨hx, hb, hml, hown, hts⟩
  have hl := lv_entry ([.int x0, .int x1]) (n := 2) (Nat.le_of_ble_eq_true rfl)
  rw [lg_entry_eq]
  generalize (lg_sl ([.int x0, .int x1]) ++ List.replicate (2 - (lg_sl ([.int x0, .int x1])).length) Slot.unset).toArray = ls at hl ⊢
  have hl : lv_has ls 2 [(0, .int x0), (1, .int x1)] := hl
  refine lv_iload_n hx hb d_S_ofQ1_0 rfl (lv_at hl 0 rfl) ?_
  by_cases c_1 : x0 = 0
  · refine lv_tableIn (off := 43) (tgt := 44) hx hb d_S_ofQ1_1 (by rw [c_1]; decide) (by rw [c_1]; decide) (by rw [c_1]; decide) (by decide) ?_
    refine lv_iload_n hx hb d_S_ofQ1_44 rfl (lv_at hl 1 rfl) ?_
    refine lv_iconst (v := 1) hx hb d_S_ofQ1_45 (by decide) ?_
    refine lv_icmp_ne (tgt := 55) hx hb d_S_ofQ1_46 (by decide) (fun c_2 => ?_) (fun c_2 => ?_)
    · refine va_gets (v := .ref (adE 72)) hx hb (z_C_ADDI hC) hS hown (hT _ m_319) (fun _ h => h) d_S_ofQ1_55 ?_
      exact W.aret (v := .ref (adE 72)) hx hb hr (Or.inl ⟨_, rfl⟩) (Or.inr ⟨_, rfl⟩) (fun t ht hW => ⟨some 72, rfl, congrArg some (by rw [f_S_ofQ1, if_pos c_1, if_neg c_2]), ht⟩) (fun _ h => by cases h) d_S_ofQ1_58
    · refine va_gets (v := .ref (adE 71)) hx hb (z_C_NOP hC) hS hown (hT _ m_317) (fun _ h => h) d_S_ofQ1_49 ?_
      refine lv_goto (tgt := 58) hx hb d_S_ofQ1_52 (by decide) ?_
      exact W.aret (v := .ref (adE 71)) hx hb hr (Or.inl ⟨_, rfl⟩) (Or.inr ⟨_, rfl⟩) (fun t ht hW => ⟨some 71, rfl, congrArg some (by rw [f_S_ofQ1, if_pos c_1, if_pos c_2]), ht⟩) (fun _ h => by cases h) d_S_ofQ1_58
  · by_cases c_3 : x0 = 1
    · refine lv_tableIn (off := 58) (tgt := 59) hx hb d_S_ofQ1_1 (by rw [c_3]; decide) (by rw [c_3]; decide) (by rw [c_3]; decide) (by decide) ?_
      refine va_gets (v := .ref (adE 73)) hx hb (z_C_JAL hC) hS hown (hT _ m_321) (fun _ h => h) d_S_ofQ1_59 ?_
      exact W.aret (v := .ref (adE 73)) hx hb hr (Or.inl ⟨_, rfl⟩) (Or.inr ⟨_, rfl⟩) (fun t ht hW => ⟨some 73, rfl, congrArg some (by rw [f_S_ofQ1, if_neg c_1, if_pos c_3]), ht⟩) (fun _ h => by cases h) d_S_ofQ1_62
    · by_cases c_4 : x0 = 2
      · refine lv_tableIn (off := 62) (tgt := 63) hx hb d_S_ofQ1_1 (by rw [c_4]; decide) (by rw [c_4]; decide) (by rw [c_4]; decide) (by decide) ?_
        refine va_gets (v := .ref (adE 75)) hx hb (z_C_LI hC) hS hown (hT _ m_323) (fun _ h => h) d_S_ofQ1_63 ?_
        exact W.aret (v := .ref (adE 75)) hx hb hr (Or.inl ⟨_, rfl⟩) (Or.inr ⟨_, rfl⟩) (fun t ht hW => ⟨some 75, rfl, congrArg some (by rw [f_S_ofQ1, if_neg c_1, if_neg c_3, if_pos c_4]), ht⟩) (fun _ h => by cases h) d_S_ofQ1_66
      · by_cases c_5 : x0 = 3
        · refine lv_tableIn (off := 66) (tgt := 67) hx hb d_S_ofQ1_1 (by rw [c_5]; decide) (by rw [c_5]; decide) (by rw [c_5]; decide) (by decide) ?_
          refine lv_iload_n hx hb d_S_ofQ1_67 rfl (lv_at hl 1 rfl) ?_
          refine call_S_upperOrStack S inC m_325 ⟨(Nat.le_of_ble_eq_true rfl), (Nat.le_of_ble_eq_true rfl)⟩ hl.1 (Nat.le_of_ble_eq_true rfl) d_S_ofQ1_68 ⟨(Nat.le_of_ble_eq_true rfl), (Nat.le_of_ble_eq_true rfl)⟩ hC hS ?_
          exact W.aret (v := .ref (adE (f_S_upperOrStack x1))) hx hb hr (Or.inl ⟨_, rfl⟩) (Or.inr ⟨_, rfl⟩) (fun t ht hW => ⟨some (f_S_upperOrStack x1), rfl, congrArg some (by rw [f_S_ofQ1, if_neg c_1, if_neg c_3, if_neg c_4, if_pos c_5]), ht⟩) (fun _ h => by cases h) d_S_ofQ1_71
        · by_cases c_6 : x0 = 4
          · refine lv_tableIn (off := 71) (tgt := 72) hx hb d_S_ofQ1_1 (by rw [c_6]; decide) (by rw [c_6]; decide) (by rw [c_6]; decide) (by decide) ?_
            refine lv_iload_n hx hb d_S_ofQ1_72 rfl (lv_at hl 1 rfl) ?_
            refine call_S_onLesserRegister S inC m_341 ⟨(Nat.le_of_ble_eq_true rfl), (Nat.le_of_ble_eq_true rfl)⟩ hl.1 (Nat.le_of_ble_eq_true rfl) d_S_ofQ1_73 ⟨(Nat.le_of_ble_eq_true rfl), (Nat.le_of_ble_eq_true rfl)⟩ hC hS ?_
            exact W.aret (v := .ref (adE (f_S_onLesserRegister x1))) hx hb hr (Or.inl ⟨_, rfl⟩) (Or.inr ⟨_, rfl⟩) (fun t ht hW => ⟨some (f_S_onLesserRegister x1), rfl, congrArg some (by rw [f_S_ofQ1, if_neg c_1, if_neg c_3, if_neg c_4, if_neg c_5, if_pos c_6]), ht⟩) (fun _ h => by cases h) d_S_ofQ1_76
          · by_cases c_7 : x0 = 5
            · refine lv_tableIn (off := 76) (tgt := 77) hx hb d_S_ofQ1_1 (by rw [c_7]; decide) (by rw [c_7]; decide) (by rw [c_7]; decide) (by decide) ?_
              refine va_gets (v := .ref (adE 74)) hx hb (z_C_J hC) hS hown (hT _ m_364) (fun _ h => h) d_S_ofQ1_77 ?_
              exact W.aret (v := .ref (adE 74)) hx hb hr (Or.inl ⟨_, rfl⟩) (Or.inr ⟨_, rfl⟩) (fun t ht hW => ⟨some 74, rfl, congrArg some (by rw [f_S_ofQ1, if_neg c_1, if_neg c_3, if_neg c_4, if_neg c_5, if_neg c_6, if_pos c_7]), ht⟩) (fun _ h => by cases h) d_S_ofQ1_80
            · by_cases c_8 : x0 = 6
              · refine lv_tableIn (off := 80) (tgt := 81) hx hb d_S_ofQ1_1 (by rw [c_8]; decide) (by rw [c_8]; decide) (by rw [c_8]; decide) (by decide) ?_
                refine va_gets (v := .ref (adE 85)) hx hb (z_C_BEQZ hC) hS hown (hT _ m_366) (fun _ h => h) d_S_ofQ1_81 ?_
                exact W.aret (v := .ref (adE 85)) hx hb hr (Or.inl ⟨_, rfl⟩) (Or.inr ⟨_, rfl⟩) (fun t ht hW => ⟨some 85, rfl, congrArg some (by rw [f_S_ofQ1, if_neg c_1, if_neg c_3, if_neg c_4, if_neg c_5, if_neg c_6, if_neg c_7, if_pos c_8]), ht⟩) (fun _ h => by cases h) d_S_ofQ1_84
              · refine lv_tableOut (tgt := 85) hx hb d_S_ofQ1_1 (by have n0 := lv_neT c_1 (show (0 : Int32).toInt = 0 by decide); have n1 := lv_neT c_3 (show (1 : Int32).toInt = 1 by decide); have n2 := lv_neT c_4 (show (2 : Int32).toInt = 2 by decide); have n3 := lv_neT c_5 (show (3 : Int32).toInt = 3 by decide); have n4 := lv_neT c_6 (show (4 : Int32).toInt = 4 by decide); have n5 := lv_neT c_7 (show (5 : Int32).toInt = 5 by decide); have n6 := lv_neT c_8 (show (6 : Int32).toInt = 6 by decide); omega) (by decide) ?_
                refine va_gets (v := .ref (adE 86)) hx hb (z_C_BNEZ hC) hS hown (hT _ m_368) (fun _ h => h) d_S_ofQ1_85 ?_
                exact W.aret (v := .ref (adE 86)) hx hb hr (Or.inl ⟨_, rfl⟩) (Or.inr ⟨_, rfl⟩) (fun t ht hW => ⟨some 86, rfl, congrArg some (by rw [f_S_ofQ1, if_neg c_1, if_neg c_3, if_neg c_4, if_neg c_5, if_neg c_6, if_neg c_7, if_neg c_8]), ht⟩) (fun _ h => by cases h) d_S_ofQ1_88
theorem call_S_ofQ1 {p : Program} {l : Launch} {e : Env} {R : Room} {s : State} {m : MethodId} {args : Array Value} {below : List Frame} {meth : Method} {c : Code} {H : Heap} {locs : List Loc} {cells slots : Nat} {Q : State → Prop} {cc : ByteArray} {pc nL idx : Nat} {ls : Array Slot} {rest : List Value} {Ts : List Cond} {own : String} {adE adK adV : Nat → Nat} {A0 : Nat → Prop} {x0 x1 : Int32} (S : CallFix p m c cc nL s args Ts own) (hTs : ∀ w ∈ WT, w ∈ Ts) (h1 : Cond.methodLink own idx y_S_ofQ1 ∈ WT) (hR : 3 + 1 ≤ R.frames ∧ 8 + (2 + 11) + 63 ≤ R.locals) (hsz : ls.size = nL) (hrm : (rest.map fun v => v.category).sum ≤ 8) (hdg : decode cc pc = .ok (.invokestatic idx, 3)) (hc : cells ≤ R.cells ∧ slots ≤ R.slots) (hC : cx adE adK adV A0 s s.heap) (hS : va_S A0 s.heap H locs) (kk : W p l e R s m args below meth c H locs cells slots Q (F0 m (pc + 3) ls (.ref (adE (f_S_ofQ1 x0 x1)) :: rest))) : W p l e R s m args below meth c H locs cells slots Q (F0 m pc ls (.int x1 :: .int x0 :: rest)) :=
  va_cse (va_Run.run (va_runS (As := [.int x0, .int x1]) (rest := rest) S (c_S_ofQ1 l adE adK adV x0 x1) (va_cwS 2 S.2.2.2.2 (gS hTs h1 m_315 m_55 m_316) rfl rfl rfl (by decide +kernel) hR) ⟨fun a U g mk q => ⟨q.1, q.2.blind⟩, fun U hU hW => ⟨rfl, hC.at hS no_in hU hW⟩⟩ rfl rfl hsz rfl (lv_room hrm) hdg hc)) (fun r e => by subst e; exact kk)

def f_S_moveOrJump (x0 : Int32) : Nat :=
  if (f_S_secondRegister x0) = 0 then
    if (f_S_firstRegister x0) = 0 then
      1
    else
      89
  else
    90
set_option maxRecDepth 100000 in
set_option maxHeartbeats 4000000 in
theorem c_S_moveOrJump (l : Launch) (adE adK adV : Nat → Nat) (x0 : Int32) : Met l y_S_moveOrJump (Cond.code y_S_moveOrJump b_S_moveOrJump 1 (some (.object "InstructionReader$Kind")) :: WT) ({ frames := 1, cells := 0, slots := 0, locals := 20 }) (va_Pc [.int x0] (fun U => cx adE adK adV no U U.heap)) (va_Se adE (fun r => r = some (f_S_moveOrJump x0))) 0 0 no := by
  refine va_MetF (cc := b_S_moveOrJump) (maxL := 1) (ret := (some (.object "InstructionReader$Kind"))) (by decide +kernel) rfl ?_
  intro p e s m args below meth c s₁ B hml hv
  obtain ⟨rfl, hC⟩ := hv
  have hx := B.exec
  have hb := B.bytes
  have hr := B.returns
  have hts := atoms_spec (ws := (Cond.code y_S_moveOrJump b_S_moveOrJump 1 (some (.object "InstructionReader$Kind")) :: WT)) B.pre
  have hT : ∀ w ∈ WT, w.before _ s = true := fun w h => hts w (inC w h)
  have hown : s.vm.findClass R_S = some m.cls := findClass_of_methodNamed B.named
  have hlocks := B.notSynchronized
  have hS : va_S no s.heap s.heap [] := va_S.rf
  have S : CallFix p m c b_S_moveOrJump 1 s _ (Cond.code y_S_moveOrJump b_S_moveOrJump 1 (some (.object "InstructionReader$Kind")) :: WT) R_S := ⟨hx, hb, hml, hown, hts⟩
  have hl := lv_entry ([.int x0]) (n := 1) (Nat.le_of_ble_eq_true rfl)
  rw [lg_entry_eq]
  generalize (lg_sl ([.int x0]) ++ List.replicate (1 - (lg_sl ([.int x0])).length) Slot.unset).toArray = ls at hl ⊢
  have hl : lv_has ls 1 [(0, .int x0)] := hl
  refine lv_iload_n hx hb d_S_moveOrJump_0 rfl (lv_at hl 0 rfl) ?_
  refine call_S_secondRegister S inC m_380 ⟨(Nat.le_of_ble_eq_true rfl), (Nat.le_of_ble_eq_true rfl)⟩ hl.1 (Nat.le_of_ble_eq_true rfl) d_S_moveOrJump_1 ⟨(Nat.le_of_ble_eq_true rfl), (Nat.le_of_ble_eq_true rfl)⟩ ?_
  refine lv_if_eq (tgt := 11) hx hb d_S_moveOrJump_4 (by decide) (fun c_1 => ?_) (fun c_1 => ?_)
  · refine lv_iload_n hx hb d_S_moveOrJump_11 rfl (lv_at hl 0 rfl) ?_
    refine call_S_firstRegister S inC m_334 ⟨(Nat.le_of_ble_eq_true rfl), (Nat.le_of_ble_eq_true rfl)⟩ hl.1 (Nat.le_of_ble_eq_true rfl) d_S_moveOrJump_12 ⟨(Nat.le_of_ble_eq_true rfl), (Nat.le_of_ble_eq_true rfl)⟩ ?_
    refine lv_if_eq (tgt := 24) hx hb d_S_moveOrJump_15 (by decide) (fun c_2 => ?_) (fun c_2 => ?_)
    · refine va_gets (v := .ref (adE 1)) hx hb (z_HALF hC) hS hown (hT _ m_308) (fun _ h => h) d_S_moveOrJump_24 ?_
      exact W.aret (v := .ref (adE 1)) hx hb hr (Or.inl ⟨_, rfl⟩) (Or.inr ⟨_, rfl⟩) (fun t ht hW => ⟨some 1, rfl, congrArg some (by rw [f_S_moveOrJump, if_pos c_1, if_pos c_2]), ht⟩) (fun _ h => by cases h) d_S_moveOrJump_27
    · refine va_gets (v := .ref (adE 89)) hx hb (z_C_JR hC) hS hown (hT _ m_394) (fun _ h => h) d_S_moveOrJump_18 ?_
      refine lv_goto (tgt := 27) hx hb d_S_moveOrJump_21 (by decide) ?_
      exact W.aret (v := .ref (adE 89)) hx hb hr (Or.inl ⟨_, rfl⟩) (Or.inr ⟨_, rfl⟩) (fun t ht hW => ⟨some 89, rfl, congrArg some (by rw [f_S_moveOrJump, if_pos c_1, if_neg c_2]), ht⟩) (fun _ h => by cases h) d_S_moveOrJump_27
  · refine va_gets (v := .ref (adE 90)) hx hb (z_C_MV hC) hS hown (hT _ m_392) (fun _ h => h) d_S_moveOrJump_7 ?_
    exact W.aret (v := .ref (adE 90)) hx hb hr (Or.inl ⟨_, rfl⟩) (Or.inr ⟨_, rfl⟩) (fun t ht hW => ⟨some 90, rfl, congrArg some (by rw [f_S_moveOrJump, if_neg c_1]), ht⟩) (fun _ h => by cases h) d_S_moveOrJump_10
theorem call_S_moveOrJump {p : Program} {l : Launch} {e : Env} {R : Room} {s : State} {m : MethodId} {args : Array Value} {below : List Frame} {meth : Method} {c : Code} {H : Heap} {locs : List Loc} {cells slots : Nat} {Q : State → Prop} {cc : ByteArray} {pc nL idx : Nat} {ls : Array Slot} {rest : List Value} {Ts : List Cond} {own : String} {adE adK adV : Nat → Nat} {A0 : Nat → Prop} {x0 : Int32} (S : CallFix p m c cc nL s args Ts own) (hTs : ∀ w ∈ WT, w ∈ Ts) (h1 : Cond.methodLink own idx y_S_moveOrJump ∈ WT) (hR : 1 + 1 ≤ R.frames ∧ 8 + (1 + 11) + 20 ≤ R.locals) (hsz : ls.size = nL) (hrm : (rest.map fun v => v.category).sum ≤ 8) (hdg : decode cc pc = .ok (.invokestatic idx, 3)) (hc : cells ≤ R.cells ∧ slots ≤ R.slots) (hC : cx adE adK adV A0 s s.heap) (hS : va_S A0 s.heap H locs) (kk : W p l e R s m args below meth c H locs cells slots Q (F0 m (pc + 3) ls (.ref (adE (f_S_moveOrJump x0)) :: rest))) : W p l e R s m args below meth c H locs cells slots Q (F0 m pc ls (.int x0 :: rest)) :=
  va_cse (va_Run.run (va_runS (As := [.int x0]) (rest := rest) S (c_S_moveOrJump l adE adK adV x0) (va_cwS 1 S.2.2.2.2 (gS hTs h1 m_390 m_55 m_391) rfl rfl rfl (by decide +kernel) hR) ⟨fun a U g mk q => ⟨q.1, q.2.blind⟩, fun U hU hW => ⟨rfl, hC.at hS no_in hU hW⟩⟩ rfl rfl hsz rfl (lv_room hrm) hdg hc)) (fun r e => by subst e; exact kk)

def f_S_addOrJump (x0 : Int32) : Nat :=
  if (f_S_secondRegister x0) = 0 then
    if (f_S_firstRegister x0) = 0 then
      91
    else
      92
  else
    93
set_option maxRecDepth 100000 in
set_option maxHeartbeats 4000000 in
theorem c_S_addOrJump (l : Launch) (adE adK adV : Nat → Nat) (x0 : Int32) : Met l y_S_addOrJump (Cond.code y_S_addOrJump b_S_addOrJump 1 (some (.object "InstructionReader$Kind")) :: WT) ({ frames := 1, cells := 0, slots := 0, locals := 20 }) (va_Pc [.int x0] (fun U => cx adE adK adV no U U.heap)) (va_Se adE (fun r => r = some (f_S_addOrJump x0))) 0 0 no := by
  refine va_MetF (cc := b_S_addOrJump) (maxL := 1) (ret := (some (.object "InstructionReader$Kind"))) (by decide +kernel) rfl ?_
  intro p e s m args below meth c s₁ B hml hv
  obtain ⟨rfl, hC⟩ := hv
  have hx := B.exec
  have hb := B.bytes
  have hr := B.returns
  have hts := atoms_spec (ws := (Cond.code y_S_addOrJump b_S_addOrJump 1 (some (.object "InstructionReader$Kind")) :: WT)) B.pre
  have hT : ∀ w ∈ WT, w.before _ s = true := fun w h => hts w (inC w h)
  have hown : s.vm.findClass R_S = some m.cls := findClass_of_methodNamed B.named
  have hlocks := B.notSynchronized
  have hS : va_S no s.heap s.heap [] := va_S.rf
  have S : CallFix p m c b_S_addOrJump 1 s _ (Cond.code y_S_addOrJump b_S_addOrJump 1 (some (.object "InstructionReader$Kind")) :: WT) R_S := ⟨hx, hb, hml, hown, hts⟩
  have hl := lv_entry ([.int x0]) (n := 1) (Nat.le_of_ble_eq_true rfl)
  rw [lg_entry_eq]
  generalize (lg_sl ([.int x0]) ++ List.replicate (1 - (lg_sl ([.int x0])).length) Slot.unset).toArray = ls at hl ⊢
  have hl : lv_has ls 1 [(0, .int x0)] := hl
  refine lv_iload_n hx hb d_S_addOrJump_0 rfl (lv_at hl 0 rfl) ?_
  refine call_S_secondRegister S inC m_380 ⟨(Nat.le_of_ble_eq_true rfl), (Nat.le_of_ble_eq_true rfl)⟩ hl.1 (Nat.le_of_ble_eq_true rfl) d_S_addOrJump_1 ⟨(Nat.le_of_ble_eq_true rfl), (Nat.le_of_ble_eq_true rfl)⟩ ?_
  refine lv_if_eq (tgt := 11) hx hb d_S_addOrJump_4 (by decide) (fun c_1 => ?_) (fun c_1 => ?_)
  · refine lv_iload_n hx hb d_S_addOrJump_11 rfl (lv_at hl 0 rfl) ?_
    refine call_S_firstRegister S inC m_334 ⟨(Nat.le_of_ble_eq_true rfl), (Nat.le_of_ble_eq_true rfl)⟩ hl.1 (Nat.le_of_ble_eq_true rfl) d_S_addOrJump_12 ⟨(Nat.le_of_ble_eq_true rfl), (Nat.le_of_ble_eq_true rfl)⟩ ?_
    refine lv_if_eq (tgt := 24) hx hb d_S_addOrJump_15 (by decide) (fun c_2 => ?_) (fun c_2 => ?_)
    · refine va_gets (v := .ref (adE 91)) hx hb (z_C_EBREAK hC) hS hown (hT _ m_387) (fun _ h => h) d_S_addOrJump_24 ?_
      exact W.aret (v := .ref (adE 91)) hx hb hr (Or.inl ⟨_, rfl⟩) (Or.inr ⟨_, rfl⟩) (fun t ht hW => ⟨some 91, rfl, congrArg some (by rw [f_S_addOrJump, if_pos c_1, if_pos c_2]), ht⟩) (fun _ h => by cases h) d_S_addOrJump_27
    · refine va_gets (v := .ref (adE 92)) hx hb (z_C_JALR hC) hS hown (hT _ m_385) (fun _ h => h) d_S_addOrJump_18 ?_
      refine lv_goto (tgt := 27) hx hb d_S_addOrJump_21 (by decide) ?_
      exact W.aret (v := .ref (adE 92)) hx hb hr (Or.inl ⟨_, rfl⟩) (Or.inr ⟨_, rfl⟩) (fun t ht hW => ⟨some 92, rfl, congrArg some (by rw [f_S_addOrJump, if_pos c_1, if_neg c_2]), ht⟩) (fun _ h => by cases h) d_S_addOrJump_27
  · refine va_gets (v := .ref (adE 93)) hx hb (z_C_ADD hC) hS hown (hT _ m_383) (fun _ h => h) d_S_addOrJump_7 ?_
    exact W.aret (v := .ref (adE 93)) hx hb hr (Or.inl ⟨_, rfl⟩) (Or.inr ⟨_, rfl⟩) (fun t ht hW => ⟨some 93, rfl, congrArg some (by rw [f_S_addOrJump, if_neg c_1]), ht⟩) (fun _ h => by cases h) d_S_addOrJump_10
theorem call_S_addOrJump {p : Program} {l : Launch} {e : Env} {R : Room} {s : State} {m : MethodId} {args : Array Value} {below : List Frame} {meth : Method} {c : Code} {H : Heap} {locs : List Loc} {cells slots : Nat} {Q : State → Prop} {cc : ByteArray} {pc nL idx : Nat} {ls : Array Slot} {rest : List Value} {Ts : List Cond} {own : String} {adE adK adV : Nat → Nat} {A0 : Nat → Prop} {x0 : Int32} (S : CallFix p m c cc nL s args Ts own) (hTs : ∀ w ∈ WT, w ∈ Ts) (h1 : Cond.methodLink own idx y_S_addOrJump ∈ WT) (hR : 1 + 1 ≤ R.frames ∧ 8 + (1 + 11) + 20 ≤ R.locals) (hsz : ls.size = nL) (hrm : (rest.map fun v => v.category).sum ≤ 8) (hdg : decode cc pc = .ok (.invokestatic idx, 3)) (hc : cells ≤ R.cells ∧ slots ≤ R.slots) (hC : cx adE adK adV A0 s s.heap) (hS : va_S A0 s.heap H locs) (kk : W p l e R s m args below meth c H locs cells slots Q (F0 m (pc + 3) ls (.ref (adE (f_S_addOrJump x0)) :: rest))) : W p l e R s m args below meth c H locs cells slots Q (F0 m pc ls (.int x0 :: rest)) :=
  va_cse (va_Run.run (va_runS (As := [.int x0]) (rest := rest) S (c_S_addOrJump l adE adK adV x0) (va_cwS 1 S.2.2.2.2 (gS hTs h1 m_378 m_55 m_379) rfl rfl rfl (by decide +kernel) hR) ⟨fun a U g mk q => ⟨q.1, q.2.blind⟩, fun U hU hW => ⟨rfl, hC.at hS no_in hU hW⟩⟩ rfl rfl hsz rfl (lv_room hrm) hdg hc)) (fun r e => by subst e; exact kk)

def f_S_ofQ2 (x0 x1 : Int32) : Nat :=
  if x0 = 0 then
    if (f_S_hasBit12 x1) = 0 then
      87
    else
      1
  else
    if x0 = 2 then
      if (f_S_firstRegister x1) = 0 then
        1
      else
        88
    else
      if x0 = 4 then
        if (f_S_hasBit12 x1) = 0 then
          f_S_moveOrJump x1
        else
          f_S_addOrJump x1
      else
        if x0 = 6 then
          94
        else
          1
set_option maxRecDepth 100000 in
set_option maxHeartbeats 4000000 in
theorem c_S_ofQ2 (l : Launch) (adE adK adV : Nat → Nat) (x0 x1 : Int32) : Met l y_S_ofQ2 (Cond.code y_S_ofQ2 b_S_ofQ2 2 (some (.object "InstructionReader$Kind")) :: WT) ({ frames := 2, cells := 0, slots := 0, locals := 40 }) (va_Pc [.int x0, .int x1] (fun U => cx adE adK adV no U U.heap)) (va_Se adE (fun r => r = some (f_S_ofQ2 x0 x1))) 0 0 no := by
  refine va_MetF (cc := b_S_ofQ2) (maxL := 2) (ret := (some (.object "InstructionReader$Kind"))) (by decide +kernel) rfl ?_
  intro p e s m args below meth c s₁ B hml hv
  obtain ⟨rfl, hC⟩ := hv
  have hx := B.exec
  have hb := B.bytes
  have hr := B.returns
  have hts := atoms_spec (ws := (Cond.code y_S_ofQ2 b_S_ofQ2 2 (some (.object "InstructionReader$Kind")) :: WT)) B.pre
  have hT : ∀ w ∈ WT, w.before _ s = true := fun w h => hts w (inC w h)
  have hown : s.vm.findClass R_S = some m.cls := findClass_of_methodNamed B.named
  have hlocks := B.notSynchronized
  have hS : va_S no s.heap s.heap [] := va_S.rf
  have S : CallFix p m c b_S_ofQ2 2 s _ (Cond.code y_S_ofQ2 b_S_ofQ2 2 (some (.object "InstructionReader$Kind")) :: WT) R_S := ⟨hx, hb, hml, hown, hts⟩
  have hl := lv_entry ([.int x0, .int x1]) (n := 2) (Nat.le_of_ble_eq_true rfl)
  rw [lg_entry_eq]
  generalize (lg_sl ([.int x0, .int x1]) ++ List.replicate (2 - (lg_sl ([.int x0, .int x1])).length) Slot.unset).toArray = ls at hl ⊢
  have hl : lv_has ls 2 [(0, .int x0), (1, .int x1)] := hl
  refine lv_iload_n hx hb d_S_ofQ2_0 rfl (lv_at hl 0 rfl) ?_
  by_cases c_1 : x0 = 0
  · refine lv_tableIn (off := 43) (tgt := 44) hx hb d_S_ofQ2_1 (by rw [c_1]; decide) (by rw [c_1]; decide) (by rw [c_1]; decide) (by decide) ?_
    refine lv_iload_n hx hb d_S_ofQ2_44 rfl (lv_at hl 1 rfl) ?_
    refine call_S_hasBit12 S inC m_346 ⟨(Nat.le_of_ble_eq_true rfl), (Nat.le_of_ble_eq_true rfl)⟩ hl.1 (Nat.le_of_ble_eq_true rfl) d_S_ofQ2_45 ⟨(Nat.le_of_ble_eq_true rfl), (Nat.le_of_ble_eq_true rfl)⟩ ?_
    refine lv_if_eq (tgt := 57) hx hb d_S_ofQ2_48 (by decide) (fun c_2 => ?_) (fun c_2 => ?_)
    · refine va_gets (v := .ref (adE 87)) hx hb (z_C_SLLI hC) hS hown (hT _ m_373) (fun _ h => h) d_S_ofQ2_57 ?_
      exact W.aret (v := .ref (adE 87)) hx hb hr (Or.inl ⟨_, rfl⟩) (Or.inr ⟨_, rfl⟩) (fun t ht hW => ⟨some 87, rfl, congrArg some (by rw [f_S_ofQ2, if_pos c_1, if_pos c_2]), ht⟩) (fun _ h => by cases h) d_S_ofQ2_60
    · refine va_gets (v := .ref (adE 1)) hx hb (z_HALF hC) hS hown (hT _ m_308) (fun _ h => h) d_S_ofQ2_51 ?_
      refine lv_goto (tgt := 60) hx hb d_S_ofQ2_54 (by decide) ?_
      exact W.aret (v := .ref (adE 1)) hx hb hr (Or.inl ⟨_, rfl⟩) (Or.inr ⟨_, rfl⟩) (fun t ht hW => ⟨some 1, rfl, congrArg some (by rw [f_S_ofQ2, if_pos c_1, if_neg c_2]), ht⟩) (fun _ h => by cases h) d_S_ofQ2_60
  · by_cases c_3 : x0 = 2
    · refine lv_tableIn (off := 60) (tgt := 61) hx hb d_S_ofQ2_1 (by rw [c_3]; decide) (by rw [c_3]; decide) (by rw [c_3]; decide) (by decide) ?_
      refine lv_iload_n hx hb d_S_ofQ2_61 rfl (lv_at hl 1 rfl) ?_
      refine call_S_firstRegister S inC m_334 ⟨(Nat.le_of_ble_eq_true rfl), (Nat.le_of_ble_eq_true rfl)⟩ hl.1 (Nat.le_of_ble_eq_true rfl) d_S_ofQ2_62 ⟨(Nat.le_of_ble_eq_true rfl), (Nat.le_of_ble_eq_true rfl)⟩ ?_
      refine lv_if_eq (tgt := 74) hx hb d_S_ofQ2_65 (by decide) (fun c_4 => ?_) (fun c_4 => ?_)
      · refine va_gets (v := .ref (adE 1)) hx hb (z_HALF hC) hS hown (hT _ m_308) (fun _ h => h) d_S_ofQ2_74 ?_
        exact W.aret (v := .ref (adE 1)) hx hb hr (Or.inl ⟨_, rfl⟩) (Or.inr ⟨_, rfl⟩) (fun t ht hW => ⟨some 1, rfl, congrArg some (by rw [f_S_ofQ2, if_neg c_1, if_pos c_3, if_pos c_4]), ht⟩) (fun _ h => by cases h) d_S_ofQ2_77
      · refine va_gets (v := .ref (adE 88)) hx hb (z_C_LWSP hC) hS hown (hT _ m_375) (fun _ h => h) d_S_ofQ2_68 ?_
        refine lv_goto (tgt := 77) hx hb d_S_ofQ2_71 (by decide) ?_
        exact W.aret (v := .ref (adE 88)) hx hb hr (Or.inl ⟨_, rfl⟩) (Or.inr ⟨_, rfl⟩) (fun t ht hW => ⟨some 88, rfl, congrArg some (by rw [f_S_ofQ2, if_neg c_1, if_pos c_3, if_neg c_4]), ht⟩) (fun _ h => by cases h) d_S_ofQ2_77
    · by_cases c_5 : x0 = 4
      · refine lv_tableIn (off := 77) (tgt := 78) hx hb d_S_ofQ2_1 (by rw [c_5]; decide) (by rw [c_5]; decide) (by rw [c_5]; decide) (by decide) ?_
        refine lv_iload_n hx hb d_S_ofQ2_78 rfl (lv_at hl 1 rfl) ?_
        refine call_S_hasBit12 S inC m_346 ⟨(Nat.le_of_ble_eq_true rfl), (Nat.le_of_ble_eq_true rfl)⟩ hl.1 (Nat.le_of_ble_eq_true rfl) d_S_ofQ2_79 ⟨(Nat.le_of_ble_eq_true rfl), (Nat.le_of_ble_eq_true rfl)⟩ ?_
        refine lv_if_eq (tgt := 92) hx hb d_S_ofQ2_82 (by decide) (fun c_6 => ?_) (fun c_6 => ?_)
        · refine lv_iload_n hx hb d_S_ofQ2_92 rfl (lv_at hl 1 rfl) ?_
          refine call_S_moveOrJump S inC m_389 ⟨(Nat.le_of_ble_eq_true rfl), (Nat.le_of_ble_eq_true rfl)⟩ hl.1 (Nat.le_of_ble_eq_true rfl) d_S_ofQ2_93 ⟨(Nat.le_of_ble_eq_true rfl), (Nat.le_of_ble_eq_true rfl)⟩ hC hS ?_
          exact W.aret (v := .ref (adE (f_S_moveOrJump x1))) hx hb hr (Or.inl ⟨_, rfl⟩) (Or.inr ⟨_, rfl⟩) (fun t ht hW => ⟨some (f_S_moveOrJump x1), rfl, congrArg some (by rw [f_S_ofQ2, if_neg c_1, if_neg c_3, if_pos c_5, if_pos c_6]), ht⟩) (fun _ h => by cases h) d_S_ofQ2_96
        · refine lv_iload_n hx hb d_S_ofQ2_85 rfl (lv_at hl 1 rfl) ?_
          refine call_S_addOrJump S inC m_377 ⟨(Nat.le_of_ble_eq_true rfl), (Nat.le_of_ble_eq_true rfl)⟩ hl.1 (Nat.le_of_ble_eq_true rfl) d_S_ofQ2_86 ⟨(Nat.le_of_ble_eq_true rfl), (Nat.le_of_ble_eq_true rfl)⟩ hC hS ?_
          refine lv_goto (tgt := 96) hx hb d_S_ofQ2_89 (by decide) ?_
          exact W.aret (v := .ref (adE (f_S_addOrJump x1))) hx hb hr (Or.inl ⟨_, rfl⟩) (Or.inr ⟨_, rfl⟩) (fun t ht hW => ⟨some (f_S_addOrJump x1), rfl, congrArg some (by rw [f_S_ofQ2, if_neg c_1, if_neg c_3, if_pos c_5, if_neg c_6]), ht⟩) (fun _ h => by cases h) d_S_ofQ2_96
      · by_cases c_7 : x0 = 6
        · refine lv_tableIn (off := 96) (tgt := 97) hx hb d_S_ofQ2_1 (by rw [c_7]; decide) (by rw [c_7]; decide) (by rw [c_7]; decide) (by decide) ?_
          refine va_gets (v := .ref (adE 94)) hx hb (z_C_SWSP hC) hS hown (hT _ m_396) (fun _ h => h) d_S_ofQ2_97 ?_
          exact W.aret (v := .ref (adE 94)) hx hb hr (Or.inl ⟨_, rfl⟩) (Or.inr ⟨_, rfl⟩) (fun t ht hW => ⟨some 94, rfl, congrArg some (by rw [f_S_ofQ2, if_neg c_1, if_neg c_3, if_neg c_5, if_pos c_7]), ht⟩) (fun _ h => by cases h) d_S_ofQ2_100
        · refine tb_out (tgt := 101) hx hb d_S_ofQ2_1 (by have n0 := lv_neT c_1 (show (0 : Int32).toInt = 0 from (by decide)); have n1 := lv_neT c_3 (show (2 : Int32).toInt = 2 from (by decide)); have n2 := lv_neT c_5 (show (4 : Int32).toInt = 4 from (by decide)); have n3 := lv_neT c_7 (show (6 : Int32).toInt = 6 from (by decide)); intro j hj hi; have key : ∀ j : Nat, j < 7 → j ∈ ([0, 2, 4, 6] : List Nat) ∨ (#[43, 100, 60, 100, 77, 100, 96] : Array Int)[j]? = some 100 := (by decide); exact (key j (by omega)).elim (fun h => absurd h (by simp only [List.mem_cons, List.not_mem_nil, or_false]; omega)) id) (by decide) ?_
          refine va_gets (v := .ref (adE 1)) hx hb (z_HALF hC) hS hown (hT _ m_308) (fun _ h => h) d_S_ofQ2_101 ?_
          exact W.aret (v := .ref (adE 1)) hx hb hr (Or.inl ⟨_, rfl⟩) (Or.inr ⟨_, rfl⟩) (fun t ht hW => ⟨some 1, rfl, congrArg some (by rw [f_S_ofQ2, if_neg c_1, if_neg c_3, if_neg c_5, if_neg c_7]), ht⟩) (fun _ h => by cases h) d_S_ofQ2_104
theorem call_S_ofQ2 {p : Program} {l : Launch} {e : Env} {R : Room} {s : State} {m : MethodId} {args : Array Value} {below : List Frame} {meth : Method} {c : Code} {H : Heap} {locs : List Loc} {cells slots : Nat} {Q : State → Prop} {cc : ByteArray} {pc nL idx : Nat} {ls : Array Slot} {rest : List Value} {Ts : List Cond} {own : String} {adE adK adV : Nat → Nat} {A0 : Nat → Prop} {x0 x1 : Int32} (S : CallFix p m c cc nL s args Ts own) (hTs : ∀ w ∈ WT, w ∈ Ts) (h1 : Cond.methodLink own idx y_S_ofQ2 ∈ WT) (hR : 2 + 1 ≤ R.frames ∧ 8 + (2 + 11) + 40 ≤ R.locals) (hsz : ls.size = nL) (hrm : (rest.map fun v => v.category).sum ≤ 8) (hdg : decode cc pc = .ok (.invokestatic idx, 3)) (hc : cells ≤ R.cells ∧ slots ≤ R.slots) (hC : cx adE adK adV A0 s s.heap) (hS : va_S A0 s.heap H locs) (kk : W p l e R s m args below meth c H locs cells slots Q (F0 m (pc + 3) ls (.ref (adE (f_S_ofQ2 x0 x1)) :: rest))) : W p l e R s m args below meth c H locs cells slots Q (F0 m pc ls (.int x1 :: .int x0 :: rest)) :=
  va_cse (va_Run.run (va_runS (As := [.int x0, .int x1]) (rest := rest) S (c_S_ofQ2 l adE adK adV x0 x1) (va_cwS 2 S.2.2.2.2 (gS hTs h1 m_371 m_55 m_372) rfl rfl rfl (by decide +kernel) hR) ⟨fun a U g mk q => ⟨q.1, q.2.blind⟩, fun U hU hW => ⟨rfl, hC.at hS no_in hU hW⟩⟩ rfl rfl hsz rfl (lv_room hrm) hdg hc)) (fun r e => by subst e; exact kk)

def f_S_ofHalf (x0 : Int32) : Nat :=
  if (x0 &&& 3) = 0 then
    f_S_ofQ0 ((x0 >>> ((13 : Int32) &&& 31)) &&& 7) x0
  else
    if (x0 &&& 3) = 1 then
      f_S_ofQ1 ((x0 >>> ((13 : Int32) &&& 31)) &&& 7) x0
    else
      if (x0 &&& 3) = 2 then
        f_S_ofQ2 ((x0 >>> ((13 : Int32) &&& 31)) &&& 7) x0
      else
        1
set_option maxRecDepth 100000 in
set_option maxHeartbeats 4000000 in
theorem c_S_ofHalf (l : Launch) (adE adK adV : Nat → Nat) (x0 : Int32) : Met l y_S_ofHalf (Cond.code y_S_ofHalf b_S_ofHalf 2 (some (.object "InstructionReader$Kind")) :: WT) ({ frames := 4, cells := 0, slots := 0, locals := 84 }) (va_Pc [.int x0] (fun U => cx adE adK adV no U U.heap)) (va_Se adE (fun r => r = some (f_S_ofHalf x0))) 0 0 no := by
  refine va_MetF (cc := b_S_ofHalf) (maxL := 2) (ret := (some (.object "InstructionReader$Kind"))) (by decide +kernel) rfl ?_
  intro p e s m args below meth c s₁ B hml hv
  obtain ⟨rfl, hC⟩ := hv
  have hx := B.exec
  have hb := B.bytes
  have hr := B.returns
  have hts := atoms_spec (ws := (Cond.code y_S_ofHalf b_S_ofHalf 2 (some (.object "InstructionReader$Kind")) :: WT)) B.pre
  have hT : ∀ w ∈ WT, w.before _ s = true := fun w h => hts w (inC w h)
  have hown : s.vm.findClass R_S = some m.cls := findClass_of_methodNamed B.named
  have hlocks := B.notSynchronized
  have hS : va_S no s.heap s.heap [] := va_S.rf
  have S : CallFix p m c b_S_ofHalf 2 s _ (Cond.code y_S_ofHalf b_S_ofHalf 2 (some (.object "InstructionReader$Kind")) :: WT) R_S := ⟨hx, hb, hml, hown, hts⟩
  have hl := lv_entry ([.int x0]) (n := 2) (Nat.le_of_ble_eq_true rfl)
  rw [lg_entry_eq]
  generalize (lg_sl ([.int x0]) ++ List.replicate (2 - (lg_sl ([.int x0])).length) Slot.unset).toArray = ls at hl ⊢
  have hl : lv_has ls 2 [(0, .int x0)] := hl
  refine lv_iload_n hx hb d_S_ofHalf_0 rfl (lv_at hl 0 rfl) ?_
  refine lv_bipush (v := 13) hx hb d_S_ofHalf_1 (by decide) ?_
  refine lv_ishr hx hb d_S_ofHalf_3 ?_
  refine lv_bipush (v := 7) hx hb d_S_ofHalf_4 (by decide) ?_
  refine lv_iand hx hb d_S_ofHalf_6 ?_
  refine lv_istore_n (lv' := [(1, .int ((x0 >>> ((13 : Int32) &&& 31)) &&& 7)), (0, .int x0)]) hx hb d_S_ofHalf_7 rfl hl (by decide) rfl (fun ls hl => ?_)
  refine lv_iload_n hx hb d_S_ofHalf_8 rfl (lv_at hl 1 rfl) ?_
  refine lv_iconst (v := 3) hx hb d_S_ofHalf_9 (by decide) ?_
  refine lv_iand hx hb d_S_ofHalf_10 ?_
  by_cases c_1 : (x0 &&& 3) = 0
  · refine lv_tableIn (off := 25) (tgt := 36) hx hb d_S_ofHalf_11 (by rw [c_1]; decide) (by rw [c_1]; decide) (by rw [c_1]; decide) (by decide) ?_
    refine lv_iload_n hx hb d_S_ofHalf_36 rfl (lv_at hl 0 rfl) ?_
    refine lv_iload_n hx hb d_S_ofHalf_37 rfl (lv_at hl 1 rfl) ?_
    refine call_S_ofQ0 S inC m_297 ⟨(Nat.le_of_ble_eq_true rfl), (Nat.le_of_ble_eq_true rfl)⟩ hl.1 (Nat.le_of_ble_eq_true rfl) d_S_ofHalf_38 ⟨(Nat.le_of_ble_eq_true rfl), (Nat.le_of_ble_eq_true rfl)⟩ hC hS ?_
    exact W.aret (v := .ref (adE (f_S_ofQ0 ((x0 >>> ((13 : Int32) &&& 31)) &&& 7) x0))) hx hb hr (Or.inl ⟨_, rfl⟩) (Or.inr ⟨_, rfl⟩) (fun t ht hW => ⟨some (f_S_ofQ0 ((x0 >>> ((13 : Int32) &&& 31)) &&& 7) x0), rfl, congrArg some (by rw [f_S_ofHalf, if_pos c_1]), ht⟩) (fun _ h => by cases h) d_S_ofHalf_41
  · by_cases c_2 : (x0 &&& 3) = 1
    · refine lv_tableIn (off := 31) (tgt := 42) hx hb d_S_ofHalf_11 (by rw [c_2]; decide) (by rw [c_2]; decide) (by rw [c_2]; decide) (by decide) ?_
      refine lv_iload_n hx hb d_S_ofHalf_42 rfl (lv_at hl 0 rfl) ?_
      refine lv_iload_n hx hb d_S_ofHalf_43 rfl (lv_at hl 1 rfl) ?_
      refine call_S_ofQ1 S inC m_314 ⟨(Nat.le_of_ble_eq_true rfl), (Nat.le_of_ble_eq_true rfl)⟩ hl.1 (Nat.le_of_ble_eq_true rfl) d_S_ofHalf_44 ⟨(Nat.le_of_ble_eq_true rfl), (Nat.le_of_ble_eq_true rfl)⟩ hC hS ?_
      exact W.aret (v := .ref (adE (f_S_ofQ1 ((x0 >>> ((13 : Int32) &&& 31)) &&& 7) x0))) hx hb hr (Or.inl ⟨_, rfl⟩) (Or.inr ⟨_, rfl⟩) (fun t ht hW => ⟨some (f_S_ofQ1 ((x0 >>> ((13 : Int32) &&& 31)) &&& 7) x0), rfl, congrArg some (by rw [f_S_ofHalf, if_neg c_1, if_pos c_2]), ht⟩) (fun _ h => by cases h) d_S_ofHalf_47
    · by_cases c_3 : (x0 &&& 3) = 2
      · refine lv_tableIn (off := 37) (tgt := 48) hx hb d_S_ofHalf_11 (by rw [c_3]; decide) (by rw [c_3]; decide) (by rw [c_3]; decide) (by decide) ?_
        refine lv_iload_n hx hb d_S_ofHalf_48 rfl (lv_at hl 0 rfl) ?_
        refine lv_iload_n hx hb d_S_ofHalf_49 rfl (lv_at hl 1 rfl) ?_
        refine call_S_ofQ2 S inC m_370 ⟨(Nat.le_of_ble_eq_true rfl), (Nat.le_of_ble_eq_true rfl)⟩ hl.1 (Nat.le_of_ble_eq_true rfl) d_S_ofHalf_50 ⟨(Nat.le_of_ble_eq_true rfl), (Nat.le_of_ble_eq_true rfl)⟩ hC hS ?_
        exact W.aret (v := .ref (adE (f_S_ofQ2 ((x0 >>> ((13 : Int32) &&& 31)) &&& 7) x0))) hx hb hr (Or.inl ⟨_, rfl⟩) (Or.inr ⟨_, rfl⟩) (fun t ht hW => ⟨some (f_S_ofQ2 ((x0 >>> ((13 : Int32) &&& 31)) &&& 7) x0), rfl, congrArg some (by rw [f_S_ofHalf, if_neg c_1, if_neg c_2, if_pos c_3]), ht⟩) (fun _ h => by cases h) d_S_ofHalf_53
      · refine lv_tableOut (tgt := 54) hx hb d_S_ofHalf_11 (by have n0 := lv_neT c_1 (show (0 : Int32).toInt = 0 by decide); have n1 := lv_neT c_2 (show (1 : Int32).toInt = 1 by decide); have n2 := lv_neT c_3 (show (2 : Int32).toInt = 2 by decide); omega) (by decide) ?_
        refine va_gets (v := .ref (adE 1)) hx hb (z_HALF hC) hS hown (hT _ m_308) (fun _ h => h) d_S_ofHalf_54 ?_
        exact W.aret (v := .ref (adE 1)) hx hb hr (Or.inl ⟨_, rfl⟩) (Or.inr ⟨_, rfl⟩) (fun t ht hW => ⟨some 1, rfl, congrArg some (by rw [f_S_ofHalf, if_neg c_1, if_neg c_2, if_neg c_3]), ht⟩) (fun _ h => by cases h) d_S_ofHalf_57
theorem call_S_ofHalf {p : Program} {l : Launch} {e : Env} {R : Room} {s : State} {m : MethodId} {args : Array Value} {below : List Frame} {meth : Method} {c : Code} {H : Heap} {locs : List Loc} {cells slots : Nat} {Q : State → Prop} {cc : ByteArray} {pc nL idx : Nat} {ls : Array Slot} {rest : List Value} {Ts : List Cond} {own : String} {adE adK adV : Nat → Nat} {A0 : Nat → Prop} {x0 : Int32} (S : CallFix p m c cc nL s args Ts own) (hTs : ∀ w ∈ WT, w ∈ Ts) (h1 : Cond.methodLink own idx y_S_ofHalf ∈ WT) (hR : 4 + 1 ≤ R.frames ∧ 8 + (2 + 11) + 84 ≤ R.locals) (hsz : ls.size = nL) (hrm : (rest.map fun v => v.category).sum ≤ 8) (hdg : decode cc pc = .ok (.invokestatic idx, 3)) (hc : cells ≤ R.cells ∧ slots ≤ R.slots) (hC : cx adE adK adV A0 s s.heap) (hS : va_S A0 s.heap H locs) (kk : W p l e R s m args below meth c H locs cells slots Q (F0 m (pc + 3) ls (.ref (adE (f_S_ofHalf x0)) :: rest))) : W p l e R s m args below meth c H locs cells slots Q (F0 m pc ls (.int x0 :: rest)) :=
  va_cse (va_Run.run (va_runS (As := [.int x0]) (rest := rest) S (c_S_ofHalf l adE adK adV x0) (va_cwS 1 S.2.2.2.2 (gS hTs h1 m_295 m_55 m_296) rfl rfl rfl (by decide +kernel) hR) ⟨fun a U g mk q => ⟨q.1, q.2.blind⟩, fun U hU hW => ⟨rfl, hC.at hS no_in hU hW⟩⟩ rfl rfl hsz rfl (lv_room hrm) hdg hc)) (fun r e => by subst e; exact kk)

def f_R_kindOf (x0 : Int32) : Nat :=
  if (f_R_isLong x0) = 0 then
    f_S_ofHalf x0
  else
    f_L_ofWord x0
set_option maxRecDepth 100000 in
set_option maxHeartbeats 4000000 in
theorem c_R_kindOf (l : Launch) (adE adK adV : Nat → Nat) (x0 : Int32) : Met l y_R_kindOf (Cond.code y_R_kindOf b_R_kindOf 1 (some (.object "InstructionReader$Kind")) :: WT) ({ frames := 5, cells := 0, slots := 0, locals := 105 }) (va_Pc [.int x0] (fun U => cx adE adK adV no U U.heap)) (va_Se adE (fun r => r = some (f_R_kindOf x0))) 0 0 no := by
  refine va_MetF (cc := b_R_kindOf) (maxL := 1) (ret := (some (.object "InstructionReader$Kind"))) (by decide +kernel) rfl ?_
  intro p e s m args below meth c s₁ B hml hv
  obtain ⟨rfl, hC⟩ := hv
  have hx := B.exec
  have hb := B.bytes
  have hr := B.returns
  have hts := atoms_spec (ws := (Cond.code y_R_kindOf b_R_kindOf 1 (some (.object "InstructionReader$Kind")) :: WT)) B.pre
  have hT : ∀ w ∈ WT, w.before _ s = true := fun w h => hts w (inC w h)
  have hown : s.vm.findClass R_R = some m.cls := findClass_of_methodNamed B.named
  have hlocks := B.notSynchronized
  have hS : va_S no s.heap s.heap [] := va_S.rf
  have S : CallFix p m c b_R_kindOf 1 s _ (Cond.code y_R_kindOf b_R_kindOf 1 (some (.object "InstructionReader$Kind")) :: WT) R_R := ⟨hx, hb, hml, hown, hts⟩
  have hl := lv_entry ([.int x0]) (n := 1) (Nat.le_of_ble_eq_true rfl)
  rw [lg_entry_eq]
  generalize (lg_sl ([.int x0]) ++ List.replicate (1 - (lg_sl ([.int x0])).length) Slot.unset).toArray = ls at hl ⊢
  have hl : lv_has ls 1 [(0, .int x0)] := hl
  refine lv_iload_n hx hb d_R_kindOf_0 rfl (lv_at hl 0 rfl) ?_
  refine call_R_isLong S inC m_110 ⟨(Nat.le_of_ble_eq_true rfl), (Nat.le_of_ble_eq_true rfl)⟩ hl.1 (Nat.le_of_ble_eq_true rfl) d_R_kindOf_1 ⟨(Nat.le_of_ble_eq_true rfl), (Nat.le_of_ble_eq_true rfl)⟩ ?_
  refine lv_if_eq (tgt := 14) hx hb d_R_kindOf_4 (by decide) (fun c_1 => ?_) (fun c_1 => ?_)
  · refine lv_iload_n hx hb d_R_kindOf_14 rfl (lv_at hl 0 rfl) ?_
    refine call_S_ofHalf S inC m_294 ⟨(Nat.le_of_ble_eq_true rfl), (Nat.le_of_ble_eq_true rfl)⟩ hl.1 (Nat.le_of_ble_eq_true rfl) d_R_kindOf_15 ⟨(Nat.le_of_ble_eq_true rfl), (Nat.le_of_ble_eq_true rfl)⟩ hC hS ?_
    exact W.aret (v := .ref (adE (f_S_ofHalf x0))) hx hb hr (Or.inl ⟨_, rfl⟩) (Or.inr ⟨_, rfl⟩) (fun t ht hW => ⟨some (f_S_ofHalf x0), rfl, congrArg some (by rw [f_R_kindOf, if_pos c_1]), ht⟩) (fun _ h => by cases h) d_R_kindOf_18
  · refine lv_iload_n hx hb d_R_kindOf_7 rfl (lv_at hl 0 rfl) ?_
    refine call_L_ofWord S inC m_121 ⟨(Nat.le_of_ble_eq_true rfl), (Nat.le_of_ble_eq_true rfl)⟩ hl.1 (Nat.le_of_ble_eq_true rfl) d_R_kindOf_8 ⟨(Nat.le_of_ble_eq_true rfl), (Nat.le_of_ble_eq_true rfl)⟩ hC hS ?_
    refine lv_goto (tgt := 18) hx hb d_R_kindOf_11 (by decide) ?_
    exact W.aret (v := .ref (adE (f_L_ofWord x0))) hx hb hr (Or.inl ⟨_, rfl⟩) (Or.inr ⟨_, rfl⟩) (fun t ht hW => ⟨some (f_L_ofWord x0), rfl, congrArg some (by rw [f_R_kindOf, if_neg c_1]), ht⟩) (fun _ h => by cases h) d_R_kindOf_18
theorem call_R_kindOf {p : Program} {l : Launch} {e : Env} {R : Room} {s : State} {m : MethodId} {args : Array Value} {below : List Frame} {meth : Method} {c : Code} {H : Heap} {locs : List Loc} {cells slots : Nat} {Q : State → Prop} {cc : ByteArray} {pc nL idx : Nat} {ls : Array Slot} {rest : List Value} {Ts : List Cond} {own : String} {adE adK adV : Nat → Nat} {A0 : Nat → Prop} {x0 : Int32} (S : CallFix p m c cc nL s args Ts own) (hTs : ∀ w ∈ WT, w ∈ Ts) (h1 : Cond.methodLink own idx y_R_kindOf ∈ WT) (hR : 5 + 1 ≤ R.frames ∧ 8 + (1 + 11) + 105 ≤ R.locals) (hsz : ls.size = nL) (hrm : (rest.map fun v => v.category).sum ≤ 8) (hdg : decode cc pc = .ok (.invokestatic idx, 3)) (hc : cells ≤ R.cells ∧ slots ≤ R.slots) (hC : cx adE adK adV A0 s s.heap) (hS : va_S A0 s.heap H locs) (kk : W p l e R s m args below meth c H locs cells slots Q (F0 m (pc + 3) ls (.ref (adE (f_R_kindOf x0)) :: rest))) : W p l e R s m args below meth c H locs cells slots Q (F0 m pc ls (.int x0 :: rest)) :=
  va_cse (va_Run.run (va_runS (As := [.int x0]) (rest := rest) S (c_R_kindOf l adE adK adV x0) (va_cwS 1 S.2.2.2.2 (gS hTs h1 m_119 m_49 m_120) rfl rfl rfl (by decide +kernel) hR) ⟨fun a U g mk q => ⟨q.1, q.2.blind⟩, fun U hU hW => ⟨rfl, hC.at hS no_in hU hW⟩⟩ rfl rfl hsz rfl (lv_room hrm) hdg hc)) (fun r e => by subst e; exact kk)

def f_T_registerName (x0 : Int32) : Nat :=
  if x0 = 0 then
    3
  else
    if x0 = 1 then
      4
    else
      if x0 = 2 then
        5
      else
        if x0 = 3 then
          6
        else
          if x0 = 4 then
            7
          else
            if x0 = 5 then
              8
            else
              if x0 = 6 then
                9
              else
                if x0 = 7 then
                  10
                else
                  if x0 = 8 then
                    11
                  else
                    if x0 = 9 then
                      12
                    else
                      if x0 = 10 then
                        13
                      else
                        if x0 = 11 then
                          14
                        else
                          if x0 = 12 then
                            15
                          else
                            if x0 = 13 then
                              16
                            else
                              if x0 = 14 then
                                17
                              else
                                if x0 = 15 then
                                  18
                                else
                                  if x0 = 16 then
                                    19
                                  else
                                    if x0 = 17 then
                                      20
                                    else
                                      if x0 = 18 then
                                        21
                                      else
                                        if x0 = 19 then
                                          22
                                        else
                                          if x0 = 20 then
                                            23
                                          else
                                            if x0 = 21 then
                                              24
                                            else
                                              if x0 = 22 then
                                                25
                                              else
                                                if x0 = 23 then
                                                  26
                                                else
                                                  if x0 = 24 then
                                                    27
                                                  else
                                                    if x0 = 25 then
                                                      28
                                                    else
                                                      if x0 = 26 then
                                                        29
                                                      else
                                                        if x0 = 27 then
                                                          30
                                                        else
                                                          if x0 = 28 then
                                                            31
                                                          else
                                                            if x0 = 29 then
                                                              32
                                                            else
                                                              if x0 = 30 then
                                                                33
                                                              else
                                                                34
set_option maxRecDepth 100000 in
set_option maxHeartbeats 4000000 in
theorem c_T_registerName (l : Launch) (adE adK adV : Nat → Nat) (x0 : Int32) : Met l y_T_registerName (Cond.code y_T_registerName b_T_registerName 1 (some (.object "java/lang/String")) :: WT) ({ frames := 0, cells := 0, slots := 0, locals := 0 }) (va_Pc [.int x0] (fun U => cx adE adK adV no U U.heap)) (va_Sr (fun r => r = f_T_registerName x0) (fun k => .ref (adK k))) 0 0 no := by
  refine va_MetF (cc := b_T_registerName) (maxL := 1) (ret := (some (.object "java/lang/String"))) (by decide +kernel) rfl ?_
  intro p e s m args below meth c s₁ B hml hv
  obtain ⟨rfl, hC⟩ := hv
  have hx := B.exec
  have hb := B.bytes
  have hr := B.returns
  have hts := atoms_spec (ws := (Cond.code y_T_registerName b_T_registerName 1 (some (.object "java/lang/String")) :: WT)) B.pre
  have hT : ∀ w ∈ WT, w.before _ s = true := fun w h => hts w (inC w h)
  have hown : s.vm.findClass R_T = some m.cls := findClass_of_methodNamed B.named
  have hlocks := B.notSynchronized
  have hS : va_S no s.heap s.heap [] := va_S.rf
  have S : CallFix p m c b_T_registerName 1 s _ (Cond.code y_T_registerName b_T_registerName 1 (some (.object "java/lang/String")) :: WT) R_T := ⟨hx, hb, hml, hown, hts⟩
  have hl := lv_entry ([.int x0]) (n := 1) (Nat.le_of_ble_eq_true rfl)
  rw [lg_entry_eq]
  generalize (lg_sl ([.int x0]) ++ List.replicate (1 - (lg_sl ([.int x0])).length) Slot.unset).toArray = ls at hl ⊢
  have hl : lv_has ls 1 [(0, .int x0)] := hl
  refine lv_iload_n hx hb d_T_registerName_0 rfl (lv_at hl 0 rfl) ?_
  by_cases c_1 : x0 = 0
  · refine lv_tableIn (off := 139) (tgt := 140) hx hb d_T_registerName_1 (by rw [c_1]; decide) (by rw [c_1]; decide) (by rw [c_1]; decide) (by decide) ?_
    refine va_ldcS hx hb hown (hC.2.2.1 3 (by decide)) d_T_registerName_140 ?_
    exact W.aret (v := .ref (adK 3)) hx hb hr (Or.inl ⟨_, rfl⟩) (Or.inr ⟨_, rfl⟩) (fun t ht hW => ⟨3, rfl, by rw [f_T_registerName, if_pos c_1], ht⟩) (fun _ h => by cases h) d_T_registerName_142
  · by_cases c_2 : x0 = 1
    · refine lv_tableIn (off := 142) (tgt := 143) hx hb d_T_registerName_1 (by rw [c_2]; decide) (by rw [c_2]; decide) (by rw [c_2]; decide) (by decide) ?_
      refine va_ldcS hx hb hown (hC.2.2.1 4 (by decide)) d_T_registerName_143 ?_
      exact W.aret (v := .ref (adK 4)) hx hb hr (Or.inl ⟨_, rfl⟩) (Or.inr ⟨_, rfl⟩) (fun t ht hW => ⟨4, rfl, by rw [f_T_registerName, if_neg c_1, if_pos c_2], ht⟩) (fun _ h => by cases h) d_T_registerName_145
    · by_cases c_3 : x0 = 2
      · refine lv_tableIn (off := 145) (tgt := 146) hx hb d_T_registerName_1 (by rw [c_3]; decide) (by rw [c_3]; decide) (by rw [c_3]; decide) (by decide) ?_
        refine va_ldcS hx hb hown (hC.2.2.1 5 (by decide)) d_T_registerName_146 ?_
        exact W.aret (v := .ref (adK 5)) hx hb hr (Or.inl ⟨_, rfl⟩) (Or.inr ⟨_, rfl⟩) (fun t ht hW => ⟨5, rfl, by rw [f_T_registerName, if_neg c_1, if_neg c_2, if_pos c_3], ht⟩) (fun _ h => by cases h) d_T_registerName_148
      · by_cases c_4 : x0 = 3
        · refine lv_tableIn (off := 148) (tgt := 149) hx hb d_T_registerName_1 (by rw [c_4]; decide) (by rw [c_4]; decide) (by rw [c_4]; decide) (by decide) ?_
          refine va_ldcS hx hb hown (hC.2.2.1 6 (by decide)) d_T_registerName_149 ?_
          exact W.aret (v := .ref (adK 6)) hx hb hr (Or.inl ⟨_, rfl⟩) (Or.inr ⟨_, rfl⟩) (fun t ht hW => ⟨6, rfl, by rw [f_T_registerName, if_neg c_1, if_neg c_2, if_neg c_3, if_pos c_4], ht⟩) (fun _ h => by cases h) d_T_registerName_151
        · by_cases c_5 : x0 = 4
          · refine lv_tableIn (off := 151) (tgt := 152) hx hb d_T_registerName_1 (by rw [c_5]; decide) (by rw [c_5]; decide) (by rw [c_5]; decide) (by decide) ?_
            refine va_ldcS hx hb hown (hC.2.2.1 7 (by decide)) d_T_registerName_152 ?_
            exact W.aret (v := .ref (adK 7)) hx hb hr (Or.inl ⟨_, rfl⟩) (Or.inr ⟨_, rfl⟩) (fun t ht hW => ⟨7, rfl, by rw [f_T_registerName, if_neg c_1, if_neg c_2, if_neg c_3, if_neg c_4, if_pos c_5], ht⟩) (fun _ h => by cases h) d_T_registerName_154
          · by_cases c_6 : x0 = 5
            · refine lv_tableIn (off := 154) (tgt := 155) hx hb d_T_registerName_1 (by rw [c_6]; decide) (by rw [c_6]; decide) (by rw [c_6]; decide) (by decide) ?_
              refine va_ldcS hx hb hown (hC.2.2.1 8 (by decide)) d_T_registerName_155 ?_
              exact W.aret (v := .ref (adK 8)) hx hb hr (Or.inl ⟨_, rfl⟩) (Or.inr ⟨_, rfl⟩) (fun t ht hW => ⟨8, rfl, by rw [f_T_registerName, if_neg c_1, if_neg c_2, if_neg c_3, if_neg c_4, if_neg c_5, if_pos c_6], ht⟩) (fun _ h => by cases h) d_T_registerName_157
            · by_cases c_7 : x0 = 6
              · refine lv_tableIn (off := 157) (tgt := 158) hx hb d_T_registerName_1 (by rw [c_7]; decide) (by rw [c_7]; decide) (by rw [c_7]; decide) (by decide) ?_
                refine va_ldcS hx hb hown (hC.2.2.1 9 (by decide)) d_T_registerName_158 ?_
                exact W.aret (v := .ref (adK 9)) hx hb hr (Or.inl ⟨_, rfl⟩) (Or.inr ⟨_, rfl⟩) (fun t ht hW => ⟨9, rfl, by rw [f_T_registerName, if_neg c_1, if_neg c_2, if_neg c_3, if_neg c_4, if_neg c_5, if_neg c_6, if_pos c_7], ht⟩) (fun _ h => by cases h) d_T_registerName_160
              · by_cases c_8 : x0 = 7
                · refine lv_tableIn (off := 160) (tgt := 161) hx hb d_T_registerName_1 (by rw [c_8]; decide) (by rw [c_8]; decide) (by rw [c_8]; decide) (by decide) ?_
                  refine va_ldcS hx hb hown (hC.2.2.1 10 (by decide)) d_T_registerName_161 ?_
                  exact W.aret (v := .ref (adK 10)) hx hb hr (Or.inl ⟨_, rfl⟩) (Or.inr ⟨_, rfl⟩) (fun t ht hW => ⟨10, rfl, by rw [f_T_registerName, if_neg c_1, if_neg c_2, if_neg c_3, if_neg c_4, if_neg c_5, if_neg c_6, if_neg c_7, if_pos c_8], ht⟩) (fun _ h => by cases h) d_T_registerName_163
                · by_cases c_9 : x0 = 8
                  · refine lv_tableIn (off := 163) (tgt := 164) hx hb d_T_registerName_1 (by rw [c_9]; decide) (by rw [c_9]; decide) (by rw [c_9]; decide) (by decide) ?_
                    refine va_ldcS hx hb hown (hC.2.2.1 11 (by decide)) d_T_registerName_164 ?_
                    exact W.aret (v := .ref (adK 11)) hx hb hr (Or.inl ⟨_, rfl⟩) (Or.inr ⟨_, rfl⟩) (fun t ht hW => ⟨11, rfl, by rw [f_T_registerName, if_neg c_1, if_neg c_2, if_neg c_3, if_neg c_4, if_neg c_5, if_neg c_6, if_neg c_7, if_neg c_8, if_pos c_9], ht⟩) (fun _ h => by cases h) d_T_registerName_166
                  · by_cases c_10 : x0 = 9
                    · refine lv_tableIn (off := 166) (tgt := 167) hx hb d_T_registerName_1 (by rw [c_10]; decide) (by rw [c_10]; decide) (by rw [c_10]; decide) (by decide) ?_
                      refine va_ldcS hx hb hown (hC.2.2.1 12 (by decide)) d_T_registerName_167 ?_
                      exact W.aret (v := .ref (adK 12)) hx hb hr (Or.inl ⟨_, rfl⟩) (Or.inr ⟨_, rfl⟩) (fun t ht hW => ⟨12, rfl, by rw [f_T_registerName, if_neg c_1, if_neg c_2, if_neg c_3, if_neg c_4, if_neg c_5, if_neg c_6, if_neg c_7, if_neg c_8, if_neg c_9, if_pos c_10], ht⟩) (fun _ h => by cases h) d_T_registerName_169
                    · by_cases c_11 : x0 = 10
                      · refine lv_tableIn (off := 169) (tgt := 170) hx hb d_T_registerName_1 (by rw [c_11]; decide) (by rw [c_11]; decide) (by rw [c_11]; decide) (by decide) ?_
                        refine va_ldcS hx hb hown (hC.2.2.1 13 (by decide)) d_T_registerName_170 ?_
                        exact W.aret (v := .ref (adK 13)) hx hb hr (Or.inl ⟨_, rfl⟩) (Or.inr ⟨_, rfl⟩) (fun t ht hW => ⟨13, rfl, by rw [f_T_registerName, if_neg c_1, if_neg c_2, if_neg c_3, if_neg c_4, if_neg c_5, if_neg c_6, if_neg c_7, if_neg c_8, if_neg c_9, if_neg c_10, if_pos c_11], ht⟩) (fun _ h => by cases h) d_T_registerName_172
                      · by_cases c_12 : x0 = 11
                        · refine lv_tableIn (off := 172) (tgt := 173) hx hb d_T_registerName_1 (by rw [c_12]; decide) (by rw [c_12]; decide) (by rw [c_12]; decide) (by decide) ?_
                          refine va_ldcS hx hb hown (hC.2.2.1 14 (by decide)) d_T_registerName_173 ?_
                          exact W.aret (v := .ref (adK 14)) hx hb hr (Or.inl ⟨_, rfl⟩) (Or.inr ⟨_, rfl⟩) (fun t ht hW => ⟨14, rfl, by rw [f_T_registerName, if_neg c_1, if_neg c_2, if_neg c_3, if_neg c_4, if_neg c_5, if_neg c_6, if_neg c_7, if_neg c_8, if_neg c_9, if_neg c_10, if_neg c_11, if_pos c_12], ht⟩) (fun _ h => by cases h) d_T_registerName_175
                        · by_cases c_13 : x0 = 12
                          · refine lv_tableIn (off := 175) (tgt := 176) hx hb d_T_registerName_1 (by rw [c_13]; decide) (by rw [c_13]; decide) (by rw [c_13]; decide) (by decide) ?_
                            refine va_ldcS hx hb hown (hC.2.2.1 15 (by decide)) d_T_registerName_176 ?_
                            exact W.aret (v := .ref (adK 15)) hx hb hr (Or.inl ⟨_, rfl⟩) (Or.inr ⟨_, rfl⟩) (fun t ht hW => ⟨15, rfl, by rw [f_T_registerName, if_neg c_1, if_neg c_2, if_neg c_3, if_neg c_4, if_neg c_5, if_neg c_6, if_neg c_7, if_neg c_8, if_neg c_9, if_neg c_10, if_neg c_11, if_neg c_12, if_pos c_13], ht⟩) (fun _ h => by cases h) d_T_registerName_178
                          · by_cases c_14 : x0 = 13
                            · refine lv_tableIn (off := 178) (tgt := 179) hx hb d_T_registerName_1 (by rw [c_14]; decide) (by rw [c_14]; decide) (by rw [c_14]; decide) (by decide) ?_
                              refine va_ldcS hx hb hown (hC.2.2.1 16 (by decide)) d_T_registerName_179 ?_
                              exact W.aret (v := .ref (adK 16)) hx hb hr (Or.inl ⟨_, rfl⟩) (Or.inr ⟨_, rfl⟩) (fun t ht hW => ⟨16, rfl, by rw [f_T_registerName, if_neg c_1, if_neg c_2, if_neg c_3, if_neg c_4, if_neg c_5, if_neg c_6, if_neg c_7, if_neg c_8, if_neg c_9, if_neg c_10, if_neg c_11, if_neg c_12, if_neg c_13, if_pos c_14], ht⟩) (fun _ h => by cases h) d_T_registerName_181
                            · by_cases c_15 : x0 = 14
                              · refine lv_tableIn (off := 181) (tgt := 182) hx hb d_T_registerName_1 (by rw [c_15]; decide) (by rw [c_15]; decide) (by rw [c_15]; decide) (by decide) ?_
                                refine va_ldcS hx hb hown (hC.2.2.1 17 (by decide)) d_T_registerName_182 ?_
                                exact W.aret (v := .ref (adK 17)) hx hb hr (Or.inl ⟨_, rfl⟩) (Or.inr ⟨_, rfl⟩) (fun t ht hW => ⟨17, rfl, by rw [f_T_registerName, if_neg c_1, if_neg c_2, if_neg c_3, if_neg c_4, if_neg c_5, if_neg c_6, if_neg c_7, if_neg c_8, if_neg c_9, if_neg c_10, if_neg c_11, if_neg c_12, if_neg c_13, if_neg c_14, if_pos c_15], ht⟩) (fun _ h => by cases h) d_T_registerName_184
                              · by_cases c_16 : x0 = 15
                                · refine lv_tableIn (off := 184) (tgt := 185) hx hb d_T_registerName_1 (by rw [c_16]; decide) (by rw [c_16]; decide) (by rw [c_16]; decide) (by decide) ?_
                                  refine va_ldcS hx hb hown (hC.2.2.1 18 (by decide)) d_T_registerName_185 ?_
                                  exact W.aret (v := .ref (adK 18)) hx hb hr (Or.inl ⟨_, rfl⟩) (Or.inr ⟨_, rfl⟩) (fun t ht hW => ⟨18, rfl, by rw [f_T_registerName, if_neg c_1, if_neg c_2, if_neg c_3, if_neg c_4, if_neg c_5, if_neg c_6, if_neg c_7, if_neg c_8, if_neg c_9, if_neg c_10, if_neg c_11, if_neg c_12, if_neg c_13, if_neg c_14, if_neg c_15, if_pos c_16], ht⟩) (fun _ h => by cases h) d_T_registerName_187
                                · by_cases c_17 : x0 = 16
                                  · refine lv_tableIn (off := 187) (tgt := 188) hx hb d_T_registerName_1 (by rw [c_17]; decide) (by rw [c_17]; decide) (by rw [c_17]; decide) (by decide) ?_
                                    refine va_ldcS hx hb hown (hC.2.2.1 19 (by decide)) d_T_registerName_188 ?_
                                    exact W.aret (v := .ref (adK 19)) hx hb hr (Or.inl ⟨_, rfl⟩) (Or.inr ⟨_, rfl⟩) (fun t ht hW => ⟨19, rfl, by rw [f_T_registerName, if_neg c_1, if_neg c_2, if_neg c_3, if_neg c_4, if_neg c_5, if_neg c_6, if_neg c_7, if_neg c_8, if_neg c_9, if_neg c_10, if_neg c_11, if_neg c_12, if_neg c_13, if_neg c_14, if_neg c_15, if_neg c_16, if_pos c_17], ht⟩) (fun _ h => by cases h) d_T_registerName_190
                                  · by_cases c_18 : x0 = 17
                                    · refine lv_tableIn (off := 190) (tgt := 191) hx hb d_T_registerName_1 (by rw [c_18]; decide) (by rw [c_18]; decide) (by rw [c_18]; decide) (by decide) ?_
                                      refine va_ldcS hx hb hown (hC.2.2.1 20 (by decide)) d_T_registerName_191 ?_
                                      exact W.aret (v := .ref (adK 20)) hx hb hr (Or.inl ⟨_, rfl⟩) (Or.inr ⟨_, rfl⟩) (fun t ht hW => ⟨20, rfl, by rw [f_T_registerName, if_neg c_1, if_neg c_2, if_neg c_3, if_neg c_4, if_neg c_5, if_neg c_6, if_neg c_7, if_neg c_8, if_neg c_9, if_neg c_10, if_neg c_11, if_neg c_12, if_neg c_13, if_neg c_14, if_neg c_15, if_neg c_16, if_neg c_17, if_pos c_18], ht⟩) (fun _ h => by cases h) d_T_registerName_193
                                    · by_cases c_19 : x0 = 18
                                      · refine lv_tableIn (off := 193) (tgt := 194) hx hb d_T_registerName_1 (by rw [c_19]; decide) (by rw [c_19]; decide) (by rw [c_19]; decide) (by decide) ?_
                                        refine va_ldcS hx hb hown (hC.2.2.1 21 (by decide)) d_T_registerName_194 ?_
                                        exact W.aret (v := .ref (adK 21)) hx hb hr (Or.inl ⟨_, rfl⟩) (Or.inr ⟨_, rfl⟩) (fun t ht hW => ⟨21, rfl, by rw [f_T_registerName, if_neg c_1, if_neg c_2, if_neg c_3, if_neg c_4, if_neg c_5, if_neg c_6, if_neg c_7, if_neg c_8, if_neg c_9, if_neg c_10, if_neg c_11, if_neg c_12, if_neg c_13, if_neg c_14, if_neg c_15, if_neg c_16, if_neg c_17, if_neg c_18, if_pos c_19], ht⟩) (fun _ h => by cases h) d_T_registerName_196
                                      · by_cases c_20 : x0 = 19
                                        · refine lv_tableIn (off := 196) (tgt := 197) hx hb d_T_registerName_1 (by rw [c_20]; decide) (by rw [c_20]; decide) (by rw [c_20]; decide) (by decide) ?_
                                          refine va_ldcS hx hb hown (hC.2.2.1 22 (by decide)) d_T_registerName_197 ?_
                                          exact W.aret (v := .ref (adK 22)) hx hb hr (Or.inl ⟨_, rfl⟩) (Or.inr ⟨_, rfl⟩) (fun t ht hW => ⟨22, rfl, by rw [f_T_registerName, if_neg c_1, if_neg c_2, if_neg c_3, if_neg c_4, if_neg c_5, if_neg c_6, if_neg c_7, if_neg c_8, if_neg c_9, if_neg c_10, if_neg c_11, if_neg c_12, if_neg c_13, if_neg c_14, if_neg c_15, if_neg c_16, if_neg c_17, if_neg c_18, if_neg c_19, if_pos c_20], ht⟩) (fun _ h => by cases h) d_T_registerName_199
                                        · by_cases c_21 : x0 = 20
                                          · refine lv_tableIn (off := 199) (tgt := 200) hx hb d_T_registerName_1 (by rw [c_21]; decide) (by rw [c_21]; decide) (by rw [c_21]; decide) (by decide) ?_
                                            refine va_ldcS hx hb hown (hC.2.2.1 23 (by decide)) d_T_registerName_200 ?_
                                            exact W.aret (v := .ref (adK 23)) hx hb hr (Or.inl ⟨_, rfl⟩) (Or.inr ⟨_, rfl⟩) (fun t ht hW => ⟨23, rfl, by rw [f_T_registerName, if_neg c_1, if_neg c_2, if_neg c_3, if_neg c_4, if_neg c_5, if_neg c_6, if_neg c_7, if_neg c_8, if_neg c_9, if_neg c_10, if_neg c_11, if_neg c_12, if_neg c_13, if_neg c_14, if_neg c_15, if_neg c_16, if_neg c_17, if_neg c_18, if_neg c_19, if_neg c_20, if_pos c_21], ht⟩) (fun _ h => by cases h) d_T_registerName_202
                                          · by_cases c_22 : x0 = 21
                                            · refine lv_tableIn (off := 202) (tgt := 203) hx hb d_T_registerName_1 (by rw [c_22]; decide) (by rw [c_22]; decide) (by rw [c_22]; decide) (by decide) ?_
                                              refine va_ldcS hx hb hown (hC.2.2.1 24 (by decide)) d_T_registerName_203 ?_
                                              exact W.aret (v := .ref (adK 24)) hx hb hr (Or.inl ⟨_, rfl⟩) (Or.inr ⟨_, rfl⟩) (fun t ht hW => ⟨24, rfl, by rw [f_T_registerName, if_neg c_1, if_neg c_2, if_neg c_3, if_neg c_4, if_neg c_5, if_neg c_6, if_neg c_7, if_neg c_8, if_neg c_9, if_neg c_10, if_neg c_11, if_neg c_12, if_neg c_13, if_neg c_14, if_neg c_15, if_neg c_16, if_neg c_17, if_neg c_18, if_neg c_19, if_neg c_20, if_neg c_21, if_pos c_22], ht⟩) (fun _ h => by cases h) d_T_registerName_205
                                            · by_cases c_23 : x0 = 22
                                              · refine lv_tableIn (off := 205) (tgt := 206) hx hb d_T_registerName_1 (by rw [c_23]; decide) (by rw [c_23]; decide) (by rw [c_23]; decide) (by decide) ?_
                                                refine va_ldcS hx hb hown (hC.2.2.1 25 (by decide)) d_T_registerName_206 ?_
                                                exact W.aret (v := .ref (adK 25)) hx hb hr (Or.inl ⟨_, rfl⟩) (Or.inr ⟨_, rfl⟩) (fun t ht hW => ⟨25, rfl, by rw [f_T_registerName, if_neg c_1, if_neg c_2, if_neg c_3, if_neg c_4, if_neg c_5, if_neg c_6, if_neg c_7, if_neg c_8, if_neg c_9, if_neg c_10, if_neg c_11, if_neg c_12, if_neg c_13, if_neg c_14, if_neg c_15, if_neg c_16, if_neg c_17, if_neg c_18, if_neg c_19, if_neg c_20, if_neg c_21, if_neg c_22, if_pos c_23], ht⟩) (fun _ h => by cases h) d_T_registerName_208
                                              · by_cases c_24 : x0 = 23
                                                · refine lv_tableIn (off := 208) (tgt := 209) hx hb d_T_registerName_1 (by rw [c_24]; decide) (by rw [c_24]; decide) (by rw [c_24]; decide) (by decide) ?_
                                                  refine va_ldcS hx hb hown (hC.2.2.1 26 (by decide)) d_T_registerName_209 ?_
                                                  exact W.aret (v := .ref (adK 26)) hx hb hr (Or.inl ⟨_, rfl⟩) (Or.inr ⟨_, rfl⟩) (fun t ht hW => ⟨26, rfl, by rw [f_T_registerName, if_neg c_1, if_neg c_2, if_neg c_3, if_neg c_4, if_neg c_5, if_neg c_6, if_neg c_7, if_neg c_8, if_neg c_9, if_neg c_10, if_neg c_11, if_neg c_12, if_neg c_13, if_neg c_14, if_neg c_15, if_neg c_16, if_neg c_17, if_neg c_18, if_neg c_19, if_neg c_20, if_neg c_21, if_neg c_22, if_neg c_23, if_pos c_24], ht⟩) (fun _ h => by cases h) d_T_registerName_211
                                                · by_cases c_25 : x0 = 24
                                                  · refine lv_tableIn (off := 211) (tgt := 212) hx hb d_T_registerName_1 (by rw [c_25]; decide) (by rw [c_25]; decide) (by rw [c_25]; decide) (by decide) ?_
                                                    refine va_ldcS hx hb hown (hC.2.2.1 27 (by decide)) d_T_registerName_212 ?_
                                                    exact W.aret (v := .ref (adK 27)) hx hb hr (Or.inl ⟨_, rfl⟩) (Or.inr ⟨_, rfl⟩) (fun t ht hW => ⟨27, rfl, by rw [f_T_registerName, if_neg c_1, if_neg c_2, if_neg c_3, if_neg c_4, if_neg c_5, if_neg c_6, if_neg c_7, if_neg c_8, if_neg c_9, if_neg c_10, if_neg c_11, if_neg c_12, if_neg c_13, if_neg c_14, if_neg c_15, if_neg c_16, if_neg c_17, if_neg c_18, if_neg c_19, if_neg c_20, if_neg c_21, if_neg c_22, if_neg c_23, if_neg c_24, if_pos c_25], ht⟩) (fun _ h => by cases h) d_T_registerName_214
                                                  · by_cases c_26 : x0 = 25
                                                    · refine lv_tableIn (off := 214) (tgt := 215) hx hb d_T_registerName_1 (by rw [c_26]; decide) (by rw [c_26]; decide) (by rw [c_26]; decide) (by decide) ?_
                                                      refine va_ldcS hx hb hown (hC.2.2.1 28 (by decide)) d_T_registerName_215 ?_
                                                      exact W.aret (v := .ref (adK 28)) hx hb hr (Or.inl ⟨_, rfl⟩) (Or.inr ⟨_, rfl⟩) (fun t ht hW => ⟨28, rfl, by rw [f_T_registerName, if_neg c_1, if_neg c_2, if_neg c_3, if_neg c_4, if_neg c_5, if_neg c_6, if_neg c_7, if_neg c_8, if_neg c_9, if_neg c_10, if_neg c_11, if_neg c_12, if_neg c_13, if_neg c_14, if_neg c_15, if_neg c_16, if_neg c_17, if_neg c_18, if_neg c_19, if_neg c_20, if_neg c_21, if_neg c_22, if_neg c_23, if_neg c_24, if_neg c_25, if_pos c_26], ht⟩) (fun _ h => by cases h) d_T_registerName_217
                                                    · by_cases c_27 : x0 = 26
                                                      · refine lv_tableIn (off := 217) (tgt := 218) hx hb d_T_registerName_1 (by rw [c_27]; decide) (by rw [c_27]; decide) (by rw [c_27]; decide) (by decide) ?_
                                                        refine va_ldcS hx hb hown (hC.2.2.1 29 (by decide)) d_T_registerName_218 ?_
                                                        exact W.aret (v := .ref (adK 29)) hx hb hr (Or.inl ⟨_, rfl⟩) (Or.inr ⟨_, rfl⟩) (fun t ht hW => ⟨29, rfl, by rw [f_T_registerName, if_neg c_1, if_neg c_2, if_neg c_3, if_neg c_4, if_neg c_5, if_neg c_6, if_neg c_7, if_neg c_8, if_neg c_9, if_neg c_10, if_neg c_11, if_neg c_12, if_neg c_13, if_neg c_14, if_neg c_15, if_neg c_16, if_neg c_17, if_neg c_18, if_neg c_19, if_neg c_20, if_neg c_21, if_neg c_22, if_neg c_23, if_neg c_24, if_neg c_25, if_neg c_26, if_pos c_27], ht⟩) (fun _ h => by cases h) d_T_registerName_220
                                                      · by_cases c_28 : x0 = 27
                                                        · refine lv_tableIn (off := 220) (tgt := 221) hx hb d_T_registerName_1 (by rw [c_28]; decide) (by rw [c_28]; decide) (by rw [c_28]; decide) (by decide) ?_
                                                          refine va_ldcS hx hb hown (hC.2.2.1 30 (by decide)) d_T_registerName_221 ?_
                                                          exact W.aret (v := .ref (adK 30)) hx hb hr (Or.inl ⟨_, rfl⟩) (Or.inr ⟨_, rfl⟩) (fun t ht hW => ⟨30, rfl, by rw [f_T_registerName, if_neg c_1, if_neg c_2, if_neg c_3, if_neg c_4, if_neg c_5, if_neg c_6, if_neg c_7, if_neg c_8, if_neg c_9, if_neg c_10, if_neg c_11, if_neg c_12, if_neg c_13, if_neg c_14, if_neg c_15, if_neg c_16, if_neg c_17, if_neg c_18, if_neg c_19, if_neg c_20, if_neg c_21, if_neg c_22, if_neg c_23, if_neg c_24, if_neg c_25, if_neg c_26, if_neg c_27, if_pos c_28], ht⟩) (fun _ h => by cases h) d_T_registerName_223
                                                        · by_cases c_29 : x0 = 28
                                                          · refine lv_tableIn (off := 223) (tgt := 224) hx hb d_T_registerName_1 (by rw [c_29]; decide) (by rw [c_29]; decide) (by rw [c_29]; decide) (by decide) ?_
                                                            refine va_ldcS hx hb hown (hC.2.2.1 31 (by decide)) d_T_registerName_224 ?_
                                                            exact W.aret (v := .ref (adK 31)) hx hb hr (Or.inl ⟨_, rfl⟩) (Or.inr ⟨_, rfl⟩) (fun t ht hW => ⟨31, rfl, by rw [f_T_registerName, if_neg c_1, if_neg c_2, if_neg c_3, if_neg c_4, if_neg c_5, if_neg c_6, if_neg c_7, if_neg c_8, if_neg c_9, if_neg c_10, if_neg c_11, if_neg c_12, if_neg c_13, if_neg c_14, if_neg c_15, if_neg c_16, if_neg c_17, if_neg c_18, if_neg c_19, if_neg c_20, if_neg c_21, if_neg c_22, if_neg c_23, if_neg c_24, if_neg c_25, if_neg c_26, if_neg c_27, if_neg c_28, if_pos c_29], ht⟩) (fun _ h => by cases h) d_T_registerName_226
                                                          · by_cases c_30 : x0 = 29
                                                            · refine lv_tableIn (off := 226) (tgt := 227) hx hb d_T_registerName_1 (by rw [c_30]; decide) (by rw [c_30]; decide) (by rw [c_30]; decide) (by decide) ?_
                                                              refine va_ldcS hx hb hown (hC.2.2.1 32 (by decide)) d_T_registerName_227 ?_
                                                              exact W.aret (v := .ref (adK 32)) hx hb hr (Or.inl ⟨_, rfl⟩) (Or.inr ⟨_, rfl⟩) (fun t ht hW => ⟨32, rfl, by rw [f_T_registerName, if_neg c_1, if_neg c_2, if_neg c_3, if_neg c_4, if_neg c_5, if_neg c_6, if_neg c_7, if_neg c_8, if_neg c_9, if_neg c_10, if_neg c_11, if_neg c_12, if_neg c_13, if_neg c_14, if_neg c_15, if_neg c_16, if_neg c_17, if_neg c_18, if_neg c_19, if_neg c_20, if_neg c_21, if_neg c_22, if_neg c_23, if_neg c_24, if_neg c_25, if_neg c_26, if_neg c_27, if_neg c_28, if_neg c_29, if_pos c_30], ht⟩) (fun _ h => by cases h) d_T_registerName_229
                                                            · by_cases c_31 : x0 = 30
                                                              · refine lv_tableIn (off := 229) (tgt := 230) hx hb d_T_registerName_1 (by rw [c_31]; decide) (by rw [c_31]; decide) (by rw [c_31]; decide) (by decide) ?_
                                                                refine va_ldcS hx hb hown (hC.2.2.1 33 (by decide)) d_T_registerName_230 ?_
                                                                exact W.aret (v := .ref (adK 33)) hx hb hr (Or.inl ⟨_, rfl⟩) (Or.inr ⟨_, rfl⟩) (fun t ht hW => ⟨33, rfl, by rw [f_T_registerName, if_neg c_1, if_neg c_2, if_neg c_3, if_neg c_4, if_neg c_5, if_neg c_6, if_neg c_7, if_neg c_8, if_neg c_9, if_neg c_10, if_neg c_11, if_neg c_12, if_neg c_13, if_neg c_14, if_neg c_15, if_neg c_16, if_neg c_17, if_neg c_18, if_neg c_19, if_neg c_20, if_neg c_21, if_neg c_22, if_neg c_23, if_neg c_24, if_neg c_25, if_neg c_26, if_neg c_27, if_neg c_28, if_neg c_29, if_neg c_30, if_pos c_31], ht⟩) (fun _ h => by cases h) d_T_registerName_232
                                                              · refine lv_tableOut (tgt := 233) hx hb d_T_registerName_1 (by have n0 := lv_neT c_1 (show (0 : Int32).toInt = 0 by decide); have n1 := lv_neT c_2 (show (1 : Int32).toInt = 1 by decide); have n2 := lv_neT c_3 (show (2 : Int32).toInt = 2 by decide); have n3 := lv_neT c_4 (show (3 : Int32).toInt = 3 by decide); have n4 := lv_neT c_5 (show (4 : Int32).toInt = 4 by decide); have n5 := lv_neT c_6 (show (5 : Int32).toInt = 5 by decide); have n6 := lv_neT c_7 (show (6 : Int32).toInt = 6 by decide); have n7 := lv_neT c_8 (show (7 : Int32).toInt = 7 by decide); have n8 := lv_neT c_9 (show (8 : Int32).toInt = 8 by decide); have n9 := lv_neT c_10 (show (9 : Int32).toInt = 9 by decide); have n10 := lv_neT c_11 (show (10 : Int32).toInt = 10 by decide); have n11 := lv_neT c_12 (show (11 : Int32).toInt = 11 by decide); have n12 := lv_neT c_13 (show (12 : Int32).toInt = 12 by decide); have n13 := lv_neT c_14 (show (13 : Int32).toInt = 13 by decide); have n14 := lv_neT c_15 (show (14 : Int32).toInt = 14 by decide); have n15 := lv_neT c_16 (show (15 : Int32).toInt = 15 by decide); have n16 := lv_neT c_17 (show (16 : Int32).toInt = 16 by decide); have n17 := lv_neT c_18 (show (17 : Int32).toInt = 17 by decide); have n18 := lv_neT c_19 (show (18 : Int32).toInt = 18 by decide); have n19 := lv_neT c_20 (show (19 : Int32).toInt = 19 by decide); have n20 := lv_neT c_21 (show (20 : Int32).toInt = 20 by decide); have n21 := lv_neT c_22 (show (21 : Int32).toInt = 21 by decide); have n22 := lv_neT c_23 (show (22 : Int32).toInt = 22 by decide); have n23 := lv_neT c_24 (show (23 : Int32).toInt = 23 by decide); have n24 := lv_neT c_25 (show (24 : Int32).toInt = 24 by decide); have n25 := lv_neT c_26 (show (25 : Int32).toInt = 25 by decide); have n26 := lv_neT c_27 (show (26 : Int32).toInt = 26 by decide); have n27 := lv_neT c_28 (show (27 : Int32).toInt = 27 by decide); have n28 := lv_neT c_29 (show (28 : Int32).toInt = 28 by decide); have n29 := lv_neT c_30 (show (29 : Int32).toInt = 29 by decide); have n30 := lv_neT c_31 (show (30 : Int32).toInt = 30 by decide); omega) (by decide) ?_
                                                                refine va_ldcS hx hb hown (hC.2.2.1 34 (by decide)) d_T_registerName_233 ?_
                                                                exact W.aret (v := .ref (adK 34)) hx hb hr (Or.inl ⟨_, rfl⟩) (Or.inr ⟨_, rfl⟩) (fun t ht hW => ⟨34, rfl, by rw [f_T_registerName, if_neg c_1, if_neg c_2, if_neg c_3, if_neg c_4, if_neg c_5, if_neg c_6, if_neg c_7, if_neg c_8, if_neg c_9, if_neg c_10, if_neg c_11, if_neg c_12, if_neg c_13, if_neg c_14, if_neg c_15, if_neg c_16, if_neg c_17, if_neg c_18, if_neg c_19, if_neg c_20, if_neg c_21, if_neg c_22, if_neg c_23, if_neg c_24, if_neg c_25, if_neg c_26, if_neg c_27, if_neg c_28, if_neg c_29, if_neg c_30, if_neg c_31], ht⟩) (fun _ h => by cases h) d_T_registerName_235
theorem call_T_registerName {p : Program} {l : Launch} {e : Env} {R : Room} {s : State} {m : MethodId} {args : Array Value} {below : List Frame} {meth : Method} {c : Code} {H : Heap} {locs : List Loc} {cells slots : Nat} {Q : State → Prop} {cc : ByteArray} {pc nL idx : Nat} {ls : Array Slot} {rest : List Value} {Ts : List Cond} {own : String} {adE adK adV : Nat → Nat} {A0 : Nat → Prop} {x0 : Int32} (S : CallFix p m c cc nL s args Ts own) (hTs : ∀ w ∈ WT, w ∈ Ts) (h1 : Cond.methodLink own idx y_T_registerName ∈ WT) (hR : 0 + 1 ≤ R.frames ∧ 8 + (1 + 11) + 0 ≤ R.locals) (hsz : ls.size = nL) (hrm : (rest.map fun v => v.category).sum ≤ 8) (hdg : decode cc pc = .ok (.invokestatic idx, 3)) (hc : cells ≤ R.cells ∧ slots ≤ R.slots) (hC : cx adE adK adV A0 s s.heap) (hS : va_S A0 s.heap H locs) (kk : W p l e R s m args below meth c H locs cells slots Q (F0 m (pc + 3) ls (.ref (adK (f_T_registerName x0)) :: rest))) : W p l e R s m args below meth c H locs cells slots Q (F0 m pc ls (.int x0 :: rest)) :=
  va_csr (va_Run.run (va_runS (As := [.int x0]) (rest := rest) S (c_T_registerName l adE adK adV x0) (va_cwS 1 S.2.2.2.2 (gS hTs h1 m_478 m_50 m_479) rfl rfl rfl (by decide +kernel) hR) ⟨fun a U g mk q => ⟨q.1, q.2.blind⟩, fun U hU hW => ⟨rfl, hC.at hS no_in hU hW⟩⟩ rfl rfl hsz rfl (lv_room hrm) hdg hc)) (fun r e => by subst e; exact kk)
end
section
theorem sTx_lt : ∀ k, k < 159 → (sTx k).length < 40 := by decide +kernel
theorem sTx_ch : ∀ k, k < 159 → ∀ j, j < (sTx k).length → (((sTx k).getD j 0 &&& 255).toUInt32 % 65536).toInt32 = (sTx k).getD j 0 := by decide +kernel
theorem sTx_na : ∀ k, k < 159 → ∀ j, j < (sTx k).length → narrow .char (.int ((sTx k).getD j 0)) = .int ((sTx k).getD j 0) := by decide +kernel
theorem cx_recvK {adE adK adV : Nat → Nat} {A : Nat → Prop} {s : State} {H : Heap} {locs : List Loc} {k : Nat} (h : cx adE adK adV A s s.heap) (hS : va_S A s.heap H locs) (hk : k < 159) : ∃ cell : Cell, H[adK k]? = some cell ∧ cell.vm.isStatics = false ∧ s.vm.findClass R_JS = some cell.cls := by
  obtain ⟨cell, h1, h2, h3, -⟩ := (h.2.1 k hk).1.kept hS.2.1
  exact ⟨cell, h1, h2, h3⟩
theorem cx_recvE {adE adK adV : Nat → Nat} {A : Nat → Prop} {s : State} {H : Heap} {locs : List Loc} {i : Nat} (h : cx adE adK adV A s s.heap) (hS : va_S A s.heap H locs) (hi : i < 95) : ∃ cell : Cell, H[adE i]? = some cell ∧ cell.vm.isStatics = false ∧ s.vm.findClass R_K = some cell.cls := by
  obtain ⟨cell, h1, h2, h3, -⟩ := (h.1 i hi).2.1.kept hS.2.1
  exact ⟨cell, h1, h2, h3⟩

set_option maxRecDepth 100000 in
set_option maxHeartbeats 4000000 in
theorem c_JS_coder (l : Launch) (adE adK adV : Nat → Nat) (k : Nat) : Met l y_JS_coder (Cond.code y_JS_coder b_JS_coder 1 (some .byte) :: WT) ({ frames := 0, cells := 0, slots := 0, locals := 0 }) (va_Pc [.ref (adK k)] (fun U => cx adE adK adV no U U.heap ∧ k < 159)) (vp_Si (fun r => r = 0)) 0 0 no := by
  refine va_MetF (cc := b_JS_coder) (maxL := 1) (ret := (some .byte)) (by decide +kernel) rfl ?_
  intro p e s m args below meth c s₁ B hml hv
  obtain ⟨rfl, hC, hk⟩ := hv
  have hx := B.exec
  have hb := B.bytes
  have hr := B.returns
  have hts := atoms_spec (ws := (Cond.code y_JS_coder b_JS_coder 1 (some .byte) :: WT)) B.pre
  have hT : ∀ w ∈ WT, w.before _ s = true := fun w h => hts w (inC w h)
  have hown : s.vm.findClass R_JS = some m.cls := findClass_of_methodNamed B.named
  have hlocks := B.notSynchronized
  have hS : va_S no s.heap s.heap [] := va_S.rf
  have S : CallFix p m c b_JS_coder 1 s _ (Cond.code y_JS_coder b_JS_coder 1 (some .byte) :: WT) R_JS := ⟨hx, hb, hml, hown, hts⟩
  have hl := lv_entry ([.ref (adK k)]) (n := 1) (Nat.le_of_ble_eq_true rfl)
  rw [lg_entry_eq]
  generalize (lg_sl ([.ref (adK k)]) ++ List.replicate (1 - (lg_sl ([.ref (adK k)])).length) Slot.unset).toArray = ls at hl ⊢
  have hl : lv_has ls 1 [(0, .ref (adK k))] := hl
  refine va_gets (v := .int 1) hx hb hC.2.2.2.2.1 hS hown (hT _ m_414) (fun _ h => h) d_JS_coder_0 ?_
  refine lv_if_eq (tgt := 13) hx hb d_JS_coder_3 (by decide) (fun h => absurd h (by decide)) (fun _ => ?_)
  refine lv_aload_n hx hb d_JS_coder_6 rfl (lv_at hl 0 rfl) ?_
  refine vk_getf hx hb (hC.2.1 k hk).2.1 hS hown (hT _ m_1067) (fun _ h => h) d_JS_coder_7 ?_
  refine lv_goto (tgt := 14) hx hb d_JS_coder_10 (by decide) ?_
  exact W.zret (v := 0) hx hb hr rfl (fun t ht hW => ⟨0, rfl, rfl, ht⟩) (fun _ h => by cases h) d_JS_coder_14

theorem call_JS_coder {p : Program} {l : Launch} {e : Env} {R : Room} {s : State} {m : MethodId} {args : Array Value} {below : List Frame} {meth : Method} {c : Code} {H : Heap} {locs : List Loc} {cells slots : Nat} {Q : State → Prop} {cc : ByteArray} {pc nL idx : Nat} {ls : Array Slot} {rest : List Value} {Ts : List Cond} {own : String} {adE adK adV : Nat → Nat} {A0 : Nat → Prop} {k : Nat} (S : CallFix p m c cc nL s args Ts own) (hTs : ∀ w ∈ WT, w ∈ Ts) (h1 : Cond.methodLink own idx y_JS_coder ∈ WT) (hR : 0 + 1 ≤ R.frames ∧ 8 + (1 + 11) + 0 ≤ R.locals) (hsz : ls.size = nL) (hrm : (rest.map fun v => v.category).sum ≤ 8) (hdg : decode cc pc = .ok (.invokevirtual idx, 3)) (hc : cells ≤ R.cells ∧ slots ≤ R.slots) (hC : cx adE adK adV A0 s s.heap) (hS : va_S A0 s.heap H locs) (hk : k < 159) (kk : W p l e R s m args below meth c H locs cells slots Q (F0 m (pc + 3) ls (.int 0 :: rest))) : W p l e R s m args below meth c H locs cells slots Q (F0 m pc ls (.ref (adK k) :: rest)) :=
  vp_callSi (va_Run.run (va_runV (As := []) (rest := rest) S (c_JS_coder l adE adK adV k) (cwV 0 S.2.2.2.2 (gV hTs h1 m_411 m_412 m_57 m_413) rfl rfl rfl (by decide +kernel) hR) ⟨fun a U g mk q => ⟨q.1, q.2.1.blind, q.2.2⟩, cx_recvK hC hS hk, fun U hU hW => ⟨rfl, hC.at hS no_in hU hW, hk⟩⟩ rfl rfl hsz rfl (lv_room hrm) hdg hc)) (fun r e => by subst e; exact kk)

set_option maxRecDepth 100000 in
set_option maxHeartbeats 4000000 in
theorem c_JS_isLatin1 (l : Launch) (adE adK adV : Nat → Nat) (k : Nat) : Met l y_JS_isLatin1 (Cond.code y_JS_isLatin1 b_JS_isLatin1 1 (some .boolean) :: WT) ({ frames := 0, cells := 0, slots := 0, locals := 0 }) (va_Pc [.ref (adK k)] (fun U => cx adE adK adV no U U.heap ∧ k < 159)) (vp_Si (fun r => r = 1)) 0 0 no := by
  refine va_MetF (cc := b_JS_isLatin1) (maxL := 1) (ret := (some .boolean)) (by decide +kernel) rfl ?_
  intro p e s m args below meth c s₁ B hml hv
  obtain ⟨rfl, hC, hk⟩ := hv
  have hx := B.exec
  have hb := B.bytes
  have hr := B.returns
  have hts := atoms_spec (ws := (Cond.code y_JS_isLatin1 b_JS_isLatin1 1 (some .boolean) :: WT)) B.pre
  have hT : ∀ w ∈ WT, w.before _ s = true := fun w h => hts w (inC w h)
  have hown : s.vm.findClass R_JS = some m.cls := findClass_of_methodNamed B.named
  have hlocks := B.notSynchronized
  have hS : va_S no s.heap s.heap [] := va_S.rf
  have S : CallFix p m c b_JS_isLatin1 1 s _ (Cond.code y_JS_isLatin1 b_JS_isLatin1 1 (some .boolean) :: WT) R_JS := ⟨hx, hb, hml, hown, hts⟩
  have hl := lv_entry ([.ref (adK k)]) (n := 1) (Nat.le_of_ble_eq_true rfl)
  rw [lg_entry_eq]
  generalize (lg_sl ([.ref (adK k)]) ++ List.replicate (1 - (lg_sl ([.ref (adK k)])).length) Slot.unset).toArray = ls at hl ⊢
  have hl : lv_has ls 1 [(0, .ref (adK k))] := hl
  refine va_gets (v := .int 1) hx hb hC.2.2.2.2.1 hS hown (hT _ m_414) (fun _ h => h) d_JS_isLatin1_0 ?_
  refine lv_if_eq (tgt := 17) hx hb d_JS_isLatin1_3 (by decide) (fun h => absurd h (by decide)) (fun _ => ?_)
  refine lv_aload_n hx hb d_JS_isLatin1_6 rfl (lv_at hl 0 rfl) ?_
  refine vk_getf hx hb (hC.2.1 k hk).2.1 hS hown (hT _ m_1067) (fun _ h => h) d_JS_isLatin1_7 ?_
  refine lv_if_ne (tgt := 17) hx hb d_JS_isLatin1_10 (by decide) (fun h => absurd rfl h) (fun _ => ?_)
  refine lv_iconst (v := 1) hx hb d_JS_isLatin1_13 (by decide) ?_
  refine lv_goto (tgt := 18) hx hb d_JS_isLatin1_14 (by decide) ?_
  exact W.zret (v := 1) hx hb hr rfl (fun t ht hW => ⟨1, rfl, rfl, ht⟩) (fun _ h => by cases h) d_JS_isLatin1_18

theorem call_JS_isLatin1 {p : Program} {l : Launch} {e : Env} {R : Room} {s : State} {m : MethodId} {args : Array Value} {below : List Frame} {meth : Method} {c : Code} {H : Heap} {locs : List Loc} {cells slots : Nat} {Q : State → Prop} {cc : ByteArray} {pc nL idx : Nat} {ls : Array Slot} {rest : List Value} {Ts : List Cond} {own : String} {adE adK adV : Nat → Nat} {A0 : Nat → Prop} {k : Nat} (S : CallFix p m c cc nL s args Ts own) (hTs : ∀ w ∈ WT, w ∈ Ts) (h1 : Cond.methodLink own idx y_JS_isLatin1 ∈ WT) (hR : 0 + 1 ≤ R.frames ∧ 8 + (1 + 11) + 0 ≤ R.locals) (hsz : ls.size = nL) (hrm : (rest.map fun v => v.category).sum ≤ 8) (hdg : decode cc pc = .ok (.invokevirtual idx, 3)) (hc : cells ≤ R.cells ∧ slots ≤ R.slots) (hC : cx adE adK adV A0 s s.heap) (hS : va_S A0 s.heap H locs) (hk : k < 159) (kk : W p l e R s m args below meth c H locs cells slots Q (F0 m (pc + 3) ls (.int 1 :: rest))) : W p l e R s m args below meth c H locs cells slots Q (F0 m pc ls (.ref (adK k) :: rest)) :=
  vp_callSi (va_Run.run (va_runV (As := []) (rest := rest) S (c_JS_isLatin1 l adE adK adV k) (cwV 0 S.2.2.2.2 (gV hTs h1 m_421 m_422 m_57 m_423) rfl rfl rfl (by decide +kernel) hR) ⟨fun a U g mk q => ⟨q.1, q.2.1.blind, q.2.2⟩, cx_recvK hC hS hk, fun U hU hW => ⟨rfl, hC.at hS no_in hU hW, hk⟩⟩ rfl rfl hsz rfl (lv_room hrm) hdg hc)) (fun r e => by subst e; exact kk)

def f_JS_isEmpty (k : Nat) : Int32 := if nI (sTx k).length = 0 then 1 else 0
set_option maxRecDepth 100000 in
set_option maxHeartbeats 4000000 in
theorem c_JS_isEmpty (l : Launch) (adE adK adV : Nat → Nat) (k : Nat) : Met l y_JS_isEmpty (Cond.code y_JS_isEmpty b_JS_isEmpty 1 (some .boolean) :: WT) ({ frames := 0, cells := 0, slots := 0, locals := 0 }) (va_Pc [.ref (adK k)] (fun U => cx adE adK adV no U U.heap ∧ k < 159)) (vp_Si (fun r => r = f_JS_isEmpty k)) 0 0 no := by
  refine va_MetF (cc := b_JS_isEmpty) (maxL := 1) (ret := (some .boolean)) (by decide +kernel) rfl ?_
  intro p e s m args below meth c s₁ B hml hv
  obtain ⟨rfl, hC, hk⟩ := hv
  have hx := B.exec
  have hb := B.bytes
  have hr := B.returns
  have hts := atoms_spec (ws := (Cond.code y_JS_isEmpty b_JS_isEmpty 1 (some .boolean) :: WT)) B.pre
  have hT : ∀ w ∈ WT, w.before _ s = true := fun w h => hts w (inC w h)
  have hown : s.vm.findClass R_JS = some m.cls := findClass_of_methodNamed B.named
  have hlocks := B.notSynchronized
  have hS : va_S no s.heap s.heap [] := va_S.rf
  have S : CallFix p m c b_JS_isEmpty 1 s _ (Cond.code y_JS_isEmpty b_JS_isEmpty 1 (some .boolean) :: WT) R_JS := ⟨hx, hb, hml, hown, hts⟩
  have hl := lv_entry ([.ref (adK k)]) (n := 1) (Nat.le_of_ble_eq_true rfl)
  rw [lg_entry_eq]
  generalize (lg_sl ([.ref (adK k)]) ++ List.replicate (1 - (lg_sl ([.ref (adK k)])).length) Slot.unset).toArray = ls at hl ⊢
  have hl : lv_has ls 1 [(0, .ref (adK k))] := hl
  refine lv_aload_n hx hb d_JS_isEmpty_0 rfl (lv_at hl 0 rfl) ?_
  refine vk_getf hx hb (hC.2.1 k hk).2.2.1 hS hown (hT _ m_1066) (fun _ h => h) d_JS_isEmpty_1 ?_
  refine va_tlen (v := nI (sTx k).length) hx hb (hC.2.1 k hk).2.2.2 hS rfl d_JS_isEmpty_4 ?_
  refine lv_if_ne (tgt := 12) hx hb d_JS_isEmpty_5 (by decide) (fun h => ?_) (fun h => ?_)
  · refine lv_iconst (v := 0) hx hb d_JS_isEmpty_12 (by decide) ?_
    exact W.zret (v := 0) hx hb hr rfl (fun t ht hW => ⟨0, rfl, by rw [f_JS_isEmpty, if_neg h], ht⟩) (fun _ h => by cases h) d_JS_isEmpty_13
  · refine lv_iconst (v := 1) hx hb d_JS_isEmpty_8 (by decide) ?_
    refine lv_goto (tgt := 13) hx hb d_JS_isEmpty_9 (by decide) ?_
    exact W.zret (v := 1) hx hb hr rfl (fun t ht hW => ⟨1, rfl, by rw [f_JS_isEmpty, if_pos h], ht⟩) (fun _ h => by cases h) d_JS_isEmpty_13

theorem call_JS_isEmpty {p : Program} {l : Launch} {e : Env} {R : Room} {s : State} {m : MethodId} {args : Array Value} {below : List Frame} {meth : Method} {c : Code} {H : Heap} {locs : List Loc} {cells slots : Nat} {Q : State → Prop} {cc : ByteArray} {pc nL idx : Nat} {ls : Array Slot} {rest : List Value} {Ts : List Cond} {own : String} {adE adK adV : Nat → Nat} {A0 : Nat → Prop} {k : Nat} (S : CallFix p m c cc nL s args Ts own) (hTs : ∀ w ∈ WT, w ∈ Ts) (h1 : Cond.methodLink own idx y_JS_isEmpty ∈ WT) (hR : 0 + 1 ≤ R.frames ∧ 8 + (1 + 11) + 0 ≤ R.locals) (hsz : ls.size = nL) (hrm : (rest.map fun v => v.category).sum ≤ 8) (hdg : decode cc pc = .ok (.invokevirtual idx, 3)) (hc : cells ≤ R.cells ∧ slots ≤ R.slots) (hC : cx adE adK adV A0 s s.heap) (hS : va_S A0 s.heap H locs) (hk : k < 159) (kk : W p l e R s m args below meth c H locs cells slots Q (F0 m (pc + 3) ls (.int (f_JS_isEmpty k) :: rest))) : W p l e R s m args below meth c H locs cells slots Q (F0 m pc ls (.ref (adK k) :: rest)) :=
  vp_callSi (va_Run.run (va_runV (As := []) (rest := rest) S (c_JS_isEmpty l adE adK adV k) (cwV 0 S.2.2.2.2 (gV hTs h1 m_466 m_467 m_57 m_468) rfl rfl rfl (by decide +kernel) hR) ⟨fun a U g mk q => ⟨q.1, q.2.1.blind, q.2.2⟩, cx_recvK hC hS hk, fun U hU hW => ⟨rfl, hC.at hS no_in hU hW, hk⟩⟩ rfl rfl hsz rfl (lv_room hrm) hdg hc)) (fun r e => by subst e; exact kk)

set_option maxRecDepth 100000 in
set_option maxHeartbeats 4000000 in
theorem c_JS_length (l : Launch) (adE adK adV : Nat → Nat) (k : Nat) : Met l y_JS_length (Cond.code y_JS_length b_JS_length 1 (some .int) :: WT) ({ frames := 1, cells := 0, slots := 0, locals := 20 }) (va_Pc [.ref (adK k)] (fun U => cx adE adK adV no U U.heap ∧ k < 159)) (vp_Si (fun r => r = nI (sTx k).length)) 0 0 no := by
  refine va_MetF (cc := b_JS_length) (maxL := 1) (ret := (some .int)) (by decide +kernel) rfl ?_
  intro p e s m args below meth c s₁ B hml hv
  obtain ⟨rfl, hC, hk⟩ := hv
  have hx := B.exec
  have hb := B.bytes
  have hr := B.returns
  have hts := atoms_spec (ws := (Cond.code y_JS_length b_JS_length 1 (some .int) :: WT)) B.pre
  have hT : ∀ w ∈ WT, w.before _ s = true := fun w h => hts w (inC w h)
  have hown : s.vm.findClass R_JS = some m.cls := findClass_of_methodNamed B.named
  have hlocks := B.notSynchronized
  have hS : va_S no s.heap s.heap [] := va_S.rf
  have S : CallFix p m c b_JS_length 1 s _ (Cond.code y_JS_length b_JS_length 1 (some .int) :: WT) R_JS := ⟨hx, hb, hml, hown, hts⟩
  have hl := lv_entry ([.ref (adK k)]) (n := 1) (Nat.le_of_ble_eq_true rfl)
  rw [lg_entry_eq]
  generalize (lg_sl ([.ref (adK k)]) ++ List.replicate (1 - (lg_sl ([.ref (adK k)])).length) Slot.unset).toArray = ls at hl ⊢
  have hl : lv_has ls 1 [(0, .ref (adK k))] := hl
  refine lv_aload_n hx hb d_JS_length_0 rfl (lv_at hl 0 rfl) ?_
  refine vk_getf hx hb (hC.2.1 k hk).2.2.1 hS hown (hT _ m_1066) (fun _ h => h) d_JS_length_1 ?_
  refine va_tlen (v := nI (sTx k).length) hx hb (hC.2.1 k hk).2.2.2 hS rfl d_JS_length_4 ?_
  refine lv_aload_n hx hb d_JS_length_5 rfl (lv_at hl 0 rfl) ?_
  refine call_JS_coder S inC m_410 ⟨(Nat.le_of_ble_eq_true rfl), (Nat.le_of_ble_eq_true rfl)⟩ hl.1 (Nat.le_of_ble_eq_true rfl) d_JS_length_6 ⟨(Nat.le_of_ble_eq_true rfl), (Nat.le_of_ble_eq_true rfl)⟩ hC hS hk ?_
  refine lv_ishr hx hb d_JS_length_9 ?_
  exact W.iret (v := nI (sTx k).length >>> ((0 : Int32) &&& 31)) hx hb hr (fun t ht hW => ⟨_, rfl, sb_shr0 _, ht⟩) (fun _ h => by cases h) d_JS_length_10

theorem call_JS_length {p : Program} {l : Launch} {e : Env} {R : Room} {s : State} {m : MethodId} {args : Array Value} {below : List Frame} {meth : Method} {c : Code} {H : Heap} {locs : List Loc} {cells slots : Nat} {Q : State → Prop} {cc : ByteArray} {pc nL idx : Nat} {ls : Array Slot} {rest : List Value} {Ts : List Cond} {own : String} {adE adK adV : Nat → Nat} {A0 : Nat → Prop} {k : Nat} (S : CallFix p m c cc nL s args Ts own) (hTs : ∀ w ∈ WT, w ∈ Ts) (h1 : Cond.methodLink own idx y_JS_length ∈ WT) (hR : 1 + 1 ≤ R.frames ∧ 8 + (1 + 11) + 20 ≤ R.locals) (hsz : ls.size = nL) (hrm : (rest.map fun v => v.category).sum ≤ 8) (hdg : decode cc pc = .ok (.invokevirtual idx, 3)) (hc : cells ≤ R.cells ∧ slots ≤ R.slots) (hC : cx adE adK adV A0 s s.heap) (hS : va_S A0 s.heap H locs) (hk : k < 159) (kk : W p l e R s m args below meth c H locs cells slots Q (F0 m (pc + 3) ls (.int (nI (sTx k).length) :: rest))) : W p l e R s m args below meth c H locs cells slots Q (F0 m pc ls (.ref (adK k) :: rest)) :=
  vp_callSi (va_Run.run (va_runV (As := []) (rest := rest) S (c_JS_length l adE adK adV k) (cwV 0 S.2.2.2.2 (gV hTs h1 m_407 m_408 m_57 m_409) rfl rfl rfl (by decide +kernel) hR) ⟨fun a U g mk q => ⟨q.1, q.2.1.blind, q.2.2⟩, cx_recvK hC hS hk, fun U hU hW => ⟨rfl, hC.at hS no_in hU hW, hk⟩⟩ rfl rfl hsz rfl (lv_room hrm) hdg hc)) (fun r e => by subst e; exact kk)

set_option maxRecDepth 100000 in
set_option maxHeartbeats 4000000 in
theorem c_JP_checkIndexN (l : Launch) (adE adK adV : Nat → Nat) (i n : Nat) : Met l y_JP_checkIndex (Cond.code y_JP_checkIndex b_JP_checkIndex 3 (some .int) :: WT) ({ frames := 0, cells := 0, slots := 0, locals := 0 }) (va_Pc [.int (nI i), .int (nI n), .null] (fun U => i < n ∧ n < 2 ^ 31)) (vp_Si (fun r => r = nI i)) 0 0 no := by
  refine va_MetF (cc := b_JP_checkIndex) (maxL := 3) (ret := (some .int)) (by decide +kernel) rfl ?_
  intro p e s m args below meth c s₁ B hml hv
  obtain ⟨rfl, hi, hn⟩ := hv
  have hx := B.exec
  have hb := B.bytes
  have hr := B.returns
  have hts := atoms_spec (ws := (Cond.code y_JP_checkIndex b_JP_checkIndex 3 (some .int) :: WT)) B.pre
  have hT : ∀ w ∈ WT, w.before _ s = true := fun w h => hts w (inC w h)
  have hown : s.vm.findClass R_JP = some m.cls := findClass_of_methodNamed B.named
  have hlocks := B.notSynchronized
  have hS : va_S no s.heap s.heap [] := va_S.rf
  have S : CallFix p m c b_JP_checkIndex 3 s _ (Cond.code y_JP_checkIndex b_JP_checkIndex 3 (some .int) :: WT) R_JP := ⟨hx, hb, hml, hown, hts⟩
  have hl := lv_entry ([.int (nI i), .int (nI n), .null]) (n := 3) (Nat.le_of_ble_eq_true rfl)
  rw [lg_entry_eq]
  generalize (lg_sl ([.int (nI i), .int (nI n), .null]) ++ List.replicate (3 - (lg_sl ([.int (nI i), .int (nI n), .null])).length) Slot.unset).toArray = ls at hl ⊢
  have hl : lv_has ls 3 [(0, .int (nI i)), (1, .int (nI n)), (2, .null)] := hl
  refine lv_iload_n hx hb d_JP_checkIndex_0 rfl (lv_at hl 0 rfl) ?_
  refine lv_if_lt (tgt := 9) hx hb d_JP_checkIndex_1 (by decide) (fun h => absurd h (nI_pos (by omega))) (fun _ => ?_)
  refine lv_iload_n hx hb d_JP_checkIndex_4 rfl (lv_at hl 0 rfl) ?_
  refine lv_iload_n hx hb d_JP_checkIndex_5 rfl (lv_at hl 1 rfl) ?_
  refine lv_icmp_lt (tgt := 16) hx hb d_JP_checkIndex_6 (by decide) (fun _ => ?_) (fun h => absurd (nI_lt hi hn) h)
  refine lv_iload_n hx hb d_JP_checkIndex_16 rfl (lv_at hl 0 rfl) ?_
  exact W.iret (v := nI i) hx hb hr (fun t ht hW => ⟨_, rfl, rfl, ht⟩) (fun _ h => by cases h) d_JP_checkIndex_17

theorem call_JP_checkIndexN {p : Program} {l : Launch} {e : Env} {R : Room} {s : State} {m : MethodId} {args : Array Value} {below : List Frame} {meth : Method} {c : Code} {H : Heap} {locs : List Loc} {cells slots : Nat} {Q : State → Prop} {cc : ByteArray} {pc nL idx : Nat} {ls : Array Slot} {rest : List Value} {Ts : List Cond} {own : String} {i n : Nat} (S : CallFix p m c cc nL s args Ts own) (hTs : ∀ w ∈ WT, w ∈ Ts) (h1 : Cond.methodLink own idx y_JP_checkIndex ∈ WT) (hR : 0 + 1 ≤ R.frames ∧ 8 + (3 + 11) + 0 ≤ R.locals) (hsz : ls.size = nL) (hrm : (rest.map fun v => v.category).sum ≤ 8) (hdg : decode cc pc = .ok (.invokestatic idx, 3)) (hc : cells ≤ R.cells ∧ slots ≤ R.slots) (hi : i < n) (hn : n < 2 ^ 31) (kk : W p l e R s m args below meth c H locs cells slots Q (F0 m (pc + 3) ls (.int (nI i) :: rest))) : W p l e R s m args below meth c H locs cells slots Q (F0 m pc ls (.null :: .int (nI n) :: .int (nI i) :: rest)) :=
  vp_callSi (va_Run.run (va_runS (As := [.int (nI i), .int (nI n), .null]) (rest := rest) S (c_JP_checkIndexN l (fun _ => 0) (fun _ => 0) (fun _ => 0) i n) (va_cwS 3 S.2.2.2.2 (gS hTs h1 m_433 m_59 m_434) rfl rfl rfl (by decide +kernel) hR) ⟨fun a U g mk q => q, fun U hU hW => ⟨rfl, hi, hn⟩⟩ rfl rfl hsz rfl (lv_room hrm) hdg hc)) (fun r e => by subst e; exact kk)

set_option maxRecDepth 100000 in
set_option maxHeartbeats 4000000 in
theorem c_JP_checkIndexS (l : Launch) (adE adK adV : Nat → Nat) (i n q : Nat) : Met l y_JP_checkIndex (Cond.code y_JP_checkIndex b_JP_checkIndex 3 (some .int) :: WT) ({ frames := 0, cells := 0, slots := 0, locals := 0 }) (va_Pc [.int (nI i), .int (nI n), .ref q] (fun U => i < n ∧ n < 2 ^ 31)) (vp_Si (fun r => r = nI i)) 0 0 no := by
  refine va_MetF (cc := b_JP_checkIndex) (maxL := 3) (ret := (some .int)) (by decide +kernel) rfl ?_
  intro p e s m args below meth c s₁ B hml hv
  obtain ⟨rfl, hi, hn⟩ := hv
  have hx := B.exec
  have hb := B.bytes
  have hr := B.returns
  have hts := atoms_spec (ws := (Cond.code y_JP_checkIndex b_JP_checkIndex 3 (some .int) :: WT)) B.pre
  have hT : ∀ w ∈ WT, w.before _ s = true := fun w h => hts w (inC w h)
  have hown : s.vm.findClass R_JP = some m.cls := findClass_of_methodNamed B.named
  have hlocks := B.notSynchronized
  have hS : va_S no s.heap s.heap [] := va_S.rf
  have S : CallFix p m c b_JP_checkIndex 3 s _ (Cond.code y_JP_checkIndex b_JP_checkIndex 3 (some .int) :: WT) R_JP := ⟨hx, hb, hml, hown, hts⟩
  have hl := lv_entry ([.int (nI i), .int (nI n), .ref q]) (n := 3) (Nat.le_of_ble_eq_true rfl)
  rw [lg_entry_eq]
  generalize (lg_sl ([.int (nI i), .int (nI n), .ref q]) ++ List.replicate (3 - (lg_sl ([.int (nI i), .int (nI n), .ref q])).length) Slot.unset).toArray = ls at hl ⊢
  have hl : lv_has ls 3 [(0, .int (nI i)), (1, .int (nI n)), (2, .ref q)] := hl
  refine lv_iload_n hx hb d_JP_checkIndex_0 rfl (lv_at hl 0 rfl) ?_
  refine lv_if_lt (tgt := 9) hx hb d_JP_checkIndex_1 (by decide) (fun h => absurd h (nI_pos (by omega))) (fun _ => ?_)
  refine lv_iload_n hx hb d_JP_checkIndex_4 rfl (lv_at hl 0 rfl) ?_
  refine lv_iload_n hx hb d_JP_checkIndex_5 rfl (lv_at hl 1 rfl) ?_
  refine lv_icmp_lt (tgt := 16) hx hb d_JP_checkIndex_6 (by decide) (fun _ => ?_) (fun h => absurd (nI_lt hi hn) h)
  refine lv_iload_n hx hb d_JP_checkIndex_16 rfl (lv_at hl 0 rfl) ?_
  exact W.iret (v := nI i) hx hb hr (fun t ht hW => ⟨_, rfl, rfl, ht⟩) (fun _ h => by cases h) d_JP_checkIndex_17

theorem call_JP_checkIndexS {p : Program} {l : Launch} {e : Env} {R : Room} {s : State} {m : MethodId} {args : Array Value} {below : List Frame} {meth : Method} {c : Code} {H : Heap} {locs : List Loc} {cells slots : Nat} {Q : State → Prop} {cc : ByteArray} {pc nL idx : Nat} {ls : Array Slot} {rest : List Value} {Ts : List Cond} {own : String} {i n q : Nat} (S : CallFix p m c cc nL s args Ts own) (hTs : ∀ w ∈ WT, w ∈ Ts) (h1 : Cond.methodLink own idx y_JP_checkIndex ∈ WT) (hR : 0 + 1 ≤ R.frames ∧ 8 + (3 + 11) + 0 ≤ R.locals) (hsz : ls.size = nL) (hrm : (rest.map fun v => v.category).sum ≤ 8) (hdg : decode cc pc = .ok (.invokestatic idx, 3)) (hc : cells ≤ R.cells ∧ slots ≤ R.slots) (hi : i < n) (hn : n < 2 ^ 31) (kk : W p l e R s m args below meth c H locs cells slots Q (F0 m (pc + 3) ls (.int (nI i) :: rest))) : W p l e R s m args below meth c H locs cells slots Q (F0 m pc ls (.ref q :: .int (nI n) :: .int (nI i) :: rest)) :=
  vp_callSi (va_Run.run (va_runS (As := [.int (nI i), .int (nI n), .ref q]) (rest := rest) S (c_JP_checkIndexS l (fun _ => 0) (fun _ => 0) (fun _ => 0) i n q) (va_cwS 3 S.2.2.2.2 (gS hTs h1 m_433 m_59 m_434) rfl rfl rfl (by decide +kernel) hR) ⟨fun a U g mk q => q, fun U hU hW => ⟨rfl, hi, hn⟩⟩ rfl rfl hsz rfl (lv_room hrm) hdg hc)) (fun r e => by subst e; exact kk)

set_option maxRecDepth 100000 in
set_option maxHeartbeats 4000000 in
theorem c_JS_checkIndex (l : Launch) (adE adK adV : Nat → Nat) (i n : Nat) : Met l y_JS_checkIndex (Cond.code y_JS_checkIndex b_JS_checkIndex 2 none :: WT) ({ frames := 1, cells := 0, slots := 0, locals := 22 }) (va_Pc [.int (nI i), .int (nI n)] (fun U => cx adE adK adV no U U.heap ∧ i < n ∧ n < 2 ^ 31)) (va_Sv (fun _ => True)) 0 0 no := by
  refine va_MetF (cc := b_JS_checkIndex) (maxL := 2) (ret := none) (by decide +kernel) rfl ?_
  intro p e s m args below meth c s₁ B hml hv
  obtain ⟨rfl, hC, hi, hn⟩ := hv
  have hx := B.exec
  have hb := B.bytes
  have hr := B.returns
  have hts := atoms_spec (ws := (Cond.code y_JS_checkIndex b_JS_checkIndex 2 none :: WT)) B.pre
  have hT : ∀ w ∈ WT, w.before _ s = true := fun w h => hts w (inC w h)
  have hown : s.vm.findClass R_JS = some m.cls := findClass_of_methodNamed B.named
  have hlocks := B.notSynchronized
  have hS : va_S no s.heap s.heap [] := va_S.rf
  have S : CallFix p m c b_JS_checkIndex 2 s _ (Cond.code y_JS_checkIndex b_JS_checkIndex 2 none :: WT) R_JS := ⟨hx, hb, hml, hown, hts⟩
  have hl := lv_entry ([.int (nI i), .int (nI n)]) (n := 2) (Nat.le_of_ble_eq_true rfl)
  rw [lg_entry_eq]
  generalize (lg_sl ([.int (nI i), .int (nI n)]) ++ List.replicate (2 - (lg_sl ([.int (nI i), .int (nI n)])).length) Slot.unset).toArray = ls at hl ⊢
  have hl : lv_has ls 2 [(0, .int (nI i)), (1, .int (nI n))] := hl
  rcases hC.2.2.2.2.2 with hq | ⟨q, hq⟩
  · refine lv_iload_n hx hb d_JS_checkIndex_0 rfl (lv_at hl 0 rfl) ?_
    refine lv_iload_n hx hb d_JS_checkIndex_1 rfl (lv_at hl 1 rfl) ?_
    refine va_gets (v := .null) hx hb hq hS hown (hT _ m_430) (fun _ h => h) d_JS_checkIndex_2 ?_
    refine call_JP_checkIndexN S inC m_432 ⟨(Nat.le_of_ble_eq_true rfl), (Nat.le_of_ble_eq_true rfl)⟩ hl.1 (Nat.le_of_ble_eq_true rfl) d_JS_checkIndex_5 ⟨(Nat.le_of_ble_eq_true rfl), (Nat.le_of_ble_eq_true rfl)⟩ hi hn ?_
    refine lv_pop hx hb d_JS_checkIndex_8 rfl ?_
    exact W.vret hx hb hr (fun t ht hW => ⟨rfl, trivial, ht⟩) (fun _ h => by cases h) d_JS_checkIndex_9
  · refine lv_iload_n hx hb d_JS_checkIndex_0 rfl (lv_at hl 0 rfl) ?_
    refine lv_iload_n hx hb d_JS_checkIndex_1 rfl (lv_at hl 1 rfl) ?_
    refine va_gets (v := .ref q) hx hb hq hS hown (hT _ m_430) (fun _ h => h) d_JS_checkIndex_2 ?_
    refine call_JP_checkIndexS S inC m_432 ⟨(Nat.le_of_ble_eq_true rfl), (Nat.le_of_ble_eq_true rfl)⟩ hl.1 (Nat.le_of_ble_eq_true rfl) d_JS_checkIndex_5 ⟨(Nat.le_of_ble_eq_true rfl), (Nat.le_of_ble_eq_true rfl)⟩ hi hn ?_
    refine lv_pop hx hb d_JS_checkIndex_8 rfl ?_
    exact W.vret hx hb hr (fun t ht hW => ⟨rfl, trivial, ht⟩) (fun _ h => by cases h) d_JS_checkIndex_9

theorem call_JS_checkIndex {p : Program} {l : Launch} {e : Env} {R : Room} {s : State} {m : MethodId} {args : Array Value} {below : List Frame} {meth : Method} {c : Code} {H : Heap} {locs : List Loc} {cells slots : Nat} {Q : State → Prop} {cc : ByteArray} {pc nL idx : Nat} {ls : Array Slot} {rest : List Value} {Ts : List Cond} {own : String} {adE adK adV : Nat → Nat} {A0 : Nat → Prop} {i n : Nat} (S : CallFix p m c cc nL s args Ts own) (hTs : ∀ w ∈ WT, w ∈ Ts) (h1 : Cond.methodLink own idx y_JS_checkIndex ∈ WT) (hR : 1 + 1 ≤ R.frames ∧ 8 + (2 + 11) + 22 ≤ R.locals) (hsz : ls.size = nL) (hrm : (rest.map fun v => v.category).sum ≤ 8) (hdg : decode cc pc = .ok (.invokestatic idx, 3)) (hc : cells ≤ R.cells ∧ slots ≤ R.slots) (hC : cx adE adK adV A0 s s.heap) (hS : va_S A0 s.heap H locs) (hi : i < n) (hn : n < 2 ^ 31) (kk : W p l e R s m args below meth c H locs cells slots Q (F0 m (pc + 3) ls (rest))) : W p l e R s m args below meth c H locs cells slots Q (F0 m pc ls (.int (nI n) :: .int (nI i) :: rest)) :=
  va_csv (va_Run.run (va_runS (As := [.int (nI i), .int (nI n)]) (rest := rest) S (c_JS_checkIndex l adE adK adV i n) (va_cwS 2 S.2.2.2.2 (gS hTs h1 m_428 m_57 m_429) rfl rfl rfl (by decide +kernel) hR) ⟨fun a U g mk q => ⟨q.1, q.2.1.blind, q.2.2⟩, fun U hU hW => ⟨rfl, hC.at hS no_in hU hW, hi, hn⟩⟩ rfl rfl hsz rfl (lv_room hrm) hdg hc)) (fun _ => kk)

set_option maxRecDepth 100000 in
set_option maxHeartbeats 4000000 in
theorem c_JL_charAt (l : Launch) (adE adK adV : Nat → Nat) (k j : Nat) : Met l y_JL_charAt (Cond.code y_JL_charAt b_JL_charAt 2 (some .char) :: WT) ({ frames := 2, cells := 0, slots := 0, locals := 43 }) (va_Pc [.ref (adV k), .int (nI j)] (fun U => cx adE adK adV no U U.heap ∧ k < 159 ∧ j < (sTx k).length)) (vp_Si (fun r => r = (sTx k).getD j 0)) 0 0 no := by
  refine va_MetF (cc := b_JL_charAt) (maxL := 2) (ret := (some .char)) (by decide +kernel) rfl ?_
  intro p e s m args below meth c s₁ B hml hv
  obtain ⟨rfl, hC, hk, hj⟩ := hv
  have hx := B.exec
  have hb := B.bytes
  have hr := B.returns
  have hts := atoms_spec (ws := (Cond.code y_JL_charAt b_JL_charAt 2 (some .char) :: WT)) B.pre
  have hT : ∀ w ∈ WT, w.before _ s = true := fun w h => hts w (inC w h)
  have hown : s.vm.findClass R_JL = some m.cls := findClass_of_methodNamed B.named
  have hlocks := B.notSynchronized
  have hS : va_S no s.heap s.heap [] := va_S.rf
  have S : CallFix p m c b_JL_charAt 2 s _ (Cond.code y_JL_charAt b_JL_charAt 2 (some .char) :: WT) R_JL := ⟨hx, hb, hml, hown, hts⟩
  have hl := lv_entry ([.ref (adV k), .int (nI j)]) (n := 2) (Nat.le_of_ble_eq_true rfl)
  rw [lg_entry_eq]
  generalize (lg_sl ([.ref (adV k), .int (nI j)]) ++ List.replicate (2 - (lg_sl ([.ref (adV k), .int (nI j)])).length) Slot.unset).toArray = ls at hl ⊢
  have hl : lv_has ls 2 [(0, .ref (adV k)), (1, .int (nI j))] := hl
  have hlt := sTx_lt k hk
  refine lv_iload_n hx hb d_JL_charAt_0 rfl (lv_at hl 1 rfl) ?_
  refine lv_aload_n hx hb d_JL_charAt_1 rfl (lv_at hl 0 rfl) ?_
  refine va_tlen (v := nI (sTx k).length) hx hb (hC.2.1 k hk).2.2.2 hS rfl d_JL_charAt_2 ?_
  refine call_JS_checkIndex S inC m_427 ⟨(Nat.le_of_ble_eq_true rfl), (Nat.le_of_ble_eq_true rfl)⟩ hl.1 (Nat.le_of_ble_eq_true rfl) d_JL_charAt_3 ⟨(Nat.le_of_ble_eq_true rfl), (Nat.le_of_ble_eq_true rfl)⟩ hC hS hj (by omega) ?_
  refine lv_aload_n hx hb d_JL_charAt_6 rfl (lv_at hl 0 rfl) ?_
  refine lv_iload_n hx hb d_JL_charAt_7 rfl (lv_at hl 1 rfl) ?_
  refine va_tb (v := .int ((sTx k).getD j 0)) hx hb (hC.2.1 k hk).2.2.2 hS (vp_in_nI hj (by omega)) (by rw [nI_clamp (by omega)]) d_JL_charAt_8 ?_
  refine lv_sipush (v := 255) hx hb d_JL_charAt_9 (by decide) ?_
  refine lv_iand hx hb d_JL_charAt_12 ?_
  refine lv_i2c (v := (sTx k).getD j 0) hx hb d_JL_charAt_13 (sTx_ch k hk j hj) ?_
  exact W.zret (v := (sTx k).getD j 0) hx hb hr (sTx_na k hk j hj) (fun t ht hW => ⟨_, rfl, rfl, ht⟩) (fun _ h => by cases h) d_JL_charAt_14

theorem call_JL_charAt {p : Program} {l : Launch} {e : Env} {R : Room} {s : State} {m : MethodId} {args : Array Value} {below : List Frame} {meth : Method} {c : Code} {H : Heap} {locs : List Loc} {cells slots : Nat} {Q : State → Prop} {cc : ByteArray} {pc nL idx : Nat} {ls : Array Slot} {rest : List Value} {Ts : List Cond} {own : String} {adE adK adV : Nat → Nat} {A0 : Nat → Prop} {k j : Nat} (S : CallFix p m c cc nL s args Ts own) (hTs : ∀ w ∈ WT, w ∈ Ts) (h1 : Cond.methodLink own idx y_JL_charAt ∈ WT) (hR : 2 + 1 ≤ R.frames ∧ 8 + (2 + 11) + 43 ≤ R.locals) (hsz : ls.size = nL) (hrm : (rest.map fun v => v.category).sum ≤ 8) (hdg : decode cc pc = .ok (.invokestatic idx, 3)) (hc : cells ≤ R.cells ∧ slots ≤ R.slots) (hC : cx adE adK adV A0 s s.heap) (hS : va_S A0 s.heap H locs) (hk : k < 159) (hj : j < (sTx k).length) (kk : W p l e R s m args below meth c H locs cells slots Q (F0 m (pc + 3) ls (.int ((sTx k).getD j 0) :: rest))) : W p l e R s m args below meth c H locs cells slots Q (F0 m pc ls (.int (nI j) :: .ref (adV k) :: rest)) :=
  vp_callSi (va_Run.run (va_runS (As := [.ref (adV k), .int (nI j)]) (rest := rest) S (c_JL_charAt l adE adK adV k j) (va_cwS 2 S.2.2.2.2 (gS hTs h1 m_425 m_58 m_426) rfl rfl rfl (by decide +kernel) hR) ⟨fun a U g mk q => ⟨q.1, q.2.1.blind, q.2.2⟩, fun U hU hW => ⟨rfl, hC.at hS no_in hU hW, hk, hj⟩⟩ rfl rfl hsz rfl (lv_room hrm) hdg hc)) (fun r e => by subst e; exact kk)

set_option maxRecDepth 100000 in
set_option maxHeartbeats 4000000 in
theorem c_JS_charAt (l : Launch) (adE adK adV : Nat → Nat) (k j : Nat) : Met l y_JS_charAt (Cond.code y_JS_charAt b_JS_charAt 2 (some .char) :: WT) ({ frames := 3, cells := 0, slots := 0, locals := 64 }) (va_Pc [.ref (adK k), .int (nI j)] (fun U => cx adE adK adV no U U.heap ∧ k < 159 ∧ j < (sTx k).length)) (vp_Si (fun r => r = (sTx k).getD j 0)) 0 0 no := by
  refine va_MetF (cc := b_JS_charAt) (maxL := 2) (ret := (some .char)) (by decide +kernel) rfl ?_
  intro p e s m args below meth c s₁ B hml hv
  obtain ⟨rfl, hC, hk, hj⟩ := hv
  have hx := B.exec
  have hb := B.bytes
  have hr := B.returns
  have hts := atoms_spec (ws := (Cond.code y_JS_charAt b_JS_charAt 2 (some .char) :: WT)) B.pre
  have hT : ∀ w ∈ WT, w.before _ s = true := fun w h => hts w (inC w h)
  have hown : s.vm.findClass R_JS = some m.cls := findClass_of_methodNamed B.named
  have hlocks := B.notSynchronized
  have hS : va_S no s.heap s.heap [] := va_S.rf
  have S : CallFix p m c b_JS_charAt 2 s _ (Cond.code y_JS_charAt b_JS_charAt 2 (some .char) :: WT) R_JS := ⟨hx, hb, hml, hown, hts⟩
  have hl := lv_entry ([.ref (adK k), .int (nI j)]) (n := 2) (Nat.le_of_ble_eq_true rfl)
  rw [lg_entry_eq]
  generalize (lg_sl ([.ref (adK k), .int (nI j)]) ++ List.replicate (2 - (lg_sl ([.ref (adK k), .int (nI j)])).length) Slot.unset).toArray = ls at hl ⊢
  have hl : lv_has ls 2 [(0, .ref (adK k)), (1, .int (nI j))] := hl
  refine lv_aload_n hx hb d_JS_charAt_0 rfl (lv_at hl 0 rfl) ?_
  refine call_JS_isLatin1 S inC m_420 ⟨(Nat.le_of_ble_eq_true rfl), (Nat.le_of_ble_eq_true rfl)⟩ hl.1 (Nat.le_of_ble_eq_true rfl) d_JS_charAt_1 ⟨(Nat.le_of_ble_eq_true rfl), (Nat.le_of_ble_eq_true rfl)⟩ hC hS hk ?_
  refine lv_if_eq (tgt := 16) hx hb d_JS_charAt_4 (by decide) (fun h => absurd h (by decide)) (fun _ => ?_)
  refine lv_aload_n hx hb d_JS_charAt_7 rfl (lv_at hl 0 rfl) ?_
  refine vk_getf hx hb (hC.2.1 k hk).2.2.1 hS hown (hT _ m_1066) (fun _ h => h) d_JS_charAt_8 ?_
  refine lv_iload_n hx hb d_JS_charAt_11 rfl (lv_at hl 1 rfl) ?_
  refine call_JL_charAt S inC m_424 ⟨(Nat.le_of_ble_eq_true rfl), (Nat.le_of_ble_eq_true rfl)⟩ hl.1 (Nat.le_of_ble_eq_true rfl) d_JS_charAt_12 ⟨(Nat.le_of_ble_eq_true rfl), (Nat.le_of_ble_eq_true rfl)⟩ hC hS hk hj ?_
  exact W.zret (v := (sTx k).getD j 0) hx hb hr (sTx_na k hk j hj) (fun t ht hW => ⟨_, rfl, rfl, ht⟩) (fun _ h => by cases h) d_JS_charAt_15

theorem call_JS_charAt {p : Program} {l : Launch} {e : Env} {R : Room} {s : State} {m : MethodId} {args : Array Value} {below : List Frame} {meth : Method} {c : Code} {H : Heap} {locs : List Loc} {cells slots : Nat} {Q : State → Prop} {cc : ByteArray} {pc nL idx : Nat} {ls : Array Slot} {rest : List Value} {Ts : List Cond} {own : String} {adE adK adV : Nat → Nat} {A0 : Nat → Prop} {k j : Nat} (S : CallFix p m c cc nL s args Ts own) (hTs : ∀ w ∈ WT, w ∈ Ts) (h1 : Cond.methodLink own idx y_JS_charAt ∈ WT) (hR : 3 + 1 ≤ R.frames ∧ 8 + (2 + 11) + 64 ≤ R.locals) (hsz : ls.size = nL) (hrm : (rest.map fun v => v.category).sum ≤ 8) (hdg : decode cc pc = .ok (.invokevirtual idx, 3)) (hc : cells ≤ R.cells ∧ slots ≤ R.slots) (hC : cx adE adK adV A0 s s.heap) (hS : va_S A0 s.heap H locs) (hk : k < 159) (hj : j < (sTx k).length) (kk : W p l e R s m args below meth c H locs cells slots Q (F0 m (pc + 3) ls (.int ((sTx k).getD j 0) :: rest))) : W p l e R s m args below meth c H locs cells slots Q (F0 m pc ls (.int (nI j) :: .ref (adK k) :: rest)) :=
  vp_callSi (va_Run.run (va_runV (As := [.int (nI j)]) (rest := rest) S (c_JS_charAt l adE adK adV k j) (cwV 1 S.2.2.2.2 (gV hTs h1 m_417 m_418 m_57 m_419) rfl rfl rfl (by decide +kernel) hR) ⟨fun a U g mk q => ⟨q.1, q.2.1.blind, q.2.2⟩, cx_recvK hC hS hk, fun U hU hW => ⟨rfl, hC.at hS no_in hU hW, hk, hj⟩⟩ rfl rfl hsz rfl (lv_room hrm) hdg hc)) (fun r e => by subst e; exact kk)
end
section
abbrev wT (h0 h1 : Nat) (cC : ClassId) (f : Nat → Int32) (n : Int32) : va_W := [(h0, .inr (0, [.ref h1, .int n])), (h1, .inl (cC, 40, .inl f))]
def aT (h0 h1 : Nat) : Nat → Prop := fun q => q = h0 ∨ q = h1
/-- the row and its length are those of the text v, cut at 40 -/
def tx (f : Nat → Int32) (n : Int32) (v : List Int32) : Prop := n = nI (min v.length 40) ∧ ∀ j, j < min v.length 40 → f j = v.getD j 0
def tw (dC : Nat → ClassId) (dI : Nat → Nat → Nat) (cC : ClassId) (h0 h1 : Nat) (v : List Int32) (H : Heap) : Prop := ∃ (f : Nat → Int32) (n : Int32), tx f n v ∧ va_P (dC, dI) classes (wT h0 h1 cC f n) H
def twU (adE adK adV : Nat → Nat) (dC : Nat → ClassId) (dI : Nat → Nat → Nat) (cC : ClassId) (h0 h1 : Nat) (v : List Int32) (U : State) : Prop := va_K (dC, dI) classes [(cC, .char)] U ∧ h0 ≠ h1 ∧ cx adE adK adV (aT h0 h1) U U.heap ∧ tw dC dI cC h0 h1 v U.heap
theorem wT_D {h0 h1 : Nat} (hne : h0 ≠ h1) {cC : ClassId} {f : Nat → Int32} {n : Int32} : va_D (aT h0 h1) (wT h0 h1 cC f n) := by
  refine ⟨fun i j p q hi hj e => ?_, fun k q hk => ?_⟩
  · match i, j, hi, hj with
    | 0, 0, _, _ => rfl
    | 1, 1, _, _ => rfl
    | 0, 1, hi, hj => cases hi; cases hj; exact absurd e hne
    | 1, 0, hi, hj => cases hi; cases hj; exact absurd e.symm hne
    | i + 2, _, hi, _ => simp [wT] at hi
    | 0, j + 2, _, hj => simp [wT] at hj
    | 1, j + 2, _, hj => simp [wT] at hj
  · match k, hk with
    | 0, hk => cases hk; exact Or.inl rfl
    | 1, hk => cases hk; exact Or.inr rfl
    | k + 2, hk => simp [wT] at hk
theorem tw_recv {dC : Nat → ClassId} {dI : Nat → Nat → Nat} {cC : ClassId} {h0 h1 : Nat} {v : List Int32} {s : State} {H : Heap} (hK : va_K (dC, dI) classes [(cC, .char)] s) (hw : tw dC dI cC h0 h1 v H) : ∃ cell : Cell, H[h0]? = some cell ∧ cell.vm.isStatics = false ∧ s.vm.findClass R_T = some cell.cls := by
  obtain ⟨f, n, -, hP⟩ := hw
  exact va_recv hK hP (ci := 0) (q0 := 0) rfl rfl
theorem twU.blind {adE adK adV : Nat → Nat} {dC : Nat → ClassId} {dI : Nat → Nat → Nat} {cC : ClassId} {h0 h1 : Nat} {v : List Int32} {U : State} {g : JFrame} {mk : MethodId} {a : Array Value} (h : twU adE adK adV dC dI cC h0 h1 v U) : twU adE adK adV dC dI cC h0 h1 v (U.calling g mk a) := ⟨va_K.moved (u := U) (U := U.calling g mk a) (Vm.Alike.refl U.vm) h.1, h.2.1, h.2.2.1.blind, h.2.2.2⟩
theorem twU.at {adE adK adV : Nat → Nat} {dC : Nat → ClassId} {dI : Nat → Nat → Nat} {cC : ClassId} {h0 h1 : Nat} {v : List Int32} {A0 : Nat → Prop} {s U : State} {H : Heap} {locs : List Loc} (hK : va_K (dC, dI) classes [(cC, .char)] s) (hne : h0 ≠ h1) (hC : cx adE adK adV A0 s s.heap) (hS : va_S A0 s.heap H locs) (hA : ∀ q, aT h0 h1 q → A0 q) (hw : tw dC dI cC h0 h1 v H) (hU : U.heap = H) (hW : s.WarmedH U.vm) : twU adE adK adV dC dI cC h0 h1 v U := ⟨va_K.moved hW.alike hK, hne, hC.at hS hA hU hW, by rw [hU]; exact hw⟩
theorem tw_eq {dC : Nat → ClassId} {dI : Nat → Nat → Nat} {cC : ClassId} {h0 h1 : Nat} {v v' : List Int32} {H : Heap} (e : v = v') (h : tw dC dI cC h0 h1 v H) : tw dC dI cC h0 h1 v' H := e ▸ h
theorem gd_l {v w : List Int32} {j : Nat} (h : j < v.length) : (v ++ w).getD j 0 = v.getD j 0 := by rw [List.getD_eq_getElem?_getD, List.getD_eq_getElem?_getD, List.getElem?_append_left h]
theorem gd_r {v : List Int32} {x : Int32} : (v ++ [x]).getD v.length 0 = x := by rw [List.getD_eq_getElem?_getD, List.getElem?_append_right (Nat.le_refl _), Nat.sub_self]; rfl
theorem tw_at {dC : Nat → ClassId} {dI : Nat → Nat → Nat} {cC : ClassId} {h0 h1 : Nat} {v : List Int32} {H : Heap} {t : State} (ht : t.heap = H) (h : tw dC dI cC h0 h1 v H) : tw dC dI cC h0 h1 v t.heap := by rw [ht]; exact h
theorem tx_full {f : Nat → Int32} {n : Int32} {v : List Int32} (h : tx f n v) (hl : 40 ≤ v.length) (x : Int32) : tx f n (v ++ [x]) := by
  obtain ⟨h1, h2⟩ := h
  refine ⟨by rw [h1, List.length_append]; congr 1; omega, fun j hj => ?_⟩
  rw [List.length_append] at hj
  rw [h2 j (by omega), gd_l (by omega)]
theorem tx_put {f : Nat → Int32} {n : Int32} {v : List Int32} (h : tx f n v) (hl : v.length < 40) (x : Int32) : tx (upd f n.toNatClampNeg x) (n + 1) (v ++ [x]) := by
  obtain ⟨h1, h2⟩ := h
  have e : min v.length 40 = v.length := by omega
  have e2 : min (v ++ [x]).length 40 = v.length + 1 := by rw [List.length_append, List.length_singleton]; omega
  rw [e] at h1 h2
  have hc : n.toNatClampNeg = v.length := by rw [h1]; exact nI_clamp (by omega)
  refine ⟨by rw [e2, h1]; exact nI_1 _, fun j hj => ?_⟩
  rw [e2] at hj
  rw [hc]
  by_cases hj2 : j = v.length
  · subst hj2
    rw [pk_us, gd_r]
  · rw [pk_un hj2, h2 j (by omega), gd_l (by omega)]

set_option maxRecDepth 100000 in
set_option maxHeartbeats 4000000 in
theorem c_T_put (l : Launch) (adE adK adV : Nat → Nat) (dC : Nat → ClassId) (dI : Nat → Nat → Nat) (cC : ClassId) (h0 h1 : Nat) (v : List Int32) (x : Int32) : Met l y_T_put (Cond.code y_T_put b_T_put 2 none :: WT) ({ frames := 0, cells := 0, slots := 0, locals := 0 }) (va_Pc [.ref h0, .int x] (fun U => twU adE adK adV dC dI cC h0 h1 v U ∧ vp_nar .char x = x)) (va_Qv (fun _ : Unit => True) (fun _ t => tw dC dI cC h0 h1 (v ++ [x]) t.heap) (aT h0 h1)) 0 0 (aT h0 h1) := by
  refine va_MetF (cc := b_T_put) (maxL := 2) (ret := none) (by decide +kernel) rfl ?_
  intro p e s m args below meth c s₁ B hml hv
  obtain ⟨rfl, ⟨hK, hne, hC, hw⟩, hcc⟩ := hv
  have hx := B.exec
  have hb := B.bytes
  have hr := B.returns
  have hts := atoms_spec (ws := (Cond.code y_T_put b_T_put 2 none :: WT)) B.pre
  have hT : ∀ w ∈ WT, w.before _ s = true := fun w h => hts w (inC w h)
  have hown : s.vm.findClass R_T = some m.cls := findClass_of_methodNamed B.named
  have hlocks := B.notSynchronized
  have hS : va_S (aT h0 h1) s.heap s.heap [] := va_S.rf
  have S : CallFix p m c b_T_put 2 s _ (Cond.code y_T_put b_T_put 2 none :: WT) R_T := ⟨hx, hb, hml, hown, hts⟩
  have hl := lv_entry ([.ref h0, .int x]) (n := 2) (Nat.le_of_ble_eq_true rfl)
  rw [lg_entry_eq]
  generalize (lg_sl ([.ref h0, .int x]) ++ List.replicate (2 - (lg_sl ([.ref h0, .int x])).length) Slot.unset).toArray = ls at hl ⊢
  have hl : lv_has ls 2 [(0, .ref h0), (1, .int x)] := hl
  have hA : ∀ q, aT h0 h1 q → aT h0 h1 q := fun _ h => h
  obtain ⟨f, n, ht0, hP⟩ := hw
  have hn := ht0.1
  have hD : va_D (aT h0 h1) (wT h0 h1 cC f n) := wT_D hne
  refine lv_aload_n hx hb d_T_put_0 rfl (lv_at hl 0 rfl) ?_
  refine va_get (D := (dC, dI)) (ci := 0) (v := .int n) (C := R_T) (T := F_T) (N := 2) hx hb hT i_T hown hK hP 0 rfl rfl 1 (by decide) (hT _ m_82) (fun _ h9 => h9) rfl d_T_put_1 ?_
  refine lv_if_lt (tgt := 39) hx hb d_T_put_4 (by decide) (fun h => absurd h (by rw [hn]; exact nI_pos (by omega))) (fun _ => ?_)
  refine lv_aload_n hx hb d_T_put_7 rfl (lv_at hl 0 rfl) ?_
  refine va_get (D := (dC, dI)) (ci := 0) (v := .int n) (C := R_T) (T := F_T) (N := 2) hx hb hT i_T hown hK hP 0 rfl rfl 1 (by decide) (hT _ m_82) (fun _ h9 => h9) rfl d_T_put_8 ?_
  refine lv_aload_n hx hb d_T_put_11 rfl (lv_at hl 0 rfl) ?_
  refine va_get (D := (dC, dI)) (ci := 0) (v := .ref h1) (C := R_T) (T := F_T) (N := 2) hx hb hT i_T hown hK hP 0 rfl rfl 0 (by decide) (hT _ m_81) (fun _ h9 => h9) rfl d_T_put_12 ?_
  refine va_alen (D := (dC, dI)) (v := nI 40) hx hb hK hP 1 0 rfl rfl rfl d_T_put_15 ?_
  refine lv_icmp_ge (tgt := 39) hx hb d_T_put_16 (by decide) (fun h => ?_) (fun h => ?_)
  · have hl40 : 40 ≤ v.length := by rw [hn] at h; have := (nI_leI (by omega) (by omega)).mp h; omega
    exact W.vret hx hb hr (fun t ht hW => ⟨⟨(), rfl, trivial, tw_at ht (⟨f, n, tx_full ht0 hl40 x, hP⟩)⟩, hS.F ht⟩) hS.2.2 d_T_put_39
  · have hl40 : v.length < 40 := by rw [hn] at h; have := mt (nI_leI (a := 40) (b := min v.length 40) (by omega) (by omega)).mpr h; omega
    refine lv_aload_n hx hb d_T_put_19 rfl (lv_at hl 0 rfl) ?_
    refine va_get (D := (dC, dI)) (ci := 0) (v := .ref h1) (C := R_T) (T := F_T) (N := 2) hx hb hT i_T hown hK hP 0 rfl rfl 0 (by decide) (hT _ m_81) (fun _ h9 => h9) rfl d_T_put_20 ?_
    refine lv_aload_n hx hb d_T_put_23 rfl (lv_at hl 0 rfl) ?_
    refine va_get (D := (dC, dI)) (ci := 0) (v := .int n) (C := R_T) (T := F_T) (N := 2) hx hb hT i_T hown hK hP 0 rfl rfl 1 (by decide) (hT _ m_82) (fun _ h9 => h9) rfl d_T_put_24 ?_
    refine lv_iload_n hx hb d_T_put_27 rfl (lv_at hl 1 rfl) ?_
    refine va_cast (D := (dC, dI)) hx hb hK hP hD hS 1 0 rfl rfl (by rw [hn]; exact vp_in_nI (by omega) (by omega)) d_T_put_28 (fun H locs hP hD hS => ?_)
    rw [hcc] at hP hD
    have hP : va_P (dC, dI) classes (wT h0 h1 cC (upd f n.toNatClampNeg x) n) H := hP
    have hD : va_D (aT h0 h1) (wT h0 h1 cC (upd f n.toNatClampNeg x) n) := hD
    refine lv_aload_n hx hb d_T_put_29 rfl (lv_at hl 0 rfl) ?_
    refine lv_dup hx hb d_T_put_30 rfl ?_
    refine va_get (D := (dC, dI)) (ci := 0) (v := .int n) (C := R_T) (T := F_T) (N := 2) hx hb hT i_T hown hK hP 0 rfl rfl 1 (by decide) (hT _ m_82) (fun _ h9 => h9) rfl d_T_put_31 ?_
    refine lv_iconst (v := 1) hx hb d_T_put_34 (by decide) ?_
    refine lv_iadd hx hb d_T_put_35 ?_
    refine va_put (D := (dC, dI)) (ci := 0) (v := .int (n + 1)) (ty := .int) (C := R_T) (T := F_T) (N := 2) hx hb hT i_T ft_T ft_T_ok n_T hown hK hP hD hS 0 rfl rfl 1 (by decide) (hT _ m_82) (fun _ h9 => h9) rfl (by decide +kernel) rfl rfl (Nat.le_of_ble_eq_true rfl) d_T_put_36 (fun H locs hP hD hS => ?_)
    exact W.vret hx hb hr (fun t ht hW => ⟨⟨(), rfl, trivial, tw_at ht (⟨_, _, tx_put ht0 hl40 x, hP⟩)⟩, hS.F ht⟩) hS.2.2 d_T_put_39

theorem call_T_put {p : Program} {l : Launch} {e : Env} {R : Room} {s : State} {m : MethodId} {args : Array Value} {below : List Frame} {meth : Method} {c : Code} {H : Heap} {locs : List Loc} {cells slots : Nat} {Q : State → Prop} {cc : ByteArray} {pc nL idx : Nat} {ls : Array Slot} {rest : List Value} {Ts : List Cond} {own : String} {adE adK adV : Nat → Nat} {A0 : Nat → Prop} {dC : Nat → ClassId} {dI : Nat → Nat → Nat} {cC : ClassId} {h0 h1 : Nat} {v : List Int32} {x : Int32} (S : CallFix p m c cc nL s args Ts own) (hTs : ∀ w ∈ WT, w ∈ Ts) (h1' : Cond.methodLink own idx y_T_put ∈ WT) (hR : 0 + 1 ≤ R.frames ∧ 8 + (2 + 11) + 0 ≤ R.locals) (hsz : ls.size = nL) (hrm : (rest.map fun v => v.category).sum ≤ 8) (hdg : decode cc pc = .ok (.invokevirtual idx, 3)) (hc : cells ≤ R.cells ∧ slots ≤ R.slots) (hK : va_K (dC, dI) classes [(cC, .char)] s) (hne : h0 ≠ h1) (hC : cx adE adK adV A0 s s.heap) (hS : va_S A0 s.heap H locs) (hA : ∀ q, aT h0 h1 q → A0 q) (hw : tw dC dI cC h0 h1 v H) (hcc : vp_nar .char x = x) (kk : ∀ (H1 : Heap) (locs1 : List Loc), tw dC dI cC h0 h1 (v ++ [x]) H1 → va_S A0 s.heap H1 locs1 → (H.size ≤ H1.size ∧ ∀ q : Nat, q < H.size → ¬ aT h0 h1 q → H1[q]? = H[q]?) → W p l e R s m args below meth c H1 locs1 cells slots Q (F0 m (pc + 3) ls rest)) : W p l e R s m args below meth c H locs cells slots Q (F0 m pc ls (.int x :: .ref h0 :: rest)) :=
  va_callv (va_runV (As := [.int x]) (rest := rest) S (c_T_put l adE adK adV dC dI cC h0 h1 v x) (cwV 1 S.2.2.2.2 (gV hTs h1' m_456 m_2 m_50 m_457) rfl rfl rfl (by decide +kernel) hR) ⟨fun a U g mk q => ⟨q.1, ⟨q.2.1.blind, q.2.2⟩⟩, tw_recv hK hw, fun U hU hW => ⟨rfl, ⟨twU.at hK hne hC hS hA hw hU hW, hcc⟩⟩⟩ rfl rfl hsz rfl (lv_room hrm) hdg hc) hS (fun q _ h => hA q h) hA (fun u t H1 locs1 ht hvm hp hB hz hk hS1 => kk H1 locs1 (by rw [← ht]; exact hB) hS1 ⟨hz, hk⟩)

theorem sTx_vn : ∀ k, k < 159 → ∀ j, j < (sTx k).length → vp_nar .char ((sTx k).getD j 0) = (sTx k).getD j 0 := by decide +kernel
theorem tk_succ {l : List Int32} {i : Nat} (h : i < l.length) : l.take (i + 1) = l.take i ++ [l.getD i 0] := by
  rw [List.take_succ_eq_append_getElem h, List.getD_eq_getElem?_getD, List.getElem?_eq_getElem h]; rfl
theorem nI_inc (i : Nat) : nI i + Int32.ofInt 1 = nI (i + 1) := nI_1 i

set_option maxRecDepth 100000 in
set_option maxHeartbeats 4000000 in
theorem lp_T_word {p : Program} {l : Launch} {e : Env} {R : Room} {s : State} {m : MethodId} {args : Array Value} {below : List Frame} {meth : Method} {c : Code} {cells slots : Nat} {Q : State → Prop} {Ts : List Cond} {adE adK adV : Nat → Nat} {A0 : Nat → Prop} {dC : Nat → ClassId} {dI : Nat → Nat → Nat} {cC : ClassId} {h0 h1 : Nat} {v : List Int32} {k : Nat} (S : CallFix p m c b_T_word 3 s args Ts R_T) (hTs : ∀ w ∈ WT, w ∈ Ts) (hfr : 4 ≤ R.frames) (hlo : 85 ≤ R.locals) (hc : cells ≤ R.cells ∧ slots ≤ R.slots) (hK : va_K (dC, dI) classes [(cC, .char)] s) (hne : h0 ≠ h1) (hC : cx adE adK adV A0 s s.heap) (hA : ∀ q, aT h0 h1 q → A0 q) (hk : k < 159)
    (kk : ∀ (H : Heap) (locs : List Loc) (ls : Array Slot), tw dC dI cC h0 h1 (v ++ sTx k) H → va_S A0 s.heap H locs → W p l e R s m args below meth c H locs cells slots Q (F0 m 25 ls [])) :
    ∀ (n i : Nat), i + n = (sTx k).length → ∀ (H : Heap) (locs : List Loc) (ls : Array Slot), tw dC dI cC h0 h1 (v ++ (sTx k).take i) H → va_S A0 s.heap H locs → lv_has ls 3 [(2, .int (nI i)), (0, .ref h0), (1, .ref (adK k))] → W p l e R s m args below meth c H locs cells slots Q (F0 m 2 ls []) := by
  have hlt := sTx_lt k hk
  have hx := S.1
  have hb := S.2.1
  have hown := S.2.2.2.1
  intro n
  induction n with
  | zero =>
    intro i hi H locs ls hw hS hl
    refine lv_iload_n hx hb d_T_word_2 rfl (lv_at hl 0 rfl) ?_
    refine lv_aload_n hx hb d_T_word_3 rfl (lv_at hl 2 rfl) ?_
    refine call_JS_length S hTs m_406 ⟨by omega, by omega⟩ hl.1 (Nat.le_of_ble_eq_true rfl) d_T_word_4 hc hC hS hk ?_
    refine lv_icmp_ge (tgt := 25) hx hb d_T_word_7 (by decide) (fun _ => ?_) (fun h => absurd (nI_le (by omega) (by omega)) h)
    exact kk H locs ls (tw_eq (by rw [List.take_of_length_le (by omega)]) hw) hS
  | succ n ih =>
    intro i hi H locs ls hw hS hl
    have hin : i < (sTx k).length := by omega
    refine lv_iload_n hx hb d_T_word_2 rfl (lv_at hl 0 rfl) ?_
    refine lv_aload_n hx hb d_T_word_3 rfl (lv_at hl 2 rfl) ?_
    refine call_JS_length S hTs m_406 ⟨by omega, by omega⟩ hl.1 (Nat.le_of_ble_eq_true rfl) d_T_word_4 hc hC hS hk ?_
    refine lv_icmp_ge (tgt := 25) hx hb d_T_word_7 (by decide) (fun h => absurd h (nI_ge (by omega) (by omega))) (fun _ => ?_)
    refine lv_aload_n hx hb d_T_word_10 rfl (lv_at hl 1 rfl) ?_
    refine lv_aload_n hx hb d_T_word_11 rfl (lv_at hl 2 rfl) ?_
    refine lv_iload_n hx hb d_T_word_12 rfl (lv_at hl 0 rfl) ?_
    refine call_JS_charAt S hTs m_416 ⟨by omega, by omega⟩ hl.1 (Nat.le_of_ble_eq_true rfl) d_T_word_13 hc hC hS hk hin ?_
    refine call_T_put S hTs m_454 ⟨by omega, by omega⟩ hl.1 (Nat.le_of_ble_eq_true rfl) d_T_word_16 hc hK hne hC hS hA hw (sTx_vn k hk i hin) (fun H locs hw hS _ => ?_)
    refine lv_iinc (v := nI (i + 1)) (lv' := [(2, .int (nI (i + 1))), (0, .ref h0), (1, .ref (adK k))]) hx hb d_T_word_19 hl (k := 0) rfl (nI_inc i) (by decide) rfl (fun ls hl => ?_)
    refine lv_goto (tgt := 2) hx hb d_T_word_22 (by decide) ?_
    exact ih (i + 1) (by omega) H locs ls (tw_eq (by rw [tk_succ hin, List.append_assoc]) hw) hS hl

set_option maxRecDepth 100000 in
set_option maxHeartbeats 4000000 in
theorem c_T_word (l : Launch) (adE adK adV : Nat → Nat) (dC : Nat → ClassId) (dI : Nat → Nat → Nat) (cC : ClassId) (h0 h1 : Nat) (v : List Int32) (k : Nat) : Met l y_T_word (Cond.code y_T_word b_T_word 3 none :: WT) ({ frames := 4, cells := 0, slots := 0, locals := 85 }) (va_Pc [.ref h0, .ref (adK k)] (fun U => twU adE adK adV dC dI cC h0 h1 v U ∧ k < 159)) (va_Qv (fun _ : Unit => True) (fun _ t => tw dC dI cC h0 h1 (v ++ sTx k) t.heap) (aT h0 h1)) 0 0 (aT h0 h1) := by
  refine va_MetF (cc := b_T_word) (maxL := 3) (ret := none) (by decide +kernel) rfl ?_
  intro p e s m args below meth c s₁ B hml hv
  obtain ⟨rfl, ⟨hK, hne, hC, hw⟩, hk⟩ := hv
  have hx := B.exec
  have hb := B.bytes
  have hr := B.returns
  have hts := atoms_spec (ws := (Cond.code y_T_word b_T_word 3 none :: WT)) B.pre
  have hT : ∀ w ∈ WT, w.before _ s = true := fun w h => hts w (inC w h)
  have hown : s.vm.findClass R_T = some m.cls := findClass_of_methodNamed B.named
  have hlocks := B.notSynchronized
  have hS : va_S (aT h0 h1) s.heap s.heap [] := va_S.rf
  have S : CallFix p m c b_T_word 3 s _ (Cond.code y_T_word b_T_word 3 none :: WT) R_T := ⟨hx, hb, hml, hown, hts⟩
  have hl := lv_entry ([.ref h0, .ref (adK k)]) (n := 3) (Nat.le_of_ble_eq_true rfl)
  rw [lg_entry_eq]
  generalize (lg_sl ([.ref h0, .ref (adK k)]) ++ List.replicate (3 - (lg_sl ([.ref h0, .ref (adK k)])).length) Slot.unset).toArray = ls at hl ⊢
  have hl : lv_has ls 3 [(0, .ref h0), (1, .ref (adK k))] := hl
  have hA : ∀ q, aT h0 h1 q → aT h0 h1 q := fun _ h => h
  refine lv_iconst (v := 0) hx hb d_T_word_0 (by decide) ?_
  refine lv_istore_n (lv' := [(2, .int 0), (0, .ref h0), (1, .ref (adK k))]) hx hb d_T_word_1 rfl hl (by decide) rfl (fun ls hl => ?_)
  refine lp_T_word S inC (Nat.le_of_ble_eq_true rfl) (Nat.le_of_ble_eq_true rfl) ⟨(Nat.le_of_ble_eq_true rfl), (Nat.le_of_ble_eq_true rfl)⟩ hK hne hC hA hk (fun H locs ls hw hS => ?_) (sTx k).length 0 (by omega) _ _ ls (tw_eq (by rw [List.take_zero, List.append_nil]) hw) hS hl
  exact W.vret hx hb hr (fun t ht hW => ⟨⟨(), rfl, trivial, tw_at ht (hw)⟩, hS.F ht⟩) hS.2.2 d_T_word_25

theorem call_T_word {p : Program} {l : Launch} {e : Env} {R : Room} {s : State} {m : MethodId} {args : Array Value} {below : List Frame} {meth : Method} {c : Code} {H : Heap} {locs : List Loc} {cells slots : Nat} {Q : State → Prop} {cc : ByteArray} {pc nL idx : Nat} {ls : Array Slot} {rest : List Value} {Ts : List Cond} {own : String} {adE adK adV : Nat → Nat} {A0 : Nat → Prop} {dC : Nat → ClassId} {dI : Nat → Nat → Nat} {cC : ClassId} {h0 h1 : Nat} {v : List Int32} {k : Nat} (S : CallFix p m c cc nL s args Ts own) (hTs : ∀ w ∈ WT, w ∈ Ts) (h1' : Cond.methodLink own idx y_T_word ∈ WT) (hR : 4 + 1 ≤ R.frames ∧ 8 + (3 + 11) + 85 ≤ R.locals) (hsz : ls.size = nL) (hrm : (rest.map fun v => v.category).sum ≤ 8) (hdg : decode cc pc = .ok (.invokevirtual idx, 3)) (hc : cells ≤ R.cells ∧ slots ≤ R.slots) (hK : va_K (dC, dI) classes [(cC, .char)] s) (hne : h0 ≠ h1) (hC : cx adE adK adV A0 s s.heap) (hS : va_S A0 s.heap H locs) (hA : ∀ q, aT h0 h1 q → A0 q) (hw : tw dC dI cC h0 h1 v H) (hk : k < 159) (kk : ∀ (H1 : Heap) (locs1 : List Loc), tw dC dI cC h0 h1 (v ++ sTx k) H1 → va_S A0 s.heap H1 locs1 → (H.size ≤ H1.size ∧ ∀ q : Nat, q < H.size → ¬ aT h0 h1 q → H1[q]? = H[q]?) → W p l e R s m args below meth c H1 locs1 cells slots Q (F0 m (pc + 3) ls rest)) : W p l e R s m args below meth c H locs cells slots Q (F0 m pc ls (.ref (adK k) :: .ref h0 :: rest)) :=
  va_callv (va_runV (As := [.ref (adK k)]) (rest := rest) S (c_T_word l adE adK adV dC dI cC h0 h1 v k) (cwV 1 S.2.2.2.2 (gV hTs h1' m_404 m_1 m_50 m_405) rfl rfl rfl (by decide +kernel) hR) ⟨fun a U g mk q => ⟨q.1, ⟨q.2.1.blind, q.2.2⟩⟩, tw_recv hK hw, fun U hU hW => ⟨rfl, ⟨twU.at hK hne hC hS hA hw hU hW, hk⟩⟩⟩ rfl rfl hsz rfl (lv_room hrm) hdg hc) hS (fun q _ h => hA q h) hA (fun u t H1 locs1 ht hvm hp hB hz hk hS1 => kk H1 locs1 (by rw [← ht]; exact hB) hS1 ⟨hz, hk⟩)

def dch (v : Int64) (k : Nat) : Int32 := ((48 + (v / lN (10 ^ k) - v / lN (10 ^ k) / 10 * 10)).toInt32.toUInt32 % 65536).toInt32
def dgs : Nat → Int64 → List Int32
  | 0, _ => []
  | k + 1, v => (if lN (10 ^ k) ≤ v ∨ k = 0 then [dch v k] else []) ++ dgs k v
def f_T_digits (v : Int64) : List Int32 := dgs 10 v
theorem p10 {k : Nat} (h : k ≤ 9) : 0 < 10 ^ k ∧ 10 ^ k < 2 ^ 31 := ⟨Nat.pow_pos (by decide), Nat.lt_of_le_of_lt (Nat.pow_le_pow_right (by decide) h) (by decide)⟩
theorem p10d (k : Nat) : 10 ^ (k + 1) / 10 = 10 ^ k := by rw [Nat.pow_succ]; exact Nat.mul_div_cancel _ (by decide)

set_option maxRecDepth 100000 in
set_option maxHeartbeats 4000000 in
theorem lp_T_digits {p : Program} {l : Launch} {e : Env} {R : Room} {s : State} {m : MethodId} {args : Array Value} {below : List Frame} {meth : Method} {c : Code} {cells slots : Nat} {Q : State → Prop} {Ts : List Cond} {adE adK adV : Nat → Nat} {A0 : Nat → Prop} {dC : Nat → ClassId} {dI : Nat → Nat → Nat} {cC : ClassId} {h0 h1 : Nat} {v : List Int32} {x : Int64} (S : CallFix p m c b_T_digits 5 s args Ts R_T) (hTs : ∀ w ∈ WT, w ∈ Ts) (hT : ∀ w ∈ WT, w.before args s = true) (hfr : 1 ≤ R.frames) (hlo : 21 ≤ R.locals) (hc : cells ≤ R.cells ∧ slots ≤ R.slots) (hK : va_K (dC, dI) classes [(cC, .char)] s) (hne : h0 ≠ h1) (hC : cx adE adK adV A0 s s.heap) (hA : ∀ q, aT h0 h1 q → A0 q)
    (kk : ∀ (H : Heap) (locs : List Loc) (ls : Array Slot), tw dC dI cC h0 h1 (v ++ f_T_digits x) H → va_S A0 s.heap H locs → W p l e R s m args below meth c H locs cells slots Q (F0 m 48 ls [])) :
    ∀ (r : Nat), r ≤ 10 → ∀ (z : List Int32), z ++ dgs r x = v ++ f_T_digits x → ∀ (H : Heap) (locs : List Loc) (ls : Array Slot), tw dC dI cC h0 h1 z H → va_S A0 s.heap H locs → lv_has ls 5 [(3, .long (lN (10 ^ r / 10))), (0, .ref h0), (1, .long x)] → W p l e R s m args below meth c H locs cells slots Q (F0 m 4 ls []) := by
  have hx := S.1
  have hb := S.2.1
  have hown := S.2.2.2.1
  intro r
  induction r with
  | zero =>
    intro _ z hz H locs ls hw hS hl
    refine lv_lload_n hx hb d_T_digits_4 rfl (lv_at hl 0 rfl) ?_
    refine lv_lconst (v := 0) hx hb d_T_digits_5 (by decide) ?_
    refine W.lcmp hx hb d_T_digits_6 ?_
    refine lv_if_le (tgt := 48) hx hb d_T_digits_7 (by decide) (fun _ => ?_) (fun h => absurd (by decide) h)
    exact kk H locs ls (tw_eq (by rw [← hz, dgs, List.append_nil]) hw) hS
  | succ k ih =>
    intro hr z hz H locs ls hw hS hl
    obtain ⟨hp0, hp1⟩ := p10 (k := k) (by omega)
    rw [p10d] at hl
    have nx : ∀ (z' : List Int32), z' ++ dgs k x = v ++ f_T_digits x → ∀ (H : Heap) (locs : List Loc), tw dC dI cC h0 h1 z' H → va_S A0 s.heap H locs → W p l e R s m args below meth c H locs cells slots Q (F0 m 39 ls []) := by
      intro z' hz' H locs hw hS
      refine lv_lload_n hx hb d_T_digits_39 rfl (lv_at hl 0 rfl) ?_
      refine lv_ldc2 (v := 10) hx hb hown (hT _ m_525) d_T_digits_40 ?_
      refine lv_ldiv hx hb d_T_digits_43 (by decide) ?_
      refine lv_topl (fun y ey => ?_)
      have ey2 : y = lN (10 ^ k / 10) := by rw [ey]; exact pk_lDiv (a := 10 ^ k) (b := 10) (by omega) (by decide) (by decide)
      refine lv_lstore_n (lv' := [(3, .long y), (0, .ref h0), (1, .long x)]) hx hb d_T_digits_44 rfl hl (by decide) rfl (fun ls hl => ?_)
      refine lv_goto (tgt := 4) hx hb d_T_digits_45 (by decide) ?_
      rw [ey2] at hl
      exact ih (by omega) z' hz' H locs ls hw hS hl
    have pr : (lN (10 ^ k) ≤ x ∨ k = 0) → W p l e R s m args below meth c H locs cells slots Q (F0 m 22 ls []) := by
      intro hcnd
      refine lv_aload_n hx hb d_T_digits_22 rfl (lv_at hl 1 rfl) ?_
      refine lv_ldc2 (v := 48) hx hb hown (hT _ m_524) d_T_digits_23 ?_
      refine lv_lload_n hx hb d_T_digits_26 rfl (lv_at hl 2 rfl) ?_
      refine lv_lload_n hx hb d_T_digits_27 rfl (lv_at hl 0 rfl) ?_
      refine lv_ldiv hx hb d_T_digits_28 (fun h => absurd ((pk_lEQ (a := 10 ^ k) (b := 0) (by omega) (by decide)).mp h) (by omega)) ?_
      refine lv_ldc2 (v := 10) hx hb hown (hT _ m_525) d_T_digits_29 ?_
      refine lv_lrem hx hb d_T_digits_32 (by decide) ?_
      refine lv_ladd hx hb d_T_digits_33 ?_
      refine lv_l2i (v := (48 + (x / lN (10 ^ k) - x / lN (10 ^ k) / 10 * 10)).toInt32) hx hb d_T_digits_34 rfl ?_
      refine lv_i2c (v := dch x k) hx hb d_T_digits_35 rfl ?_
      refine call_T_put S hTs m_454 ⟨by omega, by omega⟩ hl.1 (Nat.le_of_ble_eq_true rfl) d_T_digits_36 hc hK hne hC hS hA hw (pk_vc _) (fun H locs hw hS _ => ?_)
      exact nx _ (by rw [← hz, dgs, if_pos hcnd, List.append_assoc]) H locs hw hS
    refine lv_lload_n hx hb d_T_digits_4 rfl (lv_at hl 0 rfl) ?_
    refine lv_lconst (v := 0) hx hb d_T_digits_5 (by decide) ?_
    refine W.lcmp hx hb d_T_digits_6 ?_
    refine lv_if_le (tgt := 48) hx hb d_T_digits_7 (by decide) (fun h => absurd ((pk_lLE (a := 10 ^ k) (b := 0) (by omega) (by decide)).mp ((lg_cmp_le _ _).mp h)) (by omega)) (fun _ => ?_)
    refine lv_lload_n hx hb d_T_digits_10 rfl (lv_at hl 2 rfl) ?_
    refine lv_lload_n hx hb d_T_digits_11 rfl (lv_at hl 0 rfl) ?_
    refine W.lcmp hx hb d_T_digits_12 ?_
    refine lv_if_ge (tgt := 22) hx hb d_T_digits_13 (by decide) (fun h => pr (Or.inl ((lg_cmp_ge _ _).mp h))) (fun h => ?_)
    have hn : ¬ lN (10 ^ k) ≤ x := fun q => h ((lg_cmp_ge _ _).mpr q)
    refine lv_lload_n hx hb d_T_digits_16 rfl (lv_at hl 0 rfl) ?_
    refine lv_lconst (v := 1) hx hb d_T_digits_17 (by decide) ?_
    refine W.lcmp hx hb d_T_digits_18 ?_
    refine lv_if_ne (tgt := 39) hx hb d_T_digits_19 (by decide) (fun h2 => ?_) (fun h2 => ?_)
    · have hk0 : ¬ k = 0 := fun q => h2 ((lg_cmp_eq _ _).mpr (by rw [q]; rfl))
      exact nx z (by rw [← hz, dgs, if_neg (fun q => q.elim hn hk0), List.nil_append]) H locs hw hS
    · have h3 := (pk_lEQ (a := 10 ^ k) (b := 1) (by omega) (by decide)).mp ((lg_cmp_eq _ _).mp h2)
      refine pr (Or.inr ?_)
      rcases Nat.eq_zero_or_pos k with q | q
      · exact q
      · have := Nat.pow_le_pow_right (n := 10) (by decide) q
        omega

set_option maxRecDepth 100000 in
set_option maxHeartbeats 4000000 in
theorem c_T_digits (l : Launch) (adE adK adV : Nat → Nat) (dC : Nat → ClassId) (dI : Nat → Nat → Nat) (cC : ClassId) (h0 h1 : Nat) (v : List Int32) (x : Int64) : Met l y_T_digits (Cond.code y_T_digits b_T_digits 5 none :: WT) ({ frames := 1, cells := 0, slots := 0, locals := 21 }) (va_Pc [.ref h0, .long x] (fun U => twU adE adK adV dC dI cC h0 h1 v U)) (va_Qv (fun _ : Unit => True) (fun _ t => tw dC dI cC h0 h1 (v ++ f_T_digits x) t.heap) (aT h0 h1)) 0 0 (aT h0 h1) := by
  refine va_MetF (cc := b_T_digits) (maxL := 5) (ret := none) (by decide +kernel) rfl ?_
  intro p e s m args below meth c s₁ B hml hv
  obtain ⟨rfl, ⟨hK, hne, hC, hw⟩⟩ := hv
  have hx := B.exec
  have hb := B.bytes
  have hr := B.returns
  have hts := atoms_spec (ws := (Cond.code y_T_digits b_T_digits 5 none :: WT)) B.pre
  have hT : ∀ w ∈ WT, w.before _ s = true := fun w h => hts w (inC w h)
  have hown : s.vm.findClass R_T = some m.cls := findClass_of_methodNamed B.named
  have hlocks := B.notSynchronized
  have hS : va_S (aT h0 h1) s.heap s.heap [] := va_S.rf
  have S : CallFix p m c b_T_digits 5 s _ (Cond.code y_T_digits b_T_digits 5 none :: WT) R_T := ⟨hx, hb, hml, hown, hts⟩
  have hl := lv_entry ([.ref h0, .long x]) (n := 5) (Nat.le_of_ble_eq_true rfl)
  rw [lg_entry_eq]
  generalize (lg_sl ([.ref h0, .long x]) ++ List.replicate (5 - (lg_sl ([.ref h0, .long x])).length) Slot.unset).toArray = ls at hl ⊢
  have hl : lv_has ls 5 [(0, .ref h0), (1, .long x)] := hl
  have hA : ∀ q, aT h0 h1 q → aT h0 h1 q := fun _ h => h
  refine lv_ldc2 (v := 1000000000) hx hb hown (hT _ m_523) d_T_digits_0 ?_
  refine lv_lstore_n (lv' := [(3, .long (lN (10 ^ 10 / 10))), (0, .ref h0), (1, .long x)]) hx hb d_T_digits_3 rfl hl (by decide) rfl (fun ls hl => ?_)
  refine lp_T_digits S inC hT (Nat.le_of_ble_eq_true rfl) (Nat.le_of_ble_eq_true rfl) ⟨(Nat.le_of_ble_eq_true rfl), (Nat.le_of_ble_eq_true rfl)⟩ hK hne hC hA (fun H locs ls hw hS => ?_) 10 (Nat.le_refl _) v rfl _ _ ls hw hS hl
  exact W.vret hx hb hr (fun t ht hW => ⟨⟨(), rfl, trivial, tw_at ht (hw)⟩, hS.F ht⟩) hS.2.2 d_T_digits_48

theorem call_T_digits {p : Program} {l : Launch} {e : Env} {R : Room} {s : State} {m : MethodId} {args : Array Value} {below : List Frame} {meth : Method} {c : Code} {H : Heap} {locs : List Loc} {cells slots : Nat} {Q : State → Prop} {cc : ByteArray} {pc nL idx : Nat} {ls : Array Slot} {rest : List Value} {Ts : List Cond} {own : String} {adE adK adV : Nat → Nat} {A0 : Nat → Prop} {dC : Nat → ClassId} {dI : Nat → Nat → Nat} {cC : ClassId} {h0 h1 : Nat} {v : List Int32} {x : Int64} (S : CallFix p m c cc nL s args Ts own) (hTs : ∀ w ∈ WT, w ∈ Ts) (h1' : Cond.methodLink own idx y_T_digits ∈ WT) (hR : 1 + 1 ≤ R.frames ∧ 8 + (5 + 11) + 21 ≤ R.locals) (hsz : ls.size = nL) (hrm : (rest.map fun v => v.category).sum ≤ 8) (hdg : decode cc pc = .ok (.invokevirtual idx, 3)) (hc : cells ≤ R.cells ∧ slots ≤ R.slots) (hK : va_K (dC, dI) classes [(cC, .char)] s) (hne : h0 ≠ h1) (hC : cx adE adK adV A0 s s.heap) (hS : va_S A0 s.heap H locs) (hA : ∀ q, aT h0 h1 q → A0 q) (hw : tw dC dI cC h0 h1 v H)  (kk : ∀ (H1 : Heap) (locs1 : List Loc), tw dC dI cC h0 h1 (v ++ f_T_digits x) H1 → va_S A0 s.heap H1 locs1 → (H.size ≤ H1.size ∧ ∀ q : Nat, q < H.size → ¬ aT h0 h1 q → H1[q]? = H[q]?) → W p l e R s m args below meth c H1 locs1 cells slots Q (F0 m (pc + 3) ls rest)) : W p l e R s m args below meth c H locs cells slots Q (F0 m pc ls (.long x :: .ref h0 :: rest)) :=
  va_callv (va_runV (As := [.long x]) (rest := rest) S (c_T_digits l adE adK adV dC dI cC h0 h1 v x) (cwV 1 S.2.2.2.2 (gV hTs h1' m_521 m_7 m_50 m_522) rfl rfl rfl (by decide +kernel) hR) ⟨fun a U g mk q => ⟨q.1, q.2.blind⟩, tw_recv hK hw, fun U hU hW => ⟨rfl, twU.at hK hne hC hS hA hw hU hW⟩⟩ rfl rfl hsz rfl (lv_room hrm) hdg hc) hS (fun q _ h => hA q h) hA (fun u t H1 locs1 ht hvm hp hB hz hk hS1 => kk H1 locs1 (by rw [← ht]; exact hB) hS1 ⟨hz, hk⟩)
end
section
def absI (x : Int32) : Int32 := if 0 ≤ x then x else 0 - x
theorem it_lt {a b n : Nat} (c : Prop) [Decidable c] (ha : a < n) (hb : b < n) : (if c then a else b) < n := by
  by_cases h : c
  · rw [if_pos h]; exact ha
  · rw [if_neg h]; exact hb
theorem reg_lt (x : Int32) : f_T_registerName x < 159 := by
  unfold f_T_registerName
  repeat (refine it_lt _ (by decide) ?_)
  decide

def f_T_number (x1 : Int32) : List Int32 :=
  if 0 ≤ x1 then
    (f_T_digits ((absI x1).toInt64))
  else
    [45] ++ ((f_T_digits ((absI x1).toInt64)))
set_option maxRecDepth 100000 in
set_option maxHeartbeats 4000000 in
theorem c_T_number (l : Launch) (adE adK adV : Nat → Nat) (dC : Nat → ClassId) (dI : Nat → Nat → Nat) (cC : ClassId) (h0 h1 : Nat) (v : List Int32) (x1 : Int32) : Met l y_T_number (Cond.code y_T_number b_T_number 2 none :: WT) ({ frames := 2, cells := 0, slots := 0, locals := 45 }) (va_Pc [.ref h0, .int x1] (fun U => twU adE adK adV dC dI cC h0 h1 v U)) (va_Qv (fun _ : Unit => True) (fun _ t => tw dC dI cC h0 h1 (v ++ f_T_number x1) t.heap) (aT h0 h1)) 0 0 (aT h0 h1) := by
  refine va_MetF (cc := b_T_number) (maxL := 2) (ret := none) (by decide +kernel) rfl ?_
  intro p e s m args below meth c s₁ B hml hv
  obtain ⟨rfl, ⟨hK, hne, hC, hw⟩⟩ := hv
  have hx := B.exec
  have hb := B.bytes
  have hr := B.returns
  have hts := atoms_spec (ws := (Cond.code y_T_number b_T_number 2 none :: WT)) B.pre
  have hT : ∀ w ∈ WT, w.before _ s = true := fun w h => hts w (inC w h)
  have hown : s.vm.findClass R_T = some m.cls := findClass_of_methodNamed B.named
  have hlocks := B.notSynchronized
  have hS : va_S (aT h0 h1) s.heap s.heap [] := va_S.rf
  have S : CallFix p m c b_T_number 2 s _ (Cond.code y_T_number b_T_number 2 none :: WT) R_T := ⟨hx, hb, hml, hown, hts⟩
  have hl := lv_entry ([.ref h0, .int x1]) (n := 2) (Nat.le_of_ble_eq_true rfl)
  rw [lg_entry_eq]
  generalize (lg_sl ([.ref h0, .int x1]) ++ List.replicate (2 - (lg_sl ([.ref h0, .int x1])).length) Slot.unset).toArray = ls at hl ⊢
  have hl : lv_has ls 2 [(0, .ref h0), (1, .int x1)] := hl
  have hA : ∀ q, aT h0 h1 q → aT h0 h1 q := fun _ h => h
  refine lv_iload_n hx hb d_T_number_0 rfl (lv_at hl 1 rfl) ?_
  refine lv_if_ge (tgt := 10) hx hb d_T_number_1 (by decide) (fun c_1 => ?_) (fun c_1 => ?_)
  · refine lv_aload_n hx hb d_T_number_10 rfl (lv_at hl 0 rfl) ?_
    refine lv_iload_n hx hb d_T_number_11 rfl (lv_at hl 1 rfl) ?_
    refine va_mabs hx hb (by rw [hml]; exact hl.1.symm) hown (hT _ m_516) (hT _ m_517) (hT _ m_61) (hT _ m_518) (Nat.le_of_ble_eq_true rfl) (Nat.le_of_ble_eq_true rfl) (Nat.le_of_ble_eq_true rfl) (Nat.le_of_ble_eq_true rfl) d_T_number_12 ?_
    refine lv_i2l (v := (absI x1).toInt64) hx hb d_T_number_15 rfl ?_
    refine call_T_digits S inC m_519 ⟨(Nat.le_of_ble_eq_true rfl), (Nat.le_of_ble_eq_true rfl)⟩ hl.1 (Nat.le_of_ble_eq_true rfl) d_T_number_16 ⟨(Nat.le_of_ble_eq_true rfl), (Nat.le_of_ble_eq_true rfl)⟩ hK hne hC hS hA hw (fun H locs hw hS _ => ?_)
    exact W.vret hx hb hr (fun t ht hW => ⟨⟨(), rfl, trivial, tw_at ht (tw_eq (by rw [f_T_number, if_pos c_1] <;> simp only [List.append_assoc, List.append_nil]) hw)⟩, hS.F ht⟩) hS.2.2 d_T_number_19
  · refine lv_aload_n hx hb d_T_number_4 rfl (lv_at hl 0 rfl) ?_
    refine lv_bipush (v := 45) hx hb d_T_number_5 (by decide) ?_
    refine call_T_put S inC m_454 ⟨(Nat.le_of_ble_eq_true rfl), (Nat.le_of_ble_eq_true rfl)⟩ hl.1 (Nat.le_of_ble_eq_true rfl) d_T_number_7 ⟨(Nat.le_of_ble_eq_true rfl), (Nat.le_of_ble_eq_true rfl)⟩ hK hne hC hS hA hw (by decide) (fun H locs hw hS _ => ?_)
    refine lv_aload_n hx hb d_T_number_10 rfl (lv_at hl 0 rfl) ?_
    refine lv_iload_n hx hb d_T_number_11 rfl (lv_at hl 1 rfl) ?_
    refine va_mabs hx hb (by rw [hml]; exact hl.1.symm) hown (hT _ m_516) (hT _ m_517) (hT _ m_61) (hT _ m_518) (Nat.le_of_ble_eq_true rfl) (Nat.le_of_ble_eq_true rfl) (Nat.le_of_ble_eq_true rfl) (Nat.le_of_ble_eq_true rfl) d_T_number_12 ?_
    refine lv_i2l (v := (absI x1).toInt64) hx hb d_T_number_15 rfl ?_
    refine call_T_digits S inC m_519 ⟨(Nat.le_of_ble_eq_true rfl), (Nat.le_of_ble_eq_true rfl)⟩ hl.1 (Nat.le_of_ble_eq_true rfl) d_T_number_16 ⟨(Nat.le_of_ble_eq_true rfl), (Nat.le_of_ble_eq_true rfl)⟩ hK hne hC hS hA hw (fun H locs hw hS _ => ?_)
    exact W.vret hx hb hr (fun t ht hW => ⟨⟨(), rfl, trivial, tw_at ht (tw_eq (by rw [f_T_number, if_neg c_1] <;> simp only [List.append_assoc, List.append_nil]) hw)⟩, hS.F ht⟩) hS.2.2 d_T_number_19
theorem call_T_number {p : Program} {l : Launch} {e : Env} {R : Room} {s : State} {m : MethodId} {args : Array Value} {below : List Frame} {meth : Method} {c : Code} {H : Heap} {locs : List Loc} {cells slots : Nat} {Q : State → Prop} {cc : ByteArray} {pc nL idx : Nat} {ls : Array Slot} {rest : List Value} {Ts : List Cond} {own : String} {adE adK adV : Nat → Nat} {A0 : Nat → Prop} {dC : Nat → ClassId} {dI : Nat → Nat → Nat} {cC : ClassId} {h0 h1 : Nat} {v : List Int32} {x1 : Int32} (S : CallFix p m c cc nL s args Ts own) (hTs : ∀ w ∈ WT, w ∈ Ts) (h1' : Cond.methodLink own idx y_T_number ∈ WT) (hR : 2 + 1 ≤ R.frames ∧ 8 + (2 + 11) + 45 ≤ R.locals) (hsz : ls.size = nL) (hrm : (rest.map fun v => v.category).sum ≤ 8) (hdg : decode cc pc = .ok (.invokevirtual idx, 3)) (hc : cells ≤ R.cells ∧ slots ≤ R.slots) (hK : va_K (dC, dI) classes [(cC, .char)] s) (hne : h0 ≠ h1) (hC : cx adE adK adV A0 s s.heap) (hS : va_S A0 s.heap H locs) (hA : ∀ q, aT h0 h1 q → A0 q) (hw : tw dC dI cC h0 h1 v H)  (kk : ∀ (H1 : Heap) (locs1 : List Loc), tw dC dI cC h0 h1 (v ++ f_T_number x1) H1 → va_S A0 s.heap H1 locs1 → (H.size ≤ H1.size ∧ ∀ q : Nat, q < H.size → ¬ aT h0 h1 q → H1[q]? = H[q]?) → W p l e R s m args below meth c H1 locs1 cells slots Q (F0 m (pc + 3) ls rest)) : W p l e R s m args below meth c H locs cells slots Q (F0 m pc ls (.int x1 :: .ref h0 :: rest)) :=
  va_callv (va_runV (As := [.int x1]) (rest := rest) S (c_T_number l adE adK adV dC dI cC h0 h1 v x1) (cwV 1 S.2.2.2.2 (gV hTs h1' m_514 m_6 m_50 m_515) rfl rfl rfl (by decide +kernel) hR) ⟨fun a U g mk q => ⟨q.1, q.2.blind⟩, tw_recv hK hw, fun U hU hW => ⟨rfl, twU.at hK hne hC hS hA hw hU hW⟩⟩ rfl rfl hsz rfl (lv_room hrm) hdg hc) hS (fun q _ h => hA q h) hA (fun u t H1 locs1 ht hvm hp hB hz hk hS1 => kk H1 locs1 (by rw [← ht]; exact hB) hS1 ⟨hz, hk⟩)

def f_T_offset (x1 : Int32) : List Int32 :=
  if 0 ≤ x1 then
    [46] ++ ([43] ++ ((f_T_digits ((absI x1).toInt64))))
  else
    [46] ++ ([45] ++ ((f_T_digits ((absI x1).toInt64))))
set_option maxRecDepth 100000 in
set_option maxHeartbeats 4000000 in
theorem c_T_offset (l : Launch) (adE adK adV : Nat → Nat) (dC : Nat → ClassId) (dI : Nat → Nat → Nat) (cC : ClassId) (h0 h1 : Nat) (v : List Int32) (x1 : Int32) : Met l y_T_offset (Cond.code y_T_offset b_T_offset 2 none :: WT) ({ frames := 2, cells := 0, slots := 0, locals := 45 }) (va_Pc [.ref h0, .int x1] (fun U => twU adE adK adV dC dI cC h0 h1 v U)) (va_Qv (fun _ : Unit => True) (fun _ t => tw dC dI cC h0 h1 (v ++ f_T_offset x1) t.heap) (aT h0 h1)) 0 0 (aT h0 h1) := by
  refine va_MetF (cc := b_T_offset) (maxL := 2) (ret := none) (by decide +kernel) rfl ?_
  intro p e s m args below meth c s₁ B hml hv
  obtain ⟨rfl, ⟨hK, hne, hC, hw⟩⟩ := hv
  have hx := B.exec
  have hb := B.bytes
  have hr := B.returns
  have hts := atoms_spec (ws := (Cond.code y_T_offset b_T_offset 2 none :: WT)) B.pre
  have hT : ∀ w ∈ WT, w.before _ s = true := fun w h => hts w (inC w h)
  have hown : s.vm.findClass R_T = some m.cls := findClass_of_methodNamed B.named
  have hlocks := B.notSynchronized
  have hS : va_S (aT h0 h1) s.heap s.heap [] := va_S.rf
  have S : CallFix p m c b_T_offset 2 s _ (Cond.code y_T_offset b_T_offset 2 none :: WT) R_T := ⟨hx, hb, hml, hown, hts⟩
  have hl := lv_entry ([.ref h0, .int x1]) (n := 2) (Nat.le_of_ble_eq_true rfl)
  rw [lg_entry_eq]
  generalize (lg_sl ([.ref h0, .int x1]) ++ List.replicate (2 - (lg_sl ([.ref h0, .int x1])).length) Slot.unset).toArray = ls at hl ⊢
  have hl : lv_has ls 2 [(0, .ref h0), (1, .int x1)] := hl
  have hA : ∀ q, aT h0 h1 q → aT h0 h1 q := fun _ h => h
  refine lv_aload_n hx hb d_T_offset_0 rfl (lv_at hl 0 rfl) ?_
  refine lv_bipush (v := 46) hx hb d_T_offset_1 (by decide) ?_
  refine call_T_put S inC m_454 ⟨(Nat.le_of_ble_eq_true rfl), (Nat.le_of_ble_eq_true rfl)⟩ hl.1 (Nat.le_of_ble_eq_true rfl) d_T_offset_3 ⟨(Nat.le_of_ble_eq_true rfl), (Nat.le_of_ble_eq_true rfl)⟩ hK hne hC hS hA hw (by decide) (fun H locs hw hS _ => ?_)
  refine lv_aload_n hx hb d_T_offset_6 rfl (lv_at hl 0 rfl) ?_
  refine lv_iload_n hx hb d_T_offset_7 rfl (lv_at hl 1 rfl) ?_
  refine lv_if_ge (tgt := 16) hx hb d_T_offset_8 (by decide) (fun c_1 => ?_) (fun c_1 => ?_)
  · refine lv_bipush (v := 43) hx hb d_T_offset_16 (by decide) ?_
    refine call_T_put S inC m_454 ⟨(Nat.le_of_ble_eq_true rfl), (Nat.le_of_ble_eq_true rfl)⟩ hl.1 (Nat.le_of_ble_eq_true rfl) d_T_offset_18 ⟨(Nat.le_of_ble_eq_true rfl), (Nat.le_of_ble_eq_true rfl)⟩ hK hne hC hS hA hw (by decide) (fun H locs hw hS _ => ?_)
    refine lv_aload_n hx hb d_T_offset_21 rfl (lv_at hl 0 rfl) ?_
    refine lv_iload_n hx hb d_T_offset_22 rfl (lv_at hl 1 rfl) ?_
    refine va_mabs hx hb (by rw [hml]; exact hl.1.symm) hown (hT _ m_516) (hT _ m_517) (hT _ m_61) (hT _ m_518) (Nat.le_of_ble_eq_true rfl) (Nat.le_of_ble_eq_true rfl) (Nat.le_of_ble_eq_true rfl) (Nat.le_of_ble_eq_true rfl) d_T_offset_23 ?_
    refine lv_i2l (v := (absI x1).toInt64) hx hb d_T_offset_26 rfl ?_
    refine call_T_digits S inC m_519 ⟨(Nat.le_of_ble_eq_true rfl), (Nat.le_of_ble_eq_true rfl)⟩ hl.1 (Nat.le_of_ble_eq_true rfl) d_T_offset_27 ⟨(Nat.le_of_ble_eq_true rfl), (Nat.le_of_ble_eq_true rfl)⟩ hK hne hC hS hA hw (fun H locs hw hS _ => ?_)
    exact W.vret hx hb hr (fun t ht hW => ⟨⟨(), rfl, trivial, tw_at ht (tw_eq (by rw [f_T_offset, if_pos c_1] <;> simp only [List.append_assoc, List.append_nil]) hw)⟩, hS.F ht⟩) hS.2.2 d_T_offset_30
  · refine lv_bipush (v := 45) hx hb d_T_offset_11 (by decide) ?_
    refine lv_goto (tgt := 18) hx hb d_T_offset_13 (by decide) ?_
    refine call_T_put S inC m_454 ⟨(Nat.le_of_ble_eq_true rfl), (Nat.le_of_ble_eq_true rfl)⟩ hl.1 (Nat.le_of_ble_eq_true rfl) d_T_offset_18 ⟨(Nat.le_of_ble_eq_true rfl), (Nat.le_of_ble_eq_true rfl)⟩ hK hne hC hS hA hw (by decide) (fun H locs hw hS _ => ?_)
    refine lv_aload_n hx hb d_T_offset_21 rfl (lv_at hl 0 rfl) ?_
    refine lv_iload_n hx hb d_T_offset_22 rfl (lv_at hl 1 rfl) ?_
    refine va_mabs hx hb (by rw [hml]; exact hl.1.symm) hown (hT _ m_516) (hT _ m_517) (hT _ m_61) (hT _ m_518) (Nat.le_of_ble_eq_true rfl) (Nat.le_of_ble_eq_true rfl) (Nat.le_of_ble_eq_true rfl) (Nat.le_of_ble_eq_true rfl) d_T_offset_23 ?_
    refine lv_i2l (v := (absI x1).toInt64) hx hb d_T_offset_26 rfl ?_
    refine call_T_digits S inC m_519 ⟨(Nat.le_of_ble_eq_true rfl), (Nat.le_of_ble_eq_true rfl)⟩ hl.1 (Nat.le_of_ble_eq_true rfl) d_T_offset_27 ⟨(Nat.le_of_ble_eq_true rfl), (Nat.le_of_ble_eq_true rfl)⟩ hK hne hC hS hA hw (fun H locs hw hS _ => ?_)
    exact W.vret hx hb hr (fun t ht hW => ⟨⟨(), rfl, trivial, tw_at ht (tw_eq (by rw [f_T_offset, if_neg c_1] <;> simp only [List.append_assoc, List.append_nil]) hw)⟩, hS.F ht⟩) hS.2.2 d_T_offset_30
theorem call_T_offset {p : Program} {l : Launch} {e : Env} {R : Room} {s : State} {m : MethodId} {args : Array Value} {below : List Frame} {meth : Method} {c : Code} {H : Heap} {locs : List Loc} {cells slots : Nat} {Q : State → Prop} {cc : ByteArray} {pc nL idx : Nat} {ls : Array Slot} {rest : List Value} {Ts : List Cond} {own : String} {adE adK adV : Nat → Nat} {A0 : Nat → Prop} {dC : Nat → ClassId} {dI : Nat → Nat → Nat} {cC : ClassId} {h0 h1 : Nat} {v : List Int32} {x1 : Int32} (S : CallFix p m c cc nL s args Ts own) (hTs : ∀ w ∈ WT, w ∈ Ts) (h1' : Cond.methodLink own idx y_T_offset ∈ WT) (hR : 2 + 1 ≤ R.frames ∧ 8 + (2 + 11) + 45 ≤ R.locals) (hsz : ls.size = nL) (hrm : (rest.map fun v => v.category).sum ≤ 8) (hdg : decode cc pc = .ok (.invokevirtual idx, 3)) (hc : cells ≤ R.cells ∧ slots ≤ R.slots) (hK : va_K (dC, dI) classes [(cC, .char)] s) (hne : h0 ≠ h1) (hC : cx adE adK adV A0 s s.heap) (hS : va_S A0 s.heap H locs) (hA : ∀ q, aT h0 h1 q → A0 q) (hw : tw dC dI cC h0 h1 v H)  (kk : ∀ (H1 : Heap) (locs1 : List Loc), tw dC dI cC h0 h1 (v ++ f_T_offset x1) H1 → va_S A0 s.heap H1 locs1 → (H.size ≤ H1.size ∧ ∀ q : Nat, q < H.size → ¬ aT h0 h1 q → H1[q]? = H[q]?) → W p l e R s m args below meth c H1 locs1 cells slots Q (F0 m (pc + 3) ls rest)) : W p l e R s m args below meth c H locs cells slots Q (F0 m pc ls (.int x1 :: .ref h0 :: rest)) :=
  va_callv (va_runV (As := [.int x1]) (rest := rest) S (c_T_offset l adE adK adV dC dI cC h0 h1 v x1) (cwV 1 S.2.2.2.2 (gV hTs h1' m_548 m_8 m_50 m_549) rfl rfl rfl (by decide +kernel) hR) ⟨fun a U g mk q => ⟨q.1, q.2.blind⟩, tw_recv hK hw, fun U hU hW => ⟨rfl, twU.at hK hne hC hS hA hw hU hW⟩⟩ rfl rfl hsz rfl (lv_room hrm) hdg hc) hS (fun q _ h => hA q h) hA (fun u t H1 locs1 ht hvm hp hB hz hk hS1 => kk H1 locs1 (by rw [← ht]; exact hB) hS1 ⟨hz, hk⟩)

def f_T_register (x1 : Int32) : List Int32 :=
  (sTx (f_T_registerName x1))
set_option maxRecDepth 100000 in
set_option maxHeartbeats 4000000 in
theorem c_T_register (l : Launch) (adE adK adV : Nat → Nat) (dC : Nat → ClassId) (dI : Nat → Nat → Nat) (cC : ClassId) (h0 h1 : Nat) (v : List Int32) (x1 : Int32) : Met l y_T_register (Cond.code y_T_register b_T_register 2 none :: WT) ({ frames := 5, cells := 0, slots := 0, locals := 107 }) (va_Pc [.ref h0, .int x1] (fun U => twU adE adK adV dC dI cC h0 h1 v U)) (va_Qv (fun _ : Unit => True) (fun _ t => tw dC dI cC h0 h1 (v ++ f_T_register x1) t.heap) (aT h0 h1)) 0 0 (aT h0 h1) := by
  refine va_MetF (cc := b_T_register) (maxL := 2) (ret := none) (by decide +kernel) rfl ?_
  intro p e s m args below meth c s₁ B hml hv
  obtain ⟨rfl, ⟨hK, hne, hC, hw⟩⟩ := hv
  have hx := B.exec
  have hb := B.bytes
  have hr := B.returns
  have hts := atoms_spec (ws := (Cond.code y_T_register b_T_register 2 none :: WT)) B.pre
  have hT : ∀ w ∈ WT, w.before _ s = true := fun w h => hts w (inC w h)
  have hown : s.vm.findClass R_T = some m.cls := findClass_of_methodNamed B.named
  have hlocks := B.notSynchronized
  have hS : va_S (aT h0 h1) s.heap s.heap [] := va_S.rf
  have S : CallFix p m c b_T_register 2 s _ (Cond.code y_T_register b_T_register 2 none :: WT) R_T := ⟨hx, hb, hml, hown, hts⟩
  have hl := lv_entry ([.ref h0, .int x1]) (n := 2) (Nat.le_of_ble_eq_true rfl)
  rw [lg_entry_eq]
  generalize (lg_sl ([.ref h0, .int x1]) ++ List.replicate (2 - (lg_sl ([.ref h0, .int x1])).length) Slot.unset).toArray = ls at hl ⊢
  have hl : lv_has ls 2 [(0, .ref h0), (1, .int x1)] := hl
  have hA : ∀ q, aT h0 h1 q → aT h0 h1 q := fun _ h => h
  refine lv_aload_n hx hb d_T_register_0 rfl (lv_at hl 0 rfl) ?_
  refine lv_iload_n hx hb d_T_register_1 rfl (lv_at hl 1 rfl) ?_
  refine call_T_registerName S inC m_477 ⟨(Nat.le_of_ble_eq_true rfl), (Nat.le_of_ble_eq_true rfl)⟩ hl.1 (Nat.le_of_ble_eq_true rfl) d_T_register_2 ⟨(Nat.le_of_ble_eq_true rfl), (Nat.le_of_ble_eq_true rfl)⟩ hC hS ?_
  refine call_T_word S inC m_402 ⟨(Nat.le_of_ble_eq_true rfl), (Nat.le_of_ble_eq_true rfl)⟩ hl.1 (Nat.le_of_ble_eq_true rfl) d_T_register_5 ⟨(Nat.le_of_ble_eq_true rfl), (Nat.le_of_ble_eq_true rfl)⟩ hK hne hC hS hA hw (reg_lt x1) (fun H locs hw hS _ => ?_)
  exact W.vret hx hb hr (fun t ht hW => ⟨⟨(), rfl, trivial, tw_at ht (tw_eq (by rw [f_T_register] <;> simp only [List.append_assoc, List.append_nil]) hw)⟩, hS.F ht⟩) hS.2.2 d_T_register_8
theorem call_T_register {p : Program} {l : Launch} {e : Env} {R : Room} {s : State} {m : MethodId} {args : Array Value} {below : List Frame} {meth : Method} {c : Code} {H : Heap} {locs : List Loc} {cells slots : Nat} {Q : State → Prop} {cc : ByteArray} {pc nL idx : Nat} {ls : Array Slot} {rest : List Value} {Ts : List Cond} {own : String} {adE adK adV : Nat → Nat} {A0 : Nat → Prop} {dC : Nat → ClassId} {dI : Nat → Nat → Nat} {cC : ClassId} {h0 h1 : Nat} {v : List Int32} {x1 : Int32} (S : CallFix p m c cc nL s args Ts own) (hTs : ∀ w ∈ WT, w ∈ Ts) (h1' : Cond.methodLink own idx y_T_register ∈ WT) (hR : 5 + 1 ≤ R.frames ∧ 8 + (2 + 11) + 107 ≤ R.locals) (hsz : ls.size = nL) (hrm : (rest.map fun v => v.category).sum ≤ 8) (hdg : decode cc pc = .ok (.invokevirtual idx, 3)) (hc : cells ≤ R.cells ∧ slots ≤ R.slots) (hK : va_K (dC, dI) classes [(cC, .char)] s) (hne : h0 ≠ h1) (hC : cx adE adK adV A0 s s.heap) (hS : va_S A0 s.heap H locs) (hA : ∀ q, aT h0 h1 q → A0 q) (hw : tw dC dI cC h0 h1 v H)  (kk : ∀ (H1 : Heap) (locs1 : List Loc), tw dC dI cC h0 h1 (v ++ f_T_register x1) H1 → va_S A0 s.heap H1 locs1 → (H.size ≤ H1.size ∧ ∀ q : Nat, q < H.size → ¬ aT h0 h1 q → H1[q]? = H[q]?) → W p l e R s m args below meth c H1 locs1 cells slots Q (F0 m (pc + 3) ls rest)) : W p l e R s m args below meth c H locs cells slots Q (F0 m pc ls (.int x1 :: .ref h0 :: rest)) :=
  va_callv (va_runV (As := [.int x1]) (rest := rest) S (c_T_register l adE adK adV dC dI cC h0 h1 v x1) (cwV 1 S.2.2.2.2 (gV hTs h1' m_475 m_5 m_50 m_476) rfl rfl rfl (by decide +kernel) hR) ⟨fun a U g mk q => ⟨q.1, q.2.blind⟩, tw_recv hK hw, fun U hU hW => ⟨rfl, twU.at hK hne hC hS hA hw hU hW⟩⟩ rfl rfl hsz rfl (lv_room hrm) hdg hc) hS (fun q _ h => hA q h) hA (fun u t H1 locs1 ht hvm hp hB hz hk hS1 => kk H1 locs1 (by rw [← ht]; exact hB) hS1 ⟨hz, hk⟩)

def f_T_order (x1 : Int32) : List Int32 :=
  if x1 = 1 then
    (sTx 0)
  else
    if x1 = 2 then
      (sTx 1)
    else
      if x1 = 3 then
        (sTx 2)
      else
        []
set_option maxRecDepth 100000 in
set_option maxHeartbeats 4000000 in
theorem c_T_order (l : Launch) (adE adK adV : Nat → Nat) (dC : Nat → ClassId) (dI : Nat → Nat → Nat) (cC : ClassId) (h0 h1 : Nat) (v : List Int32) (x1 : Int32) : Met l y_T_order (Cond.code y_T_order b_T_order 2 none :: WT) ({ frames := 5, cells := 0, slots := 0, locals := 107 }) (va_Pc [.ref h0, .int x1] (fun U => twU adE adK adV dC dI cC h0 h1 v U)) (va_Qv (fun _ : Unit => True) (fun _ t => tw dC dI cC h0 h1 (v ++ f_T_order x1) t.heap) (aT h0 h1)) 0 0 (aT h0 h1) := by
  refine va_MetF (cc := b_T_order) (maxL := 2) (ret := none) (by decide +kernel) rfl ?_
  intro p e s m args below meth c s₁ B hml hv
  obtain ⟨rfl, ⟨hK, hne, hC, hw⟩⟩ := hv
  have hx := B.exec
  have hb := B.bytes
  have hr := B.returns
  have hts := atoms_spec (ws := (Cond.code y_T_order b_T_order 2 none :: WT)) B.pre
  have hT : ∀ w ∈ WT, w.before _ s = true := fun w h => hts w (inC w h)
  have hown : s.vm.findClass R_T = some m.cls := findClass_of_methodNamed B.named
  have hlocks := B.notSynchronized
  have hS : va_S (aT h0 h1) s.heap s.heap [] := va_S.rf
  have S : CallFix p m c b_T_order 2 s _ (Cond.code y_T_order b_T_order 2 none :: WT) R_T := ⟨hx, hb, hml, hown, hts⟩
  have hl := lv_entry ([.ref h0, .int x1]) (n := 2) (Nat.le_of_ble_eq_true rfl)
  rw [lg_entry_eq]
  generalize (lg_sl ([.ref h0, .int x1]) ++ List.replicate (2 - (lg_sl ([.ref h0, .int x1])).length) Slot.unset).toArray = ls at hl ⊢
  have hl : lv_has ls 2 [(0, .ref h0), (1, .int x1)] := hl
  have hA : ∀ q, aT h0 h1 q → aT h0 h1 q := fun _ h => h
  refine lv_iload_n hx hb d_T_order_0 rfl (lv_at hl 1 rfl) ?_
  by_cases c_1 : x1 = 1
  · refine lv_tableIn (off := 27) (tgt := 28) hx hb d_T_order_1 (by rw [c_1]; decide) (by rw [c_1]; decide) (by rw [c_1]; decide) (by decide) ?_
    refine lv_aload_n hx hb d_T_order_28 rfl (lv_at hl 0 rfl) ?_
    refine va_ldcS hx hb hown (hC.2.2.1 0 (by decide)) d_T_order_29 ?_
    refine call_T_word S inC m_402 ⟨(Nat.le_of_ble_eq_true rfl), (Nat.le_of_ble_eq_true rfl)⟩ hl.1 (Nat.le_of_ble_eq_true rfl) d_T_order_31 ⟨(Nat.le_of_ble_eq_true rfl), (Nat.le_of_ble_eq_true rfl)⟩ hK hne hC hS hA hw (by decide) (fun H locs hw hS _ => ?_)
    refine lv_goto (tgt := 55) hx hb d_T_order_34 (by decide) ?_
    exact W.vret hx hb hr (fun t ht hW => ⟨⟨(), rfl, trivial, tw_at ht (tw_eq (by rw [f_T_order, if_pos c_1] <;> simp only [List.append_assoc, List.append_nil]) hw)⟩, hS.F ht⟩) hS.2.2 d_T_order_55
  · by_cases c_2 : x1 = 2
    · refine lv_tableIn (off := 36) (tgt := 37) hx hb d_T_order_1 (by rw [c_2]; decide) (by rw [c_2]; decide) (by rw [c_2]; decide) (by decide) ?_
      refine lv_aload_n hx hb d_T_order_37 rfl (lv_at hl 0 rfl) ?_
      refine va_ldcS hx hb hown (hC.2.2.1 1 (by decide)) d_T_order_38 ?_
      refine call_T_word S inC m_402 ⟨(Nat.le_of_ble_eq_true rfl), (Nat.le_of_ble_eq_true rfl)⟩ hl.1 (Nat.le_of_ble_eq_true rfl) d_T_order_40 ⟨(Nat.le_of_ble_eq_true rfl), (Nat.le_of_ble_eq_true rfl)⟩ hK hne hC hS hA hw (by decide) (fun H locs hw hS _ => ?_)
      refine lv_goto (tgt := 55) hx hb d_T_order_43 (by decide) ?_
      exact W.vret hx hb hr (fun t ht hW => ⟨⟨(), rfl, trivial, tw_at ht (tw_eq (by rw [f_T_order, if_neg c_1, if_pos c_2] <;> simp only [List.append_assoc, List.append_nil]) hw)⟩, hS.F ht⟩) hS.2.2 d_T_order_55
    · by_cases c_3 : x1 = 3
      · refine lv_tableIn (off := 45) (tgt := 46) hx hb d_T_order_1 (by rw [c_3]; decide) (by rw [c_3]; decide) (by rw [c_3]; decide) (by decide) ?_
        refine lv_aload_n hx hb d_T_order_46 rfl (lv_at hl 0 rfl) ?_
        refine va_ldcS hx hb hown (hC.2.2.1 2 (by decide)) d_T_order_47 ?_
        refine call_T_word S inC m_402 ⟨(Nat.le_of_ble_eq_true rfl), (Nat.le_of_ble_eq_true rfl)⟩ hl.1 (Nat.le_of_ble_eq_true rfl) d_T_order_49 ⟨(Nat.le_of_ble_eq_true rfl), (Nat.le_of_ble_eq_true rfl)⟩ hK hne hC hS hA hw (by decide) (fun H locs hw hS _ => ?_)
        refine lv_goto (tgt := 55) hx hb d_T_order_52 (by decide) ?_
        exact W.vret hx hb hr (fun t ht hW => ⟨⟨(), rfl, trivial, tw_at ht (tw_eq (by rw [f_T_order, if_neg c_1, if_neg c_2, if_pos c_3] <;> simp only [List.append_assoc, List.append_nil]) hw)⟩, hS.F ht⟩) hS.2.2 d_T_order_55
      · refine lv_tableOut (tgt := 55) hx hb d_T_order_1 (by have n0 := lv_neT c_1 (show (1 : Int32).toInt = 1 by decide); have n1 := lv_neT c_2 (show (2 : Int32).toInt = 2 by decide); have n2 := lv_neT c_3 (show (3 : Int32).toInt = 3 by decide); omega) (by decide) ?_
        exact W.vret hx hb hr (fun t ht hW => ⟨⟨(), rfl, trivial, tw_at ht (tw_eq (by rw [f_T_order, if_neg c_1, if_neg c_2, if_neg c_3] <;> simp only [List.append_assoc, List.append_nil]) hw)⟩, hS.F ht⟩) hS.2.2 d_T_order_55
theorem call_T_order {p : Program} {l : Launch} {e : Env} {R : Room} {s : State} {m : MethodId} {args : Array Value} {below : List Frame} {meth : Method} {c : Code} {H : Heap} {locs : List Loc} {cells slots : Nat} {Q : State → Prop} {cc : ByteArray} {pc nL idx : Nat} {ls : Array Slot} {rest : List Value} {Ts : List Cond} {own : String} {adE adK adV : Nat → Nat} {A0 : Nat → Prop} {dC : Nat → ClassId} {dI : Nat → Nat → Nat} {cC : ClassId} {h0 h1 : Nat} {v : List Int32} {x1 : Int32} (S : CallFix p m c cc nL s args Ts own) (hTs : ∀ w ∈ WT, w ∈ Ts) (h1' : Cond.methodLink own idx y_T_order ∈ WT) (hR : 5 + 1 ≤ R.frames ∧ 8 + (2 + 11) + 107 ≤ R.locals) (hsz : ls.size = nL) (hrm : (rest.map fun v => v.category).sum ≤ 8) (hdg : decode cc pc = .ok (.invokevirtual idx, 3)) (hc : cells ≤ R.cells ∧ slots ≤ R.slots) (hK : va_K (dC, dI) classes [(cC, .char)] s) (hne : h0 ≠ h1) (hC : cx adE adK adV A0 s s.heap) (hS : va_S A0 s.heap H locs) (hA : ∀ q, aT h0 h1 q → A0 q) (hw : tw dC dI cC h0 h1 v H)  (kk : ∀ (H1 : Heap) (locs1 : List Loc), tw dC dI cC h0 h1 (v ++ f_T_order x1) H1 → va_S A0 s.heap H1 locs1 → (H.size ≤ H1.size ∧ ∀ q : Nat, q < H.size → ¬ aT h0 h1 q → H1[q]? = H[q]?) → W p l e R s m args below meth c H1 locs1 cells slots Q (F0 m (pc + 3) ls rest)) : W p l e R s m args below meth c H locs cells slots Q (F0 m pc ls (.int x1 :: .ref h0 :: rest)) :=
  va_callv (va_runV (As := [.int x1]) (rest := rest) S (c_T_order l adE adK adV dC dI cC h0 h1 v x1) (cwV 1 S.2.2.2.2 (gV hTs h1' m_460 m_3 m_50 m_461) rfl rfl rfl (by decide +kernel) hR) ⟨fun a U g mk q => ⟨q.1, q.2.blind⟩, tw_recv hK hw, fun U hU hW => ⟨rfl, twU.at hK hne hC hS hA hw hU hW⟩⟩ rfl rfl hsz rfl (lv_room hrm) hdg hc) hS (fun q _ h => hA q h) hA (fun u t H1 locs1 ht hvm hp hB hz hk hS1 => kk H1 locs1 (by rw [← ht]; exact hB) hS1 ⟨hz, hk⟩)

def f_T_operand (x1 x2 : Int32) : List Int32 :=
  if x1 = 66 then
    (f_T_offset (f_F_branch x2))
  else
    if x1 = 67 then
      (f_T_offset (f_F_shortJump x2))
    else
      if x1 = 74 then
        (f_T_offset (f_F_jump x2))
      else
        if x1 = 90 then
          (f_T_offset (f_F_shortBranch x2))
        else
          if x1 = 97 then
            (f_T_register ((x2 >>> ((15 : Int32) &&& 31)) &&& 31))
          else
            if x1 = 98 then
              (f_T_register ((x2 >>> ((20 : Int32) &&& 31)) &&& 31))
            else
              if x1 = 100 then
                (f_T_register ((x2 >>> ((7 : Int32) &&& 31)) &&& 31))
              else
                if x1 = 102 then
                  (f_T_number (f_F_times4 x2))
                else
                  if x1 = 104 then
                    (f_T_number ((x2 >>> ((20 : Int32) &&& 31)) &&& 31))
                  else
                    if x1 = 105 then
                      (f_T_number (x2 >>> ((20 : Int32) &&& 31)))
                    else
                      if x1 = 107 then
                        (f_T_number (f_F_stackStore x2))
                      else
                        if x1 = 108 then
                          (f_T_number (f_F_stackLoad x2))
                        else
                          if x1 = 109 then
                            (f_T_number ((x2 >>> ((2 : Int32) &&& 31)) &&& 31))
                          else
                            if x1 = 110 then
                              (f_T_number (f_F_six x2))
                            else
                              if x1 = 112 then
                                (f_T_number (f_F_times16 x2))
                              else
                                if x1 = 114 then
                                  (f_T_register ((x2 >>> ((2 : Int32) &&& 31)) &&& 31))
                                else
                                  if x1 = 115 then
                                    (f_T_number (f_F_store x2))
                                  else
                                    if x1 = 117 then
                                      (f_T_number (ushr x2 12))
                                    else
                                      if x1 = 118 then
                                        (f_T_digits (x2.toInt64 &&& 4294967295))
                                      else
                                        if x1 = 119 then
                                          (f_T_number (f_F_shortWord x2))
                                        else
                                          if x1 = 120 then
                                            (f_T_register ((8 : Int32) + ((x2 >>> ((7 : Int32) &&& 31)) &&& 7)))
                                          else
                                            if x1 = 121 then
                                              (f_T_register ((8 : Int32) + ((x2 >>> ((2 : Int32) &&& 31)) &&& 7)))
                                            else
                                              [x1]
set_option maxRecDepth 100000 in
set_option maxHeartbeats 4000000 in
theorem c_T_operand (l : Launch) (adE adK adV : Nat → Nat) (dC : Nat → ClassId) (dI : Nat → Nat → Nat) (cC : ClassId) (h0 h1 : Nat) (v : List Int32) (x1 x2 : Int32) : Met l y_T_operand (Cond.code y_T_operand b_T_operand 3 none :: WT) ({ frames := 6, cells := 0, slots := 0, locals := 128 }) (va_Pc [.ref h0, .int x1, .int x2] (fun U => twU adE adK adV dC dI cC h0 h1 v U ∧ vp_nar .char x1 = x1)) (va_Qv (fun _ : Unit => True) (fun _ t => tw dC dI cC h0 h1 (v ++ f_T_operand x1 x2) t.heap) (aT h0 h1)) 0 0 (aT h0 h1) := by
  refine va_MetF (cc := b_T_operand) (maxL := 3) (ret := none) (by decide +kernel) rfl ?_
  intro p e s m args below meth c s₁ B hml hv
  obtain ⟨rfl, ⟨hK, hne, hC, hw⟩, hcc⟩ := hv
  have hx := B.exec
  have hb := B.bytes
  have hr := B.returns
  have hts := atoms_spec (ws := (Cond.code y_T_operand b_T_operand 3 none :: WT)) B.pre
  have hT : ∀ w ∈ WT, w.before _ s = true := fun w h => hts w (inC w h)
  have hown : s.vm.findClass R_T = some m.cls := findClass_of_methodNamed B.named
  have hlocks := B.notSynchronized
  have hS : va_S (aT h0 h1) s.heap s.heap [] := va_S.rf
  have S : CallFix p m c b_T_operand 3 s _ (Cond.code y_T_operand b_T_operand 3 none :: WT) R_T := ⟨hx, hb, hml, hown, hts⟩
  have hl := lv_entry ([.ref h0, .int x1, .int x2]) (n := 3) (Nat.le_of_ble_eq_true rfl)
  rw [lg_entry_eq]
  generalize (lg_sl ([.ref h0, .int x1, .int x2]) ++ List.replicate (3 - (lg_sl ([.ref h0, .int x1, .int x2])).length) Slot.unset).toArray = ls at hl ⊢
  have hl : lv_has ls 3 [(0, .ref h0), (1, .int x1), (2, .int x2)] := hl
  have hA : ∀ q, aT h0 h1 q → aT h0 h1 q := fun _ h => h
  refine lv_iload_n hx hb d_T_operand_0 rfl (lv_at hl 1 rfl) ?_
  by_cases c_1 : x1 = 66
  · refine lv_tableIn (off := 453) (tgt := 454) hx hb d_T_operand_1 (by rw [c_1]; decide) (by rw [c_1]; decide) (by rw [c_1]; decide) (by decide) ?_
    refine lv_aload_n hx hb d_T_operand_454 rfl (lv_at hl 0 rfl) ?_
    refine lv_iload_n hx hb d_T_operand_455 rfl (lv_at hl 2 rfl) ?_
    refine call_F_branch S inC m_543 ⟨(Nat.le_of_ble_eq_true rfl), (Nat.le_of_ble_eq_true rfl)⟩ hl.1 (Nat.le_of_ble_eq_true rfl) d_T_operand_456 ⟨(Nat.le_of_ble_eq_true rfl), (Nat.le_of_ble_eq_true rfl)⟩ ?_
    refine call_T_offset S inC m_546 ⟨(Nat.le_of_ble_eq_true rfl), (Nat.le_of_ble_eq_true rfl)⟩ hl.1 (Nat.le_of_ble_eq_true rfl) d_T_operand_459 ⟨(Nat.le_of_ble_eq_true rfl), (Nat.le_of_ble_eq_true rfl)⟩ hK hne hC hS hA hw (fun H locs hw hS _ => ?_)
    refine lv_goto (tgt := 516) hx hb d_T_operand_462 (by decide) ?_
    exact W.vret hx hb hr (fun t ht hW => ⟨⟨(), rfl, trivial, tw_at ht (tw_eq (by rw [f_T_operand, if_pos c_1] <;> simp only [List.append_assoc, List.append_nil]) hw)⟩, hS.F ht⟩) hS.2.2 d_T_operand_516
  · by_cases c_2 : x1 = 67
    · refine lv_tableIn (off := 475) (tgt := 476) hx hb d_T_operand_1 (by rw [c_2]; decide) (by rw [c_2]; decide) (by rw [c_2]; decide) (by decide) ?_
      refine lv_aload_n hx hb d_T_operand_476 rfl (lv_at hl 0 rfl) ?_
      refine lv_iload_n hx hb d_T_operand_477 rfl (lv_at hl 2 rfl) ?_
      refine call_F_shortJump S inC m_553 ⟨(Nat.le_of_ble_eq_true rfl), (Nat.le_of_ble_eq_true rfl)⟩ hl.1 (Nat.le_of_ble_eq_true rfl) d_T_operand_478 ⟨(Nat.le_of_ble_eq_true rfl), (Nat.le_of_ble_eq_true rfl)⟩ ?_
      refine call_T_offset S inC m_546 ⟨(Nat.le_of_ble_eq_true rfl), (Nat.le_of_ble_eq_true rfl)⟩ hl.1 (Nat.le_of_ble_eq_true rfl) d_T_operand_481 ⟨(Nat.le_of_ble_eq_true rfl), (Nat.le_of_ble_eq_true rfl)⟩ hK hne hC hS hA hw (fun H locs hw hS _ => ?_)
      refine lv_goto (tgt := 516) hx hb d_T_operand_484 (by decide) ?_
      exact W.vret hx hb hr (fun t ht hW => ⟨⟨(), rfl, trivial, tw_at ht (tw_eq (by rw [f_T_operand, if_neg c_1, if_pos c_2] <;> simp only [List.append_assoc, List.append_nil]) hw)⟩, hS.F ht⟩) hS.2.2 d_T_operand_516
    · by_cases c_3 : x1 = 74
      · refine lv_tableIn (off := 464) (tgt := 465) hx hb d_T_operand_1 (by rw [c_3]; decide) (by rw [c_3]; decide) (by rw [c_3]; decide) (by decide) ?_
        refine lv_aload_n hx hb d_T_operand_465 rfl (lv_at hl 0 rfl) ?_
        refine lv_iload_n hx hb d_T_operand_466 rfl (lv_at hl 2 rfl) ?_
        refine call_F_jump S inC m_550 ⟨(Nat.le_of_ble_eq_true rfl), (Nat.le_of_ble_eq_true rfl)⟩ hl.1 (Nat.le_of_ble_eq_true rfl) d_T_operand_467 ⟨(Nat.le_of_ble_eq_true rfl), (Nat.le_of_ble_eq_true rfl)⟩ ?_
        refine call_T_offset S inC m_546 ⟨(Nat.le_of_ble_eq_true rfl), (Nat.le_of_ble_eq_true rfl)⟩ hl.1 (Nat.le_of_ble_eq_true rfl) d_T_operand_470 ⟨(Nat.le_of_ble_eq_true rfl), (Nat.le_of_ble_eq_true rfl)⟩ hK hne hC hS hA hw (fun H locs hw hS _ => ?_)
        refine lv_goto (tgt := 516) hx hb d_T_operand_473 (by decide) ?_
        exact W.vret hx hb hr (fun t ht hW => ⟨⟨(), rfl, trivial, tw_at ht (tw_eq (by rw [f_T_operand, if_neg c_1, if_neg c_2, if_pos c_3] <;> simp only [List.append_assoc, List.append_nil]) hw)⟩, hS.F ht⟩) hS.2.2 d_T_operand_516
      · by_cases c_4 : x1 = 90
        · refine lv_tableIn (off := 486) (tgt := 487) hx hb d_T_operand_1 (by rw [c_4]; decide) (by rw [c_4]; decide) (by rw [c_4]; decide) (by decide) ?_
          refine lv_aload_n hx hb d_T_operand_487 rfl (lv_at hl 0 rfl) ?_
          refine lv_iload_n hx hb d_T_operand_488 rfl (lv_at hl 2 rfl) ?_
          refine call_F_shortBranch S inC m_556 ⟨(Nat.le_of_ble_eq_true rfl), (Nat.le_of_ble_eq_true rfl)⟩ hl.1 (Nat.le_of_ble_eq_true rfl) d_T_operand_489 ⟨(Nat.le_of_ble_eq_true rfl), (Nat.le_of_ble_eq_true rfl)⟩ ?_
          refine call_T_offset S inC m_546 ⟨(Nat.le_of_ble_eq_true rfl), (Nat.le_of_ble_eq_true rfl)⟩ hl.1 (Nat.le_of_ble_eq_true rfl) d_T_operand_492 ⟨(Nat.le_of_ble_eq_true rfl), (Nat.le_of_ble_eq_true rfl)⟩ hK hne hC hS hA hw (fun H locs hw hS _ => ?_)
          refine lv_goto (tgt := 516) hx hb d_T_operand_495 (by decide) ?_
          exact W.vret hx hb hr (fun t ht hW => ⟨⟨(), rfl, trivial, tw_at ht (tw_eq (by rw [f_T_operand, if_neg c_1, if_neg c_2, if_neg c_3, if_pos c_4] <;> simp only [List.append_assoc, List.append_nil]) hw)⟩, hS.F ht⟩) hS.2.2 d_T_operand_516
        · by_cases c_5 : x1 = 97
          · refine lv_tableIn (off := 253) (tgt := 254) hx hb d_T_operand_1 (by rw [c_5]; decide) (by rw [c_5]; decide) (by rw [c_5]; decide) (by decide) ?_
            refine lv_aload_n hx hb d_T_operand_254 rfl (lv_at hl 0 rfl) ?_
            refine lv_iload_n hx hb d_T_operand_255 rfl (lv_at hl 2 rfl) ?_
            refine lv_bipush (v := 15) hx hb d_T_operand_256 (by decide) ?_
            refine lv_ishr hx hb d_T_operand_258 ?_
            refine lv_bipush (v := 31) hx hb d_T_operand_259 (by decide) ?_
            refine lv_iand hx hb d_T_operand_261 ?_
            refine call_T_register S inC m_473 ⟨(Nat.le_of_ble_eq_true rfl), (Nat.le_of_ble_eq_true rfl)⟩ hl.1 (Nat.le_of_ble_eq_true rfl) d_T_operand_262 ⟨(Nat.le_of_ble_eq_true rfl), (Nat.le_of_ble_eq_true rfl)⟩ hK hne hC hS hA hw (fun H locs hw hS _ => ?_)
            refine lv_goto (tgt := 516) hx hb d_T_operand_265 (by decide) ?_
            exact W.vret hx hb hr (fun t ht hW => ⟨⟨(), rfl, trivial, tw_at ht (tw_eq (by rw [f_T_operand, if_neg c_1, if_neg c_2, if_neg c_3, if_neg c_4, if_pos c_5] <;> simp only [List.append_assoc, List.append_nil]) hw)⟩, hS.F ht⟩) hS.2.2 d_T_operand_516
          · by_cases c_6 : x1 = 98
            · refine lv_tableIn (off := 267) (tgt := 268) hx hb d_T_operand_1 (by rw [c_6]; decide) (by rw [c_6]; decide) (by rw [c_6]; decide) (by decide) ?_
              refine lv_aload_n hx hb d_T_operand_268 rfl (lv_at hl 0 rfl) ?_
              refine lv_iload_n hx hb d_T_operand_269 rfl (lv_at hl 2 rfl) ?_
              refine lv_bipush (v := 20) hx hb d_T_operand_270 (by decide) ?_
              refine lv_ishr hx hb d_T_operand_272 ?_
              refine lv_bipush (v := 31) hx hb d_T_operand_273 (by decide) ?_
              refine lv_iand hx hb d_T_operand_275 ?_
              refine call_T_register S inC m_473 ⟨(Nat.le_of_ble_eq_true rfl), (Nat.le_of_ble_eq_true rfl)⟩ hl.1 (Nat.le_of_ble_eq_true rfl) d_T_operand_276 ⟨(Nat.le_of_ble_eq_true rfl), (Nat.le_of_ble_eq_true rfl)⟩ hK hne hC hS hA hw (fun H locs hw hS _ => ?_)
              refine lv_goto (tgt := 516) hx hb d_T_operand_279 (by decide) ?_
              exact W.vret hx hb hr (fun t ht hW => ⟨⟨(), rfl, trivial, tw_at ht (tw_eq (by rw [f_T_operand, if_neg c_1, if_neg c_2, if_neg c_3, if_neg c_4, if_neg c_5, if_pos c_6] <;> simp only [List.append_assoc, List.append_nil]) hw)⟩, hS.F ht⟩) hS.2.2 d_T_operand_516
            · by_cases c_7 : x1 = 100
              · refine lv_tableIn (off := 239) (tgt := 240) hx hb d_T_operand_1 (by rw [c_7]; decide) (by rw [c_7]; decide) (by rw [c_7]; decide) (by decide) ?_
                refine lv_aload_n hx hb d_T_operand_240 rfl (lv_at hl 0 rfl) ?_
                refine lv_iload_n hx hb d_T_operand_241 rfl (lv_at hl 2 rfl) ?_
                refine lv_bipush (v := 7) hx hb d_T_operand_242 (by decide) ?_
                refine lv_ishr hx hb d_T_operand_244 ?_
                refine lv_bipush (v := 31) hx hb d_T_operand_245 (by decide) ?_
                refine lv_iand hx hb d_T_operand_247 ?_
                refine call_T_register S inC m_473 ⟨(Nat.le_of_ble_eq_true rfl), (Nat.le_of_ble_eq_true rfl)⟩ hl.1 (Nat.le_of_ble_eq_true rfl) d_T_operand_248 ⟨(Nat.le_of_ble_eq_true rfl), (Nat.le_of_ble_eq_true rfl)⟩ hK hne hC hS hA hw (fun H locs hw hS _ => ?_)
                refine lv_goto (tgt := 516) hx hb d_T_operand_251 (by decide) ?_
                exact W.vret hx hb hr (fun t ht hW => ⟨⟨(), rfl, trivial, tw_at ht (tw_eq (by rw [f_T_operand, if_neg c_1, if_neg c_2, if_neg c_3, if_neg c_4, if_neg c_5, if_neg c_6, if_pos c_7] <;> simp only [List.append_assoc, List.append_nil]) hw)⟩, hS.F ht⟩) hS.2.2 d_T_operand_516
              · by_cases c_8 : x1 = 102
                · refine lv_tableIn (off := 398) (tgt := 399) hx hb d_T_operand_1 (by rw [c_8]; decide) (by rw [c_8]; decide) (by rw [c_8]; decide) (by decide) ?_
                  refine lv_aload_n hx hb d_T_operand_399 rfl (lv_at hl 0 rfl) ?_
                  refine lv_iload_n hx hb d_T_operand_400 rfl (lv_at hl 2 rfl) ?_
                  refine call_F_times4 S inC m_530 ⟨(Nat.le_of_ble_eq_true rfl), (Nat.le_of_ble_eq_true rfl)⟩ hl.1 (Nat.le_of_ble_eq_true rfl) d_T_operand_401 ⟨(Nat.le_of_ble_eq_true rfl), (Nat.le_of_ble_eq_true rfl)⟩ ?_
                  refine call_T_number S inC m_512 ⟨(Nat.le_of_ble_eq_true rfl), (Nat.le_of_ble_eq_true rfl)⟩ hl.1 (Nat.le_of_ble_eq_true rfl) d_T_operand_404 ⟨(Nat.le_of_ble_eq_true rfl), (Nat.le_of_ble_eq_true rfl)⟩ hK hne hC hS hA hw (fun H locs hw hS _ => ?_)
                  refine lv_goto (tgt := 516) hx hb d_T_operand_407 (by decide) ?_
                  exact W.vret hx hb hr (fun t ht hW => ⟨⟨(), rfl, trivial, tw_at ht (tw_eq (by rw [f_T_operand, if_neg c_1, if_neg c_2, if_neg c_3, if_neg c_4, if_neg c_5, if_neg c_6, if_neg c_7, if_pos c_8] <;> simp only [List.append_assoc, List.append_nil]) hw)⟩, hS.F ht⟩) hS.2.2 d_T_operand_516
                · by_cases c_9 : x1 = 104
                  · refine lv_tableIn (off := 338) (tgt := 339) hx hb d_T_operand_1 (by rw [c_9]; decide) (by rw [c_9]; decide) (by rw [c_9]; decide) (by decide) ?_
                    refine lv_aload_n hx hb d_T_operand_339 rfl (lv_at hl 0 rfl) ?_
                    refine lv_iload_n hx hb d_T_operand_340 rfl (lv_at hl 2 rfl) ?_
                    refine lv_bipush (v := 20) hx hb d_T_operand_341 (by decide) ?_
                    refine lv_ishr hx hb d_T_operand_343 ?_
                    refine lv_bipush (v := 31) hx hb d_T_operand_344 (by decide) ?_
                    refine lv_iand hx hb d_T_operand_346 ?_
                    refine call_T_number S inC m_512 ⟨(Nat.le_of_ble_eq_true rfl), (Nat.le_of_ble_eq_true rfl)⟩ hl.1 (Nat.le_of_ble_eq_true rfl) d_T_operand_347 ⟨(Nat.le_of_ble_eq_true rfl), (Nat.le_of_ble_eq_true rfl)⟩ hK hne hC hS hA hw (fun H locs hw hS _ => ?_)
                    refine lv_goto (tgt := 516) hx hb d_T_operand_350 (by decide) ?_
                    exact W.vret hx hb hr (fun t ht hW => ⟨⟨(), rfl, trivial, tw_at ht (tw_eq (by rw [f_T_operand, if_neg c_1, if_neg c_2, if_neg c_3, if_neg c_4, if_neg c_5, if_neg c_6, if_neg c_7, if_neg c_8, if_pos c_9] <;> simp only [List.append_assoc, List.append_nil]) hw)⟩, hS.F ht⟩) hS.2.2 d_T_operand_516
                  · by_cases c_10 : x1 = 105
                    · refine lv_tableIn (off := 327) (tgt := 328) hx hb d_T_operand_1 (by rw [c_10]; decide) (by rw [c_10]; decide) (by rw [c_10]; decide) (by decide) ?_
                      refine lv_aload_n hx hb d_T_operand_328 rfl (lv_at hl 0 rfl) ?_
                      refine lv_iload_n hx hb d_T_operand_329 rfl (lv_at hl 2 rfl) ?_
                      refine lv_bipush (v := 20) hx hb d_T_operand_330 (by decide) ?_
                      refine lv_ishr hx hb d_T_operand_332 ?_
                      refine call_T_number S inC m_512 ⟨(Nat.le_of_ble_eq_true rfl), (Nat.le_of_ble_eq_true rfl)⟩ hl.1 (Nat.le_of_ble_eq_true rfl) d_T_operand_333 ⟨(Nat.le_of_ble_eq_true rfl), (Nat.le_of_ble_eq_true rfl)⟩ hK hne hC hS hA hw (fun H locs hw hS _ => ?_)
                      refine lv_goto (tgt := 516) hx hb d_T_operand_336 (by decide) ?_
                      exact W.vret hx hb hr (fun t ht hW => ⟨⟨(), rfl, trivial, tw_at ht (tw_eq (by rw [f_T_operand, if_neg c_1, if_neg c_2, if_neg c_3, if_neg c_4, if_neg c_5, if_neg c_6, if_neg c_7, if_neg c_8, if_neg c_9, if_pos c_10] <;> simp only [List.append_assoc, List.append_nil]) hw)⟩, hS.F ht⟩) hS.2.2 d_T_operand_516
                    · by_cases c_11 : x1 = 107
                      · refine lv_tableIn (off := 442) (tgt := 443) hx hb d_T_operand_1 (by rw [c_11]; decide) (by rw [c_11]; decide) (by rw [c_11]; decide) (by decide) ?_
                        refine lv_aload_n hx hb d_T_operand_443 rfl (lv_at hl 0 rfl) ?_
                        refine lv_iload_n hx hb d_T_operand_444 rfl (lv_at hl 2 rfl) ?_
                        refine call_F_stackStore S inC m_540 ⟨(Nat.le_of_ble_eq_true rfl), (Nat.le_of_ble_eq_true rfl)⟩ hl.1 (Nat.le_of_ble_eq_true rfl) d_T_operand_445 ⟨(Nat.le_of_ble_eq_true rfl), (Nat.le_of_ble_eq_true rfl)⟩ ?_
                        refine call_T_number S inC m_512 ⟨(Nat.le_of_ble_eq_true rfl), (Nat.le_of_ble_eq_true rfl)⟩ hl.1 (Nat.le_of_ble_eq_true rfl) d_T_operand_448 ⟨(Nat.le_of_ble_eq_true rfl), (Nat.le_of_ble_eq_true rfl)⟩ hK hne hC hS hA hw (fun H locs hw hS _ => ?_)
                        refine lv_goto (tgt := 516) hx hb d_T_operand_451 (by decide) ?_
                        exact W.vret hx hb hr (fun t ht hW => ⟨⟨(), rfl, trivial, tw_at ht (tw_eq (by rw [f_T_operand, if_neg c_1, if_neg c_2, if_neg c_3, if_neg c_4, if_neg c_5, if_neg c_6, if_neg c_7, if_neg c_8, if_neg c_9, if_neg c_10, if_pos c_11] <;> simp only [List.append_assoc, List.append_nil]) hw)⟩, hS.F ht⟩) hS.2.2 d_T_operand_516
                      · by_cases c_12 : x1 = 108
                        · refine lv_tableIn (off := 431) (tgt := 432) hx hb d_T_operand_1 (by rw [c_12]; decide) (by rw [c_12]; decide) (by rw [c_12]; decide) (by decide) ?_
                          refine lv_aload_n hx hb d_T_operand_432 rfl (lv_at hl 0 rfl) ?_
                          refine lv_iload_n hx hb d_T_operand_433 rfl (lv_at hl 2 rfl) ?_
                          refine call_F_stackLoad S inC m_537 ⟨(Nat.le_of_ble_eq_true rfl), (Nat.le_of_ble_eq_true rfl)⟩ hl.1 (Nat.le_of_ble_eq_true rfl) d_T_operand_434 ⟨(Nat.le_of_ble_eq_true rfl), (Nat.le_of_ble_eq_true rfl)⟩ ?_
                          refine call_T_number S inC m_512 ⟨(Nat.le_of_ble_eq_true rfl), (Nat.le_of_ble_eq_true rfl)⟩ hl.1 (Nat.le_of_ble_eq_true rfl) d_T_operand_437 ⟨(Nat.le_of_ble_eq_true rfl), (Nat.le_of_ble_eq_true rfl)⟩ hK hne hC hS hA hw (fun H locs hw hS _ => ?_)
                          refine lv_goto (tgt := 516) hx hb d_T_operand_440 (by decide) ?_
                          exact W.vret hx hb hr (fun t ht hW => ⟨⟨(), rfl, trivial, tw_at ht (tw_eq (by rw [f_T_operand, if_neg c_1, if_neg c_2, if_neg c_3, if_neg c_4, if_neg c_5, if_neg c_6, if_neg c_7, if_neg c_8, if_neg c_9, if_neg c_10, if_neg c_11, if_pos c_12] <;> simp only [List.append_assoc, List.append_nil]) hw)⟩, hS.F ht⟩) hS.2.2 d_T_operand_516
                        · by_cases c_13 : x1 = 109
                          · refine lv_tableIn (off := 385) (tgt := 386) hx hb d_T_operand_1 (by rw [c_13]; decide) (by rw [c_13]; decide) (by rw [c_13]; decide) (by decide) ?_
                            refine lv_aload_n hx hb d_T_operand_386 rfl (lv_at hl 0 rfl) ?_
                            refine lv_iload_n hx hb d_T_operand_387 rfl (lv_at hl 2 rfl) ?_
                            refine lv_iconst (v := 2) hx hb d_T_operand_388 (by decide) ?_
                            refine lv_ishr hx hb d_T_operand_389 ?_
                            refine lv_bipush (v := 31) hx hb d_T_operand_390 (by decide) ?_
                            refine lv_iand hx hb d_T_operand_392 ?_
                            refine call_T_number S inC m_512 ⟨(Nat.le_of_ble_eq_true rfl), (Nat.le_of_ble_eq_true rfl)⟩ hl.1 (Nat.le_of_ble_eq_true rfl) d_T_operand_393 ⟨(Nat.le_of_ble_eq_true rfl), (Nat.le_of_ble_eq_true rfl)⟩ hK hne hC hS hA hw (fun H locs hw hS _ => ?_)
                            refine lv_goto (tgt := 516) hx hb d_T_operand_396 (by decide) ?_
                            exact W.vret hx hb hr (fun t ht hW => ⟨⟨(), rfl, trivial, tw_at ht (tw_eq (by rw [f_T_operand, if_neg c_1, if_neg c_2, if_neg c_3, if_neg c_4, if_neg c_5, if_neg c_6, if_neg c_7, if_neg c_8, if_neg c_9, if_neg c_10, if_neg c_11, if_neg c_12, if_pos c_13] <;> simp only [List.append_assoc, List.append_nil]) hw)⟩, hS.F ht⟩) hS.2.2 d_T_operand_516
                          · by_cases c_14 : x1 = 110
                            · refine lv_tableIn (off := 374) (tgt := 375) hx hb d_T_operand_1 (by rw [c_14]; decide) (by rw [c_14]; decide) (by rw [c_14]; decide) (by decide) ?_
                              refine lv_aload_n hx hb d_T_operand_375 rfl (lv_at hl 0 rfl) ?_
                              refine lv_iload_n hx hb d_T_operand_376 rfl (lv_at hl 2 rfl) ?_
                              refine call_F_six S inC m_529 ⟨(Nat.le_of_ble_eq_true rfl), (Nat.le_of_ble_eq_true rfl)⟩ hl.1 (Nat.le_of_ble_eq_true rfl) d_T_operand_377 ⟨(Nat.le_of_ble_eq_true rfl), (Nat.le_of_ble_eq_true rfl)⟩ ?_
                              refine call_T_number S inC m_512 ⟨(Nat.le_of_ble_eq_true rfl), (Nat.le_of_ble_eq_true rfl)⟩ hl.1 (Nat.le_of_ble_eq_true rfl) d_T_operand_380 ⟨(Nat.le_of_ble_eq_true rfl), (Nat.le_of_ble_eq_true rfl)⟩ hK hne hC hS hA hw (fun H locs hw hS _ => ?_)
                              refine lv_goto (tgt := 516) hx hb d_T_operand_383 (by decide) ?_
                              exact W.vret hx hb hr (fun t ht hW => ⟨⟨(), rfl, trivial, tw_at ht (tw_eq (by rw [f_T_operand, if_neg c_1, if_neg c_2, if_neg c_3, if_neg c_4, if_neg c_5, if_neg c_6, if_neg c_7, if_neg c_8, if_neg c_9, if_neg c_10, if_neg c_11, if_neg c_12, if_neg c_13, if_pos c_14] <;> simp only [List.append_assoc, List.append_nil]) hw)⟩, hS.F ht⟩) hS.2.2 d_T_operand_516
                            · by_cases c_15 : x1 = 112
                              · refine lv_tableIn (off := 409) (tgt := 410) hx hb d_T_operand_1 (by rw [c_15]; decide) (by rw [c_15]; decide) (by rw [c_15]; decide) (by decide) ?_
                                refine lv_aload_n hx hb d_T_operand_410 rfl (lv_at hl 0 rfl) ?_
                                refine lv_iload_n hx hb d_T_operand_411 rfl (lv_at hl 2 rfl) ?_
                                refine call_F_times16 S inC m_531 ⟨(Nat.le_of_ble_eq_true rfl), (Nat.le_of_ble_eq_true rfl)⟩ hl.1 (Nat.le_of_ble_eq_true rfl) d_T_operand_412 ⟨(Nat.le_of_ble_eq_true rfl), (Nat.le_of_ble_eq_true rfl)⟩ ?_
                                refine call_T_number S inC m_512 ⟨(Nat.le_of_ble_eq_true rfl), (Nat.le_of_ble_eq_true rfl)⟩ hl.1 (Nat.le_of_ble_eq_true rfl) d_T_operand_415 ⟨(Nat.le_of_ble_eq_true rfl), (Nat.le_of_ble_eq_true rfl)⟩ hK hne hC hS hA hw (fun H locs hw hS _ => ?_)
                                refine lv_goto (tgt := 516) hx hb d_T_operand_418 (by decide) ?_
                                exact W.vret hx hb hr (fun t ht hW => ⟨⟨(), rfl, trivial, tw_at ht (tw_eq (by rw [f_T_operand, if_neg c_1, if_neg c_2, if_neg c_3, if_neg c_4, if_neg c_5, if_neg c_6, if_neg c_7, if_neg c_8, if_neg c_9, if_neg c_10, if_neg c_11, if_neg c_12, if_neg c_13, if_neg c_14, if_pos c_15] <;> simp only [List.append_assoc, List.append_nil]) hw)⟩, hS.F ht⟩) hS.2.2 d_T_operand_516
                              · by_cases c_16 : x1 = 114
                                · refine lv_tableIn (off := 281) (tgt := 282) hx hb d_T_operand_1 (by rw [c_16]; decide) (by rw [c_16]; decide) (by rw [c_16]; decide) (by decide) ?_
                                  refine lv_aload_n hx hb d_T_operand_282 rfl (lv_at hl 0 rfl) ?_
                                  refine lv_iload_n hx hb d_T_operand_283 rfl (lv_at hl 2 rfl) ?_
                                  refine lv_iconst (v := 2) hx hb d_T_operand_284 (by decide) ?_
                                  refine lv_ishr hx hb d_T_operand_285 ?_
                                  refine lv_bipush (v := 31) hx hb d_T_operand_286 (by decide) ?_
                                  refine lv_iand hx hb d_T_operand_288 ?_
                                  refine call_T_register S inC m_473 ⟨(Nat.le_of_ble_eq_true rfl), (Nat.le_of_ble_eq_true rfl)⟩ hl.1 (Nat.le_of_ble_eq_true rfl) d_T_operand_289 ⟨(Nat.le_of_ble_eq_true rfl), (Nat.le_of_ble_eq_true rfl)⟩ hK hne hC hS hA hw (fun H locs hw hS _ => ?_)
                                  refine lv_goto (tgt := 516) hx hb d_T_operand_292 (by decide) ?_
                                  exact W.vret hx hb hr (fun t ht hW => ⟨⟨(), rfl, trivial, tw_at ht (tw_eq (by rw [f_T_operand, if_neg c_1, if_neg c_2, if_neg c_3, if_neg c_4, if_neg c_5, if_neg c_6, if_neg c_7, if_neg c_8, if_neg c_9, if_neg c_10, if_neg c_11, if_neg c_12, if_neg c_13, if_neg c_14, if_neg c_15, if_pos c_16] <;> simp only [List.append_assoc, List.append_nil]) hw)⟩, hS.F ht⟩) hS.2.2 d_T_operand_516
                                · by_cases c_17 : x1 = 115
                                  · refine lv_tableIn (off := 352) (tgt := 353) hx hb d_T_operand_1 (by rw [c_17]; decide) (by rw [c_17]; decide) (by rw [c_17]; decide) (by decide) ?_
                                    refine lv_aload_n hx hb d_T_operand_353 rfl (lv_at hl 0 rfl) ?_
                                    refine lv_iload_n hx hb d_T_operand_354 rfl (lv_at hl 2 rfl) ?_
                                    refine call_F_store S inC m_526 ⟨(Nat.le_of_ble_eq_true rfl), (Nat.le_of_ble_eq_true rfl)⟩ hl.1 (Nat.le_of_ble_eq_true rfl) d_T_operand_355 ⟨(Nat.le_of_ble_eq_true rfl), (Nat.le_of_ble_eq_true rfl)⟩ ?_
                                    refine call_T_number S inC m_512 ⟨(Nat.le_of_ble_eq_true rfl), (Nat.le_of_ble_eq_true rfl)⟩ hl.1 (Nat.le_of_ble_eq_true rfl) d_T_operand_358 ⟨(Nat.le_of_ble_eq_true rfl), (Nat.le_of_ble_eq_true rfl)⟩ hK hne hC hS hA hw (fun H locs hw hS _ => ?_)
                                    refine lv_goto (tgt := 516) hx hb d_T_operand_361 (by decide) ?_
                                    exact W.vret hx hb hr (fun t ht hW => ⟨⟨(), rfl, trivial, tw_at ht (tw_eq (by rw [f_T_operand, if_neg c_1, if_neg c_2, if_neg c_3, if_neg c_4, if_neg c_5, if_neg c_6, if_neg c_7, if_neg c_8, if_neg c_9, if_neg c_10, if_neg c_11, if_neg c_12, if_neg c_13, if_neg c_14, if_neg c_15, if_neg c_16, if_pos c_17] <;> simp only [List.append_assoc, List.append_nil]) hw)⟩, hS.F ht⟩) hS.2.2 d_T_operand_516
                                  · by_cases c_18 : x1 = 117
                                    · refine lv_tableIn (off := 363) (tgt := 364) hx hb d_T_operand_1 (by rw [c_18]; decide) (by rw [c_18]; decide) (by rw [c_18]; decide) (by decide) ?_
                                      refine lv_aload_n hx hb d_T_operand_364 rfl (lv_at hl 0 rfl) ?_
                                      refine lv_iload_n hx hb d_T_operand_365 rfl (lv_at hl 2 rfl) ?_
                                      refine lv_bipush (v := 12) hx hb d_T_operand_366 (by decide) ?_
                                      refine lv_iushr (v := ushr x2 12) hx hb d_T_operand_368 rfl ?_
                                      refine call_T_number S inC m_512 ⟨(Nat.le_of_ble_eq_true rfl), (Nat.le_of_ble_eq_true rfl)⟩ hl.1 (Nat.le_of_ble_eq_true rfl) d_T_operand_369 ⟨(Nat.le_of_ble_eq_true rfl), (Nat.le_of_ble_eq_true rfl)⟩ hK hne hC hS hA hw (fun H locs hw hS _ => ?_)
                                      refine lv_goto (tgt := 516) hx hb d_T_operand_372 (by decide) ?_
                                      exact W.vret hx hb hr (fun t ht hW => ⟨⟨(), rfl, trivial, tw_at ht (tw_eq (by rw [f_T_operand, if_neg c_1, if_neg c_2, if_neg c_3, if_neg c_4, if_neg c_5, if_neg c_6, if_neg c_7, if_neg c_8, if_neg c_9, if_neg c_10, if_neg c_11, if_neg c_12, if_neg c_13, if_neg c_14, if_neg c_15, if_neg c_16, if_neg c_17, if_pos c_18] <;> simp only [List.append_assoc, List.append_nil]) hw)⟩, hS.F ht⟩) hS.2.2 d_T_operand_516
                                    · by_cases c_19 : x1 = 118
                                      · refine lv_tableIn (off := 497) (tgt := 498) hx hb d_T_operand_1 (by rw [c_19]; decide) (by rw [c_19]; decide) (by rw [c_19]; decide) (by decide) ?_
                                        refine lv_aload_n hx hb d_T_operand_498 rfl (lv_at hl 0 rfl) ?_
                                        refine lv_iload_n hx hb d_T_operand_499 rfl (lv_at hl 2 rfl) ?_
                                        refine lv_i2l (v := x2.toInt64) hx hb d_T_operand_500 rfl ?_
                                        refine lv_ldc2 (v := 4294967295) hx hb hown (hT _ m_559) d_T_operand_501 ?_
                                        refine lv_land hx hb d_T_operand_504 ?_
                                        refine call_T_digits S inC m_519 ⟨(Nat.le_of_ble_eq_true rfl), (Nat.le_of_ble_eq_true rfl)⟩ hl.1 (Nat.le_of_ble_eq_true rfl) d_T_operand_505 ⟨(Nat.le_of_ble_eq_true rfl), (Nat.le_of_ble_eq_true rfl)⟩ hK hne hC hS hA hw (fun H locs hw hS _ => ?_)
                                        refine lv_goto (tgt := 516) hx hb d_T_operand_508 (by decide) ?_
                                        exact W.vret hx hb hr (fun t ht hW => ⟨⟨(), rfl, trivial, tw_at ht (tw_eq (by rw [f_T_operand, if_neg c_1, if_neg c_2, if_neg c_3, if_neg c_4, if_neg c_5, if_neg c_6, if_neg c_7, if_neg c_8, if_neg c_9, if_neg c_10, if_neg c_11, if_neg c_12, if_neg c_13, if_neg c_14, if_neg c_15, if_neg c_16, if_neg c_17, if_neg c_18, if_pos c_19] <;> simp only [List.append_assoc, List.append_nil]) hw)⟩, hS.F ht⟩) hS.2.2 d_T_operand_516
                                      · by_cases c_20 : x1 = 119
                                        · refine lv_tableIn (off := 420) (tgt := 421) hx hb d_T_operand_1 (by rw [c_20]; decide) (by rw [c_20]; decide) (by rw [c_20]; decide) (by decide) ?_
                                          refine lv_aload_n hx hb d_T_operand_421 rfl (lv_at hl 0 rfl) ?_
                                          refine lv_iload_n hx hb d_T_operand_422 rfl (lv_at hl 2 rfl) ?_
                                          refine call_F_shortWord S inC m_534 ⟨(Nat.le_of_ble_eq_true rfl), (Nat.le_of_ble_eq_true rfl)⟩ hl.1 (Nat.le_of_ble_eq_true rfl) d_T_operand_423 ⟨(Nat.le_of_ble_eq_true rfl), (Nat.le_of_ble_eq_true rfl)⟩ ?_
                                          refine call_T_number S inC m_512 ⟨(Nat.le_of_ble_eq_true rfl), (Nat.le_of_ble_eq_true rfl)⟩ hl.1 (Nat.le_of_ble_eq_true rfl) d_T_operand_426 ⟨(Nat.le_of_ble_eq_true rfl), (Nat.le_of_ble_eq_true rfl)⟩ hK hne hC hS hA hw (fun H locs hw hS _ => ?_)
                                          refine lv_goto (tgt := 516) hx hb d_T_operand_429 (by decide) ?_
                                          exact W.vret hx hb hr (fun t ht hW => ⟨⟨(), rfl, trivial, tw_at ht (tw_eq (by rw [f_T_operand, if_neg c_1, if_neg c_2, if_neg c_3, if_neg c_4, if_neg c_5, if_neg c_6, if_neg c_7, if_neg c_8, if_neg c_9, if_neg c_10, if_neg c_11, if_neg c_12, if_neg c_13, if_neg c_14, if_neg c_15, if_neg c_16, if_neg c_17, if_neg c_18, if_neg c_19, if_pos c_20] <;> simp only [List.append_assoc, List.append_nil]) hw)⟩, hS.F ht⟩) hS.2.2 d_T_operand_516
                                        · by_cases c_21 : x1 = 120
                                          · refine lv_tableIn (off := 294) (tgt := 295) hx hb d_T_operand_1 (by rw [c_21]; decide) (by rw [c_21]; decide) (by rw [c_21]; decide) (by decide) ?_
                                            refine lv_aload_n hx hb d_T_operand_295 rfl (lv_at hl 0 rfl) ?_
                                            refine lv_bipush (v := 8) hx hb d_T_operand_296 (by decide) ?_
                                            refine lv_iload_n hx hb d_T_operand_298 rfl (lv_at hl 2 rfl) ?_
                                            refine lv_bipush (v := 7) hx hb d_T_operand_299 (by decide) ?_
                                            refine lv_ishr hx hb d_T_operand_301 ?_
                                            refine lv_bipush (v := 7) hx hb d_T_operand_302 (by decide) ?_
                                            refine lv_iand hx hb d_T_operand_304 ?_
                                            refine lv_iadd hx hb d_T_operand_305 ?_
                                            refine call_T_register S inC m_473 ⟨(Nat.le_of_ble_eq_true rfl), (Nat.le_of_ble_eq_true rfl)⟩ hl.1 (Nat.le_of_ble_eq_true rfl) d_T_operand_306 ⟨(Nat.le_of_ble_eq_true rfl), (Nat.le_of_ble_eq_true rfl)⟩ hK hne hC hS hA hw (fun H locs hw hS _ => ?_)
                                            refine lv_goto (tgt := 516) hx hb d_T_operand_309 (by decide) ?_
                                            exact W.vret hx hb hr (fun t ht hW => ⟨⟨(), rfl, trivial, tw_at ht (tw_eq (by rw [f_T_operand, if_neg c_1, if_neg c_2, if_neg c_3, if_neg c_4, if_neg c_5, if_neg c_6, if_neg c_7, if_neg c_8, if_neg c_9, if_neg c_10, if_neg c_11, if_neg c_12, if_neg c_13, if_neg c_14, if_neg c_15, if_neg c_16, if_neg c_17, if_neg c_18, if_neg c_19, if_neg c_20, if_pos c_21] <;> simp only [List.append_assoc, List.append_nil]) hw)⟩, hS.F ht⟩) hS.2.2 d_T_operand_516
                                          · by_cases c_22 : x1 = 121
                                            · refine lv_tableIn (off := 311) (tgt := 312) hx hb d_T_operand_1 (by rw [c_22]; decide) (by rw [c_22]; decide) (by rw [c_22]; decide) (by decide) ?_
                                              refine lv_aload_n hx hb d_T_operand_312 rfl (lv_at hl 0 rfl) ?_
                                              refine lv_bipush (v := 8) hx hb d_T_operand_313 (by decide) ?_
                                              refine lv_iload_n hx hb d_T_operand_315 rfl (lv_at hl 2 rfl) ?_
                                              refine lv_iconst (v := 2) hx hb d_T_operand_316 (by decide) ?_
                                              refine lv_ishr hx hb d_T_operand_317 ?_
                                              refine lv_bipush (v := 7) hx hb d_T_operand_318 (by decide) ?_
                                              refine lv_iand hx hb d_T_operand_320 ?_
                                              refine lv_iadd hx hb d_T_operand_321 ?_
                                              refine call_T_register S inC m_473 ⟨(Nat.le_of_ble_eq_true rfl), (Nat.le_of_ble_eq_true rfl)⟩ hl.1 (Nat.le_of_ble_eq_true rfl) d_T_operand_322 ⟨(Nat.le_of_ble_eq_true rfl), (Nat.le_of_ble_eq_true rfl)⟩ hK hne hC hS hA hw (fun H locs hw hS _ => ?_)
                                              refine lv_goto (tgt := 516) hx hb d_T_operand_325 (by decide) ?_
                                              exact W.vret hx hb hr (fun t ht hW => ⟨⟨(), rfl, trivial, tw_at ht (tw_eq (by rw [f_T_operand, if_neg c_1, if_neg c_2, if_neg c_3, if_neg c_4, if_neg c_5, if_neg c_6, if_neg c_7, if_neg c_8, if_neg c_9, if_neg c_10, if_neg c_11, if_neg c_12, if_neg c_13, if_neg c_14, if_neg c_15, if_neg c_16, if_neg c_17, if_neg c_18, if_neg c_19, if_neg c_20, if_neg c_21, if_pos c_22] <;> simp only [List.append_assoc, List.append_nil]) hw)⟩, hS.F ht⟩) hS.2.2 d_T_operand_516
                                            · refine tb_out (tgt := 511) hx hb d_T_operand_1 (by have n0 := lv_neT c_1 (show (66 : Int32).toInt = 66 from (by decide)); have n1 := lv_neT c_2 (show (67 : Int32).toInt = 67 from (by decide)); have n2 := lv_neT c_3 (show (74 : Int32).toInt = 74 from (by decide)); have n3 := lv_neT c_4 (show (90 : Int32).toInt = 90 from (by decide)); have n4 := lv_neT c_5 (show (97 : Int32).toInt = 97 from (by decide)); have n5 := lv_neT c_6 (show (98 : Int32).toInt = 98 from (by decide)); have n6 := lv_neT c_7 (show (100 : Int32).toInt = 100 from (by decide)); have n7 := lv_neT c_8 (show (102 : Int32).toInt = 102 from (by decide)); have n8 := lv_neT c_9 (show (104 : Int32).toInt = 104 from (by decide)); have n9 := lv_neT c_10 (show (105 : Int32).toInt = 105 from (by decide)); have n10 := lv_neT c_11 (show (107 : Int32).toInt = 107 from (by decide)); have n11 := lv_neT c_12 (show (108 : Int32).toInt = 108 from (by decide)); have n12 := lv_neT c_13 (show (109 : Int32).toInt = 109 from (by decide)); have n13 := lv_neT c_14 (show (110 : Int32).toInt = 110 from (by decide)); have n14 := lv_neT c_15 (show (112 : Int32).toInt = 112 from (by decide)); have n15 := lv_neT c_16 (show (114 : Int32).toInt = 114 from (by decide)); have n16 := lv_neT c_17 (show (115 : Int32).toInt = 115 from (by decide)); have n17 := lv_neT c_18 (show (117 : Int32).toInt = 117 from (by decide)); have n18 := lv_neT c_19 (show (118 : Int32).toInt = 118 from (by decide)); have n19 := lv_neT c_20 (show (119 : Int32).toInt = 119 from (by decide)); have n20 := lv_neT c_21 (show (120 : Int32).toInt = 120 from (by decide)); have n21 := lv_neT c_22 (show (121 : Int32).toInt = 121 from (by decide)); intro j hj hi; have key : ∀ j : Nat, j < 56 → j ∈ ([0, 1, 8, 24, 31, 32, 34, 36, 38, 39, 41, 42, 43, 44, 46, 48, 49, 51, 52, 53, 54, 55] : List Nat) ∨ (#[453, 475, 510, 510, 510, 510, 510, 510, 464, 510, 510, 510, 510, 510, 510, 510, 510, 510, 510, 510, 510, 510, 510, 510, 486, 510, 510, 510, 510, 510, 510, 253, 267, 510, 239, 510, 398, 510, 338, 327, 510, 442, 431, 385, 374, 510, 409, 510, 281, 352, 510, 363, 497, 420, 294, 311] : Array Int)[j]? = some 510 := (by decide); exact (key j (by omega)).elim (fun h => absurd h (by simp only [List.mem_cons, List.not_mem_nil, or_false]; omega)) id) (by decide) ?_
                                              refine lv_aload_n hx hb d_T_operand_511 rfl (lv_at hl 0 rfl) ?_
                                              refine lv_iload_n hx hb d_T_operand_512 rfl (lv_at hl 1 rfl) ?_
                                              refine call_T_put S inC m_454 ⟨(Nat.le_of_ble_eq_true rfl), (Nat.le_of_ble_eq_true rfl)⟩ hl.1 (Nat.le_of_ble_eq_true rfl) d_T_operand_513 ⟨(Nat.le_of_ble_eq_true rfl), (Nat.le_of_ble_eq_true rfl)⟩ hK hne hC hS hA hw hcc (fun H locs hw hS _ => ?_)
                                              exact W.vret hx hb hr (fun t ht hW => ⟨⟨(), rfl, trivial, tw_at ht (tw_eq (by rw [f_T_operand, if_neg c_1, if_neg c_2, if_neg c_3, if_neg c_4, if_neg c_5, if_neg c_6, if_neg c_7, if_neg c_8, if_neg c_9, if_neg c_10, if_neg c_11, if_neg c_12, if_neg c_13, if_neg c_14, if_neg c_15, if_neg c_16, if_neg c_17, if_neg c_18, if_neg c_19, if_neg c_20, if_neg c_21, if_neg c_22] <;> simp only [List.append_assoc, List.append_nil]) hw)⟩, hS.F ht⟩) hS.2.2 d_T_operand_516
theorem call_T_operand {p : Program} {l : Launch} {e : Env} {R : Room} {s : State} {m : MethodId} {args : Array Value} {below : List Frame} {meth : Method} {c : Code} {H : Heap} {locs : List Loc} {cells slots : Nat} {Q : State → Prop} {cc : ByteArray} {pc nL idx : Nat} {ls : Array Slot} {rest : List Value} {Ts : List Cond} {own : String} {adE adK adV : Nat → Nat} {A0 : Nat → Prop} {dC : Nat → ClassId} {dI : Nat → Nat → Nat} {cC : ClassId} {h0 h1 : Nat} {v : List Int32} {x1 x2 : Int32} (S : CallFix p m c cc nL s args Ts own) (hTs : ∀ w ∈ WT, w ∈ Ts) (h1' : Cond.methodLink own idx y_T_operand ∈ WT) (hR : 6 + 1 ≤ R.frames ∧ 8 + (3 + 11) + 128 ≤ R.locals) (hsz : ls.size = nL) (hrm : (rest.map fun v => v.category).sum ≤ 8) (hdg : decode cc pc = .ok (.invokevirtual idx, 3)) (hc : cells ≤ R.cells ∧ slots ≤ R.slots) (hK : va_K (dC, dI) classes [(cC, .char)] s) (hne : h0 ≠ h1) (hC : cx adE adK adV A0 s s.heap) (hS : va_S A0 s.heap H locs) (hA : ∀ q, aT h0 h1 q → A0 q) (hw : tw dC dI cC h0 h1 v H) (hcc : vp_nar .char x1 = x1) (kk : ∀ (H1 : Heap) (locs1 : List Loc), tw dC dI cC h0 h1 (v ++ f_T_operand x1 x2) H1 → va_S A0 s.heap H1 locs1 → (H.size ≤ H1.size ∧ ∀ q : Nat, q < H.size → ¬ aT h0 h1 q → H1[q]? = H[q]?) → W p l e R s m args below meth c H1 locs1 cells slots Q (F0 m (pc + 3) ls rest)) : W p l e R s m args below meth c H locs cells slots Q (F0 m pc ls (.int x2 :: .int x1 :: .ref h0 :: rest)) :=
  va_callv (va_runV (As := [.int x1, .int x2]) (rest := rest) S (c_T_operand l adE adK adV dC dI cC h0 h1 v x1 x2) (cwV 2 S.2.2.2.2 (gV hTs h1' m_471 m_4 m_50 m_472) rfl rfl rfl (by decide +kernel) hR) ⟨fun a U g mk q => ⟨q.1, ⟨q.2.1.blind, q.2.2⟩⟩, tw_recv hK hw, fun U hU hW => ⟨rfl, ⟨twU.at hK hne hC hS hA hw hU hW, hcc⟩⟩⟩ rfl rfl hsz rfl (lv_room hrm) hdg hc) hS (fun q _ h => hA q h) hA (fun u t H1 locs1 ht hvm hp hB hz hk hS1 => kk H1 locs1 (by rw [← ht]; exact hB) hS1 ⟨hz, hk⟩)
end
section
def opsT (l : List Int32) (b : Int32) : List Int32 := l.flatMap (fun c => f_T_operand c b)
def f_T_write (i : Nat) (b : Int32) : List Int32 := sTx (kW.getD i 0) ++ ((if kOrd.getD i 0 = 0 then [] else f_T_order ((b >>> ((25 : Int32) &&& 31)) &&& 3)) ++ ((if f_JS_isEmpty (kO.getD i 0) = 0 then [32] else []) ++ opsT (sTx (kO.getD i 0)) b))
theorem kWO_lt : ∀ i, i < 95 → kW.getD i 0 < 159 ∧ kO.getD i 0 < 159 := by decide +kernel
theorem opsT_succ {l : List Int32} {b : Int32} {i : Nat} (h : i < l.length) : opsT (l.take (i + 1)) b = opsT (l.take i) b ++ f_T_operand (l.getD i 0) b := by
  rw [tk_succ h, opsT, List.flatMap_append, opsT, List.flatMap_cons, List.flatMap_nil, List.append_nil]

set_option maxRecDepth 100000 in
set_option maxHeartbeats 4000000 in
theorem lp_T_write {p : Program} {l : Launch} {e : Env} {R : Room} {s : State} {m : MethodId} {args : Array Value} {below : List Frame} {meth : Method} {c : Code} {cells slots : Nat} {Q : State → Prop} {Ts : List Cond} {adE adK adV : Nat → Nat} {A0 : Nat → Prop} {dC : Nat → ClassId} {dI : Nat → Nat → Nat} {cC : ClassId} {h0 h1 : Nat} {v : List Int32} {k q1 : Nat} {b : Int32} (S : CallFix p m c b_T_write 5 s args Ts R_T) (hTs : ∀ w ∈ WT, w ∈ Ts) (hT : ∀ w ∈ WT, w.before args s = true) (hfr : 7 ≤ R.frames) (hlo : 150 ≤ R.locals) (hc : cells ≤ R.cells ∧ slots ≤ R.slots) (hK : va_K (dC, dI) classes [(cC, .char)] s) (hne : h0 ≠ h1) (hC : cx adE adK adV A0 s s.heap) (hA : ∀ q, aT h0 h1 q → A0 q) (hk : k < 159)
    (kk : ∀ (H : Heap) (locs : List Loc) (ls : Array Slot), tw dC dI cC h0 h1 (v ++ opsT (sTx k) b) H → va_S A0 s.heap H locs → W p l e R s m args below meth c H locs cells slots Q (F0 m 77 ls [])) :
    ∀ (n i : Nat), i + n = (sTx k).length → ∀ (H : Heap) (locs : List Loc) (ls : Array Slot), tw dC dI cC h0 h1 (v ++ opsT ((sTx k).take i) b) H → va_S A0 s.heap H locs → lv_has ls 5 [(4, .int (nI i)), (3, .ref (adK k)), (0, .ref h0), (1, .ref q1), (2, .int b)] → W p l e R s m args below meth c H locs cells slots Q (F0 m 51 ls []) := by
  have hlt := sTx_lt k hk
  have hx := S.1
  have hb := S.2.1
  have hown := S.2.2.2.1
  intro n
  induction n with
  | zero =>
    intro i hi H locs ls hw hS hl
    refine lv_iload hx hb d_T_write_51 (lv_at hl 0 rfl) ?_
    refine lv_aload_n hx hb d_T_write_53 rfl (lv_at hl 1 rfl) ?_
    refine call_JS_length S hTs m_406 ⟨by omega, by omega⟩ hl.1 (Nat.le_of_ble_eq_true rfl) d_T_write_54 hc hC hS hk ?_
    refine lv_icmp_ge (tgt := 77) hx hb d_T_write_57 (by decide) (fun _ => ?_) (fun h => absurd (nI_le (by omega) (by omega)) h)
    exact kk H locs ls (tw_eq (by rw [List.take_of_length_le (by omega)]) hw) hS
  | succ n ih =>
    intro i hi H locs ls hw hS hl
    have hin : i < (sTx k).length := by omega
    refine lv_iload hx hb d_T_write_51 (lv_at hl 0 rfl) ?_
    refine lv_aload_n hx hb d_T_write_53 rfl (lv_at hl 1 rfl) ?_
    refine call_JS_length S hTs m_406 ⟨by omega, by omega⟩ hl.1 (Nat.le_of_ble_eq_true rfl) d_T_write_54 hc hC hS hk ?_
    refine lv_icmp_ge (tgt := 77) hx hb d_T_write_57 (by decide) (fun h => absurd h (nI_ge (by omega) (by omega))) (fun _ => ?_)
    refine lv_aload_n hx hb d_T_write_60 rfl (lv_at hl 2 rfl) ?_
    refine lv_aload_n hx hb d_T_write_61 rfl (lv_at hl 1 rfl) ?_
    refine lv_iload hx hb d_T_write_62 (lv_at hl 0 rfl) ?_
    refine call_JS_charAt S hTs m_416 ⟨by omega, by omega⟩ hl.1 (Nat.le_of_ble_eq_true rfl) d_T_write_64 hc hC hS hk hin ?_
    refine lv_iload_n hx hb d_T_write_67 rfl (lv_at hl 4 rfl) ?_
    refine call_T_operand S hTs m_469 ⟨by omega, by omega⟩ hl.1 (Nat.le_of_ble_eq_true rfl) d_T_write_68 hc hK hne hC hS hA hw (sTx_vn k hk i hin) (fun H locs hw hS _ => ?_)
    refine lv_iinc (v := nI (i + 1)) (lv' := [(4, .int (nI (i + 1))), (3, .ref (adK k)), (0, .ref h0), (1, .ref q1), (2, .int b)]) hx hb d_T_write_71 hl (k := 0) rfl (nI_inc i) (by decide) rfl (fun ls hl => ?_)
    refine lv_goto (tgt := 51) hx hb d_T_write_74 (by decide) ?_
    exact ih (i + 1) (by omega) H locs ls (tw_eq (by rw [opsT_succ hin, List.append_assoc]) hw) hS hl

set_option maxRecDepth 100000 in
set_option maxHeartbeats 4000000 in
theorem w48_T_write {p : Program} {l : Launch} {e : Env} {R : Room} {s : State} {m : MethodId} {args : Array Value} {below : List Frame} {meth : Method} {c : Code} {cells slots : Nat} {Q : State → Prop} {Ts : List Cond} {adE adK adV : Nat → Nat} {A0 : Nat → Prop} {dC : Nat → ClassId} {dI : Nat → Nat → Nat} {cC : ClassId} {h0 h1 : Nat} {v : List Int32} {k q1 : Nat} {b : Int32} (S : CallFix p m c b_T_write 5 s args Ts R_T) (hTs : ∀ w ∈ WT, w ∈ Ts) (hT : ∀ w ∈ WT, w.before args s = true) (hfr : 7 ≤ R.frames) (hlo : 150 ≤ R.locals) (hc : cells ≤ R.cells ∧ slots ≤ R.slots) (hK : va_K (dC, dI) classes [(cC, .char)] s) (hne : h0 ≠ h1) (hC : cx adE adK adV A0 s s.heap) (hA : ∀ q, aT h0 h1 q → A0 q) (hk : k < 159)
    (kk : ∀ (H : Heap) (locs : List Loc) (ls : Array Slot), tw dC dI cC h0 h1 (v ++ opsT (sTx k) b) H → va_S A0 s.heap H locs → W p l e R s m args below meth c H locs cells slots Q (F0 m 77 ls []))
    {H : Heap} {locs : List Loc} {ls : Array Slot} (hw : tw dC dI cC h0 h1 v H) (hS : va_S A0 s.heap H locs) (hl : lv_has ls 5 [(3, .ref (adK k)), (0, .ref h0), (1, .ref q1), (2, .int b)]) : W p l e R s m args below meth c H locs cells slots Q (F0 m 48 ls []) := by
  have hx := S.1
  have hb := S.2.1
  refine lv_iconst (v := 0) hx hb d_T_write_48 (by decide) ?_
  refine lv_istore (lv' := [(4, .int 0), (3, .ref (adK k)), (0, .ref h0), (1, .ref q1), (2, .int b)]) hx hb d_T_write_49 hl (by decide) rfl (fun ls hl => ?_)
  exact lp_T_write S hTs hT hfr hlo hc hK hne hC hA hk kk (sTx k).length 0 (by omega) H locs ls (tw_eq (by rw [List.take_zero, opsT, List.flatMap_nil, List.append_nil]) hw) hS hl
set_option maxRecDepth 100000 in
set_option maxHeartbeats 4000000 in
theorem w30_T_write {p : Program} {l : Launch} {e : Env} {R : Room} {s : State} {m : MethodId} {args : Array Value} {below : List Frame} {meth : Method} {c : Code} {cells slots : Nat} {Q : State → Prop} {Ts : List Cond} {adE adK adV : Nat → Nat} {A0 : Nat → Prop} {dC : Nat → ClassId} {dI : Nat → Nat → Nat} {cC : ClassId} {h0 h1 : Nat} {v : List Int32} {i : Nat} {b : Int32} (S : CallFix p m c b_T_write 5 s args Ts R_T) (hTs : ∀ w ∈ WT, w ∈ Ts) (hT : ∀ w ∈ WT, w.before args s = true) (hfr : 7 ≤ R.frames) (hlo : 150 ≤ R.locals) (hc : cells ≤ R.cells ∧ slots ≤ R.slots) (hK : va_K (dC, dI) classes [(cC, .char)] s) (hne : h0 ≠ h1) (hC : cx adE adK adV A0 s s.heap) (hA : ∀ q, aT h0 h1 q → A0 q) (hi : i < 95)
    (kk : ∀ (H : Heap) (locs : List Loc) (ls : Array Slot), tw dC dI cC h0 h1 (v ++ ((if f_JS_isEmpty (kO.getD i 0) = 0 then [32] else []) ++ opsT (sTx (kO.getD i 0)) b)) H → va_S A0 s.heap H locs → W p l e R s m args below meth c H locs cells slots Q (F0 m 77 ls []))
    {H : Heap} {locs : List Loc} {ls : Array Slot} (hw : tw dC dI cC h0 h1 v H) (hS : va_S A0 s.heap H locs) (hl : lv_has ls 5 [(0, .ref h0), (1, .ref (adE i)), (2, .int b)]) : W p l e R s m args below meth c H locs cells slots Q (F0 m 30 ls []) := by
  have hx := S.1
  have hb := S.2.1
  have hown := S.2.2.2.1
  have hk := (kWO_lt i hi).2
  refine lv_aload_n hx hb d_T_write_30 rfl (lv_at hl 1 rfl) ?_
  refine vk_getf hx hb (hC.1 i hi).2.2.2.2 hS hown (hT _ m_1069) (fun _ h => h) d_T_write_31 ?_
  refine lv_astore_n (lv' := [(3, .ref (adK (kO.getD i 0))), (0, .ref h0), (1, .ref (adE i)), (2, .int b)]) hx hb d_T_write_34 rfl hl (by decide) rfl (fun ls hl => ?_)
  refine lv_aload_n hx hb d_T_write_35 rfl (lv_at hl 0 rfl) ?_
  refine call_JS_isEmpty S hTs m_465 ⟨by omega, by omega⟩ hl.1 (Nat.le_of_ble_eq_true rfl) d_T_write_36 hc hC hS hk ?_
  refine lv_if_ne (tgt := 48) hx hb d_T_write_39 (by decide) (fun h => ?_) (fun h => ?_)
  · exact w48_T_write S hTs hT hfr hlo hc hK hne hC hA hk (fun H locs ls hw hS => kk H locs ls (tw_eq (by rw [if_neg h, List.nil_append]) hw) hS) hw hS hl
  · refine lv_aload_n hx hb d_T_write_42 rfl (lv_at hl 1 rfl) ?_
    refine lv_bipush (v := 32) hx hb d_T_write_43 (by decide) ?_
    refine call_T_put S hTs m_454 ⟨by omega, by omega⟩ hl.1 (Nat.le_of_ble_eq_true rfl) d_T_write_45 hc hK hne hC hS hA hw (by decide) (fun H locs hw hS _ => ?_)
    exact w48_T_write S hTs hT hfr hlo hc hK hne hC hA hk (fun H locs ls hw hS => kk H locs ls (tw_eq (by rw [if_pos h, List.append_assoc]) hw) hS) hw hS hl

set_option maxRecDepth 100000 in
set_option maxHeartbeats 4000000 in
theorem c_T_write (l : Launch) (adE adK adV : Nat → Nat) (dC : Nat → ClassId) (dI : Nat → Nat → Nat) (cC : ClassId) (h0 h1 : Nat) (v : List Int32) (i : Nat) (b : Int32) : Met l y_T_write (Cond.code y_T_write b_T_write 5 none :: WT) ({ frames := 7, cells := 0, slots := 0, locals := 150 }) (va_Pc [.ref h0, .ref (adE i), .int b] (fun U => twU adE adK adV dC dI cC h0 h1 v U ∧ i < 95)) (va_Qv (fun _ : Unit => True) (fun _ t => tw dC dI cC h0 h1 (f_T_write i b) t.heap) (aT h0 h1)) 0 0 (aT h0 h1) := by
  refine va_MetF (cc := b_T_write) (maxL := 5) (ret := none) (by decide +kernel) rfl ?_
  intro p e s m args below meth c s₁ B hml hv
  obtain ⟨rfl, ⟨hK, hne, hC, hw⟩, hi⟩ := hv
  have hx := B.exec
  have hb := B.bytes
  have hr := B.returns
  have hts := atoms_spec (ws := (Cond.code y_T_write b_T_write 5 none :: WT)) B.pre
  have hT : ∀ w ∈ WT, w.before _ s = true := fun w h => hts w (inC w h)
  have hown : s.vm.findClass R_T = some m.cls := findClass_of_methodNamed B.named
  have hlocks := B.notSynchronized
  have hS : va_S (aT h0 h1) s.heap s.heap [] := va_S.rf
  have S : CallFix p m c b_T_write 5 s _ (Cond.code y_T_write b_T_write 5 none :: WT) R_T := ⟨hx, hb, hml, hown, hts⟩
  have hl := lv_entry ([.ref h0, .ref (adE i), .int b]) (n := 5) (Nat.le_of_ble_eq_true rfl)
  rw [lg_entry_eq]
  generalize (lg_sl ([.ref h0, .ref (adE i), .int b]) ++ List.replicate (5 - (lg_sl ([.ref h0, .ref (adE i), .int b])).length) Slot.unset).toArray = ls at hl ⊢
  have hl : lv_has ls 5 [(0, .ref h0), (1, .ref (adE i)), (2, .int b)] := hl
  have hA : ∀ q, aT h0 h1 q → aT h0 h1 q := fun _ h => h
  obtain ⟨f, n, ht0, hP⟩ := hw
  have hD : va_D (aT h0 h1) (wT h0 h1 cC f n) := wT_D hne
  have hk := (kWO_lt i hi).1
  refine lv_aload_n hx hb d_T_write_0 rfl (lv_at hl 0 rfl) ?_
  refine lv_iconst (v := 0) hx hb d_T_write_1 (by decide) ?_
  refine va_put (D := (dC, dI)) (ci := 0) (v := .int 0) (ty := .int) (C := R_T) (T := F_T) (N := 2) hx hb hT i_T ft_T ft_T_ok n_T hown hK hP hD hS 0 rfl rfl 1 (by decide) (hT _ m_82) (fun _ h9 => h9) rfl (by decide +kernel) rfl rfl (Nat.le_of_ble_eq_true rfl) d_T_write_2 (fun H locs hP hD hS => ?_)
  have hw : tw dC dI cC h0 h1 [] H := ⟨f, 0, ⟨nI_0.symm, fun j hj => absurd hj (by simp)⟩, hP⟩
  refine lv_aload_n hx hb d_T_write_5 rfl (lv_at hl 0 rfl) ?_
  refine lv_aload_n hx hb d_T_write_6 rfl (lv_at hl 1 rfl) ?_
  refine vk_getf hx hb (hC.1 i hi).2.2.2.1 hS hown (hT _ m_1065) (fun _ h => h) d_T_write_7 ?_
  refine call_T_word S inC m_402 ⟨(Nat.le_of_ble_eq_true rfl), (Nat.le_of_ble_eq_true rfl)⟩ hl.1 (Nat.le_of_ble_eq_true rfl) d_T_write_10 ⟨(Nat.le_of_ble_eq_true rfl), (Nat.le_of_ble_eq_true rfl)⟩ hK hne hC hS hA hw hk (fun H locs hw hS _ => ?_)
  refine lv_aload_n hx hb d_T_write_13 rfl (lv_at hl 1 rfl) ?_
  refine vk_getf hx hb (hC.1 i hi).2.2.1 hS hown (hT _ m_1068) (fun _ h => h) d_T_write_14 ?_
  refine lv_if_eq (tgt := 30) hx hb d_T_write_17 (by decide) (fun h => ?_) (fun h => ?_)
  · refine w30_T_write S inC hT (Nat.le_of_ble_eq_true rfl) (Nat.le_of_ble_eq_true rfl) ⟨(Nat.le_of_ble_eq_true rfl), (Nat.le_of_ble_eq_true rfl)⟩ hK hne hC hA hi (fun H locs ls hw hS => ?_) hw hS hl
    exact W.vret hx hb hr (fun t ht hW => ⟨⟨(), rfl, trivial, tw_at ht (tw_eq (by rw [f_T_write, if_pos h] <;> simp only [List.nil_append]) hw)⟩, hS.F ht⟩) hS.2.2 d_T_write_77
  · refine lv_aload_n hx hb d_T_write_20 rfl (lv_at hl 0 rfl) ?_
    refine lv_iload_n hx hb d_T_write_21 rfl (lv_at hl 2 rfl) ?_
    refine lv_bipush (v := 25) hx hb d_T_write_22 (by decide) ?_
    refine lv_ishr hx hb d_T_write_24 ?_
    refine lv_iconst (v := 3) hx hb d_T_write_25 (by decide) ?_
    refine lv_iand hx hb d_T_write_26 ?_
    refine call_T_order S inC m_458 ⟨(Nat.le_of_ble_eq_true rfl), (Nat.le_of_ble_eq_true rfl)⟩ hl.1 (Nat.le_of_ble_eq_true rfl) d_T_write_27 ⟨(Nat.le_of_ble_eq_true rfl), (Nat.le_of_ble_eq_true rfl)⟩ hK hne hC hS hA hw (fun H locs hw hS _ => ?_)
    refine w30_T_write S inC hT (Nat.le_of_ble_eq_true rfl) (Nat.le_of_ble_eq_true rfl) ⟨(Nat.le_of_ble_eq_true rfl), (Nat.le_of_ble_eq_true rfl)⟩ hK hne hC hA hi (fun H locs ls hw hS => ?_) hw hS hl
    exact W.vret hx hb hr (fun t ht hW => ⟨⟨(), rfl, trivial, tw_at ht (tw_eq (by rw [f_T_write, if_neg h] <;> simp only [List.nil_append, List.append_assoc]) hw)⟩, hS.F ht⟩) hS.2.2 d_T_write_77

theorem call_T_write {p : Program} {l : Launch} {e : Env} {R : Room} {s : State} {m : MethodId} {args : Array Value} {below : List Frame} {meth : Method} {c : Code} {H : Heap} {locs : List Loc} {cells slots : Nat} {Q : State → Prop} {cc : ByteArray} {pc nL idx : Nat} {ls : Array Slot} {rest : List Value} {Ts : List Cond} {own : String} {adE adK adV : Nat → Nat} {A0 : Nat → Prop} {dC : Nat → ClassId} {dI : Nat → Nat → Nat} {cC : ClassId} {h0 h1 : Nat} {v : List Int32} {i : Nat} {b : Int32} (S : CallFix p m c cc nL s args Ts own) (hTs : ∀ w ∈ WT, w ∈ Ts) (h1' : Cond.methodLink own idx y_T_write ∈ WT) (hR : 7 + 1 ≤ R.frames ∧ 8 + (5 + 11) + 150 ≤ R.locals) (hsz : ls.size = nL) (hrm : (rest.map fun v => v.category).sum ≤ 8) (hdg : decode cc pc = .ok (.invokevirtual idx, 3)) (hc : cells ≤ R.cells ∧ slots ≤ R.slots) (hK : va_K (dC, dI) classes [(cC, .char)] s) (hne : h0 ≠ h1) (hC : cx adE adK adV A0 s s.heap) (hS : va_S A0 s.heap H locs) (hA : ∀ q, aT h0 h1 q → A0 q) (hw : tw dC dI cC h0 h1 v H) (hi : i < 95) (kk : ∀ (H1 : Heap) (locs1 : List Loc), tw dC dI cC h0 h1 (f_T_write i b) H1 → va_S A0 s.heap H1 locs1 → (H.size ≤ H1.size ∧ ∀ q : Nat, q < H.size → ¬ aT h0 h1 q → H1[q]? = H[q]?) → W p l e R s m args below meth c H1 locs1 cells slots Q (F0 m (pc + 3) ls rest)) : W p l e R s m args below meth c H locs cells slots Q (F0 m pc ls (.int b :: .ref (adE i) :: .ref h0 :: rest)) :=
  va_callv (va_runV (As := [.ref (adE i), .int b]) (rest := rest) S (c_T_write l adE adK adV dC dI cC h0 h1 v i b) (cwV 2 S.2.2.2.2 (gV hTs h1' m_399 m_400 m_50 m_401) rfl rfl rfl (by decide +kernel) hR) ⟨fun a U g mk q => ⟨q.1, ⟨q.2.1.blind, q.2.2⟩⟩, tw_recv hK hw, fun U hU hW => ⟨rfl, ⟨twU.at hK hne hC hS hA hw hU hW, hi⟩⟩⟩ rfl rfl hsz rfl (lv_room hrm) hdg hc) hS (fun q _ h => hA q h) hA (fun u t H1 locs1 ht hvm hp hB hz hk hS1 => kk H1 locs1 (by rw [← ht]; exact hB) hS1 ⟨hz, hk⟩)
end
