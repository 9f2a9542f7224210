section
-- ===== PART A: goes FIRST, ahead of the names: the tables' words, and 'selects' of the private methods out of them =====
/-- a private method of a class that the tables say can be made, by its rows of tables_1 -/
def lw_okq (q : MethodName × Nat) : Prop := (q.1.cls ≠ "java/lang/invoke/MethodHandle" ∧ q.1.cls ≠ "java/lang/invoke/VarHandle") ∧ Cond.instantiable q.1.cls q.2 ∈ tables_1 ∧ Cond.privateMethod q.1 ∈ tables_1 ∧ Cond.instanceMethod q.1 ∈ tables_1
theorem lw_p0 : lw_okq (⟨"java/lang/Throwable", "fillInStackTrace", "(I)Ljava/lang/Throwable;"⟩, 6) := ⟨⟨by decide +kernel, by decide +kernel⟩, List.mem_of_getElem? (i := 443) (by decide +kernel), List.mem_of_getElem? (i := 441) (by decide +kernel), List.mem_of_getElem? (i := 442) (by decide +kernel)⟩
theorem lw_p1 : lw_okq (⟨"DayBook", "calendarAt", "(I)LDayBook$Calendar;"⟩, 5) := ⟨⟨by decide +kernel, by decide +kernel⟩, List.mem_of_getElem? (i := 33) (by decide +kernel), List.mem_of_getElem? (i := 497) (by decide +kernel), List.mem_of_getElem? (i := 498) (by decide +kernel)⟩
theorem lw_p2 : lw_okq (⟨"DayBook", "newEaster", "(I)J"⟩, 5) := ⟨⟨by decide +kernel, by decide +kernel⟩, List.mem_of_getElem? (i := 33) (by decide +kernel), List.mem_of_getElem? (i := 818) (by decide +kernel), List.mem_of_getElem? (i := 819) (by decide +kernel)⟩
theorem lw_p3 : lw_okq (⟨"DayBook", "oldEaster", "(I)J"⟩, 5) := ⟨⟨by decide +kernel, by decide +kernel⟩, List.mem_of_getElem? (i := 33) (by decide +kernel), List.mem_of_getElem? (i := 833) (by decide +kernel), List.mem_of_getElem? (i := 834) (by decide +kernel)⟩
theorem lw_p4 : lw_okq (⟨"DayBook", "slashFrom", "(I)I"⟩, 5) := ⟨⟨by decide +kernel, by decide +kernel⟩, List.mem_of_getElem? (i := 33) (by decide +kernel), List.mem_of_getElem? (i := 893) (by decide +kernel), List.mem_of_getElem? (i := 894) (by decide +kernel)⟩
theorem lw_p5 : lw_okq (⟨"DayBook", "numberIn", "(II)I"⟩, 5) := ⟨⟨by decide +kernel, by decide +kernel⟩, List.mem_of_getElem? (i := 33) (by decide +kernel), List.mem_of_getElem? (i := 897) (by decide +kernel), List.mem_of_getElem? (i := 898) (by decide +kernel)⟩
theorem lw_p6 : lw_okq (⟨"DayBookModel", "countCycle", "(I)V"⟩, 19) := ⟨⟨by decide +kernel, by decide +kernel⟩, List.mem_of_getElem? (i := 901) (by decide +kernel), List.mem_of_getElem? (i := 908) (by decide +kernel), List.mem_of_getElem? (i := 909) (by decide +kernel)⟩
theorem lw_p7 : lw_okq (⟨"DayBookModel", "plainLength", "(I)J"⟩, 19) := ⟨⟨by decide +kernel, by decide +kernel⟩, List.mem_of_getElem? (i := 901) (by decide +kernel), List.mem_of_getElem? (i := 912) (by decide +kernel), List.mem_of_getElem? (i := 913) (by decide +kernel)⟩
theorem lw_p8 : lw_okq (⟨"DayBookModel", "isLeap", "(IJ)Z"⟩, 19) := ⟨⟨by decide +kernel, by decide +kernel⟩, List.mem_of_getElem? (i := 901) (by decide +kernel), List.mem_of_getElem? (i := 918) (by decide +kernel), List.mem_of_getElem? (i := 919) (by decide +kernel)⟩
theorem lw_p9 : lw_okq (⟨"DayBookModel", "hasCalendar", "(I)Z"⟩, 19) := ⟨⟨by decide +kernel, by decide +kernel⟩, List.mem_of_getElem? (i := 901) (by decide +kernel), List.mem_of_getElem? (i := 1022) (by decide +kernel), List.mem_of_getElem? (i := 1023) (by decide +kernel)⟩
theorem lw_p10 : lw_okq (⟨"DayBookModel", "findDate", "(IJ)V"⟩, 19) := ⟨⟨by decide +kernel, by decide +kernel⟩, List.mem_of_getElem? (i := 901) (by decide +kernel), List.mem_of_getElem? (i := 1031) (by decide +kernel), List.mem_of_getElem? (i := 1032) (by decide +kernel)⟩
theorem lw_p11 : lw_okq (⟨"DayBookModel", "findMoonDate", "(J)V"⟩, 19) := ⟨⟨by decide +kernel, by decide +kernel⟩, List.mem_of_getElem? (i := 901) (by decide +kernel), List.mem_of_getElem? (i := 1040) (by decide +kernel), List.mem_of_getElem? (i := 1041) (by decide +kernel)⟩
theorem lw_p12 : lw_okq (⟨"DayBookModel", "findYear", "(IJ)V"⟩, 19) := ⟨⟨by decide +kernel, by decide +kernel⟩, List.mem_of_getElem? (i := 901) (by decide +kernel), List.mem_of_getElem? (i := 1049) (by decide +kernel), List.mem_of_getElem? (i := 1050) (by decide +kernel)⟩
theorem lw_p13 : lw_okq (⟨"DayBookModel", "findPlainYear", "(IJ)V"⟩, 19) := ⟨⟨by decide +kernel, by decide +kernel⟩, List.mem_of_getElem? (i := 901) (by decide +kernel), List.mem_of_getElem? (i := 1053) (by decide +kernel), List.mem_of_getElem? (i := 1054) (by decide +kernel)⟩
theorem lw_p14 : lw_okq (⟨"DayBookModel", "epoch", "(I)I"⟩, 19) := ⟨⟨by decide +kernel, by decide +kernel⟩, List.mem_of_getElem? (i := 901) (by decide +kernel), List.mem_of_getElem? (i := 1057) (by decide +kernel), List.mem_of_getElem? (i := 1058) (by decide +kernel)⟩
theorem lw_p15 : lw_okq (⟨"DayBookModel", "setYear", "(IJJJ)V"⟩, 19) := ⟨⟨by decide +kernel, by decide +kernel⟩, List.mem_of_getElem? (i := 901) (by decide +kernel), List.mem_of_getElem? (i := 1066) (by decide +kernel), List.mem_of_getElem? (i := 1067) (by decide +kernel)⟩
def lw_privs_1 : List (MethodName × Nat) := [(⟨"java/lang/Throwable", "fillInStackTrace", "(I)Ljava/lang/Throwable;"⟩, 6), (⟨"DayBook", "calendarAt", "(I)LDayBook$Calendar;"⟩, 5), (⟨"DayBook", "newEaster", "(I)J"⟩, 5), (⟨"DayBook", "oldEaster", "(I)J"⟩, 5), (⟨"DayBook", "slashFrom", "(I)I"⟩, 5), (⟨"DayBook", "numberIn", "(II)I"⟩, 5), (⟨"DayBookModel", "countCycle", "(I)V"⟩, 19), (⟨"DayBookModel", "plainLength", "(I)J"⟩, 19), (⟨"DayBookModel", "isLeap", "(IJ)Z"⟩, 19), (⟨"DayBookModel", "hasCalendar", "(I)Z"⟩, 19), (⟨"DayBookModel", "findDate", "(IJ)V"⟩, 19), (⟨"DayBookModel", "findMoonDate", "(J)V"⟩, 19), (⟨"DayBookModel", "findYear", "(IJ)V"⟩, 19), (⟨"DayBookModel", "findPlainYear", "(IJ)V"⟩, 19), (⟨"DayBookModel", "epoch", "(I)I"⟩, 19), (⟨"DayBookModel", "setYear", "(IJJJ)V"⟩, 19)]
theorem lw_r1 : ∀ q ∈ lw_privs_1, lw_okq q := List.forall_mem_cons.mpr ⟨lw_p0, List.forall_mem_cons.mpr ⟨lw_p1, List.forall_mem_cons.mpr ⟨lw_p2, List.forall_mem_cons.mpr ⟨lw_p3, List.forall_mem_cons.mpr ⟨lw_p4, List.forall_mem_cons.mpr ⟨lw_p5, List.forall_mem_cons.mpr ⟨lw_p6, List.forall_mem_cons.mpr ⟨lw_p7, List.forall_mem_cons.mpr ⟨lw_p8, List.forall_mem_cons.mpr ⟨lw_p9, List.forall_mem_cons.mpr ⟨lw_p10, List.forall_mem_cons.mpr ⟨lw_p11, List.forall_mem_cons.mpr ⟨lw_p12, List.forall_mem_cons.mpr ⟨lw_p13, List.forall_mem_cons.mpr ⟨lw_p14, List.forall_mem_cons.mpr ⟨lw_p15, fun _ h => absurd h List.not_mem_nil⟩⟩⟩⟩⟩⟩⟩⟩⟩⟩⟩⟩⟩⟩⟩⟩
theorem lw_p16 : lw_okq (⟨"DayBookModel", "start", "(IJ)J"⟩, 19) := ⟨⟨by decide +kernel, by decide +kernel⟩, List.mem_of_getElem? (i := 901) (by decide +kernel), List.mem_of_getElem? (i := 1070) (by decide +kernel), List.mem_of_getElem? (i := 1071) (by decide +kernel)⟩
theorem lw_p17 : lw_okq (⟨"DayBookModel", "plainStart", "(IJ)J"⟩, 19) := ⟨⟨by decide +kernel, by decide +kernel⟩, List.mem_of_getElem? (i := 901) (by decide +kernel), List.mem_of_getElem? (i := 1090) (by decide +kernel), List.mem_of_getElem? (i := 1091) (by decide +kernel)⟩
theorem lw_p18 : lw_okq (⟨"DayBookModel", "monthAt", "(IJI)I"⟩, 19) := ⟨⟨by decide +kernel, by decide +kernel⟩, List.mem_of_getElem? (i := 901) (by decide +kernel), List.mem_of_getElem? (i := 1102) (by decide +kernel), List.mem_of_getElem? (i := 1103) (by decide +kernel)⟩
theorem lw_p19 : lw_okq (⟨"DayBookModel", "monthsOf", "(IJ)I"⟩, 19) := ⟨⟨by decide +kernel, by decide +kernel⟩, List.mem_of_getElem? (i := 901) (by decide +kernel), List.mem_of_getElem? (i := 1106) (by decide +kernel), List.mem_of_getElem? (i := 1107) (by decide +kernel)⟩
theorem lw_p20 : lw_okq (⟨"DayBookModel", "lengthOf", "(IJI)I"⟩, 19) := ⟨⟨by decide +kernel, by decide +kernel⟩, List.mem_of_getElem? (i := 901) (by decide +kernel), List.mem_of_getElem? (i := 1110) (by decide +kernel), List.mem_of_getElem? (i := 1111) (by decide +kernel)⟩
theorem lw_p21 : lw_okq (⟨"DayBookModel", "moonLength", "(JIZ)I"⟩, 19) := ⟨⟨by decide +kernel, by decide +kernel⟩, List.mem_of_getElem? (i := 901) (by decide +kernel), List.mem_of_getElem? (i := 1114) (by decide +kernel), List.mem_of_getElem? (i := 1115) (by decide +kernel)⟩
theorem lw_p22 : lw_okq (⟨"DayBookModel", "dayOf", "(IIII)J"⟩, 19) := ⟨⟨by decide +kernel, by decide +kernel⟩, List.mem_of_getElem? (i := 901) (by decide +kernel), List.mem_of_getElem? (i := 1131) (by decide +kernel), List.mem_of_getElem? (i := 1132) (by decide +kernel)⟩
theorem lw_p23 : lw_okq (⟨"DayBookModel", "lookFor", "(IIIIJI)J"⟩, 19) := ⟨⟨by decide +kernel, by decide +kernel⟩, List.mem_of_getElem? (i := 901) (by decide +kernel), List.mem_of_getElem? (i := 1136) (by decide +kernel), List.mem_of_getElem? (i := 1137) (by decide +kernel)⟩
theorem lw_p24 : lw_okq (⟨"DayBookModel", "hasDate", "(IIIIJ)Z"⟩, 19) := ⟨⟨by decide +kernel, by decide +kernel⟩, List.mem_of_getElem? (i := 901) (by decide +kernel), List.mem_of_getElem? (i := 1140) (by decide +kernel), List.mem_of_getElem? (i := 1141) (by decide +kernel)⟩
theorem lw_p25 : lw_okq (⟨"DayBookModel", "before", "(IJI)J"⟩, 19) := ⟨⟨by decide +kernel, by decide +kernel⟩, List.mem_of_getElem? (i := 901) (by decide +kernel), List.mem_of_getElem? (i := 1147) (by decide +kernel), List.mem_of_getElem? (i := 1148) (by decide +kernel)⟩
theorem lw_p26 : lw_okq (⟨"DayBookModel", "putNumber", "(J)V"⟩, 19) := ⟨⟨by decide +kernel, by decide +kernel⟩, List.mem_of_getElem? (i := 901) (by decide +kernel), List.mem_of_getElem? (i := 1193) (by decide +kernel), List.mem_of_getElem? (i := 1194) (by decide +kernel)⟩
theorem lw_p27 : lw_okq (⟨"DayBookModel", "slash", "(I)I"⟩, 19) := ⟨⟨by decide +kernel, by decide +kernel⟩, List.mem_of_getElem? (i := 901) (by decide +kernel), List.mem_of_getElem? (i := 1215) (by decide +kernel), List.mem_of_getElem? (i := 1216) (by decide +kernel)⟩
theorem lw_p28 : lw_okq (⟨"DayBookModel", "numberIn", "(II)I"⟩, 19) := ⟨⟨by decide +kernel, by decide +kernel⟩, List.mem_of_getElem? (i := 901) (by decide +kernel), List.mem_of_getElem? (i := 1219) (by decide +kernel), List.mem_of_getElem? (i := 1220) (by decide +kernel)⟩
def lw_privs_2 : List (MethodName × Nat) := [(⟨"DayBookModel", "start", "(IJ)J"⟩, 19), (⟨"DayBookModel", "plainStart", "(IJ)J"⟩, 19), (⟨"DayBookModel", "monthAt", "(IJI)I"⟩, 19), (⟨"DayBookModel", "monthsOf", "(IJ)I"⟩, 19), (⟨"DayBookModel", "lengthOf", "(IJI)I"⟩, 19), (⟨"DayBookModel", "moonLength", "(JIZ)I"⟩, 19), (⟨"DayBookModel", "dayOf", "(IIII)J"⟩, 19), (⟨"DayBookModel", "lookFor", "(IIIIJI)J"⟩, 19), (⟨"DayBookModel", "hasDate", "(IIIIJ)Z"⟩, 19), (⟨"DayBookModel", "before", "(IJI)J"⟩, 19), (⟨"DayBookModel", "putNumber", "(J)V"⟩, 19), (⟨"DayBookModel", "slash", "(I)I"⟩, 19), (⟨"DayBookModel", "numberIn", "(II)I"⟩, 19)]
theorem lw_r2 : ∀ q ∈ lw_privs_2, lw_okq q := List.forall_mem_cons.mpr ⟨lw_p16, List.forall_mem_cons.mpr ⟨lw_p17, List.forall_mem_cons.mpr ⟨lw_p18, List.forall_mem_cons.mpr ⟨lw_p19, List.forall_mem_cons.mpr ⟨lw_p20, List.forall_mem_cons.mpr ⟨lw_p21, List.forall_mem_cons.mpr ⟨lw_p22, List.forall_mem_cons.mpr ⟨lw_p23, List.forall_mem_cons.mpr ⟨lw_p24, List.forall_mem_cons.mpr ⟨lw_p25, List.forall_mem_cons.mpr ⟨lw_p26, List.forall_mem_cons.mpr ⟨lw_p27, List.forall_mem_cons.mpr ⟨lw_p28, fun _ h => absurd h List.not_mem_nil⟩⟩⟩⟩⟩⟩⟩⟩⟩⟩⟩⟩⟩
def lw_privs : List (MethodName × Nat) := lw_privs_1 ++ (lw_privs_2)
def lw_tbl : List Cond := k2_sels lw_privs ++ tables_1
theorem lw_privs_ok : ∀ q ∈ lw_privs, lw_okq q := by
  show ∀ q ∈ lw_privs_1 ++ (lw_privs_2), lw_okq q
  exact List.forall_mem_append.mpr ⟨lw_r1, lw_r2⟩
end
section
/-! codes and names of the methods, by program (wip/whole/names.py) -/
abbrev c_JA_init : ByteArray := prog_15_method_2_code
def y_JA_init : MethodName := ⟨"java/lang/AbstractStringBuilder", "<init>", "(I)V"⟩
abbrev c_JA_append_CAbstractStrin : ByteArray := prog_15_method_31_code
def y_JA_append_CAbstractStrin : MethodName := ⟨"java/lang/AbstractStringBuilder", "append", "(C)Ljava/lang/AbstractStringBuilder;"⟩
abbrev c_JA_append_IAbstractStrin : ByteArray := prog_15_method_32_code
def y_JA_append_IAbstractStrin : MethodName := ⟨"java/lang/AbstractStringBuilder", "append", "(I)Ljava/lang/AbstractStringBuilder;"⟩
abbrev c_JA_charAt : ByteArray := prog_15_method_14_code
def y_JA_charAt : MethodName := ⟨"java/lang/AbstractStringBuilder", "charAt", "(I)C"⟩
abbrev c_JA_ensureCapacityInternal : ByteArray := prog_15_method_9_code
def y_JA_ensureCapacityInternal : MethodName := ⟨"java/lang/AbstractStringBuilder", "ensureCapacityInternal", "(I)V"⟩
abbrev c_JA_inflate : ByteArray := prog_15_method_11_code
def y_JA_inflate : MethodName := ⟨"java/lang/AbstractStringBuilder", "inflate", "()V"⟩
abbrev c_JA_isLatin1 : ByteArray := prog_15_method_68_code
def y_JA_isLatin1 : MethodName := ⟨"java/lang/AbstractStringBuilder", "isLatin1", "()Z"⟩
abbrev c_JA_length : ByteArray := prog_15_method_6_code
def y_JA_length : MethodName := ⟨"java/lang/AbstractStringBuilder", "length", "()I"⟩
abbrev c_JA_newCapacity : ByteArray := prog_15_method_10_code
def y_JA_newCapacity : MethodName := ⟨"java/lang/AbstractStringBuilder", "newCapacity", "(I)I"⟩
abbrev c_JA_setLength : ByteArray := prog_15_method_13_code
def y_JA_setLength : MethodName := ⟨"java/lang/AbstractStringBuilder", "setLength", "(I)V"⟩
abbrev c_JH_init : ByteArray := prog_16_method_1_code
def y_JH_init : MethodName := ⟨"java/lang/ArithmeticException", "<init>", "()V"⟩
abbrev c_JE_init : ByteArray := prog_18_method_1_code
def y_JE_init : MethodName := ⟨"java/lang/Exception", "<init>", "()V"⟩
abbrev c_JG_init : ByteArray := prog_19_method_1_code
def y_JG_init : MethodName := ⟨"java/lang/IllegalArgumentException", "<init>", "()V"⟩
abbrev c_JX_init : ByteArray := prog_20_method_1_code
def y_JX_init : MethodName := ⟨"java/lang/IndexOutOfBoundsException", "<init>", "()V"⟩
abbrev c_JI_getChars : ByteArray := prog_21_method_12_code
def y_JI_getChars : MethodName := ⟨"java/lang/Integer", "getChars", "(II[B)I"⟩
abbrev c_JI_stringSize : ByteArray := prog_21_method_13_code
def y_JI_stringSize : MethodName := ⟨"java/lang/Integer", "stringSize", "(I)I"⟩
abbrev c_JM_floorDiv_III : ByteArray := prog_22_method_47_code
def y_JM_floorDiv_III : MethodName := ⟨"java/lang/Math", "floorDiv", "(II)I"⟩
abbrev c_JM_floorDiv_JJJ : ByteArray := prog_22_method_49_code
def y_JM_floorDiv_JJJ : MethodName := ⟨"java/lang/Math", "floorDiv", "(JJ)J"⟩
abbrev c_JM_floorMod_III : ByteArray := prog_22_method_50_code
def y_JM_floorMod_III : MethodName := ⟨"java/lang/Math", "floorMod", "(II)I"⟩
abbrev c_JM_floorMod_JJJ : ByteArray := prog_22_method_52_code
def y_JM_floorMod_JJJ : MethodName := ⟨"java/lang/Math", "floorMod", "(JJ)J"⟩
abbrev c_JM_max : ByteArray := prog_22_method_65_code
def y_JM_max : MethodName := ⟨"java/lang/Math", "max", "(II)I"⟩
abbrev c_JM_min : ByteArray := prog_22_method_69_code
def y_JM_min : MethodName := ⟨"java/lang/Math", "min", "(II)I"⟩
abbrev c_JQ_init : ByteArray := object_method_1_code
def y_JQ_init : MethodName := ⟨"java/lang/Object", "<init>", "()V"⟩
abbrev c_JR_init : ByteArray := prog_23_method_1_code
def y_JR_init : MethodName := ⟨"java/lang/RuntimeException", "<init>", "()V"⟩
abbrev c_JS_checkBoundsBeginEnd : ByteArray := prog_24_method_158_code
def y_JS_checkBoundsBeginEnd : MethodName := ⟨"java/lang/String", "checkBoundsBeginEnd", "(III)V"⟩
abbrev c_JS_checkBoundsOffCount : ByteArray := prog_24_method_157_code
def y_JS_checkBoundsOffCount : MethodName := ⟨"java/lang/String", "checkBoundsOffCount", "(III)I"⟩
abbrev c_JS_checkIndex : ByteArray := prog_24_method_155_code
def y_JS_checkIndex : MethodName := ⟨"java/lang/String", "checkIndex", "(II)V"⟩
abbrev c_JB_init : ByteArray := prog_25_method_1_code
def y_JB_init : MethodName := ⟨"java/lang/StringBuilder", "<init>", "()V"⟩
abbrev c_JB_append_CStringBuilder : ByteArray := prog_25_method_14_code
def y_JB_append_CStringBuilder : MethodName := ⟨"java/lang/StringBuilder", "append", "(C)Ljava/lang/StringBuilder;"⟩
abbrev c_JB_append_IStringBuilder : ByteArray := prog_25_method_15_code
def y_JB_append_IStringBuilder : MethodName := ⟨"java/lang/StringBuilder", "append", "(I)Ljava/lang/StringBuilder;"⟩
abbrev c_JB_charAt : ByteArray := prog_25_method_88_code
def y_JB_charAt : MethodName := ⟨"java/lang/StringBuilder", "charAt", "(I)C"⟩
abbrev c_JB_length : ByteArray := prog_25_method_93_code
def y_JB_length : MethodName := ⟨"java/lang/StringBuilder", "length", "()I"⟩
abbrev c_JB_setLength : ByteArray := prog_25_method_89_code
def y_JB_setLength : MethodName := ⟨"java/lang/StringBuilder", "setLength", "(I)V"⟩
abbrev c_JL_canEncode : ByteArray := prog_26_method_3_code
def y_JL_canEncode : MethodName := ⟨"java/lang/StringLatin1", "canEncode", "(C)Z"⟩
abbrev c_JL_fillNull : ByteArray := prog_26_method_48_code
def y_JL_fillNull : MethodName := ⟨"java/lang/StringLatin1", "fillNull", "([BII)V"⟩
abbrev c_JL_inflate : ByteArray := prog_26_method_50_code
def y_JL_inflate : MethodName := ⟨"java/lang/StringLatin1", "inflate", "([BI[BII)V"⟩
abbrev c_JU_checkBoundsBeginEnd : ByteArray := prog_27_method_93_code
def y_JU_checkBoundsBeginEnd : MethodName := ⟨"java/lang/StringUTF16", "checkBoundsBeginEnd", "(II[B)V"⟩
abbrev c_JU_checkBoundsOffCount : ByteArray := prog_27_method_94_code
def y_JU_checkBoundsOffCount : MethodName := ⟨"java/lang/StringUTF16", "checkBoundsOffCount", "(II[B)V"⟩
abbrev c_JU_checkIndex : ByteArray := prog_27_method_91_code
def y_JU_checkIndex : MethodName := ⟨"java/lang/StringUTF16", "checkIndex", "(I[B)V"⟩
abbrev c_JU_fillNull : ByteArray := prog_27_method_70_code
def y_JU_fillNull : MethodName := ⟨"java/lang/StringUTF16", "fillNull", "([BII)V"⟩
abbrev c_JU_getChar : ByteArray := prog_27_method_5_code
def y_JU_getChar : MethodName := ⟨"java/lang/StringUTF16", "getChar", "([BI)C"⟩
abbrev c_JU_getChars_IIIBI : ByteArray := prog_27_method_77_code
def y_JU_getChars_IIIBI : MethodName := ⟨"java/lang/StringUTF16", "getChars", "(III[B)I"⟩
abbrev c_JU_getChars_IIBI : ByteArray := prog_27_method_89_code
def y_JU_getChars_IIBI : MethodName := ⟨"java/lang/StringUTF16", "getChars", "(II[B)I"⟩
abbrev c_JU_inflate : ByteArray := prog_27_method_86_code
def y_JU_inflate : MethodName := ⟨"java/lang/StringUTF16", "inflate", "([BI[BII)V"⟩
abbrev c_JU_length : ByteArray := prog_27_method_6_code
def y_JU_length : MethodName := ⟨"java/lang/StringUTF16", "length", "([B)I"⟩
abbrev c_JU_newBytesFor : ByteArray := prog_27_method_2_code
def y_JU_newBytesFor : MethodName := ⟨"java/lang/StringUTF16", "newBytesFor", "(I)[B"⟩
abbrev c_JU_newBytesLength : ByteArray := prog_27_method_3_code
def y_JU_newBytesLength : MethodName := ⟨"java/lang/StringUTF16", "newBytesLength", "(I)I"⟩
abbrev c_JU_putChar : ByteArray := prog_27_method_4_code
def y_JU_putChar : MethodName := ⟨"java/lang/StringUTF16", "putChar", "([BII)V"⟩
abbrev c_JU_putCharSB : ByteArray := prog_27_method_71_code
def y_JU_putCharSB : MethodName := ⟨"java/lang/StringUTF16", "putCharSB", "([BII)V"⟩
abbrev c_JT_init : ByteArray := prog_29_method_1_code
def y_JT_init : MethodName := ⟨"java/lang/Throwable", "<init>", "()V"⟩
abbrev c_JT_fillInStackTrace : ByteArray := prog_29_method_18_code
def y_JT_fillInStackTrace : MethodName := ⟨"java/lang/Throwable", "fillInStackTrace", "()Ljava/lang/Throwable;"⟩
abbrev c_JO_init : ByteArray := prog_30_method_1_code
def y_JO_init : MethodName := ⟨"java/lang/UnsupportedOperationException", "<init>", "()V"⟩
abbrev c_JY_copyOf : ByteArray := prog_31_method_121_code
def y_JY_copyOf : MethodName := ⟨"java/util/Arrays", "copyOf", "([BI)[B"⟩
abbrev c_JY_fill_BIIBV : ByteArray := prog_31_method_110_code
def y_JY_fill_BIIBV : MethodName := ⟨"java/util/Arrays", "fill", "([BIIB)V"⟩
abbrev c_JY_fill_IIV : ByteArray := prog_31_method_103_code
def y_JY_fill_IIV : MethodName := ⟨"java/util/Arrays", "fill", "([II)V"⟩
abbrev c_JY_rangeCheck : ByteArray := prog_31_method_30_code
def y_JY_rangeCheck : MethodName := ⟨"java/util/Arrays", "rangeCheck", "(III)V"⟩
abbrev c_JP_hugeLength : ByteArray := prog_32_method_28_code
def y_JP_hugeLength : MethodName := ⟨"jdk/internal/util/ArraysSupport", "hugeLength", "(II)I"⟩
abbrev c_JP_newLength : ByteArray := prog_32_method_27_code
def y_JP_newLength : MethodName := ⟨"jdk/internal/util/ArraysSupport", "newLength", "(III)I"⟩
abbrev c_JC_checkFromIndexSize : ByteArray := prog_33_method_13_code
def y_JC_checkFromIndexSize : MethodName := ⟨"jdk/internal/util/Preconditions", "checkFromIndexSize", "(IIILjava/util/function/BiFunction;)I"⟩
abbrev c_JC_checkFromToIndex : ByteArray := prog_33_method_12_code
def y_JC_checkFromToIndex : MethodName := ⟨"jdk/internal/util/Preconditions", "checkFromToIndex", "(IIILjava/util/function/BiFunction;)I"⟩
abbrev c_JC_checkIndex : ByteArray := prog_33_method_11_code
def y_JC_checkIndex : MethodName := ⟨"jdk/internal/util/Preconditions", "checkIndex", "(IILjava/util/function/BiFunction;)I"⟩
abbrev c_B_init : ByteArray := prog_1_method_1_code
def y_B_init : MethodName := ⟨"DayBook", "<init>", "()V"⟩
abbrev c_B_calendarAt : ByteArray := prog_1_method_16_code
def y_B_calendarAt : MethodName := ⟨"DayBook", "calendarAt", "(I)LDayBook$Calendar;"⟩
abbrev c_B_ceilDiv : ByteArray := prog_1_method_31_code
def y_B_ceilDiv : MethodName := ⟨"DayBook", "ceilDiv", "(JJ)J"⟩
abbrev c_B_date : ByteArray := prog_1_method_3_code
def y_B_date : MethodName := ⟨"DayBook", "date", "(III)I"⟩
abbrev c_B_dayIn : ByteArray := prog_1_method_30_code
def y_B_dayIn : MethodName := ⟨"DayBook", "dayIn", "(J)I"⟩
abbrev c_B_feast : ByteArray := prog_1_method_9_code
def y_B_feast : MethodName := ⟨"DayBook", "feast", "(II)I"⟩
abbrev c_B_fixed : ByteArray := prog_1_method_4_code
def y_B_fixed : MethodName := ⟨"DayBook", "fixed", "(IIII)I"⟩
abbrev c_B_isDecimal : ByteArray := prog_1_method_19_code
def y_B_isDecimal : MethodName := ⟨"DayBook", "isDecimal", "(C)Z"⟩
abbrev c_B_isInRange : ByteArray := prog_1_method_17_code
def y_B_isInRange : MethodName := ⟨"DayBook", "isInRange", "(J)Z"⟩
abbrev c_B_isWithin : ByteArray := prog_1_method_18_code
def y_B_isWithin : MethodName := ⟨"DayBook", "isWithin", "(II)Z"⟩
abbrev c_B_leap : ByteArray := prog_1_method_5_code
def y_B_leap : MethodName := ⟨"DayBook", "leap", "(II)Z"⟩
abbrev c_B_letter : ByteArray := prog_1_method_14_code
def y_B_letter : MethodName := ⟨"DayBook", "letter", "(I)C"⟩
abbrev c_B_meeting : ByteArray := prog_1_method_8_code
def y_B_meeting : MethodName := ⟨"DayBook", "meeting", "(III)I"⟩
abbrev c_B_monthIn : ByteArray := prog_1_method_29_code
def y_B_monthIn : MethodName := ⟨"DayBook", "monthIn", "(J)I"⟩
abbrev c_B_newEaster : ByteArray := prog_1_method_22_code
def y_B_newEaster : MethodName := ⟨"DayBook", "newEaster", "(I)J"⟩
abbrev c_B_numberIn : ByteArray := prog_1_method_26_code
def y_B_numberIn : MethodName := ⟨"DayBook", "numberIn", "(II)I"⟩
abbrev c_B_oldEaster : ByteArray := prog_1_method_23_code
def y_B_oldEaster : MethodName := ⟨"DayBook", "oldEaster", "(I)J"⟩
abbrev c_B_onOrBefore : ByteArray := prog_1_method_6_code
def y_B_onOrBefore : MethodName := ⟨"DayBook", "onOrBefore", "(II)I"⟩
abbrev c_B_packed : ByteArray := prog_1_method_27_code
def y_B_packed : MethodName := ⟨"DayBook", "packed", "(JJJ)J"⟩
abbrev c_B_placeIn260 : ByteArray := prog_1_method_21_code
def y_B_placeIn260 : MethodName := ⟨"DayBook", "placeIn260", "(I)I"⟩
abbrev c_B_placeIn365 : ByteArray := prog_1_method_20_code
def y_B_placeIn365 : MethodName := ⟨"DayBook", "placeIn365", "(I)I"⟩
abbrev c_B_plug : ByteArray := prog_1_method_2_code
def y_B_plug : MethodName := ⟨"DayBook", "plug", "(IIIIIII)Z"⟩
abbrev c_B_read : ByteArray := prog_1_method_15_code
def y_B_read : MethodName := ⟨"DayBook", "read", "(I)I"⟩
abbrev c_B_rounds : ByteArray := prog_1_method_7_code
def y_B_rounds : MethodName := ⟨"DayBook", "rounds", "(I)I"⟩
abbrev c_B_slashFrom : ByteArray := prog_1_method_25_code
def y_B_slashFrom : MethodName := ⟨"DayBook", "slashFrom", "(I)I"⟩
abbrev c_B_sundayBehind : ByteArray := prog_1_method_24_code
def y_B_sundayBehind : MethodName := ⟨"DayBook", "sundayBehind", "(J)J"⟩
abbrev c_B_type : ByteArray := prog_1_method_12_code
def y_B_type : MethodName := ⟨"DayBook", "type", "(C)Z"⟩
abbrev c_B_when : ByteArray := prog_1_method_10_code
def y_B_when : MethodName := ⟨"DayBook", "when", "(IIIII)I"⟩
abbrev c_B_wipe : ByteArray := prog_1_method_13_code
def y_B_wipe : MethodName := ⟨"DayBook", "wipe", "()I"⟩
abbrev c_B_write : ByteArray := prog_1_method_11_code
def y_B_write : MethodName := ⟨"DayBook", "write", "(II)I"⟩
abbrev c_B_yearIn : ByteArray := prog_1_method_28_code
def y_B_yearIn : MethodName := ⟨"DayBook", "yearIn", "(J)I"⟩
abbrev c_C_init : ByteArray := prog_2_method_1_code
def y_C_init : MethodName := ⟨"DayBook$Calendar", "<init>", "()V"⟩
abbrev c_C_hasYear : ByteArray := prog_2_method_4_code
def y_C_hasYear : MethodName := ⟨"DayBook$Calendar", "hasYear", "(J)Z"⟩
abbrev c_C_isLeap : ByteArray := prog_2_method_5_code
def y_C_isLeap : MethodName := ⟨"DayBook$Calendar", "isLeap", "(J)Z"⟩
abbrev c_CR_init : ByteArray := prog_3_method_1_code
def y_CR_init : MethodName := ⟨"DayBook$CenturyRule", "<init>", "(JZ)V"⟩
abbrev c_CR_isLeapCount : ByteArray := prog_3_method_2_code
def y_CR_isLeapCount : MethodName := ⟨"DayBook$CenturyRule", "isLeapCount", "(J)Z"⟩
abbrev c_CR_leapsBefore : ByteArray := prog_3_method_3_code
def y_CR_leapsBefore : MethodName := ⟨"DayBook$CenturyRule", "leapsBefore", "(J)J"⟩
abbrev c_YR_init : ByteArray := prog_4_method_1_code
def y_YR_init : MethodName := ⟨"DayBook$CycleRule", "<init>", "()V"⟩
abbrev c_YR_isLeapCount : ByteArray := prog_4_method_2_code
def y_YR_isLeapCount : MethodName := ⟨"DayBook$CycleRule", "isLeapCount", "(J)Z"⟩
abbrev c_YR_leapsBefore : ByteArray := prog_4_method_3_code
def y_YR_leapsBefore : MethodName := ⟨"DayBook$CycleRule", "leapsBefore", "(J)J"⟩
abbrev c_HC_init : ByteArray := prog_5_method_1_code
def y_HC_init : MethodName := ⟨"DayBook$HebrewCalendar", "<init>", "()V"⟩
abbrev c_HC_elapsed : ByteArray := prog_5_method_4_code
def y_HC_elapsed : MethodName := ⟨"DayBook$HebrewCalendar", "elapsed", "(J)J"⟩
abbrev c_HC_isLeap : ByteArray := prog_5_method_2_code
def y_HC_isLeap : MethodName := ⟨"DayBook$HebrewCalendar", "isLeap", "(J)Z"⟩
abbrev c_HC_isLong : ByteArray := prog_5_method_8_code
def y_HC_isLong : MethodName := ⟨"DayBook$HebrewCalendar", "isLong", "(I)Z"⟩
abbrev c_HC_lengthAt : ByteArray := prog_5_method_7_code
def y_HC_lengthAt : MethodName := ⟨"DayBook$HebrewCalendar", "lengthAt", "(II)I"⟩
abbrev c_HC_monthAt : ByteArray := prog_5_method_6_code
def y_HC_monthAt : MethodName := ⟨"DayBook$HebrewCalendar", "monthAt", "(II)I"⟩
abbrev c_HC_monthsIn : ByteArray := prog_5_method_5_code
def y_HC_monthsIn : MethodName := ⟨"DayBook$HebrewCalendar", "monthsIn", "(I)I"⟩
abbrev c_HC_yearStart : ByteArray := prog_5_method_3_code
def y_HC_yearStart : MethodName := ⟨"DayBook$HebrewCalendar", "yearStart", "(J)J"⟩
abbrev c_LR_init : ByteArray := prog_6_method_1_code
def y_LR_init : MethodName := ⟨"DayBook$LeapRule", "<init>", "()V"⟩
abbrev c_LC_init : ByteArray := prog_7_method_1_code
def y_LC_init : MethodName := ⟨"DayBook$LunarCalendar", "<init>", "()V"⟩
abbrev c_LC_dateOf : ByteArray := prog_7_method_2_code
def y_LC_dateOf : MethodName := ⟨"DayBook$LunarCalendar", "dateOf", "(J)J"⟩
abbrev c_LC_dayOf : ByteArray := prog_7_method_3_code
def y_LC_dayOf : MethodName := ⟨"DayBook$LunarCalendar", "dayOf", "(JII)J"⟩
abbrev c_MC_init : ByteArray := prog_8_method_1_code
def y_MC_init : MethodName := ⟨"DayBook$MonthCalendar", "<init>", "([I[IIJZLDayBook$LeapRule;)V"⟩
abbrev c_MC_countOf : ByteArray := prog_8_method_4_code
def y_MC_countOf : MethodName := ⟨"DayBook$MonthCalendar", "countOf", "(J)J"⟩
abbrev c_MC_hasYear : ByteArray := prog_8_method_2_code
def y_MC_hasYear : MethodName := ⟨"DayBook$MonthCalendar", "hasYear", "(J)Z"⟩
abbrev c_MC_isLeap : ByteArray := prog_8_method_3_code
def y_MC_isLeap : MethodName := ⟨"DayBook$MonthCalendar", "isLeap", "(J)Z"⟩
abbrev c_MC_lengthAt : ByteArray := prog_8_method_9_code
def y_MC_lengthAt : MethodName := ⟨"DayBook$MonthCalendar", "lengthAt", "(II)I"⟩
abbrev c_MC_monthAt : ByteArray := prog_8_method_8_code
def y_MC_monthAt : MethodName := ⟨"DayBook$MonthCalendar", "monthAt", "(II)I"⟩
abbrev c_MC_monthsIn : ByteArray := prog_8_method_7_code
def y_MC_monthsIn : MethodName := ⟨"DayBook$MonthCalendar", "monthsIn", "(I)I"⟩
abbrev c_MC_yearAt : ByteArray := prog_8_method_5_code
def y_MC_yearAt : MethodName := ⟨"DayBook$MonthCalendar", "yearAt", "(J)J"⟩
abbrev c_MC_yearStart : ByteArray := prog_8_method_6_code
def y_MC_yearStart : MethodName := ⟨"DayBook$MonthCalendar", "yearStart", "(J)J"⟩
abbrev c_SC_init : ByteArray := prog_9_method_1_code
def y_SC_init : MethodName := ⟨"DayBook$SolarCalendar", "<init>", "()V"⟩
abbrev c_SC_dateOf : ByteArray := prog_9_method_2_code
def y_SC_dateOf : MethodName := ⟨"DayBook$SolarCalendar", "dateOf", "(J)J"⟩
abbrev c_SC_dayOf : ByteArray := prog_9_method_3_code
def y_SC_dayOf : MethodName := ⟨"DayBook$SolarCalendar", "dayOf", "(JII)J"⟩
abbrev c_SR_init : ByteArray := prog_10_method_1_code
def y_SR_init : MethodName := ⟨"DayBook$SpreadRule", "<init>", "(JJJ)V"⟩
abbrev c_SR_isLeapCount : ByteArray := prog_10_method_2_code
def y_SR_isLeapCount : MethodName := ⟨"DayBook$SpreadRule", "isLeapCount", "(J)Z"⟩
abbrev c_SR_leapsBefore : ByteArray := prog_10_method_3_code
def y_SR_leapsBefore : MethodName := ⟨"DayBook$SpreadRule", "leapsBefore", "(J)J"⟩
abbrev c_WC_init : ByteArray := prog_11_method_1_code
def y_WC_init : MethodName := ⟨"DayBook$WeekCalendar", "<init>", "(LDayBook$MonthCalendar;)V"⟩
abbrev c_WC_lengthAt : ByteArray := prog_11_method_5_code
def y_WC_lengthAt : MethodName := ⟨"DayBook$WeekCalendar", "lengthAt", "(II)I"⟩
abbrev c_WC_monthAt : ByteArray := prog_11_method_4_code
def y_WC_monthAt : MethodName := ⟨"DayBook$WeekCalendar", "monthAt", "(II)I"⟩
abbrev c_WC_monthsIn : ByteArray := prog_11_method_3_code
def y_WC_monthsIn : MethodName := ⟨"DayBook$WeekCalendar", "monthsIn", "(I)I"⟩
abbrev c_WC_yearStart : ByteArray := prog_11_method_2_code
def y_WC_yearStart : MethodName := ⟨"DayBook$WeekCalendar", "yearStart", "(J)J"⟩
abbrev c_Y_init : ByteArray := prog_12_method_1_code
def y_Y_init : MethodName := ⟨"DayBook$YearCalendar", "<init>", "()V"⟩
abbrev c_Y_countOf : ByteArray := prog_12_method_6_code
def y_Y_countOf : MethodName := ⟨"DayBook$YearCalendar", "countOf", "(J)J"⟩
abbrev c_Y_countWith : ByteArray := prog_12_method_11_code
def y_Y_countWith : MethodName := ⟨"DayBook$YearCalendar", "countWith", "(J)J"⟩
abbrev c_Y_dateOf : ByteArray := prog_12_method_8_code
def y_Y_dateOf : MethodName := ⟨"DayBook$YearCalendar", "dateOf", "(J)J"⟩
abbrev c_Y_dayOf : ByteArray := prog_12_method_9_code
def y_Y_dayOf : MethodName := ⟨"DayBook$YearCalendar", "dayOf", "(JII)J"⟩
abbrev c_Y_daysIn : ByteArray := prog_12_method_10_code
def y_Y_daysIn : MethodName := ⟨"DayBook$YearCalendar", "daysIn", "(J)I"⟩
abbrev c_Y_yearAt : ByteArray := prog_12_method_7_code
def y_Y_yearAt : MethodName := ⟨"DayBook$YearCalendar", "yearAt", "(J)J"⟩
abbrev c_W_date : ByteArray := method_4_code
def y_W_date : MethodName := ⟨"DayBookLaw", "date", "(LDayBook;III[J)I"⟩
abbrev c_W_feast : ByteArray := method_8_code
def y_W_feast : MethodName := ⟨"DayBookLaw", "feast", "(LDayBook;II[J)I"⟩
abbrev c_W_fixed : ByteArray := method_5_code
def y_W_fixed : MethodName := ⟨"DayBookLaw", "fixed", "(LDayBook;IIII[J)I"⟩
abbrev c_W_leap : ByteArray := method_6_code
def y_W_leap : MethodName := ⟨"DayBookLaw", "leap", "(LDayBook;II[J)I"⟩
abbrev c_W_onOrBefore : ByteArray := method_7_code
def y_W_onOrBefore : MethodName := ⟨"DayBookLaw", "onOrBefore", "(LDayBook;II[J)I"⟩
abbrev c_W_plug : ByteArray := method_3_code
def y_W_plug : MethodName := ⟨"DayBookLaw", "plug", "(LDayBook;IIIIIII[J)I"⟩
abbrev c_W_read : ByteArray := method_11_code
def y_W_read : MethodName := ⟨"DayBookLaw", "read", "(LDayBook;I[J)I"⟩
abbrev c_W_when : ByteArray := method_9_code
def y_W_when : MethodName := ⟨"DayBookLaw", "when", "(LDayBook;IIIII[J)I"⟩
abbrev c_W_write : ByteArray := method_10_code
def y_W_write : MethodName := ⟨"DayBookLaw", "write", "(LDayBook;II[J)I"⟩
abbrev c_M_init : ByteArray := prog_14_method_1_code
def y_M_init : MethodName := ⟨"DayBookModel", "<init>", "()V"⟩
abbrev c_M_before : ByteArray := prog_14_method_27_code
def y_M_before : MethodName := ⟨"DayBookModel", "before", "(IJI)J"⟩
abbrev c_M_countCycle : ByteArray := prog_14_method_16_code
def y_M_countCycle : MethodName := ⟨"DayBookModel", "countCycle", "(I)V"⟩
abbrev c_M_counted : ByteArray := prog_14_method_6_code
def y_M_counted : MethodName := ⟨"DayBookModel", "counted", "(IJ)J"⟩
abbrev c_M_date : ByteArray := prog_14_method_34_code
def y_M_date : MethodName := ⟨"DayBookModel", "date", "(III)I"⟩
abbrev c_M_dayOf : ByteArray := prog_14_method_30_code
def y_M_dayOf : MethodName := ⟨"DayBookModel", "dayOf", "(IIII)J"⟩
abbrev c_M_div : ByteArray := prog_14_method_3_code
def y_M_div : MethodName := ⟨"DayBookModel", "div", "(JJ)J"⟩
abbrev c_M_epoch : ByteArray := prog_14_method_13_code
def y_M_epoch : MethodName := ⟨"DayBookModel", "epoch", "(I)I"⟩
abbrev c_M_feast : ByteArray := prog_14_method_42_code
def y_M_feast : MethodName := ⟨"DayBookModel", "feast", "(II)I"⟩
abbrev c_M_findDate : ByteArray := prog_14_method_26_code
def y_M_findDate : MethodName := ⟨"DayBookModel", "findDate", "(IJ)V"⟩
abbrev c_M_findMoonDate : ByteArray := prog_14_method_25_code
def y_M_findMoonDate : MethodName := ⟨"DayBookModel", "findMoonDate", "(J)V"⟩
abbrev c_M_findPlainYear : ByteArray := prog_14_method_24_code
def y_M_findPlainYear : MethodName := ⟨"DayBookModel", "findPlainYear", "(IJ)V"⟩
abbrev c_M_findYear : ByteArray := prog_14_method_23_code
def y_M_findYear : MethodName := ⟨"DayBookModel", "findYear", "(IJ)V"⟩
abbrev c_M_fixed : ByteArray := prog_14_method_36_code
def y_M_fixed : MethodName := ⟨"DayBookModel", "fixed", "(IIII)I"⟩
abbrev c_M_hasCalendar : ByteArray := prog_14_method_31_code
def y_M_hasCalendar : MethodName := ⟨"DayBookModel", "hasCalendar", "(I)Z"⟩
abbrev c_M_hasDate : ByteArray := prog_14_method_28_code
def y_M_hasDate : MethodName := ⟨"DayBookModel", "hasDate", "(IIIIJ)Z"⟩
abbrev c_M_inRange : ByteArray := prog_14_method_32_code
def y_M_inRange : MethodName := ⟨"DayBookModel", "inRange", "(J)Z"⟩
abbrev c_M_isLeap : ByteArray := prog_14_method_9_code
def y_M_isLeap : MethodName := ⟨"DayBookModel", "isLeap", "(IJ)Z"⟩
abbrev c_M_isYear : ByteArray := prog_14_method_35_code
def y_M_isYear : MethodName := ⟨"DayBookModel", "isYear", "(I)Z"⟩
abbrev c_M_leap : ByteArray := prog_14_method_37_code
def y_M_leap : MethodName := ⟨"DayBookModel", "leap", "(II)Z"⟩
abbrev c_M_leap0 : ByteArray := prog_14_method_8_code
def y_M_leap0 : MethodName := ⟨"DayBookModel", "leap0", "(J)Z"⟩
abbrev c_M_lengthOf : ByteArray := prog_14_method_12_code
def y_M_lengthOf : MethodName := ⟨"DayBookModel", "lengthOf", "(IJI)I"⟩
abbrev c_M_letter : ByteArray := prog_14_method_48_code
def y_M_letter : MethodName := ⟨"DayBookModel", "letter", "(I)C"⟩
abbrev c_M_lookFor : ByteArray := prog_14_method_29_code
def y_M_lookFor : MethodName := ⟨"DayBookModel", "lookFor", "(IIIIJI)J"⟩
abbrev c_M_meeting : ByteArray := prog_14_method_40_code
def y_M_meeting : MethodName := ⟨"DayBookModel", "meeting", "(III)I"⟩
abbrev c_M_mod : ByteArray := prog_14_method_4_code
def y_M_mod : MethodName := ⟨"DayBookModel", "mod", "(JJ)J"⟩
abbrev c_M_monthAt : ByteArray := prog_14_method_11_code
def y_M_monthAt : MethodName := ⟨"DayBookModel", "monthAt", "(IJI)I"⟩
abbrev c_M_monthsOf : ByteArray := prog_14_method_10_code
def y_M_monthsOf : MethodName := ⟨"DayBookModel", "monthsOf", "(IJ)I"⟩
abbrev c_M_moonLength : ByteArray := prog_14_method_19_code
def y_M_moonLength : MethodName := ⟨"DayBookModel", "moonLength", "(JIZ)I"⟩
abbrev c_M_moonStart : ByteArray := prog_14_method_18_code
def y_M_moonStart : MethodName := ⟨"DayBookModel", "moonStart", "(J)J"⟩
abbrev c_M_moons : ByteArray := prog_14_method_17_code
def y_M_moons : MethodName := ⟨"DayBookModel", "moons", "(J)J"⟩
abbrev c_M_named : ByteArray := prog_14_method_7_code
def y_M_named : MethodName := ⟨"DayBookModel", "named", "(IJ)J"⟩
abbrev c_M_numberIn : ByteArray := prog_14_method_49_code
def y_M_numberIn : MethodName := ⟨"DayBookModel", "numberIn", "(II)I"⟩
abbrev c_M_onOrBefore : ByteArray := prog_14_method_38_code
def y_M_onOrBefore : MethodName := ⟨"DayBookModel", "onOrBefore", "(II)I"⟩
abbrev c_M_plainLength : ByteArray := prog_14_method_15_code
def y_M_plainLength : MethodName := ⟨"DayBookModel", "plainLength", "(I)J"⟩
abbrev c_M_plainStart : ByteArray := prog_14_method_20_code
def y_M_plainStart : MethodName := ⟨"DayBookModel", "plainStart", "(IJ)J"⟩
abbrev c_M_plug : ByteArray := prog_14_method_33_code
def y_M_plug : MethodName := ⟨"DayBookModel", "plug", "(IIIIIII)Z"⟩
abbrev c_M_putNumber : ByteArray := prog_14_method_44_code
def y_M_putNumber : MethodName := ⟨"DayBookModel", "putNumber", "(J)V"⟩
abbrev c_M_read : ByteArray := prog_14_method_51_code
def y_M_read : MethodName := ⟨"DayBookModel", "read", "(I)I"⟩
abbrev c_M_rounds : ByteArray := prog_14_method_39_code
def y_M_rounds : MethodName := ⟨"DayBookModel", "rounds", "(I)I"⟩
abbrev c_M_setYear : ByteArray := prog_14_method_22_code
def y_M_setYear : MethodName := ⟨"DayBookModel", "setYear", "(IJJJ)V"⟩
abbrev c_M_skips : ByteArray := prog_14_method_5_code
def y_M_skips : MethodName := ⟨"DayBookModel", "skips", "(I)Z"⟩
abbrev c_M_slash : ByteArray := prog_14_method_50_code
def y_M_slash : MethodName := ⟨"DayBookModel", "slash", "(I)I"⟩
abbrev c_M_start : ByteArray := prog_14_method_21_code
def y_M_start : MethodName := ⟨"DayBookModel", "start", "(IJ)J"⟩
abbrev c_M_sundayBehind : ByteArray := prog_14_method_41_code
def y_M_sundayBehind : MethodName := ⟨"DayBookModel", "sundayBehind", "(J)J"⟩
abbrev c_M_thrown : ByteArray := prog_14_method_2_code
def y_M_thrown : MethodName := ⟨"DayBookModel", "thrown", "()I"⟩
abbrev c_M_type : ByteArray := prog_14_method_46_code
def y_M_type : MethodName := ⟨"DayBookModel", "type", "(C)Z"⟩
abbrev c_M_when : ByteArray := prog_14_method_43_code
def y_M_when : MethodName := ⟨"DayBookModel", "when", "(IIIII)I"⟩
abbrev c_M_wipe : ByteArray := prog_14_method_47_code
def y_M_wipe : MethodName := ⟨"DayBookModel", "wipe", "()I"⟩
abbrev c_M_write : ByteArray := prog_14_method_45_code
def y_M_write : MethodName := ⟨"DayBookModel", "write", "(II)I"⟩
end
section
/-! decode rows, by program (wip/whole/names.py) -/
theorem d_JA_init_0 : decode c_JA_init 0 = .ok (.aload_n 0, 1) := by decide +kernel
theorem d_JA_init_1 : decode c_JA_init 1 = .ok (.invokespecial 3, 3) := by decide +kernel
theorem d_JA_init_4 : decode c_JA_init 4 = .ok (.getstatic 18, 3) := by decide +kernel
theorem d_JA_init_7 : decode c_JA_init 7 = .ok (.ifCond .eq 18, 3) := by decide +kernel
theorem d_JA_init_10 : decode c_JA_init 10 = .ok (.aload_n 0, 1) := by decide +kernel
theorem d_JA_init_11 : decode c_JA_init 11 = .ok (.iload_n 1, 1) := by decide +kernel
theorem d_JA_init_12 : decode c_JA_init 12 = .ok (.newarray .byte, 2) := by decide +kernel
theorem d_JA_init_14 : decode c_JA_init 14 = .ok (.putfield 15, 3) := by decide +kernel
theorem d_JA_init_17 : decode c_JA_init 17 = .ok (.aload_n 0, 1) := by decide +kernel
theorem d_JA_init_18 : decode c_JA_init 18 = .ok (.iconst 0, 1) := by decide +kernel
theorem d_JA_init_19 : decode c_JA_init 19 = .ok (.putfield 22, 3) := by decide +kernel
theorem d_JA_init_22 : decode c_JA_init 22 = .ok (.goto 16, 3) := by decide +kernel
theorem d_JA_init_25 : decode c_JA_init 25 = .ok (.aload_n 0, 1) := by decide +kernel
theorem d_JA_init_26 : decode c_JA_init 26 = .ok (.iload_n 1, 1) := by decide +kernel
theorem d_JA_init_27 : decode c_JA_init 27 = .ok (.invokestatic 26, 3) := by decide +kernel
theorem d_JA_init_30 : decode c_JA_init 30 = .ok (.putfield 15, 3) := by decide +kernel
theorem d_JA_init_33 : decode c_JA_init 33 = .ok (.aload_n 0, 1) := by decide +kernel
theorem d_JA_init_34 : decode c_JA_init 34 = .ok (.iconst 1, 1) := by decide +kernel
theorem d_JA_init_35 : decode c_JA_init 35 = .ok (.putfield 22, 3) := by decide +kernel
theorem d_JA_init_38 : decode c_JA_init 38 = .ok (.return_, 1) := by decide +kernel
theorem d_JA_append_CAbstractStrin_0 : decode c_JA_append_CAbstractStrin 0 = .ok (.aload_n 0, 1) := by decide +kernel
theorem d_JA_append_CAbstractStrin_1 : decode c_JA_append_CAbstractStrin 1 = .ok (.aload_n 0, 1) := by decide +kernel
theorem d_JA_append_CAbstractStrin_2 : decode c_JA_append_CAbstractStrin 2 = .ok (.getfield 79, 3) := by decide +kernel
theorem d_JA_append_CAbstractStrin_5 : decode c_JA_append_CAbstractStrin 5 = .ok (.iconst 1, 1) := by decide +kernel
theorem d_JA_append_CAbstractStrin_6 : decode c_JA_append_CAbstractStrin 6 = .ok (.iadd, 1) := by decide +kernel
theorem d_JA_append_CAbstractStrin_7 : decode c_JA_append_CAbstractStrin 7 = .ok (.invokevirtual 100, 3) := by decide +kernel
theorem d_JA_append_CAbstractStrin_10 : decode c_JA_append_CAbstractStrin 10 = .ok (.aload_n 0, 1) := by decide +kernel
theorem d_JA_append_CAbstractStrin_11 : decode c_JA_append_CAbstractStrin 11 = .ok (.invokevirtual 83, 3) := by decide +kernel
theorem d_JA_append_CAbstractStrin_14 : decode c_JA_append_CAbstractStrin 14 = .ok (.ifCond .eq 31, 3) := by decide +kernel
theorem d_JA_append_CAbstractStrin_17 : decode c_JA_append_CAbstractStrin 17 = .ok (.iload_n 1, 1) := by decide +kernel
theorem d_JA_append_CAbstractStrin_18 : decode c_JA_append_CAbstractStrin 18 = .ok (.invokestatic 191, 3) := by decide +kernel
theorem d_JA_append_CAbstractStrin_21 : decode c_JA_append_CAbstractStrin 21 = .ok (.ifCond .eq 24, 3) := by decide +kernel
theorem d_JA_append_CAbstractStrin_24 : decode c_JA_append_CAbstractStrin 24 = .ok (.aload_n 0, 1) := by decide +kernel
theorem d_JA_append_CAbstractStrin_25 : decode c_JA_append_CAbstractStrin 25 = .ok (.getfield 15, 3) := by decide +kernel
theorem d_JA_append_CAbstractStrin_28 : decode c_JA_append_CAbstractStrin 28 = .ok (.aload_n 0, 1) := by decide +kernel
theorem d_JA_append_CAbstractStrin_29 : decode c_JA_append_CAbstractStrin 29 = .ok (.dup, 1) := by decide +kernel
theorem d_JA_append_CAbstractStrin_30 : decode c_JA_append_CAbstractStrin 30 = .ok (.getfield 79, 3) := by decide +kernel
theorem d_JA_append_CAbstractStrin_33 : decode c_JA_append_CAbstractStrin 33 = .ok (.dup_x1, 1) := by decide +kernel
theorem d_JA_append_CAbstractStrin_34 : decode c_JA_append_CAbstractStrin 34 = .ok (.iconst 1, 1) := by decide +kernel
theorem d_JA_append_CAbstractStrin_35 : decode c_JA_append_CAbstractStrin 35 = .ok (.iadd, 1) := by decide +kernel
theorem d_JA_append_CAbstractStrin_36 : decode c_JA_append_CAbstractStrin 36 = .ok (.putfield 79, 3) := by decide +kernel
theorem d_JA_append_CAbstractStrin_39 : decode c_JA_append_CAbstractStrin 39 = .ok (.iload_n 1, 1) := by decide +kernel
theorem d_JA_append_CAbstractStrin_40 : decode c_JA_append_CAbstractStrin 40 = .ok (.i2b, 1) := by decide +kernel
theorem d_JA_append_CAbstractStrin_41 : decode c_JA_append_CAbstractStrin 41 = .ok (.bastore, 1) := by decide +kernel
theorem d_JA_append_CAbstractStrin_42 : decode c_JA_append_CAbstractStrin 42 = .ok (.goto 33, 3) := by decide +kernel
theorem d_JA_append_CAbstractStrin_45 : decode c_JA_append_CAbstractStrin 45 = .ok (.aload_n 0, 1) := by decide +kernel
theorem d_JA_append_CAbstractStrin_46 : decode c_JA_append_CAbstractStrin 46 = .ok (.invokevirtual 83, 3) := by decide +kernel
theorem d_JA_append_CAbstractStrin_49 : decode c_JA_append_CAbstractStrin 49 = .ok (.ifCond .eq 7, 3) := by decide +kernel
theorem d_JA_append_CAbstractStrin_52 : decode c_JA_append_CAbstractStrin 52 = .ok (.aload_n 0, 1) := by decide +kernel
theorem d_JA_append_CAbstractStrin_53 : decode c_JA_append_CAbstractStrin 53 = .ok (.invokevirtual 195, 3) := by decide +kernel
theorem d_JA_append_CAbstractStrin_56 : decode c_JA_append_CAbstractStrin 56 = .ok (.aload_n 0, 1) := by decide +kernel
theorem d_JA_append_CAbstractStrin_57 : decode c_JA_append_CAbstractStrin 57 = .ok (.getfield 15, 3) := by decide +kernel
theorem d_JA_append_CAbstractStrin_60 : decode c_JA_append_CAbstractStrin 60 = .ok (.aload_n 0, 1) := by decide +kernel
theorem d_JA_append_CAbstractStrin_61 : decode c_JA_append_CAbstractStrin 61 = .ok (.dup, 1) := by decide +kernel
theorem d_JA_append_CAbstractStrin_62 : decode c_JA_append_CAbstractStrin 62 = .ok (.getfield 79, 3) := by decide +kernel
theorem d_JA_append_CAbstractStrin_65 : decode c_JA_append_CAbstractStrin 65 = .ok (.dup_x1, 1) := by decide +kernel
theorem d_JA_append_CAbstractStrin_66 : decode c_JA_append_CAbstractStrin 66 = .ok (.iconst 1, 1) := by decide +kernel
theorem d_JA_append_CAbstractStrin_67 : decode c_JA_append_CAbstractStrin 67 = .ok (.iadd, 1) := by decide +kernel
theorem d_JA_append_CAbstractStrin_68 : decode c_JA_append_CAbstractStrin 68 = .ok (.putfield 79, 3) := by decide +kernel
theorem d_JA_append_CAbstractStrin_71 : decode c_JA_append_CAbstractStrin 71 = .ok (.iload_n 1, 1) := by decide +kernel
theorem d_JA_append_CAbstractStrin_72 : decode c_JA_append_CAbstractStrin 72 = .ok (.invokestatic 197, 3) := by decide +kernel
theorem d_JA_append_CAbstractStrin_75 : decode c_JA_append_CAbstractStrin 75 = .ok (.aload_n 0, 1) := by decide +kernel
theorem d_JA_append_CAbstractStrin_76 : decode c_JA_append_CAbstractStrin 76 = .ok (.areturn, 1) := by decide +kernel
theorem d_JA_append_IAbstractStrin_0 : decode c_JA_append_IAbstractStrin 0 = .ok (.aload_n 0, 1) := by decide +kernel
theorem d_JA_append_IAbstractStrin_1 : decode c_JA_append_IAbstractStrin 1 = .ok (.getfield 79, 3) := by decide +kernel
theorem d_JA_append_IAbstractStrin_4 : decode c_JA_append_IAbstractStrin 4 = .ok (.istore_n 2, 1) := by decide +kernel
theorem d_JA_append_IAbstractStrin_5 : decode c_JA_append_IAbstractStrin 5 = .ok (.iload_n 2, 1) := by decide +kernel
theorem d_JA_append_IAbstractStrin_6 : decode c_JA_append_IAbstractStrin 6 = .ok (.iload_n 1, 1) := by decide +kernel
theorem d_JA_append_IAbstractStrin_7 : decode c_JA_append_IAbstractStrin 7 = .ok (.invokestatic 245, 3) := by decide +kernel
theorem d_JA_append_IAbstractStrin_10 : decode c_JA_append_IAbstractStrin 10 = .ok (.iadd, 1) := by decide +kernel
theorem d_JA_append_IAbstractStrin_11 : decode c_JA_append_IAbstractStrin 11 = .ok (.istore_n 3, 1) := by decide +kernel
theorem d_JA_append_IAbstractStrin_12 : decode c_JA_append_IAbstractStrin 12 = .ok (.aload_n 0, 1) := by decide +kernel
theorem d_JA_append_IAbstractStrin_13 : decode c_JA_append_IAbstractStrin 13 = .ok (.iload_n 3, 1) := by decide +kernel
theorem d_JA_append_IAbstractStrin_14 : decode c_JA_append_IAbstractStrin 14 = .ok (.invokevirtual 100, 3) := by decide +kernel
theorem d_JA_append_IAbstractStrin_17 : decode c_JA_append_IAbstractStrin 17 = .ok (.aload_n 0, 1) := by decide +kernel
theorem d_JA_append_IAbstractStrin_18 : decode c_JA_append_IAbstractStrin 18 = .ok (.invokevirtual 83, 3) := by decide +kernel
theorem d_JA_append_IAbstractStrin_21 : decode c_JA_append_IAbstractStrin 21 = .ok (.ifCond .eq 16, 3) := by decide +kernel
theorem d_JA_append_IAbstractStrin_24 : decode c_JA_append_IAbstractStrin 24 = .ok (.iload_n 1, 1) := by decide +kernel
theorem d_JA_append_IAbstractStrin_25 : decode c_JA_append_IAbstractStrin 25 = .ok (.iload_n 3, 1) := by decide +kernel
theorem d_JA_append_IAbstractStrin_26 : decode c_JA_append_IAbstractStrin 26 = .ok (.aload_n 0, 1) := by decide +kernel
theorem d_JA_append_IAbstractStrin_27 : decode c_JA_append_IAbstractStrin 27 = .ok (.getfield 15, 3) := by decide +kernel
theorem d_JA_append_IAbstractStrin_30 : decode c_JA_append_IAbstractStrin 30 = .ok (.invokestatic 248, 3) := by decide +kernel
theorem d_JA_append_IAbstractStrin_33 : decode c_JA_append_IAbstractStrin 33 = .ok (.pop, 1) := by decide +kernel
theorem d_JA_append_IAbstractStrin_34 : decode c_JA_append_IAbstractStrin 34 = .ok (.goto 14, 3) := by decide +kernel
theorem d_JA_append_IAbstractStrin_37 : decode c_JA_append_IAbstractStrin 37 = .ok (.iload_n 1, 1) := by decide +kernel
theorem d_JA_append_IAbstractStrin_38 : decode c_JA_append_IAbstractStrin 38 = .ok (.iload_n 2, 1) := by decide +kernel
theorem d_JA_append_IAbstractStrin_39 : decode c_JA_append_IAbstractStrin 39 = .ok (.iload_n 3, 1) := by decide +kernel
theorem d_JA_append_IAbstractStrin_40 : decode c_JA_append_IAbstractStrin 40 = .ok (.aload_n 0, 1) := by decide +kernel
theorem d_JA_append_IAbstractStrin_41 : decode c_JA_append_IAbstractStrin 41 = .ok (.getfield 15, 3) := by decide +kernel
theorem d_JA_append_IAbstractStrin_44 : decode c_JA_append_IAbstractStrin 44 = .ok (.invokestatic 251, 3) := by decide +kernel
theorem d_JA_append_IAbstractStrin_47 : decode c_JA_append_IAbstractStrin 47 = .ok (.pop, 1) := by decide +kernel
theorem d_JA_append_IAbstractStrin_48 : decode c_JA_append_IAbstractStrin 48 = .ok (.aload_n 0, 1) := by decide +kernel
theorem d_JA_append_IAbstractStrin_49 : decode c_JA_append_IAbstractStrin 49 = .ok (.iload_n 3, 1) := by decide +kernel
theorem d_JA_append_IAbstractStrin_50 : decode c_JA_append_IAbstractStrin 50 = .ok (.putfield 79, 3) := by decide +kernel
theorem d_JA_append_IAbstractStrin_53 : decode c_JA_append_IAbstractStrin 53 = .ok (.aload_n 0, 1) := by decide +kernel
theorem d_JA_append_IAbstractStrin_54 : decode c_JA_append_IAbstractStrin 54 = .ok (.areturn, 1) := by decide +kernel
theorem d_JA_charAt_0 : decode c_JA_charAt 0 = .ok (.aload_n 0, 1) := by decide +kernel
theorem d_JA_charAt_1 : decode c_JA_charAt 1 = .ok (.getfield 22, 3) := by decide +kernel
theorem d_JA_charAt_4 : decode c_JA_charAt 4 = .ok (.istore_n 2, 1) := by decide +kernel
theorem d_JA_charAt_5 : decode c_JA_charAt 5 = .ok (.aload_n 0, 1) := by decide +kernel
theorem d_JA_charAt_6 : decode c_JA_charAt 6 = .ok (.getfield 15, 3) := by decide +kernel
theorem d_JA_charAt_9 : decode c_JA_charAt 9 = .ok (.astore_n 3, 1) := by decide +kernel
theorem d_JA_charAt_10 : decode c_JA_charAt 10 = .ok (.aload_n 0, 1) := by decide +kernel
theorem d_JA_charAt_11 : decode c_JA_charAt 11 = .ok (.getfield 79, 3) := by decide +kernel
theorem d_JA_charAt_14 : decode c_JA_charAt 14 = .ok (.aload_n 3, 1) := by decide +kernel
theorem d_JA_charAt_15 : decode c_JA_charAt 15 = .ok (.arraylength, 1) := by decide +kernel
theorem d_JA_charAt_16 : decode c_JA_charAt 16 = .ok (.iload_n 2, 1) := by decide +kernel
theorem d_JA_charAt_17 : decode c_JA_charAt 17 = .ok (.ishr, 1) := by decide +kernel
theorem d_JA_charAt_18 : decode c_JA_charAt 18 = .ok (.invokestatic 138, 3) := by decide +kernel
theorem d_JA_charAt_21 : decode c_JA_charAt 21 = .ok (.istore 4, 2) := by decide +kernel
theorem d_JA_charAt_23 : decode c_JA_charAt 23 = .ok (.iload_n 1, 1) := by decide +kernel
theorem d_JA_charAt_24 : decode c_JA_charAt 24 = .ok (.iload 4, 2) := by decide +kernel
theorem d_JA_charAt_26 : decode c_JA_charAt 26 = .ok (.invokestatic 144, 3) := by decide +kernel
theorem d_JA_charAt_29 : decode c_JA_charAt 29 = .ok (.iload_n 2, 1) := by decide +kernel
theorem d_JA_charAt_30 : decode c_JA_charAt 30 = .ok (.ifCond .ne 12, 3) := by decide +kernel
theorem d_JA_charAt_33 : decode c_JA_charAt 33 = .ok (.aload_n 3, 1) := by decide +kernel
theorem d_JA_charAt_34 : decode c_JA_charAt 34 = .ok (.iload_n 1, 1) := by decide +kernel
theorem d_JA_charAt_35 : decode c_JA_charAt 35 = .ok (.baload, 1) := by decide +kernel
theorem d_JA_charAt_36 : decode c_JA_charAt 36 = .ok (.sipush 255, 3) := by decide +kernel
theorem d_JA_charAt_39 : decode c_JA_charAt 39 = .ok (.iand, 1) := by decide +kernel
theorem d_JA_charAt_40 : decode c_JA_charAt 40 = .ok (.i2c, 1) := by decide +kernel
theorem d_JA_charAt_41 : decode c_JA_charAt 41 = .ok (.ireturn, 1) := by decide +kernel
theorem d_JA_charAt_42 : decode c_JA_charAt 42 = .ok (.aload_n 3, 1) := by decide +kernel
theorem d_JA_charAt_43 : decode c_JA_charAt 43 = .ok (.iload_n 1, 1) := by decide +kernel
theorem d_JA_charAt_44 : decode c_JA_charAt 44 = .ok (.invokestatic 148, 3) := by decide +kernel
theorem d_JA_charAt_47 : decode c_JA_charAt 47 = .ok (.ireturn, 1) := by decide +kernel
theorem d_JA_ensureCapacityInternal_0 : decode c_JA_ensureCapacityInternal 0 = .ok (.aload_n 0, 1) := by decide +kernel
theorem d_JA_ensureCapacityInternal_1 : decode c_JA_ensureCapacityInternal 1 = .ok (.getfield 15, 3) := by decide +kernel
theorem d_JA_ensureCapacityInternal_4 : decode c_JA_ensureCapacityInternal 4 = .ok (.arraylength, 1) := by decide +kernel
theorem d_JA_ensureCapacityInternal_5 : decode c_JA_ensureCapacityInternal 5 = .ok (.aload_n 0, 1) := by decide +kernel
theorem d_JA_ensureCapacityInternal_6 : decode c_JA_ensureCapacityInternal 6 = .ok (.getfield 22, 3) := by decide +kernel
theorem d_JA_ensureCapacityInternal_9 : decode c_JA_ensureCapacityInternal 9 = .ok (.ishr, 1) := by decide +kernel
theorem d_JA_ensureCapacityInternal_10 : decode c_JA_ensureCapacityInternal 10 = .ok (.istore_n 2, 1) := by decide +kernel
theorem d_JA_ensureCapacityInternal_11 : decode c_JA_ensureCapacityInternal 11 = .ok (.iload_n 1, 1) := by decide +kernel
theorem d_JA_ensureCapacityInternal_12 : decode c_JA_ensureCapacityInternal 12 = .ok (.iload_n 2, 1) := by decide +kernel
theorem d_JA_ensureCapacityInternal_13 : decode c_JA_ensureCapacityInternal 13 = .ok (.isub, 1) := by decide +kernel
theorem d_JA_ensureCapacityInternal_14 : decode c_JA_ensureCapacityInternal 14 = .ok (.ifCond .le 24, 3) := by decide +kernel
theorem d_JA_ensureCapacityInternal_17 : decode c_JA_ensureCapacityInternal 17 = .ok (.aload_n 0, 1) := by decide +kernel
theorem d_JA_ensureCapacityInternal_18 : decode c_JA_ensureCapacityInternal 18 = .ok (.aload_n 0, 1) := by decide +kernel
theorem d_JA_ensureCapacityInternal_19 : decode c_JA_ensureCapacityInternal 19 = .ok (.getfield 15, 3) := by decide +kernel
theorem d_JA_ensureCapacityInternal_22 : decode c_JA_ensureCapacityInternal 22 = .ok (.aload_n 0, 1) := by decide +kernel
theorem d_JA_ensureCapacityInternal_23 : decode c_JA_ensureCapacityInternal 23 = .ok (.iload_n 1, 1) := by decide +kernel
theorem d_JA_ensureCapacityInternal_24 : decode c_JA_ensureCapacityInternal 24 = .ok (.invokevirtual 104, 3) := by decide +kernel
theorem d_JA_ensureCapacityInternal_27 : decode c_JA_ensureCapacityInternal 27 = .ok (.aload_n 0, 1) := by decide +kernel
theorem d_JA_ensureCapacityInternal_28 : decode c_JA_ensureCapacityInternal 28 = .ok (.getfield 22, 3) := by decide +kernel
theorem d_JA_ensureCapacityInternal_31 : decode c_JA_ensureCapacityInternal 31 = .ok (.ishl, 1) := by decide +kernel
theorem d_JA_ensureCapacityInternal_32 : decode c_JA_ensureCapacityInternal 32 = .ok (.invokestatic 108, 3) := by decide +kernel
theorem d_JA_ensureCapacityInternal_35 : decode c_JA_ensureCapacityInternal 35 = .ok (.putfield 15, 3) := by decide +kernel
theorem d_JA_ensureCapacityInternal_38 : decode c_JA_ensureCapacityInternal 38 = .ok (.return_, 1) := by decide +kernel
theorem d_JA_inflate_0 : decode c_JA_inflate 0 = .ok (.aload_n 0, 1) := by decide +kernel
theorem d_JA_inflate_1 : decode c_JA_inflate 1 = .ok (.invokevirtual 83, 3) := by decide +kernel
theorem d_JA_inflate_4 : decode c_JA_inflate 4 = .ok (.ifCond .ne 4, 3) := by decide +kernel
theorem d_JA_inflate_7 : decode c_JA_inflate 7 = .ok (.return_, 1) := by decide +kernel
theorem d_JA_inflate_8 : decode c_JA_inflate 8 = .ok (.aload_n 0, 1) := by decide +kernel
theorem d_JA_inflate_9 : decode c_JA_inflate 9 = .ok (.getfield 15, 3) := by decide +kernel
theorem d_JA_inflate_12 : decode c_JA_inflate 12 = .ok (.arraylength, 1) := by decide +kernel
theorem d_JA_inflate_13 : decode c_JA_inflate 13 = .ok (.invokestatic 26, 3) := by decide +kernel
theorem d_JA_inflate_16 : decode c_JA_inflate 16 = .ok (.astore_n 1, 1) := by decide +kernel
theorem d_JA_inflate_17 : decode c_JA_inflate 17 = .ok (.aload_n 0, 1) := by decide +kernel
theorem d_JA_inflate_18 : decode c_JA_inflate 18 = .ok (.getfield 15, 3) := by decide +kernel
theorem d_JA_inflate_21 : decode c_JA_inflate 21 = .ok (.iconst 0, 1) := by decide +kernel
theorem d_JA_inflate_22 : decode c_JA_inflate 22 = .ok (.aload_n 1, 1) := by decide +kernel
theorem d_JA_inflate_23 : decode c_JA_inflate 23 = .ok (.iconst 0, 1) := by decide +kernel
theorem d_JA_inflate_24 : decode c_JA_inflate 24 = .ok (.aload_n 0, 1) := by decide +kernel
theorem d_JA_inflate_25 : decode c_JA_inflate 25 = .ok (.getfield 79, 3) := by decide +kernel
theorem d_JA_inflate_28 : decode c_JA_inflate 28 = .ok (.invokestatic 125, 3) := by decide +kernel
theorem d_JA_inflate_31 : decode c_JA_inflate 31 = .ok (.aload_n 0, 1) := by decide +kernel
theorem d_JA_inflate_32 : decode c_JA_inflate 32 = .ok (.aload_n 1, 1) := by decide +kernel
theorem d_JA_inflate_33 : decode c_JA_inflate 33 = .ok (.putfield 15, 3) := by decide +kernel
theorem d_JA_inflate_36 : decode c_JA_inflate 36 = .ok (.aload_n 0, 1) := by decide +kernel
theorem d_JA_inflate_37 : decode c_JA_inflate 37 = .ok (.iconst 1, 1) := by decide +kernel
theorem d_JA_inflate_38 : decode c_JA_inflate 38 = .ok (.putfield 22, 3) := by decide +kernel
theorem d_JA_inflate_41 : decode c_JA_inflate 41 = .ok (.return_, 1) := by decide +kernel
theorem d_JA_isLatin1_0 : decode c_JA_isLatin1 0 = .ok (.getstatic 18, 3) := by decide +kernel
theorem d_JA_isLatin1_3 : decode c_JA_isLatin1 3 = .ok (.ifCond .eq 14, 3) := by decide +kernel
theorem d_JA_isLatin1_6 : decode c_JA_isLatin1 6 = .ok (.aload_n 0, 1) := by decide +kernel
theorem d_JA_isLatin1_7 : decode c_JA_isLatin1 7 = .ok (.getfield 22, 3) := by decide +kernel
theorem d_JA_isLatin1_10 : decode c_JA_isLatin1 10 = .ok (.ifCond .ne 7, 3) := by decide +kernel
theorem d_JA_isLatin1_13 : decode c_JA_isLatin1 13 = .ok (.iconst 1, 1) := by decide +kernel
theorem d_JA_isLatin1_14 : decode c_JA_isLatin1 14 = .ok (.goto 4, 3) := by decide +kernel
theorem d_JA_isLatin1_17 : decode c_JA_isLatin1 17 = .ok (.iconst 0, 1) := by decide +kernel
theorem d_JA_isLatin1_18 : decode c_JA_isLatin1 18 = .ok (.ireturn, 1) := by decide +kernel
theorem d_JA_length_0 : decode c_JA_length 0 = .ok (.aload_n 0, 1) := by decide +kernel
theorem d_JA_length_1 : decode c_JA_length 1 = .ok (.getfield 79, 3) := by decide +kernel
theorem d_JA_length_4 : decode c_JA_length 4 = .ok (.ireturn, 1) := by decide +kernel
theorem d_JA_newCapacity_0 : decode c_JA_newCapacity 0 = .ok (.aload_n 0, 1) := by decide +kernel
theorem d_JA_newCapacity_1 : decode c_JA_newCapacity 1 = .ok (.getfield 15, 3) := by decide +kernel
theorem d_JA_newCapacity_4 : decode c_JA_newCapacity 4 = .ok (.arraylength, 1) := by decide +kernel
theorem d_JA_newCapacity_5 : decode c_JA_newCapacity 5 = .ok (.istore_n 2, 1) := by decide +kernel
theorem d_JA_newCapacity_6 : decode c_JA_newCapacity 6 = .ok (.iload_n 1, 1) := by decide +kernel
theorem d_JA_newCapacity_7 : decode c_JA_newCapacity 7 = .ok (.aload_n 0, 1) := by decide +kernel
theorem d_JA_newCapacity_8 : decode c_JA_newCapacity 8 = .ok (.getfield 22, 3) := by decide +kernel
theorem d_JA_newCapacity_11 : decode c_JA_newCapacity 11 = .ok (.ishl, 1) := by decide +kernel
theorem d_JA_newCapacity_12 : decode c_JA_newCapacity 12 = .ok (.istore_n 3, 1) := by decide +kernel
theorem d_JA_newCapacity_13 : decode c_JA_newCapacity 13 = .ok (.iload_n 3, 1) := by decide +kernel
theorem d_JA_newCapacity_14 : decode c_JA_newCapacity 14 = .ok (.iload_n 2, 1) := by decide +kernel
theorem d_JA_newCapacity_15 : decode c_JA_newCapacity 15 = .ok (.isub, 1) := by decide +kernel
theorem d_JA_newCapacity_16 : decode c_JA_newCapacity 16 = .ok (.istore 4, 2) := by decide +kernel
theorem d_JA_newCapacity_18 : decode c_JA_newCapacity 18 = .ok (.iload_n 2, 1) := by decide +kernel
theorem d_JA_newCapacity_19 : decode c_JA_newCapacity 19 = .ok (.iload 4, 2) := by decide +kernel
theorem d_JA_newCapacity_21 : decode c_JA_newCapacity 21 = .ok (.iload_n 2, 1) := by decide +kernel
theorem d_JA_newCapacity_22 : decode c_JA_newCapacity 22 = .ok (.iconst 2, 1) := by decide +kernel
theorem d_JA_newCapacity_23 : decode c_JA_newCapacity 23 = .ok (.aload_n 0, 1) := by decide +kernel
theorem d_JA_newCapacity_24 : decode c_JA_newCapacity 24 = .ok (.getfield 22, 3) := by decide +kernel
theorem d_JA_newCapacity_27 : decode c_JA_newCapacity 27 = .ok (.ishl, 1) := by decide +kernel
theorem d_JA_newCapacity_28 : decode c_JA_newCapacity 28 = .ok (.iadd, 1) := by decide +kernel
theorem d_JA_newCapacity_29 : decode c_JA_newCapacity 29 = .ok (.invokestatic 114, 3) := by decide +kernel
theorem d_JA_newCapacity_32 : decode c_JA_newCapacity 32 = .ok (.istore 5, 2) := by decide +kernel
theorem d_JA_newCapacity_34 : decode c_JA_newCapacity 34 = .ok (.iload 5, 2) := by decide +kernel
theorem d_JA_newCapacity_36 : decode c_JA_newCapacity 36 = .ok (.ldc 39, 2) := by decide +kernel
theorem d_JA_newCapacity_38 : decode c_JA_newCapacity 38 = .ok (.if_icmp .ne 13, 3) := by decide +kernel
theorem d_JA_newCapacity_41 : decode c_JA_newCapacity 41 = .ok (.new 120, 3) := by decide +kernel
theorem d_JA_newCapacity_44 : decode c_JA_newCapacity 44 = .ok (.dup, 1) := by decide +kernel
theorem d_JA_newCapacity_45 : decode c_JA_newCapacity 45 = .ok (.ldc 122, 2) := by decide +kernel
theorem d_JA_newCapacity_47 : decode c_JA_newCapacity 47 = .ok (.invokespecial 124, 3) := by decide +kernel
theorem d_JA_newCapacity_50 : decode c_JA_newCapacity 50 = .ok (.athrow, 1) := by decide +kernel
theorem d_JA_newCapacity_51 : decode c_JA_newCapacity 51 = .ok (.iload 5, 2) := by decide +kernel
theorem d_JA_newCapacity_53 : decode c_JA_newCapacity 53 = .ok (.aload_n 0, 1) := by decide +kernel
theorem d_JA_newCapacity_54 : decode c_JA_newCapacity 54 = .ok (.getfield 22, 3) := by decide +kernel
theorem d_JA_newCapacity_57 : decode c_JA_newCapacity 57 = .ok (.ishr, 1) := by decide +kernel
theorem d_JA_newCapacity_58 : decode c_JA_newCapacity 58 = .ok (.ireturn, 1) := by decide +kernel
theorem d_JA_setLength_0 : decode c_JA_setLength 0 = .ok (.iload_n 1, 1) := by decide +kernel
theorem d_JA_setLength_1 : decode c_JA_setLength 1 = .ok (.ifCond .ge 12, 3) := by decide +kernel
theorem d_JA_setLength_4 : decode c_JA_setLength 4 = .ok (.new 129, 3) := by decide +kernel
theorem d_JA_setLength_7 : decode c_JA_setLength 7 = .ok (.dup, 1) := by decide +kernel
theorem d_JA_setLength_8 : decode c_JA_setLength 8 = .ok (.iload_n 1, 1) := by decide +kernel
theorem d_JA_setLength_9 : decode c_JA_setLength 9 = .ok (.invokespecial 131, 3) := by decide +kernel
theorem d_JA_setLength_12 : decode c_JA_setLength 12 = .ok (.athrow, 1) := by decide +kernel
theorem d_JA_setLength_13 : decode c_JA_setLength 13 = .ok (.aload_n 0, 1) := by decide +kernel
theorem d_JA_setLength_14 : decode c_JA_setLength 14 = .ok (.iload_n 1, 1) := by decide +kernel
theorem d_JA_setLength_15 : decode c_JA_setLength 15 = .ok (.invokevirtual 100, 3) := by decide +kernel
theorem d_JA_setLength_18 : decode c_JA_setLength 18 = .ok (.aload_n 0, 1) := by decide +kernel
theorem d_JA_setLength_19 : decode c_JA_setLength 19 = .ok (.getfield 79, 3) := by decide +kernel
theorem d_JA_setLength_22 : decode c_JA_setLength 22 = .ok (.iload_n 1, 1) := by decide +kernel
theorem d_JA_setLength_23 : decode c_JA_setLength 23 = .ok (.if_icmp .ge 40, 3) := by decide +kernel
theorem d_JA_setLength_26 : decode c_JA_setLength 26 = .ok (.aload_n 0, 1) := by decide +kernel
theorem d_JA_setLength_27 : decode c_JA_setLength 27 = .ok (.invokevirtual 83, 3) := by decide +kernel
theorem d_JA_setLength_30 : decode c_JA_setLength 30 = .ok (.ifCond .eq 18, 3) := by decide +kernel
theorem d_JA_setLength_33 : decode c_JA_setLength 33 = .ok (.aload_n 0, 1) := by decide +kernel
theorem d_JA_setLength_34 : decode c_JA_setLength 34 = .ok (.getfield 15, 3) := by decide +kernel
theorem d_JA_setLength_37 : decode c_JA_setLength 37 = .ok (.aload_n 0, 1) := by decide +kernel
theorem d_JA_setLength_38 : decode c_JA_setLength 38 = .ok (.getfield 79, 3) := by decide +kernel
theorem d_JA_setLength_41 : decode c_JA_setLength 41 = .ok (.iload_n 1, 1) := by decide +kernel
theorem d_JA_setLength_42 : decode c_JA_setLength 42 = .ok (.invokestatic 133, 3) := by decide +kernel
theorem d_JA_setLength_45 : decode c_JA_setLength 45 = .ok (.goto 31, 3) := by decide +kernel
theorem d_JA_setLength_48 : decode c_JA_setLength 48 = .ok (.aload_n 0, 1) := by decide +kernel
theorem d_JA_setLength_49 : decode c_JA_setLength 49 = .ok (.getfield 15, 3) := by decide +kernel
theorem d_JA_setLength_52 : decode c_JA_setLength 52 = .ok (.aload_n 0, 1) := by decide +kernel
theorem d_JA_setLength_53 : decode c_JA_setLength 53 = .ok (.getfield 79, 3) := by decide +kernel
theorem d_JA_setLength_56 : decode c_JA_setLength 56 = .ok (.iload_n 1, 1) := by decide +kernel
theorem d_JA_setLength_57 : decode c_JA_setLength 57 = .ok (.invokestatic 137, 3) := by decide +kernel
theorem d_JA_setLength_60 : decode c_JA_setLength 60 = .ok (.goto 16, 3) := by decide +kernel
theorem d_JA_setLength_63 : decode c_JA_setLength 63 = .ok (.aload_n 0, 1) := by decide +kernel
theorem d_JA_setLength_64 : decode c_JA_setLength 64 = .ok (.getfield 79, 3) := by decide +kernel
theorem d_JA_setLength_67 : decode c_JA_setLength 67 = .ok (.iload_n 1, 1) := by decide +kernel
theorem d_JA_setLength_68 : decode c_JA_setLength 68 = .ok (.if_icmp .le 8, 3) := by decide +kernel
theorem d_JA_setLength_71 : decode c_JA_setLength 71 = .ok (.aload_n 0, 1) := by decide +kernel
theorem d_JA_setLength_72 : decode c_JA_setLength 72 = .ok (.iconst 1, 1) := by decide +kernel
theorem d_JA_setLength_73 : decode c_JA_setLength 73 = .ok (.putfield 73, 3) := by decide +kernel
theorem d_JA_setLength_76 : decode c_JA_setLength 76 = .ok (.aload_n 0, 1) := by decide +kernel
theorem d_JA_setLength_77 : decode c_JA_setLength 77 = .ok (.iload_n 1, 1) := by decide +kernel
theorem d_JA_setLength_78 : decode c_JA_setLength 78 = .ok (.putfield 79, 3) := by decide +kernel
theorem d_JA_setLength_81 : decode c_JA_setLength 81 = .ok (.return_, 1) := by decide +kernel
theorem d_JH_init_0 : decode c_JH_init 0 = .ok (.aload_n 0, 1) := by decide +kernel
theorem d_JH_init_1 : decode c_JH_init 1 = .ok (.invokespecial 1, 3) := by decide +kernel
theorem d_JH_init_4 : decode c_JH_init 4 = .ok (.return_, 1) := by decide +kernel
theorem d_JE_init_0 : decode c_JE_init 0 = .ok (.aload_n 0, 1) := by decide +kernel
theorem d_JE_init_1 : decode c_JE_init 1 = .ok (.invokespecial 1, 3) := by decide +kernel
theorem d_JE_init_4 : decode c_JE_init 4 = .ok (.return_, 1) := by decide +kernel
theorem d_JG_init_0 : decode c_JG_init 0 = .ok (.aload_n 0, 1) := by decide +kernel
theorem d_JG_init_1 : decode c_JG_init 1 = .ok (.invokespecial 1, 3) := by decide +kernel
theorem d_JG_init_4 : decode c_JG_init 4 = .ok (.return_, 1) := by decide +kernel
theorem d_JX_init_0 : decode c_JX_init 0 = .ok (.aload_n 0, 1) := by decide +kernel
theorem d_JX_init_1 : decode c_JX_init 1 = .ok (.invokespecial 1, 3) := by decide +kernel
theorem d_JX_init_4 : decode c_JX_init 4 = .ok (.return_, 1) := by decide +kernel
theorem d_JI_getChars_0 : decode c_JI_getChars 0 = .ok (.iload_n 1, 1) := by decide +kernel
theorem d_JI_getChars_1 : decode c_JI_getChars 1 = .ok (.istore 5, 2) := by decide +kernel
theorem d_JI_getChars_3 : decode c_JI_getChars 3 = .ok (.iload_n 0, 1) := by decide +kernel
theorem d_JI_getChars_4 : decode c_JI_getChars 4 = .ok (.ifCond .ge 7, 3) := by decide +kernel
theorem d_JI_getChars_7 : decode c_JI_getChars 7 = .ok (.iconst 1, 1) := by decide +kernel
theorem d_JI_getChars_8 : decode c_JI_getChars 8 = .ok (.goto 4, 3) := by decide +kernel
theorem d_JI_getChars_11 : decode c_JI_getChars 11 = .ok (.iconst 0, 1) := by decide +kernel
theorem d_JI_getChars_12 : decode c_JI_getChars 12 = .ok (.istore 6, 2) := by decide +kernel
theorem d_JI_getChars_14 : decode c_JI_getChars 14 = .ok (.iload 6, 2) := by decide +kernel
theorem d_JI_getChars_16 : decode c_JI_getChars 16 = .ok (.ifCond .ne 6, 3) := by decide +kernel
theorem d_JI_getChars_19 : decode c_JI_getChars 19 = .ok (.iload_n 0, 1) := by decide +kernel
theorem d_JI_getChars_20 : decode c_JI_getChars 20 = .ok (.ineg, 1) := by decide +kernel
theorem d_JI_getChars_21 : decode c_JI_getChars 21 = .ok (.istore_n 0, 1) := by decide +kernel
theorem d_JI_getChars_22 : decode c_JI_getChars 22 = .ok (.iload_n 0, 1) := by decide +kernel
theorem d_JI_getChars_23 : decode c_JI_getChars 23 = .ok (.bipush (-100), 2) := by decide +kernel
theorem d_JI_getChars_25 : decode c_JI_getChars 25 = .ok (.if_icmp .gt 47, 3) := by decide +kernel
theorem d_JI_getChars_28 : decode c_JI_getChars 28 = .ok (.iload_n 0, 1) := by decide +kernel
theorem d_JI_getChars_29 : decode c_JI_getChars 29 = .ok (.bipush 100, 2) := by decide +kernel
theorem d_JI_getChars_31 : decode c_JI_getChars 31 = .ok (.idiv, 1) := by decide +kernel
theorem d_JI_getChars_32 : decode c_JI_getChars 32 = .ok (.istore_n 3, 1) := by decide +kernel
theorem d_JI_getChars_33 : decode c_JI_getChars 33 = .ok (.iload_n 3, 1) := by decide +kernel
theorem d_JI_getChars_34 : decode c_JI_getChars 34 = .ok (.bipush 100, 2) := by decide +kernel
theorem d_JI_getChars_36 : decode c_JI_getChars 36 = .ok (.imul, 1) := by decide +kernel
theorem d_JI_getChars_37 : decode c_JI_getChars 37 = .ok (.iload_n 0, 1) := by decide +kernel
theorem d_JI_getChars_38 : decode c_JI_getChars 38 = .ok (.isub, 1) := by decide +kernel
theorem d_JI_getChars_39 : decode c_JI_getChars 39 = .ok (.istore 4, 2) := by decide +kernel
theorem d_JI_getChars_41 : decode c_JI_getChars 41 = .ok (.iload_n 3, 1) := by decide +kernel
theorem d_JI_getChars_42 : decode c_JI_getChars 42 = .ok (.istore_n 0, 1) := by decide +kernel
theorem d_JI_getChars_43 : decode c_JI_getChars 43 = .ok (.aload_n 2, 1) := by decide +kernel
theorem d_JI_getChars_44 : decode c_JI_getChars 44 = .ok (.iinc 5 (-1), 3) := by decide +kernel
theorem d_JI_getChars_47 : decode c_JI_getChars 47 = .ok (.iload 5, 2) := by decide +kernel
theorem d_JI_getChars_49 : decode c_JI_getChars 49 = .ok (.getstatic 83, 3) := by decide +kernel
theorem d_JI_getChars_52 : decode c_JI_getChars 52 = .ok (.iload 4, 2) := by decide +kernel
theorem d_JI_getChars_54 : decode c_JI_getChars 54 = .ok (.baload, 1) := by decide +kernel
theorem d_JI_getChars_55 : decode c_JI_getChars 55 = .ok (.bastore, 1) := by decide +kernel
theorem d_JI_getChars_56 : decode c_JI_getChars 56 = .ok (.aload_n 2, 1) := by decide +kernel
theorem d_JI_getChars_57 : decode c_JI_getChars 57 = .ok (.iinc 5 (-1), 3) := by decide +kernel
theorem d_JI_getChars_60 : decode c_JI_getChars 60 = .ok (.iload 5, 2) := by decide +kernel
theorem d_JI_getChars_62 : decode c_JI_getChars 62 = .ok (.getstatic 87, 3) := by decide +kernel
theorem d_JI_getChars_65 : decode c_JI_getChars 65 = .ok (.iload 4, 2) := by decide +kernel
theorem d_JI_getChars_67 : decode c_JI_getChars 67 = .ok (.baload, 1) := by decide +kernel
theorem d_JI_getChars_68 : decode c_JI_getChars 68 = .ok (.bastore, 1) := by decide +kernel
theorem d_JI_getChars_69 : decode c_JI_getChars 69 = .ok (.goto (-47), 3) := by decide +kernel
theorem d_JI_getChars_72 : decode c_JI_getChars 72 = .ok (.aload_n 2, 1) := by decide +kernel
theorem d_JI_getChars_73 : decode c_JI_getChars 73 = .ok (.iinc 5 (-1), 3) := by decide +kernel
theorem d_JI_getChars_76 : decode c_JI_getChars 76 = .ok (.iload 5, 2) := by decide +kernel
theorem d_JI_getChars_78 : decode c_JI_getChars 78 = .ok (.getstatic 83, 3) := by decide +kernel
theorem d_JI_getChars_81 : decode c_JI_getChars 81 = .ok (.iload_n 0, 1) := by decide +kernel
theorem d_JI_getChars_82 : decode c_JI_getChars 82 = .ok (.ineg, 1) := by decide +kernel
theorem d_JI_getChars_83 : decode c_JI_getChars 83 = .ok (.baload, 1) := by decide +kernel
theorem d_JI_getChars_84 : decode c_JI_getChars 84 = .ok (.bastore, 1) := by decide +kernel
theorem d_JI_getChars_85 : decode c_JI_getChars 85 = .ok (.iload_n 0, 1) := by decide +kernel
theorem d_JI_getChars_86 : decode c_JI_getChars 86 = .ok (.bipush (-9), 2) := by decide +kernel
theorem d_JI_getChars_88 : decode c_JI_getChars 88 = .ok (.if_icmp .ge 16, 3) := by decide +kernel
theorem d_JI_getChars_91 : decode c_JI_getChars 91 = .ok (.aload_n 2, 1) := by decide +kernel
theorem d_JI_getChars_92 : decode c_JI_getChars 92 = .ok (.iinc 5 (-1), 3) := by decide +kernel
theorem d_JI_getChars_95 : decode c_JI_getChars 95 = .ok (.iload 5, 2) := by decide +kernel
theorem d_JI_getChars_97 : decode c_JI_getChars 97 = .ok (.getstatic 87, 3) := by decide +kernel
theorem d_JI_getChars_100 : decode c_JI_getChars 100 = .ok (.iload_n 0, 1) := by decide +kernel
theorem d_JI_getChars_101 : decode c_JI_getChars 101 = .ok (.ineg, 1) := by decide +kernel
theorem d_JI_getChars_102 : decode c_JI_getChars 102 = .ok (.baload, 1) := by decide +kernel
theorem d_JI_getChars_103 : decode c_JI_getChars 103 = .ok (.bastore, 1) := by decide +kernel
theorem d_JI_getChars_104 : decode c_JI_getChars 104 = .ok (.iload 6, 2) := by decide +kernel
theorem d_JI_getChars_106 : decode c_JI_getChars 106 = .ok (.ifCond .eq 12, 3) := by decide +kernel
theorem d_JI_getChars_109 : decode c_JI_getChars 109 = .ok (.aload_n 2, 1) := by decide +kernel
theorem d_JI_getChars_110 : decode c_JI_getChars 110 = .ok (.iinc 5 (-1), 3) := by decide +kernel
theorem d_JI_getChars_113 : decode c_JI_getChars 113 = .ok (.iload 5, 2) := by decide +kernel
theorem d_JI_getChars_115 : decode c_JI_getChars 115 = .ok (.bipush 45, 2) := by decide +kernel
theorem d_JI_getChars_117 : decode c_JI_getChars 117 = .ok (.bastore, 1) := by decide +kernel
theorem d_JI_getChars_118 : decode c_JI_getChars 118 = .ok (.iload 5, 2) := by decide +kernel
theorem d_JI_getChars_120 : decode c_JI_getChars 120 = .ok (.ireturn, 1) := by decide +kernel
theorem d_JI_stringSize_0 : decode c_JI_stringSize 0 = .ok (.iconst 1, 1) := by decide +kernel
theorem d_JI_stringSize_1 : decode c_JI_stringSize 1 = .ok (.istore_n 1, 1) := by decide +kernel
theorem d_JI_stringSize_2 : decode c_JI_stringSize 2 = .ok (.iload_n 0, 1) := by decide +kernel
theorem d_JI_stringSize_3 : decode c_JI_stringSize 3 = .ok (.ifCond .lt 8, 3) := by decide +kernel
theorem d_JI_stringSize_6 : decode c_JI_stringSize 6 = .ok (.iconst 0, 1) := by decide +kernel
theorem d_JI_stringSize_7 : decode c_JI_stringSize 7 = .ok (.istore_n 1, 1) := by decide +kernel
theorem d_JI_stringSize_8 : decode c_JI_stringSize 8 = .ok (.iload_n 0, 1) := by decide +kernel
theorem d_JI_stringSize_9 : decode c_JI_stringSize 9 = .ok (.ineg, 1) := by decide +kernel
theorem d_JI_stringSize_10 : decode c_JI_stringSize 10 = .ok (.istore_n 0, 1) := by decide +kernel
theorem d_JI_stringSize_11 : decode c_JI_stringSize 11 = .ok (.bipush (-10), 2) := by decide +kernel
theorem d_JI_stringSize_13 : decode c_JI_stringSize 13 = .ok (.istore_n 2, 1) := by decide +kernel
theorem d_JI_stringSize_14 : decode c_JI_stringSize 14 = .ok (.iconst 1, 1) := by decide +kernel
theorem d_JI_stringSize_15 : decode c_JI_stringSize 15 = .ok (.istore_n 3, 1) := by decide +kernel
theorem d_JI_stringSize_16 : decode c_JI_stringSize 16 = .ok (.iload_n 3, 1) := by decide +kernel
theorem d_JI_stringSize_17 : decode c_JI_stringSize 17 = .ok (.bipush 10, 2) := by decide +kernel
theorem d_JI_stringSize_19 : decode c_JI_stringSize 19 = .ok (.if_icmp .ge 23, 3) := by decide +kernel
theorem d_JI_stringSize_22 : decode c_JI_stringSize 22 = .ok (.iload_n 0, 1) := by decide +kernel
theorem d_JI_stringSize_23 : decode c_JI_stringSize 23 = .ok (.iload_n 2, 1) := by decide +kernel
theorem d_JI_stringSize_24 : decode c_JI_stringSize 24 = .ok (.if_icmp .le 7, 3) := by decide +kernel
theorem d_JI_stringSize_27 : decode c_JI_stringSize 27 = .ok (.iload_n 3, 1) := by decide +kernel
theorem d_JI_stringSize_28 : decode c_JI_stringSize 28 = .ok (.iload_n 1, 1) := by decide +kernel
theorem d_JI_stringSize_29 : decode c_JI_stringSize 29 = .ok (.iadd, 1) := by decide +kernel
theorem d_JI_stringSize_30 : decode c_JI_stringSize 30 = .ok (.ireturn, 1) := by decide +kernel
theorem d_JI_stringSize_31 : decode c_JI_stringSize 31 = .ok (.bipush 10, 2) := by decide +kernel
theorem d_JI_stringSize_33 : decode c_JI_stringSize 33 = .ok (.iload_n 2, 1) := by decide +kernel
theorem d_JI_stringSize_34 : decode c_JI_stringSize 34 = .ok (.imul, 1) := by decide +kernel
theorem d_JI_stringSize_35 : decode c_JI_stringSize 35 = .ok (.istore_n 2, 1) := by decide +kernel
theorem d_JI_stringSize_36 : decode c_JI_stringSize 36 = .ok (.iinc 3 1, 3) := by decide +kernel
theorem d_JI_stringSize_39 : decode c_JI_stringSize 39 = .ok (.goto (-23), 3) := by decide +kernel
theorem d_JI_stringSize_42 : decode c_JI_stringSize 42 = .ok (.bipush 10, 2) := by decide +kernel
theorem d_JI_stringSize_44 : decode c_JI_stringSize 44 = .ok (.iload_n 1, 1) := by decide +kernel
theorem d_JI_stringSize_45 : decode c_JI_stringSize 45 = .ok (.iadd, 1) := by decide +kernel
theorem d_JI_stringSize_46 : decode c_JI_stringSize 46 = .ok (.ireturn, 1) := by decide +kernel
theorem d_JM_floorDiv_III_0 : decode c_JM_floorDiv_III 0 = .ok (.iload_n 0, 1) := by decide +kernel
theorem d_JM_floorDiv_III_1 : decode c_JM_floorDiv_III 1 = .ok (.iload_n 1, 1) := by decide +kernel
theorem d_JM_floorDiv_III_2 : decode c_JM_floorDiv_III 2 = .ok (.idiv, 1) := by decide +kernel
theorem d_JM_floorDiv_III_3 : decode c_JM_floorDiv_III 3 = .ok (.istore_n 2, 1) := by decide +kernel
theorem d_JM_floorDiv_III_4 : decode c_JM_floorDiv_III 4 = .ok (.iload_n 0, 1) := by decide +kernel
theorem d_JM_floorDiv_III_5 : decode c_JM_floorDiv_III 5 = .ok (.iload_n 1, 1) := by decide +kernel
theorem d_JM_floorDiv_III_6 : decode c_JM_floorDiv_III 6 = .ok (.ixor, 1) := by decide +kernel
theorem d_JM_floorDiv_III_7 : decode c_JM_floorDiv_III 7 = .ok (.ifCond .ge 14, 3) := by decide +kernel
theorem d_JM_floorDiv_III_10 : decode c_JM_floorDiv_III 10 = .ok (.iload_n 2, 1) := by decide +kernel
theorem d_JM_floorDiv_III_11 : decode c_JM_floorDiv_III 11 = .ok (.iload_n 1, 1) := by decide +kernel
theorem d_JM_floorDiv_III_12 : decode c_JM_floorDiv_III 12 = .ok (.imul, 1) := by decide +kernel
theorem d_JM_floorDiv_III_13 : decode c_JM_floorDiv_III 13 = .ok (.iload_n 0, 1) := by decide +kernel
theorem d_JM_floorDiv_III_14 : decode c_JM_floorDiv_III 14 = .ok (.if_icmp .eq 7, 3) := by decide +kernel
theorem d_JM_floorDiv_III_17 : decode c_JM_floorDiv_III 17 = .ok (.iload_n 2, 1) := by decide +kernel
theorem d_JM_floorDiv_III_18 : decode c_JM_floorDiv_III 18 = .ok (.iconst 1, 1) := by decide +kernel
theorem d_JM_floorDiv_III_19 : decode c_JM_floorDiv_III 19 = .ok (.isub, 1) := by decide +kernel
theorem d_JM_floorDiv_III_20 : decode c_JM_floorDiv_III 20 = .ok (.ireturn, 1) := by decide +kernel
theorem d_JM_floorDiv_III_21 : decode c_JM_floorDiv_III 21 = .ok (.iload_n 2, 1) := by decide +kernel
theorem d_JM_floorDiv_III_22 : decode c_JM_floorDiv_III 22 = .ok (.ireturn, 1) := by decide +kernel
theorem d_JM_floorDiv_JJJ_0 : decode c_JM_floorDiv_JJJ 0 = .ok (.lload_n 0, 1) := by decide +kernel
theorem d_JM_floorDiv_JJJ_1 : decode c_JM_floorDiv_JJJ 1 = .ok (.lload_n 2, 1) := by decide +kernel
theorem d_JM_floorDiv_JJJ_2 : decode c_JM_floorDiv_JJJ 2 = .ok (.ldiv, 1) := by decide +kernel
theorem d_JM_floorDiv_JJJ_3 : decode c_JM_floorDiv_JJJ 3 = .ok (.lstore 4, 2) := by decide +kernel
theorem d_JM_floorDiv_JJJ_5 : decode c_JM_floorDiv_JJJ 5 = .ok (.lload_n 0, 1) := by decide +kernel
theorem d_JM_floorDiv_JJJ_6 : decode c_JM_floorDiv_JJJ 6 = .ok (.lload_n 2, 1) := by decide +kernel
theorem d_JM_floorDiv_JJJ_7 : decode c_JM_floorDiv_JJJ 7 = .ok (.lxor, 1) := by decide +kernel
theorem d_JM_floorDiv_JJJ_8 : decode c_JM_floorDiv_JJJ 8 = .ok (.lconst 0, 1) := by decide +kernel
theorem d_JM_floorDiv_JJJ_9 : decode c_JM_floorDiv_JJJ 9 = .ok (.lcmp, 1) := by decide +kernel
theorem d_JM_floorDiv_JJJ_10 : decode c_JM_floorDiv_JJJ 10 = .ok (.ifCond .ge 17, 3) := by decide +kernel
theorem d_JM_floorDiv_JJJ_13 : decode c_JM_floorDiv_JJJ 13 = .ok (.lload 4, 2) := by decide +kernel
theorem d_JM_floorDiv_JJJ_15 : decode c_JM_floorDiv_JJJ 15 = .ok (.lload_n 2, 1) := by decide +kernel
theorem d_JM_floorDiv_JJJ_16 : decode c_JM_floorDiv_JJJ 16 = .ok (.lmul, 1) := by decide +kernel
theorem d_JM_floorDiv_JJJ_17 : decode c_JM_floorDiv_JJJ 17 = .ok (.lload_n 0, 1) := by decide +kernel
theorem d_JM_floorDiv_JJJ_18 : decode c_JM_floorDiv_JJJ 18 = .ok (.lcmp, 1) := by decide +kernel
theorem d_JM_floorDiv_JJJ_19 : decode c_JM_floorDiv_JJJ 19 = .ok (.ifCond .eq 8, 3) := by decide +kernel
theorem d_JM_floorDiv_JJJ_22 : decode c_JM_floorDiv_JJJ 22 = .ok (.lload 4, 2) := by decide +kernel
theorem d_JM_floorDiv_JJJ_24 : decode c_JM_floorDiv_JJJ 24 = .ok (.lconst 1, 1) := by decide +kernel
theorem d_JM_floorDiv_JJJ_25 : decode c_JM_floorDiv_JJJ 25 = .ok (.lsub, 1) := by decide +kernel
theorem d_JM_floorDiv_JJJ_26 : decode c_JM_floorDiv_JJJ 26 = .ok (.lreturn, 1) := by decide +kernel
theorem d_JM_floorDiv_JJJ_27 : decode c_JM_floorDiv_JJJ 27 = .ok (.lload 4, 2) := by decide +kernel
theorem d_JM_floorDiv_JJJ_29 : decode c_JM_floorDiv_JJJ 29 = .ok (.lreturn, 1) := by decide +kernel
theorem d_JM_floorMod_III_0 : decode c_JM_floorMod_III 0 = .ok (.iload_n 0, 1) := by decide +kernel
theorem d_JM_floorMod_III_1 : decode c_JM_floorMod_III 1 = .ok (.iload_n 1, 1) := by decide +kernel
theorem d_JM_floorMod_III_2 : decode c_JM_floorMod_III 2 = .ok (.irem, 1) := by decide +kernel
theorem d_JM_floorMod_III_3 : decode c_JM_floorMod_III 3 = .ok (.istore_n 2, 1) := by decide +kernel
theorem d_JM_floorMod_III_4 : decode c_JM_floorMod_III 4 = .ok (.iload_n 0, 1) := by decide +kernel
theorem d_JM_floorMod_III_5 : decode c_JM_floorMod_III 5 = .ok (.iload_n 1, 1) := by decide +kernel
theorem d_JM_floorMod_III_6 : decode c_JM_floorMod_III 6 = .ok (.ixor, 1) := by decide +kernel
theorem d_JM_floorMod_III_7 : decode c_JM_floorMod_III 7 = .ok (.ifCond .ge 11, 3) := by decide +kernel
theorem d_JM_floorMod_III_10 : decode c_JM_floorMod_III 10 = .ok (.iload_n 2, 1) := by decide +kernel
theorem d_JM_floorMod_III_11 : decode c_JM_floorMod_III 11 = .ok (.ifCond .eq 7, 3) := by decide +kernel
theorem d_JM_floorMod_III_14 : decode c_JM_floorMod_III 14 = .ok (.iload_n 2, 1) := by decide +kernel
theorem d_JM_floorMod_III_15 : decode c_JM_floorMod_III 15 = .ok (.iload_n 1, 1) := by decide +kernel
theorem d_JM_floorMod_III_16 : decode c_JM_floorMod_III 16 = .ok (.iadd, 1) := by decide +kernel
theorem d_JM_floorMod_III_17 : decode c_JM_floorMod_III 17 = .ok (.ireturn, 1) := by decide +kernel
theorem d_JM_floorMod_III_18 : decode c_JM_floorMod_III 18 = .ok (.iload_n 2, 1) := by decide +kernel
theorem d_JM_floorMod_III_19 : decode c_JM_floorMod_III 19 = .ok (.ireturn, 1) := by decide +kernel
theorem d_JM_floorMod_JJJ_0 : decode c_JM_floorMod_JJJ 0 = .ok (.lload_n 0, 1) := by decide +kernel
theorem d_JM_floorMod_JJJ_1 : decode c_JM_floorMod_JJJ 1 = .ok (.lload_n 2, 1) := by decide +kernel
theorem d_JM_floorMod_JJJ_2 : decode c_JM_floorMod_JJJ 2 = .ok (.lrem, 1) := by decide +kernel
theorem d_JM_floorMod_JJJ_3 : decode c_JM_floorMod_JJJ 3 = .ok (.lstore 4, 2) := by decide +kernel
theorem d_JM_floorMod_JJJ_5 : decode c_JM_floorMod_JJJ 5 = .ok (.lload_n 0, 1) := by decide +kernel
theorem d_JM_floorMod_JJJ_6 : decode c_JM_floorMod_JJJ 6 = .ok (.lload_n 2, 1) := by decide +kernel
theorem d_JM_floorMod_JJJ_7 : decode c_JM_floorMod_JJJ 7 = .ok (.lxor, 1) := by decide +kernel
theorem d_JM_floorMod_JJJ_8 : decode c_JM_floorMod_JJJ 8 = .ok (.lconst 0, 1) := by decide +kernel
theorem d_JM_floorMod_JJJ_9 : decode c_JM_floorMod_JJJ 9 = .ok (.lcmp, 1) := by decide +kernel
theorem d_JM_floorMod_JJJ_10 : decode c_JM_floorMod_JJJ 10 = .ok (.ifCond .ge 15, 3) := by decide +kernel
theorem d_JM_floorMod_JJJ_13 : decode c_JM_floorMod_JJJ 13 = .ok (.lload 4, 2) := by decide +kernel
theorem d_JM_floorMod_JJJ_15 : decode c_JM_floorMod_JJJ 15 = .ok (.lconst 0, 1) := by decide +kernel
theorem d_JM_floorMod_JJJ_16 : decode c_JM_floorMod_JJJ 16 = .ok (.lcmp, 1) := by decide +kernel
theorem d_JM_floorMod_JJJ_17 : decode c_JM_floorMod_JJJ 17 = .ok (.ifCond .eq 8, 3) := by decide +kernel
theorem d_JM_floorMod_JJJ_20 : decode c_JM_floorMod_JJJ 20 = .ok (.lload 4, 2) := by decide +kernel
theorem d_JM_floorMod_JJJ_22 : decode c_JM_floorMod_JJJ 22 = .ok (.lload_n 2, 1) := by decide +kernel
theorem d_JM_floorMod_JJJ_23 : decode c_JM_floorMod_JJJ 23 = .ok (.ladd, 1) := by decide +kernel
theorem d_JM_floorMod_JJJ_24 : decode c_JM_floorMod_JJJ 24 = .ok (.lreturn, 1) := by decide +kernel
theorem d_JM_floorMod_JJJ_25 : decode c_JM_floorMod_JJJ 25 = .ok (.lload 4, 2) := by decide +kernel
theorem d_JM_floorMod_JJJ_27 : decode c_JM_floorMod_JJJ 27 = .ok (.lreturn, 1) := by decide +kernel
theorem d_JM_max_0 : decode c_JM_max 0 = .ok (.iload_n 0, 1) := by decide +kernel
theorem d_JM_max_1 : decode c_JM_max 1 = .ok (.iload_n 1, 1) := by decide +kernel
theorem d_JM_max_2 : decode c_JM_max 2 = .ok (.if_icmp .lt 7, 3) := by decide +kernel
theorem d_JM_max_5 : decode c_JM_max 5 = .ok (.iload_n 0, 1) := by decide +kernel
theorem d_JM_max_6 : decode c_JM_max 6 = .ok (.goto 4, 3) := by decide +kernel
theorem d_JM_max_9 : decode c_JM_max 9 = .ok (.iload_n 1, 1) := by decide +kernel
theorem d_JM_max_10 : decode c_JM_max 10 = .ok (.ireturn, 1) := by decide +kernel
theorem d_JM_min_0 : decode c_JM_min 0 = .ok (.iload_n 0, 1) := by decide +kernel
theorem d_JM_min_1 : decode c_JM_min 1 = .ok (.iload_n 1, 1) := by decide +kernel
theorem d_JM_min_2 : decode c_JM_min 2 = .ok (.if_icmp .gt 7, 3) := by decide +kernel
theorem d_JM_min_5 : decode c_JM_min 5 = .ok (.iload_n 0, 1) := by decide +kernel
theorem d_JM_min_6 : decode c_JM_min 6 = .ok (.goto 4, 3) := by decide +kernel
theorem d_JM_min_9 : decode c_JM_min 9 = .ok (.iload_n 1, 1) := by decide +kernel
theorem d_JM_min_10 : decode c_JM_min 10 = .ok (.ireturn, 1) := by decide +kernel
theorem d_JQ_init_0 : decode c_JQ_init 0 = .ok (.return_, 1) := by decide +kernel
theorem d_JR_init_0 : decode c_JR_init 0 = .ok (.aload_n 0, 1) := by decide +kernel
theorem d_JR_init_1 : decode c_JR_init 1 = .ok (.invokespecial 1, 3) := by decide +kernel
theorem d_JR_init_4 : decode c_JR_init 4 = .ok (.return_, 1) := by decide +kernel
theorem d_JS_checkBoundsBeginEnd_0 : decode c_JS_checkBoundsBeginEnd 0 = .ok (.iload_n 0, 1) := by decide +kernel
theorem d_JS_checkBoundsBeginEnd_1 : decode c_JS_checkBoundsBeginEnd 1 = .ok (.iload_n 1, 1) := by decide +kernel
theorem d_JS_checkBoundsBeginEnd_2 : decode c_JS_checkBoundsBeginEnd 2 = .ok (.iload_n 2, 1) := by decide +kernel
theorem d_JS_checkBoundsBeginEnd_3 : decode c_JS_checkBoundsBeginEnd 3 = .ok (.getstatic 1053, 3) := by decide +kernel
theorem d_JS_checkBoundsBeginEnd_6 : decode c_JS_checkBoundsBeginEnd 6 = .ok (.invokestatic 1062, 3) := by decide +kernel
theorem d_JS_checkBoundsBeginEnd_9 : decode c_JS_checkBoundsBeginEnd 9 = .ok (.pop, 1) := by decide +kernel
theorem d_JS_checkBoundsBeginEnd_10 : decode c_JS_checkBoundsBeginEnd 10 = .ok (.return_, 1) := by decide +kernel
theorem d_JS_checkBoundsOffCount_0 : decode c_JS_checkBoundsOffCount 0 = .ok (.iload_n 0, 1) := by decide +kernel
theorem d_JS_checkBoundsOffCount_1 : decode c_JS_checkBoundsOffCount 1 = .ok (.iload_n 1, 1) := by decide +kernel
theorem d_JS_checkBoundsOffCount_2 : decode c_JS_checkBoundsOffCount 2 = .ok (.iload_n 2, 1) := by decide +kernel
theorem d_JS_checkBoundsOffCount_3 : decode c_JS_checkBoundsOffCount 3 = .ok (.getstatic 1053, 3) := by decide +kernel
theorem d_JS_checkBoundsOffCount_6 : decode c_JS_checkBoundsOffCount 6 = .ok (.invokestatic 1065, 3) := by decide +kernel
theorem d_JS_checkBoundsOffCount_9 : decode c_JS_checkBoundsOffCount 9 = .ok (.ireturn, 1) := by decide +kernel
theorem d_JS_checkIndex_0 : decode c_JS_checkIndex 0 = .ok (.iload_n 0, 1) := by decide +kernel
theorem d_JS_checkIndex_1 : decode c_JS_checkIndex 1 = .ok (.iload_n 1, 1) := by decide +kernel
theorem d_JS_checkIndex_2 : decode c_JS_checkIndex 2 = .ok (.getstatic 1053, 3) := by decide +kernel
theorem d_JS_checkIndex_5 : decode c_JS_checkIndex 5 = .ok (.invokestatic 1059, 3) := by decide +kernel
theorem d_JS_checkIndex_8 : decode c_JS_checkIndex 8 = .ok (.pop, 1) := by decide +kernel
theorem d_JS_checkIndex_9 : decode c_JS_checkIndex 9 = .ok (.return_, 1) := by decide +kernel
theorem d_JB_init_0 : decode c_JB_init 0 = .ok (.aload_n 0, 1) := by decide +kernel
theorem d_JB_init_1 : decode c_JB_init 1 = .ok (.bipush 16, 2) := by decide +kernel
theorem d_JB_init_3 : decode c_JB_init 3 = .ok (.invokespecial 1, 3) := by decide +kernel
theorem d_JB_init_6 : decode c_JB_init 6 = .ok (.return_, 1) := by decide +kernel
theorem d_JB_append_CStringBuilder_0 : decode c_JB_append_CStringBuilder 0 = .ok (.aload_n 0, 1) := by decide +kernel
theorem d_JB_append_CStringBuilder_1 : decode c_JB_append_CStringBuilder 1 = .ok (.iload_n 1, 1) := by decide +kernel
theorem d_JB_append_CStringBuilder_2 : decode c_JB_append_CStringBuilder 2 = .ok (.invokespecial 50, 3) := by decide +kernel
theorem d_JB_append_CStringBuilder_5 : decode c_JB_append_CStringBuilder 5 = .ok (.pop, 1) := by decide +kernel
theorem d_JB_append_CStringBuilder_6 : decode c_JB_append_CStringBuilder 6 = .ok (.aload_n 0, 1) := by decide +kernel
theorem d_JB_append_CStringBuilder_7 : decode c_JB_append_CStringBuilder 7 = .ok (.areturn, 1) := by decide +kernel
theorem d_JB_append_IStringBuilder_0 : decode c_JB_append_IStringBuilder 0 = .ok (.aload_n 0, 1) := by decide +kernel
theorem d_JB_append_IStringBuilder_1 : decode c_JB_append_IStringBuilder 1 = .ok (.iload_n 1, 1) := by decide +kernel
theorem d_JB_append_IStringBuilder_2 : decode c_JB_append_IStringBuilder 2 = .ok (.invokespecial 53, 3) := by decide +kernel
theorem d_JB_append_IStringBuilder_5 : decode c_JB_append_IStringBuilder 5 = .ok (.pop, 1) := by decide +kernel
theorem d_JB_append_IStringBuilder_6 : decode c_JB_append_IStringBuilder 6 = .ok (.aload_n 0, 1) := by decide +kernel
theorem d_JB_append_IStringBuilder_7 : decode c_JB_append_IStringBuilder 7 = .ok (.areturn, 1) := by decide +kernel
theorem d_JB_charAt_0 : decode c_JB_charAt 0 = .ok (.aload_n 0, 1) := by decide +kernel
theorem d_JB_charAt_1 : decode c_JB_charAt 1 = .ok (.iload_n 1, 1) := by decide +kernel
theorem d_JB_charAt_2 : decode c_JB_charAt 2 = .ok (.invokespecial 329, 3) := by decide +kernel
theorem d_JB_charAt_5 : decode c_JB_charAt 5 = .ok (.ireturn, 1) := by decide +kernel
theorem d_JB_length_0 : decode c_JB_length 0 = .ok (.aload_n 0, 1) := by decide +kernel
theorem d_JB_length_1 : decode c_JB_length 1 = .ok (.invokespecial 343, 3) := by decide +kernel
theorem d_JB_length_4 : decode c_JB_length 4 = .ok (.ireturn, 1) := by decide +kernel
theorem d_JB_setLength_0 : decode c_JB_setLength 0 = .ok (.aload_n 0, 1) := by decide +kernel
theorem d_JB_setLength_1 : decode c_JB_setLength 1 = .ok (.iload_n 1, 1) := by decide +kernel
theorem d_JB_setLength_2 : decode c_JB_setLength 2 = .ok (.invokespecial 333, 3) := by decide +kernel
theorem d_JB_setLength_5 : decode c_JB_setLength 5 = .ok (.return_, 1) := by decide +kernel
theorem d_JL_canEncode_0 : decode c_JL_canEncode 0 = .ok (.iload_n 0, 1) := by decide +kernel
theorem d_JL_canEncode_1 : decode c_JL_canEncode 1 = .ok (.sipush 255, 3) := by decide +kernel
theorem d_JL_canEncode_4 : decode c_JL_canEncode 4 = .ok (.if_icmp .gt 7, 3) := by decide +kernel
theorem d_JL_canEncode_7 : decode c_JL_canEncode 7 = .ok (.iconst 1, 1) := by decide +kernel
theorem d_JL_canEncode_8 : decode c_JL_canEncode 8 = .ok (.goto 4, 3) := by decide +kernel
theorem d_JL_canEncode_11 : decode c_JL_canEncode 11 = .ok (.iconst 0, 1) := by decide +kernel
theorem d_JL_canEncode_12 : decode c_JL_canEncode 12 = .ok (.ireturn, 1) := by decide +kernel
theorem d_JL_fillNull_0 : decode c_JL_fillNull 0 = .ok (.aload_n 0, 1) := by decide +kernel
theorem d_JL_fillNull_1 : decode c_JL_fillNull 1 = .ok (.iload_n 1, 1) := by decide +kernel
theorem d_JL_fillNull_2 : decode c_JL_fillNull 2 = .ok (.iload_n 2, 1) := by decide +kernel
theorem d_JL_fillNull_3 : decode c_JL_fillNull 3 = .ok (.iconst 0, 1) := by decide +kernel
theorem d_JL_fillNull_4 : decode c_JL_fillNull 4 = .ok (.invokestatic 236, 3) := by decide +kernel
theorem d_JL_fillNull_7 : decode c_JL_fillNull 7 = .ok (.return_, 1) := by decide +kernel
theorem d_JL_inflate_0 : decode c_JL_inflate 0 = .ok (.aload_n 0, 1) := by decide +kernel
theorem d_JL_inflate_1 : decode c_JL_inflate 1 = .ok (.iload_n 1, 1) := by decide +kernel
theorem d_JL_inflate_2 : decode c_JL_inflate 2 = .ok (.aload_n 2, 1) := by decide +kernel
theorem d_JL_inflate_3 : decode c_JL_inflate 3 = .ok (.iload_n 3, 1) := by decide +kernel
theorem d_JL_inflate_4 : decode c_JL_inflate 4 = .ok (.iload 4, 2) := by decide +kernel
theorem d_JL_inflate_6 : decode c_JL_inflate 6 = .ok (.invokestatic 240, 3) := by decide +kernel
theorem d_JL_inflate_9 : decode c_JL_inflate 9 = .ok (.return_, 1) := by decide +kernel
theorem d_JU_checkBoundsBeginEnd_0 : decode c_JU_checkBoundsBeginEnd 0 = .ok (.iload_n 0, 1) := by decide +kernel
theorem d_JU_checkBoundsBeginEnd_1 : decode c_JU_checkBoundsBeginEnd 1 = .ok (.iload_n 1, 1) := by decide +kernel
theorem d_JU_checkBoundsBeginEnd_2 : decode c_JU_checkBoundsBeginEnd 2 = .ok (.aload_n 2, 1) := by decide +kernel
theorem d_JU_checkBoundsBeginEnd_3 : decode c_JU_checkBoundsBeginEnd 3 = .ok (.invokestatic 48, 3) := by decide +kernel
theorem d_JU_checkBoundsBeginEnd_6 : decode c_JU_checkBoundsBeginEnd 6 = .ok (.invokestatic 241, 3) := by decide +kernel
theorem d_JU_checkBoundsBeginEnd_9 : decode c_JU_checkBoundsBeginEnd 9 = .ok (.return_, 1) := by decide +kernel
theorem d_JU_checkBoundsOffCount_0 : decode c_JU_checkBoundsOffCount 0 = .ok (.iload_n 0, 1) := by decide +kernel
theorem d_JU_checkBoundsOffCount_1 : decode c_JU_checkBoundsOffCount 1 = .ok (.iload_n 1, 1) := by decide +kernel
theorem d_JU_checkBoundsOffCount_2 : decode c_JU_checkBoundsOffCount 2 = .ok (.aload_n 2, 1) := by decide +kernel
theorem d_JU_checkBoundsOffCount_3 : decode c_JU_checkBoundsOffCount 3 = .ok (.invokestatic 48, 3) := by decide +kernel
theorem d_JU_checkBoundsOffCount_6 : decode c_JU_checkBoundsOffCount 6 = .ok (.invokestatic 419, 3) := by decide +kernel
theorem d_JU_checkBoundsOffCount_9 : decode c_JU_checkBoundsOffCount 9 = .ok (.pop, 1) := by decide +kernel
theorem d_JU_checkBoundsOffCount_10 : decode c_JU_checkBoundsOffCount 10 = .ok (.return_, 1) := by decide +kernel
theorem d_JU_checkIndex_0 : decode c_JU_checkIndex 0 = .ok (.iload_n 0, 1) := by decide +kernel
theorem d_JU_checkIndex_1 : decode c_JU_checkIndex 1 = .ok (.aload_n 1, 1) := by decide +kernel
theorem d_JU_checkIndex_2 : decode c_JU_checkIndex 2 = .ok (.invokestatic 48, 3) := by decide +kernel
theorem d_JU_checkIndex_5 : decode c_JU_checkIndex 5 = .ok (.invokestatic 414, 3) := by decide +kernel
theorem d_JU_checkIndex_8 : decode c_JU_checkIndex 8 = .ok (.return_, 1) := by decide +kernel
theorem d_JU_fillNull_0 : decode c_JU_fillNull 0 = .ok (.aload_n 0, 1) := by decide +kernel
theorem d_JU_fillNull_1 : decode c_JU_fillNull 1 = .ok (.iload_n 1, 1) := by decide +kernel
theorem d_JU_fillNull_2 : decode c_JU_fillNull 2 = .ok (.iconst 1, 1) := by decide +kernel
theorem d_JU_fillNull_3 : decode c_JU_fillNull 3 = .ok (.ishl, 1) := by decide +kernel
theorem d_JU_fillNull_4 : decode c_JU_fillNull 4 = .ok (.iload_n 2, 1) := by decide +kernel
theorem d_JU_fillNull_5 : decode c_JU_fillNull 5 = .ok (.iconst 1, 1) := by decide +kernel
theorem d_JU_fillNull_6 : decode c_JU_fillNull 6 = .ok (.ishl, 1) := by decide +kernel
theorem d_JU_fillNull_7 : decode c_JU_fillNull 7 = .ok (.iconst 0, 1) := by decide +kernel
theorem d_JU_fillNull_8 : decode c_JU_fillNull 8 = .ok (.invokestatic 380, 3) := by decide +kernel
theorem d_JU_fillNull_11 : decode c_JU_fillNull 11 = .ok (.return_, 1) := by decide +kernel
theorem d_JU_getChar_0 : decode c_JU_getChar 0 = .ok (.getstatic 44, 3) := by decide +kernel
theorem d_JU_getChar_3 : decode c_JU_getChar 3 = .ok (.ifCond .ne 25, 3) := by decide +kernel
theorem d_JU_getChar_6 : decode c_JU_getChar 6 = .ok (.iload_n 1, 1) := by decide +kernel
theorem d_JU_getChar_7 : decode c_JU_getChar 7 = .ok (.ifCond .lt 11, 3) := by decide +kernel
theorem d_JU_getChar_10 : decode c_JU_getChar 10 = .ok (.iload_n 1, 1) := by decide +kernel
theorem d_JU_getChar_11 : decode c_JU_getChar 11 = .ok (.aload_n 0, 1) := by decide +kernel
theorem d_JU_getChar_12 : decode c_JU_getChar 12 = .ok (.invokestatic 48, 3) := by decide +kernel
theorem d_JU_getChar_15 : decode c_JU_getChar 15 = .ok (.if_icmp .lt 13, 3) := by decide +kernel
theorem d_JU_getChar_18 : decode c_JU_getChar 18 = .ok (.new 52, 3) := by decide +kernel
theorem d_JU_getChar_21 : decode c_JU_getChar 21 = .ok (.dup, 1) := by decide +kernel
theorem d_JU_getChar_22 : decode c_JU_getChar 22 = .ok (.ldc 54, 2) := by decide +kernel
theorem d_JU_getChar_24 : decode c_JU_getChar 24 = .ok (.invokespecial 56, 3) := by decide +kernel
theorem d_JU_getChar_27 : decode c_JU_getChar 27 = .ok (.athrow, 1) := by decide +kernel
theorem d_JU_getChar_28 : decode c_JU_getChar 28 = .ok (.iload_n 1, 1) := by decide +kernel
theorem d_JU_getChar_29 : decode c_JU_getChar 29 = .ok (.iconst 1, 1) := by decide +kernel
theorem d_JU_getChar_30 : decode c_JU_getChar 30 = .ok (.ishl, 1) := by decide +kernel
theorem d_JU_getChar_31 : decode c_JU_getChar 31 = .ok (.istore_n 1, 1) := by decide +kernel
theorem d_JU_getChar_32 : decode c_JU_getChar 32 = .ok (.aload_n 0, 1) := by decide +kernel
theorem d_JU_getChar_33 : decode c_JU_getChar 33 = .ok (.iload_n 1, 1) := by decide +kernel
theorem d_JU_getChar_34 : decode c_JU_getChar 34 = .ok (.iinc 1 1, 3) := by decide +kernel
theorem d_JU_getChar_37 : decode c_JU_getChar 37 = .ok (.baload, 1) := by decide +kernel
theorem d_JU_getChar_38 : decode c_JU_getChar 38 = .ok (.sipush 255, 3) := by decide +kernel
theorem d_JU_getChar_41 : decode c_JU_getChar 41 = .ok (.iand, 1) := by decide +kernel
theorem d_JU_getChar_42 : decode c_JU_getChar 42 = .ok (.getstatic 59, 3) := by decide +kernel
theorem d_JU_getChar_45 : decode c_JU_getChar 45 = .ok (.ishl, 1) := by decide +kernel
theorem d_JU_getChar_46 : decode c_JU_getChar 46 = .ok (.aload_n 0, 1) := by decide +kernel
theorem d_JU_getChar_47 : decode c_JU_getChar 47 = .ok (.iload_n 1, 1) := by decide +kernel
theorem d_JU_getChar_48 : decode c_JU_getChar 48 = .ok (.baload, 1) := by decide +kernel
theorem d_JU_getChar_49 : decode c_JU_getChar 49 = .ok (.sipush 255, 3) := by decide +kernel
theorem d_JU_getChar_52 : decode c_JU_getChar 52 = .ok (.iand, 1) := by decide +kernel
theorem d_JU_getChar_53 : decode c_JU_getChar 53 = .ok (.getstatic 63, 3) := by decide +kernel
theorem d_JU_getChar_56 : decode c_JU_getChar 56 = .ok (.ishl, 1) := by decide +kernel
theorem d_JU_getChar_57 : decode c_JU_getChar 57 = .ok (.ior, 1) := by decide +kernel
theorem d_JU_getChar_58 : decode c_JU_getChar 58 = .ok (.i2c, 1) := by decide +kernel
theorem d_JU_getChar_59 : decode c_JU_getChar 59 = .ok (.ireturn, 1) := by decide +kernel
theorem d_JU_getChars_IIIBI_0 : decode c_JU_getChars_IIIBI 0 = .ok (.iload_n 1, 1) := by decide +kernel
theorem d_JU_getChars_IIIBI_1 : decode c_JU_getChars_IIIBI 1 = .ok (.iload_n 2, 1) := by decide +kernel
theorem d_JU_getChars_IIIBI_2 : decode c_JU_getChars_IIIBI 2 = .ok (.aload_n 3, 1) := by decide +kernel
theorem d_JU_getChars_IIIBI_3 : decode c_JU_getChars_IIIBI 3 = .ok (.invokestatic 96, 3) := by decide +kernel
theorem d_JU_getChars_IIIBI_6 : decode c_JU_getChars_IIIBI 6 = .ok (.iload_n 0, 1) := by decide +kernel
theorem d_JU_getChars_IIIBI_7 : decode c_JU_getChars_IIIBI 7 = .ok (.iload_n 2, 1) := by decide +kernel
theorem d_JU_getChars_IIIBI_8 : decode c_JU_getChars_IIIBI 8 = .ok (.aload_n 3, 1) := by decide +kernel
theorem d_JU_getChars_IIIBI_9 : decode c_JU_getChars_IIIBI 9 = .ok (.invokestatic 393, 3) := by decide +kernel
theorem d_JU_getChars_IIIBI_12 : decode c_JU_getChars_IIIBI 12 = .ok (.istore 4, 2) := by decide +kernel
theorem d_JU_getChars_IIIBI_14 : decode c_JU_getChars_IIIBI 14 = .ok (.getstatic 44, 3) := by decide +kernel
theorem d_JU_getChars_IIIBI_17 : decode c_JU_getChars_IIIBI 17 = .ok (.ifCond .ne 17, 3) := by decide +kernel
theorem d_JU_getChars_IIIBI_20 : decode c_JU_getChars_IIIBI 20 = .ok (.iload_n 1, 1) := by decide +kernel
theorem d_JU_getChars_IIIBI_21 : decode c_JU_getChars_IIIBI 21 = .ok (.iload 4, 2) := by decide +kernel
theorem d_JU_getChars_IIIBI_23 : decode c_JU_getChars_IIIBI 23 = .ok (.if_icmp .eq 11, 3) := by decide +kernel
theorem d_JU_getChars_IIIBI_26 : decode c_JU_getChars_IIIBI 26 = .ok (.new 52, 3) := by decide +kernel
theorem d_JU_getChars_IIIBI_29 : decode c_JU_getChars_IIIBI 29 = .ok (.dup, 1) := by decide +kernel
theorem d_JU_getChars_IIIBI_30 : decode c_JU_getChars_IIIBI 30 = .ok (.invokespecial 66, 3) := by decide +kernel
theorem d_JU_getChars_IIIBI_33 : decode c_JU_getChars_IIIBI 33 = .ok (.athrow, 1) := by decide +kernel
theorem d_JU_getChars_IIIBI_34 : decode c_JU_getChars_IIIBI 34 = .ok (.iload 4, 2) := by decide +kernel
theorem d_JU_getChars_IIIBI_36 : decode c_JU_getChars_IIIBI 36 = .ok (.ireturn, 1) := by decide +kernel
theorem d_JU_getChars_IIBI_0 : decode c_JU_getChars_IIBI 0 = .ok (.iload_n 1, 1) := by decide +kernel
theorem d_JU_getChars_IIBI_1 : decode c_JU_getChars_IIBI 1 = .ok (.istore 5, 2) := by decide +kernel
theorem d_JU_getChars_IIBI_3 : decode c_JU_getChars_IIBI 3 = .ok (.iload_n 0, 1) := by decide +kernel
theorem d_JU_getChars_IIBI_4 : decode c_JU_getChars_IIBI 4 = .ok (.ifCond .ge 7, 3) := by decide +kernel
theorem d_JU_getChars_IIBI_7 : decode c_JU_getChars_IIBI 7 = .ok (.iconst 1, 1) := by decide +kernel
theorem d_JU_getChars_IIBI_8 : decode c_JU_getChars_IIBI 8 = .ok (.goto 4, 3) := by decide +kernel
theorem d_JU_getChars_IIBI_11 : decode c_JU_getChars_IIBI 11 = .ok (.iconst 0, 1) := by decide +kernel
theorem d_JU_getChars_IIBI_12 : decode c_JU_getChars_IIBI 12 = .ok (.istore 6, 2) := by decide +kernel
theorem d_JU_getChars_IIBI_14 : decode c_JU_getChars_IIBI 14 = .ok (.iload 6, 2) := by decide +kernel
theorem d_JU_getChars_IIBI_16 : decode c_JU_getChars_IIBI 16 = .ok (.ifCond .ne 6, 3) := by decide +kernel
theorem d_JU_getChars_IIBI_19 : decode c_JU_getChars_IIBI 19 = .ok (.iload_n 0, 1) := by decide +kernel
theorem d_JU_getChars_IIBI_20 : decode c_JU_getChars_IIBI 20 = .ok (.ineg, 1) := by decide +kernel
theorem d_JU_getChars_IIBI_21 : decode c_JU_getChars_IIBI 21 = .ok (.istore_n 0, 1) := by decide +kernel
theorem d_JU_getChars_IIBI_22 : decode c_JU_getChars_IIBI 22 = .ok (.iload_n 0, 1) := by decide +kernel
theorem d_JU_getChars_IIBI_23 : decode c_JU_getChars_IIBI 23 = .ok (.bipush (-100), 2) := by decide +kernel
theorem d_JU_getChars_IIBI_25 : decode c_JU_getChars_IIBI 25 = .ok (.if_icmp .gt 51, 3) := by decide +kernel
theorem d_JU_getChars_IIBI_28 : decode c_JU_getChars_IIBI 28 = .ok (.iload_n 0, 1) := by decide +kernel
theorem d_JU_getChars_IIBI_29 : decode c_JU_getChars_IIBI 29 = .ok (.bipush 100, 2) := by decide +kernel
theorem d_JU_getChars_IIBI_31 : decode c_JU_getChars_IIBI 31 = .ok (.idiv, 1) := by decide +kernel
theorem d_JU_getChars_IIBI_32 : decode c_JU_getChars_IIBI 32 = .ok (.istore_n 3, 1) := by decide +kernel
theorem d_JU_getChars_IIBI_33 : decode c_JU_getChars_IIBI 33 = .ok (.iload_n 3, 1) := by decide +kernel
theorem d_JU_getChars_IIBI_34 : decode c_JU_getChars_IIBI 34 = .ok (.bipush 100, 2) := by decide +kernel
theorem d_JU_getChars_IIBI_36 : decode c_JU_getChars_IIBI 36 = .ok (.imul, 1) := by decide +kernel
theorem d_JU_getChars_IIBI_37 : decode c_JU_getChars_IIBI 37 = .ok (.iload_n 0, 1) := by decide +kernel
theorem d_JU_getChars_IIBI_38 : decode c_JU_getChars_IIBI 38 = .ok (.isub, 1) := by decide +kernel
theorem d_JU_getChars_IIBI_39 : decode c_JU_getChars_IIBI 39 = .ok (.istore 4, 2) := by decide +kernel
theorem d_JU_getChars_IIBI_41 : decode c_JU_getChars_IIBI 41 = .ok (.iload_n 3, 1) := by decide +kernel
theorem d_JU_getChars_IIBI_42 : decode c_JU_getChars_IIBI 42 = .ok (.istore_n 0, 1) := by decide +kernel
theorem d_JU_getChars_IIBI_43 : decode c_JU_getChars_IIBI 43 = .ok (.aload_n 2, 1) := by decide +kernel
theorem d_JU_getChars_IIBI_44 : decode c_JU_getChars_IIBI 44 = .ok (.iinc 5 (-1), 3) := by decide +kernel
theorem d_JU_getChars_IIBI_47 : decode c_JU_getChars_IIBI 47 = .ok (.iload 5, 2) := by decide +kernel
theorem d_JU_getChars_IIBI_49 : decode c_JU_getChars_IIBI 49 = .ok (.getstatic 403, 3) := by decide +kernel
theorem d_JU_getChars_IIBI_52 : decode c_JU_getChars_IIBI 52 = .ok (.iload 4, 2) := by decide +kernel
theorem d_JU_getChars_IIBI_54 : decode c_JU_getChars_IIBI 54 = .ok (.baload, 1) := by decide +kernel
theorem d_JU_getChars_IIBI_55 : decode c_JU_getChars_IIBI 55 = .ok (.invokestatic 111, 3) := by decide +kernel
theorem d_JU_getChars_IIBI_58 : decode c_JU_getChars_IIBI 58 = .ok (.aload_n 2, 1) := by decide +kernel
theorem d_JU_getChars_IIBI_59 : decode c_JU_getChars_IIBI 59 = .ok (.iinc 5 (-1), 3) := by decide +kernel
theorem d_JU_getChars_IIBI_62 : decode c_JU_getChars_IIBI 62 = .ok (.iload 5, 2) := by decide +kernel
theorem d_JU_getChars_IIBI_64 : decode c_JU_getChars_IIBI 64 = .ok (.getstatic 407, 3) := by decide +kernel
theorem d_JU_getChars_IIBI_67 : decode c_JU_getChars_IIBI 67 = .ok (.iload 4, 2) := by decide +kernel
theorem d_JU_getChars_IIBI_69 : decode c_JU_getChars_IIBI 69 = .ok (.baload, 1) := by decide +kernel
theorem d_JU_getChars_IIBI_70 : decode c_JU_getChars_IIBI 70 = .ok (.invokestatic 111, 3) := by decide +kernel
theorem d_JU_getChars_IIBI_73 : decode c_JU_getChars_IIBI 73 = .ok (.goto (-51), 3) := by decide +kernel
theorem d_JU_getChars_IIBI_76 : decode c_JU_getChars_IIBI 76 = .ok (.aload_n 2, 1) := by decide +kernel
theorem d_JU_getChars_IIBI_77 : decode c_JU_getChars_IIBI 77 = .ok (.iinc 5 (-1), 3) := by decide +kernel
theorem d_JU_getChars_IIBI_80 : decode c_JU_getChars_IIBI 80 = .ok (.iload 5, 2) := by decide +kernel
theorem d_JU_getChars_IIBI_82 : decode c_JU_getChars_IIBI 82 = .ok (.getstatic 403, 3) := by decide +kernel
theorem d_JU_getChars_IIBI_85 : decode c_JU_getChars_IIBI 85 = .ok (.iload_n 0, 1) := by decide +kernel
theorem d_JU_getChars_IIBI_86 : decode c_JU_getChars_IIBI 86 = .ok (.ineg, 1) := by decide +kernel
theorem d_JU_getChars_IIBI_87 : decode c_JU_getChars_IIBI 87 = .ok (.baload, 1) := by decide +kernel
theorem d_JU_getChars_IIBI_88 : decode c_JU_getChars_IIBI 88 = .ok (.invokestatic 111, 3) := by decide +kernel
theorem d_JU_getChars_IIBI_91 : decode c_JU_getChars_IIBI 91 = .ok (.iload_n 0, 1) := by decide +kernel
theorem d_JU_getChars_IIBI_92 : decode c_JU_getChars_IIBI 92 = .ok (.bipush (-9), 2) := by decide +kernel
theorem d_JU_getChars_IIBI_94 : decode c_JU_getChars_IIBI 94 = .ok (.if_icmp .ge 18, 3) := by decide +kernel
theorem d_JU_getChars_IIBI_97 : decode c_JU_getChars_IIBI 97 = .ok (.aload_n 2, 1) := by decide +kernel
theorem d_JU_getChars_IIBI_98 : decode c_JU_getChars_IIBI 98 = .ok (.iinc 5 (-1), 3) := by decide +kernel
theorem d_JU_getChars_IIBI_101 : decode c_JU_getChars_IIBI 101 = .ok (.iload 5, 2) := by decide +kernel
theorem d_JU_getChars_IIBI_103 : decode c_JU_getChars_IIBI 103 = .ok (.getstatic 407, 3) := by decide +kernel
theorem d_JU_getChars_IIBI_106 : decode c_JU_getChars_IIBI 106 = .ok (.iload_n 0, 1) := by decide +kernel
theorem d_JU_getChars_IIBI_107 : decode c_JU_getChars_IIBI 107 = .ok (.ineg, 1) := by decide +kernel
theorem d_JU_getChars_IIBI_108 : decode c_JU_getChars_IIBI 108 = .ok (.baload, 1) := by decide +kernel
theorem d_JU_getChars_IIBI_109 : decode c_JU_getChars_IIBI 109 = .ok (.invokestatic 111, 3) := by decide +kernel
theorem d_JU_getChars_IIBI_112 : decode c_JU_getChars_IIBI 112 = .ok (.iload 6, 2) := by decide +kernel
theorem d_JU_getChars_IIBI_114 : decode c_JU_getChars_IIBI 114 = .ok (.ifCond .eq 14, 3) := by decide +kernel
theorem d_JU_getChars_IIBI_117 : decode c_JU_getChars_IIBI 117 = .ok (.aload_n 2, 1) := by decide +kernel
theorem d_JU_getChars_IIBI_118 : decode c_JU_getChars_IIBI 118 = .ok (.iinc 5 (-1), 3) := by decide +kernel
theorem d_JU_getChars_IIBI_121 : decode c_JU_getChars_IIBI 121 = .ok (.iload 5, 2) := by decide +kernel
theorem d_JU_getChars_IIBI_123 : decode c_JU_getChars_IIBI 123 = .ok (.bipush 45, 2) := by decide +kernel
theorem d_JU_getChars_IIBI_125 : decode c_JU_getChars_IIBI 125 = .ok (.invokestatic 111, 3) := by decide +kernel
theorem d_JU_getChars_IIBI_128 : decode c_JU_getChars_IIBI 128 = .ok (.iload 5, 2) := by decide +kernel
theorem d_JU_getChars_IIBI_130 : decode c_JU_getChars_IIBI 130 = .ok (.ireturn, 1) := by decide +kernel
theorem d_JU_inflate_0 : decode c_JU_inflate 0 = .ok (.iload_n 3, 1) := by decide +kernel
theorem d_JU_inflate_1 : decode c_JU_inflate 1 = .ok (.iload 4, 2) := by decide +kernel
theorem d_JU_inflate_3 : decode c_JU_inflate 3 = .ok (.aload_n 2, 1) := by decide +kernel
theorem d_JU_inflate_4 : decode c_JU_inflate 4 = .ok (.invokestatic 173, 3) := by decide +kernel
theorem d_JU_inflate_7 : decode c_JU_inflate 7 = .ok (.iconst 0, 1) := by decide +kernel
theorem d_JU_inflate_8 : decode c_JU_inflate 8 = .ok (.istore 5, 2) := by decide +kernel
theorem d_JU_inflate_10 : decode c_JU_inflate 10 = .ok (.iload 5, 2) := by decide +kernel
theorem d_JU_inflate_12 : decode c_JU_inflate 12 = .ok (.iload 4, 2) := by decide +kernel
theorem d_JU_inflate_14 : decode c_JU_inflate 14 = .ok (.if_icmp .ge 27, 3) := by decide +kernel
theorem d_JU_inflate_17 : decode c_JU_inflate 17 = .ok (.aload_n 2, 1) := by decide +kernel
theorem d_JU_inflate_18 : decode c_JU_inflate 18 = .ok (.iload_n 3, 1) := by decide +kernel
theorem d_JU_inflate_19 : decode c_JU_inflate 19 = .ok (.iinc 3 1, 3) := by decide +kernel
theorem d_JU_inflate_22 : decode c_JU_inflate 22 = .ok (.aload_n 0, 1) := by decide +kernel
theorem d_JU_inflate_23 : decode c_JU_inflate 23 = .ok (.iload_n 1, 1) := by decide +kernel
theorem d_JU_inflate_24 : decode c_JU_inflate 24 = .ok (.iinc 1 1, 3) := by decide +kernel
theorem d_JU_inflate_27 : decode c_JU_inflate 27 = .ok (.baload, 1) := by decide +kernel
theorem d_JU_inflate_28 : decode c_JU_inflate 28 = .ok (.sipush 255, 3) := by decide +kernel
theorem d_JU_inflate_31 : decode c_JU_inflate 31 = .ok (.iand, 1) := by decide +kernel
theorem d_JU_inflate_32 : decode c_JU_inflate 32 = .ok (.invokestatic 111, 3) := by decide +kernel
theorem d_JU_inflate_35 : decode c_JU_inflate 35 = .ok (.iinc 5 1, 3) := by decide +kernel
theorem d_JU_inflate_38 : decode c_JU_inflate 38 = .ok (.goto (-28), 3) := by decide +kernel
theorem d_JU_inflate_41 : decode c_JU_inflate 41 = .ok (.return_, 1) := by decide +kernel
theorem d_JU_length_0 : decode c_JU_length 0 = .ok (.aload_n 0, 1) := by decide +kernel
theorem d_JU_length_1 : decode c_JU_length 1 = .ok (.arraylength, 1) := by decide +kernel
theorem d_JU_length_2 : decode c_JU_length 2 = .ok (.iconst 1, 1) := by decide +kernel
theorem d_JU_length_3 : decode c_JU_length 3 = .ok (.ishr, 1) := by decide +kernel
theorem d_JU_length_4 : decode c_JU_length 4 = .ok (.ireturn, 1) := by decide +kernel
theorem d_JU_newBytesFor_0 : decode c_JU_newBytesFor 0 = .ok (.iload_n 0, 1) := by decide +kernel
theorem d_JU_newBytesFor_1 : decode c_JU_newBytesFor 1 = .ok (.invokestatic 11, 3) := by decide +kernel
theorem d_JU_newBytesFor_4 : decode c_JU_newBytesFor 4 = .ok (.newarray .byte, 2) := by decide +kernel
theorem d_JU_newBytesFor_6 : decode c_JU_newBytesFor 6 = .ok (.areturn, 1) := by decide +kernel
theorem d_JU_newBytesLength_0 : decode c_JU_newBytesLength 0 = .ok (.iload_n 0, 1) := by decide +kernel
theorem d_JU_newBytesLength_1 : decode c_JU_newBytesLength 1 = .ok (.ifCond .ge 11, 3) := by decide +kernel
theorem d_JU_newBytesLength_4 : decode c_JU_newBytesLength 4 = .ok (.new 17, 3) := by decide +kernel
theorem d_JU_newBytesLength_7 : decode c_JU_newBytesLength 7 = .ok (.dup, 1) := by decide +kernel
theorem d_JU_newBytesLength_8 : decode c_JU_newBytesLength 8 = .ok (.invokespecial 19, 3) := by decide +kernel
theorem d_JU_newBytesLength_11 : decode c_JU_newBytesLength 11 = .ok (.athrow, 1) := by decide +kernel
theorem d_JU_newBytesLength_12 : decode c_JU_newBytesLength 12 = .ok (.iload_n 0, 1) := by decide +kernel
theorem d_JU_newBytesLength_13 : decode c_JU_newBytesLength 13 = .ok (.ldc 20, 2) := by decide +kernel
theorem d_JU_newBytesLength_15 : decode c_JU_newBytesLength 15 = .ok (.if_icmp .lt 40, 3) := by decide +kernel
theorem d_JU_newBytesLength_18 : decode c_JU_newBytesLength 18 = .ok (.new 21, 3) := by decide +kernel
theorem d_JU_newBytesLength_21 : decode c_JU_newBytesLength 21 = .ok (.dup, 1) := by decide +kernel
theorem d_JU_newBytesLength_22 : decode c_JU_newBytesLength 22 = .ok (.new 23, 3) := by decide +kernel
theorem d_JU_newBytesLength_25 : decode c_JU_newBytesLength 25 = .ok (.dup, 1) := by decide +kernel
theorem d_JU_newBytesLength_26 : decode c_JU_newBytesLength 26 = .ok (.invokespecial 25, 3) := by decide +kernel
theorem d_JU_newBytesLength_29 : decode c_JU_newBytesLength 29 = .ok (.ldc 26, 2) := by decide +kernel
theorem d_JU_newBytesLength_31 : decode c_JU_newBytesLength 31 = .ok (.invokevirtual 28, 3) := by decide +kernel
theorem d_JU_newBytesLength_34 : decode c_JU_newBytesLength 34 = .ok (.iload_n 0, 1) := by decide +kernel
theorem d_JU_newBytesLength_35 : decode c_JU_newBytesLength 35 = .ok (.invokevirtual 32, 3) := by decide +kernel
theorem d_JU_newBytesLength_38 : decode c_JU_newBytesLength 38 = .ok (.ldc 35, 2) := by decide +kernel
theorem d_JU_newBytesLength_40 : decode c_JU_newBytesLength 40 = .ok (.invokevirtual 28, 3) := by decide +kernel
theorem d_JU_newBytesLength_43 : decode c_JU_newBytesLength 43 = .ok (.ldc 20, 2) := by decide +kernel
theorem d_JU_newBytesLength_45 : decode c_JU_newBytesLength 45 = .ok (.invokevirtual 32, 3) := by decide +kernel
theorem d_JU_newBytesLength_48 : decode c_JU_newBytesLength 48 = .ok (.invokevirtual 37, 3) := by decide +kernel
theorem d_JU_newBytesLength_51 : decode c_JU_newBytesLength 51 = .ok (.invokespecial 41, 3) := by decide +kernel
theorem d_JU_newBytesLength_54 : decode c_JU_newBytesLength 54 = .ok (.athrow, 1) := by decide +kernel
theorem d_JU_newBytesLength_55 : decode c_JU_newBytesLength 55 = .ok (.iload_n 0, 1) := by decide +kernel
theorem d_JU_newBytesLength_56 : decode c_JU_newBytesLength 56 = .ok (.iconst 1, 1) := by decide +kernel
theorem d_JU_newBytesLength_57 : decode c_JU_newBytesLength 57 = .ok (.ishl, 1) := by decide +kernel
theorem d_JU_newBytesLength_58 : decode c_JU_newBytesLength 58 = .ok (.ireturn, 1) := by decide +kernel
theorem d_JU_putChar_0 : decode c_JU_putChar 0 = .ok (.getstatic 44, 3) := by decide +kernel
theorem d_JU_putChar_3 : decode c_JU_putChar 3 = .ok (.ifCond .ne 25, 3) := by decide +kernel
theorem d_JU_putChar_6 : decode c_JU_putChar 6 = .ok (.iload_n 1, 1) := by decide +kernel
theorem d_JU_putChar_7 : decode c_JU_putChar 7 = .ok (.ifCond .lt 11, 3) := by decide +kernel
theorem d_JU_putChar_10 : decode c_JU_putChar 10 = .ok (.iload_n 1, 1) := by decide +kernel
theorem d_JU_putChar_11 : decode c_JU_putChar 11 = .ok (.aload_n 0, 1) := by decide +kernel
theorem d_JU_putChar_12 : decode c_JU_putChar 12 = .ok (.invokestatic 48, 3) := by decide +kernel
theorem d_JU_putChar_15 : decode c_JU_putChar 15 = .ok (.if_icmp .lt 13, 3) := by decide +kernel
theorem d_JU_putChar_18 : decode c_JU_putChar 18 = .ok (.new 52, 3) := by decide +kernel
theorem d_JU_putChar_21 : decode c_JU_putChar 21 = .ok (.dup, 1) := by decide +kernel
theorem d_JU_putChar_22 : decode c_JU_putChar 22 = .ok (.ldc 54, 2) := by decide +kernel
theorem d_JU_putChar_24 : decode c_JU_putChar 24 = .ok (.invokespecial 56, 3) := by decide +kernel
theorem d_JU_putChar_27 : decode c_JU_putChar 27 = .ok (.athrow, 1) := by decide +kernel
theorem d_JU_putChar_28 : decode c_JU_putChar 28 = .ok (.iload_n 1, 1) := by decide +kernel
theorem d_JU_putChar_29 : decode c_JU_putChar 29 = .ok (.iconst 1, 1) := by decide +kernel
theorem d_JU_putChar_30 : decode c_JU_putChar 30 = .ok (.ishl, 1) := by decide +kernel
theorem d_JU_putChar_31 : decode c_JU_putChar 31 = .ok (.istore_n 1, 1) := by decide +kernel
theorem d_JU_putChar_32 : decode c_JU_putChar 32 = .ok (.aload_n 0, 1) := by decide +kernel
theorem d_JU_putChar_33 : decode c_JU_putChar 33 = .ok (.iload_n 1, 1) := by decide +kernel
theorem d_JU_putChar_34 : decode c_JU_putChar 34 = .ok (.iinc 1 1, 3) := by decide +kernel
theorem d_JU_putChar_37 : decode c_JU_putChar 37 = .ok (.iload_n 2, 1) := by decide +kernel
theorem d_JU_putChar_38 : decode c_JU_putChar 38 = .ok (.getstatic 59, 3) := by decide +kernel
theorem d_JU_putChar_41 : decode c_JU_putChar 41 = .ok (.ishr, 1) := by decide +kernel
theorem d_JU_putChar_42 : decode c_JU_putChar 42 = .ok (.i2b, 1) := by decide +kernel
theorem d_JU_putChar_43 : decode c_JU_putChar 43 = .ok (.bastore, 1) := by decide +kernel
theorem d_JU_putChar_44 : decode c_JU_putChar 44 = .ok (.aload_n 0, 1) := by decide +kernel
theorem d_JU_putChar_45 : decode c_JU_putChar 45 = .ok (.iload_n 1, 1) := by decide +kernel
theorem d_JU_putChar_46 : decode c_JU_putChar 46 = .ok (.iload_n 2, 1) := by decide +kernel
theorem d_JU_putChar_47 : decode c_JU_putChar 47 = .ok (.getstatic 63, 3) := by decide +kernel
theorem d_JU_putChar_50 : decode c_JU_putChar 50 = .ok (.ishr, 1) := by decide +kernel
theorem d_JU_putChar_51 : decode c_JU_putChar 51 = .ok (.i2b, 1) := by decide +kernel
theorem d_JU_putChar_52 : decode c_JU_putChar 52 = .ok (.bastore, 1) := by decide +kernel
theorem d_JU_putChar_53 : decode c_JU_putChar 53 = .ok (.return_, 1) := by decide +kernel
theorem d_JU_putCharSB_0 : decode c_JU_putCharSB 0 = .ok (.iload_n 1, 1) := by decide +kernel
theorem d_JU_putCharSB_1 : decode c_JU_putCharSB 1 = .ok (.aload_n 0, 1) := by decide +kernel
theorem d_JU_putCharSB_2 : decode c_JU_putCharSB 2 = .ok (.invokestatic 67, 3) := by decide +kernel
theorem d_JU_putCharSB_5 : decode c_JU_putCharSB 5 = .ok (.aload_n 0, 1) := by decide +kernel
theorem d_JU_putCharSB_6 : decode c_JU_putCharSB 6 = .ok (.iload_n 1, 1) := by decide +kernel
theorem d_JU_putCharSB_7 : decode c_JU_putCharSB 7 = .ok (.iload_n 2, 1) := by decide +kernel
theorem d_JU_putCharSB_8 : decode c_JU_putCharSB 8 = .ok (.invokestatic 111, 3) := by decide +kernel
theorem d_JU_putCharSB_11 : decode c_JU_putCharSB 11 = .ok (.return_, 1) := by decide +kernel
theorem d_JT_init_0 : decode c_JT_init 0 = .ok (.aload_n 0, 1) := by decide +kernel
theorem d_JT_init_1 : decode c_JT_init 1 = .ok (.invokespecial 1, 3) := by decide +kernel
theorem d_JT_init_4 : decode c_JT_init 4 = .ok (.aload_n 0, 1) := by decide +kernel
theorem d_JT_init_5 : decode c_JT_init 5 = .ok (.aload_n 0, 1) := by decide +kernel
theorem d_JT_init_6 : decode c_JT_init 6 = .ok (.putfield 7, 3) := by decide +kernel
theorem d_JT_init_9 : decode c_JT_init 9 = .ok (.aload_n 0, 1) := by decide +kernel
theorem d_JT_init_10 : decode c_JT_init 10 = .ok (.getstatic 13, 3) := by decide +kernel
theorem d_JT_init_13 : decode c_JT_init 13 = .ok (.putfield 17, 3) := by decide +kernel
theorem d_JT_init_16 : decode c_JT_init 16 = .ok (.aload_n 0, 1) := by decide +kernel
theorem d_JT_init_17 : decode c_JT_init 17 = .ok (.getstatic 20, 3) := by decide +kernel
theorem d_JT_init_20 : decode c_JT_init 20 = .ok (.putfield 24, 3) := by decide +kernel
theorem d_JT_init_23 : decode c_JT_init 23 = .ok (.aload_n 0, 1) := by decide +kernel
theorem d_JT_init_24 : decode c_JT_init 24 = .ok (.invokevirtual 27, 3) := by decide +kernel
theorem d_JT_init_27 : decode c_JT_init 27 = .ok (.pop, 1) := by decide +kernel
theorem d_JT_init_28 : decode c_JT_init 28 = .ok (.return_, 1) := by decide +kernel
theorem d_JT_fillInStackTrace_0 : decode c_JT_fillInStackTrace 0 = .ok (.aload_n 0, 1) := by decide +kernel
theorem d_JT_fillInStackTrace_1 : decode c_JT_fillInStackTrace 1 = .ok (.getfield 17, 3) := by decide +kernel
theorem d_JT_fillInStackTrace_4 : decode c_JT_fillInStackTrace 4 = .ok (.ifnonnull 10, 3) := by decide +kernel
theorem d_JT_fillInStackTrace_7 : decode c_JT_fillInStackTrace 7 = .ok (.aload_n 0, 1) := by decide +kernel
theorem d_JT_fillInStackTrace_8 : decode c_JT_fillInStackTrace 8 = .ok (.getfield 198, 3) := by decide +kernel
theorem d_JT_fillInStackTrace_11 : decode c_JT_fillInStackTrace 11 = .ok (.ifnull 16, 3) := by decide +kernel
theorem d_JT_fillInStackTrace_14 : decode c_JT_fillInStackTrace 14 = .ok (.aload_n 0, 1) := by decide +kernel
theorem d_JT_fillInStackTrace_15 : decode c_JT_fillInStackTrace 15 = .ok (.iconst 0, 1) := by decide +kernel
theorem d_JT_fillInStackTrace_16 : decode c_JT_fillInStackTrace 16 = .ok (.invokevirtual 202, 3) := by decide +kernel
theorem d_JT_fillInStackTrace_19 : decode c_JT_fillInStackTrace 19 = .ok (.pop, 1) := by decide +kernel
theorem d_JT_fillInStackTrace_20 : decode c_JT_fillInStackTrace 20 = .ok (.aload_n 0, 1) := by decide +kernel
theorem d_JT_fillInStackTrace_21 : decode c_JT_fillInStackTrace 21 = .ok (.getstatic 13, 3) := by decide +kernel
theorem d_JT_fillInStackTrace_24 : decode c_JT_fillInStackTrace 24 = .ok (.putfield 17, 3) := by decide +kernel
theorem d_JT_fillInStackTrace_27 : decode c_JT_fillInStackTrace 27 = .ok (.aload_n 0, 1) := by decide +kernel
theorem d_JT_fillInStackTrace_28 : decode c_JT_fillInStackTrace 28 = .ok (.areturn, 1) := by decide +kernel
theorem d_JO_init_0 : decode c_JO_init 0 = .ok (.aload_n 0, 1) := by decide +kernel
theorem d_JO_init_1 : decode c_JO_init 1 = .ok (.invokespecial 1, 3) := by decide +kernel
theorem d_JO_init_4 : decode c_JO_init 4 = .ok (.return_, 1) := by decide +kernel
theorem d_JY_copyOf_0 : decode c_JY_copyOf 0 = .ok (.iload_n 1, 1) := by decide +kernel
theorem d_JY_copyOf_1 : decode c_JY_copyOf 1 = .ok (.aload_n 0, 1) := by decide +kernel
theorem d_JY_copyOf_2 : decode c_JY_copyOf 2 = .ok (.arraylength, 1) := by decide +kernel
theorem d_JY_copyOf_3 : decode c_JY_copyOf 3 = .ok (.if_icmp .ne 11, 3) := by decide +kernel
theorem d_JY_copyOf_6 : decode c_JY_copyOf 6 = .ok (.aload_n 0, 1) := by decide +kernel
theorem d_JY_copyOf_7 : decode c_JY_copyOf 7 = .ok (.invokevirtual 310, 3) := by decide +kernel
theorem d_JY_copyOf_10 : decode c_JY_copyOf 10 = .ok (.checkcast 311, 3) := by decide +kernel
theorem d_JY_copyOf_13 : decode c_JY_copyOf 13 = .ok (.areturn, 1) := by decide +kernel
theorem d_JY_copyOf_14 : decode c_JY_copyOf 14 = .ok (.iload_n 1, 1) := by decide +kernel
theorem d_JY_copyOf_15 : decode c_JY_copyOf 15 = .ok (.newarray .byte, 2) := by decide +kernel
theorem d_JY_copyOf_17 : decode c_JY_copyOf 17 = .ok (.astore_n 2, 1) := by decide +kernel
theorem d_JY_copyOf_18 : decode c_JY_copyOf 18 = .ok (.aload_n 0, 1) := by decide +kernel
theorem d_JY_copyOf_19 : decode c_JY_copyOf 19 = .ok (.iconst 0, 1) := by decide +kernel
theorem d_JY_copyOf_20 : decode c_JY_copyOf 20 = .ok (.aload_n 2, 1) := by decide +kernel
theorem d_JY_copyOf_21 : decode c_JY_copyOf 21 = .ok (.iconst 0, 1) := by decide +kernel
theorem d_JY_copyOf_22 : decode c_JY_copyOf 22 = .ok (.aload_n 0, 1) := by decide +kernel
theorem d_JY_copyOf_23 : decode c_JY_copyOf 23 = .ok (.arraylength, 1) := by decide +kernel
theorem d_JY_copyOf_24 : decode c_JY_copyOf 24 = .ok (.iload_n 1, 1) := by decide +kernel
theorem d_JY_copyOf_25 : decode c_JY_copyOf 25 = .ok (.invokestatic 304, 3) := by decide +kernel
theorem d_JY_copyOf_28 : decode c_JY_copyOf 28 = .ok (.invokestatic 150, 3) := by decide +kernel
theorem d_JY_copyOf_31 : decode c_JY_copyOf 31 = .ok (.aload_n 2, 1) := by decide +kernel
theorem d_JY_copyOf_32 : decode c_JY_copyOf 32 = .ok (.areturn, 1) := by decide +kernel
theorem d_JY_fill_BIIBV_0 : decode c_JY_fill_BIIBV 0 = .ok (.aload_n 0, 1) := by decide +kernel
theorem d_JY_fill_BIIBV_1 : decode c_JY_fill_BIIBV 1 = .ok (.arraylength, 1) := by decide +kernel
theorem d_JY_fill_BIIBV_2 : decode c_JY_fill_BIIBV 2 = .ok (.iload_n 1, 1) := by decide +kernel
theorem d_JY_fill_BIIBV_3 : decode c_JY_fill_BIIBV 3 = .ok (.iload_n 2, 1) := by decide +kernel
theorem d_JY_fill_BIIBV_4 : decode c_JY_fill_BIIBV 4 = .ok (.invokestatic 13, 3) := by decide +kernel
theorem d_JY_fill_BIIBV_7 : decode c_JY_fill_BIIBV 7 = .ok (.iload_n 1, 1) := by decide +kernel
theorem d_JY_fill_BIIBV_8 : decode c_JY_fill_BIIBV 8 = .ok (.istore 4, 2) := by decide +kernel
theorem d_JY_fill_BIIBV_10 : decode c_JY_fill_BIIBV 10 = .ok (.iload 4, 2) := by decide +kernel
theorem d_JY_fill_BIIBV_12 : decode c_JY_fill_BIIBV 12 = .ok (.iload_n 2, 1) := by decide +kernel
theorem d_JY_fill_BIIBV_13 : decode c_JY_fill_BIIBV 13 = .ok (.if_icmp .ge 14, 3) := by decide +kernel
theorem d_JY_fill_BIIBV_16 : decode c_JY_fill_BIIBV 16 = .ok (.aload_n 0, 1) := by decide +kernel
theorem d_JY_fill_BIIBV_17 : decode c_JY_fill_BIIBV 17 = .ok (.iload 4, 2) := by decide +kernel
theorem d_JY_fill_BIIBV_19 : decode c_JY_fill_BIIBV 19 = .ok (.iload_n 3, 1) := by decide +kernel
theorem d_JY_fill_BIIBV_20 : decode c_JY_fill_BIIBV 20 = .ok (.bastore, 1) := by decide +kernel
theorem d_JY_fill_BIIBV_21 : decode c_JY_fill_BIIBV 21 = .ok (.iinc 4 1, 3) := by decide +kernel
theorem d_JY_fill_BIIBV_24 : decode c_JY_fill_BIIBV 24 = .ok (.goto (-14), 3) := by decide +kernel
theorem d_JY_fill_BIIBV_27 : decode c_JY_fill_BIIBV 27 = .ok (.return_, 1) := by decide +kernel
theorem d_JY_fill_IIV_0 : decode c_JY_fill_IIV 0 = .ok (.iconst 0, 1) := by decide +kernel
theorem d_JY_fill_IIV_1 : decode c_JY_fill_IIV 1 = .ok (.istore_n 2, 1) := by decide +kernel
theorem d_JY_fill_IIV_2 : decode c_JY_fill_IIV 2 = .ok (.aload_n 0, 1) := by decide +kernel
theorem d_JY_fill_IIV_3 : decode c_JY_fill_IIV 3 = .ok (.arraylength, 1) := by decide +kernel
theorem d_JY_fill_IIV_4 : decode c_JY_fill_IIV 4 = .ok (.istore_n 3, 1) := by decide +kernel
theorem d_JY_fill_IIV_5 : decode c_JY_fill_IIV 5 = .ok (.iload_n 2, 1) := by decide +kernel
theorem d_JY_fill_IIV_6 : decode c_JY_fill_IIV 6 = .ok (.iload_n 3, 1) := by decide +kernel
theorem d_JY_fill_IIV_7 : decode c_JY_fill_IIV 7 = .ok (.if_icmp .ge 13, 3) := by decide +kernel
theorem d_JY_fill_IIV_10 : decode c_JY_fill_IIV 10 = .ok (.aload_n 0, 1) := by decide +kernel
theorem d_JY_fill_IIV_11 : decode c_JY_fill_IIV 11 = .ok (.iload_n 2, 1) := by decide +kernel
theorem d_JY_fill_IIV_12 : decode c_JY_fill_IIV 12 = .ok (.iload_n 1, 1) := by decide +kernel
theorem d_JY_fill_IIV_13 : decode c_JY_fill_IIV 13 = .ok (.iastore, 1) := by decide +kernel
theorem d_JY_fill_IIV_14 : decode c_JY_fill_IIV 14 = .ok (.iinc 2 1, 3) := by decide +kernel
theorem d_JY_fill_IIV_17 : decode c_JY_fill_IIV 17 = .ok (.goto (-12), 3) := by decide +kernel
theorem d_JY_fill_IIV_20 : decode c_JY_fill_IIV 20 = .ok (.return_, 1) := by decide +kernel
theorem d_JY_rangeCheck_0 : decode c_JY_rangeCheck 0 = .ok (.iload_n 1, 1) := by decide +kernel
theorem d_JY_rangeCheck_1 : decode c_JY_rangeCheck 1 = .ok (.iload_n 2, 1) := by decide +kernel
theorem d_JY_rangeCheck_2 : decode c_JY_rangeCheck 2 = .ok (.if_icmp .le 44, 3) := by decide +kernel
theorem d_JY_rangeCheck_5 : decode c_JY_rangeCheck 5 = .ok (.new 43, 3) := by decide +kernel
theorem d_JY_rangeCheck_8 : decode c_JY_rangeCheck 8 = .ok (.dup, 1) := by decide +kernel
theorem d_JY_rangeCheck_9 : decode c_JY_rangeCheck 9 = .ok (.new 45, 3) := by decide +kernel
theorem d_JY_rangeCheck_12 : decode c_JY_rangeCheck 12 = .ok (.dup, 1) := by decide +kernel
theorem d_JY_rangeCheck_13 : decode c_JY_rangeCheck 13 = .ok (.invokespecial 47, 3) := by decide +kernel
theorem d_JY_rangeCheck_16 : decode c_JY_rangeCheck 16 = .ok (.ldc 48, 2) := by decide +kernel
theorem d_JY_rangeCheck_18 : decode c_JY_rangeCheck 18 = .ok (.invokevirtual 50, 3) := by decide +kernel
theorem d_JY_rangeCheck_21 : decode c_JY_rangeCheck 21 = .ok (.iload_n 1, 1) := by decide +kernel
theorem d_JY_rangeCheck_22 : decode c_JY_rangeCheck 22 = .ok (.invokevirtual 54, 3) := by decide +kernel
theorem d_JY_rangeCheck_25 : decode c_JY_rangeCheck 25 = .ok (.ldc 57, 2) := by decide +kernel
theorem d_JY_rangeCheck_27 : decode c_JY_rangeCheck 27 = .ok (.invokevirtual 50, 3) := by decide +kernel
theorem d_JY_rangeCheck_30 : decode c_JY_rangeCheck 30 = .ok (.iload_n 2, 1) := by decide +kernel
theorem d_JY_rangeCheck_31 : decode c_JY_rangeCheck 31 = .ok (.invokevirtual 54, 3) := by decide +kernel
theorem d_JY_rangeCheck_34 : decode c_JY_rangeCheck 34 = .ok (.ldc 59, 2) := by decide +kernel
theorem d_JY_rangeCheck_36 : decode c_JY_rangeCheck 36 = .ok (.invokevirtual 50, 3) := by decide +kernel
theorem d_JY_rangeCheck_39 : decode c_JY_rangeCheck 39 = .ok (.invokevirtual 61, 3) := by decide +kernel
theorem d_JY_rangeCheck_42 : decode c_JY_rangeCheck 42 = .ok (.invokespecial 65, 3) := by decide +kernel
theorem d_JY_rangeCheck_45 : decode c_JY_rangeCheck 45 = .ok (.athrow, 1) := by decide +kernel
theorem d_JY_rangeCheck_46 : decode c_JY_rangeCheck 46 = .ok (.iload_n 1, 1) := by decide +kernel
theorem d_JY_rangeCheck_47 : decode c_JY_rangeCheck 47 = .ok (.ifCond .ge 12, 3) := by decide +kernel
theorem d_JY_rangeCheck_50 : decode c_JY_rangeCheck 50 = .ok (.new 68, 3) := by decide +kernel
theorem d_JY_rangeCheck_53 : decode c_JY_rangeCheck 53 = .ok (.dup, 1) := by decide +kernel
theorem d_JY_rangeCheck_54 : decode c_JY_rangeCheck 54 = .ok (.iload_n 1, 1) := by decide +kernel
theorem d_JY_rangeCheck_55 : decode c_JY_rangeCheck 55 = .ok (.invokespecial 70, 3) := by decide +kernel
theorem d_JY_rangeCheck_58 : decode c_JY_rangeCheck 58 = .ok (.athrow, 1) := by decide +kernel
theorem d_JY_rangeCheck_59 : decode c_JY_rangeCheck 59 = .ok (.iload_n 2, 1) := by decide +kernel
theorem d_JY_rangeCheck_60 : decode c_JY_rangeCheck 60 = .ok (.iload_n 0, 1) := by decide +kernel
theorem d_JY_rangeCheck_61 : decode c_JY_rangeCheck 61 = .ok (.if_icmp .le 12, 3) := by decide +kernel
theorem d_JY_rangeCheck_64 : decode c_JY_rangeCheck 64 = .ok (.new 68, 3) := by decide +kernel
theorem d_JY_rangeCheck_67 : decode c_JY_rangeCheck 67 = .ok (.dup, 1) := by decide +kernel
theorem d_JY_rangeCheck_68 : decode c_JY_rangeCheck 68 = .ok (.iload_n 2, 1) := by decide +kernel
theorem d_JY_rangeCheck_69 : decode c_JY_rangeCheck 69 = .ok (.invokespecial 70, 3) := by decide +kernel
theorem d_JY_rangeCheck_72 : decode c_JY_rangeCheck 72 = .ok (.athrow, 1) := by decide +kernel
theorem d_JY_rangeCheck_73 : decode c_JY_rangeCheck 73 = .ok (.return_, 1) := by decide +kernel
theorem d_JP_hugeLength_0 : decode c_JP_hugeLength 0 = .ok (.iload_n 0, 1) := by decide +kernel
theorem d_JP_hugeLength_1 : decode c_JP_hugeLength 1 = .ok (.iload_n 1, 1) := by decide +kernel
theorem d_JP_hugeLength_2 : decode c_JP_hugeLength 2 = .ok (.iadd, 1) := by decide +kernel
theorem d_JP_hugeLength_3 : decode c_JP_hugeLength 3 = .ok (.istore_n 2, 1) := by decide +kernel
theorem d_JP_hugeLength_4 : decode c_JP_hugeLength 4 = .ok (.iload_n 2, 1) := by decide +kernel
theorem d_JP_hugeLength_5 : decode c_JP_hugeLength 5 = .ok (.ifCond .ge 44, 3) := by decide +kernel
theorem d_JP_hugeLength_8 : decode c_JP_hugeLength 8 = .ok (.new 204, 3) := by decide +kernel
theorem d_JP_hugeLength_11 : decode c_JP_hugeLength 11 = .ok (.dup, 1) := by decide +kernel
theorem d_JP_hugeLength_12 : decode c_JP_hugeLength 12 = .ok (.new 89, 3) := by decide +kernel
theorem d_JP_hugeLength_15 : decode c_JP_hugeLength 15 = .ok (.dup, 1) := by decide +kernel
theorem d_JP_hugeLength_16 : decode c_JP_hugeLength 16 = .ok (.invokespecial 91, 3) := by decide +kernel
theorem d_JP_hugeLength_19 : decode c_JP_hugeLength 19 = .ok (.ldc 206, 2) := by decide +kernel
theorem d_JP_hugeLength_21 : decode c_JP_hugeLength 21 = .ok (.invokevirtual 94, 3) := by decide +kernel
theorem d_JP_hugeLength_24 : decode c_JP_hugeLength 24 = .ok (.iload_n 0, 1) := by decide +kernel
theorem d_JP_hugeLength_25 : decode c_JP_hugeLength 25 = .ok (.invokevirtual 98, 3) := by decide +kernel
theorem d_JP_hugeLength_28 : decode c_JP_hugeLength 28 = .ok (.ldc 208, 2) := by decide +kernel
theorem d_JP_hugeLength_30 : decode c_JP_hugeLength 30 = .ok (.invokevirtual 94, 3) := by decide +kernel
theorem d_JP_hugeLength_33 : decode c_JP_hugeLength 33 = .ok (.iload_n 1, 1) := by decide +kernel
theorem d_JP_hugeLength_34 : decode c_JP_hugeLength 34 = .ok (.invokevirtual 98, 3) := by decide +kernel
theorem d_JP_hugeLength_37 : decode c_JP_hugeLength 37 = .ok (.ldc 210, 2) := by decide +kernel
theorem d_JP_hugeLength_39 : decode c_JP_hugeLength 39 = .ok (.invokevirtual 94, 3) := by decide +kernel
theorem d_JP_hugeLength_42 : decode c_JP_hugeLength 42 = .ok (.invokevirtual 101, 3) := by decide +kernel
theorem d_JP_hugeLength_45 : decode c_JP_hugeLength 45 = .ok (.invokespecial 212, 3) := by decide +kernel
theorem d_JP_hugeLength_48 : decode c_JP_hugeLength 48 = .ok (.athrow, 1) := by decide +kernel
theorem d_JP_hugeLength_49 : decode c_JP_hugeLength 49 = .ok (.iload_n 2, 1) := by decide +kernel
theorem d_JP_hugeLength_50 : decode c_JP_hugeLength 50 = .ok (.ldc 200, 2) := by decide +kernel
theorem d_JP_hugeLength_52 : decode c_JP_hugeLength 52 = .ok (.if_icmp .gt 6, 3) := by decide +kernel
theorem d_JP_hugeLength_55 : decode c_JP_hugeLength 55 = .ok (.ldc 200, 2) := by decide +kernel
theorem d_JP_hugeLength_57 : decode c_JP_hugeLength 57 = .ok (.ireturn, 1) := by decide +kernel
theorem d_JP_hugeLength_58 : decode c_JP_hugeLength 58 = .ok (.iload_n 2, 1) := by decide +kernel
theorem d_JP_hugeLength_59 : decode c_JP_hugeLength 59 = .ok (.ireturn, 1) := by decide +kernel
theorem d_JP_newLength_0 : decode c_JP_newLength 0 = .ok (.iload_n 0, 1) := by decide +kernel
theorem d_JP_newLength_1 : decode c_JP_newLength 1 = .ok (.iload_n 1, 1) := by decide +kernel
theorem d_JP_newLength_2 : decode c_JP_newLength 2 = .ok (.iload_n 2, 1) := by decide +kernel
theorem d_JP_newLength_3 : decode c_JP_newLength 3 = .ok (.invokestatic 194, 3) := by decide +kernel
theorem d_JP_newLength_6 : decode c_JP_newLength 6 = .ok (.iadd, 1) := by decide +kernel
theorem d_JP_newLength_7 : decode c_JP_newLength 7 = .ok (.istore_n 3, 1) := by decide +kernel
theorem d_JP_newLength_8 : decode c_JP_newLength 8 = .ok (.iconst 0, 1) := by decide +kernel
theorem d_JP_newLength_9 : decode c_JP_newLength 9 = .ok (.iload_n 3, 1) := by decide +kernel
theorem d_JP_newLength_10 : decode c_JP_newLength 10 = .ok (.if_icmp .ge 11, 3) := by decide +kernel
theorem d_JP_newLength_13 : decode c_JP_newLength 13 = .ok (.iload_n 3, 1) := by decide +kernel
theorem d_JP_newLength_14 : decode c_JP_newLength 14 = .ok (.ldc 200, 2) := by decide +kernel
theorem d_JP_newLength_16 : decode c_JP_newLength 16 = .ok (.if_icmp .gt 5, 3) := by decide +kernel
theorem d_JP_newLength_19 : decode c_JP_newLength 19 = .ok (.iload_n 3, 1) := by decide +kernel
theorem d_JP_newLength_20 : decode c_JP_newLength 20 = .ok (.ireturn, 1) := by decide +kernel
theorem d_JP_newLength_21 : decode c_JP_newLength 21 = .ok (.iload_n 0, 1) := by decide +kernel
theorem d_JP_newLength_22 : decode c_JP_newLength 22 = .ok (.iload_n 1, 1) := by decide +kernel
theorem d_JP_newLength_23 : decode c_JP_newLength 23 = .ok (.invokestatic 201, 3) := by decide +kernel
theorem d_JP_newLength_26 : decode c_JP_newLength 26 = .ok (.ireturn, 1) := by decide +kernel
theorem d_JC_checkFromIndexSize_0 : decode c_JC_checkFromIndexSize 0 = .ok (.iload_n 2, 1) := by decide +kernel
theorem d_JC_checkFromIndexSize_1 : decode c_JC_checkFromIndexSize 1 = .ok (.iload_n 0, 1) := by decide +kernel
theorem d_JC_checkFromIndexSize_2 : decode c_JC_checkFromIndexSize 2 = .ok (.ior, 1) := by decide +kernel
theorem d_JC_checkFromIndexSize_3 : decode c_JC_checkFromIndexSize 3 = .ok (.iload_n 1, 1) := by decide +kernel
theorem d_JC_checkFromIndexSize_4 : decode c_JC_checkFromIndexSize 4 = .ok (.ior, 1) := by decide +kernel
theorem d_JC_checkFromIndexSize_5 : decode c_JC_checkFromIndexSize 5 = .ok (.ifCond .lt 10, 3) := by decide +kernel
theorem d_JC_checkFromIndexSize_8 : decode c_JC_checkFromIndexSize 8 = .ok (.iload_n 1, 1) := by decide +kernel
theorem d_JC_checkFromIndexSize_9 : decode c_JC_checkFromIndexSize 9 = .ok (.iload_n 2, 1) := by decide +kernel
theorem d_JC_checkFromIndexSize_10 : decode c_JC_checkFromIndexSize 10 = .ok (.iload_n 0, 1) := by decide +kernel
theorem d_JC_checkFromIndexSize_11 : decode c_JC_checkFromIndexSize 11 = .ok (.isub, 1) := by decide +kernel
theorem d_JC_checkFromIndexSize_12 : decode c_JC_checkFromIndexSize 12 = .ok (.if_icmp .le 11, 3) := by decide +kernel
theorem d_JC_checkFromIndexSize_15 : decode c_JC_checkFromIndexSize 15 = .ok (.aload_n 3, 1) := by decide +kernel
theorem d_JC_checkFromIndexSize_16 : decode c_JC_checkFromIndexSize 16 = .ok (.iload_n 0, 1) := by decide +kernel
theorem d_JC_checkFromIndexSize_17 : decode c_JC_checkFromIndexSize 17 = .ok (.iload_n 1, 1) := by decide +kernel
theorem d_JC_checkFromIndexSize_18 : decode c_JC_checkFromIndexSize 18 = .ok (.iload_n 2, 1) := by decide +kernel
theorem d_JC_checkFromIndexSize_19 : decode c_JC_checkFromIndexSize 19 = .ok (.invokestatic 103, 3) := by decide +kernel
theorem d_JC_checkFromIndexSize_22 : decode c_JC_checkFromIndexSize 22 = .ok (.athrow, 1) := by decide +kernel
theorem d_JC_checkFromIndexSize_23 : decode c_JC_checkFromIndexSize 23 = .ok (.iload_n 0, 1) := by decide +kernel
theorem d_JC_checkFromIndexSize_24 : decode c_JC_checkFromIndexSize 24 = .ok (.ireturn, 1) := by decide +kernel
theorem d_JC_checkFromToIndex_0 : decode c_JC_checkFromToIndex 0 = .ok (.iload_n 0, 1) := by decide +kernel
theorem d_JC_checkFromToIndex_1 : decode c_JC_checkFromToIndex 1 = .ok (.ifCond .lt 13, 3) := by decide +kernel
theorem d_JC_checkFromToIndex_4 : decode c_JC_checkFromToIndex 4 = .ok (.iload_n 0, 1) := by decide +kernel
theorem d_JC_checkFromToIndex_5 : decode c_JC_checkFromToIndex 5 = .ok (.iload_n 1, 1) := by decide +kernel
theorem d_JC_checkFromToIndex_6 : decode c_JC_checkFromToIndex 6 = .ok (.if_icmp .gt 8, 3) := by decide +kernel
theorem d_JC_checkFromToIndex_9 : decode c_JC_checkFromToIndex 9 = .ok (.iload_n 1, 1) := by decide +kernel
theorem d_JC_checkFromToIndex_10 : decode c_JC_checkFromToIndex 10 = .ok (.iload_n 2, 1) := by decide +kernel
theorem d_JC_checkFromToIndex_11 : decode c_JC_checkFromToIndex 11 = .ok (.if_icmp .le 11, 3) := by decide +kernel
theorem d_JC_checkFromToIndex_14 : decode c_JC_checkFromToIndex 14 = .ok (.aload_n 3, 1) := by decide +kernel
theorem d_JC_checkFromToIndex_15 : decode c_JC_checkFromToIndex 15 = .ok (.iload_n 0, 1) := by decide +kernel
theorem d_JC_checkFromToIndex_16 : decode c_JC_checkFromToIndex 16 = .ok (.iload_n 1, 1) := by decide +kernel
theorem d_JC_checkFromToIndex_17 : decode c_JC_checkFromToIndex 17 = .ok (.iload_n 2, 1) := by decide +kernel
theorem d_JC_checkFromToIndex_18 : decode c_JC_checkFromToIndex 18 = .ok (.invokestatic 99, 3) := by decide +kernel
theorem d_JC_checkFromToIndex_21 : decode c_JC_checkFromToIndex 21 = .ok (.athrow, 1) := by decide +kernel
theorem d_JC_checkFromToIndex_22 : decode c_JC_checkFromToIndex 22 = .ok (.iload_n 0, 1) := by decide +kernel
theorem d_JC_checkFromToIndex_23 : decode c_JC_checkFromToIndex 23 = .ok (.ireturn, 1) := by decide +kernel
theorem d_JC_checkIndex_0 : decode c_JC_checkIndex 0 = .ok (.iload_n 0, 1) := by decide +kernel
theorem d_JC_checkIndex_1 : decode c_JC_checkIndex 1 = .ok (.ifCond .lt 8, 3) := by decide +kernel
theorem d_JC_checkIndex_4 : decode c_JC_checkIndex 4 = .ok (.iload_n 0, 1) := by decide +kernel
theorem d_JC_checkIndex_5 : decode c_JC_checkIndex 5 = .ok (.iload_n 1, 1) := by decide +kernel
theorem d_JC_checkIndex_6 : decode c_JC_checkIndex 6 = .ok (.if_icmp .lt 10, 3) := by decide +kernel
theorem d_JC_checkIndex_9 : decode c_JC_checkIndex 9 = .ok (.aload_n 2, 1) := by decide +kernel
theorem d_JC_checkIndex_10 : decode c_JC_checkIndex 10 = .ok (.iload_n 0, 1) := by decide +kernel
theorem d_JC_checkIndex_11 : decode c_JC_checkIndex 11 = .ok (.iload_n 1, 1) := by decide +kernel
theorem d_JC_checkIndex_12 : decode c_JC_checkIndex 12 = .ok (.invokestatic 95, 3) := by decide +kernel
theorem d_JC_checkIndex_15 : decode c_JC_checkIndex 15 = .ok (.athrow, 1) := by decide +kernel
theorem d_JC_checkIndex_16 : decode c_JC_checkIndex 16 = .ok (.iload_n 0, 1) := by decide +kernel
theorem d_JC_checkIndex_17 : decode c_JC_checkIndex 17 = .ok (.ireturn, 1) := by decide +kernel
end
section
/-! decode rows, by program (wip/whole/names.py) -/
theorem d_M_init_0 : decode c_M_init 0 = .ok (.aload_n 0, 1) := by decide +kernel
theorem d_M_init_1 : decode c_M_init 1 = .ok (.invokespecial 1, 3) := by decide +kernel
theorem d_M_init_4 : decode c_M_init 4 = .ok (.aload_n 0, 1) := by decide +kernel
theorem d_M_init_5 : decode c_M_init 5 = .ok (.bipush 14, 2) := by decide +kernel
theorem d_M_init_7 : decode c_M_init 7 = .ok (.newarray .int, 2) := by decide +kernel
theorem d_M_init_9 : decode c_M_init 9 = .ok (.putfield 7, 3) := by decide +kernel
theorem d_M_init_12 : decode c_M_init 12 = .ok (.aload_n 0, 1) := by decide +kernel
theorem d_M_init_13 : decode c_M_init 13 = .ok (.bipush 14, 2) := by decide +kernel
theorem d_M_init_15 : decode c_M_init 15 = .ok (.newarray .long, 2) := by decide +kernel
theorem d_M_init_17 : decode c_M_init 17 = .ok (.putfield 13, 3) := by decide +kernel
theorem d_M_init_20 : decode c_M_init 20 = .ok (.aload_n 0, 1) := by decide +kernel
theorem d_M_init_21 : decode c_M_init 21 = .ok (.iconst 2, 1) := by decide +kernel
theorem d_M_init_22 : decode c_M_init 22 = .ok (.newarray .boolean, 2) := by decide +kernel
theorem d_M_init_24 : decode c_M_init 24 = .ok (.putfield 17, 3) := by decide +kernel
theorem d_M_init_27 : decode c_M_init 27 = .ok (.aload_n 0, 1) := by decide +kernel
theorem d_M_init_28 : decode c_M_init 28 = .ok (.iconst 2, 1) := by decide +kernel
theorem d_M_init_29 : decode c_M_init 29 = .ok (.newarray .int, 2) := by decide +kernel
theorem d_M_init_31 : decode c_M_init 31 = .ok (.putfield 21, 3) := by decide +kernel
theorem d_M_init_34 : decode c_M_init 34 = .ok (.aload_n 0, 1) := by decide +kernel
theorem d_M_init_35 : decode c_M_init 35 = .ok (.iconst 2, 1) := by decide +kernel
theorem d_M_init_36 : decode c_M_init 36 = .ok (.newarray .int, 2) := by decide +kernel
theorem d_M_init_38 : decode c_M_init 38 = .ok (.putfield 24, 3) := by decide +kernel
theorem d_M_init_41 : decode c_M_init 41 = .ok (.aload_n 0, 1) := by decide +kernel
theorem d_M_init_42 : decode c_M_init 42 = .ok (.iconst 2, 1) := by decide +kernel
theorem d_M_init_43 : decode c_M_init 43 = .ok (.newarray .int, 2) := by decide +kernel
theorem d_M_init_45 : decode c_M_init 45 = .ok (.putfield 27, 3) := by decide +kernel
theorem d_M_init_48 : decode c_M_init 48 = .ok (.aload_n 0, 1) := by decide +kernel
theorem d_M_init_49 : decode c_M_init 49 = .ok (.iconst 2, 1) := by decide +kernel
theorem d_M_init_50 : decode c_M_init 50 = .ok (.newarray .int, 2) := by decide +kernel
theorem d_M_init_52 : decode c_M_init 52 = .ok (.putfield 30, 3) := by decide +kernel
theorem d_M_init_55 : decode c_M_init 55 = .ok (.aload_n 0, 1) := by decide +kernel
theorem d_M_init_56 : decode c_M_init 56 = .ok (.iconst 2, 1) := by decide +kernel
theorem d_M_init_57 : decode c_M_init 57 = .ok (.newarray .int, 2) := by decide +kernel
theorem d_M_init_59 : decode c_M_init 59 = .ok (.putfield 33, 3) := by decide +kernel
theorem d_M_init_62 : decode c_M_init 62 = .ok (.aload_n 0, 1) := by decide +kernel
theorem d_M_init_63 : decode c_M_init 63 = .ok (.iconst 2, 1) := by decide +kernel
theorem d_M_init_64 : decode c_M_init 64 = .ok (.newarray .int, 2) := by decide +kernel
theorem d_M_init_66 : decode c_M_init 66 = .ok (.putfield 36, 3) := by decide +kernel
theorem d_M_init_69 : decode c_M_init 69 = .ok (.aload_n 0, 1) := by decide +kernel
theorem d_M_init_70 : decode c_M_init 70 = .ok (.ldc 39, 2) := by decide +kernel
theorem d_M_init_72 : decode c_M_init 72 = .ok (.putfield 40, 3) := by decide +kernel
theorem d_M_init_75 : decode c_M_init 75 = .ok (.aload_n 0, 1) := by decide +kernel
theorem d_M_init_76 : decode c_M_init 76 = .ok (.bipush 24, 2) := by decide +kernel
theorem d_M_init_78 : decode c_M_init 78 = .ok (.newarray .char, 2) := by decide +kernel
theorem d_M_init_80 : decode c_M_init 80 = .ok (.putfield 44, 3) := by decide +kernel
theorem d_M_init_83 : decode c_M_init 83 = .ok (.aload_n 0, 1) := by decide +kernel
theorem d_M_init_84 : decode c_M_init 84 = .ok (.getfield 7, 3) := by decide +kernel
theorem d_M_init_87 : decode c_M_init 87 = .ok (.iconst 0, 1) := by decide +kernel
theorem d_M_init_88 : decode c_M_init 88 = .ok (.sipush 400, 3) := by decide +kernel
theorem d_M_init_91 : decode c_M_init 91 = .ok (.iastore, 1) := by decide +kernel
theorem d_M_init_92 : decode c_M_init 92 = .ok (.aload_n 0, 1) := by decide +kernel
theorem d_M_init_93 : decode c_M_init 93 = .ok (.getfield 7, 3) := by decide +kernel
theorem d_M_init_96 : decode c_M_init 96 = .ok (.iconst 1, 1) := by decide +kernel
theorem d_M_init_97 : decode c_M_init 97 = .ok (.iconst 4, 1) := by decide +kernel
theorem d_M_init_98 : decode c_M_init 98 = .ok (.iastore, 1) := by decide +kernel
theorem d_M_init_99 : decode c_M_init 99 = .ok (.aload_n 0, 1) := by decide +kernel
theorem d_M_init_100 : decode c_M_init 100 = .ok (.getfield 7, 3) := by decide +kernel
theorem d_M_init_103 : decode c_M_init 103 = .ok (.iconst 3, 1) := by decide +kernel
theorem d_M_init_104 : decode c_M_init 104 = .ok (.iconst 4, 1) := by decide +kernel
theorem d_M_init_105 : decode c_M_init 105 = .ok (.iastore, 1) := by decide +kernel
theorem d_M_init_106 : decode c_M_init 106 = .ok (.aload_n 0, 1) := by decide +kernel
theorem d_M_init_107 : decode c_M_init 107 = .ok (.getfield 7, 3) := by decide +kernel
theorem d_M_init_110 : decode c_M_init 110 = .ok (.iconst 4, 1) := by decide +kernel
theorem d_M_init_111 : decode c_M_init 111 = .ok (.iconst 4, 1) := by decide +kernel
theorem d_M_init_112 : decode c_M_init 112 = .ok (.iastore, 1) := by decide +kernel
theorem d_M_init_113 : decode c_M_init 113 = .ok (.aload_n 0, 1) := by decide +kernel
theorem d_M_init_114 : decode c_M_init 114 = .ok (.getfield 7, 3) := by decide +kernel
theorem d_M_init_117 : decode c_M_init 117 = .ok (.iconst 5, 1) := by decide +kernel
theorem d_M_init_118 : decode c_M_init 118 = .ok (.bipush 30, 2) := by decide +kernel
theorem d_M_init_120 : decode c_M_init 120 = .ok (.iastore, 1) := by decide +kernel
theorem d_M_init_121 : decode c_M_init 121 = .ok (.aload_n 0, 1) := by decide +kernel
theorem d_M_init_122 : decode c_M_init 122 = .ok (.getfield 7, 3) := by decide +kernel
theorem d_M_init_125 : decode c_M_init 125 = .ok (.bipush 6, 2) := by decide +kernel
theorem d_M_init_127 : decode c_M_init 127 = .ok (.sipush 2820, 3) := by decide +kernel
theorem d_M_init_130 : decode c_M_init 130 = .ok (.iastore, 1) := by decide +kernel
theorem d_M_init_131 : decode c_M_init 131 = .ok (.aload_n 0, 1) := by decide +kernel
theorem d_M_init_132 : decode c_M_init 132 = .ok (.getfield 7, 3) := by decide +kernel
theorem d_M_init_135 : decode c_M_init 135 = .ok (.bipush 7, 2) := by decide +kernel
theorem d_M_init_137 : decode c_M_init 137 = .ok (.sipush 4000, 3) := by decide +kernel
theorem d_M_init_140 : decode c_M_init 140 = .ok (.iastore, 1) := by decide +kernel
theorem d_M_init_141 : decode c_M_init 141 = .ok (.aload_n 0, 1) := by decide +kernel
theorem d_M_init_142 : decode c_M_init 142 = .ok (.getfield 7, 3) := by decide +kernel
theorem d_M_init_145 : decode c_M_init 145 = .ok (.bipush 8, 2) := by decide +kernel
theorem d_M_init_147 : decode c_M_init 147 = .ok (.sipush 400, 3) := by decide +kernel
theorem d_M_init_150 : decode c_M_init 150 = .ok (.iastore, 1) := by decide +kernel
theorem d_M_init_151 : decode c_M_init 151 = .ok (.iconst 0, 1) := by decide +kernel
theorem d_M_init_152 : decode c_M_init 152 = .ok (.istore_n 1, 1) := by decide +kernel
theorem d_M_init_153 : decode c_M_init 153 = .ok (.iload_n 1, 1) := by decide +kernel
theorem d_M_init_154 : decode c_M_init 154 = .ok (.bipush 9, 2) := by decide +kernel
theorem d_M_init_156 : decode c_M_init 156 = .ok (.if_icmp .ge 14, 3) := by decide +kernel
theorem d_M_init_159 : decode c_M_init 159 = .ok (.aload_n 0, 1) := by decide +kernel
theorem d_M_init_160 : decode c_M_init 160 = .ok (.iload_n 1, 1) := by decide +kernel
theorem d_M_init_161 : decode c_M_init 161 = .ok (.invokevirtual 48, 3) := by decide +kernel
theorem d_M_init_164 : decode c_M_init 164 = .ok (.iinc 1 1, 3) := by decide +kernel
theorem d_M_init_167 : decode c_M_init 167 = .ok (.goto (-14), 3) := by decide +kernel
theorem d_M_init_170 : decode c_M_init 170 = .ok (.return_, 1) := by decide +kernel
theorem d_M_before_0 : decode c_M_before 0 = .ok (.lconst 0, 1) := by decide +kernel
theorem d_M_before_1 : decode c_M_before 1 = .ok (.lstore 5, 2) := by decide +kernel
theorem d_M_before_3 : decode c_M_before 3 = .ok (.aload_n 0, 1) := by decide +kernel
theorem d_M_before_4 : decode c_M_before 4 = .ok (.iload_n 1, 1) := by decide +kernel
theorem d_M_before_5 : decode c_M_before 5 = .ok (.lload_n 2, 1) := by decide +kernel
theorem d_M_before_6 : decode c_M_before 6 = .ok (.invokevirtual 106, 3) := by decide +kernel
theorem d_M_before_9 : decode c_M_before 9 = .ok (.istore 7, 2) := by decide +kernel
theorem d_M_before_11 : decode c_M_before 11 = .ok (.iconst 0, 1) := by decide +kernel
theorem d_M_before_12 : decode c_M_before 12 = .ok (.istore 8, 2) := by decide +kernel
theorem d_M_before_14 : decode c_M_before 14 = .ok (.iload 8, 2) := by decide +kernel
theorem d_M_before_16 : decode c_M_before 16 = .ok (.iload 7, 2) := by decide +kernel
theorem d_M_before_18 : decode c_M_before 18 = .ok (.if_icmp .ge 45, 3) := by decide +kernel
theorem d_M_before_21 : decode c_M_before 21 = .ok (.aload_n 0, 1) := by decide +kernel
theorem d_M_before_22 : decode c_M_before 22 = .ok (.iload_n 1, 1) := by decide +kernel
theorem d_M_before_23 : decode c_M_before 23 = .ok (.lload_n 2, 1) := by decide +kernel
theorem d_M_before_24 : decode c_M_before 24 = .ok (.iload 8, 2) := by decide +kernel
theorem d_M_before_26 : decode c_M_before 26 = .ok (.invokevirtual 119, 3) := by decide +kernel
theorem d_M_before_29 : decode c_M_before 29 = .ok (.iload 4, 2) := by decide +kernel
theorem d_M_before_31 : decode c_M_before 31 = .ok (.if_icmp .ne 6, 3) := by decide +kernel
theorem d_M_before_34 : decode c_M_before 34 = .ok (.lload 5, 2) := by decide +kernel
theorem d_M_before_36 : decode c_M_before 36 = .ok (.lreturn, 1) := by decide +kernel
theorem d_M_before_37 : decode c_M_before 37 = .ok (.lload 5, 2) := by decide +kernel
theorem d_M_before_39 : decode c_M_before 39 = .ok (.aload_n 0, 1) := by decide +kernel
theorem d_M_before_40 : decode c_M_before 40 = .ok (.iload_n 1, 1) := by decide +kernel
theorem d_M_before_41 : decode c_M_before 41 = .ok (.lload_n 2, 1) := by decide +kernel
theorem d_M_before_42 : decode c_M_before 42 = .ok (.aload_n 0, 1) := by decide +kernel
theorem d_M_before_43 : decode c_M_before 43 = .ok (.iload_n 1, 1) := by decide +kernel
theorem d_M_before_44 : decode c_M_before 44 = .ok (.lload_n 2, 1) := by decide +kernel
theorem d_M_before_45 : decode c_M_before 45 = .ok (.iload 8, 2) := by decide +kernel
theorem d_M_before_47 : decode c_M_before 47 = .ok (.invokevirtual 119, 3) := by decide +kernel
theorem d_M_before_50 : decode c_M_before 50 = .ok (.invokevirtual 123, 3) := by decide +kernel
theorem d_M_before_53 : decode c_M_before 53 = .ok (.i2l, 1) := by decide +kernel
theorem d_M_before_54 : decode c_M_before 54 = .ok (.ladd, 1) := by decide +kernel
theorem d_M_before_55 : decode c_M_before 55 = .ok (.lstore 5, 2) := by decide +kernel
theorem d_M_before_57 : decode c_M_before 57 = .ok (.iinc 8 1, 3) := by decide +kernel
theorem d_M_before_60 : decode c_M_before 60 = .ok (.goto (-46), 3) := by decide +kernel
theorem d_M_before_63 : decode c_M_before 63 = .ok (.ldc2_w 241, 3) := by decide +kernel
theorem d_M_before_66 : decode c_M_before 66 = .ok (.lreturn, 1) := by decide +kernel
theorem d_M_countCycle_0 : decode c_M_countCycle 0 = .ok (.lconst 0, 1) := by decide +kernel
theorem d_M_countCycle_1 : decode c_M_countCycle 1 = .ok (.lstore_n 2, 1) := by decide +kernel
theorem d_M_countCycle_2 : decode c_M_countCycle 2 = .ok (.iconst 1, 1) := by decide +kernel
theorem d_M_countCycle_3 : decode c_M_countCycle 3 = .ok (.istore 4, 2) := by decide +kernel
theorem d_M_countCycle_5 : decode c_M_countCycle 5 = .ok (.iload 4, 2) := by decide +kernel
theorem d_M_countCycle_7 : decode c_M_countCycle 7 = .ok (.aload_n 0, 1) := by decide +kernel
theorem d_M_countCycle_8 : decode c_M_countCycle 8 = .ok (.getfield 7, 3) := by decide +kernel
theorem d_M_countCycle_11 : decode c_M_countCycle 11 = .ok (.iload_n 1, 1) := by decide +kernel
theorem d_M_countCycle_12 : decode c_M_countCycle 12 = .ok (.iaload, 1) := by decide +kernel
theorem d_M_countCycle_13 : decode c_M_countCycle 13 = .ok (.if_icmp .gt 34, 3) := by decide +kernel
theorem d_M_countCycle_16 : decode c_M_countCycle 16 = .ok (.lload_n 2, 1) := by decide +kernel
theorem d_M_countCycle_17 : decode c_M_countCycle 17 = .ok (.aload_n 0, 1) := by decide +kernel
theorem d_M_countCycle_18 : decode c_M_countCycle 18 = .ok (.iload_n 1, 1) := by decide +kernel
theorem d_M_countCycle_19 : decode c_M_countCycle 19 = .ok (.invokevirtual 130, 3) := by decide +kernel
theorem d_M_countCycle_22 : decode c_M_countCycle 22 = .ok (.ladd, 1) := by decide +kernel
theorem d_M_countCycle_23 : decode c_M_countCycle 23 = .ok (.aload_n 0, 1) := by decide +kernel
theorem d_M_countCycle_24 : decode c_M_countCycle 24 = .ok (.iload_n 1, 1) := by decide +kernel
theorem d_M_countCycle_25 : decode c_M_countCycle 25 = .ok (.iload 4, 2) := by decide +kernel
theorem d_M_countCycle_27 : decode c_M_countCycle 27 = .ok (.i2l, 1) := by decide +kernel
theorem d_M_countCycle_28 : decode c_M_countCycle 28 = .ok (.invokevirtual 102, 3) := by decide +kernel
theorem d_M_countCycle_31 : decode c_M_countCycle 31 = .ok (.ifCond .eq 7, 3) := by decide +kernel
theorem d_M_countCycle_34 : decode c_M_countCycle 34 = .ok (.lconst 1, 1) := by decide +kernel
theorem d_M_countCycle_35 : decode c_M_countCycle 35 = .ok (.goto 4, 3) := by decide +kernel
theorem d_M_countCycle_38 : decode c_M_countCycle 38 = .ok (.lconst 0, 1) := by decide +kernel
theorem d_M_countCycle_39 : decode c_M_countCycle 39 = .ok (.ladd, 1) := by decide +kernel
theorem d_M_countCycle_40 : decode c_M_countCycle 40 = .ok (.lstore_n 2, 1) := by decide +kernel
theorem d_M_countCycle_41 : decode c_M_countCycle 41 = .ok (.iinc 4 1, 3) := by decide +kernel
theorem d_M_countCycle_44 : decode c_M_countCycle 44 = .ok (.goto (-39), 3) := by decide +kernel
theorem d_M_countCycle_47 : decode c_M_countCycle 47 = .ok (.aload_n 0, 1) := by decide +kernel
theorem d_M_countCycle_48 : decode c_M_countCycle 48 = .ok (.getfield 13, 3) := by decide +kernel
theorem d_M_countCycle_51 : decode c_M_countCycle 51 = .ok (.iload_n 1, 1) := by decide +kernel
theorem d_M_countCycle_52 : decode c_M_countCycle 52 = .ok (.lload_n 2, 1) := by decide +kernel
theorem d_M_countCycle_53 : decode c_M_countCycle 53 = .ok (.lastore, 1) := by decide +kernel
theorem d_M_countCycle_54 : decode c_M_countCycle 54 = .ok (.return_, 1) := by decide +kernel
theorem d_M_counted_0 : decode c_M_counted 0 = .ok (.iload_n 0, 1) := by decide +kernel
theorem d_M_counted_1 : decode c_M_counted 1 = .ok (.invokestatic 59, 3) := by decide +kernel
theorem d_M_counted_4 : decode c_M_counted 4 = .ok (.ifCond .eq 15, 3) := by decide +kernel
theorem d_M_counted_7 : decode c_M_counted 7 = .ok (.lload_n 1, 1) := by decide +kernel
theorem d_M_counted_8 : decode c_M_counted 8 = .ok (.lconst 0, 1) := by decide +kernel
theorem d_M_counted_9 : decode c_M_counted 9 = .ok (.lcmp, 1) := by decide +kernel
theorem d_M_counted_10 : decode c_M_counted 10 = .ok (.ifCond .ge 9, 3) := by decide +kernel
theorem d_M_counted_13 : decode c_M_counted 13 = .ok (.lload_n 1, 1) := by decide +kernel
theorem d_M_counted_14 : decode c_M_counted 14 = .ok (.lconst 1, 1) := by decide +kernel
theorem d_M_counted_15 : decode c_M_counted 15 = .ok (.ladd, 1) := by decide +kernel
theorem d_M_counted_16 : decode c_M_counted 16 = .ok (.goto 4, 3) := by decide +kernel
theorem d_M_counted_19 : decode c_M_counted 19 = .ok (.lload_n 1, 1) := by decide +kernel
theorem d_M_counted_20 : decode c_M_counted 20 = .ok (.lreturn, 1) := by decide +kernel
theorem d_M_date_0 : decode c_M_date 0 = .ok (.aload_n 0, 1) := by decide +kernel
theorem d_M_date_1 : decode c_M_date 1 = .ok (.aload_n 0, 1) := by decide +kernel
theorem d_M_date_2 : decode c_M_date 2 = .ok (.iload_n 1, 1) := by decide +kernel
theorem d_M_date_3 : decode c_M_date 3 = .ok (.invokevirtual 269, 3) := by decide +kernel
theorem d_M_date_6 : decode c_M_date 6 = .ok (.ifCond .eq 12, 3) := by decide +kernel
theorem d_M_date_9 : decode c_M_date 9 = .ok (.iload_n 3, 1) := by decide +kernel
theorem d_M_date_10 : decode c_M_date 10 = .ok (.ifCond .lt 8, 3) := by decide +kernel
theorem d_M_date_13 : decode c_M_date 13 = .ok (.iload_n 3, 1) := by decide +kernel
theorem d_M_date_14 : decode c_M_date 14 = .ok (.iconst 2, 1) := by decide +kernel
theorem d_M_date_15 : decode c_M_date 15 = .ok (.if_icmp .le 7, 3) := by decide +kernel
theorem d_M_date_18 : decode c_M_date 18 = .ok (.iconst 1, 1) := by decide +kernel
theorem d_M_date_19 : decode c_M_date 19 = .ok (.goto 16, 3) := by decide +kernel
theorem d_M_date_22 : decode c_M_date 22 = .ok (.iload_n 2, 1) := by decide +kernel
theorem d_M_date_23 : decode c_M_date 23 = .ok (.i2l, 1) := by decide +kernel
theorem d_M_date_24 : decode c_M_date 24 = .ok (.invokestatic 272, 3) := by decide +kernel
theorem d_M_date_27 : decode c_M_date 27 = .ok (.ifCond .ne 7, 3) := by decide +kernel
theorem d_M_date_30 : decode c_M_date 30 = .ok (.iconst 2, 1) := by decide +kernel
theorem d_M_date_31 : decode c_M_date 31 = .ok (.goto 4, 3) := by decide +kernel
theorem d_M_date_34 : decode c_M_date 34 = .ok (.iconst 0, 1) := by decide +kernel
theorem d_M_date_35 : decode c_M_date 35 = .ok (.putfield 52, 3) := by decide +kernel
theorem d_M_date_38 : decode c_M_date 38 = .ok (.aload_n 0, 1) := by decide +kernel
theorem d_M_date_39 : decode c_M_date 39 = .ok (.getfield 52, 3) := by decide +kernel
theorem d_M_date_42 : decode c_M_date 42 = .ok (.ifCond .le 5, 3) := by decide +kernel
theorem d_M_date_45 : decode c_M_date 45 = .ok (.iconst 0, 1) := by decide +kernel
theorem d_M_date_46 : decode c_M_date 46 = .ok (.ireturn, 1) := by decide +kernel
theorem d_M_date_47 : decode c_M_date 47 = .ok (.aload_n 0, 1) := by decide +kernel
theorem d_M_date_48 : decode c_M_date 48 = .ok (.iload_n 1, 1) := by decide +kernel
theorem d_M_date_49 : decode c_M_date 49 = .ok (.iload_n 2, 1) := by decide +kernel
theorem d_M_date_50 : decode c_M_date 50 = .ok (.i2l, 1) := by decide +kernel
theorem d_M_date_51 : decode c_M_date 51 = .ok (.invokevirtual 243, 3) := by decide +kernel
theorem d_M_date_54 : decode c_M_date 54 = .ok (.iload_n 3, 1) := by decide +kernel
theorem d_M_date_55 : decode c_M_date 55 = .ok (.ifCond .ne 11, 3) := by decide +kernel
theorem d_M_date_58 : decode c_M_date 58 = .ok (.aload_n 0, 1) := by decide +kernel
theorem d_M_date_59 : decode c_M_date 59 = .ok (.getfield 212, 3) := by decide +kernel
theorem d_M_date_62 : decode c_M_date 62 = .ok (.l2i, 1) := by decide +kernel
theorem d_M_date_63 : decode c_M_date 63 = .ok (.goto 19, 3) := by decide +kernel
theorem d_M_date_66 : decode c_M_date 66 = .ok (.iload_n 3, 1) := by decide +kernel
theorem d_M_date_67 : decode c_M_date 67 = .ok (.iconst 1, 1) := by decide +kernel
theorem d_M_date_68 : decode c_M_date 68 = .ok (.if_icmp .ne 10, 3) := by decide +kernel
theorem d_M_date_71 : decode c_M_date 71 = .ok (.aload_n 0, 1) := by decide +kernel
theorem d_M_date_72 : decode c_M_date 72 = .ok (.getfield 217, 3) := by decide +kernel
theorem d_M_date_75 : decode c_M_date 75 = .ok (.goto 7, 3) := by decide +kernel
theorem d_M_date_78 : decode c_M_date 78 = .ok (.aload_n 0, 1) := by decide +kernel
theorem d_M_date_79 : decode c_M_date 79 = .ok (.getfield 222, 3) := by decide +kernel
theorem d_M_date_82 : decode c_M_date 82 = .ok (.ireturn, 1) := by decide +kernel
theorem d_M_dayOf_0 : decode c_M_dayOf 0 = .ok (.ldc2_w 250, 3) := by decide +kernel
theorem d_M_dayOf_3 : decode c_M_dayOf 3 = .ok (.lstore 5, 2) := by decide +kernel
theorem d_M_dayOf_5 : decode c_M_dayOf 5 = .ok (.iload_n 1, 1) := by decide +kernel
theorem d_M_dayOf_6 : decode c_M_dayOf 6 = .ok (.invokestatic 59, 3) := by decide +kernel
theorem d_M_dayOf_9 : decode c_M_dayOf 9 = .ok (.ifCond .eq 7, 3) := by decide +kernel
theorem d_M_dayOf_12 : decode c_M_dayOf 12 = .ok (.iload_n 2, 1) := by decide +kernel
theorem d_M_dayOf_13 : decode c_M_dayOf 13 = .ok (.ifCond .eq 9, 3) := by decide +kernel
theorem d_M_dayOf_16 : decode c_M_dayOf 16 = .ok (.iload 4, 2) := by decide +kernel
theorem d_M_dayOf_18 : decode c_M_dayOf 18 = .ok (.iconst 1, 1) := by decide +kernel
theorem d_M_dayOf_19 : decode c_M_dayOf 19 = .ok (.if_icmp .ge 6, 3) := by decide +kernel
theorem d_M_dayOf_22 : decode c_M_dayOf 22 = .ok (.lload 5, 2) := by decide +kernel
theorem d_M_dayOf_24 : decode c_M_dayOf 24 = .ok (.lreturn, 1) := by decide +kernel
theorem d_M_dayOf_25 : decode c_M_dayOf 25 = .ok (.iload_n 1, 1) := by decide +kernel
theorem d_M_dayOf_26 : decode c_M_dayOf 26 = .ok (.bipush 10, 2) := by decide +kernel
theorem d_M_dayOf_28 : decode c_M_dayOf 28 = .ok (.if_icmp .ne 67, 3) := by decide +kernel
theorem d_M_dayOf_31 : decode c_M_dayOf 31 = .ok (.iload_n 3, 1) := by decide +kernel
theorem d_M_dayOf_32 : decode c_M_dayOf 32 = .ok (.iconst 1, 1) := by decide +kernel
theorem d_M_dayOf_33 : decode c_M_dayOf 33 = .ok (.if_icmp .lt 16, 3) := by decide +kernel
theorem d_M_dayOf_36 : decode c_M_dayOf 36 = .ok (.iload_n 3, 1) := by decide +kernel
theorem d_M_dayOf_37 : decode c_M_dayOf 37 = .ok (.bipush 12, 2) := by decide +kernel
theorem d_M_dayOf_39 : decode c_M_dayOf 39 = .ok (.if_icmp .gt 10, 3) := by decide +kernel
theorem d_M_dayOf_42 : decode c_M_dayOf 42 = .ok (.iload 4, 2) := by decide +kernel
theorem d_M_dayOf_44 : decode c_M_dayOf 44 = .ok (.bipush 32, 2) := by decide +kernel
theorem d_M_dayOf_46 : decode c_M_dayOf 46 = .ok (.if_icmp .le 8, 3) := by decide +kernel
theorem d_M_dayOf_49 : decode c_M_dayOf 49 = .ok (.lload 5, 2) := by decide +kernel
theorem d_M_dayOf_51 : decode c_M_dayOf 51 = .ok (.goto 43, 3) := by decide +kernel
theorem d_M_dayOf_54 : decode c_M_dayOf 54 = .ok (.aload_n 0, 1) := by decide +kernel
theorem d_M_dayOf_55 : decode c_M_dayOf 55 = .ok (.bipush 10, 2) := by decide +kernel
theorem d_M_dayOf_57 : decode c_M_dayOf 57 = .ok (.iload_n 2, 1) := by decide +kernel
theorem d_M_dayOf_58 : decode c_M_dayOf 58 = .ok (.iload_n 3, 1) := by decide +kernel
theorem d_M_dayOf_59 : decode c_M_dayOf 59 = .ok (.iload 4, 2) := by decide +kernel
theorem d_M_dayOf_61 : decode c_M_dayOf 61 = .ok (.ldc2_w 210, 3) := by decide +kernel
theorem d_M_dayOf_64 : decode c_M_dayOf 64 = .ok (.iload_n 2, 1) := by decide +kernel
theorem d_M_dayOf_65 : decode c_M_dayOf 65 = .ok (.i2l, 1) := by decide +kernel
theorem d_M_dayOf_66 : decode c_M_dayOf 66 = .ok (.lmul, 1) := by decide +kernel
theorem d_M_dayOf_67 : decode c_M_dayOf 67 = .ok (.iload_n 3, 1) := by decide +kernel
theorem d_M_dayOf_68 : decode c_M_dayOf 68 = .ok (.i2l, 1) := by decide +kernel
theorem d_M_dayOf_69 : decode c_M_dayOf 69 = .ok (.ladd, 1) := by decide +kernel
theorem d_M_dayOf_70 : decode c_M_dayOf 70 = .ok (.lconst 1, 1) := by decide +kernel
theorem d_M_dayOf_71 : decode c_M_dayOf 71 = .ok (.lsub, 1) := by decide +kernel
theorem d_M_dayOf_72 : decode c_M_dayOf 72 = .ok (.ldc2_w 229, 3) := by decide +kernel
theorem d_M_dayOf_75 : decode c_M_dayOf 75 = .ok (.lmul, 1) := by decide +kernel
theorem d_M_dayOf_76 : decode c_M_dayOf 76 = .ok (.ldc2_w 225, 3) := by decide +kernel
theorem d_M_dayOf_79 : decode c_M_dayOf 79 = .ok (.invokestatic 55, 3) := by decide +kernel
theorem d_M_dayOf_82 : decode c_M_dayOf 82 = .ok (.ldc2_w 202, 3) := by decide +kernel
theorem d_M_dayOf_85 : decode c_M_dayOf 85 = .ok (.lsub, 1) := by decide +kernel
theorem d_M_dayOf_86 : decode c_M_dayOf 86 = .ok (.iload 4, 2) := by decide +kernel
theorem d_M_dayOf_88 : decode c_M_dayOf 88 = .ok (.i2l, 1) := by decide +kernel
theorem d_M_dayOf_89 : decode c_M_dayOf 89 = .ok (.ladd, 1) := by decide +kernel
theorem d_M_dayOf_90 : decode c_M_dayOf 90 = .ok (.iconst 3, 1) := by decide +kernel
theorem d_M_dayOf_91 : decode c_M_dayOf 91 = .ok (.invokevirtual 252, 3) := by decide +kernel
theorem d_M_dayOf_94 : decode c_M_dayOf 94 = .ok (.lreturn, 1) := by decide +kernel
theorem d_M_dayOf_95 : decode c_M_dayOf 95 = .ok (.iload_n 1, 1) := by decide +kernel
theorem d_M_dayOf_96 : decode c_M_dayOf 96 = .ok (.bipush 11, 2) := by decide +kernel
theorem d_M_dayOf_98 : decode c_M_dayOf 98 = .ok (.if_icmp .ne 83, 3) := by decide +kernel
theorem d_M_dayOf_101 : decode c_M_dayOf 101 = .ok (.iload_n 3, 1) := by decide +kernel
theorem d_M_dayOf_102 : decode c_M_dayOf 102 = .ok (.bipush 100, 2) := by decide +kernel
theorem d_M_dayOf_104 : decode c_M_dayOf 104 = .ok (.if_icmp .le 10, 3) := by decide +kernel
theorem d_M_dayOf_107 : decode c_M_dayOf 107 = .ok (.iload_n 3, 1) := by decide +kernel
theorem d_M_dayOf_108 : decode c_M_dayOf 108 = .ok (.bipush 100, 2) := by decide +kernel
theorem d_M_dayOf_110 : decode c_M_dayOf 110 = .ok (.isub, 1) := by decide +kernel
theorem d_M_dayOf_111 : decode c_M_dayOf 111 = .ok (.goto 4, 3) := by decide +kernel
theorem d_M_dayOf_114 : decode c_M_dayOf 114 = .ok (.iload_n 3, 1) := by decide +kernel
theorem d_M_dayOf_115 : decode c_M_dayOf 115 = .ok (.istore 7, 2) := by decide +kernel
theorem d_M_dayOf_117 : decode c_M_dayOf 117 = .ok (.iload 7, 2) := by decide +kernel
theorem d_M_dayOf_119 : decode c_M_dayOf 119 = .ok (.iconst 1, 1) := by decide +kernel
theorem d_M_dayOf_120 : decode c_M_dayOf 120 = .ok (.if_icmp .lt 17, 3) := by decide +kernel
theorem d_M_dayOf_123 : decode c_M_dayOf 123 = .ok (.iload 7, 2) := by decide +kernel
theorem d_M_dayOf_125 : decode c_M_dayOf 125 = .ok (.bipush 12, 2) := by decide +kernel
theorem d_M_dayOf_127 : decode c_M_dayOf 127 = .ok (.if_icmp .gt 10, 3) := by decide +kernel
theorem d_M_dayOf_130 : decode c_M_dayOf 130 = .ok (.iload 4, 2) := by decide +kernel
theorem d_M_dayOf_132 : decode c_M_dayOf 132 = .ok (.bipush 30, 2) := by decide +kernel
theorem d_M_dayOf_134 : decode c_M_dayOf 134 = .ok (.if_icmp .le 8, 3) := by decide +kernel
theorem d_M_dayOf_137 : decode c_M_dayOf 137 = .ok (.lload 5, 2) := by decide +kernel
theorem d_M_dayOf_139 : decode c_M_dayOf 139 = .ok (.goto 41, 3) := by decide +kernel
theorem d_M_dayOf_142 : decode c_M_dayOf 142 = .ok (.aload_n 0, 1) := by decide +kernel
theorem d_M_dayOf_143 : decode c_M_dayOf 143 = .ok (.bipush 11, 2) := by decide +kernel
theorem d_M_dayOf_145 : decode c_M_dayOf 145 = .ok (.iload_n 2, 1) := by decide +kernel
theorem d_M_dayOf_146 : decode c_M_dayOf 146 = .ok (.iload_n 3, 1) := by decide +kernel
theorem d_M_dayOf_147 : decode c_M_dayOf 147 = .ok (.iload 4, 2) := by decide +kernel
theorem d_M_dayOf_149 : decode c_M_dayOf 149 = .ok (.ldc2_w 210, 3) := by decide +kernel
theorem d_M_dayOf_152 : decode c_M_dayOf 152 = .ok (.iload_n 2, 1) := by decide +kernel
theorem d_M_dayOf_153 : decode c_M_dayOf 153 = .ok (.i2l, 1) := by decide +kernel
theorem d_M_dayOf_154 : decode c_M_dayOf 154 = .ok (.lmul, 1) := by decide +kernel
theorem d_M_dayOf_155 : decode c_M_dayOf 155 = .ok (.iload 7, 2) := by decide +kernel
theorem d_M_dayOf_157 : decode c_M_dayOf 157 = .ok (.i2l, 1) := by decide +kernel
theorem d_M_dayOf_158 : decode c_M_dayOf 158 = .ok (.ladd, 1) := by decide +kernel
theorem d_M_dayOf_159 : decode c_M_dayOf 159 = .ok (.lconst 1, 1) := by decide +kernel
theorem d_M_dayOf_160 : decode c_M_dayOf 160 = .ok (.lsub, 1) := by decide +kernel
theorem d_M_dayOf_161 : decode c_M_dayOf 161 = .ok (.ldc2_w 229, 3) := by decide +kernel
theorem d_M_dayOf_164 : decode c_M_dayOf 164 = .ok (.lmul, 1) := by decide +kernel
theorem d_M_dayOf_165 : decode c_M_dayOf 165 = .ok (.ldc2_w 225, 3) := by decide +kernel
theorem d_M_dayOf_168 : decode c_M_dayOf 168 = .ok (.invokestatic 55, 3) := by decide +kernel
theorem d_M_dayOf_171 : decode c_M_dayOf 171 = .ok (.ldc2_w 202, 3) := by decide +kernel
theorem d_M_dayOf_174 : decode c_M_dayOf 174 = .ok (.lsub, 1) := by decide +kernel
theorem d_M_dayOf_175 : decode c_M_dayOf 175 = .ok (.bipush 70, 2) := by decide +kernel
theorem d_M_dayOf_177 : decode c_M_dayOf 177 = .ok (.invokevirtual 252, 3) := by decide +kernel
theorem d_M_dayOf_180 : decode c_M_dayOf 180 = .ok (.lreturn, 1) := by decide +kernel
theorem d_M_dayOf_181 : decode c_M_dayOf 181 = .ok (.iload_n 1, 1) := by decide +kernel
theorem d_M_dayOf_182 : decode c_M_dayOf 182 = .ok (.iload_n 2, 1) := by decide +kernel
theorem d_M_dayOf_183 : decode c_M_dayOf 183 = .ok (.i2l, 1) := by decide +kernel
theorem d_M_dayOf_184 : decode c_M_dayOf 184 = .ok (.invokestatic 256, 3) := by decide +kernel
theorem d_M_dayOf_187 : decode c_M_dayOf 187 = .ok (.lstore 7, 2) := by decide +kernel
theorem d_M_dayOf_189 : decode c_M_dayOf 189 = .ok (.iload_n 1, 1) := by decide +kernel
theorem d_M_dayOf_190 : decode c_M_dayOf 190 = .ok (.iconst 2, 1) := by decide +kernel
theorem d_M_dayOf_191 : decode c_M_dayOf 191 = .ok (.if_icmp .ne 62, 3) := by decide +kernel
theorem d_M_dayOf_194 : decode c_M_dayOf 194 = .ok (.aload_n 0, 1) := by decide +kernel
theorem d_M_dayOf_195 : decode c_M_dayOf 195 = .ok (.iconst 2, 1) := by decide +kernel
theorem d_M_dayOf_196 : decode c_M_dayOf 196 = .ok (.lload 7, 2) := by decide +kernel
theorem d_M_dayOf_198 : decode c_M_dayOf 198 = .ok (.invokevirtual 191, 3) := by decide +kernel
theorem d_M_dayOf_201 : decode c_M_dayOf 201 = .ok (.ldc2_w 98, 3) := by decide +kernel
theorem d_M_dayOf_204 : decode c_M_dayOf 204 = .ok (.iload_n 3, 1) := by decide +kernel
theorem d_M_dayOf_205 : decode c_M_dayOf 205 = .ok (.i2l, 1) := by decide +kernel
theorem d_M_dayOf_206 : decode c_M_dayOf 206 = .ok (.lconst 1, 1) := by decide +kernel
theorem d_M_dayOf_207 : decode c_M_dayOf 207 = .ok (.lsub, 1) := by decide +kernel
theorem d_M_dayOf_208 : decode c_M_dayOf 208 = .ok (.lmul, 1) := by decide +kernel
theorem d_M_dayOf_209 : decode c_M_dayOf 209 = .ok (.ladd, 1) := by decide +kernel
theorem d_M_dayOf_210 : decode c_M_dayOf 210 = .ok (.iload 4, 2) := by decide +kernel
theorem d_M_dayOf_212 : decode c_M_dayOf 212 = .ok (.i2l, 1) := by decide +kernel
theorem d_M_dayOf_213 : decode c_M_dayOf 213 = .ok (.ladd, 1) := by decide +kernel
theorem d_M_dayOf_214 : decode c_M_dayOf 214 = .ok (.lconst 1, 1) := by decide +kernel
theorem d_M_dayOf_215 : decode c_M_dayOf 215 = .ok (.lsub, 1) := by decide +kernel
theorem d_M_dayOf_216 : decode c_M_dayOf 216 = .ok (.lstore 9, 2) := by decide +kernel
theorem d_M_dayOf_218 : decode c_M_dayOf 218 = .ok (.iload_n 3, 1) := by decide +kernel
theorem d_M_dayOf_219 : decode c_M_dayOf 219 = .ok (.iconst 1, 1) := by decide +kernel
theorem d_M_dayOf_220 : decode c_M_dayOf 220 = .ok (.if_icmp .lt 25, 3) := by decide +kernel
theorem d_M_dayOf_223 : decode c_M_dayOf 223 = .ok (.iload 4, 2) := by decide +kernel
theorem d_M_dayOf_225 : decode c_M_dayOf 225 = .ok (.bipush 7, 2) := by decide +kernel
theorem d_M_dayOf_227 : decode c_M_dayOf 227 = .ok (.if_icmp .gt 18, 3) := by decide +kernel
theorem d_M_dayOf_230 : decode c_M_dayOf 230 = .ok (.lload 9, 2) := by decide +kernel
theorem d_M_dayOf_232 : decode c_M_dayOf 232 = .ok (.aload_n 0, 1) := by decide +kernel
theorem d_M_dayOf_233 : decode c_M_dayOf 233 = .ok (.iconst 2, 1) := by decide +kernel
theorem d_M_dayOf_234 : decode c_M_dayOf 234 = .ok (.lload 7, 2) := by decide +kernel
theorem d_M_dayOf_236 : decode c_M_dayOf 236 = .ok (.lconst 1, 1) := by decide +kernel
theorem d_M_dayOf_237 : decode c_M_dayOf 237 = .ok (.ladd, 1) := by decide +kernel
theorem d_M_dayOf_238 : decode c_M_dayOf 238 = .ok (.invokevirtual 191, 3) := by decide +kernel
theorem d_M_dayOf_241 : decode c_M_dayOf 241 = .ok (.lcmp, 1) := by decide +kernel
theorem d_M_dayOf_242 : decode c_M_dayOf 242 = .ok (.ifCond .lt 8, 3) := by decide +kernel
theorem d_M_dayOf_245 : decode c_M_dayOf 245 = .ok (.lload 5, 2) := by decide +kernel
theorem d_M_dayOf_247 : decode c_M_dayOf 247 = .ok (.goto 5, 3) := by decide +kernel
theorem d_M_dayOf_250 : decode c_M_dayOf 250 = .ok (.lload 9, 2) := by decide +kernel
theorem d_M_dayOf_252 : decode c_M_dayOf 252 = .ok (.lreturn, 1) := by decide +kernel
theorem d_M_dayOf_253 : decode c_M_dayOf 253 = .ok (.aload_n 0, 1) := by decide +kernel
theorem d_M_dayOf_254 : decode c_M_dayOf 254 = .ok (.iload_n 1, 1) := by decide +kernel
theorem d_M_dayOf_255 : decode c_M_dayOf 255 = .ok (.lload 7, 2) := by decide +kernel
theorem d_M_dayOf_257 : decode c_M_dayOf 257 = .ok (.iload_n 3, 1) := by decide +kernel
theorem d_M_dayOf_258 : decode c_M_dayOf 258 = .ok (.invokevirtual 259, 3) := by decide +kernel
theorem d_M_dayOf_261 : decode c_M_dayOf 261 = .ok (.lstore 9, 2) := by decide +kernel
theorem d_M_dayOf_263 : decode c_M_dayOf 263 = .ok (.lload 9, 2) := by decide +kernel
theorem d_M_dayOf_265 : decode c_M_dayOf 265 = .ok (.lconst 0, 1) := by decide +kernel
theorem d_M_dayOf_266 : decode c_M_dayOf 266 = .ok (.lcmp, 1) := by decide +kernel
theorem d_M_dayOf_267 : decode c_M_dayOf 267 = .ok (.ifCond .lt 16, 3) := by decide +kernel
theorem d_M_dayOf_270 : decode c_M_dayOf 270 = .ok (.iload 4, 2) := by decide +kernel
theorem d_M_dayOf_272 : decode c_M_dayOf 272 = .ok (.aload_n 0, 1) := by decide +kernel
theorem d_M_dayOf_273 : decode c_M_dayOf 273 = .ok (.iload_n 1, 1) := by decide +kernel
theorem d_M_dayOf_274 : decode c_M_dayOf 274 = .ok (.lload 7, 2) := by decide +kernel
theorem d_M_dayOf_276 : decode c_M_dayOf 276 = .ok (.iload_n 3, 1) := by decide +kernel
theorem d_M_dayOf_277 : decode c_M_dayOf 277 = .ok (.invokevirtual 123, 3) := by decide +kernel
theorem d_M_dayOf_280 : decode c_M_dayOf 280 = .ok (.if_icmp .le 8, 3) := by decide +kernel
theorem d_M_dayOf_283 : decode c_M_dayOf 283 = .ok (.lload 5, 2) := by decide +kernel
theorem d_M_dayOf_285 : decode c_M_dayOf 285 = .ok (.goto 19, 3) := by decide +kernel
theorem d_M_dayOf_288 : decode c_M_dayOf 288 = .ok (.aload_n 0, 1) := by decide +kernel
theorem d_M_dayOf_289 : decode c_M_dayOf 289 = .ok (.iload_n 1, 1) := by decide +kernel
theorem d_M_dayOf_290 : decode c_M_dayOf 290 = .ok (.lload 7, 2) := by decide +kernel
theorem d_M_dayOf_292 : decode c_M_dayOf 292 = .ok (.invokevirtual 191, 3) := by decide +kernel
theorem d_M_dayOf_295 : decode c_M_dayOf 295 = .ok (.lload 9, 2) := by decide +kernel
theorem d_M_dayOf_297 : decode c_M_dayOf 297 = .ok (.ladd, 1) := by decide +kernel
theorem d_M_dayOf_298 : decode c_M_dayOf 298 = .ok (.iload 4, 2) := by decide +kernel
theorem d_M_dayOf_300 : decode c_M_dayOf 300 = .ok (.i2l, 1) := by decide +kernel
theorem d_M_dayOf_301 : decode c_M_dayOf 301 = .ok (.ladd, 1) := by decide +kernel
theorem d_M_dayOf_302 : decode c_M_dayOf 302 = .ok (.lconst 1, 1) := by decide +kernel
theorem d_M_dayOf_303 : decode c_M_dayOf 303 = .ok (.lsub, 1) := by decide +kernel
theorem d_M_dayOf_304 : decode c_M_dayOf 304 = .ok (.lreturn, 1) := by decide +kernel
theorem d_M_div_0 : decode c_M_div 0 = .ok (.lload_n 0, 1) := by decide +kernel
theorem d_M_div_1 : decode c_M_div 1 = .ok (.lload_n 2, 1) := by decide +kernel
theorem d_M_div_2 : decode c_M_div 2 = .ok (.ldiv, 1) := by decide +kernel
theorem d_M_div_3 : decode c_M_div 3 = .ok (.lstore 4, 2) := by decide +kernel
theorem d_M_div_5 : decode c_M_div 5 = .ok (.lload 4, 2) := by decide +kernel
theorem d_M_div_7 : decode c_M_div 7 = .ok (.lload_n 2, 1) := by decide +kernel
theorem d_M_div_8 : decode c_M_div 8 = .ok (.lmul, 1) := by decide +kernel
theorem d_M_div_9 : decode c_M_div 9 = .ok (.lload_n 0, 1) := by decide +kernel
theorem d_M_div_10 : decode c_M_div 10 = .ok (.lcmp, 1) := by decide +kernel
theorem d_M_div_11 : decode c_M_div 11 = .ok (.ifCond .le 10, 3) := by decide +kernel
theorem d_M_div_14 : decode c_M_div 14 = .ok (.lload 4, 2) := by decide +kernel
theorem d_M_div_16 : decode c_M_div 16 = .ok (.lconst 1, 1) := by decide +kernel
theorem d_M_div_17 : decode c_M_div 17 = .ok (.lsub, 1) := by decide +kernel
theorem d_M_div_18 : decode c_M_div 18 = .ok (.goto 5, 3) := by decide +kernel
theorem d_M_div_21 : decode c_M_div 21 = .ok (.lload 4, 2) := by decide +kernel
theorem d_M_div_23 : decode c_M_div 23 = .ok (.lreturn, 1) := by decide +kernel
theorem d_M_epoch_0 : decode c_M_epoch 0 = .ok (.iload_n 1, 1) := by decide +kernel
theorem d_M_epoch_1 : decode c_M_epoch 1 = .ok (.tableswitch 74 0 8 #[51, 53, 74, 55, 58, 62, 65, 68, 71], 51) := by decide +kernel
theorem d_M_epoch_52 : decode c_M_epoch 52 = .ok (.iconst 1, 1) := by decide +kernel
theorem d_M_epoch_53 : decode c_M_epoch 53 = .ok (.ireturn, 1) := by decide +kernel
theorem d_M_epoch_54 : decode c_M_epoch 54 = .ok (.iconst (-1), 1) := by decide +kernel
theorem d_M_epoch_55 : decode c_M_epoch 55 = .ok (.ireturn, 1) := by decide +kernel
theorem d_M_epoch_56 : decode c_M_epoch 56 = .ok (.ldc 114, 2) := by decide +kernel
theorem d_M_epoch_58 : decode c_M_epoch 58 = .ok (.ireturn, 1) := by decide +kernel
theorem d_M_epoch_59 : decode c_M_epoch 59 = .ok (.sipush 2796, 3) := by decide +kernel
theorem d_M_epoch_62 : decode c_M_epoch 62 = .ok (.ireturn, 1) := by decide +kernel
theorem d_M_epoch_63 : decode c_M_epoch 63 = .ok (.ldc 115, 2) := by decide +kernel
theorem d_M_epoch_65 : decode c_M_epoch 65 = .ok (.ireturn, 1) := by decide +kernel
theorem d_M_epoch_66 : decode c_M_epoch 66 = .ok (.ldc 116, 2) := by decide +kernel
theorem d_M_epoch_68 : decode c_M_epoch 68 = .ok (.ireturn, 1) := by decide +kernel
theorem d_M_epoch_69 : decode c_M_epoch 69 = .ok (.ldc 117, 2) := by decide +kernel
theorem d_M_epoch_71 : decode c_M_epoch 71 = .ok (.ireturn, 1) := by decide +kernel
theorem d_M_epoch_72 : decode c_M_epoch 72 = .ok (.ldc 118, 2) := by decide +kernel
theorem d_M_epoch_74 : decode c_M_epoch 74 = .ok (.ireturn, 1) := by decide +kernel
theorem d_M_epoch_75 : decode c_M_epoch 75 = .ok (.aload_n 0, 1) := by decide +kernel
theorem d_M_epoch_76 : decode c_M_epoch 76 = .ok (.getfield 27, 3) := by decide +kernel
theorem d_M_epoch_79 : decode c_M_epoch 79 = .ok (.iload_n 1, 1) := by decide +kernel
theorem d_M_epoch_80 : decode c_M_epoch 80 = .ok (.bipush 12, 2) := by decide +kernel
theorem d_M_epoch_82 : decode c_M_epoch 82 = .ok (.isub, 1) := by decide +kernel
theorem d_M_epoch_83 : decode c_M_epoch 83 = .ok (.iaload, 1) := by decide +kernel
theorem d_M_epoch_84 : decode c_M_epoch 84 = .ok (.ireturn, 1) := by decide +kernel
theorem d_M_feast_0 : decode c_M_feast 0 = .ok (.aload_n 0, 1) := by decide +kernel
theorem d_M_feast_1 : decode c_M_feast 1 = .ok (.iload_n 1, 1) := by decide +kernel
theorem d_M_feast_2 : decode c_M_feast 2 = .ok (.ifCond .lt 8, 3) := by decide +kernel
theorem d_M_feast_5 : decode c_M_feast 5 = .ok (.iload_n 1, 1) := by decide +kernel
theorem d_M_feast_6 : decode c_M_feast 6 = .ok (.iconst 2, 1) := by decide +kernel
theorem d_M_feast_7 : decode c_M_feast 7 = .ok (.if_icmp .le 7, 3) := by decide +kernel
theorem d_M_feast_10 : decode c_M_feast 10 = .ok (.iconst 1, 1) := by decide +kernel
theorem d_M_feast_11 : decode c_M_feast 11 = .ok (.goto 22, 3) := by decide +kernel
theorem d_M_feast_14 : decode c_M_feast 14 = .ok (.iload_n 2, 1) := by decide +kernel
theorem d_M_feast_15 : decode c_M_feast 15 = .ok (.ldc_w 292, 3) := by decide +kernel
theorem d_M_feast_18 : decode c_M_feast 18 = .ok (.if_icmp .lt 10, 3) := by decide +kernel
theorem d_M_feast_21 : decode c_M_feast 21 = .ok (.iload_n 2, 1) := by decide +kernel
theorem d_M_feast_22 : decode c_M_feast 22 = .ok (.ldc_w 293, 3) := by decide +kernel
theorem d_M_feast_25 : decode c_M_feast 25 = .ok (.if_icmp .le 7, 3) := by decide +kernel
theorem d_M_feast_28 : decode c_M_feast 28 = .ok (.iconst 2, 1) := by decide +kernel
theorem d_M_feast_29 : decode c_M_feast 29 = .ok (.goto 4, 3) := by decide +kernel
theorem d_M_feast_32 : decode c_M_feast 32 = .ok (.iconst 0, 1) := by decide +kernel
theorem d_M_feast_33 : decode c_M_feast 33 = .ok (.putfield 52, 3) := by decide +kernel
theorem d_M_feast_36 : decode c_M_feast 36 = .ok (.aload_n 0, 1) := by decide +kernel
theorem d_M_feast_37 : decode c_M_feast 37 = .ok (.getfield 52, 3) := by decide +kernel
theorem d_M_feast_40 : decode c_M_feast 40 = .ok (.ifCond .le 5, 3) := by decide +kernel
theorem d_M_feast_43 : decode c_M_feast 43 = .ok (.iconst 0, 1) := by decide +kernel
theorem d_M_feast_44 : decode c_M_feast 44 = .ok (.ireturn, 1) := by decide +kernel
theorem d_M_feast_45 : decode c_M_feast 45 = .ok (.iload_n 2, 1) := by decide +kernel
theorem d_M_feast_46 : decode c_M_feast 46 = .ok (.i2l, 1) := by decide +kernel
theorem d_M_feast_47 : decode c_M_feast 47 = .ok (.ldc2_w 100, 3) := by decide +kernel
theorem d_M_feast_50 : decode c_M_feast 50 = .ok (.invokestatic 65, 3) := by decide +kernel
theorem d_M_feast_53 : decode c_M_feast 53 = .ok (.lstore_n 3, 1) := by decide +kernel
theorem d_M_feast_54 : decode c_M_feast 54 = .ok (.iload_n 1, 1) := by decide +kernel
theorem d_M_feast_55 : decode c_M_feast 55 = .ok (.iconst 2, 1) := by decide +kernel
theorem d_M_feast_56 : decode c_M_feast 56 = .ok (.if_icmp .ne 19, 3) := by decide +kernel
theorem d_M_feast_59 : decode c_M_feast 59 = .ok (.aload_n 0, 1) := by decide +kernel
theorem d_M_feast_60 : decode c_M_feast 60 = .ok (.bipush 9, 2) := by decide +kernel
theorem d_M_feast_62 : decode c_M_feast 62 = .ok (.iload_n 2, 1) := by decide +kernel
theorem d_M_feast_63 : decode c_M_feast 63 = .ok (.sipush 3760, 3) := by decide +kernel
theorem d_M_feast_66 : decode c_M_feast 66 = .ok (.iadd, 1) := by decide +kernel
theorem d_M_feast_67 : decode c_M_feast 67 = .ok (.iconst 1, 1) := by decide +kernel
theorem d_M_feast_68 : decode c_M_feast 68 = .ok (.bipush 15, 2) := by decide +kernel
theorem d_M_feast_70 : decode c_M_feast 70 = .ok (.invokevirtual 280, 3) := by decide +kernel
theorem d_M_feast_73 : decode c_M_feast 73 = .ok (.l2i, 1) := by decide +kernel
theorem d_M_feast_74 : decode c_M_feast 74 = .ok (.ireturn, 1) := by decide +kernel
theorem d_M_feast_75 : decode c_M_feast 75 = .ok (.iload_n 1, 1) := by decide +kernel
theorem d_M_feast_76 : decode c_M_feast 76 = .ok (.iconst 1, 1) := by decide +kernel
theorem d_M_feast_77 : decode c_M_feast 77 = .ok (.if_icmp .ne 43, 3) := by decide +kernel
theorem d_M_feast_80 : decode c_M_feast 80 = .ok (.aload_n 0, 1) := by decide +kernel
theorem d_M_feast_81 : decode c_M_feast 81 = .ok (.iconst 1, 1) := by decide +kernel
theorem d_M_feast_82 : decode c_M_feast 82 = .ok (.iload_n 2, 1) := by decide +kernel
theorem d_M_feast_83 : decode c_M_feast 83 = .ok (.ifCond .le 7, 3) := by decide +kernel
theorem d_M_feast_86 : decode c_M_feast 86 = .ok (.iload_n 2, 1) := by decide +kernel
theorem d_M_feast_87 : decode c_M_feast 87 = .ok (.goto 6, 3) := by decide +kernel
theorem d_M_feast_90 : decode c_M_feast 90 = .ok (.iload_n 2, 1) := by decide +kernel
theorem d_M_feast_91 : decode c_M_feast 91 = .ok (.iconst 1, 1) := by decide +kernel
theorem d_M_feast_92 : decode c_M_feast 92 = .ok (.isub, 1) := by decide +kernel
theorem d_M_feast_93 : decode c_M_feast 93 = .ok (.iconst 4, 1) := by decide +kernel
theorem d_M_feast_94 : decode c_M_feast 94 = .ok (.bipush 19, 2) := by decide +kernel
theorem d_M_feast_96 : decode c_M_feast 96 = .ok (.invokevirtual 280, 3) := by decide +kernel
theorem d_M_feast_99 : decode c_M_feast 99 = .ok (.ldc2_w 80, 3) := by decide +kernel
theorem d_M_feast_102 : decode c_M_feast 102 = .ok (.ldc2_w 78, 3) := by decide +kernel
theorem d_M_feast_105 : decode c_M_feast 105 = .ok (.lload_n 3, 1) := by decide +kernel
theorem d_M_feast_106 : decode c_M_feast 106 = .ok (.lmul, 1) := by decide +kernel
theorem d_M_feast_107 : decode c_M_feast 107 = .ok (.ladd, 1) := by decide +kernel
theorem d_M_feast_108 : decode c_M_feast 108 = .ok (.ldc2_w 82, 3) := by decide +kernel
theorem d_M_feast_111 : decode c_M_feast 111 = .ok (.invokestatic 65, 3) := by decide +kernel
theorem d_M_feast_114 : decode c_M_feast 114 = .ok (.lsub, 1) := by decide +kernel
theorem d_M_feast_115 : decode c_M_feast 115 = .ok (.invokestatic 294, 3) := by decide +kernel
theorem d_M_feast_118 : decode c_M_feast 118 = .ok (.l2i, 1) := by decide +kernel
theorem d_M_feast_119 : decode c_M_feast 119 = .ok (.ireturn, 1) := by decide +kernel
theorem d_M_feast_120 : decode c_M_feast 120 = .ok (.iload_n 2, 1) := by decide +kernel
theorem d_M_feast_121 : decode c_M_feast 121 = .ok (.i2l, 1) := by decide +kernel
theorem d_M_feast_122 : decode c_M_feast 122 = .ok (.ldc2_w 68, 3) := by decide +kernel
theorem d_M_feast_125 : decode c_M_feast 125 = .ok (.invokestatic 55, 3) := by decide +kernel
theorem d_M_feast_128 : decode c_M_feast 128 = .ok (.lconst 1, 1) := by decide +kernel
theorem d_M_feast_129 : decode c_M_feast 129 = .ok (.ladd, 1) := by decide +kernel
theorem d_M_feast_130 : decode c_M_feast 130 = .ok (.lstore 5, 2) := by decide +kernel
theorem d_M_feast_132 : decode c_M_feast 132 = .ok (.ldc2_w 80, 3) := by decide +kernel
theorem d_M_feast_135 : decode c_M_feast 135 = .ok (.ldc2_w 78, 3) := by decide +kernel
theorem d_M_feast_138 : decode c_M_feast 138 = .ok (.lload_n 3, 1) := by decide +kernel
theorem d_M_feast_139 : decode c_M_feast 139 = .ok (.lmul, 1) := by decide +kernel
theorem d_M_feast_140 : decode c_M_feast 140 = .ok (.ladd, 1) := by decide +kernel
theorem d_M_feast_141 : decode c_M_feast 141 = .ok (.ldc2_w 76, 3) := by decide +kernel
theorem d_M_feast_144 : decode c_M_feast 144 = .ok (.lload 5, 2) := by decide +kernel
theorem d_M_feast_146 : decode c_M_feast 146 = .ok (.lmul, 1) := by decide +kernel
theorem d_M_feast_147 : decode c_M_feast 147 = .ok (.ldc2_w 63, 3) := by decide +kernel
theorem d_M_feast_150 : decode c_M_feast 150 = .ok (.invokestatic 55, 3) := by decide +kernel
theorem d_M_feast_153 : decode c_M_feast 153 = .ok (.lsub, 1) := by decide +kernel
theorem d_M_feast_154 : decode c_M_feast 154 = .ok (.ldc2_w 297, 3) := by decide +kernel
theorem d_M_feast_157 : decode c_M_feast 157 = .ok (.ldc2_w 299, 3) := by decide +kernel
theorem d_M_feast_160 : decode c_M_feast 160 = .ok (.lload 5, 2) := by decide +kernel
theorem d_M_feast_162 : decode c_M_feast 162 = .ok (.lmul, 1) := by decide +kernel
theorem d_M_feast_163 : decode c_M_feast 163 = .ok (.ladd, 1) := by decide +kernel
theorem d_M_feast_164 : decode c_M_feast 164 = .ok (.ldc2_w 301, 3) := by decide +kernel
theorem d_M_feast_167 : decode c_M_feast 167 = .ok (.invokestatic 55, 3) := by decide +kernel
theorem d_M_feast_170 : decode c_M_feast 170 = .ok (.ladd, 1) := by decide +kernel
theorem d_M_feast_171 : decode c_M_feast 171 = .ok (.ldc2_w 82, 3) := by decide +kernel
theorem d_M_feast_174 : decode c_M_feast 174 = .ok (.invokestatic 65, 3) := by decide +kernel
theorem d_M_feast_177 : decode c_M_feast 177 = .ok (.lstore 7, 2) := by decide +kernel
theorem d_M_feast_179 : decode c_M_feast 179 = .ok (.lload 7, 2) := by decide +kernel
theorem d_M_feast_181 : decode c_M_feast 181 = .ok (.lconst 0, 1) := by decide +kernel
theorem d_M_feast_182 : decode c_M_feast 182 = .ok (.lcmp, 1) := by decide +kernel
theorem d_M_feast_183 : decode c_M_feast 183 = .ok (.ifCond .eq 18, 3) := by decide +kernel
theorem d_M_feast_186 : decode c_M_feast 186 = .ok (.lload 7, 2) := by decide +kernel
theorem d_M_feast_188 : decode c_M_feast 188 = .ok (.lconst 1, 1) := by decide +kernel
theorem d_M_feast_189 : decode c_M_feast 189 = .ok (.lcmp, 1) := by decide +kernel
theorem d_M_feast_190 : decode c_M_feast 190 = .ok (.ifCond .ne 18, 3) := by decide +kernel
theorem d_M_feast_193 : decode c_M_feast 193 = .ok (.lload_n 3, 1) := by decide +kernel
theorem d_M_feast_194 : decode c_M_feast 194 = .ok (.ldc2_w 303, 3) := by decide +kernel
theorem d_M_feast_197 : decode c_M_feast 197 = .ok (.lcmp, 1) := by decide +kernel
theorem d_M_feast_198 : decode c_M_feast 198 = .ok (.ifCond .le 10, 3) := by decide +kernel
theorem d_M_feast_201 : decode c_M_feast 201 = .ok (.lload 7, 2) := by decide +kernel
theorem d_M_feast_203 : decode c_M_feast 203 = .ok (.lconst 1, 1) := by decide +kernel
theorem d_M_feast_204 : decode c_M_feast 204 = .ok (.ladd, 1) := by decide +kernel
theorem d_M_feast_205 : decode c_M_feast 205 = .ok (.goto 5, 3) := by decide +kernel
theorem d_M_feast_208 : decode c_M_feast 208 = .ok (.lload 7, 2) := by decide +kernel
theorem d_M_feast_210 : decode c_M_feast 210 = .ok (.lstore 7, 2) := by decide +kernel
theorem d_M_feast_212 : decode c_M_feast 212 = .ok (.aload_n 0, 1) := by decide +kernel
theorem d_M_feast_213 : decode c_M_feast 213 = .ok (.iconst 0, 1) := by decide +kernel
theorem d_M_feast_214 : decode c_M_feast 214 = .ok (.iload_n 2, 1) := by decide +kernel
theorem d_M_feast_215 : decode c_M_feast 215 = .ok (.iconst 4, 1) := by decide +kernel
theorem d_M_feast_216 : decode c_M_feast 216 = .ok (.bipush 19, 2) := by decide +kernel
theorem d_M_feast_218 : decode c_M_feast 218 = .ok (.invokevirtual 280, 3) := by decide +kernel
theorem d_M_feast_221 : decode c_M_feast 221 = .ok (.lload 7, 2) := by decide +kernel
theorem d_M_feast_223 : decode c_M_feast 223 = .ok (.lsub, 1) := by decide +kernel
theorem d_M_feast_224 : decode c_M_feast 224 = .ok (.invokestatic 294, 3) := by decide +kernel
theorem d_M_feast_227 : decode c_M_feast 227 = .ok (.l2i, 1) := by decide +kernel
theorem d_M_feast_228 : decode c_M_feast 228 = .ok (.ireturn, 1) := by decide +kernel
theorem d_M_findDate_0 : decode c_M_findDate 0 = .ok (.iload_n 1, 1) := by decide +kernel
theorem d_M_findDate_1 : decode c_M_findDate 1 = .ok (.bipush 10, 2) := by decide +kernel
theorem d_M_findDate_3 : decode c_M_findDate 3 = .ok (.if_icmp .ne 77, 3) := by decide +kernel
theorem d_M_findDate_6 : decode c_M_findDate 6 = .ok (.ldc2_w 225, 3) := by decide +kernel
theorem d_M_findDate_9 : decode c_M_findDate 9 = .ok (.lload_n 2, 1) := by decide +kernel
theorem d_M_findDate_10 : decode c_M_findDate 10 = .ok (.ldc2_w 202, 3) := by decide +kernel
theorem d_M_findDate_13 : decode c_M_findDate 13 = .ok (.ladd, 1) := by decide +kernel
theorem d_M_findDate_14 : decode c_M_findDate 14 = .ok (.lmul, 1) := by decide +kernel
theorem d_M_findDate_15 : decode c_M_findDate 15 = .ok (.ldc2_w 227, 3) := by decide +kernel
theorem d_M_findDate_18 : decode c_M_findDate 18 = .ok (.ladd, 1) := by decide +kernel
theorem d_M_findDate_19 : decode c_M_findDate 19 = .ok (.lstore 4, 2) := by decide +kernel
theorem d_M_findDate_21 : decode c_M_findDate 21 = .ok (.lload 4, 2) := by decide +kernel
theorem d_M_findDate_23 : decode c_M_findDate 23 = .ok (.ldc2_w 229, 3) := by decide +kernel
theorem d_M_findDate_26 : decode c_M_findDate 26 = .ok (.invokestatic 55, 3) := by decide +kernel
theorem d_M_findDate_29 : decode c_M_findDate 29 = .ok (.lstore 6, 2) := by decide +kernel
theorem d_M_findDate_31 : decode c_M_findDate 31 = .ok (.aload_n 0, 1) := by decide +kernel
theorem d_M_findDate_32 : decode c_M_findDate 32 = .ok (.lload 6, 2) := by decide +kernel
theorem d_M_findDate_34 : decode c_M_findDate 34 = .ok (.ldc2_w 210, 3) := by decide +kernel
theorem d_M_findDate_37 : decode c_M_findDate 37 = .ok (.invokestatic 55, 3) := by decide +kernel
theorem d_M_findDate_40 : decode c_M_findDate 40 = .ok (.putfield 212, 3) := by decide +kernel
theorem d_M_findDate_43 : decode c_M_findDate 43 = .ok (.aload_n 0, 1) := by decide +kernel
theorem d_M_findDate_44 : decode c_M_findDate 44 = .ok (.lload 6, 2) := by decide +kernel
theorem d_M_findDate_46 : decode c_M_findDate 46 = .ok (.ldc2_w 210, 3) := by decide +kernel
theorem d_M_findDate_49 : decode c_M_findDate 49 = .ok (.invokestatic 65, 3) := by decide +kernel
theorem d_M_findDate_52 : decode c_M_findDate 52 = .ok (.l2i, 1) := by decide +kernel
theorem d_M_findDate_53 : decode c_M_findDate 53 = .ok (.iconst 1, 1) := by decide +kernel
theorem d_M_findDate_54 : decode c_M_findDate 54 = .ok (.iadd, 1) := by decide +kernel
theorem d_M_findDate_55 : decode c_M_findDate 55 = .ok (.putfield 217, 3) := by decide +kernel
theorem d_M_findDate_58 : decode c_M_findDate 58 = .ok (.aload_n 0, 1) := by decide +kernel
theorem d_M_findDate_59 : decode c_M_findDate 59 = .ok (.lload 4, 2) := by decide +kernel
theorem d_M_findDate_61 : decode c_M_findDate 61 = .ok (.ldc2_w 229, 3) := by decide +kernel
theorem d_M_findDate_64 : decode c_M_findDate 64 = .ok (.invokestatic 65, 3) := by decide +kernel
theorem d_M_findDate_67 : decode c_M_findDate 67 = .ok (.ldc2_w 225, 3) := by decide +kernel
theorem d_M_findDate_70 : decode c_M_findDate 70 = .ok (.invokestatic 55, 3) := by decide +kernel
theorem d_M_findDate_73 : decode c_M_findDate 73 = .ok (.l2i, 1) := by decide +kernel
theorem d_M_findDate_74 : decode c_M_findDate 74 = .ok (.iconst 1, 1) := by decide +kernel
theorem d_M_findDate_75 : decode c_M_findDate 75 = .ok (.iadd, 1) := by decide +kernel
theorem d_M_findDate_76 : decode c_M_findDate 76 = .ok (.putfield 222, 3) := by decide +kernel
theorem d_M_findDate_79 : decode c_M_findDate 79 = .ok (.return_, 1) := by decide +kernel
theorem d_M_findDate_80 : decode c_M_findDate 80 = .ok (.iload_n 1, 1) := by decide +kernel
theorem d_M_findDate_81 : decode c_M_findDate 81 = .ok (.bipush 11, 2) := by decide +kernel
theorem d_M_findDate_83 : decode c_M_findDate 83 = .ok (.if_icmp .ne 9, 3) := by decide +kernel
theorem d_M_findDate_86 : decode c_M_findDate 86 = .ok (.aload_n 0, 1) := by decide +kernel
theorem d_M_findDate_87 : decode c_M_findDate 87 = .ok (.lload_n 2, 1) := by decide +kernel
theorem d_M_findDate_88 : decode c_M_findDate 88 = .ok (.invokevirtual 231, 3) := by decide +kernel
theorem d_M_findDate_91 : decode c_M_findDate 91 = .ok (.return_, 1) := by decide +kernel
theorem d_M_findDate_92 : decode c_M_findDate 92 = .ok (.aload_n 0, 1) := by decide +kernel
theorem d_M_findDate_93 : decode c_M_findDate 93 = .ok (.iload_n 1, 1) := by decide +kernel
theorem d_M_findDate_94 : decode c_M_findDate 94 = .ok (.lload_n 2, 1) := by decide +kernel
theorem d_M_findDate_95 : decode c_M_findDate 95 = .ok (.invokevirtual 235, 3) := by decide +kernel
theorem d_M_findDate_98 : decode c_M_findDate 98 = .ok (.lload_n 2, 1) := by decide +kernel
theorem d_M_findDate_99 : decode c_M_findDate 99 = .ok (.aload_n 0, 1) := by decide +kernel
theorem d_M_findDate_100 : decode c_M_findDate 100 = .ok (.getfield 181, 3) := by decide +kernel
theorem d_M_findDate_103 : decode c_M_findDate 103 = .ok (.lsub, 1) := by decide +kernel
theorem d_M_findDate_104 : decode c_M_findDate 104 = .ok (.lstore 4, 2) := by decide +kernel
theorem d_M_findDate_106 : decode c_M_findDate 106 = .ok (.aload_n 0, 1) := by decide +kernel
theorem d_M_findDate_107 : decode c_M_findDate 107 = .ok (.iload_n 1, 1) := by decide +kernel
theorem d_M_findDate_108 : decode c_M_findDate 108 = .ok (.aload_n 0, 1) := by decide +kernel
theorem d_M_findDate_109 : decode c_M_findDate 109 = .ok (.getfield 177, 3) := by decide +kernel
theorem d_M_findDate_112 : decode c_M_findDate 112 = .ok (.invokestatic 238, 3) := by decide +kernel
theorem d_M_findDate_115 : decode c_M_findDate 115 = .ok (.putfield 212, 3) := by decide +kernel
theorem d_M_findDate_118 : decode c_M_findDate 118 = .ok (.iload_n 1, 1) := by decide +kernel
theorem d_M_findDate_119 : decode c_M_findDate 119 = .ok (.iconst 2, 1) := by decide +kernel
theorem d_M_findDate_120 : decode c_M_findDate 120 = .ok (.if_icmp .ne 30, 3) := by decide +kernel
theorem d_M_findDate_123 : decode c_M_findDate 123 = .ok (.aload_n 0, 1) := by decide +kernel
theorem d_M_findDate_124 : decode c_M_findDate 124 = .ok (.lload 4, 2) := by decide +kernel
theorem d_M_findDate_126 : decode c_M_findDate 126 = .ok (.ldc2_w 98, 3) := by decide +kernel
theorem d_M_findDate_129 : decode c_M_findDate 129 = .ok (.ldiv, 1) := by decide +kernel
theorem d_M_findDate_130 : decode c_M_findDate 130 = .ok (.l2i, 1) := by decide +kernel
theorem d_M_findDate_131 : decode c_M_findDate 131 = .ok (.iconst 1, 1) := by decide +kernel
theorem d_M_findDate_132 : decode c_M_findDate 132 = .ok (.iadd, 1) := by decide +kernel
theorem d_M_findDate_133 : decode c_M_findDate 133 = .ok (.putfield 217, 3) := by decide +kernel
theorem d_M_findDate_136 : decode c_M_findDate 136 = .ok (.aload_n 0, 1) := by decide +kernel
theorem d_M_findDate_137 : decode c_M_findDate 137 = .ok (.lload 4, 2) := by decide +kernel
theorem d_M_findDate_139 : decode c_M_findDate 139 = .ok (.ldc2_w 98, 3) := by decide +kernel
theorem d_M_findDate_142 : decode c_M_findDate 142 = .ok (.lrem, 1) := by decide +kernel
theorem d_M_findDate_143 : decode c_M_findDate 143 = .ok (.l2i, 1) := by decide +kernel
theorem d_M_findDate_144 : decode c_M_findDate 144 = .ok (.iconst 1, 1) := by decide +kernel
theorem d_M_findDate_145 : decode c_M_findDate 145 = .ok (.iadd, 1) := by decide +kernel
theorem d_M_findDate_146 : decode c_M_findDate 146 = .ok (.putfield 222, 3) := by decide +kernel
theorem d_M_findDate_149 : decode c_M_findDate 149 = .ok (.return_, 1) := by decide +kernel
theorem d_M_findDate_150 : decode c_M_findDate 150 = .ok (.iconst 0, 1) := by decide +kernel
theorem d_M_findDate_151 : decode c_M_findDate 151 = .ok (.istore 6, 2) := by decide +kernel
theorem d_M_findDate_153 : decode c_M_findDate 153 = .ok (.lload 4, 2) := by decide +kernel
theorem d_M_findDate_155 : decode c_M_findDate 155 = .ok (.aload_n 0, 1) := by decide +kernel
theorem d_M_findDate_156 : decode c_M_findDate 156 = .ok (.iload_n 1, 1) := by decide +kernel
theorem d_M_findDate_157 : decode c_M_findDate 157 = .ok (.aload_n 0, 1) := by decide +kernel
theorem d_M_findDate_158 : decode c_M_findDate 158 = .ok (.getfield 177, 3) := by decide +kernel
theorem d_M_findDate_161 : decode c_M_findDate 161 = .ok (.aload_n 0, 1) := by decide +kernel
theorem d_M_findDate_162 : decode c_M_findDate 162 = .ok (.iload_n 1, 1) := by decide +kernel
theorem d_M_findDate_163 : decode c_M_findDate 163 = .ok (.aload_n 0, 1) := by decide +kernel
theorem d_M_findDate_164 : decode c_M_findDate 164 = .ok (.getfield 177, 3) := by decide +kernel
theorem d_M_findDate_167 : decode c_M_findDate 167 = .ok (.iload 6, 2) := by decide +kernel
theorem d_M_findDate_169 : decode c_M_findDate 169 = .ok (.invokevirtual 119, 3) := by decide +kernel
theorem d_M_findDate_172 : decode c_M_findDate 172 = .ok (.invokevirtual 123, 3) := by decide +kernel
theorem d_M_findDate_175 : decode c_M_findDate 175 = .ok (.i2l, 1) := by decide +kernel
theorem d_M_findDate_176 : decode c_M_findDate 176 = .ok (.lcmp, 1) := by decide +kernel
theorem d_M_findDate_177 : decode c_M_findDate 177 = .ok (.ifCond .lt 35, 3) := by decide +kernel
theorem d_M_findDate_180 : decode c_M_findDate 180 = .ok (.lload 4, 2) := by decide +kernel
theorem d_M_findDate_182 : decode c_M_findDate 182 = .ok (.aload_n 0, 1) := by decide +kernel
theorem d_M_findDate_183 : decode c_M_findDate 183 = .ok (.iload_n 1, 1) := by decide +kernel
theorem d_M_findDate_184 : decode c_M_findDate 184 = .ok (.aload_n 0, 1) := by decide +kernel
theorem d_M_findDate_185 : decode c_M_findDate 185 = .ok (.getfield 177, 3) := by decide +kernel
theorem d_M_findDate_188 : decode c_M_findDate 188 = .ok (.aload_n 0, 1) := by decide +kernel
theorem d_M_findDate_189 : decode c_M_findDate 189 = .ok (.iload_n 1, 1) := by decide +kernel
theorem d_M_findDate_190 : decode c_M_findDate 190 = .ok (.aload_n 0, 1) := by decide +kernel
theorem d_M_findDate_191 : decode c_M_findDate 191 = .ok (.getfield 177, 3) := by decide +kernel
theorem d_M_findDate_194 : decode c_M_findDate 194 = .ok (.iload 6, 2) := by decide +kernel
theorem d_M_findDate_196 : decode c_M_findDate 196 = .ok (.invokevirtual 119, 3) := by decide +kernel
theorem d_M_findDate_199 : decode c_M_findDate 199 = .ok (.invokevirtual 123, 3) := by decide +kernel
theorem d_M_findDate_202 : decode c_M_findDate 202 = .ok (.i2l, 1) := by decide +kernel
theorem d_M_findDate_203 : decode c_M_findDate 203 = .ok (.lsub, 1) := by decide +kernel
theorem d_M_findDate_204 : decode c_M_findDate 204 = .ok (.lstore 4, 2) := by decide +kernel
theorem d_M_findDate_206 : decode c_M_findDate 206 = .ok (.iinc 6 1, 3) := by decide +kernel
theorem d_M_findDate_209 : decode c_M_findDate 209 = .ok (.goto (-56), 3) := by decide +kernel
theorem d_M_findDate_212 : decode c_M_findDate 212 = .ok (.aload_n 0, 1) := by decide +kernel
theorem d_M_findDate_213 : decode c_M_findDate 213 = .ok (.aload_n 0, 1) := by decide +kernel
theorem d_M_findDate_214 : decode c_M_findDate 214 = .ok (.iload_n 1, 1) := by decide +kernel
theorem d_M_findDate_215 : decode c_M_findDate 215 = .ok (.aload_n 0, 1) := by decide +kernel
theorem d_M_findDate_216 : decode c_M_findDate 216 = .ok (.getfield 177, 3) := by decide +kernel
theorem d_M_findDate_219 : decode c_M_findDate 219 = .ok (.iload 6, 2) := by decide +kernel
theorem d_M_findDate_221 : decode c_M_findDate 221 = .ok (.invokevirtual 119, 3) := by decide +kernel
theorem d_M_findDate_224 : decode c_M_findDate 224 = .ok (.putfield 217, 3) := by decide +kernel
theorem d_M_findDate_227 : decode c_M_findDate 227 = .ok (.aload_n 0, 1) := by decide +kernel
theorem d_M_findDate_228 : decode c_M_findDate 228 = .ok (.lload 4, 2) := by decide +kernel
theorem d_M_findDate_230 : decode c_M_findDate 230 = .ok (.l2i, 1) := by decide +kernel
theorem d_M_findDate_231 : decode c_M_findDate 231 = .ok (.iconst 1, 1) := by decide +kernel
theorem d_M_findDate_232 : decode c_M_findDate 232 = .ok (.iadd, 1) := by decide +kernel
theorem d_M_findDate_233 : decode c_M_findDate 233 = .ok (.putfield 222, 3) := by decide +kernel
theorem d_M_findDate_236 : decode c_M_findDate 236 = .ok (.return_, 1) := by decide +kernel
theorem d_M_findMoonDate_0 : decode c_M_findMoonDate 0 = .ok (.ldc2_w 63, 3) := by decide +kernel
theorem d_M_findMoonDate_3 : decode c_M_findMoonDate 3 = .ok (.lload_n 1, 1) := by decide +kernel
theorem d_M_findMoonDate_4 : decode c_M_findMoonDate 4 = .ok (.ldc2_w 202, 3) := by decide +kernel
theorem d_M_findMoonDate_7 : decode c_M_findMoonDate 7 = .ok (.ladd, 1) := by decide +kernel
theorem d_M_findMoonDate_8 : decode c_M_findMoonDate 8 = .ok (.lmul, 1) := by decide +kernel
theorem d_M_findMoonDate_9 : decode c_M_findMoonDate 9 = .ok (.lconst 1, 1) := by decide +kernel
theorem d_M_findMoonDate_10 : decode c_M_findMoonDate 10 = .ok (.ladd, 1) := by decide +kernel
theorem d_M_findMoonDate_11 : decode c_M_findMoonDate 11 = .ok (.lstore_n 3, 1) := by decide +kernel
theorem d_M_findMoonDate_12 : decode c_M_findMoonDate 12 = .ok (.lload_n 3, 1) := by decide +kernel
theorem d_M_findMoonDate_13 : decode c_M_findMoonDate 13 = .ok (.ldc2_w 204, 3) := by decide +kernel
theorem d_M_findMoonDate_16 : decode c_M_findMoonDate 16 = .ok (.lmul, 1) := by decide +kernel
theorem d_M_findMoonDate_17 : decode c_M_findMoonDate 17 = .ok (.ldc2_w 206, 3) := by decide +kernel
theorem d_M_findMoonDate_20 : decode c_M_findMoonDate 20 = .ok (.invokestatic 55, 3) := by decide +kernel
theorem d_M_findMoonDate_23 : decode c_M_findMoonDate 23 = .ok (.ldc2_w 208, 3) := by decide +kernel
theorem d_M_findMoonDate_26 : decode c_M_findMoonDate 26 = .ok (.lmul, 1) := by decide +kernel
theorem d_M_findMoonDate_27 : decode c_M_findMoonDate 27 = .ok (.lstore 5, 2) := by decide +kernel
theorem d_M_findMoonDate_29 : decode c_M_findMoonDate 29 = .ok (.lload 5, 2) := by decide +kernel
theorem d_M_findMoonDate_31 : decode c_M_findMoonDate 31 = .ok (.lneg, 1) := by decide +kernel
theorem d_M_findMoonDate_32 : decode c_M_findMoonDate 32 = .ok (.ldc2_w 204, 3) := by decide +kernel
theorem d_M_findMoonDate_35 : decode c_M_findMoonDate 35 = .ok (.invokestatic 55, 3) := by decide +kernel
theorem d_M_findMoonDate_38 : decode c_M_findMoonDate 38 = .ok (.lneg, 1) := by decide +kernel
theorem d_M_findMoonDate_39 : decode c_M_findMoonDate 39 = .ok (.lstore 7, 2) := by decide +kernel
theorem d_M_findMoonDate_41 : decode c_M_findMoonDate 41 = .ok (.lload 5, 2) := by decide +kernel
theorem d_M_findMoonDate_43 : decode c_M_findMoonDate 43 = .ok (.ldc2_w 204, 3) := by decide +kernel
theorem d_M_findMoonDate_46 : decode c_M_findMoonDate 46 = .ok (.invokestatic 65, 3) := by decide +kernel
theorem d_M_findMoonDate_49 : decode c_M_findMoonDate 49 = .ok (.lstore 9, 2) := by decide +kernel
theorem d_M_findMoonDate_51 : decode c_M_findMoonDate 51 = .ok (.aload_n 0, 1) := by decide +kernel
theorem d_M_findMoonDate_52 : decode c_M_findMoonDate 52 = .ok (.lload 7, 2) := by decide +kernel
theorem d_M_findMoonDate_54 : decode c_M_findMoonDate 54 = .ok (.ldc2_w 210, 3) := by decide +kernel
theorem d_M_findMoonDate_57 : decode c_M_findMoonDate 57 = .ok (.invokestatic 55, 3) := by decide +kernel
theorem d_M_findMoonDate_60 : decode c_M_findMoonDate 60 = .ok (.putfield 212, 3) := by decide +kernel
theorem d_M_findMoonDate_63 : decode c_M_findMoonDate 63 = .ok (.aload_n 0, 1) := by decide +kernel
theorem d_M_findMoonDate_64 : decode c_M_findMoonDate 64 = .ok (.lload 7, 2) := by decide +kernel
theorem d_M_findMoonDate_66 : decode c_M_findMoonDate 66 = .ok (.ldc2_w 210, 3) := by decide +kernel
theorem d_M_findMoonDate_69 : decode c_M_findMoonDate 69 = .ok (.invokestatic 65, 3) := by decide +kernel
theorem d_M_findMoonDate_72 : decode c_M_findMoonDate 72 = .ok (.l2i, 1) := by decide +kernel
theorem d_M_findMoonDate_73 : decode c_M_findMoonDate 73 = .ok (.lload 9, 2) := by decide +kernel
theorem d_M_findMoonDate_75 : decode c_M_findMoonDate 75 = .ok (.lconst 1, 1) := by decide +kernel
theorem d_M_findMoonDate_76 : decode c_M_findMoonDate 76 = .ok (.lcmp, 1) := by decide +kernel
theorem d_M_findMoonDate_77 : decode c_M_findMoonDate 77 = .ok (.ifCond .lt 17, 3) := by decide +kernel
theorem d_M_findMoonDate_80 : decode c_M_findMoonDate 80 = .ok (.lload 9, 2) := by decide +kernel
theorem d_M_findMoonDate_82 : decode c_M_findMoonDate 82 = .ok (.ldc2_w 215, 3) := by decide +kernel
theorem d_M_findMoonDate_85 : decode c_M_findMoonDate 85 = .ok (.lcmp, 1) := by decide +kernel
theorem d_M_findMoonDate_86 : decode c_M_findMoonDate 86 = .ok (.ifCond .gt 8, 3) := by decide +kernel
theorem d_M_findMoonDate_89 : decode c_M_findMoonDate 89 = .ok (.bipush 101, 2) := by decide +kernel
theorem d_M_findMoonDate_91 : decode c_M_findMoonDate 91 = .ok (.goto 4, 3) := by decide +kernel
theorem d_M_findMoonDate_94 : decode c_M_findMoonDate 94 = .ok (.iconst 1, 1) := by decide +kernel
theorem d_M_findMoonDate_95 : decode c_M_findMoonDate 95 = .ok (.iadd, 1) := by decide +kernel
theorem d_M_findMoonDate_96 : decode c_M_findMoonDate 96 = .ok (.putfield 217, 3) := by decide +kernel
theorem d_M_findMoonDate_99 : decode c_M_findMoonDate 99 = .ok (.aload_n 0, 1) := by decide +kernel
theorem d_M_findMoonDate_100 : decode c_M_findMoonDate 100 = .ok (.lload_n 3, 1) := by decide +kernel
theorem d_M_findMoonDate_101 : decode c_M_findMoonDate 101 = .ok (.ldc2_w 220, 3) := by decide +kernel
theorem d_M_findMoonDate_104 : decode c_M_findMoonDate 104 = .ok (.lmul, 1) := by decide +kernel
theorem d_M_findMoonDate_105 : decode c_M_findMoonDate 105 = .ok (.ldc2_w 206, 3) := by decide +kernel
theorem d_M_findMoonDate_108 : decode c_M_findMoonDate 108 = .ok (.invokestatic 55, 3) := by decide +kernel
theorem d_M_findMoonDate_111 : decode c_M_findMoonDate 111 = .ok (.ldc2_w 82, 3) := by decide +kernel
theorem d_M_findMoonDate_114 : decode c_M_findMoonDate 114 = .ok (.invokestatic 65, 3) := by decide +kernel
theorem d_M_findMoonDate_117 : decode c_M_findMoonDate 117 = .ok (.l2i, 1) := by decide +kernel
theorem d_M_findMoonDate_118 : decode c_M_findMoonDate 118 = .ok (.iconst 1, 1) := by decide +kernel
theorem d_M_findMoonDate_119 : decode c_M_findMoonDate 119 = .ok (.iadd, 1) := by decide +kernel
theorem d_M_findMoonDate_120 : decode c_M_findMoonDate 120 = .ok (.putfield 222, 3) := by decide +kernel
theorem d_M_findMoonDate_123 : decode c_M_findMoonDate 123 = .ok (.return_, 1) := by decide +kernel
theorem d_M_findPlainYear_0 : decode c_M_findPlainYear 0 = .ok (.lload_n 2, 1) := by decide +kernel
theorem d_M_findPlainYear_1 : decode c_M_findPlainYear 1 = .ok (.aload_n 0, 1) := by decide +kernel
theorem d_M_findPlainYear_2 : decode c_M_findPlainYear 2 = .ok (.iload_n 1, 1) := by decide +kernel
theorem d_M_findPlainYear_3 : decode c_M_findPlainYear 3 = .ok (.invokevirtual 169, 3) := by decide +kernel
theorem d_M_findPlainYear_6 : decode c_M_findPlainYear 6 = .ok (.i2l, 1) := by decide +kernel
theorem d_M_findPlainYear_7 : decode c_M_findPlainYear 7 = .ok (.lsub, 1) := by decide +kernel
theorem d_M_findPlainYear_8 : decode c_M_findPlainYear 8 = .ok (.aload_n 0, 1) := by decide +kernel
theorem d_M_findPlainYear_9 : decode c_M_findPlainYear 9 = .ok (.getfield 13, 3) := by decide +kernel
theorem d_M_findPlainYear_12 : decode c_M_findPlainYear 12 = .ok (.iload_n 1, 1) := by decide +kernel
theorem d_M_findPlainYear_13 : decode c_M_findPlainYear 13 = .ok (.laload, 1) := by decide +kernel
theorem d_M_findPlainYear_14 : decode c_M_findPlainYear 14 = .ok (.invokestatic 55, 3) := by decide +kernel
theorem d_M_findPlainYear_17 : decode c_M_findPlainYear 17 = .ok (.lstore 4, 2) := by decide +kernel
theorem d_M_findPlainYear_19 : decode c_M_findPlainYear 19 = .ok (.lload 4, 2) := by decide +kernel
theorem d_M_findPlainYear_21 : decode c_M_findPlainYear 21 = .ok (.aload_n 0, 1) := by decide +kernel
theorem d_M_findPlainYear_22 : decode c_M_findPlainYear 22 = .ok (.getfield 7, 3) := by decide +kernel
theorem d_M_findPlainYear_25 : decode c_M_findPlainYear 25 = .ok (.iload_n 1, 1) := by decide +kernel
theorem d_M_findPlainYear_26 : decode c_M_findPlainYear 26 = .ok (.iaload, 1) := by decide +kernel
theorem d_M_findPlainYear_27 : decode c_M_findPlainYear 27 = .ok (.i2l, 1) := by decide +kernel
theorem d_M_findPlainYear_28 : decode c_M_findPlainYear 28 = .ok (.lmul, 1) := by decide +kernel
theorem d_M_findPlainYear_29 : decode c_M_findPlainYear 29 = .ok (.lconst 1, 1) := by decide +kernel
theorem d_M_findPlainYear_30 : decode c_M_findPlainYear 30 = .ok (.ladd, 1) := by decide +kernel
theorem d_M_findPlainYear_31 : decode c_M_findPlainYear 31 = .ok (.lstore 6, 2) := by decide +kernel
theorem d_M_findPlainYear_33 : decode c_M_findPlainYear 33 = .ok (.aload_n 0, 1) := by decide +kernel
theorem d_M_findPlainYear_34 : decode c_M_findPlainYear 34 = .ok (.iload_n 1, 1) := by decide +kernel
theorem d_M_findPlainYear_35 : decode c_M_findPlainYear 35 = .ok (.invokevirtual 169, 3) := by decide +kernel
theorem d_M_findPlainYear_38 : decode c_M_findPlainYear 38 = .ok (.i2l, 1) := by decide +kernel
theorem d_M_findPlainYear_39 : decode c_M_findPlainYear 39 = .ok (.lload 4, 2) := by decide +kernel
theorem d_M_findPlainYear_41 : decode c_M_findPlainYear 41 = .ok (.aload_n 0, 1) := by decide +kernel
theorem d_M_findPlainYear_42 : decode c_M_findPlainYear 42 = .ok (.getfield 13, 3) := by decide +kernel
theorem d_M_findPlainYear_45 : decode c_M_findPlainYear 45 = .ok (.iload_n 1, 1) := by decide +kernel
theorem d_M_findPlainYear_46 : decode c_M_findPlainYear 46 = .ok (.laload, 1) := by decide +kernel
theorem d_M_findPlainYear_47 : decode c_M_findPlainYear 47 = .ok (.lmul, 1) := by decide +kernel
theorem d_M_findPlainYear_48 : decode c_M_findPlainYear 48 = .ok (.ladd, 1) := by decide +kernel
theorem d_M_findPlainYear_49 : decode c_M_findPlainYear 49 = .ok (.lstore 8, 2) := by decide +kernel
theorem d_M_findPlainYear_51 : decode c_M_findPlainYear 51 = .ok (.lload 8, 2) := by decide +kernel
theorem d_M_findPlainYear_53 : decode c_M_findPlainYear 53 = .ok (.aload_n 0, 1) := by decide +kernel
theorem d_M_findPlainYear_54 : decode c_M_findPlainYear 54 = .ok (.iload_n 1, 1) := by decide +kernel
theorem d_M_findPlainYear_55 : decode c_M_findPlainYear 55 = .ok (.invokevirtual 130, 3) := by decide +kernel
theorem d_M_findPlainYear_58 : decode c_M_findPlainYear 58 = .ok (.ladd, 1) := by decide +kernel
theorem d_M_findPlainYear_59 : decode c_M_findPlainYear 59 = .ok (.aload_n 0, 1) := by decide +kernel
theorem d_M_findPlainYear_60 : decode c_M_findPlainYear 60 = .ok (.iload_n 1, 1) := by decide +kernel
theorem d_M_findPlainYear_61 : decode c_M_findPlainYear 61 = .ok (.lload 6, 2) := by decide +kernel
theorem d_M_findPlainYear_63 : decode c_M_findPlainYear 63 = .ok (.invokevirtual 102, 3) := by decide +kernel
theorem d_M_findPlainYear_66 : decode c_M_findPlainYear 66 = .ok (.ifCond .eq 7, 3) := by decide +kernel
theorem d_M_findPlainYear_69 : decode c_M_findPlainYear 69 = .ok (.lconst 1, 1) := by decide +kernel
theorem d_M_findPlainYear_70 : decode c_M_findPlainYear 70 = .ok (.goto 4, 3) := by decide +kernel
theorem d_M_findPlainYear_73 : decode c_M_findPlainYear 73 = .ok (.lconst 0, 1) := by decide +kernel
theorem d_M_findPlainYear_74 : decode c_M_findPlainYear 74 = .ok (.ladd, 1) := by decide +kernel
theorem d_M_findPlainYear_75 : decode c_M_findPlainYear 75 = .ok (.lstore 10, 2) := by decide +kernel
theorem d_M_findPlainYear_77 : decode c_M_findPlainYear 77 = .ok (.lload 10, 2) := by decide +kernel
theorem d_M_findPlainYear_79 : decode c_M_findPlainYear 79 = .ok (.lload_n 2, 1) := by decide +kernel
theorem d_M_findPlainYear_80 : decode c_M_findPlainYear 80 = .ok (.lcmp, 1) := by decide +kernel
theorem d_M_findPlainYear_81 : decode c_M_findPlainYear 81 = .ok (.ifCond .gt 42, 3) := by decide +kernel
theorem d_M_findPlainYear_84 : decode c_M_findPlainYear 84 = .ok (.lload 6, 2) := by decide +kernel
theorem d_M_findPlainYear_86 : decode c_M_findPlainYear 86 = .ok (.lconst 1, 1) := by decide +kernel
theorem d_M_findPlainYear_87 : decode c_M_findPlainYear 87 = .ok (.ladd, 1) := by decide +kernel
theorem d_M_findPlainYear_88 : decode c_M_findPlainYear 88 = .ok (.lstore 6, 2) := by decide +kernel
theorem d_M_findPlainYear_90 : decode c_M_findPlainYear 90 = .ok (.lload 10, 2) := by decide +kernel
theorem d_M_findPlainYear_92 : decode c_M_findPlainYear 92 = .ok (.lstore 8, 2) := by decide +kernel
theorem d_M_findPlainYear_94 : decode c_M_findPlainYear 94 = .ok (.lload 8, 2) := by decide +kernel
theorem d_M_findPlainYear_96 : decode c_M_findPlainYear 96 = .ok (.aload_n 0, 1) := by decide +kernel
theorem d_M_findPlainYear_97 : decode c_M_findPlainYear 97 = .ok (.iload_n 1, 1) := by decide +kernel
theorem d_M_findPlainYear_98 : decode c_M_findPlainYear 98 = .ok (.invokevirtual 130, 3) := by decide +kernel
theorem d_M_findPlainYear_101 : decode c_M_findPlainYear 101 = .ok (.ladd, 1) := by decide +kernel
theorem d_M_findPlainYear_102 : decode c_M_findPlainYear 102 = .ok (.aload_n 0, 1) := by decide +kernel
theorem d_M_findPlainYear_103 : decode c_M_findPlainYear 103 = .ok (.iload_n 1, 1) := by decide +kernel
theorem d_M_findPlainYear_104 : decode c_M_findPlainYear 104 = .ok (.lload 6, 2) := by decide +kernel
theorem d_M_findPlainYear_106 : decode c_M_findPlainYear 106 = .ok (.invokevirtual 102, 3) := by decide +kernel
theorem d_M_findPlainYear_109 : decode c_M_findPlainYear 109 = .ok (.ifCond .eq 7, 3) := by decide +kernel
theorem d_M_findPlainYear_112 : decode c_M_findPlainYear 112 = .ok (.lconst 1, 1) := by decide +kernel
theorem d_M_findPlainYear_113 : decode c_M_findPlainYear 113 = .ok (.goto 4, 3) := by decide +kernel
theorem d_M_findPlainYear_116 : decode c_M_findPlainYear 116 = .ok (.lconst 0, 1) := by decide +kernel
theorem d_M_findPlainYear_117 : decode c_M_findPlainYear 117 = .ok (.ladd, 1) := by decide +kernel
theorem d_M_findPlainYear_118 : decode c_M_findPlainYear 118 = .ok (.lstore 10, 2) := by decide +kernel
theorem d_M_findPlainYear_120 : decode c_M_findPlainYear 120 = .ok (.goto (-43), 3) := by decide +kernel
theorem d_M_findPlainYear_123 : decode c_M_findPlainYear 123 = .ok (.aload_n 0, 1) := by decide +kernel
theorem d_M_findPlainYear_124 : decode c_M_findPlainYear 124 = .ok (.iload_n 1, 1) := by decide +kernel
theorem d_M_findPlainYear_125 : decode c_M_findPlainYear 125 = .ok (.lload 6, 2) := by decide +kernel
theorem d_M_findPlainYear_127 : decode c_M_findPlainYear 127 = .ok (.lload 8, 2) := by decide +kernel
theorem d_M_findPlainYear_129 : decode c_M_findPlainYear 129 = .ok (.lload 10, 2) := by decide +kernel
theorem d_M_findPlainYear_131 : decode c_M_findPlainYear 131 = .ok (.invokevirtual 194, 3) := by decide +kernel
theorem d_M_findPlainYear_134 : decode c_M_findPlainYear 134 = .ok (.return_, 1) := by decide +kernel
theorem d_M_findYear_0 : decode c_M_findYear 0 = .ok (.aload_n 0, 1) := by decide +kernel
theorem d_M_findYear_1 : decode c_M_findYear 1 = .ok (.getfield 40, 3) := by decide +kernel
theorem d_M_findYear_4 : decode c_M_findYear 4 = .ok (.iload_n 1, 1) := by decide +kernel
theorem d_M_findYear_5 : decode c_M_findYear 5 = .ok (.if_icmp .ne 22, 3) := by decide +kernel
theorem d_M_findYear_8 : decode c_M_findYear 8 = .ok (.lload_n 2, 1) := by decide +kernel
theorem d_M_findYear_9 : decode c_M_findYear 9 = .ok (.aload_n 0, 1) := by decide +kernel
theorem d_M_findYear_10 : decode c_M_findYear 10 = .ok (.getfield 181, 3) := by decide +kernel
theorem d_M_findYear_13 : decode c_M_findYear 13 = .ok (.lcmp, 1) := by decide +kernel
theorem d_M_findYear_14 : decode c_M_findYear 14 = .ok (.ifCond .lt 13, 3) := by decide +kernel
theorem d_M_findYear_17 : decode c_M_findYear 17 = .ok (.lload_n 2, 1) := by decide +kernel
theorem d_M_findYear_18 : decode c_M_findYear 18 = .ok (.aload_n 0, 1) := by decide +kernel
theorem d_M_findYear_19 : decode c_M_findYear 19 = .ok (.getfield 184, 3) := by decide +kernel
theorem d_M_findYear_22 : decode c_M_findYear 22 = .ok (.lcmp, 1) := by decide +kernel
theorem d_M_findYear_23 : decode c_M_findYear 23 = .ok (.ifCond .ge 4, 3) := by decide +kernel
theorem d_M_findYear_26 : decode c_M_findYear 26 = .ok (.return_, 1) := by decide +kernel
theorem d_M_findYear_27 : decode c_M_findYear 27 = .ok (.iload_n 1, 1) := by decide +kernel
theorem d_M_findYear_28 : decode c_M_findYear 28 = .ok (.iconst 2, 1) := by decide +kernel
theorem d_M_findYear_29 : decode c_M_findYear 29 = .ok (.if_icmp .ne 85, 3) := by decide +kernel
theorem d_M_findYear_32 : decode c_M_findYear 32 = .ok (.aload_n 0, 1) := by decide +kernel
theorem d_M_findYear_33 : decode c_M_findYear 33 = .ok (.iconst 0, 1) := by decide +kernel
theorem d_M_findYear_34 : decode c_M_findYear 34 = .ok (.lload_n 2, 1) := by decide +kernel
theorem d_M_findYear_35 : decode c_M_findYear 35 = .ok (.invokevirtual 187, 3) := by decide +kernel
theorem d_M_findYear_38 : decode c_M_findYear 38 = .ok (.aload_n 0, 1) := by decide +kernel
theorem d_M_findYear_39 : decode c_M_findYear 39 = .ok (.getfield 177, 3) := by decide +kernel
theorem d_M_findYear_42 : decode c_M_findYear 42 = .ok (.lstore 4, 2) := by decide +kernel
theorem d_M_findYear_44 : decode c_M_findYear 44 = .ok (.lload_n 2, 1) := by decide +kernel
theorem d_M_findYear_45 : decode c_M_findYear 45 = .ok (.aload_n 0, 1) := by decide +kernel
theorem d_M_findYear_46 : decode c_M_findYear 46 = .ok (.iconst 2, 1) := by decide +kernel
theorem d_M_findYear_47 : decode c_M_findYear 47 = .ok (.lload 4, 2) := by decide +kernel
theorem d_M_findYear_49 : decode c_M_findYear 49 = .ok (.invokevirtual 191, 3) := by decide +kernel
theorem d_M_findYear_52 : decode c_M_findYear 52 = .ok (.lcmp, 1) := by decide +kernel
theorem d_M_findYear_53 : decode c_M_findYear 53 = .ok (.ifCond .ge 10, 3) := by decide +kernel
theorem d_M_findYear_56 : decode c_M_findYear 56 = .ok (.lload 4, 2) := by decide +kernel
theorem d_M_findYear_58 : decode c_M_findYear 58 = .ok (.lconst 1, 1) := by decide +kernel
theorem d_M_findYear_59 : decode c_M_findYear 59 = .ok (.lsub, 1) := by decide +kernel
theorem d_M_findYear_60 : decode c_M_findYear 60 = .ok (.goto 26, 3) := by decide +kernel
theorem d_M_findYear_63 : decode c_M_findYear 63 = .ok (.lload_n 2, 1) := by decide +kernel
theorem d_M_findYear_64 : decode c_M_findYear 64 = .ok (.aload_n 0, 1) := by decide +kernel
theorem d_M_findYear_65 : decode c_M_findYear 65 = .ok (.iconst 2, 1) := by decide +kernel
theorem d_M_findYear_66 : decode c_M_findYear 66 = .ok (.lload 4, 2) := by decide +kernel
theorem d_M_findYear_68 : decode c_M_findYear 68 = .ok (.lconst 1, 1) := by decide +kernel
theorem d_M_findYear_69 : decode c_M_findYear 69 = .ok (.ladd, 1) := by decide +kernel
theorem d_M_findYear_70 : decode c_M_findYear 70 = .ok (.invokevirtual 191, 3) := by decide +kernel
theorem d_M_findYear_73 : decode c_M_findYear 73 = .ok (.lcmp, 1) := by decide +kernel
theorem d_M_findYear_74 : decode c_M_findYear 74 = .ok (.ifCond .lt 10, 3) := by decide +kernel
theorem d_M_findYear_77 : decode c_M_findYear 77 = .ok (.lload 4, 2) := by decide +kernel
theorem d_M_findYear_79 : decode c_M_findYear 79 = .ok (.lconst 1, 1) := by decide +kernel
theorem d_M_findYear_80 : decode c_M_findYear 80 = .ok (.ladd, 1) := by decide +kernel
theorem d_M_findYear_81 : decode c_M_findYear 81 = .ok (.goto 5, 3) := by decide +kernel
theorem d_M_findYear_84 : decode c_M_findYear 84 = .ok (.lload 4, 2) := by decide +kernel
theorem d_M_findYear_86 : decode c_M_findYear 86 = .ok (.lstore 4, 2) := by decide +kernel
theorem d_M_findYear_88 : decode c_M_findYear 88 = .ok (.aload_n 0, 1) := by decide +kernel
theorem d_M_findYear_89 : decode c_M_findYear 89 = .ok (.iconst 2, 1) := by decide +kernel
theorem d_M_findYear_90 : decode c_M_findYear 90 = .ok (.lload 4, 2) := by decide +kernel
theorem d_M_findYear_92 : decode c_M_findYear 92 = .ok (.aload_n 0, 1) := by decide +kernel
theorem d_M_findYear_93 : decode c_M_findYear 93 = .ok (.iconst 2, 1) := by decide +kernel
theorem d_M_findYear_94 : decode c_M_findYear 94 = .ok (.lload 4, 2) := by decide +kernel
theorem d_M_findYear_96 : decode c_M_findYear 96 = .ok (.invokevirtual 191, 3) := by decide +kernel
theorem d_M_findYear_99 : decode c_M_findYear 99 = .ok (.aload_n 0, 1) := by decide +kernel
theorem d_M_findYear_100 : decode c_M_findYear 100 = .ok (.iconst 2, 1) := by decide +kernel
theorem d_M_findYear_101 : decode c_M_findYear 101 = .ok (.lload 4, 2) := by decide +kernel
theorem d_M_findYear_103 : decode c_M_findYear 103 = .ok (.lconst 1, 1) := by decide +kernel
theorem d_M_findYear_104 : decode c_M_findYear 104 = .ok (.ladd, 1) := by decide +kernel
theorem d_M_findYear_105 : decode c_M_findYear 105 = .ok (.invokevirtual 191, 3) := by decide +kernel
theorem d_M_findYear_108 : decode c_M_findYear 108 = .ok (.invokevirtual 194, 3) := by decide +kernel
theorem d_M_findYear_111 : decode c_M_findYear 111 = .ok (.goto 95, 3) := by decide +kernel
theorem d_M_findYear_114 : decode c_M_findYear 114 = .ok (.iload_n 1, 1) := by decide +kernel
theorem d_M_findYear_115 : decode c_M_findYear 115 = .ok (.bipush 9, 2) := by decide +kernel
theorem d_M_findYear_117 : decode c_M_findYear 117 = .ok (.if_icmp .ne 83, 3) := by decide +kernel
theorem d_M_findYear_120 : decode c_M_findYear 120 = .ok (.lload_n 2, 1) := by decide +kernel
theorem d_M_findYear_121 : decode c_M_findYear 121 = .ok (.ldc2_w 150, 3) := by decide +kernel
theorem d_M_findYear_124 : decode c_M_findYear 124 = .ok (.ladd, 1) := by decide +kernel
theorem d_M_findYear_125 : decode c_M_findYear 125 = .ok (.ldc2_w 198, 3) := by decide +kernel
theorem d_M_findYear_128 : decode c_M_findYear 128 = .ok (.lmul, 1) := by decide +kernel
theorem d_M_findYear_129 : decode c_M_findYear 129 = .ok (.ldc2_w 200, 3) := by decide +kernel
theorem d_M_findYear_132 : decode c_M_findYear 132 = .ok (.invokestatic 55, 3) := by decide +kernel
theorem d_M_findYear_135 : decode c_M_findYear 135 = .ok (.lstore 4, 2) := by decide +kernel
theorem d_M_findYear_137 : decode c_M_findYear 137 = .ok (.lload 4, 2) := by decide +kernel
theorem d_M_findYear_139 : decode c_M_findYear 139 = .ok (.lconst 1, 1) := by decide +kernel
theorem d_M_findYear_140 : decode c_M_findYear 140 = .ok (.ladd, 1) := by decide +kernel
theorem d_M_findYear_141 : decode c_M_findYear 141 = .ok (.invokestatic 158, 3) := by decide +kernel
theorem d_M_findYear_144 : decode c_M_findYear 144 = .ok (.lload_n 2, 1) := by decide +kernel
theorem d_M_findYear_145 : decode c_M_findYear 145 = .ok (.lcmp, 1) := by decide +kernel
theorem d_M_findYear_146 : decode c_M_findYear 146 = .ok (.ifCond .gt 12, 3) := by decide +kernel
theorem d_M_findYear_149 : decode c_M_findYear 149 = .ok (.lload 4, 2) := by decide +kernel
theorem d_M_findYear_151 : decode c_M_findYear 151 = .ok (.lconst 1, 1) := by decide +kernel
theorem d_M_findYear_152 : decode c_M_findYear 152 = .ok (.ladd, 1) := by decide +kernel
theorem d_M_findYear_153 : decode c_M_findYear 153 = .ok (.lstore 4, 2) := by decide +kernel
theorem d_M_findYear_155 : decode c_M_findYear 155 = .ok (.goto (-18), 3) := by decide +kernel
theorem d_M_findYear_158 : decode c_M_findYear 158 = .ok (.lload 4, 2) := by decide +kernel
theorem d_M_findYear_160 : decode c_M_findYear 160 = .ok (.invokestatic 158, 3) := by decide +kernel
theorem d_M_findYear_163 : decode c_M_findYear 163 = .ok (.lload_n 2, 1) := by decide +kernel
theorem d_M_findYear_164 : decode c_M_findYear 164 = .ok (.lcmp, 1) := by decide +kernel
theorem d_M_findYear_165 : decode c_M_findYear 165 = .ok (.ifCond .le 12, 3) := by decide +kernel
theorem d_M_findYear_168 : decode c_M_findYear 168 = .ok (.lload 4, 2) := by decide +kernel
theorem d_M_findYear_170 : decode c_M_findYear 170 = .ok (.lconst 1, 1) := by decide +kernel
theorem d_M_findYear_171 : decode c_M_findYear 171 = .ok (.lsub, 1) := by decide +kernel
theorem d_M_findYear_172 : decode c_M_findYear 172 = .ok (.lstore 4, 2) := by decide +kernel
theorem d_M_findYear_174 : decode c_M_findYear 174 = .ok (.goto (-16), 3) := by decide +kernel
theorem d_M_findYear_177 : decode c_M_findYear 177 = .ok (.aload_n 0, 1) := by decide +kernel
theorem d_M_findYear_178 : decode c_M_findYear 178 = .ok (.bipush 9, 2) := by decide +kernel
theorem d_M_findYear_180 : decode c_M_findYear 180 = .ok (.lload 4, 2) := by decide +kernel
theorem d_M_findYear_182 : decode c_M_findYear 182 = .ok (.lload 4, 2) := by decide +kernel
theorem d_M_findYear_184 : decode c_M_findYear 184 = .ok (.invokestatic 158, 3) := by decide +kernel
theorem d_M_findYear_187 : decode c_M_findYear 187 = .ok (.lload 4, 2) := by decide +kernel
theorem d_M_findYear_189 : decode c_M_findYear 189 = .ok (.lconst 1, 1) := by decide +kernel
theorem d_M_findYear_190 : decode c_M_findYear 190 = .ok (.ladd, 1) := by decide +kernel
theorem d_M_findYear_191 : decode c_M_findYear 191 = .ok (.invokestatic 158, 3) := by decide +kernel
theorem d_M_findYear_194 : decode c_M_findYear 194 = .ok (.invokevirtual 194, 3) := by decide +kernel
theorem d_M_findYear_197 : decode c_M_findYear 197 = .ok (.goto 9, 3) := by decide +kernel
theorem d_M_findYear_200 : decode c_M_findYear 200 = .ok (.aload_n 0, 1) := by decide +kernel
theorem d_M_findYear_201 : decode c_M_findYear 201 = .ok (.iload_n 1, 1) := by decide +kernel
theorem d_M_findYear_202 : decode c_M_findYear 202 = .ok (.lload_n 2, 1) := by decide +kernel
theorem d_M_findYear_203 : decode c_M_findYear 203 = .ok (.invokevirtual 187, 3) := by decide +kernel
theorem d_M_findYear_206 : decode c_M_findYear 206 = .ok (.return_, 1) := by decide +kernel
theorem d_M_fixed_0 : decode c_M_fixed 0 = .ok (.aload_n 0, 1) := by decide +kernel
theorem d_M_fixed_1 : decode c_M_fixed 1 = .ok (.aload_n 0, 1) := by decide +kernel
theorem d_M_fixed_2 : decode c_M_fixed 2 = .ok (.iload_n 1, 1) := by decide +kernel
theorem d_M_fixed_3 : decode c_M_fixed 3 = .ok (.invokevirtual 269, 3) := by decide +kernel
theorem d_M_fixed_6 : decode c_M_fixed 6 = .ok (.ifCond .ne 7, 3) := by decide +kernel
theorem d_M_fixed_9 : decode c_M_fixed 9 = .ok (.iconst 1, 1) := by decide +kernel
theorem d_M_fixed_10 : decode c_M_fixed 10 = .ok (.goto 15, 3) := by decide +kernel
theorem d_M_fixed_13 : decode c_M_fixed 13 = .ok (.iload_n 2, 1) := by decide +kernel
theorem d_M_fixed_14 : decode c_M_fixed 14 = .ok (.invokestatic 277, 3) := by decide +kernel
theorem d_M_fixed_17 : decode c_M_fixed 17 = .ok (.ifCond .ne 7, 3) := by decide +kernel
theorem d_M_fixed_20 : decode c_M_fixed 20 = .ok (.iconst 2, 1) := by decide +kernel
theorem d_M_fixed_21 : decode c_M_fixed 21 = .ok (.goto 4, 3) := by decide +kernel
theorem d_M_fixed_24 : decode c_M_fixed 24 = .ok (.iconst 0, 1) := by decide +kernel
theorem d_M_fixed_25 : decode c_M_fixed 25 = .ok (.putfield 52, 3) := by decide +kernel
theorem d_M_fixed_28 : decode c_M_fixed 28 = .ok (.aload_n 0, 1) := by decide +kernel
theorem d_M_fixed_29 : decode c_M_fixed 29 = .ok (.getfield 52, 3) := by decide +kernel
theorem d_M_fixed_32 : decode c_M_fixed 32 = .ok (.ifCond .le 5, 3) := by decide +kernel
theorem d_M_fixed_35 : decode c_M_fixed 35 = .ok (.iconst 0, 1) := by decide +kernel
theorem d_M_fixed_36 : decode c_M_fixed 36 = .ok (.ireturn, 1) := by decide +kernel
theorem d_M_fixed_37 : decode c_M_fixed 37 = .ok (.aload_n 0, 1) := by decide +kernel
theorem d_M_fixed_38 : decode c_M_fixed 38 = .ok (.iload_n 1, 1) := by decide +kernel
theorem d_M_fixed_39 : decode c_M_fixed 39 = .ok (.iload_n 2, 1) := by decide +kernel
theorem d_M_fixed_40 : decode c_M_fixed 40 = .ok (.iload_n 3, 1) := by decide +kernel
theorem d_M_fixed_41 : decode c_M_fixed 41 = .ok (.iload 4, 2) := by decide +kernel
theorem d_M_fixed_43 : decode c_M_fixed 43 = .ok (.invokevirtual 280, 3) := by decide +kernel
theorem d_M_fixed_46 : decode c_M_fixed 46 = .ok (.lstore 5, 2) := by decide +kernel
theorem d_M_fixed_48 : decode c_M_fixed 48 = .ok (.aload_n 0, 1) := by decide +kernel
theorem d_M_fixed_49 : decode c_M_fixed 49 = .ok (.lload 5, 2) := by decide +kernel
theorem d_M_fixed_51 : decode c_M_fixed 51 = .ok (.ldc2_w 250, 3) := by decide +kernel
theorem d_M_fixed_54 : decode c_M_fixed 54 = .ok (.lcmp, 1) := by decide +kernel
theorem d_M_fixed_55 : decode c_M_fixed 55 = .ok (.ifCond .ne 7, 3) := by decide +kernel
theorem d_M_fixed_58 : decode c_M_fixed 58 = .ok (.iconst 3, 1) := by decide +kernel
theorem d_M_fixed_59 : decode c_M_fixed 59 = .ok (.goto 16, 3) := by decide +kernel
theorem d_M_fixed_62 : decode c_M_fixed 62 = .ok (.lload 5, 2) := by decide +kernel
theorem d_M_fixed_64 : decode c_M_fixed 64 = .ok (.invokestatic 272, 3) := by decide +kernel
theorem d_M_fixed_67 : decode c_M_fixed 67 = .ok (.ifCond .ne 7, 3) := by decide +kernel
theorem d_M_fixed_70 : decode c_M_fixed 70 = .ok (.iconst 2, 1) := by decide +kernel
theorem d_M_fixed_71 : decode c_M_fixed 71 = .ok (.goto 4, 3) := by decide +kernel
theorem d_M_fixed_74 : decode c_M_fixed 74 = .ok (.iconst 0, 1) := by decide +kernel
theorem d_M_fixed_75 : decode c_M_fixed 75 = .ok (.putfield 52, 3) := by decide +kernel
theorem d_M_fixed_78 : decode c_M_fixed 78 = .ok (.aload_n 0, 1) := by decide +kernel
theorem d_M_fixed_79 : decode c_M_fixed 79 = .ok (.getfield 52, 3) := by decide +kernel
theorem d_M_fixed_82 : decode c_M_fixed 82 = .ok (.ifCond .le 7, 3) := by decide +kernel
theorem d_M_fixed_85 : decode c_M_fixed 85 = .ok (.iconst 0, 1) := by decide +kernel
theorem d_M_fixed_86 : decode c_M_fixed 86 = .ok (.goto 6, 3) := by decide +kernel
theorem d_M_fixed_89 : decode c_M_fixed 89 = .ok (.lload 5, 2) := by decide +kernel
theorem d_M_fixed_91 : decode c_M_fixed 91 = .ok (.l2i, 1) := by decide +kernel
theorem d_M_fixed_92 : decode c_M_fixed 92 = .ok (.ireturn, 1) := by decide +kernel
theorem d_M_hasCalendar_0 : decode c_M_hasCalendar 0 = .ok (.iload_n 1, 1) := by decide +kernel
theorem d_M_hasCalendar_1 : decode c_M_hasCalendar 1 = .ok (.ifCond .lt 9, 3) := by decide +kernel
theorem d_M_hasCalendar_4 : decode c_M_hasCalendar 4 = .ok (.iload_n 1, 1) := by decide +kernel
theorem d_M_hasCalendar_5 : decode c_M_hasCalendar 5 = .ok (.bipush 11, 2) := by decide +kernel
theorem d_M_hasCalendar_7 : decode c_M_hasCalendar 7 = .ok (.if_icmp .le 27, 3) := by decide +kernel
theorem d_M_hasCalendar_10 : decode c_M_hasCalendar 10 = .ok (.iload_n 1, 1) := by decide +kernel
theorem d_M_hasCalendar_11 : decode c_M_hasCalendar 11 = .ok (.bipush 12, 2) := by decide +kernel
theorem d_M_hasCalendar_13 : decode c_M_hasCalendar 13 = .ok (.if_icmp .lt 25, 3) := by decide +kernel
theorem d_M_hasCalendar_16 : decode c_M_hasCalendar 16 = .ok (.iload_n 1, 1) := by decide +kernel
theorem d_M_hasCalendar_17 : decode c_M_hasCalendar 17 = .ok (.bipush 13, 2) := by decide +kernel
theorem d_M_hasCalendar_19 : decode c_M_hasCalendar 19 = .ok (.if_icmp .gt 19, 3) := by decide +kernel
theorem d_M_hasCalendar_22 : decode c_M_hasCalendar 22 = .ok (.aload_n 0, 1) := by decide +kernel
theorem d_M_hasCalendar_23 : decode c_M_hasCalendar 23 = .ok (.getfield 17, 3) := by decide +kernel
theorem d_M_hasCalendar_26 : decode c_M_hasCalendar 26 = .ok (.iload_n 1, 1) := by decide +kernel
theorem d_M_hasCalendar_27 : decode c_M_hasCalendar 27 = .ok (.bipush 12, 2) := by decide +kernel
theorem d_M_hasCalendar_29 : decode c_M_hasCalendar 29 = .ok (.isub, 1) := by decide +kernel
theorem d_M_hasCalendar_30 : decode c_M_hasCalendar 30 = .ok (.baload, 1) := by decide +kernel
theorem d_M_hasCalendar_31 : decode c_M_hasCalendar 31 = .ok (.ifCond .eq 7, 3) := by decide +kernel
theorem d_M_hasCalendar_34 : decode c_M_hasCalendar 34 = .ok (.iconst 1, 1) := by decide +kernel
theorem d_M_hasCalendar_35 : decode c_M_hasCalendar 35 = .ok (.goto 4, 3) := by decide +kernel
theorem d_M_hasCalendar_38 : decode c_M_hasCalendar 38 = .ok (.iconst 0, 1) := by decide +kernel
theorem d_M_hasCalendar_39 : decode c_M_hasCalendar 39 = .ok (.ireturn, 1) := by decide +kernel
theorem d_M_hasDate_0 : decode c_M_hasDate 0 = .ok (.aload_n 0, 1) := by decide +kernel
theorem d_M_hasDate_1 : decode c_M_hasDate 1 = .ok (.iload_n 1, 1) := by decide +kernel
theorem d_M_hasDate_2 : decode c_M_hasDate 2 = .ok (.lload 5, 2) := by decide +kernel
theorem d_M_hasDate_4 : decode c_M_hasDate 4 = .ok (.invokevirtual 243, 3) := by decide +kernel
theorem d_M_hasDate_7 : decode c_M_hasDate 7 = .ok (.aload_n 0, 1) := by decide +kernel
theorem d_M_hasDate_8 : decode c_M_hasDate 8 = .ok (.getfield 212, 3) := by decide +kernel
theorem d_M_hasDate_11 : decode c_M_hasDate 11 = .ok (.iload_n 2, 1) := by decide +kernel
theorem d_M_hasDate_12 : decode c_M_hasDate 12 = .ok (.i2l, 1) := by decide +kernel
theorem d_M_hasDate_13 : decode c_M_hasDate 13 = .ok (.lcmp, 1) := by decide +kernel
theorem d_M_hasDate_14 : decode c_M_hasDate 14 = .ok (.ifCond .ne 24, 3) := by decide +kernel
theorem d_M_hasDate_17 : decode c_M_hasDate 17 = .ok (.aload_n 0, 1) := by decide +kernel
theorem d_M_hasDate_18 : decode c_M_hasDate 18 = .ok (.getfield 217, 3) := by decide +kernel
theorem d_M_hasDate_21 : decode c_M_hasDate 21 = .ok (.iload_n 3, 1) := by decide +kernel
theorem d_M_hasDate_22 : decode c_M_hasDate 22 = .ok (.if_icmp .ne 16, 3) := by decide +kernel
theorem d_M_hasDate_25 : decode c_M_hasDate 25 = .ok (.aload_n 0, 1) := by decide +kernel
theorem d_M_hasDate_26 : decode c_M_hasDate 26 = .ok (.getfield 222, 3) := by decide +kernel
theorem d_M_hasDate_29 : decode c_M_hasDate 29 = .ok (.iload 4, 2) := by decide +kernel
theorem d_M_hasDate_31 : decode c_M_hasDate 31 = .ok (.if_icmp .ne 7, 3) := by decide +kernel
theorem d_M_hasDate_34 : decode c_M_hasDate 34 = .ok (.iconst 1, 1) := by decide +kernel
theorem d_M_hasDate_35 : decode c_M_hasDate 35 = .ok (.goto 4, 3) := by decide +kernel
theorem d_M_hasDate_38 : decode c_M_hasDate 38 = .ok (.iconst 0, 1) := by decide +kernel
theorem d_M_hasDate_39 : decode c_M_hasDate 39 = .ok (.ireturn, 1) := by decide +kernel
theorem d_M_inRange_0 : decode c_M_inRange 0 = .ok (.lload_n 0, 1) := by decide +kernel
theorem d_M_inRange_1 : decode c_M_inRange 1 = .ok (.ldc2_w 263, 3) := by decide +kernel
theorem d_M_inRange_4 : decode c_M_inRange 4 = .ok (.lcmp, 1) := by decide +kernel
theorem d_M_inRange_5 : decode c_M_inRange 5 = .ok (.ifCond .lt 15, 3) := by decide +kernel
theorem d_M_inRange_8 : decode c_M_inRange 8 = .ok (.lload_n 0, 1) := by decide +kernel
theorem d_M_inRange_9 : decode c_M_inRange 9 = .ok (.ldc2_w 265, 3) := by decide +kernel
theorem d_M_inRange_12 : decode c_M_inRange 12 = .ok (.lcmp, 1) := by decide +kernel
theorem d_M_inRange_13 : decode c_M_inRange 13 = .ok (.ifCond .gt 7, 3) := by decide +kernel
theorem d_M_inRange_16 : decode c_M_inRange 16 = .ok (.iconst 1, 1) := by decide +kernel
theorem d_M_inRange_17 : decode c_M_inRange 17 = .ok (.goto 4, 3) := by decide +kernel
theorem d_M_inRange_20 : decode c_M_inRange 20 = .ok (.iconst 0, 1) := by decide +kernel
theorem d_M_inRange_21 : decode c_M_inRange 21 = .ok (.ireturn, 1) := by decide +kernel
theorem d_M_isLeap_0 : decode c_M_isLeap 0 = .ok (.iload_n 1, 1) := by decide +kernel
theorem d_M_isLeap_1 : decode c_M_isLeap 1 = .ok (.tableswitch 224 0 9 #[55, 60, 224, 78, 78, 98, 126, 164, 189, 198], 55) := by decide +kernel
theorem d_M_isLeap_56 : decode c_M_isLeap 56 = .ok (.lload_n 2, 1) := by decide +kernel
theorem d_M_isLeap_57 : decode c_M_isLeap 57 = .ok (.invokestatic 72, 3) := by decide +kernel
theorem d_M_isLeap_60 : decode c_M_isLeap 60 = .ok (.ireturn, 1) := by decide +kernel
theorem d_M_isLeap_61 : decode c_M_isLeap 61 = .ok (.lload_n 2, 1) := by decide +kernel
theorem d_M_isLeap_62 : decode c_M_isLeap 62 = .ok (.ldc2_w 63, 3) := by decide +kernel
theorem d_M_isLeap_65 : decode c_M_isLeap 65 = .ok (.invokestatic 65, 3) := by decide +kernel
theorem d_M_isLeap_68 : decode c_M_isLeap 68 = .ok (.lconst 0, 1) := by decide +kernel
theorem d_M_isLeap_69 : decode c_M_isLeap 69 = .ok (.lcmp, 1) := by decide +kernel
theorem d_M_isLeap_70 : decode c_M_isLeap 70 = .ok (.ifCond .ne 7, 3) := by decide +kernel
theorem d_M_isLeap_73 : decode c_M_isLeap 73 = .ok (.iconst 1, 1) := by decide +kernel
theorem d_M_isLeap_74 : decode c_M_isLeap 74 = .ok (.goto 4, 3) := by decide +kernel
theorem d_M_isLeap_77 : decode c_M_isLeap 77 = .ok (.iconst 0, 1) := by decide +kernel
theorem d_M_isLeap_78 : decode c_M_isLeap 78 = .ok (.ireturn, 1) := by decide +kernel
theorem d_M_isLeap_79 : decode c_M_isLeap 79 = .ok (.lload_n 2, 1) := by decide +kernel
theorem d_M_isLeap_80 : decode c_M_isLeap 80 = .ok (.ldc2_w 63, 3) := by decide +kernel
theorem d_M_isLeap_83 : decode c_M_isLeap 83 = .ok (.invokestatic 65, 3) := by decide +kernel
theorem d_M_isLeap_86 : decode c_M_isLeap 86 = .ok (.ldc2_w 76, 3) := by decide +kernel
theorem d_M_isLeap_89 : decode c_M_isLeap 89 = .ok (.lcmp, 1) := by decide +kernel
theorem d_M_isLeap_90 : decode c_M_isLeap 90 = .ok (.ifCond .ne 7, 3) := by decide +kernel
theorem d_M_isLeap_93 : decode c_M_isLeap 93 = .ok (.iconst 1, 1) := by decide +kernel
theorem d_M_isLeap_94 : decode c_M_isLeap 94 = .ok (.goto 4, 3) := by decide +kernel
theorem d_M_isLeap_97 : decode c_M_isLeap 97 = .ok (.iconst 0, 1) := by decide +kernel
theorem d_M_isLeap_98 : decode c_M_isLeap 98 = .ok (.ireturn, 1) := by decide +kernel
theorem d_M_isLeap_99 : decode c_M_isLeap 99 = .ok (.ldc2_w 78, 3) := by decide +kernel
theorem d_M_isLeap_102 : decode c_M_isLeap 102 = .ok (.lload_n 2, 1) := by decide +kernel
theorem d_M_isLeap_103 : decode c_M_isLeap 103 = .ok (.lmul, 1) := by decide +kernel
theorem d_M_isLeap_104 : decode c_M_isLeap 104 = .ok (.ldc2_w 80, 3) := by decide +kernel
theorem d_M_isLeap_107 : decode c_M_isLeap 107 = .ok (.ladd, 1) := by decide +kernel
theorem d_M_isLeap_108 : decode c_M_isLeap 108 = .ok (.ldc2_w 82, 3) := by decide +kernel
theorem d_M_isLeap_111 : decode c_M_isLeap 111 = .ok (.invokestatic 65, 3) := by decide +kernel
theorem d_M_isLeap_114 : decode c_M_isLeap 114 = .ok (.ldc2_w 78, 3) := by decide +kernel
theorem d_M_isLeap_117 : decode c_M_isLeap 117 = .ok (.lcmp, 1) := by decide +kernel
theorem d_M_isLeap_118 : decode c_M_isLeap 118 = .ok (.ifCond .ge 7, 3) := by decide +kernel
theorem d_M_isLeap_121 : decode c_M_isLeap 121 = .ok (.iconst 1, 1) := by decide +kernel
theorem d_M_isLeap_122 : decode c_M_isLeap 122 = .ok (.goto 4, 3) := by decide +kernel
theorem d_M_isLeap_125 : decode c_M_isLeap 125 = .ok (.iconst 0, 1) := by decide +kernel
theorem d_M_isLeap_126 : decode c_M_isLeap 126 = .ok (.ireturn, 1) := by decide +kernel
theorem d_M_isLeap_127 : decode c_M_isLeap 127 = .ok (.lload_n 2, 1) := by decide +kernel
theorem d_M_isLeap_128 : decode c_M_isLeap 128 = .ok (.ldc2_w 84, 3) := by decide +kernel
theorem d_M_isLeap_131 : decode c_M_isLeap 131 = .ok (.lsub, 1) := by decide +kernel
theorem d_M_isLeap_132 : decode c_M_isLeap 132 = .ok (.ldc2_w 86, 3) := by decide +kernel
theorem d_M_isLeap_135 : decode c_M_isLeap 135 = .ok (.invokestatic 65, 3) := by decide +kernel
theorem d_M_isLeap_138 : decode c_M_isLeap 138 = .ok (.ldc2_w 88, 3) := by decide +kernel
theorem d_M_isLeap_141 : decode c_M_isLeap 141 = .ok (.ladd, 1) := by decide +kernel
theorem d_M_isLeap_142 : decode c_M_isLeap 142 = .ok (.ldc2_w 90, 3) := by decide +kernel
theorem d_M_isLeap_145 : decode c_M_isLeap 145 = .ok (.lmul, 1) := by decide +kernel
theorem d_M_isLeap_146 : decode c_M_isLeap 146 = .ok (.ldc2_w 92, 3) := by decide +kernel
theorem d_M_isLeap_149 : decode c_M_isLeap 149 = .ok (.invokestatic 65, 3) := by decide +kernel
theorem d_M_isLeap_152 : decode c_M_isLeap 152 = .ok (.ldc2_w 90, 3) := by decide +kernel
theorem d_M_isLeap_155 : decode c_M_isLeap 155 = .ok (.lcmp, 1) := by decide +kernel
theorem d_M_isLeap_156 : decode c_M_isLeap 156 = .ok (.ifCond .ge 7, 3) := by decide +kernel
theorem d_M_isLeap_159 : decode c_M_isLeap 159 = .ok (.iconst 1, 1) := by decide +kernel
theorem d_M_isLeap_160 : decode c_M_isLeap 160 = .ok (.goto 4, 3) := by decide +kernel
theorem d_M_isLeap_163 : decode c_M_isLeap 163 = .ok (.iconst 0, 1) := by decide +kernel
theorem d_M_isLeap_164 : decode c_M_isLeap 164 = .ok (.ireturn, 1) := by decide +kernel
theorem d_M_isLeap_165 : decode c_M_isLeap 165 = .ok (.lload_n 2, 1) := by decide +kernel
theorem d_M_isLeap_166 : decode c_M_isLeap 166 = .ok (.invokestatic 72, 3) := by decide +kernel
theorem d_M_isLeap_169 : decode c_M_isLeap 169 = .ok (.ifCond .eq 19, 3) := by decide +kernel
theorem d_M_isLeap_172 : decode c_M_isLeap 172 = .ok (.lload_n 2, 1) := by decide +kernel
theorem d_M_isLeap_173 : decode c_M_isLeap 173 = .ok (.ldc2_w 94, 3) := by decide +kernel
theorem d_M_isLeap_176 : decode c_M_isLeap 176 = .ok (.invokestatic 65, 3) := by decide +kernel
theorem d_M_isLeap_179 : decode c_M_isLeap 179 = .ok (.lconst 0, 1) := by decide +kernel
theorem d_M_isLeap_180 : decode c_M_isLeap 180 = .ok (.lcmp, 1) := by decide +kernel
theorem d_M_isLeap_181 : decode c_M_isLeap 181 = .ok (.ifCond .eq 7, 3) := by decide +kernel
theorem d_M_isLeap_184 : decode c_M_isLeap 184 = .ok (.iconst 1, 1) := by decide +kernel
theorem d_M_isLeap_185 : decode c_M_isLeap 185 = .ok (.goto 4, 3) := by decide +kernel
theorem d_M_isLeap_188 : decode c_M_isLeap 188 = .ok (.iconst 0, 1) := by decide +kernel
theorem d_M_isLeap_189 : decode c_M_isLeap 189 = .ok (.ireturn, 1) := by decide +kernel
theorem d_M_isLeap_190 : decode c_M_isLeap 190 = .ok (.lload_n 2, 1) := by decide +kernel
theorem d_M_isLeap_191 : decode c_M_isLeap 191 = .ok (.ldc2_w 96, 3) := by decide +kernel
theorem d_M_isLeap_194 : decode c_M_isLeap 194 = .ok (.ladd, 1) := by decide +kernel
theorem d_M_isLeap_195 : decode c_M_isLeap 195 = .ok (.invokestatic 72, 3) := by decide +kernel
theorem d_M_isLeap_198 : decode c_M_isLeap 198 = .ok (.ireturn, 1) := by decide +kernel
theorem d_M_isLeap_199 : decode c_M_isLeap 199 = .ok (.ldc2_w 98, 3) := by decide +kernel
theorem d_M_isLeap_202 : decode c_M_isLeap 202 = .ok (.lload_n 2, 1) := by decide +kernel
theorem d_M_isLeap_203 : decode c_M_isLeap 203 = .ok (.lmul, 1) := by decide +kernel
theorem d_M_isLeap_204 : decode c_M_isLeap 204 = .ok (.lconst 1, 1) := by decide +kernel
theorem d_M_isLeap_205 : decode c_M_isLeap 205 = .ok (.ladd, 1) := by decide +kernel
theorem d_M_isLeap_206 : decode c_M_isLeap 206 = .ok (.ldc2_w 100, 3) := by decide +kernel
theorem d_M_isLeap_209 : decode c_M_isLeap 209 = .ok (.invokestatic 65, 3) := by decide +kernel
theorem d_M_isLeap_212 : decode c_M_isLeap 212 = .ok (.ldc2_w 98, 3) := by decide +kernel
theorem d_M_isLeap_215 : decode c_M_isLeap 215 = .ok (.lcmp, 1) := by decide +kernel
theorem d_M_isLeap_216 : decode c_M_isLeap 216 = .ok (.ifCond .ge 7, 3) := by decide +kernel
theorem d_M_isLeap_219 : decode c_M_isLeap 219 = .ok (.iconst 1, 1) := by decide +kernel
theorem d_M_isLeap_220 : decode c_M_isLeap 220 = .ok (.goto 4, 3) := by decide +kernel
theorem d_M_isLeap_223 : decode c_M_isLeap 223 = .ok (.iconst 0, 1) := by decide +kernel
theorem d_M_isLeap_224 : decode c_M_isLeap 224 = .ok (.ireturn, 1) := by decide +kernel
theorem d_M_isLeap_225 : decode c_M_isLeap 225 = .ok (.aload_n 0, 1) := by decide +kernel
theorem d_M_isLeap_226 : decode c_M_isLeap 226 = .ok (.getfield 30, 3) := by decide +kernel
theorem d_M_isLeap_229 : decode c_M_isLeap 229 = .ok (.iload_n 1, 1) := by decide +kernel
theorem d_M_isLeap_230 : decode c_M_isLeap 230 = .ok (.bipush 12, 2) := by decide +kernel
theorem d_M_isLeap_232 : decode c_M_isLeap 232 = .ok (.isub, 1) := by decide +kernel
theorem d_M_isLeap_233 : decode c_M_isLeap 233 = .ok (.iaload, 1) := by decide +kernel
theorem d_M_isLeap_234 : decode c_M_isLeap 234 = .ok (.i2l, 1) := by decide +kernel
theorem d_M_isLeap_235 : decode c_M_isLeap 235 = .ok (.lload_n 2, 1) := by decide +kernel
theorem d_M_isLeap_236 : decode c_M_isLeap 236 = .ok (.lmul, 1) := by decide +kernel
theorem d_M_isLeap_237 : decode c_M_isLeap 237 = .ok (.aload_n 0, 1) := by decide +kernel
theorem d_M_isLeap_238 : decode c_M_isLeap 238 = .ok (.getfield 33, 3) := by decide +kernel
theorem d_M_isLeap_241 : decode c_M_isLeap 241 = .ok (.iload_n 1, 1) := by decide +kernel
theorem d_M_isLeap_242 : decode c_M_isLeap 242 = .ok (.bipush 12, 2) := by decide +kernel
theorem d_M_isLeap_244 : decode c_M_isLeap 244 = .ok (.isub, 1) := by decide +kernel
theorem d_M_isLeap_245 : decode c_M_isLeap 245 = .ok (.iaload, 1) := by decide +kernel
theorem d_M_isLeap_246 : decode c_M_isLeap 246 = .ok (.i2l, 1) := by decide +kernel
theorem d_M_isLeap_247 : decode c_M_isLeap 247 = .ok (.ladd, 1) := by decide +kernel
theorem d_M_isLeap_248 : decode c_M_isLeap 248 = .ok (.aload_n 0, 1) := by decide +kernel
theorem d_M_isLeap_249 : decode c_M_isLeap 249 = .ok (.getfield 36, 3) := by decide +kernel
theorem d_M_isLeap_252 : decode c_M_isLeap 252 = .ok (.iload_n 1, 1) := by decide +kernel
theorem d_M_isLeap_253 : decode c_M_isLeap 253 = .ok (.bipush 12, 2) := by decide +kernel
theorem d_M_isLeap_255 : decode c_M_isLeap 255 = .ok (.isub, 1) := by decide +kernel
theorem d_M_isLeap_256 : decode c_M_isLeap 256 = .ok (.iaload, 1) := by decide +kernel
theorem d_M_isLeap_257 : decode c_M_isLeap 257 = .ok (.i2l, 1) := by decide +kernel
theorem d_M_isLeap_258 : decode c_M_isLeap 258 = .ok (.invokestatic 65, 3) := by decide +kernel
theorem d_M_isLeap_261 : decode c_M_isLeap 261 = .ok (.aload_n 0, 1) := by decide +kernel
theorem d_M_isLeap_262 : decode c_M_isLeap 262 = .ok (.getfield 30, 3) := by decide +kernel
theorem d_M_isLeap_265 : decode c_M_isLeap 265 = .ok (.iload_n 1, 1) := by decide +kernel
theorem d_M_isLeap_266 : decode c_M_isLeap 266 = .ok (.bipush 12, 2) := by decide +kernel
theorem d_M_isLeap_268 : decode c_M_isLeap 268 = .ok (.isub, 1) := by decide +kernel
theorem d_M_isLeap_269 : decode c_M_isLeap 269 = .ok (.iaload, 1) := by decide +kernel
theorem d_M_isLeap_270 : decode c_M_isLeap 270 = .ok (.i2l, 1) := by decide +kernel
theorem d_M_isLeap_271 : decode c_M_isLeap 271 = .ok (.lcmp, 1) := by decide +kernel
theorem d_M_isLeap_272 : decode c_M_isLeap 272 = .ok (.ifCond .ge 7, 3) := by decide +kernel
theorem d_M_isLeap_275 : decode c_M_isLeap 275 = .ok (.iconst 1, 1) := by decide +kernel
theorem d_M_isLeap_276 : decode c_M_isLeap 276 = .ok (.goto 4, 3) := by decide +kernel
theorem d_M_isLeap_279 : decode c_M_isLeap 279 = .ok (.iconst 0, 1) := by decide +kernel
theorem d_M_isLeap_280 : decode c_M_isLeap 280 = .ok (.ireturn, 1) := by decide +kernel
theorem d_M_isYear_0 : decode c_M_isYear 0 = .ok (.iload_n 0, 1) := by decide +kernel
theorem d_M_isYear_1 : decode c_M_isYear 1 = .ok (.ldc_w 275, 3) := by decide +kernel
theorem d_M_isYear_4 : decode c_M_isYear 4 = .ok (.if_icmp .lt 14, 3) := by decide +kernel
theorem d_M_isYear_7 : decode c_M_isYear 7 = .ok (.iload_n 0, 1) := by decide +kernel
theorem d_M_isYear_8 : decode c_M_isYear 8 = .ok (.ldc_w 276, 3) := by decide +kernel
theorem d_M_isYear_11 : decode c_M_isYear 11 = .ok (.if_icmp .gt 7, 3) := by decide +kernel
theorem d_M_isYear_14 : decode c_M_isYear 14 = .ok (.iconst 1, 1) := by decide +kernel
theorem d_M_isYear_15 : decode c_M_isYear 15 = .ok (.goto 4, 3) := by decide +kernel
theorem d_M_isYear_18 : decode c_M_isYear 18 = .ok (.iconst 0, 1) := by decide +kernel
theorem d_M_isYear_19 : decode c_M_isYear 19 = .ok (.ireturn, 1) := by decide +kernel
theorem d_M_leap_0 : decode c_M_leap 0 = .ok (.aload_n 0, 1) := by decide +kernel
theorem d_M_leap_1 : decode c_M_leap 1 = .ok (.iload_n 1, 1) := by decide +kernel
theorem d_M_leap_2 : decode c_M_leap 2 = .ok (.iconst 2, 1) := by decide +kernel
theorem d_M_leap_3 : decode c_M_leap 3 = .ok (.if_icmp .eq 15, 3) := by decide +kernel
theorem d_M_leap_6 : decode c_M_leap 6 = .ok (.iload_n 1, 1) := by decide +kernel
theorem d_M_leap_7 : decode c_M_leap 7 = .ok (.bipush 10, 2) := by decide +kernel
theorem d_M_leap_9 : decode c_M_leap 9 = .ok (.if_icmp .eq 9, 3) := by decide +kernel
theorem d_M_leap_12 : decode c_M_leap 12 = .ok (.iload_n 1, 1) := by decide +kernel
theorem d_M_leap_13 : decode c_M_leap 13 = .ok (.bipush 11, 2) := by decide +kernel
theorem d_M_leap_15 : decode c_M_leap 15 = .ok (.if_icmp .ne 7, 3) := by decide +kernel
theorem d_M_leap_18 : decode c_M_leap 18 = .ok (.iconst 1, 1) := by decide +kernel
theorem d_M_leap_19 : decode c_M_leap 19 = .ok (.goto 42, 3) := by decide +kernel
theorem d_M_leap_22 : decode c_M_leap 22 = .ok (.aload_n 0, 1) := by decide +kernel
theorem d_M_leap_23 : decode c_M_leap 23 = .ok (.iload_n 1, 1) := by decide +kernel
theorem d_M_leap_24 : decode c_M_leap 24 = .ok (.invokevirtual 269, 3) := by decide +kernel
theorem d_M_leap_27 : decode c_M_leap 27 = .ok (.ifCond .ne 7, 3) := by decide +kernel
theorem d_M_leap_30 : decode c_M_leap 30 = .ok (.iconst 2, 1) := by decide +kernel
theorem d_M_leap_31 : decode c_M_leap 31 = .ok (.goto 30, 3) := by decide +kernel
theorem d_M_leap_34 : decode c_M_leap 34 = .ok (.iload_n 1, 1) := by decide +kernel
theorem d_M_leap_35 : decode c_M_leap 35 = .ok (.invokestatic 59, 3) := by decide +kernel
theorem d_M_leap_38 : decode c_M_leap 38 = .ok (.ifCond .eq 11, 3) := by decide +kernel
theorem d_M_leap_41 : decode c_M_leap 41 = .ok (.iload_n 2, 1) := by decide +kernel
theorem d_M_leap_42 : decode c_M_leap 42 = .ok (.ifCond .ne 7, 3) := by decide +kernel
theorem d_M_leap_45 : decode c_M_leap 45 = .ok (.iconst 3, 1) := by decide +kernel
theorem d_M_leap_46 : decode c_M_leap 46 = .ok (.goto 15, 3) := by decide +kernel
theorem d_M_leap_49 : decode c_M_leap 49 = .ok (.iload_n 2, 1) := by decide +kernel
theorem d_M_leap_50 : decode c_M_leap 50 = .ok (.invokestatic 277, 3) := by decide +kernel
theorem d_M_leap_53 : decode c_M_leap 53 = .ok (.ifCond .ne 7, 3) := by decide +kernel
theorem d_M_leap_56 : decode c_M_leap 56 = .ok (.iconst 4, 1) := by decide +kernel
theorem d_M_leap_57 : decode c_M_leap 57 = .ok (.goto 4, 3) := by decide +kernel
theorem d_M_leap_60 : decode c_M_leap 60 = .ok (.iconst 0, 1) := by decide +kernel
theorem d_M_leap_61 : decode c_M_leap 61 = .ok (.putfield 52, 3) := by decide +kernel
theorem d_M_leap_64 : decode c_M_leap 64 = .ok (.aload_n 0, 1) := by decide +kernel
theorem d_M_leap_65 : decode c_M_leap 65 = .ok (.getfield 52, 3) := by decide +kernel
theorem d_M_leap_68 : decode c_M_leap 68 = .ok (.ifCond .ne 21, 3) := by decide +kernel
theorem d_M_leap_71 : decode c_M_leap 71 = .ok (.aload_n 0, 1) := by decide +kernel
theorem d_M_leap_72 : decode c_M_leap 72 = .ok (.iload_n 1, 1) := by decide +kernel
theorem d_M_leap_73 : decode c_M_leap 73 = .ok (.iload_n 1, 1) := by decide +kernel
theorem d_M_leap_74 : decode c_M_leap 74 = .ok (.iload_n 2, 1) := by decide +kernel
theorem d_M_leap_75 : decode c_M_leap 75 = .ok (.i2l, 1) := by decide +kernel
theorem d_M_leap_76 : decode c_M_leap 76 = .ok (.invokestatic 256, 3) := by decide +kernel
theorem d_M_leap_79 : decode c_M_leap 79 = .ok (.invokevirtual 102, 3) := by decide +kernel
theorem d_M_leap_82 : decode c_M_leap 82 = .ok (.ifCond .eq 7, 3) := by decide +kernel
theorem d_M_leap_85 : decode c_M_leap 85 = .ok (.iconst 1, 1) := by decide +kernel
theorem d_M_leap_86 : decode c_M_leap 86 = .ok (.goto 4, 3) := by decide +kernel
theorem d_M_leap_89 : decode c_M_leap 89 = .ok (.iconst 0, 1) := by decide +kernel
theorem d_M_leap_90 : decode c_M_leap 90 = .ok (.ireturn, 1) := by decide +kernel
theorem d_M_leap0_0 : decode c_M_leap0 0 = .ok (.lload_n 0, 1) := by decide +kernel
theorem d_M_leap0_1 : decode c_M_leap0 1 = .ok (.ldc2_w 63, 3) := by decide +kernel
theorem d_M_leap0_4 : decode c_M_leap0 4 = .ok (.invokestatic 65, 3) := by decide +kernel
theorem d_M_leap0_7 : decode c_M_leap0 7 = .ok (.lconst 0, 1) := by decide +kernel
theorem d_M_leap0_8 : decode c_M_leap0 8 = .ok (.lcmp, 1) := by decide +kernel
theorem d_M_leap0_9 : decode c_M_leap0 9 = .ok (.ifCond .ne 31, 3) := by decide +kernel
theorem d_M_leap0_12 : decode c_M_leap0 12 = .ok (.lload_n 0, 1) := by decide +kernel
theorem d_M_leap0_13 : decode c_M_leap0 13 = .ok (.ldc2_w 68, 3) := by decide +kernel
theorem d_M_leap0_16 : decode c_M_leap0 16 = .ok (.invokestatic 65, 3) := by decide +kernel
theorem d_M_leap0_19 : decode c_M_leap0 19 = .ok (.lconst 0, 1) := by decide +kernel
theorem d_M_leap0_20 : decode c_M_leap0 20 = .ok (.lcmp, 1) := by decide +kernel
theorem d_M_leap0_21 : decode c_M_leap0 21 = .ok (.ifCond .ne 15, 3) := by decide +kernel
theorem d_M_leap0_24 : decode c_M_leap0 24 = .ok (.lload_n 0, 1) := by decide +kernel
theorem d_M_leap0_25 : decode c_M_leap0 25 = .ok (.ldc2_w 70, 3) := by decide +kernel
theorem d_M_leap0_28 : decode c_M_leap0 28 = .ok (.invokestatic 65, 3) := by decide +kernel
theorem d_M_leap0_31 : decode c_M_leap0 31 = .ok (.lconst 0, 1) := by decide +kernel
theorem d_M_leap0_32 : decode c_M_leap0 32 = .ok (.lcmp, 1) := by decide +kernel
theorem d_M_leap0_33 : decode c_M_leap0 33 = .ok (.ifCond .ne 7, 3) := by decide +kernel
theorem d_M_leap0_36 : decode c_M_leap0 36 = .ok (.iconst 1, 1) := by decide +kernel
theorem d_M_leap0_37 : decode c_M_leap0 37 = .ok (.goto 4, 3) := by decide +kernel
theorem d_M_leap0_40 : decode c_M_leap0 40 = .ok (.iconst 0, 1) := by decide +kernel
theorem d_M_leap0_41 : decode c_M_leap0 41 = .ok (.ireturn, 1) := by decide +kernel
theorem d_M_lengthOf_0 : decode c_M_lengthOf 0 = .ok (.aload_n 0, 1) := by decide +kernel
theorem d_M_lengthOf_1 : decode c_M_lengthOf 1 = .ok (.iload_n 1, 1) := by decide +kernel
theorem d_M_lengthOf_2 : decode c_M_lengthOf 2 = .ok (.lload_n 2, 1) := by decide +kernel
theorem d_M_lengthOf_3 : decode c_M_lengthOf 3 = .ok (.invokevirtual 102, 3) := by decide +kernel
theorem d_M_lengthOf_6 : decode c_M_lengthOf 6 = .ok (.istore 5, 2) := by decide +kernel
theorem d_M_lengthOf_8 : decode c_M_lengthOf 8 = .ok (.iload_n 1, 1) := by decide +kernel
theorem d_M_lengthOf_9 : decode c_M_lengthOf 9 = .ok (.tableswitch 226 0 9 #[55, 55, 226, 111, 111, 135, 163, 111, 195, 216], 55) := by decide +kernel
theorem d_M_lengthOf_64 : decode c_M_lengthOf 64 = .ok (.iload 4, 2) := by decide +kernel
theorem d_M_lengthOf_66 : decode c_M_lengthOf 66 = .ok (.iconst 2, 1) := by decide +kernel
theorem d_M_lengthOf_67 : decode c_M_lengthOf 67 = .ok (.if_icmp .ne 18, 3) := by decide +kernel
theorem d_M_lengthOf_70 : decode c_M_lengthOf 70 = .ok (.iload 5, 2) := by decide +kernel
theorem d_M_lengthOf_72 : decode c_M_lengthOf 72 = .ok (.ifCond .eq 8, 3) := by decide +kernel
theorem d_M_lengthOf_75 : decode c_M_lengthOf 75 = .ok (.bipush 29, 2) := by decide +kernel
theorem d_M_lengthOf_77 : decode c_M_lengthOf 77 = .ok (.goto 42, 3) := by decide +kernel
theorem d_M_lengthOf_80 : decode c_M_lengthOf 80 = .ok (.bipush 28, 2) := by decide +kernel
theorem d_M_lengthOf_82 : decode c_M_lengthOf 82 = .ok (.goto 37, 3) := by decide +kernel
theorem d_M_lengthOf_85 : decode c_M_lengthOf 85 = .ok (.iload 4, 2) := by decide +kernel
theorem d_M_lengthOf_87 : decode c_M_lengthOf 87 = .ok (.iconst 4, 1) := by decide +kernel
theorem d_M_lengthOf_88 : decode c_M_lengthOf 88 = .ok (.if_icmp .eq 24, 3) := by decide +kernel
theorem d_M_lengthOf_91 : decode c_M_lengthOf 91 = .ok (.iload 4, 2) := by decide +kernel
theorem d_M_lengthOf_93 : decode c_M_lengthOf 93 = .ok (.bipush 6, 2) := by decide +kernel
theorem d_M_lengthOf_95 : decode c_M_lengthOf 95 = .ok (.if_icmp .eq 17, 3) := by decide +kernel
theorem d_M_lengthOf_98 : decode c_M_lengthOf 98 = .ok (.iload 4, 2) := by decide +kernel
theorem d_M_lengthOf_100 : decode c_M_lengthOf 100 = .ok (.bipush 9, 2) := by decide +kernel
theorem d_M_lengthOf_102 : decode c_M_lengthOf 102 = .ok (.if_icmp .eq 10, 3) := by decide +kernel
theorem d_M_lengthOf_105 : decode c_M_lengthOf 105 = .ok (.iload 4, 2) := by decide +kernel
theorem d_M_lengthOf_107 : decode c_M_lengthOf 107 = .ok (.bipush 11, 2) := by decide +kernel
theorem d_M_lengthOf_109 : decode c_M_lengthOf 109 = .ok (.if_icmp .ne 8, 3) := by decide +kernel
theorem d_M_lengthOf_112 : decode c_M_lengthOf 112 = .ok (.bipush 30, 2) := by decide +kernel
theorem d_M_lengthOf_114 : decode c_M_lengthOf 114 = .ok (.goto 5, 3) := by decide +kernel
theorem d_M_lengthOf_117 : decode c_M_lengthOf 117 = .ok (.bipush 31, 2) := by decide +kernel
theorem d_M_lengthOf_119 : decode c_M_lengthOf 119 = .ok (.ireturn, 1) := by decide +kernel
theorem d_M_lengthOf_120 : decode c_M_lengthOf 120 = .ok (.iload 4, 2) := by decide +kernel
theorem d_M_lengthOf_122 : decode c_M_lengthOf 122 = .ok (.bipush 13, 2) := by decide +kernel
theorem d_M_lengthOf_124 : decode c_M_lengthOf 124 = .ok (.if_icmp .ge 8, 3) := by decide +kernel
theorem d_M_lengthOf_127 : decode c_M_lengthOf 127 = .ok (.bipush 30, 2) := by decide +kernel
theorem d_M_lengthOf_129 : decode c_M_lengthOf 129 = .ok (.goto 14, 3) := by decide +kernel
theorem d_M_lengthOf_132 : decode c_M_lengthOf 132 = .ok (.iload 5, 2) := by decide +kernel
theorem d_M_lengthOf_134 : decode c_M_lengthOf 134 = .ok (.ifCond .eq 8, 3) := by decide +kernel
theorem d_M_lengthOf_137 : decode c_M_lengthOf 137 = .ok (.bipush 6, 2) := by decide +kernel
theorem d_M_lengthOf_139 : decode c_M_lengthOf 139 = .ok (.goto 4, 3) := by decide +kernel
theorem d_M_lengthOf_142 : decode c_M_lengthOf 142 = .ok (.iconst 5, 1) := by decide +kernel
theorem d_M_lengthOf_143 : decode c_M_lengthOf 143 = .ok (.ireturn, 1) := by decide +kernel
theorem d_M_lengthOf_144 : decode c_M_lengthOf 144 = .ok (.iload 4, 2) := by decide +kernel
theorem d_M_lengthOf_146 : decode c_M_lengthOf 146 = .ok (.iconst 2, 1) := by decide +kernel
theorem d_M_lengthOf_147 : decode c_M_lengthOf 147 = .ok (.irem, 1) := by decide +kernel
theorem d_M_lengthOf_148 : decode c_M_lengthOf 148 = .ok (.iconst 1, 1) := by decide +kernel
theorem d_M_lengthOf_149 : decode c_M_lengthOf 149 = .ok (.if_icmp .eq 15, 3) := by decide +kernel
theorem d_M_lengthOf_152 : decode c_M_lengthOf 152 = .ok (.iload 4, 2) := by decide +kernel
theorem d_M_lengthOf_154 : decode c_M_lengthOf 154 = .ok (.bipush 12, 2) := by decide +kernel
theorem d_M_lengthOf_156 : decode c_M_lengthOf 156 = .ok (.if_icmp .ne 13, 3) := by decide +kernel
theorem d_M_lengthOf_159 : decode c_M_lengthOf 159 = .ok (.iload 5, 2) := by decide +kernel
theorem d_M_lengthOf_161 : decode c_M_lengthOf 161 = .ok (.ifCond .eq 8, 3) := by decide +kernel
theorem d_M_lengthOf_164 : decode c_M_lengthOf 164 = .ok (.bipush 30, 2) := by decide +kernel
theorem d_M_lengthOf_166 : decode c_M_lengthOf 166 = .ok (.goto 5, 3) := by decide +kernel
theorem d_M_lengthOf_169 : decode c_M_lengthOf 169 = .ok (.bipush 29, 2) := by decide +kernel
theorem d_M_lengthOf_171 : decode c_M_lengthOf 171 = .ok (.ireturn, 1) := by decide +kernel
theorem d_M_lengthOf_172 : decode c_M_lengthOf 172 = .ok (.iload 4, 2) := by decide +kernel
theorem d_M_lengthOf_174 : decode c_M_lengthOf 174 = .ok (.bipush 7, 2) := by decide +kernel
theorem d_M_lengthOf_176 : decode c_M_lengthOf 176 = .ok (.if_icmp .ge 8, 3) := by decide +kernel
theorem d_M_lengthOf_179 : decode c_M_lengthOf 179 = .ok (.bipush 31, 2) := by decide +kernel
theorem d_M_lengthOf_181 : decode c_M_lengthOf 181 = .ok (.goto 22, 3) := by decide +kernel
theorem d_M_lengthOf_184 : decode c_M_lengthOf 184 = .ok (.iload 4, 2) := by decide +kernel
theorem d_M_lengthOf_186 : decode c_M_lengthOf 186 = .ok (.bipush 12, 2) := by decide +kernel
theorem d_M_lengthOf_188 : decode c_M_lengthOf 188 = .ok (.if_icmp .lt 8, 3) := by decide +kernel
theorem d_M_lengthOf_191 : decode c_M_lengthOf 191 = .ok (.iload 5, 2) := by decide +kernel
theorem d_M_lengthOf_193 : decode c_M_lengthOf 193 = .ok (.ifCond .eq 8, 3) := by decide +kernel
theorem d_M_lengthOf_196 : decode c_M_lengthOf 196 = .ok (.bipush 30, 2) := by decide +kernel
theorem d_M_lengthOf_198 : decode c_M_lengthOf 198 = .ok (.goto 5, 3) := by decide +kernel
theorem d_M_lengthOf_201 : decode c_M_lengthOf 201 = .ok (.bipush 29, 2) := by decide +kernel
theorem d_M_lengthOf_203 : decode c_M_lengthOf 203 = .ok (.ireturn, 1) := by decide +kernel
theorem d_M_lengthOf_204 : decode c_M_lengthOf 204 = .ok (.iload 4, 2) := by decide +kernel
theorem d_M_lengthOf_206 : decode c_M_lengthOf 206 = .ok (.ifCond .eq 8, 3) := by decide +kernel
theorem d_M_lengthOf_209 : decode c_M_lengthOf 209 = .ok (.bipush 19, 2) := by decide +kernel
theorem d_M_lengthOf_211 : decode c_M_lengthOf 211 = .ok (.goto 13, 3) := by decide +kernel
theorem d_M_lengthOf_214 : decode c_M_lengthOf 214 = .ok (.iload 5, 2) := by decide +kernel
theorem d_M_lengthOf_216 : decode c_M_lengthOf 216 = .ok (.ifCond .eq 7, 3) := by decide +kernel
theorem d_M_lengthOf_219 : decode c_M_lengthOf 219 = .ok (.iconst 5, 1) := by decide +kernel
theorem d_M_lengthOf_220 : decode c_M_lengthOf 220 = .ok (.goto 4, 3) := by decide +kernel
theorem d_M_lengthOf_223 : decode c_M_lengthOf 223 = .ok (.iconst 4, 1) := by decide +kernel
theorem d_M_lengthOf_224 : decode c_M_lengthOf 224 = .ok (.ireturn, 1) := by decide +kernel
theorem d_M_lengthOf_225 : decode c_M_lengthOf 225 = .ok (.aload_n 0, 1) := by decide +kernel
theorem d_M_lengthOf_226 : decode c_M_lengthOf 226 = .ok (.lload_n 2, 1) := by decide +kernel
theorem d_M_lengthOf_227 : decode c_M_lengthOf 227 = .ok (.iload 4, 2) := by decide +kernel
theorem d_M_lengthOf_229 : decode c_M_lengthOf 229 = .ok (.iload 5, 2) := by decide +kernel
theorem d_M_lengthOf_231 : decode c_M_lengthOf 231 = .ok (.invokevirtual 110, 3) := by decide +kernel
theorem d_M_lengthOf_234 : decode c_M_lengthOf 234 = .ok (.ireturn, 1) := by decide +kernel
theorem d_M_lengthOf_235 : decode c_M_lengthOf 235 = .ok (.iload 4, 2) := by decide +kernel
theorem d_M_lengthOf_237 : decode c_M_lengthOf 237 = .ok (.aload_n 0, 1) := by decide +kernel
theorem d_M_lengthOf_238 : decode c_M_lengthOf 238 = .ok (.getfield 21, 3) := by decide +kernel
theorem d_M_lengthOf_241 : decode c_M_lengthOf 241 = .ok (.iload_n 1, 1) := by decide +kernel
theorem d_M_lengthOf_242 : decode c_M_lengthOf 242 = .ok (.bipush 12, 2) := by decide +kernel
theorem d_M_lengthOf_244 : decode c_M_lengthOf 244 = .ok (.isub, 1) := by decide +kernel
theorem d_M_lengthOf_245 : decode c_M_lengthOf 245 = .ok (.iaload, 1) := by decide +kernel
theorem d_M_lengthOf_246 : decode c_M_lengthOf 246 = .ok (.if_icmp .ne 22, 3) := by decide +kernel
theorem d_M_lengthOf_249 : decode c_M_lengthOf 249 = .ok (.iload 5, 2) := by decide +kernel
theorem d_M_lengthOf_251 : decode c_M_lengthOf 251 = .ok (.ifCond .eq 17, 3) := by decide +kernel
theorem d_M_lengthOf_254 : decode c_M_lengthOf 254 = .ok (.aload_n 0, 1) := by decide +kernel
theorem d_M_lengthOf_255 : decode c_M_lengthOf 255 = .ok (.getfield 24, 3) := by decide +kernel
theorem d_M_lengthOf_258 : decode c_M_lengthOf 258 = .ok (.iload_n 1, 1) := by decide +kernel
theorem d_M_lengthOf_259 : decode c_M_lengthOf 259 = .ok (.bipush 12, 2) := by decide +kernel
theorem d_M_lengthOf_261 : decode c_M_lengthOf 261 = .ok (.isub, 1) := by decide +kernel
theorem d_M_lengthOf_262 : decode c_M_lengthOf 262 = .ok (.iaload, 1) := by decide +kernel
theorem d_M_lengthOf_263 : decode c_M_lengthOf 263 = .ok (.iconst 1, 1) := by decide +kernel
theorem d_M_lengthOf_264 : decode c_M_lengthOf 264 = .ok (.iadd, 1) := by decide +kernel
theorem d_M_lengthOf_265 : decode c_M_lengthOf 265 = .ok (.goto 12, 3) := by decide +kernel
theorem d_M_lengthOf_268 : decode c_M_lengthOf 268 = .ok (.aload_n 0, 1) := by decide +kernel
theorem d_M_lengthOf_269 : decode c_M_lengthOf 269 = .ok (.getfield 24, 3) := by decide +kernel
theorem d_M_lengthOf_272 : decode c_M_lengthOf 272 = .ok (.iload_n 1, 1) := by decide +kernel
theorem d_M_lengthOf_273 : decode c_M_lengthOf 273 = .ok (.bipush 12, 2) := by decide +kernel
theorem d_M_lengthOf_275 : decode c_M_lengthOf 275 = .ok (.isub, 1) := by decide +kernel
theorem d_M_lengthOf_276 : decode c_M_lengthOf 276 = .ok (.iaload, 1) := by decide +kernel
theorem d_M_lengthOf_277 : decode c_M_lengthOf 277 = .ok (.ireturn, 1) := by decide +kernel
theorem d_M_letter_0 : decode c_M_letter 0 = .ok (.aload_n 0, 1) := by decide +kernel
theorem d_M_letter_1 : decode c_M_letter 1 = .ok (.iconst 0, 1) := by decide +kernel
theorem d_M_letter_2 : decode c_M_letter 2 = .ok (.putfield 52, 3) := by decide +kernel
theorem d_M_letter_5 : decode c_M_letter 5 = .ok (.iload_n 1, 1) := by decide +kernel
theorem d_M_letter_6 : decode c_M_letter 6 = .ok (.ifCond .lt 20, 3) := by decide +kernel
theorem d_M_letter_9 : decode c_M_letter 9 = .ok (.iload_n 1, 1) := by decide +kernel
theorem d_M_letter_10 : decode c_M_letter 10 = .ok (.aload_n 0, 1) := by decide +kernel
theorem d_M_letter_11 : decode c_M_letter 11 = .ok (.getfield 305, 3) := by decide +kernel
theorem d_M_letter_14 : decode c_M_letter 14 = .ok (.if_icmp .ge 12, 3) := by decide +kernel
theorem d_M_letter_17 : decode c_M_letter 17 = .ok (.aload_n 0, 1) := by decide +kernel
theorem d_M_letter_18 : decode c_M_letter 18 = .ok (.getfield 44, 3) := by decide +kernel
theorem d_M_letter_21 : decode c_M_letter 21 = .ok (.iload_n 1, 1) := by decide +kernel
theorem d_M_letter_22 : decode c_M_letter 22 = .ok (.caload, 1) := by decide +kernel
theorem d_M_letter_23 : decode c_M_letter 23 = .ok (.goto 4, 3) := by decide +kernel
theorem d_M_letter_26 : decode c_M_letter 26 = .ok (.iconst 0, 1) := by decide +kernel
theorem d_M_letter_27 : decode c_M_letter 27 = .ok (.ireturn, 1) := by decide +kernel
theorem d_M_lookFor_0 : decode c_M_lookFor 0 = .ok (.lload 5, 2) := by decide +kernel
theorem d_M_lookFor_2 : decode c_M_lookFor 2 = .ok (.iload 7, 2) := by decide +kernel
theorem d_M_lookFor_4 : decode c_M_lookFor 4 = .ok (.i2l, 1) := by decide +kernel
theorem d_M_lookFor_5 : decode c_M_lookFor 5 = .ok (.lsub, 1) := by decide +kernel
theorem d_M_lookFor_6 : decode c_M_lookFor 6 = .ok (.lstore 8, 2) := by decide +kernel
theorem d_M_lookFor_8 : decode c_M_lookFor 8 = .ok (.lload 8, 2) := by decide +kernel
theorem d_M_lookFor_10 : decode c_M_lookFor 10 = .ok (.lload 5, 2) := by decide +kernel
theorem d_M_lookFor_12 : decode c_M_lookFor 12 = .ok (.iload 7, 2) := by decide +kernel
theorem d_M_lookFor_14 : decode c_M_lookFor 14 = .ok (.i2l, 1) := by decide +kernel
theorem d_M_lookFor_15 : decode c_M_lookFor 15 = .ok (.ladd, 1) := by decide +kernel
theorem d_M_lookFor_16 : decode c_M_lookFor 16 = .ok (.lcmp, 1) := by decide +kernel
theorem d_M_lookFor_17 : decode c_M_lookFor 17 = .ok (.ifCond .gt 29, 3) := by decide +kernel
theorem d_M_lookFor_20 : decode c_M_lookFor 20 = .ok (.aload_n 0, 1) := by decide +kernel
theorem d_M_lookFor_21 : decode c_M_lookFor 21 = .ok (.iload_n 1, 1) := by decide +kernel
theorem d_M_lookFor_22 : decode c_M_lookFor 22 = .ok (.iload_n 2, 1) := by decide +kernel
theorem d_M_lookFor_23 : decode c_M_lookFor 23 = .ok (.iload_n 3, 1) := by decide +kernel
theorem d_M_lookFor_24 : decode c_M_lookFor 24 = .ok (.iload 4, 2) := by decide +kernel
theorem d_M_lookFor_26 : decode c_M_lookFor 26 = .ok (.lload 8, 2) := by decide +kernel
theorem d_M_lookFor_28 : decode c_M_lookFor 28 = .ok (.invokevirtual 246, 3) := by decide +kernel
theorem d_M_lookFor_31 : decode c_M_lookFor 31 = .ok (.ifCond .eq 6, 3) := by decide +kernel
theorem d_M_lookFor_34 : decode c_M_lookFor 34 = .ok (.lload 8, 2) := by decide +kernel
theorem d_M_lookFor_36 : decode c_M_lookFor 36 = .ok (.lreturn, 1) := by decide +kernel
theorem d_M_lookFor_37 : decode c_M_lookFor 37 = .ok (.lload 8, 2) := by decide +kernel
theorem d_M_lookFor_39 : decode c_M_lookFor 39 = .ok (.lconst 1, 1) := by decide +kernel
theorem d_M_lookFor_40 : decode c_M_lookFor 40 = .ok (.ladd, 1) := by decide +kernel
theorem d_M_lookFor_41 : decode c_M_lookFor 41 = .ok (.lstore 8, 2) := by decide +kernel
theorem d_M_lookFor_43 : decode c_M_lookFor 43 = .ok (.goto (-35), 3) := by decide +kernel
theorem d_M_lookFor_46 : decode c_M_lookFor 46 = .ok (.ldc2_w 250, 3) := by decide +kernel
theorem d_M_lookFor_49 : decode c_M_lookFor 49 = .ok (.lreturn, 1) := by decide +kernel
theorem d_M_meeting_0 : decode c_M_meeting 0 = .ok (.aload_n 0, 1) := by decide +kernel
theorem d_M_meeting_1 : decode c_M_meeting 1 = .ok (.iconst 0, 1) := by decide +kernel
theorem d_M_meeting_2 : decode c_M_meeting 2 = .ok (.putfield 52, 3) := by decide +kernel
theorem d_M_meeting_5 : decode c_M_meeting 5 = .ok (.iload_n 1, 1) := by decide +kernel
theorem d_M_meeting_6 : decode c_M_meeting 6 = .ok (.ifCond .lt 29, 3) := by decide +kernel
theorem d_M_meeting_9 : decode c_M_meeting 9 = .ok (.iload_n 1, 1) := by decide +kernel
theorem d_M_meeting_10 : decode c_M_meeting 10 = .ok (.sipush 364, 3) := by decide +kernel
theorem d_M_meeting_13 : decode c_M_meeting 13 = .ok (.if_icmp .gt 22, 3) := by decide +kernel
theorem d_M_meeting_16 : decode c_M_meeting 16 = .ok (.iload_n 2, 1) := by decide +kernel
theorem d_M_meeting_17 : decode c_M_meeting 17 = .ok (.ifCond .lt 18, 3) := by decide +kernel
theorem d_M_meeting_20 : decode c_M_meeting 20 = .ok (.iload_n 2, 1) := by decide +kernel
theorem d_M_meeting_21 : decode c_M_meeting 21 = .ok (.sipush 259, 3) := by decide +kernel
theorem d_M_meeting_24 : decode c_M_meeting 24 = .ok (.if_icmp .gt 11, 3) := by decide +kernel
theorem d_M_meeting_27 : decode c_M_meeting 27 = .ok (.iload_n 3, 1) := by decide +kernel
theorem d_M_meeting_28 : decode c_M_meeting 28 = .ok (.i2l, 1) := by decide +kernel
theorem d_M_meeting_29 : decode c_M_meeting 29 = .ok (.invokestatic 272, 3) := by decide +kernel
theorem d_M_meeting_32 : decode c_M_meeting 32 = .ok (.ifCond .ne 6, 3) := by decide +kernel
theorem d_M_meeting_35 : decode c_M_meeting 35 = .ok (.ldc 39, 2) := by decide +kernel
theorem d_M_meeting_37 : decode c_M_meeting 37 = .ok (.ireturn, 1) := by decide +kernel
theorem d_M_meeting_38 : decode c_M_meeting 38 = .ok (.iconst 0, 1) := by decide +kernel
theorem d_M_meeting_39 : decode c_M_meeting 39 = .ok (.istore 4, 2) := by decide +kernel
theorem d_M_meeting_41 : decode c_M_meeting 41 = .ok (.iload 4, 2) := by decide +kernel
theorem d_M_meeting_43 : decode c_M_meeting 43 = .ok (.sipush 18980, 3) := by decide +kernel
theorem d_M_meeting_46 : decode c_M_meeting 46 = .ok (.if_icmp .ge 65, 3) := by decide +kernel
theorem d_M_meeting_49 : decode c_M_meeting 49 = .ok (.iload_n 3, 1) := by decide +kernel
theorem d_M_meeting_50 : decode c_M_meeting 50 = .ok (.i2l, 1) := by decide +kernel
theorem d_M_meeting_51 : decode c_M_meeting 51 = .ok (.iload 4, 2) := by decide +kernel
theorem d_M_meeting_53 : decode c_M_meeting 53 = .ok (.i2l, 1) := by decide +kernel
theorem d_M_meeting_54 : decode c_M_meeting 54 = .ok (.lsub, 1) := by decide +kernel
theorem d_M_meeting_55 : decode c_M_meeting 55 = .ok (.lstore 5, 2) := by decide +kernel
theorem d_M_meeting_57 : decode c_M_meeting 57 = .ok (.lload 5, 2) := by decide +kernel
theorem d_M_meeting_59 : decode c_M_meeting 59 = .ok (.invokestatic 272, 3) := by decide +kernel
theorem d_M_meeting_62 : decode c_M_meeting 62 = .ok (.ifCond .eq 43, 3) := by decide +kernel
theorem d_M_meeting_65 : decode c_M_meeting 65 = .ok (.lload 5, 2) := by decide +kernel
theorem d_M_meeting_67 : decode c_M_meeting 67 = .ok (.ldc2_w 284, 3) := by decide +kernel
theorem d_M_meeting_70 : decode c_M_meeting 70 = .ok (.ladd, 1) := by decide +kernel
theorem d_M_meeting_71 : decode c_M_meeting 71 = .ok (.ldc2_w 128, 3) := by decide +kernel
theorem d_M_meeting_74 : decode c_M_meeting 74 = .ok (.invokestatic 65, 3) := by decide +kernel
theorem d_M_meeting_77 : decode c_M_meeting 77 = .ok (.iload_n 1, 1) := by decide +kernel
theorem d_M_meeting_78 : decode c_M_meeting 78 = .ok (.i2l, 1) := by decide +kernel
theorem d_M_meeting_79 : decode c_M_meeting 79 = .ok (.lcmp, 1) := by decide +kernel
theorem d_M_meeting_80 : decode c_M_meeting 80 = .ok (.ifCond .ne 25, 3) := by decide +kernel
theorem d_M_meeting_83 : decode c_M_meeting 83 = .ok (.lload 5, 2) := by decide +kernel
theorem d_M_meeting_85 : decode c_M_meeting 85 = .ok (.ldc2_w 288, 3) := by decide +kernel
theorem d_M_meeting_88 : decode c_M_meeting 88 = .ok (.ladd, 1) := by decide +kernel
theorem d_M_meeting_89 : decode c_M_meeting 89 = .ok (.ldc2_w 290, 3) := by decide +kernel
theorem d_M_meeting_92 : decode c_M_meeting 92 = .ok (.invokestatic 65, 3) := by decide +kernel
theorem d_M_meeting_95 : decode c_M_meeting 95 = .ok (.iload_n 2, 1) := by decide +kernel
theorem d_M_meeting_96 : decode c_M_meeting 96 = .ok (.i2l, 1) := by decide +kernel
theorem d_M_meeting_97 : decode c_M_meeting 97 = .ok (.lcmp, 1) := by decide +kernel
theorem d_M_meeting_98 : decode c_M_meeting 98 = .ok (.ifCond .ne 7, 3) := by decide +kernel
theorem d_M_meeting_101 : decode c_M_meeting 101 = .ok (.lload 5, 2) := by decide +kernel
theorem d_M_meeting_103 : decode c_M_meeting 103 = .ok (.l2i, 1) := by decide +kernel
theorem d_M_meeting_104 : decode c_M_meeting 104 = .ok (.ireturn, 1) := by decide +kernel
theorem d_M_meeting_105 : decode c_M_meeting 105 = .ok (.iinc 4 1, 3) := by decide +kernel
theorem d_M_meeting_108 : decode c_M_meeting 108 = .ok (.goto (-67), 3) := by decide +kernel
theorem d_M_meeting_111 : decode c_M_meeting 111 = .ok (.ldc 39, 2) := by decide +kernel
theorem d_M_meeting_113 : decode c_M_meeting 113 = .ok (.ireturn, 1) := by decide +kernel
theorem d_M_mod_0 : decode c_M_mod 0 = .ok (.lload_n 0, 1) := by decide +kernel
theorem d_M_mod_1 : decode c_M_mod 1 = .ok (.lload_n 2, 1) := by decide +kernel
theorem d_M_mod_2 : decode c_M_mod 2 = .ok (.lload_n 0, 1) := by decide +kernel
theorem d_M_mod_3 : decode c_M_mod 3 = .ok (.lload_n 2, 1) := by decide +kernel
theorem d_M_mod_4 : decode c_M_mod 4 = .ok (.invokestatic 55, 3) := by decide +kernel
theorem d_M_mod_7 : decode c_M_mod 7 = .ok (.lmul, 1) := by decide +kernel
theorem d_M_mod_8 : decode c_M_mod 8 = .ok (.lsub, 1) := by decide +kernel
theorem d_M_mod_9 : decode c_M_mod 9 = .ok (.lreturn, 1) := by decide +kernel
theorem d_M_monthAt_0 : decode c_M_monthAt 0 = .ok (.iload_n 1, 1) := by decide +kernel
theorem d_M_monthAt_1 : decode c_M_monthAt 1 = .ok (.bipush 8, 2) := by decide +kernel
theorem d_M_monthAt_3 : decode c_M_monthAt 3 = .ok (.if_icmp .ne 31, 3) := by decide +kernel
theorem d_M_monthAt_6 : decode c_M_monthAt 6 = .ok (.iload 4, 2) := by decide +kernel
theorem d_M_monthAt_8 : decode c_M_monthAt 8 = .ok (.bipush 18, 2) := by decide +kernel
theorem d_M_monthAt_10 : decode c_M_monthAt 10 = .ok (.if_icmp .ge 10, 3) := by decide +kernel
theorem d_M_monthAt_13 : decode c_M_monthAt 13 = .ok (.iload 4, 2) := by decide +kernel
theorem d_M_monthAt_15 : decode c_M_monthAt 15 = .ok (.iconst 1, 1) := by decide +kernel
theorem d_M_monthAt_16 : decode c_M_monthAt 16 = .ok (.iadd, 1) := by decide +kernel
theorem d_M_monthAt_17 : decode c_M_monthAt 17 = .ok (.goto 16, 3) := by decide +kernel
theorem d_M_monthAt_20 : decode c_M_monthAt 20 = .ok (.iload 4, 2) := by decide +kernel
theorem d_M_monthAt_22 : decode c_M_monthAt 22 = .ok (.bipush 18, 2) := by decide +kernel
theorem d_M_monthAt_24 : decode c_M_monthAt 24 = .ok (.if_icmp .ne 7, 3) := by decide +kernel
theorem d_M_monthAt_27 : decode c_M_monthAt 27 = .ok (.iconst 0, 1) := by decide +kernel
theorem d_M_monthAt_28 : decode c_M_monthAt 28 = .ok (.goto 5, 3) := by decide +kernel
theorem d_M_monthAt_31 : decode c_M_monthAt 31 = .ok (.bipush 19, 2) := by decide +kernel
theorem d_M_monthAt_33 : decode c_M_monthAt 33 = .ok (.ireturn, 1) := by decide +kernel
theorem d_M_monthAt_34 : decode c_M_monthAt 34 = .ok (.iload_n 1, 1) := by decide +kernel
theorem d_M_monthAt_35 : decode c_M_monthAt 35 = .ok (.bipush 9, 2) := by decide +kernel
theorem d_M_monthAt_37 : decode c_M_monthAt 37 = .ok (.if_icmp .ne 39, 3) := by decide +kernel
theorem d_M_monthAt_40 : decode c_M_monthAt 40 = .ok (.aload_n 0, 1) := by decide +kernel
theorem d_M_monthAt_41 : decode c_M_monthAt 41 = .ok (.bipush 9, 2) := by decide +kernel
theorem d_M_monthAt_43 : decode c_M_monthAt 43 = .ok (.lload_n 2, 1) := by decide +kernel
theorem d_M_monthAt_44 : decode c_M_monthAt 44 = .ok (.invokevirtual 106, 3) := by decide +kernel
theorem d_M_monthAt_47 : decode c_M_monthAt 47 = .ok (.istore 5, 2) := by decide +kernel
theorem d_M_monthAt_49 : decode c_M_monthAt 49 = .ok (.iload 4, 2) := by decide +kernel
theorem d_M_monthAt_51 : decode c_M_monthAt 51 = .ok (.bipush 7, 2) := by decide +kernel
theorem d_M_monthAt_53 : decode c_M_monthAt 53 = .ok (.iadd, 1) := by decide +kernel
theorem d_M_monthAt_54 : decode c_M_monthAt 54 = .ok (.iload 5, 2) := by decide +kernel
theorem d_M_monthAt_56 : decode c_M_monthAt 56 = .ok (.if_icmp .gt 11, 3) := by decide +kernel
theorem d_M_monthAt_59 : decode c_M_monthAt 59 = .ok (.iload 4, 2) := by decide +kernel
theorem d_M_monthAt_61 : decode c_M_monthAt 61 = .ok (.bipush 7, 2) := by decide +kernel
theorem d_M_monthAt_63 : decode c_M_monthAt 63 = .ok (.iadd, 1) := by decide +kernel
theorem d_M_monthAt_64 : decode c_M_monthAt 64 = .ok (.goto 11, 3) := by decide +kernel
theorem d_M_monthAt_67 : decode c_M_monthAt 67 = .ok (.iload 4, 2) := by decide +kernel
theorem d_M_monthAt_69 : decode c_M_monthAt 69 = .ok (.bipush 7, 2) := by decide +kernel
theorem d_M_monthAt_71 : decode c_M_monthAt 71 = .ok (.iadd, 1) := by decide +kernel
theorem d_M_monthAt_72 : decode c_M_monthAt 72 = .ok (.iload 5, 2) := by decide +kernel
theorem d_M_monthAt_74 : decode c_M_monthAt 74 = .ok (.isub, 1) := by decide +kernel
theorem d_M_monthAt_75 : decode c_M_monthAt 75 = .ok (.ireturn, 1) := by decide +kernel
theorem d_M_monthAt_76 : decode c_M_monthAt 76 = .ok (.iload 4, 2) := by decide +kernel
theorem d_M_monthAt_78 : decode c_M_monthAt 78 = .ok (.iconst 1, 1) := by decide +kernel
theorem d_M_monthAt_79 : decode c_M_monthAt 79 = .ok (.iadd, 1) := by decide +kernel
theorem d_M_monthAt_80 : decode c_M_monthAt 80 = .ok (.ireturn, 1) := by decide +kernel
theorem d_M_monthsOf_0 : decode c_M_monthsOf 0 = .ok (.iload_n 1, 1) := by decide +kernel
theorem d_M_monthsOf_1 : decode c_M_monthsOf 1 = .ok (.iconst 2, 1) := by decide +kernel
theorem d_M_monthsOf_2 : decode c_M_monthsOf 2 = .ok (.if_icmp .ge 6, 3) := by decide +kernel
theorem d_M_monthsOf_5 : decode c_M_monthsOf 5 = .ok (.bipush 12, 2) := by decide +kernel
theorem d_M_monthsOf_7 : decode c_M_monthsOf 7 = .ok (.ireturn, 1) := by decide +kernel
theorem d_M_monthsOf_8 : decode c_M_monthsOf 8 = .ok (.iload_n 1, 1) := by decide +kernel
theorem d_M_monthsOf_9 : decode c_M_monthsOf 9 = .ok (.bipush 9, 2) := by decide +kernel
theorem d_M_monthsOf_11 : decode c_M_monthsOf 11 = .ok (.if_icmp .ne 21, 3) := by decide +kernel
theorem d_M_monthsOf_14 : decode c_M_monthsOf 14 = .ok (.aload_n 0, 1) := by decide +kernel
theorem d_M_monthsOf_15 : decode c_M_monthsOf 15 = .ok (.bipush 9, 2) := by decide +kernel
theorem d_M_monthsOf_17 : decode c_M_monthsOf 17 = .ok (.lload_n 2, 1) := by decide +kernel
theorem d_M_monthsOf_18 : decode c_M_monthsOf 18 = .ok (.invokevirtual 102, 3) := by decide +kernel
theorem d_M_monthsOf_21 : decode c_M_monthsOf 21 = .ok (.ifCond .eq 8, 3) := by decide +kernel
theorem d_M_monthsOf_24 : decode c_M_monthsOf 24 = .ok (.bipush 13, 2) := by decide +kernel
theorem d_M_monthsOf_26 : decode c_M_monthsOf 26 = .ok (.goto 5, 3) := by decide +kernel
theorem d_M_monthsOf_29 : decode c_M_monthsOf 29 = .ok (.bipush 12, 2) := by decide +kernel
theorem d_M_monthsOf_31 : decode c_M_monthsOf 31 = .ok (.ireturn, 1) := by decide +kernel
theorem d_M_monthsOf_32 : decode c_M_monthsOf 32 = .ok (.iload_n 1, 1) := by decide +kernel
theorem d_M_monthsOf_33 : decode c_M_monthsOf 33 = .ok (.iconst 5, 1) := by decide +kernel
theorem d_M_monthsOf_34 : decode c_M_monthsOf 34 = .ok (.if_icmp .eq 9, 3) := by decide +kernel
theorem d_M_monthsOf_37 : decode c_M_monthsOf 37 = .ok (.iload_n 1, 1) := by decide +kernel
theorem d_M_monthsOf_38 : decode c_M_monthsOf 38 = .ok (.bipush 6, 2) := by decide +kernel
theorem d_M_monthsOf_40 : decode c_M_monthsOf 40 = .ok (.if_icmp .ne 8, 3) := by decide +kernel
theorem d_M_monthsOf_43 : decode c_M_monthsOf 43 = .ok (.bipush 12, 2) := by decide +kernel
theorem d_M_monthsOf_45 : decode c_M_monthsOf 45 = .ok (.goto 34, 3) := by decide +kernel
theorem d_M_monthsOf_48 : decode c_M_monthsOf 48 = .ok (.iload_n 1, 1) := by decide +kernel
theorem d_M_monthsOf_49 : decode c_M_monthsOf 49 = .ok (.bipush 8, 2) := by decide +kernel
theorem d_M_monthsOf_51 : decode c_M_monthsOf 51 = .ok (.if_icmp .ne 8, 3) := by decide +kernel
theorem d_M_monthsOf_54 : decode c_M_monthsOf 54 = .ok (.bipush 20, 2) := by decide +kernel
theorem d_M_monthsOf_56 : decode c_M_monthsOf 56 = .ok (.goto 23, 3) := by decide +kernel
theorem d_M_monthsOf_59 : decode c_M_monthsOf 59 = .ok (.iload_n 1, 1) := by decide +kernel
theorem d_M_monthsOf_60 : decode c_M_monthsOf 60 = .ok (.bipush 11, 2) := by decide +kernel
theorem d_M_monthsOf_62 : decode c_M_monthsOf 62 = .ok (.if_icmp .le 15, 3) := by decide +kernel
theorem d_M_monthsOf_65 : decode c_M_monthsOf 65 = .ok (.aload_n 0, 1) := by decide +kernel
theorem d_M_monthsOf_66 : decode c_M_monthsOf 66 = .ok (.getfield 21, 3) := by decide +kernel
theorem d_M_monthsOf_69 : decode c_M_monthsOf 69 = .ok (.iload_n 1, 1) := by decide +kernel
theorem d_M_monthsOf_70 : decode c_M_monthsOf 70 = .ok (.bipush 12, 2) := by decide +kernel
theorem d_M_monthsOf_72 : decode c_M_monthsOf 72 = .ok (.isub, 1) := by decide +kernel
theorem d_M_monthsOf_73 : decode c_M_monthsOf 73 = .ok (.iaload, 1) := by decide +kernel
theorem d_M_monthsOf_74 : decode c_M_monthsOf 74 = .ok (.goto 5, 3) := by decide +kernel
theorem d_M_monthsOf_77 : decode c_M_monthsOf 77 = .ok (.bipush 13, 2) := by decide +kernel
theorem d_M_monthsOf_79 : decode c_M_monthsOf 79 = .ok (.ireturn, 1) := by decide +kernel
theorem d_M_moonLength_0 : decode c_M_moonLength 0 = .ok (.lload_n 1, 1) := by decide +kernel
theorem d_M_moonLength_1 : decode c_M_moonLength 1 = .ok (.lconst 1, 1) := by decide +kernel
theorem d_M_moonLength_2 : decode c_M_moonLength 2 = .ok (.ladd, 1) := by decide +kernel
theorem d_M_moonLength_3 : decode c_M_moonLength 3 = .ok (.invokestatic 158, 3) := by decide +kernel
theorem d_M_moonLength_6 : decode c_M_moonLength 6 = .ok (.lload_n 1, 1) := by decide +kernel
theorem d_M_moonLength_7 : decode c_M_moonLength 7 = .ok (.invokestatic 158, 3) := by decide +kernel
theorem d_M_moonLength_10 : decode c_M_moonLength 10 = .ok (.lsub, 1) := by decide +kernel
theorem d_M_moonLength_11 : decode c_M_moonLength 11 = .ok (.lstore 5, 2) := by decide +kernel
theorem d_M_moonLength_13 : decode c_M_moonLength 13 = .ok (.iload_n 3, 1) := by decide +kernel
theorem d_M_moonLength_14 : decode c_M_moonLength 14 = .ok (.bipush 8, 2) := by decide +kernel
theorem d_M_moonLength_16 : decode c_M_moonLength 16 = .ok (.if_icmp .ne 29, 3) := by decide +kernel
theorem d_M_moonLength_19 : decode c_M_moonLength 19 = .ok (.lload 5, 2) := by decide +kernel
theorem d_M_moonLength_21 : decode c_M_moonLength 21 = .ok (.ldc2_w 161, 3) := by decide +kernel
theorem d_M_moonLength_24 : decode c_M_moonLength 24 = .ok (.lcmp, 1) := by decide +kernel
theorem d_M_moonLength_25 : decode c_M_moonLength 25 = .ok (.ifCond .eq 12, 3) := by decide +kernel
theorem d_M_moonLength_28 : decode c_M_moonLength 28 = .ok (.lload 5, 2) := by decide +kernel
theorem d_M_moonLength_30 : decode c_M_moonLength 30 = .ok (.ldc2_w 163, 3) := by decide +kernel
theorem d_M_moonLength_33 : decode c_M_moonLength 33 = .ok (.lcmp, 1) := by decide +kernel
theorem d_M_moonLength_34 : decode c_M_moonLength 34 = .ok (.ifCond .ne 8, 3) := by decide +kernel
theorem d_M_moonLength_37 : decode c_M_moonLength 37 = .ok (.bipush 30, 2) := by decide +kernel
theorem d_M_moonLength_39 : decode c_M_moonLength 39 = .ok (.goto 5, 3) := by decide +kernel
theorem d_M_moonLength_42 : decode c_M_moonLength 42 = .ok (.bipush 29, 2) := by decide +kernel
theorem d_M_moonLength_44 : decode c_M_moonLength 44 = .ok (.ireturn, 1) := by decide +kernel
theorem d_M_moonLength_45 : decode c_M_moonLength 45 = .ok (.iload_n 3, 1) := by decide +kernel
theorem d_M_moonLength_46 : decode c_M_moonLength 46 = .ok (.bipush 9, 2) := by decide +kernel
theorem d_M_moonLength_48 : decode c_M_moonLength 48 = .ok (.if_icmp .ne 29, 3) := by decide +kernel
theorem d_M_moonLength_51 : decode c_M_moonLength 51 = .ok (.lload 5, 2) := by decide +kernel
theorem d_M_moonLength_53 : decode c_M_moonLength 53 = .ok (.ldc2_w 165, 3) := by decide +kernel
theorem d_M_moonLength_56 : decode c_M_moonLength 56 = .ok (.lcmp, 1) := by decide +kernel
theorem d_M_moonLength_57 : decode c_M_moonLength 57 = .ok (.ifCond .eq 12, 3) := by decide +kernel
theorem d_M_moonLength_60 : decode c_M_moonLength 60 = .ok (.lload 5, 2) := by decide +kernel
theorem d_M_moonLength_62 : decode c_M_moonLength 62 = .ok (.ldc2_w 167, 3) := by decide +kernel
theorem d_M_moonLength_65 : decode c_M_moonLength 65 = .ok (.lcmp, 1) := by decide +kernel
theorem d_M_moonLength_66 : decode c_M_moonLength 66 = .ok (.ifCond .ne 8, 3) := by decide +kernel
theorem d_M_moonLength_69 : decode c_M_moonLength 69 = .ok (.bipush 29, 2) := by decide +kernel
theorem d_M_moonLength_71 : decode c_M_moonLength 71 = .ok (.goto 5, 3) := by decide +kernel
theorem d_M_moonLength_74 : decode c_M_moonLength 74 = .ok (.bipush 30, 2) := by decide +kernel
theorem d_M_moonLength_76 : decode c_M_moonLength 76 = .ok (.ireturn, 1) := by decide +kernel
theorem d_M_moonLength_77 : decode c_M_moonLength 77 = .ok (.iload_n 3, 1) := by decide +kernel
theorem d_M_moonLength_78 : decode c_M_moonLength 78 = .ok (.bipush 12, 2) := by decide +kernel
theorem d_M_moonLength_80 : decode c_M_moonLength 80 = .ok (.if_icmp .ne 16, 3) := by decide +kernel
theorem d_M_moonLength_83 : decode c_M_moonLength 83 = .ok (.iload 4, 2) := by decide +kernel
theorem d_M_moonLength_85 : decode c_M_moonLength 85 = .ok (.ifCond .eq 8, 3) := by decide +kernel
theorem d_M_moonLength_88 : decode c_M_moonLength 88 = .ok (.bipush 30, 2) := by decide +kernel
theorem d_M_moonLength_90 : decode c_M_moonLength 90 = .ok (.goto 5, 3) := by decide +kernel
theorem d_M_moonLength_93 : decode c_M_moonLength 93 = .ok (.bipush 29, 2) := by decide +kernel
theorem d_M_moonLength_95 : decode c_M_moonLength 95 = .ok (.ireturn, 1) := by decide +kernel
theorem d_M_moonLength_96 : decode c_M_moonLength 96 = .ok (.iload_n 3, 1) := by decide +kernel
theorem d_M_moonLength_97 : decode c_M_moonLength 97 = .ok (.bipush 7, 2) := by decide +kernel
theorem d_M_moonLength_99 : decode c_M_moonLength 99 = .ok (.if_icmp .eq 24, 3) := by decide +kernel
theorem d_M_moonLength_102 : decode c_M_moonLength 102 = .ok (.iload_n 3, 1) := by decide +kernel
theorem d_M_moonLength_103 : decode c_M_moonLength 103 = .ok (.bipush 11, 2) := by decide +kernel
theorem d_M_moonLength_105 : decode c_M_moonLength 105 = .ok (.if_icmp .eq 18, 3) := by decide +kernel
theorem d_M_moonLength_108 : decode c_M_moonLength 108 = .ok (.iload_n 3, 1) := by decide +kernel
theorem d_M_moonLength_109 : decode c_M_moonLength 109 = .ok (.iconst 1, 1) := by decide +kernel
theorem d_M_moonLength_110 : decode c_M_moonLength 110 = .ok (.if_icmp .eq 13, 3) := by decide +kernel
theorem d_M_moonLength_113 : decode c_M_moonLength 113 = .ok (.iload_n 3, 1) := by decide +kernel
theorem d_M_moonLength_114 : decode c_M_moonLength 114 = .ok (.iconst 3, 1) := by decide +kernel
theorem d_M_moonLength_115 : decode c_M_moonLength 115 = .ok (.if_icmp .eq 8, 3) := by decide +kernel
theorem d_M_moonLength_118 : decode c_M_moonLength 118 = .ok (.iload_n 3, 1) := by decide +kernel
theorem d_M_moonLength_119 : decode c_M_moonLength 119 = .ok (.iconst 5, 1) := by decide +kernel
theorem d_M_moonLength_120 : decode c_M_moonLength 120 = .ok (.if_icmp .ne 8, 3) := by decide +kernel
theorem d_M_moonLength_123 : decode c_M_moonLength 123 = .ok (.bipush 30, 2) := by decide +kernel
theorem d_M_moonLength_125 : decode c_M_moonLength 125 = .ok (.goto 5, 3) := by decide +kernel
theorem d_M_moonLength_128 : decode c_M_moonLength 128 = .ok (.bipush 29, 2) := by decide +kernel
theorem d_M_moonLength_130 : decode c_M_moonLength 130 = .ok (.ireturn, 1) := by decide +kernel
theorem d_M_moonStart_0 : decode c_M_moonStart 0 = .ok (.lload_n 0, 1) := by decide +kernel
theorem d_M_moonStart_1 : decode c_M_moonStart 1 = .ok (.lconst 1, 1) := by decide +kernel
theorem d_M_moonStart_2 : decode c_M_moonStart 2 = .ok (.lsub, 1) := by decide +kernel
theorem d_M_moonStart_3 : decode c_M_moonStart 3 = .ok (.invokestatic 146, 3) := by decide +kernel
theorem d_M_moonStart_6 : decode c_M_moonStart 6 = .ok (.lstore_n 2, 1) := by decide +kernel
theorem d_M_moonStart_7 : decode c_M_moonStart 7 = .ok (.lload_n 0, 1) := by decide +kernel
theorem d_M_moonStart_8 : decode c_M_moonStart 8 = .ok (.invokestatic 146, 3) := by decide +kernel
theorem d_M_moonStart_11 : decode c_M_moonStart 11 = .ok (.lstore 4, 2) := by decide +kernel
theorem d_M_moonStart_13 : decode c_M_moonStart 13 = .ok (.lload_n 0, 1) := by decide +kernel
theorem d_M_moonStart_14 : decode c_M_moonStart 14 = .ok (.lconst 1, 1) := by decide +kernel
theorem d_M_moonStart_15 : decode c_M_moonStart 15 = .ok (.ladd, 1) := by decide +kernel
theorem d_M_moonStart_16 : decode c_M_moonStart 16 = .ok (.invokestatic 146, 3) := by decide +kernel
theorem d_M_moonStart_19 : decode c_M_moonStart 19 = .ok (.lstore 6, 2) := by decide +kernel
theorem d_M_moonStart_21 : decode c_M_moonStart 21 = .ok (.lload 4, 2) := by decide +kernel
theorem d_M_moonStart_23 : decode c_M_moonStart 23 = .ok (.ldc2_w 150, 3) := by decide +kernel
theorem d_M_moonStart_26 : decode c_M_moonStart 26 = .ok (.lsub, 1) := by decide +kernel
theorem d_M_moonStart_27 : decode c_M_moonStart 27 = .ok (.lload 6, 2) := by decide +kernel
theorem d_M_moonStart_29 : decode c_M_moonStart 29 = .ok (.lload 4, 2) := by decide +kernel
theorem d_M_moonStart_31 : decode c_M_moonStart 31 = .ok (.lsub, 1) := by decide +kernel
theorem d_M_moonStart_32 : decode c_M_moonStart 32 = .ok (.ldc2_w 152, 3) := by decide +kernel
theorem d_M_moonStart_35 : decode c_M_moonStart 35 = .ok (.lcmp, 1) := by decide +kernel
theorem d_M_moonStart_36 : decode c_M_moonStart 36 = .ok (.ifCond .ne 9, 3) := by decide +kernel
theorem d_M_moonStart_39 : decode c_M_moonStart 39 = .ok (.ldc2_w 154, 3) := by decide +kernel
theorem d_M_moonStart_42 : decode c_M_moonStart 42 = .ok (.goto 19, 3) := by decide +kernel
theorem d_M_moonStart_45 : decode c_M_moonStart 45 = .ok (.lload 4, 2) := by decide +kernel
theorem d_M_moonStart_47 : decode c_M_moonStart 47 = .ok (.lload_n 2, 1) := by decide +kernel
theorem d_M_moonStart_48 : decode c_M_moonStart 48 = .ok (.lsub, 1) := by decide +kernel
theorem d_M_moonStart_49 : decode c_M_moonStart 49 = .ok (.ldc2_w 156, 3) := by decide +kernel
theorem d_M_moonStart_52 : decode c_M_moonStart 52 = .ok (.lcmp, 1) := by decide +kernel
theorem d_M_moonStart_53 : decode c_M_moonStart 53 = .ok (.ifCond .ne 7, 3) := by decide +kernel
theorem d_M_moonStart_56 : decode c_M_moonStart 56 = .ok (.lconst 1, 1) := by decide +kernel
theorem d_M_moonStart_57 : decode c_M_moonStart 57 = .ok (.goto 4, 3) := by decide +kernel
theorem d_M_moonStart_60 : decode c_M_moonStart 60 = .ok (.lconst 0, 1) := by decide +kernel
theorem d_M_moonStart_61 : decode c_M_moonStart 61 = .ok (.ladd, 1) := by decide +kernel
theorem d_M_moonStart_62 : decode c_M_moonStart 62 = .ok (.lreturn, 1) := by decide +kernel
theorem d_M_moons_0 : decode c_M_moons 0 = .ok (.ldc2_w 134, 3) := by decide +kernel
theorem d_M_moons_3 : decode c_M_moons 3 = .ok (.lload_n 0, 1) := by decide +kernel
theorem d_M_moons_4 : decode c_M_moons 4 = .ok (.lmul, 1) := by decide +kernel
theorem d_M_moons_5 : decode c_M_moons 5 = .ok (.ldc2_w 136, 3) := by decide +kernel
theorem d_M_moons_8 : decode c_M_moons 8 = .ok (.lsub, 1) := by decide +kernel
theorem d_M_moons_9 : decode c_M_moons 9 = .ok (.ldc2_w 100, 3) := by decide +kernel
theorem d_M_moons_12 : decode c_M_moons 12 = .ok (.invokestatic 55, 3) := by decide +kernel
theorem d_M_moons_15 : decode c_M_moons 15 = .ok (.lstore_n 2, 1) := by decide +kernel
theorem d_M_moons_16 : decode c_M_moons 16 = .ok (.ldc2_w 138, 3) := by decide +kernel
theorem d_M_moons_19 : decode c_M_moons 19 = .ok (.lload_n 2, 1) := by decide +kernel
theorem d_M_moons_20 : decode c_M_moons 20 = .ok (.lmul, 1) := by decide +kernel
theorem d_M_moons_21 : decode c_M_moons 21 = .ok (.ldc2_w 140, 3) := by decide +kernel
theorem d_M_moons_24 : decode c_M_moons 24 = .ok (.ldc2_w 142, 3) := by decide +kernel
theorem d_M_moons_27 : decode c_M_moons 27 = .ok (.lload_n 2, 1) := by decide +kernel
theorem d_M_moons_28 : decode c_M_moons 28 = .ok (.lmul, 1) := by decide +kernel
theorem d_M_moons_29 : decode c_M_moons 29 = .ok (.ladd, 1) := by decide +kernel
theorem d_M_moons_30 : decode c_M_moons 30 = .ok (.ldc2_w 144, 3) := by decide +kernel
theorem d_M_moons_33 : decode c_M_moons 33 = .ok (.invokestatic 55, 3) := by decide +kernel
theorem d_M_moons_36 : decode c_M_moons 36 = .ok (.ladd, 1) := by decide +kernel
theorem d_M_moons_37 : decode c_M_moons 37 = .ok (.lstore 4, 2) := by decide +kernel
theorem d_M_moons_39 : decode c_M_moons 39 = .ok (.ldc2_w 76, 3) := by decide +kernel
theorem d_M_moons_42 : decode c_M_moons 42 = .ok (.lload 4, 2) := by decide +kernel
theorem d_M_moons_44 : decode c_M_moons 44 = .ok (.lmul, 1) := by decide +kernel
theorem d_M_moons_45 : decode c_M_moons 45 = .ok (.ldc2_w 76, 3) := by decide +kernel
theorem d_M_moons_48 : decode c_M_moons 48 = .ok (.ladd, 1) := by decide +kernel
theorem d_M_moons_49 : decode c_M_moons 49 = .ok (.ldc2_w 98, 3) := by decide +kernel
theorem d_M_moons_52 : decode c_M_moons 52 = .ok (.invokestatic 65, 3) := by decide +kernel
theorem d_M_moons_55 : decode c_M_moons 55 = .ok (.ldc2_w 76, 3) := by decide +kernel
theorem d_M_moons_58 : decode c_M_moons 58 = .ok (.lcmp, 1) := by decide +kernel
theorem d_M_moons_59 : decode c_M_moons 59 = .ok (.ifCond .ge 10, 3) := by decide +kernel
theorem d_M_moons_62 : decode c_M_moons 62 = .ok (.lload 4, 2) := by decide +kernel
theorem d_M_moons_64 : decode c_M_moons 64 = .ok (.lconst 1, 1) := by decide +kernel
theorem d_M_moons_65 : decode c_M_moons 65 = .ok (.ladd, 1) := by decide +kernel
theorem d_M_moons_66 : decode c_M_moons 66 = .ok (.goto 5, 3) := by decide +kernel
theorem d_M_moons_69 : decode c_M_moons 69 = .ok (.lload 4, 2) := by decide +kernel
theorem d_M_moons_71 : decode c_M_moons 71 = .ok (.lreturn, 1) := by decide +kernel
theorem d_M_named_0 : decode c_M_named 0 = .ok (.iload_n 0, 1) := by decide +kernel
theorem d_M_named_1 : decode c_M_named 1 = .ok (.invokestatic 59, 3) := by decide +kernel
theorem d_M_named_4 : decode c_M_named 4 = .ok (.ifCond .eq 15, 3) := by decide +kernel
theorem d_M_named_7 : decode c_M_named 7 = .ok (.lload_n 1, 1) := by decide +kernel
theorem d_M_named_8 : decode c_M_named 8 = .ok (.lconst 1, 1) := by decide +kernel
theorem d_M_named_9 : decode c_M_named 9 = .ok (.lcmp, 1) := by decide +kernel
theorem d_M_named_10 : decode c_M_named 10 = .ok (.ifCond .ge 9, 3) := by decide +kernel
theorem d_M_named_13 : decode c_M_named 13 = .ok (.lload_n 1, 1) := by decide +kernel
theorem d_M_named_14 : decode c_M_named 14 = .ok (.lconst 1, 1) := by decide +kernel
theorem d_M_named_15 : decode c_M_named 15 = .ok (.lsub, 1) := by decide +kernel
theorem d_M_named_16 : decode c_M_named 16 = .ok (.goto 4, 3) := by decide +kernel
theorem d_M_named_19 : decode c_M_named 19 = .ok (.lload_n 1, 1) := by decide +kernel
theorem d_M_named_20 : decode c_M_named 20 = .ok (.lreturn, 1) := by decide +kernel
theorem d_M_numberIn_0 : decode c_M_numberIn 0 = .ok (.iload_n 1, 1) := by decide +kernel
theorem d_M_numberIn_1 : decode c_M_numberIn 1 = .ok (.iload_n 2, 1) := by decide +kernel
theorem d_M_numberIn_2 : decode c_M_numberIn 2 = .ok (.if_icmp .ge 20, 3) := by decide +kernel
theorem d_M_numberIn_5 : decode c_M_numberIn 5 = .ok (.aload_n 0, 1) := by decide +kernel
theorem d_M_numberIn_6 : decode c_M_numberIn 6 = .ok (.getfield 44, 3) := by decide +kernel
theorem d_M_numberIn_9 : decode c_M_numberIn 9 = .ok (.iload_n 1, 1) := by decide +kernel
theorem d_M_numberIn_10 : decode c_M_numberIn 10 = .ok (.caload, 1) := by decide +kernel
theorem d_M_numberIn_11 : decode c_M_numberIn 11 = .ok (.bipush 45, 2) := by decide +kernel
theorem d_M_numberIn_13 : decode c_M_numberIn 13 = .ok (.if_icmp .ne 9, 3) := by decide +kernel
theorem d_M_numberIn_16 : decode c_M_numberIn 16 = .ok (.iload_n 1, 1) := by decide +kernel
theorem d_M_numberIn_17 : decode c_M_numberIn 17 = .ok (.iconst 1, 1) := by decide +kernel
theorem d_M_numberIn_18 : decode c_M_numberIn 18 = .ok (.iadd, 1) := by decide +kernel
theorem d_M_numberIn_19 : decode c_M_numberIn 19 = .ok (.goto 4, 3) := by decide +kernel
theorem d_M_numberIn_22 : decode c_M_numberIn 22 = .ok (.iload_n 1, 1) := by decide +kernel
theorem d_M_numberIn_23 : decode c_M_numberIn 23 = .ok (.istore_n 3, 1) := by decide +kernel
theorem d_M_numberIn_24 : decode c_M_numberIn 24 = .ok (.iload_n 3, 1) := by decide +kernel
theorem d_M_numberIn_25 : decode c_M_numberIn 25 = .ok (.iload_n 2, 1) := by decide +kernel
theorem d_M_numberIn_26 : decode c_M_numberIn 26 = .ok (.if_icmp .ge 38, 3) := by decide +kernel
theorem d_M_numberIn_29 : decode c_M_numberIn 29 = .ok (.iload_n 2, 1) := by decide +kernel
theorem d_M_numberIn_30 : decode c_M_numberIn 30 = .ok (.iload_n 3, 1) := by decide +kernel
theorem d_M_numberIn_31 : decode c_M_numberIn 31 = .ok (.isub, 1) := by decide +kernel
theorem d_M_numberIn_32 : decode c_M_numberIn 32 = .ok (.bipush 7, 2) := by decide +kernel
theorem d_M_numberIn_34 : decode c_M_numberIn 34 = .ok (.if_icmp .gt 30, 3) := by decide +kernel
theorem d_M_numberIn_37 : decode c_M_numberIn 37 = .ok (.aload_n 0, 1) := by decide +kernel
theorem d_M_numberIn_38 : decode c_M_numberIn 38 = .ok (.getfield 44, 3) := by decide +kernel
theorem d_M_numberIn_41 : decode c_M_numberIn 41 = .ok (.iload_n 3, 1) := by decide +kernel
theorem d_M_numberIn_42 : decode c_M_numberIn 42 = .ok (.caload, 1) := by decide +kernel
theorem d_M_numberIn_43 : decode c_M_numberIn 43 = .ok (.bipush 48, 2) := by decide +kernel
theorem d_M_numberIn_45 : decode c_M_numberIn 45 = .ok (.if_icmp .ne 15, 3) := by decide +kernel
theorem d_M_numberIn_48 : decode c_M_numberIn 48 = .ok (.iload_n 2, 1) := by decide +kernel
theorem d_M_numberIn_49 : decode c_M_numberIn 49 = .ok (.iload_n 3, 1) := by decide +kernel
theorem d_M_numberIn_50 : decode c_M_numberIn 50 = .ok (.iconst 1, 1) := by decide +kernel
theorem d_M_numberIn_51 : decode c_M_numberIn 51 = .ok (.iadd, 1) := by decide +kernel
theorem d_M_numberIn_52 : decode c_M_numberIn 52 = .ok (.if_icmp .ne 12, 3) := by decide +kernel
theorem d_M_numberIn_55 : decode c_M_numberIn 55 = .ok (.iload_n 3, 1) := by decide +kernel
theorem d_M_numberIn_56 : decode c_M_numberIn 56 = .ok (.iload_n 1, 1) := by decide +kernel
theorem d_M_numberIn_57 : decode c_M_numberIn 57 = .ok (.if_icmp .ne 7, 3) := by decide +kernel
theorem d_M_numberIn_60 : decode c_M_numberIn 60 = .ok (.iconst 1, 1) := by decide +kernel
theorem d_M_numberIn_61 : decode c_M_numberIn 61 = .ok (.goto 4, 3) := by decide +kernel
theorem d_M_numberIn_64 : decode c_M_numberIn 64 = .ok (.iconst 0, 1) := by decide +kernel
theorem d_M_numberIn_65 : decode c_M_numberIn 65 = .ok (.istore 4, 2) := by decide +kernel
theorem d_M_numberIn_67 : decode c_M_numberIn 67 = .ok (.iconst 0, 1) := by decide +kernel
theorem d_M_numberIn_68 : decode c_M_numberIn 68 = .ok (.istore 5, 2) := by decide +kernel
theorem d_M_numberIn_70 : decode c_M_numberIn 70 = .ok (.iload_n 3, 1) := by decide +kernel
theorem d_M_numberIn_71 : decode c_M_numberIn 71 = .ok (.istore 6, 2) := by decide +kernel
theorem d_M_numberIn_73 : decode c_M_numberIn 73 = .ok (.iload 6, 2) := by decide +kernel
theorem d_M_numberIn_75 : decode c_M_numberIn 75 = .ok (.iload_n 2, 1) := by decide +kernel
theorem d_M_numberIn_76 : decode c_M_numberIn 76 = .ok (.if_icmp .ge 63, 3) := by decide +kernel
theorem d_M_numberIn_79 : decode c_M_numberIn 79 = .ok (.iload 4, 2) := by decide +kernel
theorem d_M_numberIn_81 : decode c_M_numberIn 81 = .ok (.ifCond .eq 58, 3) := by decide +kernel
theorem d_M_numberIn_84 : decode c_M_numberIn 84 = .ok (.aload_n 0, 1) := by decide +kernel
theorem d_M_numberIn_85 : decode c_M_numberIn 85 = .ok (.getfield 44, 3) := by decide +kernel
theorem d_M_numberIn_88 : decode c_M_numberIn 88 = .ok (.iload 6, 2) := by decide +kernel
theorem d_M_numberIn_90 : decode c_M_numberIn 90 = .ok (.caload, 1) := by decide +kernel
theorem d_M_numberIn_91 : decode c_M_numberIn 91 = .ok (.bipush 48, 2) := by decide +kernel
theorem d_M_numberIn_93 : decode c_M_numberIn 93 = .ok (.if_icmp .lt 19, 3) := by decide +kernel
theorem d_M_numberIn_96 : decode c_M_numberIn 96 = .ok (.aload_n 0, 1) := by decide +kernel
theorem d_M_numberIn_97 : decode c_M_numberIn 97 = .ok (.getfield 44, 3) := by decide +kernel
theorem d_M_numberIn_100 : decode c_M_numberIn 100 = .ok (.iload 6, 2) := by decide +kernel
theorem d_M_numberIn_102 : decode c_M_numberIn 102 = .ok (.caload, 1) := by decide +kernel
theorem d_M_numberIn_103 : decode c_M_numberIn 103 = .ok (.bipush 57, 2) := by decide +kernel
theorem d_M_numberIn_105 : decode c_M_numberIn 105 = .ok (.if_icmp .gt 7, 3) := by decide +kernel
theorem d_M_numberIn_108 : decode c_M_numberIn 108 = .ok (.iconst 1, 1) := by decide +kernel
theorem d_M_numberIn_109 : decode c_M_numberIn 109 = .ok (.goto 4, 3) := by decide +kernel
theorem d_M_numberIn_112 : decode c_M_numberIn 112 = .ok (.iconst 0, 1) := by decide +kernel
theorem d_M_numberIn_113 : decode c_M_numberIn 113 = .ok (.istore 4, 2) := by decide +kernel
theorem d_M_numberIn_115 : decode c_M_numberIn 115 = .ok (.bipush 10, 2) := by decide +kernel
theorem d_M_numberIn_117 : decode c_M_numberIn 117 = .ok (.iload 5, 2) := by decide +kernel
theorem d_M_numberIn_119 : decode c_M_numberIn 119 = .ok (.imul, 1) := by decide +kernel
theorem d_M_numberIn_120 : decode c_M_numberIn 120 = .ok (.aload_n 0, 1) := by decide +kernel
theorem d_M_numberIn_121 : decode c_M_numberIn 121 = .ok (.getfield 44, 3) := by decide +kernel
theorem d_M_numberIn_124 : decode c_M_numberIn 124 = .ok (.iload 6, 2) := by decide +kernel
theorem d_M_numberIn_126 : decode c_M_numberIn 126 = .ok (.caload, 1) := by decide +kernel
theorem d_M_numberIn_127 : decode c_M_numberIn 127 = .ok (.bipush 48, 2) := by decide +kernel
theorem d_M_numberIn_129 : decode c_M_numberIn 129 = .ok (.isub, 1) := by decide +kernel
theorem d_M_numberIn_130 : decode c_M_numberIn 130 = .ok (.iadd, 1) := by decide +kernel
theorem d_M_numberIn_131 : decode c_M_numberIn 131 = .ok (.istore 5, 2) := by decide +kernel
theorem d_M_numberIn_133 : decode c_M_numberIn 133 = .ok (.iinc 6 1, 3) := by decide +kernel
theorem d_M_numberIn_136 : decode c_M_numberIn 136 = .ok (.goto (-63), 3) := by decide +kernel
theorem d_M_numberIn_139 : decode c_M_numberIn 139 = .ok (.iload 4, 2) := by decide +kernel
theorem d_M_numberIn_141 : decode c_M_numberIn 141 = .ok (.ifCond .ne 8, 3) := by decide +kernel
theorem d_M_numberIn_144 : decode c_M_numberIn 144 = .ok (.ldc 39, 2) := by decide +kernel
theorem d_M_numberIn_146 : decode c_M_numberIn 146 = .ok (.goto 16, 3) := by decide +kernel
theorem d_M_numberIn_149 : decode c_M_numberIn 149 = .ok (.iload_n 3, 1) := by decide +kernel
theorem d_M_numberIn_150 : decode c_M_numberIn 150 = .ok (.iload_n 1, 1) := by decide +kernel
theorem d_M_numberIn_151 : decode c_M_numberIn 151 = .ok (.if_icmp .le 9, 3) := by decide +kernel
theorem d_M_numberIn_154 : decode c_M_numberIn 154 = .ok (.iload 5, 2) := by decide +kernel
theorem d_M_numberIn_156 : decode c_M_numberIn 156 = .ok (.ineg, 1) := by decide +kernel
theorem d_M_numberIn_157 : decode c_M_numberIn 157 = .ok (.goto 5, 3) := by decide +kernel
theorem d_M_numberIn_160 : decode c_M_numberIn 160 = .ok (.iload 5, 2) := by decide +kernel
theorem d_M_numberIn_162 : decode c_M_numberIn 162 = .ok (.ireturn, 1) := by decide +kernel
theorem d_M_onOrBefore_0 : decode c_M_onOrBefore 0 = .ok (.aload_n 0, 1) := by decide +kernel
theorem d_M_onOrBefore_1 : decode c_M_onOrBefore 1 = .ok (.iload_n 1, 1) := by decide +kernel
theorem d_M_onOrBefore_2 : decode c_M_onOrBefore 2 = .ok (.ifCond .lt 9, 3) := by decide +kernel
theorem d_M_onOrBefore_5 : decode c_M_onOrBefore 5 = .ok (.iload_n 1, 1) := by decide +kernel
theorem d_M_onOrBefore_6 : decode c_M_onOrBefore 6 = .ok (.bipush 6, 2) := by decide +kernel
theorem d_M_onOrBefore_8 : decode c_M_onOrBefore 8 = .ok (.if_icmp .le 7, 3) := by decide +kernel
theorem d_M_onOrBefore_11 : decode c_M_onOrBefore 11 = .ok (.iconst 1, 1) := by decide +kernel
theorem d_M_onOrBefore_12 : decode c_M_onOrBefore 12 = .ok (.goto 35, 3) := by decide +kernel
theorem d_M_onOrBefore_15 : decode c_M_onOrBefore 15 = .ok (.iload_n 2, 1) := by decide +kernel
theorem d_M_onOrBefore_16 : decode c_M_onOrBefore 16 = .ok (.i2l, 1) := by decide +kernel
theorem d_M_onOrBefore_17 : decode c_M_onOrBefore 17 = .ok (.invokestatic 272, 3) := by decide +kernel
theorem d_M_onOrBefore_20 : decode c_M_onOrBefore 20 = .ok (.ifCond .eq 22, 3) := by decide +kernel
theorem d_M_onOrBefore_23 : decode c_M_onOrBefore 23 = .ok (.iload_n 2, 1) := by decide +kernel
theorem d_M_onOrBefore_24 : decode c_M_onOrBefore 24 = .ok (.i2l, 1) := by decide +kernel
theorem d_M_onOrBefore_25 : decode c_M_onOrBefore 25 = .ok (.iload_n 2, 1) := by decide +kernel
theorem d_M_onOrBefore_26 : decode c_M_onOrBefore 26 = .ok (.iload_n 1, 1) := by decide +kernel
theorem d_M_onOrBefore_27 : decode c_M_onOrBefore 27 = .ok (.isub, 1) := by decide +kernel
theorem d_M_onOrBefore_28 : decode c_M_onOrBefore 28 = .ok (.i2l, 1) := by decide +kernel
theorem d_M_onOrBefore_29 : decode c_M_onOrBefore 29 = .ok (.ldc2_w 98, 3) := by decide +kernel
theorem d_M_onOrBefore_32 : decode c_M_onOrBefore 32 = .ok (.invokestatic 65, 3) := by decide +kernel
theorem d_M_onOrBefore_35 : decode c_M_onOrBefore 35 = .ok (.lsub, 1) := by decide +kernel
theorem d_M_onOrBefore_36 : decode c_M_onOrBefore 36 = .ok (.invokestatic 272, 3) := by decide +kernel
theorem d_M_onOrBefore_39 : decode c_M_onOrBefore 39 = .ok (.ifCond .ne 7, 3) := by decide +kernel
theorem d_M_onOrBefore_42 : decode c_M_onOrBefore 42 = .ok (.iconst 2, 1) := by decide +kernel
theorem d_M_onOrBefore_43 : decode c_M_onOrBefore 43 = .ok (.goto 4, 3) := by decide +kernel
theorem d_M_onOrBefore_46 : decode c_M_onOrBefore 46 = .ok (.iconst 0, 1) := by decide +kernel
theorem d_M_onOrBefore_47 : decode c_M_onOrBefore 47 = .ok (.putfield 52, 3) := by decide +kernel
theorem d_M_onOrBefore_50 : decode c_M_onOrBefore 50 = .ok (.aload_n 0, 1) := by decide +kernel
theorem d_M_onOrBefore_51 : decode c_M_onOrBefore 51 = .ok (.getfield 52, 3) := by decide +kernel
theorem d_M_onOrBefore_54 : decode c_M_onOrBefore 54 = .ok (.ifCond .le 7, 3) := by decide +kernel
theorem d_M_onOrBefore_57 : decode c_M_onOrBefore 57 = .ok (.iconst 0, 1) := by decide +kernel
theorem d_M_onOrBefore_58 : decode c_M_onOrBefore 58 = .ok (.goto 16, 3) := by decide +kernel
theorem d_M_onOrBefore_61 : decode c_M_onOrBefore 61 = .ok (.iload_n 2, 1) := by decide +kernel
theorem d_M_onOrBefore_62 : decode c_M_onOrBefore 62 = .ok (.iload_n 2, 1) := by decide +kernel
theorem d_M_onOrBefore_63 : decode c_M_onOrBefore 63 = .ok (.iload_n 1, 1) := by decide +kernel
theorem d_M_onOrBefore_64 : decode c_M_onOrBefore 64 = .ok (.isub, 1) := by decide +kernel
theorem d_M_onOrBefore_65 : decode c_M_onOrBefore 65 = .ok (.i2l, 1) := by decide +kernel
theorem d_M_onOrBefore_66 : decode c_M_onOrBefore 66 = .ok (.ldc2_w 98, 3) := by decide +kernel
theorem d_M_onOrBefore_69 : decode c_M_onOrBefore 69 = .ok (.invokestatic 65, 3) := by decide +kernel
theorem d_M_onOrBefore_72 : decode c_M_onOrBefore 72 = .ok (.l2i, 1) := by decide +kernel
theorem d_M_onOrBefore_73 : decode c_M_onOrBefore 73 = .ok (.isub, 1) := by decide +kernel
theorem d_M_onOrBefore_74 : decode c_M_onOrBefore 74 = .ok (.ireturn, 1) := by decide +kernel
theorem d_M_plainLength_0 : decode c_M_plainLength 0 = .ok (.iload_n 1, 1) := by decide +kernel
theorem d_M_plainLength_1 : decode c_M_plainLength 1 = .ok (.lookupswitch 61 #[(5, 35), (12, 39), (13, 39)], 35) := by decide +kernel
theorem d_M_plainLength_36 : decode c_M_plainLength 36 = .ok (.ldc2_w 126, 3) := by decide +kernel
theorem d_M_plainLength_39 : decode c_M_plainLength 39 = .ok (.lreturn, 1) := by decide +kernel
theorem d_M_plainLength_40 : decode c_M_plainLength 40 = .ok (.aload_n 0, 1) := by decide +kernel
theorem d_M_plainLength_41 : decode c_M_plainLength 41 = .ok (.getfield 21, 3) := by decide +kernel
theorem d_M_plainLength_44 : decode c_M_plainLength 44 = .ok (.iload_n 1, 1) := by decide +kernel
theorem d_M_plainLength_45 : decode c_M_plainLength 45 = .ok (.bipush 12, 2) := by decide +kernel
theorem d_M_plainLength_47 : decode c_M_plainLength 47 = .ok (.isub, 1) := by decide +kernel
theorem d_M_plainLength_48 : decode c_M_plainLength 48 = .ok (.iaload, 1) := by decide +kernel
theorem d_M_plainLength_49 : decode c_M_plainLength 49 = .ok (.i2l, 1) := by decide +kernel
theorem d_M_plainLength_50 : decode c_M_plainLength 50 = .ok (.aload_n 0, 1) := by decide +kernel
theorem d_M_plainLength_51 : decode c_M_plainLength 51 = .ok (.getfield 24, 3) := by decide +kernel
theorem d_M_plainLength_54 : decode c_M_plainLength 54 = .ok (.iload_n 1, 1) := by decide +kernel
theorem d_M_plainLength_55 : decode c_M_plainLength 55 = .ok (.bipush 12, 2) := by decide +kernel
theorem d_M_plainLength_57 : decode c_M_plainLength 57 = .ok (.isub, 1) := by decide +kernel
theorem d_M_plainLength_58 : decode c_M_plainLength 58 = .ok (.iaload, 1) := by decide +kernel
theorem d_M_plainLength_59 : decode c_M_plainLength 59 = .ok (.i2l, 1) := by decide +kernel
theorem d_M_plainLength_60 : decode c_M_plainLength 60 = .ok (.lmul, 1) := by decide +kernel
theorem d_M_plainLength_61 : decode c_M_plainLength 61 = .ok (.lreturn, 1) := by decide +kernel
theorem d_M_plainLength_62 : decode c_M_plainLength 62 = .ok (.ldc2_w 128, 3) := by decide +kernel
theorem d_M_plainLength_65 : decode c_M_plainLength 65 = .ok (.lreturn, 1) := by decide +kernel
theorem d_M_plainStart_0 : decode c_M_plainStart 0 = .ok (.lload_n 2, 1) := by decide +kernel
theorem d_M_plainStart_1 : decode c_M_plainStart 1 = .ok (.lconst 1, 1) := by decide +kernel
theorem d_M_plainStart_2 : decode c_M_plainStart 2 = .ok (.lsub, 1) := by decide +kernel
theorem d_M_plainStart_3 : decode c_M_plainStart 3 = .ok (.aload_n 0, 1) := by decide +kernel
theorem d_M_plainStart_4 : decode c_M_plainStart 4 = .ok (.getfield 7, 3) := by decide +kernel
theorem d_M_plainStart_7 : decode c_M_plainStart 7 = .ok (.iload_n 1, 1) := by decide +kernel
theorem d_M_plainStart_8 : decode c_M_plainStart 8 = .ok (.iaload, 1) := by decide +kernel
theorem d_M_plainStart_9 : decode c_M_plainStart 9 = .ok (.i2l, 1) := by decide +kernel
theorem d_M_plainStart_10 : decode c_M_plainStart 10 = .ok (.invokestatic 55, 3) := by decide +kernel
theorem d_M_plainStart_13 : decode c_M_plainStart 13 = .ok (.lstore 4, 2) := by decide +kernel
theorem d_M_plainStart_15 : decode c_M_plainStart 15 = .ok (.aload_n 0, 1) := by decide +kernel
theorem d_M_plainStart_16 : decode c_M_plainStart 16 = .ok (.iload_n 1, 1) := by decide +kernel
theorem d_M_plainStart_17 : decode c_M_plainStart 17 = .ok (.invokevirtual 169, 3) := by decide +kernel
theorem d_M_plainStart_20 : decode c_M_plainStart 20 = .ok (.i2l, 1) := by decide +kernel
theorem d_M_plainStart_21 : decode c_M_plainStart 21 = .ok (.lload 4, 2) := by decide +kernel
theorem d_M_plainStart_23 : decode c_M_plainStart 23 = .ok (.aload_n 0, 1) := by decide +kernel
theorem d_M_plainStart_24 : decode c_M_plainStart 24 = .ok (.getfield 13, 3) := by decide +kernel
theorem d_M_plainStart_27 : decode c_M_plainStart 27 = .ok (.iload_n 1, 1) := by decide +kernel
theorem d_M_plainStart_28 : decode c_M_plainStart 28 = .ok (.laload, 1) := by decide +kernel
theorem d_M_plainStart_29 : decode c_M_plainStart 29 = .ok (.lmul, 1) := by decide +kernel
theorem d_M_plainStart_30 : decode c_M_plainStart 30 = .ok (.ladd, 1) := by decide +kernel
theorem d_M_plainStart_31 : decode c_M_plainStart 31 = .ok (.lstore 6, 2) := by decide +kernel
theorem d_M_plainStart_33 : decode c_M_plainStart 33 = .ok (.lload 4, 2) := by decide +kernel
theorem d_M_plainStart_35 : decode c_M_plainStart 35 = .ok (.aload_n 0, 1) := by decide +kernel
theorem d_M_plainStart_36 : decode c_M_plainStart 36 = .ok (.getfield 7, 3) := by decide +kernel
theorem d_M_plainStart_39 : decode c_M_plainStart 39 = .ok (.iload_n 1, 1) := by decide +kernel
theorem d_M_plainStart_40 : decode c_M_plainStart 40 = .ok (.iaload, 1) := by decide +kernel
theorem d_M_plainStart_41 : decode c_M_plainStart 41 = .ok (.i2l, 1) := by decide +kernel
theorem d_M_plainStart_42 : decode c_M_plainStart 42 = .ok (.lmul, 1) := by decide +kernel
theorem d_M_plainStart_43 : decode c_M_plainStart 43 = .ok (.lconst 1, 1) := by decide +kernel
theorem d_M_plainStart_44 : decode c_M_plainStart 44 = .ok (.ladd, 1) := by decide +kernel
theorem d_M_plainStart_45 : decode c_M_plainStart 45 = .ok (.lstore 8, 2) := by decide +kernel
theorem d_M_plainStart_47 : decode c_M_plainStart 47 = .ok (.lload 8, 2) := by decide +kernel
theorem d_M_plainStart_49 : decode c_M_plainStart 49 = .ok (.lload_n 2, 1) := by decide +kernel
theorem d_M_plainStart_50 : decode c_M_plainStart 50 = .ok (.lcmp, 1) := by decide +kernel
theorem d_M_plainStart_51 : decode c_M_plainStart 51 = .ok (.ifCond .ge 38, 3) := by decide +kernel
theorem d_M_plainStart_54 : decode c_M_plainStart 54 = .ok (.lload 6, 2) := by decide +kernel
theorem d_M_plainStart_56 : decode c_M_plainStart 56 = .ok (.aload_n 0, 1) := by decide +kernel
theorem d_M_plainStart_57 : decode c_M_plainStart 57 = .ok (.iload_n 1, 1) := by decide +kernel
theorem d_M_plainStart_58 : decode c_M_plainStart 58 = .ok (.invokevirtual 130, 3) := by decide +kernel
theorem d_M_plainStart_61 : decode c_M_plainStart 61 = .ok (.ladd, 1) := by decide +kernel
theorem d_M_plainStart_62 : decode c_M_plainStart 62 = .ok (.aload_n 0, 1) := by decide +kernel
theorem d_M_plainStart_63 : decode c_M_plainStart 63 = .ok (.iload_n 1, 1) := by decide +kernel
theorem d_M_plainStart_64 : decode c_M_plainStart 64 = .ok (.lload 8, 2) := by decide +kernel
theorem d_M_plainStart_66 : decode c_M_plainStart 66 = .ok (.invokevirtual 102, 3) := by decide +kernel
theorem d_M_plainStart_69 : decode c_M_plainStart 69 = .ok (.ifCond .eq 7, 3) := by decide +kernel
theorem d_M_plainStart_72 : decode c_M_plainStart 72 = .ok (.lconst 1, 1) := by decide +kernel
theorem d_M_plainStart_73 : decode c_M_plainStart 73 = .ok (.goto 4, 3) := by decide +kernel
theorem d_M_plainStart_76 : decode c_M_plainStart 76 = .ok (.lconst 0, 1) := by decide +kernel
theorem d_M_plainStart_77 : decode c_M_plainStart 77 = .ok (.ladd, 1) := by decide +kernel
theorem d_M_plainStart_78 : decode c_M_plainStart 78 = .ok (.lstore 6, 2) := by decide +kernel
theorem d_M_plainStart_80 : decode c_M_plainStart 80 = .ok (.lload 8, 2) := by decide +kernel
theorem d_M_plainStart_82 : decode c_M_plainStart 82 = .ok (.lconst 1, 1) := by decide +kernel
theorem d_M_plainStart_83 : decode c_M_plainStart 83 = .ok (.ladd, 1) := by decide +kernel
theorem d_M_plainStart_84 : decode c_M_plainStart 84 = .ok (.lstore 8, 2) := by decide +kernel
theorem d_M_plainStart_86 : decode c_M_plainStart 86 = .ok (.goto (-39), 3) := by decide +kernel
theorem d_M_plainStart_89 : decode c_M_plainStart 89 = .ok (.lload 6, 2) := by decide +kernel
theorem d_M_plainStart_91 : decode c_M_plainStart 91 = .ok (.lreturn, 1) := by decide +kernel
theorem d_M_plug_0 : decode c_M_plug 0 = .ok (.aload_n 0, 1) := by decide +kernel
theorem d_M_plug_1 : decode c_M_plug 1 = .ok (.iconst 0, 1) := by decide +kernel
theorem d_M_plug_2 : decode c_M_plug 2 = .ok (.putfield 52, 3) := by decide +kernel
theorem d_M_plug_5 : decode c_M_plug 5 = .ok (.iload_n 1, 1) := by decide +kernel
theorem d_M_plug_6 : decode c_M_plug 6 = .ok (.ifCond .lt 8, 3) := by decide +kernel
theorem d_M_plug_9 : decode c_M_plug 9 = .ok (.iload_n 1, 1) := by decide +kernel
theorem d_M_plug_10 : decode c_M_plug 10 = .ok (.iconst 1, 1) := by decide +kernel
theorem d_M_plug_11 : decode c_M_plug 11 = .ok (.if_icmp .le 10, 3) := by decide +kernel
theorem d_M_plug_14 : decode c_M_plug 14 = .ok (.aload_n 0, 1) := by decide +kernel
theorem d_M_plug_15 : decode c_M_plug 15 = .ok (.iconst 1, 1) := by decide +kernel
theorem d_M_plug_16 : decode c_M_plug 16 = .ok (.putfield 52, 3) := by decide +kernel
theorem d_M_plug_19 : decode c_M_plug 19 = .ok (.iconst 0, 1) := by decide +kernel
theorem d_M_plug_20 : decode c_M_plug 20 = .ok (.ireturn, 1) := by decide +kernel
theorem d_M_plug_21 : decode c_M_plug 21 = .ok (.iload_n 2, 1) := by decide +kernel
theorem d_M_plug_22 : decode c_M_plug 22 = .ok (.iconst 1, 1) := by decide +kernel
theorem d_M_plug_23 : decode c_M_plug 23 = .ok (.if_icmp .lt 74, 3) := by decide +kernel
theorem d_M_plug_26 : decode c_M_plug 26 = .ok (.iload_n 2, 1) := by decide +kernel
theorem d_M_plug_27 : decode c_M_plug 27 = .ok (.bipush 20, 2) := by decide +kernel
theorem d_M_plug_29 : decode c_M_plug 29 = .ok (.if_icmp .gt 68, 3) := by decide +kernel
theorem d_M_plug_32 : decode c_M_plug 32 = .ok (.iload_n 3, 1) := by decide +kernel
theorem d_M_plug_33 : decode c_M_plug 33 = .ok (.iconst 1, 1) := by decide +kernel
theorem d_M_plug_34 : decode c_M_plug 34 = .ok (.if_icmp .lt 63, 3) := by decide +kernel
theorem d_M_plug_37 : decode c_M_plug 37 = .ok (.iload_n 3, 1) := by decide +kernel
theorem d_M_plug_38 : decode c_M_plug 38 = .ok (.bipush 40, 2) := by decide +kernel
theorem d_M_plug_40 : decode c_M_plug 40 = .ok (.if_icmp .gt 57, 3) := by decide +kernel
theorem d_M_plug_43 : decode c_M_plug 43 = .ok (.iload 4, 2) := by decide +kernel
theorem d_M_plug_45 : decode c_M_plug 45 = .ok (.ldc_w 267, 3) := by decide +kernel
theorem d_M_plug_48 : decode c_M_plug 48 = .ok (.if_icmp .lt 49, 3) := by decide +kernel
theorem d_M_plug_51 : decode c_M_plug 51 = .ok (.iload 4, 2) := by decide +kernel
theorem d_M_plug_53 : decode c_M_plug 53 = .ok (.ldc_w 268, 3) := by decide +kernel
theorem d_M_plug_56 : decode c_M_plug 56 = .ok (.if_icmp .gt 41, 3) := by decide +kernel
theorem d_M_plug_59 : decode c_M_plug 59 = .ok (.iload 7, 2) := by decide +kernel
theorem d_M_plug_61 : decode c_M_plug 61 = .ok (.iconst 1, 1) := by decide +kernel
theorem d_M_plug_62 : decode c_M_plug 62 = .ok (.if_icmp .lt 35, 3) := by decide +kernel
theorem d_M_plug_65 : decode c_M_plug 65 = .ok (.iload 7, 2) := by decide +kernel
theorem d_M_plug_67 : decode c_M_plug 67 = .ok (.sipush 1000, 3) := by decide +kernel
theorem d_M_plug_70 : decode c_M_plug 70 = .ok (.if_icmp .gt 27, 3) := by decide +kernel
theorem d_M_plug_73 : decode c_M_plug 73 = .ok (.iload 5, 2) := by decide +kernel
theorem d_M_plug_75 : decode c_M_plug 75 = .ok (.ifCond .lt 22, 3) := by decide +kernel
theorem d_M_plug_78 : decode c_M_plug 78 = .ok (.iload 5, 2) := by decide +kernel
theorem d_M_plug_80 : decode c_M_plug 80 = .ok (.iload 7, 2) := by decide +kernel
theorem d_M_plug_82 : decode c_M_plug 82 = .ok (.if_icmp .gt 15, 3) := by decide +kernel
theorem d_M_plug_85 : decode c_M_plug 85 = .ok (.iload 6, 2) := by decide +kernel
theorem d_M_plug_87 : decode c_M_plug 87 = .ok (.ifCond .lt 10, 3) := by decide +kernel
theorem d_M_plug_90 : decode c_M_plug 90 = .ok (.iload 6, 2) := by decide +kernel
theorem d_M_plug_92 : decode c_M_plug 92 = .ok (.iload 7, 2) := by decide +kernel
theorem d_M_plug_94 : decode c_M_plug 94 = .ok (.if_icmp .lt 10, 3) := by decide +kernel
theorem d_M_plug_97 : decode c_M_plug 97 = .ok (.aload_n 0, 1) := by decide +kernel
theorem d_M_plug_98 : decode c_M_plug 98 = .ok (.iconst 2, 1) := by decide +kernel
theorem d_M_plug_99 : decode c_M_plug 99 = .ok (.putfield 52, 3) := by decide +kernel
theorem d_M_plug_102 : decode c_M_plug 102 = .ok (.iconst 0, 1) := by decide +kernel
theorem d_M_plug_103 : decode c_M_plug 103 = .ok (.ireturn, 1) := by decide +kernel
theorem d_M_plug_104 : decode c_M_plug 104 = .ok (.aload_n 0, 1) := by decide +kernel
theorem d_M_plug_105 : decode c_M_plug 105 = .ok (.getfield 17, 3) := by decide +kernel
theorem d_M_plug_108 : decode c_M_plug 108 = .ok (.iload_n 1, 1) := by decide +kernel
theorem d_M_plug_109 : decode c_M_plug 109 = .ok (.baload, 1) := by decide +kernel
theorem d_M_plug_110 : decode c_M_plug 110 = .ok (.istore 8, 2) := by decide +kernel
theorem d_M_plug_112 : decode c_M_plug 112 = .ok (.aload_n 0, 1) := by decide +kernel
theorem d_M_plug_113 : decode c_M_plug 113 = .ok (.getfield 17, 3) := by decide +kernel
theorem d_M_plug_116 : decode c_M_plug 116 = .ok (.iload_n 1, 1) := by decide +kernel
theorem d_M_plug_117 : decode c_M_plug 117 = .ok (.iconst 1, 1) := by decide +kernel
theorem d_M_plug_118 : decode c_M_plug 118 = .ok (.bastore, 1) := by decide +kernel
theorem d_M_plug_119 : decode c_M_plug 119 = .ok (.aload_n 0, 1) := by decide +kernel
theorem d_M_plug_120 : decode c_M_plug 120 = .ok (.getfield 21, 3) := by decide +kernel
theorem d_M_plug_123 : decode c_M_plug 123 = .ok (.iload_n 1, 1) := by decide +kernel
theorem d_M_plug_124 : decode c_M_plug 124 = .ok (.iload_n 2, 1) := by decide +kernel
theorem d_M_plug_125 : decode c_M_plug 125 = .ok (.iastore, 1) := by decide +kernel
theorem d_M_plug_126 : decode c_M_plug 126 = .ok (.aload_n 0, 1) := by decide +kernel
theorem d_M_plug_127 : decode c_M_plug 127 = .ok (.getfield 24, 3) := by decide +kernel
theorem d_M_plug_130 : decode c_M_plug 130 = .ok (.iload_n 1, 1) := by decide +kernel
theorem d_M_plug_131 : decode c_M_plug 131 = .ok (.iload_n 3, 1) := by decide +kernel
theorem d_M_plug_132 : decode c_M_plug 132 = .ok (.iastore, 1) := by decide +kernel
theorem d_M_plug_133 : decode c_M_plug 133 = .ok (.aload_n 0, 1) := by decide +kernel
theorem d_M_plug_134 : decode c_M_plug 134 = .ok (.getfield 27, 3) := by decide +kernel
theorem d_M_plug_137 : decode c_M_plug 137 = .ok (.iload_n 1, 1) := by decide +kernel
theorem d_M_plug_138 : decode c_M_plug 138 = .ok (.iload 4, 2) := by decide +kernel
theorem d_M_plug_140 : decode c_M_plug 140 = .ok (.iastore, 1) := by decide +kernel
theorem d_M_plug_141 : decode c_M_plug 141 = .ok (.aload_n 0, 1) := by decide +kernel
theorem d_M_plug_142 : decode c_M_plug 142 = .ok (.getfield 30, 3) := by decide +kernel
theorem d_M_plug_145 : decode c_M_plug 145 = .ok (.iload_n 1, 1) := by decide +kernel
theorem d_M_plug_146 : decode c_M_plug 146 = .ok (.iload 5, 2) := by decide +kernel
theorem d_M_plug_148 : decode c_M_plug 148 = .ok (.iastore, 1) := by decide +kernel
theorem d_M_plug_149 : decode c_M_plug 149 = .ok (.aload_n 0, 1) := by decide +kernel
theorem d_M_plug_150 : decode c_M_plug 150 = .ok (.getfield 33, 3) := by decide +kernel
theorem d_M_plug_153 : decode c_M_plug 153 = .ok (.iload_n 1, 1) := by decide +kernel
theorem d_M_plug_154 : decode c_M_plug 154 = .ok (.iload 6, 2) := by decide +kernel
theorem d_M_plug_156 : decode c_M_plug 156 = .ok (.iastore, 1) := by decide +kernel
theorem d_M_plug_157 : decode c_M_plug 157 = .ok (.aload_n 0, 1) := by decide +kernel
theorem d_M_plug_158 : decode c_M_plug 158 = .ok (.getfield 36, 3) := by decide +kernel
theorem d_M_plug_161 : decode c_M_plug 161 = .ok (.iload_n 1, 1) := by decide +kernel
theorem d_M_plug_162 : decode c_M_plug 162 = .ok (.iload 7, 2) := by decide +kernel
theorem d_M_plug_164 : decode c_M_plug 164 = .ok (.iastore, 1) := by decide +kernel
theorem d_M_plug_165 : decode c_M_plug 165 = .ok (.aload_n 0, 1) := by decide +kernel
theorem d_M_plug_166 : decode c_M_plug 166 = .ok (.getfield 7, 3) := by decide +kernel
theorem d_M_plug_169 : decode c_M_plug 169 = .ok (.bipush 12, 2) := by decide +kernel
theorem d_M_plug_171 : decode c_M_plug 171 = .ok (.iload_n 1, 1) := by decide +kernel
theorem d_M_plug_172 : decode c_M_plug 172 = .ok (.iadd, 1) := by decide +kernel
theorem d_M_plug_173 : decode c_M_plug 173 = .ok (.iload 7, 2) := by decide +kernel
theorem d_M_plug_175 : decode c_M_plug 175 = .ok (.iastore, 1) := by decide +kernel
theorem d_M_plug_176 : decode c_M_plug 176 = .ok (.aload_n 0, 1) := by decide +kernel
theorem d_M_plug_177 : decode c_M_plug 177 = .ok (.bipush 12, 2) := by decide +kernel
theorem d_M_plug_179 : decode c_M_plug 179 = .ok (.iload_n 1, 1) := by decide +kernel
theorem d_M_plug_180 : decode c_M_plug 180 = .ok (.iadd, 1) := by decide +kernel
theorem d_M_plug_181 : decode c_M_plug 181 = .ok (.invokevirtual 48, 3) := by decide +kernel
theorem d_M_plug_184 : decode c_M_plug 184 = .ok (.aload_n 0, 1) := by decide +kernel
theorem d_M_plug_185 : decode c_M_plug 185 = .ok (.ldc 39, 2) := by decide +kernel
theorem d_M_plug_187 : decode c_M_plug 187 = .ok (.putfield 40, 3) := by decide +kernel
theorem d_M_plug_190 : decode c_M_plug 190 = .ok (.iload 8, 2) := by decide +kernel
theorem d_M_plug_192 : decode c_M_plug 192 = .ok (.ireturn, 1) := by decide +kernel
theorem d_M_putNumber_0 : decode c_M_putNumber 0 = .ok (.lload_n 1, 1) := by decide +kernel
theorem d_M_putNumber_1 : decode c_M_putNumber 1 = .ok (.lconst 0, 1) := by decide +kernel
theorem d_M_putNumber_2 : decode c_M_putNumber 2 = .ok (.lcmp, 1) := by decide +kernel
theorem d_M_putNumber_3 : decode c_M_putNumber 3 = .ok (.ifCond .ge 8, 3) := by decide +kernel
theorem d_M_putNumber_6 : decode c_M_putNumber 6 = .ok (.lload_n 1, 1) := by decide +kernel
theorem d_M_putNumber_7 : decode c_M_putNumber 7 = .ok (.lneg, 1) := by decide +kernel
theorem d_M_putNumber_8 : decode c_M_putNumber 8 = .ok (.goto 4, 3) := by decide +kernel
theorem d_M_putNumber_11 : decode c_M_putNumber 11 = .ok (.lload_n 1, 1) := by decide +kernel
theorem d_M_putNumber_12 : decode c_M_putNumber 12 = .ok (.lstore_n 3, 1) := by decide +kernel
theorem d_M_putNumber_13 : decode c_M_putNumber 13 = .ok (.lload_n 1, 1) := by decide +kernel
theorem d_M_putNumber_14 : decode c_M_putNumber 14 = .ok (.lconst 0, 1) := by decide +kernel
theorem d_M_putNumber_15 : decode c_M_putNumber 15 = .ok (.lcmp, 1) := by decide +kernel
theorem d_M_putNumber_16 : decode c_M_putNumber 16 = .ok (.ifCond .ge 24, 3) := by decide +kernel
theorem d_M_putNumber_19 : decode c_M_putNumber 19 = .ok (.aload_n 0, 1) := by decide +kernel
theorem d_M_putNumber_20 : decode c_M_putNumber 20 = .ok (.getfield 44, 3) := by decide +kernel
theorem d_M_putNumber_23 : decode c_M_putNumber 23 = .ok (.aload_n 0, 1) := by decide +kernel
theorem d_M_putNumber_24 : decode c_M_putNumber 24 = .ok (.getfield 305, 3) := by decide +kernel
theorem d_M_putNumber_27 : decode c_M_putNumber 27 = .ok (.bipush 45, 2) := by decide +kernel
theorem d_M_putNumber_29 : decode c_M_putNumber 29 = .ok (.castore, 1) := by decide +kernel
theorem d_M_putNumber_30 : decode c_M_putNumber 30 = .ok (.aload_n 0, 1) := by decide +kernel
theorem d_M_putNumber_31 : decode c_M_putNumber 31 = .ok (.dup, 1) := by decide +kernel
theorem d_M_putNumber_32 : decode c_M_putNumber 32 = .ok (.getfield 305, 3) := by decide +kernel
theorem d_M_putNumber_35 : decode c_M_putNumber 35 = .ok (.iconst 1, 1) := by decide +kernel
theorem d_M_putNumber_36 : decode c_M_putNumber 36 = .ok (.iadd, 1) := by decide +kernel
theorem d_M_putNumber_37 : decode c_M_putNumber 37 = .ok (.putfield 305, 3) := by decide +kernel
theorem d_M_putNumber_40 : decode c_M_putNumber 40 = .ok (.lconst 1, 1) := by decide +kernel
theorem d_M_putNumber_41 : decode c_M_putNumber 41 = .ok (.lstore 5, 2) := by decide +kernel
theorem d_M_putNumber_43 : decode c_M_putNumber 43 = .ok (.lload_n 3, 1) := by decide +kernel
theorem d_M_putNumber_44 : decode c_M_putNumber 44 = .ok (.lload 5, 2) := by decide +kernel
theorem d_M_putNumber_46 : decode c_M_putNumber 46 = .ok (.ldiv, 1) := by decide +kernel
theorem d_M_putNumber_47 : decode c_M_putNumber 47 = .ok (.ldc2_w 308, 3) := by decide +kernel
theorem d_M_putNumber_50 : decode c_M_putNumber 50 = .ok (.lcmp, 1) := by decide +kernel
theorem d_M_putNumber_51 : decode c_M_putNumber 51 = .ok (.ifCond .le 14, 3) := by decide +kernel
theorem d_M_putNumber_54 : decode c_M_putNumber 54 = .ok (.ldc2_w 303, 3) := by decide +kernel
theorem d_M_putNumber_57 : decode c_M_putNumber 57 = .ok (.lload 5, 2) := by decide +kernel
theorem d_M_putNumber_59 : decode c_M_putNumber 59 = .ok (.lmul, 1) := by decide +kernel
theorem d_M_putNumber_60 : decode c_M_putNumber 60 = .ok (.lstore 5, 2) := by decide +kernel
theorem d_M_putNumber_62 : decode c_M_putNumber 62 = .ok (.goto (-19), 3) := by decide +kernel
theorem d_M_putNumber_65 : decode c_M_putNumber 65 = .ok (.lload 5, 2) := by decide +kernel
theorem d_M_putNumber_67 : decode c_M_putNumber 67 = .ok (.lconst 0, 1) := by decide +kernel
theorem d_M_putNumber_68 : decode c_M_putNumber 68 = .ok (.lcmp, 1) := by decide +kernel
theorem d_M_putNumber_69 : decode c_M_putNumber 69 = .ok (.ifCond .le 47, 3) := by decide +kernel
theorem d_M_putNumber_72 : decode c_M_putNumber 72 = .ok (.aload_n 0, 1) := by decide +kernel
theorem d_M_putNumber_73 : decode c_M_putNumber 73 = .ok (.getfield 44, 3) := by decide +kernel
theorem d_M_putNumber_76 : decode c_M_putNumber 76 = .ok (.aload_n 0, 1) := by decide +kernel
theorem d_M_putNumber_77 : decode c_M_putNumber 77 = .ok (.getfield 305, 3) := by decide +kernel
theorem d_M_putNumber_80 : decode c_M_putNumber 80 = .ok (.ldc2_w 310, 3) := by decide +kernel
theorem d_M_putNumber_83 : decode c_M_putNumber 83 = .ok (.lload_n 3, 1) := by decide +kernel
theorem d_M_putNumber_84 : decode c_M_putNumber 84 = .ok (.lload 5, 2) := by decide +kernel
theorem d_M_putNumber_86 : decode c_M_putNumber 86 = .ok (.ldiv, 1) := by decide +kernel
theorem d_M_putNumber_87 : decode c_M_putNumber 87 = .ok (.ldc2_w 303, 3) := by decide +kernel
theorem d_M_putNumber_90 : decode c_M_putNumber 90 = .ok (.lrem, 1) := by decide +kernel
theorem d_M_putNumber_91 : decode c_M_putNumber 91 = .ok (.ladd, 1) := by decide +kernel
theorem d_M_putNumber_92 : decode c_M_putNumber 92 = .ok (.l2i, 1) := by decide +kernel
theorem d_M_putNumber_93 : decode c_M_putNumber 93 = .ok (.i2c, 1) := by decide +kernel
theorem d_M_putNumber_94 : decode c_M_putNumber 94 = .ok (.castore, 1) := by decide +kernel
theorem d_M_putNumber_95 : decode c_M_putNumber 95 = .ok (.aload_n 0, 1) := by decide +kernel
theorem d_M_putNumber_96 : decode c_M_putNumber 96 = .ok (.dup, 1) := by decide +kernel
theorem d_M_putNumber_97 : decode c_M_putNumber 97 = .ok (.getfield 305, 3) := by decide +kernel
theorem d_M_putNumber_100 : decode c_M_putNumber 100 = .ok (.iconst 1, 1) := by decide +kernel
theorem d_M_putNumber_101 : decode c_M_putNumber 101 = .ok (.iadd, 1) := by decide +kernel
theorem d_M_putNumber_102 : decode c_M_putNumber 102 = .ok (.putfield 305, 3) := by decide +kernel
theorem d_M_putNumber_105 : decode c_M_putNumber 105 = .ok (.lload 5, 2) := by decide +kernel
theorem d_M_putNumber_107 : decode c_M_putNumber 107 = .ok (.ldc2_w 303, 3) := by decide +kernel
theorem d_M_putNumber_110 : decode c_M_putNumber 110 = .ok (.ldiv, 1) := by decide +kernel
theorem d_M_putNumber_111 : decode c_M_putNumber 111 = .ok (.lstore 5, 2) := by decide +kernel
theorem d_M_putNumber_113 : decode c_M_putNumber 113 = .ok (.goto (-48), 3) := by decide +kernel
theorem d_M_putNumber_116 : decode c_M_putNumber 116 = .ok (.return_, 1) := by decide +kernel
theorem d_M_read_0 : decode c_M_read 0 = .ok (.aload_n 0, 1) := by decide +kernel
theorem d_M_read_1 : decode c_M_read 1 = .ok (.aload_n 0, 1) := by decide +kernel
theorem d_M_read_2 : decode c_M_read 2 = .ok (.iload_n 1, 1) := by decide +kernel
theorem d_M_read_3 : decode c_M_read 3 = .ok (.invokevirtual 269, 3) := by decide +kernel
theorem d_M_read_6 : decode c_M_read 6 = .ok (.ifCond .eq 7, 3) := by decide +kernel
theorem d_M_read_9 : decode c_M_read 9 = .ok (.iconst 0, 1) := by decide +kernel
theorem d_M_read_10 : decode c_M_read 10 = .ok (.goto 4, 3) := by decide +kernel
theorem d_M_read_13 : decode c_M_read 13 = .ok (.iconst 1, 1) := by decide +kernel
theorem d_M_read_14 : decode c_M_read 14 = .ok (.putfield 52, 3) := by decide +kernel
theorem d_M_read_17 : decode c_M_read 17 = .ok (.aload_n 0, 1) := by decide +kernel
theorem d_M_read_18 : decode c_M_read 18 = .ok (.getfield 52, 3) := by decide +kernel
theorem d_M_read_21 : decode c_M_read 21 = .ok (.ifCond .le 5, 3) := by decide +kernel
theorem d_M_read_24 : decode c_M_read 24 = .ok (.iconst 0, 1) := by decide +kernel
theorem d_M_read_25 : decode c_M_read 25 = .ok (.ireturn, 1) := by decide +kernel
theorem d_M_read_26 : decode c_M_read 26 = .ok (.aload_n 0, 1) := by decide +kernel
theorem d_M_read_27 : decode c_M_read 27 = .ok (.iconst 0, 1) := by decide +kernel
theorem d_M_read_28 : decode c_M_read 28 = .ok (.invokevirtual 315, 3) := by decide +kernel
theorem d_M_read_31 : decode c_M_read 31 = .ok (.istore_n 2, 1) := by decide +kernel
theorem d_M_read_32 : decode c_M_read 32 = .ok (.aload_n 0, 1) := by decide +kernel
theorem d_M_read_33 : decode c_M_read 33 = .ok (.iload_n 2, 1) := by decide +kernel
theorem d_M_read_34 : decode c_M_read 34 = .ok (.iconst 1, 1) := by decide +kernel
theorem d_M_read_35 : decode c_M_read 35 = .ok (.iadd, 1) := by decide +kernel
theorem d_M_read_36 : decode c_M_read 36 = .ok (.invokevirtual 315, 3) := by decide +kernel
theorem d_M_read_39 : decode c_M_read 39 = .ok (.istore_n 3, 1) := by decide +kernel
theorem d_M_read_40 : decode c_M_read 40 = .ok (.aload_n 0, 1) := by decide +kernel
theorem d_M_read_41 : decode c_M_read 41 = .ok (.iconst 0, 1) := by decide +kernel
theorem d_M_read_42 : decode c_M_read 42 = .ok (.iload_n 2, 1) := by decide +kernel
theorem d_M_read_43 : decode c_M_read 43 = .ok (.invokevirtual 318, 3) := by decide +kernel
theorem d_M_read_46 : decode c_M_read 46 = .ok (.istore 4, 2) := by decide +kernel
theorem d_M_read_48 : decode c_M_read 48 = .ok (.iload_n 2, 1) := by decide +kernel
theorem d_M_read_49 : decode c_M_read 49 = .ok (.aload_n 0, 1) := by decide +kernel
theorem d_M_read_50 : decode c_M_read 50 = .ok (.getfield 305, 3) := by decide +kernel
theorem d_M_read_53 : decode c_M_read 53 = .ok (.if_icmp .ge 14, 3) := by decide +kernel
theorem d_M_read_56 : decode c_M_read 56 = .ok (.aload_n 0, 1) := by decide +kernel
theorem d_M_read_57 : decode c_M_read 57 = .ok (.iload_n 2, 1) := by decide +kernel
theorem d_M_read_58 : decode c_M_read 58 = .ok (.iconst 1, 1) := by decide +kernel
theorem d_M_read_59 : decode c_M_read 59 = .ok (.iadd, 1) := by decide +kernel
theorem d_M_read_60 : decode c_M_read 60 = .ok (.iload_n 3, 1) := by decide +kernel
theorem d_M_read_61 : decode c_M_read 61 = .ok (.invokevirtual 318, 3) := by decide +kernel
theorem d_M_read_64 : decode c_M_read 64 = .ok (.goto 5, 3) := by decide +kernel
theorem d_M_read_67 : decode c_M_read 67 = .ok (.ldc 39, 2) := by decide +kernel
theorem d_M_read_69 : decode c_M_read 69 = .ok (.istore 5, 2) := by decide +kernel
theorem d_M_read_71 : decode c_M_read 71 = .ok (.iload_n 3, 1) := by decide +kernel
theorem d_M_read_72 : decode c_M_read 72 = .ok (.aload_n 0, 1) := by decide +kernel
theorem d_M_read_73 : decode c_M_read 73 = .ok (.getfield 305, 3) := by decide +kernel
theorem d_M_read_76 : decode c_M_read 76 = .ok (.if_icmp .ge 17, 3) := by decide +kernel
theorem d_M_read_79 : decode c_M_read 79 = .ok (.aload_n 0, 1) := by decide +kernel
theorem d_M_read_80 : decode c_M_read 80 = .ok (.iload_n 3, 1) := by decide +kernel
theorem d_M_read_81 : decode c_M_read 81 = .ok (.iconst 1, 1) := by decide +kernel
theorem d_M_read_82 : decode c_M_read 82 = .ok (.iadd, 1) := by decide +kernel
theorem d_M_read_83 : decode c_M_read 83 = .ok (.aload_n 0, 1) := by decide +kernel
theorem d_M_read_84 : decode c_M_read 84 = .ok (.getfield 305, 3) := by decide +kernel
theorem d_M_read_87 : decode c_M_read 87 = .ok (.invokevirtual 318, 3) := by decide +kernel
theorem d_M_read_90 : decode c_M_read 90 = .ok (.goto 5, 3) := by decide +kernel
theorem d_M_read_93 : decode c_M_read 93 = .ok (.ldc 39, 2) := by decide +kernel
theorem d_M_read_95 : decode c_M_read 95 = .ok (.istore 6, 2) := by decide +kernel
theorem d_M_read_97 : decode c_M_read 97 = .ok (.iload 4, 2) := by decide +kernel
theorem d_M_read_99 : decode c_M_read 99 = .ok (.ldc 39, 2) := by decide +kernel
theorem d_M_read_101 : decode c_M_read 101 = .ok (.if_icmp .eq 29, 3) := by decide +kernel
theorem d_M_read_104 : decode c_M_read 104 = .ok (.iload 5, 2) := by decide +kernel
theorem d_M_read_106 : decode c_M_read 106 = .ok (.ldc 39, 2) := by decide +kernel
theorem d_M_read_108 : decode c_M_read 108 = .ok (.if_icmp .eq 22, 3) := by decide +kernel
theorem d_M_read_111 : decode c_M_read 111 = .ok (.iload 6, 2) := by decide +kernel
theorem d_M_read_113 : decode c_M_read 113 = .ok (.ldc 39, 2) := by decide +kernel
theorem d_M_read_115 : decode c_M_read 115 = .ok (.if_icmp .eq 15, 3) := by decide +kernel
theorem d_M_read_118 : decode c_M_read 118 = .ok (.iload 4, 2) := by decide +kernel
theorem d_M_read_120 : decode c_M_read 120 = .ok (.invokestatic 277, 3) := by decide +kernel
theorem d_M_read_123 : decode c_M_read 123 = .ok (.ifCond .eq 7, 3) := by decide +kernel
theorem d_M_read_126 : decode c_M_read 126 = .ok (.iconst 1, 1) := by decide +kernel
theorem d_M_read_127 : decode c_M_read 127 = .ok (.goto 4, 3) := by decide +kernel
theorem d_M_read_130 : decode c_M_read 130 = .ok (.iconst 0, 1) := by decide +kernel
theorem d_M_read_131 : decode c_M_read 131 = .ok (.istore 7, 2) := by decide +kernel
theorem d_M_read_133 : decode c_M_read 133 = .ok (.iload 7, 2) := by decide +kernel
theorem d_M_read_135 : decode c_M_read 135 = .ok (.ifCond .eq 17, 3) := by decide +kernel
theorem d_M_read_138 : decode c_M_read 138 = .ok (.aload_n 0, 1) := by decide +kernel
theorem d_M_read_139 : decode c_M_read 139 = .ok (.iload_n 1, 1) := by decide +kernel
theorem d_M_read_140 : decode c_M_read 140 = .ok (.iload 4, 2) := by decide +kernel
theorem d_M_read_142 : decode c_M_read 142 = .ok (.iload 5, 2) := by decide +kernel
theorem d_M_read_144 : decode c_M_read 144 = .ok (.iload 6, 2) := by decide +kernel
theorem d_M_read_146 : decode c_M_read 146 = .ok (.invokevirtual 280, 3) := by decide +kernel
theorem d_M_read_149 : decode c_M_read 149 = .ok (.goto 6, 3) := by decide +kernel
theorem d_M_read_152 : decode c_M_read 152 = .ok (.ldc2_w 250, 3) := by decide +kernel
theorem d_M_read_155 : decode c_M_read 155 = .ok (.lstore 8, 2) := by decide +kernel
theorem d_M_read_157 : decode c_M_read 157 = .ok (.aload_n 0, 1) := by decide +kernel
theorem d_M_read_158 : decode c_M_read 158 = .ok (.lload 8, 2) := by decide +kernel
theorem d_M_read_160 : decode c_M_read 160 = .ok (.ldc2_w 250, 3) := by decide +kernel
theorem d_M_read_163 : decode c_M_read 163 = .ok (.lcmp, 1) := by decide +kernel
theorem d_M_read_164 : decode c_M_read 164 = .ok (.ifCond .eq 11, 3) := by decide +kernel
theorem d_M_read_167 : decode c_M_read 167 = .ok (.lload 8, 2) := by decide +kernel
theorem d_M_read_169 : decode c_M_read 169 = .ok (.invokestatic 272, 3) := by decide +kernel
theorem d_M_read_172 : decode c_M_read 172 = .ok (.ifCond .ne 7, 3) := by decide +kernel
theorem d_M_read_175 : decode c_M_read 175 = .ok (.iconst 2, 1) := by decide +kernel
theorem d_M_read_176 : decode c_M_read 176 = .ok (.goto 4, 3) := by decide +kernel
theorem d_M_read_179 : decode c_M_read 179 = .ok (.iconst 0, 1) := by decide +kernel
theorem d_M_read_180 : decode c_M_read 180 = .ok (.putfield 52, 3) := by decide +kernel
theorem d_M_read_183 : decode c_M_read 183 = .ok (.aload_n 0, 1) := by decide +kernel
theorem d_M_read_184 : decode c_M_read 184 = .ok (.getfield 52, 3) := by decide +kernel
theorem d_M_read_187 : decode c_M_read 187 = .ok (.ifCond .le 7, 3) := by decide +kernel
theorem d_M_read_190 : decode c_M_read 190 = .ok (.iconst 0, 1) := by decide +kernel
theorem d_M_read_191 : decode c_M_read 191 = .ok (.goto 6, 3) := by decide +kernel
theorem d_M_read_194 : decode c_M_read 194 = .ok (.lload 8, 2) := by decide +kernel
theorem d_M_read_196 : decode c_M_read 196 = .ok (.l2i, 1) := by decide +kernel
theorem d_M_read_197 : decode c_M_read 197 = .ok (.ireturn, 1) := by decide +kernel
theorem d_M_rounds_0 : decode c_M_rounds 0 = .ok (.aload_n 0, 1) := by decide +kernel
theorem d_M_rounds_1 : decode c_M_rounds 1 = .ok (.iconst 0, 1) := by decide +kernel
theorem d_M_rounds_2 : decode c_M_rounds 2 = .ok (.putfield 52, 3) := by decide +kernel
theorem d_M_rounds_5 : decode c_M_rounds 5 = .ok (.iload_n 1, 1) := by decide +kernel
theorem d_M_rounds_6 : decode c_M_rounds 6 = .ok (.i2l, 1) := by decide +kernel
theorem d_M_rounds_7 : decode c_M_rounds 7 = .ok (.invokestatic 272, 3) := by decide +kernel
theorem d_M_rounds_10 : decode c_M_rounds 10 = .ok (.ifCond .eq 36, 3) := by decide +kernel
theorem d_M_rounds_13 : decode c_M_rounds 13 = .ok (.iload_n 1, 1) := by decide +kernel
theorem d_M_rounds_14 : decode c_M_rounds 14 = .ok (.i2l, 1) := by decide +kernel
theorem d_M_rounds_15 : decode c_M_rounds 15 = .ok (.ldc2_w 284, 3) := by decide +kernel
theorem d_M_rounds_18 : decode c_M_rounds 18 = .ok (.ladd, 1) := by decide +kernel
theorem d_M_rounds_19 : decode c_M_rounds 19 = .ok (.ldc2_w 128, 3) := by decide +kernel
theorem d_M_rounds_22 : decode c_M_rounds 22 = .ok (.invokestatic 65, 3) := by decide +kernel
theorem d_M_rounds_25 : decode c_M_rounds 25 = .ok (.ldc2_w 286, 3) := by decide +kernel
theorem d_M_rounds_28 : decode c_M_rounds 28 = .ok (.iload_n 1, 1) := by decide +kernel
theorem d_M_rounds_29 : decode c_M_rounds 29 = .ok (.i2l, 1) := by decide +kernel
theorem d_M_rounds_30 : decode c_M_rounds 30 = .ok (.ldc2_w 288, 3) := by decide +kernel
theorem d_M_rounds_33 : decode c_M_rounds 33 = .ok (.ladd, 1) := by decide +kernel
theorem d_M_rounds_34 : decode c_M_rounds 34 = .ok (.ldc2_w 290, 3) := by decide +kernel
theorem d_M_rounds_37 : decode c_M_rounds 37 = .ok (.invokestatic 65, 3) := by decide +kernel
theorem d_M_rounds_40 : decode c_M_rounds 40 = .ok (.lmul, 1) := by decide +kernel
theorem d_M_rounds_41 : decode c_M_rounds 41 = .ok (.ladd, 1) := by decide +kernel
theorem d_M_rounds_42 : decode c_M_rounds 42 = .ok (.l2i, 1) := by decide +kernel
theorem d_M_rounds_43 : decode c_M_rounds 43 = .ok (.goto 5, 3) := by decide +kernel
theorem d_M_rounds_46 : decode c_M_rounds 46 = .ok (.ldc 39, 2) := by decide +kernel
theorem d_M_rounds_48 : decode c_M_rounds 48 = .ok (.ireturn, 1) := by decide +kernel
theorem d_M_setYear_0 : decode c_M_setYear 0 = .ok (.aload_n 0, 1) := by decide +kernel
theorem d_M_setYear_1 : decode c_M_setYear 1 = .ok (.iload_n 1, 1) := by decide +kernel
theorem d_M_setYear_2 : decode c_M_setYear 2 = .ok (.putfield 40, 3) := by decide +kernel
theorem d_M_setYear_5 : decode c_M_setYear 5 = .ok (.aload_n 0, 1) := by decide +kernel
theorem d_M_setYear_6 : decode c_M_setYear 6 = .ok (.lload_n 2, 1) := by decide +kernel
theorem d_M_setYear_7 : decode c_M_setYear 7 = .ok (.putfield 177, 3) := by decide +kernel
theorem d_M_setYear_10 : decode c_M_setYear 10 = .ok (.aload_n 0, 1) := by decide +kernel
theorem d_M_setYear_11 : decode c_M_setYear 11 = .ok (.lload 4, 2) := by decide +kernel
theorem d_M_setYear_13 : decode c_M_setYear 13 = .ok (.putfield 181, 3) := by decide +kernel
theorem d_M_setYear_16 : decode c_M_setYear 16 = .ok (.aload_n 0, 1) := by decide +kernel
theorem d_M_setYear_17 : decode c_M_setYear 17 = .ok (.lload 6, 2) := by decide +kernel
theorem d_M_setYear_19 : decode c_M_setYear 19 = .ok (.putfield 184, 3) := by decide +kernel
theorem d_M_setYear_22 : decode c_M_setYear 22 = .ok (.return_, 1) := by decide +kernel
theorem d_M_skips_0 : decode c_M_skips 0 = .ok (.iload_n 0, 1) := by decide +kernel
theorem d_M_skips_1 : decode c_M_skips 1 = .ok (.iconst 1, 1) := by decide +kernel
theorem d_M_skips_2 : decode c_M_skips 2 = .ok (.if_icmp .eq 9, 3) := by decide +kernel
theorem d_M_skips_5 : decode c_M_skips 5 = .ok (.iload_n 0, 1) := by decide +kernel
theorem d_M_skips_6 : decode c_M_skips 6 = .ok (.bipush 6, 2) := by decide +kernel
theorem d_M_skips_8 : decode c_M_skips 8 = .ok (.if_icmp .ne 7, 3) := by decide +kernel
theorem d_M_skips_11 : decode c_M_skips 11 = .ok (.iconst 1, 1) := by decide +kernel
theorem d_M_skips_12 : decode c_M_skips 12 = .ok (.goto 4, 3) := by decide +kernel
theorem d_M_skips_15 : decode c_M_skips 15 = .ok (.iconst 0, 1) := by decide +kernel
theorem d_M_skips_16 : decode c_M_skips 16 = .ok (.ireturn, 1) := by decide +kernel
theorem d_M_slash_0 : decode c_M_slash 0 = .ok (.iload_n 1, 1) := by decide +kernel
theorem d_M_slash_1 : decode c_M_slash 1 = .ok (.istore_n 2, 1) := by decide +kernel
theorem d_M_slash_2 : decode c_M_slash 2 = .ok (.iload_n 2, 1) := by decide +kernel
theorem d_M_slash_3 : decode c_M_slash 3 = .ok (.aload_n 0, 1) := by decide +kernel
theorem d_M_slash_4 : decode c_M_slash 4 = .ok (.getfield 305, 3) := by decide +kernel
theorem d_M_slash_7 : decode c_M_slash 7 = .ok (.if_icmp .ge 20, 3) := by decide +kernel
theorem d_M_slash_10 : decode c_M_slash 10 = .ok (.aload_n 0, 1) := by decide +kernel
theorem d_M_slash_11 : decode c_M_slash 11 = .ok (.getfield 44, 3) := by decide +kernel
theorem d_M_slash_14 : decode c_M_slash 14 = .ok (.iload_n 2, 1) := by decide +kernel
theorem d_M_slash_15 : decode c_M_slash 15 = .ok (.caload, 1) := by decide +kernel
theorem d_M_slash_16 : decode c_M_slash 16 = .ok (.bipush 47, 2) := by decide +kernel
theorem d_M_slash_18 : decode c_M_slash 18 = .ok (.if_icmp .eq 9, 3) := by decide +kernel
theorem d_M_slash_21 : decode c_M_slash 21 = .ok (.iinc 2 1, 3) := by decide +kernel
theorem d_M_slash_24 : decode c_M_slash 24 = .ok (.goto (-22), 3) := by decide +kernel
theorem d_M_slash_27 : decode c_M_slash 27 = .ok (.iload_n 2, 1) := by decide +kernel
theorem d_M_slash_28 : decode c_M_slash 28 = .ok (.ireturn, 1) := by decide +kernel
theorem d_M_start_0 : decode c_M_start 0 = .ok (.iload_n 1, 1) := by decide +kernel
theorem d_M_start_1 : decode c_M_start 1 = .ok (.bipush 9, 2) := by decide +kernel
theorem d_M_start_3 : decode c_M_start 3 = .ok (.if_icmp .ne 8, 3) := by decide +kernel
theorem d_M_start_6 : decode c_M_start 6 = .ok (.lload_n 2, 1) := by decide +kernel
theorem d_M_start_7 : decode c_M_start 7 = .ok (.invokestatic 158, 3) := by decide +kernel
theorem d_M_start_10 : decode c_M_start 10 = .ok (.lreturn, 1) := by decide +kernel
theorem d_M_start_11 : decode c_M_start 11 = .ok (.iload_n 1, 1) := by decide +kernel
theorem d_M_start_12 : decode c_M_start 12 = .ok (.iconst 2, 1) := by decide +kernel
theorem d_M_start_13 : decode c_M_start 13 = .ok (.if_icmp .ne 29, 3) := by decide +kernel
theorem d_M_start_16 : decode c_M_start 16 = .ok (.aload_n 0, 1) := by decide +kernel
theorem d_M_start_17 : decode c_M_start 17 = .ok (.iconst 0, 1) := by decide +kernel
theorem d_M_start_18 : decode c_M_start 18 = .ok (.lload_n 2, 1) := by decide +kernel
theorem d_M_start_19 : decode c_M_start 19 = .ok (.invokevirtual 173, 3) := by decide +kernel
theorem d_M_start_22 : decode c_M_start 22 = .ok (.ldc2_w 76, 3) := by decide +kernel
theorem d_M_start_25 : decode c_M_start 25 = .ok (.ladd, 1) := by decide +kernel
theorem d_M_start_26 : decode c_M_start 26 = .ok (.lstore 4, 2) := by decide +kernel
theorem d_M_start_28 : decode c_M_start 28 = .ok (.lload 4, 2) := by decide +kernel
theorem d_M_start_30 : decode c_M_start 30 = .ok (.lload 4, 2) := by decide +kernel
theorem d_M_start_32 : decode c_M_start 32 = .ok (.lconst 1, 1) := by decide +kernel
theorem d_M_start_33 : decode c_M_start 33 = .ok (.lsub, 1) := by decide +kernel
theorem d_M_start_34 : decode c_M_start 34 = .ok (.ldc2_w 98, 3) := by decide +kernel
theorem d_M_start_37 : decode c_M_start 37 = .ok (.invokestatic 65, 3) := by decide +kernel
theorem d_M_start_40 : decode c_M_start 40 = .ok (.lsub, 1) := by decide +kernel
theorem d_M_start_41 : decode c_M_start 41 = .ok (.lreturn, 1) := by decide +kernel
theorem d_M_start_42 : decode c_M_start 42 = .ok (.aload_n 0, 1) := by decide +kernel
theorem d_M_start_43 : decode c_M_start 43 = .ok (.iload_n 1, 1) := by decide +kernel
theorem d_M_start_44 : decode c_M_start 44 = .ok (.lload_n 2, 1) := by decide +kernel
theorem d_M_start_45 : decode c_M_start 45 = .ok (.invokevirtual 173, 3) := by decide +kernel
theorem d_M_start_48 : decode c_M_start 48 = .ok (.lreturn, 1) := by decide +kernel
theorem d_M_sundayBehind_0 : decode c_M_sundayBehind 0 = .ok (.lload_n 0, 1) := by decide +kernel
theorem d_M_sundayBehind_1 : decode c_M_sundayBehind 1 = .ok (.ldc2_w 98, 3) := by decide +kernel
theorem d_M_sundayBehind_4 : decode c_M_sundayBehind 4 = .ok (.ladd, 1) := by decide +kernel
theorem d_M_sundayBehind_5 : decode c_M_sundayBehind 5 = .ok (.lload_n 0, 1) := by decide +kernel
theorem d_M_sundayBehind_6 : decode c_M_sundayBehind 6 = .ok (.ldc2_w 98, 3) := by decide +kernel
theorem d_M_sundayBehind_9 : decode c_M_sundayBehind 9 = .ok (.invokestatic 65, 3) := by decide +kernel
theorem d_M_sundayBehind_12 : decode c_M_sundayBehind 12 = .ok (.lsub, 1) := by decide +kernel
theorem d_M_sundayBehind_13 : decode c_M_sundayBehind 13 = .ok (.lreturn, 1) := by decide +kernel
theorem d_M_thrown_0 : decode c_M_thrown 0 = .ok (.aload_n 0, 1) := by decide +kernel
theorem d_M_thrown_1 : decode c_M_thrown 1 = .ok (.getfield 52, 3) := by decide +kernel
theorem d_M_thrown_4 : decode c_M_thrown 4 = .ok (.ireturn, 1) := by decide +kernel
theorem d_M_type_0 : decode c_M_type 0 = .ok (.aload_n 0, 1) := by decide +kernel
theorem d_M_type_1 : decode c_M_type 1 = .ok (.iconst 0, 1) := by decide +kernel
theorem d_M_type_2 : decode c_M_type 2 = .ok (.putfield 52, 3) := by decide +kernel
theorem d_M_type_5 : decode c_M_type 5 = .ok (.iload_n 1, 1) := by decide +kernel
theorem d_M_type_6 : decode c_M_type 6 = .ok (.bipush 48, 2) := by decide +kernel
theorem d_M_type_8 : decode c_M_type 8 = .ok (.if_icmp .lt 9, 3) := by decide +kernel
theorem d_M_type_11 : decode c_M_type 11 = .ok (.iload_n 1, 1) := by decide +kernel
theorem d_M_type_12 : decode c_M_type 12 = .ok (.bipush 57, 2) := by decide +kernel
theorem d_M_type_14 : decode c_M_type 14 = .ok (.if_icmp .le 15, 3) := by decide +kernel
theorem d_M_type_17 : decode c_M_type 17 = .ok (.iload_n 1, 1) := by decide +kernel
theorem d_M_type_18 : decode c_M_type 18 = .ok (.bipush 45, 2) := by decide +kernel
theorem d_M_type_20 : decode c_M_type 20 = .ok (.if_icmp .eq 9, 3) := by decide +kernel
theorem d_M_type_23 : decode c_M_type 23 = .ok (.iload_n 1, 1) := by decide +kernel
theorem d_M_type_24 : decode c_M_type 24 = .ok (.bipush 47, 2) := by decide +kernel
theorem d_M_type_26 : decode c_M_type 26 = .ok (.if_icmp .ne 12, 3) := by decide +kernel
theorem d_M_type_29 : decode c_M_type 29 = .ok (.aload_n 0, 1) := by decide +kernel
theorem d_M_type_30 : decode c_M_type 30 = .ok (.getfield 305, 3) := by decide +kernel
theorem d_M_type_33 : decode c_M_type 33 = .ok (.bipush 24, 2) := by decide +kernel
theorem d_M_type_35 : decode c_M_type 35 = .ok (.if_icmp .ne 5, 3) := by decide +kernel
theorem d_M_type_38 : decode c_M_type 38 = .ok (.iconst 0, 1) := by decide +kernel
theorem d_M_type_39 : decode c_M_type 39 = .ok (.ireturn, 1) := by decide +kernel
theorem d_M_type_40 : decode c_M_type 40 = .ok (.aload_n 0, 1) := by decide +kernel
theorem d_M_type_41 : decode c_M_type 41 = .ok (.getfield 44, 3) := by decide +kernel
theorem d_M_type_44 : decode c_M_type 44 = .ok (.aload_n 0, 1) := by decide +kernel
theorem d_M_type_45 : decode c_M_type 45 = .ok (.getfield 305, 3) := by decide +kernel
theorem d_M_type_48 : decode c_M_type 48 = .ok (.iload_n 1, 1) := by decide +kernel
theorem d_M_type_49 : decode c_M_type 49 = .ok (.castore, 1) := by decide +kernel
theorem d_M_type_50 : decode c_M_type 50 = .ok (.aload_n 0, 1) := by decide +kernel
theorem d_M_type_51 : decode c_M_type 51 = .ok (.dup, 1) := by decide +kernel
theorem d_M_type_52 : decode c_M_type 52 = .ok (.getfield 305, 3) := by decide +kernel
theorem d_M_type_55 : decode c_M_type 55 = .ok (.iconst 1, 1) := by decide +kernel
theorem d_M_type_56 : decode c_M_type 56 = .ok (.iadd, 1) := by decide +kernel
theorem d_M_type_57 : decode c_M_type 57 = .ok (.putfield 305, 3) := by decide +kernel
theorem d_M_type_60 : decode c_M_type 60 = .ok (.iconst 1, 1) := by decide +kernel
theorem d_M_type_61 : decode c_M_type 61 = .ok (.ireturn, 1) := by decide +kernel
theorem d_M_when_0 : decode c_M_when 0 = .ok (.aload_n 0, 1) := by decide +kernel
theorem d_M_when_1 : decode c_M_when 1 = .ok (.aload_n 0, 1) := by decide +kernel
theorem d_M_when_2 : decode c_M_when 2 = .ok (.iload_n 1, 1) := by decide +kernel
theorem d_M_when_3 : decode c_M_when 3 = .ok (.invokevirtual 269, 3) := by decide +kernel
theorem d_M_when_6 : decode c_M_when 6 = .ok (.ifCond .ne 7, 3) := by decide +kernel
theorem d_M_when_9 : decode c_M_when 9 = .ok (.iconst 1, 1) := by decide +kernel
theorem d_M_when_10 : decode c_M_when 10 = .ok (.goto 24, 3) := by decide +kernel
theorem d_M_when_13 : decode c_M_when 13 = .ok (.iload 4, 2) := by decide +kernel
theorem d_M_when_15 : decode c_M_when 15 = .ok (.ldc_w 292, 3) := by decide +kernel
theorem d_M_when_18 : decode c_M_when 18 = .ok (.if_icmp .lt 11, 3) := by decide +kernel
theorem d_M_when_21 : decode c_M_when 21 = .ok (.iload 4, 2) := by decide +kernel
theorem d_M_when_23 : decode c_M_when 23 = .ok (.ldc_w 293, 3) := by decide +kernel
theorem d_M_when_26 : decode c_M_when 26 = .ok (.if_icmp .le 7, 3) := by decide +kernel
theorem d_M_when_29 : decode c_M_when 29 = .ok (.iconst 2, 1) := by decide +kernel
theorem d_M_when_30 : decode c_M_when 30 = .ok (.goto 4, 3) := by decide +kernel
theorem d_M_when_33 : decode c_M_when 33 = .ok (.iconst 0, 1) := by decide +kernel
theorem d_M_when_34 : decode c_M_when 34 = .ok (.putfield 52, 3) := by decide +kernel
theorem d_M_when_37 : decode c_M_when 37 = .ok (.aload_n 0, 1) := by decide +kernel
theorem d_M_when_38 : decode c_M_when 38 = .ok (.getfield 52, 3) := by decide +kernel
theorem d_M_when_41 : decode c_M_when 41 = .ok (.ifCond .le 5, 3) := by decide +kernel
theorem d_M_when_44 : decode c_M_when 44 = .ok (.iconst 0, 1) := by decide +kernel
theorem d_M_when_45 : decode c_M_when 45 = .ok (.ireturn, 1) := by decide +kernel
theorem d_M_when_46 : decode c_M_when 46 = .ok (.iload 5, 2) := by decide +kernel
theorem d_M_when_48 : decode c_M_when 48 = .ok (.istore 6, 2) := by decide +kernel
theorem d_M_when_50 : decode c_M_when 50 = .ok (.aload_n 0, 1) := by decide +kernel
theorem d_M_when_51 : decode c_M_when 51 = .ok (.iconst 0, 1) := by decide +kernel
theorem d_M_when_52 : decode c_M_when 52 = .ok (.iload 4, 2) := by decide +kernel
theorem d_M_when_54 : decode c_M_when 54 = .ok (.i2l, 1) := by decide +kernel
theorem d_M_when_55 : decode c_M_when 55 = .ok (.lconst 1, 1) := by decide +kernel
theorem d_M_when_56 : decode c_M_when 56 = .ok (.ladd, 1) := by decide +kernel
theorem d_M_when_57 : decode c_M_when 57 = .ok (.invokevirtual 191, 3) := by decide +kernel
theorem d_M_when_60 : decode c_M_when 60 = .ok (.lstore 7, 2) := by decide +kernel
theorem d_M_when_62 : decode c_M_when 62 = .ok (.aload_n 0, 1) := by decide +kernel
theorem d_M_when_63 : decode c_M_when 63 = .ok (.iconst 0, 1) := by decide +kernel
theorem d_M_when_64 : decode c_M_when 64 = .ok (.iload 4, 2) := by decide +kernel
theorem d_M_when_66 : decode c_M_when 66 = .ok (.i2l, 1) := by decide +kernel
theorem d_M_when_67 : decode c_M_when 67 = .ok (.invokevirtual 191, 3) := by decide +kernel
theorem d_M_when_70 : decode c_M_when 70 = .ok (.lstore 9, 2) := by decide +kernel
theorem d_M_when_72 : decode c_M_when 72 = .ok (.lload 9, 2) := by decide +kernel
theorem d_M_when_74 : decode c_M_when 74 = .ok (.lload 7, 2) := by decide +kernel
theorem d_M_when_76 : decode c_M_when 76 = .ok (.lcmp, 1) := by decide +kernel
theorem d_M_when_77 : decode c_M_when 77 = .ok (.ifCond .ge 47, 3) := by decide +kernel
theorem d_M_when_80 : decode c_M_when 80 = .ok (.aload_n 0, 1) := by decide +kernel
theorem d_M_when_81 : decode c_M_when 81 = .ok (.iload_n 1, 1) := by decide +kernel
theorem d_M_when_82 : decode c_M_when 82 = .ok (.lload 9, 2) := by decide +kernel
theorem d_M_when_84 : decode c_M_when 84 = .ok (.invokevirtual 243, 3) := by decide +kernel
theorem d_M_when_87 : decode c_M_when 87 = .ok (.aload_n 0, 1) := by decide +kernel
theorem d_M_when_88 : decode c_M_when 88 = .ok (.getfield 217, 3) := by decide +kernel
theorem d_M_when_91 : decode c_M_when 91 = .ok (.iload_n 2, 1) := by decide +kernel
theorem d_M_when_92 : decode c_M_when 92 = .ok (.if_icmp .ne 23, 3) := by decide +kernel
theorem d_M_when_95 : decode c_M_when 95 = .ok (.aload_n 0, 1) := by decide +kernel
theorem d_M_when_96 : decode c_M_when 96 = .ok (.getfield 222, 3) := by decide +kernel
theorem d_M_when_99 : decode c_M_when 99 = .ok (.iload_n 3, 1) := by decide +kernel
theorem d_M_when_100 : decode c_M_when 100 = .ok (.if_icmp .ne 15, 3) := by decide +kernel
theorem d_M_when_103 : decode c_M_when 103 = .ok (.iload 6, 2) := by decide +kernel
theorem d_M_when_105 : decode c_M_when 105 = .ok (.ifCond .ne 7, 3) := by decide +kernel
theorem d_M_when_108 : decode c_M_when 108 = .ok (.lload 9, 2) := by decide +kernel
theorem d_M_when_110 : decode c_M_when 110 = .ok (.l2i, 1) := by decide +kernel
theorem d_M_when_111 : decode c_M_when 111 = .ok (.ireturn, 1) := by decide +kernel
theorem d_M_when_112 : decode c_M_when 112 = .ok (.iinc 6 (-1), 3) := by decide +kernel
theorem d_M_when_115 : decode c_M_when 115 = .ok (.lload 9, 2) := by decide +kernel
theorem d_M_when_117 : decode c_M_when 117 = .ok (.lconst 1, 1) := by decide +kernel
theorem d_M_when_118 : decode c_M_when 118 = .ok (.ladd, 1) := by decide +kernel
theorem d_M_when_119 : decode c_M_when 119 = .ok (.lstore 9, 2) := by decide +kernel
theorem d_M_when_121 : decode c_M_when 121 = .ok (.goto (-49), 3) := by decide +kernel
theorem d_M_when_124 : decode c_M_when 124 = .ok (.ldc 39, 2) := by decide +kernel
theorem d_M_when_126 : decode c_M_when 126 = .ok (.ireturn, 1) := by decide +kernel
theorem d_M_wipe_0 : decode c_M_wipe 0 = .ok (.aload_n 0, 1) := by decide +kernel
theorem d_M_wipe_1 : decode c_M_wipe 1 = .ok (.iconst 0, 1) := by decide +kernel
theorem d_M_wipe_2 : decode c_M_wipe 2 = .ok (.putfield 52, 3) := by decide +kernel
theorem d_M_wipe_5 : decode c_M_wipe 5 = .ok (.aload_n 0, 1) := by decide +kernel
theorem d_M_wipe_6 : decode c_M_wipe 6 = .ok (.getfield 305, 3) := by decide +kernel
theorem d_M_wipe_9 : decode c_M_wipe 9 = .ok (.istore_n 1, 1) := by decide +kernel
theorem d_M_wipe_10 : decode c_M_wipe 10 = .ok (.aload_n 0, 1) := by decide +kernel
theorem d_M_wipe_11 : decode c_M_wipe 11 = .ok (.iconst 0, 1) := by decide +kernel
theorem d_M_wipe_12 : decode c_M_wipe 12 = .ok (.putfield 305, 3) := by decide +kernel
theorem d_M_wipe_15 : decode c_M_wipe 15 = .ok (.iload_n 1, 1) := by decide +kernel
theorem d_M_wipe_16 : decode c_M_wipe 16 = .ok (.ireturn, 1) := by decide +kernel
theorem d_M_write_0 : decode c_M_write 0 = .ok (.aload_n 0, 1) := by decide +kernel
theorem d_M_write_1 : decode c_M_write 1 = .ok (.aload_n 0, 1) := by decide +kernel
theorem d_M_write_2 : decode c_M_write 2 = .ok (.iload_n 1, 1) := by decide +kernel
theorem d_M_write_3 : decode c_M_write 3 = .ok (.invokevirtual 269, 3) := by decide +kernel
theorem d_M_write_6 : decode c_M_write 6 = .ok (.ifCond .ne 7, 3) := by decide +kernel
theorem d_M_write_9 : decode c_M_write 9 = .ok (.iconst 1, 1) := by decide +kernel
theorem d_M_write_10 : decode c_M_write 10 = .ok (.goto 16, 3) := by decide +kernel
theorem d_M_write_13 : decode c_M_write 13 = .ok (.iload_n 2, 1) := by decide +kernel
theorem d_M_write_14 : decode c_M_write 14 = .ok (.i2l, 1) := by decide +kernel
theorem d_M_write_15 : decode c_M_write 15 = .ok (.invokestatic 272, 3) := by decide +kernel
theorem d_M_write_18 : decode c_M_write 18 = .ok (.ifCond .ne 7, 3) := by decide +kernel
theorem d_M_write_21 : decode c_M_write 21 = .ok (.iconst 2, 1) := by decide +kernel
theorem d_M_write_22 : decode c_M_write 22 = .ok (.goto 4, 3) := by decide +kernel
theorem d_M_write_25 : decode c_M_write 25 = .ok (.iconst 0, 1) := by decide +kernel
theorem d_M_write_26 : decode c_M_write 26 = .ok (.putfield 52, 3) := by decide +kernel
theorem d_M_write_29 : decode c_M_write 29 = .ok (.aload_n 0, 1) := by decide +kernel
theorem d_M_write_30 : decode c_M_write 30 = .ok (.getfield 52, 3) := by decide +kernel
theorem d_M_write_33 : decode c_M_write 33 = .ok (.ifCond .le 5, 3) := by decide +kernel
theorem d_M_write_36 : decode c_M_write 36 = .ok (.iconst 0, 1) := by decide +kernel
theorem d_M_write_37 : decode c_M_write 37 = .ok (.ireturn, 1) := by decide +kernel
theorem d_M_write_38 : decode c_M_write 38 = .ok (.aload_n 0, 1) := by decide +kernel
theorem d_M_write_39 : decode c_M_write 39 = .ok (.iload_n 1, 1) := by decide +kernel
theorem d_M_write_40 : decode c_M_write 40 = .ok (.iload_n 2, 1) := by decide +kernel
theorem d_M_write_41 : decode c_M_write 41 = .ok (.i2l, 1) := by decide +kernel
theorem d_M_write_42 : decode c_M_write 42 = .ok (.invokevirtual 243, 3) := by decide +kernel
theorem d_M_write_45 : decode c_M_write 45 = .ok (.aload_n 0, 1) := by decide +kernel
theorem d_M_write_46 : decode c_M_write 46 = .ok (.iconst 0, 1) := by decide +kernel
theorem d_M_write_47 : decode c_M_write 47 = .ok (.putfield 305, 3) := by decide +kernel
theorem d_M_write_50 : decode c_M_write 50 = .ok (.aload_n 0, 1) := by decide +kernel
theorem d_M_write_51 : decode c_M_write 51 = .ok (.aload_n 0, 1) := by decide +kernel
theorem d_M_write_52 : decode c_M_write 52 = .ok (.getfield 212, 3) := by decide +kernel
theorem d_M_write_55 : decode c_M_write 55 = .ok (.invokevirtual 312, 3) := by decide +kernel
theorem d_M_write_58 : decode c_M_write 58 = .ok (.aload_n 0, 1) := by decide +kernel
theorem d_M_write_59 : decode c_M_write 59 = .ok (.getfield 44, 3) := by decide +kernel
theorem d_M_write_62 : decode c_M_write 62 = .ok (.aload_n 0, 1) := by decide +kernel
theorem d_M_write_63 : decode c_M_write 63 = .ok (.getfield 305, 3) := by decide +kernel
theorem d_M_write_66 : decode c_M_write 66 = .ok (.bipush 47, 2) := by decide +kernel
theorem d_M_write_68 : decode c_M_write 68 = .ok (.castore, 1) := by decide +kernel
theorem d_M_write_69 : decode c_M_write 69 = .ok (.aload_n 0, 1) := by decide +kernel
theorem d_M_write_70 : decode c_M_write 70 = .ok (.dup, 1) := by decide +kernel
theorem d_M_write_71 : decode c_M_write 71 = .ok (.getfield 305, 3) := by decide +kernel
theorem d_M_write_74 : decode c_M_write 74 = .ok (.iconst 1, 1) := by decide +kernel
theorem d_M_write_75 : decode c_M_write 75 = .ok (.iadd, 1) := by decide +kernel
theorem d_M_write_76 : decode c_M_write 76 = .ok (.putfield 305, 3) := by decide +kernel
theorem d_M_write_79 : decode c_M_write 79 = .ok (.aload_n 0, 1) := by decide +kernel
theorem d_M_write_80 : decode c_M_write 80 = .ok (.aload_n 0, 1) := by decide +kernel
theorem d_M_write_81 : decode c_M_write 81 = .ok (.getfield 217, 3) := by decide +kernel
theorem d_M_write_84 : decode c_M_write 84 = .ok (.i2l, 1) := by decide +kernel
theorem d_M_write_85 : decode c_M_write 85 = .ok (.invokevirtual 312, 3) := by decide +kernel
theorem d_M_write_88 : decode c_M_write 88 = .ok (.aload_n 0, 1) := by decide +kernel
theorem d_M_write_89 : decode c_M_write 89 = .ok (.getfield 44, 3) := by decide +kernel
theorem d_M_write_92 : decode c_M_write 92 = .ok (.aload_n 0, 1) := by decide +kernel
theorem d_M_write_93 : decode c_M_write 93 = .ok (.getfield 305, 3) := by decide +kernel
theorem d_M_write_96 : decode c_M_write 96 = .ok (.bipush 47, 2) := by decide +kernel
theorem d_M_write_98 : decode c_M_write 98 = .ok (.castore, 1) := by decide +kernel
theorem d_M_write_99 : decode c_M_write 99 = .ok (.aload_n 0, 1) := by decide +kernel
theorem d_M_write_100 : decode c_M_write 100 = .ok (.dup, 1) := by decide +kernel
theorem d_M_write_101 : decode c_M_write 101 = .ok (.getfield 305, 3) := by decide +kernel
theorem d_M_write_104 : decode c_M_write 104 = .ok (.iconst 1, 1) := by decide +kernel
theorem d_M_write_105 : decode c_M_write 105 = .ok (.iadd, 1) := by decide +kernel
theorem d_M_write_106 : decode c_M_write 106 = .ok (.putfield 305, 3) := by decide +kernel
theorem d_M_write_109 : decode c_M_write 109 = .ok (.aload_n 0, 1) := by decide +kernel
theorem d_M_write_110 : decode c_M_write 110 = .ok (.aload_n 0, 1) := by decide +kernel
theorem d_M_write_111 : decode c_M_write 111 = .ok (.getfield 222, 3) := by decide +kernel
theorem d_M_write_114 : decode c_M_write 114 = .ok (.i2l, 1) := by decide +kernel
theorem d_M_write_115 : decode c_M_write 115 = .ok (.invokevirtual 312, 3) := by decide +kernel
theorem d_M_write_118 : decode c_M_write 118 = .ok (.aload_n 0, 1) := by decide +kernel
theorem d_M_write_119 : decode c_M_write 119 = .ok (.getfield 305, 3) := by decide +kernel
theorem d_M_write_122 : decode c_M_write 122 = .ok (.ireturn, 1) := by decide +kernel
end
section
/-! decode rows, by program (wip/whole/names.py) -/
theorem d_B_init_0 : decode c_B_init 0 = .ok (.aload_n 0, 1) := by decide +kernel
theorem d_B_init_1 : decode c_B_init 1 = .ok (.invokespecial 1, 3) := by decide +kernel
theorem d_B_init_4 : decode c_B_init 4 = .ok (.aload_n 0, 1) := by decide +kernel
theorem d_B_init_5 : decode c_B_init 5 = .ok (.new 7, 3) := by decide +kernel
theorem d_B_init_8 : decode c_B_init 8 = .ok (.dup, 1) := by decide +kernel
theorem d_B_init_9 : decode c_B_init 9 = .ok (.getstatic 9, 3) := by decide +kernel
theorem d_B_init_12 : decode c_B_init 12 = .ok (.getstatic 15, 3) := by decide +kernel
theorem d_B_init_15 : decode c_B_init 15 = .ok (.iconst 1, 1) := by decide +kernel
theorem d_B_init_16 : decode c_B_init 16 = .ok (.lconst 1, 1) := by decide +kernel
theorem d_B_init_17 : decode c_B_init 17 = .ok (.iconst 1, 1) := by decide +kernel
theorem d_B_init_18 : decode c_B_init 18 = .ok (.new 18, 3) := by decide +kernel
theorem d_B_init_21 : decode c_B_init 21 = .ok (.dup, 1) := by decide +kernel
theorem d_B_init_22 : decode c_B_init 22 = .ok (.lconst 0, 1) := by decide +kernel
theorem d_B_init_23 : decode c_B_init 23 = .ok (.iconst 0, 1) := by decide +kernel
theorem d_B_init_24 : decode c_B_init 24 = .ok (.invokespecial 20, 3) := by decide +kernel
theorem d_B_init_27 : decode c_B_init 27 = .ok (.invokespecial 23, 3) := by decide +kernel
theorem d_B_init_30 : decode c_B_init 30 = .ok (.putfield 26, 3) := by decide +kernel
theorem d_B_init_33 : decode c_B_init 33 = .ok (.aload_n 0, 1) := by decide +kernel
theorem d_B_init_34 : decode c_B_init 34 = .ok (.new 7, 3) := by decide +kernel
theorem d_B_init_37 : decode c_B_init 37 = .ok (.dup, 1) := by decide +kernel
theorem d_B_init_38 : decode c_B_init 38 = .ok (.getstatic 9, 3) := by decide +kernel
theorem d_B_init_41 : decode c_B_init 41 = .ok (.getstatic 15, 3) := by decide +kernel
theorem d_B_init_44 : decode c_B_init 44 = .ok (.iconst 1, 1) := by decide +kernel
theorem d_B_init_45 : decode c_B_init 45 = .ok (.ldc2_w 30, 3) := by decide +kernel
theorem d_B_init_48 : decode c_B_init 48 = .ok (.iconst 0, 1) := by decide +kernel
theorem d_B_init_49 : decode c_B_init 49 = .ok (.new 32, 3) := by decide +kernel
theorem d_B_init_52 : decode c_B_init 52 = .ok (.dup, 1) := by decide +kernel
theorem d_B_init_53 : decode c_B_init 53 = .ok (.lconst 1, 1) := by decide +kernel
theorem d_B_init_54 : decode c_B_init 54 = .ok (.lconst 0, 1) := by decide +kernel
theorem d_B_init_55 : decode c_B_init 55 = .ok (.ldc2_w 34, 3) := by decide +kernel
theorem d_B_init_58 : decode c_B_init 58 = .ok (.invokespecial 36, 3) := by decide +kernel
theorem d_B_init_61 : decode c_B_init 61 = .ok (.invokespecial 23, 3) := by decide +kernel
theorem d_B_init_64 : decode c_B_init 64 = .ok (.putfield 39, 3) := by decide +kernel
theorem d_B_init_67 : decode c_B_init 67 = .ok (.aload_n 0, 1) := by decide +kernel
theorem d_B_init_68 : decode c_B_init 68 = .ok (.new 42, 3) := by decide +kernel
theorem d_B_init_71 : decode c_B_init 71 = .ok (.dup, 1) := by decide +kernel
theorem d_B_init_72 : decode c_B_init 72 = .ok (.invokespecial 44, 3) := by decide +kernel
theorem d_B_init_75 : decode c_B_init 75 = .ok (.putfield 45, 3) := by decide +kernel
theorem d_B_init_78 : decode c_B_init 78 = .ok (.new 32, 3) := by decide +kernel
theorem d_B_init_81 : decode c_B_init 81 = .ok (.dup, 1) := by decide +kernel
theorem d_B_init_82 : decode c_B_init 82 = .ok (.lconst 1, 1) := by decide +kernel
theorem d_B_init_83 : decode c_B_init 83 = .ok (.lconst 1, 1) := by decide +kernel
theorem d_B_init_84 : decode c_B_init 84 = .ok (.ldc2_w 34, 3) := by decide +kernel
theorem d_B_init_87 : decode c_B_init 87 = .ok (.invokespecial 36, 3) := by decide +kernel
theorem d_B_init_90 : decode c_B_init 90 = .ok (.astore_n 1, 1) := by decide +kernel
theorem d_B_init_91 : decode c_B_init 91 = .ok (.aload_n 0, 1) := by decide +kernel
theorem d_B_init_92 : decode c_B_init 92 = .ok (.bipush 14, 2) := by decide +kernel
theorem d_B_init_94 : decode c_B_init 94 = .ok (.anewarray 49, 3) := by decide +kernel
theorem d_B_init_97 : decode c_B_init 97 = .ok (.putfield 51, 3) := by decide +kernel
theorem d_B_init_100 : decode c_B_init 100 = .ok (.aload_n 0, 1) := by decide +kernel
theorem d_B_init_101 : decode c_B_init 101 = .ok (.getfield 51, 3) := by decide +kernel
theorem d_B_init_104 : decode c_B_init 104 = .ok (.iconst 0, 1) := by decide +kernel
theorem d_B_init_105 : decode c_B_init 105 = .ok (.aload_n 0, 1) := by decide +kernel
theorem d_B_init_106 : decode c_B_init 106 = .ok (.getfield 26, 3) := by decide +kernel
theorem d_B_init_109 : decode c_B_init 109 = .ok (.aastore, 1) := by decide +kernel
theorem d_B_init_110 : decode c_B_init 110 = .ok (.aload_n 0, 1) := by decide +kernel
theorem d_B_init_111 : decode c_B_init 111 = .ok (.getfield 51, 3) := by decide +kernel
theorem d_B_init_114 : decode c_B_init 114 = .ok (.iconst 1, 1) := by decide +kernel
theorem d_B_init_115 : decode c_B_init 115 = .ok (.aload_n 0, 1) := by decide +kernel
theorem d_B_init_116 : decode c_B_init 116 = .ok (.getfield 39, 3) := by decide +kernel
theorem d_B_init_119 : decode c_B_init 119 = .ok (.aastore, 1) := by decide +kernel
theorem d_B_init_120 : decode c_B_init 120 = .ok (.aload_n 0, 1) := by decide +kernel
theorem d_B_init_121 : decode c_B_init 121 = .ok (.getfield 51, 3) := by decide +kernel
theorem d_B_init_124 : decode c_B_init 124 = .ok (.iconst 2, 1) := by decide +kernel
theorem d_B_init_125 : decode c_B_init 125 = .ok (.new 55, 3) := by decide +kernel
theorem d_B_init_128 : decode c_B_init 128 = .ok (.dup, 1) := by decide +kernel
theorem d_B_init_129 : decode c_B_init 129 = .ok (.aload_n 0, 1) := by decide +kernel
theorem d_B_init_130 : decode c_B_init 130 = .ok (.getfield 26, 3) := by decide +kernel
theorem d_B_init_133 : decode c_B_init 133 = .ok (.invokespecial 57, 3) := by decide +kernel
theorem d_B_init_136 : decode c_B_init 136 = .ok (.aastore, 1) := by decide +kernel
theorem d_B_init_137 : decode c_B_init 137 = .ok (.aload_n 0, 1) := by decide +kernel
theorem d_B_init_138 : decode c_B_init 138 = .ok (.getfield 51, 3) := by decide +kernel
theorem d_B_init_141 : decode c_B_init 141 = .ok (.iconst 3, 1) := by decide +kernel
theorem d_B_init_142 : decode c_B_init 142 = .ok (.new 7, 3) := by decide +kernel
theorem d_B_init_145 : decode c_B_init 145 = .ok (.dup, 1) := by decide +kernel
theorem d_B_init_146 : decode c_B_init 146 = .ok (.getstatic 9, 3) := by decide +kernel
theorem d_B_init_149 : decode c_B_init 149 = .ok (.getstatic 60, 3) := by decide +kernel
theorem d_B_init_152 : decode c_B_init 152 = .ok (.bipush 12, 2) := by decide +kernel
theorem d_B_init_154 : decode c_B_init 154 = .ok (.ldc2_w 63, 3) := by decide +kernel
theorem d_B_init_157 : decode c_B_init 157 = .ok (.iconst 1, 1) := by decide +kernel
theorem d_B_init_158 : decode c_B_init 158 = .ok (.aload_n 1, 1) := by decide +kernel
theorem d_B_init_159 : decode c_B_init 159 = .ok (.invokespecial 23, 3) := by decide +kernel
theorem d_B_init_162 : decode c_B_init 162 = .ok (.aastore, 1) := by decide +kernel
theorem d_B_init_163 : decode c_B_init 163 = .ok (.aload_n 0, 1) := by decide +kernel
theorem d_B_init_164 : decode c_B_init 164 = .ok (.getfield 51, 3) := by decide +kernel
theorem d_B_init_167 : decode c_B_init 167 = .ok (.iconst 4, 1) := by decide +kernel
theorem d_B_init_168 : decode c_B_init 168 = .ok (.new 7, 3) := by decide +kernel
theorem d_B_init_171 : decode c_B_init 171 = .ok (.dup, 1) := by decide +kernel
theorem d_B_init_172 : decode c_B_init 172 = .ok (.getstatic 9, 3) := by decide +kernel
theorem d_B_init_175 : decode c_B_init 175 = .ok (.getstatic 60, 3) := by decide +kernel
theorem d_B_init_178 : decode c_B_init 178 = .ok (.bipush 12, 2) := by decide +kernel
theorem d_B_init_180 : decode c_B_init 180 = .ok (.ldc2_w 65, 3) := by decide +kernel
theorem d_B_init_183 : decode c_B_init 183 = .ok (.iconst 1, 1) := by decide +kernel
theorem d_B_init_184 : decode c_B_init 184 = .ok (.aload_n 1, 1) := by decide +kernel
theorem d_B_init_185 : decode c_B_init 185 = .ok (.invokespecial 23, 3) := by decide +kernel
theorem d_B_init_188 : decode c_B_init 188 = .ok (.aastore, 1) := by decide +kernel
theorem d_B_init_189 : decode c_B_init 189 = .ok (.aload_n 0, 1) := by decide +kernel
theorem d_B_init_190 : decode c_B_init 190 = .ok (.getfield 51, 3) := by decide +kernel
theorem d_B_init_193 : decode c_B_init 193 = .ok (.iconst 5, 1) := by decide +kernel
theorem d_B_init_194 : decode c_B_init 194 = .ok (.new 7, 3) := by decide +kernel
theorem d_B_init_197 : decode c_B_init 197 = .ok (.dup, 1) := by decide +kernel
theorem d_B_init_198 : decode c_B_init 198 = .ok (.getstatic 9, 3) := by decide +kernel
theorem d_B_init_201 : decode c_B_init 201 = .ok (.getstatic 67, 3) := by decide +kernel
theorem d_B_init_204 : decode c_B_init 204 = .ok (.bipush 11, 2) := by decide +kernel
theorem d_B_init_206 : decode c_B_init 206 = .ok (.ldc2_w 70, 3) := by decide +kernel
theorem d_B_init_209 : decode c_B_init 209 = .ok (.iconst 1, 1) := by decide +kernel
theorem d_B_init_210 : decode c_B_init 210 = .ok (.new 32, 3) := by decide +kernel
theorem d_B_init_213 : decode c_B_init 213 = .ok (.dup, 1) := by decide +kernel
theorem d_B_init_214 : decode c_B_init 214 = .ok (.ldc2_w 72, 3) := by decide +kernel
theorem d_B_init_217 : decode c_B_init 217 = .ok (.ldc2_w 74, 3) := by decide +kernel
theorem d_B_init_220 : decode c_B_init 220 = .ok (.ldc2_w 76, 3) := by decide +kernel
theorem d_B_init_223 : decode c_B_init 223 = .ok (.invokespecial 36, 3) := by decide +kernel
theorem d_B_init_226 : decode c_B_init 226 = .ok (.invokespecial 23, 3) := by decide +kernel
theorem d_B_init_229 : decode c_B_init 229 = .ok (.aastore, 1) := by decide +kernel
theorem d_B_init_230 : decode c_B_init 230 = .ok (.aload_n 0, 1) := by decide +kernel
theorem d_B_init_231 : decode c_B_init 231 = .ok (.getfield 51, 3) := by decide +kernel
theorem d_B_init_234 : decode c_B_init 234 = .ok (.bipush 6, 2) := by decide +kernel
theorem d_B_init_236 : decode c_B_init 236 = .ok (.new 7, 3) := by decide +kernel
theorem d_B_init_239 : decode c_B_init 239 = .ok (.dup, 1) := by decide +kernel
theorem d_B_init_240 : decode c_B_init 240 = .ok (.getstatic 9, 3) := by decide +kernel
theorem d_B_init_243 : decode c_B_init 243 = .ok (.getstatic 78, 3) := by decide +kernel
theorem d_B_init_246 : decode c_B_init 246 = .ok (.bipush 11, 2) := by decide +kernel
theorem d_B_init_248 : decode c_B_init 248 = .ok (.ldc2_w 81, 3) := by decide +kernel
theorem d_B_init_251 : decode c_B_init 251 = .ok (.iconst 0, 1) := by decide +kernel
theorem d_B_init_252 : decode c_B_init 252 = .ok (.new 83, 3) := by decide +kernel
theorem d_B_init_255 : decode c_B_init 255 = .ok (.dup, 1) := by decide +kernel
theorem d_B_init_256 : decode c_B_init 256 = .ok (.invokespecial 85, 3) := by decide +kernel
theorem d_B_init_259 : decode c_B_init 259 = .ok (.invokespecial 23, 3) := by decide +kernel
theorem d_B_init_262 : decode c_B_init 262 = .ok (.aastore, 1) := by decide +kernel
theorem d_B_init_263 : decode c_B_init 263 = .ok (.aload_n 0, 1) := by decide +kernel
theorem d_B_init_264 : decode c_B_init 264 = .ok (.getfield 51, 3) := by decide +kernel
theorem d_B_init_267 : decode c_B_init 267 = .ok (.bipush 7, 2) := by decide +kernel
theorem d_B_init_269 : decode c_B_init 269 = .ok (.new 7, 3) := by decide +kernel
theorem d_B_init_272 : decode c_B_init 272 = .ok (.dup, 1) := by decide +kernel
theorem d_B_init_273 : decode c_B_init 273 = .ok (.getstatic 9, 3) := by decide +kernel
theorem d_B_init_276 : decode c_B_init 276 = .ok (.getstatic 60, 3) := by decide +kernel
theorem d_B_init_279 : decode c_B_init 279 = .ok (.bipush 12, 2) := by decide +kernel
theorem d_B_init_281 : decode c_B_init 281 = .ok (.ldc2_w 86, 3) := by decide +kernel
theorem d_B_init_284 : decode c_B_init 284 = .ok (.iconst 1, 1) := by decide +kernel
theorem d_B_init_285 : decode c_B_init 285 = .ok (.new 18, 3) := by decide +kernel
theorem d_B_init_288 : decode c_B_init 288 = .ok (.dup, 1) := by decide +kernel
theorem d_B_init_289 : decode c_B_init 289 = .ok (.lconst 0, 1) := by decide +kernel
theorem d_B_init_290 : decode c_B_init 290 = .ok (.iconst 1, 1) := by decide +kernel
theorem d_B_init_291 : decode c_B_init 291 = .ok (.invokespecial 20, 3) := by decide +kernel
theorem d_B_init_294 : decode c_B_init 294 = .ok (.invokespecial 23, 3) := by decide +kernel
theorem d_B_init_297 : decode c_B_init 297 = .ok (.aastore, 1) := by decide +kernel
theorem d_B_init_298 : decode c_B_init 298 = .ok (.aload_n 0, 1) := by decide +kernel
theorem d_B_init_299 : decode c_B_init 299 = .ok (.getfield 51, 3) := by decide +kernel
theorem d_B_init_302 : decode c_B_init 302 = .ok (.bipush 8, 2) := by decide +kernel
theorem d_B_init_304 : decode c_B_init 304 = .ok (.new 7, 3) := by decide +kernel
theorem d_B_init_307 : decode c_B_init 307 = .ok (.dup, 1) := by decide +kernel
theorem d_B_init_308 : decode c_B_init 308 = .ok (.getstatic 88, 3) := by decide +kernel
theorem d_B_init_311 : decode c_B_init 311 = .ok (.getstatic 91, 3) := by decide +kernel
theorem d_B_init_314 : decode c_B_init 314 = .ok (.bipush 18, 2) := by decide +kernel
theorem d_B_init_316 : decode c_B_init 316 = .ok (.ldc2_w 94, 3) := by decide +kernel
theorem d_B_init_319 : decode c_B_init 319 = .ok (.iconst 1, 1) := by decide +kernel
theorem d_B_init_320 : decode c_B_init 320 = .ok (.new 18, 3) := by decide +kernel
theorem d_B_init_323 : decode c_B_init 323 = .ok (.dup, 1) := by decide +kernel
theorem d_B_init_324 : decode c_B_init 324 = .ok (.ldc2_w 96, 3) := by decide +kernel
theorem d_B_init_327 : decode c_B_init 327 = .ok (.iconst 0, 1) := by decide +kernel
theorem d_B_init_328 : decode c_B_init 328 = .ok (.invokespecial 20, 3) := by decide +kernel
theorem d_B_init_331 : decode c_B_init 331 = .ok (.invokespecial 23, 3) := by decide +kernel
theorem d_B_init_334 : decode c_B_init 334 = .ok (.aastore, 1) := by decide +kernel
theorem d_B_init_335 : decode c_B_init 335 = .ok (.aload_n 0, 1) := by decide +kernel
theorem d_B_init_336 : decode c_B_init 336 = .ok (.getfield 51, 3) := by decide +kernel
theorem d_B_init_339 : decode c_B_init 339 = .ok (.bipush 9, 2) := by decide +kernel
theorem d_B_init_341 : decode c_B_init 341 = .ok (.aload_n 0, 1) := by decide +kernel
theorem d_B_init_342 : decode c_B_init 342 = .ok (.getfield 45, 3) := by decide +kernel
theorem d_B_init_345 : decode c_B_init 345 = .ok (.aastore, 1) := by decide +kernel
theorem d_B_init_346 : decode c_B_init 346 = .ok (.aload_n 0, 1) := by decide +kernel
theorem d_B_init_347 : decode c_B_init 347 = .ok (.getfield 51, 3) := by decide +kernel
theorem d_B_init_350 : decode c_B_init 350 = .ok (.bipush 10, 2) := by decide +kernel
theorem d_B_init_352 : decode c_B_init 352 = .ok (.new 98, 3) := by decide +kernel
theorem d_B_init_355 : decode c_B_init 355 = .ok (.dup, 1) := by decide +kernel
theorem d_B_init_356 : decode c_B_init 356 = .ok (.invokespecial 100, 3) := by decide +kernel
theorem d_B_init_359 : decode c_B_init 359 = .ok (.aastore, 1) := by decide +kernel
theorem d_B_init_360 : decode c_B_init 360 = .ok (.aload_n 0, 1) := by decide +kernel
theorem d_B_init_361 : decode c_B_init 361 = .ok (.getfield 51, 3) := by decide +kernel
theorem d_B_init_364 : decode c_B_init 364 = .ok (.bipush 11, 2) := by decide +kernel
theorem d_B_init_366 : decode c_B_init 366 = .ok (.new 101, 3) := by decide +kernel
theorem d_B_init_369 : decode c_B_init 369 = .ok (.dup, 1) := by decide +kernel
theorem d_B_init_370 : decode c_B_init 370 = .ok (.invokespecial 103, 3) := by decide +kernel
theorem d_B_init_373 : decode c_B_init 373 = .ok (.aastore, 1) := by decide +kernel
theorem d_B_init_374 : decode c_B_init 374 = .ok (.aload_n 0, 1) := by decide +kernel
theorem d_B_init_375 : decode c_B_init 375 = .ok (.new 104, 3) := by decide +kernel
theorem d_B_init_378 : decode c_B_init 378 = .ok (.dup, 1) := by decide +kernel
theorem d_B_init_379 : decode c_B_init 379 = .ok (.invokespecial 106, 3) := by decide +kernel
theorem d_B_init_382 : decode c_B_init 382 = .ok (.putfield 107, 3) := by decide +kernel
theorem d_B_init_385 : decode c_B_init 385 = .ok (.return_, 1) := by decide +kernel
theorem d_B_calendarAt_0 : decode c_B_calendarAt 0 = .ok (.iload_n 1, 1) := by decide +kernel
theorem d_B_calendarAt_1 : decode c_B_calendarAt 1 = .ok (.ifCond .lt 18, 3) := by decide +kernel
theorem d_B_calendarAt_4 : decode c_B_calendarAt 4 = .ok (.iload_n 1, 1) := by decide +kernel
theorem d_B_calendarAt_5 : decode c_B_calendarAt 5 = .ok (.bipush 14, 2) := by decide +kernel
theorem d_B_calendarAt_7 : decode c_B_calendarAt 7 = .ok (.if_icmp .ge 12, 3) := by decide +kernel
theorem d_B_calendarAt_10 : decode c_B_calendarAt 10 = .ok (.aload_n 0, 1) := by decide +kernel
theorem d_B_calendarAt_11 : decode c_B_calendarAt 11 = .ok (.getfield 51, 3) := by decide +kernel
theorem d_B_calendarAt_14 : decode c_B_calendarAt 14 = .ok (.iload_n 1, 1) := by decide +kernel
theorem d_B_calendarAt_15 : decode c_B_calendarAt 15 = .ok (.aaload, 1) := by decide +kernel
theorem d_B_calendarAt_16 : decode c_B_calendarAt 16 = .ok (.goto 4, 3) := by decide +kernel
theorem d_B_calendarAt_19 : decode c_B_calendarAt 19 = .ok (.aconst_null, 1) := by decide +kernel
theorem d_B_calendarAt_20 : decode c_B_calendarAt 20 = .ok (.areturn, 1) := by decide +kernel
theorem d_B_ceilDiv_0 : decode c_B_ceilDiv 0 = .ok (.lload_n 0, 1) := by decide +kernel
theorem d_B_ceilDiv_1 : decode c_B_ceilDiv 1 = .ok (.lneg, 1) := by decide +kernel
theorem d_B_ceilDiv_2 : decode c_B_ceilDiv 2 = .ok (.lload_n 2, 1) := by decide +kernel
theorem d_B_ceilDiv_3 : decode c_B_ceilDiv 3 = .ok (.invokestatic 249, 3) := by decide +kernel
theorem d_B_ceilDiv_6 : decode c_B_ceilDiv 6 = .ok (.lneg, 1) := by decide +kernel
theorem d_B_ceilDiv_7 : decode c_B_ceilDiv 7 = .ok (.lreturn, 1) := by decide +kernel
theorem d_B_date_0 : decode c_B_date 0 = .ok (.aload_n 0, 1) := by decide +kernel
theorem d_B_date_1 : decode c_B_date 1 = .ok (.iload_n 1, 1) := by decide +kernel
theorem d_B_date_2 : decode c_B_date 2 = .ok (.invokevirtual 125, 3) := by decide +kernel
theorem d_B_date_5 : decode c_B_date 5 = .ok (.astore 4, 2) := by decide +kernel
theorem d_B_date_7 : decode c_B_date 7 = .ok (.aload 4, 2) := by decide +kernel
theorem d_B_date_9 : decode c_B_date 9 = .ok (.ifnull 12, 3) := by decide +kernel
theorem d_B_date_12 : decode c_B_date 12 = .ok (.iload_n 3, 1) := by decide +kernel
theorem d_B_date_13 : decode c_B_date 13 = .ok (.ifCond .lt 8, 3) := by decide +kernel
theorem d_B_date_16 : decode c_B_date 16 = .ok (.iload_n 3, 1) := by decide +kernel
theorem d_B_date_17 : decode c_B_date 17 = .ok (.iconst 2, 1) := by decide +kernel
theorem d_B_date_18 : decode c_B_date 18 = .ok (.if_icmp .le 11, 3) := by decide +kernel
theorem d_B_date_21 : decode c_B_date 21 = .ok (.new 111, 3) := by decide +kernel
theorem d_B_date_24 : decode c_B_date 24 = .ok (.dup, 1) := by decide +kernel
theorem d_B_date_25 : decode c_B_date 25 = .ok (.invokespecial 113, 3) := by decide +kernel
theorem d_B_date_28 : decode c_B_date 28 = .ok (.athrow, 1) := by decide +kernel
theorem d_B_date_29 : decode c_B_date 29 = .ok (.iload_n 2, 1) := by decide +kernel
theorem d_B_date_30 : decode c_B_date 30 = .ok (.i2l, 1) := by decide +kernel
theorem d_B_date_31 : decode c_B_date 31 = .ok (.invokestatic 129, 3) := by decide +kernel
theorem d_B_date_34 : decode c_B_date 34 = .ok (.ifCond .ne 11, 3) := by decide +kernel
theorem d_B_date_37 : decode c_B_date 37 = .ok (.new 133, 3) := by decide +kernel
theorem d_B_date_40 : decode c_B_date 40 = .ok (.dup, 1) := by decide +kernel
theorem d_B_date_41 : decode c_B_date 41 = .ok (.invokespecial 135, 3) := by decide +kernel
theorem d_B_date_44 : decode c_B_date 44 = .ok (.athrow, 1) := by decide +kernel
theorem d_B_date_45 : decode c_B_date 45 = .ok (.aload 4, 2) := by decide +kernel
theorem d_B_date_47 : decode c_B_date 47 = .ok (.iload_n 2, 1) := by decide +kernel
theorem d_B_date_48 : decode c_B_date 48 = .ok (.i2l, 1) := by decide +kernel
theorem d_B_date_49 : decode c_B_date 49 = .ok (.invokevirtual 136, 3) := by decide +kernel
theorem d_B_date_52 : decode c_B_date 52 = .ok (.lstore 5, 2) := by decide +kernel
theorem d_B_date_54 : decode c_B_date 54 = .ok (.iload_n 3, 1) := by decide +kernel
theorem d_B_date_55 : decode c_B_date 55 = .ok (.ifCond .ne 9, 3) := by decide +kernel
theorem d_B_date_58 : decode c_B_date 58 = .ok (.lload 5, 2) := by decide +kernel
theorem d_B_date_60 : decode c_B_date 60 = .ok (.invokestatic 140, 3) := by decide +kernel
theorem d_B_date_63 : decode c_B_date 63 = .ok (.ireturn, 1) := by decide +kernel
theorem d_B_date_64 : decode c_B_date 64 = .ok (.iload_n 3, 1) := by decide +kernel
theorem d_B_date_65 : decode c_B_date 65 = .ok (.iconst 1, 1) := by decide +kernel
theorem d_B_date_66 : decode c_B_date 66 = .ok (.if_icmp .ne 11, 3) := by decide +kernel
theorem d_B_date_69 : decode c_B_date 69 = .ok (.lload 5, 2) := by decide +kernel
theorem d_B_date_71 : decode c_B_date 71 = .ok (.invokestatic 144, 3) := by decide +kernel
theorem d_B_date_74 : decode c_B_date 74 = .ok (.goto 8, 3) := by decide +kernel
theorem d_B_date_77 : decode c_B_date 77 = .ok (.lload 5, 2) := by decide +kernel
theorem d_B_date_79 : decode c_B_date 79 = .ok (.invokestatic 147, 3) := by decide +kernel
theorem d_B_date_82 : decode c_B_date 82 = .ok (.ireturn, 1) := by decide +kernel
theorem d_B_dayIn_0 : decode c_B_dayIn 0 = .ok (.lload_n 0, 1) := by decide +kernel
theorem d_B_dayIn_1 : decode c_B_dayIn 1 = .ok (.l2i, 1) := by decide +kernel
theorem d_B_dayIn_2 : decode c_B_dayIn 2 = .ok (.sipush 255, 3) := by decide +kernel
theorem d_B_dayIn_5 : decode c_B_dayIn 5 = .ok (.iand, 1) := by decide +kernel
theorem d_B_dayIn_6 : decode c_B_dayIn 6 = .ok (.ireturn, 1) := by decide +kernel
theorem d_B_feast_0 : decode c_B_feast 0 = .ok (.iload_n 1, 1) := by decide +kernel
theorem d_B_feast_1 : decode c_B_feast 1 = .ok (.ifCond .lt 8, 3) := by decide +kernel
theorem d_B_feast_4 : decode c_B_feast 4 = .ok (.iload_n 1, 1) := by decide +kernel
theorem d_B_feast_5 : decode c_B_feast 5 = .ok (.iconst 2, 1) := by decide +kernel
theorem d_B_feast_6 : decode c_B_feast 6 = .ok (.if_icmp .le 11, 3) := by decide +kernel
theorem d_B_feast_9 : decode c_B_feast 9 = .ok (.new 111, 3) := by decide +kernel
theorem d_B_feast_12 : decode c_B_feast 12 = .ok (.dup, 1) := by decide +kernel
theorem d_B_feast_13 : decode c_B_feast 13 = .ok (.invokespecial 113, 3) := by decide +kernel
theorem d_B_feast_16 : decode c_B_feast 16 = .ok (.athrow, 1) := by decide +kernel
theorem d_B_feast_17 : decode c_B_feast 17 = .ok (.iload_n 2, 1) := by decide +kernel
theorem d_B_feast_18 : decode c_B_feast 18 = .ok (.ldc 184, 2) := by decide +kernel
theorem d_B_feast_20 : decode c_B_feast 20 = .ok (.invokestatic 151, 3) := by decide +kernel
theorem d_B_feast_23 : decode c_B_feast 23 = .ok (.ifCond .ne 11, 3) := by decide +kernel
theorem d_B_feast_26 : decode c_B_feast 26 = .ok (.new 133, 3) := by decide +kernel
theorem d_B_feast_29 : decode c_B_feast 29 = .ok (.dup, 1) := by decide +kernel
theorem d_B_feast_30 : decode c_B_feast 30 = .ok (.invokespecial 135, 3) := by decide +kernel
theorem d_B_feast_33 : decode c_B_feast 33 = .ok (.athrow, 1) := by decide +kernel
theorem d_B_feast_34 : decode c_B_feast 34 = .ok (.iload_n 1, 1) := by decide +kernel
theorem d_B_feast_35 : decode c_B_feast 35 = .ok (.iconst 2, 1) := by decide +kernel
theorem d_B_feast_36 : decode c_B_feast 36 = .ok (.if_icmp .ne 21, 3) := by decide +kernel
theorem d_B_feast_39 : decode c_B_feast 39 = .ok (.aload_n 0, 1) := by decide +kernel
theorem d_B_feast_40 : decode c_B_feast 40 = .ok (.getfield 45, 3) := by decide +kernel
theorem d_B_feast_43 : decode c_B_feast 43 = .ok (.iload_n 2, 1) := by decide +kernel
theorem d_B_feast_44 : decode c_B_feast 44 = .ok (.i2l, 1) := by decide +kernel
theorem d_B_feast_45 : decode c_B_feast 45 = .ok (.ldc2_w 185, 3) := by decide +kernel
theorem d_B_feast_48 : decode c_B_feast 48 = .ok (.ladd, 1) := by decide +kernel
theorem d_B_feast_49 : decode c_B_feast 49 = .ok (.iconst 1, 1) := by decide +kernel
theorem d_B_feast_50 : decode c_B_feast 50 = .ok (.bipush 15, 2) := by decide +kernel
theorem d_B_feast_52 : decode c_B_feast 52 = .ok (.invokevirtual 187, 3) := by decide +kernel
theorem d_B_feast_55 : decode c_B_feast 55 = .ok (.l2i, 1) := by decide +kernel
theorem d_B_feast_56 : decode c_B_feast 56 = .ok (.ireturn, 1) := by decide +kernel
theorem d_B_feast_57 : decode c_B_feast 57 = .ok (.iload_n 1, 1) := by decide +kernel
theorem d_B_feast_58 : decode c_B_feast 58 = .ok (.ifCond .ne 11, 3) := by decide +kernel
theorem d_B_feast_61 : decode c_B_feast 61 = .ok (.aload_n 0, 1) := by decide +kernel
theorem d_B_feast_62 : decode c_B_feast 62 = .ok (.iload_n 2, 1) := by decide +kernel
theorem d_B_feast_63 : decode c_B_feast 63 = .ok (.invokevirtual 188, 3) := by decide +kernel
theorem d_B_feast_66 : decode c_B_feast 66 = .ok (.goto 8, 3) := by decide +kernel
theorem d_B_feast_69 : decode c_B_feast 69 = .ok (.aload_n 0, 1) := by decide +kernel
theorem d_B_feast_70 : decode c_B_feast 70 = .ok (.iload_n 2, 1) := by decide +kernel
theorem d_B_feast_71 : decode c_B_feast 71 = .ok (.invokevirtual 192, 3) := by decide +kernel
theorem d_B_feast_74 : decode c_B_feast 74 = .ok (.l2i, 1) := by decide +kernel
theorem d_B_feast_75 : decode c_B_feast 75 = .ok (.ireturn, 1) := by decide +kernel
theorem d_B_fixed_0 : decode c_B_fixed 0 = .ok (.aload_n 0, 1) := by decide +kernel
theorem d_B_fixed_1 : decode c_B_fixed 1 = .ok (.iload_n 1, 1) := by decide +kernel
theorem d_B_fixed_2 : decode c_B_fixed 2 = .ok (.invokevirtual 125, 3) := by decide +kernel
theorem d_B_fixed_5 : decode c_B_fixed 5 = .ok (.astore 5, 2) := by decide +kernel
theorem d_B_fixed_7 : decode c_B_fixed 7 = .ok (.aload 5, 2) := by decide +kernel
theorem d_B_fixed_9 : decode c_B_fixed 9 = .ok (.ifnonnull 11, 3) := by decide +kernel
theorem d_B_fixed_12 : decode c_B_fixed 12 = .ok (.new 111, 3) := by decide +kernel
theorem d_B_fixed_15 : decode c_B_fixed 15 = .ok (.dup, 1) := by decide +kernel
theorem d_B_fixed_16 : decode c_B_fixed 16 = .ok (.invokespecial 113, 3) := by decide +kernel
theorem d_B_fixed_19 : decode c_B_fixed 19 = .ok (.athrow, 1) := by decide +kernel
theorem d_B_fixed_20 : decode c_B_fixed 20 = .ok (.iload_n 2, 1) := by decide +kernel
theorem d_B_fixed_21 : decode c_B_fixed 21 = .ok (.ldc 150, 2) := by decide +kernel
theorem d_B_fixed_23 : decode c_B_fixed 23 = .ok (.invokestatic 151, 3) := by decide +kernel
theorem d_B_fixed_26 : decode c_B_fixed 26 = .ok (.ifCond .ne 11, 3) := by decide +kernel
theorem d_B_fixed_29 : decode c_B_fixed 29 = .ok (.new 133, 3) := by decide +kernel
theorem d_B_fixed_32 : decode c_B_fixed 32 = .ok (.dup, 1) := by decide +kernel
theorem d_B_fixed_33 : decode c_B_fixed 33 = .ok (.invokespecial 135, 3) := by decide +kernel
theorem d_B_fixed_36 : decode c_B_fixed 36 = .ok (.athrow, 1) := by decide +kernel
theorem d_B_fixed_37 : decode c_B_fixed 37 = .ok (.aload 5, 2) := by decide +kernel
theorem d_B_fixed_39 : decode c_B_fixed 39 = .ok (.iload_n 2, 1) := by decide +kernel
theorem d_B_fixed_40 : decode c_B_fixed 40 = .ok (.i2l, 1) := by decide +kernel
theorem d_B_fixed_41 : decode c_B_fixed 41 = .ok (.iload_n 3, 1) := by decide +kernel
theorem d_B_fixed_42 : decode c_B_fixed 42 = .ok (.iload 4, 2) := by decide +kernel
theorem d_B_fixed_44 : decode c_B_fixed 44 = .ok (.invokevirtual 155, 3) := by decide +kernel
theorem d_B_fixed_47 : decode c_B_fixed 47 = .ok (.lstore 6, 2) := by decide +kernel
theorem d_B_fixed_49 : decode c_B_fixed 49 = .ok (.lload 6, 2) := by decide +kernel
theorem d_B_fixed_51 : decode c_B_fixed 51 = .ok (.ldc2_w 159, 3) := by decide +kernel
theorem d_B_fixed_54 : decode c_B_fixed 54 = .ok (.lcmp, 1) := by decide +kernel
theorem d_B_fixed_55 : decode c_B_fixed 55 = .ok (.ifCond .ne 11, 3) := by decide +kernel
theorem d_B_fixed_58 : decode c_B_fixed 58 = .ok (.new 116, 3) := by decide +kernel
theorem d_B_fixed_61 : decode c_B_fixed 61 = .ok (.dup, 1) := by decide +kernel
theorem d_B_fixed_62 : decode c_B_fixed 62 = .ok (.invokespecial 118, 3) := by decide +kernel
theorem d_B_fixed_65 : decode c_B_fixed 65 = .ok (.athrow, 1) := by decide +kernel
theorem d_B_fixed_66 : decode c_B_fixed 66 = .ok (.lload 6, 2) := by decide +kernel
theorem d_B_fixed_68 : decode c_B_fixed 68 = .ok (.invokestatic 129, 3) := by decide +kernel
theorem d_B_fixed_71 : decode c_B_fixed 71 = .ok (.ifCond .ne 11, 3) := by decide +kernel
theorem d_B_fixed_74 : decode c_B_fixed 74 = .ok (.new 133, 3) := by decide +kernel
theorem d_B_fixed_77 : decode c_B_fixed 77 = .ok (.dup, 1) := by decide +kernel
theorem d_B_fixed_78 : decode c_B_fixed 78 = .ok (.invokespecial 135, 3) := by decide +kernel
theorem d_B_fixed_81 : decode c_B_fixed 81 = .ok (.athrow, 1) := by decide +kernel
theorem d_B_fixed_82 : decode c_B_fixed 82 = .ok (.lload 6, 2) := by decide +kernel
theorem d_B_fixed_84 : decode c_B_fixed 84 = .ok (.l2i, 1) := by decide +kernel
theorem d_B_fixed_85 : decode c_B_fixed 85 = .ok (.ireturn, 1) := by decide +kernel
theorem d_B_isDecimal_0 : decode c_B_isDecimal 0 = .ok (.iload_n 0, 1) := by decide +kernel
theorem d_B_isDecimal_1 : decode c_B_isDecimal 1 = .ok (.bipush 48, 2) := by decide +kernel
theorem d_B_isDecimal_3 : decode c_B_isDecimal 3 = .ok (.if_icmp .lt 13, 3) := by decide +kernel
theorem d_B_isDecimal_6 : decode c_B_isDecimal 6 = .ok (.iload_n 0, 1) := by decide +kernel
theorem d_B_isDecimal_7 : decode c_B_isDecimal 7 = .ok (.bipush 57, 2) := by decide +kernel
theorem d_B_isDecimal_9 : decode c_B_isDecimal 9 = .ok (.if_icmp .gt 7, 3) := by decide +kernel
theorem d_B_isDecimal_12 : decode c_B_isDecimal 12 = .ok (.iconst 1, 1) := by decide +kernel
theorem d_B_isDecimal_13 : decode c_B_isDecimal 13 = .ok (.goto 4, 3) := by decide +kernel
theorem d_B_isDecimal_16 : decode c_B_isDecimal 16 = .ok (.iconst 0, 1) := by decide +kernel
theorem d_B_isDecimal_17 : decode c_B_isDecimal 17 = .ok (.ireturn, 1) := by decide +kernel
theorem d_B_isInRange_0 : decode c_B_isInRange 0 = .ok (.lload_n 0, 1) := by decide +kernel
theorem d_B_isInRange_1 : decode c_B_isInRange 1 = .ok (.ldc2_w 227, 3) := by decide +kernel
theorem d_B_isInRange_4 : decode c_B_isInRange 4 = .ok (.lcmp, 1) := by decide +kernel
theorem d_B_isInRange_5 : decode c_B_isInRange 5 = .ok (.ifCond .lt 15, 3) := by decide +kernel
theorem d_B_isInRange_8 : decode c_B_isInRange 8 = .ok (.lload_n 0, 1) := by decide +kernel
theorem d_B_isInRange_9 : decode c_B_isInRange 9 = .ok (.ldc2_w 229, 3) := by decide +kernel
theorem d_B_isInRange_12 : decode c_B_isInRange 12 = .ok (.lcmp, 1) := by decide +kernel
theorem d_B_isInRange_13 : decode c_B_isInRange 13 = .ok (.ifCond .gt 7, 3) := by decide +kernel
theorem d_B_isInRange_16 : decode c_B_isInRange 16 = .ok (.iconst 1, 1) := by decide +kernel
theorem d_B_isInRange_17 : decode c_B_isInRange 17 = .ok (.goto 4, 3) := by decide +kernel
theorem d_B_isInRange_20 : decode c_B_isInRange 20 = .ok (.iconst 0, 1) := by decide +kernel
theorem d_B_isInRange_21 : decode c_B_isInRange 21 = .ok (.ireturn, 1) := by decide +kernel
theorem d_B_isWithin_0 : decode c_B_isWithin 0 = .ok (.iload_n 0, 1) := by decide +kernel
theorem d_B_isWithin_1 : decode c_B_isWithin 1 = .ok (.iload_n 1, 1) := by decide +kernel
theorem d_B_isWithin_2 : decode c_B_isWithin 2 = .ok (.ineg, 1) := by decide +kernel
theorem d_B_isWithin_3 : decode c_B_isWithin 3 = .ok (.if_icmp .lt 12, 3) := by decide +kernel
theorem d_B_isWithin_6 : decode c_B_isWithin 6 = .ok (.iload_n 0, 1) := by decide +kernel
theorem d_B_isWithin_7 : decode c_B_isWithin 7 = .ok (.iload_n 1, 1) := by decide +kernel
theorem d_B_isWithin_8 : decode c_B_isWithin 8 = .ok (.if_icmp .gt 7, 3) := by decide +kernel
theorem d_B_isWithin_11 : decode c_B_isWithin 11 = .ok (.iconst 1, 1) := by decide +kernel
theorem d_B_isWithin_12 : decode c_B_isWithin 12 = .ok (.goto 4, 3) := by decide +kernel
theorem d_B_isWithin_15 : decode c_B_isWithin 15 = .ok (.iconst 0, 1) := by decide +kernel
theorem d_B_isWithin_16 : decode c_B_isWithin 16 = .ok (.ireturn, 1) := by decide +kernel
theorem d_B_leap_0 : decode c_B_leap 0 = .ok (.iload_n 1, 1) := by decide +kernel
theorem d_B_leap_1 : decode c_B_leap 1 = .ok (.iconst 2, 1) := by decide +kernel
theorem d_B_leap_2 : decode c_B_leap 2 = .ok (.if_icmp .eq 15, 3) := by decide +kernel
theorem d_B_leap_5 : decode c_B_leap 5 = .ok (.iload_n 1, 1) := by decide +kernel
theorem d_B_leap_6 : decode c_B_leap 6 = .ok (.bipush 10, 2) := by decide +kernel
theorem d_B_leap_8 : decode c_B_leap 8 = .ok (.if_icmp .eq 9, 3) := by decide +kernel
theorem d_B_leap_11 : decode c_B_leap 11 = .ok (.iload_n 1, 1) := by decide +kernel
theorem d_B_leap_12 : decode c_B_leap 12 = .ok (.bipush 11, 2) := by decide +kernel
theorem d_B_leap_14 : decode c_B_leap 14 = .ok (.if_icmp .ne 11, 3) := by decide +kernel
theorem d_B_leap_17 : decode c_B_leap 17 = .ok (.new 161, 3) := by decide +kernel
theorem d_B_leap_20 : decode c_B_leap 20 = .ok (.dup, 1) := by decide +kernel
theorem d_B_leap_21 : decode c_B_leap 21 = .ok (.invokespecial 163, 3) := by decide +kernel
theorem d_B_leap_24 : decode c_B_leap 24 = .ok (.athrow, 1) := by decide +kernel
theorem d_B_leap_25 : decode c_B_leap 25 = .ok (.aload_n 0, 1) := by decide +kernel
theorem d_B_leap_26 : decode c_B_leap 26 = .ok (.iload_n 1, 1) := by decide +kernel
theorem d_B_leap_27 : decode c_B_leap 27 = .ok (.invokevirtual 125, 3) := by decide +kernel
theorem d_B_leap_30 : decode c_B_leap 30 = .ok (.astore_n 3, 1) := by decide +kernel
theorem d_B_leap_31 : decode c_B_leap 31 = .ok (.aload_n 3, 1) := by decide +kernel
theorem d_B_leap_32 : decode c_B_leap 32 = .ok (.ifnonnull 11, 3) := by decide +kernel
theorem d_B_leap_35 : decode c_B_leap 35 = .ok (.new 111, 3) := by decide +kernel
theorem d_B_leap_38 : decode c_B_leap 38 = .ok (.dup, 1) := by decide +kernel
theorem d_B_leap_39 : decode c_B_leap 39 = .ok (.invokespecial 113, 3) := by decide +kernel
theorem d_B_leap_42 : decode c_B_leap 42 = .ok (.athrow, 1) := by decide +kernel
theorem d_B_leap_43 : decode c_B_leap 43 = .ok (.aload_n 3, 1) := by decide +kernel
theorem d_B_leap_44 : decode c_B_leap 44 = .ok (.iload_n 2, 1) := by decide +kernel
theorem d_B_leap_45 : decode c_B_leap 45 = .ok (.i2l, 1) := by decide +kernel
theorem d_B_leap_46 : decode c_B_leap 46 = .ok (.invokevirtual 164, 3) := by decide +kernel
theorem d_B_leap_49 : decode c_B_leap 49 = .ok (.ifCond .ne 11, 3) := by decide +kernel
theorem d_B_leap_52 : decode c_B_leap 52 = .ok (.new 116, 3) := by decide +kernel
theorem d_B_leap_55 : decode c_B_leap 55 = .ok (.dup, 1) := by decide +kernel
theorem d_B_leap_56 : decode c_B_leap 56 = .ok (.invokespecial 118, 3) := by decide +kernel
theorem d_B_leap_59 : decode c_B_leap 59 = .ok (.athrow, 1) := by decide +kernel
theorem d_B_leap_60 : decode c_B_leap 60 = .ok (.iload_n 2, 1) := by decide +kernel
theorem d_B_leap_61 : decode c_B_leap 61 = .ok (.ldc 150, 2) := by decide +kernel
theorem d_B_leap_63 : decode c_B_leap 63 = .ok (.invokestatic 151, 3) := by decide +kernel
theorem d_B_leap_66 : decode c_B_leap 66 = .ok (.ifCond .ne 11, 3) := by decide +kernel
theorem d_B_leap_69 : decode c_B_leap 69 = .ok (.new 133, 3) := by decide +kernel
theorem d_B_leap_72 : decode c_B_leap 72 = .ok (.dup, 1) := by decide +kernel
theorem d_B_leap_73 : decode c_B_leap 73 = .ok (.invokespecial 135, 3) := by decide +kernel
theorem d_B_leap_76 : decode c_B_leap 76 = .ok (.athrow, 1) := by decide +kernel
theorem d_B_leap_77 : decode c_B_leap 77 = .ok (.aload_n 3, 1) := by decide +kernel
theorem d_B_leap_78 : decode c_B_leap 78 = .ok (.iload_n 2, 1) := by decide +kernel
theorem d_B_leap_79 : decode c_B_leap 79 = .ok (.i2l, 1) := by decide +kernel
theorem d_B_leap_80 : decode c_B_leap 80 = .ok (.invokevirtual 167, 3) := by decide +kernel
theorem d_B_leap_83 : decode c_B_leap 83 = .ok (.ireturn, 1) := by decide +kernel
theorem d_B_letter_0 : decode c_B_letter 0 = .ok (.iload_n 1, 1) := by decide +kernel
theorem d_B_letter_1 : decode c_B_letter 1 = .ok (.ifCond .lt 25, 3) := by decide +kernel
theorem d_B_letter_4 : decode c_B_letter 4 = .ok (.iload_n 1, 1) := by decide +kernel
theorem d_B_letter_5 : decode c_B_letter 5 = .ok (.aload_n 0, 1) := by decide +kernel
theorem d_B_letter_6 : decode c_B_letter 6 = .ok (.getfield 107, 3) := by decide +kernel
theorem d_B_letter_9 : decode c_B_letter 9 = .ok (.invokevirtual 209, 3) := by decide +kernel
theorem d_B_letter_12 : decode c_B_letter 12 = .ok (.if_icmp .ge 14, 3) := by decide +kernel
theorem d_B_letter_15 : decode c_B_letter 15 = .ok (.aload_n 0, 1) := by decide +kernel
theorem d_B_letter_16 : decode c_B_letter 16 = .ok (.getfield 107, 3) := by decide +kernel
theorem d_B_letter_19 : decode c_B_letter 19 = .ok (.iload_n 1, 1) := by decide +kernel
theorem d_B_letter_20 : decode c_B_letter 20 = .ok (.invokevirtual 217, 3) := by decide +kernel
theorem d_B_letter_23 : decode c_B_letter 23 = .ok (.goto 4, 3) := by decide +kernel
theorem d_B_letter_26 : decode c_B_letter 26 = .ok (.iconst 0, 1) := by decide +kernel
theorem d_B_letter_27 : decode c_B_letter 27 = .ok (.ireturn, 1) := by decide +kernel
theorem d_B_meeting_0 : decode c_B_meeting 0 = .ok (.iload_n 1, 1) := by decide +kernel
theorem d_B_meeting_1 : decode c_B_meeting 1 = .ok (.ifCond .lt 29, 3) := by decide +kernel
theorem d_B_meeting_4 : decode c_B_meeting 4 = .ok (.iload_n 1, 1) := by decide +kernel
theorem d_B_meeting_5 : decode c_B_meeting 5 = .ok (.sipush 365, 3) := by decide +kernel
theorem d_B_meeting_8 : decode c_B_meeting 8 = .ok (.if_icmp .ge 22, 3) := by decide +kernel
theorem d_B_meeting_11 : decode c_B_meeting 11 = .ok (.iload_n 2, 1) := by decide +kernel
theorem d_B_meeting_12 : decode c_B_meeting 12 = .ok (.ifCond .lt 18, 3) := by decide +kernel
theorem d_B_meeting_15 : decode c_B_meeting 15 = .ok (.iload_n 2, 1) := by decide +kernel
theorem d_B_meeting_16 : decode c_B_meeting 16 = .ok (.sipush 260, 3) := by decide +kernel
theorem d_B_meeting_19 : decode c_B_meeting 19 = .ok (.if_icmp .ge 11, 3) := by decide +kernel
theorem d_B_meeting_22 : decode c_B_meeting 22 = .ok (.iload_n 3, 1) := by decide +kernel
theorem d_B_meeting_23 : decode c_B_meeting 23 = .ok (.i2l, 1) := by decide +kernel
theorem d_B_meeting_24 : decode c_B_meeting 24 = .ok (.invokestatic 129, 3) := by decide +kernel
theorem d_B_meeting_27 : decode c_B_meeting 27 = .ok (.ifCond .ne 6, 3) := by decide +kernel
theorem d_B_meeting_30 : decode c_B_meeting 30 = .ok (.ldc 183, 2) := by decide +kernel
theorem d_B_meeting_32 : decode c_B_meeting 32 = .ok (.ireturn, 1) := by decide +kernel
theorem d_B_meeting_33 : decode c_B_meeting 33 = .ok (.iload_n 3, 1) := by decide +kernel
theorem d_B_meeting_34 : decode c_B_meeting 34 = .ok (.iload_n 3, 1) := by decide +kernel
theorem d_B_meeting_35 : decode c_B_meeting 35 = .ok (.invokestatic 176, 3) := by decide +kernel
theorem d_B_meeting_38 : decode c_B_meeting 38 = .ok (.iload_n 1, 1) := by decide +kernel
theorem d_B_meeting_39 : decode c_B_meeting 39 = .ok (.isub, 1) := by decide +kernel
theorem d_B_meeting_40 : decode c_B_meeting 40 = .ok (.sipush 365, 3) := by decide +kernel
theorem d_B_meeting_43 : decode c_B_meeting 43 = .ok (.invokestatic 170, 3) := by decide +kernel
theorem d_B_meeting_46 : decode c_B_meeting 46 = .ok (.isub, 1) := by decide +kernel
theorem d_B_meeting_47 : decode c_B_meeting 47 = .ok (.istore 4, 2) := by decide +kernel
theorem d_B_meeting_49 : decode c_B_meeting 49 = .ok (.iconst 0, 1) := by decide +kernel
theorem d_B_meeting_50 : decode c_B_meeting 50 = .ok (.istore 5, 2) := by decide +kernel
theorem d_B_meeting_52 : decode c_B_meeting 52 = .ok (.iload 5, 2) := by decide +kernel
theorem d_B_meeting_54 : decode c_B_meeting 54 = .ok (.bipush 52, 2) := by decide +kernel
theorem d_B_meeting_56 : decode c_B_meeting 56 = .ok (.if_icmp .ge 41, 3) := by decide +kernel
theorem d_B_meeting_59 : decode c_B_meeting 59 = .ok (.iload 4, 2) := by decide +kernel
theorem d_B_meeting_61 : decode c_B_meeting 61 = .ok (.invokestatic 180, 3) := by decide +kernel
theorem d_B_meeting_64 : decode c_B_meeting 64 = .ok (.iload_n 2, 1) := by decide +kernel
theorem d_B_meeting_65 : decode c_B_meeting 65 = .ok (.if_icmp .ne 20, 3) := by decide +kernel
theorem d_B_meeting_68 : decode c_B_meeting 68 = .ok (.iload 4, 2) := by decide +kernel
theorem d_B_meeting_70 : decode c_B_meeting 70 = .ok (.i2l, 1) := by decide +kernel
theorem d_B_meeting_71 : decode c_B_meeting 71 = .ok (.invokestatic 129, 3) := by decide +kernel
theorem d_B_meeting_74 : decode c_B_meeting 74 = .ok (.ifCond .eq 8, 3) := by decide +kernel
theorem d_B_meeting_77 : decode c_B_meeting 77 = .ok (.iload 4, 2) := by decide +kernel
theorem d_B_meeting_79 : decode c_B_meeting 79 = .ok (.goto 5, 3) := by decide +kernel
theorem d_B_meeting_82 : decode c_B_meeting 82 = .ok (.ldc 183, 2) := by decide +kernel
theorem d_B_meeting_84 : decode c_B_meeting 84 = .ok (.ireturn, 1) := by decide +kernel
theorem d_B_meeting_85 : decode c_B_meeting 85 = .ok (.iinc 4 (-365), 6) := by decide +kernel
theorem d_B_meeting_91 : decode c_B_meeting 91 = .ok (.iinc 5 1, 3) := by decide +kernel
theorem d_B_meeting_94 : decode c_B_meeting 94 = .ok (.goto (-42), 3) := by decide +kernel
theorem d_B_meeting_97 : decode c_B_meeting 97 = .ok (.ldc 183, 2) := by decide +kernel
theorem d_B_meeting_99 : decode c_B_meeting 99 = .ok (.ireturn, 1) := by decide +kernel
theorem d_B_monthIn_0 : decode c_B_monthIn 0 = .ok (.lload_n 0, 1) := by decide +kernel
theorem d_B_monthIn_1 : decode c_B_monthIn 1 = .ok (.bipush 8, 2) := by decide +kernel
theorem d_B_monthIn_3 : decode c_B_monthIn 3 = .ok (.lshr, 1) := by decide +kernel
theorem d_B_monthIn_4 : decode c_B_monthIn 4 = .ok (.l2i, 1) := by decide +kernel
theorem d_B_monthIn_5 : decode c_B_monthIn 5 = .ok (.sipush 255, 3) := by decide +kernel
theorem d_B_monthIn_8 : decode c_B_monthIn 8 = .ok (.iand, 1) := by decide +kernel
theorem d_B_monthIn_9 : decode c_B_monthIn 9 = .ok (.ireturn, 1) := by decide +kernel
theorem d_B_newEaster_0 : decode c_B_newEaster 0 = .ok (.iload_n 1, 1) := by decide +kernel
theorem d_B_newEaster_1 : decode c_B_newEaster 1 = .ok (.bipush 100, 2) := by decide +kernel
theorem d_B_newEaster_3 : decode c_B_newEaster 3 = .ok (.invokestatic 233, 3) := by decide +kernel
theorem d_B_newEaster_6 : decode c_B_newEaster 6 = .ok (.iconst 1, 1) := by decide +kernel
theorem d_B_newEaster_7 : decode c_B_newEaster 7 = .ok (.iadd, 1) := by decide +kernel
theorem d_B_newEaster_8 : decode c_B_newEaster 8 = .ok (.istore_n 2, 1) := by decide +kernel
theorem d_B_newEaster_9 : decode c_B_newEaster 9 = .ok (.iload_n 1, 1) := by decide +kernel
theorem d_B_newEaster_10 : decode c_B_newEaster 10 = .ok (.bipush 19, 2) := by decide +kernel
theorem d_B_newEaster_12 : decode c_B_newEaster 12 = .ok (.invokestatic 170, 3) := by decide +kernel
theorem d_B_newEaster_15 : decode c_B_newEaster 15 = .ok (.istore_n 3, 1) := by decide +kernel
theorem d_B_newEaster_16 : decode c_B_newEaster 16 = .ok (.bipush 14, 2) := by decide +kernel
theorem d_B_newEaster_18 : decode c_B_newEaster 18 = .ok (.bipush 11, 2) := by decide +kernel
theorem d_B_newEaster_20 : decode c_B_newEaster 20 = .ok (.iload_n 3, 1) := by decide +kernel
theorem d_B_newEaster_21 : decode c_B_newEaster 21 = .ok (.imul, 1) := by decide +kernel
theorem d_B_newEaster_22 : decode c_B_newEaster 22 = .ok (.iadd, 1) := by decide +kernel
theorem d_B_newEaster_23 : decode c_B_newEaster 23 = .ok (.iconst 3, 1) := by decide +kernel
theorem d_B_newEaster_24 : decode c_B_newEaster 24 = .ok (.iload_n 2, 1) := by decide +kernel
theorem d_B_newEaster_25 : decode c_B_newEaster 25 = .ok (.imul, 1) := by decide +kernel
theorem d_B_newEaster_26 : decode c_B_newEaster 26 = .ok (.iconst 4, 1) := by decide +kernel
theorem d_B_newEaster_27 : decode c_B_newEaster 27 = .ok (.invokestatic 233, 3) := by decide +kernel
theorem d_B_newEaster_30 : decode c_B_newEaster 30 = .ok (.isub, 1) := by decide +kernel
theorem d_B_newEaster_31 : decode c_B_newEaster 31 = .ok (.iconst 5, 1) := by decide +kernel
theorem d_B_newEaster_32 : decode c_B_newEaster 32 = .ok (.bipush 8, 2) := by decide +kernel
theorem d_B_newEaster_34 : decode c_B_newEaster 34 = .ok (.iload_n 2, 1) := by decide +kernel
theorem d_B_newEaster_35 : decode c_B_newEaster 35 = .ok (.imul, 1) := by decide +kernel
theorem d_B_newEaster_36 : decode c_B_newEaster 36 = .ok (.iadd, 1) := by decide +kernel
theorem d_B_newEaster_37 : decode c_B_newEaster 37 = .ok (.bipush 25, 2) := by decide +kernel
theorem d_B_newEaster_39 : decode c_B_newEaster 39 = .ok (.invokestatic 233, 3) := by decide +kernel
theorem d_B_newEaster_42 : decode c_B_newEaster 42 = .ok (.iadd, 1) := by decide +kernel
theorem d_B_newEaster_43 : decode c_B_newEaster 43 = .ok (.bipush 30, 2) := by decide +kernel
theorem d_B_newEaster_45 : decode c_B_newEaster 45 = .ok (.invokestatic 170, 3) := by decide +kernel
theorem d_B_newEaster_48 : decode c_B_newEaster 48 = .ok (.istore 4, 2) := by decide +kernel
theorem d_B_newEaster_50 : decode c_B_newEaster 50 = .ok (.iload 4, 2) := by decide +kernel
theorem d_B_newEaster_52 : decode c_B_newEaster 52 = .ok (.ifCond .eq 15, 3) := by decide +kernel
theorem d_B_newEaster_55 : decode c_B_newEaster 55 = .ok (.iload 4, 2) := by decide +kernel
theorem d_B_newEaster_57 : decode c_B_newEaster 57 = .ok (.iconst 1, 1) := by decide +kernel
theorem d_B_newEaster_58 : decode c_B_newEaster 58 = .ok (.if_icmp .ne 12, 3) := by decide +kernel
theorem d_B_newEaster_61 : decode c_B_newEaster 61 = .ok (.iload_n 3, 1) := by decide +kernel
theorem d_B_newEaster_62 : decode c_B_newEaster 62 = .ok (.bipush 10, 2) := by decide +kernel
theorem d_B_newEaster_64 : decode c_B_newEaster 64 = .ok (.if_icmp .le 6, 3) := by decide +kernel
theorem d_B_newEaster_67 : decode c_B_newEaster 67 = .ok (.iinc 4 1, 3) := by decide +kernel
theorem d_B_newEaster_70 : decode c_B_newEaster 70 = .ok (.aload_n 0, 1) := by decide +kernel
theorem d_B_newEaster_71 : decode c_B_newEaster 71 = .ok (.getfield 26, 3) := by decide +kernel
theorem d_B_newEaster_74 : decode c_B_newEaster 74 = .ok (.iload_n 1, 1) := by decide +kernel
theorem d_B_newEaster_75 : decode c_B_newEaster 75 = .ok (.i2l, 1) := by decide +kernel
theorem d_B_newEaster_76 : decode c_B_newEaster 76 = .ok (.iconst 4, 1) := by decide +kernel
theorem d_B_newEaster_77 : decode c_B_newEaster 77 = .ok (.bipush 19, 2) := by decide +kernel
theorem d_B_newEaster_79 : decode c_B_newEaster 79 = .ok (.invokevirtual 236, 3) := by decide +kernel
theorem d_B_newEaster_82 : decode c_B_newEaster 82 = .ok (.iload 4, 2) := by decide +kernel
theorem d_B_newEaster_84 : decode c_B_newEaster 84 = .ok (.i2l, 1) := by decide +kernel
theorem d_B_newEaster_85 : decode c_B_newEaster 85 = .ok (.lsub, 1) := by decide +kernel
theorem d_B_newEaster_86 : decode c_B_newEaster 86 = .ok (.invokestatic 237, 3) := by decide +kernel
theorem d_B_newEaster_89 : decode c_B_newEaster 89 = .ok (.lreturn, 1) := by decide +kernel
theorem d_B_numberIn_0 : decode c_B_numberIn 0 = .ok (.iload_n 1, 1) := by decide +kernel
theorem d_B_numberIn_1 : decode c_B_numberIn 1 = .ok (.iload_n 2, 1) := by decide +kernel
theorem d_B_numberIn_2 : decode c_B_numberIn 2 = .ok (.if_icmp .ge 20, 3) := by decide +kernel
theorem d_B_numberIn_5 : decode c_B_numberIn 5 = .ok (.aload_n 0, 1) := by decide +kernel
theorem d_B_numberIn_6 : decode c_B_numberIn 6 = .ok (.getfield 107, 3) := by decide +kernel
theorem d_B_numberIn_9 : decode c_B_numberIn 9 = .ok (.iload_n 1, 1) := by decide +kernel
theorem d_B_numberIn_10 : decode c_B_numberIn 10 = .ok (.invokevirtual 217, 3) := by decide +kernel
theorem d_B_numberIn_13 : decode c_B_numberIn 13 = .ok (.bipush 45, 2) := by decide +kernel
theorem d_B_numberIn_15 : decode c_B_numberIn 15 = .ok (.if_icmp .ne 7, 3) := by decide +kernel
theorem d_B_numberIn_18 : decode c_B_numberIn 18 = .ok (.iconst 1, 1) := by decide +kernel
theorem d_B_numberIn_19 : decode c_B_numberIn 19 = .ok (.goto 4, 3) := by decide +kernel
theorem d_B_numberIn_22 : decode c_B_numberIn 22 = .ok (.iconst 0, 1) := by decide +kernel
theorem d_B_numberIn_23 : decode c_B_numberIn 23 = .ok (.istore_n 3, 1) := by decide +kernel
theorem d_B_numberIn_24 : decode c_B_numberIn 24 = .ok (.iload_n 3, 1) := by decide +kernel
theorem d_B_numberIn_25 : decode c_B_numberIn 25 = .ok (.ifCond .eq 9, 3) := by decide +kernel
theorem d_B_numberIn_28 : decode c_B_numberIn 28 = .ok (.iload_n 1, 1) := by decide +kernel
theorem d_B_numberIn_29 : decode c_B_numberIn 29 = .ok (.iconst 1, 1) := by decide +kernel
theorem d_B_numberIn_30 : decode c_B_numberIn 30 = .ok (.iadd, 1) := by decide +kernel
theorem d_B_numberIn_31 : decode c_B_numberIn 31 = .ok (.goto 4, 3) := by decide +kernel
theorem d_B_numberIn_34 : decode c_B_numberIn 34 = .ok (.iload_n 1, 1) := by decide +kernel
theorem d_B_numberIn_35 : decode c_B_numberIn 35 = .ok (.istore 4, 2) := by decide +kernel
theorem d_B_numberIn_37 : decode c_B_numberIn 37 = .ok (.iload_n 2, 1) := by decide +kernel
theorem d_B_numberIn_38 : decode c_B_numberIn 38 = .ok (.iload 4, 2) := by decide +kernel
theorem d_B_numberIn_40 : decode c_B_numberIn 40 = .ok (.isub, 1) := by decide +kernel
theorem d_B_numberIn_41 : decode c_B_numberIn 41 = .ok (.istore 5, 2) := by decide +kernel
theorem d_B_numberIn_43 : decode c_B_numberIn 43 = .ok (.iload 5, 2) := by decide +kernel
theorem d_B_numberIn_45 : decode c_B_numberIn 45 = .ok (.iconst 1, 1) := by decide +kernel
theorem d_B_numberIn_46 : decode c_B_numberIn 46 = .ok (.if_icmp .lt 34, 3) := by decide +kernel
theorem d_B_numberIn_49 : decode c_B_numberIn 49 = .ok (.iload 5, 2) := by decide +kernel
theorem d_B_numberIn_51 : decode c_B_numberIn 51 = .ok (.bipush 9, 2) := by decide +kernel
theorem d_B_numberIn_53 : decode c_B_numberIn 53 = .ok (.if_icmp .gt 27, 3) := by decide +kernel
theorem d_B_numberIn_56 : decode c_B_numberIn 56 = .ok (.aload_n 0, 1) := by decide +kernel
theorem d_B_numberIn_57 : decode c_B_numberIn 57 = .ok (.getfield 107, 3) := by decide +kernel
theorem d_B_numberIn_60 : decode c_B_numberIn 60 = .ok (.iload 4, 2) := by decide +kernel
theorem d_B_numberIn_62 : decode c_B_numberIn 62 = .ok (.invokevirtual 217, 3) := by decide +kernel
theorem d_B_numberIn_65 : decode c_B_numberIn 65 = .ok (.bipush 48, 2) := by decide +kernel
theorem d_B_numberIn_67 : decode c_B_numberIn 67 = .ok (.if_icmp .ne 16, 3) := by decide +kernel
theorem d_B_numberIn_70 : decode c_B_numberIn 70 = .ok (.iload_n 3, 1) := by decide +kernel
theorem d_B_numberIn_71 : decode c_B_numberIn 71 = .ok (.ifCond .ne 9, 3) := by decide +kernel
theorem d_B_numberIn_74 : decode c_B_numberIn 74 = .ok (.iload 5, 2) := by decide +kernel
theorem d_B_numberIn_76 : decode c_B_numberIn 76 = .ok (.iconst 1, 1) := by decide +kernel
theorem d_B_numberIn_77 : decode c_B_numberIn 77 = .ok (.if_icmp .le 6, 3) := by decide +kernel
theorem d_B_numberIn_80 : decode c_B_numberIn 80 = .ok (.ldc 183, 2) := by decide +kernel
theorem d_B_numberIn_82 : decode c_B_numberIn 82 = .ok (.ireturn, 1) := by decide +kernel
theorem d_B_numberIn_83 : decode c_B_numberIn 83 = .ok (.iconst 0, 1) := by decide +kernel
theorem d_B_numberIn_84 : decode c_B_numberIn 84 = .ok (.istore 6, 2) := by decide +kernel
theorem d_B_numberIn_86 : decode c_B_numberIn 86 = .ok (.iload 4, 2) := by decide +kernel
theorem d_B_numberIn_88 : decode c_B_numberIn 88 = .ok (.istore 7, 2) := by decide +kernel
theorem d_B_numberIn_90 : decode c_B_numberIn 90 = .ok (.iload 7, 2) := by decide +kernel
theorem d_B_numberIn_92 : decode c_B_numberIn 92 = .ok (.iload_n 2, 1) := by decide +kernel
theorem d_B_numberIn_93 : decode c_B_numberIn 93 = .ok (.if_icmp .ge 47, 3) := by decide +kernel
theorem d_B_numberIn_96 : decode c_B_numberIn 96 = .ok (.aload_n 0, 1) := by decide +kernel
theorem d_B_numberIn_97 : decode c_B_numberIn 97 = .ok (.getfield 107, 3) := by decide +kernel
theorem d_B_numberIn_100 : decode c_B_numberIn 100 = .ok (.iload 7, 2) := by decide +kernel
theorem d_B_numberIn_102 : decode c_B_numberIn 102 = .ok (.invokevirtual 217, 3) := by decide +kernel
theorem d_B_numberIn_105 : decode c_B_numberIn 105 = .ok (.invokestatic 213, 3) := by decide +kernel
theorem d_B_numberIn_108 : decode c_B_numberIn 108 = .ok (.ifCond .ne 6, 3) := by decide +kernel
theorem d_B_numberIn_111 : decode c_B_numberIn 111 = .ok (.ldc 183, 2) := by decide +kernel
theorem d_B_numberIn_113 : decode c_B_numberIn 113 = .ok (.ireturn, 1) := by decide +kernel
theorem d_B_numberIn_114 : decode c_B_numberIn 114 = .ok (.bipush 10, 2) := by decide +kernel
theorem d_B_numberIn_116 : decode c_B_numberIn 116 = .ok (.iload 6, 2) := by decide +kernel
theorem d_B_numberIn_118 : decode c_B_numberIn 118 = .ok (.imul, 1) := by decide +kernel
theorem d_B_numberIn_119 : decode c_B_numberIn 119 = .ok (.aload_n 0, 1) := by decide +kernel
theorem d_B_numberIn_120 : decode c_B_numberIn 120 = .ok (.getfield 107, 3) := by decide +kernel
theorem d_B_numberIn_123 : decode c_B_numberIn 123 = .ok (.iload 7, 2) := by decide +kernel
theorem d_B_numberIn_125 : decode c_B_numberIn 125 = .ok (.invokevirtual 217, 3) := by decide +kernel
theorem d_B_numberIn_128 : decode c_B_numberIn 128 = .ok (.bipush 48, 2) := by decide +kernel
theorem d_B_numberIn_130 : decode c_B_numberIn 130 = .ok (.isub, 1) := by decide +kernel
theorem d_B_numberIn_131 : decode c_B_numberIn 131 = .ok (.iadd, 1) := by decide +kernel
theorem d_B_numberIn_132 : decode c_B_numberIn 132 = .ok (.istore 6, 2) := by decide +kernel
theorem d_B_numberIn_134 : decode c_B_numberIn 134 = .ok (.iinc 7 1, 3) := by decide +kernel
theorem d_B_numberIn_137 : decode c_B_numberIn 137 = .ok (.goto (-47), 3) := by decide +kernel
theorem d_B_numberIn_140 : decode c_B_numberIn 140 = .ok (.iload_n 3, 1) := by decide +kernel
theorem d_B_numberIn_141 : decode c_B_numberIn 141 = .ok (.ifCond .eq 9, 3) := by decide +kernel
theorem d_B_numberIn_144 : decode c_B_numberIn 144 = .ok (.iload 6, 2) := by decide +kernel
theorem d_B_numberIn_146 : decode c_B_numberIn 146 = .ok (.ineg, 1) := by decide +kernel
theorem d_B_numberIn_147 : decode c_B_numberIn 147 = .ok (.goto 5, 3) := by decide +kernel
theorem d_B_numberIn_150 : decode c_B_numberIn 150 = .ok (.iload 6, 2) := by decide +kernel
theorem d_B_numberIn_152 : decode c_B_numberIn 152 = .ok (.ireturn, 1) := by decide +kernel
theorem d_B_oldEaster_0 : decode c_B_oldEaster 0 = .ok (.bipush 14, 2) := by decide +kernel
theorem d_B_oldEaster_2 : decode c_B_oldEaster 2 = .ok (.bipush 11, 2) := by decide +kernel
theorem d_B_oldEaster_4 : decode c_B_oldEaster 4 = .ok (.iload_n 1, 1) := by decide +kernel
theorem d_B_oldEaster_5 : decode c_B_oldEaster 5 = .ok (.bipush 19, 2) := by decide +kernel
theorem d_B_oldEaster_7 : decode c_B_oldEaster 7 = .ok (.invokestatic 170, 3) := by decide +kernel
theorem d_B_oldEaster_10 : decode c_B_oldEaster 10 = .ok (.imul, 1) := by decide +kernel
theorem d_B_oldEaster_11 : decode c_B_oldEaster 11 = .ok (.iadd, 1) := by decide +kernel
theorem d_B_oldEaster_12 : decode c_B_oldEaster 12 = .ok (.bipush 30, 2) := by decide +kernel
theorem d_B_oldEaster_14 : decode c_B_oldEaster 14 = .ok (.invokestatic 170, 3) := by decide +kernel
theorem d_B_oldEaster_17 : decode c_B_oldEaster 17 = .ok (.istore_n 2, 1) := by decide +kernel
theorem d_B_oldEaster_18 : decode c_B_oldEaster 18 = .ok (.iload_n 1, 1) := by decide +kernel
theorem d_B_oldEaster_19 : decode c_B_oldEaster 19 = .ok (.ifCond .le 7, 3) := by decide +kernel
theorem d_B_oldEaster_22 : decode c_B_oldEaster 22 = .ok (.iload_n 1, 1) := by decide +kernel
theorem d_B_oldEaster_23 : decode c_B_oldEaster 23 = .ok (.goto 6, 3) := by decide +kernel
theorem d_B_oldEaster_26 : decode c_B_oldEaster 26 = .ok (.iload_n 1, 1) := by decide +kernel
theorem d_B_oldEaster_27 : decode c_B_oldEaster 27 = .ok (.iconst 1, 1) := by decide +kernel
theorem d_B_oldEaster_28 : decode c_B_oldEaster 28 = .ok (.isub, 1) := by decide +kernel
theorem d_B_oldEaster_29 : decode c_B_oldEaster 29 = .ok (.istore_n 3, 1) := by decide +kernel
theorem d_B_oldEaster_30 : decode c_B_oldEaster 30 = .ok (.aload_n 0, 1) := by decide +kernel
theorem d_B_oldEaster_31 : decode c_B_oldEaster 31 = .ok (.getfield 39, 3) := by decide +kernel
theorem d_B_oldEaster_34 : decode c_B_oldEaster 34 = .ok (.iload_n 3, 1) := by decide +kernel
theorem d_B_oldEaster_35 : decode c_B_oldEaster 35 = .ok (.i2l, 1) := by decide +kernel
theorem d_B_oldEaster_36 : decode c_B_oldEaster 36 = .ok (.iconst 4, 1) := by decide +kernel
theorem d_B_oldEaster_37 : decode c_B_oldEaster 37 = .ok (.bipush 19, 2) := by decide +kernel
theorem d_B_oldEaster_39 : decode c_B_oldEaster 39 = .ok (.invokevirtual 236, 3) := by decide +kernel
theorem d_B_oldEaster_42 : decode c_B_oldEaster 42 = .ok (.iload_n 2, 1) := by decide +kernel
theorem d_B_oldEaster_43 : decode c_B_oldEaster 43 = .ok (.i2l, 1) := by decide +kernel
theorem d_B_oldEaster_44 : decode c_B_oldEaster 44 = .ok (.lsub, 1) := by decide +kernel
theorem d_B_oldEaster_45 : decode c_B_oldEaster 45 = .ok (.invokestatic 237, 3) := by decide +kernel
theorem d_B_oldEaster_48 : decode c_B_oldEaster 48 = .ok (.lreturn, 1) := by decide +kernel
theorem d_B_onOrBefore_0 : decode c_B_onOrBefore 0 = .ok (.iload_n 1, 1) := by decide +kernel
theorem d_B_onOrBefore_1 : decode c_B_onOrBefore 1 = .ok (.ifCond .lt 9, 3) := by decide +kernel
theorem d_B_onOrBefore_4 : decode c_B_onOrBefore 4 = .ok (.iload_n 1, 1) := by decide +kernel
theorem d_B_onOrBefore_5 : decode c_B_onOrBefore 5 = .ok (.bipush 6, 2) := by decide +kernel
theorem d_B_onOrBefore_7 : decode c_B_onOrBefore 7 = .ok (.if_icmp .le 11, 3) := by decide +kernel
theorem d_B_onOrBefore_10 : decode c_B_onOrBefore 10 = .ok (.new 116, 3) := by decide +kernel
theorem d_B_onOrBefore_13 : decode c_B_onOrBefore 13 = .ok (.dup, 1) := by decide +kernel
theorem d_B_onOrBefore_14 : decode c_B_onOrBefore 14 = .ok (.invokespecial 118, 3) := by decide +kernel
theorem d_B_onOrBefore_17 : decode c_B_onOrBefore 17 = .ok (.athrow, 1) := by decide +kernel
theorem d_B_onOrBefore_18 : decode c_B_onOrBefore 18 = .ok (.iload_n 2, 1) := by decide +kernel
theorem d_B_onOrBefore_19 : decode c_B_onOrBefore 19 = .ok (.i2l, 1) := by decide +kernel
theorem d_B_onOrBefore_20 : decode c_B_onOrBefore 20 = .ok (.invokestatic 129, 3) := by decide +kernel
theorem d_B_onOrBefore_23 : decode c_B_onOrBefore 23 = .ok (.ifCond .ne 11, 3) := by decide +kernel
theorem d_B_onOrBefore_26 : decode c_B_onOrBefore 26 = .ok (.new 133, 3) := by decide +kernel
theorem d_B_onOrBefore_29 : decode c_B_onOrBefore 29 = .ok (.dup, 1) := by decide +kernel
theorem d_B_onOrBefore_30 : decode c_B_onOrBefore 30 = .ok (.invokespecial 135, 3) := by decide +kernel
theorem d_B_onOrBefore_33 : decode c_B_onOrBefore 33 = .ok (.athrow, 1) := by decide +kernel
theorem d_B_onOrBefore_34 : decode c_B_onOrBefore 34 = .ok (.iload_n 2, 1) := by decide +kernel
theorem d_B_onOrBefore_35 : decode c_B_onOrBefore 35 = .ok (.iload_n 2, 1) := by decide +kernel
theorem d_B_onOrBefore_36 : decode c_B_onOrBefore 36 = .ok (.iload_n 1, 1) := by decide +kernel
theorem d_B_onOrBefore_37 : decode c_B_onOrBefore 37 = .ok (.isub, 1) := by decide +kernel
theorem d_B_onOrBefore_38 : decode c_B_onOrBefore 38 = .ok (.bipush 7, 2) := by decide +kernel
theorem d_B_onOrBefore_40 : decode c_B_onOrBefore 40 = .ok (.invokestatic 170, 3) := by decide +kernel
theorem d_B_onOrBefore_43 : decode c_B_onOrBefore 43 = .ok (.isub, 1) := by decide +kernel
theorem d_B_onOrBefore_44 : decode c_B_onOrBefore 44 = .ok (.istore_n 3, 1) := by decide +kernel
theorem d_B_onOrBefore_45 : decode c_B_onOrBefore 45 = .ok (.iload_n 3, 1) := by decide +kernel
theorem d_B_onOrBefore_46 : decode c_B_onOrBefore 46 = .ok (.i2l, 1) := by decide +kernel
theorem d_B_onOrBefore_47 : decode c_B_onOrBefore 47 = .ok (.invokestatic 129, 3) := by decide +kernel
theorem d_B_onOrBefore_50 : decode c_B_onOrBefore 50 = .ok (.ifCond .ne 11, 3) := by decide +kernel
theorem d_B_onOrBefore_53 : decode c_B_onOrBefore 53 = .ok (.new 133, 3) := by decide +kernel
theorem d_B_onOrBefore_56 : decode c_B_onOrBefore 56 = .ok (.dup, 1) := by decide +kernel
theorem d_B_onOrBefore_57 : decode c_B_onOrBefore 57 = .ok (.invokespecial 135, 3) := by decide +kernel
theorem d_B_onOrBefore_60 : decode c_B_onOrBefore 60 = .ok (.athrow, 1) := by decide +kernel
theorem d_B_onOrBefore_61 : decode c_B_onOrBefore 61 = .ok (.iload_n 3, 1) := by decide +kernel
theorem d_B_onOrBefore_62 : decode c_B_onOrBefore 62 = .ok (.ireturn, 1) := by decide +kernel
theorem d_B_packed_0 : decode c_B_packed 0 = .ok (.lload_n 0, 1) := by decide +kernel
theorem d_B_packed_1 : decode c_B_packed 1 = .ok (.ldc2_w 245, 3) := by decide +kernel
theorem d_B_packed_4 : decode c_B_packed 4 = .ok (.lmul, 1) := by decide +kernel
theorem d_B_packed_5 : decode c_B_packed 5 = .ok (.lload_n 2, 1) := by decide +kernel
theorem d_B_packed_6 : decode c_B_packed 6 = .ok (.ldc2_w 247, 3) := by decide +kernel
theorem d_B_packed_9 : decode c_B_packed 9 = .ok (.lmul, 1) := by decide +kernel
theorem d_B_packed_10 : decode c_B_packed 10 = .ok (.ladd, 1) := by decide +kernel
theorem d_B_packed_11 : decode c_B_packed 11 = .ok (.lload 4, 2) := by decide +kernel
theorem d_B_packed_13 : decode c_B_packed 13 = .ok (.ladd, 1) := by decide +kernel
theorem d_B_packed_14 : decode c_B_packed 14 = .ok (.lreturn, 1) := by decide +kernel
theorem d_B_placeIn260_0 : decode c_B_placeIn260 0 = .ok (.iload_n 0, 1) := by decide +kernel
theorem d_B_placeIn260_1 : decode c_B_placeIn260 1 = .ok (.ldc 232, 2) := by decide +kernel
theorem d_B_placeIn260_3 : decode c_B_placeIn260 3 = .ok (.iadd, 1) := by decide +kernel
theorem d_B_placeIn260_4 : decode c_B_placeIn260 4 = .ok (.sipush 260, 3) := by decide +kernel
theorem d_B_placeIn260_7 : decode c_B_placeIn260 7 = .ok (.invokestatic 170, 3) := by decide +kernel
theorem d_B_placeIn260_10 : decode c_B_placeIn260 10 = .ok (.ireturn, 1) := by decide +kernel
theorem d_B_placeIn365_0 : decode c_B_placeIn365 0 = .ok (.iload_n 0, 1) := by decide +kernel
theorem d_B_placeIn365_1 : decode c_B_placeIn365 1 = .ok (.ldc 231, 2) := by decide +kernel
theorem d_B_placeIn365_3 : decode c_B_placeIn365 3 = .ok (.iadd, 1) := by decide +kernel
theorem d_B_placeIn365_4 : decode c_B_placeIn365 4 = .ok (.sipush 365, 3) := by decide +kernel
theorem d_B_placeIn365_7 : decode c_B_placeIn365 7 = .ok (.invokestatic 170, 3) := by decide +kernel
theorem d_B_placeIn365_10 : decode c_B_placeIn365 10 = .ok (.ireturn, 1) := by decide +kernel
theorem d_B_plug_0 : decode c_B_plug 0 = .ok (.iload_n 1, 1) := by decide +kernel
theorem d_B_plug_1 : decode c_B_plug 1 = .ok (.ifCond .lt 8, 3) := by decide +kernel
theorem d_B_plug_4 : decode c_B_plug 4 = .ok (.iload_n 1, 1) := by decide +kernel
theorem d_B_plug_5 : decode c_B_plug 5 = .ok (.iconst 1, 1) := by decide +kernel
theorem d_B_plug_6 : decode c_B_plug 6 = .ok (.if_icmp .le 11, 3) := by decide +kernel
theorem d_B_plug_9 : decode c_B_plug 9 = .ok (.new 111, 3) := by decide +kernel
theorem d_B_plug_12 : decode c_B_plug 12 = .ok (.dup, 1) := by decide +kernel
theorem d_B_plug_13 : decode c_B_plug 13 = .ok (.invokespecial 113, 3) := by decide +kernel
theorem d_B_plug_16 : decode c_B_plug 16 = .ok (.athrow, 1) := by decide +kernel
theorem d_B_plug_17 : decode c_B_plug 17 = .ok (.iload_n 2, 1) := by decide +kernel
theorem d_B_plug_18 : decode c_B_plug 18 = .ok (.iconst 1, 1) := by decide +kernel
theorem d_B_plug_19 : decode c_B_plug 19 = .ok (.if_icmp .lt 38, 3) := by decide +kernel
theorem d_B_plug_22 : decode c_B_plug 22 = .ok (.iload_n 2, 1) := by decide +kernel
theorem d_B_plug_23 : decode c_B_plug 23 = .ok (.bipush 20, 2) := by decide +kernel
theorem d_B_plug_25 : decode c_B_plug 25 = .ok (.if_icmp .gt 32, 3) := by decide +kernel
theorem d_B_plug_28 : decode c_B_plug 28 = .ok (.iload_n 3, 1) := by decide +kernel
theorem d_B_plug_29 : decode c_B_plug 29 = .ok (.iconst 1, 1) := by decide +kernel
theorem d_B_plug_30 : decode c_B_plug 30 = .ok (.if_icmp .lt 27, 3) := by decide +kernel
theorem d_B_plug_33 : decode c_B_plug 33 = .ok (.iload_n 3, 1) := by decide +kernel
theorem d_B_plug_34 : decode c_B_plug 34 = .ok (.bipush 40, 2) := by decide +kernel
theorem d_B_plug_36 : decode c_B_plug 36 = .ok (.if_icmp .gt 21, 3) := by decide +kernel
theorem d_B_plug_39 : decode c_B_plug 39 = .ok (.iload 4, 2) := by decide +kernel
theorem d_B_plug_41 : decode c_B_plug 41 = .ok (.ldc 114, 2) := by decide +kernel
theorem d_B_plug_43 : decode c_B_plug 43 = .ok (.if_icmp .lt 14, 3) := by decide +kernel
theorem d_B_plug_46 : decode c_B_plug 46 = .ok (.iload 4, 2) := by decide +kernel
theorem d_B_plug_48 : decode c_B_plug 48 = .ok (.ldc 115, 2) := by decide +kernel
theorem d_B_plug_50 : decode c_B_plug 50 = .ok (.if_icmp .gt 7, 3) := by decide +kernel
theorem d_B_plug_53 : decode c_B_plug 53 = .ok (.iconst 1, 1) := by decide +kernel
theorem d_B_plug_54 : decode c_B_plug 54 = .ok (.goto 4, 3) := by decide +kernel
theorem d_B_plug_57 : decode c_B_plug 57 = .ok (.iconst 0, 1) := by decide +kernel
theorem d_B_plug_58 : decode c_B_plug 58 = .ok (.istore 8, 2) := by decide +kernel
theorem d_B_plug_60 : decode c_B_plug 60 = .ok (.iload 7, 2) := by decide +kernel
theorem d_B_plug_62 : decode c_B_plug 62 = .ok (.iconst 1, 1) := by decide +kernel
theorem d_B_plug_63 : decode c_B_plug 63 = .ok (.if_icmp .lt 39, 3) := by decide +kernel
theorem d_B_plug_66 : decode c_B_plug 66 = .ok (.iload 7, 2) := by decide +kernel
theorem d_B_plug_68 : decode c_B_plug 68 = .ok (.sipush 1000, 3) := by decide +kernel
theorem d_B_plug_71 : decode c_B_plug 71 = .ok (.if_icmp .gt 31, 3) := by decide +kernel
theorem d_B_plug_74 : decode c_B_plug 74 = .ok (.iload 5, 2) := by decide +kernel
theorem d_B_plug_76 : decode c_B_plug 76 = .ok (.ifCond .lt 26, 3) := by decide +kernel
theorem d_B_plug_79 : decode c_B_plug 79 = .ok (.iload 5, 2) := by decide +kernel
theorem d_B_plug_81 : decode c_B_plug 81 = .ok (.iload 7, 2) := by decide +kernel
theorem d_B_plug_83 : decode c_B_plug 83 = .ok (.if_icmp .gt 19, 3) := by decide +kernel
theorem d_B_plug_86 : decode c_B_plug 86 = .ok (.iload 6, 2) := by decide +kernel
theorem d_B_plug_88 : decode c_B_plug 88 = .ok (.ifCond .lt 14, 3) := by decide +kernel
theorem d_B_plug_91 : decode c_B_plug 91 = .ok (.iload 6, 2) := by decide +kernel
theorem d_B_plug_93 : decode c_B_plug 93 = .ok (.iload 7, 2) := by decide +kernel
theorem d_B_plug_95 : decode c_B_plug 95 = .ok (.if_icmp .ge 7, 3) := by decide +kernel
theorem d_B_plug_98 : decode c_B_plug 98 = .ok (.iconst 1, 1) := by decide +kernel
theorem d_B_plug_99 : decode c_B_plug 99 = .ok (.goto 4, 3) := by decide +kernel
theorem d_B_plug_102 : decode c_B_plug 102 = .ok (.iconst 0, 1) := by decide +kernel
theorem d_B_plug_103 : decode c_B_plug 103 = .ok (.istore 9, 2) := by decide +kernel
theorem d_B_plug_105 : decode c_B_plug 105 = .ok (.iload 8, 2) := by decide +kernel
theorem d_B_plug_107 : decode c_B_plug 107 = .ok (.ifCond .eq 8, 3) := by decide +kernel
theorem d_B_plug_110 : decode c_B_plug 110 = .ok (.iload 9, 2) := by decide +kernel
theorem d_B_plug_112 : decode c_B_plug 112 = .ok (.ifCond .ne 11, 3) := by decide +kernel
theorem d_B_plug_115 : decode c_B_plug 115 = .ok (.new 116, 3) := by decide +kernel
theorem d_B_plug_118 : decode c_B_plug 118 = .ok (.dup, 1) := by decide +kernel
theorem d_B_plug_119 : decode c_B_plug 119 = .ok (.invokespecial 118, 3) := by decide +kernel
theorem d_B_plug_122 : decode c_B_plug 122 = .ok (.athrow, 1) := by decide +kernel
theorem d_B_plug_123 : decode c_B_plug 123 = .ok (.aload_n 0, 1) := by decide +kernel
theorem d_B_plug_124 : decode c_B_plug 124 = .ok (.getfield 51, 3) := by decide +kernel
theorem d_B_plug_127 : decode c_B_plug 127 = .ok (.bipush 12, 2) := by decide +kernel
theorem d_B_plug_129 : decode c_B_plug 129 = .ok (.iload_n 1, 1) := by decide +kernel
theorem d_B_plug_130 : decode c_B_plug 130 = .ok (.iadd, 1) := by decide +kernel
theorem d_B_plug_131 : decode c_B_plug 131 = .ok (.aaload, 1) := by decide +kernel
theorem d_B_plug_132 : decode c_B_plug 132 = .ok (.ifnull 7, 3) := by decide +kernel
theorem d_B_plug_135 : decode c_B_plug 135 = .ok (.iconst 1, 1) := by decide +kernel
theorem d_B_plug_136 : decode c_B_plug 136 = .ok (.goto 4, 3) := by decide +kernel
theorem d_B_plug_139 : decode c_B_plug 139 = .ok (.iconst 0, 1) := by decide +kernel
theorem d_B_plug_140 : decode c_B_plug 140 = .ok (.istore 10, 2) := by decide +kernel
theorem d_B_plug_142 : decode c_B_plug 142 = .ok (.iload_n 2, 1) := by decide +kernel
theorem d_B_plug_143 : decode c_B_plug 143 = .ok (.newarray .int, 2) := by decide +kernel
theorem d_B_plug_145 : decode c_B_plug 145 = .ok (.astore 11, 2) := by decide +kernel
theorem d_B_plug_147 : decode c_B_plug 147 = .ok (.aload 11, 2) := by decide +kernel
theorem d_B_plug_149 : decode c_B_plug 149 = .ok (.iload_n 3, 1) := by decide +kernel
theorem d_B_plug_150 : decode c_B_plug 150 = .ok (.invokestatic 119, 3) := by decide +kernel
theorem d_B_plug_153 : decode c_B_plug 153 = .ok (.aload_n 0, 1) := by decide +kernel
theorem d_B_plug_154 : decode c_B_plug 154 = .ok (.getfield 51, 3) := by decide +kernel
theorem d_B_plug_157 : decode c_B_plug 157 = .ok (.bipush 12, 2) := by decide +kernel
theorem d_B_plug_159 : decode c_B_plug 159 = .ok (.iload_n 1, 1) := by decide +kernel
theorem d_B_plug_160 : decode c_B_plug 160 = .ok (.iadd, 1) := by decide +kernel
theorem d_B_plug_161 : decode c_B_plug 161 = .ok (.new 7, 3) := by decide +kernel
theorem d_B_plug_164 : decode c_B_plug 164 = .ok (.dup, 1) := by decide +kernel
theorem d_B_plug_165 : decode c_B_plug 165 = .ok (.getstatic 9, 3) := by decide +kernel
theorem d_B_plug_168 : decode c_B_plug 168 = .ok (.aload 11, 2) := by decide +kernel
theorem d_B_plug_170 : decode c_B_plug 170 = .ok (.iload_n 2, 1) := by decide +kernel
theorem d_B_plug_171 : decode c_B_plug 171 = .ok (.iconst 1, 1) := by decide +kernel
theorem d_B_plug_172 : decode c_B_plug 172 = .ok (.isub, 1) := by decide +kernel
theorem d_B_plug_173 : decode c_B_plug 173 = .ok (.iload 4, 2) := by decide +kernel
theorem d_B_plug_175 : decode c_B_plug 175 = .ok (.i2l, 1) := by decide +kernel
theorem d_B_plug_176 : decode c_B_plug 176 = .ok (.iconst 1, 1) := by decide +kernel
theorem d_B_plug_177 : decode c_B_plug 177 = .ok (.new 32, 3) := by decide +kernel
theorem d_B_plug_180 : decode c_B_plug 180 = .ok (.dup, 1) := by decide +kernel
theorem d_B_plug_181 : decode c_B_plug 181 = .ok (.iload 5, 2) := by decide +kernel
theorem d_B_plug_183 : decode c_B_plug 183 = .ok (.i2l, 1) := by decide +kernel
theorem d_B_plug_184 : decode c_B_plug 184 = .ok (.iload 6, 2) := by decide +kernel
theorem d_B_plug_186 : decode c_B_plug 186 = .ok (.i2l, 1) := by decide +kernel
theorem d_B_plug_187 : decode c_B_plug 187 = .ok (.iload 7, 2) := by decide +kernel
theorem d_B_plug_189 : decode c_B_plug 189 = .ok (.i2l, 1) := by decide +kernel
theorem d_B_plug_190 : decode c_B_plug 190 = .ok (.invokespecial 36, 3) := by decide +kernel
theorem d_B_plug_193 : decode c_B_plug 193 = .ok (.invokespecial 23, 3) := by decide +kernel
theorem d_B_plug_196 : decode c_B_plug 196 = .ok (.aastore, 1) := by decide +kernel
theorem d_B_plug_197 : decode c_B_plug 197 = .ok (.iload 10, 2) := by decide +kernel
theorem d_B_plug_199 : decode c_B_plug 199 = .ok (.ireturn, 1) := by decide +kernel
theorem d_B_read_0 : decode c_B_read 0 = .ok (.aload_n 0, 1) := by decide +kernel
theorem d_B_read_1 : decode c_B_read 1 = .ok (.iload_n 1, 1) := by decide +kernel
theorem d_B_read_2 : decode c_B_read 2 = .ok (.invokevirtual 125, 3) := by decide +kernel
theorem d_B_read_5 : decode c_B_read 5 = .ok (.astore_n 2, 1) := by decide +kernel
theorem d_B_read_6 : decode c_B_read 6 = .ok (.aload_n 2, 1) := by decide +kernel
theorem d_B_read_7 : decode c_B_read 7 = .ok (.ifnonnull 11, 3) := by decide +kernel
theorem d_B_read_10 : decode c_B_read 10 = .ok (.new 111, 3) := by decide +kernel
theorem d_B_read_13 : decode c_B_read 13 = .ok (.dup, 1) := by decide +kernel
theorem d_B_read_14 : decode c_B_read 14 = .ok (.invokespecial 113, 3) := by decide +kernel
theorem d_B_read_17 : decode c_B_read 17 = .ok (.athrow, 1) := by decide +kernel
theorem d_B_read_18 : decode c_B_read 18 = .ok (.aload_n 0, 1) := by decide +kernel
theorem d_B_read_19 : decode c_B_read 19 = .ok (.iconst 0, 1) := by decide +kernel
theorem d_B_read_20 : decode c_B_read 20 = .ok (.invokevirtual 221, 3) := by decide +kernel
theorem d_B_read_23 : decode c_B_read 23 = .ok (.istore_n 3, 1) := by decide +kernel
theorem d_B_read_24 : decode c_B_read 24 = .ok (.aload_n 0, 1) := by decide +kernel
theorem d_B_read_25 : decode c_B_read 25 = .ok (.iload_n 3, 1) := by decide +kernel
theorem d_B_read_26 : decode c_B_read 26 = .ok (.iconst 1, 1) := by decide +kernel
theorem d_B_read_27 : decode c_B_read 27 = .ok (.iadd, 1) := by decide +kernel
theorem d_B_read_28 : decode c_B_read 28 = .ok (.invokevirtual 221, 3) := by decide +kernel
theorem d_B_read_31 : decode c_B_read 31 = .ok (.istore 4, 2) := by decide +kernel
theorem d_B_read_33 : decode c_B_read 33 = .ok (.aload_n 0, 1) := by decide +kernel
theorem d_B_read_34 : decode c_B_read 34 = .ok (.iconst 0, 1) := by decide +kernel
theorem d_B_read_35 : decode c_B_read 35 = .ok (.iload_n 3, 1) := by decide +kernel
theorem d_B_read_36 : decode c_B_read 36 = .ok (.invokevirtual 224, 3) := by decide +kernel
theorem d_B_read_39 : decode c_B_read 39 = .ok (.istore 5, 2) := by decide +kernel
theorem d_B_read_41 : decode c_B_read 41 = .ok (.aload_n 0, 1) := by decide +kernel
theorem d_B_read_42 : decode c_B_read 42 = .ok (.iload_n 3, 1) := by decide +kernel
theorem d_B_read_43 : decode c_B_read 43 = .ok (.iconst 1, 1) := by decide +kernel
theorem d_B_read_44 : decode c_B_read 44 = .ok (.iadd, 1) := by decide +kernel
theorem d_B_read_45 : decode c_B_read 45 = .ok (.iload 4, 2) := by decide +kernel
theorem d_B_read_47 : decode c_B_read 47 = .ok (.invokevirtual 224, 3) := by decide +kernel
theorem d_B_read_50 : decode c_B_read 50 = .ok (.istore 6, 2) := by decide +kernel
theorem d_B_read_52 : decode c_B_read 52 = .ok (.aload_n 0, 1) := by decide +kernel
theorem d_B_read_53 : decode c_B_read 53 = .ok (.iload 4, 2) := by decide +kernel
theorem d_B_read_55 : decode c_B_read 55 = .ok (.iconst 1, 1) := by decide +kernel
theorem d_B_read_56 : decode c_B_read 56 = .ok (.iadd, 1) := by decide +kernel
theorem d_B_read_57 : decode c_B_read 57 = .ok (.aload_n 0, 1) := by decide +kernel
theorem d_B_read_58 : decode c_B_read 58 = .ok (.getfield 107, 3) := by decide +kernel
theorem d_B_read_61 : decode c_B_read 61 = .ok (.invokevirtual 209, 3) := by decide +kernel
theorem d_B_read_64 : decode c_B_read 64 = .ok (.invokevirtual 224, 3) := by decide +kernel
theorem d_B_read_67 : decode c_B_read 67 = .ok (.istore 7, 2) := by decide +kernel
theorem d_B_read_69 : decode c_B_read 69 = .ok (.iload 5, 2) := by decide +kernel
theorem d_B_read_71 : decode c_B_read 71 = .ok (.ldc 183, 2) := by decide +kernel
theorem d_B_read_73 : decode c_B_read 73 = .ok (.if_icmp .eq 27, 3) := by decide +kernel
theorem d_B_read_76 : decode c_B_read 76 = .ok (.iload 6, 2) := by decide +kernel
theorem d_B_read_78 : decode c_B_read 78 = .ok (.ldc 183, 2) := by decide +kernel
theorem d_B_read_80 : decode c_B_read 80 = .ok (.if_icmp .eq 20, 3) := by decide +kernel
theorem d_B_read_83 : decode c_B_read 83 = .ok (.iload 7, 2) := by decide +kernel
theorem d_B_read_85 : decode c_B_read 85 = .ok (.ldc 183, 2) := by decide +kernel
theorem d_B_read_87 : decode c_B_read 87 = .ok (.if_icmp .eq 13, 3) := by decide +kernel
theorem d_B_read_90 : decode c_B_read 90 = .ok (.iload 5, 2) := by decide +kernel
theorem d_B_read_92 : decode c_B_read 92 = .ok (.ldc 150, 2) := by decide +kernel
theorem d_B_read_94 : decode c_B_read 94 = .ok (.invokestatic 151, 3) := by decide +kernel
theorem d_B_read_97 : decode c_B_read 97 = .ok (.ifCond .ne 11, 3) := by decide +kernel
theorem d_B_read_100 : decode c_B_read 100 = .ok (.new 116, 3) := by decide +kernel
theorem d_B_read_103 : decode c_B_read 103 = .ok (.dup, 1) := by decide +kernel
theorem d_B_read_104 : decode c_B_read 104 = .ok (.invokespecial 118, 3) := by decide +kernel
theorem d_B_read_107 : decode c_B_read 107 = .ok (.athrow, 1) := by decide +kernel
theorem d_B_read_108 : decode c_B_read 108 = .ok (.aload_n 2, 1) := by decide +kernel
theorem d_B_read_109 : decode c_B_read 109 = .ok (.iload 5, 2) := by decide +kernel
theorem d_B_read_111 : decode c_B_read 111 = .ok (.i2l, 1) := by decide +kernel
theorem d_B_read_112 : decode c_B_read 112 = .ok (.iload 6, 2) := by decide +kernel
theorem d_B_read_114 : decode c_B_read 114 = .ok (.iload 7, 2) := by decide +kernel
theorem d_B_read_116 : decode c_B_read 116 = .ok (.invokevirtual 155, 3) := by decide +kernel
theorem d_B_read_119 : decode c_B_read 119 = .ok (.lstore 8, 2) := by decide +kernel
theorem d_B_read_121 : decode c_B_read 121 = .ok (.lload 8, 2) := by decide +kernel
theorem d_B_read_123 : decode c_B_read 123 = .ok (.ldc2_w 159, 3) := by decide +kernel
theorem d_B_read_126 : decode c_B_read 126 = .ok (.lcmp, 1) := by decide +kernel
theorem d_B_read_127 : decode c_B_read 127 = .ok (.ifCond .eq 11, 3) := by decide +kernel
theorem d_B_read_130 : decode c_B_read 130 = .ok (.lload 8, 2) := by decide +kernel
theorem d_B_read_132 : decode c_B_read 132 = .ok (.invokestatic 129, 3) := by decide +kernel
theorem d_B_read_135 : decode c_B_read 135 = .ok (.ifCond .ne 11, 3) := by decide +kernel
theorem d_B_read_138 : decode c_B_read 138 = .ok (.new 116, 3) := by decide +kernel
theorem d_B_read_141 : decode c_B_read 141 = .ok (.dup, 1) := by decide +kernel
theorem d_B_read_142 : decode c_B_read 142 = .ok (.invokespecial 118, 3) := by decide +kernel
theorem d_B_read_145 : decode c_B_read 145 = .ok (.athrow, 1) := by decide +kernel
theorem d_B_read_146 : decode c_B_read 146 = .ok (.lload 8, 2) := by decide +kernel
theorem d_B_read_148 : decode c_B_read 148 = .ok (.l2i, 1) := by decide +kernel
theorem d_B_read_149 : decode c_B_read 149 = .ok (.ireturn, 1) := by decide +kernel
theorem d_B_rounds_0 : decode c_B_rounds 0 = .ok (.iload_n 1, 1) := by decide +kernel
theorem d_B_rounds_1 : decode c_B_rounds 1 = .ok (.i2l, 1) := by decide +kernel
theorem d_B_rounds_2 : decode c_B_rounds 2 = .ok (.invokestatic 129, 3) := by decide +kernel
theorem d_B_rounds_5 : decode c_B_rounds 5 = .ok (.ifCond .eq 19, 3) := by decide +kernel
theorem d_B_rounds_8 : decode c_B_rounds 8 = .ok (.iload_n 1, 1) := by decide +kernel
theorem d_B_rounds_9 : decode c_B_rounds 9 = .ok (.invokestatic 176, 3) := by decide +kernel
theorem d_B_rounds_12 : decode c_B_rounds 12 = .ok (.sipush 1000, 3) := by decide +kernel
theorem d_B_rounds_15 : decode c_B_rounds 15 = .ok (.iload_n 1, 1) := by decide +kernel
theorem d_B_rounds_16 : decode c_B_rounds 16 = .ok (.invokestatic 180, 3) := by decide +kernel
theorem d_B_rounds_19 : decode c_B_rounds 19 = .ok (.imul, 1) := by decide +kernel
theorem d_B_rounds_20 : decode c_B_rounds 20 = .ok (.iadd, 1) := by decide +kernel
theorem d_B_rounds_21 : decode c_B_rounds 21 = .ok (.goto 5, 3) := by decide +kernel
theorem d_B_rounds_24 : decode c_B_rounds 24 = .ok (.ldc 183, 2) := by decide +kernel
theorem d_B_rounds_26 : decode c_B_rounds 26 = .ok (.ireturn, 1) := by decide +kernel
theorem d_B_slashFrom_0 : decode c_B_slashFrom 0 = .ok (.iload_n 1, 1) := by decide +kernel
theorem d_B_slashFrom_1 : decode c_B_slashFrom 1 = .ok (.istore_n 2, 1) := by decide +kernel
theorem d_B_slashFrom_2 : decode c_B_slashFrom 2 = .ok (.iload_n 2, 1) := by decide +kernel
theorem d_B_slashFrom_3 : decode c_B_slashFrom 3 = .ok (.aload_n 0, 1) := by decide +kernel
theorem d_B_slashFrom_4 : decode c_B_slashFrom 4 = .ok (.getfield 107, 3) := by decide +kernel
theorem d_B_slashFrom_7 : decode c_B_slashFrom 7 = .ok (.invokevirtual 209, 3) := by decide +kernel
theorem d_B_slashFrom_10 : decode c_B_slashFrom 10 = .ok (.if_icmp .ge 22, 3) := by decide +kernel
theorem d_B_slashFrom_13 : decode c_B_slashFrom 13 = .ok (.aload_n 0, 1) := by decide +kernel
theorem d_B_slashFrom_14 : decode c_B_slashFrom 14 = .ok (.getfield 107, 3) := by decide +kernel
theorem d_B_slashFrom_17 : decode c_B_slashFrom 17 = .ok (.iload_n 2, 1) := by decide +kernel
theorem d_B_slashFrom_18 : decode c_B_slashFrom 18 = .ok (.invokevirtual 217, 3) := by decide +kernel
theorem d_B_slashFrom_21 : decode c_B_slashFrom 21 = .ok (.bipush 47, 2) := by decide +kernel
theorem d_B_slashFrom_23 : decode c_B_slashFrom 23 = .ok (.if_icmp .eq 9, 3) := by decide +kernel
theorem d_B_slashFrom_26 : decode c_B_slashFrom 26 = .ok (.iinc 2 1, 3) := by decide +kernel
theorem d_B_slashFrom_29 : decode c_B_slashFrom 29 = .ok (.goto (-27), 3) := by decide +kernel
theorem d_B_slashFrom_32 : decode c_B_slashFrom 32 = .ok (.iload_n 2, 1) := by decide +kernel
theorem d_B_slashFrom_33 : decode c_B_slashFrom 33 = .ok (.aload_n 0, 1) := by decide +kernel
theorem d_B_slashFrom_34 : decode c_B_slashFrom 34 = .ok (.getfield 107, 3) := by decide +kernel
theorem d_B_slashFrom_37 : decode c_B_slashFrom 37 = .ok (.invokevirtual 209, 3) := by decide +kernel
theorem d_B_slashFrom_40 : decode c_B_slashFrom 40 = .ok (.if_icmp .ge 7, 3) := by decide +kernel
theorem d_B_slashFrom_43 : decode c_B_slashFrom 43 = .ok (.iload_n 2, 1) := by decide +kernel
theorem d_B_slashFrom_44 : decode c_B_slashFrom 44 = .ok (.goto 10, 3) := by decide +kernel
theorem d_B_slashFrom_47 : decode c_B_slashFrom 47 = .ok (.aload_n 0, 1) := by decide +kernel
theorem d_B_slashFrom_48 : decode c_B_slashFrom 48 = .ok (.getfield 107, 3) := by decide +kernel
theorem d_B_slashFrom_51 : decode c_B_slashFrom 51 = .ok (.invokevirtual 209, 3) := by decide +kernel
theorem d_B_slashFrom_54 : decode c_B_slashFrom 54 = .ok (.ireturn, 1) := by decide +kernel
theorem d_B_sundayBehind_0 : decode c_B_sundayBehind 0 = .ok (.lload_n 0, 1) := by decide +kernel
theorem d_B_sundayBehind_1 : decode c_B_sundayBehind 1 = .ok (.ldc2_w 240, 3) := by decide +kernel
theorem d_B_sundayBehind_4 : decode c_B_sundayBehind 4 = .ok (.ladd, 1) := by decide +kernel
theorem d_B_sundayBehind_5 : decode c_B_sundayBehind 5 = .ok (.lload_n 0, 1) := by decide +kernel
theorem d_B_sundayBehind_6 : decode c_B_sundayBehind 6 = .ok (.ldc2_w 240, 3) := by decide +kernel
theorem d_B_sundayBehind_9 : decode c_B_sundayBehind 9 = .ok (.invokestatic 242, 3) := by decide +kernel
theorem d_B_sundayBehind_12 : decode c_B_sundayBehind 12 = .ok (.lsub, 1) := by decide +kernel
theorem d_B_sundayBehind_13 : decode c_B_sundayBehind 13 = .ok (.lreturn, 1) := by decide +kernel
theorem d_B_type_0 : decode c_B_type 0 = .ok (.iload_n 1, 1) := by decide +kernel
theorem d_B_type_1 : decode c_B_type 1 = .ok (.invokestatic 213, 3) := by decide +kernel
theorem d_B_type_4 : decode c_B_type 4 = .ok (.ifCond .ne 15, 3) := by decide +kernel
theorem d_B_type_7 : decode c_B_type 7 = .ok (.iload_n 1, 1) := by decide +kernel
theorem d_B_type_8 : decode c_B_type 8 = .ok (.bipush 45, 2) := by decide +kernel
theorem d_B_type_10 : decode c_B_type 10 = .ok (.if_icmp .eq 9, 3) := by decide +kernel
theorem d_B_type_13 : decode c_B_type 13 = .ok (.iload_n 1, 1) := by decide +kernel
theorem d_B_type_14 : decode c_B_type 14 = .ok (.bipush 47, 2) := by decide +kernel
theorem d_B_type_16 : decode c_B_type 16 = .ok (.if_icmp .ne 7, 3) := by decide +kernel
theorem d_B_type_19 : decode c_B_type 19 = .ok (.iconst 1, 1) := by decide +kernel
theorem d_B_type_20 : decode c_B_type 20 = .ok (.goto 4, 3) := by decide +kernel
theorem d_B_type_23 : decode c_B_type 23 = .ok (.iconst 0, 1) := by decide +kernel
theorem d_B_type_24 : decode c_B_type 24 = .ok (.istore_n 2, 1) := by decide +kernel
theorem d_B_type_25 : decode c_B_type 25 = .ok (.iload_n 2, 1) := by decide +kernel
theorem d_B_type_26 : decode c_B_type 26 = .ok (.ifCond .eq 15, 3) := by decide +kernel
theorem d_B_type_29 : decode c_B_type 29 = .ok (.aload_n 0, 1) := by decide +kernel
theorem d_B_type_30 : decode c_B_type 30 = .ok (.getfield 107, 3) := by decide +kernel
theorem d_B_type_33 : decode c_B_type 33 = .ok (.invokevirtual 209, 3) := by decide +kernel
theorem d_B_type_36 : decode c_B_type 36 = .ok (.bipush 24, 2) := by decide +kernel
theorem d_B_type_38 : decode c_B_type 38 = .ok (.if_icmp .lt 5, 3) := by decide +kernel
theorem d_B_type_41 : decode c_B_type 41 = .ok (.iconst 0, 1) := by decide +kernel
theorem d_B_type_42 : decode c_B_type 42 = .ok (.ireturn, 1) := by decide +kernel
theorem d_B_type_43 : decode c_B_type 43 = .ok (.aload_n 0, 1) := by decide +kernel
theorem d_B_type_44 : decode c_B_type 44 = .ok (.getfield 107, 3) := by decide +kernel
theorem d_B_type_47 : decode c_B_type 47 = .ok (.iload_n 1, 1) := by decide +kernel
theorem d_B_type_48 : decode c_B_type 48 = .ok (.invokevirtual 206, 3) := by decide +kernel
theorem d_B_type_51 : decode c_B_type 51 = .ok (.pop, 1) := by decide +kernel
theorem d_B_type_52 : decode c_B_type 52 = .ok (.iconst 1, 1) := by decide +kernel
theorem d_B_type_53 : decode c_B_type 53 = .ok (.ireturn, 1) := by decide +kernel
theorem d_B_when_0 : decode c_B_when 0 = .ok (.aload_n 0, 1) := by decide +kernel
theorem d_B_when_1 : decode c_B_when 1 = .ok (.iload_n 1, 1) := by decide +kernel
theorem d_B_when_2 : decode c_B_when 2 = .ok (.invokevirtual 125, 3) := by decide +kernel
theorem d_B_when_5 : decode c_B_when 5 = .ok (.astore 6, 2) := by decide +kernel
theorem d_B_when_7 : decode c_B_when 7 = .ok (.aload 6, 2) := by decide +kernel
theorem d_B_when_9 : decode c_B_when 9 = .ok (.ifnonnull 11, 3) := by decide +kernel
theorem d_B_when_12 : decode c_B_when 12 = .ok (.new 111, 3) := by decide +kernel
theorem d_B_when_15 : decode c_B_when 15 = .ok (.dup, 1) := by decide +kernel
theorem d_B_when_16 : decode c_B_when 16 = .ok (.invokespecial 113, 3) := by decide +kernel
theorem d_B_when_19 : decode c_B_when 19 = .ok (.athrow, 1) := by decide +kernel
theorem d_B_when_20 : decode c_B_when 20 = .ok (.iload 4, 2) := by decide +kernel
theorem d_B_when_22 : decode c_B_when 22 = .ok (.ldc 184, 2) := by decide +kernel
theorem d_B_when_24 : decode c_B_when 24 = .ok (.invokestatic 151, 3) := by decide +kernel
theorem d_B_when_27 : decode c_B_when 27 = .ok (.ifCond .ne 11, 3) := by decide +kernel
theorem d_B_when_30 : decode c_B_when 30 = .ok (.new 133, 3) := by decide +kernel
theorem d_B_when_33 : decode c_B_when 33 = .ok (.dup, 1) := by decide +kernel
theorem d_B_when_34 : decode c_B_when 34 = .ok (.invokespecial 135, 3) := by decide +kernel
theorem d_B_when_37 : decode c_B_when 37 = .ok (.athrow, 1) := by decide +kernel
theorem d_B_when_38 : decode c_B_when 38 = .ok (.aload_n 0, 1) := by decide +kernel
theorem d_B_when_39 : decode c_B_when 39 = .ok (.getfield 26, 3) := by decide +kernel
theorem d_B_when_42 : decode c_B_when 42 = .ok (.iload 4, 2) := by decide +kernel
theorem d_B_when_44 : decode c_B_when 44 = .ok (.i2l, 1) := by decide +kernel
theorem d_B_when_45 : decode c_B_when 45 = .ok (.invokevirtual 195, 3) := by decide +kernel
theorem d_B_when_48 : decode c_B_when 48 = .ok (.lstore 7, 2) := by decide +kernel
theorem d_B_when_50 : decode c_B_when 50 = .ok (.aload_n 0, 1) := by decide +kernel
theorem d_B_when_51 : decode c_B_when 51 = .ok (.getfield 26, 3) := by decide +kernel
theorem d_B_when_54 : decode c_B_when 54 = .ok (.iload 4, 2) := by decide +kernel
theorem d_B_when_56 : decode c_B_when 56 = .ok (.i2l, 1) := by decide +kernel
theorem d_B_when_57 : decode c_B_when 57 = .ok (.lconst 1, 1) := by decide +kernel
theorem d_B_when_58 : decode c_B_when 58 = .ok (.ladd, 1) := by decide +kernel
theorem d_B_when_59 : decode c_B_when 59 = .ok (.invokevirtual 195, 3) := by decide +kernel
theorem d_B_when_62 : decode c_B_when 62 = .ok (.lconst 1, 1) := by decide +kernel
theorem d_B_when_63 : decode c_B_when 63 = .ok (.lsub, 1) := by decide +kernel
theorem d_B_when_64 : decode c_B_when 64 = .ok (.lstore 9, 2) := by decide +kernel
theorem d_B_when_66 : decode c_B_when 66 = .ok (.aload 6, 2) := by decide +kernel
theorem d_B_when_68 : decode c_B_when 68 = .ok (.lload 9, 2) := by decide +kernel
theorem d_B_when_70 : decode c_B_when 70 = .ok (.invokevirtual 136, 3) := by decide +kernel
theorem d_B_when_73 : decode c_B_when 73 = .ok (.invokestatic 140, 3) := by decide +kernel
theorem d_B_when_76 : decode c_B_when 76 = .ok (.istore 11, 2) := by decide +kernel
theorem d_B_when_78 : decode c_B_when 78 = .ok (.iconst 0, 1) := by decide +kernel
theorem d_B_when_79 : decode c_B_when 79 = .ok (.istore 12, 2) := by decide +kernel
theorem d_B_when_81 : decode c_B_when 81 = .ok (.aload 6, 2) := by decide +kernel
theorem d_B_when_83 : decode c_B_when 83 = .ok (.lload 7, 2) := by decide +kernel
theorem d_B_when_85 : decode c_B_when 85 = .ok (.invokevirtual 136, 3) := by decide +kernel
theorem d_B_when_88 : decode c_B_when 88 = .ok (.invokestatic 140, 3) := by decide +kernel
theorem d_B_when_91 : decode c_B_when 91 = .ok (.istore 13, 2) := by decide +kernel
theorem d_B_when_93 : decode c_B_when 93 = .ok (.iload 13, 2) := by decide +kernel
theorem d_B_when_95 : decode c_B_when 95 = .ok (.iload 11, 2) := by decide +kernel
theorem d_B_when_97 : decode c_B_when 97 = .ok (.if_icmp .gt 51, 3) := by decide +kernel
theorem d_B_when_100 : decode c_B_when 100 = .ok (.aload 6, 2) := by decide +kernel
theorem d_B_when_102 : decode c_B_when 102 = .ok (.iload 13, 2) := by decide +kernel
theorem d_B_when_104 : decode c_B_when 104 = .ok (.i2l, 1) := by decide +kernel
theorem d_B_when_105 : decode c_B_when 105 = .ok (.iload_n 2, 1) := by decide +kernel
theorem d_B_when_106 : decode c_B_when 106 = .ok (.iload_n 3, 1) := by decide +kernel
theorem d_B_when_107 : decode c_B_when 107 = .ok (.invokevirtual 155, 3) := by decide +kernel
theorem d_B_when_110 : decode c_B_when 110 = .ok (.lstore 14, 2) := by decide +kernel
theorem d_B_when_112 : decode c_B_when 112 = .ok (.lload 14, 2) := by decide +kernel
theorem d_B_when_114 : decode c_B_when 114 = .ok (.lload 7, 2) := by decide +kernel
theorem d_B_when_116 : decode c_B_when 116 = .ok (.lcmp, 1) := by decide +kernel
theorem d_B_when_117 : decode c_B_when 117 = .ok (.ifCond .lt 25, 3) := by decide +kernel
theorem d_B_when_120 : decode c_B_when 120 = .ok (.lload 14, 2) := by decide +kernel
theorem d_B_when_122 : decode c_B_when 122 = .ok (.lload 9, 2) := by decide +kernel
theorem d_B_when_124 : decode c_B_when 124 = .ok (.lcmp, 1) := by decide +kernel
theorem d_B_when_125 : decode c_B_when 125 = .ok (.ifCond .gt 17, 3) := by decide +kernel
theorem d_B_when_128 : decode c_B_when 128 = .ok (.iload 12, 2) := by decide +kernel
theorem d_B_when_130 : decode c_B_when 130 = .ok (.iload 5, 2) := by decide +kernel
theorem d_B_when_132 : decode c_B_when 132 = .ok (.if_icmp .ne 7, 3) := by decide +kernel
theorem d_B_when_135 : decode c_B_when 135 = .ok (.lload 14, 2) := by decide +kernel
theorem d_B_when_137 : decode c_B_when 137 = .ok (.l2i, 1) := by decide +kernel
theorem d_B_when_138 : decode c_B_when 138 = .ok (.ireturn, 1) := by decide +kernel
theorem d_B_when_139 : decode c_B_when 139 = .ok (.iinc 12 1, 3) := by decide +kernel
theorem d_B_when_142 : decode c_B_when 142 = .ok (.iinc 13 1, 3) := by decide +kernel
theorem d_B_when_145 : decode c_B_when 145 = .ok (.goto (-52), 3) := by decide +kernel
theorem d_B_when_148 : decode c_B_when 148 = .ok (.ldc 183, 2) := by decide +kernel
theorem d_B_when_150 : decode c_B_when 150 = .ok (.ireturn, 1) := by decide +kernel
theorem d_B_wipe_0 : decode c_B_wipe 0 = .ok (.aload_n 0, 1) := by decide +kernel
theorem d_B_wipe_1 : decode c_B_wipe 1 = .ok (.getfield 107, 3) := by decide +kernel
theorem d_B_wipe_4 : decode c_B_wipe 4 = .ok (.invokevirtual 209, 3) := by decide +kernel
theorem d_B_wipe_7 : decode c_B_wipe 7 = .ok (.istore_n 1, 1) := by decide +kernel
theorem d_B_wipe_8 : decode c_B_wipe 8 = .ok (.aload_n 0, 1) := by decide +kernel
theorem d_B_wipe_9 : decode c_B_wipe 9 = .ok (.getfield 107, 3) := by decide +kernel
theorem d_B_wipe_12 : decode c_B_wipe 12 = .ok (.iconst 0, 1) := by decide +kernel
theorem d_B_wipe_13 : decode c_B_wipe 13 = .ok (.invokevirtual 198, 3) := by decide +kernel
theorem d_B_wipe_16 : decode c_B_wipe 16 = .ok (.iload_n 1, 1) := by decide +kernel
theorem d_B_wipe_17 : decode c_B_wipe 17 = .ok (.ireturn, 1) := by decide +kernel
theorem d_B_write_0 : decode c_B_write 0 = .ok (.aload_n 0, 1) := by decide +kernel
theorem d_B_write_1 : decode c_B_write 1 = .ok (.iload_n 1, 1) := by decide +kernel
theorem d_B_write_2 : decode c_B_write 2 = .ok (.invokevirtual 125, 3) := by decide +kernel
theorem d_B_write_5 : decode c_B_write 5 = .ok (.astore_n 3, 1) := by decide +kernel
theorem d_B_write_6 : decode c_B_write 6 = .ok (.aload_n 3, 1) := by decide +kernel
theorem d_B_write_7 : decode c_B_write 7 = .ok (.ifnonnull 11, 3) := by decide +kernel
theorem d_B_write_10 : decode c_B_write 10 = .ok (.new 111, 3) := by decide +kernel
theorem d_B_write_13 : decode c_B_write 13 = .ok (.dup, 1) := by decide +kernel
theorem d_B_write_14 : decode c_B_write 14 = .ok (.invokespecial 113, 3) := by decide +kernel
theorem d_B_write_17 : decode c_B_write 17 = .ok (.athrow, 1) := by decide +kernel
theorem d_B_write_18 : decode c_B_write 18 = .ok (.iload_n 2, 1) := by decide +kernel
theorem d_B_write_19 : decode c_B_write 19 = .ok (.i2l, 1) := by decide +kernel
theorem d_B_write_20 : decode c_B_write 20 = .ok (.invokestatic 129, 3) := by decide +kernel
theorem d_B_write_23 : decode c_B_write 23 = .ok (.ifCond .ne 11, 3) := by decide +kernel
theorem d_B_write_26 : decode c_B_write 26 = .ok (.new 133, 3) := by decide +kernel
theorem d_B_write_29 : decode c_B_write 29 = .ok (.dup, 1) := by decide +kernel
theorem d_B_write_30 : decode c_B_write 30 = .ok (.invokespecial 135, 3) := by decide +kernel
theorem d_B_write_33 : decode c_B_write 33 = .ok (.athrow, 1) := by decide +kernel
theorem d_B_write_34 : decode c_B_write 34 = .ok (.aload_n 3, 1) := by decide +kernel
theorem d_B_write_35 : decode c_B_write 35 = .ok (.iload_n 2, 1) := by decide +kernel
theorem d_B_write_36 : decode c_B_write 36 = .ok (.i2l, 1) := by decide +kernel
theorem d_B_write_37 : decode c_B_write 37 = .ok (.invokevirtual 136, 3) := by decide +kernel
theorem d_B_write_40 : decode c_B_write 40 = .ok (.lstore 4, 2) := by decide +kernel
theorem d_B_write_42 : decode c_B_write 42 = .ok (.aload_n 0, 1) := by decide +kernel
theorem d_B_write_43 : decode c_B_write 43 = .ok (.getfield 107, 3) := by decide +kernel
theorem d_B_write_46 : decode c_B_write 46 = .ok (.iconst 0, 1) := by decide +kernel
theorem d_B_write_47 : decode c_B_write 47 = .ok (.invokevirtual 198, 3) := by decide +kernel
theorem d_B_write_50 : decode c_B_write 50 = .ok (.aload_n 0, 1) := by decide +kernel
theorem d_B_write_51 : decode c_B_write 51 = .ok (.getfield 107, 3) := by decide +kernel
theorem d_B_write_54 : decode c_B_write 54 = .ok (.lload 4, 2) := by decide +kernel
theorem d_B_write_56 : decode c_B_write 56 = .ok (.invokestatic 140, 3) := by decide +kernel
theorem d_B_write_59 : decode c_B_write 59 = .ok (.invokevirtual 202, 3) := by decide +kernel
theorem d_B_write_62 : decode c_B_write 62 = .ok (.pop, 1) := by decide +kernel
theorem d_B_write_63 : decode c_B_write 63 = .ok (.aload_n 0, 1) := by decide +kernel
theorem d_B_write_64 : decode c_B_write 64 = .ok (.getfield 107, 3) := by decide +kernel
theorem d_B_write_67 : decode c_B_write 67 = .ok (.bipush 47, 2) := by decide +kernel
theorem d_B_write_69 : decode c_B_write 69 = .ok (.invokevirtual 206, 3) := by decide +kernel
theorem d_B_write_72 : decode c_B_write 72 = .ok (.pop, 1) := by decide +kernel
theorem d_B_write_73 : decode c_B_write 73 = .ok (.aload_n 0, 1) := by decide +kernel
theorem d_B_write_74 : decode c_B_write 74 = .ok (.getfield 107, 3) := by decide +kernel
theorem d_B_write_77 : decode c_B_write 77 = .ok (.lload 4, 2) := by decide +kernel
theorem d_B_write_79 : decode c_B_write 79 = .ok (.invokestatic 144, 3) := by decide +kernel
theorem d_B_write_82 : decode c_B_write 82 = .ok (.invokevirtual 202, 3) := by decide +kernel
theorem d_B_write_85 : decode c_B_write 85 = .ok (.pop, 1) := by decide +kernel
theorem d_B_write_86 : decode c_B_write 86 = .ok (.aload_n 0, 1) := by decide +kernel
theorem d_B_write_87 : decode c_B_write 87 = .ok (.getfield 107, 3) := by decide +kernel
theorem d_B_write_90 : decode c_B_write 90 = .ok (.bipush 47, 2) := by decide +kernel
theorem d_B_write_92 : decode c_B_write 92 = .ok (.invokevirtual 206, 3) := by decide +kernel
theorem d_B_write_95 : decode c_B_write 95 = .ok (.pop, 1) := by decide +kernel
theorem d_B_write_96 : decode c_B_write 96 = .ok (.aload_n 0, 1) := by decide +kernel
theorem d_B_write_97 : decode c_B_write 97 = .ok (.getfield 107, 3) := by decide +kernel
theorem d_B_write_100 : decode c_B_write 100 = .ok (.lload 4, 2) := by decide +kernel
theorem d_B_write_102 : decode c_B_write 102 = .ok (.invokestatic 147, 3) := by decide +kernel
theorem d_B_write_105 : decode c_B_write 105 = .ok (.invokevirtual 202, 3) := by decide +kernel
theorem d_B_write_108 : decode c_B_write 108 = .ok (.pop, 1) := by decide +kernel
theorem d_B_write_109 : decode c_B_write 109 = .ok (.aload_n 0, 1) := by decide +kernel
theorem d_B_write_110 : decode c_B_write 110 = .ok (.getfield 107, 3) := by decide +kernel
theorem d_B_write_113 : decode c_B_write 113 = .ok (.invokevirtual 209, 3) := by decide +kernel
theorem d_B_write_116 : decode c_B_write 116 = .ok (.ireturn, 1) := by decide +kernel
theorem d_B_yearIn_0 : decode c_B_yearIn 0 = .ok (.lload_n 0, 1) := by decide +kernel
theorem d_B_yearIn_1 : decode c_B_yearIn 1 = .ok (.bipush 16, 2) := by decide +kernel
theorem d_B_yearIn_3 : decode c_B_yearIn 3 = .ok (.lshr, 1) := by decide +kernel
theorem d_B_yearIn_4 : decode c_B_yearIn 4 = .ok (.l2i, 1) := by decide +kernel
theorem d_B_yearIn_5 : decode c_B_yearIn 5 = .ok (.ireturn, 1) := by decide +kernel
theorem d_C_init_0 : decode c_C_init 0 = .ok (.aload_n 0, 1) := by decide +kernel
theorem d_C_init_1 : decode c_C_init 1 = .ok (.invokespecial 1, 3) := by decide +kernel
theorem d_C_init_4 : decode c_C_init 4 = .ok (.return_, 1) := by decide +kernel
theorem d_C_hasYear_0 : decode c_C_hasYear 0 = .ok (.iconst 1, 1) := by decide +kernel
theorem d_C_hasYear_1 : decode c_C_hasYear 1 = .ok (.ireturn, 1) := by decide +kernel
theorem d_C_isLeap_0 : decode c_C_isLeap 0 = .ok (.iconst 0, 1) := by decide +kernel
theorem d_C_isLeap_1 : decode c_C_isLeap 1 = .ok (.ireturn, 1) := by decide +kernel
theorem d_CR_init_0 : decode c_CR_init 0 = .ok (.aload_n 0, 1) := by decide +kernel
theorem d_CR_init_1 : decode c_CR_init 1 = .ok (.invokespecial 1, 3) := by decide +kernel
theorem d_CR_init_4 : decode c_CR_init 4 = .ok (.aload_n 0, 1) := by decide +kernel
theorem d_CR_init_5 : decode c_CR_init 5 = .ok (.lload_n 1, 1) := by decide +kernel
theorem d_CR_init_6 : decode c_CR_init 6 = .ok (.putfield 7, 3) := by decide +kernel
theorem d_CR_init_9 : decode c_CR_init 9 = .ok (.aload_n 0, 1) := by decide +kernel
theorem d_CR_init_10 : decode c_CR_init 10 = .ok (.iload_n 3, 1) := by decide +kernel
theorem d_CR_init_11 : decode c_CR_init 11 = .ok (.putfield 13, 3) := by decide +kernel
theorem d_CR_init_14 : decode c_CR_init 14 = .ok (.return_, 1) := by decide +kernel
theorem d_CR_isLeapCount_0 : decode c_CR_isLeapCount 0 = .ok (.lload_n 1, 1) := by decide +kernel
theorem d_CR_isLeapCount_1 : decode c_CR_isLeapCount 1 = .ok (.aload_n 0, 1) := by decide +kernel
theorem d_CR_isLeapCount_2 : decode c_CR_isLeapCount 2 = .ok (.getfield 7, 3) := by decide +kernel
theorem d_CR_isLeapCount_5 : decode c_CR_isLeapCount 5 = .ok (.ladd, 1) := by decide +kernel
theorem d_CR_isLeapCount_6 : decode c_CR_isLeapCount 6 = .ok (.lstore_n 3, 1) := by decide +kernel
theorem d_CR_isLeapCount_7 : decode c_CR_isLeapCount 7 = .ok (.aload_n 0, 1) := by decide +kernel
theorem d_CR_isLeapCount_8 : decode c_CR_isLeapCount 8 = .ok (.getfield 13, 3) := by decide +kernel
theorem d_CR_isLeapCount_11 : decode c_CR_isLeapCount 11 = .ok (.ifCond .eq 17, 3) := by decide +kernel
theorem d_CR_isLeapCount_14 : decode c_CR_isLeapCount 14 = .ok (.lload_n 3, 1) := by decide +kernel
theorem d_CR_isLeapCount_15 : decode c_CR_isLeapCount 15 = .ok (.ldc2_w 17, 3) := by decide +kernel
theorem d_CR_isLeapCount_18 : decode c_CR_isLeapCount 18 = .ok (.invokestatic 19, 3) := by decide +kernel
theorem d_CR_isLeapCount_21 : decode c_CR_isLeapCount 21 = .ok (.lconst 0, 1) := by decide +kernel
theorem d_CR_isLeapCount_22 : decode c_CR_isLeapCount 22 = .ok (.lcmp, 1) := by decide +kernel
theorem d_CR_isLeapCount_23 : decode c_CR_isLeapCount 23 = .ok (.ifCond .ne 5, 3) := by decide +kernel
theorem d_CR_isLeapCount_26 : decode c_CR_isLeapCount 26 = .ok (.iconst 0, 1) := by decide +kernel
theorem d_CR_isLeapCount_27 : decode c_CR_isLeapCount 27 = .ok (.ireturn, 1) := by decide +kernel
theorem d_CR_isLeapCount_28 : decode c_CR_isLeapCount 28 = .ok (.lload_n 3, 1) := by decide +kernel
theorem d_CR_isLeapCount_29 : decode c_CR_isLeapCount 29 = .ok (.ldc2_w 25, 3) := by decide +kernel
theorem d_CR_isLeapCount_32 : decode c_CR_isLeapCount 32 = .ok (.invokestatic 19, 3) := by decide +kernel
theorem d_CR_isLeapCount_35 : decode c_CR_isLeapCount 35 = .ok (.lconst 0, 1) := by decide +kernel
theorem d_CR_isLeapCount_36 : decode c_CR_isLeapCount 36 = .ok (.lcmp, 1) := by decide +kernel
theorem d_CR_isLeapCount_37 : decode c_CR_isLeapCount 37 = .ok (.ifCond .ne 31, 3) := by decide +kernel
theorem d_CR_isLeapCount_40 : decode c_CR_isLeapCount 40 = .ok (.lload_n 3, 1) := by decide +kernel
theorem d_CR_isLeapCount_41 : decode c_CR_isLeapCount 41 = .ok (.ldc2_w 27, 3) := by decide +kernel
theorem d_CR_isLeapCount_44 : decode c_CR_isLeapCount 44 = .ok (.invokestatic 19, 3) := by decide +kernel
theorem d_CR_isLeapCount_47 : decode c_CR_isLeapCount 47 = .ok (.lconst 0, 1) := by decide +kernel
theorem d_CR_isLeapCount_48 : decode c_CR_isLeapCount 48 = .ok (.lcmp, 1) := by decide +kernel
theorem d_CR_isLeapCount_49 : decode c_CR_isLeapCount 49 = .ok (.ifCond .ne 15, 3) := by decide +kernel
theorem d_CR_isLeapCount_52 : decode c_CR_isLeapCount 52 = .ok (.lload_n 3, 1) := by decide +kernel
theorem d_CR_isLeapCount_53 : decode c_CR_isLeapCount 53 = .ok (.ldc2_w 29, 3) := by decide +kernel
theorem d_CR_isLeapCount_56 : decode c_CR_isLeapCount 56 = .ok (.invokestatic 19, 3) := by decide +kernel
theorem d_CR_isLeapCount_59 : decode c_CR_isLeapCount 59 = .ok (.lconst 0, 1) := by decide +kernel
theorem d_CR_isLeapCount_60 : decode c_CR_isLeapCount 60 = .ok (.lcmp, 1) := by decide +kernel
theorem d_CR_isLeapCount_61 : decode c_CR_isLeapCount 61 = .ok (.ifCond .ne 7, 3) := by decide +kernel
theorem d_CR_isLeapCount_64 : decode c_CR_isLeapCount 64 = .ok (.iconst 1, 1) := by decide +kernel
theorem d_CR_isLeapCount_65 : decode c_CR_isLeapCount 65 = .ok (.goto 4, 3) := by decide +kernel
theorem d_CR_isLeapCount_68 : decode c_CR_isLeapCount 68 = .ok (.iconst 0, 1) := by decide +kernel
theorem d_CR_isLeapCount_69 : decode c_CR_isLeapCount 69 = .ok (.ireturn, 1) := by decide +kernel
theorem d_CR_leapsBefore_0 : decode c_CR_leapsBefore 0 = .ok (.lload_n 1, 1) := by decide +kernel
theorem d_CR_leapsBefore_1 : decode c_CR_leapsBefore 1 = .ok (.aload_n 0, 1) := by decide +kernel
theorem d_CR_leapsBefore_2 : decode c_CR_leapsBefore 2 = .ok (.getfield 7, 3) := by decide +kernel
theorem d_CR_leapsBefore_5 : decode c_CR_leapsBefore 5 = .ok (.ladd, 1) := by decide +kernel
theorem d_CR_leapsBefore_6 : decode c_CR_leapsBefore 6 = .ok (.lconst 1, 1) := by decide +kernel
theorem d_CR_leapsBefore_7 : decode c_CR_leapsBefore 7 = .ok (.lsub, 1) := by decide +kernel
theorem d_CR_leapsBefore_8 : decode c_CR_leapsBefore 8 = .ok (.lstore_n 3, 1) := by decide +kernel
theorem d_CR_leapsBefore_9 : decode c_CR_leapsBefore 9 = .ok (.lload_n 3, 1) := by decide +kernel
theorem d_CR_leapsBefore_10 : decode c_CR_leapsBefore 10 = .ok (.ldc2_w 25, 3) := by decide +kernel
theorem d_CR_leapsBefore_13 : decode c_CR_leapsBefore 13 = .ok (.invokestatic 31, 3) := by decide +kernel
theorem d_CR_leapsBefore_16 : decode c_CR_leapsBefore 16 = .ok (.lload_n 3, 1) := by decide +kernel
theorem d_CR_leapsBefore_17 : decode c_CR_leapsBefore 17 = .ok (.ldc2_w 27, 3) := by decide +kernel
theorem d_CR_leapsBefore_20 : decode c_CR_leapsBefore 20 = .ok (.invokestatic 31, 3) := by decide +kernel
theorem d_CR_leapsBefore_23 : decode c_CR_leapsBefore 23 = .ok (.lsub, 1) := by decide +kernel
theorem d_CR_leapsBefore_24 : decode c_CR_leapsBefore 24 = .ok (.lload_n 3, 1) := by decide +kernel
theorem d_CR_leapsBefore_25 : decode c_CR_leapsBefore 25 = .ok (.ldc2_w 29, 3) := by decide +kernel
theorem d_CR_leapsBefore_28 : decode c_CR_leapsBefore 28 = .ok (.invokestatic 31, 3) := by decide +kernel
theorem d_CR_leapsBefore_31 : decode c_CR_leapsBefore 31 = .ok (.ladd, 1) := by decide +kernel
theorem d_CR_leapsBefore_32 : decode c_CR_leapsBefore 32 = .ok (.lstore 5, 2) := by decide +kernel
theorem d_CR_leapsBefore_34 : decode c_CR_leapsBefore 34 = .ok (.aload_n 0, 1) := by decide +kernel
theorem d_CR_leapsBefore_35 : decode c_CR_leapsBefore 35 = .ok (.getfield 13, 3) := by decide +kernel
theorem d_CR_leapsBefore_38 : decode c_CR_leapsBefore 38 = .ok (.ifCond .eq 16, 3) := by decide +kernel
theorem d_CR_leapsBefore_41 : decode c_CR_leapsBefore 41 = .ok (.lload 5, 2) := by decide +kernel
theorem d_CR_leapsBefore_43 : decode c_CR_leapsBefore 43 = .ok (.lload_n 3, 1) := by decide +kernel
theorem d_CR_leapsBefore_44 : decode c_CR_leapsBefore 44 = .ok (.ldc2_w 17, 3) := by decide +kernel
theorem d_CR_leapsBefore_47 : decode c_CR_leapsBefore 47 = .ok (.invokestatic 31, 3) := by decide +kernel
theorem d_CR_leapsBefore_50 : decode c_CR_leapsBefore 50 = .ok (.lsub, 1) := by decide +kernel
theorem d_CR_leapsBefore_51 : decode c_CR_leapsBefore 51 = .ok (.goto 5, 3) := by decide +kernel
theorem d_CR_leapsBefore_54 : decode c_CR_leapsBefore 54 = .ok (.lload 5, 2) := by decide +kernel
theorem d_CR_leapsBefore_56 : decode c_CR_leapsBefore 56 = .ok (.lreturn, 1) := by decide +kernel
theorem d_YR_init_0 : decode c_YR_init 0 = .ok (.aload_n 0, 1) := by decide +kernel
theorem d_YR_init_1 : decode c_YR_init 1 = .ok (.invokespecial 1, 3) := by decide +kernel
theorem d_YR_init_4 : decode c_YR_init 4 = .ok (.return_, 1) := by decide +kernel
theorem d_YR_isLeapCount_0 : decode c_YR_isLeapCount 0 = .ok (.lload_n 1, 1) := by decide +kernel
theorem d_YR_isLeapCount_1 : decode c_YR_isLeapCount 1 = .ok (.ldc2_w 7, 3) := by decide +kernel
theorem d_YR_isLeapCount_4 : decode c_YR_isLeapCount 4 = .ok (.lsub, 1) := by decide +kernel
theorem d_YR_isLeapCount_5 : decode c_YR_isLeapCount 5 = .ok (.ldc2_w 9, 3) := by decide +kernel
theorem d_YR_isLeapCount_8 : decode c_YR_isLeapCount 8 = .ok (.invokestatic 11, 3) := by decide +kernel
theorem d_YR_isLeapCount_11 : decode c_YR_isLeapCount 11 = .ok (.ldc2_w 17, 3) := by decide +kernel
theorem d_YR_isLeapCount_14 : decode c_YR_isLeapCount 14 = .ok (.ladd, 1) := by decide +kernel
theorem d_YR_isLeapCount_15 : decode c_YR_isLeapCount 15 = .ok (.ldc2_w 19, 3) := by decide +kernel
theorem d_YR_isLeapCount_18 : decode c_YR_isLeapCount 18 = .ok (.lmul, 1) := by decide +kernel
theorem d_YR_isLeapCount_19 : decode c_YR_isLeapCount 19 = .ok (.ldc2_w 21, 3) := by decide +kernel
theorem d_YR_isLeapCount_22 : decode c_YR_isLeapCount 22 = .ok (.invokestatic 11, 3) := by decide +kernel
theorem d_YR_isLeapCount_25 : decode c_YR_isLeapCount 25 = .ok (.ldc2_w 19, 3) := by decide +kernel
theorem d_YR_isLeapCount_28 : decode c_YR_isLeapCount 28 = .ok (.lcmp, 1) := by decide +kernel
theorem d_YR_isLeapCount_29 : decode c_YR_isLeapCount 29 = .ok (.ifCond .ge 7, 3) := by decide +kernel
theorem d_YR_isLeapCount_32 : decode c_YR_isLeapCount 32 = .ok (.iconst 1, 1) := by decide +kernel
theorem d_YR_isLeapCount_33 : decode c_YR_isLeapCount 33 = .ok (.goto 4, 3) := by decide +kernel
theorem d_YR_isLeapCount_36 : decode c_YR_isLeapCount 36 = .ok (.iconst 0, 1) := by decide +kernel
theorem d_YR_isLeapCount_37 : decode c_YR_isLeapCount 37 = .ok (.ireturn, 1) := by decide +kernel
theorem d_YR_leapsBefore_0 : decode c_YR_leapsBefore 0 = .ok (.lload_n 1, 1) := by decide +kernel
theorem d_YR_leapsBefore_1 : decode c_YR_leapsBefore 1 = .ok (.ldc2_w 7, 3) := by decide +kernel
theorem d_YR_leapsBefore_4 : decode c_YR_leapsBefore 4 = .ok (.lsub, 1) := by decide +kernel
theorem d_YR_leapsBefore_5 : decode c_YR_leapsBefore 5 = .ok (.lstore_n 3, 1) := by decide +kernel
theorem d_YR_leapsBefore_6 : decode c_YR_leapsBefore 6 = .ok (.ldc2_w 23, 3) := by decide +kernel
theorem d_YR_leapsBefore_9 : decode c_YR_leapsBefore 9 = .ok (.lload_n 3, 1) := by decide +kernel
theorem d_YR_leapsBefore_10 : decode c_YR_leapsBefore 10 = .ok (.ldc2_w 9, 3) := by decide +kernel
theorem d_YR_leapsBefore_13 : decode c_YR_leapsBefore 13 = .ok (.invokestatic 25, 3) := by decide +kernel
theorem d_YR_leapsBefore_16 : decode c_YR_leapsBefore 16 = .ok (.lmul, 1) := by decide +kernel
theorem d_YR_leapsBefore_17 : decode c_YR_leapsBefore 17 = .ok (.lload_n 3, 1) := by decide +kernel
theorem d_YR_leapsBefore_18 : decode c_YR_leapsBefore 18 = .ok (.ldc2_w 9, 3) := by decide +kernel
theorem d_YR_leapsBefore_21 : decode c_YR_leapsBefore 21 = .ok (.invokestatic 11, 3) := by decide +kernel
theorem d_YR_leapsBefore_24 : decode c_YR_leapsBefore 24 = .ok (.ldc2_w 28, 3) := by decide +kernel
theorem d_YR_leapsBefore_27 : decode c_YR_leapsBefore 27 = .ok (.ladd, 1) := by decide +kernel
theorem d_YR_leapsBefore_28 : decode c_YR_leapsBefore 28 = .ok (.ldc2_w 19, 3) := by decide +kernel
theorem d_YR_leapsBefore_31 : decode c_YR_leapsBefore 31 = .ok (.lmul, 1) := by decide +kernel
theorem d_YR_leapsBefore_32 : decode c_YR_leapsBefore 32 = .ok (.ldc2_w 21, 3) := by decide +kernel
theorem d_YR_leapsBefore_35 : decode c_YR_leapsBefore 35 = .ok (.invokestatic 25, 3) := by decide +kernel
theorem d_YR_leapsBefore_38 : decode c_YR_leapsBefore 38 = .ok (.ladd, 1) := by decide +kernel
theorem d_YR_leapsBefore_39 : decode c_YR_leapsBefore 39 = .ok (.lreturn, 1) := by decide +kernel
theorem d_HC_init_0 : decode c_HC_init 0 = .ok (.aload_n 0, 1) := by decide +kernel
theorem d_HC_init_1 : decode c_HC_init 1 = .ok (.invokespecial 1, 3) := by decide +kernel
theorem d_HC_init_4 : decode c_HC_init 4 = .ok (.return_, 1) := by decide +kernel
theorem d_HC_elapsed_0 : decode c_HC_elapsed 0 = .ok (.ldc2_w 31, 3) := by decide +kernel
theorem d_HC_elapsed_3 : decode c_HC_elapsed 3 = .ok (.lload_n 0, 1) := by decide +kernel
theorem d_HC_elapsed_4 : decode c_HC_elapsed 4 = .ok (.lmul, 1) := by decide +kernel
theorem d_HC_elapsed_5 : decode c_HC_elapsed 5 = .ok (.ldc2_w 33, 3) := by decide +kernel
theorem d_HC_elapsed_8 : decode c_HC_elapsed 8 = .ok (.lsub, 1) := by decide +kernel
theorem d_HC_elapsed_9 : decode c_HC_elapsed 9 = .ok (.ldc2_w 9, 3) := by decide +kernel
theorem d_HC_elapsed_12 : decode c_HC_elapsed 12 = .ok (.invokestatic 35, 3) := by decide +kernel
theorem d_HC_elapsed_15 : decode c_HC_elapsed 15 = .ok (.lstore_n 2, 1) := by decide +kernel
theorem d_HC_elapsed_16 : decode c_HC_elapsed 16 = .ok (.ldc2_w 38, 3) := by decide +kernel
theorem d_HC_elapsed_19 : decode c_HC_elapsed 19 = .ok (.lload_n 2, 1) := by decide +kernel
theorem d_HC_elapsed_20 : decode c_HC_elapsed 20 = .ok (.lmul, 1) := by decide +kernel
theorem d_HC_elapsed_21 : decode c_HC_elapsed 21 = .ok (.ldc2_w 40, 3) := by decide +kernel
theorem d_HC_elapsed_24 : decode c_HC_elapsed 24 = .ok (.ldc2_w 42, 3) := by decide +kernel
theorem d_HC_elapsed_27 : decode c_HC_elapsed 27 = .ok (.lload_n 2, 1) := by decide +kernel
theorem d_HC_elapsed_28 : decode c_HC_elapsed 28 = .ok (.lmul, 1) := by decide +kernel
theorem d_HC_elapsed_29 : decode c_HC_elapsed 29 = .ok (.ladd, 1) := by decide +kernel
theorem d_HC_elapsed_30 : decode c_HC_elapsed 30 = .ok (.ldc2_w 44, 3) := by decide +kernel
theorem d_HC_elapsed_33 : decode c_HC_elapsed 33 = .ok (.invokestatic 35, 3) := by decide +kernel
theorem d_HC_elapsed_36 : decode c_HC_elapsed 36 = .ok (.ladd, 1) := by decide +kernel
theorem d_HC_elapsed_37 : decode c_HC_elapsed 37 = .ok (.lstore 4, 2) := by decide +kernel
theorem d_HC_elapsed_39 : decode c_HC_elapsed 39 = .ok (.ldc2_w 46, 3) := by decide +kernel
theorem d_HC_elapsed_42 : decode c_HC_elapsed 42 = .ok (.lload 4, 2) := by decide +kernel
theorem d_HC_elapsed_44 : decode c_HC_elapsed 44 = .ok (.lmul, 1) := by decide +kernel
theorem d_HC_elapsed_45 : decode c_HC_elapsed 45 = .ok (.ldc2_w 46, 3) := by decide +kernel
theorem d_HC_elapsed_48 : decode c_HC_elapsed 48 = .ok (.ladd, 1) := by decide +kernel
theorem d_HC_elapsed_49 : decode c_HC_elapsed 49 = .ok (.ldc2_w 7, 3) := by decide +kernel
theorem d_HC_elapsed_52 : decode c_HC_elapsed 52 = .ok (.invokestatic 11, 3) := by decide +kernel
theorem d_HC_elapsed_55 : decode c_HC_elapsed 55 = .ok (.ldc2_w 46, 3) := by decide +kernel
theorem d_HC_elapsed_58 : decode c_HC_elapsed 58 = .ok (.lcmp, 1) := by decide +kernel
theorem d_HC_elapsed_59 : decode c_HC_elapsed 59 = .ok (.ifCond .ge 10, 3) := by decide +kernel
theorem d_HC_elapsed_62 : decode c_HC_elapsed 62 = .ok (.lload 4, 2) := by decide +kernel
theorem d_HC_elapsed_64 : decode c_HC_elapsed 64 = .ok (.lconst 1, 1) := by decide +kernel
theorem d_HC_elapsed_65 : decode c_HC_elapsed 65 = .ok (.ladd, 1) := by decide +kernel
theorem d_HC_elapsed_66 : decode c_HC_elapsed 66 = .ok (.goto 5, 3) := by decide +kernel
theorem d_HC_elapsed_69 : decode c_HC_elapsed 69 = .ok (.lload 4, 2) := by decide +kernel
theorem d_HC_elapsed_71 : decode c_HC_elapsed 71 = .ok (.lreturn, 1) := by decide +kernel
theorem d_HC_isLeap_0 : decode c_HC_isLeap 0 = .ok (.ldc2_w 7, 3) := by decide +kernel
theorem d_HC_isLeap_3 : decode c_HC_isLeap 3 = .ok (.lload_n 1, 1) := by decide +kernel
theorem d_HC_isLeap_4 : decode c_HC_isLeap 4 = .ok (.lmul, 1) := by decide +kernel
theorem d_HC_isLeap_5 : decode c_HC_isLeap 5 = .ok (.lconst 1, 1) := by decide +kernel
theorem d_HC_isLeap_6 : decode c_HC_isLeap 6 = .ok (.ladd, 1) := by decide +kernel
theorem d_HC_isLeap_7 : decode c_HC_isLeap 7 = .ok (.ldc2_w 9, 3) := by decide +kernel
theorem d_HC_isLeap_10 : decode c_HC_isLeap 10 = .ok (.invokestatic 11, 3) := by decide +kernel
theorem d_HC_isLeap_13 : decode c_HC_isLeap 13 = .ok (.ldc2_w 7, 3) := by decide +kernel
theorem d_HC_isLeap_16 : decode c_HC_isLeap 16 = .ok (.lcmp, 1) := by decide +kernel
theorem d_HC_isLeap_17 : decode c_HC_isLeap 17 = .ok (.ifCond .ge 7, 3) := by decide +kernel
theorem d_HC_isLeap_20 : decode c_HC_isLeap 20 = .ok (.iconst 1, 1) := by decide +kernel
theorem d_HC_isLeap_21 : decode c_HC_isLeap 21 = .ok (.goto 4, 3) := by decide +kernel
theorem d_HC_isLeap_24 : decode c_HC_isLeap 24 = .ok (.iconst 0, 1) := by decide +kernel
theorem d_HC_isLeap_25 : decode c_HC_isLeap 25 = .ok (.ireturn, 1) := by decide +kernel
theorem d_HC_isLong_0 : decode c_HC_isLong 0 = .ok (.iload_n 0, 1) := by decide +kernel
theorem d_HC_isLong_1 : decode c_HC_isLong 1 = .ok (.sipush 355, 3) := by decide +kernel
theorem d_HC_isLong_4 : decode c_HC_isLong 4 = .ok (.if_icmp .le 7, 3) := by decide +kernel
theorem d_HC_isLong_7 : decode c_HC_isLong 7 = .ok (.iconst 1, 1) := by decide +kernel
theorem d_HC_isLong_8 : decode c_HC_isLong 8 = .ok (.goto 4, 3) := by decide +kernel
theorem d_HC_isLong_11 : decode c_HC_isLong 11 = .ok (.iconst 0, 1) := by decide +kernel
theorem d_HC_isLong_12 : decode c_HC_isLong 12 = .ok (.ireturn, 1) := by decide +kernel
theorem d_HC_lengthAt_0 : decode c_HC_lengthAt 0 = .ok (.aload_n 0, 1) := by decide +kernel
theorem d_HC_lengthAt_1 : decode c_HC_lengthAt 1 = .ok (.iload_n 1, 1) := by decide +kernel
theorem d_HC_lengthAt_2 : decode c_HC_lengthAt 2 = .ok (.iload_n 2, 1) := by decide +kernel
theorem d_HC_lengthAt_3 : decode c_HC_lengthAt 3 = .ok (.invokevirtual 52, 3) := by decide +kernel
theorem d_HC_lengthAt_6 : decode c_HC_lengthAt 6 = .ok (.tableswitch 124 2 13 #[121, 124, 121, 124, 121, 124, 62, 84, 121, 124, 106, 121], 62) := by decide +kernel
theorem d_HC_lengthAt_68 : decode c_HC_lengthAt 68 = .ok (.iload_n 2, 1) := by decide +kernel
theorem d_HC_lengthAt_69 : decode c_HC_lengthAt 69 = .ok (.sipush 355, 3) := by decide +kernel
theorem d_HC_lengthAt_72 : decode c_HC_lengthAt 72 = .ok (.if_icmp .eq 10, 3) := by decide +kernel
theorem d_HC_lengthAt_75 : decode c_HC_lengthAt 75 = .ok (.iload_n 2, 1) := by decide +kernel
theorem d_HC_lengthAt_76 : decode c_HC_lengthAt 76 = .ok (.sipush 385, 3) := by decide +kernel
theorem d_HC_lengthAt_79 : decode c_HC_lengthAt 79 = .ok (.if_icmp .ne 8, 3) := by decide +kernel
theorem d_HC_lengthAt_82 : decode c_HC_lengthAt 82 = .ok (.bipush 30, 2) := by decide +kernel
theorem d_HC_lengthAt_84 : decode c_HC_lengthAt 84 = .ok (.goto 5, 3) := by decide +kernel
theorem d_HC_lengthAt_87 : decode c_HC_lengthAt 87 = .ok (.bipush 29, 2) := by decide +kernel
theorem d_HC_lengthAt_89 : decode c_HC_lengthAt 89 = .ok (.ireturn, 1) := by decide +kernel
theorem d_HC_lengthAt_90 : decode c_HC_lengthAt 90 = .ok (.iload_n 2, 1) := by decide +kernel
theorem d_HC_lengthAt_91 : decode c_HC_lengthAt 91 = .ok (.sipush 353, 3) := by decide +kernel
theorem d_HC_lengthAt_94 : decode c_HC_lengthAt 94 = .ok (.if_icmp .eq 10, 3) := by decide +kernel
theorem d_HC_lengthAt_97 : decode c_HC_lengthAt 97 = .ok (.iload_n 2, 1) := by decide +kernel
theorem d_HC_lengthAt_98 : decode c_HC_lengthAt 98 = .ok (.sipush 383, 3) := by decide +kernel
theorem d_HC_lengthAt_101 : decode c_HC_lengthAt 101 = .ok (.if_icmp .ne 8, 3) := by decide +kernel
theorem d_HC_lengthAt_104 : decode c_HC_lengthAt 104 = .ok (.bipush 29, 2) := by decide +kernel
theorem d_HC_lengthAt_106 : decode c_HC_lengthAt 106 = .ok (.goto 5, 3) := by decide +kernel
theorem d_HC_lengthAt_109 : decode c_HC_lengthAt 109 = .ok (.bipush 30, 2) := by decide +kernel
theorem d_HC_lengthAt_111 : decode c_HC_lengthAt 111 = .ok (.ireturn, 1) := by decide +kernel
theorem d_HC_lengthAt_112 : decode c_HC_lengthAt 112 = .ok (.iload_n 2, 1) := by decide +kernel
theorem d_HC_lengthAt_113 : decode c_HC_lengthAt 113 = .ok (.invokestatic 48, 3) := by decide +kernel
theorem d_HC_lengthAt_116 : decode c_HC_lengthAt 116 = .ok (.ifCond .eq 8, 3) := by decide +kernel
theorem d_HC_lengthAt_119 : decode c_HC_lengthAt 119 = .ok (.bipush 30, 2) := by decide +kernel
theorem d_HC_lengthAt_121 : decode c_HC_lengthAt 121 = .ok (.goto 5, 3) := by decide +kernel
theorem d_HC_lengthAt_124 : decode c_HC_lengthAt 124 = .ok (.bipush 29, 2) := by decide +kernel
theorem d_HC_lengthAt_126 : decode c_HC_lengthAt 126 = .ok (.ireturn, 1) := by decide +kernel
theorem d_HC_lengthAt_127 : decode c_HC_lengthAt 127 = .ok (.bipush 29, 2) := by decide +kernel
theorem d_HC_lengthAt_129 : decode c_HC_lengthAt 129 = .ok (.ireturn, 1) := by decide +kernel
theorem d_HC_lengthAt_130 : decode c_HC_lengthAt 130 = .ok (.bipush 30, 2) := by decide +kernel
theorem d_HC_lengthAt_132 : decode c_HC_lengthAt 132 = .ok (.ireturn, 1) := by decide +kernel
theorem d_HC_monthAt_0 : decode c_HC_monthAt 0 = .ok (.iload_n 1, 1) := by decide +kernel
theorem d_HC_monthAt_1 : decode c_HC_monthAt 1 = .ok (.bipush 6, 2) := by decide +kernel
theorem d_HC_monthAt_3 : decode c_HC_monthAt 3 = .ok (.if_icmp .ge 8, 3) := by decide +kernel
theorem d_HC_monthAt_6 : decode c_HC_monthAt 6 = .ok (.iload_n 1, 1) := by decide +kernel
theorem d_HC_monthAt_7 : decode c_HC_monthAt 7 = .ok (.bipush 7, 2) := by decide +kernel
theorem d_HC_monthAt_9 : decode c_HC_monthAt 9 = .ok (.iadd, 1) := by decide +kernel
theorem d_HC_monthAt_10 : decode c_HC_monthAt 10 = .ok (.ireturn, 1) := by decide +kernel
theorem d_HC_monthAt_11 : decode c_HC_monthAt 11 = .ok (.iload_n 2, 1) := by decide +kernel
theorem d_HC_monthAt_12 : decode c_HC_monthAt 12 = .ok (.invokestatic 48, 3) := by decide +kernel
theorem d_HC_monthAt_15 : decode c_HC_monthAt 15 = .ok (.ifCond .ne 7, 3) := by decide +kernel
theorem d_HC_monthAt_18 : decode c_HC_monthAt 18 = .ok (.iload_n 1, 1) := by decide +kernel
theorem d_HC_monthAt_19 : decode c_HC_monthAt 19 = .ok (.iconst 5, 1) := by decide +kernel
theorem d_HC_monthAt_20 : decode c_HC_monthAt 20 = .ok (.isub, 1) := by decide +kernel
theorem d_HC_monthAt_21 : decode c_HC_monthAt 21 = .ok (.ireturn, 1) := by decide +kernel
theorem d_HC_monthAt_22 : decode c_HC_monthAt 22 = .ok (.iload_n 1, 1) := by decide +kernel
theorem d_HC_monthAt_23 : decode c_HC_monthAt 23 = .ok (.bipush 6, 2) := by decide +kernel
theorem d_HC_monthAt_25 : decode c_HC_monthAt 25 = .ok (.if_icmp .ne 8, 3) := by decide +kernel
theorem d_HC_monthAt_28 : decode c_HC_monthAt 28 = .ok (.bipush 13, 2) := by decide +kernel
theorem d_HC_monthAt_30 : decode c_HC_monthAt 30 = .ok (.goto 7, 3) := by decide +kernel
theorem d_HC_monthAt_33 : decode c_HC_monthAt 33 = .ok (.iload_n 1, 1) := by decide +kernel
theorem d_HC_monthAt_34 : decode c_HC_monthAt 34 = .ok (.bipush 6, 2) := by decide +kernel
theorem d_HC_monthAt_36 : decode c_HC_monthAt 36 = .ok (.isub, 1) := by decide +kernel
theorem d_HC_monthAt_37 : decode c_HC_monthAt 37 = .ok (.ireturn, 1) := by decide +kernel
theorem d_HC_monthsIn_0 : decode c_HC_monthsIn 0 = .ok (.iload_n 1, 1) := by decide +kernel
theorem d_HC_monthsIn_1 : decode c_HC_monthsIn 1 = .ok (.invokestatic 48, 3) := by decide +kernel
theorem d_HC_monthsIn_4 : decode c_HC_monthsIn 4 = .ok (.ifCond .eq 8, 3) := by decide +kernel
theorem d_HC_monthsIn_7 : decode c_HC_monthsIn 7 = .ok (.bipush 13, 2) := by decide +kernel
theorem d_HC_monthsIn_9 : decode c_HC_monthsIn 9 = .ok (.goto 5, 3) := by decide +kernel
theorem d_HC_monthsIn_12 : decode c_HC_monthsIn 12 = .ok (.bipush 12, 2) := by decide +kernel
theorem d_HC_monthsIn_14 : decode c_HC_monthsIn 14 = .ok (.ireturn, 1) := by decide +kernel
theorem d_HC_yearStart_0 : decode c_HC_yearStart 0 = .ok (.lload_n 1, 1) := by decide +kernel
theorem d_HC_yearStart_1 : decode c_HC_yearStart 1 = .ok (.invokestatic 17, 3) := by decide +kernel
theorem d_HC_yearStart_4 : decode c_HC_yearStart 4 = .ok (.lstore_n 3, 1) := by decide +kernel
theorem d_HC_yearStart_5 : decode c_HC_yearStart 5 = .ok (.lconst 0, 1) := by decide +kernel
theorem d_HC_yearStart_6 : decode c_HC_yearStart 6 = .ok (.lstore 5, 2) := by decide +kernel
theorem d_HC_yearStart_8 : decode c_HC_yearStart 8 = .ok (.lload_n 1, 1) := by decide +kernel
theorem d_HC_yearStart_9 : decode c_HC_yearStart 9 = .ok (.lconst 1, 1) := by decide +kernel
theorem d_HC_yearStart_10 : decode c_HC_yearStart 10 = .ok (.ladd, 1) := by decide +kernel
theorem d_HC_yearStart_11 : decode c_HC_yearStart 11 = .ok (.invokestatic 17, 3) := by decide +kernel
theorem d_HC_yearStart_14 : decode c_HC_yearStart 14 = .ok (.lload_n 3, 1) := by decide +kernel
theorem d_HC_yearStart_15 : decode c_HC_yearStart 15 = .ok (.lsub, 1) := by decide +kernel
theorem d_HC_yearStart_16 : decode c_HC_yearStart 16 = .ok (.ldc2_w 23, 3) := by decide +kernel
theorem d_HC_yearStart_19 : decode c_HC_yearStart 19 = .ok (.lcmp, 1) := by decide +kernel
theorem d_HC_yearStart_20 : decode c_HC_yearStart 20 = .ok (.ifCond .ne 11, 3) := by decide +kernel
theorem d_HC_yearStart_23 : decode c_HC_yearStart 23 = .ok (.ldc2_w 25, 3) := by decide +kernel
theorem d_HC_yearStart_26 : decode c_HC_yearStart 26 = .ok (.lstore 5, 2) := by decide +kernel
theorem d_HC_yearStart_28 : decode c_HC_yearStart 28 = .ok (.goto 21, 3) := by decide +kernel
theorem d_HC_yearStart_31 : decode c_HC_yearStart 31 = .ok (.lload_n 3, 1) := by decide +kernel
theorem d_HC_yearStart_32 : decode c_HC_yearStart 32 = .ok (.lload_n 1, 1) := by decide +kernel
theorem d_HC_yearStart_33 : decode c_HC_yearStart 33 = .ok (.lconst 1, 1) := by decide +kernel
theorem d_HC_yearStart_34 : decode c_HC_yearStart 34 = .ok (.lsub, 1) := by decide +kernel
theorem d_HC_yearStart_35 : decode c_HC_yearStart 35 = .ok (.invokestatic 17, 3) := by decide +kernel
theorem d_HC_yearStart_38 : decode c_HC_yearStart 38 = .ok (.lsub, 1) := by decide +kernel
theorem d_HC_yearStart_39 : decode c_HC_yearStart 39 = .ok (.ldc2_w 27, 3) := by decide +kernel
theorem d_HC_yearStart_42 : decode c_HC_yearStart 42 = .ok (.lcmp, 1) := by decide +kernel
theorem d_HC_yearStart_43 : decode c_HC_yearStart 43 = .ok (.ifCond .ne 6, 3) := by decide +kernel
theorem d_HC_yearStart_46 : decode c_HC_yearStart 46 = .ok (.lconst 1, 1) := by decide +kernel
theorem d_HC_yearStart_47 : decode c_HC_yearStart 47 = .ok (.lstore 5, 2) := by decide +kernel
theorem d_HC_yearStart_49 : decode c_HC_yearStart 49 = .ok (.ldc2_w 29, 3) := by decide +kernel
theorem d_HC_yearStart_52 : decode c_HC_yearStart 52 = .ok (.lload_n 3, 1) := by decide +kernel
theorem d_HC_yearStart_53 : decode c_HC_yearStart 53 = .ok (.ladd, 1) := by decide +kernel
theorem d_HC_yearStart_54 : decode c_HC_yearStart 54 = .ok (.lload 5, 2) := by decide +kernel
theorem d_HC_yearStart_56 : decode c_HC_yearStart 56 = .ok (.ladd, 1) := by decide +kernel
theorem d_HC_yearStart_57 : decode c_HC_yearStart 57 = .ok (.lreturn, 1) := by decide +kernel
theorem d_LR_init_0 : decode c_LR_init 0 = .ok (.aload_n 0, 1) := by decide +kernel
theorem d_LR_init_1 : decode c_LR_init 1 = .ok (.invokespecial 1, 3) := by decide +kernel
theorem d_LR_init_4 : decode c_LR_init 4 = .ok (.return_, 1) := by decide +kernel
theorem d_LC_init_0 : decode c_LC_init 0 = .ok (.aload_n 0, 1) := by decide +kernel
theorem d_LC_init_1 : decode c_LC_init 1 = .ok (.invokespecial 3, 3) := by decide +kernel
theorem d_LC_init_4 : decode c_LC_init 4 = .ok (.return_, 1) := by decide +kernel
theorem d_LC_dateOf_0 : decode c_LC_dateOf 0 = .ok (.ldc2_w 9, 3) := by decide +kernel
theorem d_LC_dateOf_3 : decode c_LC_dateOf 3 = .ok (.lload_n 1, 1) := by decide +kernel
theorem d_LC_dateOf_4 : decode c_LC_dateOf 4 = .ok (.ldc2_w 13, 3) := by decide +kernel
theorem d_LC_dateOf_7 : decode c_LC_dateOf 7 = .ok (.ladd, 1) := by decide +kernel
theorem d_LC_dateOf_8 : decode c_LC_dateOf 8 = .ok (.lmul, 1) := by decide +kernel
theorem d_LC_dateOf_9 : decode c_LC_dateOf 9 = .ok (.lconst 1, 1) := by decide +kernel
theorem d_LC_dateOf_10 : decode c_LC_dateOf 10 = .ok (.ladd, 1) := by decide +kernel
theorem d_LC_dateOf_11 : decode c_LC_dateOf 11 = .ok (.lstore_n 3, 1) := by decide +kernel
theorem d_LC_dateOf_12 : decode c_LC_dateOf 12 = .ok (.lload_n 3, 1) := by decide +kernel
theorem d_LC_dateOf_13 : decode c_LC_dateOf 13 = .ok (.ldc2_w 15, 3) := by decide +kernel
theorem d_LC_dateOf_16 : decode c_LC_dateOf 16 = .ok (.lmul, 1) := by decide +kernel
theorem d_LC_dateOf_17 : decode c_LC_dateOf 17 = .ok (.ldc2_w 17, 3) := by decide +kernel
theorem d_LC_dateOf_20 : decode c_LC_dateOf 20 = .ok (.invokestatic 19, 3) := by decide +kernel
theorem d_LC_dateOf_23 : decode c_LC_dateOf 23 = .ok (.ldc2_w 25, 3) := by decide +kernel
theorem d_LC_dateOf_26 : decode c_LC_dateOf 26 = .ok (.lmul, 1) := by decide +kernel
theorem d_LC_dateOf_27 : decode c_LC_dateOf 27 = .ok (.lstore 5, 2) := by decide +kernel
theorem d_LC_dateOf_29 : decode c_LC_dateOf 29 = .ok (.lload 5, 2) := by decide +kernel
theorem d_LC_dateOf_31 : decode c_LC_dateOf 31 = .ok (.ldc2_w 15, 3) := by decide +kernel
theorem d_LC_dateOf_34 : decode c_LC_dateOf 34 = .ok (.invokestatic 27, 3) := by decide +kernel
theorem d_LC_dateOf_37 : decode c_LC_dateOf 37 = .ok (.lstore 7, 2) := by decide +kernel
theorem d_LC_dateOf_39 : decode c_LC_dateOf 39 = .ok (.lload 5, 2) := by decide +kernel
theorem d_LC_dateOf_41 : decode c_LC_dateOf 41 = .ok (.ldc2_w 15, 3) := by decide +kernel
theorem d_LC_dateOf_44 : decode c_LC_dateOf 44 = .ok (.invokestatic 30, 3) := by decide +kernel
theorem d_LC_dateOf_47 : decode c_LC_dateOf 47 = .ok (.lstore 9, 2) := by decide +kernel
theorem d_LC_dateOf_49 : decode c_LC_dateOf 49 = .ok (.lload 9, 2) := by decide +kernel
theorem d_LC_dateOf_51 : decode c_LC_dateOf 51 = .ok (.lconst 1, 1) := by decide +kernel
theorem d_LC_dateOf_52 : decode c_LC_dateOf 52 = .ok (.lcmp, 1) := by decide +kernel
theorem d_LC_dateOf_53 : decode c_LC_dateOf 53 = .ok (.ifCond .lt 16, 3) := by decide +kernel
theorem d_LC_dateOf_56 : decode c_LC_dateOf 56 = .ok (.lload 9, 2) := by decide +kernel
theorem d_LC_dateOf_58 : decode c_LC_dateOf 58 = .ok (.ldc2_w 33, 3) := by decide +kernel
theorem d_LC_dateOf_61 : decode c_LC_dateOf 61 = .ok (.lcmp, 1) := by decide +kernel
theorem d_LC_dateOf_62 : decode c_LC_dateOf 62 = .ok (.ifCond .gt 7, 3) := by decide +kernel
theorem d_LC_dateOf_65 : decode c_LC_dateOf 65 = .ok (.iconst 1, 1) := by decide +kernel
theorem d_LC_dateOf_66 : decode c_LC_dateOf 66 = .ok (.goto 4, 3) := by decide +kernel
theorem d_LC_dateOf_69 : decode c_LC_dateOf 69 = .ok (.iconst 0, 1) := by decide +kernel
theorem d_LC_dateOf_70 : decode c_LC_dateOf 70 = .ok (.istore 11, 2) := by decide +kernel
theorem d_LC_dateOf_72 : decode c_LC_dateOf 72 = .ok (.lload 7, 2) := by decide +kernel
theorem d_LC_dateOf_74 : decode c_LC_dateOf 74 = .ok (.ldc2_w 35, 3) := by decide +kernel
theorem d_LC_dateOf_77 : decode c_LC_dateOf 77 = .ok (.invokestatic 30, 3) := by decide +kernel
theorem d_LC_dateOf_80 : decode c_LC_dateOf 80 = .ok (.lconst 1, 1) := by decide +kernel
theorem d_LC_dateOf_81 : decode c_LC_dateOf 81 = .ok (.ladd, 1) := by decide +kernel
theorem d_LC_dateOf_82 : decode c_LC_dateOf 82 = .ok (.lstore 12, 2) := by decide +kernel
theorem d_LC_dateOf_84 : decode c_LC_dateOf 84 = .ok (.lload_n 3, 1) := by decide +kernel
theorem d_LC_dateOf_85 : decode c_LC_dateOf 85 = .ok (.ldc2_w 37, 3) := by decide +kernel
theorem d_LC_dateOf_88 : decode c_LC_dateOf 88 = .ok (.lmul, 1) := by decide +kernel
theorem d_LC_dateOf_89 : decode c_LC_dateOf 89 = .ok (.ldc2_w 17, 3) := by decide +kernel
theorem d_LC_dateOf_92 : decode c_LC_dateOf 92 = .ok (.invokestatic 19, 3) := by decide +kernel
theorem d_LC_dateOf_95 : decode c_LC_dateOf 95 = .ok (.ldc2_w 39, 3) := by decide +kernel
theorem d_LC_dateOf_98 : decode c_LC_dateOf 98 = .ok (.invokestatic 30, 3) := by decide +kernel
theorem d_LC_dateOf_101 : decode c_LC_dateOf 101 = .ok (.lconst 1, 1) := by decide +kernel
theorem d_LC_dateOf_102 : decode c_LC_dateOf 102 = .ok (.ladd, 1) := by decide +kernel
theorem d_LC_dateOf_103 : decode c_LC_dateOf 103 = .ok (.lstore 14, 2) := by decide +kernel
theorem d_LC_dateOf_105 : decode c_LC_dateOf 105 = .ok (.lload 7, 2) := by decide +kernel
theorem d_LC_dateOf_107 : decode c_LC_dateOf 107 = .ok (.ldc2_w 35, 3) := by decide +kernel
theorem d_LC_dateOf_110 : decode c_LC_dateOf 110 = .ok (.invokestatic 19, 3) := by decide +kernel
theorem d_LC_dateOf_113 : decode c_LC_dateOf 113 = .ok (.iload 11, 2) := by decide +kernel
theorem d_LC_dateOf_115 : decode c_LC_dateOf 115 = .ok (.ifCond .eq 12, 3) := by decide +kernel
theorem d_LC_dateOf_118 : decode c_LC_dateOf 118 = .ok (.lload 12, 2) := by decide +kernel
theorem d_LC_dateOf_120 : decode c_LC_dateOf 120 = .ok (.ldc2_w 41, 3) := by decide +kernel
theorem d_LC_dateOf_123 : decode c_LC_dateOf 123 = .ok (.ladd, 1) := by decide +kernel
theorem d_LC_dateOf_124 : decode c_LC_dateOf 124 = .ok (.goto 5, 3) := by decide +kernel
theorem d_LC_dateOf_127 : decode c_LC_dateOf 127 = .ok (.lload 12, 2) := by decide +kernel
theorem d_LC_dateOf_129 : decode c_LC_dateOf 129 = .ok (.lload 14, 2) := by decide +kernel
theorem d_LC_dateOf_131 : decode c_LC_dateOf 131 = .ok (.invokestatic 43, 3) := by decide +kernel
theorem d_LC_dateOf_134 : decode c_LC_dateOf 134 = .ok (.lreturn, 1) := by decide +kernel
theorem d_LC_dayOf_0 : decode c_LC_dayOf 0 = .ok (.iload_n 3, 1) := by decide +kernel
theorem d_LC_dayOf_1 : decode c_LC_dayOf 1 = .ok (.bipush 100, 2) := by decide +kernel
theorem d_LC_dayOf_3 : decode c_LC_dayOf 3 = .ok (.if_icmp .le 7, 3) := by decide +kernel
theorem d_LC_dayOf_6 : decode c_LC_dayOf 6 = .ok (.iconst 1, 1) := by decide +kernel
theorem d_LC_dayOf_7 : decode c_LC_dayOf 7 = .ok (.goto 4, 3) := by decide +kernel
theorem d_LC_dayOf_10 : decode c_LC_dayOf 10 = .ok (.iconst 0, 1) := by decide +kernel
theorem d_LC_dayOf_11 : decode c_LC_dayOf 11 = .ok (.istore 5, 2) := by decide +kernel
theorem d_LC_dayOf_13 : decode c_LC_dayOf 13 = .ok (.iload 5, 2) := by decide +kernel
theorem d_LC_dayOf_15 : decode c_LC_dayOf 15 = .ok (.ifCond .eq 10, 3) := by decide +kernel
theorem d_LC_dayOf_18 : decode c_LC_dayOf 18 = .ok (.iload_n 3, 1) := by decide +kernel
theorem d_LC_dayOf_19 : decode c_LC_dayOf 19 = .ok (.bipush 100, 2) := by decide +kernel
theorem d_LC_dayOf_21 : decode c_LC_dayOf 21 = .ok (.isub, 1) := by decide +kernel
theorem d_LC_dayOf_22 : decode c_LC_dayOf 22 = .ok (.goto 4, 3) := by decide +kernel
theorem d_LC_dayOf_25 : decode c_LC_dayOf 25 = .ok (.iload_n 3, 1) := by decide +kernel
theorem d_LC_dayOf_26 : decode c_LC_dayOf 26 = .ok (.istore 6, 2) := by decide +kernel
theorem d_LC_dayOf_28 : decode c_LC_dayOf 28 = .ok (.iload 6, 2) := by decide +kernel
theorem d_LC_dayOf_30 : decode c_LC_dayOf 30 = .ok (.iconst 1, 1) := by decide +kernel
theorem d_LC_dayOf_31 : decode c_LC_dayOf 31 = .ok (.if_icmp .lt 23, 3) := by decide +kernel
theorem d_LC_dayOf_34 : decode c_LC_dayOf 34 = .ok (.iload 6, 2) := by decide +kernel
theorem d_LC_dayOf_36 : decode c_LC_dayOf 36 = .ok (.bipush 12, 2) := by decide +kernel
theorem d_LC_dayOf_38 : decode c_LC_dayOf 38 = .ok (.if_icmp .gt 16, 3) := by decide +kernel
theorem d_LC_dayOf_41 : decode c_LC_dayOf 41 = .ok (.iload 4, 2) := by decide +kernel
theorem d_LC_dayOf_43 : decode c_LC_dayOf 43 = .ok (.iconst 1, 1) := by decide +kernel
theorem d_LC_dayOf_44 : decode c_LC_dayOf 44 = .ok (.if_icmp .lt 10, 3) := by decide +kernel
theorem d_LC_dayOf_47 : decode c_LC_dayOf 47 = .ok (.iload 4, 2) := by decide +kernel
theorem d_LC_dayOf_49 : decode c_LC_dayOf 49 = .ok (.bipush 30, 2) := by decide +kernel
theorem d_LC_dayOf_51 : decode c_LC_dayOf 51 = .ok (.if_icmp .le 7, 3) := by decide +kernel
theorem d_LC_dayOf_54 : decode c_LC_dayOf 54 = .ok (.ldc2_w 47, 3) := by decide +kernel
theorem d_LC_dayOf_57 : decode c_LC_dayOf 57 = .ok (.lreturn, 1) := by decide +kernel
theorem d_LC_dayOf_58 : decode c_LC_dayOf 58 = .ok (.ldc2_w 35, 3) := by decide +kernel
theorem d_LC_dayOf_61 : decode c_LC_dayOf 61 = .ok (.lload_n 1, 1) := by decide +kernel
theorem d_LC_dayOf_62 : decode c_LC_dayOf 62 = .ok (.lmul, 1) := by decide +kernel
theorem d_LC_dayOf_63 : decode c_LC_dayOf 63 = .ok (.iload 6, 2) := by decide +kernel
theorem d_LC_dayOf_65 : decode c_LC_dayOf 65 = .ok (.i2l, 1) := by decide +kernel
theorem d_LC_dayOf_66 : decode c_LC_dayOf 66 = .ok (.ladd, 1) := by decide +kernel
theorem d_LC_dayOf_67 : decode c_LC_dayOf 67 = .ok (.lconst 1, 1) := by decide +kernel
theorem d_LC_dayOf_68 : decode c_LC_dayOf 68 = .ok (.lsub, 1) := by decide +kernel
theorem d_LC_dayOf_69 : decode c_LC_dayOf 69 = .ok (.ldc2_w 15, 3) := by decide +kernel
theorem d_LC_dayOf_72 : decode c_LC_dayOf 72 = .ok (.lmul, 1) := by decide +kernel
theorem d_LC_dayOf_73 : decode c_LC_dayOf 73 = .ok (.ldc2_w 25, 3) := by decide +kernel
theorem d_LC_dayOf_76 : decode c_LC_dayOf 76 = .ok (.invokestatic 19, 3) := by decide +kernel
theorem d_LC_dayOf_79 : decode c_LC_dayOf 79 = .ok (.lstore 7, 2) := by decide +kernel
theorem d_LC_dayOf_81 : decode c_LC_dayOf 81 = .ok (.ldc2_w 39, 3) := by decide +kernel
theorem d_LC_dayOf_84 : decode c_LC_dayOf 84 = .ok (.iload 5, 2) := by decide +kernel
theorem d_LC_dayOf_86 : decode c_LC_dayOf 86 = .ok (.ifCond .eq 10, 3) := by decide +kernel
theorem d_LC_dayOf_89 : decode c_LC_dayOf 89 = .ok (.lload 7, 2) := by decide +kernel
theorem d_LC_dayOf_91 : decode c_LC_dayOf 91 = .ok (.lconst 1, 1) := by decide +kernel
theorem d_LC_dayOf_92 : decode c_LC_dayOf 92 = .ok (.lsub, 1) := by decide +kernel
theorem d_LC_dayOf_93 : decode c_LC_dayOf 93 = .ok (.goto 5, 3) := by decide +kernel
theorem d_LC_dayOf_96 : decode c_LC_dayOf 96 = .ok (.lload 7, 2) := by decide +kernel
theorem d_LC_dayOf_98 : decode c_LC_dayOf 98 = .ok (.lmul, 1) := by decide +kernel
theorem d_LC_dayOf_99 : decode c_LC_dayOf 99 = .ok (.iload 4, 2) := by decide +kernel
theorem d_LC_dayOf_101 : decode c_LC_dayOf 101 = .ok (.i2l, 1) := by decide +kernel
theorem d_LC_dayOf_102 : decode c_LC_dayOf 102 = .ok (.ladd, 1) := by decide +kernel
theorem d_LC_dayOf_103 : decode c_LC_dayOf 103 = .ok (.lconst 1, 1) := by decide +kernel
theorem d_LC_dayOf_104 : decode c_LC_dayOf 104 = .ok (.lsub, 1) := by decide +kernel
theorem d_LC_dayOf_105 : decode c_LC_dayOf 105 = .ok (.lstore 9, 2) := by decide +kernel
theorem d_LC_dayOf_107 : decode c_LC_dayOf 107 = .ok (.lload 9, 2) := by decide +kernel
theorem d_LC_dayOf_109 : decode c_LC_dayOf 109 = .ok (.ldc2_w 17, 3) := by decide +kernel
theorem d_LC_dayOf_112 : decode c_LC_dayOf 112 = .ok (.lmul, 1) := by decide +kernel
theorem d_LC_dayOf_113 : decode c_LC_dayOf 113 = .ok (.ldc2_w 37, 3) := by decide +kernel
theorem d_LC_dayOf_116 : decode c_LC_dayOf 116 = .ok (.invokestatic 27, 3) := by decide +kernel
theorem d_LC_dayOf_119 : decode c_LC_dayOf 119 = .ok (.lstore 11, 2) := by decide +kernel
theorem d_LC_dayOf_121 : decode c_LC_dayOf 121 = .ok (.lload 11, 2) := by decide +kernel
theorem d_LC_dayOf_123 : decode c_LC_dayOf 123 = .ok (.lconst 1, 1) := by decide +kernel
theorem d_LC_dayOf_124 : decode c_LC_dayOf 124 = .ok (.lsub, 1) := by decide +kernel
theorem d_LC_dayOf_125 : decode c_LC_dayOf 125 = .ok (.ldc2_w 9, 3) := by decide +kernel
theorem d_LC_dayOf_128 : decode c_LC_dayOf 128 = .ok (.invokestatic 27, 3) := by decide +kernel
theorem d_LC_dayOf_131 : decode c_LC_dayOf 131 = .ok (.ldc2_w 13, 3) := by decide +kernel
theorem d_LC_dayOf_134 : decode c_LC_dayOf 134 = .ok (.lsub, 1) := by decide +kernel
theorem d_LC_dayOf_135 : decode c_LC_dayOf 135 = .ok (.lstore 13, 2) := by decide +kernel
theorem d_LC_dayOf_137 : decode c_LC_dayOf 137 = .ok (.aload_n 0, 1) := by decide +kernel
theorem d_LC_dayOf_138 : decode c_LC_dayOf 138 = .ok (.lload 13, 2) := by decide +kernel
theorem d_LC_dayOf_140 : decode c_LC_dayOf 140 = .ok (.invokevirtual 49, 3) := by decide +kernel
theorem d_LC_dayOf_143 : decode c_LC_dayOf 143 = .ok (.lload_n 1, 1) := by decide +kernel
theorem d_LC_dayOf_144 : decode c_LC_dayOf 144 = .ok (.iload_n 3, 1) := by decide +kernel
theorem d_LC_dayOf_145 : decode c_LC_dayOf 145 = .ok (.i2l, 1) := by decide +kernel
theorem d_LC_dayOf_146 : decode c_LC_dayOf 146 = .ok (.iload 4, 2) := by decide +kernel
theorem d_LC_dayOf_148 : decode c_LC_dayOf 148 = .ok (.i2l, 1) := by decide +kernel
theorem d_LC_dayOf_149 : decode c_LC_dayOf 149 = .ok (.invokestatic 43, 3) := by decide +kernel
theorem d_LC_dayOf_152 : decode c_LC_dayOf 152 = .ok (.lcmp, 1) := by decide +kernel
theorem d_LC_dayOf_153 : decode c_LC_dayOf 153 = .ok (.ifCond .ne 8, 3) := by decide +kernel
theorem d_LC_dayOf_156 : decode c_LC_dayOf 156 = .ok (.lload 13, 2) := by decide +kernel
theorem d_LC_dayOf_158 : decode c_LC_dayOf 158 = .ok (.goto 6, 3) := by decide +kernel
theorem d_LC_dayOf_161 : decode c_LC_dayOf 161 = .ok (.ldc2_w 47, 3) := by decide +kernel
theorem d_LC_dayOf_164 : decode c_LC_dayOf 164 = .ok (.lreturn, 1) := by decide +kernel
theorem d_MC_init_0 : decode c_MC_init 0 = .ok (.aload_n 0, 1) := by decide +kernel
theorem d_MC_init_1 : decode c_MC_init 1 = .ok (.invokespecial 1, 3) := by decide +kernel
theorem d_MC_init_4 : decode c_MC_init 4 = .ok (.aload_n 0, 1) := by decide +kernel
theorem d_MC_init_5 : decode c_MC_init 5 = .ok (.aload_n 1, 1) := by decide +kernel
theorem d_MC_init_6 : decode c_MC_init 6 = .ok (.putfield 7, 3) := by decide +kernel
theorem d_MC_init_9 : decode c_MC_init 9 = .ok (.aload_n 0, 1) := by decide +kernel
theorem d_MC_init_10 : decode c_MC_init 10 = .ok (.aload_n 2, 1) := by decide +kernel
theorem d_MC_init_11 : decode c_MC_init 11 = .ok (.putfield 13, 3) := by decide +kernel
theorem d_MC_init_14 : decode c_MC_init 14 = .ok (.aload_n 0, 1) := by decide +kernel
theorem d_MC_init_15 : decode c_MC_init 15 = .ok (.iload_n 3, 1) := by decide +kernel
theorem d_MC_init_16 : decode c_MC_init 16 = .ok (.putfield 16, 3) := by decide +kernel
theorem d_MC_init_19 : decode c_MC_init 19 = .ok (.aload_n 0, 1) := by decide +kernel
theorem d_MC_init_20 : decode c_MC_init 20 = .ok (.lload 4, 2) := by decide +kernel
theorem d_MC_init_22 : decode c_MC_init 22 = .ok (.putfield 20, 3) := by decide +kernel
theorem d_MC_init_25 : decode c_MC_init 25 = .ok (.aload_n 0, 1) := by decide +kernel
theorem d_MC_init_26 : decode c_MC_init 26 = .ok (.iload 6, 2) := by decide +kernel
theorem d_MC_init_28 : decode c_MC_init 28 = .ok (.putfield 24, 3) := by decide +kernel
theorem d_MC_init_31 : decode c_MC_init 31 = .ok (.aload_n 0, 1) := by decide +kernel
theorem d_MC_init_32 : decode c_MC_init 32 = .ok (.aload 7, 2) := by decide +kernel
theorem d_MC_init_34 : decode c_MC_init 34 = .ok (.putfield 28, 3) := by decide +kernel
theorem d_MC_init_37 : decode c_MC_init 37 = .ok (.iconst 0, 1) := by decide +kernel
theorem d_MC_init_38 : decode c_MC_init 38 = .ok (.istore 8, 2) := by decide +kernel
theorem d_MC_init_40 : decode c_MC_init 40 = .ok (.aload_n 2, 1) := by decide +kernel
theorem d_MC_init_41 : decode c_MC_init 41 = .ok (.astore 9, 2) := by decide +kernel
theorem d_MC_init_43 : decode c_MC_init 43 = .ok (.aload 9, 2) := by decide +kernel
theorem d_MC_init_45 : decode c_MC_init 45 = .ok (.arraylength, 1) := by decide +kernel
theorem d_MC_init_46 : decode c_MC_init 46 = .ok (.istore 10, 2) := by decide +kernel
theorem d_MC_init_48 : decode c_MC_init 48 = .ok (.iconst 0, 1) := by decide +kernel
theorem d_MC_init_49 : decode c_MC_init 49 = .ok (.istore 11, 2) := by decide +kernel
theorem d_MC_init_51 : decode c_MC_init 51 = .ok (.iload 11, 2) := by decide +kernel
theorem d_MC_init_53 : decode c_MC_init 53 = .ok (.iload 10, 2) := by decide +kernel
theorem d_MC_init_55 : decode c_MC_init 55 = .ok (.if_icmp .ge 23, 3) := by decide +kernel
theorem d_MC_init_58 : decode c_MC_init 58 = .ok (.aload 9, 2) := by decide +kernel
theorem d_MC_init_60 : decode c_MC_init 60 = .ok (.iload 11, 2) := by decide +kernel
theorem d_MC_init_62 : decode c_MC_init 62 = .ok (.iaload, 1) := by decide +kernel
theorem d_MC_init_63 : decode c_MC_init 63 = .ok (.istore 12, 2) := by decide +kernel
theorem d_MC_init_65 : decode c_MC_init 65 = .ok (.iload 8, 2) := by decide +kernel
theorem d_MC_init_67 : decode c_MC_init 67 = .ok (.iload 12, 2) := by decide +kernel
theorem d_MC_init_69 : decode c_MC_init 69 = .ok (.iadd, 1) := by decide +kernel
theorem d_MC_init_70 : decode c_MC_init 70 = .ok (.istore 8, 2) := by decide +kernel
theorem d_MC_init_72 : decode c_MC_init 72 = .ok (.iinc 11 1, 3) := by decide +kernel
theorem d_MC_init_75 : decode c_MC_init 75 = .ok (.goto (-24), 3) := by decide +kernel
theorem d_MC_init_78 : decode c_MC_init 78 = .ok (.aload_n 0, 1) := by decide +kernel
theorem d_MC_init_79 : decode c_MC_init 79 = .ok (.iload 8, 2) := by decide +kernel
theorem d_MC_init_81 : decode c_MC_init 81 = .ok (.putfield 32, 3) := by decide +kernel
theorem d_MC_init_84 : decode c_MC_init 84 = .ok (.return_, 1) := by decide +kernel
theorem d_MC_countOf_0 : decode c_MC_countOf 0 = .ok (.aload_n 0, 1) := by decide +kernel
theorem d_MC_countOf_1 : decode c_MC_countOf 1 = .ok (.getfield 24, 3) := by decide +kernel
theorem d_MC_countOf_4 : decode c_MC_countOf 4 = .ok (.ifCond .ne 9, 3) := by decide +kernel
theorem d_MC_countOf_7 : decode c_MC_countOf 7 = .ok (.lload_n 1, 1) := by decide +kernel
theorem d_MC_countOf_8 : decode c_MC_countOf 8 = .ok (.lconst 0, 1) := by decide +kernel
theorem d_MC_countOf_9 : decode c_MC_countOf 9 = .ok (.lcmp, 1) := by decide +kernel
theorem d_MC_countOf_10 : decode c_MC_countOf 10 = .ok (.ifCond .le 7, 3) := by decide +kernel
theorem d_MC_countOf_13 : decode c_MC_countOf 13 = .ok (.lload_n 1, 1) := by decide +kernel
theorem d_MC_countOf_14 : decode c_MC_countOf 14 = .ok (.goto 6, 3) := by decide +kernel
theorem d_MC_countOf_17 : decode c_MC_countOf 17 = .ok (.lload_n 1, 1) := by decide +kernel
theorem d_MC_countOf_18 : decode c_MC_countOf 18 = .ok (.lconst 1, 1) := by decide +kernel
theorem d_MC_countOf_19 : decode c_MC_countOf 19 = .ok (.ladd, 1) := by decide +kernel
theorem d_MC_countOf_20 : decode c_MC_countOf 20 = .ok (.lreturn, 1) := by decide +kernel
theorem d_MC_hasYear_0 : decode c_MC_hasYear 0 = .ok (.aload_n 0, 1) := by decide +kernel
theorem d_MC_hasYear_1 : decode c_MC_hasYear 1 = .ok (.getfield 24, 3) := by decide +kernel
theorem d_MC_hasYear_4 : decode c_MC_hasYear 4 = .ok (.ifCond .ne 9, 3) := by decide +kernel
theorem d_MC_hasYear_7 : decode c_MC_hasYear 7 = .ok (.lload_n 1, 1) := by decide +kernel
theorem d_MC_hasYear_8 : decode c_MC_hasYear 8 = .ok (.lconst 0, 1) := by decide +kernel
theorem d_MC_hasYear_9 : decode c_MC_hasYear 9 = .ok (.lcmp, 1) := by decide +kernel
theorem d_MC_hasYear_10 : decode c_MC_hasYear 10 = .ok (.ifCond .eq 7, 3) := by decide +kernel
theorem d_MC_hasYear_13 : decode c_MC_hasYear 13 = .ok (.iconst 1, 1) := by decide +kernel
theorem d_MC_hasYear_14 : decode c_MC_hasYear 14 = .ok (.goto 4, 3) := by decide +kernel
theorem d_MC_hasYear_17 : decode c_MC_hasYear 17 = .ok (.iconst 0, 1) := by decide +kernel
theorem d_MC_hasYear_18 : decode c_MC_hasYear 18 = .ok (.ireturn, 1) := by decide +kernel
theorem d_MC_isLeap_0 : decode c_MC_isLeap 0 = .ok (.aload_n 0, 1) := by decide +kernel
theorem d_MC_isLeap_1 : decode c_MC_isLeap 1 = .ok (.getfield 28, 3) := by decide +kernel
theorem d_MC_isLeap_4 : decode c_MC_isLeap 4 = .ok (.aload_n 0, 1) := by decide +kernel
theorem d_MC_isLeap_5 : decode c_MC_isLeap 5 = .ok (.lload_n 1, 1) := by decide +kernel
theorem d_MC_isLeap_6 : decode c_MC_isLeap 6 = .ok (.invokevirtual 35, 3) := by decide +kernel
theorem d_MC_isLeap_9 : decode c_MC_isLeap 9 = .ok (.invokevirtual 39, 3) := by decide +kernel
theorem d_MC_isLeap_12 : decode c_MC_isLeap 12 = .ok (.ireturn, 1) := by decide +kernel
theorem d_MC_lengthAt_0 : decode c_MC_lengthAt 0 = .ok (.iload_n 1, 1) := by decide +kernel
theorem d_MC_lengthAt_1 : decode c_MC_lengthAt 1 = .ok (.aload_n 0, 1) := by decide +kernel
theorem d_MC_lengthAt_2 : decode c_MC_lengthAt 2 = .ok (.getfield 16, 3) := by decide +kernel
theorem d_MC_lengthAt_5 : decode c_MC_lengthAt 5 = .ok (.if_icmp .ne 22, 3) := by decide +kernel
theorem d_MC_lengthAt_8 : decode c_MC_lengthAt 8 = .ok (.iload_n 2, 1) := by decide +kernel
theorem d_MC_lengthAt_9 : decode c_MC_lengthAt 9 = .ok (.aload_n 0, 1) := by decide +kernel
theorem d_MC_lengthAt_10 : decode c_MC_lengthAt 10 = .ok (.getfield 32, 3) := by decide +kernel
theorem d_MC_lengthAt_13 : decode c_MC_lengthAt 13 = .ok (.if_icmp .le 14, 3) := by decide +kernel
theorem d_MC_lengthAt_16 : decode c_MC_lengthAt 16 = .ok (.aload_n 0, 1) := by decide +kernel
theorem d_MC_lengthAt_17 : decode c_MC_lengthAt 17 = .ok (.getfield 13, 3) := by decide +kernel
theorem d_MC_lengthAt_20 : decode c_MC_lengthAt 20 = .ok (.iload_n 1, 1) := by decide +kernel
theorem d_MC_lengthAt_21 : decode c_MC_lengthAt 21 = .ok (.iaload, 1) := by decide +kernel
theorem d_MC_lengthAt_22 : decode c_MC_lengthAt 22 = .ok (.iconst 1, 1) := by decide +kernel
theorem d_MC_lengthAt_23 : decode c_MC_lengthAt 23 = .ok (.iadd, 1) := by decide +kernel
theorem d_MC_lengthAt_24 : decode c_MC_lengthAt 24 = .ok (.goto 9, 3) := by decide +kernel
theorem d_MC_lengthAt_27 : decode c_MC_lengthAt 27 = .ok (.aload_n 0, 1) := by decide +kernel
theorem d_MC_lengthAt_28 : decode c_MC_lengthAt 28 = .ok (.getfield 13, 3) := by decide +kernel
theorem d_MC_lengthAt_31 : decode c_MC_lengthAt 31 = .ok (.iload_n 1, 1) := by decide +kernel
theorem d_MC_lengthAt_32 : decode c_MC_lengthAt 32 = .ok (.iaload, 1) := by decide +kernel
theorem d_MC_lengthAt_33 : decode c_MC_lengthAt 33 = .ok (.ireturn, 1) := by decide +kernel
theorem d_MC_monthAt_0 : decode c_MC_monthAt 0 = .ok (.aload_n 0, 1) := by decide +kernel
theorem d_MC_monthAt_1 : decode c_MC_monthAt 1 = .ok (.getfield 7, 3) := by decide +kernel
theorem d_MC_monthAt_4 : decode c_MC_monthAt 4 = .ok (.iload_n 1, 1) := by decide +kernel
theorem d_MC_monthAt_5 : decode c_MC_monthAt 5 = .ok (.iaload, 1) := by decide +kernel
theorem d_MC_monthAt_6 : decode c_MC_monthAt 6 = .ok (.ireturn, 1) := by decide +kernel
theorem d_MC_monthsIn_0 : decode c_MC_monthsIn 0 = .ok (.aload_n 0, 1) := by decide +kernel
theorem d_MC_monthsIn_1 : decode c_MC_monthsIn 1 = .ok (.getfield 13, 3) := by decide +kernel
theorem d_MC_monthsIn_4 : decode c_MC_monthsIn 4 = .ok (.arraylength, 1) := by decide +kernel
theorem d_MC_monthsIn_5 : decode c_MC_monthsIn 5 = .ok (.ireturn, 1) := by decide +kernel
theorem d_MC_yearAt_0 : decode c_MC_yearAt 0 = .ok (.aload_n 0, 1) := by decide +kernel
theorem d_MC_yearAt_1 : decode c_MC_yearAt 1 = .ok (.getfield 24, 3) := by decide +kernel
theorem d_MC_yearAt_4 : decode c_MC_yearAt 4 = .ok (.ifCond .ne 9, 3) := by decide +kernel
theorem d_MC_yearAt_7 : decode c_MC_yearAt 7 = .ok (.lload_n 1, 1) := by decide +kernel
theorem d_MC_yearAt_8 : decode c_MC_yearAt 8 = .ok (.lconst 0, 1) := by decide +kernel
theorem d_MC_yearAt_9 : decode c_MC_yearAt 9 = .ok (.lcmp, 1) := by decide +kernel
theorem d_MC_yearAt_10 : decode c_MC_yearAt 10 = .ok (.ifCond .le 7, 3) := by decide +kernel
theorem d_MC_yearAt_13 : decode c_MC_yearAt 13 = .ok (.lload_n 1, 1) := by decide +kernel
theorem d_MC_yearAt_14 : decode c_MC_yearAt 14 = .ok (.goto 6, 3) := by decide +kernel
theorem d_MC_yearAt_17 : decode c_MC_yearAt 17 = .ok (.lload_n 1, 1) := by decide +kernel
theorem d_MC_yearAt_18 : decode c_MC_yearAt 18 = .ok (.lconst 1, 1) := by decide +kernel
theorem d_MC_yearAt_19 : decode c_MC_yearAt 19 = .ok (.lsub, 1) := by decide +kernel
theorem d_MC_yearAt_20 : decode c_MC_yearAt 20 = .ok (.lreturn, 1) := by decide +kernel
theorem d_MC_yearStart_0 : decode c_MC_yearStart 0 = .ok (.aload_n 0, 1) := by decide +kernel
theorem d_MC_yearStart_1 : decode c_MC_yearStart 1 = .ok (.getfield 20, 3) := by decide +kernel
theorem d_MC_yearStart_4 : decode c_MC_yearStart 4 = .ok (.aload_n 0, 1) := by decide +kernel
theorem d_MC_yearStart_5 : decode c_MC_yearStart 5 = .ok (.getfield 32, 3) := by decide +kernel
theorem d_MC_yearStart_8 : decode c_MC_yearStart 8 = .ok (.i2l, 1) := by decide +kernel
theorem d_MC_yearStart_9 : decode c_MC_yearStart 9 = .ok (.lload_n 1, 1) := by decide +kernel
theorem d_MC_yearStart_10 : decode c_MC_yearStart 10 = .ok (.lconst 1, 1) := by decide +kernel
theorem d_MC_yearStart_11 : decode c_MC_yearStart 11 = .ok (.lsub, 1) := by decide +kernel
theorem d_MC_yearStart_12 : decode c_MC_yearStart 12 = .ok (.lmul, 1) := by decide +kernel
theorem d_MC_yearStart_13 : decode c_MC_yearStart 13 = .ok (.ladd, 1) := by decide +kernel
theorem d_MC_yearStart_14 : decode c_MC_yearStart 14 = .ok (.aload_n 0, 1) := by decide +kernel
theorem d_MC_yearStart_15 : decode c_MC_yearStart 15 = .ok (.getfield 28, 3) := by decide +kernel
theorem d_MC_yearStart_18 : decode c_MC_yearStart 18 = .ok (.lload_n 1, 1) := by decide +kernel
theorem d_MC_yearStart_19 : decode c_MC_yearStart 19 = .ok (.invokevirtual 45, 3) := by decide +kernel
theorem d_MC_yearStart_22 : decode c_MC_yearStart 22 = .ok (.ladd, 1) := by decide +kernel
theorem d_MC_yearStart_23 : decode c_MC_yearStart 23 = .ok (.aload_n 0, 1) := by decide +kernel
theorem d_MC_yearStart_24 : decode c_MC_yearStart 24 = .ok (.getfield 28, 3) := by decide +kernel
theorem d_MC_yearStart_27 : decode c_MC_yearStart 27 = .ok (.lconst 1, 1) := by decide +kernel
theorem d_MC_yearStart_28 : decode c_MC_yearStart 28 = .ok (.invokevirtual 45, 3) := by decide +kernel
theorem d_MC_yearStart_31 : decode c_MC_yearStart 31 = .ok (.lsub, 1) := by decide +kernel
theorem d_MC_yearStart_32 : decode c_MC_yearStart 32 = .ok (.lreturn, 1) := by decide +kernel
theorem d_SC_init_0 : decode c_SC_init 0 = .ok (.aload_n 0, 1) := by decide +kernel
theorem d_SC_init_1 : decode c_SC_init 1 = .ok (.invokespecial 3, 3) := by decide +kernel
theorem d_SC_init_4 : decode c_SC_init 4 = .ok (.return_, 1) := by decide +kernel
theorem d_SC_dateOf_0 : decode c_SC_dateOf 0 = .ok (.ldc2_w 11, 3) := by decide +kernel
theorem d_SC_dateOf_3 : decode c_SC_dateOf 3 = .ok (.lload_n 1, 1) := by decide +kernel
theorem d_SC_dateOf_4 : decode c_SC_dateOf 4 = .ok (.ldc2_w 13, 3) := by decide +kernel
theorem d_SC_dateOf_7 : decode c_SC_dateOf 7 = .ok (.ladd, 1) := by decide +kernel
theorem d_SC_dateOf_8 : decode c_SC_dateOf 8 = .ok (.lmul, 1) := by decide +kernel
theorem d_SC_dateOf_9 : decode c_SC_dateOf 9 = .ok (.ldc2_w 15, 3) := by decide +kernel
theorem d_SC_dateOf_12 : decode c_SC_dateOf 12 = .ok (.ladd, 1) := by decide +kernel
theorem d_SC_dateOf_13 : decode c_SC_dateOf 13 = .ok (.lstore_n 3, 1) := by decide +kernel
theorem d_SC_dateOf_14 : decode c_SC_dateOf 14 = .ok (.lload_n 3, 1) := by decide +kernel
theorem d_SC_dateOf_15 : decode c_SC_dateOf 15 = .ok (.ldc2_w 17, 3) := by decide +kernel
theorem d_SC_dateOf_18 : decode c_SC_dateOf 18 = .ok (.invokestatic 19, 3) := by decide +kernel
theorem d_SC_dateOf_21 : decode c_SC_dateOf 21 = .ok (.lstore 5, 2) := by decide +kernel
theorem d_SC_dateOf_23 : decode c_SC_dateOf 23 = .ok (.lload_n 3, 1) := by decide +kernel
theorem d_SC_dateOf_24 : decode c_SC_dateOf 24 = .ok (.ldc2_w 17, 3) := by decide +kernel
theorem d_SC_dateOf_27 : decode c_SC_dateOf 27 = .ok (.invokestatic 25, 3) := by decide +kernel
theorem d_SC_dateOf_30 : decode c_SC_dateOf 30 = .ok (.ldc2_w 11, 3) := by decide +kernel
theorem d_SC_dateOf_33 : decode c_SC_dateOf 33 = .ok (.ldiv, 1) := by decide +kernel
theorem d_SC_dateOf_34 : decode c_SC_dateOf 34 = .ok (.lconst 1, 1) := by decide +kernel
theorem d_SC_dateOf_35 : decode c_SC_dateOf 35 = .ok (.ladd, 1) := by decide +kernel
theorem d_SC_dateOf_36 : decode c_SC_dateOf 36 = .ok (.lstore 7, 2) := by decide +kernel
theorem d_SC_dateOf_38 : decode c_SC_dateOf 38 = .ok (.lload 5, 2) := by decide +kernel
theorem d_SC_dateOf_40 : decode c_SC_dateOf 40 = .ok (.ldc2_w 28, 3) := by decide +kernel
theorem d_SC_dateOf_43 : decode c_SC_dateOf 43 = .ok (.invokestatic 19, 3) := by decide +kernel
theorem d_SC_dateOf_46 : decode c_SC_dateOf 46 = .ok (.lload 5, 2) := by decide +kernel
theorem d_SC_dateOf_48 : decode c_SC_dateOf 48 = .ok (.ldc2_w 28, 3) := by decide +kernel
theorem d_SC_dateOf_51 : decode c_SC_dateOf 51 = .ok (.invokestatic 25, 3) := by decide +kernel
theorem d_SC_dateOf_54 : decode c_SC_dateOf 54 = .ok (.lconst 1, 1) := by decide +kernel
theorem d_SC_dateOf_55 : decode c_SC_dateOf 55 = .ok (.ladd, 1) := by decide +kernel
theorem d_SC_dateOf_56 : decode c_SC_dateOf 56 = .ok (.lload 7, 2) := by decide +kernel
theorem d_SC_dateOf_58 : decode c_SC_dateOf 58 = .ok (.invokestatic 30, 3) := by decide +kernel
theorem d_SC_dateOf_61 : decode c_SC_dateOf 61 = .ok (.lreturn, 1) := by decide +kernel
theorem d_SC_dayOf_0 : decode c_SC_dayOf 0 = .ok (.iload_n 3, 1) := by decide +kernel
theorem d_SC_dayOf_1 : decode c_SC_dayOf 1 = .ok (.iconst 1, 1) := by decide +kernel
theorem d_SC_dayOf_2 : decode c_SC_dayOf 2 = .ok (.if_icmp .lt 22, 3) := by decide +kernel
theorem d_SC_dayOf_5 : decode c_SC_dayOf 5 = .ok (.iload_n 3, 1) := by decide +kernel
theorem d_SC_dayOf_6 : decode c_SC_dayOf 6 = .ok (.bipush 12, 2) := by decide +kernel
theorem d_SC_dayOf_8 : decode c_SC_dayOf 8 = .ok (.if_icmp .gt 16, 3) := by decide +kernel
theorem d_SC_dayOf_11 : decode c_SC_dayOf 11 = .ok (.iload 4, 2) := by decide +kernel
theorem d_SC_dayOf_13 : decode c_SC_dayOf 13 = .ok (.iconst 1, 1) := by decide +kernel
theorem d_SC_dayOf_14 : decode c_SC_dayOf 14 = .ok (.if_icmp .lt 10, 3) := by decide +kernel
theorem d_SC_dayOf_17 : decode c_SC_dayOf 17 = .ok (.iload 4, 2) := by decide +kernel
theorem d_SC_dayOf_19 : decode c_SC_dayOf 19 = .ok (.bipush 31, 2) := by decide +kernel
theorem d_SC_dayOf_21 : decode c_SC_dayOf 21 = .ok (.if_icmp .le 7, 3) := by decide +kernel
theorem d_SC_dayOf_24 : decode c_SC_dayOf 24 = .ok (.ldc2_w 34, 3) := by decide +kernel
theorem d_SC_dayOf_27 : decode c_SC_dayOf 27 = .ok (.lreturn, 1) := by decide +kernel
theorem d_SC_dayOf_28 : decode c_SC_dayOf 28 = .ok (.ldc2_w 28, 3) := by decide +kernel
theorem d_SC_dayOf_31 : decode c_SC_dayOf 31 = .ok (.lload_n 1, 1) := by decide +kernel
theorem d_SC_dayOf_32 : decode c_SC_dayOf 32 = .ok (.lmul, 1) := by decide +kernel
theorem d_SC_dayOf_33 : decode c_SC_dayOf 33 = .ok (.iload_n 3, 1) := by decide +kernel
theorem d_SC_dayOf_34 : decode c_SC_dayOf 34 = .ok (.i2l, 1) := by decide +kernel
theorem d_SC_dayOf_35 : decode c_SC_dayOf 35 = .ok (.ladd, 1) := by decide +kernel
theorem d_SC_dayOf_36 : decode c_SC_dayOf 36 = .ok (.lconst 1, 1) := by decide +kernel
theorem d_SC_dayOf_37 : decode c_SC_dayOf 37 = .ok (.lsub, 1) := by decide +kernel
theorem d_SC_dayOf_38 : decode c_SC_dayOf 38 = .ok (.lstore 5, 2) := by decide +kernel
theorem d_SC_dayOf_40 : decode c_SC_dayOf 40 = .ok (.lload 5, 2) := by decide +kernel
theorem d_SC_dayOf_42 : decode c_SC_dayOf 42 = .ok (.ldc2_w 17, 3) := by decide +kernel
theorem d_SC_dayOf_45 : decode c_SC_dayOf 45 = .ok (.lmul, 1) := by decide +kernel
theorem d_SC_dayOf_46 : decode c_SC_dayOf 46 = .ok (.ldc2_w 15, 3) := by decide +kernel
theorem d_SC_dayOf_49 : decode c_SC_dayOf 49 = .ok (.lsub, 1) := by decide +kernel
theorem d_SC_dayOf_50 : decode c_SC_dayOf 50 = .ok (.ldc2_w 11, 3) := by decide +kernel
theorem d_SC_dayOf_53 : decode c_SC_dayOf 53 = .ok (.invokestatic 36, 3) := by decide +kernel
theorem d_SC_dayOf_56 : decode c_SC_dayOf 56 = .ok (.ldc2_w 13, 3) := by decide +kernel
theorem d_SC_dayOf_59 : decode c_SC_dayOf 59 = .ok (.lsub, 1) := by decide +kernel
theorem d_SC_dayOf_60 : decode c_SC_dayOf 60 = .ok (.iload 4, 2) := by decide +kernel
theorem d_SC_dayOf_62 : decode c_SC_dayOf 62 = .ok (.i2l, 1) := by decide +kernel
theorem d_SC_dayOf_63 : decode c_SC_dayOf 63 = .ok (.ladd, 1) := by decide +kernel
theorem d_SC_dayOf_64 : decode c_SC_dayOf 64 = .ok (.lconst 1, 1) := by decide +kernel
theorem d_SC_dayOf_65 : decode c_SC_dayOf 65 = .ok (.lsub, 1) := by decide +kernel
theorem d_SC_dayOf_66 : decode c_SC_dayOf 66 = .ok (.lstore 7, 2) := by decide +kernel
theorem d_SC_dayOf_68 : decode c_SC_dayOf 68 = .ok (.aload_n 0, 1) := by decide +kernel
theorem d_SC_dayOf_69 : decode c_SC_dayOf 69 = .ok (.lload 7, 2) := by decide +kernel
theorem d_SC_dayOf_71 : decode c_SC_dayOf 71 = .ok (.invokevirtual 39, 3) := by decide +kernel
theorem d_SC_dayOf_74 : decode c_SC_dayOf 74 = .ok (.lload_n 1, 1) := by decide +kernel
theorem d_SC_dayOf_75 : decode c_SC_dayOf 75 = .ok (.iload_n 3, 1) := by decide +kernel
theorem d_SC_dayOf_76 : decode c_SC_dayOf 76 = .ok (.i2l, 1) := by decide +kernel
theorem d_SC_dayOf_77 : decode c_SC_dayOf 77 = .ok (.iload 4, 2) := by decide +kernel
theorem d_SC_dayOf_79 : decode c_SC_dayOf 79 = .ok (.i2l, 1) := by decide +kernel
theorem d_SC_dayOf_80 : decode c_SC_dayOf 80 = .ok (.invokestatic 30, 3) := by decide +kernel
theorem d_SC_dayOf_83 : decode c_SC_dayOf 83 = .ok (.lcmp, 1) := by decide +kernel
theorem d_SC_dayOf_84 : decode c_SC_dayOf 84 = .ok (.ifCond .ne 8, 3) := by decide +kernel
theorem d_SC_dayOf_87 : decode c_SC_dayOf 87 = .ok (.lload 7, 2) := by decide +kernel
theorem d_SC_dayOf_89 : decode c_SC_dayOf 89 = .ok (.goto 6, 3) := by decide +kernel
theorem d_SC_dayOf_92 : decode c_SC_dayOf 92 = .ok (.ldc2_w 34, 3) := by decide +kernel
theorem d_SC_dayOf_95 : decode c_SC_dayOf 95 = .ok (.lreturn, 1) := by decide +kernel
theorem d_SR_init_0 : decode c_SR_init 0 = .ok (.aload_n 0, 1) := by decide +kernel
theorem d_SR_init_1 : decode c_SR_init 1 = .ok (.invokespecial 1, 3) := by decide +kernel
theorem d_SR_init_4 : decode c_SR_init 4 = .ok (.aload_n 0, 1) := by decide +kernel
theorem d_SR_init_5 : decode c_SR_init 5 = .ok (.lload_n 1, 1) := by decide +kernel
theorem d_SR_init_6 : decode c_SR_init 6 = .ok (.putfield 7, 3) := by decide +kernel
theorem d_SR_init_9 : decode c_SR_init 9 = .ok (.aload_n 0, 1) := by decide +kernel
theorem d_SR_init_10 : decode c_SR_init 10 = .ok (.lload_n 3, 1) := by decide +kernel
theorem d_SR_init_11 : decode c_SR_init 11 = .ok (.putfield 13, 3) := by decide +kernel
theorem d_SR_init_14 : decode c_SR_init 14 = .ok (.aload_n 0, 1) := by decide +kernel
theorem d_SR_init_15 : decode c_SR_init 15 = .ok (.lload 5, 2) := by decide +kernel
theorem d_SR_init_17 : decode c_SR_init 17 = .ok (.putfield 16, 3) := by decide +kernel
theorem d_SR_init_20 : decode c_SR_init 20 = .ok (.return_, 1) := by decide +kernel
theorem d_SR_isLeapCount_0 : decode c_SR_isLeapCount 0 = .ok (.aload_n 0, 1) := by decide +kernel
theorem d_SR_isLeapCount_1 : decode c_SR_isLeapCount 1 = .ok (.getfield 7, 3) := by decide +kernel
theorem d_SR_isLeapCount_4 : decode c_SR_isLeapCount 4 = .ok (.lload_n 1, 1) := by decide +kernel
theorem d_SR_isLeapCount_5 : decode c_SR_isLeapCount 5 = .ok (.lmul, 1) := by decide +kernel
theorem d_SR_isLeapCount_6 : decode c_SR_isLeapCount 6 = .ok (.aload_n 0, 1) := by decide +kernel
theorem d_SR_isLeapCount_7 : decode c_SR_isLeapCount 7 = .ok (.getfield 13, 3) := by decide +kernel
theorem d_SR_isLeapCount_10 : decode c_SR_isLeapCount 10 = .ok (.ladd, 1) := by decide +kernel
theorem d_SR_isLeapCount_11 : decode c_SR_isLeapCount 11 = .ok (.aload_n 0, 1) := by decide +kernel
theorem d_SR_isLeapCount_12 : decode c_SR_isLeapCount 12 = .ok (.getfield 16, 3) := by decide +kernel
theorem d_SR_isLeapCount_15 : decode c_SR_isLeapCount 15 = .ok (.invokestatic 19, 3) := by decide +kernel
theorem d_SR_isLeapCount_18 : decode c_SR_isLeapCount 18 = .ok (.aload_n 0, 1) := by decide +kernel
theorem d_SR_isLeapCount_19 : decode c_SR_isLeapCount 19 = .ok (.getfield 7, 3) := by decide +kernel
theorem d_SR_isLeapCount_22 : decode c_SR_isLeapCount 22 = .ok (.lcmp, 1) := by decide +kernel
theorem d_SR_isLeapCount_23 : decode c_SR_isLeapCount 23 = .ok (.ifCond .ge 7, 3) := by decide +kernel
theorem d_SR_isLeapCount_26 : decode c_SR_isLeapCount 26 = .ok (.iconst 1, 1) := by decide +kernel
theorem d_SR_isLeapCount_27 : decode c_SR_isLeapCount 27 = .ok (.goto 4, 3) := by decide +kernel
theorem d_SR_isLeapCount_30 : decode c_SR_isLeapCount 30 = .ok (.iconst 0, 1) := by decide +kernel
theorem d_SR_isLeapCount_31 : decode c_SR_isLeapCount 31 = .ok (.ireturn, 1) := by decide +kernel
theorem d_SR_leapsBefore_0 : decode c_SR_leapsBefore 0 = .ok (.aload_n 0, 1) := by decide +kernel
theorem d_SR_leapsBefore_1 : decode c_SR_leapsBefore 1 = .ok (.getfield 7, 3) := by decide +kernel
theorem d_SR_leapsBefore_4 : decode c_SR_leapsBefore 4 = .ok (.lload_n 1, 1) := by decide +kernel
theorem d_SR_leapsBefore_5 : decode c_SR_leapsBefore 5 = .ok (.lconst 1, 1) := by decide +kernel
theorem d_SR_leapsBefore_6 : decode c_SR_leapsBefore 6 = .ok (.lsub, 1) := by decide +kernel
theorem d_SR_leapsBefore_7 : decode c_SR_leapsBefore 7 = .ok (.lmul, 1) := by decide +kernel
theorem d_SR_leapsBefore_8 : decode c_SR_leapsBefore 8 = .ok (.aload_n 0, 1) := by decide +kernel
theorem d_SR_leapsBefore_9 : decode c_SR_leapsBefore 9 = .ok (.getfield 13, 3) := by decide +kernel
theorem d_SR_leapsBefore_12 : decode c_SR_leapsBefore 12 = .ok (.ladd, 1) := by decide +kernel
theorem d_SR_leapsBefore_13 : decode c_SR_leapsBefore 13 = .ok (.aload_n 0, 1) := by decide +kernel
theorem d_SR_leapsBefore_14 : decode c_SR_leapsBefore 14 = .ok (.getfield 16, 3) := by decide +kernel
theorem d_SR_leapsBefore_17 : decode c_SR_leapsBefore 17 = .ok (.invokestatic 25, 3) := by decide +kernel
theorem d_SR_leapsBefore_20 : decode c_SR_leapsBefore 20 = .ok (.lreturn, 1) := by decide +kernel
theorem d_WC_init_0 : decode c_WC_init 0 = .ok (.aload_n 0, 1) := by decide +kernel
theorem d_WC_init_1 : decode c_WC_init 1 = .ok (.invokespecial 1, 3) := by decide +kernel
theorem d_WC_init_4 : decode c_WC_init 4 = .ok (.aload_n 0, 1) := by decide +kernel
theorem d_WC_init_5 : decode c_WC_init 5 = .ok (.aload_n 1, 1) := by decide +kernel
theorem d_WC_init_6 : decode c_WC_init 6 = .ok (.putfield 7, 3) := by decide +kernel
theorem d_WC_init_9 : decode c_WC_init 9 = .ok (.return_, 1) := by decide +kernel
theorem d_WC_lengthAt_0 : decode c_WC_lengthAt 0 = .ok (.bipush 7, 2) := by decide +kernel
theorem d_WC_lengthAt_2 : decode c_WC_lengthAt 2 = .ok (.ireturn, 1) := by decide +kernel
theorem d_WC_monthAt_0 : decode c_WC_monthAt 0 = .ok (.iload_n 1, 1) := by decide +kernel
theorem d_WC_monthAt_1 : decode c_WC_monthAt 1 = .ok (.iconst 1, 1) := by decide +kernel
theorem d_WC_monthAt_2 : decode c_WC_monthAt 2 = .ok (.iadd, 1) := by decide +kernel
theorem d_WC_monthAt_3 : decode c_WC_monthAt 3 = .ok (.ireturn, 1) := by decide +kernel
theorem d_WC_monthsIn_0 : decode c_WC_monthsIn 0 = .ok (.iload_n 1, 1) := by decide +kernel
theorem d_WC_monthsIn_1 : decode c_WC_monthsIn 1 = .ok (.bipush 7, 2) := by decide +kernel
theorem d_WC_monthsIn_3 : decode c_WC_monthsIn 3 = .ok (.idiv, 1) := by decide +kernel
theorem d_WC_monthsIn_4 : decode c_WC_monthsIn 4 = .ok (.ireturn, 1) := by decide +kernel
theorem d_WC_yearStart_0 : decode c_WC_yearStart 0 = .ok (.aload_n 0, 1) := by decide +kernel
theorem d_WC_yearStart_1 : decode c_WC_yearStart 1 = .ok (.getfield 7, 3) := by decide +kernel
theorem d_WC_yearStart_4 : decode c_WC_yearStart 4 = .ok (.lload_n 1, 1) := by decide +kernel
theorem d_WC_yearStart_5 : decode c_WC_yearStart 5 = .ok (.invokevirtual 13, 3) := by decide +kernel
theorem d_WC_yearStart_8 : decode c_WC_yearStart 8 = .ok (.ldc2_w 19, 3) := by decide +kernel
theorem d_WC_yearStart_11 : decode c_WC_yearStart 11 = .ok (.ladd, 1) := by decide +kernel
theorem d_WC_yearStart_12 : decode c_WC_yearStart 12 = .ok (.lstore_n 3, 1) := by decide +kernel
theorem d_WC_yearStart_13 : decode c_WC_yearStart 13 = .ok (.lload_n 3, 1) := by decide +kernel
theorem d_WC_yearStart_14 : decode c_WC_yearStart 14 = .ok (.lload_n 3, 1) := by decide +kernel
theorem d_WC_yearStart_15 : decode c_WC_yearStart 15 = .ok (.lconst 1, 1) := by decide +kernel
theorem d_WC_yearStart_16 : decode c_WC_yearStart 16 = .ok (.lsub, 1) := by decide +kernel
theorem d_WC_yearStart_17 : decode c_WC_yearStart 17 = .ok (.ldc2_w 21, 3) := by decide +kernel
theorem d_WC_yearStart_20 : decode c_WC_yearStart 20 = .ok (.invokestatic 23, 3) := by decide +kernel
theorem d_WC_yearStart_23 : decode c_WC_yearStart 23 = .ok (.lsub, 1) := by decide +kernel
theorem d_WC_yearStart_24 : decode c_WC_yearStart 24 = .ok (.lreturn, 1) := by decide +kernel
theorem d_Y_init_0 : decode c_Y_init 0 = .ok (.aload_n 0, 1) := by decide +kernel
theorem d_Y_init_1 : decode c_Y_init 1 = .ok (.invokespecial 3, 3) := by decide +kernel
theorem d_Y_init_4 : decode c_Y_init 4 = .ok (.return_, 1) := by decide +kernel
theorem d_Y_countOf_0 : decode c_Y_countOf 0 = .ok (.lload_n 1, 1) := by decide +kernel
theorem d_Y_countOf_1 : decode c_Y_countOf 1 = .ok (.lreturn, 1) := by decide +kernel
theorem d_Y_countWith_0 : decode c_Y_countWith 0 = .ok (.ldc2_w 49, 3) := by decide +kernel
theorem d_Y_countWith_3 : decode c_Y_countWith 3 = .ok (.lstore_n 3, 1) := by decide +kernel
theorem d_Y_countWith_4 : decode c_Y_countWith 4 = .ok (.ldc2_w 51, 3) := by decide +kernel
theorem d_Y_countWith_7 : decode c_Y_countWith 7 = .ok (.lstore 5, 2) := by decide +kernel
theorem d_Y_countWith_9 : decode c_Y_countWith 9 = .ok (.lload 5, 2) := by decide +kernel
theorem d_Y_countWith_11 : decode c_Y_countWith 11 = .ok (.lconst 0, 1) := by decide +kernel
theorem d_Y_countWith_12 : decode c_Y_countWith 12 = .ok (.lcmp, 1) := by decide +kernel
theorem d_Y_countWith_13 : decode c_Y_countWith 13 = .ok (.ifCond .le 32, 3) := by decide +kernel
theorem d_Y_countWith_16 : decode c_Y_countWith 16 = .ok (.aload_n 0, 1) := by decide +kernel
theorem d_Y_countWith_17 : decode c_Y_countWith 17 = .ok (.lload_n 3, 1) := by decide +kernel
theorem d_Y_countWith_18 : decode c_Y_countWith 18 = .ok (.lload 5, 2) := by decide +kernel
theorem d_Y_countWith_20 : decode c_Y_countWith 20 = .ok (.ladd, 1) := by decide +kernel
theorem d_Y_countWith_21 : decode c_Y_countWith 21 = .ok (.invokevirtual 23, 3) := by decide +kernel
theorem d_Y_countWith_24 : decode c_Y_countWith 24 = .ok (.lload_n 1, 1) := by decide +kernel
theorem d_Y_countWith_25 : decode c_Y_countWith 25 = .ok (.lcmp, 1) := by decide +kernel
theorem d_Y_countWith_26 : decode c_Y_countWith 26 = .ok (.ifCond .gt 8, 3) := by decide +kernel
theorem d_Y_countWith_29 : decode c_Y_countWith 29 = .ok (.lload_n 3, 1) := by decide +kernel
theorem d_Y_countWith_30 : decode c_Y_countWith 30 = .ok (.lload 5, 2) := by decide +kernel
theorem d_Y_countWith_32 : decode c_Y_countWith 32 = .ok (.ladd, 1) := by decide +kernel
theorem d_Y_countWith_33 : decode c_Y_countWith 33 = .ok (.lstore_n 3, 1) := by decide +kernel
theorem d_Y_countWith_34 : decode c_Y_countWith 34 = .ok (.lload 5, 2) := by decide +kernel
theorem d_Y_countWith_36 : decode c_Y_countWith 36 = .ok (.ldc2_w 53, 3) := by decide +kernel
theorem d_Y_countWith_39 : decode c_Y_countWith 39 = .ok (.ldiv, 1) := by decide +kernel
theorem d_Y_countWith_40 : decode c_Y_countWith 40 = .ok (.lstore 5, 2) := by decide +kernel
theorem d_Y_countWith_42 : decode c_Y_countWith 42 = .ok (.goto (-33), 3) := by decide +kernel
theorem d_Y_countWith_45 : decode c_Y_countWith 45 = .ok (.lload_n 3, 1) := by decide +kernel
theorem d_Y_countWith_46 : decode c_Y_countWith 46 = .ok (.lreturn, 1) := by decide +kernel
theorem d_Y_dateOf_0 : decode c_Y_dateOf 0 = .ok (.aload_n 0, 1) := by decide +kernel
theorem d_Y_dateOf_1 : decode c_Y_dateOf 1 = .ok (.lload_n 1, 1) := by decide +kernel
theorem d_Y_dateOf_2 : decode c_Y_dateOf 2 = .ok (.invokevirtual 9, 3) := by decide +kernel
theorem d_Y_dateOf_5 : decode c_Y_dateOf 5 = .ok (.lstore_n 3, 1) := by decide +kernel
theorem d_Y_dateOf_6 : decode c_Y_dateOf 6 = .ok (.aload_n 0, 1) := by decide +kernel
theorem d_Y_dateOf_7 : decode c_Y_dateOf 7 = .ok (.lload_n 3, 1) := by decide +kernel
theorem d_Y_dateOf_8 : decode c_Y_dateOf 8 = .ok (.invokevirtual 15, 3) := by decide +kernel
theorem d_Y_dateOf_11 : decode c_Y_dateOf 11 = .ok (.istore 5, 2) := by decide +kernel
theorem d_Y_dateOf_13 : decode c_Y_dateOf 13 = .ok (.aload_n 0, 1) := by decide +kernel
theorem d_Y_dateOf_14 : decode c_Y_dateOf 14 = .ok (.iload 5, 2) := by decide +kernel
theorem d_Y_dateOf_16 : decode c_Y_dateOf 16 = .ok (.invokevirtual 19, 3) := by decide +kernel
theorem d_Y_dateOf_19 : decode c_Y_dateOf 19 = .ok (.iconst 1, 1) := by decide +kernel
theorem d_Y_dateOf_20 : decode c_Y_dateOf 20 = .ok (.isub, 1) := by decide +kernel
theorem d_Y_dateOf_21 : decode c_Y_dateOf 21 = .ok (.istore 6, 2) := by decide +kernel
theorem d_Y_dateOf_23 : decode c_Y_dateOf 23 = .ok (.lload_n 1, 1) := by decide +kernel
theorem d_Y_dateOf_24 : decode c_Y_dateOf 24 = .ok (.aload_n 0, 1) := by decide +kernel
theorem d_Y_dateOf_25 : decode c_Y_dateOf 25 = .ok (.lload_n 3, 1) := by decide +kernel
theorem d_Y_dateOf_26 : decode c_Y_dateOf 26 = .ok (.invokevirtual 23, 3) := by decide +kernel
theorem d_Y_dateOf_29 : decode c_Y_dateOf 29 = .ok (.lsub, 1) := by decide +kernel
theorem d_Y_dateOf_30 : decode c_Y_dateOf 30 = .ok (.lstore 7, 2) := by decide +kernel
theorem d_Y_dateOf_32 : decode c_Y_dateOf 32 = .ok (.iconst 0, 1) := by decide +kernel
theorem d_Y_dateOf_33 : decode c_Y_dateOf 33 = .ok (.istore 9, 2) := by decide +kernel
theorem d_Y_dateOf_35 : decode c_Y_dateOf 35 = .ok (.iload 9, 2) := by decide +kernel
theorem d_Y_dateOf_37 : decode c_Y_dateOf 37 = .ok (.iload 6, 2) := by decide +kernel
theorem d_Y_dateOf_39 : decode c_Y_dateOf 39 = .ok (.if_icmp .ge 38, 3) := by decide +kernel
theorem d_Y_dateOf_42 : decode c_Y_dateOf 42 = .ok (.lload 7, 2) := by decide +kernel
theorem d_Y_dateOf_44 : decode c_Y_dateOf 44 = .ok (.aload_n 0, 1) := by decide +kernel
theorem d_Y_dateOf_45 : decode c_Y_dateOf 45 = .ok (.iload 9, 2) := by decide +kernel
theorem d_Y_dateOf_47 : decode c_Y_dateOf 47 = .ok (.iload 5, 2) := by decide +kernel
theorem d_Y_dateOf_49 : decode c_Y_dateOf 49 = .ok (.invokevirtual 26, 3) := by decide +kernel
theorem d_Y_dateOf_52 : decode c_Y_dateOf 52 = .ok (.i2l, 1) := by decide +kernel
theorem d_Y_dateOf_53 : decode c_Y_dateOf 53 = .ok (.lcmp, 1) := by decide +kernel
theorem d_Y_dateOf_54 : decode c_Y_dateOf 54 = .ok (.ifCond .lt 23, 3) := by decide +kernel
theorem d_Y_dateOf_57 : decode c_Y_dateOf 57 = .ok (.lload 7, 2) := by decide +kernel
theorem d_Y_dateOf_59 : decode c_Y_dateOf 59 = .ok (.aload_n 0, 1) := by decide +kernel
theorem d_Y_dateOf_60 : decode c_Y_dateOf 60 = .ok (.iload 9, 2) := by decide +kernel
theorem d_Y_dateOf_62 : decode c_Y_dateOf 62 = .ok (.iload 5, 2) := by decide +kernel
theorem d_Y_dateOf_64 : decode c_Y_dateOf 64 = .ok (.invokevirtual 26, 3) := by decide +kernel
theorem d_Y_dateOf_67 : decode c_Y_dateOf 67 = .ok (.i2l, 1) := by decide +kernel
theorem d_Y_dateOf_68 : decode c_Y_dateOf 68 = .ok (.lsub, 1) := by decide +kernel
theorem d_Y_dateOf_69 : decode c_Y_dateOf 69 = .ok (.lstore 7, 2) := by decide +kernel
theorem d_Y_dateOf_71 : decode c_Y_dateOf 71 = .ok (.iinc 9 1, 3) := by decide +kernel
theorem d_Y_dateOf_74 : decode c_Y_dateOf 74 = .ok (.goto (-39), 3) := by decide +kernel
theorem d_Y_dateOf_77 : decode c_Y_dateOf 77 = .ok (.aload_n 0, 1) := by decide +kernel
theorem d_Y_dateOf_78 : decode c_Y_dateOf 78 = .ok (.lload_n 3, 1) := by decide +kernel
theorem d_Y_dateOf_79 : decode c_Y_dateOf 79 = .ok (.invokevirtual 30, 3) := by decide +kernel
theorem d_Y_dateOf_82 : decode c_Y_dateOf 82 = .ok (.aload_n 0, 1) := by decide +kernel
theorem d_Y_dateOf_83 : decode c_Y_dateOf 83 = .ok (.iload 9, 2) := by decide +kernel
theorem d_Y_dateOf_85 : decode c_Y_dateOf 85 = .ok (.iload 5, 2) := by decide +kernel
theorem d_Y_dateOf_87 : decode c_Y_dateOf 87 = .ok (.invokevirtual 33, 3) := by decide +kernel
theorem d_Y_dateOf_90 : decode c_Y_dateOf 90 = .ok (.i2l, 1) := by decide +kernel
theorem d_Y_dateOf_91 : decode c_Y_dateOf 91 = .ok (.lload 7, 2) := by decide +kernel
theorem d_Y_dateOf_93 : decode c_Y_dateOf 93 = .ok (.lconst 1, 1) := by decide +kernel
theorem d_Y_dateOf_94 : decode c_Y_dateOf 94 = .ok (.ladd, 1) := by decide +kernel
theorem d_Y_dateOf_95 : decode c_Y_dateOf 95 = .ok (.invokestatic 36, 3) := by decide +kernel
theorem d_Y_dateOf_98 : decode c_Y_dateOf 98 = .ok (.lreturn, 1) := by decide +kernel
theorem d_Y_dayOf_0 : decode c_Y_dayOf 0 = .ok (.aload_n 0, 1) := by decide +kernel
theorem d_Y_dayOf_1 : decode c_Y_dayOf 1 = .ok (.lload_n 1, 1) := by decide +kernel
theorem d_Y_dayOf_2 : decode c_Y_dayOf 2 = .ok (.invokevirtual 40, 3) := by decide +kernel
theorem d_Y_dayOf_5 : decode c_Y_dayOf 5 = .ok (.ifCond .ne 7, 3) := by decide +kernel
theorem d_Y_dayOf_8 : decode c_Y_dayOf 8 = .ok (.ldc2_w 44, 3) := by decide +kernel
theorem d_Y_dayOf_11 : decode c_Y_dayOf 11 = .ok (.lreturn, 1) := by decide +kernel
theorem d_Y_dayOf_12 : decode c_Y_dayOf 12 = .ok (.aload_n 0, 1) := by decide +kernel
theorem d_Y_dayOf_13 : decode c_Y_dayOf 13 = .ok (.lload_n 1, 1) := by decide +kernel
theorem d_Y_dayOf_14 : decode c_Y_dayOf 14 = .ok (.invokevirtual 46, 3) := by decide +kernel
theorem d_Y_dayOf_17 : decode c_Y_dayOf 17 = .ok (.lstore 5, 2) := by decide +kernel
theorem d_Y_dayOf_19 : decode c_Y_dayOf 19 = .ok (.aload_n 0, 1) := by decide +kernel
theorem d_Y_dayOf_20 : decode c_Y_dayOf 20 = .ok (.lload 5, 2) := by decide +kernel
theorem d_Y_dayOf_22 : decode c_Y_dayOf 22 = .ok (.invokevirtual 15, 3) := by decide +kernel
theorem d_Y_dayOf_25 : decode c_Y_dayOf 25 = .ok (.istore 7, 2) := by decide +kernel
theorem d_Y_dayOf_27 : decode c_Y_dayOf 27 = .ok (.aload_n 0, 1) := by decide +kernel
theorem d_Y_dayOf_28 : decode c_Y_dayOf 28 = .ok (.iload 7, 2) := by decide +kernel
theorem d_Y_dayOf_30 : decode c_Y_dayOf 30 = .ok (.invokevirtual 19, 3) := by decide +kernel
theorem d_Y_dayOf_33 : decode c_Y_dayOf 33 = .ok (.istore 8, 2) := by decide +kernel
theorem d_Y_dayOf_35 : decode c_Y_dayOf 35 = .ok (.aload_n 0, 1) := by decide +kernel
theorem d_Y_dayOf_36 : decode c_Y_dayOf 36 = .ok (.lload 5, 2) := by decide +kernel
theorem d_Y_dayOf_38 : decode c_Y_dayOf 38 = .ok (.invokevirtual 23, 3) := by decide +kernel
theorem d_Y_dayOf_41 : decode c_Y_dayOf 41 = .ok (.lstore 9, 2) := by decide +kernel
theorem d_Y_dayOf_43 : decode c_Y_dayOf 43 = .ok (.iconst 0, 1) := by decide +kernel
theorem d_Y_dayOf_44 : decode c_Y_dayOf 44 = .ok (.istore 11, 2) := by decide +kernel
theorem d_Y_dayOf_46 : decode c_Y_dayOf 46 = .ok (.iload 11, 2) := by decide +kernel
theorem d_Y_dayOf_48 : decode c_Y_dayOf 48 = .ok (.iload 8, 2) := by decide +kernel
theorem d_Y_dayOf_50 : decode c_Y_dayOf 50 = .ok (.if_icmp .ge 67, 3) := by decide +kernel
theorem d_Y_dayOf_53 : decode c_Y_dayOf 53 = .ok (.aload_n 0, 1) := by decide +kernel
theorem d_Y_dayOf_54 : decode c_Y_dayOf 54 = .ok (.iload 11, 2) := by decide +kernel
theorem d_Y_dayOf_56 : decode c_Y_dayOf 56 = .ok (.iload 7, 2) := by decide +kernel
theorem d_Y_dayOf_58 : decode c_Y_dayOf 58 = .ok (.invokevirtual 26, 3) := by decide +kernel
theorem d_Y_dayOf_61 : decode c_Y_dayOf 61 = .ok (.istore 12, 2) := by decide +kernel
theorem d_Y_dayOf_63 : decode c_Y_dayOf 63 = .ok (.aload_n 0, 1) := by decide +kernel
theorem d_Y_dayOf_64 : decode c_Y_dayOf 64 = .ok (.iload 11, 2) := by decide +kernel
theorem d_Y_dayOf_66 : decode c_Y_dayOf 66 = .ok (.iload 7, 2) := by decide +kernel
theorem d_Y_dayOf_68 : decode c_Y_dayOf 68 = .ok (.invokevirtual 33, 3) := by decide +kernel
theorem d_Y_dayOf_71 : decode c_Y_dayOf 71 = .ok (.iload_n 3, 1) := by decide +kernel
theorem d_Y_dayOf_72 : decode c_Y_dayOf 72 = .ok (.if_icmp .ne 31, 3) := by decide +kernel
theorem d_Y_dayOf_75 : decode c_Y_dayOf 75 = .ok (.iload 4, 2) := by decide +kernel
theorem d_Y_dayOf_77 : decode c_Y_dayOf 77 = .ok (.iconst 1, 1) := by decide +kernel
theorem d_Y_dayOf_78 : decode c_Y_dayOf 78 = .ok (.if_icmp .lt 21, 3) := by decide +kernel
theorem d_Y_dayOf_81 : decode c_Y_dayOf 81 = .ok (.iload 4, 2) := by decide +kernel
theorem d_Y_dayOf_83 : decode c_Y_dayOf 83 = .ok (.iload 12, 2) := by decide +kernel
theorem d_Y_dayOf_85 : decode c_Y_dayOf 85 = .ok (.if_icmp .gt 14, 3) := by decide +kernel
theorem d_Y_dayOf_88 : decode c_Y_dayOf 88 = .ok (.lload 9, 2) := by decide +kernel
theorem d_Y_dayOf_90 : decode c_Y_dayOf 90 = .ok (.iload 4, 2) := by decide +kernel
theorem d_Y_dayOf_92 : decode c_Y_dayOf 92 = .ok (.i2l, 1) := by decide +kernel
theorem d_Y_dayOf_93 : decode c_Y_dayOf 93 = .ok (.ladd, 1) := by decide +kernel
theorem d_Y_dayOf_94 : decode c_Y_dayOf 94 = .ok (.lconst 1, 1) := by decide +kernel
theorem d_Y_dayOf_95 : decode c_Y_dayOf 95 = .ok (.lsub, 1) := by decide +kernel
theorem d_Y_dayOf_96 : decode c_Y_dayOf 96 = .ok (.goto 6, 3) := by decide +kernel
theorem d_Y_dayOf_99 : decode c_Y_dayOf 99 = .ok (.ldc2_w 44, 3) := by decide +kernel
theorem d_Y_dayOf_102 : decode c_Y_dayOf 102 = .ok (.lreturn, 1) := by decide +kernel
theorem d_Y_dayOf_103 : decode c_Y_dayOf 103 = .ok (.lload 9, 2) := by decide +kernel
theorem d_Y_dayOf_105 : decode c_Y_dayOf 105 = .ok (.iload 12, 2) := by decide +kernel
theorem d_Y_dayOf_107 : decode c_Y_dayOf 107 = .ok (.i2l, 1) := by decide +kernel
theorem d_Y_dayOf_108 : decode c_Y_dayOf 108 = .ok (.ladd, 1) := by decide +kernel
theorem d_Y_dayOf_109 : decode c_Y_dayOf 109 = .ok (.lstore 9, 2) := by decide +kernel
theorem d_Y_dayOf_111 : decode c_Y_dayOf 111 = .ok (.iinc 11 1, 3) := by decide +kernel
theorem d_Y_dayOf_114 : decode c_Y_dayOf 114 = .ok (.goto (-68), 3) := by decide +kernel
theorem d_Y_dayOf_117 : decode c_Y_dayOf 117 = .ok (.ldc2_w 44, 3) := by decide +kernel
theorem d_Y_dayOf_120 : decode c_Y_dayOf 120 = .ok (.lreturn, 1) := by decide +kernel
theorem d_Y_daysIn_0 : decode c_Y_daysIn 0 = .ok (.aload_n 0, 1) := by decide +kernel
theorem d_Y_daysIn_1 : decode c_Y_daysIn 1 = .ok (.lload_n 1, 1) := by decide +kernel
theorem d_Y_daysIn_2 : decode c_Y_daysIn 2 = .ok (.lconst 1, 1) := by decide +kernel
theorem d_Y_daysIn_3 : decode c_Y_daysIn 3 = .ok (.ladd, 1) := by decide +kernel
theorem d_Y_daysIn_4 : decode c_Y_daysIn 4 = .ok (.invokevirtual 23, 3) := by decide +kernel
theorem d_Y_daysIn_7 : decode c_Y_daysIn 7 = .ok (.aload_n 0, 1) := by decide +kernel
theorem d_Y_daysIn_8 : decode c_Y_daysIn 8 = .ok (.lload_n 1, 1) := by decide +kernel
theorem d_Y_daysIn_9 : decode c_Y_daysIn 9 = .ok (.invokevirtual 23, 3) := by decide +kernel
theorem d_Y_daysIn_12 : decode c_Y_daysIn 12 = .ok (.lsub, 1) := by decide +kernel
theorem d_Y_daysIn_13 : decode c_Y_daysIn 13 = .ok (.l2i, 1) := by decide +kernel
theorem d_Y_daysIn_14 : decode c_Y_daysIn 14 = .ok (.ireturn, 1) := by decide +kernel
theorem d_Y_yearAt_0 : decode c_Y_yearAt 0 = .ok (.lload_n 1, 1) := by decide +kernel
theorem d_Y_yearAt_1 : decode c_Y_yearAt 1 = .ok (.lreturn, 1) := by decide +kernel
theorem d_W_date_0 : decode c_W_date 0 = .ok (.aload 4, 2) := by decide +kernel
theorem d_W_date_2 : decode c_W_date 2 = .ok (.iconst 0, 1) := by decide +kernel
theorem d_W_date_3 : decode c_W_date 3 = .ok (.aload_n 0, 1) := by decide +kernel
theorem d_W_date_4 : decode c_W_date 4 = .ok (.iload_n 1, 1) := by decide +kernel
theorem d_W_date_5 : decode c_W_date 5 = .ok (.iload_n 2, 1) := by decide +kernel
theorem d_W_date_6 : decode c_W_date 6 = .ok (.iload_n 3, 1) := by decide +kernel
theorem d_W_date_7 : decode c_W_date 7 = .ok (.invokevirtual 17, 3) := by decide +kernel
theorem d_W_date_10 : decode c_W_date 10 = .ok (.i2l, 1) := by decide +kernel
theorem d_W_date_11 : decode c_W_date 11 = .ok (.lastore, 1) := by decide +kernel
theorem d_W_date_12 : decode c_W_date 12 = .ok (.goto 11, 3) := by decide +kernel
theorem d_W_date_15 : decode c_W_date 15 = .ok (.astore 5, 2) := by decide +kernel
theorem d_W_date_17 : decode c_W_date 17 = .ok (.iconst 1, 1) := by decide +kernel
theorem d_W_date_18 : decode c_W_date 18 = .ok (.ireturn, 1) := by decide +kernel
theorem d_W_date_19 : decode c_W_date 19 = .ok (.astore 5, 2) := by decide +kernel
theorem d_W_date_21 : decode c_W_date 21 = .ok (.iconst 2, 1) := by decide +kernel
theorem d_W_date_22 : decode c_W_date 22 = .ok (.ireturn, 1) := by decide +kernel
theorem d_W_date_23 : decode c_W_date 23 = .ok (.iconst 0, 1) := by decide +kernel
theorem d_W_date_24 : decode c_W_date 24 = .ok (.ireturn, 1) := by decide +kernel
theorem d_W_feast_0 : decode c_W_feast 0 = .ok (.aload_n 3, 1) := by decide +kernel
theorem d_W_feast_1 : decode c_W_feast 1 = .ok (.iconst 0, 1) := by decide +kernel
theorem d_W_feast_2 : decode c_W_feast 2 = .ok (.aload_n 0, 1) := by decide +kernel
theorem d_W_feast_3 : decode c_W_feast 3 = .ok (.iload_n 1, 1) := by decide +kernel
theorem d_W_feast_4 : decode c_W_feast 4 = .ok (.iload_n 2, 1) := by decide +kernel
theorem d_W_feast_5 : decode c_W_feast 5 = .ok (.invokevirtual 37, 3) := by decide +kernel
theorem d_W_feast_8 : decode c_W_feast 8 = .ok (.i2l, 1) := by decide +kernel
theorem d_W_feast_9 : decode c_W_feast 9 = .ok (.lastore, 1) := by decide +kernel
theorem d_W_feast_10 : decode c_W_feast 10 = .ok (.goto 11, 3) := by decide +kernel
theorem d_W_feast_13 : decode c_W_feast 13 = .ok (.astore 4, 2) := by decide +kernel
theorem d_W_feast_15 : decode c_W_feast 15 = .ok (.iconst 1, 1) := by decide +kernel
theorem d_W_feast_16 : decode c_W_feast 16 = .ok (.ireturn, 1) := by decide +kernel
theorem d_W_feast_17 : decode c_W_feast 17 = .ok (.astore 4, 2) := by decide +kernel
theorem d_W_feast_19 : decode c_W_feast 19 = .ok (.iconst 2, 1) := by decide +kernel
theorem d_W_feast_20 : decode c_W_feast 20 = .ok (.ireturn, 1) := by decide +kernel
theorem d_W_feast_21 : decode c_W_feast 21 = .ok (.iconst 0, 1) := by decide +kernel
theorem d_W_feast_22 : decode c_W_feast 22 = .ok (.ireturn, 1) := by decide +kernel
theorem d_W_fixed_0 : decode c_W_fixed 0 = .ok (.aload 5, 2) := by decide +kernel
theorem d_W_fixed_2 : decode c_W_fixed 2 = .ok (.iconst 0, 1) := by decide +kernel
theorem d_W_fixed_3 : decode c_W_fixed 3 = .ok (.aload_n 0, 1) := by decide +kernel
theorem d_W_fixed_4 : decode c_W_fixed 4 = .ok (.iload_n 1, 1) := by decide +kernel
theorem d_W_fixed_5 : decode c_W_fixed 5 = .ok (.iload_n 2, 1) := by decide +kernel
theorem d_W_fixed_6 : decode c_W_fixed 6 = .ok (.iload_n 3, 1) := by decide +kernel
theorem d_W_fixed_7 : decode c_W_fixed 7 = .ok (.iload 4, 2) := by decide +kernel
theorem d_W_fixed_9 : decode c_W_fixed 9 = .ok (.invokevirtual 23, 3) := by decide +kernel
theorem d_W_fixed_12 : decode c_W_fixed 12 = .ok (.i2l, 1) := by decide +kernel
theorem d_W_fixed_13 : decode c_W_fixed 13 = .ok (.lastore, 1) := by decide +kernel
theorem d_W_fixed_14 : decode c_W_fixed 14 = .ok (.goto 15, 3) := by decide +kernel
theorem d_W_fixed_17 : decode c_W_fixed 17 = .ok (.astore 6, 2) := by decide +kernel
theorem d_W_fixed_19 : decode c_W_fixed 19 = .ok (.iconst 1, 1) := by decide +kernel
theorem d_W_fixed_20 : decode c_W_fixed 20 = .ok (.ireturn, 1) := by decide +kernel
theorem d_W_fixed_21 : decode c_W_fixed 21 = .ok (.astore 6, 2) := by decide +kernel
theorem d_W_fixed_23 : decode c_W_fixed 23 = .ok (.iconst 2, 1) := by decide +kernel
theorem d_W_fixed_24 : decode c_W_fixed 24 = .ok (.ireturn, 1) := by decide +kernel
theorem d_W_fixed_25 : decode c_W_fixed 25 = .ok (.astore 6, 2) := by decide +kernel
theorem d_W_fixed_27 : decode c_W_fixed 27 = .ok (.iconst 3, 1) := by decide +kernel
theorem d_W_fixed_28 : decode c_W_fixed 28 = .ok (.ireturn, 1) := by decide +kernel
theorem d_W_fixed_29 : decode c_W_fixed 29 = .ok (.iconst 0, 1) := by decide +kernel
theorem d_W_fixed_30 : decode c_W_fixed 30 = .ok (.ireturn, 1) := by decide +kernel
theorem d_W_leap_0 : decode c_W_leap 0 = .ok (.aload_n 3, 1) := by decide +kernel
theorem d_W_leap_1 : decode c_W_leap 1 = .ok (.iconst 0, 1) := by decide +kernel
theorem d_W_leap_2 : decode c_W_leap 2 = .ok (.aload_n 0, 1) := by decide +kernel
theorem d_W_leap_3 : decode c_W_leap 3 = .ok (.iload_n 1, 1) := by decide +kernel
theorem d_W_leap_4 : decode c_W_leap 4 = .ok (.iload_n 2, 1) := by decide +kernel
theorem d_W_leap_5 : decode c_W_leap 5 = .ok (.invokevirtual 27, 3) := by decide +kernel
theorem d_W_leap_8 : decode c_W_leap 8 = .ok (.ifCond .eq 7, 3) := by decide +kernel
theorem d_W_leap_11 : decode c_W_leap 11 = .ok (.lconst 1, 1) := by decide +kernel
theorem d_W_leap_12 : decode c_W_leap 12 = .ok (.goto 4, 3) := by decide +kernel
theorem d_W_leap_15 : decode c_W_leap 15 = .ok (.lconst 0, 1) := by decide +kernel
theorem d_W_leap_16 : decode c_W_leap 16 = .ok (.lastore, 1) := by decide +kernel
theorem d_W_leap_17 : decode c_W_leap 17 = .ok (.goto 19, 3) := by decide +kernel
theorem d_W_leap_20 : decode c_W_leap 20 = .ok (.astore 4, 2) := by decide +kernel
theorem d_W_leap_22 : decode c_W_leap 22 = .ok (.iconst 1, 1) := by decide +kernel
theorem d_W_leap_23 : decode c_W_leap 23 = .ok (.ireturn, 1) := by decide +kernel
theorem d_W_leap_24 : decode c_W_leap 24 = .ok (.astore 4, 2) := by decide +kernel
theorem d_W_leap_26 : decode c_W_leap 26 = .ok (.iconst 2, 1) := by decide +kernel
theorem d_W_leap_27 : decode c_W_leap 27 = .ok (.ireturn, 1) := by decide +kernel
theorem d_W_leap_28 : decode c_W_leap 28 = .ok (.astore 4, 2) := by decide +kernel
theorem d_W_leap_30 : decode c_W_leap 30 = .ok (.iconst 3, 1) := by decide +kernel
theorem d_W_leap_31 : decode c_W_leap 31 = .ok (.ireturn, 1) := by decide +kernel
theorem d_W_leap_32 : decode c_W_leap 32 = .ok (.astore 4, 2) := by decide +kernel
theorem d_W_leap_34 : decode c_W_leap 34 = .ok (.iconst 4, 1) := by decide +kernel
theorem d_W_leap_35 : decode c_W_leap 35 = .ok (.ireturn, 1) := by decide +kernel
theorem d_W_leap_36 : decode c_W_leap 36 = .ok (.iconst 0, 1) := by decide +kernel
theorem d_W_leap_37 : decode c_W_leap 37 = .ok (.ireturn, 1) := by decide +kernel
theorem d_W_onOrBefore_0 : decode c_W_onOrBefore 0 = .ok (.aload_n 3, 1) := by decide +kernel
theorem d_W_onOrBefore_1 : decode c_W_onOrBefore 1 = .ok (.iconst 0, 1) := by decide +kernel
theorem d_W_onOrBefore_2 : decode c_W_onOrBefore 2 = .ok (.aload_n 0, 1) := by decide +kernel
theorem d_W_onOrBefore_3 : decode c_W_onOrBefore 3 = .ok (.iload_n 1, 1) := by decide +kernel
theorem d_W_onOrBefore_4 : decode c_W_onOrBefore 4 = .ok (.iload_n 2, 1) := by decide +kernel
theorem d_W_onOrBefore_5 : decode c_W_onOrBefore 5 = .ok (.invokevirtual 33, 3) := by decide +kernel
theorem d_W_onOrBefore_8 : decode c_W_onOrBefore 8 = .ok (.i2l, 1) := by decide +kernel
theorem d_W_onOrBefore_9 : decode c_W_onOrBefore 9 = .ok (.lastore, 1) := by decide +kernel
theorem d_W_onOrBefore_10 : decode c_W_onOrBefore 10 = .ok (.goto 11, 3) := by decide +kernel
theorem d_W_onOrBefore_13 : decode c_W_onOrBefore 13 = .ok (.astore 4, 2) := by decide +kernel
theorem d_W_onOrBefore_15 : decode c_W_onOrBefore 15 = .ok (.iconst 1, 1) := by decide +kernel
theorem d_W_onOrBefore_16 : decode c_W_onOrBefore 16 = .ok (.ireturn, 1) := by decide +kernel
theorem d_W_onOrBefore_17 : decode c_W_onOrBefore 17 = .ok (.astore 4, 2) := by decide +kernel
theorem d_W_onOrBefore_19 : decode c_W_onOrBefore 19 = .ok (.iconst 2, 1) := by decide +kernel
theorem d_W_onOrBefore_20 : decode c_W_onOrBefore 20 = .ok (.ireturn, 1) := by decide +kernel
theorem d_W_onOrBefore_21 : decode c_W_onOrBefore 21 = .ok (.iconst 0, 1) := by decide +kernel
theorem d_W_onOrBefore_22 : decode c_W_onOrBefore 22 = .ok (.ireturn, 1) := by decide +kernel
theorem d_W_plug_0 : decode c_W_plug 0 = .ok (.aload 8, 2) := by decide +kernel
theorem d_W_plug_2 : decode c_W_plug 2 = .ok (.iconst 0, 1) := by decide +kernel
theorem d_W_plug_3 : decode c_W_plug 3 = .ok (.aload_n 0, 1) := by decide +kernel
theorem d_W_plug_4 : decode c_W_plug 4 = .ok (.iload_n 1, 1) := by decide +kernel
theorem d_W_plug_5 : decode c_W_plug 5 = .ok (.iload_n 2, 1) := by decide +kernel
theorem d_W_plug_6 : decode c_W_plug 6 = .ok (.iload_n 3, 1) := by decide +kernel
theorem d_W_plug_7 : decode c_W_plug 7 = .ok (.iload 4, 2) := by decide +kernel
theorem d_W_plug_9 : decode c_W_plug 9 = .ok (.iload 5, 2) := by decide +kernel
theorem d_W_plug_11 : decode c_W_plug 11 = .ok (.iload 6, 2) := by decide +kernel
theorem d_W_plug_13 : decode c_W_plug 13 = .ok (.iload 7, 2) := by decide +kernel
theorem d_W_plug_15 : decode c_W_plug 15 = .ok (.invokevirtual 7, 3) := by decide +kernel
theorem d_W_plug_18 : decode c_W_plug 18 = .ok (.ifCond .eq 7, 3) := by decide +kernel
theorem d_W_plug_21 : decode c_W_plug 21 = .ok (.lconst 1, 1) := by decide +kernel
theorem d_W_plug_22 : decode c_W_plug 22 = .ok (.goto 4, 3) := by decide +kernel
theorem d_W_plug_25 : decode c_W_plug 25 = .ok (.lconst 0, 1) := by decide +kernel
theorem d_W_plug_26 : decode c_W_plug 26 = .ok (.lastore, 1) := by decide +kernel
theorem d_W_plug_27 : decode c_W_plug 27 = .ok (.goto 11, 3) := by decide +kernel
theorem d_W_plug_30 : decode c_W_plug 30 = .ok (.astore 9, 2) := by decide +kernel
theorem d_W_plug_32 : decode c_W_plug 32 = .ok (.iconst 1, 1) := by decide +kernel
theorem d_W_plug_33 : decode c_W_plug 33 = .ok (.ireturn, 1) := by decide +kernel
theorem d_W_plug_34 : decode c_W_plug 34 = .ok (.astore 9, 2) := by decide +kernel
theorem d_W_plug_36 : decode c_W_plug 36 = .ok (.iconst 2, 1) := by decide +kernel
theorem d_W_plug_37 : decode c_W_plug 37 = .ok (.ireturn, 1) := by decide +kernel
theorem d_W_plug_38 : decode c_W_plug 38 = .ok (.iconst 0, 1) := by decide +kernel
theorem d_W_plug_39 : decode c_W_plug 39 = .ok (.ireturn, 1) := by decide +kernel
theorem d_W_read_0 : decode c_W_read 0 = .ok (.aload_n 2, 1) := by decide +kernel
theorem d_W_read_1 : decode c_W_read 1 = .ok (.iconst 0, 1) := by decide +kernel
theorem d_W_read_2 : decode c_W_read 2 = .ok (.aload_n 0, 1) := by decide +kernel
theorem d_W_read_3 : decode c_W_read 3 = .ok (.iload_n 1, 1) := by decide +kernel
theorem d_W_read_4 : decode c_W_read 4 = .ok (.invokevirtual 47, 3) := by decide +kernel
theorem d_W_read_7 : decode c_W_read 7 = .ok (.i2l, 1) := by decide +kernel
theorem d_W_read_8 : decode c_W_read 8 = .ok (.lastore, 1) := by decide +kernel
theorem d_W_read_9 : decode c_W_read 9 = .ok (.goto 9, 3) := by decide +kernel
theorem d_W_read_12 : decode c_W_read 12 = .ok (.astore_n 3, 1) := by decide +kernel
theorem d_W_read_13 : decode c_W_read 13 = .ok (.iconst 1, 1) := by decide +kernel
theorem d_W_read_14 : decode c_W_read 14 = .ok (.ireturn, 1) := by decide +kernel
theorem d_W_read_15 : decode c_W_read 15 = .ok (.astore_n 3, 1) := by decide +kernel
theorem d_W_read_16 : decode c_W_read 16 = .ok (.iconst 2, 1) := by decide +kernel
theorem d_W_read_17 : decode c_W_read 17 = .ok (.ireturn, 1) := by decide +kernel
theorem d_W_read_18 : decode c_W_read 18 = .ok (.iconst 0, 1) := by decide +kernel
theorem d_W_read_19 : decode c_W_read 19 = .ok (.ireturn, 1) := by decide +kernel
theorem d_W_when_0 : decode c_W_when 0 = .ok (.aload 6, 2) := by decide +kernel
theorem d_W_when_2 : decode c_W_when 2 = .ok (.iconst 0, 1) := by decide +kernel
theorem d_W_when_3 : decode c_W_when 3 = .ok (.aload_n 0, 1) := by decide +kernel
theorem d_W_when_4 : decode c_W_when 4 = .ok (.iload_n 1, 1) := by decide +kernel
theorem d_W_when_5 : decode c_W_when 5 = .ok (.iload_n 2, 1) := by decide +kernel
theorem d_W_when_6 : decode c_W_when 6 = .ok (.iload_n 3, 1) := by decide +kernel
theorem d_W_when_7 : decode c_W_when 7 = .ok (.iload 4, 2) := by decide +kernel
theorem d_W_when_9 : decode c_W_when 9 = .ok (.iload 5, 2) := by decide +kernel
theorem d_W_when_11 : decode c_W_when 11 = .ok (.invokevirtual 40, 3) := by decide +kernel
theorem d_W_when_14 : decode c_W_when 14 = .ok (.i2l, 1) := by decide +kernel
theorem d_W_when_15 : decode c_W_when 15 = .ok (.lastore, 1) := by decide +kernel
theorem d_W_when_16 : decode c_W_when 16 = .ok (.goto 11, 3) := by decide +kernel
theorem d_W_when_19 : decode c_W_when 19 = .ok (.astore 7, 2) := by decide +kernel
theorem d_W_when_21 : decode c_W_when 21 = .ok (.iconst 1, 1) := by decide +kernel
theorem d_W_when_22 : decode c_W_when 22 = .ok (.ireturn, 1) := by decide +kernel
theorem d_W_when_23 : decode c_W_when 23 = .ok (.astore 7, 2) := by decide +kernel
theorem d_W_when_25 : decode c_W_when 25 = .ok (.iconst 2, 1) := by decide +kernel
theorem d_W_when_26 : decode c_W_when 26 = .ok (.ireturn, 1) := by decide +kernel
theorem d_W_when_27 : decode c_W_when 27 = .ok (.iconst 0, 1) := by decide +kernel
theorem d_W_when_28 : decode c_W_when 28 = .ok (.ireturn, 1) := by decide +kernel
theorem d_W_write_0 : decode c_W_write 0 = .ok (.aload_n 3, 1) := by decide +kernel
theorem d_W_write_1 : decode c_W_write 1 = .ok (.iconst 0, 1) := by decide +kernel
theorem d_W_write_2 : decode c_W_write 2 = .ok (.aload_n 0, 1) := by decide +kernel
theorem d_W_write_3 : decode c_W_write 3 = .ok (.iload_n 1, 1) := by decide +kernel
theorem d_W_write_4 : decode c_W_write 4 = .ok (.iload_n 2, 1) := by decide +kernel
theorem d_W_write_5 : decode c_W_write 5 = .ok (.invokevirtual 44, 3) := by decide +kernel
theorem d_W_write_8 : decode c_W_write 8 = .ok (.i2l, 1) := by decide +kernel
theorem d_W_write_9 : decode c_W_write 9 = .ok (.lastore, 1) := by decide +kernel
theorem d_W_write_10 : decode c_W_write 10 = .ok (.goto 11, 3) := by decide +kernel
theorem d_W_write_13 : decode c_W_write 13 = .ok (.astore 4, 2) := by decide +kernel
theorem d_W_write_15 : decode c_W_write 15 = .ok (.iconst 1, 1) := by decide +kernel
theorem d_W_write_16 : decode c_W_write 16 = .ok (.ireturn, 1) := by decide +kernel
theorem d_W_write_17 : decode c_W_write 17 = .ok (.astore 4, 2) := by decide +kernel
theorem d_W_write_19 : decode c_W_write 19 = .ok (.iconst 2, 1) := by decide +kernel
theorem d_W_write_20 : decode c_W_write 20 = .ok (.ireturn, 1) := by decide +kernel
theorem d_W_write_21 : decode c_W_write 21 = .ok (.iconst 0, 1) := by decide +kernel
theorem d_W_write_22 : decode c_W_write 22 = .ok (.ireturn, 1) := by decide +kernel
end
section
/-! numbers of the machine as Int: iI x, iL x are the int and the long of the number x; bI P is 1 where P holds, else 0 -/
def iI (x : Int) : Int32 := Int32.ofInt x
def iL (x : Int) : Int64 := Int64.ofInt x
noncomputable def bI (P : Prop) : Int := @ite Int P (Classical.propDecidable P) 1 0
theorem bI_t {P : Prop} (h : P) : bI P = 1 := by unfold bI; exact if_pos h
theorem bI_f {P : Prop} (h : ¬ P) : bI P = 0 := by unfold bI; exact if_neg h
theorem bI_iff {P Q : Prop} (h : P ↔ Q) : bI P = bI Q := by rw [propext h]
theorem bI_01 (P : Prop) : 0 ≤ bI P ∧ bI P ≤ 1 := by
  by_cases h : P
  · rw [bI_t h]; decide
  · rw [bI_f h]; decide
theorem iI_toInt {a : Int} (h : -2147483648 ≤ a ∧ a ≤ 2147483647) : (iI a).toInt = a := Int32.toInt_ofInt_of_le (by omega) (by omega)
theorem iL_toInt {a : Int} (h : -9223372036854775808 ≤ a ∧ a ≤ 9223372036854775807) : (iL a).toInt = a := Int64.toInt_ofInt_of_le (by omega) (by omega)
theorem iI_of (x : Int32) : iI x.toInt = x := Int32.ofInt_toInt x
theorem iL_of (x : Int64) : iL x.toInt = x := Int64.ofInt_toInt x
theorem iI_rng (x : Int32) : -2147483648 ≤ x.toInt ∧ x.toInt ≤ 2147483647 := ⟨Int32.le_toInt x, by have := Int32.toInt_lt x; omega⟩
theorem iL_rng (x : Int64) : -9223372036854775808 ≤ x.toInt ∧ x.toInt ≤ 9223372036854775807 := ⟨Int64.le_toInt x, by have := Int64.toInt_lt x; omega⟩
theorem iI_add (a b : Int) : iI a + iI b = iI (a + b) := (Int32.ofInt_add a b).symm
theorem iI_sub (a b : Int) : iI a - iI b = iI (a - b) := (Int32.ofInt_sub a b).symm
theorem iI_mul (a b : Int) : iI a * iI b = iI (a * b) := (Int32.ofInt_mul a b).symm
theorem iI_neg (a : Int) : -iI a = iI (-a) := (Int32.ofInt_neg a).symm
theorem iL_add (a b : Int) : iL a + iL b = iL (a + b) := (Int64.ofInt_add a b).symm
theorem iL_sub (a b : Int) : iL a - iL b = iL (a - b) := (Int64.ofInt_sub a b).symm
theorem iL_mul (a b : Int) : iL a * iL b = iL (a * b) := (Int64.ofInt_mul a b).symm
theorem iL_neg (a : Int) : -iL a = iL (-a) := (Int64.ofInt_neg a).symm
theorem iI_lt {a b : Int} (ha : (-2147483648 ≤ a ∧ a ≤ 2147483647)) (hb : (-2147483648 ≤ b ∧ b ≤ 2147483647)) : iI a < iI b ↔ a < b := by
  rw [Int32.lt_iff_toInt_lt, iI_toInt ha, iI_toInt hb]
theorem iI_le {a b : Int} (ha : (-2147483648 ≤ a ∧ a ≤ 2147483647)) (hb : (-2147483648 ≤ b ∧ b ≤ 2147483647)) : iI a ≤ iI b ↔ a ≤ b := by
  rw [Int32.le_iff_toInt_le, iI_toInt ha, iI_toInt hb]
theorem iI_eq {a b : Int} (ha : (-2147483648 ≤ a ∧ a ≤ 2147483647)) (hb : (-2147483648 ≤ b ∧ b ≤ 2147483647)) : iI a = iI b ↔ a = b := by
  rw [← Int32.toInt_inj, iI_toInt ha, iI_toInt hb]
theorem iI_tdiv {a b : Int} (ha : (-2147483648 ≤ a ∧ a ≤ 2147483647)) (hb : (-2147483648 ≤ b ∧ b ≤ 2147483647)) (hn : b ≠ -1) : iI a / iI b = iI (a.tdiv b) := by
  rw [← Int32.toInt_inj, Int32.toInt_div_of_ne_right _ _ (fun h => hn ((iI_eq hb (by decide)).mp (h.trans (by decide +kernel)))), iI_toInt ha, iI_toInt hb, iI_toInt]
  have h1 : (a.tdiv b).natAbs ≤ a.natAbs := by rw [Int.natAbs_tdiv]; exact Nat.div_le_self _ _
  by_cases h : a = -2147483648
  · subst h
    refine ⟨by omega, ?_⟩
    by_cases h0 : b = 0
    · subst h0; decide
    · by_cases hp : 0 < b
      · have : Int.tdiv (-2147483648) b ≤ 0 := by
          have := Int.tdiv_nonneg (a := 2147483647+1) (b := b) (by decide) (by omega)
          have e := Int.neg_tdiv (2147483647+1) b
          have e2 : (-(2147483647+1) : Int) = -2147483648 := by decide
          rw [e2] at e
          omega
        omega
      · have h3 : (Int.tdiv (-2147483648) b).natAbs ≤ (-2147483648 : Int).natAbs / 2 := by
          rw [Int.natAbs_tdiv]
          exact Nat.div_le_div_left (by omega) (by decide)
        have h4 : (-2147483648 : Int).natAbs / 2 ≤ 2147483647 := by decide
        omega
  · omega
theorem iL_lt {a b : Int} (ha : (-9223372036854775808 ≤ a ∧ a ≤ 9223372036854775807)) (hb : (-9223372036854775808 ≤ b ∧ b ≤ 9223372036854775807)) : iL a < iL b ↔ a < b := by
  rw [Int64.lt_iff_toInt_lt, iL_toInt ha, iL_toInt hb]
theorem iL_le {a b : Int} (ha : (-9223372036854775808 ≤ a ∧ a ≤ 9223372036854775807)) (hb : (-9223372036854775808 ≤ b ∧ b ≤ 9223372036854775807)) : iL a ≤ iL b ↔ a ≤ b := by
  rw [Int64.le_iff_toInt_le, iL_toInt ha, iL_toInt hb]
theorem iL_eq {a b : Int} (ha : (-9223372036854775808 ≤ a ∧ a ≤ 9223372036854775807)) (hb : (-9223372036854775808 ≤ b ∧ b ≤ 9223372036854775807)) : iL a = iL b ↔ a = b := by
  rw [← Int64.toInt_inj, iL_toInt ha, iL_toInt hb]
theorem iL_tdiv {a b : Int} (ha : (-9223372036854775808 ≤ a ∧ a ≤ 9223372036854775807)) (hb : (-9223372036854775808 ≤ b ∧ b ≤ 9223372036854775807)) (hn : b ≠ -1) : iL a / iL b = iL (a.tdiv b) := by
  rw [← Int64.toInt_inj, Int64.toInt_div_of_ne_right _ _ (fun h => hn ((iL_eq hb (by decide)).mp (h.trans (by decide +kernel)))), iL_toInt ha, iL_toInt hb, iL_toInt]
  have h1 : (a.tdiv b).natAbs ≤ a.natAbs := by rw [Int.natAbs_tdiv]; exact Nat.div_le_self _ _
  by_cases h : a = -9223372036854775808
  · subst h
    refine ⟨by omega, ?_⟩
    by_cases h0 : b = 0
    · subst h0; decide
    · by_cases hp : 0 < b
      · have : Int.tdiv (-9223372036854775808) b ≤ 0 := by
          have := Int.tdiv_nonneg (a := 9223372036854775807+1) (b := b) (by decide) (by omega)
          have e := Int.neg_tdiv (9223372036854775807+1) b
          have e2 : (-(9223372036854775807+1) : Int) = -9223372036854775808 := by decide
          rw [e2] at e
          omega
        omega
      · have h3 : (Int.tdiv (-9223372036854775808) b).natAbs ≤ (-9223372036854775808 : Int).natAbs / 2 := by
          rw [Int.natAbs_tdiv]
          exact Nat.div_le_div_left (by omega) (by decide)
        have h4 : (-9223372036854775808 : Int).natAbs / 2 ≤ 9223372036854775807 := by decide
        omega
  · omega
theorem iI_ltz {a : Int} (ha : -2147483648 ≤ a ∧ a ≤ 2147483647) : iI a < 0 ↔ a < 0 := iI_lt (b := 0) ha (by decide)
theorem iI_gez {a : Int} (ha : -2147483648 ≤ a ∧ a ≤ 2147483647) : 0 ≤ iI a ↔ 0 ≤ a := iI_le (a := 0) (by decide) ha
theorem iI_gtz {a : Int} (ha : -2147483648 ≤ a ∧ a ≤ 2147483647) : 0 < iI a ↔ 0 < a := iI_lt (a := 0) (by decide) ha
theorem iI_lez {a : Int} (ha : -2147483648 ≤ a ∧ a ≤ 2147483647) : iI a ≤ 0 ↔ a ≤ 0 := iI_le (b := 0) ha (by decide)
theorem iI_eqz {a : Int} (ha : -2147483648 ≤ a ∧ a ≤ 2147483647) : iI a = 0 ↔ a = 0 := iI_eq (b := 0) ha (by decide)
theorem iI_i2l {a : Int} (ha : -2147483648 ≤ a ∧ a ≤ 2147483647) : (iI a).toInt64 = iL a := by
  rw [← Int64.toInt_inj, Int32.toInt_toInt64, iI_toInt ha, iL_toInt (by omega)]
theorem iL_l2i (a : Int) : (iL a).toInt32 = iI a := Int64.toInt32_ofInt
theorem iI_nI (n : Nat) : iI (n : Int) = nI n := Int32.ofInt_eq_ofNat
theorem iI_cl {n : Nat} (h : n < 2147483648) : (iI (n : Int)).toNatClampNeg = n := by rw [iI_nI]; exact nI_clamp h
theorem iI_in {a : Int} {n : Nat} (h0 : 0 ≤ a) (h : a < n) (hn : n < 2147483648) : vp_in (iI a) n := by
  rw [vp_in_iff, iI_toInt (by omega)]
  exact ⟨h0, h⟩
theorem iI_clT {a : Int} (h0 : 0 ≤ a) (h : a < 2147483648) : (iI a).toNatClampNeg = a.toNat := by
  obtain ⟨n, rfl⟩ := Int.eq_ofNat_of_zero_le h0
  rw [iI_cl (by omega)]
  omega
theorem iI_andM (a : Int) (k : Nat) {M : Int32} (hM : M.toBitVec.toNat = 2 ^ k - 1) (hk : k ≤ 30) : iI a &&& M = iI (a % ((2 ^ k : Nat) : Int)) := by
  rw [pk_and (iI a) k hM]
  have e : (iI a).toBitVec.toNat = (a % 4294967296).toNat := by
    show (BitVec.ofInt 32 a).toNat = _
    rw [BitVec.toNat_ofInt]
    rfl
  have hd : ((2 ^ k : Nat) : Int) ∣ 4294967296 := ⟨((2 ^ (32 - k) : Nat) : Int), by
    rw [← Int.natCast_mul, ← Nat.pow_add, show k + (32 - k) = 32 by omega]; decide⟩
  have h0 : (0 : Int) < ((2 ^ k : Nat) : Int) := by have := Nat.two_pow_pos k; omega
  rw [← iI_nI, e]
  congr 1
  rw [Int.natCast_emod, Int.toNat_of_nonneg (Int.emod_nonneg _ (by decide)), Int.emod_emod_of_dvd _ hd]
theorem iI_char (a : Int) : ((iI a).toUInt32 % 65536).toInt32 = iI (a % 65536) := by
  rw [pk_char]
  have e : (iI a).toBitVec.toNat = (a % 4294967296).toNat := by
    show (BitVec.ofInt 32 a).toNat = _
    rw [BitVec.toNat_ofInt]
    rfl
  rw [← iI_nI, e]
  congr 1
  omega
theorem iL_shr {a : Int} (n k : Nat) (ha : -9223372036854775808 ≤ a ∧ a ≤ 9223372036854775807) (D : Int64) (hD : (D.toBitVec.smod 64).toNat = k) (hk : 2 ^ k = n) : iL a >>> D = iL (a / (n : Int)) := by
  have h0 : 0 < n := by rw [← hk]; exact Nat.two_pow_pos k
  have h1 : -9223372036854775808 ≤ a / (n : Int) ∧ a / (n : Int) ≤ 9223372036854775807 := by
    constructor
    · refine Int.le_ediv_of_mul_le (by omega) ?_
      omega
    · by_cases hs : 0 ≤ a
      · have := Int.ediv_le_self n hs; omega
      · have := Int.ediv_neg_of_neg_of_pos (show a < 0 by omega) (show (0 : Int) < n by omega); omega
  rw [← Int64.toInt_inj, iL_toInt h1]
  show ((BitVec.ofInt 64 a).sshiftRight (D.toBitVec.smod 64).toNat).toInt = _
  rw [hD, BitVec.toInt_sshiftRight]
  have e : (BitVec.ofInt 64 a).toInt = a := iL_toInt ha
  rw [e, Int.shiftRight_eq_div_pow, hk]
section AI
variable {p : Program} {l : Launch} {e : Env} {R : Room} {s : State} {m : MethodId} {args : Array Value} {below : List Frame} {meth : Method} {c : Code} {H : Heap} {locs : List Loc} {cells slots : Nat} {Q : State → Prop} {cc : ByteArray} {pc : Nat} {ls : Array Slot} {rest : List Value}
theorem ai_iconst (hexec : p.tables.exec = Jvm.exec) (hb : c.code = cc) {n : Int} (hdg : decode cc pc = .ok (.iconst n, 1)) (k : W p l e R s m args below meth c H locs cells slots Q (F0 m (pc + 1) ls (.int (iI n) :: rest))) : W p l e R s m args below meth c H locs cells slots Q (F0 m pc ls rest) :=
  lv_iconst hexec hb hdg rfl k
theorem ai_bipush (hexec : p.tables.exec = Jvm.exec) (hb : c.code = cc) {n x : Int} (hdg : decode cc pc = .ok (.bipush n, 2)) (hv : (Int8.ofInt n).toInt32 = iI x) (k : W p l e R s m args below meth c H locs cells slots Q (F0 m (pc + 2) ls (.int (iI x) :: rest))) : W p l e R s m args below meth c H locs cells slots Q (F0 m pc ls rest) :=
  lv_bipush hexec hb hdg hv k
theorem ai_sipush (hexec : p.tables.exec = Jvm.exec) (hb : c.code = cc) {n x : Int} (hdg : decode cc pc = .ok (.sipush n, 3)) (hv : (Int16.ofInt n).toInt32 = iI x) (k : W p l e R s m args below meth c H locs cells slots Q (F0 m (pc + 3) ls (.int (iI x) :: rest))) : W p l e R s m args below meth c H locs cells slots Q (F0 m pc ls rest) :=
  lv_sipush hexec hb hdg hv k
theorem ai_lconst (hexec : p.tables.exec = Jvm.exec) (hb : c.code = cc) {n : Fin 2} {x : Int} (hdg : decode cc pc = .ok (.lconst n, 1)) (hv : Int64.ofNat (n : Nat) = iL x) (k : W p l e R s m args below meth c H locs cells slots Q (F0 m (pc + 1) ls (.long (iL x) :: rest))) : W p l e R s m args below meth c H locs cells slots Q (F0 m pc ls rest) :=
  lv_lconst hexec hb hdg hv k
theorem ai_ldc (hexec : p.tables.exec = Jvm.exec) (hb : c.code = cc) {own : String} {index : Nat} {v : Int32} {x : Int} (hown : s.vm.findClass own = some m.cls) (hconst : (Jvm.Cond.constant own index v).before args s = true) (hv : v = iI x) (hdg : decode cc pc = .ok (.ldc index, 2)) (k : W p l e R s m args below meth c H locs cells slots Q (F0 m (pc + 2) ls (.int (iI x) :: rest))) : W p l e R s m args below meth c H locs cells slots Q (F0 m pc ls rest) :=
  lv_ldc hexec hb hown hconst hdg (by rw [hv]; exact k)
theorem ai_ldcw (hexec : p.tables.exec = Jvm.exec) (hb : c.code = cc) {own : String} {index : Nat} {v : Int32} {x : Int} (hown : s.vm.findClass own = some m.cls) (hconst : (Jvm.Cond.constant own index v).before args s = true) (hv : v = iI x) (hdg : decode cc pc = .ok (.ldc_w index, 3)) (k : W p l e R s m args below meth c H locs cells slots Q (F0 m (pc + 3) ls (.int (iI x) :: rest))) : W p l e R s m args below meth c H locs cells slots Q (F0 m pc ls rest) :=
  lv_ldcw hexec hb hown hconst hdg (by rw [hv]; exact k)
theorem ai_ldc2 (hexec : p.tables.exec = Jvm.exec) (hb : c.code = cc) {own : String} {index : Nat} {v : Int64} {x : Int} (hown : s.vm.findClass own = some m.cls) (hconst : (Jvm.Cond.constantLong own index v).before args s = true) (hv : v = iL x) (hdg : decode cc pc = .ok (.ldc2_w index, 3)) (k : W p l e R s m args below meth c H locs cells slots Q (F0 m (pc + 3) ls (.long (iL x) :: rest))) : W p l e R s m args below meth c H locs cells slots Q (F0 m pc ls rest) :=
  lv_ldc2 hexec hb hown hconst hdg (by rw [hv]; exact k)
theorem ai_iadd (hexec : p.tables.exec = Jvm.exec) (hb : c.code = cc) {a b : Int} (hdg : decode cc pc = .ok (.iadd, 1)) (k : W p l e R s m args below meth c H locs cells slots Q (F0 m (pc + 1) ls (.int (iI (a + b)) :: rest))) : W p l e R s m args below meth c H locs cells slots Q (F0 m pc ls (.int (iI b) :: .int (iI a) :: rest)) :=
  lv_iadd hexec hb hdg (by rw [iI_add]; exact k)
theorem ai_isub (hexec : p.tables.exec = Jvm.exec) (hb : c.code = cc) {a b : Int} (hdg : decode cc pc = .ok (.isub, 1)) (k : W p l e R s m args below meth c H locs cells slots Q (F0 m (pc + 1) ls (.int (iI (a - b)) :: rest))) : W p l e R s m args below meth c H locs cells slots Q (F0 m pc ls (.int (iI b) :: .int (iI a) :: rest)) :=
  lv_isub hexec hb hdg (by rw [iI_sub]; exact k)
theorem ai_imul (hexec : p.tables.exec = Jvm.exec) (hb : c.code = cc) {a b : Int} (hdg : decode cc pc = .ok (.imul, 1)) (k : W p l e R s m args below meth c H locs cells slots Q (F0 m (pc + 1) ls (.int (iI (a * b)) :: rest))) : W p l e R s m args below meth c H locs cells slots Q (F0 m pc ls (.int (iI b) :: .int (iI a) :: rest)) :=
  lv_imul hexec hb hdg (by rw [iI_mul]; exact k)
theorem ai_ladd (hexec : p.tables.exec = Jvm.exec) (hb : c.code = cc) {a b : Int} (hdg : decode cc pc = .ok (.ladd, 1)) (k : W p l e R s m args below meth c H locs cells slots Q (F0 m (pc + 1) ls (.long (iL (a + b)) :: rest))) : W p l e R s m args below meth c H locs cells slots Q (F0 m pc ls (.long (iL b) :: .long (iL a) :: rest)) :=
  lv_ladd hexec hb hdg (by rw [iL_add]; exact k)
theorem ai_lsub (hexec : p.tables.exec = Jvm.exec) (hb : c.code = cc) {a b : Int} (hdg : decode cc pc = .ok (.lsub, 1)) (k : W p l e R s m args below meth c H locs cells slots Q (F0 m (pc + 1) ls (.long (iL (a - b)) :: rest))) : W p l e R s m args below meth c H locs cells slots Q (F0 m pc ls (.long (iL b) :: .long (iL a) :: rest)) :=
  lv_lsub hexec hb hdg (by rw [iL_sub]; exact k)
theorem ai_lmul (hexec : p.tables.exec = Jvm.exec) (hb : c.code = cc) {a b : Int} (hdg : decode cc pc = .ok (.lmul, 1)) (k : W p l e R s m args below meth c H locs cells slots Q (F0 m (pc + 1) ls (.long (iL (a * b)) :: rest))) : W p l e R s m args below meth c H locs cells slots Q (F0 m pc ls (.long (iL b) :: .long (iL a) :: rest)) :=
  lv_lmul hexec hb hdg (by rw [iL_mul]; exact k)
theorem ai_ineg (hexec : p.tables.exec = Jvm.exec) (hb : c.code = cc) {a : Int} (hdg : decode cc pc = .ok (.ineg, 1)) (k : W p l e R s m args below meth c H locs cells slots Q (F0 m (pc + 1) ls (.int (iI (-a)) :: rest))) : W p l e R s m args below meth c H locs cells slots Q (F0 m pc ls (.int (iI a) :: rest)) :=
  lv_ineg hexec hb hdg (by rw [iI_neg]; exact k)
theorem ai_idiv (hexec : p.tables.exec = Jvm.exec) (hb : c.code = cc) {a b : Int} (hdg : decode cc pc = .ok (.idiv, 1)) (ra : (-2147483648 ≤ a ∧ a ≤ 2147483647)) (rb : (-2147483648 ≤ b ∧ b ≤ 2147483647)) (hn : b ≠ 0 ∧ b ≠ -1) (k : W p l e R s m args below meth c H locs cells slots Q (F0 m (pc + 1) ls (.int (iI (a.tdiv b)) :: rest))) : W p l e R s m args below meth c H locs cells slots Q (F0 m pc ls (.int (iI b) :: .int (iI a) :: rest)) :=
  lv_idiv hexec hb hdg (fun h => hn.1 ((iI_eq rb (by decide)).mp (h.trans (show _ = iI 0 from by decide +kernel)))) (by rw [iI_tdiv ra rb hn.2]; exact k)
theorem ai_irem (hexec : p.tables.exec = Jvm.exec) (hb : c.code = cc) {a b : Int} (hdg : decode cc pc = .ok (.irem, 1)) (ra : (-2147483648 ≤ a ∧ a ≤ 2147483647)) (rb : (-2147483648 ≤ b ∧ b ≤ 2147483647)) (hn : b ≠ 0 ∧ b ≠ -1) (k : W p l e R s m args below meth c H locs cells slots Q (F0 m (pc + 1) ls (.int (iI (a - a.tdiv b * b)) :: rest))) : W p l e R s m args below meth c H locs cells slots Q (F0 m pc ls (.int (iI b) :: .int (iI a) :: rest)) :=
  lv_irem hexec hb hdg (fun h => hn.1 ((iI_eq rb (by decide)).mp (h.trans (show _ = iI 0 from by decide +kernel)))) (by rw [iI_tdiv ra rb hn.2, iI_mul, iI_sub]; exact k)
theorem ai_lneg (hexec : p.tables.exec = Jvm.exec) (hb : c.code = cc) {a : Int} (hdg : decode cc pc = .ok (.lneg, 1)) (k : W p l e R s m args below meth c H locs cells slots Q (F0 m (pc + 1) ls (.long (iL (-a)) :: rest))) : W p l e R s m args below meth c H locs cells slots Q (F0 m pc ls (.long (iL a) :: rest)) :=
  lv_lneg hexec hb hdg (by rw [iL_neg]; exact k)
theorem ai_ldiv (hexec : p.tables.exec = Jvm.exec) (hb : c.code = cc) {a b : Int} (hdg : decode cc pc = .ok (.ldiv, 1)) (ra : (-9223372036854775808 ≤ a ∧ a ≤ 9223372036854775807)) (rb : (-9223372036854775808 ≤ b ∧ b ≤ 9223372036854775807)) (hn : b ≠ 0 ∧ b ≠ -1) (k : W p l e R s m args below meth c H locs cells slots Q (F0 m (pc + 1) ls (.long (iL (a.tdiv b)) :: rest))) : W p l e R s m args below meth c H locs cells slots Q (F0 m pc ls (.long (iL b) :: .long (iL a) :: rest)) :=
  lv_ldiv hexec hb hdg (fun h => hn.1 ((iL_eq rb (by decide)).mp (h.trans (show _ = iL 0 from by decide +kernel)))) (by rw [iL_tdiv ra rb hn.2]; exact k)
theorem ai_lrem (hexec : p.tables.exec = Jvm.exec) (hb : c.code = cc) {a b : Int} (hdg : decode cc pc = .ok (.lrem, 1)) (ra : (-9223372036854775808 ≤ a ∧ a ≤ 9223372036854775807)) (rb : (-9223372036854775808 ≤ b ∧ b ≤ 9223372036854775807)) (hn : b ≠ 0 ∧ b ≠ -1) (k : W p l e R s m args below meth c H locs cells slots Q (F0 m (pc + 1) ls (.long (iL (a - a.tdiv b * b)) :: rest))) : W p l e R s m args below meth c H locs cells slots Q (F0 m pc ls (.long (iL b) :: .long (iL a) :: rest)) :=
  lv_lrem hexec hb hdg (fun h => hn.1 ((iL_eq rb (by decide)).mp (h.trans (show _ = iL 0 from by decide +kernel)))) (by rw [iL_tdiv ra rb hn.2, iL_mul, iL_sub]; exact k)
theorem ai_i2l (hexec : p.tables.exec = Jvm.exec) (hb : c.code = cc) {a : Int} (hdg : decode cc pc = .ok (.i2l, 1)) (ra : (-2147483648 ≤ a ∧ a ≤ 2147483647)) (k : W p l e R s m args below meth c H locs cells slots Q (F0 m (pc + 1) ls (.long (iL a) :: rest))) : W p l e R s m args below meth c H locs cells slots Q (F0 m pc ls (.int (iI a) :: rest)) :=
  lv_i2l hexec hb hdg (iI_i2l ra) k
theorem ai_l2i (hexec : p.tables.exec = Jvm.exec) (hb : c.code = cc) {a : Int} (hdg : decode cc pc = .ok (.l2i, 1)) (k : W p l e R s m args below meth c H locs cells slots Q (F0 m (pc + 1) ls (.int (iI a) :: rest))) : W p l e R s m args below meth c H locs cells slots Q (F0 m pc ls (.long (iL a) :: rest)) :=
  lv_l2i hexec hb hdg (iL_l2i a) k
theorem ai_i2c (hexec : p.tables.exec = Jvm.exec) (hb : c.code = cc) {a : Int} (hdg : decode cc pc = .ok (.i2c, 1)) (k : W p l e R s m args below meth c H locs cells slots Q (F0 m (pc + 1) ls (.int (iI (a % 65536)) :: rest))) : W p l e R s m args below meth c H locs cells slots Q (F0 m pc ls (.int (iI a) :: rest)) :=
  lv_i2c hexec hb hdg (iI_char a) k
theorem ai_iand (hexec : p.tables.exec = Jvm.exec) (hb : c.code = cc) {a b : Int} (k0 : Nat) (hM : (iI b).toBitVec.toNat = 2 ^ k0 - 1) (hk0 : k0 ≤ 30) {n : Int} (hn : ((2 ^ k0 : Nat) : Int) = n) (hdg : decode cc pc = .ok (.iand, 1)) (k : W p l e R s m args below meth c H locs cells slots Q (F0 m (pc + 1) ls (.int (iI (a % n)) :: rest))) : W p l e R s m args below meth c H locs cells slots Q (F0 m pc ls (.int (iI b) :: .int (iI a) :: rest)) :=
  lv_iand hexec hb hdg (by rw [iI_andM a k0 hM hk0, hn]; exact k)
theorem ai_lshr (hexec : p.tables.exec = Jvm.exec) (hb : c.code = cc) {a b : Int} (n k0 : Nat) (hD : (((iI b).toInt64 &&& 63).toBitVec.smod 64).toNat = k0) (hk0 : 2 ^ k0 = n) (hdg : decode cc pc = .ok (.lshr, 1)) (ra : (-9223372036854775808 ≤ a ∧ a ≤ 9223372036854775807)) (k : W p l e R s m args below meth c H locs cells slots Q (F0 m (pc + 1) ls (.long (iL (a / (n : Int))) :: rest))) : W p l e R s m args below meth c H locs cells slots Q (F0 m pc ls (.int (iI b) :: .long (iL a) :: rest)) :=
  lv_lshr hexec hb hdg (iL_shr n k0 ra _ hD hk0) k
theorem ai_nmI (hexec : p.tables.exec = Jvm.exec) (hb : c.code = cc) {a : Int}  (k : ∀ y : Int, y = a → W p l e R s m args below meth c H locs cells slots Q (F0 m pc ls (.int (iI y) :: rest))) : W p l e R s m args below meth c H locs cells slots Q (F0 m pc ls (.int (iI a) :: rest)) :=
  k a rfl
theorem ai_nmL (hexec : p.tables.exec = Jvm.exec) (hb : c.code = cc) {a : Int}  (k : ∀ y : Int, y = a → W p l e R s m args below meth c H locs cells slots Q (F0 m pc ls (.long (iL y) :: rest))) : W p l e R s m args below meth c H locs cells slots Q (F0 m pc ls (.long (iL a) :: rest)) :=
  k a rfl
theorem ai_toI (hexec : p.tables.exec = Jvm.exec) (hb : c.code = cc) {a b : Int} (h : a = b) (k : W p l e R s m args below meth c H locs cells slots Q (F0 m pc ls (.int (iI b) :: rest))) : W p l e R s m args below meth c H locs cells slots Q (F0 m pc ls (.int (iI a) :: rest)) :=
  by rw [h]; exact k
theorem ai_toL (hexec : p.tables.exec = Jvm.exec) (hb : c.code = cc) {a b : Int} (h : a = b) (k : W p l e R s m args below meth c H locs cells slots Q (F0 m pc ls (.long (iL b) :: rest))) : W p l e R s m args below meth c H locs cells slots Q (F0 m pc ls (.long (iL a) :: rest)) :=
  by rw [h]; exact k
theorem ai_icmp_lt (hexec : p.tables.exec = Jvm.exec) (hb : c.code = cc) {a b : Int} {off : Int} {tgt : Nat} (hdg : decode cc pc = .ok (.if_icmp .lt off, 3)) (ht : (pc : Int) + off = (tgt : Int)) (ra : (-2147483648 ≤ a ∧ a ≤ 2147483647)) (rb : (-2147483648 ≤ b ∧ b ≤ 2147483647)) (kt : a < b → W p l e R s m args below meth c H locs cells slots Q (F0 m tgt ls rest)) (kf : b ≤ a → W p l e R s m args below meth c H locs cells slots Q (F0 m (pc + 3) ls rest)) : W p l e R s m args below meth c H locs cells slots Q (F0 m pc ls (.int (iI b) :: .int (iI a) :: rest)) :=
  lv_icmp_lt hexec hb hdg ht (fun h => kt ((iI_lt ra rb).mp h)) (fun h => kf (by have h2 := mt (iI_lt ra rb).mpr h; omega))
theorem ai_if_lt (hexec : p.tables.exec = Jvm.exec) (hb : c.code = cc) {a : Int} {off : Int} {tgt : Nat} (hdg : decode cc pc = .ok (.ifCond .lt off, 3)) (ht : (pc : Int) + off = (tgt : Int)) (ra : (-2147483648 ≤ a ∧ a ≤ 2147483647)) (kt : a < 0 → W p l e R s m args below meth c H locs cells slots Q (F0 m tgt ls rest)) (kf : 0 ≤ a → W p l e R s m args below meth c H locs cells slots Q (F0 m (pc + 3) ls rest)) : W p l e R s m args below meth c H locs cells slots Q (F0 m pc ls (.int (iI a) :: rest)) :=
  lv_if_lt hexec hb hdg ht (fun h => kt ((iI_ltz ra).mp h)) (fun h => kf (by have h2 := mt (iI_ltz ra).mpr h; omega))
theorem ai_lcmp_lt (hexec : p.tables.exec = Jvm.exec) (hb : c.code = cc) {a b : Int} {off : Int} {tgt : Nat} (hdg0 : decode cc pc = .ok (.lcmp, 1)) (hdg : decode cc (pc + 1) = .ok (.ifCond .lt off, 3)) (ht : ((pc + 1 : Nat) : Int) + off = (tgt : Int)) (ra : (-9223372036854775808 ≤ a ∧ a ≤ 9223372036854775807)) (rb : (-9223372036854775808 ≤ b ∧ b ≤ 9223372036854775807)) (kt : a < b → W p l e R s m args below meth c H locs cells slots Q (F0 m tgt ls rest)) (kf : b ≤ a → W p l e R s m args below meth c H locs cells slots Q (F0 m (pc + 4) ls rest)) : W p l e R s m args below meth c H locs cells slots Q (F0 m pc ls (.long (iL b) :: .long (iL a) :: rest)) :=
  W.lcmp hexec hb hdg0 (lv_if_lt hexec hb hdg ht (fun h => kt ((iL_lt ra rb).mp ((lg_cmp_lt _ _).mp h))) (fun h => kf (by have h2 := mt (iL_lt ra rb).mpr (mt (lg_cmp_lt _ _).mpr h); omega)))
theorem ai_icmp_ge (hexec : p.tables.exec = Jvm.exec) (hb : c.code = cc) {a b : Int} {off : Int} {tgt : Nat} (hdg : decode cc pc = .ok (.if_icmp .ge off, 3)) (ht : (pc : Int) + off = (tgt : Int)) (ra : (-2147483648 ≤ a ∧ a ≤ 2147483647)) (rb : (-2147483648 ≤ b ∧ b ≤ 2147483647)) (kt : b ≤ a → W p l e R s m args below meth c H locs cells slots Q (F0 m tgt ls rest)) (kf : a < b → W p l e R s m args below meth c H locs cells slots Q (F0 m (pc + 3) ls rest)) : W p l e R s m args below meth c H locs cells slots Q (F0 m pc ls (.int (iI b) :: .int (iI a) :: rest)) :=
  lv_icmp_ge hexec hb hdg ht (fun h => kt ((iI_le rb ra).mp h)) (fun h => kf (by have h2 := mt (iI_le rb ra).mpr h; omega))
theorem ai_if_ge (hexec : p.tables.exec = Jvm.exec) (hb : c.code = cc) {a : Int} {off : Int} {tgt : Nat} (hdg : decode cc pc = .ok (.ifCond .ge off, 3)) (ht : (pc : Int) + off = (tgt : Int)) (ra : (-2147483648 ≤ a ∧ a ≤ 2147483647)) (kt : 0 ≤ a → W p l e R s m args below meth c H locs cells slots Q (F0 m tgt ls rest)) (kf : a < 0 → W p l e R s m args below meth c H locs cells slots Q (F0 m (pc + 3) ls rest)) : W p l e R s m args below meth c H locs cells slots Q (F0 m pc ls (.int (iI a) :: rest)) :=
  lv_if_ge hexec hb hdg ht (fun h => kt ((iI_gez ra).mp h)) (fun h => kf (by have h2 := mt (iI_gez ra).mpr h; omega))
theorem ai_lcmp_ge (hexec : p.tables.exec = Jvm.exec) (hb : c.code = cc) {a b : Int} {off : Int} {tgt : Nat} (hdg0 : decode cc pc = .ok (.lcmp, 1)) (hdg : decode cc (pc + 1) = .ok (.ifCond .ge off, 3)) (ht : ((pc + 1 : Nat) : Int) + off = (tgt : Int)) (ra : (-9223372036854775808 ≤ a ∧ a ≤ 9223372036854775807)) (rb : (-9223372036854775808 ≤ b ∧ b ≤ 9223372036854775807)) (kt : b ≤ a → W p l e R s m args below meth c H locs cells slots Q (F0 m tgt ls rest)) (kf : a < b → W p l e R s m args below meth c H locs cells slots Q (F0 m (pc + 4) ls rest)) : W p l e R s m args below meth c H locs cells slots Q (F0 m pc ls (.long (iL b) :: .long (iL a) :: rest)) :=
  W.lcmp hexec hb hdg0 (lv_if_ge hexec hb hdg ht (fun h => kt ((iL_le rb ra).mp ((lg_cmp_ge _ _).mp h))) (fun h => kf (by have h2 := mt (iL_le rb ra).mpr (mt (lg_cmp_ge _ _).mpr h); omega)))
theorem ai_icmp_gt (hexec : p.tables.exec = Jvm.exec) (hb : c.code = cc) {a b : Int} {off : Int} {tgt : Nat} (hdg : decode cc pc = .ok (.if_icmp .gt off, 3)) (ht : (pc : Int) + off = (tgt : Int)) (ra : (-2147483648 ≤ a ∧ a ≤ 2147483647)) (rb : (-2147483648 ≤ b ∧ b ≤ 2147483647)) (kt : b < a → W p l e R s m args below meth c H locs cells slots Q (F0 m tgt ls rest)) (kf : a ≤ b → W p l e R s m args below meth c H locs cells slots Q (F0 m (pc + 3) ls rest)) : W p l e R s m args below meth c H locs cells slots Q (F0 m pc ls (.int (iI b) :: .int (iI a) :: rest)) :=
  lv_icmp_gt hexec hb hdg ht (fun h => kt ((iI_lt rb ra).mp h)) (fun h => kf (by have h2 := mt (iI_lt rb ra).mpr h; omega))
theorem ai_if_gt (hexec : p.tables.exec = Jvm.exec) (hb : c.code = cc) {a : Int} {off : Int} {tgt : Nat} (hdg : decode cc pc = .ok (.ifCond .gt off, 3)) (ht : (pc : Int) + off = (tgt : Int)) (ra : (-2147483648 ≤ a ∧ a ≤ 2147483647)) (kt : 0 < a → W p l e R s m args below meth c H locs cells slots Q (F0 m tgt ls rest)) (kf : a ≤ 0 → W p l e R s m args below meth c H locs cells slots Q (F0 m (pc + 3) ls rest)) : W p l e R s m args below meth c H locs cells slots Q (F0 m pc ls (.int (iI a) :: rest)) :=
  lv_if_gt hexec hb hdg ht (fun h => kt ((iI_gtz ra).mp h)) (fun h => kf (by have h2 := mt (iI_gtz ra).mpr h; omega))
theorem ai_lcmp_gt (hexec : p.tables.exec = Jvm.exec) (hb : c.code = cc) {a b : Int} {off : Int} {tgt : Nat} (hdg0 : decode cc pc = .ok (.lcmp, 1)) (hdg : decode cc (pc + 1) = .ok (.ifCond .gt off, 3)) (ht : ((pc + 1 : Nat) : Int) + off = (tgt : Int)) (ra : (-9223372036854775808 ≤ a ∧ a ≤ 9223372036854775807)) (rb : (-9223372036854775808 ≤ b ∧ b ≤ 9223372036854775807)) (kt : b < a → W p l e R s m args below meth c H locs cells slots Q (F0 m tgt ls rest)) (kf : a ≤ b → W p l e R s m args below meth c H locs cells slots Q (F0 m (pc + 4) ls rest)) : W p l e R s m args below meth c H locs cells slots Q (F0 m pc ls (.long (iL b) :: .long (iL a) :: rest)) :=
  W.lcmp hexec hb hdg0 (lv_if_gt hexec hb hdg ht (fun h => kt ((iL_lt rb ra).mp ((lg_cmp_gt _ _).mp h))) (fun h => kf (by have h2 := mt (iL_lt rb ra).mpr (mt (lg_cmp_gt _ _).mpr h); omega)))
theorem ai_icmp_le (hexec : p.tables.exec = Jvm.exec) (hb : c.code = cc) {a b : Int} {off : Int} {tgt : Nat} (hdg : decode cc pc = .ok (.if_icmp .le off, 3)) (ht : (pc : Int) + off = (tgt : Int)) (ra : (-2147483648 ≤ a ∧ a ≤ 2147483647)) (rb : (-2147483648 ≤ b ∧ b ≤ 2147483647)) (kt : a ≤ b → W p l e R s m args below meth c H locs cells slots Q (F0 m tgt ls rest)) (kf : b < a → W p l e R s m args below meth c H locs cells slots Q (F0 m (pc + 3) ls rest)) : W p l e R s m args below meth c H locs cells slots Q (F0 m pc ls (.int (iI b) :: .int (iI a) :: rest)) :=
  lv_icmp_le hexec hb hdg ht (fun h => kt ((iI_le ra rb).mp h)) (fun h => kf (by have h2 := mt (iI_le ra rb).mpr h; omega))
theorem ai_if_le (hexec : p.tables.exec = Jvm.exec) (hb : c.code = cc) {a : Int} {off : Int} {tgt : Nat} (hdg : decode cc pc = .ok (.ifCond .le off, 3)) (ht : (pc : Int) + off = (tgt : Int)) (ra : (-2147483648 ≤ a ∧ a ≤ 2147483647)) (kt : a ≤ 0 → W p l e R s m args below meth c H locs cells slots Q (F0 m tgt ls rest)) (kf : 0 < a → W p l e R s m args below meth c H locs cells slots Q (F0 m (pc + 3) ls rest)) : W p l e R s m args below meth c H locs cells slots Q (F0 m pc ls (.int (iI a) :: rest)) :=
  lv_if_le hexec hb hdg ht (fun h => kt ((iI_lez ra).mp h)) (fun h => kf (by have h2 := mt (iI_lez ra).mpr h; omega))
theorem ai_lcmp_le (hexec : p.tables.exec = Jvm.exec) (hb : c.code = cc) {a b : Int} {off : Int} {tgt : Nat} (hdg0 : decode cc pc = .ok (.lcmp, 1)) (hdg : decode cc (pc + 1) = .ok (.ifCond .le off, 3)) (ht : ((pc + 1 : Nat) : Int) + off = (tgt : Int)) (ra : (-9223372036854775808 ≤ a ∧ a ≤ 9223372036854775807)) (rb : (-9223372036854775808 ≤ b ∧ b ≤ 9223372036854775807)) (kt : a ≤ b → W p l e R s m args below meth c H locs cells slots Q (F0 m tgt ls rest)) (kf : b < a → W p l e R s m args below meth c H locs cells slots Q (F0 m (pc + 4) ls rest)) : W p l e R s m args below meth c H locs cells slots Q (F0 m pc ls (.long (iL b) :: .long (iL a) :: rest)) :=
  W.lcmp hexec hb hdg0 (lv_if_le hexec hb hdg ht (fun h => kt ((iL_le ra rb).mp ((lg_cmp_le _ _).mp h))) (fun h => kf (by have h2 := mt (iL_le ra rb).mpr (mt (lg_cmp_le _ _).mpr h); omega)))
theorem ai_icmp_eq (hexec : p.tables.exec = Jvm.exec) (hb : c.code = cc) {a b : Int} {off : Int} {tgt : Nat} (hdg : decode cc pc = .ok (.if_icmp .eq off, 3)) (ht : (pc : Int) + off = (tgt : Int)) (ra : (-2147483648 ≤ a ∧ a ≤ 2147483647)) (rb : (-2147483648 ≤ b ∧ b ≤ 2147483647)) (kt : a = b → W p l e R s m args below meth c H locs cells slots Q (F0 m tgt ls rest)) (kf : a ≠ b → W p l e R s m args below meth c H locs cells slots Q (F0 m (pc + 3) ls rest)) : W p l e R s m args below meth c H locs cells slots Q (F0 m pc ls (.int (iI b) :: .int (iI a) :: rest)) :=
  lv_icmp_eq hexec hb hdg ht (fun h => kt ((iI_eq ra rb).mp h)) (fun h => kf (by have h2 := mt (iI_eq ra rb).mpr h; omega))
theorem ai_if_eq (hexec : p.tables.exec = Jvm.exec) (hb : c.code = cc) {a : Int} {off : Int} {tgt : Nat} (hdg : decode cc pc = .ok (.ifCond .eq off, 3)) (ht : (pc : Int) + off = (tgt : Int)) (ra : (-2147483648 ≤ a ∧ a ≤ 2147483647)) (kt : a = 0 → W p l e R s m args below meth c H locs cells slots Q (F0 m tgt ls rest)) (kf : a ≠ 0 → W p l e R s m args below meth c H locs cells slots Q (F0 m (pc + 3) ls rest)) : W p l e R s m args below meth c H locs cells slots Q (F0 m pc ls (.int (iI a) :: rest)) :=
  lv_if_eq hexec hb hdg ht (fun h => kt ((iI_eqz ra).mp h)) (fun h => kf (by have h2 := mt (iI_eqz ra).mpr h; omega))
theorem ai_lcmp_eq (hexec : p.tables.exec = Jvm.exec) (hb : c.code = cc) {a b : Int} {off : Int} {tgt : Nat} (hdg0 : decode cc pc = .ok (.lcmp, 1)) (hdg : decode cc (pc + 1) = .ok (.ifCond .eq off, 3)) (ht : ((pc + 1 : Nat) : Int) + off = (tgt : Int)) (ra : (-9223372036854775808 ≤ a ∧ a ≤ 9223372036854775807)) (rb : (-9223372036854775808 ≤ b ∧ b ≤ 9223372036854775807)) (kt : a = b → W p l e R s m args below meth c H locs cells slots Q (F0 m tgt ls rest)) (kf : a ≠ b → W p l e R s m args below meth c H locs cells slots Q (F0 m (pc + 4) ls rest)) : W p l e R s m args below meth c H locs cells slots Q (F0 m pc ls (.long (iL b) :: .long (iL a) :: rest)) :=
  W.lcmp hexec hb hdg0 (lv_if_eq hexec hb hdg ht (fun h => kt ((iL_eq ra rb).mp ((lg_cmp_eq _ _).mp h))) (fun h => kf (by have h2 := mt (iL_eq ra rb).mpr (mt (lg_cmp_eq _ _).mpr h); omega)))
theorem ai_icmp_ne (hexec : p.tables.exec = Jvm.exec) (hb : c.code = cc) {a b : Int} {off : Int} {tgt : Nat} (hdg : decode cc pc = .ok (.if_icmp .ne off, 3)) (ht : (pc : Int) + off = (tgt : Int)) (ra : (-2147483648 ≤ a ∧ a ≤ 2147483647)) (rb : (-2147483648 ≤ b ∧ b ≤ 2147483647)) (kt : a ≠ b → W p l e R s m args below meth c H locs cells slots Q (F0 m tgt ls rest)) (kf : a = b → W p l e R s m args below meth c H locs cells slots Q (F0 m (pc + 3) ls rest)) : W p l e R s m args below meth c H locs cells slots Q (F0 m pc ls (.int (iI b) :: .int (iI a) :: rest)) :=
  lv_icmp_ne hexec hb hdg ht (fun h => kt (mt (iI_eq ra rb).mpr h)) (fun h => kf ((iI_eq ra rb).mp h))
theorem ai_if_ne (hexec : p.tables.exec = Jvm.exec) (hb : c.code = cc) {a : Int} {off : Int} {tgt : Nat} (hdg : decode cc pc = .ok (.ifCond .ne off, 3)) (ht : (pc : Int) + off = (tgt : Int)) (ra : (-2147483648 ≤ a ∧ a ≤ 2147483647)) (kt : a ≠ 0 → W p l e R s m args below meth c H locs cells slots Q (F0 m tgt ls rest)) (kf : a = 0 → W p l e R s m args below meth c H locs cells slots Q (F0 m (pc + 3) ls rest)) : W p l e R s m args below meth c H locs cells slots Q (F0 m pc ls (.int (iI a) :: rest)) :=
  lv_if_ne hexec hb hdg ht (fun h => kt (mt (iI_eqz ra).mpr h)) (fun h => kf ((iI_eqz ra).mp h))
theorem ai_lcmp_ne (hexec : p.tables.exec = Jvm.exec) (hb : c.code = cc) {a b : Int} {off : Int} {tgt : Nat} (hdg0 : decode cc pc = .ok (.lcmp, 1)) (hdg : decode cc (pc + 1) = .ok (.ifCond .ne off, 3)) (ht : ((pc + 1 : Nat) : Int) + off = (tgt : Int)) (ra : (-9223372036854775808 ≤ a ∧ a ≤ 9223372036854775807)) (rb : (-9223372036854775808 ≤ b ∧ b ≤ 9223372036854775807)) (kt : a ≠ b → W p l e R s m args below meth c H locs cells slots Q (F0 m tgt ls rest)) (kf : a = b → W p l e R s m args below meth c H locs cells slots Q (F0 m (pc + 4) ls rest)) : W p l e R s m args below meth c H locs cells slots Q (F0 m pc ls (.long (iL b) :: .long (iL a) :: rest)) :=
  W.lcmp hexec hb hdg0 (lv_if_ne hexec hb hdg ht (fun h => kt (mt (iL_eq ra rb).mpr (mt (lg_cmp_eq _ _).mpr h))) (fun h => kf ((iL_eq ra rb).mp ((lg_cmp_eq _ _).mp h))))
theorem ai_ifeqB (hexec : p.tables.exec = Jvm.exec) (hb : c.code = cc) {P : Prop} {off : Int} {tgt : Nat} (hdg : decode cc pc = .ok (.ifCond .eq off, 3)) (ht : (pc : Int) + off = (tgt : Int)) (kt : ¬ P → W p l e R s m args below meth c H locs cells slots Q (F0 m tgt ls rest)) (kf : P → W p l e R s m args below meth c H locs cells slots Q (F0 m (pc + 3) ls rest)) : W p l e R s m args below meth c H locs cells slots Q (F0 m pc ls (.int (iI (bI P)) :: rest)) :=
  lv_if_eq hexec hb hdg ht (fun h => kt (fun hP => by rw [bI_t hP] at h; revert h; decide +kernel)) (fun h => kf (Classical.byContradiction fun hP => by rw [bI_f hP] at h; revert h; decide +kernel))
theorem ai_ifneB (hexec : p.tables.exec = Jvm.exec) (hb : c.code = cc) {P : Prop} {off : Int} {tgt : Nat} (hdg : decode cc pc = .ok (.ifCond .ne off, 3)) (ht : (pc : Int) + off = (tgt : Int)) (kt : P → W p l e R s m args below meth c H locs cells slots Q (F0 m tgt ls rest)) (kf : ¬ P → W p l e R s m args below meth c H locs cells slots Q (F0 m (pc + 3) ls rest)) : W p l e R s m args below meth c H locs cells slots Q (F0 m pc ls (.int (iI (bI P)) :: rest)) :=
  lv_if_ne hexec hb hdg ht (fun h => kt (Classical.byContradiction fun hP => by rw [bI_f hP] at h; revert h; decide +kernel)) (fun h => kf (fun hP => by rw [bI_t hP] at h; revert h; decide +kernel))
theorem ai_iinc (hexec : p.tables.exec = Jvm.exec) (hb : c.code = cc) {i nL k : Nat} {n a : Int} {lv lv' : List (Nat × Value)} (hdg : decode cc pc = .ok (.iinc i n, 3)) (h : lv_has ls nL lv) (hk : lv[k]? = some (i, .int (iI a))) (hn : i < nL) (hl : (i, Value.int (iI (a + n))) :: lv.filter (fun q => !(q.1 == i) && !(q.1 + 1 == i && q.2.category == 2)) = lv') (kk : ∀ ls' : Array Slot, lv_has ls' nL lv' → W p l e R s m args below meth c H locs cells slots Q (F0 m (pc + 3) ls' rest)) : W p l e R s m args below meth c H locs cells slots Q (F0 m pc ls rest) :=
  lv_iinc hexec hb hdg h hk (iI_add a n) hn hl kk
end AI
end
section
/-! pure: floors, rules of leap years, starts of years, rows of months -/
theorem dv_uniq {x c q r : Int} (h : x = c * q + r) (h0 : 0 ≤ r) (h1 : r < c) : x / c = q := by
  have hc : c ≠ 0 := by omega
  rw [h, Int.add_comm, Int.add_mul_ediv_left _ _ hc, Int.ediv_eq_zero_of_lt h0 h1, Int.zero_add]
theorem md_uniq {x c q r : Int} (h : x = c * q + r) (h0 : 0 ≤ r) (h1 : r < c) : x % c = r := by
  rw [h, Int.add_comm, Int.add_mul_emod_self_left, Int.emod_eq_of_lt h0 h1]
/-- the reference's div: the truncated quotient, one less where it is too large -/
theorem dv_floor {x n : Int} (hn : 0 < n) : x / n = if x.tdiv n * n > x then x.tdiv n - 1 else x.tdiv n := by
  have h1 := Int.tdiv_mul_add_tmod x n
  split
  · rename_i h
    have h2 : x.tmod n < 0 := by omega
    have h3 : -n < x.tmod n := by
      have := Int.lt_tmod_of_pos x hn
      omega
    refine dv_uniq (r := x.tmod n + n) ?_ (by omega) (by omega)
    rw [Int.mul_sub, Int.mul_one, Int.mul_comm]
    omega
  · rename_i h
    have h3 : x.tmod n < n := Int.tmod_lt_of_pos x hn
    refine dv_uniq (r := x.tmod n) ?_ (by omega) h3
    rw [Int.mul_comm]
    omega
theorem dv_rng {x n lo hi : Int} (hn : 0 < n) (hlo : lo ≤ x) (hhi : x ≤ hi) (h0 : lo ≤ 0) (h1 : 0 ≤ hi) : lo ≤ x / n ∧ x / n ≤ hi := by
  constructor
  · refine Int.le_ediv_of_mul_le hn ?_
    have := Int.mul_le_mul_of_nonpos_left (a := lo) (b := n) (c := 1) h0 (by omega)
    omega
  · by_cases hs : 0 ≤ x
    · have := Int.ediv_le_self n hs; omega
    · have := Int.ediv_neg_of_neg_of_pos (show x < 0 by omega) hn; omega
theorem md_rng {x n : Int} (hn : 0 < n) : 0 ≤ x % n ∧ x % n < n := ⟨Int.emod_nonneg x (by omega), Int.emod_lt_of_pos x hn⟩
/-- (a y + b) div c grows by one just where (a y + b) mod c is below a -/
theorem spread_step {z a c : Int} (h0 : 0 ≤ a) (h1 : a ≤ c) (hc : 0 < c) : z / c - (z - a) / c = bI (z % c < a) := by
  have h2 := Int.mul_ediv_add_emod z c
  have h3 := md_rng (x := z) hc
  by_cases h : z % c < a
  · rw [bI_t h, dv_uniq (x := z - a) (c := c) (q := z / c - 1) (r := z % c - a + c) (by rw [Int.mul_sub]; omega) (by omega) (by omega)]
    omega
  · rw [bI_f h, dv_uniq (x := z - a) (c := c) (q := z / c) (r := z % c - a) (by omega) (by omega) (by omega)]
    omega
/-- leap years: of four, of the century, the 2820-year cycle, the moon's nineteen -/
def ylS (a b c y : Int) : Prop := (a * y + b) % c < a
def lbS (a b c y : Int) : Int := (a * (y - 1) + b) / c
def yl0 (y : Int) : Prop := y % 4 = 0 ∧ (y % 100 ≠ 0 ∨ y % 400 = 0)
def lb0 (y : Int) : Int := (y - 1) / 4 - (y - 1) / 100 + (y - 1) / 400
def yl7 (y : Int) : Prop := yl0 y ∧ y % 4000 ≠ 0
def lb7 (y : Int) : Int := lb0 y - (y - 1) / 4000
def yl6 (y : Int) : Prop := (((y - 474) % 2820 + 512) * 31) % 128 < 31
def lb6 (y : Int) : Int := 683 * ((y - 474) / 2820) + (((y - 474) % 2820 + 511) * 31) / 128
theorem lbS_step {a b c : Int} (h0 : 0 ≤ a) (h1 : a ≤ c) (hc : 0 < c) (y : Int) : lbS a b c (y + 1) = lbS a b c y + bI (ylS a b c y) := by
  have h := spread_step (z := a * y + b) h0 h1 hc
  have e : a * y + b - a = a * (y - 1) + b := by rw [Int.mul_sub]; omega
  rw [e] at h
  unfold lbS ylS
  rw [← h, show y + 1 - 1 = y by omega]
  omega
theorem lb0_step (y : Int) : lb0 (y + 1) = lb0 y + bI (yl0 y) := by
  unfold lb0
  by_cases h : yl0 y
  · rw [bI_t h]; unfold yl0 at h; omega
  · rw [bI_f h]; unfold yl0 at h; omega
theorem lb7_step (y : Int) : lb7 (y + 1) = lb7 y + bI (yl7 y) := by
  unfold lb7
  rw [lb0_step]
  by_cases h : yl0 y
  · by_cases h2 : y % 4000 = 0
    · rw [bI_t h, bI_f (fun q : yl7 y => q.2 h2)]; omega
    · rw [bI_t h, bI_t (P := yl7 y) ⟨h, h2⟩]; omega
  · rw [bI_f h, bI_f (fun q : yl7 y => h q.1)]; unfold yl0 at h; omega
theorem lb6_step (y : Int) : lb6 (y + 1) = lb6 y + bI (yl6 y) := by
  unfold lb6
  obtain ⟨z, hz⟩ : ∃ z, z = y - 474 := ⟨_, rfl⟩
  have e1 : y + 1 - 474 = z + 1 := by omega
  have hc : (z % 2820 = 2819 ∧ (z + 1) / 2820 = z / 2820 + 1 ∧ (z + 1) % 2820 = 0) ∨ (z % 2820 < 2819 ∧ (z + 1) / 2820 = z / 2820 ∧ (z + 1) % 2820 = z % 2820 + 1) := by omega
  unfold yl6
  rw [e1, ← hz]
  rcases hc with ⟨h1, h2, h3⟩ | ⟨h1, h2, h3⟩
  · rw [h2, h3, h1, bI_f (by decide)]; omega
  · rw [h2, h3]
    have h4 := spread_step (z := (z % 2820 + 512) * 31) (a := 31) (c := 128) (by decide) (by decide) (by decide)
    rw [← h4, show (z % 2820 + 1 + 511) * 31 = (z % 2820 + 512) * 31 by omega, show (z % 2820 + 511) * 31 = (z % 2820 + 512) * 31 - 31 by omega]
    omega
/-- a row of years: each starts behind the one before -/
def Inc (S : Int → Int) : Prop := ∀ y, S y < S (y + 1)
theorem Inc.add {S : Int → Int} (h : Inc S) (a : Int) : ∀ n : Nat, S a + n ≤ S (a + n)
  | 0 => by simp
  | n + 1 => by
    have h1 := Inc.add h a n
    have h2 := h (a + n)
    rw [show a + ((n + 1 : Nat) : Int) = a + n + 1 by omega]
    omega
theorem Inc.gap {S : Int → Int} (h : Inc S) {a b : Int} (hab : a ≤ b) : S a + (b - a) ≤ S b := by
  obtain ⟨n, hn⟩ := Int.eq_ofNat_of_zero_le (show 0 ≤ b - a by omega)
  have := h.add a n
  rw [show a + (n : Int) = b by omega] at this
  omega
theorem Inc.lt {S : Int → Int} (h : Inc S) {a b : Int} (hab : a < b) : S a < S b := by
  have := h.gap (show a + 1 ≤ b by omega)
  have := h a
  omega
theorem Inc.le_of {S : Int → Int} (h : Inc S) {a b d : Int} (ha : S a ≤ d) (hb : d < S (b + 1)) : a ≤ b := by
  by_cases hc : a ≤ b
  · exact hc
  · have := h.gap (show b + 1 ≤ a by omega)
    omega
theorem Inc.uniq {S : Int → Int} (h : Inc S) {a b d : Int} (ha : S a ≤ d) (ha2 : d < S (a + 1)) (hb : S b ≤ d) (hb2 : d < S (b + 1)) : a = b := by
  have h1 := h.le_of ha hb2
  have h2 := h.le_of hb ha2
  omega
/-- the start of year y: epoch ep, pd days in a plain year, L leap days before -/
def ys (ep pd : Int) (L : Int → Int) (y : Int) : Int := ep + pd * (y - 1) + L y - L 1
theorem ys_1 (ep pd : Int) (L : Int → Int) : ys ep pd L 1 = ep := by unfold ys; simp
theorem ys_step {ep pd : Int} {L : Int → Int} {P : Int → Prop} (hL : ∀ y, L (y + 1) = L y + bI (P y)) (y : Int) : ys ep pd L (y + 1) = ys ep pd L y + pd + bI (P y) := by
  unfold ys
  rw [hL, show pd * (y + 1 - 1) = pd * (y - 1) + pd by rw [show y + 1 - 1 = (y - 1) + 1 by omega, Int.mul_add, Int.mul_one]]
  omega
theorem ys_inc {ep pd : Int} {L : Int → Int} {P : Int → Prop} (hp : 1 ≤ pd) (hL : ∀ y, L (y + 1) = L y + bI (P y)) : Inc (ys ep pd L) := fun y => by
  rw [ys_step hL]
  have := bI_01 (P y)
  omega
/-- whole cycles: n years with K leap years each, however many -/
theorem ys_cyc {ep pd n K : Int} {L : Int → Int} (hK : ∀ q, L (q * n + 1) = L 1 + q * K) (q : Int) : ys ep pd L (q * n + 1) = ep + q * (pd * n + K) := by
  unfold ys
  rw [hK, Int.mul_add, show q * n + 1 - 1 = q * n by omega, ← Int.mul_assoc, ← Int.mul_assoc, Int.mul_comm pd q]
  omega
theorem lb0_cyc (q : Int) : lb0 (q * 400 + 1) = lb0 1 + q * 97 := by unfold lb0; omega
theorem lb7_cyc (q : Int) : lb7 (q * 4000 + 1) = lb7 1 + q * 969 := by unfold lb7 lb0; omega
theorem lb6_cyc (q : Int) : lb6 (q * 2820 + 1) = lb6 1 + q * 683 := by unfold lb6; omega
theorem lbS_cyc {a b c : Int} (hc : 0 < c) (q : Int) : lbS a b c (q * c + 1) = lbS a b c 1 + q * a := by
  unfold lbS
  rw [show a * (q * c + 1 - 1) + b = b + c * (q * a) by rw [show q * c + 1 - 1 = q * c by omega, ← Int.mul_assoc, Int.mul_comm (a * q) c, Int.mul_comm a q]; omega, Int.add_mul_ediv_left _ _ (by omega), show a * (1 - 1) + b = b by simp]
/-- sums of the lengths of months -/
def cm (f : Nat → Int) : Nat → Int
  | 0 => 0
  | n + 1 => cm f n + f n
theorem cm_mono {f : Nat → Int} (h : ∀ n, 0 ≤ f n) (a : Nat) : ∀ n : Nat, cm f a ≤ cm f (a + n)
  | 0 => Int.le_refl _
  | n + 1 => by
    have h1 := cm_mono h a n
    have h2 := h (a + n)
    have e : cm f (a + (n + 1)) = cm f (a + n) + f (a + n) := rfl
    rw [e]
    omega
theorem cm_le {f : Nat → Int} (h : ∀ n, 0 ≤ f n) {a b : Nat} (hab : a ≤ b) : cm f a ≤ cm f b := by
  have := cm_mono h a (b - a)
  rw [show a + (b - a) = b by omega] at this
  exact this
theorem cm_uniq {f : Nat → Int} (h : ∀ n, 0 ≤ f n) {a b : Nat} {x : Int} (ha : cm f a ≤ x) (ha2 : x < cm f (a + 1)) (hb : cm f b ≤ x) (hb2 : x < cm f (b + 1)) : a = b := by
  by_cases h1 : a + 1 ≤ b
  · have := cm_le h h1; omega
  · by_cases h2 : b + 1 ≤ a
    · have := cm_le h h2; omega
    · omega
end
section
/-! pure: the moon's years (calendar 9), the weeks (calendar 2) -/
def hmo (y : Int) : Int := (235 * y - 234) / 19
def hea (m : Int) : Int := 29 * m + (12084 + 13753 * m) / 25920
noncomputable def hpo (a : Int) : Int := bI ((3 * a + 3) % 7 < 3)
noncomputable def hel (y : Int) : Int := hea (hmo y) + hpo (hea (hmo y))
def yl9 (y : Int) : Prop := (7 * y + 1) % 19 < 7
noncomputable def hla (y : Int) : Int := if hel (y + 1) - hel y = 356 then 2 else if hel y - hel (y - 1) = 382 then 1 else 0
noncomputable def hst (y : Int) : Int := hel y + hla y - 1373427
theorem hmo_step (y : Int) : hmo (y + 1) = hmo y + 12 + bI (yl9 y) := by
  unfold hmo
  have hc : y % 19 = 0 ∨ y % 19 = 1 ∨ y % 19 = 2 ∨ y % 19 = 3 ∨ y % 19 = 4 ∨ y % 19 = 5 ∨ y % 19 = 6 ∨ y % 19 = 7 ∨ y % 19 = 8 ∨ y % 19 = 9 ∨ y % 19 = 10 ∨ y % 19 = 11 ∨ y % 19 = 12 ∨ y % 19 = 13 ∨ y % 19 = 14 ∨ y % 19 = 15 ∨ y % 19 = 16 ∨ y % 19 = 17 ∨ y % 19 = 18 := by omega
  by_cases h : yl9 y
  · rw [bI_t h]; unfold yl9 at h; rcases hc with h1 | h1 | h1 | h1 | h1 | h1 | h1 | h1 | h1 | h1 | h1 | h1 | h1 | h1 | h1 | h1 | h1 | h1 | h1 <;> omega
  · rw [bI_f h]; unfold yl9 at h; rcases hc with h1 | h1 | h1 | h1 | h1 | h1 | h1 | h1 | h1 | h1 | h1 | h1 | h1 | h1 | h1 | h1 | h1 | h1 | h1 <;> omega
theorem hea_12 (m : Int) : hea m + 354 ≤ hea (m + 12) ∧ hea (m + 12) ≤ hea m + 355 := by unfold hea; omega
theorem hea_13 (m : Int) : hea m + 383 ≤ hea (m + 13) ∧ hea (m + 13) ≤ hea m + 384 := by unfold hea; omega
theorem hea_24 (m : Int) : hea (m + 12 + 12) ≤ hea m + 709 := by unfold hea; omega
theorem hpo_or (a : Int) : (hpo a = 1 ∧ (a % 7 = 2 ∨ a % 7 = 4 ∨ a % 7 = 6)) ∨ (hpo a = 0 ∧ (a % 7 = 0 ∨ a % 7 = 1 ∨ a % 7 = 3 ∨ a % 7 = 5)) := by
  unfold hpo
  have hc : a % 7 = 0 ∨ a % 7 = 1 ∨ a % 7 = 2 ∨ a % 7 = 3 ∨ a % 7 = 4 ∨ a % 7 = 5 ∨ a % 7 = 6 := by omega
  by_cases h : (3 * a + 3) % 7 < 3
  · rw [bI_t h]; rcases hc with h1 | h1 | h1 | h1 | h1 | h1 | h1 <;> omega
  · rw [bI_f h]; rcases hc with h1 | h1 | h1 | h1 | h1 | h1 | h1 <;> omega
theorem yl9_two (y : Int) (h : yl9 y) : ¬ yl9 (y + 1) := by
  have hc : y % 19 = 0 ∨ y % 19 = 1 ∨ y % 19 = 2 ∨ y % 19 = 3 ∨ y % 19 = 4 ∨ y % 19 = 5 ∨ y % 19 = 6 ∨ y % 19 = 7 ∨ y % 19 = 8 ∨ y % 19 = 9 ∨ y % 19 = 10 ∨ y % 19 = 11 ∨ y % 19 = 12 ∨ y % 19 = 13 ∨ y % 19 = 14 ∨ y % 19 = 15 ∨ y % 19 = 16 ∨ y % 19 = 17 ∨ y % 19 = 18 := by omega
  unfold yl9 at h ⊢
  rcases hc with h1 | h1 | h1 | h1 | h1 | h1 | h1 | h1 | h1 | h1 | h1 | h1 | h1 | h1 | h1 | h1 | h1 | h1 | h1 <;> omega
/-- from one year to the next: days between the moons -/
theorem hea_step (y : Int) : (yl9 y ∧ hea (hmo y) + 383 ≤ hea (hmo (y + 1)) ∧ hea (hmo (y + 1)) ≤ hea (hmo y) + 384) ∨ (¬ yl9 y ∧ hea (hmo y) + 354 ≤ hea (hmo (y + 1)) ∧ hea (hmo (y + 1)) ≤ hea (hmo y) + 355) := by
  by_cases h : yl9 y
  · have e := hmo_step y
    rw [bI_t h] at e
    rw [e, show hmo y + 12 + 1 = hmo y + 13 by omega]
    exact Or.inl ⟨h, hea_13 _⟩
  · have e := hmo_step y
    rw [bI_f h] at e
    rw [e, show hmo y + 12 + 0 = hmo y + 12 by omega]
    exact Or.inr ⟨h, hea_12 _⟩
theorem hea_two (y : Int) (h : ¬ yl9 y) (h2 : ¬ yl9 (y + 1)) : hea (hmo (y + 1 + 1)) ≤ hea (hmo y) + 709 := by
  have e := hmo_step y
  have e2 := hmo_step (y + 1)
  rw [bI_f h] at e
  rw [bI_f h2] at e2
  rw [e2, e, show hmo y + 12 + 0 + 12 + 0 = hmo y + 12 + 12 by omega]
  exact hea_24 _
/-- a year of the moon has 353 to 355 days, a leap year 383 to 385 -/
theorem hst_len (y : Int) : (yl9 y ∧ hst y + 383 ≤ hst (y + 1) ∧ hst (y + 1) ≤ hst y + 385) ∨ (¬ yl9 y ∧ hst y + 353 ≤ hst (y + 1) ∧ hst (y + 1) ≤ hst y + 355) := by
  have s0 := hea_step (y - 1)
  have s1 := hea_step y
  have s2 := hea_step (y + 1)
  have t1 := hea_two y
  have n0 := yl9_two (y - 1)
  have n1 := yl9_two y
  rw [show y - 1 + 1 = y by omega] at s0 n0
  have p0 := hpo_or (hea (hmo (y - 1)))
  have p1 := hpo_or (hea (hmo y))
  have p2 := hpo_or (hea (hmo (y + 1)))
  have p3 := hpo_or (hea (hmo (y + 1 + 1)))
  unfold hst hla
  rw [show y + 1 - 1 = y by omega]
  unfold hel
  generalize hea (hmo (y - 1)) = a0 at *
  generalize hea (hmo y) = a1 at *
  generalize hea (hmo (y + 1)) = a2 at *
  generalize hea (hmo (y + 1 + 1)) = a3 at *
  generalize hpo a0 = b0 at *
  generalize hpo a1 = b1 at *
  generalize hpo a2 = b2 at *
  generalize hpo a3 = b3 at *
  by_cases q : yl9 y
  · have n0' : ¬ yl9 (y - 1) := fun h => n0 h q
    have n1' := n1 q
    refine Or.inl ⟨q, ?_⟩
    rcases s0 with ⟨h, _⟩ | ⟨-, s0⟩
    · exact absurd h n0'
    rcases s1 with ⟨-, s1⟩ | ⟨h, _⟩
    · rcases s2 with ⟨h, _⟩ | ⟨-, s2⟩
      · exact absurd h n1'
      · split <;> split <;> (try split) <;> (try split) <;> omega
    · exact absurd q h
  · refine Or.inr ⟨q, ?_⟩
    rcases s1 with ⟨h, _⟩ | ⟨-, s1⟩
    · exact absurd h q
    have t1 := t1 q
    rcases s0 with ⟨-, s0⟩ | ⟨-, s0⟩ <;> rcases s2 with ⟨-, s2⟩ | ⟨h2, s2⟩
    · split <;> split <;> (try split) <;> (try split) <;> omega
    · have t1 := t1 h2
      split <;> split <;> (try split) <;> (try split) <;> omega
    · split <;> split <;> (try split) <;> (try split) <;> omega
    · have t1 := t1 h2
      split <;> split <;> (try split) <;> (try split) <;> omega
theorem hst_inc : Inc hst := fun y => by have := hst_len y; omega
/-- weeks: the year starts at the Monday nearest to its first of January -/
def wst (S : Int → Int) (y : Int) : Int := S y + 3 - (S y + 3 - 1) % 7
theorem wst_len {S : Int → Int} (y : Int) (h : S y + 365 ≤ S (y + 1)) (h2 : S (y + 1) ≤ S y + 366) : wst S (y + 1) = wst S y + 364 ∨ wst S (y + 1) = wst S y + 371 := by
  unfold wst; omega
end
section
/-! the words: those of the tables that stay as they are (gw), and the links of nest mates, declared methods, casts (NW) -/
def gw : List Cond := lw_tbl.filter goodWord
theorem gw_t {w : Cond} (i : Nat) (h : tables_1[i]? = some w) (hg : goodWord w = true) : w ∈ gw :=
  List.mem_filter.mpr ⟨List.mem_append_right _ (List.mem_of_getElem? h), hg⟩
theorem gw_s {w : Cond} (i : Nat) (h : (k2_sels lw_privs)[i]? = some w) (hg : goodWord w = true) : w ∈ gw :=
  List.mem_filter.mpr ⟨List.mem_append_left _ (List.mem_of_getElem? h), hg⟩
theorem gw_good {w : Cond} (h : w ∈ gw) : (w.onTables && w.keeps) = true ∨ ∃ ty, w = .arrayClass ty := good_of_word (List.mem_filter.mp h).2
abbrev wo (y : MethodName) (cc : ByteArray) (maxL : Nat) (ret : Option FieldType) : List Cond := Cond.code y cc maxL ret :: gw
theorem gw_in {y : MethodName} {cc : ByteArray} {maxL : Nat} {ret : Option FieldType} (h : Cond.code y cc maxL ret ∈ gw) : GoodIn gw (wo y cc maxL ret) := fun w hw => by
  rcases List.mem_cons.mp hw with rfl | hw
  · exact ⟨h, gw_good h⟩
  · exact ⟨hw, gw_good hw⟩
theorem gw_all {L : List Cond} (h : ∀ w ∈ L, w ∈ gw) : GoodIn gw L := fun w hw => ⟨h w hw, gw_good (h w hw)⟩
def isNw : Cond → Bool
  | .declares _ => true
  | .methodLinkNest .. => true
  | .fieldLinkNest .. => true
  | .castable .. => true
  | _ => false
def NW (U : State) : Prop := ∀ w ∈ tables_1, isNw w = true → va_Nw w U
theorem NW.warm {s U : State} (hW : s.WarmedH U.vm) (h : NW s) : NW U := fun w hw hn => by
  cases w <;> first | exact va_Nw.warmD hW (h _ hw hn) | exact va_Nw.warmM hW (h _ hw hn) | exact va_Nw.warmF hW (h _ hw hn) | exact va_Nw.warmC hW (h _ hw hn) | (simp [isNw] at hn)
theorem isNw_on {w : Cond} (h : isNw w = true) : w.onTables = true := by
  cases w <;> first | rfl | (simp [isNw] at h)
theorem NW.calling {U : State} {g : JFrame} {mk : MethodId} {a : Array Value} (h : NW U) : NW (U.calling g mk a) := fun w hw hn => va_Nw.same (u := U) (U := U.calling g mk a) (isNw_on hn) rfl (h w hw hn)
theorem NW.get {U : State} (h : NW U) {w : Cond} (i : Nat) (hi : tables_1[i]? = some w) (hn : isNw w = true) : va_Nw w U := h w (List.mem_of_getElem? hi) hn
/-- what the tables say of a static method, of an instance method (n parameters) -/
def JS (y : MethodName) (bytes : ByteArray) (maxL : Nat) (ret : Option FieldType) (n : Nat) : Prop := Cond.code y bytes maxL ret ∈ gw ∧ Cond.initialized y.cls ∈ gw ∧ Cond.static y ∈ gw ∧ (y.cls ≠ "java/lang/invoke/MethodHandle" ∧ y.cls ≠ "java/lang/invoke/VarHandle" ∧ (parseMethodDescriptor y.desc).map (fun d => d.parameters.length) = some n)
def JV (y : MethodName) (bytes : ByteArray) (maxL : Nat) (ret : Option FieldType) (n : Nat) : Prop := Cond.code y bytes maxL ret ∈ gw ∧ Cond.initialized y.cls ∈ gw ∧ Cond.instanceMethod y ∈ gw ∧ (y.cls ≠ "java/lang/invoke/MethodHandle" ∧ y.cls ≠ "java/lang/invoke/VarHandle" ∧ (parseMethodDescriptor y.desc).map (fun d => d.parameters.length) = some n)
end
section
/-! words of the tables by their places, by program (wip/whole/names.py) -/
theorem k_32 : Cond.classLink "DayBookLaw" 8 "DayBook" ∈ gw := gw_t 32 (by decide +kernel) (by decide +kernel)
theorem k_33 : Cond.instantiable "DayBook" 5 ∈ gw := gw_t 33 (by decide +kernel) (by decide +kernel)
theorem k_34 : Cond.methodLink "DayBookLaw" 51 y_B_init ∈ gw := gw_t 34 (by decide +kernel) (by decide +kernel)
theorem k_37 : Cond.methodLink "DayBook" 1 y_JQ_init ∈ gw := gw_t 37 (by decide +kernel) (by decide +kernel)
theorem k_40 : Cond.classLink "DayBook" 7 "DayBook$MonthCalendar" ∈ gw := gw_t 40 (by decide +kernel) (by decide +kernel)
theorem k_41 : Cond.instantiable "DayBook$MonthCalendar" 7 ∈ gw := gw_t 41 (by decide +kernel) (by decide +kernel)
theorem k_42 : Cond.fieldLink "DayBook" 9 "DayBook" "NUMBERS" "[I" ∈ gw := gw_t 42 (by decide +kernel) (by decide +kernel)
theorem k_44 : Cond.fieldLink "DayBook" 15 "DayBook" "LENGTHS_OF_0" "[I" ∈ gw := gw_t 44 (by decide +kernel) (by decide +kernel)
theorem k_46 : Cond.classLink "DayBook" 18 "DayBook$CenturyRule" ∈ gw := gw_t 46 (by decide +kernel) (by decide +kernel)
theorem k_47 : Cond.instantiable "DayBook$CenturyRule" 2 ∈ gw := gw_t 47 (by decide +kernel) (by decide +kernel)
theorem k_48 : Cond.methodLink "DayBook" 20 y_CR_init ∈ gw := gw_t 48 (by decide +kernel) (by decide +kernel)
theorem k_54 : Cond.methodLink "DayBook$LeapRule" 1 y_JQ_init ∈ gw := gw_t 54 (by decide +kernel) (by decide +kernel)
theorem k_55 : Cond.fieldLink "DayBook$CenturyRule" 7 "DayBook$CenturyRule" "later" "J" ∈ gw := gw_t 55 (by decide +kernel) (by decide +kernel)
theorem k_56 : Cond.fieldLink "DayBook$CenturyRule" 13 "DayBook$CenturyRule" "dropsFourThousands" "Z" ∈ gw := gw_t 56 (by decide +kernel) (by decide +kernel)
theorem k_57 : Cond.laysFinal "DayBook$CenturyRule" "DayBook$CenturyRule" "later" "J" ∈ gw := gw_t 57 (by decide +kernel) (by decide +kernel)
theorem k_59 : Cond.laysFinal "DayBook$CenturyRule" "DayBook$CenturyRule" "dropsFourThousands" "Z" ∈ gw := gw_t 59 (by decide +kernel) (by decide +kernel)
theorem k_62 : Cond.methodLink "DayBook" 23 y_MC_init ∈ gw := gw_t 62 (by decide +kernel) (by decide +kernel)
theorem k_71 : Cond.methodLink "DayBook$Calendar" 1 y_JQ_init ∈ gw := gw_t 71 (by decide +kernel) (by decide +kernel)
theorem k_72 : Cond.fieldLink "DayBook$MonthCalendar" 7 "DayBook$MonthCalendar" "numbers" "[I" ∈ gw := gw_t 72 (by decide +kernel) (by decide +kernel)
theorem k_73 : Cond.fieldLink "DayBook$MonthCalendar" 13 "DayBook$MonthCalendar" "lengths" "[I" ∈ gw := gw_t 73 (by decide +kernel) (by decide +kernel)
theorem k_74 : Cond.fieldLink "DayBook$MonthCalendar" 16 "DayBook$MonthCalendar" "leapPlace" "I" ∈ gw := gw_t 74 (by decide +kernel) (by decide +kernel)
theorem k_75 : Cond.fieldLink "DayBook$MonthCalendar" 20 "DayBook$MonthCalendar" "epoch" "J" ∈ gw := gw_t 75 (by decide +kernel) (by decide +kernel)
theorem k_76 : Cond.fieldLink "DayBook$MonthCalendar" 24 "DayBook$MonthCalendar" "hasYear0" "Z" ∈ gw := gw_t 76 (by decide +kernel) (by decide +kernel)
theorem k_77 : Cond.fieldLink "DayBook$MonthCalendar" 28 "DayBook$MonthCalendar" "rule" "LDayBook$LeapRule;" ∈ gw := gw_t 77 (by decide +kernel) (by decide +kernel)
theorem k_78 : Cond.fieldLink "DayBook$MonthCalendar" 32 "DayBook$MonthCalendar" "plainDays" "I" ∈ gw := gw_t 78 (by decide +kernel) (by decide +kernel)
theorem k_79 : Cond.laysFinal "DayBook$MonthCalendar" "DayBook$MonthCalendar" "numbers" "[I" ∈ gw := gw_t 79 (by decide +kernel) (by decide +kernel)
theorem k_81 : Cond.laysFinal "DayBook$MonthCalendar" "DayBook$MonthCalendar" "lengths" "[I" ∈ gw := gw_t 81 (by decide +kernel) (by decide +kernel)
theorem k_83 : Cond.laysFinal "DayBook$MonthCalendar" "DayBook$MonthCalendar" "leapPlace" "I" ∈ gw := gw_t 83 (by decide +kernel) (by decide +kernel)
theorem k_85 : Cond.laysFinal "DayBook$MonthCalendar" "DayBook$MonthCalendar" "epoch" "J" ∈ gw := gw_t 85 (by decide +kernel) (by decide +kernel)
theorem k_87 : Cond.laysFinal "DayBook$MonthCalendar" "DayBook$MonthCalendar" "hasYear0" "Z" ∈ gw := gw_t 87 (by decide +kernel) (by decide +kernel)
theorem k_89 : Cond.laysFinal "DayBook$MonthCalendar" "DayBook$MonthCalendar" "rule" "LDayBook$LeapRule;" ∈ gw := gw_t 89 (by decide +kernel) (by decide +kernel)
theorem k_91 : Cond.laysFinal "DayBook$MonthCalendar" "DayBook$MonthCalendar" "plainDays" "I" ∈ gw := gw_t 91 (by decide +kernel) (by decide +kernel)
theorem k_94 : Cond.constantLong "DayBook" 30 (-1 : Int64) ∈ gw := gw_t 94 (by decide +kernel) (by decide +kernel)
theorem k_95 : Cond.classLink "DayBook" 32 "DayBook$SpreadRule" ∈ gw := gw_t 95 (by decide +kernel) (by decide +kernel)
theorem k_96 : Cond.instantiable "DayBook$SpreadRule" 3 ∈ gw := gw_t 96 (by decide +kernel) (by decide +kernel)
theorem k_97 : Cond.constantLong "DayBook" 34 (4 : Int64) ∈ gw := gw_t 97 (by decide +kernel) (by decide +kernel)
theorem k_98 : Cond.methodLink "DayBook" 36 y_SR_init ∈ gw := gw_t 98 (by decide +kernel) (by decide +kernel)
theorem k_102 : Cond.fieldLink "DayBook$SpreadRule" 7 "DayBook$SpreadRule" "a" "J" ∈ gw := gw_t 102 (by decide +kernel) (by decide +kernel)
theorem k_103 : Cond.fieldLink "DayBook$SpreadRule" 13 "DayBook$SpreadRule" "b" "J" ∈ gw := gw_t 103 (by decide +kernel) (by decide +kernel)
theorem k_104 : Cond.fieldLink "DayBook$SpreadRule" 16 "DayBook$SpreadRule" "c" "J" ∈ gw := gw_t 104 (by decide +kernel) (by decide +kernel)
theorem k_105 : Cond.laysFinal "DayBook$SpreadRule" "DayBook$SpreadRule" "a" "J" ∈ gw := gw_t 105 (by decide +kernel) (by decide +kernel)
theorem k_107 : Cond.laysFinal "DayBook$SpreadRule" "DayBook$SpreadRule" "b" "J" ∈ gw := gw_t 107 (by decide +kernel) (by decide +kernel)
theorem k_109 : Cond.laysFinal "DayBook$SpreadRule" "DayBook$SpreadRule" "c" "J" ∈ gw := gw_t 109 (by decide +kernel) (by decide +kernel)
theorem k_112 : Cond.classLink "DayBook" 42 "DayBook$HebrewCalendar" ∈ gw := gw_t 112 (by decide +kernel) (by decide +kernel)
theorem k_113 : Cond.instantiable "DayBook$HebrewCalendar" 0 ∈ gw := gw_t 113 (by decide +kernel) (by decide +kernel)
theorem k_119 : Cond.classLink "DayBook" 49 "DayBook$Calendar" ∈ gw := gw_t 119 (by decide +kernel) (by decide +kernel)
theorem k_121 : Cond.classLink "DayBook" 55 "DayBook$WeekCalendar" ∈ gw := gw_t 121 (by decide +kernel) (by decide +kernel)
theorem k_122 : Cond.instantiable "DayBook$WeekCalendar" 1 ∈ gw := gw_t 122 (by decide +kernel) (by decide +kernel)
theorem k_123 : Cond.methodLink "DayBook" 57 y_WC_init ∈ gw := gw_t 123 (by decide +kernel) (by decide +kernel)
theorem k_127 : Cond.fieldLink "DayBook$WeekCalendar" 7 "DayBook$WeekCalendar" "civil" "LDayBook$MonthCalendar;" ∈ gw := gw_t 127 (by decide +kernel) (by decide +kernel)
theorem k_128 : Cond.laysFinal "DayBook$WeekCalendar" "DayBook$WeekCalendar" "civil" "LDayBook$MonthCalendar;" ∈ gw := gw_t 128 (by decide +kernel) (by decide +kernel)
theorem k_131 : Cond.fieldLink "DayBook" 60 "DayBook" "LENGTHS_OF_3" "[I" ∈ gw := gw_t 131 (by decide +kernel) (by decide +kernel)
theorem k_133 : Cond.constantLong "DayBook" 63 (103605 : Int64) ∈ gw := gw_t 133 (by decide +kernel) (by decide +kernel)
theorem k_134 : Cond.constantLong "DayBook" 65 (2796 : Int64) ∈ gw := gw_t 134 (by decide +kernel) (by decide +kernel)
theorem k_135 : Cond.fieldLink "DayBook" 67 "DayBook" "LENGTHS_OF_5" "[I" ∈ gw := gw_t 135 (by decide +kernel) (by decide +kernel)
theorem k_137 : Cond.constantLong "DayBook" 70 (227015 : Int64) ∈ gw := gw_t 137 (by decide +kernel) (by decide +kernel)
theorem k_138 : Cond.constantLong "DayBook" 72 (11 : Int64) ∈ gw := gw_t 138 (by decide +kernel) (by decide +kernel)
theorem k_139 : Cond.constantLong "DayBook" 74 (14 : Int64) ∈ gw := gw_t 139 (by decide +kernel) (by decide +kernel)
theorem k_140 : Cond.constantLong "DayBook" 76 (30 : Int64) ∈ gw := gw_t 140 (by decide +kernel) (by decide +kernel)
theorem k_141 : Cond.fieldLink "DayBook" 78 "DayBook" "LENGTHS_OF_6" "[I" ∈ gw := gw_t 141 (by decide +kernel) (by decide +kernel)
theorem k_143 : Cond.constantLong "DayBook" 81 (226896 : Int64) ∈ gw := gw_t 143 (by decide +kernel) (by decide +kernel)
theorem k_144 : Cond.classLink "DayBook" 83 "DayBook$CycleRule" ∈ gw := gw_t 144 (by decide +kernel) (by decide +kernel)
theorem k_145 : Cond.instantiable "DayBook$CycleRule" 0 ∈ gw := gw_t 145 (by decide +kernel) (by decide +kernel)
theorem k_151 : Cond.constantLong "DayBook" 86 (654415 : Int64) ∈ gw := gw_t 151 (by decide +kernel) (by decide +kernel)
theorem k_152 : Cond.fieldLink "DayBook" 88 "DayBook" "NUMBERS_OF_8" "[I" ∈ gw := gw_t 152 (by decide +kernel) (by decide +kernel)
theorem k_154 : Cond.fieldLink "DayBook" 91 "DayBook" "LENGTHS_OF_8" "[I" ∈ gw := gw_t 154 (by decide +kernel) (by decide +kernel)
theorem k_156 : Cond.constantLong "DayBook" 94 (673222 : Int64) ∈ gw := gw_t 156 (by decide +kernel) (by decide +kernel)
theorem k_157 : Cond.constantLong "DayBook" 96 (1844 : Int64) ∈ gw := gw_t 157 (by decide +kernel) (by decide +kernel)
theorem k_158 : Cond.classLink "DayBook" 98 "DayBook$SolarCalendar" ∈ gw := gw_t 158 (by decide +kernel) (by decide +kernel)
theorem k_159 : Cond.instantiable "DayBook$SolarCalendar" 0 ∈ gw := gw_t 159 (by decide +kernel) (by decide +kernel)
theorem k_165 : Cond.classLink "DayBook" 101 "DayBook$LunarCalendar" ∈ gw := gw_t 165 (by decide +kernel) (by decide +kernel)
theorem k_166 : Cond.instantiable "DayBook$LunarCalendar" 0 ∈ gw := gw_t 166 (by decide +kernel) (by decide +kernel)
theorem k_172 : Cond.classLink "DayBook" 104 "java/lang/StringBuilder" ∈ gw := gw_t 172 (by decide +kernel) (by decide +kernel)
theorem k_173 : Cond.instantiable "java/lang/StringBuilder" 4 ∈ gw := gw_t 173 (by decide +kernel) (by decide +kernel)
theorem k_174 : Cond.methodLink "DayBook" 106 y_JB_init ∈ gw := gw_t 174 (by decide +kernel) (by decide +kernel)
theorem k_177 : Cond.methodLink "java/lang/StringBuilder" 1 y_JA_init ∈ gw := gw_t 177 (by decide +kernel) (by decide +kernel)
theorem k_180 : Cond.methodLink "java/lang/AbstractStringBuilder" 3 y_JQ_init ∈ gw := gw_t 180 (by decide +kernel) (by decide +kernel)
theorem k_181 : Cond.fieldLink "java/lang/AbstractStringBuilder" 18 "java/lang/String" "COMPACT_STRINGS" "Z" ∈ gw := gw_t 181 (by decide +kernel) (by decide +kernel)
theorem k_183 : Cond.methodLink "java/lang/AbstractStringBuilder" 26 y_JU_newBytesFor ∈ gw := gw_t 183 (by decide +kernel) (by decide +kernel)
theorem k_186 : Cond.methodLink "java/lang/StringUTF16" 11 y_JU_newBytesLength ∈ gw := gw_t 186 (by decide +kernel) (by decide +kernel)
theorem k_189 : Cond.constant "java/lang/StringUTF16" 20 (1073741823 : Int32) ∈ gw := gw_t 189 (by decide +kernel) (by decide +kernel)
theorem k_190 : Cond.fieldLink "java/lang/AbstractStringBuilder" 15 "java/lang/AbstractStringBuilder" "value" "[B" ∈ gw := gw_t 190 (by decide +kernel) (by decide +kernel)
theorem k_191 : Cond.fieldLink "java/lang/AbstractStringBuilder" 22 "java/lang/AbstractStringBuilder" "coder" "B" ∈ gw := gw_t 191 (by decide +kernel) (by decide +kernel)
theorem k_192 : Cond.fieldLink "java/lang/AbstractStringBuilder" 73 "java/lang/AbstractStringBuilder" "maybeLatin1" "Z" ∈ gw := gw_t 192 (by decide +kernel) (by decide +kernel)
theorem k_193 : Cond.fieldLink "java/lang/AbstractStringBuilder" 79 "java/lang/AbstractStringBuilder" "count" "I" ∈ gw := gw_t 193 (by decide +kernel) (by decide +kernel)
theorem k_194 : Cond.lays "java/lang/StringBuilder" "java/lang/AbstractStringBuilder" "value" "[B" ∈ gw := gw_t 194 (by decide +kernel) (by decide +kernel)
theorem k_196 : Cond.lays "java/lang/StringBuilder" "java/lang/AbstractStringBuilder" "coder" "B" ∈ gw := gw_t 196 (by decide +kernel) (by decide +kernel)
theorem k_198 : Cond.lays "java/lang/StringBuilder" "java/lang/AbstractStringBuilder" "maybeLatin1" "Z" ∈ gw := gw_t 198 (by decide +kernel) (by decide +kernel)
theorem k_200 : Cond.lays "java/lang/StringBuilder" "java/lang/AbstractStringBuilder" "count" "I" ∈ gw := gw_t 200 (by decide +kernel) (by decide +kernel)
theorem k_203 : Cond.arrayClass FieldType.byte ∈ gw := gw_t 203 (by decide +kernel) (by decide +kernel)
theorem k_204 : Cond.fieldLink "DayBook" 26 "DayBook" "civil" "LDayBook$MonthCalendar;" ∈ gw := gw_t 204 (by decide +kernel) (by decide +kernel)
theorem k_205 : Cond.fieldLink "DayBook" 39 "DayBook" "julian" "LDayBook$MonthCalendar;" ∈ gw := gw_t 205 (by decide +kernel) (by decide +kernel)
theorem k_206 : Cond.fieldLink "DayBook" 45 "DayBook" "hebrew" "LDayBook$HebrewCalendar;" ∈ gw := gw_t 206 (by decide +kernel) (by decide +kernel)
theorem k_207 : Cond.fieldLink "DayBook" 51 "DayBook" "calendars" "[LDayBook$Calendar;" ∈ gw := gw_t 207 (by decide +kernel) (by decide +kernel)
theorem k_208 : Cond.fieldLink "DayBook" 107 "DayBook" "row" "Ljava/lang/StringBuilder;" ∈ gw := gw_t 208 (by decide +kernel) (by decide +kernel)
theorem k_209 : Cond.laysFinal "DayBook" "DayBook" "civil" "LDayBook$MonthCalendar;" ∈ gw := gw_t 209 (by decide +kernel) (by decide +kernel)
theorem k_211 : Cond.laysFinal "DayBook" "DayBook" "julian" "LDayBook$MonthCalendar;" ∈ gw := gw_t 211 (by decide +kernel) (by decide +kernel)
theorem k_213 : Cond.laysFinal "DayBook" "DayBook" "hebrew" "LDayBook$HebrewCalendar;" ∈ gw := gw_t 213 (by decide +kernel) (by decide +kernel)
theorem k_215 : Cond.laysFinal "DayBook" "DayBook" "calendars" "[LDayBook$Calendar;" ∈ gw := gw_t 215 (by decide +kernel) (by decide +kernel)
theorem k_217 : Cond.laysFinal "DayBook" "DayBook" "row" "Ljava/lang/StringBuilder;" ∈ gw := gw_t 217 (by decide +kernel) (by decide +kernel)
theorem k_220 : Cond.methodLink "DayBookLaw" 80 y_B_rounds ∈ gw := gw_t 220 (by decide +kernel) (by decide +kernel)
theorem k_222 : Cond.selects "DayBook" y_B_rounds y_B_rounds ∈ gw := gw_t 222 (by decide +kernel) (by decide +kernel)
theorem k_224 : Cond.methodLink "DayBook" 129 y_B_isInRange ∈ gw := gw_t 224 (by decide +kernel) (by decide +kernel)
theorem k_227 : Cond.constantLong "DayBook" 227 (-40000000 : Int64) ∈ gw := gw_t 227 (by decide +kernel) (by decide +kernel)
theorem k_228 : Cond.constantLong "DayBook" 229 (40000000 : Int64) ∈ gw := gw_t 228 (by decide +kernel) (by decide +kernel)
theorem k_229 : Cond.methodLink "DayBook" 176 y_B_placeIn365 ∈ gw := gw_t 229 (by decide +kernel) (by decide +kernel)
theorem k_232 : Cond.constant "DayBook" 231 (1137490 : Int32) ∈ gw := gw_t 232 (by decide +kernel) (by decide +kernel)
theorem k_233 : Cond.methodLink "DayBook" 170 y_JM_floorMod_III ∈ gw := gw_t 233 (by decide +kernel) (by decide +kernel)
theorem k_236 : Cond.methodLink "DayBook" 180 y_B_placeIn260 ∈ gw := gw_t 236 (by decide +kernel) (by decide +kernel)
theorem k_239 : Cond.constant "DayBook" 232 (1137302 : Int32) ∈ gw := gw_t 239 (by decide +kernel) (by decide +kernel)
theorem k_240 : Cond.constant "DayBook" 183 (-2147483648 : Int32) ∈ gw := gw_t 240 (by decide +kernel) (by decide +kernel)
theorem k_241 : Cond.methodLink "DayBookLaw" 84 y_B_meeting ∈ gw := gw_t 241 (by decide +kernel) (by decide +kernel)
theorem k_243 : Cond.selects "DayBook" y_B_meeting y_B_meeting ∈ gw := gw_t 243 (by decide +kernel) (by decide +kernel)
theorem k_245 : Cond.methodLink "DayBookLaw" 98 y_B_type ∈ gw := gw_t 245 (by decide +kernel) (by decide +kernel)
theorem k_247 : Cond.selects "DayBook" y_B_type y_B_type ∈ gw := gw_t 247 (by decide +kernel) (by decide +kernel)
theorem k_249 : Cond.methodLink "DayBook" 213 y_B_isDecimal ∈ gw := gw_t 249 (by decide +kernel) (by decide +kernel)
theorem k_252 : Cond.methodLink "DayBook" 209 y_JB_length ∈ gw := gw_t 252 (by decide +kernel) (by decide +kernel)
theorem k_254 : Cond.selects "java/lang/StringBuilder" y_JB_length y_JB_length ∈ gw := gw_t 254 (by decide +kernel) (by decide +kernel)
theorem k_256 : Cond.methodLink "java/lang/StringBuilder" 343 y_JA_length ∈ gw := gw_t 256 (by decide +kernel) (by decide +kernel)
theorem k_259 : Cond.methodLink "DayBook" 206 y_JB_append_CStringBuilder ∈ gw := gw_t 259 (by decide +kernel) (by decide +kernel)
theorem k_261 : Cond.selects "java/lang/StringBuilder" y_JB_append_CStringBuilder y_JB_append_CStringBuilder ∈ gw := gw_t 261 (by decide +kernel) (by decide +kernel)
theorem k_263 : Cond.methodLink "java/lang/StringBuilder" 50 y_JA_append_CAbstractStrin ∈ gw := gw_t 263 (by decide +kernel) (by decide +kernel)
theorem k_266 : Cond.methodLink "java/lang/AbstractStringBuilder" 100 y_JA_ensureCapacityInternal ∈ gw := gw_t 266 (by decide +kernel) (by decide +kernel)
theorem k_270 : Cond.methodLink "java/lang/AbstractStringBuilder" 104 y_JA_newCapacity ∈ gw := gw_t 270 (by decide +kernel) (by decide +kernel)
theorem k_274 : Cond.methodLink "java/lang/AbstractStringBuilder" 114 y_JP_newLength ∈ gw := gw_t 274 (by decide +kernel) (by decide +kernel)
theorem k_277 : Cond.methodLink "jdk/internal/util/ArraysSupport" 194 y_JM_max ∈ gw := gw_t 277 (by decide +kernel) (by decide +kernel)
theorem k_280 : Cond.constant "jdk/internal/util/ArraysSupport" 200 (2147483639 : Int32) ∈ gw := gw_t 280 (by decide +kernel) (by decide +kernel)
theorem k_281 : Cond.methodLink "jdk/internal/util/ArraysSupport" 201 y_JP_hugeLength ∈ gw := gw_t 281 (by decide +kernel) (by decide +kernel)
theorem k_284 : Cond.constant "java/lang/AbstractStringBuilder" 39 (2147483647 : Int32) ∈ gw := gw_t 284 (by decide +kernel) (by decide +kernel)
theorem k_285 : Cond.methodLink "java/lang/AbstractStringBuilder" 108 y_JY_copyOf ∈ gw := gw_t 285 (by decide +kernel) (by decide +kernel)
theorem k_288 : Cond.methodLink "java/util/Arrays" 310 ⟨"[B", "clone", "()Ljava/lang/Object;"⟩ ∈ gw := gw_t 288 (by decide +kernel) (by decide +kernel)
theorem k_289 : Cond.sameMethod "[B" "java/lang/Object" "clone" "()Ljava/lang/Object;" ∈ gw := gw_t 289 (by decide +kernel) (by decide +kernel)
theorem k_292 : Cond.selects "[B" ⟨"[B", "clone", "()Ljava/lang/Object;"⟩ ⟨"java/lang/Object", "clone", "()Ljava/lang/Object;"⟩ ∈ gw := gw_t 292 (by decide +kernel) (by decide +kernel)
theorem k_294 : Cond.classLink "java/util/Arrays" 311 "[B" ∈ gw := gw_t 294 (by decide +kernel) (by decide +kernel)
theorem k_295 : Cond.methodLink "java/util/Arrays" 304 y_JM_min ∈ gw := gw_t 295 (by decide +kernel) (by decide +kernel)
theorem k_298 : Cond.methodLink "java/util/Arrays" 150 ⟨"java/lang/System", "arraycopy", "(Ljava/lang/Object;ILjava/lang/Object;II)V"⟩ ∈ gw := gw_t 298 (by decide +kernel) (by decide +kernel)
theorem k_301 : Cond.methodLink "java/lang/AbstractStringBuilder" 83 y_JA_isLatin1 ∈ gw := gw_t 301 (by decide +kernel) (by decide +kernel)
theorem k_303 : Cond.sameMethod "java/lang/AbstractStringBuilder" "java/lang/AbstractStringBuilder" "isLatin1" "()Z" ∈ gw := gw_t 303 (by decide +kernel) (by decide +kernel)
theorem k_304 : Cond.selects "java/lang/StringBuilder" y_JA_isLatin1 y_JA_isLatin1 ∈ gw := gw_t 304 (by decide +kernel) (by decide +kernel)
theorem k_306 : Cond.methodLink "java/lang/AbstractStringBuilder" 191 y_JL_canEncode ∈ gw := gw_t 306 (by decide +kernel) (by decide +kernel)
theorem k_309 : Cond.methodLink "java/lang/AbstractStringBuilder" 195 y_JA_inflate ∈ gw := gw_t 309 (by decide +kernel) (by decide +kernel)
theorem k_313 : Cond.methodLink "java/lang/AbstractStringBuilder" 125 y_JL_inflate ∈ gw := gw_t 313 (by decide +kernel) (by decide +kernel)
theorem k_316 : Cond.methodLink "java/lang/StringLatin1" 240 y_JU_inflate ∈ gw := gw_t 316 (by decide +kernel) (by decide +kernel)
theorem k_319 : Cond.methodLink "java/lang/StringUTF16" 173 y_JU_checkBoundsOffCount ∈ gw := gw_t 319 (by decide +kernel) (by decide +kernel)
theorem k_322 : Cond.methodLink "java/lang/StringUTF16" 48 y_JU_length ∈ gw := gw_t 322 (by decide +kernel) (by decide +kernel)
theorem k_325 : Cond.methodLink "java/lang/StringUTF16" 419 y_JS_checkBoundsOffCount ∈ gw := gw_t 325 (by decide +kernel) (by decide +kernel)
theorem k_328 : Cond.fieldLink "java/lang/String" 1053 "jdk/internal/util/Preconditions" "SIOOBE_FORMATTER" "Ljava/util/function/BiFunction;" ∈ gw := gw_t 328 (by decide +kernel) (by decide +kernel)
theorem k_330 : Cond.methodLink "java/lang/String" 1065 y_JC_checkFromIndexSize ∈ gw := gw_t 330 (by decide +kernel) (by decide +kernel)
theorem k_333 : Cond.methodLink "java/lang/StringUTF16" 111 y_JU_putChar ∈ gw := gw_t 333 (by decide +kernel) (by decide +kernel)
theorem k_336 : Cond.fieldLink "java/lang/StringUTF16" 44 "java/lang/StringUTF16" "$assertionsDisabled" "Z" ∈ gw := gw_t 336 (by decide +kernel) (by decide +kernel)
theorem k_338 : Cond.fieldLink "java/lang/StringUTF16" 59 "java/lang/StringUTF16" "HI_BYTE_SHIFT" "I" ∈ gw := gw_t 338 (by decide +kernel) (by decide +kernel)
theorem k_340 : Cond.fieldLink "java/lang/StringUTF16" 63 "java/lang/StringUTF16" "LO_BYTE_SHIFT" "I" ∈ gw := gw_t 340 (by decide +kernel) (by decide +kernel)
theorem k_342 : Cond.methodLink "java/lang/AbstractStringBuilder" 197 y_JU_putCharSB ∈ gw := gw_t 342 (by decide +kernel) (by decide +kernel)
theorem k_345 : Cond.methodLink "java/lang/StringUTF16" 67 y_JU_checkIndex ∈ gw := gw_t 345 (by decide +kernel) (by decide +kernel)
theorem k_348 : Cond.methodLink "java/lang/StringUTF16" 414 y_JS_checkIndex ∈ gw := gw_t 348 (by decide +kernel) (by decide +kernel)
theorem k_351 : Cond.methodLink "java/lang/String" 1059 y_JC_checkIndex ∈ gw := gw_t 351 (by decide +kernel) (by decide +kernel)
theorem k_354 : Cond.methodLink "DayBookLaw" 103 y_B_wipe ∈ gw := gw_t 354 (by decide +kernel) (by decide +kernel)
theorem k_356 : Cond.selects "DayBook" y_B_wipe y_B_wipe ∈ gw := gw_t 356 (by decide +kernel) (by decide +kernel)
theorem k_358 : Cond.methodLink "DayBook" 198 y_JB_setLength ∈ gw := gw_t 358 (by decide +kernel) (by decide +kernel)
theorem k_360 : Cond.selects "java/lang/StringBuilder" y_JB_setLength y_JB_setLength ∈ gw := gw_t 360 (by decide +kernel) (by decide +kernel)
theorem k_362 : Cond.methodLink "java/lang/StringBuilder" 333 y_JA_setLength ∈ gw := gw_t 362 (by decide +kernel) (by decide +kernel)
theorem k_365 : Cond.methodLink "java/lang/AbstractStringBuilder" 133 y_JL_fillNull ∈ gw := gw_t 365 (by decide +kernel) (by decide +kernel)
theorem k_368 : Cond.methodLink "java/lang/StringLatin1" 236 y_JY_fill_BIIBV ∈ gw := gw_t 368 (by decide +kernel) (by decide +kernel)
theorem k_371 : Cond.methodLink "java/util/Arrays" 13 y_JY_rangeCheck ∈ gw := gw_t 371 (by decide +kernel) (by decide +kernel)
theorem k_374 : Cond.methodLink "java/lang/AbstractStringBuilder" 137 y_JU_fillNull ∈ gw := gw_t 374 (by decide +kernel) (by decide +kernel)
theorem k_377 : Cond.methodLink "java/lang/StringUTF16" 380 y_JY_fill_BIIBV ∈ gw := gw_t 377 (by decide +kernel) (by decide +kernel)
theorem k_378 : Cond.methodLink "DayBookLaw" 107 y_B_letter ∈ gw := gw_t 378 (by decide +kernel) (by decide +kernel)
theorem k_380 : Cond.selects "DayBook" y_B_letter y_B_letter ∈ gw := gw_t 380 (by decide +kernel) (by decide +kernel)
theorem k_382 : Cond.methodLink "DayBook" 217 y_JB_charAt ∈ gw := gw_t 382 (by decide +kernel) (by decide +kernel)
theorem k_384 : Cond.selects "java/lang/StringBuilder" y_JB_charAt y_JB_charAt ∈ gw := gw_t 384 (by decide +kernel) (by decide +kernel)
theorem k_386 : Cond.methodLink "java/lang/StringBuilder" 329 y_JA_charAt ∈ gw := gw_t 386 (by decide +kernel) (by decide +kernel)
theorem k_389 : Cond.methodLink "java/lang/AbstractStringBuilder" 138 y_JM_min ∈ gw := gw_t 389 (by decide +kernel) (by decide +kernel)
theorem k_390 : Cond.methodLink "java/lang/AbstractStringBuilder" 144 y_JS_checkIndex ∈ gw := gw_t 390 (by decide +kernel) (by decide +kernel)
theorem k_391 : Cond.methodLink "java/lang/AbstractStringBuilder" 148 y_JU_getChar ∈ gw := gw_t 391 (by decide +kernel) (by decide +kernel)
theorem k_394 : Cond.methodLink "DayBookLaw" 55 y_W_plug ∈ gw := gw_t 394 (by decide +kernel) (by decide +kernel)
theorem k_397 : Cond.classLink "DayBookLaw" 13 "java/lang/IndexOutOfBoundsException" ∈ gw := gw_t 397 (by decide +kernel) (by decide +kernel)
theorem k_398 : Cond.classLink "DayBookLaw" 15 "java/lang/IllegalArgumentException" ∈ gw := gw_t 398 (by decide +kernel) (by decide +kernel)
theorem k_399 : Cond.methodLink "DayBookLaw" 7 y_B_plug ∈ gw := gw_t 399 (by decide +kernel) (by decide +kernel)
theorem k_401 : Cond.selects "DayBook" y_B_plug y_B_plug ∈ gw := gw_t 401 (by decide +kernel) (by decide +kernel)
theorem k_403 : Cond.classLink "DayBook" 111 "java/lang/IndexOutOfBoundsException" ∈ gw := gw_t 403 (by decide +kernel) (by decide +kernel)
theorem k_404 : Cond.instantiable "java/lang/IndexOutOfBoundsException" 6 ∈ gw := gw_t 404 (by decide +kernel) (by decide +kernel)
theorem k_412 : Cond.selects "java/lang/IndexOutOfBoundsException" ⟨"java/lang/Throwable", "fillInStackTrace", "(I)Ljava/lang/Throwable;"⟩ ⟨"java/lang/Throwable", "fillInStackTrace", "(I)Ljava/lang/Throwable;"⟩ ∈ gw := gw_t 412 (by decide +kernel) (by decide +kernel)
theorem k_413 : Cond.selects "java/lang/IndexOutOfBoundsException" y_JT_fillInStackTrace y_JT_fillInStackTrace ∈ gw := gw_t 413 (by decide +kernel) (by decide +kernel)
theorem k_414 : Cond.lays "java/lang/IndexOutOfBoundsException" "java/lang/Throwable" "cause" "Ljava/lang/Throwable;" ∈ gw := gw_t 414 (by decide +kernel) (by decide +kernel)
theorem k_415 : Cond.lays "java/lang/Throwable" "java/lang/Throwable" "cause" "Ljava/lang/Throwable;" ∈ gw := gw_t 415 (by decide +kernel) (by decide +kernel)
theorem k_416 : Cond.lays "java/lang/IndexOutOfBoundsException" "java/lang/Throwable" "stackTrace" "[Ljava/lang/StackTraceElement;" ∈ gw := gw_t 416 (by decide +kernel) (by decide +kernel)
theorem k_417 : Cond.lays "java/lang/Throwable" "java/lang/Throwable" "stackTrace" "[Ljava/lang/StackTraceElement;" ∈ gw := gw_t 417 (by decide +kernel) (by decide +kernel)
theorem k_418 : Cond.lays "java/lang/IndexOutOfBoundsException" "java/lang/Throwable" "suppressedExceptions" "Ljava/util/List;" ∈ gw := gw_t 418 (by decide +kernel) (by decide +kernel)
theorem k_419 : Cond.lays "java/lang/Throwable" "java/lang/Throwable" "suppressedExceptions" "Ljava/util/List;" ∈ gw := gw_t 419 (by decide +kernel) (by decide +kernel)
theorem k_420 : Cond.lays "java/lang/IndexOutOfBoundsException" "java/lang/Throwable" "detailMessage" "Ljava/lang/String;" ∈ gw := gw_t 420 (by decide +kernel) (by decide +kernel)
theorem k_421 : Cond.lays "java/lang/Throwable" "java/lang/Throwable" "detailMessage" "Ljava/lang/String;" ∈ gw := gw_t 421 (by decide +kernel) (by decide +kernel)
theorem k_422 : Cond.lays "java/lang/IndexOutOfBoundsException" "java/lang/Throwable" "backtrace" "Ljava/lang/Object;" ∈ gw := gw_t 422 (by decide +kernel) (by decide +kernel)
theorem k_423 : Cond.lays "java/lang/Throwable" "java/lang/Throwable" "backtrace" "Ljava/lang/Object;" ∈ gw := gw_t 423 (by decide +kernel) (by decide +kernel)
theorem k_424 : Cond.fieldLink "java/lang/Throwable" 198 "java/lang/Throwable" "backtrace" "Ljava/lang/Object;" ∈ gw := gw_t 424 (by decide +kernel) (by decide +kernel)
theorem k_428 : Cond.methodLink "java/lang/Throwable" 1 y_JQ_init ∈ gw := gw_t 428 (by decide +kernel) (by decide +kernel)
theorem k_429 : Cond.fieldLink "java/lang/Throwable" 13 "java/lang/Throwable" "UNASSIGNED_STACK" "[Ljava/lang/StackTraceElement;" ∈ gw := gw_t 429 (by decide +kernel) (by decide +kernel)
theorem k_431 : Cond.fieldLink "java/lang/Throwable" 20 "java/lang/Throwable" "SUPPRESSED_SENTINEL" "Ljava/util/List;" ∈ gw := gw_t 431 (by decide +kernel) (by decide +kernel)
theorem k_433 : Cond.methodLink "java/lang/Throwable" 27 y_JT_fillInStackTrace ∈ gw := gw_t 433 (by decide +kernel) (by decide +kernel)
theorem k_435 : Cond.sameMethod "java/lang/Throwable" "java/lang/Throwable" "fillInStackTrace" "()Ljava/lang/Throwable;" ∈ gw := gw_t 435 (by decide +kernel) (by decide +kernel)
theorem k_436 : Cond.selects "java/lang/ArithmeticException" y_JT_fillInStackTrace y_JT_fillInStackTrace ∈ gw := gw_t 436 (by decide +kernel) (by decide +kernel)
theorem k_437 : Cond.selects "java/lang/IllegalArgumentException" y_JT_fillInStackTrace y_JT_fillInStackTrace ∈ gw := gw_t 437 (by decide +kernel) (by decide +kernel)
theorem k_438 : Cond.selects "java/lang/UnsupportedOperationException" y_JT_fillInStackTrace y_JT_fillInStackTrace ∈ gw := gw_t 438 (by decide +kernel) (by decide +kernel)
theorem k_440 : Cond.methodLink "java/lang/Throwable" 202 ⟨"java/lang/Throwable", "fillInStackTrace", "(I)Ljava/lang/Throwable;"⟩ ∈ gw := gw_t 440 (by decide +kernel) (by decide +kernel)
theorem k_443 : Cond.instantiable "java/lang/Throwable" 6 ∈ gw := gw_t 443 (by decide +kernel) (by decide +kernel)
theorem k_445 : Cond.methodLink "DayBook" 113 y_JX_init ∈ gw := gw_t 445 (by decide +kernel) (by decide +kernel)
theorem k_448 : Cond.methodLink "java/lang/IndexOutOfBoundsException" 1 y_JR_init ∈ gw := gw_t 448 (by decide +kernel) (by decide +kernel)
theorem k_451 : Cond.methodLink "java/lang/RuntimeException" 1 y_JE_init ∈ gw := gw_t 451 (by decide +kernel) (by decide +kernel)
theorem k_454 : Cond.methodLink "java/lang/Exception" 1 y_JT_init ∈ gw := gw_t 454 (by decide +kernel) (by decide +kernel)
theorem k_455 : Cond.fieldLink "java/lang/Throwable" 198 "java/lang/Throwable" "backtrace" "Ljava/lang/Object;" ∈ gw := gw_t 455 (by decide +kernel) (by decide +kernel)
theorem k_456 : Cond.fieldLink "java/lang/Throwable" 7 "java/lang/Throwable" "cause" "Ljava/lang/Throwable;" ∈ gw := gw_t 456 (by decide +kernel) (by decide +kernel)
theorem k_457 : Cond.fieldLink "java/lang/Throwable" 17 "java/lang/Throwable" "stackTrace" "[Ljava/lang/StackTraceElement;" ∈ gw := gw_t 457 (by decide +kernel) (by decide +kernel)
theorem k_458 : Cond.fieldLink "java/lang/Throwable" 24 "java/lang/Throwable" "suppressedExceptions" "Ljava/util/List;" ∈ gw := gw_t 458 (by decide +kernel) (by decide +kernel)
theorem k_463 : Cond.lays "java/lang/IndexOutOfBoundsException" "java/lang/Throwable" "depth" "I" ∈ gw := gw_t 463 (by decide +kernel) (by decide +kernel)
theorem k_467 : Cond.constant "DayBook" 114 (-1000000 : Int32) ∈ gw := gw_t 467 (by decide +kernel) (by decide +kernel)
theorem k_468 : Cond.constant "DayBook" 115 (1000000 : Int32) ∈ gw := gw_t 468 (by decide +kernel) (by decide +kernel)
theorem k_469 : Cond.classLink "DayBook" 116 "java/lang/IllegalArgumentException" ∈ gw := gw_t 469 (by decide +kernel) (by decide +kernel)
theorem k_470 : Cond.instantiable "java/lang/IllegalArgumentException" 6 ∈ gw := gw_t 470 (by decide +kernel) (by decide +kernel)
theorem k_472 : Cond.selects "java/lang/IllegalArgumentException" ⟨"java/lang/Throwable", "fillInStackTrace", "(I)Ljava/lang/Throwable;"⟩ ⟨"java/lang/Throwable", "fillInStackTrace", "(I)Ljava/lang/Throwable;"⟩ ∈ gw := gw_t 472 (by decide +kernel) (by decide +kernel)
theorem k_473 : Cond.lays "java/lang/IllegalArgumentException" "java/lang/Throwable" "cause" "Ljava/lang/Throwable;" ∈ gw := gw_t 473 (by decide +kernel) (by decide +kernel)
theorem k_474 : Cond.lays "java/lang/IllegalArgumentException" "java/lang/Throwable" "stackTrace" "[Ljava/lang/StackTraceElement;" ∈ gw := gw_t 474 (by decide +kernel) (by decide +kernel)
theorem k_475 : Cond.lays "java/lang/IllegalArgumentException" "java/lang/Throwable" "suppressedExceptions" "Ljava/util/List;" ∈ gw := gw_t 475 (by decide +kernel) (by decide +kernel)
theorem k_476 : Cond.lays "java/lang/IllegalArgumentException" "java/lang/Throwable" "detailMessage" "Ljava/lang/String;" ∈ gw := gw_t 476 (by decide +kernel) (by decide +kernel)
theorem k_477 : Cond.lays "java/lang/IllegalArgumentException" "java/lang/Throwable" "backtrace" "Ljava/lang/Object;" ∈ gw := gw_t 477 (by decide +kernel) (by decide +kernel)
theorem k_478 : Cond.methodLink "DayBook" 118 y_JG_init ∈ gw := gw_t 478 (by decide +kernel) (by decide +kernel)
theorem k_481 : Cond.methodLink "java/lang/IllegalArgumentException" 1 y_JR_init ∈ gw := gw_t 481 (by decide +kernel) (by decide +kernel)
theorem k_482 : Cond.lays "java/lang/IllegalArgumentException" "java/lang/Throwable" "depth" "I" ∈ gw := gw_t 482 (by decide +kernel) (by decide +kernel)
theorem k_484 : Cond.methodLink "DayBook" 119 y_JY_fill_IIV ∈ gw := gw_t 484 (by decide +kernel) (by decide +kernel)
theorem k_487 : Cond.arrayClass FieldType.int ∈ gw := gw_t 487 (by decide +kernel) (by decide +kernel)
theorem k_488 : Cond.methodLink "DayBookLaw" 65 y_W_date ∈ gw := gw_t 488 (by decide +kernel) (by decide +kernel)
theorem k_491 : Cond.classLink "DayBookLaw" 21 "java/lang/ArithmeticException" ∈ gw := gw_t 491 (by decide +kernel) (by decide +kernel)
theorem k_492 : Cond.methodLink "DayBookLaw" 17 y_B_date ∈ gw := gw_t 492 (by decide +kernel) (by decide +kernel)
theorem k_494 : Cond.selects "DayBook" y_B_date y_B_date ∈ gw := gw_t 494 (by decide +kernel) (by decide +kernel)
theorem k_496 : Cond.methodLink "DayBook" 125 y_B_calendarAt ∈ gw := gw_t 496 (by decide +kernel) (by decide +kernel)
theorem k_500 : Cond.classLink "DayBook" 133 "java/lang/ArithmeticException" ∈ gw := gw_t 500 (by decide +kernel) (by decide +kernel)
theorem k_501 : Cond.instantiable "java/lang/ArithmeticException" 6 ∈ gw := gw_t 501 (by decide +kernel) (by decide +kernel)
theorem k_503 : Cond.selects "java/lang/ArithmeticException" ⟨"java/lang/Throwable", "fillInStackTrace", "(I)Ljava/lang/Throwable;"⟩ ⟨"java/lang/Throwable", "fillInStackTrace", "(I)Ljava/lang/Throwable;"⟩ ∈ gw := gw_t 503 (by decide +kernel) (by decide +kernel)
theorem k_504 : Cond.lays "java/lang/ArithmeticException" "java/lang/Throwable" "cause" "Ljava/lang/Throwable;" ∈ gw := gw_t 504 (by decide +kernel) (by decide +kernel)
theorem k_505 : Cond.lays "java/lang/ArithmeticException" "java/lang/Throwable" "stackTrace" "[Ljava/lang/StackTraceElement;" ∈ gw := gw_t 505 (by decide +kernel) (by decide +kernel)
theorem k_506 : Cond.lays "java/lang/ArithmeticException" "java/lang/Throwable" "suppressedExceptions" "Ljava/util/List;" ∈ gw := gw_t 506 (by decide +kernel) (by decide +kernel)
theorem k_507 : Cond.lays "java/lang/ArithmeticException" "java/lang/Throwable" "detailMessage" "Ljava/lang/String;" ∈ gw := gw_t 507 (by decide +kernel) (by decide +kernel)
theorem k_508 : Cond.lays "java/lang/ArithmeticException" "java/lang/Throwable" "backtrace" "Ljava/lang/Object;" ∈ gw := gw_t 508 (by decide +kernel) (by decide +kernel)
theorem k_509 : Cond.methodLink "DayBook" 135 y_JH_init ∈ gw := gw_t 509 (by decide +kernel) (by decide +kernel)
theorem k_512 : Cond.methodLink "java/lang/ArithmeticException" 1 y_JR_init ∈ gw := gw_t 512 (by decide +kernel) (by decide +kernel)
theorem k_513 : Cond.lays "java/lang/ArithmeticException" "java/lang/Throwable" "depth" "I" ∈ gw := gw_t 513 (by decide +kernel) (by decide +kernel)
theorem k_515 : Cond.methodLink "DayBook" 136 ⟨"DayBook$Calendar", "dateOf", "(J)J"⟩ ∈ gw := gw_t 515 (by decide +kernel) (by decide +kernel)
theorem k_517 : Cond.sameMethod "DayBook$Calendar" "DayBook$Calendar" "dateOf" "(J)J" ∈ gw := gw_t 517 (by decide +kernel) (by decide +kernel)
theorem k_518 : Cond.selects "DayBook$HebrewCalendar" ⟨"DayBook$Calendar", "dateOf", "(J)J"⟩ y_Y_dateOf ∈ gw := gw_t 518 (by decide +kernel) (by decide +kernel)
theorem k_521 : Cond.methodLink "DayBook$YearCalendar" 9 y_Y_countWith ∈ gw := gw_t 521 (by decide +kernel) (by decide +kernel)
theorem k_525 : Cond.constantLong "DayBook$YearCalendar" 49 (-67108864 : Int64) ∈ gw := gw_t 525 (by decide +kernel) (by decide +kernel)
theorem k_526 : Cond.constantLong "DayBook$YearCalendar" 51 (67108864 : Int64) ∈ gw := gw_t 526 (by decide +kernel) (by decide +kernel)
theorem k_527 : Cond.methodLink "DayBook$YearCalendar" 23 ⟨"DayBook$YearCalendar", "yearStart", "(J)J"⟩ ∈ gw := gw_t 527 (by decide +kernel) (by decide +kernel)
theorem k_529 : Cond.sameMethod "DayBook$YearCalendar" "DayBook$YearCalendar" "yearStart" "(J)J" ∈ gw := gw_t 529 (by decide +kernel) (by decide +kernel)
theorem k_530 : Cond.selects "DayBook$HebrewCalendar" ⟨"DayBook$YearCalendar", "yearStart", "(J)J"⟩ y_HC_yearStart ∈ gw := gw_t 530 (by decide +kernel) (by decide +kernel)
theorem k_533 : Cond.methodLink "DayBook$HebrewCalendar" 17 y_HC_elapsed ∈ gw := gw_t 533 (by decide +kernel) (by decide +kernel)
theorem k_536 : Cond.constantLong "DayBook$HebrewCalendar" 31 (235 : Int64) ∈ gw := gw_t 536 (by decide +kernel) (by decide +kernel)
theorem k_537 : Cond.constantLong "DayBook$HebrewCalendar" 33 (234 : Int64) ∈ gw := gw_t 537 (by decide +kernel) (by decide +kernel)
theorem k_538 : Cond.constantLong "DayBook$HebrewCalendar" 9 (19 : Int64) ∈ gw := gw_t 538 (by decide +kernel) (by decide +kernel)
theorem k_539 : Cond.methodLink "DayBook$HebrewCalendar" 35 y_JM_floorDiv_JJJ ∈ gw := gw_t 539 (by decide +kernel) (by decide +kernel)
theorem k_542 : Cond.constantLong "DayBook$HebrewCalendar" 38 (29 : Int64) ∈ gw := gw_t 542 (by decide +kernel) (by decide +kernel)
theorem k_543 : Cond.constantLong "DayBook$HebrewCalendar" 40 (12084 : Int64) ∈ gw := gw_t 543 (by decide +kernel) (by decide +kernel)
theorem k_544 : Cond.constantLong "DayBook$HebrewCalendar" 42 (13753 : Int64) ∈ gw := gw_t 544 (by decide +kernel) (by decide +kernel)
theorem k_545 : Cond.constantLong "DayBook$HebrewCalendar" 44 (25920 : Int64) ∈ gw := gw_t 545 (by decide +kernel) (by decide +kernel)
theorem k_546 : Cond.constantLong "DayBook$HebrewCalendar" 46 (3 : Int64) ∈ gw := gw_t 546 (by decide +kernel) (by decide +kernel)
theorem k_547 : Cond.constantLong "DayBook$HebrewCalendar" 7 (7 : Int64) ∈ gw := gw_t 547 (by decide +kernel) (by decide +kernel)
theorem k_548 : Cond.methodLink "DayBook$HebrewCalendar" 11 y_JM_floorMod_JJJ ∈ gw := gw_t 548 (by decide +kernel) (by decide +kernel)
theorem k_551 : Cond.constantLong "DayBook$HebrewCalendar" 23 (356 : Int64) ∈ gw := gw_t 551 (by decide +kernel) (by decide +kernel)
theorem k_552 : Cond.constantLong "DayBook$HebrewCalendar" 25 (2 : Int64) ∈ gw := gw_t 552 (by decide +kernel) (by decide +kernel)
theorem k_553 : Cond.constantLong "DayBook$HebrewCalendar" 27 (382 : Int64) ∈ gw := gw_t 553 (by decide +kernel) (by decide +kernel)
theorem k_554 : Cond.constantLong "DayBook$HebrewCalendar" 29 (-1373427 : Int64) ∈ gw := gw_t 554 (by decide +kernel) (by decide +kernel)
theorem k_555 : Cond.selects "DayBook$MonthCalendar" ⟨"DayBook$YearCalendar", "yearStart", "(J)J"⟩ y_MC_yearStart ∈ gw := gw_t 555 (by decide +kernel) (by decide +kernel)
theorem k_558 : Cond.methodLink "DayBook$MonthCalendar" 45 ⟨"DayBook$LeapRule", "leapsBefore", "(J)J"⟩ ∈ gw := gw_t 558 (by decide +kernel) (by decide +kernel)
theorem k_560 : Cond.sameMethod "DayBook$LeapRule" "DayBook$LeapRule" "leapsBefore" "(J)J" ∈ gw := gw_t 560 (by decide +kernel) (by decide +kernel)
theorem k_561 : Cond.selects "DayBook$CenturyRule" ⟨"DayBook$LeapRule", "leapsBefore", "(J)J"⟩ y_CR_leapsBefore ∈ gw := gw_t 561 (by decide +kernel) (by decide +kernel)
theorem k_564 : Cond.constantLong "DayBook$CenturyRule" 25 (4 : Int64) ∈ gw := gw_t 564 (by decide +kernel) (by decide +kernel)
theorem k_565 : Cond.methodLink "DayBook$CenturyRule" 31 y_JM_floorDiv_JJJ ∈ gw := gw_t 565 (by decide +kernel) (by decide +kernel)
theorem k_566 : Cond.constantLong "DayBook$CenturyRule" 27 (100 : Int64) ∈ gw := gw_t 566 (by decide +kernel) (by decide +kernel)
theorem k_567 : Cond.constantLong "DayBook$CenturyRule" 29 (400 : Int64) ∈ gw := gw_t 567 (by decide +kernel) (by decide +kernel)
theorem k_568 : Cond.constantLong "DayBook$CenturyRule" 17 (4000 : Int64) ∈ gw := gw_t 568 (by decide +kernel) (by decide +kernel)
theorem k_569 : Cond.selects "DayBook$CycleRule" ⟨"DayBook$LeapRule", "leapsBefore", "(J)J"⟩ y_YR_leapsBefore ∈ gw := gw_t 569 (by decide +kernel) (by decide +kernel)
theorem k_572 : Cond.constantLong "DayBook$CycleRule" 7 (474 : Int64) ∈ gw := gw_t 572 (by decide +kernel) (by decide +kernel)
theorem k_573 : Cond.constantLong "DayBook$CycleRule" 23 (683 : Int64) ∈ gw := gw_t 573 (by decide +kernel) (by decide +kernel)
theorem k_574 : Cond.constantLong "DayBook$CycleRule" 9 (2820 : Int64) ∈ gw := gw_t 574 (by decide +kernel) (by decide +kernel)
theorem k_575 : Cond.methodLink "DayBook$CycleRule" 25 y_JM_floorDiv_JJJ ∈ gw := gw_t 575 (by decide +kernel) (by decide +kernel)
theorem k_576 : Cond.methodLink "DayBook$CycleRule" 11 y_JM_floorMod_JJJ ∈ gw := gw_t 576 (by decide +kernel) (by decide +kernel)
theorem k_577 : Cond.constantLong "DayBook$CycleRule" 28 (511 : Int64) ∈ gw := gw_t 577 (by decide +kernel) (by decide +kernel)
theorem k_578 : Cond.constantLong "DayBook$CycleRule" 19 (31 : Int64) ∈ gw := gw_t 578 (by decide +kernel) (by decide +kernel)
theorem k_579 : Cond.constantLong "DayBook$CycleRule" 21 (128 : Int64) ∈ gw := gw_t 579 (by decide +kernel) (by decide +kernel)
theorem k_580 : Cond.selects "DayBook$SpreadRule" ⟨"DayBook$LeapRule", "leapsBefore", "(J)J"⟩ y_SR_leapsBefore ∈ gw := gw_t 580 (by decide +kernel) (by decide +kernel)
theorem k_583 : Cond.methodLink "DayBook$SpreadRule" 25 y_JM_floorDiv_JJJ ∈ gw := gw_t 583 (by decide +kernel) (by decide +kernel)
theorem k_584 : Cond.selects "DayBook$WeekCalendar" ⟨"DayBook$YearCalendar", "yearStart", "(J)J"⟩ y_WC_yearStart ∈ gw := gw_t 584 (by decide +kernel) (by decide +kernel)
theorem k_587 : Cond.methodLink "DayBook$WeekCalendar" 13 y_MC_yearStart ∈ gw := gw_t 587 (by decide +kernel) (by decide +kernel)
theorem k_588 : Cond.constantLong "DayBook$WeekCalendar" 19 (3 : Int64) ∈ gw := gw_t 588 (by decide +kernel) (by decide +kernel)
theorem k_589 : Cond.constantLong "DayBook$WeekCalendar" 21 (7 : Int64) ∈ gw := gw_t 589 (by decide +kernel) (by decide +kernel)
theorem k_590 : Cond.methodLink "DayBook$WeekCalendar" 23 y_JM_floorMod_JJJ ∈ gw := gw_t 590 (by decide +kernel) (by decide +kernel)
theorem k_591 : Cond.constantLong "DayBook$YearCalendar" 53 (2 : Int64) ∈ gw := gw_t 591 (by decide +kernel) (by decide +kernel)
theorem k_592 : Cond.methodLink "DayBook$YearCalendar" 15 y_Y_daysIn ∈ gw := gw_t 592 (by decide +kernel) (by decide +kernel)
theorem k_596 : Cond.methodLink "DayBook$YearCalendar" 19 ⟨"DayBook$YearCalendar", "monthsIn", "(I)I"⟩ ∈ gw := gw_t 596 (by decide +kernel) (by decide +kernel)
theorem k_598 : Cond.sameMethod "DayBook$YearCalendar" "DayBook$YearCalendar" "monthsIn" "(I)I" ∈ gw := gw_t 598 (by decide +kernel) (by decide +kernel)
theorem k_599 : Cond.selects "DayBook$HebrewCalendar" ⟨"DayBook$YearCalendar", "monthsIn", "(I)I"⟩ y_HC_monthsIn ∈ gw := gw_t 599 (by decide +kernel) (by decide +kernel)
theorem k_602 : Cond.methodLink "DayBook$HebrewCalendar" 48 y_HC_isLong ∈ gw := gw_t 602 (by decide +kernel) (by decide +kernel)
theorem k_605 : Cond.selects "DayBook$MonthCalendar" ⟨"DayBook$YearCalendar", "monthsIn", "(I)I"⟩ y_MC_monthsIn ∈ gw := gw_t 605 (by decide +kernel) (by decide +kernel)
theorem k_608 : Cond.selects "DayBook$WeekCalendar" ⟨"DayBook$YearCalendar", "monthsIn", "(I)I"⟩ y_WC_monthsIn ∈ gw := gw_t 608 (by decide +kernel) (by decide +kernel)
theorem k_611 : Cond.methodLink "DayBook$YearCalendar" 26 ⟨"DayBook$YearCalendar", "lengthAt", "(II)I"⟩ ∈ gw := gw_t 611 (by decide +kernel) (by decide +kernel)
theorem k_613 : Cond.sameMethod "DayBook$YearCalendar" "DayBook$YearCalendar" "lengthAt" "(II)I" ∈ gw := gw_t 613 (by decide +kernel) (by decide +kernel)
theorem k_614 : Cond.selects "DayBook$HebrewCalendar" ⟨"DayBook$YearCalendar", "lengthAt", "(II)I"⟩ y_HC_lengthAt ∈ gw := gw_t 614 (by decide +kernel) (by decide +kernel)
theorem k_617 : Cond.methodLink "DayBook$HebrewCalendar" 52 y_HC_monthAt ∈ gw := gw_t 617 (by decide +kernel) (by decide +kernel)
theorem k_619 : Cond.selects "DayBook$HebrewCalendar" y_HC_monthAt y_HC_monthAt ∈ gw := gw_t 619 (by decide +kernel) (by decide +kernel)
theorem k_621 : Cond.selects "DayBook$MonthCalendar" ⟨"DayBook$YearCalendar", "lengthAt", "(II)I"⟩ y_MC_lengthAt ∈ gw := gw_t 621 (by decide +kernel) (by decide +kernel)
theorem k_624 : Cond.selects "DayBook$WeekCalendar" ⟨"DayBook$YearCalendar", "lengthAt", "(II)I"⟩ y_WC_lengthAt ∈ gw := gw_t 624 (by decide +kernel) (by decide +kernel)
theorem k_627 : Cond.methodLink "DayBook$YearCalendar" 30 y_Y_yearAt ∈ gw := gw_t 627 (by decide +kernel) (by decide +kernel)
theorem k_629 : Cond.sameMethod "DayBook$YearCalendar" "DayBook$YearCalendar" "yearAt" "(J)J" ∈ gw := gw_t 629 (by decide +kernel) (by decide +kernel)
theorem k_630 : Cond.selects "DayBook$HebrewCalendar" y_Y_yearAt y_Y_yearAt ∈ gw := gw_t 630 (by decide +kernel) (by decide +kernel)
theorem k_631 : Cond.selects "DayBook$MonthCalendar" y_Y_yearAt y_MC_yearAt ∈ gw := gw_t 631 (by decide +kernel) (by decide +kernel)
theorem k_634 : Cond.selects "DayBook$WeekCalendar" y_Y_yearAt y_Y_yearAt ∈ gw := gw_t 634 (by decide +kernel) (by decide +kernel)
theorem k_636 : Cond.methodLink "DayBook$YearCalendar" 33 ⟨"DayBook$YearCalendar", "monthAt", "(II)I"⟩ ∈ gw := gw_t 636 (by decide +kernel) (by decide +kernel)
theorem k_638 : Cond.sameMethod "DayBook$YearCalendar" "DayBook$YearCalendar" "monthAt" "(II)I" ∈ gw := gw_t 638 (by decide +kernel) (by decide +kernel)
theorem k_639 : Cond.selects "DayBook$HebrewCalendar" ⟨"DayBook$YearCalendar", "monthAt", "(II)I"⟩ y_HC_monthAt ∈ gw := gw_t 639 (by decide +kernel) (by decide +kernel)
theorem k_640 : Cond.selects "DayBook$MonthCalendar" ⟨"DayBook$YearCalendar", "monthAt", "(II)I"⟩ y_MC_monthAt ∈ gw := gw_t 640 (by decide +kernel) (by decide +kernel)
theorem k_643 : Cond.selects "DayBook$WeekCalendar" ⟨"DayBook$YearCalendar", "monthAt", "(II)I"⟩ y_WC_monthAt ∈ gw := gw_t 643 (by decide +kernel) (by decide +kernel)
theorem k_649 : Cond.constantLong "DayBook" 245 (65536 : Int64) ∈ gw := gw_t 649 (by decide +kernel) (by decide +kernel)
theorem k_650 : Cond.constantLong "DayBook" 247 (256 : Int64) ∈ gw := gw_t 650 (by decide +kernel) (by decide +kernel)
theorem k_651 : Cond.selects "DayBook$LunarCalendar" ⟨"DayBook$Calendar", "dateOf", "(J)J"⟩ y_LC_dateOf ∈ gw := gw_t 651 (by decide +kernel) (by decide +kernel)
theorem k_654 : Cond.constantLong "DayBook$LunarCalendar" 9 (4 : Int64) ∈ gw := gw_t 654 (by decide +kernel) (by decide +kernel)
theorem k_655 : Cond.constantLong "DayBook$LunarCalendar" 13 (1132959 : Int64) ∈ gw := gw_t 655 (by decide +kernel) (by decide +kernel)
theorem k_656 : Cond.constantLong "DayBook$LunarCalendar" 15 (53433336 : Int64) ∈ gw := gw_t 656 (by decide +kernel) (by decide +kernel)
theorem k_657 : Cond.constantLong "DayBook$LunarCalendar" 17 (6311670000 : Int64) ∈ gw := gw_t 657 (by decide +kernel) (by decide +kernel)
theorem k_658 : Cond.methodLink "DayBook$LunarCalendar" 19 y_JM_floorDiv_JJJ ∈ gw := gw_t 658 (by decide +kernel) (by decide +kernel)
theorem k_659 : Cond.constantLong "DayBook$LunarCalendar" 25 (51840000 : Int64) ∈ gw := gw_t 659 (by decide +kernel) (by decide +kernel)
theorem k_663 : Cond.methodLink "DayBook" 249 y_JM_floorDiv_JJJ ∈ gw := gw_t 663 (by decide +kernel) (by decide +kernel)
theorem k_664 : Cond.methodLink "DayBook$LunarCalendar" 30 y_JM_floorMod_JJJ ∈ gw := gw_t 664 (by decide +kernel) (by decide +kernel)
theorem k_665 : Cond.constantLong "DayBook$LunarCalendar" 33 (1593336 : Int64) ∈ gw := gw_t 665 (by decide +kernel) (by decide +kernel)
theorem k_666 : Cond.constantLong "DayBook$LunarCalendar" 35 (12 : Int64) ∈ gw := gw_t 666 (by decide +kernel) (by decide +kernel)
theorem k_667 : Cond.constantLong "DayBook$LunarCalendar" 37 (1603000080 : Int64) ∈ gw := gw_t 667 (by decide +kernel) (by decide +kernel)
theorem k_668 : Cond.constantLong "DayBook$LunarCalendar" 39 (30 : Int64) ∈ gw := gw_t 668 (by decide +kernel) (by decide +kernel)
theorem k_669 : Cond.constantLong "DayBook$LunarCalendar" 41 (100 : Int64) ∈ gw := gw_t 669 (by decide +kernel) (by decide +kernel)
theorem k_671 : Cond.selects "DayBook$MonthCalendar" ⟨"DayBook$Calendar", "dateOf", "(J)J"⟩ y_Y_dateOf ∈ gw := gw_t 671 (by decide +kernel) (by decide +kernel)
theorem k_672 : Cond.selects "DayBook$SolarCalendar" ⟨"DayBook$Calendar", "dateOf", "(J)J"⟩ y_SC_dateOf ∈ gw := gw_t 672 (by decide +kernel) (by decide +kernel)
theorem k_675 : Cond.constantLong "DayBook$SolarCalendar" 11 (6912 : Int64) ∈ gw := gw_t 675 (by decide +kernel) (by decide +kernel)
theorem k_676 : Cond.constantLong "DayBook$SolarCalendar" 13 (1132959 : Int64) ∈ gw := gw_t 676 (by decide +kernel) (by decide +kernel)
theorem k_677 : Cond.constantLong "DayBook$SolarCalendar" 15 (1728 : Int64) ∈ gw := gw_t 677 (by decide +kernel) (by decide +kernel)
theorem k_678 : Cond.constantLong "DayBook$SolarCalendar" 17 (210389 : Int64) ∈ gw := gw_t 678 (by decide +kernel) (by decide +kernel)
theorem k_679 : Cond.methodLink "DayBook$SolarCalendar" 19 y_JM_floorDiv_JJJ ∈ gw := gw_t 679 (by decide +kernel) (by decide +kernel)
theorem k_680 : Cond.methodLink "DayBook$SolarCalendar" 25 y_JM_floorMod_JJJ ∈ gw := gw_t 680 (by decide +kernel) (by decide +kernel)
theorem k_681 : Cond.constantLong "DayBook$SolarCalendar" 28 (12 : Int64) ∈ gw := gw_t 681 (by decide +kernel) (by decide +kernel)
theorem k_683 : Cond.selects "DayBook$WeekCalendar" ⟨"DayBook$Calendar", "dateOf", "(J)J"⟩ y_Y_dateOf ∈ gw := gw_t 683 (by decide +kernel) (by decide +kernel)
theorem k_684 : Cond.methodLink "DayBook" 140 y_B_yearIn ∈ gw := gw_t 684 (by decide +kernel) (by decide +kernel)
theorem k_687 : Cond.methodLink "DayBook" 144 y_B_monthIn ∈ gw := gw_t 687 (by decide +kernel) (by decide +kernel)
theorem k_690 : Cond.methodLink "DayBook" 147 y_B_dayIn ∈ gw := gw_t 690 (by decide +kernel) (by decide +kernel)
theorem k_693 : Cond.methodLink "DayBookLaw" 69 y_W_fixed ∈ gw := gw_t 693 (by decide +kernel) (by decide +kernel)
theorem k_696 : Cond.methodLink "DayBookLaw" 23 y_B_fixed ∈ gw := gw_t 696 (by decide +kernel) (by decide +kernel)
theorem k_698 : Cond.selects "DayBook" y_B_fixed y_B_fixed ∈ gw := gw_t 698 (by decide +kernel) (by decide +kernel)
theorem k_700 : Cond.constant "DayBook" 150 (100000 : Int32) ∈ gw := gw_t 700 (by decide +kernel) (by decide +kernel)
theorem k_701 : Cond.methodLink "DayBook" 151 y_B_isWithin ∈ gw := gw_t 701 (by decide +kernel) (by decide +kernel)
theorem k_704 : Cond.methodLink "DayBook" 155 ⟨"DayBook$Calendar", "dayOf", "(JII)J"⟩ ∈ gw := gw_t 704 (by decide +kernel) (by decide +kernel)
theorem k_706 : Cond.sameMethod "DayBook$Calendar" "DayBook$Calendar" "dayOf" "(JII)J" ∈ gw := gw_t 706 (by decide +kernel) (by decide +kernel)
theorem k_707 : Cond.selects "DayBook$HebrewCalendar" ⟨"DayBook$Calendar", "dayOf", "(JII)J"⟩ y_Y_dayOf ∈ gw := gw_t 707 (by decide +kernel) (by decide +kernel)
theorem k_710 : Cond.methodLink "DayBook$YearCalendar" 40 ⟨"DayBook$YearCalendar", "hasYear", "(J)Z"⟩ ∈ gw := gw_t 710 (by decide +kernel) (by decide +kernel)
theorem k_711 : Cond.sameMethod "DayBook$YearCalendar" "DayBook$Calendar" "hasYear" "(J)Z" ∈ gw := gw_t 711 (by decide +kernel) (by decide +kernel)
theorem k_713 : Cond.selects "DayBook$HebrewCalendar" ⟨"DayBook$YearCalendar", "hasYear", "(J)Z"⟩ y_C_hasYear ∈ gw := gw_t 713 (by decide +kernel) (by decide +kernel)
theorem k_714 : Cond.selects "DayBook$MonthCalendar" ⟨"DayBook$YearCalendar", "hasYear", "(J)Z"⟩ y_MC_hasYear ∈ gw := gw_t 714 (by decide +kernel) (by decide +kernel)
theorem k_715 : Cond.selects "DayBook$WeekCalendar" ⟨"DayBook$YearCalendar", "hasYear", "(J)Z"⟩ y_C_hasYear ∈ gw := gw_t 715 (by decide +kernel) (by decide +kernel)
theorem k_718 : Cond.constantLong "DayBook$YearCalendar" 44 (-9223372036854775808 : Int64) ∈ gw := gw_t 718 (by decide +kernel) (by decide +kernel)
theorem k_719 : Cond.methodLink "DayBook$YearCalendar" 46 y_Y_countOf ∈ gw := gw_t 719 (by decide +kernel) (by decide +kernel)
theorem k_721 : Cond.sameMethod "DayBook$YearCalendar" "DayBook$YearCalendar" "countOf" "(J)J" ∈ gw := gw_t 721 (by decide +kernel) (by decide +kernel)
theorem k_722 : Cond.selects "DayBook$HebrewCalendar" y_Y_countOf y_Y_countOf ∈ gw := gw_t 722 (by decide +kernel) (by decide +kernel)
theorem k_723 : Cond.selects "DayBook$MonthCalendar" y_Y_countOf y_MC_countOf ∈ gw := gw_t 723 (by decide +kernel) (by decide +kernel)
theorem k_726 : Cond.selects "DayBook$WeekCalendar" y_Y_countOf y_Y_countOf ∈ gw := gw_t 726 (by decide +kernel) (by decide +kernel)
theorem k_728 : Cond.selects "DayBook$LunarCalendar" ⟨"DayBook$Calendar", "dayOf", "(JII)J"⟩ y_LC_dayOf ∈ gw := gw_t 728 (by decide +kernel) (by decide +kernel)
theorem k_731 : Cond.constantLong "DayBook$LunarCalendar" 47 (-9223372036854775808 : Int64) ∈ gw := gw_t 731 (by decide +kernel) (by decide +kernel)
theorem k_732 : Cond.methodLink "DayBook$LunarCalendar" 49 y_LC_dateOf ∈ gw := gw_t 732 (by decide +kernel) (by decide +kernel)
theorem k_733 : Cond.selects "DayBook$MonthCalendar" ⟨"DayBook$Calendar", "dayOf", "(JII)J"⟩ y_Y_dayOf ∈ gw := gw_t 733 (by decide +kernel) (by decide +kernel)
theorem k_734 : Cond.selects "DayBook$SolarCalendar" ⟨"DayBook$Calendar", "dayOf", "(JII)J"⟩ y_SC_dayOf ∈ gw := gw_t 734 (by decide +kernel) (by decide +kernel)
theorem k_737 : Cond.constantLong "DayBook$SolarCalendar" 34 (-9223372036854775808 : Int64) ∈ gw := gw_t 737 (by decide +kernel) (by decide +kernel)
theorem k_739 : Cond.methodLink "DayBook$SolarCalendar" 39 y_SC_dateOf ∈ gw := gw_t 739 (by decide +kernel) (by decide +kernel)
theorem k_740 : Cond.selects "DayBook$WeekCalendar" ⟨"DayBook$Calendar", "dayOf", "(JII)J"⟩ y_Y_dayOf ∈ gw := gw_t 740 (by decide +kernel) (by decide +kernel)
theorem k_741 : Cond.constantLong "DayBook" 159 (-9223372036854775808 : Int64) ∈ gw := gw_t 741 (by decide +kernel) (by decide +kernel)
theorem k_742 : Cond.methodLink "DayBookLaw" 73 y_W_leap ∈ gw := gw_t 742 (by decide +kernel) (by decide +kernel)
theorem k_745 : Cond.classLink "DayBookLaw" 31 "java/lang/UnsupportedOperationException" ∈ gw := gw_t 745 (by decide +kernel) (by decide +kernel)
theorem k_746 : Cond.methodLink "DayBookLaw" 27 y_B_leap ∈ gw := gw_t 746 (by decide +kernel) (by decide +kernel)
theorem k_748 : Cond.selects "DayBook" y_B_leap y_B_leap ∈ gw := gw_t 748 (by decide +kernel) (by decide +kernel)
theorem k_750 : Cond.classLink "DayBook" 161 "java/lang/UnsupportedOperationException" ∈ gw := gw_t 750 (by decide +kernel) (by decide +kernel)
theorem k_751 : Cond.instantiable "java/lang/UnsupportedOperationException" 6 ∈ gw := gw_t 751 (by decide +kernel) (by decide +kernel)
theorem k_753 : Cond.selects "java/lang/UnsupportedOperationException" ⟨"java/lang/Throwable", "fillInStackTrace", "(I)Ljava/lang/Throwable;"⟩ ⟨"java/lang/Throwable", "fillInStackTrace", "(I)Ljava/lang/Throwable;"⟩ ∈ gw := gw_t 753 (by decide +kernel) (by decide +kernel)
theorem k_754 : Cond.lays "java/lang/UnsupportedOperationException" "java/lang/Throwable" "cause" "Ljava/lang/Throwable;" ∈ gw := gw_t 754 (by decide +kernel) (by decide +kernel)
theorem k_755 : Cond.lays "java/lang/UnsupportedOperationException" "java/lang/Throwable" "stackTrace" "[Ljava/lang/StackTraceElement;" ∈ gw := gw_t 755 (by decide +kernel) (by decide +kernel)
theorem k_756 : Cond.lays "java/lang/UnsupportedOperationException" "java/lang/Throwable" "suppressedExceptions" "Ljava/util/List;" ∈ gw := gw_t 756 (by decide +kernel) (by decide +kernel)
theorem k_757 : Cond.lays "java/lang/UnsupportedOperationException" "java/lang/Throwable" "detailMessage" "Ljava/lang/String;" ∈ gw := gw_t 757 (by decide +kernel) (by decide +kernel)
theorem k_758 : Cond.lays "java/lang/UnsupportedOperationException" "java/lang/Throwable" "backtrace" "Ljava/lang/Object;" ∈ gw := gw_t 758 (by decide +kernel) (by decide +kernel)
theorem k_759 : Cond.methodLink "DayBook" 163 y_JO_init ∈ gw := gw_t 759 (by decide +kernel) (by decide +kernel)
theorem k_762 : Cond.methodLink "java/lang/UnsupportedOperationException" 1 y_JR_init ∈ gw := gw_t 762 (by decide +kernel) (by decide +kernel)
theorem k_763 : Cond.lays "java/lang/UnsupportedOperationException" "java/lang/Throwable" "depth" "I" ∈ gw := gw_t 763 (by decide +kernel) (by decide +kernel)
theorem k_765 : Cond.methodLink "DayBook" 164 y_C_hasYear ∈ gw := gw_t 765 (by decide +kernel) (by decide +kernel)
theorem k_768 : Cond.methodLink "DayBook" 167 y_C_isLeap ∈ gw := gw_t 768 (by decide +kernel) (by decide +kernel)
theorem k_770 : Cond.sameMethod "DayBook$Calendar" "DayBook$Calendar" "isLeap" "(J)Z" ∈ gw := gw_t 770 (by decide +kernel) (by decide +kernel)
theorem k_771 : Cond.selects "DayBook$HebrewCalendar" y_C_isLeap y_HC_isLeap ∈ gw := gw_t 771 (by decide +kernel) (by decide +kernel)
theorem k_774 : Cond.selects "DayBook$LunarCalendar" y_C_isLeap y_C_isLeap ∈ gw := gw_t 774 (by decide +kernel) (by decide +kernel)
theorem k_775 : Cond.selects "DayBook$MonthCalendar" y_C_isLeap y_MC_isLeap ∈ gw := gw_t 775 (by decide +kernel) (by decide +kernel)
theorem k_778 : Cond.methodLink "DayBook$MonthCalendar" 35 y_MC_countOf ∈ gw := gw_t 778 (by decide +kernel) (by decide +kernel)
theorem k_779 : Cond.methodLink "DayBook$MonthCalendar" 39 ⟨"DayBook$LeapRule", "isLeapCount", "(J)Z"⟩ ∈ gw := gw_t 779 (by decide +kernel) (by decide +kernel)
theorem k_781 : Cond.sameMethod "DayBook$LeapRule" "DayBook$LeapRule" "isLeapCount" "(J)Z" ∈ gw := gw_t 781 (by decide +kernel) (by decide +kernel)
theorem k_782 : Cond.selects "DayBook$CenturyRule" ⟨"DayBook$LeapRule", "isLeapCount", "(J)Z"⟩ y_CR_isLeapCount ∈ gw := gw_t 782 (by decide +kernel) (by decide +kernel)
theorem k_785 : Cond.methodLink "DayBook$CenturyRule" 19 y_JM_floorMod_JJJ ∈ gw := gw_t 785 (by decide +kernel) (by decide +kernel)
theorem k_786 : Cond.selects "DayBook$CycleRule" ⟨"DayBook$LeapRule", "isLeapCount", "(J)Z"⟩ y_YR_isLeapCount ∈ gw := gw_t 786 (by decide +kernel) (by decide +kernel)
theorem k_789 : Cond.constantLong "DayBook$CycleRule" 17 (512 : Int64) ∈ gw := gw_t 789 (by decide +kernel) (by decide +kernel)
theorem k_790 : Cond.selects "DayBook$SpreadRule" ⟨"DayBook$LeapRule", "isLeapCount", "(J)Z"⟩ y_SR_isLeapCount ∈ gw := gw_t 790 (by decide +kernel) (by decide +kernel)
theorem k_793 : Cond.methodLink "DayBook$SpreadRule" 19 y_JM_floorMod_JJJ ∈ gw := gw_t 793 (by decide +kernel) (by decide +kernel)
theorem k_794 : Cond.selects "DayBook$SolarCalendar" y_C_isLeap y_C_isLeap ∈ gw := gw_t 794 (by decide +kernel) (by decide +kernel)
theorem k_795 : Cond.selects "DayBook$WeekCalendar" y_C_isLeap y_C_isLeap ∈ gw := gw_t 795 (by decide +kernel) (by decide +kernel)
theorem k_797 : Cond.methodLink "DayBookLaw" 77 y_W_onOrBefore ∈ gw := gw_t 797 (by decide +kernel) (by decide +kernel)
theorem k_800 : Cond.methodLink "DayBookLaw" 33 y_B_onOrBefore ∈ gw := gw_t 800 (by decide +kernel) (by decide +kernel)
theorem k_802 : Cond.selects "DayBook" y_B_onOrBefore y_B_onOrBefore ∈ gw := gw_t 802 (by decide +kernel) (by decide +kernel)
theorem k_804 : Cond.methodLink "DayBookLaw" 88 y_W_feast ∈ gw := gw_t 804 (by decide +kernel) (by decide +kernel)
theorem k_807 : Cond.methodLink "DayBookLaw" 37 y_B_feast ∈ gw := gw_t 807 (by decide +kernel) (by decide +kernel)
theorem k_809 : Cond.selects "DayBook" y_B_feast y_B_feast ∈ gw := gw_t 809 (by decide +kernel) (by decide +kernel)
theorem k_811 : Cond.constant "DayBook" 184 (90000 : Int32) ∈ gw := gw_t 811 (by decide +kernel) (by decide +kernel)
theorem k_812 : Cond.constantLong "DayBook" 185 (3760 : Int64) ∈ gw := gw_t 812 (by decide +kernel) (by decide +kernel)
theorem k_813 : Cond.methodLink "DayBook" 187 ⟨"DayBook$HebrewCalendar", "dayOf", "(JII)J"⟩ ∈ gw := gw_t 813 (by decide +kernel) (by decide +kernel)
theorem k_814 : Cond.sameMethod "DayBook$HebrewCalendar" "DayBook$YearCalendar" "dayOf" "(JII)J" ∈ gw := gw_t 814 (by decide +kernel) (by decide +kernel)
theorem k_816 : Cond.selects "DayBook$HebrewCalendar" ⟨"DayBook$HebrewCalendar", "dayOf", "(JII)J"⟩ y_Y_dayOf ∈ gw := gw_t 816 (by decide +kernel) (by decide +kernel)
theorem k_817 : Cond.methodLink "DayBook" 188 y_B_newEaster ∈ gw := gw_t 817 (by decide +kernel) (by decide +kernel)
theorem k_821 : Cond.methodLink "DayBook" 233 y_JM_floorDiv_III ∈ gw := gw_t 821 (by decide +kernel) (by decide +kernel)
theorem k_824 : Cond.methodLink "DayBook" 236 ⟨"DayBook$MonthCalendar", "dayOf", "(JII)J"⟩ ∈ gw := gw_t 824 (by decide +kernel) (by decide +kernel)
theorem k_825 : Cond.sameMethod "DayBook$MonthCalendar" "DayBook$YearCalendar" "dayOf" "(JII)J" ∈ gw := gw_t 825 (by decide +kernel) (by decide +kernel)
theorem k_826 : Cond.selects "DayBook$MonthCalendar" ⟨"DayBook$MonthCalendar", "dayOf", "(JII)J"⟩ y_Y_dayOf ∈ gw := gw_t 826 (by decide +kernel) (by decide +kernel)
theorem k_827 : Cond.methodLink "DayBook" 237 y_B_sundayBehind ∈ gw := gw_t 827 (by decide +kernel) (by decide +kernel)
theorem k_830 : Cond.constantLong "DayBook" 240 (7 : Int64) ∈ gw := gw_t 830 (by decide +kernel) (by decide +kernel)
theorem k_831 : Cond.methodLink "DayBook" 242 y_JM_floorMod_JJJ ∈ gw := gw_t 831 (by decide +kernel) (by decide +kernel)
theorem k_832 : Cond.methodLink "DayBook" 192 y_B_oldEaster ∈ gw := gw_t 832 (by decide +kernel) (by decide +kernel)
theorem k_836 : Cond.methodLink "DayBookLaw" 91 y_W_when ∈ gw := gw_t 836 (by decide +kernel) (by decide +kernel)
theorem k_839 : Cond.methodLink "DayBookLaw" 40 y_B_when ∈ gw := gw_t 839 (by decide +kernel) (by decide +kernel)
theorem k_841 : Cond.selects "DayBook" y_B_when y_B_when ∈ gw := gw_t 841 (by decide +kernel) (by decide +kernel)
theorem k_843 : Cond.methodLink "DayBook" 195 y_MC_yearStart ∈ gw := gw_t 843 (by decide +kernel) (by decide +kernel)
theorem k_844 : Cond.methodLink "DayBookLaw" 95 y_W_write ∈ gw := gw_t 844 (by decide +kernel) (by decide +kernel)
theorem k_847 : Cond.methodLink "DayBookLaw" 44 y_B_write ∈ gw := gw_t 847 (by decide +kernel) (by decide +kernel)
theorem k_849 : Cond.selects "DayBook" y_B_write y_B_write ∈ gw := gw_t 849 (by decide +kernel) (by decide +kernel)
theorem k_851 : Cond.methodLink "DayBook" 202 y_JB_append_IStringBuilder ∈ gw := gw_t 851 (by decide +kernel) (by decide +kernel)
theorem k_853 : Cond.selects "java/lang/StringBuilder" y_JB_append_IStringBuilder y_JB_append_IStringBuilder ∈ gw := gw_t 853 (by decide +kernel) (by decide +kernel)
theorem k_855 : Cond.methodLink "java/lang/StringBuilder" 53 y_JA_append_IAbstractStrin ∈ gw := gw_t 855 (by decide +kernel) (by decide +kernel)
theorem k_858 : Cond.methodLink "java/lang/AbstractStringBuilder" 245 y_JI_stringSize ∈ gw := gw_t 858 (by decide +kernel) (by decide +kernel)
theorem k_861 : Cond.methodLink "java/lang/AbstractStringBuilder" 248 y_JI_getChars ∈ gw := gw_t 861 (by decide +kernel) (by decide +kernel)
theorem k_864 : Cond.fieldLink "java/lang/Integer" 83 "java/lang/Integer" "DigitOnes" "[B" ∈ gw := gw_t 864 (by decide +kernel) (by decide +kernel)
theorem k_866 : Cond.fieldLink "java/lang/Integer" 87 "java/lang/Integer" "DigitTens" "[B" ∈ gw := gw_t 866 (by decide +kernel) (by decide +kernel)
theorem k_868 : Cond.methodLink "java/lang/AbstractStringBuilder" 251 y_JU_getChars_IIIBI ∈ gw := gw_t 868 (by decide +kernel) (by decide +kernel)
theorem k_871 : Cond.methodLink "java/lang/StringUTF16" 96 y_JU_checkBoundsBeginEnd ∈ gw := gw_t 871 (by decide +kernel) (by decide +kernel)
theorem k_874 : Cond.methodLink "java/lang/StringUTF16" 241 y_JS_checkBoundsBeginEnd ∈ gw := gw_t 874 (by decide +kernel) (by decide +kernel)
theorem k_877 : Cond.methodLink "java/lang/String" 1062 y_JC_checkFromToIndex ∈ gw := gw_t 877 (by decide +kernel) (by decide +kernel)
theorem k_880 : Cond.methodLink "java/lang/StringUTF16" 393 y_JU_getChars_IIBI ∈ gw := gw_t 880 (by decide +kernel) (by decide +kernel)
theorem k_883 : Cond.fieldLink "java/lang/StringUTF16" 403 "java/lang/Integer" "DigitOnes" "[B" ∈ gw := gw_t 883 (by decide +kernel) (by decide +kernel)
theorem k_884 : Cond.fieldLink "java/lang/StringUTF16" 407 "java/lang/Integer" "DigitTens" "[B" ∈ gw := gw_t 884 (by decide +kernel) (by decide +kernel)
theorem k_885 : Cond.methodLink "DayBookLaw" 112 y_W_read ∈ gw := gw_t 885 (by decide +kernel) (by decide +kernel)
theorem k_888 : Cond.methodLink "DayBookLaw" 47 y_B_read ∈ gw := gw_t 888 (by decide +kernel) (by decide +kernel)
theorem k_890 : Cond.selects "DayBook" y_B_read y_B_read ∈ gw := gw_t 890 (by decide +kernel) (by decide +kernel)
theorem k_892 : Cond.methodLink "DayBook" 221 y_B_slashFrom ∈ gw := gw_t 892 (by decide +kernel) (by decide +kernel)
theorem k_896 : Cond.methodLink "DayBook" 224 y_B_numberIn ∈ gw := gw_t 896 (by decide +kernel) (by decide +kernel)
theorem k_900 : Cond.classLink "DayBookLaw" 52 "DayBookModel" ∈ gw := gw_t 900 (by decide +kernel) (by decide +kernel)
theorem k_901 : Cond.instantiable "DayBookModel" 19 ∈ gw := gw_t 901 (by decide +kernel) (by decide +kernel)
theorem k_902 : Cond.methodLink "DayBookLaw" 54 y_M_init ∈ gw := gw_t 902 (by decide +kernel) (by decide +kernel)
theorem k_905 : Cond.methodLink "DayBookModel" 1 y_JQ_init ∈ gw := gw_t 905 (by decide +kernel) (by decide +kernel)
theorem k_906 : Cond.constant "DayBookModel" 39 (-2147483648 : Int32) ∈ gw := gw_t 906 (by decide +kernel) (by decide +kernel)
theorem k_907 : Cond.methodLink "DayBookModel" 48 y_M_countCycle ∈ gw := gw_t 907 (by decide +kernel) (by decide +kernel)
theorem k_911 : Cond.methodLink "DayBookModel" 130 y_M_plainLength ∈ gw := gw_t 911 (by decide +kernel) (by decide +kernel)
theorem k_915 : Cond.constantLong "DayBookModel" 126 (354 : Int64) ∈ gw := gw_t 915 (by decide +kernel) (by decide +kernel)
theorem k_916 : Cond.constantLong "DayBookModel" 128 (365 : Int64) ∈ gw := gw_t 916 (by decide +kernel) (by decide +kernel)
theorem k_917 : Cond.methodLink "DayBookModel" 102 y_M_isLeap ∈ gw := gw_t 917 (by decide +kernel) (by decide +kernel)
theorem k_921 : Cond.methodLink "DayBookModel" 72 y_M_leap0 ∈ gw := gw_t 921 (by decide +kernel) (by decide +kernel)
theorem k_924 : Cond.constantLong "DayBookModel" 63 (4 : Int64) ∈ gw := gw_t 924 (by decide +kernel) (by decide +kernel)
theorem k_925 : Cond.methodLink "DayBookModel" 65 y_M_mod ∈ gw := gw_t 925 (by decide +kernel) (by decide +kernel)
theorem k_928 : Cond.methodLink "DayBookModel" 55 y_M_div ∈ gw := gw_t 928 (by decide +kernel) (by decide +kernel)
theorem k_931 : Cond.constantLong "DayBookModel" 68 (100 : Int64) ∈ gw := gw_t 931 (by decide +kernel) (by decide +kernel)
theorem k_932 : Cond.constantLong "DayBookModel" 70 (400 : Int64) ∈ gw := gw_t 932 (by decide +kernel) (by decide +kernel)
theorem k_933 : Cond.constantLong "DayBookModel" 76 (3 : Int64) ∈ gw := gw_t 933 (by decide +kernel) (by decide +kernel)
theorem k_934 : Cond.constantLong "DayBookModel" 78 (11 : Int64) ∈ gw := gw_t 934 (by decide +kernel) (by decide +kernel)
theorem k_935 : Cond.constantLong "DayBookModel" 80 (14 : Int64) ∈ gw := gw_t 935 (by decide +kernel) (by decide +kernel)
theorem k_936 : Cond.constantLong "DayBookModel" 82 (30 : Int64) ∈ gw := gw_t 936 (by decide +kernel) (by decide +kernel)
theorem k_937 : Cond.constantLong "DayBookModel" 84 (474 : Int64) ∈ gw := gw_t 937 (by decide +kernel) (by decide +kernel)
theorem k_938 : Cond.constantLong "DayBookModel" 86 (2820 : Int64) ∈ gw := gw_t 938 (by decide +kernel) (by decide +kernel)
theorem k_939 : Cond.constantLong "DayBookModel" 88 (512 : Int64) ∈ gw := gw_t 939 (by decide +kernel) (by decide +kernel)
theorem k_940 : Cond.constantLong "DayBookModel" 90 (31 : Int64) ∈ gw := gw_t 940 (by decide +kernel) (by decide +kernel)
theorem k_941 : Cond.constantLong "DayBookModel" 92 (128 : Int64) ∈ gw := gw_t 941 (by decide +kernel) (by decide +kernel)
theorem k_942 : Cond.constantLong "DayBookModel" 94 (4000 : Int64) ∈ gw := gw_t 942 (by decide +kernel) (by decide +kernel)
theorem k_943 : Cond.constantLong "DayBookModel" 96 (1844 : Int64) ∈ gw := gw_t 943 (by decide +kernel) (by decide +kernel)
theorem k_944 : Cond.constantLong "DayBookModel" 98 (7 : Int64) ∈ gw := gw_t 944 (by decide +kernel) (by decide +kernel)
theorem k_945 : Cond.constantLong "DayBookModel" 100 (19 : Int64) ∈ gw := gw_t 945 (by decide +kernel) (by decide +kernel)
theorem k_946 : Cond.fieldLink "DayBookModel" 52 "DayBookModel" "thrown" "I" ∈ gw := gw_t 946 (by decide +kernel) (by decide +kernel)
theorem k_947 : Cond.fieldLink "DayBookModel" 7 "DayBookModel" "cycle" "[I" ∈ gw := gw_t 947 (by decide +kernel) (by decide +kernel)
theorem k_948 : Cond.fieldLink "DayBookModel" 13 "DayBookModel" "days" "[J" ∈ gw := gw_t 948 (by decide +kernel) (by decide +kernel)
theorem k_949 : Cond.fieldLink "DayBookModel" 17 "DayBookModel" "there" "[Z" ∈ gw := gw_t 949 (by decide +kernel) (by decide +kernel)
theorem k_950 : Cond.fieldLink "DayBookModel" 21 "DayBookModel" "months" "[I" ∈ gw := gw_t 950 (by decide +kernel) (by decide +kernel)
theorem k_951 : Cond.fieldLink "DayBookModel" 24 "DayBookModel" "lengths" "[I" ∈ gw := gw_t 951 (by decide +kernel) (by decide +kernel)
theorem k_952 : Cond.fieldLink "DayBookModel" 27 "DayBookModel" "epochs" "[I" ∈ gw := gw_t 952 (by decide +kernel) (by decide +kernel)
theorem k_953 : Cond.fieldLink "DayBookModel" 30 "DayBookModel" "ruleA" "[I" ∈ gw := gw_t 953 (by decide +kernel) (by decide +kernel)
theorem k_954 : Cond.fieldLink "DayBookModel" 33 "DayBookModel" "ruleB" "[I" ∈ gw := gw_t 954 (by decide +kernel) (by decide +kernel)
theorem k_955 : Cond.fieldLink "DayBookModel" 36 "DayBookModel" "ruleC" "[I" ∈ gw := gw_t 955 (by decide +kernel) (by decide +kernel)
theorem k_956 : Cond.fieldLink "DayBookModel" 40 "DayBookModel" "lastCalendar" "I" ∈ gw := gw_t 956 (by decide +kernel) (by decide +kernel)
theorem k_957 : Cond.fieldLink "DayBookModel" 177 "DayBookModel" "lastYear" "J" ∈ gw := gw_t 957 (by decide +kernel) (by decide +kernel)
theorem k_958 : Cond.fieldLink "DayBookModel" 181 "DayBookModel" "lastStart" "J" ∈ gw := gw_t 958 (by decide +kernel) (by decide +kernel)
theorem k_959 : Cond.fieldLink "DayBookModel" 184 "DayBookModel" "lastEnd" "J" ∈ gw := gw_t 959 (by decide +kernel) (by decide +kernel)
theorem k_960 : Cond.fieldLink "DayBookModel" 212 "DayBookModel" "year" "J" ∈ gw := gw_t 960 (by decide +kernel) (by decide +kernel)
theorem k_961 : Cond.fieldLink "DayBookModel" 217 "DayBookModel" "month" "I" ∈ gw := gw_t 961 (by decide +kernel) (by decide +kernel)
theorem k_962 : Cond.fieldLink "DayBookModel" 222 "DayBookModel" "day" "I" ∈ gw := gw_t 962 (by decide +kernel) (by decide +kernel)
theorem k_963 : Cond.fieldLink "DayBookModel" 305 "DayBookModel" "size" "I" ∈ gw := gw_t 963 (by decide +kernel) (by decide +kernel)
theorem k_964 : Cond.fieldLink "DayBookModel" 44 "DayBookModel" "row" "[C" ∈ gw := gw_t 964 (by decide +kernel) (by decide +kernel)
theorem k_965 : Cond.lays "DayBookModel" "DayBookModel" "thrown" "I" ∈ gw := gw_t 965 (by decide +kernel) (by decide +kernel)
theorem k_967 : Cond.lays "DayBookModel" "DayBookModel" "cycle" "[I" ∈ gw := gw_t 967 (by decide +kernel) (by decide +kernel)
theorem k_969 : Cond.lays "DayBookModel" "DayBookModel" "days" "[J" ∈ gw := gw_t 969 (by decide +kernel) (by decide +kernel)
theorem k_971 : Cond.lays "DayBookModel" "DayBookModel" "there" "[Z" ∈ gw := gw_t 971 (by decide +kernel) (by decide +kernel)
theorem k_973 : Cond.lays "DayBookModel" "DayBookModel" "months" "[I" ∈ gw := gw_t 973 (by decide +kernel) (by decide +kernel)
theorem k_975 : Cond.lays "DayBookModel" "DayBookModel" "lengths" "[I" ∈ gw := gw_t 975 (by decide +kernel) (by decide +kernel)
theorem k_977 : Cond.lays "DayBookModel" "DayBookModel" "epochs" "[I" ∈ gw := gw_t 977 (by decide +kernel) (by decide +kernel)
theorem k_979 : Cond.lays "DayBookModel" "DayBookModel" "ruleA" "[I" ∈ gw := gw_t 979 (by decide +kernel) (by decide +kernel)
theorem k_981 : Cond.lays "DayBookModel" "DayBookModel" "ruleB" "[I" ∈ gw := gw_t 981 (by decide +kernel) (by decide +kernel)
theorem k_983 : Cond.lays "DayBookModel" "DayBookModel" "ruleC" "[I" ∈ gw := gw_t 983 (by decide +kernel) (by decide +kernel)
theorem k_985 : Cond.lays "DayBookModel" "DayBookModel" "lastCalendar" "I" ∈ gw := gw_t 985 (by decide +kernel) (by decide +kernel)
theorem k_987 : Cond.lays "DayBookModel" "DayBookModel" "lastYear" "J" ∈ gw := gw_t 987 (by decide +kernel) (by decide +kernel)
theorem k_989 : Cond.lays "DayBookModel" "DayBookModel" "lastStart" "J" ∈ gw := gw_t 989 (by decide +kernel) (by decide +kernel)
theorem k_991 : Cond.lays "DayBookModel" "DayBookModel" "lastEnd" "J" ∈ gw := gw_t 991 (by decide +kernel) (by decide +kernel)
theorem k_993 : Cond.lays "DayBookModel" "DayBookModel" "year" "J" ∈ gw := gw_t 993 (by decide +kernel) (by decide +kernel)
theorem k_995 : Cond.lays "DayBookModel" "DayBookModel" "month" "I" ∈ gw := gw_t 995 (by decide +kernel) (by decide +kernel)
theorem k_997 : Cond.lays "DayBookModel" "DayBookModel" "day" "I" ∈ gw := gw_t 997 (by decide +kernel) (by decide +kernel)
theorem k_999 : Cond.lays "DayBookModel" "DayBookModel" "size" "I" ∈ gw := gw_t 999 (by decide +kernel) (by decide +kernel)
theorem k_1001 : Cond.lays "DayBookModel" "DayBookModel" "row" "[C" ∈ gw := gw_t 1001 (by decide +kernel) (by decide +kernel)
theorem k_1004 : Cond.arrayClass FieldType.long ∈ gw := gw_t 1004 (by decide +kernel) (by decide +kernel)
theorem k_1005 : Cond.arrayClass FieldType.boolean ∈ gw := gw_t 1005 (by decide +kernel) (by decide +kernel)
theorem k_1006 : Cond.arrayClass FieldType.char ∈ gw := gw_t 1006 (by decide +kernel) (by decide +kernel)
theorem k_1007 : Cond.methodLink "DayBookLaw" 61 y_M_thrown ∈ gw := gw_t 1007 (by decide +kernel) (by decide +kernel)
theorem k_1009 : Cond.selects "DayBookModel" y_M_thrown y_M_thrown ∈ gw := gw_t 1009 (by decide +kernel) (by decide +kernel)
theorem k_1011 : Cond.methodLink "DayBookLaw" 60 y_M_plug ∈ gw := gw_t 1011 (by decide +kernel) (by decide +kernel)
theorem k_1013 : Cond.selects "DayBookModel" y_M_plug y_M_plug ∈ gw := gw_t 1013 (by decide +kernel) (by decide +kernel)
theorem k_1015 : Cond.constant "DayBookModel" 267 (-1000000 : Int32) ∈ gw := gw_t 1015 (by decide +kernel) (by decide +kernel)
theorem k_1016 : Cond.constant "DayBookModel" 268 (1000000 : Int32) ∈ gw := gw_t 1016 (by decide +kernel) (by decide +kernel)
theorem k_1017 : Cond.methodLink "DayBookLaw" 68 y_M_date ∈ gw := gw_t 1017 (by decide +kernel) (by decide +kernel)
theorem k_1019 : Cond.selects "DayBookModel" y_M_date y_M_date ∈ gw := gw_t 1019 (by decide +kernel) (by decide +kernel)
theorem k_1021 : Cond.methodLink "DayBookModel" 269 y_M_hasCalendar ∈ gw := gw_t 1021 (by decide +kernel) (by decide +kernel)
theorem k_1025 : Cond.methodLink "DayBookModel" 272 y_M_inRange ∈ gw := gw_t 1025 (by decide +kernel) (by decide +kernel)
theorem k_1028 : Cond.constantLong "DayBookModel" 263 (-40000000 : Int64) ∈ gw := gw_t 1028 (by decide +kernel) (by decide +kernel)
theorem k_1029 : Cond.constantLong "DayBookModel" 265 (40000000 : Int64) ∈ gw := gw_t 1029 (by decide +kernel) (by decide +kernel)
theorem k_1030 : Cond.methodLink "DayBookModel" 243 y_M_findDate ∈ gw := gw_t 1030 (by decide +kernel) (by decide +kernel)
theorem k_1034 : Cond.constantLong "DayBookModel" 225 (6912 : Int64) ∈ gw := gw_t 1034 (by decide +kernel) (by decide +kernel)
theorem k_1035 : Cond.constantLong "DayBookModel" 202 (1132959 : Int64) ∈ gw := gw_t 1035 (by decide +kernel) (by decide +kernel)
theorem k_1036 : Cond.constantLong "DayBookModel" 227 (1728 : Int64) ∈ gw := gw_t 1036 (by decide +kernel) (by decide +kernel)
theorem k_1037 : Cond.constantLong "DayBookModel" 229 (210389 : Int64) ∈ gw := gw_t 1037 (by decide +kernel) (by decide +kernel)
theorem k_1038 : Cond.constantLong "DayBookModel" 210 (12 : Int64) ∈ gw := gw_t 1038 (by decide +kernel) (by decide +kernel)
theorem k_1039 : Cond.methodLink "DayBookModel" 231 y_M_findMoonDate ∈ gw := gw_t 1039 (by decide +kernel) (by decide +kernel)
theorem k_1043 : Cond.constantLong "DayBookModel" 204 (53433336 : Int64) ∈ gw := gw_t 1043 (by decide +kernel) (by decide +kernel)
theorem k_1044 : Cond.constantLong "DayBookModel" 206 (6311670000 : Int64) ∈ gw := gw_t 1044 (by decide +kernel) (by decide +kernel)
theorem k_1045 : Cond.constantLong "DayBookModel" 208 (51840000 : Int64) ∈ gw := gw_t 1045 (by decide +kernel) (by decide +kernel)
theorem k_1046 : Cond.constantLong "DayBookModel" 215 (1593336 : Int64) ∈ gw := gw_t 1046 (by decide +kernel) (by decide +kernel)
theorem k_1047 : Cond.constantLong "DayBookModel" 220 (1603000080 : Int64) ∈ gw := gw_t 1047 (by decide +kernel) (by decide +kernel)
theorem k_1048 : Cond.methodLink "DayBookModel" 235 y_M_findYear ∈ gw := gw_t 1048 (by decide +kernel) (by decide +kernel)
theorem k_1052 : Cond.methodLink "DayBookModel" 187 y_M_findPlainYear ∈ gw := gw_t 1052 (by decide +kernel) (by decide +kernel)
theorem k_1056 : Cond.methodLink "DayBookModel" 169 y_M_epoch ∈ gw := gw_t 1056 (by decide +kernel) (by decide +kernel)
theorem k_1060 : Cond.constant "DayBookModel" 114 (103605 : Int32) ∈ gw := gw_t 1060 (by decide +kernel) (by decide +kernel)
theorem k_1061 : Cond.constant "DayBookModel" 115 (227015 : Int32) ∈ gw := gw_t 1061 (by decide +kernel) (by decide +kernel)
theorem k_1062 : Cond.constant "DayBookModel" 116 (226896 : Int32) ∈ gw := gw_t 1062 (by decide +kernel) (by decide +kernel)
theorem k_1063 : Cond.constant "DayBookModel" 117 (654415 : Int32) ∈ gw := gw_t 1063 (by decide +kernel) (by decide +kernel)
theorem k_1064 : Cond.constant "DayBookModel" 118 (673222 : Int32) ∈ gw := gw_t 1064 (by decide +kernel) (by decide +kernel)
theorem k_1065 : Cond.methodLink "DayBookModel" 194 y_M_setYear ∈ gw := gw_t 1065 (by decide +kernel) (by decide +kernel)
theorem k_1069 : Cond.methodLink "DayBookModel" 191 y_M_start ∈ gw := gw_t 1069 (by decide +kernel) (by decide +kernel)
theorem k_1073 : Cond.methodLink "DayBookModel" 158 y_M_moonStart ∈ gw := gw_t 1073 (by decide +kernel) (by decide +kernel)
theorem k_1076 : Cond.methodLink "DayBookModel" 146 y_M_moons ∈ gw := gw_t 1076 (by decide +kernel) (by decide +kernel)
theorem k_1079 : Cond.constantLong "DayBookModel" 134 (235 : Int64) ∈ gw := gw_t 1079 (by decide +kernel) (by decide +kernel)
theorem k_1080 : Cond.constantLong "DayBookModel" 136 (234 : Int64) ∈ gw := gw_t 1080 (by decide +kernel) (by decide +kernel)
theorem k_1081 : Cond.constantLong "DayBookModel" 138 (29 : Int64) ∈ gw := gw_t 1081 (by decide +kernel) (by decide +kernel)
theorem k_1082 : Cond.constantLong "DayBookModel" 140 (12084 : Int64) ∈ gw := gw_t 1082 (by decide +kernel) (by decide +kernel)
theorem k_1083 : Cond.constantLong "DayBookModel" 142 (13753 : Int64) ∈ gw := gw_t 1083 (by decide +kernel) (by decide +kernel)
theorem k_1084 : Cond.constantLong "DayBookModel" 144 (25920 : Int64) ∈ gw := gw_t 1084 (by decide +kernel) (by decide +kernel)
theorem k_1085 : Cond.constantLong "DayBookModel" 150 (1373427 : Int64) ∈ gw := gw_t 1085 (by decide +kernel) (by decide +kernel)
theorem k_1086 : Cond.constantLong "DayBookModel" 152 (356 : Int64) ∈ gw := gw_t 1086 (by decide +kernel) (by decide +kernel)
theorem k_1087 : Cond.constantLong "DayBookModel" 154 (2 : Int64) ∈ gw := gw_t 1087 (by decide +kernel) (by decide +kernel)
theorem k_1088 : Cond.constantLong "DayBookModel" 156 (382 : Int64) ∈ gw := gw_t 1088 (by decide +kernel) (by decide +kernel)
theorem k_1089 : Cond.methodLink "DayBookModel" 173 y_M_plainStart ∈ gw := gw_t 1089 (by decide +kernel) (by decide +kernel)
theorem k_1093 : Cond.constantLong "DayBookModel" 198 (98496 : Int64) ∈ gw := gw_t 1093 (by decide +kernel) (by decide +kernel)
theorem k_1094 : Cond.constantLong "DayBookModel" 200 (35975351 : Int64) ∈ gw := gw_t 1094 (by decide +kernel) (by decide +kernel)
theorem k_1095 : Cond.methodLink "DayBookModel" 238 y_M_named ∈ gw := gw_t 1095 (by decide +kernel) (by decide +kernel)
theorem k_1098 : Cond.methodLink "DayBookModel" 59 y_M_skips ∈ gw := gw_t 1098 (by decide +kernel) (by decide +kernel)
theorem k_1101 : Cond.methodLink "DayBookModel" 119 y_M_monthAt ∈ gw := gw_t 1101 (by decide +kernel) (by decide +kernel)
theorem k_1105 : Cond.methodLink "DayBookModel" 106 y_M_monthsOf ∈ gw := gw_t 1105 (by decide +kernel) (by decide +kernel)
theorem k_1109 : Cond.methodLink "DayBookModel" 123 y_M_lengthOf ∈ gw := gw_t 1109 (by decide +kernel) (by decide +kernel)
theorem k_1113 : Cond.methodLink "DayBookModel" 110 y_M_moonLength ∈ gw := gw_t 1113 (by decide +kernel) (by decide +kernel)
theorem k_1117 : Cond.constantLong "DayBookModel" 161 (355 : Int64) ∈ gw := gw_t 1117 (by decide +kernel) (by decide +kernel)
theorem k_1118 : Cond.constantLong "DayBookModel" 163 (385 : Int64) ∈ gw := gw_t 1118 (by decide +kernel) (by decide +kernel)
theorem k_1119 : Cond.constantLong "DayBookModel" 165 (353 : Int64) ∈ gw := gw_t 1119 (by decide +kernel) (by decide +kernel)
theorem k_1120 : Cond.constantLong "DayBookModel" 167 (383 : Int64) ∈ gw := gw_t 1120 (by decide +kernel) (by decide +kernel)
theorem k_1121 : Cond.methodLink "DayBookLaw" 72 y_M_fixed ∈ gw := gw_t 1121 (by decide +kernel) (by decide +kernel)
theorem k_1123 : Cond.selects "DayBookModel" y_M_fixed y_M_fixed ∈ gw := gw_t 1123 (by decide +kernel) (by decide +kernel)
theorem k_1125 : Cond.methodLink "DayBookModel" 277 y_M_isYear ∈ gw := gw_t 1125 (by decide +kernel) (by decide +kernel)
theorem k_1128 : Cond.constant "DayBookModel" 275 (-100000 : Int32) ∈ gw := gw_t 1128 (by decide +kernel) (by decide +kernel)
theorem k_1129 : Cond.constant "DayBookModel" 276 (100000 : Int32) ∈ gw := gw_t 1129 (by decide +kernel) (by decide +kernel)
theorem k_1130 : Cond.methodLink "DayBookModel" 280 y_M_dayOf ∈ gw := gw_t 1130 (by decide +kernel) (by decide +kernel)
theorem k_1134 : Cond.constantLong "DayBookModel" 250 (-9223372036854775808 : Int64) ∈ gw := gw_t 1134 (by decide +kernel) (by decide +kernel)
theorem k_1135 : Cond.methodLink "DayBookModel" 252 y_M_lookFor ∈ gw := gw_t 1135 (by decide +kernel) (by decide +kernel)
theorem k_1139 : Cond.methodLink "DayBookModel" 246 y_M_hasDate ∈ gw := gw_t 1139 (by decide +kernel) (by decide +kernel)
theorem k_1143 : Cond.methodLink "DayBookModel" 256 y_M_counted ∈ gw := gw_t 1143 (by decide +kernel) (by decide +kernel)
theorem k_1146 : Cond.methodLink "DayBookModel" 259 y_M_before ∈ gw := gw_t 1146 (by decide +kernel) (by decide +kernel)
theorem k_1150 : Cond.constantLong "DayBookModel" 241 (-1 : Int64) ∈ gw := gw_t 1150 (by decide +kernel) (by decide +kernel)
theorem k_1151 : Cond.methodLink "DayBookLaw" 76 y_M_leap ∈ gw := gw_t 1151 (by decide +kernel) (by decide +kernel)
theorem k_1153 : Cond.selects "DayBookModel" y_M_leap y_M_leap ∈ gw := gw_t 1153 (by decide +kernel) (by decide +kernel)
theorem k_1155 : Cond.methodLink "DayBookLaw" 79 y_M_onOrBefore ∈ gw := gw_t 1155 (by decide +kernel) (by decide +kernel)
theorem k_1157 : Cond.selects "DayBookModel" y_M_onOrBefore y_M_onOrBefore ∈ gw := gw_t 1157 (by decide +kernel) (by decide +kernel)
theorem k_1159 : Cond.methodLink "DayBookLaw" 83 y_M_rounds ∈ gw := gw_t 1159 (by decide +kernel) (by decide +kernel)
theorem k_1161 : Cond.selects "DayBookModel" y_M_rounds y_M_rounds ∈ gw := gw_t 1161 (by decide +kernel) (by decide +kernel)
theorem k_1163 : Cond.constantLong "DayBookModel" 284 (1137490 : Int64) ∈ gw := gw_t 1163 (by decide +kernel) (by decide +kernel)
theorem k_1164 : Cond.constantLong "DayBookModel" 286 (1000 : Int64) ∈ gw := gw_t 1164 (by decide +kernel) (by decide +kernel)
theorem k_1165 : Cond.constantLong "DayBookModel" 288 (1137302 : Int64) ∈ gw := gw_t 1165 (by decide +kernel) (by decide +kernel)
theorem k_1166 : Cond.constantLong "DayBookModel" 290 (260 : Int64) ∈ gw := gw_t 1166 (by decide +kernel) (by decide +kernel)
theorem k_1167 : Cond.methodLink "DayBookLaw" 87 y_M_meeting ∈ gw := gw_t 1167 (by decide +kernel) (by decide +kernel)
theorem k_1169 : Cond.selects "DayBookModel" y_M_meeting y_M_meeting ∈ gw := gw_t 1169 (by decide +kernel) (by decide +kernel)
theorem k_1171 : Cond.methodLink "DayBookLaw" 90 y_M_feast ∈ gw := gw_t 1171 (by decide +kernel) (by decide +kernel)
theorem k_1173 : Cond.selects "DayBookModel" y_M_feast y_M_feast ∈ gw := gw_t 1173 (by decide +kernel) (by decide +kernel)
theorem k_1175 : Cond.constant "DayBookModel" 292 (-90000 : Int32) ∈ gw := gw_t 1175 (by decide +kernel) (by decide +kernel)
theorem k_1176 : Cond.constant "DayBookModel" 293 (90000 : Int32) ∈ gw := gw_t 1176 (by decide +kernel) (by decide +kernel)
theorem k_1177 : Cond.methodLink "DayBookModel" 294 y_M_sundayBehind ∈ gw := gw_t 1177 (by decide +kernel) (by decide +kernel)
theorem k_1180 : Cond.constantLong "DayBookModel" 297 (5 : Int64) ∈ gw := gw_t 1180 (by decide +kernel) (by decide +kernel)
theorem k_1181 : Cond.constantLong "DayBookModel" 299 (8 : Int64) ∈ gw := gw_t 1181 (by decide +kernel) (by decide +kernel)
theorem k_1182 : Cond.constantLong "DayBookModel" 301 (25 : Int64) ∈ gw := gw_t 1182 (by decide +kernel) (by decide +kernel)
theorem k_1183 : Cond.constantLong "DayBookModel" 303 (10 : Int64) ∈ gw := gw_t 1183 (by decide +kernel) (by decide +kernel)
theorem k_1184 : Cond.methodLink "DayBookLaw" 94 y_M_when ∈ gw := gw_t 1184 (by decide +kernel) (by decide +kernel)
theorem k_1186 : Cond.selects "DayBookModel" y_M_when y_M_when ∈ gw := gw_t 1186 (by decide +kernel) (by decide +kernel)
theorem k_1188 : Cond.methodLink "DayBookLaw" 97 y_M_write ∈ gw := gw_t 1188 (by decide +kernel) (by decide +kernel)
theorem k_1190 : Cond.selects "DayBookModel" y_M_write y_M_write ∈ gw := gw_t 1190 (by decide +kernel) (by decide +kernel)
theorem k_1192 : Cond.methodLink "DayBookModel" 312 y_M_putNumber ∈ gw := gw_t 1192 (by decide +kernel) (by decide +kernel)
theorem k_1196 : Cond.constantLong "DayBookModel" 308 (9 : Int64) ∈ gw := gw_t 1196 (by decide +kernel) (by decide +kernel)
theorem k_1197 : Cond.constantLong "DayBookModel" 310 (48 : Int64) ∈ gw := gw_t 1197 (by decide +kernel) (by decide +kernel)
theorem k_1198 : Cond.methodLink "DayBookLaw" 102 y_M_type ∈ gw := gw_t 1198 (by decide +kernel) (by decide +kernel)
theorem k_1200 : Cond.selects "DayBookModel" y_M_type y_M_type ∈ gw := gw_t 1200 (by decide +kernel) (by decide +kernel)
theorem k_1202 : Cond.methodLink "DayBookLaw" 106 y_M_wipe ∈ gw := gw_t 1202 (by decide +kernel) (by decide +kernel)
theorem k_1204 : Cond.selects "DayBookModel" y_M_wipe y_M_wipe ∈ gw := gw_t 1204 (by decide +kernel) (by decide +kernel)
theorem k_1206 : Cond.methodLink "DayBookLaw" 111 y_M_letter ∈ gw := gw_t 1206 (by decide +kernel) (by decide +kernel)
theorem k_1208 : Cond.selects "DayBookModel" y_M_letter y_M_letter ∈ gw := gw_t 1208 (by decide +kernel) (by decide +kernel)
theorem k_1210 : Cond.methodLink "DayBookLaw" 115 y_M_read ∈ gw := gw_t 1210 (by decide +kernel) (by decide +kernel)
theorem k_1212 : Cond.selects "DayBookModel" y_M_read y_M_read ∈ gw := gw_t 1212 (by decide +kernel) (by decide +kernel)
theorem k_1214 : Cond.methodLink "DayBookModel" 315 y_M_slash ∈ gw := gw_t 1214 (by decide +kernel) (by decide +kernel)
theorem k_1218 : Cond.methodLink "DayBookModel" 318 y_M_numberIn ∈ gw := gw_t 1218 (by decide +kernel) (by decide +kernel)
theorem k_1222 : Cond.sameMethod "java/lang/AbstractStringBuilder" "java/lang/AbstractStringBuilder" "length" "()I" ∈ gw := gw_t 1222 (by decide +kernel) (by decide +kernel)
theorem k_1223 : Cond.sameMethod "java/lang/AbstractStringBuilder" "java/lang/AbstractStringBuilder" "append" "(C)Ljava/lang/AbstractStringBuilder;" ∈ gw := gw_t 1223 (by decide +kernel) (by decide +kernel)
theorem k_1224 : Cond.sameMethod "java/lang/AbstractStringBuilder" "java/lang/AbstractStringBuilder" "ensureCapacityInternal" "(I)V" ∈ gw := gw_t 1224 (by decide +kernel) (by decide +kernel)
theorem k_1225 : Cond.sameMethod "java/lang/AbstractStringBuilder" "java/lang/AbstractStringBuilder" "newCapacity" "(I)I" ∈ gw := gw_t 1225 (by decide +kernel) (by decide +kernel)
theorem k_1226 : Cond.sameMethod "java/lang/AbstractStringBuilder" "java/lang/AbstractStringBuilder" "inflate" "()V" ∈ gw := gw_t 1226 (by decide +kernel) (by decide +kernel)
theorem k_1227 : Cond.sameMethod "java/lang/AbstractStringBuilder" "java/lang/AbstractStringBuilder" "setLength" "(I)V" ∈ gw := gw_t 1227 (by decide +kernel) (by decide +kernel)
theorem k_1228 : Cond.sameMethod "java/lang/AbstractStringBuilder" "java/lang/AbstractStringBuilder" "charAt" "(I)C" ∈ gw := gw_t 1228 (by decide +kernel) (by decide +kernel)
theorem k_1229 : Cond.sameMethod "java/lang/Throwable" "java/lang/Throwable" "fillInStackTrace" "(I)Ljava/lang/Throwable;" ∈ gw := gw_t 1229 (by decide +kernel) (by decide +kernel)
theorem k_1230 : Cond.sameMethod "DayBook$YearCalendar" "DayBook$YearCalendar" "countWith" "(J)J" ∈ gw := gw_t 1230 (by decide +kernel) (by decide +kernel)
theorem k_1231 : Cond.selects "DayBook$MonthCalendar" y_MC_yearStart y_MC_yearStart ∈ gw := gw_t 1231 (by decide +kernel) (by decide +kernel)
theorem k_1232 : Cond.sameMethod "DayBook$YearCalendar" "DayBook$YearCalendar" "daysIn" "(J)I" ∈ gw := gw_t 1232 (by decide +kernel) (by decide +kernel)
theorem k_1233 : Cond.selects "DayBook$LunarCalendar" y_LC_dateOf y_LC_dateOf ∈ gw := gw_t 1233 (by decide +kernel) (by decide +kernel)
theorem k_1234 : Cond.selects "DayBook$SolarCalendar" y_SC_dateOf y_SC_dateOf ∈ gw := gw_t 1234 (by decide +kernel) (by decide +kernel)
theorem k_1235 : Cond.sameMethod "DayBook$Calendar" "DayBook$Calendar" "hasYear" "(J)Z" ∈ gw := gw_t 1235 (by decide +kernel) (by decide +kernel)
theorem k_1236 : Cond.selects "DayBook$HebrewCalendar" y_C_hasYear y_C_hasYear ∈ gw := gw_t 1236 (by decide +kernel) (by decide +kernel)
theorem k_1237 : Cond.selects "DayBook$LunarCalendar" y_C_hasYear y_C_hasYear ∈ gw := gw_t 1237 (by decide +kernel) (by decide +kernel)
theorem k_1238 : Cond.selects "DayBook$MonthCalendar" y_C_hasYear y_MC_hasYear ∈ gw := gw_t 1238 (by decide +kernel) (by decide +kernel)
theorem k_1239 : Cond.selects "DayBook$SolarCalendar" y_C_hasYear y_C_hasYear ∈ gw := gw_t 1239 (by decide +kernel) (by decide +kernel)
theorem k_1240 : Cond.selects "DayBook$WeekCalendar" y_C_hasYear y_C_hasYear ∈ gw := gw_t 1240 (by decide +kernel) (by decide +kernel)
theorem k_1241 : Cond.selects "DayBook$MonthCalendar" y_MC_countOf y_MC_countOf ∈ gw := gw_t 1241 (by decide +kernel) (by decide +kernel)
theorem k_1242 : Cond.sameMethod "java/lang/AbstractStringBuilder" "java/lang/AbstractStringBuilder" "append" "(I)Ljava/lang/AbstractStringBuilder;" ∈ gw := gw_t 1242 (by decide +kernel) (by decide +kernel)
abbrev w_JA_init : List Cond := wo y_JA_init c_JA_init 2 none
theorem j_JA_init : JV y_JA_init c_JA_init 2 none 1 := ⟨gw_t 179 (by decide +kernel) (by decide +kernel), gw_t 13 (by decide +kernel) (by decide +kernel), gw_t 178 (by decide +kernel) (by decide +kernel), ⟨by decide +kernel, by decide +kernel, by decide +kernel⟩⟩
abbrev w_JA_append_CAbstractStrin : List Cond := wo y_JA_append_CAbstractStrin c_JA_append_CAbstractStrin 2 (some (.object "java/lang/AbstractStringBuilder"))
theorem j_JA_append_CAbstractStrin : JV y_JA_append_CAbstractStrin c_JA_append_CAbstractStrin 2 (some (.object "java/lang/AbstractStringBuilder")) 1 := ⟨gw_t 265 (by decide +kernel) (by decide +kernel), gw_t 13 (by decide +kernel) (by decide +kernel), gw_t 264 (by decide +kernel) (by decide +kernel), ⟨by decide +kernel, by decide +kernel, by decide +kernel⟩⟩
abbrev w_JA_append_IAbstractStrin : List Cond := wo y_JA_append_IAbstractStrin c_JA_append_IAbstractStrin 4 (some (.object "java/lang/AbstractStringBuilder"))
theorem j_JA_append_IAbstractStrin : JV y_JA_append_IAbstractStrin c_JA_append_IAbstractStrin 4 (some (.object "java/lang/AbstractStringBuilder")) 1 := ⟨gw_t 857 (by decide +kernel) (by decide +kernel), gw_t 13 (by decide +kernel) (by decide +kernel), gw_t 856 (by decide +kernel) (by decide +kernel), ⟨by decide +kernel, by decide +kernel, by decide +kernel⟩⟩
abbrev w_JA_charAt : List Cond := wo y_JA_charAt c_JA_charAt 5 (some .char)
theorem j_JA_charAt : JV y_JA_charAt c_JA_charAt 5 (some .char) 1 := ⟨gw_t 388 (by decide +kernel) (by decide +kernel), gw_t 13 (by decide +kernel) (by decide +kernel), gw_t 387 (by decide +kernel) (by decide +kernel), ⟨by decide +kernel, by decide +kernel, by decide +kernel⟩⟩
abbrev w_JA_ensureCapacityInternal : List Cond := wo y_JA_ensureCapacityInternal c_JA_ensureCapacityInternal 3 none
theorem j_JA_ensureCapacityInternal : JV y_JA_ensureCapacityInternal c_JA_ensureCapacityInternal 3 none 1 := ⟨gw_t 269 (by decide +kernel) (by decide +kernel), gw_t 13 (by decide +kernel) (by decide +kernel), gw_t 268 (by decide +kernel) (by decide +kernel), ⟨by decide +kernel, by decide +kernel, by decide +kernel⟩⟩
abbrev w_JA_inflate : List Cond := wo y_JA_inflate c_JA_inflate 2 none
theorem j_JA_inflate : JV y_JA_inflate c_JA_inflate 2 none 0 := ⟨gw_t 312 (by decide +kernel) (by decide +kernel), gw_t 13 (by decide +kernel) (by decide +kernel), gw_t 311 (by decide +kernel) (by decide +kernel), ⟨by decide +kernel, by decide +kernel, by decide +kernel⟩⟩
abbrev w_JA_isLatin1 : List Cond := wo y_JA_isLatin1 c_JA_isLatin1 1 (some .boolean)
theorem j_JA_isLatin1 : JV y_JA_isLatin1 c_JA_isLatin1 1 (some .boolean) 0 := ⟨gw_t 305 (by decide +kernel) (by decide +kernel), gw_t 13 (by decide +kernel) (by decide +kernel), gw_t 302 (by decide +kernel) (by decide +kernel), ⟨by decide +kernel, by decide +kernel, by decide +kernel⟩⟩
abbrev w_JA_length : List Cond := wo y_JA_length c_JA_length 1 (some .int)
theorem j_JA_length : JV y_JA_length c_JA_length 1 (some .int) 0 := ⟨gw_t 258 (by decide +kernel) (by decide +kernel), gw_t 13 (by decide +kernel) (by decide +kernel), gw_t 257 (by decide +kernel) (by decide +kernel), ⟨by decide +kernel, by decide +kernel, by decide +kernel⟩⟩
abbrev w_JA_newCapacity : List Cond := wo y_JA_newCapacity c_JA_newCapacity 6 (some .int)
theorem j_JA_newCapacity : JV y_JA_newCapacity c_JA_newCapacity 6 (some .int) 1 := ⟨gw_t 273 (by decide +kernel) (by decide +kernel), gw_t 13 (by decide +kernel) (by decide +kernel), gw_t 272 (by decide +kernel) (by decide +kernel), ⟨by decide +kernel, by decide +kernel, by decide +kernel⟩⟩
abbrev w_JA_setLength : List Cond := wo y_JA_setLength c_JA_setLength 2 none
theorem j_JA_setLength : JV y_JA_setLength c_JA_setLength 2 none 1 := ⟨gw_t 364 (by decide +kernel) (by decide +kernel), gw_t 13 (by decide +kernel) (by decide +kernel), gw_t 363 (by decide +kernel) (by decide +kernel), ⟨by decide +kernel, by decide +kernel, by decide +kernel⟩⟩
abbrev w_JH_init : List Cond := wo y_JH_init c_JH_init 1 none
theorem j_JH_init : JV y_JH_init c_JH_init 1 none 0 := ⟨gw_t 511 (by decide +kernel) (by decide +kernel), gw_t 24 (by decide +kernel) (by decide +kernel), gw_t 510 (by decide +kernel) (by decide +kernel), ⟨by decide +kernel, by decide +kernel, by decide +kernel⟩⟩
abbrev w_JE_init : List Cond := wo y_JE_init c_JE_init 1 none
theorem j_JE_init : JV y_JE_init c_JE_init 1 none 0 := ⟨gw_t 453 (by decide +kernel) (by decide +kernel), gw_t 19 (by decide +kernel) (by decide +kernel), gw_t 452 (by decide +kernel) (by decide +kernel), ⟨by decide +kernel, by decide +kernel, by decide +kernel⟩⟩
abbrev w_JG_init : List Cond := wo y_JG_init c_JG_init 1 none
theorem j_JG_init : JV y_JG_init c_JG_init 1 none 0 := ⟨gw_t 480 (by decide +kernel) (by decide +kernel), gw_t 22 (by decide +kernel) (by decide +kernel), gw_t 479 (by decide +kernel) (by decide +kernel), ⟨by decide +kernel, by decide +kernel, by decide +kernel⟩⟩
abbrev w_JX_init : List Cond := wo y_JX_init c_JX_init 1 none
theorem j_JX_init : JV y_JX_init c_JX_init 1 none 0 := ⟨gw_t 447 (by decide +kernel) (by decide +kernel), gw_t 21 (by decide +kernel) (by decide +kernel), gw_t 446 (by decide +kernel) (by decide +kernel), ⟨by decide +kernel, by decide +kernel, by decide +kernel⟩⟩
abbrev w_JI_getChars : List Cond := wo y_JI_getChars c_JI_getChars 7 (some .int)
theorem j_JI_getChars : JS y_JI_getChars c_JI_getChars 7 (some .int) 3 := ⟨gw_t 863 (by decide +kernel) (by decide +kernel), gw_t 30 (by decide +kernel) (by decide +kernel), gw_t 862 (by decide +kernel) (by decide +kernel), ⟨by decide +kernel, by decide +kernel, by decide +kernel⟩⟩
abbrev w_JI_stringSize : List Cond := wo y_JI_stringSize c_JI_stringSize 4 (some .int)
theorem j_JI_stringSize : JS y_JI_stringSize c_JI_stringSize 4 (some .int) 1 := ⟨gw_t 860 (by decide +kernel) (by decide +kernel), gw_t 30 (by decide +kernel) (by decide +kernel), gw_t 859 (by decide +kernel) (by decide +kernel), ⟨by decide +kernel, by decide +kernel, by decide +kernel⟩⟩
abbrev w_JM_floorDiv_III : List Cond := wo y_JM_floorDiv_III c_JM_floorDiv_III 3 (some .int)
theorem j_JM_floorDiv_III : JS y_JM_floorDiv_III c_JM_floorDiv_III 3 (some .int) 2 := ⟨gw_t 823 (by decide +kernel) (by decide +kernel), gw_t 25 (by decide +kernel) (by decide +kernel), gw_t 822 (by decide +kernel) (by decide +kernel), ⟨by decide +kernel, by decide +kernel, by decide +kernel⟩⟩
abbrev w_JM_floorDiv_JJJ : List Cond := wo y_JM_floorDiv_JJJ c_JM_floorDiv_JJJ 6 (some .long)
theorem j_JM_floorDiv_JJJ : JS y_JM_floorDiv_JJJ c_JM_floorDiv_JJJ 6 (some .long) 2 := ⟨gw_t 541 (by decide +kernel) (by decide +kernel), gw_t 25 (by decide +kernel) (by decide +kernel), gw_t 540 (by decide +kernel) (by decide +kernel), ⟨by decide +kernel, by decide +kernel, by decide +kernel⟩⟩
abbrev w_JM_floorMod_III : List Cond := wo y_JM_floorMod_III c_JM_floorMod_III 3 (some .int)
theorem j_JM_floorMod_III : JS y_JM_floorMod_III c_JM_floorMod_III 3 (some .int) 2 := ⟨gw_t 235 (by decide +kernel) (by decide +kernel), gw_t 25 (by decide +kernel) (by decide +kernel), gw_t 234 (by decide +kernel) (by decide +kernel), ⟨by decide +kernel, by decide +kernel, by decide +kernel⟩⟩
abbrev w_JM_floorMod_JJJ : List Cond := wo y_JM_floorMod_JJJ c_JM_floorMod_JJJ 6 (some .long)
theorem j_JM_floorMod_JJJ : JS y_JM_floorMod_JJJ c_JM_floorMod_JJJ 6 (some .long) 2 := ⟨gw_t 550 (by decide +kernel) (by decide +kernel), gw_t 25 (by decide +kernel) (by decide +kernel), gw_t 549 (by decide +kernel) (by decide +kernel), ⟨by decide +kernel, by decide +kernel, by decide +kernel⟩⟩
abbrev w_JM_max : List Cond := wo y_JM_max c_JM_max 2 (some .int)
theorem j_JM_max : JS y_JM_max c_JM_max 2 (some .int) 2 := ⟨gw_t 279 (by decide +kernel) (by decide +kernel), gw_t 25 (by decide +kernel) (by decide +kernel), gw_t 278 (by decide +kernel) (by decide +kernel), ⟨by decide +kernel, by decide +kernel, by decide +kernel⟩⟩
abbrev w_JM_min : List Cond := wo y_JM_min c_JM_min 2 (some .int)
theorem j_JM_min : JS y_JM_min c_JM_min 2 (some .int) 2 := ⟨gw_t 297 (by decide +kernel) (by decide +kernel), gw_t 25 (by decide +kernel) (by decide +kernel), gw_t 296 (by decide +kernel) (by decide +kernel), ⟨by decide +kernel, by decide +kernel, by decide +kernel⟩⟩
abbrev w_JQ_init : List Cond := wo y_JQ_init c_JQ_init 1 none
abbrev w_JR_init : List Cond := wo y_JR_init c_JR_init 1 none
theorem j_JR_init : JV y_JR_init c_JR_init 1 none 0 := ⟨gw_t 450 (by decide +kernel) (by decide +kernel), gw_t 20 (by decide +kernel) (by decide +kernel), gw_t 449 (by decide +kernel) (by decide +kernel), ⟨by decide +kernel, by decide +kernel, by decide +kernel⟩⟩
abbrev w_JS_checkBoundsBeginEnd : List Cond := wo y_JS_checkBoundsBeginEnd c_JS_checkBoundsBeginEnd 3 none
theorem j_JS_checkBoundsBeginEnd : JS y_JS_checkBoundsBeginEnd c_JS_checkBoundsBeginEnd 3 none 3 := ⟨gw_t 876 (by decide +kernel) (by decide +kernel), gw_t 15 (by decide +kernel) (by decide +kernel), gw_t 875 (by decide +kernel) (by decide +kernel), ⟨by decide +kernel, by decide +kernel, by decide +kernel⟩⟩
abbrev w_JS_checkBoundsOffCount : List Cond := wo y_JS_checkBoundsOffCount c_JS_checkBoundsOffCount 3 (some .int)
theorem j_JS_checkBoundsOffCount : JS y_JS_checkBoundsOffCount c_JS_checkBoundsOffCount 3 (some .int) 3 := ⟨gw_t 327 (by decide +kernel) (by decide +kernel), gw_t 15 (by decide +kernel) (by decide +kernel), gw_t 326 (by decide +kernel) (by decide +kernel), ⟨by decide +kernel, by decide +kernel, by decide +kernel⟩⟩
abbrev w_JS_checkIndex : List Cond := wo y_JS_checkIndex c_JS_checkIndex 2 none
theorem j_JS_checkIndex : JS y_JS_checkIndex c_JS_checkIndex 2 none 2 := ⟨gw_t 350 (by decide +kernel) (by decide +kernel), gw_t 15 (by decide +kernel) (by decide +kernel), gw_t 349 (by decide +kernel) (by decide +kernel), ⟨by decide +kernel, by decide +kernel, by decide +kernel⟩⟩
abbrev w_JB_init : List Cond := wo y_JB_init c_JB_init 1 none
theorem j_JB_init : JV y_JB_init c_JB_init 1 none 0 := ⟨gw_t 176 (by decide +kernel) (by decide +kernel), gw_t 14 (by decide +kernel) (by decide +kernel), gw_t 175 (by decide +kernel) (by decide +kernel), ⟨by decide +kernel, by decide +kernel, by decide +kernel⟩⟩
abbrev w_JB_append_CStringBuilder : List Cond := wo y_JB_append_CStringBuilder c_JB_append_CStringBuilder 2 (some (.object "java/lang/StringBuilder"))
theorem j_JB_append_CStringBuilder : JV y_JB_append_CStringBuilder c_JB_append_CStringBuilder 2 (some (.object "java/lang/StringBuilder")) 1 := ⟨gw_t 262 (by decide +kernel) (by decide +kernel), gw_t 14 (by decide +kernel) (by decide +kernel), gw_t 260 (by decide +kernel) (by decide +kernel), ⟨by decide +kernel, by decide +kernel, by decide +kernel⟩⟩
theorem s_JB_append_CStringBuilder : Cond.selects "java/lang/StringBuilder" y_JB_append_CStringBuilder y_JB_append_CStringBuilder ∈ gw := gw_t 261 (by decide +kernel) (by decide +kernel)
abbrev w_JB_append_IStringBuilder : List Cond := wo y_JB_append_IStringBuilder c_JB_append_IStringBuilder 2 (some (.object "java/lang/StringBuilder"))
theorem j_JB_append_IStringBuilder : JV y_JB_append_IStringBuilder c_JB_append_IStringBuilder 2 (some (.object "java/lang/StringBuilder")) 1 := ⟨gw_t 854 (by decide +kernel) (by decide +kernel), gw_t 14 (by decide +kernel) (by decide +kernel), gw_t 852 (by decide +kernel) (by decide +kernel), ⟨by decide +kernel, by decide +kernel, by decide +kernel⟩⟩
theorem s_JB_append_IStringBuilder : Cond.selects "java/lang/StringBuilder" y_JB_append_IStringBuilder y_JB_append_IStringBuilder ∈ gw := gw_t 853 (by decide +kernel) (by decide +kernel)
abbrev w_JB_charAt : List Cond := wo y_JB_charAt c_JB_charAt 2 (some .char)
theorem j_JB_charAt : JV y_JB_charAt c_JB_charAt 2 (some .char) 1 := ⟨gw_t 385 (by decide +kernel) (by decide +kernel), gw_t 14 (by decide +kernel) (by decide +kernel), gw_t 383 (by decide +kernel) (by decide +kernel), ⟨by decide +kernel, by decide +kernel, by decide +kernel⟩⟩
theorem s_JB_charAt : Cond.selects "java/lang/StringBuilder" y_JB_charAt y_JB_charAt ∈ gw := gw_t 384 (by decide +kernel) (by decide +kernel)
abbrev w_JB_length : List Cond := wo y_JB_length c_JB_length 1 (some .int)
theorem j_JB_length : JV y_JB_length c_JB_length 1 (some .int) 0 := ⟨gw_t 255 (by decide +kernel) (by decide +kernel), gw_t 14 (by decide +kernel) (by decide +kernel), gw_t 253 (by decide +kernel) (by decide +kernel), ⟨by decide +kernel, by decide +kernel, by decide +kernel⟩⟩
theorem s_JB_length : Cond.selects "java/lang/StringBuilder" y_JB_length y_JB_length ∈ gw := gw_t 254 (by decide +kernel) (by decide +kernel)
abbrev w_JB_setLength : List Cond := wo y_JB_setLength c_JB_setLength 2 none
theorem j_JB_setLength : JV y_JB_setLength c_JB_setLength 2 none 1 := ⟨gw_t 361 (by decide +kernel) (by decide +kernel), gw_t 14 (by decide +kernel) (by decide +kernel), gw_t 359 (by decide +kernel) (by decide +kernel), ⟨by decide +kernel, by decide +kernel, by decide +kernel⟩⟩
theorem s_JB_setLength : Cond.selects "java/lang/StringBuilder" y_JB_setLength y_JB_setLength ∈ gw := gw_t 360 (by decide +kernel) (by decide +kernel)
abbrev w_JL_canEncode : List Cond := wo y_JL_canEncode c_JL_canEncode 1 (some .boolean)
theorem j_JL_canEncode : JS y_JL_canEncode c_JL_canEncode 1 (some .boolean) 1 := ⟨gw_t 308 (by decide +kernel) (by decide +kernel), gw_t 29 (by decide +kernel) (by decide +kernel), gw_t 307 (by decide +kernel) (by decide +kernel), ⟨by decide +kernel, by decide +kernel, by decide +kernel⟩⟩
abbrev w_JL_fillNull : List Cond := wo y_JL_fillNull c_JL_fillNull 3 none
theorem j_JL_fillNull : JS y_JL_fillNull c_JL_fillNull 3 none 3 := ⟨gw_t 367 (by decide +kernel) (by decide +kernel), gw_t 29 (by decide +kernel) (by decide +kernel), gw_t 366 (by decide +kernel) (by decide +kernel), ⟨by decide +kernel, by decide +kernel, by decide +kernel⟩⟩
abbrev w_JL_inflate : List Cond := wo y_JL_inflate c_JL_inflate 5 none
theorem j_JL_inflate : JS y_JL_inflate c_JL_inflate 5 none 5 := ⟨gw_t 315 (by decide +kernel) (by decide +kernel), gw_t 29 (by decide +kernel) (by decide +kernel), gw_t 314 (by decide +kernel) (by decide +kernel), ⟨by decide +kernel, by decide +kernel, by decide +kernel⟩⟩
abbrev w_JU_checkBoundsBeginEnd : List Cond := wo y_JU_checkBoundsBeginEnd c_JU_checkBoundsBeginEnd 3 none
theorem j_JU_checkBoundsBeginEnd : JS y_JU_checkBoundsBeginEnd c_JU_checkBoundsBeginEnd 3 none 3 := ⟨gw_t 873 (by decide +kernel) (by decide +kernel), gw_t 16 (by decide +kernel) (by decide +kernel), gw_t 872 (by decide +kernel) (by decide +kernel), ⟨by decide +kernel, by decide +kernel, by decide +kernel⟩⟩
abbrev w_JU_checkBoundsOffCount : List Cond := wo y_JU_checkBoundsOffCount c_JU_checkBoundsOffCount 3 none
theorem j_JU_checkBoundsOffCount : JS y_JU_checkBoundsOffCount c_JU_checkBoundsOffCount 3 none 3 := ⟨gw_t 321 (by decide +kernel) (by decide +kernel), gw_t 16 (by decide +kernel) (by decide +kernel), gw_t 320 (by decide +kernel) (by decide +kernel), ⟨by decide +kernel, by decide +kernel, by decide +kernel⟩⟩
abbrev w_JU_checkIndex : List Cond := wo y_JU_checkIndex c_JU_checkIndex 2 none
theorem j_JU_checkIndex : JS y_JU_checkIndex c_JU_checkIndex 2 none 2 := ⟨gw_t 347 (by decide +kernel) (by decide +kernel), gw_t 16 (by decide +kernel) (by decide +kernel), gw_t 346 (by decide +kernel) (by decide +kernel), ⟨by decide +kernel, by decide +kernel, by decide +kernel⟩⟩
abbrev w_JU_fillNull : List Cond := wo y_JU_fillNull c_JU_fillNull 3 none
theorem j_JU_fillNull : JS y_JU_fillNull c_JU_fillNull 3 none 3 := ⟨gw_t 376 (by decide +kernel) (by decide +kernel), gw_t 16 (by decide +kernel) (by decide +kernel), gw_t 375 (by decide +kernel) (by decide +kernel), ⟨by decide +kernel, by decide +kernel, by decide +kernel⟩⟩
abbrev w_JU_getChar : List Cond := wo y_JU_getChar c_JU_getChar 2 (some .char)
theorem j_JU_getChar : JS y_JU_getChar c_JU_getChar 2 (some .char) 2 := ⟨gw_t 393 (by decide +kernel) (by decide +kernel), gw_t 16 (by decide +kernel) (by decide +kernel), gw_t 392 (by decide +kernel) (by decide +kernel), ⟨by decide +kernel, by decide +kernel, by decide +kernel⟩⟩
abbrev w_JU_getChars_IIIBI : List Cond := wo y_JU_getChars_IIIBI c_JU_getChars_IIIBI 5 (some .int)
theorem j_JU_getChars_IIIBI : JS y_JU_getChars_IIIBI c_JU_getChars_IIIBI 5 (some .int) 4 := ⟨gw_t 870 (by decide +kernel) (by decide +kernel), gw_t 16 (by decide +kernel) (by decide +kernel), gw_t 869 (by decide +kernel) (by decide +kernel), ⟨by decide +kernel, by decide +kernel, by decide +kernel⟩⟩
abbrev w_JU_getChars_IIBI : List Cond := wo y_JU_getChars_IIBI c_JU_getChars_IIBI 7 (some .int)
theorem j_JU_getChars_IIBI : JS y_JU_getChars_IIBI c_JU_getChars_IIBI 7 (some .int) 3 := ⟨gw_t 882 (by decide +kernel) (by decide +kernel), gw_t 16 (by decide +kernel) (by decide +kernel), gw_t 881 (by decide +kernel) (by decide +kernel), ⟨by decide +kernel, by decide +kernel, by decide +kernel⟩⟩
abbrev w_JU_inflate : List Cond := wo y_JU_inflate c_JU_inflate 6 none
theorem j_JU_inflate : JS y_JU_inflate c_JU_inflate 6 none 5 := ⟨gw_t 318 (by decide +kernel) (by decide +kernel), gw_t 16 (by decide +kernel) (by decide +kernel), gw_t 317 (by decide +kernel) (by decide +kernel), ⟨by decide +kernel, by decide +kernel, by decide +kernel⟩⟩
abbrev w_JU_length : List Cond := wo y_JU_length c_JU_length 1 (some .int)
theorem j_JU_length : JS y_JU_length c_JU_length 1 (some .int) 1 := ⟨gw_t 324 (by decide +kernel) (by decide +kernel), gw_t 16 (by decide +kernel) (by decide +kernel), gw_t 323 (by decide +kernel) (by decide +kernel), ⟨by decide +kernel, by decide +kernel, by decide +kernel⟩⟩
abbrev w_JU_newBytesFor : List Cond := wo y_JU_newBytesFor c_JU_newBytesFor 1 (some (.array .byte))
theorem j_JU_newBytesFor : JS y_JU_newBytesFor c_JU_newBytesFor 1 (some (.array .byte)) 1 := ⟨gw_t 185 (by decide +kernel) (by decide +kernel), gw_t 16 (by decide +kernel) (by decide +kernel), gw_t 184 (by decide +kernel) (by decide +kernel), ⟨by decide +kernel, by decide +kernel, by decide +kernel⟩⟩
abbrev w_JU_newBytesLength : List Cond := wo y_JU_newBytesLength c_JU_newBytesLength 1 (some .int)
theorem j_JU_newBytesLength : JS y_JU_newBytesLength c_JU_newBytesLength 1 (some .int) 1 := ⟨gw_t 188 (by decide +kernel) (by decide +kernel), gw_t 16 (by decide +kernel) (by decide +kernel), gw_t 187 (by decide +kernel) (by decide +kernel), ⟨by decide +kernel, by decide +kernel, by decide +kernel⟩⟩
abbrev w_JU_putChar : List Cond := wo y_JU_putChar c_JU_putChar 3 none
theorem j_JU_putChar : JS y_JU_putChar c_JU_putChar 3 none 3 := ⟨gw_t 335 (by decide +kernel) (by decide +kernel), gw_t 16 (by decide +kernel) (by decide +kernel), gw_t 334 (by decide +kernel) (by decide +kernel), ⟨by decide +kernel, by decide +kernel, by decide +kernel⟩⟩
abbrev w_JU_putCharSB : List Cond := wo y_JU_putCharSB c_JU_putCharSB 3 none
theorem j_JU_putCharSB : JS y_JU_putCharSB c_JU_putCharSB 3 none 3 := ⟨gw_t 344 (by decide +kernel) (by decide +kernel), gw_t 16 (by decide +kernel) (by decide +kernel), gw_t 343 (by decide +kernel) (by decide +kernel), ⟨by decide +kernel, by decide +kernel, by decide +kernel⟩⟩
abbrev w_JT_init : List Cond := wo y_JT_init c_JT_init 1 none
theorem j_JT_init : JV y_JT_init c_JT_init 1 none 0 := ⟨gw_t 427 (by decide +kernel) (by decide +kernel), gw_t 18 (by decide +kernel) (by decide +kernel), gw_t 426 (by decide +kernel) (by decide +kernel), ⟨by decide +kernel, by decide +kernel, by decide +kernel⟩⟩
abbrev w_JO_init : List Cond := wo y_JO_init c_JO_init 1 none
theorem j_JO_init : JV y_JO_init c_JO_init 1 none 0 := ⟨gw_t 761 (by decide +kernel) (by decide +kernel), gw_t 26 (by decide +kernel) (by decide +kernel), gw_t 760 (by decide +kernel) (by decide +kernel), ⟨by decide +kernel, by decide +kernel, by decide +kernel⟩⟩
abbrev w_JY_copyOf : List Cond := wo y_JY_copyOf c_JY_copyOf 3 (some (.array .byte))
theorem j_JY_copyOf : JS y_JY_copyOf c_JY_copyOf 3 (some (.array .byte)) 2 := ⟨gw_t 287 (by decide +kernel) (by decide +kernel), gw_t 23 (by decide +kernel) (by decide +kernel), gw_t 286 (by decide +kernel) (by decide +kernel), ⟨by decide +kernel, by decide +kernel, by decide +kernel⟩⟩
abbrev w_JY_fill_BIIBV : List Cond := wo y_JY_fill_BIIBV c_JY_fill_BIIBV 5 none
theorem j_JY_fill_BIIBV : JS y_JY_fill_BIIBV c_JY_fill_BIIBV 5 none 4 := ⟨gw_t 370 (by decide +kernel) (by decide +kernel), gw_t 23 (by decide +kernel) (by decide +kernel), gw_t 369 (by decide +kernel) (by decide +kernel), ⟨by decide +kernel, by decide +kernel, by decide +kernel⟩⟩
abbrev w_JY_fill_IIV : List Cond := wo y_JY_fill_IIV c_JY_fill_IIV 4 none
theorem j_JY_fill_IIV : JS y_JY_fill_IIV c_JY_fill_IIV 4 none 2 := ⟨gw_t 486 (by decide +kernel) (by decide +kernel), gw_t 23 (by decide +kernel) (by decide +kernel), gw_t 485 (by decide +kernel) (by decide +kernel), ⟨by decide +kernel, by decide +kernel, by decide +kernel⟩⟩
abbrev w_JY_rangeCheck : List Cond := wo y_JY_rangeCheck c_JY_rangeCheck 3 none
theorem j_JY_rangeCheck : JS y_JY_rangeCheck c_JY_rangeCheck 3 none 3 := ⟨gw_t 373 (by decide +kernel) (by decide +kernel), gw_t 23 (by decide +kernel) (by decide +kernel), gw_t 372 (by decide +kernel) (by decide +kernel), ⟨by decide +kernel, by decide +kernel, by decide +kernel⟩⟩
abbrev w_JP_hugeLength : List Cond := wo y_JP_hugeLength c_JP_hugeLength 3 (some .int)
theorem j_JP_hugeLength : JS y_JP_hugeLength c_JP_hugeLength 3 (some .int) 2 := ⟨gw_t 283 (by decide +kernel) (by decide +kernel), gw_t 27 (by decide +kernel) (by decide +kernel), gw_t 282 (by decide +kernel) (by decide +kernel), ⟨by decide +kernel, by decide +kernel, by decide +kernel⟩⟩
abbrev w_JP_newLength : List Cond := wo y_JP_newLength c_JP_newLength 4 (some .int)
theorem j_JP_newLength : JS y_JP_newLength c_JP_newLength 4 (some .int) 3 := ⟨gw_t 276 (by decide +kernel) (by decide +kernel), gw_t 27 (by decide +kernel) (by decide +kernel), gw_t 275 (by decide +kernel) (by decide +kernel), ⟨by decide +kernel, by decide +kernel, by decide +kernel⟩⟩
abbrev w_JC_checkFromIndexSize : List Cond := wo y_JC_checkFromIndexSize c_JC_checkFromIndexSize 4 (some .int)
theorem j_JC_checkFromIndexSize : JS y_JC_checkFromIndexSize c_JC_checkFromIndexSize 4 (some .int) 4 := ⟨gw_t 332 (by decide +kernel) (by decide +kernel), gw_t 31 (by decide +kernel) (by decide +kernel), gw_t 331 (by decide +kernel) (by decide +kernel), ⟨by decide +kernel, by decide +kernel, by decide +kernel⟩⟩
abbrev w_JC_checkFromToIndex : List Cond := wo y_JC_checkFromToIndex c_JC_checkFromToIndex 4 (some .int)
theorem j_JC_checkFromToIndex : JS y_JC_checkFromToIndex c_JC_checkFromToIndex 4 (some .int) 4 := ⟨gw_t 879 (by decide +kernel) (by decide +kernel), gw_t 31 (by decide +kernel) (by decide +kernel), gw_t 878 (by decide +kernel) (by decide +kernel), ⟨by decide +kernel, by decide +kernel, by decide +kernel⟩⟩
abbrev w_JC_checkIndex : List Cond := wo y_JC_checkIndex c_JC_checkIndex 3 (some .int)
theorem j_JC_checkIndex : JS y_JC_checkIndex c_JC_checkIndex 3 (some .int) 3 := ⟨gw_t 353 (by decide +kernel) (by decide +kernel), gw_t 31 (by decide +kernel) (by decide +kernel), gw_t 352 (by decide +kernel) (by decide +kernel), ⟨by decide +kernel, by decide +kernel, by decide +kernel⟩⟩
abbrev w_B_init : List Cond := wo y_B_init c_B_init 2 none
theorem j_B_init : JV y_B_init c_B_init 2 none 0 := ⟨gw_t 36 (by decide +kernel) (by decide +kernel), gw_t 1 (by decide +kernel) (by decide +kernel), gw_t 35 (by decide +kernel) (by decide +kernel), ⟨by decide +kernel, by decide +kernel, by decide +kernel⟩⟩
abbrev w_B_calendarAt : List Cond := wo y_B_calendarAt c_B_calendarAt 2 (some (.object "DayBook$Calendar"))
theorem j_B_calendarAt : JV y_B_calendarAt c_B_calendarAt 2 (some (.object "DayBook$Calendar")) 1 := ⟨gw_t 499 (by decide +kernel) (by decide +kernel), gw_t 1 (by decide +kernel) (by decide +kernel), gw_t 498 (by decide +kernel) (by decide +kernel), ⟨by decide +kernel, by decide +kernel, by decide +kernel⟩⟩
theorem s_B_calendarAt : Cond.selects "DayBook" y_B_calendarAt y_B_calendarAt ∈ gw := gw_s 1 (by decide +kernel) (by decide +kernel)
abbrev w_B_ceilDiv : List Cond := wo y_B_ceilDiv c_B_ceilDiv 4 (some .long)
theorem j_B_ceilDiv : JS y_B_ceilDiv c_B_ceilDiv 4 (some .long) 2 := ⟨gw_t 662 (by decide +kernel) (by decide +kernel), gw_t 1 (by decide +kernel) (by decide +kernel), gw_t 661 (by decide +kernel) (by decide +kernel), ⟨by decide +kernel, by decide +kernel, by decide +kernel⟩⟩
abbrev w_B_date : List Cond := wo y_B_date c_B_date 7 (some .int)
theorem j_B_date : JV y_B_date c_B_date 7 (some .int) 3 := ⟨gw_t 495 (by decide +kernel) (by decide +kernel), gw_t 1 (by decide +kernel) (by decide +kernel), gw_t 493 (by decide +kernel) (by decide +kernel), ⟨by decide +kernel, by decide +kernel, by decide +kernel⟩⟩
theorem s_B_date : Cond.selects "DayBook" y_B_date y_B_date ∈ gw := gw_t 494 (by decide +kernel) (by decide +kernel)
abbrev w_B_dayIn : List Cond := wo y_B_dayIn c_B_dayIn 2 (some .int)
theorem j_B_dayIn : JS y_B_dayIn c_B_dayIn 2 (some .int) 1 := ⟨gw_t 692 (by decide +kernel) (by decide +kernel), gw_t 1 (by decide +kernel) (by decide +kernel), gw_t 691 (by decide +kernel) (by decide +kernel), ⟨by decide +kernel, by decide +kernel, by decide +kernel⟩⟩
abbrev w_B_feast : List Cond := wo y_B_feast c_B_feast 3 (some .int)
theorem j_B_feast : JV y_B_feast c_B_feast 3 (some .int) 2 := ⟨gw_t 810 (by decide +kernel) (by decide +kernel), gw_t 1 (by decide +kernel) (by decide +kernel), gw_t 808 (by decide +kernel) (by decide +kernel), ⟨by decide +kernel, by decide +kernel, by decide +kernel⟩⟩
theorem s_B_feast : Cond.selects "DayBook" y_B_feast y_B_feast ∈ gw := gw_t 809 (by decide +kernel) (by decide +kernel)
abbrev w_B_fixed : List Cond := wo y_B_fixed c_B_fixed 8 (some .int)
theorem j_B_fixed : JV y_B_fixed c_B_fixed 8 (some .int) 4 := ⟨gw_t 699 (by decide +kernel) (by decide +kernel), gw_t 1 (by decide +kernel) (by decide +kernel), gw_t 697 (by decide +kernel) (by decide +kernel), ⟨by decide +kernel, by decide +kernel, by decide +kernel⟩⟩
theorem s_B_fixed : Cond.selects "DayBook" y_B_fixed y_B_fixed ∈ gw := gw_t 698 (by decide +kernel) (by decide +kernel)
abbrev w_B_isDecimal : List Cond := wo y_B_isDecimal c_B_isDecimal 1 (some .boolean)
theorem j_B_isDecimal : JS y_B_isDecimal c_B_isDecimal 1 (some .boolean) 1 := ⟨gw_t 251 (by decide +kernel) (by decide +kernel), gw_t 1 (by decide +kernel) (by decide +kernel), gw_t 250 (by decide +kernel) (by decide +kernel), ⟨by decide +kernel, by decide +kernel, by decide +kernel⟩⟩
abbrev w_B_isInRange : List Cond := wo y_B_isInRange c_B_isInRange 2 (some .boolean)
theorem j_B_isInRange : JS y_B_isInRange c_B_isInRange 2 (some .boolean) 1 := ⟨gw_t 226 (by decide +kernel) (by decide +kernel), gw_t 1 (by decide +kernel) (by decide +kernel), gw_t 225 (by decide +kernel) (by decide +kernel), ⟨by decide +kernel, by decide +kernel, by decide +kernel⟩⟩
abbrev w_B_isWithin : List Cond := wo y_B_isWithin c_B_isWithin 2 (some .boolean)
theorem j_B_isWithin : JS y_B_isWithin c_B_isWithin 2 (some .boolean) 2 := ⟨gw_t 703 (by decide +kernel) (by decide +kernel), gw_t 1 (by decide +kernel) (by decide +kernel), gw_t 702 (by decide +kernel) (by decide +kernel), ⟨by decide +kernel, by decide +kernel, by decide +kernel⟩⟩
abbrev w_B_leap : List Cond := wo y_B_leap c_B_leap 4 (some .boolean)
theorem j_B_leap : JV y_B_leap c_B_leap 4 (some .boolean) 2 := ⟨gw_t 749 (by decide +kernel) (by decide +kernel), gw_t 1 (by decide +kernel) (by decide +kernel), gw_t 747 (by decide +kernel) (by decide +kernel), ⟨by decide +kernel, by decide +kernel, by decide +kernel⟩⟩
theorem s_B_leap : Cond.selects "DayBook" y_B_leap y_B_leap ∈ gw := gw_t 748 (by decide +kernel) (by decide +kernel)
abbrev w_B_letter : List Cond := wo y_B_letter c_B_letter 2 (some .char)
theorem j_B_letter : JV y_B_letter c_B_letter 2 (some .char) 1 := ⟨gw_t 381 (by decide +kernel) (by decide +kernel), gw_t 1 (by decide +kernel) (by decide +kernel), gw_t 379 (by decide +kernel) (by decide +kernel), ⟨by decide +kernel, by decide +kernel, by decide +kernel⟩⟩
theorem s_B_letter : Cond.selects "DayBook" y_B_letter y_B_letter ∈ gw := gw_t 380 (by decide +kernel) (by decide +kernel)
abbrev w_B_meeting : List Cond := wo y_B_meeting c_B_meeting 6 (some .int)
theorem j_B_meeting : JV y_B_meeting c_B_meeting 6 (some .int) 3 := ⟨gw_t 244 (by decide +kernel) (by decide +kernel), gw_t 1 (by decide +kernel) (by decide +kernel), gw_t 242 (by decide +kernel) (by decide +kernel), ⟨by decide +kernel, by decide +kernel, by decide +kernel⟩⟩
theorem s_B_meeting : Cond.selects "DayBook" y_B_meeting y_B_meeting ∈ gw := gw_t 243 (by decide +kernel) (by decide +kernel)
abbrev w_B_monthIn : List Cond := wo y_B_monthIn c_B_monthIn 2 (some .int)
theorem j_B_monthIn : JS y_B_monthIn c_B_monthIn 2 (some .int) 1 := ⟨gw_t 689 (by decide +kernel) (by decide +kernel), gw_t 1 (by decide +kernel) (by decide +kernel), gw_t 688 (by decide +kernel) (by decide +kernel), ⟨by decide +kernel, by decide +kernel, by decide +kernel⟩⟩
abbrev w_B_newEaster : List Cond := wo y_B_newEaster c_B_newEaster 5 (some .long)
theorem j_B_newEaster : JV y_B_newEaster c_B_newEaster 5 (some .long) 1 := ⟨gw_t 820 (by decide +kernel) (by decide +kernel), gw_t 1 (by decide +kernel) (by decide +kernel), gw_t 819 (by decide +kernel) (by decide +kernel), ⟨by decide +kernel, by decide +kernel, by decide +kernel⟩⟩
theorem s_B_newEaster : Cond.selects "DayBook" y_B_newEaster y_B_newEaster ∈ gw := gw_s 2 (by decide +kernel) (by decide +kernel)
abbrev w_B_numberIn : List Cond := wo y_B_numberIn c_B_numberIn 8 (some .int)
theorem j_B_numberIn : JV y_B_numberIn c_B_numberIn 8 (some .int) 2 := ⟨gw_t 899 (by decide +kernel) (by decide +kernel), gw_t 1 (by decide +kernel) (by decide +kernel), gw_t 898 (by decide +kernel) (by decide +kernel), ⟨by decide +kernel, by decide +kernel, by decide +kernel⟩⟩
theorem s_B_numberIn : Cond.selects "DayBook" y_B_numberIn y_B_numberIn ∈ gw := gw_s 5 (by decide +kernel) (by decide +kernel)
abbrev w_B_oldEaster : List Cond := wo y_B_oldEaster c_B_oldEaster 4 (some .long)
theorem j_B_oldEaster : JV y_B_oldEaster c_B_oldEaster 4 (some .long) 1 := ⟨gw_t 835 (by decide +kernel) (by decide +kernel), gw_t 1 (by decide +kernel) (by decide +kernel), gw_t 834 (by decide +kernel) (by decide +kernel), ⟨by decide +kernel, by decide +kernel, by decide +kernel⟩⟩
theorem s_B_oldEaster : Cond.selects "DayBook" y_B_oldEaster y_B_oldEaster ∈ gw := gw_s 3 (by decide +kernel) (by decide +kernel)
abbrev w_B_onOrBefore : List Cond := wo y_B_onOrBefore c_B_onOrBefore 4 (some .int)
theorem j_B_onOrBefore : JV y_B_onOrBefore c_B_onOrBefore 4 (some .int) 2 := ⟨gw_t 803 (by decide +kernel) (by decide +kernel), gw_t 1 (by decide +kernel) (by decide +kernel), gw_t 801 (by decide +kernel) (by decide +kernel), ⟨by decide +kernel, by decide +kernel, by decide +kernel⟩⟩
theorem s_B_onOrBefore : Cond.selects "DayBook" y_B_onOrBefore y_B_onOrBefore ∈ gw := gw_t 802 (by decide +kernel) (by decide +kernel)
abbrev w_B_packed : List Cond := wo y_B_packed c_B_packed 6 (some .long)
theorem j_B_packed : JS y_B_packed c_B_packed 6 (some .long) 3 := ⟨gw_t 648 (by decide +kernel) (by decide +kernel), gw_t 1 (by decide +kernel) (by decide +kernel), gw_t 647 (by decide +kernel) (by decide +kernel), ⟨by decide +kernel, by decide +kernel, by decide +kernel⟩⟩
abbrev w_B_placeIn260 : List Cond := wo y_B_placeIn260 c_B_placeIn260 1 (some .int)
theorem j_B_placeIn260 : JS y_B_placeIn260 c_B_placeIn260 1 (some .int) 1 := ⟨gw_t 238 (by decide +kernel) (by decide +kernel), gw_t 1 (by decide +kernel) (by decide +kernel), gw_t 237 (by decide +kernel) (by decide +kernel), ⟨by decide +kernel, by decide +kernel, by decide +kernel⟩⟩
abbrev w_B_placeIn365 : List Cond := wo y_B_placeIn365 c_B_placeIn365 1 (some .int)
theorem j_B_placeIn365 : JS y_B_placeIn365 c_B_placeIn365 1 (some .int) 1 := ⟨gw_t 231 (by decide +kernel) (by decide +kernel), gw_t 1 (by decide +kernel) (by decide +kernel), gw_t 230 (by decide +kernel) (by decide +kernel), ⟨by decide +kernel, by decide +kernel, by decide +kernel⟩⟩
abbrev w_B_plug : List Cond := wo y_B_plug c_B_plug 12 (some .boolean)
theorem j_B_plug : JV y_B_plug c_B_plug 12 (some .boolean) 7 := ⟨gw_t 402 (by decide +kernel) (by decide +kernel), gw_t 1 (by decide +kernel) (by decide +kernel), gw_t 400 (by decide +kernel) (by decide +kernel), ⟨by decide +kernel, by decide +kernel, by decide +kernel⟩⟩
theorem s_B_plug : Cond.selects "DayBook" y_B_plug y_B_plug ∈ gw := gw_t 401 (by decide +kernel) (by decide +kernel)
abbrev w_B_read : List Cond := wo y_B_read c_B_read 10 (some .int)
theorem j_B_read : JV y_B_read c_B_read 10 (some .int) 1 := ⟨gw_t 891 (by decide +kernel) (by decide +kernel), gw_t 1 (by decide +kernel) (by decide +kernel), gw_t 889 (by decide +kernel) (by decide +kernel), ⟨by decide +kernel, by decide +kernel, by decide +kernel⟩⟩
theorem s_B_read : Cond.selects "DayBook" y_B_read y_B_read ∈ gw := gw_t 890 (by decide +kernel) (by decide +kernel)
abbrev w_B_rounds : List Cond := wo y_B_rounds c_B_rounds 2 (some .int)
theorem j_B_rounds : JV y_B_rounds c_B_rounds 2 (some .int) 1 := ⟨gw_t 223 (by decide +kernel) (by decide +kernel), gw_t 1 (by decide +kernel) (by decide +kernel), gw_t 221 (by decide +kernel) (by decide +kernel), ⟨by decide +kernel, by decide +kernel, by decide +kernel⟩⟩
theorem s_B_rounds : Cond.selects "DayBook" y_B_rounds y_B_rounds ∈ gw := gw_t 222 (by decide +kernel) (by decide +kernel)
abbrev w_B_slashFrom : List Cond := wo y_B_slashFrom c_B_slashFrom 3 (some .int)
theorem j_B_slashFrom : JV y_B_slashFrom c_B_slashFrom 3 (some .int) 1 := ⟨gw_t 895 (by decide +kernel) (by decide +kernel), gw_t 1 (by decide +kernel) (by decide +kernel), gw_t 894 (by decide +kernel) (by decide +kernel), ⟨by decide +kernel, by decide +kernel, by decide +kernel⟩⟩
theorem s_B_slashFrom : Cond.selects "DayBook" y_B_slashFrom y_B_slashFrom ∈ gw := gw_s 4 (by decide +kernel) (by decide +kernel)
abbrev w_B_sundayBehind : List Cond := wo y_B_sundayBehind c_B_sundayBehind 2 (some .long)
theorem j_B_sundayBehind : JS y_B_sundayBehind c_B_sundayBehind 2 (some .long) 1 := ⟨gw_t 829 (by decide +kernel) (by decide +kernel), gw_t 1 (by decide +kernel) (by decide +kernel), gw_t 828 (by decide +kernel) (by decide +kernel), ⟨by decide +kernel, by decide +kernel, by decide +kernel⟩⟩
abbrev w_B_type : List Cond := wo y_B_type c_B_type 3 (some .boolean)
theorem j_B_type : JV y_B_type c_B_type 3 (some .boolean) 1 := ⟨gw_t 248 (by decide +kernel) (by decide +kernel), gw_t 1 (by decide +kernel) (by decide +kernel), gw_t 246 (by decide +kernel) (by decide +kernel), ⟨by decide +kernel, by decide +kernel, by decide +kernel⟩⟩
theorem s_B_type : Cond.selects "DayBook" y_B_type y_B_type ∈ gw := gw_t 247 (by decide +kernel) (by decide +kernel)
abbrev w_B_when : List Cond := wo y_B_when c_B_when 16 (some .int)
theorem j_B_when : JV y_B_when c_B_when 16 (some .int) 5 := ⟨gw_t 842 (by decide +kernel) (by decide +kernel), gw_t 1 (by decide +kernel) (by decide +kernel), gw_t 840 (by decide +kernel) (by decide +kernel), ⟨by decide +kernel, by decide +kernel, by decide +kernel⟩⟩
theorem s_B_when : Cond.selects "DayBook" y_B_when y_B_when ∈ gw := gw_t 841 (by decide +kernel) (by decide +kernel)
abbrev w_B_wipe : List Cond := wo y_B_wipe c_B_wipe 2 (some .int)
theorem j_B_wipe : JV y_B_wipe c_B_wipe 2 (some .int) 0 := ⟨gw_t 357 (by decide +kernel) (by decide +kernel), gw_t 1 (by decide +kernel) (by decide +kernel), gw_t 355 (by decide +kernel) (by decide +kernel), ⟨by decide +kernel, by decide +kernel, by decide +kernel⟩⟩
theorem s_B_wipe : Cond.selects "DayBook" y_B_wipe y_B_wipe ∈ gw := gw_t 356 (by decide +kernel) (by decide +kernel)
abbrev w_B_write : List Cond := wo y_B_write c_B_write 6 (some .int)
theorem j_B_write : JV y_B_write c_B_write 6 (some .int) 2 := ⟨gw_t 850 (by decide +kernel) (by decide +kernel), gw_t 1 (by decide +kernel) (by decide +kernel), gw_t 848 (by decide +kernel) (by decide +kernel), ⟨by decide +kernel, by decide +kernel, by decide +kernel⟩⟩
theorem s_B_write : Cond.selects "DayBook" y_B_write y_B_write ∈ gw := gw_t 849 (by decide +kernel) (by decide +kernel)
abbrev w_B_yearIn : List Cond := wo y_B_yearIn c_B_yearIn 2 (some .int)
theorem j_B_yearIn : JS y_B_yearIn c_B_yearIn 2 (some .int) 1 := ⟨gw_t 686 (by decide +kernel) (by decide +kernel), gw_t 1 (by decide +kernel) (by decide +kernel), gw_t 685 (by decide +kernel) (by decide +kernel), ⟨by decide +kernel, by decide +kernel, by decide +kernel⟩⟩
abbrev w_C_init : List Cond := wo y_C_init c_C_init 1 none
theorem j_C_init : JV y_C_init c_C_init 1 none 0 := ⟨gw_t 70 (by decide +kernel) (by decide +kernel), gw_t 2 (by decide +kernel) (by decide +kernel), gw_t 69 (by decide +kernel) (by decide +kernel), ⟨by decide +kernel, by decide +kernel, by decide +kernel⟩⟩
abbrev w_C_hasYear : List Cond := wo y_C_hasYear c_C_hasYear 3 (some .boolean)
theorem j_C_hasYear : JV y_C_hasYear c_C_hasYear 3 (some .boolean) 1 := ⟨gw_t 717 (by decide +kernel) (by decide +kernel), gw_t 2 (by decide +kernel) (by decide +kernel), gw_t 716 (by decide +kernel) (by decide +kernel), ⟨by decide +kernel, by decide +kernel, by decide +kernel⟩⟩
abbrev w_C_isLeap : List Cond := wo y_C_isLeap c_C_isLeap 3 (some .boolean)
theorem j_C_isLeap : JV y_C_isLeap c_C_isLeap 3 (some .boolean) 1 := ⟨gw_t 796 (by decide +kernel) (by decide +kernel), gw_t 2 (by decide +kernel) (by decide +kernel), gw_t 769 (by decide +kernel) (by decide +kernel), ⟨by decide +kernel, by decide +kernel, by decide +kernel⟩⟩
abbrev w_CR_init : List Cond := wo y_CR_init c_CR_init 4 none
theorem j_CR_init : JV y_CR_init c_CR_init 4 none 2 := ⟨gw_t 50 (by decide +kernel) (by decide +kernel), gw_t 6 (by decide +kernel) (by decide +kernel), gw_t 49 (by decide +kernel) (by decide +kernel), ⟨by decide +kernel, by decide +kernel, by decide +kernel⟩⟩
abbrev w_CR_isLeapCount : List Cond := wo y_CR_isLeapCount c_CR_isLeapCount 5 (some .boolean)
theorem j_CR_isLeapCount : JV y_CR_isLeapCount c_CR_isLeapCount 5 (some .boolean) 1 := ⟨gw_t 784 (by decide +kernel) (by decide +kernel), gw_t 6 (by decide +kernel) (by decide +kernel), gw_t 783 (by decide +kernel) (by decide +kernel), ⟨by decide +kernel, by decide +kernel, by decide +kernel⟩⟩
abbrev w_CR_leapsBefore : List Cond := wo y_CR_leapsBefore c_CR_leapsBefore 7 (some .long)
theorem j_CR_leapsBefore : JV y_CR_leapsBefore c_CR_leapsBefore 7 (some .long) 1 := ⟨gw_t 563 (by decide +kernel) (by decide +kernel), gw_t 6 (by decide +kernel) (by decide +kernel), gw_t 562 (by decide +kernel) (by decide +kernel), ⟨by decide +kernel, by decide +kernel, by decide +kernel⟩⟩
abbrev w_YR_init : List Cond := wo y_YR_init c_YR_init 1 none
theorem j_YR_init : JV y_YR_init c_YR_init 1 none 0 := ⟨gw_t 148 (by decide +kernel) (by decide +kernel), gw_t 10 (by decide +kernel) (by decide +kernel), gw_t 147 (by decide +kernel) (by decide +kernel), ⟨by decide +kernel, by decide +kernel, by decide +kernel⟩⟩
abbrev w_YR_isLeapCount : List Cond := wo y_YR_isLeapCount c_YR_isLeapCount 3 (some .boolean)
theorem j_YR_isLeapCount : JV y_YR_isLeapCount c_YR_isLeapCount 3 (some .boolean) 1 := ⟨gw_t 788 (by decide +kernel) (by decide +kernel), gw_t 10 (by decide +kernel) (by decide +kernel), gw_t 787 (by decide +kernel) (by decide +kernel), ⟨by decide +kernel, by decide +kernel, by decide +kernel⟩⟩
abbrev w_YR_leapsBefore : List Cond := wo y_YR_leapsBefore c_YR_leapsBefore 5 (some .long)
theorem j_YR_leapsBefore : JV y_YR_leapsBefore c_YR_leapsBefore 5 (some .long) 1 := ⟨gw_t 571 (by decide +kernel) (by decide +kernel), gw_t 10 (by decide +kernel) (by decide +kernel), gw_t 570 (by decide +kernel) (by decide +kernel), ⟨by decide +kernel, by decide +kernel, by decide +kernel⟩⟩
abbrev w_HC_init : List Cond := wo y_HC_init c_HC_init 1 none
theorem j_HC_init : JV y_HC_init c_HC_init 1 none 0 := ⟨gw_t 116 (by decide +kernel) (by decide +kernel), gw_t 8 (by decide +kernel) (by decide +kernel), gw_t 115 (by decide +kernel) (by decide +kernel), ⟨by decide +kernel, by decide +kernel, by decide +kernel⟩⟩
abbrev w_HC_elapsed : List Cond := wo y_HC_elapsed c_HC_elapsed 6 (some .long)
theorem j_HC_elapsed : JS y_HC_elapsed c_HC_elapsed 6 (some .long) 1 := ⟨gw_t 535 (by decide +kernel) (by decide +kernel), gw_t 8 (by decide +kernel) (by decide +kernel), gw_t 534 (by decide +kernel) (by decide +kernel), ⟨by decide +kernel, by decide +kernel, by decide +kernel⟩⟩
abbrev w_HC_isLeap : List Cond := wo y_HC_isLeap c_HC_isLeap 3 (some .boolean)
theorem j_HC_isLeap : JV y_HC_isLeap c_HC_isLeap 3 (some .boolean) 1 := ⟨gw_t 773 (by decide +kernel) (by decide +kernel), gw_t 8 (by decide +kernel) (by decide +kernel), gw_t 772 (by decide +kernel) (by decide +kernel), ⟨by decide +kernel, by decide +kernel, by decide +kernel⟩⟩
abbrev w_HC_isLong : List Cond := wo y_HC_isLong c_HC_isLong 1 (some .boolean)
theorem j_HC_isLong : JS y_HC_isLong c_HC_isLong 1 (some .boolean) 1 := ⟨gw_t 604 (by decide +kernel) (by decide +kernel), gw_t 8 (by decide +kernel) (by decide +kernel), gw_t 603 (by decide +kernel) (by decide +kernel), ⟨by decide +kernel, by decide +kernel, by decide +kernel⟩⟩
abbrev w_HC_lengthAt : List Cond := wo y_HC_lengthAt c_HC_lengthAt 3 (some .int)
theorem j_HC_lengthAt : JV y_HC_lengthAt c_HC_lengthAt 3 (some .int) 2 := ⟨gw_t 616 (by decide +kernel) (by decide +kernel), gw_t 8 (by decide +kernel) (by decide +kernel), gw_t 615 (by decide +kernel) (by decide +kernel), ⟨by decide +kernel, by decide +kernel, by decide +kernel⟩⟩
abbrev w_HC_monthAt : List Cond := wo y_HC_monthAt c_HC_monthAt 3 (some .int)
theorem j_HC_monthAt : JV y_HC_monthAt c_HC_monthAt 3 (some .int) 2 := ⟨gw_t 620 (by decide +kernel) (by decide +kernel), gw_t 8 (by decide +kernel) (by decide +kernel), gw_t 618 (by decide +kernel) (by decide +kernel), ⟨by decide +kernel, by decide +kernel, by decide +kernel⟩⟩
theorem s_HC_monthAt : Cond.selects "DayBook$HebrewCalendar" y_HC_monthAt y_HC_monthAt ∈ gw := gw_t 619 (by decide +kernel) (by decide +kernel)
abbrev w_HC_monthsIn : List Cond := wo y_HC_monthsIn c_HC_monthsIn 2 (some .int)
theorem j_HC_monthsIn : JV y_HC_monthsIn c_HC_monthsIn 2 (some .int) 1 := ⟨gw_t 601 (by decide +kernel) (by decide +kernel), gw_t 8 (by decide +kernel) (by decide +kernel), gw_t 600 (by decide +kernel) (by decide +kernel), ⟨by decide +kernel, by decide +kernel, by decide +kernel⟩⟩
abbrev w_HC_yearStart : List Cond := wo y_HC_yearStart c_HC_yearStart 7 (some .long)
theorem j_HC_yearStart : JV y_HC_yearStart c_HC_yearStart 7 (some .long) 1 := ⟨gw_t 532 (by decide +kernel) (by decide +kernel), gw_t 8 (by decide +kernel) (by decide +kernel), gw_t 531 (by decide +kernel) (by decide +kernel), ⟨by decide +kernel, by decide +kernel, by decide +kernel⟩⟩
abbrev w_LR_init : List Cond := wo y_LR_init c_LR_init 1 none
theorem j_LR_init : JV y_LR_init c_LR_init 1 none 0 := ⟨gw_t 53 (by decide +kernel) (by decide +kernel), gw_t 5 (by decide +kernel) (by decide +kernel), gw_t 52 (by decide +kernel) (by decide +kernel), ⟨by decide +kernel, by decide +kernel, by decide +kernel⟩⟩
abbrev w_LC_init : List Cond := wo y_LC_init c_LC_init 1 none
theorem j_LC_init : JV y_LC_init c_LC_init 1 none 0 := ⟨gw_t 169 (by decide +kernel) (by decide +kernel), gw_t 12 (by decide +kernel) (by decide +kernel), gw_t 168 (by decide +kernel) (by decide +kernel), ⟨by decide +kernel, by decide +kernel, by decide +kernel⟩⟩
abbrev w_LC_dateOf : List Cond := wo y_LC_dateOf c_LC_dateOf 16 (some .long)
theorem j_LC_dateOf : JV y_LC_dateOf c_LC_dateOf 16 (some .long) 1 := ⟨gw_t 653 (by decide +kernel) (by decide +kernel), gw_t 12 (by decide +kernel) (by decide +kernel), gw_t 652 (by decide +kernel) (by decide +kernel), ⟨by decide +kernel, by decide +kernel, by decide +kernel⟩⟩
theorem s_LC_dateOf : Cond.selects "DayBook$LunarCalendar" y_LC_dateOf y_LC_dateOf ∈ gw := gw_t 1233 (by decide +kernel) (by decide +kernel)
abbrev w_LC_dayOf : List Cond := wo y_LC_dayOf c_LC_dayOf 15 (some .long)
theorem j_LC_dayOf : JV y_LC_dayOf c_LC_dayOf 15 (some .long) 3 := ⟨gw_t 730 (by decide +kernel) (by decide +kernel), gw_t 12 (by decide +kernel) (by decide +kernel), gw_t 729 (by decide +kernel) (by decide +kernel), ⟨by decide +kernel, by decide +kernel, by decide +kernel⟩⟩
abbrev w_MC_init : List Cond := wo y_MC_init c_MC_init 13 none
theorem j_MC_init : JV y_MC_init c_MC_init 13 none 6 := ⟨gw_t 64 (by decide +kernel) (by decide +kernel), gw_t 4 (by decide +kernel) (by decide +kernel), gw_t 63 (by decide +kernel) (by decide +kernel), ⟨by decide +kernel, by decide +kernel, by decide +kernel⟩⟩
abbrev w_MC_countOf : List Cond := wo y_MC_countOf c_MC_countOf 3 (some .long)
theorem j_MC_countOf : JV y_MC_countOf c_MC_countOf 3 (some .long) 1 := ⟨gw_t 725 (by decide +kernel) (by decide +kernel), gw_t 4 (by decide +kernel) (by decide +kernel), gw_t 724 (by decide +kernel) (by decide +kernel), ⟨by decide +kernel, by decide +kernel, by decide +kernel⟩⟩
theorem s_MC_countOf : Cond.selects "DayBook$MonthCalendar" y_MC_countOf y_MC_countOf ∈ gw := gw_t 1241 (by decide +kernel) (by decide +kernel)
abbrev w_MC_hasYear : List Cond := wo y_MC_hasYear c_MC_hasYear 3 (some .boolean)
theorem j_MC_hasYear : JV y_MC_hasYear c_MC_hasYear 3 (some .boolean) 1 := ⟨gw_t 767 (by decide +kernel) (by decide +kernel), gw_t 4 (by decide +kernel) (by decide +kernel), gw_t 766 (by decide +kernel) (by decide +kernel), ⟨by decide +kernel, by decide +kernel, by decide +kernel⟩⟩
abbrev w_MC_isLeap : List Cond := wo y_MC_isLeap c_MC_isLeap 3 (some .boolean)
theorem j_MC_isLeap : JV y_MC_isLeap c_MC_isLeap 3 (some .boolean) 1 := ⟨gw_t 777 (by decide +kernel) (by decide +kernel), gw_t 4 (by decide +kernel) (by decide +kernel), gw_t 776 (by decide +kernel) (by decide +kernel), ⟨by decide +kernel, by decide +kernel, by decide +kernel⟩⟩
abbrev w_MC_lengthAt : List Cond := wo y_MC_lengthAt c_MC_lengthAt 3 (some .int)
theorem j_MC_lengthAt : JV y_MC_lengthAt c_MC_lengthAt 3 (some .int) 2 := ⟨gw_t 623 (by decide +kernel) (by decide +kernel), gw_t 4 (by decide +kernel) (by decide +kernel), gw_t 622 (by decide +kernel) (by decide +kernel), ⟨by decide +kernel, by decide +kernel, by decide +kernel⟩⟩
abbrev w_MC_monthAt : List Cond := wo y_MC_monthAt c_MC_monthAt 3 (some .int)
theorem j_MC_monthAt : JV y_MC_monthAt c_MC_monthAt 3 (some .int) 2 := ⟨gw_t 642 (by decide +kernel) (by decide +kernel), gw_t 4 (by decide +kernel) (by decide +kernel), gw_t 641 (by decide +kernel) (by decide +kernel), ⟨by decide +kernel, by decide +kernel, by decide +kernel⟩⟩
abbrev w_MC_monthsIn : List Cond := wo y_MC_monthsIn c_MC_monthsIn 2 (some .int)
theorem j_MC_monthsIn : JV y_MC_monthsIn c_MC_monthsIn 2 (some .int) 1 := ⟨gw_t 607 (by decide +kernel) (by decide +kernel), gw_t 4 (by decide +kernel) (by decide +kernel), gw_t 606 (by decide +kernel) (by decide +kernel), ⟨by decide +kernel, by decide +kernel, by decide +kernel⟩⟩
abbrev w_MC_yearAt : List Cond := wo y_MC_yearAt c_MC_yearAt 3 (some .long)
theorem j_MC_yearAt : JV y_MC_yearAt c_MC_yearAt 3 (some .long) 1 := ⟨gw_t 633 (by decide +kernel) (by decide +kernel), gw_t 4 (by decide +kernel) (by decide +kernel), gw_t 632 (by decide +kernel) (by decide +kernel), ⟨by decide +kernel, by decide +kernel, by decide +kernel⟩⟩
abbrev w_MC_yearStart : List Cond := wo y_MC_yearStart c_MC_yearStart 3 (some .long)
theorem j_MC_yearStart : JV y_MC_yearStart c_MC_yearStart 3 (some .long) 1 := ⟨gw_t 557 (by decide +kernel) (by decide +kernel), gw_t 4 (by decide +kernel) (by decide +kernel), gw_t 556 (by decide +kernel) (by decide +kernel), ⟨by decide +kernel, by decide +kernel, by decide +kernel⟩⟩
theorem s_MC_yearStart : Cond.selects "DayBook$MonthCalendar" y_MC_yearStart y_MC_yearStart ∈ gw := gw_t 1231 (by decide +kernel) (by decide +kernel)
abbrev w_SC_init : List Cond := wo y_SC_init c_SC_init 1 none
theorem j_SC_init : JV y_SC_init c_SC_init 1 none 0 := ⟨gw_t 162 (by decide +kernel) (by decide +kernel), gw_t 11 (by decide +kernel) (by decide +kernel), gw_t 161 (by decide +kernel) (by decide +kernel), ⟨by decide +kernel, by decide +kernel, by decide +kernel⟩⟩
abbrev w_SC_dateOf : List Cond := wo y_SC_dateOf c_SC_dateOf 9 (some .long)
theorem j_SC_dateOf : JV y_SC_dateOf c_SC_dateOf 9 (some .long) 1 := ⟨gw_t 674 (by decide +kernel) (by decide +kernel), gw_t 11 (by decide +kernel) (by decide +kernel), gw_t 673 (by decide +kernel) (by decide +kernel), ⟨by decide +kernel, by decide +kernel, by decide +kernel⟩⟩
theorem s_SC_dateOf : Cond.selects "DayBook$SolarCalendar" y_SC_dateOf y_SC_dateOf ∈ gw := gw_t 1234 (by decide +kernel) (by decide +kernel)
abbrev w_SC_dayOf : List Cond := wo y_SC_dayOf c_SC_dayOf 9 (some .long)
theorem j_SC_dayOf : JV y_SC_dayOf c_SC_dayOf 9 (some .long) 3 := ⟨gw_t 736 (by decide +kernel) (by decide +kernel), gw_t 11 (by decide +kernel) (by decide +kernel), gw_t 735 (by decide +kernel) (by decide +kernel), ⟨by decide +kernel, by decide +kernel, by decide +kernel⟩⟩
abbrev w_SR_init : List Cond := wo y_SR_init c_SR_init 7 none
theorem j_SR_init : JV y_SR_init c_SR_init 7 none 3 := ⟨gw_t 100 (by decide +kernel) (by decide +kernel), gw_t 7 (by decide +kernel) (by decide +kernel), gw_t 99 (by decide +kernel) (by decide +kernel), ⟨by decide +kernel, by decide +kernel, by decide +kernel⟩⟩
abbrev w_SR_isLeapCount : List Cond := wo y_SR_isLeapCount c_SR_isLeapCount 3 (some .boolean)
theorem j_SR_isLeapCount : JV y_SR_isLeapCount c_SR_isLeapCount 3 (some .boolean) 1 := ⟨gw_t 792 (by decide +kernel) (by decide +kernel), gw_t 7 (by decide +kernel) (by decide +kernel), gw_t 791 (by decide +kernel) (by decide +kernel), ⟨by decide +kernel, by decide +kernel, by decide +kernel⟩⟩
abbrev w_SR_leapsBefore : List Cond := wo y_SR_leapsBefore c_SR_leapsBefore 3 (some .long)
theorem j_SR_leapsBefore : JV y_SR_leapsBefore c_SR_leapsBefore 3 (some .long) 1 := ⟨gw_t 582 (by decide +kernel) (by decide +kernel), gw_t 7 (by decide +kernel) (by decide +kernel), gw_t 581 (by decide +kernel) (by decide +kernel), ⟨by decide +kernel, by decide +kernel, by decide +kernel⟩⟩
abbrev w_WC_init : List Cond := wo y_WC_init c_WC_init 2 none
theorem j_WC_init : JV y_WC_init c_WC_init 2 none 1 := ⟨gw_t 125 (by decide +kernel) (by decide +kernel), gw_t 9 (by decide +kernel) (by decide +kernel), gw_t 124 (by decide +kernel) (by decide +kernel), ⟨by decide +kernel, by decide +kernel, by decide +kernel⟩⟩
abbrev w_WC_lengthAt : List Cond := wo y_WC_lengthAt c_WC_lengthAt 3 (some .int)
theorem j_WC_lengthAt : JV y_WC_lengthAt c_WC_lengthAt 3 (some .int) 2 := ⟨gw_t 626 (by decide +kernel) (by decide +kernel), gw_t 9 (by decide +kernel) (by decide +kernel), gw_t 625 (by decide +kernel) (by decide +kernel), ⟨by decide +kernel, by decide +kernel, by decide +kernel⟩⟩
abbrev w_WC_monthAt : List Cond := wo y_WC_monthAt c_WC_monthAt 3 (some .int)
theorem j_WC_monthAt : JV y_WC_monthAt c_WC_monthAt 3 (some .int) 2 := ⟨gw_t 645 (by decide +kernel) (by decide +kernel), gw_t 9 (by decide +kernel) (by decide +kernel), gw_t 644 (by decide +kernel) (by decide +kernel), ⟨by decide +kernel, by decide +kernel, by decide +kernel⟩⟩
abbrev w_WC_monthsIn : List Cond := wo y_WC_monthsIn c_WC_monthsIn 2 (some .int)
theorem j_WC_monthsIn : JV y_WC_monthsIn c_WC_monthsIn 2 (some .int) 1 := ⟨gw_t 610 (by decide +kernel) (by decide +kernel), gw_t 9 (by decide +kernel) (by decide +kernel), gw_t 609 (by decide +kernel) (by decide +kernel), ⟨by decide +kernel, by decide +kernel, by decide +kernel⟩⟩
abbrev w_WC_yearStart : List Cond := wo y_WC_yearStart c_WC_yearStart 5 (some .long)
theorem j_WC_yearStart : JV y_WC_yearStart c_WC_yearStart 5 (some .long) 1 := ⟨gw_t 586 (by decide +kernel) (by decide +kernel), gw_t 9 (by decide +kernel) (by decide +kernel), gw_t 585 (by decide +kernel) (by decide +kernel), ⟨by decide +kernel, by decide +kernel, by decide +kernel⟩⟩
abbrev w_Y_init : List Cond := wo y_Y_init c_Y_init 1 none
theorem j_Y_init : JV y_Y_init c_Y_init 1 none 0 := ⟨gw_t 67 (by decide +kernel) (by decide +kernel), gw_t 3 (by decide +kernel) (by decide +kernel), gw_t 66 (by decide +kernel) (by decide +kernel), ⟨by decide +kernel, by decide +kernel, by decide +kernel⟩⟩
abbrev w_Y_countOf : List Cond := wo y_Y_countOf c_Y_countOf 3 (some .long)
theorem j_Y_countOf : JV y_Y_countOf c_Y_countOf 3 (some .long) 1 := ⟨gw_t 727 (by decide +kernel) (by decide +kernel), gw_t 3 (by decide +kernel) (by decide +kernel), gw_t 720 (by decide +kernel) (by decide +kernel), ⟨by decide +kernel, by decide +kernel, by decide +kernel⟩⟩
abbrev w_Y_countWith : List Cond := wo y_Y_countWith c_Y_countWith 7 (some .long)
theorem j_Y_countWith : JV y_Y_countWith c_Y_countWith 7 (some .long) 1 := ⟨gw_t 524 (by decide +kernel) (by decide +kernel), gw_t 3 (by decide +kernel) (by decide +kernel), gw_t 523 (by decide +kernel) (by decide +kernel), ⟨by decide +kernel, by decide +kernel, by decide +kernel⟩⟩
abbrev w_Y_dateOf : List Cond := wo y_Y_dateOf c_Y_dateOf 10 (some .long)
theorem j_Y_dateOf : JV y_Y_dateOf c_Y_dateOf 10 (some .long) 1 := ⟨gw_t 520 (by decide +kernel) (by decide +kernel), gw_t 3 (by decide +kernel) (by decide +kernel), gw_t 519 (by decide +kernel) (by decide +kernel), ⟨by decide +kernel, by decide +kernel, by decide +kernel⟩⟩
abbrev w_Y_dayOf : List Cond := wo y_Y_dayOf c_Y_dayOf 13 (some .long)
theorem j_Y_dayOf : JV y_Y_dayOf c_Y_dayOf 13 (some .long) 3 := ⟨gw_t 709 (by decide +kernel) (by decide +kernel), gw_t 3 (by decide +kernel) (by decide +kernel), gw_t 708 (by decide +kernel) (by decide +kernel), ⟨by decide +kernel, by decide +kernel, by decide +kernel⟩⟩
abbrev w_Y_daysIn : List Cond := wo y_Y_daysIn c_Y_daysIn 3 (some .int)
theorem j_Y_daysIn : JV y_Y_daysIn c_Y_daysIn 3 (some .int) 1 := ⟨gw_t 595 (by decide +kernel) (by decide +kernel), gw_t 3 (by decide +kernel) (by decide +kernel), gw_t 594 (by decide +kernel) (by decide +kernel), ⟨by decide +kernel, by decide +kernel, by decide +kernel⟩⟩
abbrev w_Y_yearAt : List Cond := wo y_Y_yearAt c_Y_yearAt 3 (some .long)
theorem j_Y_yearAt : JV y_Y_yearAt c_Y_yearAt 3 (some .long) 1 := ⟨gw_t 635 (by decide +kernel) (by decide +kernel), gw_t 3 (by decide +kernel) (by decide +kernel), gw_t 628 (by decide +kernel) (by decide +kernel), ⟨by decide +kernel, by decide +kernel, by decide +kernel⟩⟩
abbrev w_M_init : List Cond := wo y_M_init c_M_init 2 none
theorem j_M_init : JV y_M_init c_M_init 2 none 0 := ⟨gw_t 904 (by decide +kernel) (by decide +kernel), gw_t 17 (by decide +kernel) (by decide +kernel), gw_t 903 (by decide +kernel) (by decide +kernel), ⟨by decide +kernel, by decide +kernel, by decide +kernel⟩⟩
abbrev w_M_before : List Cond := wo y_M_before c_M_before 9 (some .long)
theorem j_M_before : JV y_M_before c_M_before 9 (some .long) 3 := ⟨gw_t 1149 (by decide +kernel) (by decide +kernel), gw_t 17 (by decide +kernel) (by decide +kernel), gw_t 1148 (by decide +kernel) (by decide +kernel), ⟨by decide +kernel, by decide +kernel, by decide +kernel⟩⟩
theorem s_M_before : Cond.selects "DayBookModel" y_M_before y_M_before ∈ gw := gw_s 25 (by decide +kernel) (by decide +kernel)
abbrev w_M_countCycle : List Cond := wo y_M_countCycle c_M_countCycle 5 none
theorem j_M_countCycle : JV y_M_countCycle c_M_countCycle 5 none 1 := ⟨gw_t 910 (by decide +kernel) (by decide +kernel), gw_t 17 (by decide +kernel) (by decide +kernel), gw_t 909 (by decide +kernel) (by decide +kernel), ⟨by decide +kernel, by decide +kernel, by decide +kernel⟩⟩
theorem s_M_countCycle : Cond.selects "DayBookModel" y_M_countCycle y_M_countCycle ∈ gw := gw_s 6 (by decide +kernel) (by decide +kernel)
abbrev w_M_counted : List Cond := wo y_M_counted c_M_counted 3 (some .long)
theorem j_M_counted : JS y_M_counted c_M_counted 3 (some .long) 2 := ⟨gw_t 1145 (by decide +kernel) (by decide +kernel), gw_t 17 (by decide +kernel) (by decide +kernel), gw_t 1144 (by decide +kernel) (by decide +kernel), ⟨by decide +kernel, by decide +kernel, by decide +kernel⟩⟩
abbrev w_M_date : List Cond := wo y_M_date c_M_date 4 (some .int)
theorem j_M_date : JV y_M_date c_M_date 4 (some .int) 3 := ⟨gw_t 1020 (by decide +kernel) (by decide +kernel), gw_t 17 (by decide +kernel) (by decide +kernel), gw_t 1018 (by decide +kernel) (by decide +kernel), ⟨by decide +kernel, by decide +kernel, by decide +kernel⟩⟩
theorem s_M_date : Cond.selects "DayBookModel" y_M_date y_M_date ∈ gw := gw_t 1019 (by decide +kernel) (by decide +kernel)
abbrev w_M_dayOf : List Cond := wo y_M_dayOf c_M_dayOf 11 (some .long)
theorem j_M_dayOf : JV y_M_dayOf c_M_dayOf 11 (some .long) 4 := ⟨gw_t 1133 (by decide +kernel) (by decide +kernel), gw_t 17 (by decide +kernel) (by decide +kernel), gw_t 1132 (by decide +kernel) (by decide +kernel), ⟨by decide +kernel, by decide +kernel, by decide +kernel⟩⟩
theorem s_M_dayOf : Cond.selects "DayBookModel" y_M_dayOf y_M_dayOf ∈ gw := gw_s 22 (by decide +kernel) (by decide +kernel)
abbrev w_M_div : List Cond := wo y_M_div c_M_div 6 (some .long)
theorem j_M_div : JS y_M_div c_M_div 6 (some .long) 2 := ⟨gw_t 930 (by decide +kernel) (by decide +kernel), gw_t 17 (by decide +kernel) (by decide +kernel), gw_t 929 (by decide +kernel) (by decide +kernel), ⟨by decide +kernel, by decide +kernel, by decide +kernel⟩⟩
abbrev w_M_epoch : List Cond := wo y_M_epoch c_M_epoch 2 (some .int)
theorem j_M_epoch : JV y_M_epoch c_M_epoch 2 (some .int) 1 := ⟨gw_t 1059 (by decide +kernel) (by decide +kernel), gw_t 17 (by decide +kernel) (by decide +kernel), gw_t 1058 (by decide +kernel) (by decide +kernel), ⟨by decide +kernel, by decide +kernel, by decide +kernel⟩⟩
theorem s_M_epoch : Cond.selects "DayBookModel" y_M_epoch y_M_epoch ∈ gw := gw_s 14 (by decide +kernel) (by decide +kernel)
abbrev w_M_feast : List Cond := wo y_M_feast c_M_feast 9 (some .int)
theorem j_M_feast : JV y_M_feast c_M_feast 9 (some .int) 2 := ⟨gw_t 1174 (by decide +kernel) (by decide +kernel), gw_t 17 (by decide +kernel) (by decide +kernel), gw_t 1172 (by decide +kernel) (by decide +kernel), ⟨by decide +kernel, by decide +kernel, by decide +kernel⟩⟩
theorem s_M_feast : Cond.selects "DayBookModel" y_M_feast y_M_feast ∈ gw := gw_t 1173 (by decide +kernel) (by decide +kernel)
abbrev w_M_findDate : List Cond := wo y_M_findDate c_M_findDate 8 none
theorem j_M_findDate : JV y_M_findDate c_M_findDate 8 none 2 := ⟨gw_t 1033 (by decide +kernel) (by decide +kernel), gw_t 17 (by decide +kernel) (by decide +kernel), gw_t 1032 (by decide +kernel) (by decide +kernel), ⟨by decide +kernel, by decide +kernel, by decide +kernel⟩⟩
theorem s_M_findDate : Cond.selects "DayBookModel" y_M_findDate y_M_findDate ∈ gw := gw_s 10 (by decide +kernel) (by decide +kernel)
abbrev w_M_findMoonDate : List Cond := wo y_M_findMoonDate c_M_findMoonDate 11 none
theorem j_M_findMoonDate : JV y_M_findMoonDate c_M_findMoonDate 11 none 1 := ⟨gw_t 1042 (by decide +kernel) (by decide +kernel), gw_t 17 (by decide +kernel) (by decide +kernel), gw_t 1041 (by decide +kernel) (by decide +kernel), ⟨by decide +kernel, by decide +kernel, by decide +kernel⟩⟩
theorem s_M_findMoonDate : Cond.selects "DayBookModel" y_M_findMoonDate y_M_findMoonDate ∈ gw := gw_s 11 (by decide +kernel) (by decide +kernel)
abbrev w_M_findPlainYear : List Cond := wo y_M_findPlainYear c_M_findPlainYear 12 none
theorem j_M_findPlainYear : JV y_M_findPlainYear c_M_findPlainYear 12 none 2 := ⟨gw_t 1055 (by decide +kernel) (by decide +kernel), gw_t 17 (by decide +kernel) (by decide +kernel), gw_t 1054 (by decide +kernel) (by decide +kernel), ⟨by decide +kernel, by decide +kernel, by decide +kernel⟩⟩
theorem s_M_findPlainYear : Cond.selects "DayBookModel" y_M_findPlainYear y_M_findPlainYear ∈ gw := gw_s 13 (by decide +kernel) (by decide +kernel)
abbrev w_M_findYear : List Cond := wo y_M_findYear c_M_findYear 6 none
theorem j_M_findYear : JV y_M_findYear c_M_findYear 6 none 2 := ⟨gw_t 1051 (by decide +kernel) (by decide +kernel), gw_t 17 (by decide +kernel) (by decide +kernel), gw_t 1050 (by decide +kernel) (by decide +kernel), ⟨by decide +kernel, by decide +kernel, by decide +kernel⟩⟩
theorem s_M_findYear : Cond.selects "DayBookModel" y_M_findYear y_M_findYear ∈ gw := gw_s 12 (by decide +kernel) (by decide +kernel)
abbrev w_M_fixed : List Cond := wo y_M_fixed c_M_fixed 7 (some .int)
theorem j_M_fixed : JV y_M_fixed c_M_fixed 7 (some .int) 4 := ⟨gw_t 1124 (by decide +kernel) (by decide +kernel), gw_t 17 (by decide +kernel) (by decide +kernel), gw_t 1122 (by decide +kernel) (by decide +kernel), ⟨by decide +kernel, by decide +kernel, by decide +kernel⟩⟩
theorem s_M_fixed : Cond.selects "DayBookModel" y_M_fixed y_M_fixed ∈ gw := gw_t 1123 (by decide +kernel) (by decide +kernel)
abbrev w_M_hasCalendar : List Cond := wo y_M_hasCalendar c_M_hasCalendar 2 (some .boolean)
theorem j_M_hasCalendar : JV y_M_hasCalendar c_M_hasCalendar 2 (some .boolean) 1 := ⟨gw_t 1024 (by decide +kernel) (by decide +kernel), gw_t 17 (by decide +kernel) (by decide +kernel), gw_t 1023 (by decide +kernel) (by decide +kernel), ⟨by decide +kernel, by decide +kernel, by decide +kernel⟩⟩
theorem s_M_hasCalendar : Cond.selects "DayBookModel" y_M_hasCalendar y_M_hasCalendar ∈ gw := gw_s 9 (by decide +kernel) (by decide +kernel)
abbrev w_M_hasDate : List Cond := wo y_M_hasDate c_M_hasDate 7 (some .boolean)
theorem j_M_hasDate : JV y_M_hasDate c_M_hasDate 7 (some .boolean) 5 := ⟨gw_t 1142 (by decide +kernel) (by decide +kernel), gw_t 17 (by decide +kernel) (by decide +kernel), gw_t 1141 (by decide +kernel) (by decide +kernel), ⟨by decide +kernel, by decide +kernel, by decide +kernel⟩⟩
theorem s_M_hasDate : Cond.selects "DayBookModel" y_M_hasDate y_M_hasDate ∈ gw := gw_s 24 (by decide +kernel) (by decide +kernel)
abbrev w_M_inRange : List Cond := wo y_M_inRange c_M_inRange 2 (some .boolean)
theorem j_M_inRange : JS y_M_inRange c_M_inRange 2 (some .boolean) 1 := ⟨gw_t 1027 (by decide +kernel) (by decide +kernel), gw_t 17 (by decide +kernel) (by decide +kernel), gw_t 1026 (by decide +kernel) (by decide +kernel), ⟨by decide +kernel, by decide +kernel, by decide +kernel⟩⟩
abbrev w_M_isLeap : List Cond := wo y_M_isLeap c_M_isLeap 4 (some .boolean)
theorem j_M_isLeap : JV y_M_isLeap c_M_isLeap 4 (some .boolean) 2 := ⟨gw_t 920 (by decide +kernel) (by decide +kernel), gw_t 17 (by decide +kernel) (by decide +kernel), gw_t 919 (by decide +kernel) (by decide +kernel), ⟨by decide +kernel, by decide +kernel, by decide +kernel⟩⟩
theorem s_M_isLeap : Cond.selects "DayBookModel" y_M_isLeap y_M_isLeap ∈ gw := gw_s 8 (by decide +kernel) (by decide +kernel)
abbrev w_M_isYear : List Cond := wo y_M_isYear c_M_isYear 1 (some .boolean)
theorem j_M_isYear : JS y_M_isYear c_M_isYear 1 (some .boolean) 1 := ⟨gw_t 1127 (by decide +kernel) (by decide +kernel), gw_t 17 (by decide +kernel) (by decide +kernel), gw_t 1126 (by decide +kernel) (by decide +kernel), ⟨by decide +kernel, by decide +kernel, by decide +kernel⟩⟩
abbrev w_M_leap : List Cond := wo y_M_leap c_M_leap 3 (some .boolean)
theorem j_M_leap : JV y_M_leap c_M_leap 3 (some .boolean) 2 := ⟨gw_t 1154 (by decide +kernel) (by decide +kernel), gw_t 17 (by decide +kernel) (by decide +kernel), gw_t 1152 (by decide +kernel) (by decide +kernel), ⟨by decide +kernel, by decide +kernel, by decide +kernel⟩⟩
theorem s_M_leap : Cond.selects "DayBookModel" y_M_leap y_M_leap ∈ gw := gw_t 1153 (by decide +kernel) (by decide +kernel)
abbrev w_M_leap0 : List Cond := wo y_M_leap0 c_M_leap0 2 (some .boolean)
theorem j_M_leap0 : JS y_M_leap0 c_M_leap0 2 (some .boolean) 1 := ⟨gw_t 923 (by decide +kernel) (by decide +kernel), gw_t 17 (by decide +kernel) (by decide +kernel), gw_t 922 (by decide +kernel) (by decide +kernel), ⟨by decide +kernel, by decide +kernel, by decide +kernel⟩⟩
abbrev w_M_lengthOf : List Cond := wo y_M_lengthOf c_M_lengthOf 6 (some .int)
theorem j_M_lengthOf : JV y_M_lengthOf c_M_lengthOf 6 (some .int) 3 := ⟨gw_t 1112 (by decide +kernel) (by decide +kernel), gw_t 17 (by decide +kernel) (by decide +kernel), gw_t 1111 (by decide +kernel) (by decide +kernel), ⟨by decide +kernel, by decide +kernel, by decide +kernel⟩⟩
theorem s_M_lengthOf : Cond.selects "DayBookModel" y_M_lengthOf y_M_lengthOf ∈ gw := gw_s 20 (by decide +kernel) (by decide +kernel)
abbrev w_M_letter : List Cond := wo y_M_letter c_M_letter 2 (some .char)
theorem j_M_letter : JV y_M_letter c_M_letter 2 (some .char) 1 := ⟨gw_t 1209 (by decide +kernel) (by decide +kernel), gw_t 17 (by decide +kernel) (by decide +kernel), gw_t 1207 (by decide +kernel) (by decide +kernel), ⟨by decide +kernel, by decide +kernel, by decide +kernel⟩⟩
theorem s_M_letter : Cond.selects "DayBookModel" y_M_letter y_M_letter ∈ gw := gw_t 1208 (by decide +kernel) (by decide +kernel)
abbrev w_M_lookFor : List Cond := wo y_M_lookFor c_M_lookFor 10 (some .long)
theorem j_M_lookFor : JV y_M_lookFor c_M_lookFor 10 (some .long) 6 := ⟨gw_t 1138 (by decide +kernel) (by decide +kernel), gw_t 17 (by decide +kernel) (by decide +kernel), gw_t 1137 (by decide +kernel) (by decide +kernel), ⟨by decide +kernel, by decide +kernel, by decide +kernel⟩⟩
theorem s_M_lookFor : Cond.selects "DayBookModel" y_M_lookFor y_M_lookFor ∈ gw := gw_s 23 (by decide +kernel) (by decide +kernel)
abbrev w_M_meeting : List Cond := wo y_M_meeting c_M_meeting 7 (some .int)
theorem j_M_meeting : JV y_M_meeting c_M_meeting 7 (some .int) 3 := ⟨gw_t 1170 (by decide +kernel) (by decide +kernel), gw_t 17 (by decide +kernel) (by decide +kernel), gw_t 1168 (by decide +kernel) (by decide +kernel), ⟨by decide +kernel, by decide +kernel, by decide +kernel⟩⟩
theorem s_M_meeting : Cond.selects "DayBookModel" y_M_meeting y_M_meeting ∈ gw := gw_t 1169 (by decide +kernel) (by decide +kernel)
abbrev w_M_mod : List Cond := wo y_M_mod c_M_mod 4 (some .long)
theorem j_M_mod : JS y_M_mod c_M_mod 4 (some .long) 2 := ⟨gw_t 927 (by decide +kernel) (by decide +kernel), gw_t 17 (by decide +kernel) (by decide +kernel), gw_t 926 (by decide +kernel) (by decide +kernel), ⟨by decide +kernel, by decide +kernel, by decide +kernel⟩⟩
abbrev w_M_monthAt : List Cond := wo y_M_monthAt c_M_monthAt 6 (some .int)
theorem j_M_monthAt : JV y_M_monthAt c_M_monthAt 6 (some .int) 3 := ⟨gw_t 1104 (by decide +kernel) (by decide +kernel), gw_t 17 (by decide +kernel) (by decide +kernel), gw_t 1103 (by decide +kernel) (by decide +kernel), ⟨by decide +kernel, by decide +kernel, by decide +kernel⟩⟩
theorem s_M_monthAt : Cond.selects "DayBookModel" y_M_monthAt y_M_monthAt ∈ gw := gw_s 18 (by decide +kernel) (by decide +kernel)
abbrev w_M_monthsOf : List Cond := wo y_M_monthsOf c_M_monthsOf 4 (some .int)
theorem j_M_monthsOf : JV y_M_monthsOf c_M_monthsOf 4 (some .int) 2 := ⟨gw_t 1108 (by decide +kernel) (by decide +kernel), gw_t 17 (by decide +kernel) (by decide +kernel), gw_t 1107 (by decide +kernel) (by decide +kernel), ⟨by decide +kernel, by decide +kernel, by decide +kernel⟩⟩
theorem s_M_monthsOf : Cond.selects "DayBookModel" y_M_monthsOf y_M_monthsOf ∈ gw := gw_s 19 (by decide +kernel) (by decide +kernel)
abbrev w_M_moonLength : List Cond := wo y_M_moonLength c_M_moonLength 7 (some .int)
theorem j_M_moonLength : JV y_M_moonLength c_M_moonLength 7 (some .int) 3 := ⟨gw_t 1116 (by decide +kernel) (by decide +kernel), gw_t 17 (by decide +kernel) (by decide +kernel), gw_t 1115 (by decide +kernel) (by decide +kernel), ⟨by decide +kernel, by decide +kernel, by decide +kernel⟩⟩
theorem s_M_moonLength : Cond.selects "DayBookModel" y_M_moonLength y_M_moonLength ∈ gw := gw_s 21 (by decide +kernel) (by decide +kernel)
abbrev w_M_moonStart : List Cond := wo y_M_moonStart c_M_moonStart 8 (some .long)
theorem j_M_moonStart : JS y_M_moonStart c_M_moonStart 8 (some .long) 1 := ⟨gw_t 1075 (by decide +kernel) (by decide +kernel), gw_t 17 (by decide +kernel) (by decide +kernel), gw_t 1074 (by decide +kernel) (by decide +kernel), ⟨by decide +kernel, by decide +kernel, by decide +kernel⟩⟩
abbrev w_M_moons : List Cond := wo y_M_moons c_M_moons 6 (some .long)
theorem j_M_moons : JS y_M_moons c_M_moons 6 (some .long) 1 := ⟨gw_t 1078 (by decide +kernel) (by decide +kernel), gw_t 17 (by decide +kernel) (by decide +kernel), gw_t 1077 (by decide +kernel) (by decide +kernel), ⟨by decide +kernel, by decide +kernel, by decide +kernel⟩⟩
abbrev w_M_named : List Cond := wo y_M_named c_M_named 3 (some .long)
theorem j_M_named : JS y_M_named c_M_named 3 (some .long) 2 := ⟨gw_t 1097 (by decide +kernel) (by decide +kernel), gw_t 17 (by decide +kernel) (by decide +kernel), gw_t 1096 (by decide +kernel) (by decide +kernel), ⟨by decide +kernel, by decide +kernel, by decide +kernel⟩⟩
abbrev w_M_numberIn : List Cond := wo y_M_numberIn c_M_numberIn 7 (some .int)
theorem j_M_numberIn : JV y_M_numberIn c_M_numberIn 7 (some .int) 2 := ⟨gw_t 1221 (by decide +kernel) (by decide +kernel), gw_t 17 (by decide +kernel) (by decide +kernel), gw_t 1220 (by decide +kernel) (by decide +kernel), ⟨by decide +kernel, by decide +kernel, by decide +kernel⟩⟩
theorem s_M_numberIn : Cond.selects "DayBookModel" y_M_numberIn y_M_numberIn ∈ gw := gw_s 28 (by decide +kernel) (by decide +kernel)
abbrev w_M_onOrBefore : List Cond := wo y_M_onOrBefore c_M_onOrBefore 3 (some .int)
theorem j_M_onOrBefore : JV y_M_onOrBefore c_M_onOrBefore 3 (some .int) 2 := ⟨gw_t 1158 (by decide +kernel) (by decide +kernel), gw_t 17 (by decide +kernel) (by decide +kernel), gw_t 1156 (by decide +kernel) (by decide +kernel), ⟨by decide +kernel, by decide +kernel, by decide +kernel⟩⟩
theorem s_M_onOrBefore : Cond.selects "DayBookModel" y_M_onOrBefore y_M_onOrBefore ∈ gw := gw_t 1157 (by decide +kernel) (by decide +kernel)
abbrev w_M_plainLength : List Cond := wo y_M_plainLength c_M_plainLength 2 (some .long)
theorem j_M_plainLength : JV y_M_plainLength c_M_plainLength 2 (some .long) 1 := ⟨gw_t 914 (by decide +kernel) (by decide +kernel), gw_t 17 (by decide +kernel) (by decide +kernel), gw_t 913 (by decide +kernel) (by decide +kernel), ⟨by decide +kernel, by decide +kernel, by decide +kernel⟩⟩
theorem s_M_plainLength : Cond.selects "DayBookModel" y_M_plainLength y_M_plainLength ∈ gw := gw_s 7 (by decide +kernel) (by decide +kernel)
abbrev w_M_plainStart : List Cond := wo y_M_plainStart c_M_plainStart 10 (some .long)
theorem j_M_plainStart : JV y_M_plainStart c_M_plainStart 10 (some .long) 2 := ⟨gw_t 1092 (by decide +kernel) (by decide +kernel), gw_t 17 (by decide +kernel) (by decide +kernel), gw_t 1091 (by decide +kernel) (by decide +kernel), ⟨by decide +kernel, by decide +kernel, by decide +kernel⟩⟩
theorem s_M_plainStart : Cond.selects "DayBookModel" y_M_plainStart y_M_plainStart ∈ gw := gw_s 17 (by decide +kernel) (by decide +kernel)
abbrev w_M_plug : List Cond := wo y_M_plug c_M_plug 9 (some .boolean)
theorem j_M_plug : JV y_M_plug c_M_plug 9 (some .boolean) 7 := ⟨gw_t 1014 (by decide +kernel) (by decide +kernel), gw_t 17 (by decide +kernel) (by decide +kernel), gw_t 1012 (by decide +kernel) (by decide +kernel), ⟨by decide +kernel, by decide +kernel, by decide +kernel⟩⟩
theorem s_M_plug : Cond.selects "DayBookModel" y_M_plug y_M_plug ∈ gw := gw_t 1013 (by decide +kernel) (by decide +kernel)
abbrev w_M_putNumber : List Cond := wo y_M_putNumber c_M_putNumber 7 none
theorem j_M_putNumber : JV y_M_putNumber c_M_putNumber 7 none 1 := ⟨gw_t 1195 (by decide +kernel) (by decide +kernel), gw_t 17 (by decide +kernel) (by decide +kernel), gw_t 1194 (by decide +kernel) (by decide +kernel), ⟨by decide +kernel, by decide +kernel, by decide +kernel⟩⟩
theorem s_M_putNumber : Cond.selects "DayBookModel" y_M_putNumber y_M_putNumber ∈ gw := gw_s 26 (by decide +kernel) (by decide +kernel)
abbrev w_M_read : List Cond := wo y_M_read c_M_read 10 (some .int)
theorem j_M_read : JV y_M_read c_M_read 10 (some .int) 1 := ⟨gw_t 1213 (by decide +kernel) (by decide +kernel), gw_t 17 (by decide +kernel) (by decide +kernel), gw_t 1211 (by decide +kernel) (by decide +kernel), ⟨by decide +kernel, by decide +kernel, by decide +kernel⟩⟩
theorem s_M_read : Cond.selects "DayBookModel" y_M_read y_M_read ∈ gw := gw_t 1212 (by decide +kernel) (by decide +kernel)
abbrev w_M_rounds : List Cond := wo y_M_rounds c_M_rounds 2 (some .int)
theorem j_M_rounds : JV y_M_rounds c_M_rounds 2 (some .int) 1 := ⟨gw_t 1162 (by decide +kernel) (by decide +kernel), gw_t 17 (by decide +kernel) (by decide +kernel), gw_t 1160 (by decide +kernel) (by decide +kernel), ⟨by decide +kernel, by decide +kernel, by decide +kernel⟩⟩
theorem s_M_rounds : Cond.selects "DayBookModel" y_M_rounds y_M_rounds ∈ gw := gw_t 1161 (by decide +kernel) (by decide +kernel)
abbrev w_M_setYear : List Cond := wo y_M_setYear c_M_setYear 8 none
theorem j_M_setYear : JV y_M_setYear c_M_setYear 8 none 4 := ⟨gw_t 1068 (by decide +kernel) (by decide +kernel), gw_t 17 (by decide +kernel) (by decide +kernel), gw_t 1067 (by decide +kernel) (by decide +kernel), ⟨by decide +kernel, by decide +kernel, by decide +kernel⟩⟩
theorem s_M_setYear : Cond.selects "DayBookModel" y_M_setYear y_M_setYear ∈ gw := gw_s 15 (by decide +kernel) (by decide +kernel)
abbrev w_M_skips : List Cond := wo y_M_skips c_M_skips 1 (some .boolean)
theorem j_M_skips : JS y_M_skips c_M_skips 1 (some .boolean) 1 := ⟨gw_t 1100 (by decide +kernel) (by decide +kernel), gw_t 17 (by decide +kernel) (by decide +kernel), gw_t 1099 (by decide +kernel) (by decide +kernel), ⟨by decide +kernel, by decide +kernel, by decide +kernel⟩⟩
abbrev w_M_slash : List Cond := wo y_M_slash c_M_slash 3 (some .int)
theorem j_M_slash : JV y_M_slash c_M_slash 3 (some .int) 1 := ⟨gw_t 1217 (by decide +kernel) (by decide +kernel), gw_t 17 (by decide +kernel) (by decide +kernel), gw_t 1216 (by decide +kernel) (by decide +kernel), ⟨by decide +kernel, by decide +kernel, by decide +kernel⟩⟩
theorem s_M_slash : Cond.selects "DayBookModel" y_M_slash y_M_slash ∈ gw := gw_s 27 (by decide +kernel) (by decide +kernel)
abbrev w_M_start : List Cond := wo y_M_start c_M_start 6 (some .long)
theorem j_M_start : JV y_M_start c_M_start 6 (some .long) 2 := ⟨gw_t 1072 (by decide +kernel) (by decide +kernel), gw_t 17 (by decide +kernel) (by decide +kernel), gw_t 1071 (by decide +kernel) (by decide +kernel), ⟨by decide +kernel, by decide +kernel, by decide +kernel⟩⟩
theorem s_M_start : Cond.selects "DayBookModel" y_M_start y_M_start ∈ gw := gw_s 16 (by decide +kernel) (by decide +kernel)
abbrev w_M_sundayBehind : List Cond := wo y_M_sundayBehind c_M_sundayBehind 2 (some .long)
theorem j_M_sundayBehind : JS y_M_sundayBehind c_M_sundayBehind 2 (some .long) 1 := ⟨gw_t 1179 (by decide +kernel) (by decide +kernel), gw_t 17 (by decide +kernel) (by decide +kernel), gw_t 1178 (by decide +kernel) (by decide +kernel), ⟨by decide +kernel, by decide +kernel, by decide +kernel⟩⟩
abbrev w_M_thrown : List Cond := wo y_M_thrown c_M_thrown 1 (some .int)
theorem j_M_thrown : JV y_M_thrown c_M_thrown 1 (some .int) 0 := ⟨gw_t 1010 (by decide +kernel) (by decide +kernel), gw_t 17 (by decide +kernel) (by decide +kernel), gw_t 1008 (by decide +kernel) (by decide +kernel), ⟨by decide +kernel, by decide +kernel, by decide +kernel⟩⟩
theorem s_M_thrown : Cond.selects "DayBookModel" y_M_thrown y_M_thrown ∈ gw := gw_t 1009 (by decide +kernel) (by decide +kernel)
abbrev w_M_type : List Cond := wo y_M_type c_M_type 2 (some .boolean)
theorem j_M_type : JV y_M_type c_M_type 2 (some .boolean) 1 := ⟨gw_t 1201 (by decide +kernel) (by decide +kernel), gw_t 17 (by decide +kernel) (by decide +kernel), gw_t 1199 (by decide +kernel) (by decide +kernel), ⟨by decide +kernel, by decide +kernel, by decide +kernel⟩⟩
theorem s_M_type : Cond.selects "DayBookModel" y_M_type y_M_type ∈ gw := gw_t 1200 (by decide +kernel) (by decide +kernel)
abbrev w_M_when : List Cond := wo y_M_when c_M_when 11 (some .int)
theorem j_M_when : JV y_M_when c_M_when 11 (some .int) 5 := ⟨gw_t 1187 (by decide +kernel) (by decide +kernel), gw_t 17 (by decide +kernel) (by decide +kernel), gw_t 1185 (by decide +kernel) (by decide +kernel), ⟨by decide +kernel, by decide +kernel, by decide +kernel⟩⟩
theorem s_M_when : Cond.selects "DayBookModel" y_M_when y_M_when ∈ gw := gw_t 1186 (by decide +kernel) (by decide +kernel)
abbrev w_M_wipe : List Cond := wo y_M_wipe c_M_wipe 2 (some .int)
theorem j_M_wipe : JV y_M_wipe c_M_wipe 2 (some .int) 0 := ⟨gw_t 1205 (by decide +kernel) (by decide +kernel), gw_t 17 (by decide +kernel) (by decide +kernel), gw_t 1203 (by decide +kernel) (by decide +kernel), ⟨by decide +kernel, by decide +kernel, by decide +kernel⟩⟩
theorem s_M_wipe : Cond.selects "DayBookModel" y_M_wipe y_M_wipe ∈ gw := gw_t 1204 (by decide +kernel) (by decide +kernel)
abbrev w_M_write : List Cond := wo y_M_write c_M_write 3 (some .int)
theorem j_M_write : JV y_M_write c_M_write 3 (some .int) 2 := ⟨gw_t 1191 (by decide +kernel) (by decide +kernel), gw_t 17 (by decide +kernel) (by decide +kernel), gw_t 1189 (by decide +kernel) (by decide +kernel), ⟨by decide +kernel, by decide +kernel, by decide +kernel⟩⟩
theorem s_M_write : Cond.selects "DayBookModel" y_M_write y_M_write ∈ gw := gw_t 1190 (by decide +kernel) (by decide +kernel)
end
section
def isPv : Cond → Bool
  | .privateMethod _ => true
  | _ => false
def NV (U : State) : Prop := NW U ∧ ∀ w ∈ tables_1, isPv w = true → va_Nw w U
theorem isPv_on {w : Cond} (h : isPv w = true) : w.onTables = true := by
  cases w <;> first | rfl | (simp [isPv] at h)
theorem NV.warm {s U : State} (hW : s.WarmedH U.vm) (h : NV s) : NV U := ⟨NW.warm hW h.1, fun w hw hn => by
  cases w <;> first | exact va_tabs rfl (rfl : (s.setVm U.vm).vm = U.vm) (by rw [Cond.privateMethod_setVm hW.alike]; exact h.2 _ hw hn) | (simp [isPv] at hn)⟩
theorem NV.calling {U : State} {g : JFrame} {mk : MethodId} {a : Array Value} (h : NV U) : NV (U.calling g mk a) := ⟨NW.calling h.1, fun w hw hn => va_Nw.same (u := U) (U := U.calling g mk a) (isPv_on hn) rfl (h.2 w hw hn)⟩
theorem NV.get {U : State} (h : NV U) {w : Cond} (i : Nat) (hi : tables_1[i]? = some w) (hn : isNw w = true) : va_Nw w U := h.1.get i hi hn
theorem NV.pv {U : State} (h : NV U) {w : Cond} (i : Nat) (hi : tables_1[i]? = some w) (hn : isPv w = true) : va_Nw w U := h.2 w (List.mem_of_getElem? hi) hn
/-- a private method is selected by every class that can be made -/
theorem sel_priv {C : String} {y : MethodName} {s : State} {args : Array Value} {n : Nat} (hy : y.cls ≠ "java/lang/invoke/MethodHandle" ∧ y.cls ≠ "java/lang/invoke/VarHandle") (hins : (Cond.instantiable C n).before args s = true) (hpriv : (Cond.privateMethod y).before args s = true) (hinst : (Cond.instanceMethod y).before args s = true) {C2 : String} {x2 z2 : MethodName} (h2 : (Cond.selects C2 x2 z2).before args s = true) (hz : z2.cls = y.cls) : (Cond.selects C y y).before args s = true := by
  obtain ⟨c, k, hc, hk, -, hniab, -, -⟩ := Cond.instantiable_spec hins
  have hni : k.isInterface = false := (Bool.or_eq_false_iff.mp hniab).1
  obtain ⟨mk, methM, hnamed, hmethM, -, -⟩ := Cond.instanceMethod_spec hinst
  have hfound : s.methodFound? y.cls y.name y.desc = some mk := State.methodFound?_of_named hnamed hy
  have hsel : selectMethod {} s.vm c mk = .method mk := selectMethod_private hmethM (Cond.privateMethod_at hpriv mk methM hnamed hmethM)
  obtain ⟨c2, r2, m2, -, -, q3, -, k2, q5, q6⟩ := Cond.selects_spec h2
  have e1 : m2.cls = mk.cls := by
    have a1 := findClass_of_methodNamed q3
    have a2 := findClass_of_methodNamed hnamed
    rw [hz] at a1
    exact Option.some.inj (a1.symm.trans a2)
  rw [e1] at q5
  simp only [Cond.before, Cond.holds, Cond.value, hc, hfound, hnamed, hsel, q5]
  simp [q6]
section RO
variable {p : Program} {l : Launch} {e : Env} {R : Room} {s : State} {m : MethodId} {args : Array Value} {below : List Frame} {meth : Method} {c : Code} {H : Heap} {locs : List Loc} {cells slots : Nat} {Q : State → Prop} {cc : ByteArray} {pc : Nat} {ls : Array Slot} {rest : List Value}
/-- a contract of a method that writes nothing: arguments av, what it reads Bs, answer r -/
abbrev RO (l : Launch) (y : MethodName) (ws : List Cond) (fr lo : Nat) (av : List Value) (Bs : State → Prop) (r : Value) : Prop :=
  Met l y ws ({ frames := fr, cells := 0, slots := 0, locals := lo }) (va_Pc av (fun U => NV U ∧ Bs U)) (k2_QcV r) 0 0 (fun _ => False)
/-- what a method reads: it moves with the tables as they warm, and with a call's frame -/
def Bm (Bs : State → Prop) : Prop := (∀ (a : Array Value) (U : State) (g : JFrame) (mk : MethodId), Bs U → Bs (U.calling g mk a)) ∧ ∀ (s U : State), U.heap = s.heap → s.WarmedH U.vm → Bs s → Bs U
theorem Bm_true : Bm (fun _ => True) := ⟨fun _ _ _ _ _ => trivial, fun _ _ _ _ _ => trivial⟩
theorem ro_of {y : MethodName} {fr lo : Nat} {av : List Value} {Bs : State → Prop} {r : Value} {maxL : Nat} {ret : Option FieldType}
    (hy : plainFor y = true) (hn : (lg_sl av).length ≤ maxL)
    (body : ∀ (p : Program) (e : Env) (s : State) (m : MethodId) (below : List Frame) (meth : Method) (c : Code) (ls : Array Slot), p.tables.exec = Jvm.exec → c.code = cc → meth.sig.returnType = ret → (∀ w ∈ gw, w.before av.toArray s = true) → s.vm.findClass y.cls = some m.cls → meth.locks = false → c.maxLocals = maxL → lv_has ls maxL (lv_args 0 av) → NV s → Bs s →
      W p l e (headSpec (wo y cc maxL ret) ({ frames := fr, cells := 0, slots := 0, locals := lo })).room s m av.toArray below meth c s.heap [] 0 0 (MQ below (k2_QcV r) av.toArray s 0 0 (fun _ => False)) (F0 m 0 ls [])) : RO l y (wo y cc maxL ret) fr lo av Bs r := by
  refine va_MetF (cc := cc) (maxL := maxL) (ret := ret) hy rfl ?_
  intro p e s m args below meth c s₁ B hml hv
  obtain ⟨rfl, hN, hB⟩ := hv
  have hl := lv_entry av (n := maxL) hn
  have hts := atoms_spec (ws := wo y cc maxL ret) B.pre
  rw [lg_entry_eq]
  exact body p e s m below meth c _ B.exec B.bytes B.returns (fun w h => hts w (List.mem_cons_of_mem _ h)) (findClass_of_methodNamed B.named) B.notSynchronized hml hl hN hB
theorem ro_lret {x y : Int} (hexec : p.tables.exec = Jvm.exec) (hb : c.code = cc) (hr : meth.sig.returnType = some .long) (hlocks : meth.locks = false) (hdg : decode cc pc = .ok (.lreturn, 1)) (h : x = y) :
    W p l e R s m args below meth c s.heap [] 0 0 (MQ below (k2_QcV (.long (iL y))) args s 0 0 (fun _ => False)) (F0 m pc ls [.long (iL x)]) :=
  W.lret (v := iL x) hexec hb hr (fun t ht _ => ⟨by rw [h], ht⟩) (fun q h => nomatch h) hdg hlocks
theorem ro_iret {x y : Int} (hexec : p.tables.exec = Jvm.exec) (hb : c.code = cc) (hr : meth.sig.returnType = some .int) (hlocks : meth.locks = false) (hdg : decode cc pc = .ok (.ireturn, 1)) (h : x = y) :
    W p l e R s m args below meth c s.heap [] 0 0 (MQ below (k2_QcV (.int (iI y))) args s 0 0 (fun _ => False)) (F0 m pc ls [.int (iI x)]) :=
  W.iret (v := iI x) hexec hb hr (fun t ht _ => ⟨by rw [h], ht⟩) (fun q h => nomatch h) hdg hlocks
theorem iI_narB {x : Int} (h : x = 0 ∨ x = 1) : narrow .boolean (.int (iI x)) = .int (iI x) := by
  rcases h with rfl | rfl <;> decide +kernel
theorem ro_zret {x : Int} {P : Prop} (hexec : p.tables.exec = Jvm.exec) (hb : c.code = cc) (hr : meth.sig.returnType = some .boolean) (hlocks : meth.locks = false) (hdg : decode cc pc = .ok (.ireturn, 1)) (h : x = bI P) :
    W p l e R s m args below meth c s.heap [] 0 0 (MQ below (k2_QcV (.int (iI (bI P)))) args s 0 0 (fun _ => False)) (F0 m pc ls [.int (iI x)]) :=
  W.zret (v := iI x) hexec hb hr (iI_narB (by rw [h]; have := bI_01 P; omega)) (fun t ht _ => ⟨by rw [h], ht⟩) (fun q h => nomatch h) hdg hlocks
theorem ro_1 {x : Int} {P : Prop} (h : P) (h1 : x = 1) : x = bI P := by rw [h1, bI_t h]
theorem ro_0 {x : Int} {P : Prop} (h : ¬ P) (h1 : x = 0) : x = bI P := by rw [h1, bI_f h]
theorem ro_preS {av : List Value} {Bs : State → Prop} (hN : NV s) (hbl : Bm Bs) (h : ∀ U : State, U.heap = H → s.WarmedH U.vm → Bs U) : PreS s H (va_Pc av (fun U => NV U ∧ Bs U)) av :=
  ⟨fun a U g mk q => ⟨q.1, q.2.1.calling, hbl.1 a U g mk q.2.2⟩, fun U h1 h2 => ⟨rfl, hN.warm h2, h U h1 h2⟩⟩
theorem ro_preV {C : String} {b : Addr} {As : List Value} {Bs : State → Prop} (hN : NV s) (hbl : Bm Bs) (hc : ∃ cellB : Cell, H[b]? = some cellB ∧ cellB.vm.isStatics = false ∧ s.vm.findClass C = some cellB.cls) (h : ∀ U : State, U.heap = H → s.WarmedH U.vm → Bs U) : PreV s H C b (va_Pc (.ref b :: As) (fun U => NV U ∧ Bs U)) As :=
  ⟨fun a U g mk q => ⟨q.1, q.2.1.calling, hbl.1 a U g mk q.2.2⟩, hc, fun U h1 h2 => ⟨rfl, hN.warm h2, h U h1 h2⟩⟩
theorem ro_go {a : Array Value} {r : Value} {st0 : List Value} (hr : va_Run p l e R s m args below meth c H locs cells slots 0 0 (F0 m pc ls st0) rest (k2_QcV r a) (fun _ => False)) (kk : W p l e R s m args below meth c H locs cells slots Q (F0 m (pc + 3) ls (r :: rest))) : W p l e R s m args below meth c H locs cells slots Q (F0 m pc ls st0) :=
  W.callV (va_Run.run hr) kk
variable {own : String} {y : MethodName} {bytes : ByteArray} {maxL nL n index fr lo : Nat} {ret : Option FieldType} {av : List Value} {Bs : State → Prop} {r : Value}
/-- a static call of a method that writes nothing -/
theorem ro_S (hM : RO l y (wo y bytes maxL ret) fr lo av Bs r) (hj : JS y bytes maxL ret n) (hl : Cond.methodLink own index y ∈ gw) (F : p.tables.exec = Jvm.exec ∧ c.code = cc ∧ c.maxLocals = nL ∧ s.vm.findClass own = some m.cls ∧ (∀ w ∈ gw, w.before args s = true) ∧ NV s) {rest st0 : List Value} (hn : av.length = n) (hsz : ls.size = nL) (hst : st0 = av.reverse ++ rest) (hR : fr + 1 ≤ R.frames ∧ 8 + (maxL + 11) + lo ≤ R.locals) (hw : (rest.map fun v => v.category).sum ≤ 8) (hdg : decode cc pc = .ok (.invokestatic index, 3)) (hf : cells ≤ R.cells ∧ slots ≤ R.slots) (hbl : Bm Bs) (hB : ∀ U : State, U.heap = H → s.WarmedH U.vm → Bs U)
    (kk : W p l e R s m args below meth c H locs cells slots Q (F0 m (pc + 3) ls (r :: rest))) : W p l e R s m args below meth c H locs cells slots Q (F0 m pc ls st0) :=
  ro_go (va_runS (As := av) (rest := rest) (Ts := gw) ⟨F.1, F.2.1, F.2.2.1, F.2.2.2.1, F.2.2.2.2.1⟩ hM ⟨callB_of n F.2.2.2.2.1 (gw_in hj.1) rfl rfl rfl (F.2.2.2.2.1 _ hj.2.1) (F.2.2.2.2.1 _ hl) hj.2.2.2 hR, F.2.2.2.2.1 _ hj.2.2.1⟩ (ro_preS F.2.2.2.2.2 hbl hB) rfl hn hsz hst (lv_room hw) hdg hf) kk
/-- of a nest mate's private one -/
theorem ro_SN {host : String} (hM : RO l y (wo y bytes maxL ret) fr lo av Bs r) (hj : JS y bytes maxL ret n) (hl : va_Nw (Cond.methodLinkNest own index y host) s) (F : p.tables.exec = Jvm.exec ∧ c.code = cc ∧ c.maxLocals = nL ∧ s.vm.findClass own = some m.cls ∧ (∀ w ∈ gw, w.before args s = true) ∧ NV s) {rest st0 : List Value} (hn : av.length = n) (hsz : ls.size = nL) (hst : st0 = av.reverse ++ rest) (hR : fr + 1 ≤ R.frames ∧ 8 + (maxL + 11) + lo ≤ R.locals) (hw : (rest.map fun v => v.category).sum ≤ 8) (hdg : decode cc pc = .ok (.invokestatic index, 3)) (hf : cells ≤ R.cells ∧ slots ≤ R.slots) (hbl : Bm Bs) (hB : ∀ U : State, U.heap = H → s.WarmedH U.vm → Bs U)
    (kk : W p l e R s m args below meth c H locs cells slots Q (F0 m (pc + 3) ls (r :: rest))) : W p l e R s m args below meth c H locs cells slots Q (F0 m pc ls st0) :=
  ro_go (va_runSN (As := av) (rest := rest) (Ts := gw) ⟨F.1, F.2.1, F.2.2.1, F.2.2.2.1, F.2.2.2.2.1⟩ hM ⟨va_cnB n F.2.2.2.2.1 (gw_in hj.1) rfl rfl rfl hl (F.2.2.2.2.1 _ hj.2.1) hj.2.2.2 hR, F.2.2.2.2.1 _ hj.2.2.1, trivial⟩ (ro_preS F.2.2.2.2.2 hbl hB) rfl hn hsz hst (lv_room hw) hdg hf) kk
/-- a call of an instance method of the receiver's own class C that writes nothing -/
theorem ro_V {C : String} {b : Addr} {As : List Value} (hM : RO l y (wo y bytes maxL ret) fr lo (.ref b :: As) Bs r) (hj : JV y bytes maxL ret n) (hl : Cond.methodLink own index y ∈ gw) (hse : (Cond.selects C y y).before args s = true) (F : p.tables.exec = Jvm.exec ∧ c.code = cc ∧ c.maxLocals = nL ∧ s.vm.findClass own = some m.cls ∧ (∀ w ∈ gw, w.before args s = true) ∧ NV s) (hc : ∃ cellB : Cell, H[b]? = some cellB ∧ cellB.vm.isStatics = false ∧ s.vm.findClass C = some cellB.cls) {rest st0 : List Value} (hn : As.length = n) (hsz : ls.size = nL) (hst : st0 = As.reverse ++ .ref b :: rest) (hR : fr + 1 ≤ R.frames ∧ 8 + (maxL + 11) + lo ≤ R.locals) (hw : (rest.map fun v => v.category).sum ≤ 8) (hdg : decode cc pc = .ok (.invokevirtual index, 3)) (hf : cells ≤ R.cells ∧ slots ≤ R.slots) (hbl : Bm Bs) (hB : ∀ U : State, U.heap = H → s.WarmedH U.vm → Bs U)
    (kk : W p l e R s m args below meth c H locs cells slots Q (F0 m (pc + 3) ls (r :: rest))) : W p l e R s m args below meth c H locs cells slots Q (F0 m pc ls st0) :=
  ro_go (va_runV (As := As) (rest := rest) (Ts := gw) (C := C) ⟨F.1, F.2.1, F.2.2.1, F.2.2.2.1, F.2.2.2.2.1⟩ hM ⟨callB_of n F.2.2.2.2.1 (gw_in hj.1) rfl rfl rfl (F.2.2.2.2.1 _ hj.2.1) (F.2.2.2.2.1 _ hl) hj.2.2.2 hR, F.2.2.2.2.1 _ hj.2.2.1, hse⟩ (ro_preV F.2.2.2.2.2 hbl hc hB) rfl hn hsz hst (lv_room hw) hdg hf) kk
theorem ro_CU {C owner : String} {x : MethodName} (n : Nat) (ht : ∀ w ∈ gw, w.before args s = true) {n0 : Nat} (hj : JV y bytes maxL ret n0) (hl : Cond.methodLink own index x ∈ gw) (hsm : Cond.sameMethod x.cls owner x.name x.desc ∈ gw) (hse : (Cond.selects C x y).before args s = true) (hde : va_Decl s ⟨owner, x.name, x.desc⟩) (hd : owner ≠ "java/lang/invoke/MethodHandle" ∧ owner ≠ "java/lang/invoke/VarHandle" ∧ (parseMethodDescriptor x.desc).map (fun d => d.parameters.length) = some n) {rm : Room} (hR : rm.frames + 1 ≤ R.frames ∧ 8 + (maxL + 11) + rm.locals ≤ R.locals) : va_CU R s args own C owner index x y bytes maxL ret (wo y bytes maxL ret) rm rm.cells rm.slots n := by
  refine ⟨⟨rfl, rfl, hR.1, hR.2, pay_in ht (gw_in hj.1), List.mem_cons_self⟩, ht _ hj.1, ht _ hj.2.1, ⟨hd.1, hd.2.1⟩, fun sig h => ?_, ht _ hl, ht _ hsm, hde, hse, ht _ hj.2.2.1⟩
  have h2 := hd.2.2
  rw [h] at h2
  exact (Option.some.inj h2).symm
/-- a call of a method x of the class owner that the receiver's class C answers by y; it writes nothing -/
theorem ro_U {C owner : String} {x : MethodName} {b : Addr} {As : List Value} (hM : RO l y (wo y bytes maxL ret) fr lo (.ref b :: As) Bs r) (hj : JV y bytes maxL ret n) (hl : Cond.methodLink own index x ∈ gw) (hsm : Cond.sameMethod x.cls owner x.name x.desc ∈ gw) (hse : (Cond.selects C x y).before args s = true) (hde : va_Decl s ⟨owner, x.name, x.desc⟩) (hd : owner ≠ "java/lang/invoke/MethodHandle" ∧ owner ≠ "java/lang/invoke/VarHandle" ∧ (parseMethodDescriptor x.desc).map (fun d => d.parameters.length) = some n) (F : p.tables.exec = Jvm.exec ∧ c.code = cc ∧ c.maxLocals = nL ∧ s.vm.findClass own = some m.cls ∧ (∀ w ∈ gw, w.before args s = true) ∧ NV s) (hc : ∃ cellB : Cell, H[b]? = some cellB ∧ cellB.vm.isStatics = false ∧ s.vm.findClass C = some cellB.cls) {rest st0 : List Value} (hn : As.length = n) (hsz : ls.size = nL) (hst : st0 = As.reverse ++ .ref b :: rest) (hR : fr + 1 ≤ R.frames ∧ 8 + (maxL + 11) + lo ≤ R.locals) (hw : (rest.map fun v => v.category).sum ≤ 8) (hdg : decode cc pc = .ok (.invokevirtual index, 3)) (hf : cells ≤ R.cells ∧ slots ≤ R.slots) (hbl : Bm Bs) (hB : ∀ U : State, U.heap = H → s.WarmedH U.vm → Bs U)
    (kk : W p l e R s m args below meth c H locs cells slots Q (F0 m (pc + 3) ls (r :: rest))) : W p l e R s m args below meth c H locs cells slots Q (F0 m pc ls st0) :=
  ro_go (va_runU (As := As) (rest := rest) (Ts := gw) (C := C) (owner := owner) (x := x) ⟨F.1, F.2.1, F.2.2.1, F.2.2.2.1, F.2.2.2.2.1⟩ hM (ro_CU n F.2.2.2.2.1 hj hl hsm hse hde hd hR) (ro_preV F.2.2.2.2.2 hbl hc hB) rfl hn hsz hst (lv_room hw) hdg hf) kk
end RO
end
section
/-! 12.floor: laid by program (wip/whole) -/
theorem tm_sign (x : Int) {n : Int} (hn : 0 < n) : (0 ≤ x → 0 ≤ x.tmod n) ∧ (x < 0 → x.tmod n ≤ 0) ∧ -n < x.tmod n ∧ x.tmod n < n := by
  refine ⟨fun h => Int.tmod_nonneg n h, fun h => ?_, Int.lt_tmod_of_pos x hn, Int.tmod_lt_of_pos x hn⟩
  have h1 := Int.tmod_nonneg n (show 0 ≤ -x by omega)
  rw [Int.neg_tmod] at h1
  omega
theorem tm_mod (x : Int) {n : Int} (hn : 0 < n) : x % n = if x.tmod n < 0 then x.tmod n + n else x.tmod n := by
  have h1 := Int.tdiv_mul_add_tmod x n
  have h2 := tm_sign x hn
  split
  · refine md_uniq (q := x.tdiv n - 1) ?_ (by omega) (by omega)
    rw [Int.mul_sub, Int.mul_one, Int.mul_comm]
    omega
  · refine md_uniq (q := x.tdiv n) ?_ (by omega) (by omega)
    rw [Int.mul_comm]
    omega
theorem td_rng {x n : Int} (hn : 0 < n) : (0 ≤ x → 0 ≤ x.tdiv n ∧ x.tdiv n ≤ x) ∧ (x < 0 → x ≤ x.tdiv n ∧ x.tdiv n ≤ 0) := by
  have key : ∀ z : Int, 0 ≤ z → 0 ≤ z.tdiv n ∧ z.tdiv n ≤ z := fun z h => by
    rw [Int.tdiv_eq_ediv_of_nonneg h]
    exact ⟨Int.ediv_nonneg h (by omega), Int.ediv_le_self n h⟩
  refine ⟨key x, fun h => ?_⟩
  have h1 := key (-x) (by omega)
  rw [Int.neg_tdiv] at h1
  omega
theorem xor_sgnL {a b : Int} (ha : -9223372036854775808 ≤ a ∧ a ≤ 9223372036854775807) (hb : 0 ≤ b ∧ b ≤ 9223372036854775807) : (iL a ^^^ iL b).toInt < 0 ↔ a < 0 := by
  have h1 : ∀ x : Int64, (x.toInt < 0 ↔ x.toBitVec.msb = true) := fun x => by
    rw [BitVec.msb_eq_toInt]
    exact (decide_eq_true_iff).symm
  rw [h1, Int64.toBitVec_xor, BitVec.msb_xor]
  have h2 := (h1 (iL a))
  have h3 := (h1 (iL b))
  rw [iL_toInt ha] at h2
  rw [iL_toInt (by omega)] at h3
  have h4 : (iL b).toBitVec.msb = false := by
    cases h : (iL b).toBitVec.msb
    · rfl
    · have := h3.mpr h; omega
  rw [h4, Bool.xor_false]
  exact h2.symm
theorem xor_sgnI {a b : Int} (ha : -2147483648 ≤ a ∧ a ≤ 2147483647) (hb : 0 ≤ b ∧ b ≤ 2147483647) : (iI a ^^^ iI b).toInt < 0 ↔ a < 0 := by
  have h1 : ∀ x : Int32, (x.toInt < 0 ↔ x.toBitVec.msb = true) := fun x => by
    rw [BitVec.msb_eq_toInt]
    exact (decide_eq_true_iff).symm
  rw [h1, Int32.toBitVec_xor, BitVec.msb_xor]
  have h2 := (h1 (iI a))
  have h3 := (h1 (iI b))
  rw [iI_toInt ha] at h2
  rw [iI_toInt (by omega)] at h3
  have h4 : (iI b).toBitVec.msb = false := by
    cases h : (iI b).toBitVec.msb
    · rfl
    · have := h3.mpr h; omega
  rw [h4, Bool.xor_false]
  exact h2.symm
section XOR
variable {p : Program} {l : Launch} {e : Env} {R : Room} {s : State} {m : MethodId} {args : Array Value} {below : List Frame} {meth : Method} {c : Code} {H : Heap} {locs : List Loc} {cells slots : Nat} {Q : State → Prop} {cc : ByteArray} {pc : Nat} {ls : Array Slot} {rest : List Value}
theorem ai_lxor (hexec : p.tables.exec = Jvm.exec) (hb : c.code = cc) {a b : Int} (hdg : decode cc pc = .ok (.lxor, 1)) (ra : -9223372036854775808 ≤ a ∧ a ≤ 9223372036854775807) (rb : 0 ≤ b ∧ b ≤ 9223372036854775807) (k : ∀ z : Int, (-9223372036854775808 ≤ z ∧ z ≤ 9223372036854775807) → (z < 0 ↔ a < 0) → W p l e R s m args below meth c H locs cells slots Q (F0 m (pc + 1) ls (.long (iL z) :: rest))) : W p l e R s m args below meth c H locs cells slots Q (F0 m pc ls (.long (iL b) :: .long (iL a) :: rest)) :=
  lv_lxor hexec hb hdg (by
    have h := k (iL a ^^^ iL b).toInt (iL_rng _) (xor_sgnL ra rb)
    rw [iL_of] at h
    exact h)
theorem ai_ixor (hexec : p.tables.exec = Jvm.exec) (hb : c.code = cc) {a b : Int} (hdg : decode cc pc = .ok (.ixor, 1)) (ra : -2147483648 ≤ a ∧ a ≤ 2147483647) (rb : 0 ≤ b ∧ b ≤ 2147483647) (k : ∀ z : Int, (-2147483648 ≤ z ∧ z ≤ 2147483647) → (z < 0 ↔ a < 0) → W p l e R s m args below meth c H locs cells slots Q (F0 m (pc + 1) ls (.int (iI z) :: rest))) : W p l e R s m args below meth c H locs cells slots Q (F0 m pc ls (.int (iI b) :: .int (iI a) :: rest)) :=
  lv_ixor hexec hb hdg (by
    have h := k (iI a ^^^ iI b).toInt (iI_rng _) (xor_sgnI ra rb)
    rw [iI_of] at h
    exact h)
end XOR
set_option maxHeartbeats 4000000 in
set_option maxRecDepth 100000 in
theorem ct_JM_floorDiv_JJJ (l : Launch) (x : Int) (n : Int) (rx : -9223372036854775808 ≤ x ∧ x ≤ 9223372036854775807) (rn : 0 < n ∧ n ≤ 9223372036854775807) : RO l y_JM_floorDiv_JJJ w_JM_floorDiv_JJJ 0 0 [.long (iL x), .long (iL n)] (fun _ => True) (.long (iL (x / n))) := by
  refine ro_of (by decide +kernel) (Nat.le_of_ble_eq_true rfl) ?_
  intro p e s m below meth c ls hx hb hr hts hown hlk hml hl hN hB
  have hown : s.vm.findClass "java/lang/Math" = some m.cls := hown
  have hl : lv_has ls 6 [(0, .long (iL x)), (2, .long (iL n))] := hl
  have hF : _ ∧ _ ∧ _ ∧ _ ∧ _ ∧ _ := ⟨hx, hb, hml, hown, hts, hN⟩
  have hf := dv_floor (x := x) rn.1
  have hm := Int.mul_ediv_add_emod x n
  have hmr := md_rng (x := x) rn.1
  have ht := Int.tdiv_mul_add_tmod x n
  have htn := tm_sign x rn.1
  have hdr := td_rng (x := x) rn.1
  refine lv_lload_n hx hb d_JM_floorDiv_JJJ_0 rfl (lv_at hl 0 rfl) ?_
  refine lv_lload_n hx hb d_JM_floorDiv_JJJ_1 rfl (lv_at hl 1 rfl) ?_
  refine ai_ldiv hx hb d_JM_floorDiv_JJJ_2 (by omega) (by omega) (by omega) ?_
  refine ai_nmL hx hb (fun v3 e3 => ?_)
  refine lv_lstore (lv' := [(4, .long (iL v3)), (0, .long (iL x)), (2, .long (iL n))]) hx hb d_JM_floorDiv_JJJ_3 hl (by decide) rfl (fun ls hl => ?_)
  rw [← e3] at ht hf hdr
  refine lv_lload_n hx hb d_JM_floorDiv_JJJ_5 rfl (lv_at hl 1 rfl) ?_
  refine lv_lload_n hx hb d_JM_floorDiv_JJJ_6 rfl (lv_at hl 2 rfl) ?_
  refine ai_lxor hx hb d_JM_floorDiv_JJJ_7 (by omega) (by omega) (fun z7 r7 e7 => ?_)
  refine ai_lconst (x := 0) hx hb d_JM_floorDiv_JJJ_8 (by decide +kernel) ?_
  refine ai_lcmp_ge hx hb d_JM_floorDiv_JJJ_9 d_JM_floorDiv_JJJ_10 rfl (by omega) (by omega) (fun h9 => ?_) (fun h9 => ?_)
  · skip
    refine lv_lload hx hb d_JM_floorDiv_JJJ_27 (lv_at hl 0 rfl) ?_
    exact ro_lret hx hb hr hlk d_JM_floorDiv_JJJ_29 (by rw [hf, if_neg (by omega)] <;> omega)
  · skip
    refine lv_lload hx hb d_JM_floorDiv_JJJ_13 (lv_at hl 0 rfl) ?_
    refine lv_lload_n hx hb d_JM_floorDiv_JJJ_15 rfl (lv_at hl 2 rfl) ?_
    refine ai_lmul hx hb d_JM_floorDiv_JJJ_16 ?_
    refine lv_lload_n hx hb d_JM_floorDiv_JJJ_17 rfl (lv_at hl 1 rfl) ?_
    refine ai_lcmp_eq hx hb d_JM_floorDiv_JJJ_18 d_JM_floorDiv_JJJ_19 rfl (by omega) (by omega) (fun h18 => ?_) (fun h18 => ?_)
    · skip
      refine lv_lload hx hb d_JM_floorDiv_JJJ_27 (lv_at hl 0 rfl) ?_
      exact ro_lret hx hb hr hlk d_JM_floorDiv_JJJ_29 (by rw [hf, if_neg (by omega)] <;> omega)
    · skip
      refine lv_lload hx hb d_JM_floorDiv_JJJ_22 (lv_at hl 0 rfl) ?_
      refine ai_lconst (x := 1) hx hb d_JM_floorDiv_JJJ_24 (by decide +kernel) ?_
      refine ai_lsub hx hb d_JM_floorDiv_JJJ_25 ?_
      exact ro_lret hx hb hr hlk d_JM_floorDiv_JJJ_26 (by rw [hf, if_pos (by omega)] <;> omega)
set_option maxHeartbeats 4000000 in
set_option maxRecDepth 100000 in
theorem ct_JM_floorDiv_III (l : Launch) (x : Int) (n : Int) (rx : -2147483648 ≤ x ∧ x ≤ 2147483647) (rn : 0 < n ∧ n ≤ 2147483647) : RO l y_JM_floorDiv_III w_JM_floorDiv_III 0 0 [.int (iI x), .int (iI n)] (fun _ => True) (.int (iI (x / n))) := by
  refine ro_of (by decide +kernel) (Nat.le_of_ble_eq_true rfl) ?_
  intro p e s m below meth c ls hx hb hr hts hown hlk hml hl hN hB
  have hown : s.vm.findClass "java/lang/Math" = some m.cls := hown
  have hl : lv_has ls 3 [(0, .int (iI x)), (1, .int (iI n))] := hl
  have hF : _ ∧ _ ∧ _ ∧ _ ∧ _ ∧ _ := ⟨hx, hb, hml, hown, hts, hN⟩
  have hf := dv_floor (x := x) rn.1
  have hm := Int.mul_ediv_add_emod x n
  have hmr := md_rng (x := x) rn.1
  have ht := Int.tdiv_mul_add_tmod x n
  have htn := tm_sign x rn.1
  have hdr := td_rng (x := x) rn.1
  refine lv_iload_n hx hb d_JM_floorDiv_III_0 rfl (lv_at hl 0 rfl) ?_
  refine lv_iload_n hx hb d_JM_floorDiv_III_1 rfl (lv_at hl 1 rfl) ?_
  refine ai_idiv hx hb d_JM_floorDiv_III_2 (by omega) (by omega) (by omega) ?_
  refine ai_nmI hx hb (fun v3 e3 => ?_)
  refine lv_istore_n (lv' := [(2, .int (iI v3)), (0, .int (iI x)), (1, .int (iI n))]) hx hb d_JM_floorDiv_III_3 rfl hl (by decide) rfl (fun ls hl => ?_)
  rw [← e3] at ht hf hdr
  refine lv_iload_n hx hb d_JM_floorDiv_III_4 rfl (lv_at hl 1 rfl) ?_
  refine lv_iload_n hx hb d_JM_floorDiv_III_5 rfl (lv_at hl 2 rfl) ?_
  refine ai_ixor hx hb d_JM_floorDiv_III_6 (by omega) (by omega) (fun z6 r6 e6 => ?_)
  refine ai_if_ge hx hb d_JM_floorDiv_III_7 rfl (by omega) (fun h7 => ?_) (fun h7 => ?_)
  · skip
    refine lv_iload_n hx hb d_JM_floorDiv_III_21 rfl (lv_at hl 0 rfl) ?_
    exact ro_iret hx hb hr hlk d_JM_floorDiv_III_22 (by rw [hf, if_neg (by omega)] <;> omega)
  · skip
    refine lv_iload_n hx hb d_JM_floorDiv_III_10 rfl (lv_at hl 0 rfl) ?_
    refine lv_iload_n hx hb d_JM_floorDiv_III_11 rfl (lv_at hl 2 rfl) ?_
    refine ai_imul hx hb d_JM_floorDiv_III_12 ?_
    refine lv_iload_n hx hb d_JM_floorDiv_III_13 rfl (lv_at hl 1 rfl) ?_
    refine ai_icmp_eq hx hb d_JM_floorDiv_III_14 rfl (by omega) (by omega) (fun h14 => ?_) (fun h14 => ?_)
    · skip
      refine lv_iload_n hx hb d_JM_floorDiv_III_21 rfl (lv_at hl 0 rfl) ?_
      exact ro_iret hx hb hr hlk d_JM_floorDiv_III_22 (by rw [hf, if_neg (by omega)] <;> omega)
    · skip
      refine lv_iload_n hx hb d_JM_floorDiv_III_17 rfl (lv_at hl 0 rfl) ?_
      refine ai_iconst hx hb d_JM_floorDiv_III_18 ?_
      refine ai_isub hx hb d_JM_floorDiv_III_19 ?_
      exact ro_iret hx hb hr hlk d_JM_floorDiv_III_20 (by rw [hf, if_pos (by omega)] <;> omega)
set_option maxHeartbeats 4000000 in
set_option maxRecDepth 100000 in
theorem ct_JM_floorMod_JJJ (l : Launch) (x : Int) (n : Int) (rx : -9223372036854775808 ≤ x ∧ x ≤ 9223372036854775807) (rn : 0 < n ∧ n ≤ 9223372036854775807) : RO l y_JM_floorMod_JJJ w_JM_floorMod_JJJ 0 0 [.long (iL x), .long (iL n)] (fun _ => True) (.long (iL (x % n))) := by
  refine ro_of (by decide +kernel) (Nat.le_of_ble_eq_true rfl) ?_
  intro p e s m below meth c ls hx hb hr hts hown hlk hml hl hN hB
  have hown : s.vm.findClass "java/lang/Math" = some m.cls := hown
  have hl : lv_has ls 6 [(0, .long (iL x)), (2, .long (iL n))] := hl
  have hF : _ ∧ _ ∧ _ ∧ _ ∧ _ ∧ _ := ⟨hx, hb, hml, hown, hts, hN⟩
  have hf := dv_floor (x := x) rn.1
  have hm := Int.mul_ediv_add_emod x n
  have hmr := md_rng (x := x) rn.1
  have ht := Int.tdiv_mul_add_tmod x n
  have htn := tm_sign x rn.1
  have hdr := td_rng (x := x) rn.1
  refine lv_lload_n hx hb d_JM_floorMod_JJJ_0 rfl (lv_at hl 0 rfl) ?_
  refine lv_lload_n hx hb d_JM_floorMod_JJJ_1 rfl (lv_at hl 1 rfl) ?_
  refine ai_lrem hx hb d_JM_floorMod_JJJ_2 (by omega) (by omega) (by omega) ?_
  refine ai_nmL hx hb (fun v3 e3 => ?_)
  refine lv_lstore (lv' := [(4, .long (iL v3)), (0, .long (iL x)), (2, .long (iL n))]) hx hb d_JM_floorMod_JJJ_3 hl (by decide) rfl (fun ls hl => ?_)
  refine lv_lload_n hx hb d_JM_floorMod_JJJ_5 rfl (lv_at hl 1 rfl) ?_
  refine lv_lload_n hx hb d_JM_floorMod_JJJ_6 rfl (lv_at hl 2 rfl) ?_
  refine ai_lxor hx hb d_JM_floorMod_JJJ_7 (by omega) (by omega) (fun z7 r7 e7 => ?_)
  refine ai_lconst (x := 0) hx hb d_JM_floorMod_JJJ_8 (by decide +kernel) ?_
  refine ai_lcmp_ge hx hb d_JM_floorMod_JJJ_9 d_JM_floorMod_JJJ_10 rfl (by omega) (by omega) (fun h9 => ?_) (fun h9 => ?_)
  · skip
    refine lv_lload hx hb d_JM_floorMod_JJJ_25 (lv_at hl 0 rfl) ?_
    exact ro_lret hx hb hr hlk d_JM_floorMod_JJJ_27 (by rw [tm_mod x rn.1, if_neg (by omega)] <;> omega)
  · skip
    refine lv_lload hx hb d_JM_floorMod_JJJ_13 (lv_at hl 0 rfl) ?_
    refine ai_lconst (x := 0) hx hb d_JM_floorMod_JJJ_15 (by decide +kernel) ?_
    refine ai_lcmp_eq hx hb d_JM_floorMod_JJJ_16 d_JM_floorMod_JJJ_17 rfl (by omega) (by omega) (fun h16 => ?_) (fun h16 => ?_)
    · skip
      refine lv_lload hx hb d_JM_floorMod_JJJ_25 (lv_at hl 0 rfl) ?_
      exact ro_lret hx hb hr hlk d_JM_floorMod_JJJ_27 (by rw [tm_mod x rn.1, if_neg (by omega)] <;> omega)
    · skip
      refine lv_lload hx hb d_JM_floorMod_JJJ_20 (lv_at hl 0 rfl) ?_
      refine lv_lload_n hx hb d_JM_floorMod_JJJ_22 rfl (lv_at hl 2 rfl) ?_
      refine ai_ladd hx hb d_JM_floorMod_JJJ_23 ?_
      exact ro_lret hx hb hr hlk d_JM_floorMod_JJJ_24 (by rw [tm_mod x rn.1, if_pos (by omega)] <;> omega)
set_option maxHeartbeats 4000000 in
set_option maxRecDepth 100000 in
theorem ct_JM_floorMod_III (l : Launch) (x : Int) (n : Int) (rx : -2147483648 ≤ x ∧ x ≤ 2147483647) (rn : 0 < n ∧ n ≤ 2147483647) : RO l y_JM_floorMod_III w_JM_floorMod_III 0 0 [.int (iI x), .int (iI n)] (fun _ => True) (.int (iI (x % n))) := by
  refine ro_of (by decide +kernel) (Nat.le_of_ble_eq_true rfl) ?_
  intro p e s m below meth c ls hx hb hr hts hown hlk hml hl hN hB
  have hown : s.vm.findClass "java/lang/Math" = some m.cls := hown
  have hl : lv_has ls 3 [(0, .int (iI x)), (1, .int (iI n))] := hl
  have hF : _ ∧ _ ∧ _ ∧ _ ∧ _ ∧ _ := ⟨hx, hb, hml, hown, hts, hN⟩
  have hf := dv_floor (x := x) rn.1
  have hm := Int.mul_ediv_add_emod x n
  have hmr := md_rng (x := x) rn.1
  have ht := Int.tdiv_mul_add_tmod x n
  have htn := tm_sign x rn.1
  have hdr := td_rng (x := x) rn.1
  refine lv_iload_n hx hb d_JM_floorMod_III_0 rfl (lv_at hl 0 rfl) ?_
  refine lv_iload_n hx hb d_JM_floorMod_III_1 rfl (lv_at hl 1 rfl) ?_
  refine ai_irem hx hb d_JM_floorMod_III_2 (by omega) (by omega) (by omega) ?_
  refine ai_nmI hx hb (fun v3 e3 => ?_)
  refine lv_istore_n (lv' := [(2, .int (iI v3)), (0, .int (iI x)), (1, .int (iI n))]) hx hb d_JM_floorMod_III_3 rfl hl (by decide) rfl (fun ls hl => ?_)
  refine lv_iload_n hx hb d_JM_floorMod_III_4 rfl (lv_at hl 1 rfl) ?_
  refine lv_iload_n hx hb d_JM_floorMod_III_5 rfl (lv_at hl 2 rfl) ?_
  refine ai_ixor hx hb d_JM_floorMod_III_6 (by omega) (by omega) (fun z6 r6 e6 => ?_)
  refine ai_if_ge hx hb d_JM_floorMod_III_7 rfl (by omega) (fun h7 => ?_) (fun h7 => ?_)
  · skip
    refine lv_iload_n hx hb d_JM_floorMod_III_18 rfl (lv_at hl 0 rfl) ?_
    exact ro_iret hx hb hr hlk d_JM_floorMod_III_19 (by rw [tm_mod x rn.1, if_neg (by omega)] <;> omega)
  · skip
    refine lv_iload_n hx hb d_JM_floorMod_III_10 rfl (lv_at hl 0 rfl) ?_
    refine ai_if_eq hx hb d_JM_floorMod_III_11 rfl (by omega) (fun h11 => ?_) (fun h11 => ?_)
    · skip
      refine lv_iload_n hx hb d_JM_floorMod_III_18 rfl (lv_at hl 0 rfl) ?_
      exact ro_iret hx hb hr hlk d_JM_floorMod_III_19 (by rw [tm_mod x rn.1, if_neg (by omega)] <;> omega)
    · skip
      refine lv_iload_n hx hb d_JM_floorMod_III_14 rfl (lv_at hl 0 rfl) ?_
      refine lv_iload_n hx hb d_JM_floorMod_III_15 rfl (lv_at hl 2 rfl) ?_
      refine ai_iadd hx hb d_JM_floorMod_III_16 ?_
      exact ro_iret hx hb hr hlk d_JM_floorMod_III_17 (by rw [tm_mod x rn.1, if_pos (by omega)] <;> omega)
end
section
/-! 13.modelA: laid by program (wip/whole) -/
def ctd (c y : Int) : Int := if (c = 1 ∨ c = 6) ∧ y < 0 then y + 1 else y
def nmd (c y : Int) : Int := if (c = 1 ∨ c = 6) ∧ y < 1 then y - 1 else y
set_option maxHeartbeats 4000000 in
set_option maxRecDepth 100000 in
theorem ct_M_div (l : Launch) (x : Int) (n : Int) (rx : -1000000000000000000 ≤ x ∧ x ≤ 1000000000000000000) (rn : 0 < n ∧ n ≤ 1000000000000) : RO l y_M_div w_M_div 0 0 [.long (iL x), .long (iL n)] (fun _ => True) (.long (iL (x / n))) := by
  refine ro_of (by decide +kernel) (Nat.le_of_ble_eq_true rfl) ?_
  intro p e s m below meth c ls hx hb hr hts hown hlk hml hl hN hB
  have hown : s.vm.findClass "DayBookModel" = some m.cls := hown
  have hl : lv_has ls 6 [(0, .long (iL x)), (2, .long (iL n))] := hl
  have hF : _ ∧ _ ∧ _ ∧ _ ∧ _ ∧ _ := ⟨hx, hb, hml, hown, hts, hN⟩
  have hf := dv_floor (x := x) rn.1
  have ht := Int.tdiv_mul_add_tmod x n
  have htn := tm_sign x rn.1
  refine lv_lload_n hx hb d_M_div_0 rfl (lv_at hl 0 rfl) ?_
  refine lv_lload_n hx hb d_M_div_1 rfl (lv_at hl 1 rfl) ?_
  refine ai_ldiv hx hb d_M_div_2 (by omega) (by omega) (by omega) ?_
  refine ai_nmL hx hb (fun v3 e3 => ?_)
  refine lv_lstore (lv' := [(4, .long (iL v3)), (0, .long (iL x)), (2, .long (iL n))]) hx hb d_M_div_3 hl (by decide) rfl (fun ls hl => ?_)
  rw [← e3] at ht hf
  refine lv_lload hx hb d_M_div_5 (lv_at hl 0 rfl) ?_
  refine lv_lload_n hx hb d_M_div_7 rfl (lv_at hl 2 rfl) ?_
  refine ai_lmul hx hb d_M_div_8 ?_
  refine lv_lload_n hx hb d_M_div_9 rfl (lv_at hl 1 rfl) ?_
  refine ai_lcmp_le hx hb d_M_div_10 d_M_div_11 rfl (by omega) (by omega) (fun h10 => ?_) (fun h10 => ?_)
  · skip
    refine lv_lload hx hb d_M_div_21 (lv_at hl 0 rfl) ?_
    exact ro_lret hx hb hr hlk d_M_div_23 (by rw [hf, if_neg (by omega)] <;> omega)
  · skip
    refine lv_lload hx hb d_M_div_14 (lv_at hl 0 rfl) ?_
    refine ai_lconst (x := 1) hx hb d_M_div_16 (by decide +kernel) ?_
    refine ai_lsub hx hb d_M_div_17 ?_
    refine lv_goto hx hb d_M_div_18 rfl ?_
    exact ro_lret hx hb hr hlk d_M_div_23 (by rw [hf, if_pos (by omega)] <;> omega)
set_option maxHeartbeats 4000000 in
set_option maxRecDepth 100000 in
theorem ct_M_mod (l : Launch) (x : Int) (n : Int) (rx : -1000000000000000000 ≤ x ∧ x ≤ 1000000000000000000) (rn : 0 < n ∧ n ≤ 1000000000000) : RO l y_M_mod w_M_mod 1 25 [.long (iL x), .long (iL n)] (fun _ => True) (.long (iL (x % n))) := by
  refine ro_of (by decide +kernel) (Nat.le_of_ble_eq_true rfl) ?_
  intro p e s m below meth c ls hx hb hr hts hown hlk hml hl hN hB
  have hown : s.vm.findClass "DayBookModel" = some m.cls := hown
  have hl : lv_has ls 4 [(0, .long (iL x)), (2, .long (iL n))] := hl
  have hF : _ ∧ _ ∧ _ ∧ _ ∧ _ ∧ _ := ⟨hx, hb, hml, hown, hts, hN⟩
  have hm := Int.mul_ediv_add_emod x n
  refine lv_lload_n hx hb d_M_mod_0 rfl (lv_at hl 0 rfl) ?_
  refine lv_lload_n hx hb d_M_mod_1 rfl (lv_at hl 1 rfl) ?_
  refine lv_lload_n hx hb d_M_mod_2 rfl (lv_at hl 0 rfl) ?_
  refine lv_lload_n hx hb d_M_mod_3 rfl (lv_at hl 1 rfl) ?_
  refine ro_S (rest := [.long (iL n), .long (iL x)]) (ct_M_div l x n (by omega) (by omega)) j_M_div k_928 hF rfl hl.1 rfl ⟨Nat.le_of_ble_eq_true rfl, Nat.le_of_ble_eq_true rfl⟩ (Nat.le_of_ble_eq_true rfl) d_M_mod_4 ⟨Nat.zero_le _, Nat.zero_le _⟩ Bm_true (fun _ _ _ => trivial) ?_
  refine ai_lmul hx hb d_M_mod_7 ?_
  refine ai_lsub hx hb d_M_mod_8 ?_
  exact ro_lret hx hb hr hlk d_M_mod_9 (by omega)
set_option maxHeartbeats 4000000 in
set_option maxRecDepth 100000 in
theorem ct_M_skips (l : Launch) (g : Int) (rg : -2147483648 ≤ g ∧ g ≤ 2147483647) : RO l y_M_skips w_M_skips 0 0 [.int (iI g)] (fun _ => True) (.int (iI (bI (g = 1 ∨ g = 6)))) := by
  refine ro_of (by decide +kernel) (Nat.le_of_ble_eq_true rfl) ?_
  intro p e s m below meth c ls hx hb hr hts hown hlk hml hl hN hB
  have hown : s.vm.findClass "DayBookModel" = some m.cls := hown
  have hl : lv_has ls 1 [(0, .int (iI g))] := hl
  have hF : _ ∧ _ ∧ _ ∧ _ ∧ _ ∧ _ := ⟨hx, hb, hml, hown, hts, hN⟩
  refine lv_iload_n hx hb d_M_skips_0 rfl (lv_at hl 0 rfl) ?_
  refine ai_iconst hx hb d_M_skips_1 ?_
  refine ai_icmp_eq hx hb d_M_skips_2 rfl (by omega) (by omega) (fun h2 => ?_) (fun h2 => ?_)
  · skip
    refine ai_iconst hx hb d_M_skips_11 ?_
    refine lv_goto hx hb d_M_skips_12 rfl ?_
    exact ro_zret hx hb hr hlk d_M_skips_16 (ro_1 (by omega) rfl)
  · skip
    refine lv_iload_n hx hb d_M_skips_5 rfl (lv_at hl 0 rfl) ?_
    refine ai_bipush (x := 6) hx hb d_M_skips_6 (by decide +kernel) ?_
    refine ai_icmp_ne hx hb d_M_skips_8 rfl (by omega) (by omega) (fun h8 => ?_) (fun h8 => ?_)
    · skip
      refine ai_iconst hx hb d_M_skips_15 ?_
      exact ro_zret hx hb hr hlk d_M_skips_16 (ro_0 (by omega) rfl)
    · skip
      refine ai_iconst hx hb d_M_skips_11 ?_
      refine lv_goto hx hb d_M_skips_12 rfl ?_
      exact ro_zret hx hb hr hlk d_M_skips_16 (ro_1 (by omega) rfl)
set_option maxHeartbeats 4000000 in
set_option maxRecDepth 100000 in
theorem ct_M_counted (l : Launch) (g : Int) (y : Int) (rg : -2147483648 ≤ g ∧ g ≤ 2147483647) (ry : -1000000000000000000 ≤ y ∧ y ≤ 1000000000000000000) : RO l y_M_counted w_M_counted 1 20 [.int (iI g), .long (iL y)] (fun _ => True) (.long (iL (ctd g y))) := by
  refine ro_of (by decide +kernel) (Nat.le_of_ble_eq_true rfl) ?_
  intro p e s m below meth c ls hx hb hr hts hown hlk hml hl hN hB
  have hown : s.vm.findClass "DayBookModel" = some m.cls := hown
  have hl : lv_has ls 3 [(0, .int (iI g)), (1, .long (iL y))] := hl
  have hF : _ ∧ _ ∧ _ ∧ _ ∧ _ ∧ _ := ⟨hx, hb, hml, hown, hts, hN⟩
  refine lv_iload_n hx hb d_M_counted_0 rfl (lv_at hl 0 rfl) ?_
  refine ro_S (rest := []) (ct_M_skips l g (by omega)) j_M_skips k_1098 hF rfl hl.1 rfl ⟨Nat.le_of_ble_eq_true rfl, Nat.le_of_ble_eq_true rfl⟩ (Nat.le_of_ble_eq_true rfl) d_M_counted_1 ⟨Nat.zero_le _, Nat.zero_le _⟩ Bm_true (fun _ _ _ => trivial) ?_
  refine ai_ifeqB hx hb d_M_counted_4 rfl (fun h4 => ?_) (fun h4 => ?_)
  · skip
    refine lv_lload_n hx hb d_M_counted_19 rfl (lv_at hl 1 rfl) ?_
    exact ro_lret hx hb hr hlk d_M_counted_20 (by unfold ctd; rw [if_neg (by omega)])
  · skip
    refine lv_lload_n hx hb d_M_counted_7 rfl (lv_at hl 1 rfl) ?_
    refine ai_lconst (x := 0) hx hb d_M_counted_8 (by decide +kernel) ?_
    refine ai_lcmp_ge hx hb d_M_counted_9 d_M_counted_10 rfl (by omega) (by omega) (fun h9 => ?_) (fun h9 => ?_)
    · skip
      refine lv_lload_n hx hb d_M_counted_19 rfl (lv_at hl 1 rfl) ?_
      exact ro_lret hx hb hr hlk d_M_counted_20 (by unfold ctd; rw [if_neg (by omega)])
    · skip
      refine lv_lload_n hx hb d_M_counted_13 rfl (lv_at hl 1 rfl) ?_
      refine ai_lconst (x := 1) hx hb d_M_counted_14 (by decide +kernel) ?_
      refine ai_ladd hx hb d_M_counted_15 ?_
      refine lv_goto hx hb d_M_counted_16 rfl ?_
      exact ro_lret hx hb hr hlk d_M_counted_20 (by unfold ctd; rw [if_pos ⟨h4, h9⟩])
set_option maxHeartbeats 4000000 in
set_option maxRecDepth 100000 in
theorem ct_M_named (l : Launch) (g : Int) (y : Int) (rg : -2147483648 ≤ g ∧ g ≤ 2147483647) (ry : -1000000000000000000 ≤ y ∧ y ≤ 1000000000000000000) : RO l y_M_named w_M_named 1 20 [.int (iI g), .long (iL y)] (fun _ => True) (.long (iL (nmd g y))) := by
  refine ro_of (by decide +kernel) (Nat.le_of_ble_eq_true rfl) ?_
  intro p e s m below meth c ls hx hb hr hts hown hlk hml hl hN hB
  have hown : s.vm.findClass "DayBookModel" = some m.cls := hown
  have hl : lv_has ls 3 [(0, .int (iI g)), (1, .long (iL y))] := hl
  have hF : _ ∧ _ ∧ _ ∧ _ ∧ _ ∧ _ := ⟨hx, hb, hml, hown, hts, hN⟩
  refine lv_iload_n hx hb d_M_named_0 rfl (lv_at hl 0 rfl) ?_
  refine ro_S (rest := []) (ct_M_skips l g (by omega)) j_M_skips k_1098 hF rfl hl.1 rfl ⟨Nat.le_of_ble_eq_true rfl, Nat.le_of_ble_eq_true rfl⟩ (Nat.le_of_ble_eq_true rfl) d_M_named_1 ⟨Nat.zero_le _, Nat.zero_le _⟩ Bm_true (fun _ _ _ => trivial) ?_
  refine ai_ifeqB hx hb d_M_named_4 rfl (fun h4 => ?_) (fun h4 => ?_)
  · skip
    refine lv_lload_n hx hb d_M_named_19 rfl (lv_at hl 1 rfl) ?_
    exact ro_lret hx hb hr hlk d_M_named_20 (by unfold nmd; rw [if_neg (by omega)])
  · skip
    refine lv_lload_n hx hb d_M_named_7 rfl (lv_at hl 1 rfl) ?_
    refine ai_lconst (x := 1) hx hb d_M_named_8 (by decide +kernel) ?_
    refine ai_lcmp_ge hx hb d_M_named_9 d_M_named_10 rfl (by omega) (by omega) (fun h9 => ?_) (fun h9 => ?_)
    · skip
      refine lv_lload_n hx hb d_M_named_19 rfl (lv_at hl 1 rfl) ?_
      exact ro_lret hx hb hr hlk d_M_named_20 (by unfold nmd; rw [if_neg (by omega)])
    · skip
      refine lv_lload_n hx hb d_M_named_13 rfl (lv_at hl 1 rfl) ?_
      refine ai_lconst (x := 1) hx hb d_M_named_14 (by decide +kernel) ?_
      refine ai_lsub hx hb d_M_named_15 ?_
      refine lv_goto hx hb d_M_named_16 rfl ?_
      exact ro_lret hx hb hr hlk d_M_named_20 (by unfold nmd; rw [if_pos ⟨h4, h9⟩])
set_option maxHeartbeats 4000000 in
set_option maxRecDepth 100000 in
theorem ct_M_leap0 (l : Launch) (y : Int) (ry : -1000000000000000000 ≤ y ∧ y ≤ 1000000000000000000) : RO l y_M_leap0 w_M_leap0 2 48 [.long (iL y)] (fun _ => True) (.int (iI (bI (yl0 y)))) := by
  refine ro_of (by decide +kernel) (Nat.le_of_ble_eq_true rfl) ?_
  intro p e s m below meth c ls hx hb hr hts hown hlk hml hl hN hB
  have hown : s.vm.findClass "DayBookModel" = some m.cls := hown
  have hl : lv_has ls 2 [(0, .long (iL y))] := hl
  have hF : _ ∧ _ ∧ _ ∧ _ ∧ _ ∧ _ := ⟨hx, hb, hml, hown, hts, hN⟩
  refine lv_lload_n hx hb d_M_leap0_0 rfl (lv_at hl 0 rfl) ?_
  refine ai_ldc2 (x := 4) hx hb hown (hts _ k_924) (by decide +kernel) d_M_leap0_1 ?_
  refine ro_S (rest := []) (ct_M_mod l y 4 (by omega) (by omega)) j_M_mod k_925 hF rfl hl.1 rfl ⟨Nat.le_of_ble_eq_true rfl, Nat.le_of_ble_eq_true rfl⟩ (Nat.le_of_ble_eq_true rfl) d_M_leap0_4 ⟨Nat.zero_le _, Nat.zero_le _⟩ Bm_true (fun _ _ _ => trivial) ?_
  refine ai_lconst (x := 0) hx hb d_M_leap0_7 (by decide +kernel) ?_
  refine ai_lcmp_ne hx hb d_M_leap0_8 d_M_leap0_9 rfl (by omega) (by omega) (fun h8 => ?_) (fun h8 => ?_)
  · skip
    refine ai_iconst hx hb d_M_leap0_40 ?_
    exact ro_zret hx hb hr hlk d_M_leap0_41 (ro_0 (by unfold yl0; omega) rfl)
  · skip
    refine lv_lload_n hx hb d_M_leap0_12 rfl (lv_at hl 0 rfl) ?_
    refine ai_ldc2 (x := 100) hx hb hown (hts _ k_931) (by decide +kernel) d_M_leap0_13 ?_
    refine ro_S (rest := []) (ct_M_mod l y 100 (by omega) (by omega)) j_M_mod k_925 hF rfl hl.1 rfl ⟨Nat.le_of_ble_eq_true rfl, Nat.le_of_ble_eq_true rfl⟩ (Nat.le_of_ble_eq_true rfl) d_M_leap0_16 ⟨Nat.zero_le _, Nat.zero_le _⟩ Bm_true (fun _ _ _ => trivial) ?_
    refine ai_lconst (x := 0) hx hb d_M_leap0_19 (by decide +kernel) ?_
    refine ai_lcmp_ne hx hb d_M_leap0_20 d_M_leap0_21 rfl (by omega) (by omega) (fun h20 => ?_) (fun h20 => ?_)
    · skip
      refine ai_iconst hx hb d_M_leap0_36 ?_
      refine lv_goto hx hb d_M_leap0_37 rfl ?_
      exact ro_zret hx hb hr hlk d_M_leap0_41 (ro_1 (by unfold yl0; omega) rfl)
    · skip
      refine lv_lload_n hx hb d_M_leap0_24 rfl (lv_at hl 0 rfl) ?_
      refine ai_ldc2 (x := 400) hx hb hown (hts _ k_932) (by decide +kernel) d_M_leap0_25 ?_
      refine ro_S (rest := []) (ct_M_mod l y 400 (by omega) (by omega)) j_M_mod k_925 hF rfl hl.1 rfl ⟨Nat.le_of_ble_eq_true rfl, Nat.le_of_ble_eq_true rfl⟩ (Nat.le_of_ble_eq_true rfl) d_M_leap0_28 ⟨Nat.zero_le _, Nat.zero_le _⟩ Bm_true (fun _ _ _ => trivial) ?_
      refine ai_lconst (x := 0) hx hb d_M_leap0_31 (by decide +kernel) ?_
      refine ai_lcmp_ne hx hb d_M_leap0_32 d_M_leap0_33 rfl (by omega) (by omega) (fun h32 => ?_) (fun h32 => ?_)
      · skip
        refine ai_iconst hx hb d_M_leap0_40 ?_
        exact ro_zret hx hb hr hlk d_M_leap0_41 (ro_0 (by unfold yl0; omega) rfl)
      · skip
        refine ai_iconst hx hb d_M_leap0_36 ?_
        refine lv_goto hx hb d_M_leap0_37 rfl ?_
        exact ro_zret hx hb hr hlk d_M_leap0_41 (ro_1 (by unfold yl0; omega) rfl)
set_option maxHeartbeats 4000000 in
set_option maxRecDepth 100000 in
theorem ct_M_inRange (l : Launch) (d : Int) (rd : -9223372036854775808 ≤ d ∧ d ≤ 9223372036854775807) : RO l y_M_inRange w_M_inRange 0 0 [.long (iL d)] (fun _ => True) (.int (iI (bI (-40000000 ≤ d ∧ d ≤ 40000000)))) := by
  refine ro_of (by decide +kernel) (Nat.le_of_ble_eq_true rfl) ?_
  intro p e s m below meth c ls hx hb hr hts hown hlk hml hl hN hB
  have hown : s.vm.findClass "DayBookModel" = some m.cls := hown
  have hl : lv_has ls 2 [(0, .long (iL d))] := hl
  have hF : _ ∧ _ ∧ _ ∧ _ ∧ _ ∧ _ := ⟨hx, hb, hml, hown, hts, hN⟩
  refine lv_lload_n hx hb d_M_inRange_0 rfl (lv_at hl 0 rfl) ?_
  refine ai_ldc2 (x := -40000000) hx hb hown (hts _ k_1028) (by decide +kernel) d_M_inRange_1 ?_
  refine ai_lcmp_lt hx hb d_M_inRange_4 d_M_inRange_5 rfl (by omega) (by omega) (fun h4 => ?_) (fun h4 => ?_)
  · skip
    refine ai_iconst hx hb d_M_inRange_20 ?_
    exact ro_zret hx hb hr hlk d_M_inRange_21 (ro_0 (by omega) rfl)
  · skip
    refine lv_lload_n hx hb d_M_inRange_8 rfl (lv_at hl 0 rfl) ?_
    refine ai_ldc2 (x := 40000000) hx hb hown (hts _ k_1029) (by decide +kernel) d_M_inRange_9 ?_
    refine ai_lcmp_gt hx hb d_M_inRange_12 d_M_inRange_13 rfl (by omega) (by omega) (fun h12 => ?_) (fun h12 => ?_)
    · skip
      refine ai_iconst hx hb d_M_inRange_20 ?_
      exact ro_zret hx hb hr hlk d_M_inRange_21 (ro_0 (by omega) rfl)
    · skip
      refine ai_iconst hx hb d_M_inRange_16 ?_
      refine lv_goto hx hb d_M_inRange_17 rfl ?_
      exact ro_zret hx hb hr hlk d_M_inRange_21 (ro_1 (by omega) rfl)
set_option maxHeartbeats 4000000 in
set_option maxRecDepth 100000 in
theorem ct_M_isYear (l : Launch) (y : Int) (ry : -2147483648 ≤ y ∧ y ≤ 2147483647) : RO l y_M_isYear w_M_isYear 0 0 [.int (iI y)] (fun _ => True) (.int (iI (bI (-100000 ≤ y ∧ y ≤ 100000)))) := by
  refine ro_of (by decide +kernel) (Nat.le_of_ble_eq_true rfl) ?_
  intro p e s m below meth c ls hx hb hr hts hown hlk hml hl hN hB
  have hown : s.vm.findClass "DayBookModel" = some m.cls := hown
  have hl : lv_has ls 1 [(0, .int (iI y))] := hl
  have hF : _ ∧ _ ∧ _ ∧ _ ∧ _ ∧ _ := ⟨hx, hb, hml, hown, hts, hN⟩
  refine lv_iload_n hx hb d_M_isYear_0 rfl (lv_at hl 0 rfl) ?_
  refine ai_ldcw (x := -100000) hx hb hown (hts _ k_1128) (by decide +kernel) d_M_isYear_1 ?_
  refine ai_icmp_lt hx hb d_M_isYear_4 rfl (by omega) (by omega) (fun h4 => ?_) (fun h4 => ?_)
  · skip
    refine ai_iconst hx hb d_M_isYear_18 ?_
    exact ro_zret hx hb hr hlk d_M_isYear_19 (ro_0 (by omega) rfl)
  · skip
    refine lv_iload_n hx hb d_M_isYear_7 rfl (lv_at hl 0 rfl) ?_
    refine ai_ldcw (x := 100000) hx hb hown (hts _ k_1129) (by decide +kernel) d_M_isYear_8 ?_
    refine ai_icmp_gt hx hb d_M_isYear_11 rfl (by omega) (by omega) (fun h11 => ?_) (fun h11 => ?_)
    · skip
      refine ai_iconst hx hb d_M_isYear_18 ?_
      exact ro_zret hx hb hr hlk d_M_isYear_19 (ro_0 (by omega) rfl)
    · skip
      refine ai_iconst hx hb d_M_isYear_14 ?_
      refine lv_goto hx hb d_M_isYear_15 rfl ?_
      exact ro_zret hx hb hr hlk d_M_isYear_19 (ro_1 (by omega) rfl)
set_option maxHeartbeats 4000000 in
set_option maxRecDepth 100000 in
theorem ct_M_sundayBehind (l : Launch) (d : Int) (rd : -1000000000000000000 ≤ d ∧ d ≤ 1000000000000000000) : RO l y_M_sundayBehind w_M_sundayBehind 2 48 [.long (iL d)] (fun _ => True) (.long (iL (d + 7 - d % 7))) := by
  refine ro_of (by decide +kernel) (Nat.le_of_ble_eq_true rfl) ?_
  intro p e s m below meth c ls hx hb hr hts hown hlk hml hl hN hB
  have hown : s.vm.findClass "DayBookModel" = some m.cls := hown
  have hl : lv_has ls 2 [(0, .long (iL d))] := hl
  have hF : _ ∧ _ ∧ _ ∧ _ ∧ _ ∧ _ := ⟨hx, hb, hml, hown, hts, hN⟩
  refine lv_lload_n hx hb d_M_sundayBehind_0 rfl (lv_at hl 0 rfl) ?_
  refine ai_ldc2 (x := 7) hx hb hown (hts _ k_944) (by decide +kernel) d_M_sundayBehind_1 ?_
  refine ai_ladd hx hb d_M_sundayBehind_4 ?_
  refine lv_lload_n hx hb d_M_sundayBehind_5 rfl (lv_at hl 0 rfl) ?_
  refine ai_ldc2 (x := 7) hx hb hown (hts _ k_944) (by decide +kernel) d_M_sundayBehind_6 ?_
  refine ro_S (rest := [.long (iL (d + 7))]) (ct_M_mod l d 7 (by omega) (by omega)) j_M_mod k_925 hF rfl hl.1 rfl ⟨Nat.le_of_ble_eq_true rfl, Nat.le_of_ble_eq_true rfl⟩ (Nat.le_of_ble_eq_true rfl) d_M_sundayBehind_9 ⟨Nat.zero_le _, Nat.zero_le _⟩ Bm_true (fun _ _ _ => trivial) ?_
  refine ai_lsub hx hb d_M_sundayBehind_12 ?_
  exact ro_lret hx hb hr hlk d_M_sundayBehind_13 (by omega)
end
section
/-! the classes whose objects the worlds hold, their fields by slot, by program (wip/whole/classes.py) -/
theorem gw_idx {L : List Cond} (is : List Nat) (h : is.map (fun i => tables_1[i]?) = L.map some) (hg : L.all goodWord = true) : ∀ w ∈ L, w ∈ gw := fun w hw => by
  have h1 : some w ∈ L.map some := List.mem_map.mpr ⟨w, hw, rfl⟩
  rw [← h] at h1
  obtain ⟨i, -, hi⟩ := List.mem_map.mp h1
  exact gw_t i hi (List.all_eq_true.mp hg w hw)
def T_JB : u_T := fun k => match k with
  | 0 => ("java/lang/AbstractStringBuilder", "value", "[B", false)
  | 1 => ("java/lang/AbstractStringBuilder", "coder", "B", false)
  | 2 => ("java/lang/AbstractStringBuilder", "maybeLatin1", "Z", false)
  | _ => ("java/lang/AbstractStringBuilder", "count", "I", false)
def ty_JB : Nat → FieldType := fun k => match k with
  | 0 => .array .byte
  | 1 => .byte
  | 2 => .boolean
  | _ => .int
theorem nm_JB : ∀ a, a < 4 → ∀ b, b < 4 → a ≠ b → (T_JB a).2.1 ≠ (T_JB b).2.1 := by decide +kernel
theorem ty_JB_ok : ∀ k, k < 4 → parseFieldDescriptor (T_JB k).2.2.1 = some (ty_JB k) := by decide +kernel
theorem in_JB : ∀ w ∈ u_ws "java/lang/StringBuilder" T_JB 4, w ∈ gw := gw_idx [194, 196, 198, 200] (by decide +kernel) (by decide +kernel)
def T_CR : u_T := fun k => match k with
  | 0 => ("DayBook$CenturyRule", "later", "J", true)
  | _ => ("DayBook$CenturyRule", "dropsFourThousands", "Z", true)
def ty_CR : Nat → FieldType := fun k => match k with
  | 0 => .long
  | _ => .boolean
theorem nm_CR : ∀ a, a < 2 → ∀ b, b < 2 → a ≠ b → (T_CR a).2.1 ≠ (T_CR b).2.1 := by decide +kernel
theorem ty_CR_ok : ∀ k, k < 2 → parseFieldDescriptor (T_CR k).2.2.1 = some (ty_CR k) := by decide +kernel
theorem in_CR : ∀ w ∈ u_ws "DayBook$CenturyRule" T_CR 2, w ∈ gw := gw_idx [57, 59] (by decide +kernel) (by decide +kernel)
def T_YR : u_T := fun k => match k with
  | _ => ("", "", "", false)
def ty_YR : Nat → FieldType := fun k => match k with
  | _ => .int
theorem nm_YR : ∀ a, a < 0 → ∀ b, b < 0 → a ≠ b → (T_YR a).2.1 ≠ (T_YR b).2.1 := by decide +kernel
theorem ty_YR_ok : ∀ k, k < 0 → parseFieldDescriptor (T_YR k).2.2.1 = some (ty_YR k) := by decide +kernel
theorem in_YR : ∀ w ∈ u_ws "DayBook$CycleRule" T_YR 0, w ∈ gw := gw_idx [] (by decide +kernel) (by decide +kernel)
def T_HC : u_T := fun k => match k with
  | _ => ("", "", "", false)
def ty_HC : Nat → FieldType := fun k => match k with
  | _ => .int
theorem nm_HC : ∀ a, a < 0 → ∀ b, b < 0 → a ≠ b → (T_HC a).2.1 ≠ (T_HC b).2.1 := by decide +kernel
theorem ty_HC_ok : ∀ k, k < 0 → parseFieldDescriptor (T_HC k).2.2.1 = some (ty_HC k) := by decide +kernel
theorem in_HC : ∀ w ∈ u_ws "DayBook$HebrewCalendar" T_HC 0, w ∈ gw := gw_idx [] (by decide +kernel) (by decide +kernel)
def T_LC : u_T := fun k => match k with
  | _ => ("", "", "", false)
def ty_LC : Nat → FieldType := fun k => match k with
  | _ => .int
theorem nm_LC : ∀ a, a < 0 → ∀ b, b < 0 → a ≠ b → (T_LC a).2.1 ≠ (T_LC b).2.1 := by decide +kernel
theorem ty_LC_ok : ∀ k, k < 0 → parseFieldDescriptor (T_LC k).2.2.1 = some (ty_LC k) := by decide +kernel
theorem in_LC : ∀ w ∈ u_ws "DayBook$LunarCalendar" T_LC 0, w ∈ gw := gw_idx [] (by decide +kernel) (by decide +kernel)
def T_MC : u_T := fun k => match k with
  | 0 => ("DayBook$MonthCalendar", "numbers", "[I", true)
  | 1 => ("DayBook$MonthCalendar", "lengths", "[I", true)
  | 2 => ("DayBook$MonthCalendar", "leapPlace", "I", true)
  | 3 => ("DayBook$MonthCalendar", "epoch", "J", true)
  | 4 => ("DayBook$MonthCalendar", "hasYear0", "Z", true)
  | 5 => ("DayBook$MonthCalendar", "rule", "LDayBook$LeapRule;", true)
  | _ => ("DayBook$MonthCalendar", "plainDays", "I", true)
def ty_MC : Nat → FieldType := fun k => match k with
  | 0 => .array .int
  | 1 => .array .int
  | 2 => .int
  | 3 => .long
  | 4 => .boolean
  | 5 => .object "DayBook$LeapRule"
  | _ => .int
theorem nm_MC : ∀ a, a < 7 → ∀ b, b < 7 → a ≠ b → (T_MC a).2.1 ≠ (T_MC b).2.1 := by decide +kernel
theorem ty_MC_ok : ∀ k, k < 7 → parseFieldDescriptor (T_MC k).2.2.1 = some (ty_MC k) := by decide +kernel
theorem in_MC : ∀ w ∈ u_ws "DayBook$MonthCalendar" T_MC 7, w ∈ gw := gw_idx [79, 81, 83, 85, 87, 89, 91] (by decide +kernel) (by decide +kernel)
def T_SC : u_T := fun k => match k with
  | _ => ("", "", "", false)
def ty_SC : Nat → FieldType := fun k => match k with
  | _ => .int
theorem nm_SC : ∀ a, a < 0 → ∀ b, b < 0 → a ≠ b → (T_SC a).2.1 ≠ (T_SC b).2.1 := by decide +kernel
theorem ty_SC_ok : ∀ k, k < 0 → parseFieldDescriptor (T_SC k).2.2.1 = some (ty_SC k) := by decide +kernel
theorem in_SC : ∀ w ∈ u_ws "DayBook$SolarCalendar" T_SC 0, w ∈ gw := gw_idx [] (by decide +kernel) (by decide +kernel)
def T_SR : u_T := fun k => match k with
  | 0 => ("DayBook$SpreadRule", "a", "J", true)
  | 1 => ("DayBook$SpreadRule", "b", "J", true)
  | _ => ("DayBook$SpreadRule", "c", "J", true)
def ty_SR : Nat → FieldType := fun k => match k with
  | 0 => .long
  | 1 => .long
  | _ => .long
theorem nm_SR : ∀ a, a < 3 → ∀ b, b < 3 → a ≠ b → (T_SR a).2.1 ≠ (T_SR b).2.1 := by decide +kernel
theorem ty_SR_ok : ∀ k, k < 3 → parseFieldDescriptor (T_SR k).2.2.1 = some (ty_SR k) := by decide +kernel
theorem in_SR : ∀ w ∈ u_ws "DayBook$SpreadRule" T_SR 3, w ∈ gw := gw_idx [105, 107, 109] (by decide +kernel) (by decide +kernel)
def T_WC : u_T := fun k => match k with
  | _ => ("DayBook$WeekCalendar", "civil", "LDayBook$MonthCalendar;", true)
def ty_WC : Nat → FieldType := fun k => match k with
  | _ => .object "DayBook$MonthCalendar"
theorem nm_WC : ∀ a, a < 1 → ∀ b, b < 1 → a ≠ b → (T_WC a).2.1 ≠ (T_WC b).2.1 := by decide +kernel
theorem ty_WC_ok : ∀ k, k < 1 → parseFieldDescriptor (T_WC k).2.2.1 = some (ty_WC k) := by decide +kernel
theorem in_WC : ∀ w ∈ u_ws "DayBook$WeekCalendar" T_WC 1, w ∈ gw := gw_idx [128] (by decide +kernel) (by decide +kernel)
def T_B : u_T := fun k => match k with
  | 0 => ("DayBook", "civil", "LDayBook$MonthCalendar;", true)
  | 1 => ("DayBook", "julian", "LDayBook$MonthCalendar;", true)
  | 2 => ("DayBook", "hebrew", "LDayBook$HebrewCalendar;", true)
  | 3 => ("DayBook", "calendars", "[LDayBook$Calendar;", true)
  | _ => ("DayBook", "row", "Ljava/lang/StringBuilder;", true)
def ty_B : Nat → FieldType := fun k => match k with
  | 0 => .object "DayBook$MonthCalendar"
  | 1 => .object "DayBook$MonthCalendar"
  | 2 => .object "DayBook$HebrewCalendar"
  | 3 => .array (.object "DayBook$Calendar")
  | _ => .object "java/lang/StringBuilder"
theorem nm_B : ∀ a, a < 5 → ∀ b, b < 5 → a ≠ b → (T_B a).2.1 ≠ (T_B b).2.1 := by decide +kernel
theorem ty_B_ok : ∀ k, k < 5 → parseFieldDescriptor (T_B k).2.2.1 = some (ty_B k) := by decide +kernel
theorem in_B : ∀ w ∈ u_ws "DayBook" T_B 5, w ∈ gw := gw_idx [209, 211, 213, 215, 217] (by decide +kernel) (by decide +kernel)
def T_M : u_T := fun k => match k with
  | 0 => ("DayBookModel", "thrown", "I", false)
  | 1 => ("DayBookModel", "cycle", "[I", false)
  | 2 => ("DayBookModel", "days", "[J", false)
  | 3 => ("DayBookModel", "there", "[Z", false)
  | 4 => ("DayBookModel", "months", "[I", false)
  | 5 => ("DayBookModel", "lengths", "[I", false)
  | 6 => ("DayBookModel", "epochs", "[I", false)
  | 7 => ("DayBookModel", "ruleA", "[I", false)
  | 8 => ("DayBookModel", "ruleB", "[I", false)
  | 9 => ("DayBookModel", "ruleC", "[I", false)
  | 10 => ("DayBookModel", "lastCalendar", "I", false)
  | 11 => ("DayBookModel", "lastYear", "J", false)
  | 12 => ("DayBookModel", "lastStart", "J", false)
  | 13 => ("DayBookModel", "lastEnd", "J", false)
  | 14 => ("DayBookModel", "year", "J", false)
  | 15 => ("DayBookModel", "month", "I", false)
  | 16 => ("DayBookModel", "day", "I", false)
  | 17 => ("DayBookModel", "size", "I", false)
  | _ => ("DayBookModel", "row", "[C", false)
def ty_M : Nat → FieldType := fun k => match k with
  | 0 => .int
  | 1 => .array .int
  | 2 => .array .long
  | 3 => .array .boolean
  | 4 => .array .int
  | 5 => .array .int
  | 6 => .array .int
  | 7 => .array .int
  | 8 => .array .int
  | 9 => .array .int
  | 10 => .int
  | 11 => .long
  | 12 => .long
  | 13 => .long
  | 14 => .long
  | 15 => .int
  | 16 => .int
  | 17 => .int
  | _ => .array .char
theorem nm_M : ∀ a, a < 19 → ∀ b, b < 19 → a ≠ b → (T_M a).2.1 ≠ (T_M b).2.1 := by decide +kernel
theorem ty_M_ok : ∀ k, k < 19 → parseFieldDescriptor (T_M k).2.2.1 = some (ty_M k) := by decide +kernel
theorem in_M : ∀ w ∈ u_ws "DayBookModel" T_M 19, w ∈ gw := gw_idx [965, 967, 969, 971, 973, 975, 977, 979, 981, 983, 985, 987, 989, 991, 993, 995, 997, 999, 1001] (by decide +kernel) (by decide +kernel)
abbrev CL : List vw_C := [("java/lang/StringBuilder", T_JB, 4), ("DayBook$CenturyRule", T_CR, 2), ("DayBook$CycleRule", T_YR, 0), ("DayBook$HebrewCalendar", T_HC, 0), ("DayBook$LunarCalendar", T_LC, 0), ("DayBook$MonthCalendar", T_MC, 7), ("DayBook$SolarCalendar", T_SC, 0), ("DayBook$SpreadRule", T_SR, 3), ("DayBook$WeekCalendar", T_WC, 1), ("DayBook", T_B, 5), ("DayBookModel", T_M, 19)]
/-- cells that a method reads -/
def OB (D : va_G) (ws : va_W) (U : State) : Prop := va_K D CL [] U ∧ va_P D CL ws U.heap
theorem OB.m {D : va_G} {ws : va_W} : Bm (OB D ws) := ⟨fun a U g mk h => ⟨va_K.moved (u := U) (U := U.calling g mk a) (Vm.Alike.refl U.vm) h.1, h.2⟩, fun s U h1 h2 h => ⟨va_K.moved h2.alike h.1, by rw [h1]; exact h.2⟩⟩
theorem OB.recv {D : va_G} {ws : va_W} {s : State} (h : OB D ws s) {a ci : Nat} {q : vw_C} {fs : List Value} (k : Nat) (he : ws[k]? = some (a, .inr (ci, fs))) (hc : CL[ci]? = some q) : ∃ cell : Cell, s.heap[a]? = some cell ∧ cell.vm.isStatics = false ∧ s.vm.findClass q.1 = some cell.cls := va_recv h.1 h.2 hc he
theorem OB.sub {D : va_G} {ws ws' : va_W} {U : State} (h : OB D ws U) (is : List Nat) (hs : is.filterMap (fun i => ws[i]?) = ws') : OB D ws' U := ⟨h.1, h.2.sub is hs⟩
/-- an int array that a method reads: N places, f -/
def tA (t N : Nat) (f : Nat → Int) (U : State) : Prop := va_X t N (fun j => iI (f j)) U U.heap
theorem tA.m {t N : Nat} {f : Nat → Int} : Bm (tA t N f) := ⟨fun a U g mk h => va_X.moved (u := U) (U := U.calling g mk a) (Vm.Alike.refl U.vm) h, fun s U h1 h2 h => by unfold tA at h ⊢; rw [h1]; exact va_X.moved h2.alike h⟩
theorem Bm.and {A B : State → Prop} (ha : Bm A) (hb : Bm B) : Bm (fun U => A U ∧ B U) := ⟨fun a U g mk h => ⟨ha.1 a U g mk h.1, hb.1 a U g mk h.2⟩, fun s U h1 h2 h => ⟨ha.2 s U h1 h2 h.1, hb.2 s U h1 h2 h.2⟩⟩
theorem Bm.or {A B : State → Prop} (ha : Bm A) (hb : Bm B) : Bm (fun U => A U ∨ B U) := ⟨fun a U g mk h => h.imp (ha.1 a U g mk) (hb.1 a U g mk), fun s U h1 h2 h => h.imp (ha.2 s U h1 h2) (hb.2 s U h1 h2)⟩
theorem Bm.ex {α : Sort _} {A : α → State → Prop} (ha : ∀ x, Bm (A x)) : Bm (fun U => ∃ x, A x U) := ⟨fun a U g mk h => h.imp fun x hx => (ha x).1 a U g mk hx, fun s U h1 h2 h => h.imp fun x hx => (ha x).2 s U h1 h2 hx⟩
theorem Bm.c {P : Prop} : Bm (fun _ => P) := ⟨fun _ _ _ _ h => h, fun _ _ _ _ h => h⟩
section TA
variable {p : Program} {l : Launch} {e : Env} {R : Room} {s : State} {m : MethodId} {args : Array Value} {below : List Frame} {meth : Method} {c : Code} {cells slots : Nat} {Q : State → Prop} {cc : ByteArray} {pc : Nat} {ls : Array Slot} {rest : List Value}
theorem ta_ld (hexec : p.tables.exec = Jvm.exec) (hb : c.code = cc) {t N : Nat} {f : Nat → Int} {i : Int} (h : tA t N f s) (h0 : 0 ≤ i ∧ i < N) (hN : N < 2147483648) (hdg : decode cc pc = .ok (.iaload, 1)) (kk : W p l e R s m args below meth c s.heap [] cells slots Q (F0 m (pc + 1) ls (.int (iI (f i.toNat)) :: rest))) : W p l e R s m args below meth c s.heap [] cells slots Q (F0 m pc ls (.int (iI i) :: .ref t :: rest)) := by
  refine va_sld (A := fun _ => False) hexec hb h (by obtain ⟨cell, h1, _⟩ := h; exact (Array.getElem?_eq_some_iff.mp h1).1) (fun h => h) va_S.rf (iI_in h0.1 h0.2 hN) hdg ?_
  rw [iI_clT h0.1 (by omega)]
  exact kk
theorem ta_len (hexec : p.tables.exec = Jvm.exec) (hb : c.code = cc) {t N : Nat} {f : Nat → Int} (h : tA t N f s) (hdg : decode cc pc = .ok (.arraylength, 1)) (kk : W p l e R s m args below meth c s.heap [] cells slots Q (F0 m (pc + 1) ls (.int (iI (N : Int)) :: rest))) : W p l e R s m args below meth c s.heap [] cells slots Q (F0 m pc ls (.ref t :: rest)) := by
  refine va_slen (A := fun _ => False) hexec hb h (by obtain ⟨cell, h1, _⟩ := h; exact (Array.getElem?_eq_some_iff.mp h1).1) (fun h => h) va_S.rf hdg ?_
  rw [iI_nI] at kk
  exact kk
end TA
end
section
/-! 15.moonC: laid by program (wip/whole) -/
theorem hel_rng {y : Int} (h : -1000000000000 ≤ y ∧ y ≤ 1000000000000) : -1000000000000000 ≤ hel y ∧ hel y ≤ 1000000000000000 := by
  have h1 := bI_01 ((3 * hea (hmo y) + 3) % 7 < 3)
  unfold hel hpo
  unfold hea hmo at h1 ⊢
  omega
theorem hst_rng {y : Int} (h : -999999999999 ≤ y ∧ y ≤ 999999999999) : -1000002000000000 ≤ hst y ∧ hst y ≤ 1000002000000000 := by
  have h1 := hel_rng (y := y) (by omega)
  unfold hst hla
  split
  · omega
  · split <;> omega
set_option maxHeartbeats 4000000 in
set_option maxRecDepth 100000 in
theorem ct_M_moons (l : Launch) (y : Int) (ry : -1000000000000 ≤ y ∧ y ≤ 1000000000000) : RO l y_M_moons w_M_moons 2 48 [.long (iL y)] (fun _ => True) (.long (iL (hel y))) := by
  refine ro_of (by decide +kernel) (Nat.le_of_ble_eq_true rfl) ?_
  intro p e s m below meth c ls hx hb hr hts hown hlk hml hl hN hB
  have hown : s.vm.findClass "DayBookModel" = some m.cls := hown
  have hl : lv_has ls 6 [(0, .long (iL y))] := hl
  have hF : _ ∧ _ ∧ _ ∧ _ ∧ _ ∧ _ := ⟨hx, hb, hml, hown, hts, hN⟩
  refine ai_ldc2 (x := 235) hx hb hown (hts _ k_1079) (by decide +kernel) d_M_moons_0 ?_
  refine lv_lload_n hx hb d_M_moons_3 rfl (lv_at hl 0 rfl) ?_
  refine ai_lmul hx hb d_M_moons_4 ?_
  refine ai_ldc2 (x := 234) hx hb hown (hts _ k_1080) (by decide +kernel) d_M_moons_5 ?_
  refine ai_lsub hx hb d_M_moons_8 ?_
  refine ai_ldc2 (x := 19) hx hb hown (hts _ k_945) (by decide +kernel) d_M_moons_9 ?_
  refine ro_S (rest := []) (ct_M_div l ((235 * y) - 234) 19 (by omega) (by omega)) j_M_div k_928 hF rfl hl.1 rfl ⟨Nat.le_of_ble_eq_true rfl, Nat.le_of_ble_eq_true rfl⟩ (Nat.le_of_ble_eq_true rfl) d_M_moons_12 ⟨Nat.zero_le _, Nat.zero_le _⟩ Bm_true (fun _ _ _ => trivial) ?_
  refine ai_nmL hx hb (fun v15 e15 => ?_)
  refine lv_lstore_n (lv' := [(2, .long (iL v15)), (0, .long (iL y))]) hx hb d_M_moons_15 rfl hl (by decide) rfl (fun ls hl => ?_)
  refine ai_ldc2 (x := 29) hx hb hown (hts _ k_1081) (by decide +kernel) d_M_moons_16 ?_
  refine lv_lload_n hx hb d_M_moons_19 rfl (lv_at hl 0 rfl) ?_
  refine ai_lmul hx hb d_M_moons_20 ?_
  refine ai_ldc2 (x := 12084) hx hb hown (hts _ k_1082) (by decide +kernel) d_M_moons_21 ?_
  refine ai_ldc2 (x := 13753) hx hb hown (hts _ k_1083) (by decide +kernel) d_M_moons_24 ?_
  refine lv_lload_n hx hb d_M_moons_27 rfl (lv_at hl 0 rfl) ?_
  refine ai_lmul hx hb d_M_moons_28 ?_
  refine ai_ladd hx hb d_M_moons_29 ?_
  refine ai_ldc2 (x := 25920) hx hb hown (hts _ k_1084) (by decide +kernel) d_M_moons_30 ?_
  refine ro_S (rest := [.long (iL (29 * v15))]) (ct_M_div l (12084 + (13753 * v15)) 25920 (by omega) (by omega)) j_M_div k_928 hF rfl hl.1 rfl ⟨Nat.le_of_ble_eq_true rfl, Nat.le_of_ble_eq_true rfl⟩ (Nat.le_of_ble_eq_true rfl) d_M_moons_33 ⟨Nat.zero_le _, Nat.zero_le _⟩ Bm_true (fun _ _ _ => trivial) ?_
  refine ai_ladd hx hb d_M_moons_36 ?_
  refine ai_nmL hx hb (fun v37 e37 => ?_)
  refine lv_lstore (lv' := [(4, .long (iL v37)), (2, .long (iL v15)), (0, .long (iL y))]) hx hb d_M_moons_37 hl (by decide) rfl (fun ls hl => ?_)
  refine ai_ldc2 (x := 3) hx hb hown (hts _ k_933) (by decide +kernel) d_M_moons_39 ?_
  refine lv_lload hx hb d_M_moons_42 (lv_at hl 0 rfl) ?_
  refine ai_lmul hx hb d_M_moons_44 ?_
  refine ai_ldc2 (x := 3) hx hb hown (hts _ k_933) (by decide +kernel) d_M_moons_45 ?_
  refine ai_ladd hx hb d_M_moons_48 ?_
  refine ai_ldc2 (x := 7) hx hb hown (hts _ k_944) (by decide +kernel) d_M_moons_49 ?_
  refine ro_S (rest := []) (ct_M_mod l ((3 * v37) + 3) 7 (by omega) (by omega)) j_M_mod k_925 hF rfl hl.1 rfl ⟨Nat.le_of_ble_eq_true rfl, Nat.le_of_ble_eq_true rfl⟩ (Nat.le_of_ble_eq_true rfl) d_M_moons_52 ⟨Nat.zero_le _, Nat.zero_le _⟩ Bm_true (fun _ _ _ => trivial) ?_
  refine ai_ldc2 (x := 3) hx hb hown (hts _ k_933) (by decide +kernel) d_M_moons_55 ?_
  refine ai_lcmp_ge hx hb d_M_moons_58 d_M_moons_59 rfl (by omega) (by omega) (fun h58 => ?_) (fun h58 => ?_)
  · skip
    refine lv_lload hx hb d_M_moons_69 (lv_at hl 0 rfl) ?_
    exact ro_lret hx hb hr hlk d_M_moons_71 (by have q : hea (hmo y) = v37 := (by unfold hea hmo; rw [e37, e15]); unfold hel hpo; rw [q, bI_f (by omega)]; omega)
  · skip
    refine lv_lload hx hb d_M_moons_62 (lv_at hl 0 rfl) ?_
    refine ai_lconst (x := 1) hx hb d_M_moons_64 (by decide +kernel) ?_
    refine ai_ladd hx hb d_M_moons_65 ?_
    refine lv_goto hx hb d_M_moons_66 rfl ?_
    exact ro_lret hx hb hr hlk d_M_moons_71 (by have q : hea (hmo y) = v37 := (by unfold hea hmo; rw [e37, e15]); unfold hel hpo; rw [q, bI_t (by omega)])
set_option maxHeartbeats 4000000 in
set_option maxRecDepth 100000 in
theorem ct_HC_elapsed (l : Launch) (y : Int) (ry : -1000000000000 ≤ y ∧ y ≤ 1000000000000) : RO l y_HC_elapsed w_HC_elapsed 1 25 [.long (iL y)] (fun _ => True) (.long (iL (hel y))) := by
  refine ro_of (by decide +kernel) (Nat.le_of_ble_eq_true rfl) ?_
  intro p e s m below meth c ls hx hb hr hts hown hlk hml hl hN hB
  have hown : s.vm.findClass "DayBook$HebrewCalendar" = some m.cls := hown
  have hl : lv_has ls 6 [(0, .long (iL y))] := hl
  have hF : _ ∧ _ ∧ _ ∧ _ ∧ _ ∧ _ := ⟨hx, hb, hml, hown, hts, hN⟩
  refine ai_ldc2 (x := 235) hx hb hown (hts _ k_536) (by decide +kernel) d_HC_elapsed_0 ?_
  refine lv_lload_n hx hb d_HC_elapsed_3 rfl (lv_at hl 0 rfl) ?_
  refine ai_lmul hx hb d_HC_elapsed_4 ?_
  refine ai_ldc2 (x := 234) hx hb hown (hts _ k_537) (by decide +kernel) d_HC_elapsed_5 ?_
  refine ai_lsub hx hb d_HC_elapsed_8 ?_
  refine ai_ldc2 (x := 19) hx hb hown (hts _ k_538) (by decide +kernel) d_HC_elapsed_9 ?_
  refine ro_S (rest := []) (ct_JM_floorDiv_JJJ l ((235 * y) - 234) 19 (by omega) (by omega)) j_JM_floorDiv_JJJ k_539 hF rfl hl.1 rfl ⟨Nat.le_of_ble_eq_true rfl, Nat.le_of_ble_eq_true rfl⟩ (Nat.le_of_ble_eq_true rfl) d_HC_elapsed_12 ⟨Nat.zero_le _, Nat.zero_le _⟩ Bm_true (fun _ _ _ => trivial) ?_
  refine ai_nmL hx hb (fun v15 e15 => ?_)
  refine lv_lstore_n (lv' := [(2, .long (iL v15)), (0, .long (iL y))]) hx hb d_HC_elapsed_15 rfl hl (by decide) rfl (fun ls hl => ?_)
  refine ai_ldc2 (x := 29) hx hb hown (hts _ k_542) (by decide +kernel) d_HC_elapsed_16 ?_
  refine lv_lload_n hx hb d_HC_elapsed_19 rfl (lv_at hl 0 rfl) ?_
  refine ai_lmul hx hb d_HC_elapsed_20 ?_
  refine ai_ldc2 (x := 12084) hx hb hown (hts _ k_543) (by decide +kernel) d_HC_elapsed_21 ?_
  refine ai_ldc2 (x := 13753) hx hb hown (hts _ k_544) (by decide +kernel) d_HC_elapsed_24 ?_
  refine lv_lload_n hx hb d_HC_elapsed_27 rfl (lv_at hl 0 rfl) ?_
  refine ai_lmul hx hb d_HC_elapsed_28 ?_
  refine ai_ladd hx hb d_HC_elapsed_29 ?_
  refine ai_ldc2 (x := 25920) hx hb hown (hts _ k_545) (by decide +kernel) d_HC_elapsed_30 ?_
  refine ro_S (rest := [.long (iL (29 * v15))]) (ct_JM_floorDiv_JJJ l (12084 + (13753 * v15)) 25920 (by omega) (by omega)) j_JM_floorDiv_JJJ k_539 hF rfl hl.1 rfl ⟨Nat.le_of_ble_eq_true rfl, Nat.le_of_ble_eq_true rfl⟩ (Nat.le_of_ble_eq_true rfl) d_HC_elapsed_33 ⟨Nat.zero_le _, Nat.zero_le _⟩ Bm_true (fun _ _ _ => trivial) ?_
  refine ai_ladd hx hb d_HC_elapsed_36 ?_
  refine ai_nmL hx hb (fun v37 e37 => ?_)
  refine lv_lstore (lv' := [(4, .long (iL v37)), (2, .long (iL v15)), (0, .long (iL y))]) hx hb d_HC_elapsed_37 hl (by decide) rfl (fun ls hl => ?_)
  refine ai_ldc2 (x := 3) hx hb hown (hts _ k_546) (by decide +kernel) d_HC_elapsed_39 ?_
  refine lv_lload hx hb d_HC_elapsed_42 (lv_at hl 0 rfl) ?_
  refine ai_lmul hx hb d_HC_elapsed_44 ?_
  refine ai_ldc2 (x := 3) hx hb hown (hts _ k_546) (by decide +kernel) d_HC_elapsed_45 ?_
  refine ai_ladd hx hb d_HC_elapsed_48 ?_
  refine ai_ldc2 (x := 7) hx hb hown (hts _ k_547) (by decide +kernel) d_HC_elapsed_49 ?_
  refine ro_S (rest := []) (ct_JM_floorMod_JJJ l ((3 * v37) + 3) 7 (by omega) (by omega)) j_JM_floorMod_JJJ k_548 hF rfl hl.1 rfl ⟨Nat.le_of_ble_eq_true rfl, Nat.le_of_ble_eq_true rfl⟩ (Nat.le_of_ble_eq_true rfl) d_HC_elapsed_52 ⟨Nat.zero_le _, Nat.zero_le _⟩ Bm_true (fun _ _ _ => trivial) ?_
  refine ai_ldc2 (x := 3) hx hb hown (hts _ k_546) (by decide +kernel) d_HC_elapsed_55 ?_
  refine ai_lcmp_ge hx hb d_HC_elapsed_58 d_HC_elapsed_59 rfl (by omega) (by omega) (fun h58 => ?_) (fun h58 => ?_)
  · skip
    refine lv_lload hx hb d_HC_elapsed_69 (lv_at hl 0 rfl) ?_
    exact ro_lret hx hb hr hlk d_HC_elapsed_71 (by have q : hea (hmo y) = v37 := (by unfold hea hmo; rw [e37, e15]); unfold hel hpo; rw [q, bI_f (by omega)]; omega)
  · skip
    refine lv_lload hx hb d_HC_elapsed_62 (lv_at hl 0 rfl) ?_
    refine ai_lconst (x := 1) hx hb d_HC_elapsed_64 (by decide +kernel) ?_
    refine ai_ladd hx hb d_HC_elapsed_65 ?_
    refine lv_goto hx hb d_HC_elapsed_66 rfl ?_
    exact ro_lret hx hb hr hlk d_HC_elapsed_71 (by have q : hea (hmo y) = v37 := (by unfold hea hmo; rw [e37, e15]); unfold hel hpo; rw [q, bI_t (by omega)])
set_option maxHeartbeats 4000000 in
set_option maxRecDepth 100000 in
theorem ct_M_moonStart (l : Launch) (y : Int) (ry : -999999999999 ≤ y ∧ y ≤ 999999999999) : RO l y_M_moonStart w_M_moonStart 3 73 [.long (iL y)] (fun _ => True) (.long (iL (hst y))) := by
  refine ro_of (by decide +kernel) (Nat.le_of_ble_eq_true rfl) ?_
  intro p e s m below meth c ls hx hb hr hts hown hlk hml hl hN hB
  have hown : s.vm.findClass "DayBookModel" = some m.cls := hown
  have hl : lv_has ls 8 [(0, .long (iL y))] := hl
  have hF : _ ∧ _ ∧ _ ∧ _ ∧ _ ∧ _ := ⟨hx, hb, hml, hown, hts, hN⟩
  have q0 := hel_rng (y := y - 1) (by omega)
  have q1 := hel_rng (y := y) (by omega)
  have q2 := hel_rng (y := y + 1) (by omega)
  refine lv_lload_n hx hb d_M_moonStart_0 rfl (lv_at hl 0 rfl) ?_
  refine ai_lconst (x := 1) hx hb d_M_moonStart_1 (by decide +kernel) ?_
  refine ai_lsub hx hb d_M_moonStart_2 ?_
  refine ro_S (rest := []) (ct_M_moons l (y - 1) (by omega)) j_M_moons k_1076 hF rfl hl.1 rfl ⟨Nat.le_of_ble_eq_true rfl, Nat.le_of_ble_eq_true rfl⟩ (Nat.le_of_ble_eq_true rfl) d_M_moonStart_3 ⟨Nat.zero_le _, Nat.zero_le _⟩ Bm_true (fun _ _ _ => trivial) ?_
  refine ai_nmL hx hb (fun v6 e6 => ?_)
  refine lv_lstore_n (lv' := [(2, .long (iL v6)), (0, .long (iL y))]) hx hb d_M_moonStart_6 rfl hl (by decide) rfl (fun ls hl => ?_)
  refine lv_lload_n hx hb d_M_moonStart_7 rfl (lv_at hl 1 rfl) ?_
  refine ro_S (rest := []) (ct_M_moons l y (by omega)) j_M_moons k_1076 hF rfl hl.1 rfl ⟨Nat.le_of_ble_eq_true rfl, Nat.le_of_ble_eq_true rfl⟩ (Nat.le_of_ble_eq_true rfl) d_M_moonStart_8 ⟨Nat.zero_le _, Nat.zero_le _⟩ Bm_true (fun _ _ _ => trivial) ?_
  refine ai_nmL hx hb (fun v11 e11 => ?_)
  refine lv_lstore (lv' := [(4, .long (iL v11)), (2, .long (iL v6)), (0, .long (iL y))]) hx hb d_M_moonStart_11 hl (by decide) rfl (fun ls hl => ?_)
  refine lv_lload_n hx hb d_M_moonStart_13 rfl (lv_at hl 2 rfl) ?_
  refine ai_lconst (x := 1) hx hb d_M_moonStart_14 (by decide +kernel) ?_
  refine ai_ladd hx hb d_M_moonStart_15 ?_
  refine ro_S (rest := []) (ct_M_moons l (y + 1) (by omega)) j_M_moons k_1076 hF rfl hl.1 rfl ⟨Nat.le_of_ble_eq_true rfl, Nat.le_of_ble_eq_true rfl⟩ (Nat.le_of_ble_eq_true rfl) d_M_moonStart_16 ⟨Nat.zero_le _, Nat.zero_le _⟩ Bm_true (fun _ _ _ => trivial) ?_
  refine ai_nmL hx hb (fun v19 e19 => ?_)
  refine lv_lstore (lv' := [(6, .long (iL v19)), (4, .long (iL v11)), (2, .long (iL v6)), (0, .long (iL y))]) hx hb d_M_moonStart_19 hl (by decide) rfl (fun ls hl => ?_)
  refine lv_lload hx hb d_M_moonStart_21 (lv_at hl 1 rfl) ?_
  refine ai_ldc2 (x := 1373427) hx hb hown (hts _ k_1085) (by decide +kernel) d_M_moonStart_23 ?_
  refine ai_lsub hx hb d_M_moonStart_26 ?_
  refine lv_lload hx hb d_M_moonStart_27 (lv_at hl 0 rfl) ?_
  refine lv_lload hx hb d_M_moonStart_29 (lv_at hl 1 rfl) ?_
  refine ai_lsub hx hb d_M_moonStart_31 ?_
  refine ai_ldc2 (x := 356) hx hb hown (hts _ k_1086) (by decide +kernel) d_M_moonStart_32 ?_
  refine ai_lcmp_ne hx hb d_M_moonStart_35 d_M_moonStart_36 rfl (by omega) (by omega) (fun h35 => ?_) (fun h35 => ?_)
  · skip
    refine lv_lload hx hb d_M_moonStart_45 (lv_at hl 1 rfl) ?_
    refine lv_lload_n hx hb d_M_moonStart_47 rfl (lv_at hl 2 rfl) ?_
    refine ai_lsub hx hb d_M_moonStart_48 ?_
    refine ai_ldc2 (x := 382) hx hb hown (hts _ k_1088) (by decide +kernel) d_M_moonStart_49 ?_
    refine ai_lcmp_ne hx hb d_M_moonStart_52 d_M_moonStart_53 rfl (by omega) (by omega) (fun h52 => ?_) (fun h52 => ?_)
    · skip
      refine ai_lconst (x := 0) hx hb d_M_moonStart_60 (by decide +kernel) ?_
      refine ai_ladd hx hb d_M_moonStart_61 ?_
      exact ro_lret hx hb hr hlk d_M_moonStart_62 (by unfold hst hla; rw [if_neg (by omega), if_neg (by omega)]; omega)
    · skip
      refine ai_lconst (x := 1) hx hb d_M_moonStart_56 (by decide +kernel) ?_
      refine lv_goto hx hb d_M_moonStart_57 rfl ?_
      refine ai_ladd hx hb d_M_moonStart_61 ?_
      exact ro_lret hx hb hr hlk d_M_moonStart_62 (by unfold hst hla; rw [if_neg (by omega), if_pos (by omega)]; omega)
  · skip
    refine ai_ldc2 (x := 2) hx hb hown (hts _ k_1087) (by decide +kernel) d_M_moonStart_39 ?_
    refine lv_goto hx hb d_M_moonStart_42 rfl ?_
    refine ai_ladd hx hb d_M_moonStart_61 ?_
    exact ro_lret hx hb hr hlk d_M_moonStart_62 (by unfold hst hla; rw [if_pos (by omega)]; omega)
set_option maxHeartbeats 4000000 in
set_option maxRecDepth 100000 in
theorem ct_HC_yearStart (l : Launch) (a : Nat) (y : Int) (ry : -999999999999 ≤ y ∧ y ≤ 999999999999) : RO l y_HC_yearStart w_HC_yearStart 2 50 [.ref a, .long (iL y)] (fun _ => True) (.long (iL (hst y))) := by
  refine ro_of (by decide +kernel) (Nat.le_of_ble_eq_true rfl) ?_
  intro p e s m below meth c ls hx hb hr hts hown hlk hml hl hN hB
  have hown : s.vm.findClass "DayBook$HebrewCalendar" = some m.cls := hown
  have hl : lv_has ls 7 [(0, .ref a), (1, .long (iL y))] := hl
  have hF : _ ∧ _ ∧ _ ∧ _ ∧ _ ∧ _ := ⟨hx, hb, hml, hown, hts, hN⟩
  have q0 := hel_rng (y := y - 1) (by omega)
  have q1 := hel_rng (y := y) (by omega)
  have q2 := hel_rng (y := y + 1) (by omega)
  refine lv_lload_n hx hb d_HC_yearStart_0 rfl (lv_at hl 1 rfl) ?_
  refine ro_S (rest := []) (ct_HC_elapsed l y (by omega)) j_HC_elapsed k_533 hF rfl hl.1 rfl ⟨Nat.le_of_ble_eq_true rfl, Nat.le_of_ble_eq_true rfl⟩ (Nat.le_of_ble_eq_true rfl) d_HC_yearStart_1 ⟨Nat.zero_le _, Nat.zero_le _⟩ Bm_true (fun _ _ _ => trivial) ?_
  refine ai_nmL hx hb (fun v4 e4 => ?_)
  refine lv_lstore_n (lv' := [(3, .long (iL v4)), (0, .ref a), (1, .long (iL y))]) hx hb d_HC_yearStart_4 rfl hl (by decide) rfl (fun ls hl => ?_)
  refine ai_lconst (x := 0) hx hb d_HC_yearStart_5 (by decide +kernel) ?_
  refine lv_lstore (lv' := [(5, .long (iL 0)), (3, .long (iL v4)), (0, .ref a), (1, .long (iL y))]) hx hb d_HC_yearStart_6 hl (by decide) rfl (fun ls hl => ?_)
  refine lv_lload_n hx hb d_HC_yearStart_8 rfl (lv_at hl 3 rfl) ?_
  refine ai_lconst (x := 1) hx hb d_HC_yearStart_9 (by decide +kernel) ?_
  refine ai_ladd hx hb d_HC_yearStart_10 ?_
  refine ro_S (rest := []) (ct_HC_elapsed l (y + 1) (by omega)) j_HC_elapsed k_533 hF rfl hl.1 rfl ⟨Nat.le_of_ble_eq_true rfl, Nat.le_of_ble_eq_true rfl⟩ (Nat.le_of_ble_eq_true rfl) d_HC_yearStart_11 ⟨Nat.zero_le _, Nat.zero_le _⟩ Bm_true (fun _ _ _ => trivial) ?_
  refine lv_lload_n hx hb d_HC_yearStart_14 rfl (lv_at hl 1 rfl) ?_
  refine ai_lsub hx hb d_HC_yearStart_15 ?_
  refine ai_ldc2 (x := 356) hx hb hown (hts _ k_551) (by decide +kernel) d_HC_yearStart_16 ?_
  refine ai_lcmp_ne hx hb d_HC_yearStart_19 d_HC_yearStart_20 rfl (by omega) (by omega) (fun h19 => ?_) (fun h19 => ?_)
  · skip
    refine lv_lload_n hx hb d_HC_yearStart_31 rfl (lv_at hl 1 rfl) ?_
    refine lv_lload_n hx hb d_HC_yearStart_32 rfl (lv_at hl 3 rfl) ?_
    refine ai_lconst (x := 1) hx hb d_HC_yearStart_33 (by decide +kernel) ?_
    refine ai_lsub hx hb d_HC_yearStart_34 ?_
    refine ro_S (rest := [.long (iL v4)]) (ct_HC_elapsed l (y - 1) (by omega)) j_HC_elapsed k_533 hF rfl hl.1 rfl ⟨Nat.le_of_ble_eq_true rfl, Nat.le_of_ble_eq_true rfl⟩ (Nat.le_of_ble_eq_true rfl) d_HC_yearStart_35 ⟨Nat.zero_le _, Nat.zero_le _⟩ Bm_true (fun _ _ _ => trivial) ?_
    refine ai_lsub hx hb d_HC_yearStart_38 ?_
    refine ai_ldc2 (x := 382) hx hb hown (hts _ k_553) (by decide +kernel) d_HC_yearStart_39 ?_
    refine ai_lcmp_ne hx hb d_HC_yearStart_42 d_HC_yearStart_43 rfl (by omega) (by omega) (fun h42 => ?_) (fun h42 => ?_)
    · skip
      refine ai_ldc2 (x := -1373427) hx hb hown (hts _ k_554) (by decide +kernel) d_HC_yearStart_49 ?_
      refine lv_lload_n hx hb d_HC_yearStart_52 rfl (lv_at hl 1 rfl) ?_
      refine ai_ladd hx hb d_HC_yearStart_53 ?_
      refine lv_lload hx hb d_HC_yearStart_54 (lv_at hl 0 rfl) ?_
      refine ai_ladd hx hb d_HC_yearStart_56 ?_
      exact ro_lret hx hb hr hlk d_HC_yearStart_57 (by unfold hst hla; rw [if_neg (by omega), if_neg (by omega)]; omega)
    · skip
      refine ai_lconst (x := 1) hx hb d_HC_yearStart_46 (by decide +kernel) ?_
      refine lv_lstore (lv' := [(5, .long (iL 1)), (3, .long (iL v4)), (0, .ref a), (1, .long (iL y))]) hx hb d_HC_yearStart_47 hl (by decide) rfl (fun ls hl => ?_)
      refine ai_ldc2 (x := -1373427) hx hb hown (hts _ k_554) (by decide +kernel) d_HC_yearStart_49 ?_
      refine lv_lload_n hx hb d_HC_yearStart_52 rfl (lv_at hl 1 rfl) ?_
      refine ai_ladd hx hb d_HC_yearStart_53 ?_
      refine lv_lload hx hb d_HC_yearStart_54 (lv_at hl 0 rfl) ?_
      refine ai_ladd hx hb d_HC_yearStart_56 ?_
      exact ro_lret hx hb hr hlk d_HC_yearStart_57 (by unfold hst hla; rw [if_neg (by omega), if_pos (by omega)]; omega)
  · skip
    refine ai_ldc2 (x := 2) hx hb hown (hts _ k_552) (by decide +kernel) d_HC_yearStart_23 ?_
    refine lv_lstore (lv' := [(5, .long (iL 2)), (3, .long (iL v4)), (0, .ref a), (1, .long (iL y))]) hx hb d_HC_yearStart_26 hl (by decide) rfl (fun ls hl => ?_)
    refine lv_goto hx hb d_HC_yearStart_28 rfl ?_
    refine ai_ldc2 (x := -1373427) hx hb hown (hts _ k_554) (by decide +kernel) d_HC_yearStart_49 ?_
    refine lv_lload_n hx hb d_HC_yearStart_52 rfl (lv_at hl 1 rfl) ?_
    refine ai_ladd hx hb d_HC_yearStart_53 ?_
    refine lv_lload hx hb d_HC_yearStart_54 (lv_at hl 0 rfl) ?_
    refine ai_ladd hx hb d_HC_yearStart_56 ?_
    exact ro_lret hx hb hr hlk d_HC_yearStart_57 (by unfold hst hla; rw [if_pos (by omega)]; omega)
set_option maxHeartbeats 4000000 in
set_option maxRecDepth 100000 in
theorem ct_HC_isLeap (l : Launch) (a : Nat) (y : Int) (ry : -999999999999 ≤ y ∧ y ≤ 999999999999) : RO l y_HC_isLeap w_HC_isLeap 1 25 [.ref a, .long (iL y)] (fun _ => True) (.int (iI (bI (yl9 y)))) := by
  refine ro_of (by decide +kernel) (Nat.le_of_ble_eq_true rfl) ?_
  intro p e s m below meth c ls hx hb hr hts hown hlk hml hl hN hB
  have hown : s.vm.findClass "DayBook$HebrewCalendar" = some m.cls := hown
  have hl : lv_has ls 3 [(0, .ref a), (1, .long (iL y))] := hl
  have hF : _ ∧ _ ∧ _ ∧ _ ∧ _ ∧ _ := ⟨hx, hb, hml, hown, hts, hN⟩
  refine ai_ldc2 (x := 7) hx hb hown (hts _ k_547) (by decide +kernel) d_HC_isLeap_0 ?_
  refine lv_lload_n hx hb d_HC_isLeap_3 rfl (lv_at hl 1 rfl) ?_
  refine ai_lmul hx hb d_HC_isLeap_4 ?_
  refine ai_lconst (x := 1) hx hb d_HC_isLeap_5 (by decide +kernel) ?_
  refine ai_ladd hx hb d_HC_isLeap_6 ?_
  refine ai_ldc2 (x := 19) hx hb hown (hts _ k_538) (by decide +kernel) d_HC_isLeap_7 ?_
  refine ro_S (rest := []) (ct_JM_floorMod_JJJ l ((7 * y) + 1) 19 (by omega) (by omega)) j_JM_floorMod_JJJ k_548 hF rfl hl.1 rfl ⟨Nat.le_of_ble_eq_true rfl, Nat.le_of_ble_eq_true rfl⟩ (Nat.le_of_ble_eq_true rfl) d_HC_isLeap_10 ⟨Nat.zero_le _, Nat.zero_le _⟩ Bm_true (fun _ _ _ => trivial) ?_
  refine ai_ldc2 (x := 7) hx hb hown (hts _ k_547) (by decide +kernel) d_HC_isLeap_13 ?_
  refine ai_lcmp_ge hx hb d_HC_isLeap_16 d_HC_isLeap_17 rfl (by omega) (by omega) (fun h16 => ?_) (fun h16 => ?_)
  · skip
    refine ai_iconst hx hb d_HC_isLeap_24 ?_
    exact ro_zret hx hb hr hlk d_HC_isLeap_25 (ro_0 (by unfold yl9; omega) rfl)
  · skip
    refine ai_iconst hx hb d_HC_isLeap_20 ?_
    refine lv_goto hx hb d_HC_isLeap_21 rfl ?_
    exact ro_zret hx hb hr hlk d_HC_isLeap_25 (ro_1 (by unfold yl9; omega) rfl)
set_option maxHeartbeats 4000000 in
set_option maxRecDepth 100000 in
theorem ct_HC_isLong (l : Launch) (n : Int) (rn : -2147483648 ≤ n ∧ n ≤ 2147483647) : RO l y_HC_isLong w_HC_isLong 0 0 [.int (iI n)] (fun _ => True) (.int (iI (bI (355 < n)))) := by
  refine ro_of (by decide +kernel) (Nat.le_of_ble_eq_true rfl) ?_
  intro p e s m below meth c ls hx hb hr hts hown hlk hml hl hN hB
  have hown : s.vm.findClass "DayBook$HebrewCalendar" = some m.cls := hown
  have hl : lv_has ls 1 [(0, .int (iI n))] := hl
  have hF : _ ∧ _ ∧ _ ∧ _ ∧ _ ∧ _ := ⟨hx, hb, hml, hown, hts, hN⟩
  refine lv_iload_n hx hb d_HC_isLong_0 rfl (lv_at hl 0 rfl) ?_
  refine ai_sipush (x := 355) hx hb d_HC_isLong_1 (by decide +kernel) ?_
  refine ai_icmp_le hx hb d_HC_isLong_4 rfl (by omega) (by omega) (fun h4 => ?_) (fun h4 => ?_)
  · skip
    refine ai_iconst hx hb d_HC_isLong_11 ?_
    exact ro_zret hx hb hr hlk d_HC_isLong_12 (ro_0 (by omega) rfl)
  · skip
    refine ai_iconst hx hb d_HC_isLong_7 ?_
    refine lv_goto hx hb d_HC_isLong_8 rfl ?_
    exact ro_zret hx hb hr hlk d_HC_isLong_12 (ro_1 (by omega) rfl)
end
section
/-! 16.help: laid by program (wip/whole) -/
set_option maxHeartbeats 4000000 in
set_option maxRecDepth 100000 in
theorem ct_B_isInRange (l : Launch) (d : Int) (rd : -9223372036854775808 ≤ d ∧ d ≤ 9223372036854775807) : RO l y_B_isInRange w_B_isInRange 0 0 [.long (iL d)] (fun _ => True) (.int (iI (bI (-40000000 ≤ d ∧ d ≤ 40000000)))) := by
  refine ro_of (by decide +kernel) (Nat.le_of_ble_eq_true rfl) ?_
  intro p e s m below meth c ls hx hb hr hts hown hlk hml hl hN hB
  have hown : s.vm.findClass "DayBook" = some m.cls := hown
  have hl : lv_has ls 2 [(0, .long (iL d))] := hl
  have hF : _ ∧ _ ∧ _ ∧ _ ∧ _ ∧ _ := ⟨hx, hb, hml, hown, hts, hN⟩
  refine lv_lload_n hx hb d_B_isInRange_0 rfl (lv_at hl 0 rfl) ?_
  refine ai_ldc2 (x := -40000000) hx hb hown (hts _ k_227) (by decide +kernel) d_B_isInRange_1 ?_
  refine ai_lcmp_lt hx hb d_B_isInRange_4 d_B_isInRange_5 rfl (by omega) (by omega) (fun h4 => ?_) (fun h4 => ?_)
  · skip
    refine ai_iconst hx hb d_B_isInRange_20 ?_
    exact ro_zret hx hb hr hlk d_B_isInRange_21 (ro_0 (by omega) rfl)
  · skip
    refine lv_lload_n hx hb d_B_isInRange_8 rfl (lv_at hl 0 rfl) ?_
    refine ai_ldc2 (x := 40000000) hx hb hown (hts _ k_228) (by decide +kernel) d_B_isInRange_9 ?_
    refine ai_lcmp_gt hx hb d_B_isInRange_12 d_B_isInRange_13 rfl (by omega) (by omega) (fun h12 => ?_) (fun h12 => ?_)
    · skip
      refine ai_iconst hx hb d_B_isInRange_20 ?_
      exact ro_zret hx hb hr hlk d_B_isInRange_21 (ro_0 (by omega) rfl)
    · skip
      refine ai_iconst hx hb d_B_isInRange_16 ?_
      refine lv_goto hx hb d_B_isInRange_17 rfl ?_
      exact ro_zret hx hb hr hlk d_B_isInRange_21 (ro_1 (by omega) rfl)
set_option maxHeartbeats 4000000 in
set_option maxRecDepth 100000 in
theorem ct_B_isWithin (l : Launch) (y : Int) (n : Int) (ry : -2147483648 ≤ y ∧ y ≤ 2147483647) (rn : 0 ≤ n ∧ n ≤ 2147483647) : RO l y_B_isWithin w_B_isWithin 0 0 [.int (iI y), .int (iI n)] (fun _ => True) (.int (iI (bI (-n ≤ y ∧ y ≤ n)))) := by
  refine ro_of (by decide +kernel) (Nat.le_of_ble_eq_true rfl) ?_
  intro p e s m below meth c ls hx hb hr hts hown hlk hml hl hN hB
  have hown : s.vm.findClass "DayBook" = some m.cls := hown
  have hl : lv_has ls 2 [(0, .int (iI y)), (1, .int (iI n))] := hl
  have hF : _ ∧ _ ∧ _ ∧ _ ∧ _ ∧ _ := ⟨hx, hb, hml, hown, hts, hN⟩
  refine lv_iload_n hx hb d_B_isWithin_0 rfl (lv_at hl 0 rfl) ?_
  refine lv_iload_n hx hb d_B_isWithin_1 rfl (lv_at hl 1 rfl) ?_
  refine ai_ineg hx hb d_B_isWithin_2 ?_
  refine ai_icmp_lt hx hb d_B_isWithin_3 rfl (by omega) (by omega) (fun h3 => ?_) (fun h3 => ?_)
  · skip
    refine ai_iconst hx hb d_B_isWithin_15 ?_
    exact ro_zret hx hb hr hlk d_B_isWithin_16 (ro_0 (by omega) rfl)
  · skip
    refine lv_iload_n hx hb d_B_isWithin_6 rfl (lv_at hl 0 rfl) ?_
    refine lv_iload_n hx hb d_B_isWithin_7 rfl (lv_at hl 1 rfl) ?_
    refine ai_icmp_gt hx hb d_B_isWithin_8 rfl (by omega) (by omega) (fun h8 => ?_) (fun h8 => ?_)
    · skip
      refine ai_iconst hx hb d_B_isWithin_15 ?_
      exact ro_zret hx hb hr hlk d_B_isWithin_16 (ro_0 (by omega) rfl)
    · skip
      refine ai_iconst hx hb d_B_isWithin_11 ?_
      refine lv_goto hx hb d_B_isWithin_12 rfl ?_
      exact ro_zret hx hb hr hlk d_B_isWithin_16 (ro_1 (by omega) rfl)
set_option maxHeartbeats 4000000 in
set_option maxRecDepth 100000 in
theorem ct_B_isDecimal (l : Launch) (k : Int) (rk : -2147483648 ≤ k ∧ k ≤ 2147483647) : RO l y_B_isDecimal w_B_isDecimal 0 0 [.int (iI k)] (fun _ => True) (.int (iI (bI (48 ≤ k ∧ k ≤ 57)))) := by
  refine ro_of (by decide +kernel) (Nat.le_of_ble_eq_true rfl) ?_
  intro p e s m below meth c ls hx hb hr hts hown hlk hml hl hN hB
  have hown : s.vm.findClass "DayBook" = some m.cls := hown
  have hl : lv_has ls 1 [(0, .int (iI k))] := hl
  have hF : _ ∧ _ ∧ _ ∧ _ ∧ _ ∧ _ := ⟨hx, hb, hml, hown, hts, hN⟩
  refine lv_iload_n hx hb d_B_isDecimal_0 rfl (lv_at hl 0 rfl) ?_
  refine ai_bipush (x := 48) hx hb d_B_isDecimal_1 (by decide +kernel) ?_
  refine ai_icmp_lt hx hb d_B_isDecimal_3 rfl (by omega) (by omega) (fun h3 => ?_) (fun h3 => ?_)
  · skip
    refine ai_iconst hx hb d_B_isDecimal_16 ?_
    exact ro_zret hx hb hr hlk d_B_isDecimal_17 (ro_0 (by omega) rfl)
  · skip
    refine lv_iload_n hx hb d_B_isDecimal_6 rfl (lv_at hl 0 rfl) ?_
    refine ai_bipush (x := 57) hx hb d_B_isDecimal_7 (by decide +kernel) ?_
    refine ai_icmp_gt hx hb d_B_isDecimal_9 rfl (by omega) (by omega) (fun h9 => ?_) (fun h9 => ?_)
    · skip
      refine ai_iconst hx hb d_B_isDecimal_16 ?_
      exact ro_zret hx hb hr hlk d_B_isDecimal_17 (ro_0 (by omega) rfl)
    · skip
      refine ai_iconst hx hb d_B_isDecimal_12 ?_
      refine lv_goto hx hb d_B_isDecimal_13 rfl ?_
      exact ro_zret hx hb hr hlk d_B_isDecimal_17 (ro_1 (by omega) rfl)
set_option maxHeartbeats 4000000 in
set_option maxRecDepth 100000 in
theorem ct_B_placeIn365 (l : Launch) (d : Int) (rd : -60000000 ≤ d ∧ d ≤ 60000000) : RO l y_B_placeIn365 w_B_placeIn365 1 22 [.int (iI d)] (fun _ => True) (.int (iI ((d + 1137490) % 365))) := by
  refine ro_of (by decide +kernel) (Nat.le_of_ble_eq_true rfl) ?_
  intro p e s m below meth c ls hx hb hr hts hown hlk hml hl hN hB
  have hown : s.vm.findClass "DayBook" = some m.cls := hown
  have hl : lv_has ls 1 [(0, .int (iI d))] := hl
  have hF : _ ∧ _ ∧ _ ∧ _ ∧ _ ∧ _ := ⟨hx, hb, hml, hown, hts, hN⟩
  refine lv_iload_n hx hb d_B_placeIn365_0 rfl (lv_at hl 0 rfl) ?_
  refine ai_ldc (x := 1137490) hx hb hown (hts _ k_232) (by decide +kernel) d_B_placeIn365_1 ?_
  refine ai_iadd hx hb d_B_placeIn365_3 ?_
  refine ai_sipush (x := 365) hx hb d_B_placeIn365_4 (by decide +kernel) ?_
  refine ro_S (rest := []) (ct_JM_floorMod_III l (d + 1137490) 365 (by omega) (by omega)) j_JM_floorMod_III k_233 hF rfl hl.1 rfl ⟨Nat.le_of_ble_eq_true rfl, Nat.le_of_ble_eq_true rfl⟩ (Nat.le_of_ble_eq_true rfl) d_B_placeIn365_7 ⟨Nat.zero_le _, Nat.zero_le _⟩ Bm_true (fun _ _ _ => trivial) ?_
  exact ro_iret hx hb hr hlk d_B_placeIn365_10 rfl
set_option maxHeartbeats 4000000 in
set_option maxRecDepth 100000 in
theorem ct_B_placeIn260 (l : Launch) (d : Int) (rd : -60000000 ≤ d ∧ d ≤ 60000000) : RO l y_B_placeIn260 w_B_placeIn260 1 22 [.int (iI d)] (fun _ => True) (.int (iI ((d + 1137302) % 260))) := by
  refine ro_of (by decide +kernel) (Nat.le_of_ble_eq_true rfl) ?_
  intro p e s m below meth c ls hx hb hr hts hown hlk hml hl hN hB
  have hown : s.vm.findClass "DayBook" = some m.cls := hown
  have hl : lv_has ls 1 [(0, .int (iI d))] := hl
  have hF : _ ∧ _ ∧ _ ∧ _ ∧ _ ∧ _ := ⟨hx, hb, hml, hown, hts, hN⟩
  refine lv_iload_n hx hb d_B_placeIn260_0 rfl (lv_at hl 0 rfl) ?_
  refine ai_ldc (x := 1137302) hx hb hown (hts _ k_239) (by decide +kernel) d_B_placeIn260_1 ?_
  refine ai_iadd hx hb d_B_placeIn260_3 ?_
  refine ai_sipush (x := 260) hx hb d_B_placeIn260_4 (by decide +kernel) ?_
  refine ro_S (rest := []) (ct_JM_floorMod_III l (d + 1137302) 260 (by omega) (by omega)) j_JM_floorMod_III k_233 hF rfl hl.1 rfl ⟨Nat.le_of_ble_eq_true rfl, Nat.le_of_ble_eq_true rfl⟩ (Nat.le_of_ble_eq_true rfl) d_B_placeIn260_7 ⟨Nat.zero_le _, Nat.zero_le _⟩ Bm_true (fun _ _ _ => trivial) ?_
  exact ro_iret hx hb hr hlk d_B_placeIn260_10 rfl
set_option maxHeartbeats 4000000 in
set_option maxRecDepth 100000 in
theorem ct_B_sundayBehind (l : Launch) (d : Int) (rd : -1000000000000000000 ≤ d ∧ d ≤ 1000000000000000000) : RO l y_B_sundayBehind w_B_sundayBehind 1 25 [.long (iL d)] (fun _ => True) (.long (iL (d + 7 - d % 7))) := by
  refine ro_of (by decide +kernel) (Nat.le_of_ble_eq_true rfl) ?_
  intro p e s m below meth c ls hx hb hr hts hown hlk hml hl hN hB
  have hown : s.vm.findClass "DayBook" = some m.cls := hown
  have hl : lv_has ls 2 [(0, .long (iL d))] := hl
  have hF : _ ∧ _ ∧ _ ∧ _ ∧ _ ∧ _ := ⟨hx, hb, hml, hown, hts, hN⟩
  refine lv_lload_n hx hb d_B_sundayBehind_0 rfl (lv_at hl 0 rfl) ?_
  refine ai_ldc2 (x := 7) hx hb hown (hts _ k_830) (by decide +kernel) d_B_sundayBehind_1 ?_
  refine ai_ladd hx hb d_B_sundayBehind_4 ?_
  refine lv_lload_n hx hb d_B_sundayBehind_5 rfl (lv_at hl 0 rfl) ?_
  refine ai_ldc2 (x := 7) hx hb hown (hts _ k_830) (by decide +kernel) d_B_sundayBehind_6 ?_
  refine ro_S (rest := [.long (iL (d + 7))]) (ct_JM_floorMod_JJJ l d 7 (by omega) (by omega)) j_JM_floorMod_JJJ k_831 hF rfl hl.1 rfl ⟨Nat.le_of_ble_eq_true rfl, Nat.le_of_ble_eq_true rfl⟩ (Nat.le_of_ble_eq_true rfl) d_B_sundayBehind_9 ⟨Nat.zero_le _, Nat.zero_le _⟩ Bm_true (fun _ _ _ => trivial) ?_
  refine ai_lsub hx hb d_B_sundayBehind_12 ?_
  exact ro_lret hx hb hr hlk d_B_sundayBehind_13 (by omega)
set_option maxHeartbeats 4000000 in
set_option maxRecDepth 100000 in
theorem ct_B_packed (l : Launch) (y : Int) (n : Int) (d : Int)  : RO l y_B_packed w_B_packed 0 0 [.long (iL y), .long (iL n), .long (iL d)] (fun _ => True) (.long (iL (y * 65536 + n * 256 + d))) := by
  refine ro_of (by decide +kernel) (Nat.le_of_ble_eq_true rfl) ?_
  intro p e s m below meth c ls hx hb hr hts hown hlk hml hl hN hB
  have hown : s.vm.findClass "DayBook" = some m.cls := hown
  have hl : lv_has ls 6 [(0, .long (iL y)), (2, .long (iL n)), (4, .long (iL d))] := hl
  have hF : _ ∧ _ ∧ _ ∧ _ ∧ _ ∧ _ := ⟨hx, hb, hml, hown, hts, hN⟩
  refine lv_lload_n hx hb d_B_packed_0 rfl (lv_at hl 0 rfl) ?_
  refine ai_ldc2 (x := 65536) hx hb hown (hts _ k_649) (by decide +kernel) d_B_packed_1 ?_
  refine ai_lmul hx hb d_B_packed_4 ?_
  refine lv_lload_n hx hb d_B_packed_5 rfl (lv_at hl 1 rfl) ?_
  refine ai_ldc2 (x := 256) hx hb hown (hts _ k_650) (by decide +kernel) d_B_packed_6 ?_
  refine ai_lmul hx hb d_B_packed_9 ?_
  refine ai_ladd hx hb d_B_packed_10 ?_
  refine lv_lload hx hb d_B_packed_11 (lv_at hl 2 rfl) ?_
  refine ai_ladd hx hb d_B_packed_13 ?_
  exact ro_lret hx hb hr hlk d_B_packed_14 (by omega)
set_option maxHeartbeats 4000000 in
set_option maxRecDepth 100000 in
theorem ct_B_yearIn (l : Launch) (k : Int) (rk : -9223372036854775808 ≤ k ∧ k ≤ 9223372036854775807) : RO l y_B_yearIn w_B_yearIn 0 0 [.long (iL k)] (fun _ => True) (.int (iI (k / 65536))) := by
  refine ro_of (by decide +kernel) (Nat.le_of_ble_eq_true rfl) ?_
  intro p e s m below meth c ls hx hb hr hts hown hlk hml hl hN hB
  have hown : s.vm.findClass "DayBook" = some m.cls := hown
  have hl : lv_has ls 2 [(0, .long (iL k))] := hl
  have hF : _ ∧ _ ∧ _ ∧ _ ∧ _ ∧ _ := ⟨hx, hb, hml, hown, hts, hN⟩
  refine lv_lload_n hx hb d_B_yearIn_0 rfl (lv_at hl 0 rfl) ?_
  refine ai_bipush (x := 16) hx hb d_B_yearIn_1 (by decide +kernel) ?_
  refine ai_lshr hx hb 65536 16 (by decide +kernel) (by decide) d_B_yearIn_3 (by omega) ?_
  refine ai_toL hx hb (b := k / 65536) rfl ?_
  refine ai_l2i hx hb d_B_yearIn_4 ?_
  exact ro_iret hx hb hr hlk d_B_yearIn_5 rfl
set_option maxHeartbeats 4000000 in
set_option maxRecDepth 100000 in
theorem ct_B_monthIn (l : Launch) (k : Int) (rk : -9223372036854775808 ≤ k ∧ k ≤ 9223372036854775807) : RO l y_B_monthIn w_B_monthIn 0 0 [.long (iL k)] (fun _ => True) (.int (iI (k / 256 % 256))) := by
  refine ro_of (by decide +kernel) (Nat.le_of_ble_eq_true rfl) ?_
  intro p e s m below meth c ls hx hb hr hts hown hlk hml hl hN hB
  have hown : s.vm.findClass "DayBook" = some m.cls := hown
  have hl : lv_has ls 2 [(0, .long (iL k))] := hl
  have hF : _ ∧ _ ∧ _ ∧ _ ∧ _ ∧ _ := ⟨hx, hb, hml, hown, hts, hN⟩
  refine lv_lload_n hx hb d_B_monthIn_0 rfl (lv_at hl 0 rfl) ?_
  refine ai_bipush (x := 8) hx hb d_B_monthIn_1 (by decide +kernel) ?_
  refine ai_lshr hx hb 256 8 (by decide +kernel) (by decide) d_B_monthIn_3 (by omega) ?_
  refine ai_toL hx hb (b := k / 256) rfl ?_
  refine ai_l2i hx hb d_B_monthIn_4 ?_
  refine ai_sipush (x := 255) hx hb d_B_monthIn_5 (by decide +kernel) ?_
  refine ai_iand (n := 256) hx hb 8 (by decide +kernel) (by decide) rfl d_B_monthIn_8 ?_
  exact ro_iret hx hb hr hlk d_B_monthIn_9 (by omega)
set_option maxHeartbeats 4000000 in
set_option maxRecDepth 100000 in
theorem ct_B_dayIn (l : Launch) (k : Int) (rk : -9223372036854775808 ≤ k ∧ k ≤ 9223372036854775807) : RO l y_B_dayIn w_B_dayIn 0 0 [.long (iL k)] (fun _ => True) (.int (iI (k % 256))) := by
  refine ro_of (by decide +kernel) (Nat.le_of_ble_eq_true rfl) ?_
  intro p e s m below meth c ls hx hb hr hts hown hlk hml hl hN hB
  have hown : s.vm.findClass "DayBook" = some m.cls := hown
  have hl : lv_has ls 2 [(0, .long (iL k))] := hl
  have hF : _ ∧ _ ∧ _ ∧ _ ∧ _ ∧ _ := ⟨hx, hb, hml, hown, hts, hN⟩
  refine lv_lload_n hx hb d_B_dayIn_0 rfl (lv_at hl 0 rfl) ?_
  refine ai_l2i hx hb d_B_dayIn_1 ?_
  refine ai_sipush (x := 255) hx hb d_B_dayIn_2 (by decide +kernel) ?_
  refine ai_iand (n := 256) hx hb 8 (by decide +kernel) (by decide) rfl d_B_dayIn_5 ?_
  exact ro_iret hx hb hr hlk d_B_dayIn_6 rfl
set_option maxHeartbeats 4000000 in
set_option maxRecDepth 100000 in
theorem ct_B_ceilDiv (l : Launch) (x : Int) (n : Int) (rx : -1000000000000000000 ≤ x ∧ x ≤ 1000000000000000000) (rn : 0 < n ∧ n ≤ 1000000000000) : RO l y_B_ceilDiv w_B_ceilDiv 1 25 [.long (iL x), .long (iL n)] (fun _ => True) (.long (iL (-(-x / n)))) := by
  refine ro_of (by decide +kernel) (Nat.le_of_ble_eq_true rfl) ?_
  intro p e s m below meth c ls hx hb hr hts hown hlk hml hl hN hB
  have hown : s.vm.findClass "DayBook" = some m.cls := hown
  have hl : lv_has ls 4 [(0, .long (iL x)), (2, .long (iL n))] := hl
  have hF : _ ∧ _ ∧ _ ∧ _ ∧ _ ∧ _ := ⟨hx, hb, hml, hown, hts, hN⟩
  refine lv_lload_n hx hb d_B_ceilDiv_0 rfl (lv_at hl 0 rfl) ?_
  refine ai_lneg hx hb d_B_ceilDiv_1 ?_
  refine lv_lload_n hx hb d_B_ceilDiv_2 rfl (lv_at hl 1 rfl) ?_
  refine ro_S (rest := []) (ct_JM_floorDiv_JJJ l (-x) n (by omega) (by omega)) j_JM_floorDiv_JJJ k_663 hF rfl hl.1 rfl ⟨Nat.le_of_ble_eq_true rfl, Nat.le_of_ble_eq_true rfl⟩ (Nat.le_of_ble_eq_true rfl) d_B_ceilDiv_3 ⟨Nat.zero_le _, Nat.zero_le _⟩ Bm_true (fun _ _ _ => trivial) ?_
  refine ai_lneg hx hb d_B_ceilDiv_6 ?_
  exact ro_lret hx hb hr hlk d_B_ceilDiv_7 (by omega)
end
section
/-! 17.rules: laid by program (wip/whole) -/
theorem mul_rng {a y : Int} (ha : 0 ≤ a ∧ a ≤ 1000) (hy : -1000000001 ≤ y ∧ y ≤ 1000000001) : -1000000001000 ≤ a * y ∧ a * y ≤ 1000000001000 := by
  have h1 := Int.mul_le_mul_of_nonneg_left hy.2 ha.1
  have h2 := Int.mul_le_mul_of_nonneg_left hy.1 ha.1
  omega
noncomputable def lbD (k : Int) (P : Prop) (y : Int) : Int := lb0 (y + k) - bI P * ((y + k - 1) / 4000)
def ylD (k : Int) (P : Prop) (y : Int) : Prop := yl0 (y + k) ∧ ¬ (P ∧ (y + k) % 4000 = 0)
set_option maxHeartbeats 4000000 in
set_option maxRecDepth 100000 in
theorem ct_SR_leapsBefore (l : Launch) (D : va_G) (q : Nat) (a : Int) (b : Int) (c0 : Int) (y : Int) (ha : 0 ≤ a ∧ a ≤ 1000) (hb0 : 0 ≤ b ∧ b ≤ 1000) (hc : 0 < c0 ∧ c0 ≤ 1000) (ry : -1000000000 ≤ y ∧ y ≤ 1000000000) : RO l y_SR_leapsBefore w_SR_leapsBefore 1 25 [.ref q, .long (iL y)] (OB D [(q, .inr (7, [.long (iL a), .long (iL b), .long (iL c0)]))]) (.long (iL (lbS a b c0 y))) := by
  refine ro_of (by decide +kernel) (Nat.le_of_ble_eq_true rfl) ?_
  intro p e s m below meth c ls hx hb hr hts hown hlk hml hl hN hB
  have hown : s.vm.findClass "DayBook$SpreadRule" = some m.cls := hown
  have hl : lv_has ls 3 [(0, .ref q), (1, .long (iL y))] := hl
  have hF : _ ∧ _ ∧ _ ∧ _ ∧ _ ∧ _ := ⟨hx, hb, hml, hown, hts, hN⟩
  have hK := hB.1
  have hP := hB.2
  have n1 := mul_rng (a := a) (y := y) ha (by omega)
  have n2 := mul_rng (a := a) (y := y - 1) ha (by omega)
  refine lv_aload_n hx hb d_SR_leapsBefore_0 rfl (lv_at hl 0 rfl) ?_
  refine va_get (D := D) (cl := CL) (ci := 7) (v := .long (iL a)) (C := "DayBook$SpreadRule") (T := T_SR) (N := 3) hx hb hts in_SR hown hK hP 0 rfl rfl 0 (by decide) (hts _ k_102) (fun _ h9 => h9) rfl d_SR_leapsBefore_1 ?_
  refine lv_lload_n hx hb d_SR_leapsBefore_4 rfl (lv_at hl 1 rfl) ?_
  refine ai_lconst (x := 1) hx hb d_SR_leapsBefore_5 (by decide +kernel) ?_
  refine ai_lsub hx hb d_SR_leapsBefore_6 ?_
  refine ai_lmul hx hb d_SR_leapsBefore_7 ?_
  refine lv_aload_n hx hb d_SR_leapsBefore_8 rfl (lv_at hl 0 rfl) ?_
  refine va_get (D := D) (cl := CL) (ci := 7) (v := .long (iL b)) (C := "DayBook$SpreadRule") (T := T_SR) (N := 3) hx hb hts in_SR hown hK hP 0 rfl rfl 1 (by decide) (hts _ k_103) (fun _ h9 => h9) rfl d_SR_leapsBefore_9 ?_
  refine ai_ladd hx hb d_SR_leapsBefore_12 ?_
  refine lv_aload_n hx hb d_SR_leapsBefore_13 rfl (lv_at hl 0 rfl) ?_
  refine va_get (D := D) (cl := CL) (ci := 7) (v := .long (iL c0)) (C := "DayBook$SpreadRule") (T := T_SR) (N := 3) hx hb hts in_SR hown hK hP 0 rfl rfl 2 (by decide) (hts _ k_104) (fun _ h9 => h9) rfl d_SR_leapsBefore_14 ?_
  refine ro_S (rest := []) (ct_JM_floorDiv_JJJ l ((a * (y - 1)) + b) c0 (by omega) (by omega)) j_JM_floorDiv_JJJ k_583 hF rfl hl.1 rfl ⟨Nat.le_of_ble_eq_true rfl, Nat.le_of_ble_eq_true rfl⟩ (Nat.le_of_ble_eq_true rfl) d_SR_leapsBefore_17 ⟨Nat.zero_le _, Nat.zero_le _⟩ Bm_true (fun _ _ _ => trivial) ?_
  exact ro_lret hx hb hr hlk d_SR_leapsBefore_20 rfl
set_option maxHeartbeats 4000000 in
set_option maxRecDepth 100000 in
theorem ct_SR_isLeapCount (l : Launch) (D : va_G) (q : Nat) (a : Int) (b : Int) (c0 : Int) (y : Int) (ha : 0 ≤ a ∧ a ≤ 1000) (hb0 : 0 ≤ b ∧ b ≤ 1000) (hc : 0 < c0 ∧ c0 ≤ 1000) (ry : -1000000000 ≤ y ∧ y ≤ 1000000000) : RO l y_SR_isLeapCount w_SR_isLeapCount 1 25 [.ref q, .long (iL y)] (OB D [(q, .inr (7, [.long (iL a), .long (iL b), .long (iL c0)]))]) (.int (iI (bI (ylS a b c0 y)))) := by
  refine ro_of (by decide +kernel) (Nat.le_of_ble_eq_true rfl) ?_
  intro p e s m below meth c ls hx hb hr hts hown hlk hml hl hN hB
  have hown : s.vm.findClass "DayBook$SpreadRule" = some m.cls := hown
  have hl : lv_has ls 3 [(0, .ref q), (1, .long (iL y))] := hl
  have hF : _ ∧ _ ∧ _ ∧ _ ∧ _ ∧ _ := ⟨hx, hb, hml, hown, hts, hN⟩
  have hK := hB.1
  have hP := hB.2
  have n1 := mul_rng (a := a) (y := y) ha (by omega)
  have n2 := mul_rng (a := a) (y := y - 1) ha (by omega)
  have n3 := md_rng (x := a * y + b) hc.1
  refine lv_aload_n hx hb d_SR_isLeapCount_0 rfl (lv_at hl 0 rfl) ?_
  refine va_get (D := D) (cl := CL) (ci := 7) (v := .long (iL a)) (C := "DayBook$SpreadRule") (T := T_SR) (N := 3) hx hb hts in_SR hown hK hP 0 rfl rfl 0 (by decide) (hts _ k_102) (fun _ h9 => h9) rfl d_SR_isLeapCount_1 ?_
  refine lv_lload_n hx hb d_SR_isLeapCount_4 rfl (lv_at hl 1 rfl) ?_
  refine ai_lmul hx hb d_SR_isLeapCount_5 ?_
  refine lv_aload_n hx hb d_SR_isLeapCount_6 rfl (lv_at hl 0 rfl) ?_
  refine va_get (D := D) (cl := CL) (ci := 7) (v := .long (iL b)) (C := "DayBook$SpreadRule") (T := T_SR) (N := 3) hx hb hts in_SR hown hK hP 0 rfl rfl 1 (by decide) (hts _ k_103) (fun _ h9 => h9) rfl d_SR_isLeapCount_7 ?_
  refine ai_ladd hx hb d_SR_isLeapCount_10 ?_
  refine lv_aload_n hx hb d_SR_isLeapCount_11 rfl (lv_at hl 0 rfl) ?_
  refine va_get (D := D) (cl := CL) (ci := 7) (v := .long (iL c0)) (C := "DayBook$SpreadRule") (T := T_SR) (N := 3) hx hb hts in_SR hown hK hP 0 rfl rfl 2 (by decide) (hts _ k_104) (fun _ h9 => h9) rfl d_SR_isLeapCount_12 ?_
  refine ro_S (rest := []) (ct_JM_floorMod_JJJ l ((a * y) + b) c0 (by omega) (by omega)) j_JM_floorMod_JJJ k_793 hF rfl hl.1 rfl ⟨Nat.le_of_ble_eq_true rfl, Nat.le_of_ble_eq_true rfl⟩ (Nat.le_of_ble_eq_true rfl) d_SR_isLeapCount_15 ⟨Nat.zero_le _, Nat.zero_le _⟩ Bm_true (fun _ _ _ => trivial) ?_
  refine lv_aload_n hx hb d_SR_isLeapCount_18 rfl (lv_at hl 0 rfl) ?_
  refine va_get (D := D) (cl := CL) (ci := 7) (v := .long (iL a)) (C := "DayBook$SpreadRule") (T := T_SR) (N := 3) hx hb hts in_SR hown hK hP 0 rfl rfl 0 (by decide) (hts _ k_102) (fun _ h9 => h9) rfl d_SR_isLeapCount_19 ?_
  refine ai_lcmp_ge hx hb d_SR_isLeapCount_22 d_SR_isLeapCount_23 rfl (by omega) (by omega) (fun h22 => ?_) (fun h22 => ?_)
  · skip
    refine ai_iconst hx hb d_SR_isLeapCount_30 ?_
    exact ro_zret hx hb hr hlk d_SR_isLeapCount_31 (ro_0 (by unfold ylS; omega) rfl)
  · skip
    refine ai_iconst hx hb d_SR_isLeapCount_26 ?_
    refine lv_goto hx hb d_SR_isLeapCount_27 rfl ?_
    exact ro_zret hx hb hr hlk d_SR_isLeapCount_31 (ro_1 (by unfold ylS; omega) rfl)
set_option maxHeartbeats 4000000 in
set_option maxRecDepth 100000 in
theorem ct_CR_leapsBefore (l : Launch) (D : va_G) (q : Nat) (k : Int) (P : Prop) (y : Int) (hk : 0 ≤ k ∧ k ≤ 10000) (ry : -1000000000 ≤ y ∧ y ≤ 1000000000) : RO l y_CR_leapsBefore w_CR_leapsBefore 1 25 [.ref q, .long (iL y)] (OB D [(q, .inr (1, [.long (iL k), .int (iI (bI P))]))]) (.long (iL (lbD k P y))) := by
  refine ro_of (by decide +kernel) (Nat.le_of_ble_eq_true rfl) ?_
  intro p e s m below meth c ls hx hb hr hts hown hlk hml hl hN hB
  have hown : s.vm.findClass "DayBook$CenturyRule" = some m.cls := hown
  have hl : lv_has ls 7 [(0, .ref q), (1, .long (iL y))] := hl
  have hF : _ ∧ _ ∧ _ ∧ _ ∧ _ ∧ _ := ⟨hx, hb, hml, hown, hts, hN⟩
  have hK := hB.1
  have hP := hB.2
  refine lv_lload_n hx hb d_CR_leapsBefore_0 rfl (lv_at hl 1 rfl) ?_
  refine lv_aload_n hx hb d_CR_leapsBefore_1 rfl (lv_at hl 0 rfl) ?_
  refine va_get (D := D) (cl := CL) (ci := 1) (v := .long (iL k)) (C := "DayBook$CenturyRule") (T := T_CR) (N := 2) hx hb hts in_CR hown hK hP 0 rfl rfl 0 (by decide) (hts _ k_55) (fun _ h9 => h9) rfl d_CR_leapsBefore_2 ?_
  refine ai_ladd hx hb d_CR_leapsBefore_5 ?_
  refine ai_lconst (x := 1) hx hb d_CR_leapsBefore_6 (by decide +kernel) ?_
  refine ai_lsub hx hb d_CR_leapsBefore_7 ?_
  refine ai_nmL hx hb (fun v8 e8 => ?_)
  refine lv_lstore_n (lv' := [(3, .long (iL v8)), (0, .ref q), (1, .long (iL y))]) hx hb d_CR_leapsBefore_8 rfl hl (by decide) rfl (fun ls hl => ?_)
  refine lv_lload_n hx hb d_CR_leapsBefore_9 rfl (lv_at hl 0 rfl) ?_
  refine ai_ldc2 (x := 4) hx hb hown (hts _ k_564) (by decide +kernel) d_CR_leapsBefore_10 ?_
  refine ro_S (rest := []) (ct_JM_floorDiv_JJJ l v8 4 (by omega) (by omega)) j_JM_floorDiv_JJJ k_565 hF rfl hl.1 rfl ⟨Nat.le_of_ble_eq_true rfl, Nat.le_of_ble_eq_true rfl⟩ (Nat.le_of_ble_eq_true rfl) d_CR_leapsBefore_13 ⟨Nat.zero_le _, Nat.zero_le _⟩ Bm_true (fun _ _ _ => trivial) ?_
  refine lv_lload_n hx hb d_CR_leapsBefore_16 rfl (lv_at hl 0 rfl) ?_
  refine ai_ldc2 (x := 100) hx hb hown (hts _ k_566) (by decide +kernel) d_CR_leapsBefore_17 ?_
  refine ro_S (rest := [.long (iL (v8 / 4))]) (ct_JM_floorDiv_JJJ l v8 100 (by omega) (by omega)) j_JM_floorDiv_JJJ k_565 hF rfl hl.1 rfl ⟨Nat.le_of_ble_eq_true rfl, Nat.le_of_ble_eq_true rfl⟩ (Nat.le_of_ble_eq_true rfl) d_CR_leapsBefore_20 ⟨Nat.zero_le _, Nat.zero_le _⟩ Bm_true (fun _ _ _ => trivial) ?_
  refine ai_lsub hx hb d_CR_leapsBefore_23 ?_
  refine lv_lload_n hx hb d_CR_leapsBefore_24 rfl (lv_at hl 0 rfl) ?_
  refine ai_ldc2 (x := 400) hx hb hown (hts _ k_567) (by decide +kernel) d_CR_leapsBefore_25 ?_
  refine ro_S (rest := [.long (iL ((v8 / 4) - (v8 / 100)))]) (ct_JM_floorDiv_JJJ l v8 400 (by omega) (by omega)) j_JM_floorDiv_JJJ k_565 hF rfl hl.1 rfl ⟨Nat.le_of_ble_eq_true rfl, Nat.le_of_ble_eq_true rfl⟩ (Nat.le_of_ble_eq_true rfl) d_CR_leapsBefore_28 ⟨Nat.zero_le _, Nat.zero_le _⟩ Bm_true (fun _ _ _ => trivial) ?_
  refine ai_ladd hx hb d_CR_leapsBefore_31 ?_
  refine ai_nmL hx hb (fun v32 e32 => ?_)
  refine lv_lstore (lv' := [(5, .long (iL v32)), (3, .long (iL v8)), (0, .ref q), (1, .long (iL y))]) hx hb d_CR_leapsBefore_32 hl (by decide) rfl (fun ls hl => ?_)
  refine lv_aload_n hx hb d_CR_leapsBefore_34 rfl (lv_at hl 2 rfl) ?_
  refine va_get (D := D) (cl := CL) (ci := 1) (v := .int (iI (bI P))) (C := "DayBook$CenturyRule") (T := T_CR) (N := 2) hx hb hts in_CR hown hK hP 0 rfl rfl 1 (by decide) (hts _ k_56) (fun _ h9 => h9) rfl d_CR_leapsBefore_35 ?_
  refine ai_ifeqB hx hb d_CR_leapsBefore_38 rfl (fun h38 => ?_) (fun h38 => ?_)
  · skip
    refine lv_lload hx hb d_CR_leapsBefore_54 (lv_at hl 0 rfl) ?_
    exact ro_lret hx hb hr hlk d_CR_leapsBefore_56 (by unfold lbD lb0; rw [bI_f h38, e32, e8]; omega)
  · skip
    refine lv_lload hx hb d_CR_leapsBefore_41 (lv_at hl 0 rfl) ?_
    refine lv_lload_n hx hb d_CR_leapsBefore_43 rfl (lv_at hl 1 rfl) ?_
    refine ai_ldc2 (x := 4000) hx hb hown (hts _ k_568) (by decide +kernel) d_CR_leapsBefore_44 ?_
    refine ro_S (rest := [.long (iL v32)]) (ct_JM_floorDiv_JJJ l v8 4000 (by omega) (by omega)) j_JM_floorDiv_JJJ k_565 hF rfl hl.1 rfl ⟨Nat.le_of_ble_eq_true rfl, Nat.le_of_ble_eq_true rfl⟩ (Nat.le_of_ble_eq_true rfl) d_CR_leapsBefore_47 ⟨Nat.zero_le _, Nat.zero_le _⟩ Bm_true (fun _ _ _ => trivial) ?_
    refine ai_lsub hx hb d_CR_leapsBefore_50 ?_
    refine lv_goto hx hb d_CR_leapsBefore_51 rfl ?_
    exact ro_lret hx hb hr hlk d_CR_leapsBefore_56 (by unfold lbD lb0; rw [bI_t h38, e32, e8]; omega)
set_option maxHeartbeats 4000000 in
set_option maxRecDepth 100000 in
theorem ct_CR_isLeapCount (l : Launch) (D : va_G) (q : Nat) (k : Int) (P : Prop) (y : Int) (hk : 0 ≤ k ∧ k ≤ 10000) (ry : -1000000000 ≤ y ∧ y ≤ 1000000000) : RO l y_CR_isLeapCount w_CR_isLeapCount 1 25 [.ref q, .long (iL y)] (OB D [(q, .inr (1, [.long (iL k), .int (iI (bI P))]))]) (.int (iI (bI (ylD k P y)))) := by
  refine ro_of (by decide +kernel) (Nat.le_of_ble_eq_true rfl) ?_
  intro p e s m below meth c ls hx hb hr hts hown hlk hml hl hN hB
  have hown : s.vm.findClass "DayBook$CenturyRule" = some m.cls := hown
  have hl : lv_has ls 5 [(0, .ref q), (1, .long (iL y))] := hl
  have hF : _ ∧ _ ∧ _ ∧ _ ∧ _ ∧ _ := ⟨hx, hb, hml, hown, hts, hN⟩
  have hK := hB.1
  have hP := hB.2
  refine lv_lload_n hx hb d_CR_isLeapCount_0 rfl (lv_at hl 1 rfl) ?_
  refine lv_aload_n hx hb d_CR_isLeapCount_1 rfl (lv_at hl 0 rfl) ?_
  refine va_get (D := D) (cl := CL) (ci := 1) (v := .long (iL k)) (C := "DayBook$CenturyRule") (T := T_CR) (N := 2) hx hb hts in_CR hown hK hP 0 rfl rfl 0 (by decide) (hts _ k_55) (fun _ h9 => h9) rfl d_CR_isLeapCount_2 ?_
  refine ai_ladd hx hb d_CR_isLeapCount_5 ?_
  refine ai_nmL hx hb (fun v6 e6 => ?_)
  refine lv_lstore_n (lv' := [(3, .long (iL v6)), (0, .ref q), (1, .long (iL y))]) hx hb d_CR_isLeapCount_6 rfl hl (by decide) rfl (fun ls hl => ?_)
  refine lv_aload_n hx hb d_CR_isLeapCount_7 rfl (lv_at hl 1 rfl) ?_
  refine va_get (D := D) (cl := CL) (ci := 1) (v := .int (iI (bI P))) (C := "DayBook$CenturyRule") (T := T_CR) (N := 2) hx hb hts in_CR hown hK hP 0 rfl rfl 1 (by decide) (hts _ k_56) (fun _ h9 => h9) rfl d_CR_isLeapCount_8 ?_
  refine ai_ifeqB hx hb d_CR_isLeapCount_11 rfl (fun h11 => ?_) (fun h11 => ?_)
  · skip
    refine lv_lload_n hx hb d_CR_isLeapCount_28 rfl (lv_at hl 0 rfl) ?_
    refine ai_ldc2 (x := 4) hx hb hown (hts _ k_564) (by decide +kernel) d_CR_isLeapCount_29 ?_
    refine ro_S (rest := []) (ct_JM_floorMod_JJJ l v6 4 (by omega) (by omega)) j_JM_floorMod_JJJ k_785 hF rfl hl.1 rfl ⟨Nat.le_of_ble_eq_true rfl, Nat.le_of_ble_eq_true rfl⟩ (Nat.le_of_ble_eq_true rfl) d_CR_isLeapCount_32 ⟨Nat.zero_le _, Nat.zero_le _⟩ Bm_true (fun _ _ _ => trivial) ?_
    refine ai_lconst (x := 0) hx hb d_CR_isLeapCount_35 (by decide +kernel) ?_
    refine ai_lcmp_ne hx hb d_CR_isLeapCount_36 d_CR_isLeapCount_37 rfl (by omega) (by omega) (fun h36 => ?_) (fun h36 => ?_)
    · skip
      refine ai_iconst hx hb d_CR_isLeapCount_68 ?_
      exact ro_zret hx hb hr hlk d_CR_isLeapCount_69 (ro_0 (fun q => by have q1 := q.1; unfold yl0 at q1; omega) rfl)
    · skip
      refine lv_lload_n hx hb d_CR_isLeapCount_40 rfl (lv_at hl 0 rfl) ?_
      refine ai_ldc2 (x := 100) hx hb hown (hts _ k_566) (by decide +kernel) d_CR_isLeapCount_41 ?_
      refine ro_S (rest := []) (ct_JM_floorMod_JJJ l v6 100 (by omega) (by omega)) j_JM_floorMod_JJJ k_785 hF rfl hl.1 rfl ⟨Nat.le_of_ble_eq_true rfl, Nat.le_of_ble_eq_true rfl⟩ (Nat.le_of_ble_eq_true rfl) d_CR_isLeapCount_44 ⟨Nat.zero_le _, Nat.zero_le _⟩ Bm_true (fun _ _ _ => trivial) ?_
      refine ai_lconst (x := 0) hx hb d_CR_isLeapCount_47 (by decide +kernel) ?_
      refine ai_lcmp_ne hx hb d_CR_isLeapCount_48 d_CR_isLeapCount_49 rfl (by omega) (by omega) (fun h48 => ?_) (fun h48 => ?_)
      · skip
        refine ai_iconst hx hb d_CR_isLeapCount_64 ?_
        refine lv_goto hx hb d_CR_isLeapCount_65 rfl ?_
        exact ro_zret hx hb hr hlk d_CR_isLeapCount_69 (ro_1 ⟨by unfold yl0; omega, fun ⟨q1, q2⟩ => by first | exact h11 q1 | omega⟩ rfl)
      · skip
        refine lv_lload_n hx hb d_CR_isLeapCount_52 rfl (lv_at hl 0 rfl) ?_
        refine ai_ldc2 (x := 400) hx hb hown (hts _ k_567) (by decide +kernel) d_CR_isLeapCount_53 ?_
        refine ro_S (rest := []) (ct_JM_floorMod_JJJ l v6 400 (by omega) (by omega)) j_JM_floorMod_JJJ k_785 hF rfl hl.1 rfl ⟨Nat.le_of_ble_eq_true rfl, Nat.le_of_ble_eq_true rfl⟩ (Nat.le_of_ble_eq_true rfl) d_CR_isLeapCount_56 ⟨Nat.zero_le _, Nat.zero_le _⟩ Bm_true (fun _ _ _ => trivial) ?_
        refine ai_lconst (x := 0) hx hb d_CR_isLeapCount_59 (by decide +kernel) ?_
        refine ai_lcmp_ne hx hb d_CR_isLeapCount_60 d_CR_isLeapCount_61 rfl (by omega) (by omega) (fun h60 => ?_) (fun h60 => ?_)
        · skip
          refine ai_iconst hx hb d_CR_isLeapCount_68 ?_
          exact ro_zret hx hb hr hlk d_CR_isLeapCount_69 (ro_0 (fun q => by have q1 := q.1; unfold yl0 at q1; omega) rfl)
        · skip
          refine ai_iconst hx hb d_CR_isLeapCount_64 ?_
          refine lv_goto hx hb d_CR_isLeapCount_65 rfl ?_
          exact ro_zret hx hb hr hlk d_CR_isLeapCount_69 (ro_1 ⟨by unfold yl0; omega, fun ⟨q1, q2⟩ => by first | exact h11 q1 | omega⟩ rfl)
  · skip
    refine lv_lload_n hx hb d_CR_isLeapCount_14 rfl (lv_at hl 0 rfl) ?_
    refine ai_ldc2 (x := 4000) hx hb hown (hts _ k_568) (by decide +kernel) d_CR_isLeapCount_15 ?_
    refine ro_S (rest := []) (ct_JM_floorMod_JJJ l v6 4000 (by omega) (by omega)) j_JM_floorMod_JJJ k_785 hF rfl hl.1 rfl ⟨Nat.le_of_ble_eq_true rfl, Nat.le_of_ble_eq_true rfl⟩ (Nat.le_of_ble_eq_true rfl) d_CR_isLeapCount_18 ⟨Nat.zero_le _, Nat.zero_le _⟩ Bm_true (fun _ _ _ => trivial) ?_
    refine ai_lconst (x := 0) hx hb d_CR_isLeapCount_21 (by decide +kernel) ?_
    refine ai_lcmp_ne hx hb d_CR_isLeapCount_22 d_CR_isLeapCount_23 rfl (by omega) (by omega) (fun h22 => ?_) (fun h22 => ?_)
    · skip
      refine lv_lload_n hx hb d_CR_isLeapCount_28 rfl (lv_at hl 0 rfl) ?_
      refine ai_ldc2 (x := 4) hx hb hown (hts _ k_564) (by decide +kernel) d_CR_isLeapCount_29 ?_
      refine ro_S (rest := []) (ct_JM_floorMod_JJJ l v6 4 (by omega) (by omega)) j_JM_floorMod_JJJ k_785 hF rfl hl.1 rfl ⟨Nat.le_of_ble_eq_true rfl, Nat.le_of_ble_eq_true rfl⟩ (Nat.le_of_ble_eq_true rfl) d_CR_isLeapCount_32 ⟨Nat.zero_le _, Nat.zero_le _⟩ Bm_true (fun _ _ _ => trivial) ?_
      refine ai_lconst (x := 0) hx hb d_CR_isLeapCount_35 (by decide +kernel) ?_
      refine ai_lcmp_ne hx hb d_CR_isLeapCount_36 d_CR_isLeapCount_37 rfl (by omega) (by omega) (fun h36 => ?_) (fun h36 => ?_)
      · skip
        refine ai_iconst hx hb d_CR_isLeapCount_68 ?_
        exact ro_zret hx hb hr hlk d_CR_isLeapCount_69 (ro_0 (fun q => by have q1 := q.1; unfold yl0 at q1; omega) rfl)
      · skip
        refine lv_lload_n hx hb d_CR_isLeapCount_40 rfl (lv_at hl 0 rfl) ?_
        refine ai_ldc2 (x := 100) hx hb hown (hts _ k_566) (by decide +kernel) d_CR_isLeapCount_41 ?_
        refine ro_S (rest := []) (ct_JM_floorMod_JJJ l v6 100 (by omega) (by omega)) j_JM_floorMod_JJJ k_785 hF rfl hl.1 rfl ⟨Nat.le_of_ble_eq_true rfl, Nat.le_of_ble_eq_true rfl⟩ (Nat.le_of_ble_eq_true rfl) d_CR_isLeapCount_44 ⟨Nat.zero_le _, Nat.zero_le _⟩ Bm_true (fun _ _ _ => trivial) ?_
        refine ai_lconst (x := 0) hx hb d_CR_isLeapCount_47 (by decide +kernel) ?_
        refine ai_lcmp_ne hx hb d_CR_isLeapCount_48 d_CR_isLeapCount_49 rfl (by omega) (by omega) (fun h48 => ?_) (fun h48 => ?_)
        · skip
          refine ai_iconst hx hb d_CR_isLeapCount_64 ?_
          refine lv_goto hx hb d_CR_isLeapCount_65 rfl ?_
          exact ro_zret hx hb hr hlk d_CR_isLeapCount_69 (ro_1 ⟨by unfold yl0; omega, fun ⟨q1, q2⟩ => by first | exact h11 q1 | omega⟩ rfl)
        · skip
          refine lv_lload_n hx hb d_CR_isLeapCount_52 rfl (lv_at hl 0 rfl) ?_
          refine ai_ldc2 (x := 400) hx hb hown (hts _ k_567) (by decide +kernel) d_CR_isLeapCount_53 ?_
          refine ro_S (rest := []) (ct_JM_floorMod_JJJ l v6 400 (by omega) (by omega)) j_JM_floorMod_JJJ k_785 hF rfl hl.1 rfl ⟨Nat.le_of_ble_eq_true rfl, Nat.le_of_ble_eq_true rfl⟩ (Nat.le_of_ble_eq_true rfl) d_CR_isLeapCount_56 ⟨Nat.zero_le _, Nat.zero_le _⟩ Bm_true (fun _ _ _ => trivial) ?_
          refine ai_lconst (x := 0) hx hb d_CR_isLeapCount_59 (by decide +kernel) ?_
          refine ai_lcmp_ne hx hb d_CR_isLeapCount_60 d_CR_isLeapCount_61 rfl (by omega) (by omega) (fun h60 => ?_) (fun h60 => ?_)
          · skip
            refine ai_iconst hx hb d_CR_isLeapCount_68 ?_
            exact ro_zret hx hb hr hlk d_CR_isLeapCount_69 (ro_0 (fun q => by have q1 := q.1; unfold yl0 at q1; omega) rfl)
          · skip
            refine ai_iconst hx hb d_CR_isLeapCount_64 ?_
            refine lv_goto hx hb d_CR_isLeapCount_65 rfl ?_
            exact ro_zret hx hb hr hlk d_CR_isLeapCount_69 (ro_1 ⟨by unfold yl0; omega, fun ⟨q1, q2⟩ => by first | exact h11 q1 | omega⟩ rfl)
    · skip
      refine ai_iconst hx hb d_CR_isLeapCount_26 ?_
      exact ro_zret hx hb hr hlk d_CR_isLeapCount_27 (ro_0 (fun q => q.2 ⟨h11, by omega⟩) rfl)
set_option maxHeartbeats 4000000 in
set_option maxRecDepth 100000 in
theorem ct_YR_leapsBefore (l : Launch) (D : va_G) (q : Nat) (y : Int) (ry : -1000000000 ≤ y ∧ y ≤ 1000000000) : RO l y_YR_leapsBefore w_YR_leapsBefore 1 25 [.ref q, .long (iL y)] (OB D [(q, .inr (2, []))]) (.long (iL (lb6 y))) := by
  refine ro_of (by decide +kernel) (Nat.le_of_ble_eq_true rfl) ?_
  intro p e s m below meth c ls hx hb hr hts hown hlk hml hl hN hB
  have hown : s.vm.findClass "DayBook$CycleRule" = some m.cls := hown
  have hl : lv_has ls 5 [(0, .ref q), (1, .long (iL y))] := hl
  have hF : _ ∧ _ ∧ _ ∧ _ ∧ _ ∧ _ := ⟨hx, hb, hml, hown, hts, hN⟩
  have hK := hB.1
  have hP := hB.2
  refine lv_lload_n hx hb d_YR_leapsBefore_0 rfl (lv_at hl 1 rfl) ?_
  refine ai_ldc2 (x := 474) hx hb hown (hts _ k_572) (by decide +kernel) d_YR_leapsBefore_1 ?_
  refine ai_lsub hx hb d_YR_leapsBefore_4 ?_
  refine ai_nmL hx hb (fun v5 e5 => ?_)
  refine lv_lstore_n (lv' := [(3, .long (iL v5)), (0, .ref q), (1, .long (iL y))]) hx hb d_YR_leapsBefore_5 rfl hl (by decide) rfl (fun ls hl => ?_)
  refine ai_ldc2 (x := 683) hx hb hown (hts _ k_573) (by decide +kernel) d_YR_leapsBefore_6 ?_
  refine lv_lload_n hx hb d_YR_leapsBefore_9 rfl (lv_at hl 0 rfl) ?_
  refine ai_ldc2 (x := 2820) hx hb hown (hts _ k_574) (by decide +kernel) d_YR_leapsBefore_10 ?_
  refine ro_S (rest := [.long (iL 683)]) (ct_JM_floorDiv_JJJ l v5 2820 (by omega) (by omega)) j_JM_floorDiv_JJJ k_575 hF rfl hl.1 rfl ⟨Nat.le_of_ble_eq_true rfl, Nat.le_of_ble_eq_true rfl⟩ (Nat.le_of_ble_eq_true rfl) d_YR_leapsBefore_13 ⟨Nat.zero_le _, Nat.zero_le _⟩ Bm_true (fun _ _ _ => trivial) ?_
  refine ai_lmul hx hb d_YR_leapsBefore_16 ?_
  refine lv_lload_n hx hb d_YR_leapsBefore_17 rfl (lv_at hl 0 rfl) ?_
  refine ai_ldc2 (x := 2820) hx hb hown (hts _ k_574) (by decide +kernel) d_YR_leapsBefore_18 ?_
  refine ro_S (rest := [.long (iL (683 * (v5 / 2820)))]) (ct_JM_floorMod_JJJ l v5 2820 (by omega) (by omega)) j_JM_floorMod_JJJ k_576 hF rfl hl.1 rfl ⟨Nat.le_of_ble_eq_true rfl, Nat.le_of_ble_eq_true rfl⟩ (Nat.le_of_ble_eq_true rfl) d_YR_leapsBefore_21 ⟨Nat.zero_le _, Nat.zero_le _⟩ Bm_true (fun _ _ _ => trivial) ?_
  refine ai_ldc2 (x := 511) hx hb hown (hts _ k_577) (by decide +kernel) d_YR_leapsBefore_24 ?_
  refine ai_ladd hx hb d_YR_leapsBefore_27 ?_
  refine ai_ldc2 (x := 31) hx hb hown (hts _ k_578) (by decide +kernel) d_YR_leapsBefore_28 ?_
  refine ai_lmul hx hb d_YR_leapsBefore_31 ?_
  refine ai_ldc2 (x := 128) hx hb hown (hts _ k_579) (by decide +kernel) d_YR_leapsBefore_32 ?_
  refine ro_S (rest := [.long (iL (683 * (v5 / 2820)))]) (ct_JM_floorDiv_JJJ l (((v5 % 2820) + 511) * 31) 128 (by omega) (by omega)) j_JM_floorDiv_JJJ k_575 hF rfl hl.1 rfl ⟨Nat.le_of_ble_eq_true rfl, Nat.le_of_ble_eq_true rfl⟩ (Nat.le_of_ble_eq_true rfl) d_YR_leapsBefore_35 ⟨Nat.zero_le _, Nat.zero_le _⟩ Bm_true (fun _ _ _ => trivial) ?_
  refine ai_ladd hx hb d_YR_leapsBefore_38 ?_
  exact ro_lret hx hb hr hlk d_YR_leapsBefore_39 (by unfold lb6; rw [e5])
set_option maxHeartbeats 4000000 in
set_option maxRecDepth 100000 in
theorem ct_YR_isLeapCount (l : Launch) (D : va_G) (q : Nat) (y : Int) (ry : -1000000000 ≤ y ∧ y ≤ 1000000000) : RO l y_YR_isLeapCount w_YR_isLeapCount 1 25 [.ref q, .long (iL y)] (OB D [(q, .inr (2, []))]) (.int (iI (bI (yl6 y)))) := by
  refine ro_of (by decide +kernel) (Nat.le_of_ble_eq_true rfl) ?_
  intro p e s m below meth c ls hx hb hr hts hown hlk hml hl hN hB
  have hown : s.vm.findClass "DayBook$CycleRule" = some m.cls := hown
  have hl : lv_has ls 3 [(0, .ref q), (1, .long (iL y))] := hl
  have hF : _ ∧ _ ∧ _ ∧ _ ∧ _ ∧ _ := ⟨hx, hb, hml, hown, hts, hN⟩
  have hK := hB.1
  have hP := hB.2
  refine lv_lload_n hx hb d_YR_isLeapCount_0 rfl (lv_at hl 1 rfl) ?_
  refine ai_ldc2 (x := 474) hx hb hown (hts _ k_572) (by decide +kernel) d_YR_isLeapCount_1 ?_
  refine ai_lsub hx hb d_YR_isLeapCount_4 ?_
  refine ai_ldc2 (x := 2820) hx hb hown (hts _ k_574) (by decide +kernel) d_YR_isLeapCount_5 ?_
  refine ro_S (rest := []) (ct_JM_floorMod_JJJ l (y - 474) 2820 (by omega) (by omega)) j_JM_floorMod_JJJ k_576 hF rfl hl.1 rfl ⟨Nat.le_of_ble_eq_true rfl, Nat.le_of_ble_eq_true rfl⟩ (Nat.le_of_ble_eq_true rfl) d_YR_isLeapCount_8 ⟨Nat.zero_le _, Nat.zero_le _⟩ Bm_true (fun _ _ _ => trivial) ?_
  refine ai_ldc2 (x := 512) hx hb hown (hts _ k_789) (by decide +kernel) d_YR_isLeapCount_11 ?_
  refine ai_ladd hx hb d_YR_isLeapCount_14 ?_
  refine ai_ldc2 (x := 31) hx hb hown (hts _ k_578) (by decide +kernel) d_YR_isLeapCount_15 ?_
  refine ai_lmul hx hb d_YR_isLeapCount_18 ?_
  refine ai_ldc2 (x := 128) hx hb hown (hts _ k_579) (by decide +kernel) d_YR_isLeapCount_19 ?_
  refine ro_S (rest := []) (ct_JM_floorMod_JJJ l ((((y - 474) % 2820) + 512) * 31) 128 (by omega) (by omega)) j_JM_floorMod_JJJ k_576 hF rfl hl.1 rfl ⟨Nat.le_of_ble_eq_true rfl, Nat.le_of_ble_eq_true rfl⟩ (Nat.le_of_ble_eq_true rfl) d_YR_isLeapCount_22 ⟨Nat.zero_le _, Nat.zero_le _⟩ Bm_true (fun _ _ _ => trivial) ?_
  refine ai_ldc2 (x := 31) hx hb hown (hts _ k_578) (by decide +kernel) d_YR_isLeapCount_25 ?_
  refine ai_lcmp_ge hx hb d_YR_isLeapCount_28 d_YR_isLeapCount_29 rfl (by omega) (by omega) (fun h28 => ?_) (fun h28 => ?_)
  · skip
    refine ai_iconst hx hb d_YR_isLeapCount_36 ?_
    exact ro_zret hx hb hr hlk d_YR_isLeapCount_37 (ro_0 (by unfold yl6; omega) rfl)
  · skip
    refine ai_iconst hx hb d_YR_isLeapCount_32 ?_
    refine lv_goto hx hb d_YR_isLeapCount_33 rfl ?_
    exact ro_zret hx hb hr hlk d_YR_isLeapCount_37 (ro_1 (by unfold yl6; omega) rfl)
end
section
/-! 18.month: laid by program (wip/whole) -/
def RuleAt (D : va_G) (q : Nat) (P : Int → Prop) (L : Int → Int) (U : State) : Prop :=
  (∃ a b c0 : Int, (0 ≤ a ∧ a ≤ c0 ∧ c0 ≤ 1000 ∧ 0 < c0 ∧ 0 ≤ b ∧ b ≤ 1000 ∧ P = ylS a b c0 ∧ L = lbS a b c0) ∧ OB D [(q, .inr (7, [.long (iL a), .long (iL b), .long (iL c0)]))] U) ∨
  ((∃ (k : Int) (dr : Prop), (0 ≤ k ∧ k ≤ 10000 ∧ P = ylD k dr ∧ L = lbD k dr) ∧ OB D [(q, .inr (1, [.long (iL k), .int (iI (bI dr))]))] U) ∨
   ((P = yl6 ∧ L = lb6) ∧ OB D [(q, .inr (2, []))] U))
theorem RuleAt.m {D : va_G} {q : Nat} {P : Int → Prop} {L : Int → Int} : Bm (RuleAt D q P L) :=
  Bm.or (Bm.ex fun _ => Bm.ex fun _ => Bm.ex fun _ => Bm.and Bm.c OB.m) (Bm.or (Bm.ex fun _ => Bm.ex fun _ => Bm.and Bm.c OB.m) (Bm.and Bm.c OB.m))
theorem lbD_step (k : Int) (dr : Prop) (y : Int) : lbD k dr (y + 1) = lbD k dr y + bI (ylD k dr y) := by
  unfold lbD
  have h := lb0_step (y + k)
  rw [show y + 1 + k = y + k + 1 by omega, h]
  by_cases hd : dr
  · rw [bI_t hd]
    by_cases h2 : (y + k) % 4000 = 0
    · have h3 : yl0 (y + k) := by unfold yl0; omega
      rw [bI_t h3, bI_f (P := ylD k dr y) (fun q => q.2 ⟨hd, h2⟩)]
      omega
    · by_cases h3 : yl0 (y + k)
      · rw [bI_t h3, bI_t (P := ylD k dr y) ⟨h3, fun q => h2 q.2⟩]
        omega
      · rw [bI_f h3, bI_f (P := ylD k dr y) (fun q => h3 q.1)]
        omega
  · rw [bI_f hd, bI_iff (Q := ylD k dr y) ⟨fun h => ⟨h, fun q => hd q.1⟩, fun h => h.1⟩]
    omega
theorem RuleAt.step {D : va_G} {q : Nat} {P : Int → Prop} {L : Int → Int} {U : State} (h : RuleAt D q P L U) (y : Int) : L (y + 1) = L y + bI (P y) := by
  rcases h with ⟨a, b, c0, ⟨h1, h2, h3, h4, h5, h6, rfl, rfl⟩, -⟩ | ⟨k, dr, ⟨h1, h2, rfl, rfl⟩, -⟩ | ⟨⟨rfl, rfl⟩, -⟩
  · exact lbS_step h1 h2 h4 y
  · exact lbD_step k dr y
  · exact lb6_step y
theorem RuleAt.rng {D : va_G} {q : Nat} {P : Int → Prop} {L : Int → Int} {U : State} (h : RuleAt D q P L U) {y : Int} (hy : -1000000000 ≤ y ∧ y ≤ 1000000000) : -2000000000000 ≤ L y ∧ L y ≤ 2000000000000 := by
  rcases h with ⟨a, b, c0, ⟨h1, h2, h3, h4, h5, h6, rfl, rfl⟩, -⟩ | ⟨k, dr, ⟨h1, h2, rfl, rfl⟩, -⟩ | ⟨⟨rfl, rfl⟩, -⟩
  · unfold lbS
    have n := mul_rng (a := a) (y := y - 1) (by omega) (by omega)
    exact dv_rng h4 (by omega) (by omega) (by omega) (by omega)
  · unfold lbD lb0
    have n := bI_01 dr
    by_cases hd : dr
    · rw [bI_t hd]; omega
    · rw [bI_f hd]; omega
  · unfold lb6; omega
noncomputable def coM (H0 : Prop) (y : Int) : Int := y + bI (¬ H0 ∧ y ≤ 0)
noncomputable def yaM (H0 : Prop) (y : Int) : Int := y - bI (¬ H0 ∧ y ≤ 0)
noncomputable def laM (lp pd : Int) (fl : Nat → Int) (p d : Int) : Int := fl p.toNat + bI (p = lp ∧ pd < d)
def MonB (D : va_G) (a nu le ru : Nat) (lp ep pd : Int) (H0 : Prop) (P : Int → Prop) (L : Int → Int) (fn fl : Nat → Int) (n : Nat) (U : State) : Prop :=
  OB D [(a, .inr (5, [.ref nu, .ref le, .int (iI lp), .long (iL ep), .int (iI (bI H0)), .ref ru, .int (iI pd)]))] U ∧ RuleAt D ru P L U ∧ tA nu 20 fn U ∧ tA le n fl U
theorem MonB.m {D : va_G} {a nu le ru : Nat} {lp ep pd : Int} {H0 : Prop} {P : Int → Prop} {L : Int → Int} {fn fl : Nat → Int} {n : Nat} : Bm (MonB D a nu le ru lp ep pd H0 P L fn fl n) :=
  Bm.and OB.m (Bm.and RuleAt.m (Bm.and tA.m tA.m))
theorem cs_LB {p : Program} {l : Launch} {e : Env} {R : Room} {s : State} {m : MethodId} {args : Array Value} {below : List Frame} {meth : Method} {c : Code} {cells slots : Nat} {Q : State → Prop} {cc : ByteArray} {pc : Nat} {ls : Array Slot} {rest : List Value} {nL : Nat} {D : va_G} {q : Nat} {P : Int → Prop} {L : Int → Int} {y : Int} (hR : RuleAt D q P L s) (ry : -1000000000 ≤ y ∧ y ≤ 1000000000) (F : p.tables.exec = Jvm.exec ∧ c.code = cc ∧ c.maxLocals = nL ∧ s.vm.findClass "DayBook$MonthCalendar" = some m.cls ∧ (∀ w ∈ gw, w.before args s = true) ∧ NV s) (hsz : ls.size = nL) (hRm : 2 ≤ R.frames ∧ 51 ≤ R.locals) (hw : (rest.map fun v => v.category).sum ≤ 8) (hdg : decode cc pc = .ok (.invokevirtual 45, 3)) (hf : cells ≤ R.cells ∧ slots ≤ R.slots)
    (kk : W p l e R s m args below meth c s.heap [] cells slots Q (F0 m (pc + 3) ls (.long (iL (L y)) :: rest))) : W p l e R s m args below meth c s.heap [] cells slots Q (F0 m pc ls (.long (iL y) :: .ref q :: rest)) := by
  rcases hR with ⟨a, b, c0, ⟨h1, h2, h3, h4, h5, h6, rfl, rfl⟩, hO⟩ | ⟨k, dr, ⟨h1, h2, rfl, rfl⟩, hO⟩ | ⟨⟨rfl, rfl⟩, hO⟩
  · exact ro_U (rest := rest) (ct_SR_leapsBefore l D q a b c0 y (by omega) (by omega) (by omega) (by omega)) j_SR_leapsBefore k_558 k_560 (F.2.2.2.2.1 _ k_580) (va_Decl.abs (F.2.2.2.2.2.get 559 (by decide +kernel) (by decide +kernel))) ⟨by decide +kernel, by decide +kernel, by decide +kernel⟩ F (hO.recv 0 rfl rfl) rfl hsz rfl ⟨by omega, by omega⟩ hw hdg hf OB.m (fun U h1 h2 => OB.m.2 s U h1 h2 hO) kk
  · exact ro_U (rest := rest) (ct_CR_leapsBefore l D q k dr y (by omega) (by omega)) j_CR_leapsBefore k_558 k_560 (F.2.2.2.2.1 _ k_561) (va_Decl.abs (F.2.2.2.2.2.get 559 (by decide +kernel) (by decide +kernel))) ⟨by decide +kernel, by decide +kernel, by decide +kernel⟩ F (hO.recv 0 rfl rfl) rfl hsz rfl ⟨by omega, by omega⟩ hw hdg hf OB.m (fun U h1 h2 => OB.m.2 s U h1 h2 hO) kk
  · exact ro_U (rest := rest) (ct_YR_leapsBefore l D q y (by omega)) j_YR_leapsBefore k_558 k_560 (F.2.2.2.2.1 _ k_569) (va_Decl.abs (F.2.2.2.2.2.get 559 (by decide +kernel) (by decide +kernel))) ⟨by decide +kernel, by decide +kernel, by decide +kernel⟩ F (hO.recv 0 rfl rfl) rfl hsz rfl ⟨by omega, by omega⟩ hw hdg hf OB.m (fun U h1 h2 => OB.m.2 s U h1 h2 hO) kk
theorem cs_LC {p : Program} {l : Launch} {e : Env} {R : Room} {s : State} {m : MethodId} {args : Array Value} {below : List Frame} {meth : Method} {c : Code} {cells slots : Nat} {Q : State → Prop} {cc : ByteArray} {pc : Nat} {ls : Array Slot} {rest : List Value} {nL : Nat} {D : va_G} {q : Nat} {P : Int → Prop} {L : Int → Int} {y : Int} (hR : RuleAt D q P L s) (ry : -1000000000 ≤ y ∧ y ≤ 1000000000) (F : p.tables.exec = Jvm.exec ∧ c.code = cc ∧ c.maxLocals = nL ∧ s.vm.findClass "DayBook$MonthCalendar" = some m.cls ∧ (∀ w ∈ gw, w.before args s = true) ∧ NV s) (hsz : ls.size = nL) (hRm : 2 ≤ R.frames ∧ 49 ≤ R.locals) (hw : (rest.map fun v => v.category).sum ≤ 8) (hdg : decode cc pc = .ok (.invokevirtual 39, 3)) (hf : cells ≤ R.cells ∧ slots ≤ R.slots)
    (kk : W p l e R s m args below meth c s.heap [] cells slots Q (F0 m (pc + 3) ls (.int (iI (bI (P y))) :: rest))) : W p l e R s m args below meth c s.heap [] cells slots Q (F0 m pc ls (.long (iL y) :: .ref q :: rest)) := by
  rcases hR with ⟨a, b, c0, ⟨h1, h2, h3, h4, h5, h6, rfl, rfl⟩, hO⟩ | ⟨k, dr, ⟨h1, h2, rfl, rfl⟩, hO⟩ | ⟨⟨rfl, rfl⟩, hO⟩
  · exact ro_U (rest := rest) (ct_SR_isLeapCount l D q a b c0 y (by omega) (by omega) (by omega) (by omega)) j_SR_isLeapCount k_779 k_781 (F.2.2.2.2.1 _ k_790) (va_Decl.abs (F.2.2.2.2.2.get 780 (by decide +kernel) (by decide +kernel))) ⟨by decide +kernel, by decide +kernel, by decide +kernel⟩ F (hO.recv 0 rfl rfl) rfl hsz rfl ⟨by omega, by omega⟩ hw hdg hf OB.m (fun U h1 h2 => OB.m.2 s U h1 h2 hO) kk
  · exact ro_U (rest := rest) (ct_CR_isLeapCount l D q k dr y (by omega) (by omega)) j_CR_isLeapCount k_779 k_781 (F.2.2.2.2.1 _ k_782) (va_Decl.abs (F.2.2.2.2.2.get 780 (by decide +kernel) (by decide +kernel))) ⟨by decide +kernel, by decide +kernel, by decide +kernel⟩ F (hO.recv 0 rfl rfl) rfl hsz rfl ⟨by omega, by omega⟩ hw hdg hf OB.m (fun U h1 h2 => OB.m.2 s U h1 h2 hO) kk
  · exact ro_U (rest := rest) (ct_YR_isLeapCount l D q y (by omega)) j_YR_isLeapCount k_779 k_781 (F.2.2.2.2.1 _ k_786) (va_Decl.abs (F.2.2.2.2.2.get 780 (by decide +kernel) (by decide +kernel))) ⟨by decide +kernel, by decide +kernel, by decide +kernel⟩ F (hO.recv 0 rfl rfl) rfl hsz rfl ⟨by omega, by omega⟩ hw hdg hf OB.m (fun U h1 h2 => OB.m.2 s U h1 h2 hO) kk
set_option maxHeartbeats 4000000 in
set_option maxRecDepth 100000 in
theorem ct_MC_countOf (l : Launch) (D : va_G) (a : Nat) (nu : Nat) (le : Nat) (ru : Nat) (lp : Int) (ep : Int) (pd : Int) (H0 : Prop) (P : Int → Prop) (L : Int → Int) (fn : Nat → Int) (fl : Nat → Int) (n : Nat) (y : Int) (ry : -900000000 ≤ y ∧ y ≤ 900000000) : RO l y_MC_countOf w_MC_countOf 0 0 [.ref a, .long (iL y)] (MonB D a nu le ru lp ep pd H0 P L fn fl n) (.long (iL (coM H0 y))) := by
  refine ro_of (by decide +kernel) (Nat.le_of_ble_eq_true rfl) ?_
  intro p e s m below meth c ls hx hb hr hts hown hlk hml hl hN hB
  have hown : s.vm.findClass "DayBook$MonthCalendar" = some m.cls := hown
  have hl : lv_has ls 3 [(0, .ref a), (1, .long (iL y))] := hl
  have hF : _ ∧ _ ∧ _ ∧ _ ∧ _ ∧ _ := ⟨hx, hb, hml, hown, hts, hN⟩
  have hK := hB.1.1
  have hP := hB.1.2
  refine lv_aload_n hx hb d_MC_countOf_0 rfl (lv_at hl 0 rfl) ?_
  refine va_get (D := D) (cl := CL) (ci := 5) (v := .int (iI (bI H0))) (C := "DayBook$MonthCalendar") (T := T_MC) (N := 7) hx hb hts in_MC hown hK hP 0 rfl rfl 4 (by decide) (hts _ k_76) (fun _ h9 => h9) rfl d_MC_countOf_1 ?_
  refine ai_ifneB hx hb d_MC_countOf_4 rfl (fun h4 => ?_) (fun h4 => ?_)
  · skip
    refine lv_lload_n hx hb d_MC_countOf_13 rfl (lv_at hl 1 rfl) ?_
    refine lv_goto hx hb d_MC_countOf_14 rfl ?_
    exact ro_lret hx hb hr hlk d_MC_countOf_20 (by unfold coM; rw [bI_f (by intro ⟨q1, q2⟩; first | exact q1 h4 | omega)]; omega)
  · skip
    refine lv_lload_n hx hb d_MC_countOf_7 rfl (lv_at hl 1 rfl) ?_
    refine ai_lconst (x := 0) hx hb d_MC_countOf_8 (by decide +kernel) ?_
    refine ai_lcmp_le hx hb d_MC_countOf_9 d_MC_countOf_10 rfl (by omega) (by omega) (fun h9 => ?_) (fun h9 => ?_)
    · skip
      refine lv_lload_n hx hb d_MC_countOf_17 rfl (lv_at hl 1 rfl) ?_
      refine ai_lconst (x := 1) hx hb d_MC_countOf_18 (by decide +kernel) ?_
      refine ai_ladd hx hb d_MC_countOf_19 ?_
      exact ro_lret hx hb hr hlk d_MC_countOf_20 (by unfold coM; rw [bI_t ⟨h4, by omega⟩])
    · skip
      refine lv_lload_n hx hb d_MC_countOf_13 rfl (lv_at hl 1 rfl) ?_
      refine lv_goto hx hb d_MC_countOf_14 rfl ?_
      exact ro_lret hx hb hr hlk d_MC_countOf_20 (by unfold coM; rw [bI_f (by intro ⟨q1, q2⟩; first | exact q1 h4 | omega)]; omega)
set_option maxHeartbeats 4000000 in
set_option maxRecDepth 100000 in
theorem ct_MC_yearAt (l : Launch) (D : va_G) (a : Nat) (nu : Nat) (le : Nat) (ru : Nat) (lp : Int) (ep : Int) (pd : Int) (H0 : Prop) (P : Int → Prop) (L : Int → Int) (fn : Nat → Int) (fl : Nat → Int) (n : Nat) (y : Int) (ry : -900000000 ≤ y ∧ y ≤ 900000000) : RO l y_MC_yearAt w_MC_yearAt 0 0 [.ref a, .long (iL y)] (MonB D a nu le ru lp ep pd H0 P L fn fl n) (.long (iL (yaM H0 y))) := by
  refine ro_of (by decide +kernel) (Nat.le_of_ble_eq_true rfl) ?_
  intro p e s m below meth c ls hx hb hr hts hown hlk hml hl hN hB
  have hown : s.vm.findClass "DayBook$MonthCalendar" = some m.cls := hown
  have hl : lv_has ls 3 [(0, .ref a), (1, .long (iL y))] := hl
  have hF : _ ∧ _ ∧ _ ∧ _ ∧ _ ∧ _ := ⟨hx, hb, hml, hown, hts, hN⟩
  have hK := hB.1.1
  have hP := hB.1.2
  refine lv_aload_n hx hb d_MC_yearAt_0 rfl (lv_at hl 0 rfl) ?_
  refine va_get (D := D) (cl := CL) (ci := 5) (v := .int (iI (bI H0))) (C := "DayBook$MonthCalendar") (T := T_MC) (N := 7) hx hb hts in_MC hown hK hP 0 rfl rfl 4 (by decide) (hts _ k_76) (fun _ h9 => h9) rfl d_MC_yearAt_1 ?_
  refine ai_ifneB hx hb d_MC_yearAt_4 rfl (fun h4 => ?_) (fun h4 => ?_)
  · skip
    refine lv_lload_n hx hb d_MC_yearAt_13 rfl (lv_at hl 1 rfl) ?_
    refine lv_goto hx hb d_MC_yearAt_14 rfl ?_
    exact ro_lret hx hb hr hlk d_MC_yearAt_20 (by unfold yaM; rw [bI_f (by intro ⟨q1, q2⟩; first | exact q1 h4 | omega)]; omega)
  · skip
    refine lv_lload_n hx hb d_MC_yearAt_7 rfl (lv_at hl 1 rfl) ?_
    refine ai_lconst (x := 0) hx hb d_MC_yearAt_8 (by decide +kernel) ?_
    refine ai_lcmp_le hx hb d_MC_yearAt_9 d_MC_yearAt_10 rfl (by omega) (by omega) (fun h9 => ?_) (fun h9 => ?_)
    · skip
      refine lv_lload_n hx hb d_MC_yearAt_17 rfl (lv_at hl 1 rfl) ?_
      refine ai_lconst (x := 1) hx hb d_MC_yearAt_18 (by decide +kernel) ?_
      refine ai_lsub hx hb d_MC_yearAt_19 ?_
      exact ro_lret hx hb hr hlk d_MC_yearAt_20 (by unfold yaM; rw [bI_t ⟨h4, by omega⟩])
    · skip
      refine lv_lload_n hx hb d_MC_yearAt_13 rfl (lv_at hl 1 rfl) ?_
      refine lv_goto hx hb d_MC_yearAt_14 rfl ?_
      exact ro_lret hx hb hr hlk d_MC_yearAt_20 (by unfold yaM; rw [bI_f (by intro ⟨q1, q2⟩; first | exact q1 h4 | omega)]; omega)
set_option maxHeartbeats 4000000 in
set_option maxRecDepth 100000 in
theorem ct_MC_hasYear (l : Launch) (D : va_G) (a : Nat) (nu : Nat) (le : Nat) (ru : Nat) (lp : Int) (ep : Int) (pd : Int) (H0 : Prop) (P : Int → Prop) (L : Int → Int) (fn : Nat → Int) (fl : Nat → Int) (n : Nat) (y : Int) (ry : -9223372036854775808 ≤ y ∧ y ≤ 9223372036854775807) : RO l y_MC_hasYear w_MC_hasYear 0 0 [.ref a, .long (iL y)] (MonB D a nu le ru lp ep pd H0 P L fn fl n) (.int (iI (bI (H0 ∨ y ≠ 0)))) := by
  refine ro_of (by decide +kernel) (Nat.le_of_ble_eq_true rfl) ?_
  intro p e s m below meth c ls hx hb hr hts hown hlk hml hl hN hB
  have hown : s.vm.findClass "DayBook$MonthCalendar" = some m.cls := hown
  have hl : lv_has ls 3 [(0, .ref a), (1, .long (iL y))] := hl
  have hF : _ ∧ _ ∧ _ ∧ _ ∧ _ ∧ _ := ⟨hx, hb, hml, hown, hts, hN⟩
  have hK := hB.1.1
  have hP := hB.1.2
  refine lv_aload_n hx hb d_MC_hasYear_0 rfl (lv_at hl 0 rfl) ?_
  refine va_get (D := D) (cl := CL) (ci := 5) (v := .int (iI (bI H0))) (C := "DayBook$MonthCalendar") (T := T_MC) (N := 7) hx hb hts in_MC hown hK hP 0 rfl rfl 4 (by decide) (hts _ k_76) (fun _ h9 => h9) rfl d_MC_hasYear_1 ?_
  refine ai_ifneB hx hb d_MC_hasYear_4 rfl (fun h4 => ?_) (fun h4 => ?_)
  · skip
    refine ai_iconst hx hb d_MC_hasYear_13 ?_
    refine lv_goto hx hb d_MC_hasYear_14 rfl ?_
    exact ro_zret hx hb hr hlk d_MC_hasYear_18 (ro_1 (by first | exact Or.inl h4 | exact Or.inr h9) rfl)
  · skip
    refine lv_lload_n hx hb d_MC_hasYear_7 rfl (lv_at hl 1 rfl) ?_
    refine ai_lconst (x := 0) hx hb d_MC_hasYear_8 (by decide +kernel) ?_
    refine ai_lcmp_eq hx hb d_MC_hasYear_9 d_MC_hasYear_10 rfl (by omega) (by omega) (fun h9 => ?_) (fun h9 => ?_)
    · skip
      refine ai_iconst hx hb d_MC_hasYear_17 ?_
      exact ro_zret hx hb hr hlk d_MC_hasYear_18 (ro_0 (fun q => q.elim h4 (fun q => q h9)) rfl)
    · skip
      refine ai_iconst hx hb d_MC_hasYear_13 ?_
      refine lv_goto hx hb d_MC_hasYear_14 rfl ?_
      exact ro_zret hx hb hr hlk d_MC_hasYear_18 (ro_1 (by first | exact Or.inl h4 | exact Or.inr h9) rfl)
set_option maxHeartbeats 4000000 in
set_option maxRecDepth 100000 in
theorem ct_MC_yearStart (l : Launch) (D : va_G) (a : Nat) (nu : Nat) (le : Nat) (ru : Nat) (lp : Int) (ep : Int) (pd : Int) (H0 : Prop) (P : Int → Prop) (L : Int → Int) (fn : Nat → Int) (fl : Nat → Int) (n : Nat) (y : Int) (ry : -900000000 ≤ y ∧ y ≤ 900000000) (hpd : 0 ≤ pd ∧ pd ≤ 1000) : RO l y_MC_yearStart w_MC_yearStart 2 51 [.ref a, .long (iL y)] (MonB D a nu le ru lp ep pd H0 P L fn fl n) (.long (iL (ys ep pd L y))) := by
  refine ro_of (by decide +kernel) (Nat.le_of_ble_eq_true rfl) ?_
  intro p e s m below meth c ls hx hb hr hts hown hlk hml hl hN hB
  have hown : s.vm.findClass "DayBook$MonthCalendar" = some m.cls := hown
  have hl : lv_has ls 3 [(0, .ref a), (1, .long (iL y))] := hl
  have hF : _ ∧ _ ∧ _ ∧ _ ∧ _ ∧ _ := ⟨hx, hb, hml, hown, hts, hN⟩
  have hK := hB.1.1
  have hP := hB.1.2
  refine lv_aload_n hx hb d_MC_yearStart_0 rfl (lv_at hl 0 rfl) ?_
  refine va_get (D := D) (cl := CL) (ci := 5) (v := .long (iL ep)) (C := "DayBook$MonthCalendar") (T := T_MC) (N := 7) hx hb hts in_MC hown hK hP 0 rfl rfl 3 (by decide) (hts _ k_75) (fun _ h9 => h9) rfl d_MC_yearStart_1 ?_
  refine lv_aload_n hx hb d_MC_yearStart_4 rfl (lv_at hl 0 rfl) ?_
  refine va_get (D := D) (cl := CL) (ci := 5) (v := .int (iI pd)) (C := "DayBook$MonthCalendar") (T := T_MC) (N := 7) hx hb hts in_MC hown hK hP 0 rfl rfl 6 (by decide) (hts _ k_78) (fun _ h9 => h9) rfl d_MC_yearStart_5 ?_
  refine ai_i2l hx hb d_MC_yearStart_8 (by omega) ?_
  refine lv_lload_n hx hb d_MC_yearStart_9 rfl (lv_at hl 1 rfl) ?_
  refine ai_lconst (x := 1) hx hb d_MC_yearStart_10 (by decide +kernel) ?_
  refine ai_lsub hx hb d_MC_yearStart_11 ?_
  refine ai_lmul hx hb d_MC_yearStart_12 ?_
  refine ai_ladd hx hb d_MC_yearStart_13 ?_
  refine lv_aload_n hx hb d_MC_yearStart_14 rfl (lv_at hl 0 rfl) ?_
  refine va_get (D := D) (cl := CL) (ci := 5) (v := .ref ru) (C := "DayBook$MonthCalendar") (T := T_MC) (N := 7) hx hb hts in_MC hown hK hP 0 rfl rfl 5 (by decide) (hts _ k_77) (fun _ h9 => h9) rfl d_MC_yearStart_15 ?_
  refine lv_lload_n hx hb d_MC_yearStart_18 rfl (lv_at hl 1 rfl) ?_
  refine cs_LB hB.2.1 (by omega) hF hl.1 ⟨Nat.le_of_ble_eq_true rfl, Nat.le_of_ble_eq_true rfl⟩ (Nat.le_of_ble_eq_true rfl) d_MC_yearStart_19 ⟨Nat.zero_le _, Nat.zero_le _⟩ ?_
  refine ai_ladd hx hb d_MC_yearStart_22 ?_
  refine lv_aload_n hx hb d_MC_yearStart_23 rfl (lv_at hl 0 rfl) ?_
  refine va_get (D := D) (cl := CL) (ci := 5) (v := .ref ru) (C := "DayBook$MonthCalendar") (T := T_MC) (N := 7) hx hb hts in_MC hown hK hP 0 rfl rfl 5 (by decide) (hts _ k_77) (fun _ h9 => h9) rfl d_MC_yearStart_24 ?_
  refine ai_lconst (x := 1) hx hb d_MC_yearStart_27 (by decide +kernel) ?_
  refine cs_LB hB.2.1 (by omega) hF hl.1 ⟨Nat.le_of_ble_eq_true rfl, Nat.le_of_ble_eq_true rfl⟩ (Nat.le_of_ble_eq_true rfl) d_MC_yearStart_28 ⟨Nat.zero_le _, Nat.zero_le _⟩ ?_
  refine ai_lsub hx hb d_MC_yearStart_31 ?_
  exact ro_lret hx hb hr hlk d_MC_yearStart_32 rfl
set_option maxHeartbeats 4000000 in
set_option maxRecDepth 100000 in
theorem ct_MC_isLeap (l : Launch) (D : va_G) (a : Nat) (nu : Nat) (le : Nat) (ru : Nat) (lp : Int) (ep : Int) (pd : Int) (H0 : Prop) (P : Int → Prop) (L : Int → Int) (fn : Nat → Int) (fl : Nat → Int) (n : Nat) (y : Int) (ry : -800000000 ≤ y ∧ y ≤ 800000000) : RO l y_MC_isLeap w_MC_isLeap 2 49 [.ref a, .long (iL y)] (MonB D a nu le ru lp ep pd H0 P L fn fl n) (.int (iI (bI (P (coM H0 y))))) := by
  refine ro_of (by decide +kernel) (Nat.le_of_ble_eq_true rfl) ?_
  intro p e s m below meth c ls hx hb hr hts hown hlk hml hl hN hB
  have hown : s.vm.findClass "DayBook$MonthCalendar" = some m.cls := hown
  have hl : lv_has ls 3 [(0, .ref a), (1, .long (iL y))] := hl
  have hF : _ ∧ _ ∧ _ ∧ _ ∧ _ ∧ _ := ⟨hx, hb, hml, hown, hts, hN⟩
  have hK := hB.1.1
  have hP := hB.1.2
  have hco : -800000000 ≤ coM H0 y ∧ coM H0 y ≤ 800000001 := by unfold coM; have := bI_01 (¬ H0 ∧ y ≤ 0); omega
  refine lv_aload_n hx hb d_MC_isLeap_0 rfl (lv_at hl 0 rfl) ?_
  refine va_get (D := D) (cl := CL) (ci := 5) (v := .ref ru) (C := "DayBook$MonthCalendar") (T := T_MC) (N := 7) hx hb hts in_MC hown hK hP 0 rfl rfl 5 (by decide) (hts _ k_77) (fun _ h9 => h9) rfl d_MC_isLeap_1 ?_
  refine lv_aload_n hx hb d_MC_isLeap_4 rfl (lv_at hl 0 rfl) ?_
  refine lv_lload_n hx hb d_MC_isLeap_5 rfl (lv_at hl 1 rfl) ?_
  refine ro_V (rest := [.ref ru]) (ct_MC_countOf l D a nu le ru lp ep pd H0 P L fn fl n y (by omega)) j_MC_countOf k_778 (hts _ s_MC_countOf) hF (hB.1.recv 0 rfl rfl) rfl hl.1 rfl ⟨Nat.le_of_ble_eq_true rfl, Nat.le_of_ble_eq_true rfl⟩ (Nat.le_of_ble_eq_true rfl) d_MC_isLeap_6 ⟨Nat.zero_le _, Nat.zero_le _⟩ MonB.m (fun U h1 h2 => MonB.m.2 s U h1 h2 hB) ?_
  refine cs_LC hB.2.1 (by omega) hF hl.1 ⟨Nat.le_of_ble_eq_true rfl, Nat.le_of_ble_eq_true rfl⟩ (Nat.le_of_ble_eq_true rfl) d_MC_isLeap_9 ⟨Nat.zero_le _, Nat.zero_le _⟩ ?_
  exact ro_zret hx hb hr hlk d_MC_isLeap_12 rfl
set_option maxHeartbeats 4000000 in
set_option maxRecDepth 100000 in
theorem ct_MC_monthsIn (l : Launch) (D : va_G) (a : Nat) (nu : Nat) (le : Nat) (ru : Nat) (lp : Int) (ep : Int) (pd : Int) (H0 : Prop) (P : Int → Prop) (L : Int → Int) (fn : Nat → Int) (fl : Nat → Int) (n : Nat) (d : Int)  : RO l y_MC_monthsIn w_MC_monthsIn 0 0 [.ref a, .int (iI d)] (MonB D a nu le ru lp ep pd H0 P L fn fl n) (.int (iI (n : Int))) := by
  refine ro_of (by decide +kernel) (Nat.le_of_ble_eq_true rfl) ?_
  intro p e s m below meth c ls hx hb hr hts hown hlk hml hl hN hB
  have hown : s.vm.findClass "DayBook$MonthCalendar" = some m.cls := hown
  have hl : lv_has ls 2 [(0, .ref a), (1, .int (iI d))] := hl
  have hF : _ ∧ _ ∧ _ ∧ _ ∧ _ ∧ _ := ⟨hx, hb, hml, hown, hts, hN⟩
  have hK := hB.1.1
  have hP := hB.1.2
  refine lv_aload_n hx hb d_MC_monthsIn_0 rfl (lv_at hl 0 rfl) ?_
  refine va_get (D := D) (cl := CL) (ci := 5) (v := .ref le) (C := "DayBook$MonthCalendar") (T := T_MC) (N := 7) hx hb hts in_MC hown hK hP 0 rfl rfl 1 (by decide) (hts _ k_73) (fun _ h9 => h9) rfl d_MC_monthsIn_1 ?_
  refine ta_len hx hb hB.2.2.2 d_MC_monthsIn_4 ?_
  exact ro_iret hx hb hr hlk d_MC_monthsIn_5 rfl
set_option maxHeartbeats 4000000 in
set_option maxRecDepth 100000 in
theorem ct_MC_monthAt (l : Launch) (D : va_G) (a : Nat) (nu : Nat) (le : Nat) (ru : Nat) (lp : Int) (ep : Int) (pd : Int) (H0 : Prop) (P : Int → Prop) (L : Int → Int) (fn : Nat → Int) (fl : Nat → Int) (n : Nat) (pl : Int) (d : Int) (hp : 0 ≤ pl ∧ pl < 20) : RO l y_MC_monthAt w_MC_monthAt 0 0 [.ref a, .int (iI pl), .int (iI d)] (MonB D a nu le ru lp ep pd H0 P L fn fl n) (.int (iI (fn (Int.toNat pl)))) := by
  refine ro_of (by decide +kernel) (Nat.le_of_ble_eq_true rfl) ?_
  intro p e s m below meth c ls hx hb hr hts hown hlk hml hl hN hB
  have hown : s.vm.findClass "DayBook$MonthCalendar" = some m.cls := hown
  have hl : lv_has ls 3 [(0, .ref a), (1, .int (iI pl)), (2, .int (iI d))] := hl
  have hF : _ ∧ _ ∧ _ ∧ _ ∧ _ ∧ _ := ⟨hx, hb, hml, hown, hts, hN⟩
  have hK := hB.1.1
  have hP := hB.1.2
  refine lv_aload_n hx hb d_MC_monthAt_0 rfl (lv_at hl 0 rfl) ?_
  refine va_get (D := D) (cl := CL) (ci := 5) (v := .ref nu) (C := "DayBook$MonthCalendar") (T := T_MC) (N := 7) hx hb hts in_MC hown hK hP 0 rfl rfl 0 (by decide) (hts _ k_72) (fun _ h9 => h9) rfl d_MC_monthAt_1 ?_
  refine lv_iload_n hx hb d_MC_monthAt_4 rfl (lv_at hl 1 rfl) ?_
  refine ta_ld hx hb hB.2.2.1 (by omega) (by omega) d_MC_monthAt_5 ?_
  exact ro_iret hx hb hr hlk d_MC_monthAt_6 rfl
set_option maxHeartbeats 4000000 in
set_option maxRecDepth 100000 in
theorem ct_MC_lengthAt (l : Launch) (D : va_G) (a : Nat) (nu : Nat) (le : Nat) (ru : Nat) (lp : Int) (ep : Int) (pd : Int) (H0 : Prop) (P : Int → Prop) (L : Int → Int) (fn : Nat → Int) (fl : Nat → Int) (n : Nat) (pl : Int) (d : Int) (hp : 0 ≤ pl ∧ pl < n) (hn : n ≤ 20) (rd : -2147483648 ≤ d ∧ d ≤ 2147483647) (rlp : 0 ≤ lp ∧ lp ≤ 20) (hpd : 0 ≤ pd ∧ pd ≤ 1000) : RO l y_MC_lengthAt w_MC_lengthAt 0 0 [.ref a, .int (iI pl), .int (iI d)] (MonB D a nu le ru lp ep pd H0 P L fn fl n) (.int (iI (laM lp pd fl pl d))) := by
  refine ro_of (by decide +kernel) (Nat.le_of_ble_eq_true rfl) ?_
  intro p e s m below meth c ls hx hb hr hts hown hlk hml hl hN hB
  have hown : s.vm.findClass "DayBook$MonthCalendar" = some m.cls := hown
  have hl : lv_has ls 3 [(0, .ref a), (1, .int (iI pl)), (2, .int (iI d))] := hl
  have hF : _ ∧ _ ∧ _ ∧ _ ∧ _ ∧ _ := ⟨hx, hb, hml, hown, hts, hN⟩
  have hK := hB.1.1
  have hP := hB.1.2
  refine lv_iload_n hx hb d_MC_lengthAt_0 rfl (lv_at hl 1 rfl) ?_
  refine lv_aload_n hx hb d_MC_lengthAt_1 rfl (lv_at hl 0 rfl) ?_
  refine va_get (D := D) (cl := CL) (ci := 5) (v := .int (iI lp)) (C := "DayBook$MonthCalendar") (T := T_MC) (N := 7) hx hb hts in_MC hown hK hP 0 rfl rfl 2 (by decide) (hts _ k_74) (fun _ h9 => h9) rfl d_MC_lengthAt_2 ?_
  refine ai_icmp_ne hx hb d_MC_lengthAt_5 rfl (by omega) (by omega) (fun h5 => ?_) (fun h5 => ?_)
  · skip
    refine lv_aload_n hx hb d_MC_lengthAt_27 rfl (lv_at hl 0 rfl) ?_
    refine va_get (D := D) (cl := CL) (ci := 5) (v := .ref le) (C := "DayBook$MonthCalendar") (T := T_MC) (N := 7) hx hb hts in_MC hown hK hP 0 rfl rfl 1 (by decide) (hts _ k_73) (fun _ h9 => h9) rfl d_MC_lengthAt_28 ?_
    refine lv_iload_n hx hb d_MC_lengthAt_31 rfl (lv_at hl 1 rfl) ?_
    refine ta_ld hx hb hB.2.2.2 (by omega) (by omega) d_MC_lengthAt_32 ?_
    exact ro_iret hx hb hr hlk d_MC_lengthAt_33 (by unfold laM; rw [bI_f (by intro q; omega)]; omega)
  · skip
    refine lv_iload_n hx hb d_MC_lengthAt_8 rfl (lv_at hl 2 rfl) ?_
    refine lv_aload_n hx hb d_MC_lengthAt_9 rfl (lv_at hl 0 rfl) ?_
    refine va_get (D := D) (cl := CL) (ci := 5) (v := .int (iI pd)) (C := "DayBook$MonthCalendar") (T := T_MC) (N := 7) hx hb hts in_MC hown hK hP 0 rfl rfl 6 (by decide) (hts _ k_78) (fun _ h9 => h9) rfl d_MC_lengthAt_10 ?_
    refine ai_icmp_le hx hb d_MC_lengthAt_13 rfl (by omega) (by omega) (fun h13 => ?_) (fun h13 => ?_)
    · skip
      refine lv_aload_n hx hb d_MC_lengthAt_27 rfl (lv_at hl 0 rfl) ?_
      refine va_get (D := D) (cl := CL) (ci := 5) (v := .ref le) (C := "DayBook$MonthCalendar") (T := T_MC) (N := 7) hx hb hts in_MC hown hK hP 0 rfl rfl 1 (by decide) (hts _ k_73) (fun _ h9 => h9) rfl d_MC_lengthAt_28 ?_
      refine lv_iload_n hx hb d_MC_lengthAt_31 rfl (lv_at hl 1 rfl) ?_
      refine ta_ld hx hb hB.2.2.2 (by omega) (by omega) d_MC_lengthAt_32 ?_
      exact ro_iret hx hb hr hlk d_MC_lengthAt_33 (by unfold laM; rw [bI_f (by intro q; omega)]; omega)
    · skip
      refine lv_aload_n hx hb d_MC_lengthAt_16 rfl (lv_at hl 0 rfl) ?_
      refine va_get (D := D) (cl := CL) (ci := 5) (v := .ref le) (C := "DayBook$MonthCalendar") (T := T_MC) (N := 7) hx hb hts in_MC hown hK hP 0 rfl rfl 1 (by decide) (hts _ k_73) (fun _ h9 => h9) rfl d_MC_lengthAt_17 ?_
      refine lv_iload_n hx hb d_MC_lengthAt_20 rfl (lv_at hl 1 rfl) ?_
      refine ta_ld hx hb hB.2.2.2 (by omega) (by omega) d_MC_lengthAt_21 ?_
      refine ai_iconst hx hb d_MC_lengthAt_22 ?_
      refine ai_iadd hx hb d_MC_lengthAt_23 ?_
      refine lv_goto hx hb d_MC_lengthAt_24 rfl ?_
      exact ro_iret hx hb hr hlk d_MC_lengthAt_33 (by unfold laM; rw [bI_t ⟨h5, h13⟩])
end
section
/-! 19.kinds: laid by program (wip/whole) -/
noncomputable def nmH (d : Int) : Int := 12 + bI (355 < d)
noncomputable def maH (pl d : Int) : Int := if pl < 6 then pl + 7 else if 355 < d then (if pl = 6 then 13 else pl - 6) else pl - 5
noncomputable def mlH (M d : Int) : Int := if M = 8 then 29 + bI (d = 355 ∨ d = 385) else if M = 9 then 30 - bI (d = 353 ∨ d = 383) else if M = 12 then 29 + bI (355 < d) else if M = 2 ∨ M = 4 ∨ M = 6 ∨ M = 10 ∨ M = 13 then 29 else 30
noncomputable def laH (pl d : Int) : Int := mlH (maH pl d) d
theorem maH_rng {pl d : Int} (h : 0 ≤ pl ∧ pl < nmH d) : 1 ≤ maH pl d ∧ maH pl d ≤ 13 := by
  unfold maH
  unfold nmH at h
  split
  · omega
  · split
    · rename_i h1 h2
      rw [bI_t h2] at h
      split <;> omega
    · rename_i h1 h2
      rw [bI_f h2] at h
      omega
theorem mlH_7 (d : Int) : mlH 7 d = 30 := rfl
theorem mlH_3 (d : Int) : mlH 3 d = 30 := rfl
set_option maxHeartbeats 4000000 in
set_option maxRecDepth 100000 in
theorem ct_Y_yearAt (l : Launch) (a : Nat) (y : Int)  : RO l y_Y_yearAt w_Y_yearAt 0 0 [.ref a, .long (iL y)] (fun _ => True) (.long (iL y)) := by
  refine ro_of (by decide +kernel) (Nat.le_of_ble_eq_true rfl) ?_
  intro p e s m below meth c ls hx hb hr hts hown hlk hml hl hN hB
  have hown : s.vm.findClass "DayBook$YearCalendar" = some m.cls := hown
  have hl : lv_has ls 3 [(0, .ref a), (1, .long (iL y))] := hl
  have hF : _ ∧ _ ∧ _ ∧ _ ∧ _ ∧ _ := ⟨hx, hb, hml, hown, hts, hN⟩
  refine lv_lload_n hx hb d_Y_yearAt_0 rfl (lv_at hl 1 rfl) ?_
  exact ro_lret hx hb hr hlk d_Y_yearAt_1 rfl
set_option maxHeartbeats 4000000 in
set_option maxRecDepth 100000 in
theorem ct_Y_countOf (l : Launch) (a : Nat) (y : Int)  : RO l y_Y_countOf w_Y_countOf 0 0 [.ref a, .long (iL y)] (fun _ => True) (.long (iL y)) := by
  refine ro_of (by decide +kernel) (Nat.le_of_ble_eq_true rfl) ?_
  intro p e s m below meth c ls hx hb hr hts hown hlk hml hl hN hB
  have hown : s.vm.findClass "DayBook$YearCalendar" = some m.cls := hown
  have hl : lv_has ls 3 [(0, .ref a), (1, .long (iL y))] := hl
  have hF : _ ∧ _ ∧ _ ∧ _ ∧ _ ∧ _ := ⟨hx, hb, hml, hown, hts, hN⟩
  refine lv_lload_n hx hb d_Y_countOf_0 rfl (lv_at hl 1 rfl) ?_
  exact ro_lret hx hb hr hlk d_Y_countOf_1 rfl
set_option maxHeartbeats 4000000 in
set_option maxRecDepth 100000 in
theorem ct_C_hasYear (l : Launch) (a : Nat) (y : Int)  : RO l y_C_hasYear w_C_hasYear 0 0 [.ref a, .long (iL y)] (fun _ => True) (.int (iI (bI True))) := by
  refine ro_of (by decide +kernel) (Nat.le_of_ble_eq_true rfl) ?_
  intro p e s m below meth c ls hx hb hr hts hown hlk hml hl hN hB
  have hown : s.vm.findClass "DayBook$Calendar" = some m.cls := hown
  have hl : lv_has ls 3 [(0, .ref a), (1, .long (iL y))] := hl
  have hF : _ ∧ _ ∧ _ ∧ _ ∧ _ ∧ _ := ⟨hx, hb, hml, hown, hts, hN⟩
  refine ai_iconst hx hb d_C_hasYear_0 ?_
  exact ro_zret hx hb hr hlk d_C_hasYear_1 (ro_1 trivial rfl)
set_option maxHeartbeats 4000000 in
set_option maxRecDepth 100000 in
theorem ct_C_isLeap (l : Launch) (a : Nat) (y : Int)  : RO l y_C_isLeap w_C_isLeap 0 0 [.ref a, .long (iL y)] (fun _ => True) (.int (iI (bI False))) := by
  refine ro_of (by decide +kernel) (Nat.le_of_ble_eq_true rfl) ?_
  intro p e s m below meth c ls hx hb hr hts hown hlk hml hl hN hB
  have hown : s.vm.findClass "DayBook$Calendar" = some m.cls := hown
  have hl : lv_has ls 3 [(0, .ref a), (1, .long (iL y))] := hl
  have hF : _ ∧ _ ∧ _ ∧ _ ∧ _ ∧ _ := ⟨hx, hb, hml, hown, hts, hN⟩
  refine ai_iconst hx hb d_C_isLeap_0 ?_
  exact ro_zret hx hb hr hlk d_C_isLeap_1 (ro_0 (fun h => h) rfl)
set_option maxHeartbeats 4000000 in
set_option maxRecDepth 100000 in
theorem ct_WC_monthsIn (l : Launch) (a : Nat) (d : Int) (rd : -2147483648 ≤ d ∧ d ≤ 2147483647) : RO l y_WC_monthsIn w_WC_monthsIn 0 0 [.ref a, .int (iI d)] (fun _ => True) (.int (iI (Int.tdiv d 7))) := by
  refine ro_of (by decide +kernel) (Nat.le_of_ble_eq_true rfl) ?_
  intro p e s m below meth c ls hx hb hr hts hown hlk hml hl hN hB
  have hown : s.vm.findClass "DayBook$WeekCalendar" = some m.cls := hown
  have hl : lv_has ls 2 [(0, .ref a), (1, .int (iI d))] := hl
  have hF : _ ∧ _ ∧ _ ∧ _ ∧ _ ∧ _ := ⟨hx, hb, hml, hown, hts, hN⟩
  refine lv_iload_n hx hb d_WC_monthsIn_0 rfl (lv_at hl 1 rfl) ?_
  refine ai_bipush (x := 7) hx hb d_WC_monthsIn_1 (by decide +kernel) ?_
  refine ai_idiv hx hb d_WC_monthsIn_3 (by omega) (by omega) (by omega) ?_
  exact ro_iret hx hb hr hlk d_WC_monthsIn_4 rfl
set_option maxHeartbeats 4000000 in
set_option maxRecDepth 100000 in
theorem ct_WC_monthAt (l : Launch) (a : Nat) (pl : Int) (d : Int)  : RO l y_WC_monthAt w_WC_monthAt 0 0 [.ref a, .int (iI pl), .int (iI d)] (fun _ => True) (.int (iI (pl + 1))) := by
  refine ro_of (by decide +kernel) (Nat.le_of_ble_eq_true rfl) ?_
  intro p e s m below meth c ls hx hb hr hts hown hlk hml hl hN hB
  have hown : s.vm.findClass "DayBook$WeekCalendar" = some m.cls := hown
  have hl : lv_has ls 3 [(0, .ref a), (1, .int (iI pl)), (2, .int (iI d))] := hl
  have hF : _ ∧ _ ∧ _ ∧ _ ∧ _ ∧ _ := ⟨hx, hb, hml, hown, hts, hN⟩
  refine lv_iload_n hx hb d_WC_monthAt_0 rfl (lv_at hl 1 rfl) ?_
  refine ai_iconst hx hb d_WC_monthAt_1 ?_
  refine ai_iadd hx hb d_WC_monthAt_2 ?_
  exact ro_iret hx hb hr hlk d_WC_monthAt_3 rfl
set_option maxHeartbeats 4000000 in
set_option maxRecDepth 100000 in
theorem ct_WC_lengthAt (l : Launch) (a : Nat) (pl : Int) (d : Int)  : RO l y_WC_lengthAt w_WC_lengthAt 0 0 [.ref a, .int (iI pl), .int (iI d)] (fun _ => True) (.int (iI 7)) := by
  refine ro_of (by decide +kernel) (Nat.le_of_ble_eq_true rfl) ?_
  intro p e s m below meth c ls hx hb hr hts hown hlk hml hl hN hB
  have hown : s.vm.findClass "DayBook$WeekCalendar" = some m.cls := hown
  have hl : lv_has ls 3 [(0, .ref a), (1, .int (iI pl)), (2, .int (iI d))] := hl
  have hF : _ ∧ _ ∧ _ ∧ _ ∧ _ ∧ _ := ⟨hx, hb, hml, hown, hts, hN⟩
  refine ai_bipush (x := 7) hx hb d_WC_lengthAt_0 (by decide +kernel) ?_
  exact ro_iret hx hb hr hlk d_WC_lengthAt_2 rfl
set_option maxHeartbeats 4000000 in
set_option maxRecDepth 100000 in
theorem ct_HC_monthsIn (l : Launch) (a : Nat) (d : Int) (rd : -2147483648 ≤ d ∧ d ≤ 2147483647) : RO l y_HC_monthsIn w_HC_monthsIn 1 20 [.ref a, .int (iI d)] (fun _ => True) (.int (iI (nmH d))) := by
  refine ro_of (by decide +kernel) (Nat.le_of_ble_eq_true rfl) ?_
  intro p e s m below meth c ls hx hb hr hts hown hlk hml hl hN hB
  have hown : s.vm.findClass "DayBook$HebrewCalendar" = some m.cls := hown
  have hl : lv_has ls 2 [(0, .ref a), (1, .int (iI d))] := hl
  have hF : _ ∧ _ ∧ _ ∧ _ ∧ _ ∧ _ := ⟨hx, hb, hml, hown, hts, hN⟩
  refine lv_iload_n hx hb d_HC_monthsIn_0 rfl (lv_at hl 1 rfl) ?_
  refine ro_S (rest := []) (ct_HC_isLong l d (by omega)) j_HC_isLong k_602 hF rfl hl.1 rfl ⟨Nat.le_of_ble_eq_true rfl, Nat.le_of_ble_eq_true rfl⟩ (Nat.le_of_ble_eq_true rfl) d_HC_monthsIn_1 ⟨Nat.zero_le _, Nat.zero_le _⟩ Bm_true (fun _ _ _ => trivial) ?_
  refine ai_ifeqB hx hb d_HC_monthsIn_4 rfl (fun h4 => ?_) (fun h4 => ?_)
  · skip
    refine ai_bipush (x := 12) hx hb d_HC_monthsIn_12 (by decide +kernel) ?_
    exact ro_iret hx hb hr hlk d_HC_monthsIn_14 (by unfold nmH; rw [bI_f h4]; rfl)
  · skip
    refine ai_bipush (x := 13) hx hb d_HC_monthsIn_7 (by decide +kernel) ?_
    refine lv_goto hx hb d_HC_monthsIn_9 rfl ?_
    exact ro_iret hx hb hr hlk d_HC_monthsIn_14 (by unfold nmH; rw [bI_t h4]; rfl)
set_option maxHeartbeats 4000000 in
set_option maxRecDepth 100000 in
theorem ct_HC_monthAt (l : Launch) (a : Nat) (pl : Int) (d : Int) (hp : 0 ≤ pl ∧ pl ≤ 20) (rd : -2147483648 ≤ d ∧ d ≤ 2147483647) : RO l y_HC_monthAt w_HC_monthAt 1 20 [.ref a, .int (iI pl), .int (iI d)] (fun _ => True) (.int (iI (maH pl d))) := by
  refine ro_of (by decide +kernel) (Nat.le_of_ble_eq_true rfl) ?_
  intro p e s m below meth c ls hx hb hr hts hown hlk hml hl hN hB
  have hown : s.vm.findClass "DayBook$HebrewCalendar" = some m.cls := hown
  have hl : lv_has ls 3 [(0, .ref a), (1, .int (iI pl)), (2, .int (iI d))] := hl
  have hF : _ ∧ _ ∧ _ ∧ _ ∧ _ ∧ _ := ⟨hx, hb, hml, hown, hts, hN⟩
  refine lv_iload_n hx hb d_HC_monthAt_0 rfl (lv_at hl 1 rfl) ?_
  refine ai_bipush (x := 6) hx hb d_HC_monthAt_1 (by decide +kernel) ?_
  refine ai_icmp_ge hx hb d_HC_monthAt_3 rfl (by omega) (by omega) (fun h3 => ?_) (fun h3 => ?_)
  · skip
    refine lv_iload_n hx hb d_HC_monthAt_11 rfl (lv_at hl 2 rfl) ?_
    refine ro_S (rest := []) (ct_HC_isLong l d (by omega)) j_HC_isLong k_602 hF rfl hl.1 rfl ⟨Nat.le_of_ble_eq_true rfl, Nat.le_of_ble_eq_true rfl⟩ (Nat.le_of_ble_eq_true rfl) d_HC_monthAt_12 ⟨Nat.zero_le _, Nat.zero_le _⟩ Bm_true (fun _ _ _ => trivial) ?_
    refine ai_ifneB hx hb d_HC_monthAt_15 rfl (fun h15 => ?_) (fun h15 => ?_)
    · skip
      refine lv_iload_n hx hb d_HC_monthAt_22 rfl (lv_at hl 1 rfl) ?_
      refine ai_bipush (x := 6) hx hb d_HC_monthAt_23 (by decide +kernel) ?_
      refine ai_icmp_ne hx hb d_HC_monthAt_25 rfl (by omega) (by omega) (fun h25 => ?_) (fun h25 => ?_)
      · skip
        refine lv_iload_n hx hb d_HC_monthAt_33 rfl (lv_at hl 1 rfl) ?_
        refine ai_bipush (x := 6) hx hb d_HC_monthAt_34 (by decide +kernel) ?_
        refine ai_isub hx hb d_HC_monthAt_36 ?_
        exact ro_iret hx hb hr hlk d_HC_monthAt_37 (by unfold maH; rw [if_neg (by omega), if_pos h15, if_neg (by omega)])
      · skip
        refine ai_bipush (x := 13) hx hb d_HC_monthAt_28 (by decide +kernel) ?_
        refine lv_goto hx hb d_HC_monthAt_30 rfl ?_
        exact ro_iret hx hb hr hlk d_HC_monthAt_37 (by unfold maH; rw [if_neg (by omega), if_pos h15, if_pos (by omega)])
    · skip
      refine lv_iload_n hx hb d_HC_monthAt_18 rfl (lv_at hl 1 rfl) ?_
      refine ai_iconst hx hb d_HC_monthAt_19 ?_
      refine ai_isub hx hb d_HC_monthAt_20 ?_
      exact ro_iret hx hb hr hlk d_HC_monthAt_21 (by unfold maH; rw [if_neg (by omega), if_neg h15])
  · skip
    refine lv_iload_n hx hb d_HC_monthAt_6 rfl (lv_at hl 1 rfl) ?_
    refine ai_bipush (x := 7) hx hb d_HC_monthAt_7 (by decide +kernel) ?_
    refine ai_iadd hx hb d_HC_monthAt_9 ?_
    exact ro_iret hx hb hr hlk d_HC_monthAt_10 (by unfold maH; rw [if_pos (by omega)])
set_option maxHeartbeats 4000000 in
set_option maxRecDepth 100000 in
theorem ct_HC_lengthAt (l : Launch) (D : va_G) (a : Nat) (pl : Int) (d : Int) (hp : 0 ≤ pl ∧ pl < nmH d) (rd : -2147483648 ≤ d ∧ d ≤ 2147483647) : RO l y_HC_lengthAt w_HC_lengthAt 2 42 [.ref a, .int (iI pl), .int (iI d)] (OB D [(a, .inr (3, []))]) (.int (iI (laH pl d))) := by
  refine ro_of (by decide +kernel) (Nat.le_of_ble_eq_true rfl) ?_
  intro p e s m below meth c ls hx hb hr hts hown hlk hml hl hN hB
  have hown : s.vm.findClass "DayBook$HebrewCalendar" = some m.cls := hown
  have hl : lv_has ls 3 [(0, .ref a), (1, .int (iI pl)), (2, .int (iI d))] := hl
  have hF : _ ∧ _ ∧ _ ∧ _ ∧ _ ∧ _ := ⟨hx, hb, hml, hown, hts, hN⟩
  have hp2 : nmH d ≤ 13 := by unfold nmH; have := bI_01 (355 < d); omega
  refine lv_aload_n hx hb d_HC_lengthAt_0 rfl (lv_at hl 0 rfl) ?_
  refine lv_iload_n hx hb d_HC_lengthAt_1 rfl (lv_at hl 1 rfl) ?_
  refine lv_iload_n hx hb d_HC_lengthAt_2 rfl (lv_at hl 2 rfl) ?_
  refine ro_V (rest := []) (ct_HC_monthAt l a pl d (by omega) (by omega)) j_HC_monthAt k_617 (hts _ s_HC_monthAt) hF (hB.recv 0 rfl rfl) rfl hl.1 rfl ⟨Nat.le_of_ble_eq_true rfl, Nat.le_of_ble_eq_true rfl⟩ (Nat.le_of_ble_eq_true rfl) d_HC_lengthAt_3 ⟨Nat.zero_le _, Nat.zero_le _⟩ Bm_true (fun _ _ _ => trivial) ?_
  refine ai_nmI hx hb (fun vM eM => ?_)
  have hM := maH_rng hp
  have hc : vM = 1 ∨ vM = 2 ∨ vM = 3 ∨ vM = 4 ∨ vM = 5 ∨ vM = 6 ∨ vM = 7 ∨ vM = 8 ∨ vM = 9 ∨ vM = 10 ∨ vM = 11 ∨ vM = 12 ∨ vM = 13 := by omega
  rcases hc with rfl | rfl | rfl | rfl | rfl | rfl | rfl | rfl | rfl | rfl | rfl | rfl | rfl
  · skip
    refine lv_tableOut (tgt := 130) hx hb d_HC_lengthAt_6 (by decide +kernel) rfl ?_
    refine ai_bipush (x := 30) hx hb d_HC_lengthAt_130 (by decide +kernel) ?_
    exact ro_iret hx hb hr hlk d_HC_lengthAt_132 (by unfold laH; rw [← eM]; rfl)
  · skip
    refine lv_tableIn (off := 121) (tgt := 127) hx hb d_HC_lengthAt_6 (by decide +kernel) (by decide +kernel) (by decide +kernel) rfl ?_
    refine ai_bipush (x := 29) hx hb d_HC_lengthAt_127 (by decide +kernel) ?_
    exact ro_iret hx hb hr hlk d_HC_lengthAt_129 (by unfold laH; rw [← eM]; rfl)
  · skip
    refine lv_tableIn (off := 124) (tgt := 130) hx hb d_HC_lengthAt_6 (by decide +kernel) (by decide +kernel) (by decide +kernel) rfl ?_
    refine ai_bipush (x := 30) hx hb d_HC_lengthAt_130 (by decide +kernel) ?_
    exact ro_iret hx hb hr hlk d_HC_lengthAt_132 (by unfold laH; rw [← eM]; rfl)
  · skip
    refine lv_tableIn (off := 121) (tgt := 127) hx hb d_HC_lengthAt_6 (by decide +kernel) (by decide +kernel) (by decide +kernel) rfl ?_
    refine ai_bipush (x := 29) hx hb d_HC_lengthAt_127 (by decide +kernel) ?_
    exact ro_iret hx hb hr hlk d_HC_lengthAt_129 (by unfold laH; rw [← eM]; rfl)
  · skip
    refine lv_tableIn (off := 124) (tgt := 130) hx hb d_HC_lengthAt_6 (by decide +kernel) (by decide +kernel) (by decide +kernel) rfl ?_
    refine ai_bipush (x := 30) hx hb d_HC_lengthAt_130 (by decide +kernel) ?_
    exact ro_iret hx hb hr hlk d_HC_lengthAt_132 (by unfold laH; rw [← eM]; rfl)
  · skip
    refine lv_tableIn (off := 121) (tgt := 127) hx hb d_HC_lengthAt_6 (by decide +kernel) (by decide +kernel) (by decide +kernel) rfl ?_
    refine ai_bipush (x := 29) hx hb d_HC_lengthAt_127 (by decide +kernel) ?_
    exact ro_iret hx hb hr hlk d_HC_lengthAt_129 (by unfold laH; rw [← eM]; rfl)
  · skip
    refine lv_tableIn (off := 124) (tgt := 130) hx hb d_HC_lengthAt_6 (by decide +kernel) (by decide +kernel) (by decide +kernel) rfl ?_
    refine ai_bipush (x := 30) hx hb d_HC_lengthAt_130 (by decide +kernel) ?_
    exact ro_iret hx hb hr hlk d_HC_lengthAt_132 (by unfold laH; rw [← eM]; rfl)
  · skip
    refine lv_tableIn (off := 62) (tgt := 68) hx hb d_HC_lengthAt_6 (by decide +kernel) (by decide +kernel) (by decide +kernel) rfl ?_
    refine lv_iload_n hx hb d_HC_lengthAt_68 rfl (lv_at hl 2 rfl) ?_
    refine ai_sipush (x := 355) hx hb d_HC_lengthAt_69 (by decide +kernel) ?_
    refine ai_icmp_eq hx hb d_HC_lengthAt_72 rfl (by omega) (by omega) (fun h72 => ?_) (fun h72 => ?_)
    · skip
      refine ai_bipush (x := 30) hx hb d_HC_lengthAt_82 (by decide +kernel) ?_
      refine lv_goto hx hb d_HC_lengthAt_84 rfl ?_
      exact ro_iret hx hb hr hlk d_HC_lengthAt_89 (by unfold laH; rw [← eM]; show (30 : Int) = 29 + bI (d = 355 ∨ d = 385); rw [bI_t (by omega)]; rfl)
    · skip
      refine lv_iload_n hx hb d_HC_lengthAt_75 rfl (lv_at hl 2 rfl) ?_
      refine ai_sipush (x := 385) hx hb d_HC_lengthAt_76 (by decide +kernel) ?_
      refine ai_icmp_ne hx hb d_HC_lengthAt_79 rfl (by omega) (by omega) (fun h79 => ?_) (fun h79 => ?_)
      · skip
        refine ai_bipush (x := 29) hx hb d_HC_lengthAt_87 (by decide +kernel) ?_
        exact ro_iret hx hb hr hlk d_HC_lengthAt_89 (by unfold laH; rw [← eM]; show (29 : Int) = 29 + bI (d = 355 ∨ d = 385); rw [bI_f (by omega)]; rfl)
      · skip
        refine ai_bipush (x := 30) hx hb d_HC_lengthAt_82 (by decide +kernel) ?_
        refine lv_goto hx hb d_HC_lengthAt_84 rfl ?_
        exact ro_iret hx hb hr hlk d_HC_lengthAt_89 (by unfold laH; rw [← eM]; show (30 : Int) = 29 + bI (d = 355 ∨ d = 385); rw [bI_t (by omega)]; rfl)
  · skip
    refine lv_tableIn (off := 84) (tgt := 90) hx hb d_HC_lengthAt_6 (by decide +kernel) (by decide +kernel) (by decide +kernel) rfl ?_
    refine lv_iload_n hx hb d_HC_lengthAt_90 rfl (lv_at hl 2 rfl) ?_
    refine ai_sipush (x := 353) hx hb d_HC_lengthAt_91 (by decide +kernel) ?_
    refine ai_icmp_eq hx hb d_HC_lengthAt_94 rfl (by omega) (by omega) (fun h94 => ?_) (fun h94 => ?_)
    · skip
      refine ai_bipush (x := 29) hx hb d_HC_lengthAt_104 (by decide +kernel) ?_
      refine lv_goto hx hb d_HC_lengthAt_106 rfl ?_
      exact ro_iret hx hb hr hlk d_HC_lengthAt_111 (by unfold laH; rw [← eM]; show (29 : Int) = 30 - bI (d = 353 ∨ d = 383); rw [bI_t (by omega)]; rfl)
    · skip
      refine lv_iload_n hx hb d_HC_lengthAt_97 rfl (lv_at hl 2 rfl) ?_
      refine ai_sipush (x := 383) hx hb d_HC_lengthAt_98 (by decide +kernel) ?_
      refine ai_icmp_ne hx hb d_HC_lengthAt_101 rfl (by omega) (by omega) (fun h101 => ?_) (fun h101 => ?_)
      · skip
        refine ai_bipush (x := 30) hx hb d_HC_lengthAt_109 (by decide +kernel) ?_
        exact ro_iret hx hb hr hlk d_HC_lengthAt_111 (by unfold laH; rw [← eM]; show (30 : Int) = 30 - bI (d = 353 ∨ d = 383); rw [bI_f (by omega)]; rfl)
      · skip
        refine ai_bipush (x := 29) hx hb d_HC_lengthAt_104 (by decide +kernel) ?_
        refine lv_goto hx hb d_HC_lengthAt_106 rfl ?_
        exact ro_iret hx hb hr hlk d_HC_lengthAt_111 (by unfold laH; rw [← eM]; show (29 : Int) = 30 - bI (d = 353 ∨ d = 383); rw [bI_t (by omega)]; rfl)
  · skip
    refine lv_tableIn (off := 121) (tgt := 127) hx hb d_HC_lengthAt_6 (by decide +kernel) (by decide +kernel) (by decide +kernel) rfl ?_
    refine ai_bipush (x := 29) hx hb d_HC_lengthAt_127 (by decide +kernel) ?_
    exact ro_iret hx hb hr hlk d_HC_lengthAt_129 (by unfold laH; rw [← eM]; rfl)
  · skip
    refine lv_tableIn (off := 124) (tgt := 130) hx hb d_HC_lengthAt_6 (by decide +kernel) (by decide +kernel) (by decide +kernel) rfl ?_
    refine ai_bipush (x := 30) hx hb d_HC_lengthAt_130 (by decide +kernel) ?_
    exact ro_iret hx hb hr hlk d_HC_lengthAt_132 (by unfold laH; rw [← eM]; rfl)
  · skip
    refine lv_tableIn (off := 106) (tgt := 112) hx hb d_HC_lengthAt_6 (by decide +kernel) (by decide +kernel) (by decide +kernel) rfl ?_
    refine lv_iload_n hx hb d_HC_lengthAt_112 rfl (lv_at hl 2 rfl) ?_
    refine ro_S (rest := []) (ct_HC_isLong l d (by omega)) j_HC_isLong k_602 hF rfl hl.1 rfl ⟨Nat.le_of_ble_eq_true rfl, Nat.le_of_ble_eq_true rfl⟩ (Nat.le_of_ble_eq_true rfl) d_HC_lengthAt_113 ⟨Nat.zero_le _, Nat.zero_le _⟩ Bm_true (fun _ _ _ => trivial) ?_
    refine ai_ifeqB hx hb d_HC_lengthAt_116 rfl (fun h116 => ?_) (fun h116 => ?_)
    · skip
      refine ai_bipush (x := 29) hx hb d_HC_lengthAt_124 (by decide +kernel) ?_
      exact ro_iret hx hb hr hlk d_HC_lengthAt_126 (by unfold laH; rw [← eM]; show (29 : Int) = 29 + bI (355 < d); rw [bI_f h116]; rfl)
    · skip
      refine ai_bipush (x := 30) hx hb d_HC_lengthAt_119 (by decide +kernel) ?_
      refine lv_goto hx hb d_HC_lengthAt_121 rfl ?_
      exact ro_iret hx hb hr hlk d_HC_lengthAt_126 (by unfold laH; rw [← eM]; show (30 : Int) = 29 + bI (355 < d); rw [bI_t h116]; rfl)
  · skip
    refine lv_tableIn (off := 121) (tgt := 127) hx hb d_HC_lengthAt_6 (by decide +kernel) (by decide +kernel) (by decide +kernel) rfl ?_
    refine ai_bipush (x := 29) hx hb d_HC_lengthAt_127 (by decide +kernel) ?_
    exact ro_iret hx hb hr hlk d_HC_lengthAt_129 (by unfold laH; rw [← eM]; rfl)
def WkB (D : va_G) (w a nu le ru : Nat) (lp ep pd : Int) (H0 : Prop) (P : Int → Prop) (L : Int → Int) (fn fl : Nat → Int) (n : Nat) (U : State) : Prop :=
  OB D [(w, .inr (8, [.ref a]))] U ∧ MonB D a nu le ru lp ep pd H0 P L fn fl n U
theorem WkB.m {D : va_G} {w a nu le ru : Nat} {lp ep pd : Int} {H0 : Prop} {P : Int → Prop} {L : Int → Int} {fn fl : Nat → Int} {n : Nat} : Bm (WkB D w a nu le ru lp ep pd H0 P L fn fl n) := Bm.and OB.m MonB.m
set_option maxHeartbeats 4000000 in
set_option maxRecDepth 100000 in
theorem ct_WC_yearStart (l : Launch) (D : va_G) (w : Nat) (a : Nat) (nu : Nat) (le : Nat) (ru : Nat) (lp : Int) (ep : Int) (pd : Int) (H0 : Prop) (P : Int → Prop) (L : Int → Int) (fn : Nat → Int) (fl : Nat → Int) (n : Nat) (y : Int) (ry : -900000000 ≤ y ∧ y ≤ 900000000) (hpd : 0 ≤ pd ∧ pd ≤ 1000) (hep : -1000000 ≤ ep ∧ ep ≤ 1000000) : RO l y_WC_yearStart w_WC_yearStart 3 73 [.ref w, .long (iL y)] (WkB D w a nu le ru lp ep pd H0 P L fn fl n) (.long (iL (wst (ys ep pd L) y))) := by
  refine ro_of (by decide +kernel) (Nat.le_of_ble_eq_true rfl) ?_
  intro p e s m below meth c ls hx hb hr hts hown hlk hml hl hN hB
  have hown : s.vm.findClass "DayBook$WeekCalendar" = some m.cls := hown
  have hl : lv_has ls 5 [(0, .ref w), (1, .long (iL y))] := hl
  have hF : _ ∧ _ ∧ _ ∧ _ ∧ _ ∧ _ := ⟨hx, hb, hml, hown, hts, hN⟩
  have hK := hB.1.1
  have hP := hB.1.2
  have q1 := hB.2.2.1.rng (y := y) (by omega)
  have q2 := hB.2.2.1.rng (y := 1) (by omega)
  have q3 := mul_rng (a := pd) (y := y - 1) hpd (by omega)
  have q4 : ys ep pd L y = ep + pd * (y - 1) + L y - L 1 := rfl
  refine lv_aload_n hx hb d_WC_yearStart_0 rfl (lv_at hl 0 rfl) ?_
  refine va_get (D := D) (cl := CL) (ci := 8) (v := .ref a) (C := "DayBook$WeekCalendar") (T := T_WC) (N := 1) hx hb hts in_WC hown hK hP 0 rfl rfl 0 (by decide) (hts _ k_127) (fun _ h9 => h9) rfl d_WC_yearStart_1 ?_
  refine lv_lload_n hx hb d_WC_yearStart_4 rfl (lv_at hl 1 rfl) ?_
  refine ro_V (rest := []) (ct_MC_yearStart l D a nu le ru lp ep pd H0 P L fn fl n y (by omega) (by omega)) j_MC_yearStart k_587 (hts _ s_MC_yearStart) hF (hB.2.1.recv 0 rfl rfl) rfl hl.1 rfl ⟨Nat.le_of_ble_eq_true rfl, Nat.le_of_ble_eq_true rfl⟩ (Nat.le_of_ble_eq_true rfl) d_WC_yearStart_5 ⟨Nat.zero_le _, Nat.zero_le _⟩ MonB.m (fun U h1 h2 => MonB.m.2 s U h1 h2 hB.2) ?_
  refine ai_ldc2 (x := 3) hx hb hown (hts _ k_588) (by decide +kernel) d_WC_yearStart_8 ?_
  refine ai_ladd hx hb d_WC_yearStart_11 ?_
  refine ai_nmL hx hb (fun v12 e12 => ?_)
  refine lv_lstore_n (lv' := [(3, .long (iL v12)), (0, .ref w), (1, .long (iL y))]) hx hb d_WC_yearStart_12 rfl hl (by decide) rfl (fun ls hl => ?_)
  refine lv_lload_n hx hb d_WC_yearStart_13 rfl (lv_at hl 0 rfl) ?_
  refine lv_lload_n hx hb d_WC_yearStart_14 rfl (lv_at hl 0 rfl) ?_
  refine ai_lconst (x := 1) hx hb d_WC_yearStart_15 (by decide +kernel) ?_
  refine ai_lsub hx hb d_WC_yearStart_16 ?_
  refine ai_ldc2 (x := 7) hx hb hown (hts _ k_589) (by decide +kernel) d_WC_yearStart_17 ?_
  refine ro_S (rest := [.long (iL v12)]) (ct_JM_floorMod_JJJ l (v12 - 1) 7 (by omega) (by omega)) j_JM_floorMod_JJJ k_590 hF rfl hl.1 rfl ⟨Nat.le_of_ble_eq_true rfl, Nat.le_of_ble_eq_true rfl⟩ (Nat.le_of_ble_eq_true rfl) d_WC_yearStart_20 ⟨Nat.zero_le _, Nat.zero_le _⟩ Bm_true (fun _ _ _ => trivial) ?_
  refine ai_lsub hx hb d_WC_yearStart_23 ?_
  exact ro_lret hx hb hr hlk d_WC_yearStart_24 (by unfold wst; rw [e12])
end
section
/-! 20.years: laid by program (wip/whole) -/
theorem laH_353_0 : laH 0 353 = 30 := rfl
theorem laH_353_1 : laH 1 353 = 29 := by show 29 + bI ((353 : Int) = 355 ∨ (353 : Int) = 385) = 29; rw [bI_f (by decide)]; rfl
theorem laH_353_2 : laH 2 353 = 29 := by show 30 - bI ((353 : Int) = 353 ∨ (353 : Int) = 383) = 29; rw [bI_t (by decide)]; rfl
theorem laH_353_3 : laH 3 353 = 29 := rfl
theorem laH_353_4 : laH 4 353 = 30 := rfl
theorem laH_353_5 : laH 5 353 = 29 := by show 29 + bI (355 < (353 : Int)) = 29; rw [bI_f (by decide)]; rfl
theorem laH_353_6 : laH 6 353 = 30 := rfl
theorem laH_353_7 : laH 7 353 = 29 := rfl
theorem laH_353_8 : laH 8 353 = 30 := rfl
theorem laH_353_9 : laH 9 353 = 29 := rfl
theorem laH_353_10 : laH 10 353 = 30 := rfl
theorem laH_353_11 : laH 11 353 = 29 := rfl
theorem cmH_353 : cm (fun j => laH (j : Int) 353) 12 = 353 := by
  show ((((((((((((0 + laH 0 353) + laH 1 353) + laH 2 353) + laH 3 353) + laH 4 353) + laH 5 353) + laH 6 353) + laH 7 353) + laH 8 353) + laH 9 353) + laH 10 353) + laH 11 353) = 353
  rw [laH_353_0, laH_353_1, laH_353_2, laH_353_3, laH_353_4, laH_353_5, laH_353_6, laH_353_7, laH_353_8, laH_353_9, laH_353_10, laH_353_11]
  rfl
theorem laH_354_0 : laH 0 354 = 30 := rfl
theorem laH_354_1 : laH 1 354 = 29 := by show 29 + bI ((354 : Int) = 355 ∨ (354 : Int) = 385) = 29; rw [bI_f (by decide)]; rfl
theorem laH_354_2 : laH 2 354 = 30 := by show 30 - bI ((354 : Int) = 353 ∨ (354 : Int) = 383) = 30; rw [bI_f (by decide)]; rfl
theorem laH_354_3 : laH 3 354 = 29 := rfl
theorem laH_354_4 : laH 4 354 = 30 := rfl
theorem laH_354_5 : laH 5 354 = 29 := by show 29 + bI (355 < (354 : Int)) = 29; rw [bI_f (by decide)]; rfl
theorem laH_354_6 : laH 6 354 = 30 := rfl
theorem laH_354_7 : laH 7 354 = 29 := rfl
theorem laH_354_8 : laH 8 354 = 30 := rfl
theorem laH_354_9 : laH 9 354 = 29 := rfl
theorem laH_354_10 : laH 10 354 = 30 := rfl
theorem laH_354_11 : laH 11 354 = 29 := rfl
theorem cmH_354 : cm (fun j => laH (j : Int) 354) 12 = 354 := by
  show ((((((((((((0 + laH 0 354) + laH 1 354) + laH 2 354) + laH 3 354) + laH 4 354) + laH 5 354) + laH 6 354) + laH 7 354) + laH 8 354) + laH 9 354) + laH 10 354) + laH 11 354) = 354
  rw [laH_354_0, laH_354_1, laH_354_2, laH_354_3, laH_354_4, laH_354_5, laH_354_6, laH_354_7, laH_354_8, laH_354_9, laH_354_10, laH_354_11]
  rfl
theorem laH_355_0 : laH 0 355 = 30 := rfl
theorem laH_355_1 : laH 1 355 = 30 := by show 29 + bI ((355 : Int) = 355 ∨ (355 : Int) = 385) = 30; rw [bI_t (by decide)]; rfl
theorem laH_355_2 : laH 2 355 = 30 := by show 30 - bI ((355 : Int) = 353 ∨ (355 : Int) = 383) = 30; rw [bI_f (by decide)]; rfl
theorem laH_355_3 : laH 3 355 = 29 := rfl
theorem laH_355_4 : laH 4 355 = 30 := rfl
theorem laH_355_5 : laH 5 355 = 29 := by show 29 + bI (355 < (355 : Int)) = 29; rw [bI_f (by decide)]; rfl
theorem laH_355_6 : laH 6 355 = 30 := rfl
theorem laH_355_7 : laH 7 355 = 29 := rfl
theorem laH_355_8 : laH 8 355 = 30 := rfl
theorem laH_355_9 : laH 9 355 = 29 := rfl
theorem laH_355_10 : laH 10 355 = 30 := rfl
theorem laH_355_11 : laH 11 355 = 29 := rfl
theorem cmH_355 : cm (fun j => laH (j : Int) 355) 12 = 355 := by
  show ((((((((((((0 + laH 0 355) + laH 1 355) + laH 2 355) + laH 3 355) + laH 4 355) + laH 5 355) + laH 6 355) + laH 7 355) + laH 8 355) + laH 9 355) + laH 10 355) + laH 11 355) = 355
  rw [laH_355_0, laH_355_1, laH_355_2, laH_355_3, laH_355_4, laH_355_5, laH_355_6, laH_355_7, laH_355_8, laH_355_9, laH_355_10, laH_355_11]
  rfl
theorem laH_383_0 : laH 0 383 = 30 := rfl
theorem laH_383_1 : laH 1 383 = 29 := by show 29 + bI ((383 : Int) = 355 ∨ (383 : Int) = 385) = 29; rw [bI_f (by decide)]; rfl
theorem laH_383_2 : laH 2 383 = 29 := by show 30 - bI ((383 : Int) = 353 ∨ (383 : Int) = 383) = 29; rw [bI_t (by decide)]; rfl
theorem laH_383_3 : laH 3 383 = 29 := rfl
theorem laH_383_4 : laH 4 383 = 30 := rfl
theorem laH_383_5 : laH 5 383 = 30 := by show 29 + bI (355 < (383 : Int)) = 30; rw [bI_t (by decide)]; rfl
theorem laH_383_6 : laH 6 383 = 29 := rfl
theorem laH_383_7 : laH 7 383 = 30 := rfl
theorem laH_383_8 : laH 8 383 = 29 := rfl
theorem laH_383_9 : laH 9 383 = 30 := rfl
theorem laH_383_10 : laH 10 383 = 29 := rfl
theorem laH_383_11 : laH 11 383 = 30 := rfl
theorem laH_383_12 : laH 12 383 = 29 := rfl
theorem cmH_383 : cm (fun j => laH (j : Int) 383) 13 = 383 := by
  show (((((((((((((0 + laH 0 383) + laH 1 383) + laH 2 383) + laH 3 383) + laH 4 383) + laH 5 383) + laH 6 383) + laH 7 383) + laH 8 383) + laH 9 383) + laH 10 383) + laH 11 383) + laH 12 383) = 383
  rw [laH_383_0, laH_383_1, laH_383_2, laH_383_3, laH_383_4, laH_383_5, laH_383_6, laH_383_7, laH_383_8, laH_383_9, laH_383_10, laH_383_11, laH_383_12]
  rfl
theorem laH_384_0 : laH 0 384 = 30 := rfl
theorem laH_384_1 : laH 1 384 = 29 := by show 29 + bI ((384 : Int) = 355 ∨ (384 : Int) = 385) = 29; rw [bI_f (by decide)]; rfl
theorem laH_384_2 : laH 2 384 = 30 := by show 30 - bI ((384 : Int) = 353 ∨ (384 : Int) = 383) = 30; rw [bI_f (by decide)]; rfl
theorem laH_384_3 : laH 3 384 = 29 := rfl
theorem laH_384_4 : laH 4 384 = 30 := rfl
theorem laH_384_5 : laH 5 384 = 30 := by show 29 + bI (355 < (384 : Int)) = 30; rw [bI_t (by decide)]; rfl
theorem laH_384_6 : laH 6 384 = 29 := rfl
theorem laH_384_7 : laH 7 384 = 30 := rfl
theorem laH_384_8 : laH 8 384 = 29 := rfl
theorem laH_384_9 : laH 9 384 = 30 := rfl
theorem laH_384_10 : laH 10 384 = 29 := rfl
theorem laH_384_11 : laH 11 384 = 30 := rfl
theorem laH_384_12 : laH 12 384 = 29 := rfl
theorem cmH_384 : cm (fun j => laH (j : Int) 384) 13 = 384 := by
  show (((((((((((((0 + laH 0 384) + laH 1 384) + laH 2 384) + laH 3 384) + laH 4 384) + laH 5 384) + laH 6 384) + laH 7 384) + laH 8 384) + laH 9 384) + laH 10 384) + laH 11 384) + laH 12 384) = 384
  rw [laH_384_0, laH_384_1, laH_384_2, laH_384_3, laH_384_4, laH_384_5, laH_384_6, laH_384_7, laH_384_8, laH_384_9, laH_384_10, laH_384_11, laH_384_12]
  rfl
theorem laH_385_0 : laH 0 385 = 30 := rfl
theorem laH_385_1 : laH 1 385 = 30 := by show 29 + bI ((385 : Int) = 355 ∨ (385 : Int) = 385) = 30; rw [bI_t (by decide)]; rfl
theorem laH_385_2 : laH 2 385 = 30 := by show 30 - bI ((385 : Int) = 353 ∨ (385 : Int) = 383) = 30; rw [bI_f (by decide)]; rfl
theorem laH_385_3 : laH 3 385 = 29 := rfl
theorem laH_385_4 : laH 4 385 = 30 := rfl
theorem laH_385_5 : laH 5 385 = 30 := by show 29 + bI (355 < (385 : Int)) = 30; rw [bI_t (by decide)]; rfl
theorem laH_385_6 : laH 6 385 = 29 := rfl
theorem laH_385_7 : laH 7 385 = 30 := rfl
theorem laH_385_8 : laH 8 385 = 29 := rfl
theorem laH_385_9 : laH 9 385 = 30 := rfl
theorem laH_385_10 : laH 10 385 = 29 := rfl
theorem laH_385_11 : laH 11 385 = 30 := rfl
theorem laH_385_12 : laH 12 385 = 29 := rfl
theorem cmH_385 : cm (fun j => laH (j : Int) 385) 13 = 385 := by
  show (((((((((((((0 + laH 0 385) + laH 1 385) + laH 2 385) + laH 3 385) + laH 4 385) + laH 5 385) + laH 6 385) + laH 7 385) + laH 8 385) + laH 9 385) + laH 10 385) + laH 11 385) + laH 12 385) = 385
  rw [laH_385_0, laH_385_1, laH_385_2, laH_385_3, laH_385_4, laH_385_5, laH_385_6, laH_385_7, laH_385_8, laH_385_9, laH_385_10, laH_385_11, laH_385_12]
  rfl
theorem laH_rng (pl d : Int) : 29 ≤ laH pl d ∧ laH pl d ≤ 30 := by
  unfold laH mlH
  have h1 := bI_01 (d = 355 ∨ d = 385)
  have h2 := bI_01 (d = 353 ∨ d = 383)
  have h3 := bI_01 (355 < d)
  split
  · omega
  · split
    · omega
    · split
      · omega
      · split <;> omega
theorem cmS_const (v : Int) : ∀ n : Nat, cm (fun _ => v) n = n * v
  | 0 => by simp [cm]
  | n + 1 => by
    show cm (fun _ => v) n + v = _
    rw [cmS_const v n, show ((n + 1 : Nat) : Int) = (n : Int) + 1 by omega, Int.add_mul]
    omega
theorem cm_bump {f : Nat → Int} {lp : Int} {A : Prop} (h0 : 0 ≤ lp) : ∀ n : Nat, cm (fun j => f j + bI ((j : Int) = lp ∧ A)) n = cm f n + bI (lp < n ∧ A)
  | 0 => by rw [bI_f (by omega)]; rfl
  | n + 1 => by
    show cm (fun j => f j + bI ((j : Int) = lp ∧ A)) n + (f n + bI ((n : Int) = lp ∧ A)) = cm f n + f n + _
    rw [cm_bump h0 n]
    by_cases hA : A
    · by_cases h1 : (n : Int) = lp
      · rw [bI_f (by omega), bI_t ⟨h1, hA⟩, bI_t ⟨by omega, hA⟩]; omega
      · by_cases h2 : lp < n
        · rw [bI_t ⟨h2, hA⟩, bI_f (by omega), bI_t ⟨by omega, hA⟩]; omega
        · rw [bI_f (by omega), bI_f (by omega), bI_f (by omega)]; omega
    · rw [bI_f (fun q => hA q.2), bI_f (fun q => hA q.2), bI_f (fun q => hA q.2)]; omega
/-- what every calendar of years keeps: its years follow each other, its months fill them -/
def Cok (S nm : Int → Int) (ma la : Int → Int → Int) (co ya : Int → Int) : Prop :=
  Inc S ∧ (∀ y, S (y + 1) - S y ≤ 2000) ∧
  (∀ y, 1 ≤ nm (S (y + 1) - S y) ∧ nm (S (y + 1) - S y) ≤ 60 ∧ (∀ j : Nat, (j : Int) < nm (S (y + 1) - S y) → (1 ≤ la j (S (y + 1) - S y) ∧ la j (S (y + 1) - S y) ≤ 60) ∧ 0 ≤ ma j (S (y + 1) - S y) ∧ ma j (S (y + 1) - S y) ≤ 127) ∧ cm (fun j => la j (S (y + 1) - S y)) (nm (S (y + 1) - S y)).toNat = S (y + 1) - S y) ∧
  S (-67108864) ≤ -50000000 ∧ 50000000 ≤ S 67108864 ∧
  (∀ y, -300000000 ≤ y ∧ y ≤ 300000000 → -5000010000000 ≤ S y ∧ S y ≤ 5000010000000) ∧
  (∀ y, (y - 1 ≤ co y ∧ co y ≤ y + 1) ∧ y - 1 ≤ ya y ∧ ya y ≤ y + 1)
def cM (lp ep pd : Int) (fn fl : Nat → Int) (n : Nat) : Prop := (-1000000 ≤ ep ∧ ep ≤ 1000000) ∧ (1 ≤ pd ∧ pd ≤ 1000) ∧ (0 ≤ lp ∧ lp < n) ∧ (1 ≤ n ∧ n ≤ 20) ∧ (∀ j, j < n → 1 ≤ fl j ∧ fl j ≤ 40) ∧ (∀ j, j < 20 → 0 ≤ fn j ∧ fn j ≤ 20) ∧ cm fl n = pd
theorem ys_rng {D : va_G} {q : Nat} {P : Int → Prop} {L : Int → Int} {U : State} (h : RuleAt D q P L U) {ep pd y : Int} (h1 : -1000000 ≤ ep ∧ ep ≤ 1000000) (h2 : 1 ≤ pd ∧ pd ≤ 1000) (hy : -900000000 ≤ y ∧ y ≤ 900000000) : -5000000000000 ≤ ys ep pd L y ∧ ys ep pd L y ≤ 5000000000000 := by
  have q1 := h.rng (y := y) (by omega)
  have q2 := h.rng (y := 1) (by omega)
  have q3 : -900000001000 ≤ pd * (y - 1) ∧ pd * (y - 1) ≤ 900000001000 := by
    have a1 := Int.mul_le_mul_of_nonneg_left (show y - 1 ≤ 900000000 by omega) (show 0 ≤ pd by omega)
    have a2 := Int.mul_le_mul_of_nonneg_left (show -900000001 ≤ y - 1 by omega) (show 0 ≤ pd by omega)
    omega
  unfold ys
  omega
theorem Cok.month {D : va_G} {q : Nat} {P : Int → Prop} {L : Int → Int} {U : State} (h : RuleAt D q P L U) {lp ep pd : Int} {fn fl : Nat → Int} {n : Nat} (hc : cM lp ep pd fn fl n) (H0 : Prop) :
    Cok (ys ep pd L) (fun _ => (n : Int)) (fun pl _ => fn pl.toNat) (laM lp pd fl) (coM H0) (yaM H0) := by
  obtain ⟨h1, h2, h3, h4, h5, h6, h7⟩ := hc
  have hI : Inc (ys ep pd L) := ys_inc h2.1 h.step
  have hs : ∀ y, ys ep pd L (y + 1) - ys ep pd L y = pd + bI (P y) := fun y => by rw [ys_step h.step]; omega
  have e1 := ys_1 ep pd L
  refine ⟨hI, fun y => ?_, fun y => ⟨by dsimp only; omega, by dsimp only; omega, fun j hj => ⟨?_, ?_⟩, ?_⟩, ?_, ?_, fun y hy => ?_, fun y => ?_⟩
  · rw [hs]; have := bI_01 (P y); omega
  · have hj : (j : Int) < n := hj
    have := h5 j (by omega)
    have b := bI_01 ((j : Int) = lp ∧ pd < ys ep pd L (y + 1) - ys ep pd L y)
    unfold laM
    rw [show ((j : Int)).toNat = j by omega]
    omega
  · show 0 ≤ fn (j : Int).toNat ∧ fn (j : Int).toNat ≤ 127
    rw [show ((j : Int)).toNat = j by omega]
    have hj : (j : Int) < n := hj
    have := h6 j (by omega)
    omega
  · rw [hs]
    have e : (fun j : Nat => laM lp pd fl j (pd + bI (P y))) = fun j => fl j + bI ((j : Int) = lp ∧ P y) := by
      funext j
      unfold laM
      rw [show ((j : Int)).toNat = j by omega]
      congr 1
      refine bI_iff ⟨fun z => ⟨z.1, Classical.byContradiction fun hn => ?_⟩, fun z => ⟨z.1, ?_⟩⟩
      · have := z.2; rw [bI_f hn] at this; omega
      · rw [bI_t z.2]; omega
    rw [e, show ((n : Int)).toNat = n by omega, cm_bump h3.1 n, h7]
    congr 1
    exact bI_iff ⟨fun z => z.2, fun z => ⟨h3.2, z⟩⟩
  · have := hI.gap (show (-67108864 : Int) ≤ 1 by decide); omega
  · have := hI.gap (show (1 : Int) ≤ 67108864 by decide); omega
  · have := ys_rng h h1 h2 (y := y) (by omega); omega
  · unfold coM yaM
    have := bI_01 (¬ H0 ∧ y ≤ 0)
    omega
theorem Cok.week {D : va_G} {q : Nat} {P : Int → Prop} {L : Int → Int} {U : State} (h : RuleAt D q P L U) {ep : Int} (h1 : -1000000 ≤ ep ∧ ep ≤ 1000000) :
    Cok (wst (ys ep 365 L)) (fun d => Int.tdiv d 7) (fun pl _ => pl + 1) (fun _ _ => 7) (fun y => y) (fun y => y) := by
  have hs : ∀ y, ys ep 365 L (y + 1) = ys ep 365 L y + 365 + bI (P y) := fun y => ys_step h.step y
  have hI : Inc (ys ep 365 L) := ys_inc (by decide) h.step
  have hl : ∀ y, wst (ys ep 365 L) (y + 1) - wst (ys ep 365 L) y = 364 ∨ wst (ys ep 365 L) (y + 1) - wst (ys ep 365 L) y = 371 := fun y => by
    have := bI_01 (P y)
    have := wst_len (S := ys ep 365 L) y (by rw [hs]; omega) (by rw [hs]; omega)
    omega
  have e1 := ys_1 ep 365 L
  refine ⟨fun y => by have := hl y; omega, fun y => by have := hl y; omega, fun y => ?_, ?_, ?_, fun y hy => ?_, fun y => by dsimp only; omega⟩
  · rcases hl y with e | e <;> rw [e]
    · refine ⟨by decide, by decide, fun j hj => ⟨by dsimp only; decide, ?_⟩, ?_⟩
      · show 0 ≤ (j : Int) + 1 ∧ (j : Int) + 1 ≤ 127
        have : (j : Int) < 52 := hj
        omega
      · show cm (fun _ => 7) 52 = 364
        rw [cmS_const]; rfl
    · refine ⟨by decide, by decide, fun j hj => ⟨by dsimp only; decide, ?_⟩, ?_⟩
      · show 0 ≤ (j : Int) + 1 ∧ (j : Int) + 1 ≤ 127
        have : (j : Int) < 53 := hj
        omega
      · show cm (fun _ => 7) 53 = 371
        rw [cmS_const]; rfl
  · have := hI.gap (show (-67108864 : Int) ≤ 1 by decide); unfold wst; omega
  · have := hI.gap (show (1 : Int) ≤ 67108864 by decide); unfold wst; omega
  · have := ys_rng h h1 (pd := 365) (by omega) (y := y) (by omega); unfold wst; omega
theorem Cok.moon : Cok hst nmH maH laH (fun y => y) (fun y => y) := by
  have hr := hst_rng (y := 1) (by omega)
  have key : ∀ y, (hst (y + 1) - hst y = 353 ∨ hst (y + 1) - hst y = 354 ∨ hst (y + 1) - hst y = 355) ∨ (hst (y + 1) - hst y = 383 ∨ hst (y + 1) - hst y = 384 ∨ hst (y + 1) - hst y = 385) := fun y => by
    have := hst_len y; omega
  refine ⟨hst_inc, fun y => by have := key y; omega, fun y => ?_, ?_, ?_, fun y hy => ?_, fun y => by dsimp only; omega⟩
  · have nl : ∀ d : Int, d ≤ 355 → nmH d = 12 := fun d h => by unfold nmH; rw [bI_f (by omega)]; rfl
    have ng : ∀ d : Int, 355 < d → nmH d = 13 := fun d h => by unfold nmH; rw [bI_t h]; rfl
    have gen : ∀ d : Int, 1 ≤ nmH d ∧ nmH d ≤ 60 ∧ ∀ j : Nat, (j : Int) < nmH d → (1 ≤ laH j d ∧ laH j d ≤ 60) ∧ 0 ≤ maH j d ∧ maH j d ≤ 127 := fun d => by
      refine ⟨?_, ?_, fun j hj => ⟨?_, ?_⟩⟩
      · unfold nmH; have := bI_01 (355 < d); omega
      · unfold nmH; have := bI_01 (355 < d); omega
      · have := laH_rng j d; omega
      · have := maH_rng (pl := j) (d := d) ⟨by omega, hj⟩; omega
    rcases key y with (e | e | e) | (e | e | e) <;> rw [e] <;> refine ⟨(gen _).1, (gen _).2.1, (gen _).2.2, ?_⟩
    · rw [nl _ (by decide)]; exact cmH_353
    · rw [nl _ (by decide)]; exact cmH_354
    · rw [nl _ (by decide)]; exact cmH_355
    · rw [ng _ (by decide)]; exact cmH_383
    · rw [ng _ (by decide)]; exact cmH_384
    · rw [ng _ (by decide)]; exact cmH_385
  · unfold hst hla
    have a := bI_01 ((3 * hea (hmo (-67108864)) + 3) % 7 < 3)
    have b : hel (-67108864) ≤ -20000000000 := by unfold hel hpo; unfold hea hmo at a ⊢; omega
    split
    · omega
    · split <;> omega
  · unfold hst hla
    have a := bI_01 ((3 * hea (hmo 67108864) + 3) % 7 < 3)
    have b : 20000000000 ≤ hel 67108864 := by unfold hel hpo; unfold hea hmo at a ⊢; omega
    split
    · omega
    · split <;> omega
  · have a := bI_01 ((3 * hea (hmo y) + 3) % 7 < 3)
    have b : -1000000000000 ≤ hel y ∧ hel y ≤ 1000000000000 := by unfold hel hpo; unfold hea hmo at a ⊢; omega
    unfold hst hla
    split
    · omega
    · split <;> omega
end
section
/-! 21.yc: laid by program (wip/whole) -/
/-- a calendar of years at the address a: what it answers (S: the start of a year, nm: months in a year of so many days, ma, la: a place's month and length, co, ya: from years to the count and back, hy: which years it has) -/
def YC (D : va_G) (a : Nat) (S nm : Int → Int) (ma la : Int → Int → Int) (co ya : Int → Int) (hy : Int → Prop) (U : State) : Prop :=
  (∃ (nu le ru : Nat) (lp ep pd : Int) (H0 : Prop) (P : Int → Prop) (L : Int → Int) (fn fl : Nat → Int) (n : Nat), (cM lp ep pd fn fl n ∧ S = ys ep pd L ∧ nm = (fun _ => (n : Int)) ∧ ma = (fun pl _ => fn pl.toNat) ∧ la = laM lp pd fl ∧ co = coM H0 ∧ ya = yaM H0 ∧ hy = fun y => H0 ∨ y ≠ 0) ∧ MonB D a nu le ru lp ep pd H0 P L fn fl n U) ∨
  ((∃ (z nu le ru : Nat) (lp ep : Int) (H0 : Prop) (P : Int → Prop) (L : Int → Int) (fn fl : Nat → Int) (n : Nat), (cM lp ep 365 fn fl n ∧ S = wst (ys ep 365 L) ∧ nm = (fun d => Int.tdiv d 7) ∧ ma = (fun pl _ => pl + 1) ∧ la = (fun _ _ => 7) ∧ co = (fun y => y) ∧ ya = (fun y => y) ∧ hy = fun _ => True) ∧ WkB D a z nu le ru lp ep 365 H0 P L fn fl n U) ∨
   ((S = hst ∧ nm = nmH ∧ ma = maH ∧ la = laH ∧ co = (fun y => y) ∧ ya = (fun y => y) ∧ hy = fun _ => True) ∧ OB D [(a, .inr (3, []))] U))
section YCs
variable {D : va_G} {a : Nat} {S nm : Int → Int} {ma la : Int → Int → Int} {co ya : Int → Int} {hy : Int → Prop}
theorem YC.m : Bm (YC D a S nm ma la co ya hy) :=
  Bm.or (Bm.ex fun _ => Bm.ex fun _ => Bm.ex fun _ => Bm.ex fun _ => Bm.ex fun _ => Bm.ex fun _ => Bm.ex fun _ => Bm.ex fun _ => Bm.ex fun _ => Bm.ex fun _ => Bm.ex fun _ => Bm.ex fun _ => Bm.and Bm.c MonB.m) (Bm.or (Bm.ex fun _ => Bm.ex fun _ => Bm.ex fun _ => Bm.ex fun _ => Bm.ex fun _ => Bm.ex fun _ => Bm.ex fun _ => Bm.ex fun _ => Bm.ex fun _ => Bm.ex fun _ => Bm.ex fun _ => Bm.ex fun _ => Bm.and Bm.c WkB.m) (Bm.and Bm.c OB.m))
theorem YC.ok {U : State} (h : YC D a S nm ma la co ya hy U) : Cok S nm ma la co ya := by
  rcases h with ⟨nu, le, ru, lp, ep, pd, H0, P, L, fn, fl, n, ⟨hc, rfl, rfl, rfl, rfl, rfl, rfl, -⟩, hM⟩ | ⟨z, nu, le, ru, lp, ep, H0, P, L, fn, fl, n, ⟨hc, rfl, rfl, rfl, rfl, rfl, rfl, -⟩, hM⟩ | ⟨⟨rfl, rfl, rfl, rfl, rfl, rfl, -⟩, hM⟩
  · exact Cok.month hM.2.1 hc H0
  · exact Cok.week hM.2.2.1 hc.1
  · exact Cok.moon
theorem YC.recv {s : State} (h : YC D a S nm ma la co ya hy s) : ∃ (C : String) (n : Nat), Cond.instantiable C n ∈ gw ∧ ∃ cellB : Cell, s.heap[a]? = some cellB ∧ cellB.vm.isStatics = false ∧ s.vm.findClass C = some cellB.cls := by
  rcases h with ⟨nu, le, ru, lp, ep, pd, H0, P, L, fn, fl, n, -, hM⟩ | ⟨z, nu, le, ru, lp, ep, H0, P, L, fn, fl, n, -, hM⟩ | ⟨-, hM⟩
  · exact ⟨"DayBook$MonthCalendar", 7, k_41, hM.1.recv 0 rfl rfl⟩
  · exact ⟨"DayBook$WeekCalendar", 1, k_122, hM.1.recv 0 rfl rfl⟩
  · exact ⟨"DayBook$HebrewCalendar", 0, k_113, hM.recv 0 rfl rfl⟩
end YCs
theorem cs_YS {p : Program} {l : Launch} {e : Env} {R : Room} {s : State} {m : MethodId} {args : Array Value} {below : List Frame} {meth : Method} {c : Code} {cells slots : Nat} {Q : State → Prop} {cc : ByteArray} {pc : Nat} {ls : Array Slot} {rest : List Value} {nL : Nat} {D : va_G} {a : Nat} {S nm : Int → Int} {ma la : Int → Int → Int} {co ya : Int → Int} {hy : Int → Prop} {y : Int} (hY : YC D a S nm ma la co ya hy s) (ry : -900000000 ≤ y ∧ y ≤ 900000000) (F : p.tables.exec = Jvm.exec ∧ c.code = cc ∧ c.maxLocals = nL ∧ s.vm.findClass "DayBook$YearCalendar" = some m.cls ∧ (∀ w ∈ gw, w.before args s = true) ∧ NV s) (hsz : ls.size = nL) (hRm : 4 ≤ R.frames ∧ 97 ≤ R.locals) (hw : (rest.map fun v => v.category).sum ≤ 8) (hdg : decode cc pc = .ok (.invokevirtual 23, 3)) (hf : cells ≤ R.cells ∧ slots ≤ R.slots)
    (kk : W p l e R s m args below meth c s.heap [] cells slots Q (F0 m (pc + 3) ls (.long (iL (S y)) :: rest))) : W p l e R s m args below meth c s.heap [] cells slots Q (F0 m pc ls (.long (iL y) :: .ref a :: rest)) := by
  rcases hY with ⟨nu, le, ru, lp, ep, pd, H0, P, L, fn, fl, n, ⟨hc, rfl, rfl, rfl, rfl, rfl, rfl, rfl⟩, hM⟩ | ⟨z, nu, le, ru, lp, ep, H0, P, L, fn, fl, n, ⟨hc, rfl, rfl, rfl, rfl, rfl, rfl, rfl⟩, hM⟩ | ⟨⟨rfl, rfl, rfl, rfl, rfl, rfl, rfl⟩, hM⟩
  · obtain ⟨c1, c2, c3, c4, c5, c6, c7⟩ := hc
    exact ro_U (rest := rest) (ct_MC_yearStart l D a nu le ru lp ep pd H0 P L fn fl n y (by omega) (by omega)) j_MC_yearStart k_527 k_529 (F.2.2.2.2.1 _ k_555) (va_Decl.abs (F.2.2.2.2.2.get 528 (by decide +kernel) (by decide +kernel))) ⟨by decide +kernel, by decide +kernel, by decide +kernel⟩ F (hM.1.recv 0 rfl rfl) rfl hsz rfl ⟨by omega, by omega⟩ hw hdg hf MonB.m (fun U h1 h2 => MonB.m.2 s U h1 h2 hM) kk
  · obtain ⟨c1, c2, c3, c4, c5, c6, c7⟩ := hc
    exact ro_U (rest := rest) (ct_WC_yearStart l D a z nu le ru lp ep 365 H0 P L fn fl n y (by omega) (by omega) (by omega)) j_WC_yearStart k_527 k_529 (F.2.2.2.2.1 _ k_584) (va_Decl.abs (F.2.2.2.2.2.get 528 (by decide +kernel) (by decide +kernel))) ⟨by decide +kernel, by decide +kernel, by decide +kernel⟩ F (hM.1.recv 0 rfl rfl) rfl hsz rfl ⟨by omega, by omega⟩ hw hdg hf WkB.m (fun U h1 h2 => WkB.m.2 s U h1 h2 hM) kk
  · exact ro_U (rest := rest) (ct_HC_yearStart l a y (by omega)) j_HC_yearStart k_527 k_529 (F.2.2.2.2.1 _ k_530) (va_Decl.abs (F.2.2.2.2.2.get 528 (by decide +kernel) (by decide +kernel))) ⟨by decide +kernel, by decide +kernel, by decide +kernel⟩ F (hM.recv 0 rfl rfl) rfl hsz rfl ⟨by omega, by omega⟩ hw hdg hf Bm_true (fun _ _ _ => trivial) kk
theorem cs_NM {p : Program} {l : Launch} {e : Env} {R : Room} {s : State} {m : MethodId} {args : Array Value} {below : List Frame} {meth : Method} {c : Code} {cells slots : Nat} {Q : State → Prop} {cc : ByteArray} {pc : Nat} {ls : Array Slot} {rest : List Value} {nL : Nat} {D : va_G} {a : Nat} {S nm : Int → Int} {ma la : Int → Int → Int} {co ya : Int → Int} {hy : Int → Prop} {d : Int} (hY : YC D a S nm ma la co ya hy s) (rd : -2147483648 ≤ d ∧ d ≤ 2147483647) (F : p.tables.exec = Jvm.exec ∧ c.code = cc ∧ c.maxLocals = nL ∧ s.vm.findClass "DayBook$YearCalendar" = some m.cls ∧ (∀ w ∈ gw, w.before args s = true) ∧ NV s) (hsz : ls.size = nL) (hRm : 2 ≤ R.frames ∧ 41 ≤ R.locals) (hw : (rest.map fun v => v.category).sum ≤ 8) (hdg : decode cc pc = .ok (.invokevirtual 19, 3)) (hf : cells ≤ R.cells ∧ slots ≤ R.slots)
    (kk : W p l e R s m args below meth c s.heap [] cells slots Q (F0 m (pc + 3) ls (.int (iI (nm d)) :: rest))) : W p l e R s m args below meth c s.heap [] cells slots Q (F0 m pc ls (.int (iI d) :: .ref a :: rest)) := by
  rcases hY with ⟨nu, le, ru, lp, ep, pd, H0, P, L, fn, fl, n, ⟨hc, rfl, rfl, rfl, rfl, rfl, rfl, rfl⟩, hM⟩ | ⟨z, nu, le, ru, lp, ep, H0, P, L, fn, fl, n, ⟨hc, rfl, rfl, rfl, rfl, rfl, rfl, rfl⟩, hM⟩ | ⟨⟨rfl, rfl, rfl, rfl, rfl, rfl, rfl⟩, hM⟩
  · obtain ⟨c1, c2, c3, c4, c5, c6, c7⟩ := hc
    exact ro_U (rest := rest) (ct_MC_monthsIn l D a nu le ru lp ep pd H0 P L fn fl n d) j_MC_monthsIn k_596 k_598 (F.2.2.2.2.1 _ k_605) (va_Decl.abs (F.2.2.2.2.2.get 597 (by decide +kernel) (by decide +kernel))) ⟨by decide +kernel, by decide +kernel, by decide +kernel⟩ F (hM.1.recv 0 rfl rfl) rfl hsz rfl ⟨by omega, by omega⟩ hw hdg hf MonB.m (fun U h1 h2 => MonB.m.2 s U h1 h2 hM) kk
  · obtain ⟨c1, c2, c3, c4, c5, c6, c7⟩ := hc
    exact ro_U (rest := rest) (ct_WC_monthsIn l a d (by omega)) j_WC_monthsIn k_596 k_598 (F.2.2.2.2.1 _ k_608) (va_Decl.abs (F.2.2.2.2.2.get 597 (by decide +kernel) (by decide +kernel))) ⟨by decide +kernel, by decide +kernel, by decide +kernel⟩ F (hM.1.recv 0 rfl rfl) rfl hsz rfl ⟨by omega, by omega⟩ hw hdg hf Bm_true (fun _ _ _ => trivial) kk
  · exact ro_U (rest := rest) (ct_HC_monthsIn l a d (by omega)) j_HC_monthsIn k_596 k_598 (F.2.2.2.2.1 _ k_599) (va_Decl.abs (F.2.2.2.2.2.get 597 (by decide +kernel) (by decide +kernel))) ⟨by decide +kernel, by decide +kernel, by decide +kernel⟩ F (hM.recv 0 rfl rfl) rfl hsz rfl ⟨by omega, by omega⟩ hw hdg hf Bm_true (fun _ _ _ => trivial) kk
theorem cs_LA {p : Program} {l : Launch} {e : Env} {R : Room} {s : State} {m : MethodId} {args : Array Value} {below : List Frame} {meth : Method} {c : Code} {cells slots : Nat} {Q : State → Prop} {cc : ByteArray} {pc : Nat} {ls : Array Slot} {rest : List Value} {nL : Nat} {D : va_G} {a : Nat} {S nm : Int → Int} {ma la : Int → Int → Int} {co ya : Int → Int} {hy : Int → Prop} {pl : Int} {d : Int} (hY : YC D a S nm ma la co ya hy s) (hp : 0 ≤ pl ∧ pl < nm d) (rd : -2147483648 ≤ d ∧ d ≤ 2147483647) (F : p.tables.exec = Jvm.exec ∧ c.code = cc ∧ c.maxLocals = nL ∧ s.vm.findClass "DayBook$YearCalendar" = some m.cls ∧ (∀ w ∈ gw, w.before args s = true) ∧ NV s) (hsz : ls.size = nL) (hRm : 3 ≤ R.frames ∧ 64 ≤ R.locals) (hw : (rest.map fun v => v.category).sum ≤ 8) (hdg : decode cc pc = .ok (.invokevirtual 26, 3)) (hf : cells ≤ R.cells ∧ slots ≤ R.slots)
    (kk : W p l e R s m args below meth c s.heap [] cells slots Q (F0 m (pc + 3) ls (.int (iI (la pl d)) :: rest))) : W p l e R s m args below meth c s.heap [] cells slots Q (F0 m pc ls (.int (iI d) :: .int (iI pl) :: .ref a :: rest)) := by
  rcases hY with ⟨nu, le, ru, lp, ep, pd, H0, P, L, fn, fl, n, ⟨hc, rfl, rfl, rfl, rfl, rfl, rfl, rfl⟩, hM⟩ | ⟨z, nu, le, ru, lp, ep, H0, P, L, fn, fl, n, ⟨hc, rfl, rfl, rfl, rfl, rfl, rfl, rfl⟩, hM⟩ | ⟨⟨rfl, rfl, rfl, rfl, rfl, rfl, rfl⟩, hM⟩
  · obtain ⟨c1, c2, c3, c4, c5, c6, c7⟩ := hc
    exact ro_U (rest := rest) (ct_MC_lengthAt l D a nu le ru lp ep pd H0 P L fn fl n pl d ⟨hp.1, by have h := hp.2; dsimp only at h; omega⟩ (by omega) (by omega) (by omega) (by omega)) j_MC_lengthAt k_611 k_613 (F.2.2.2.2.1 _ k_621) (va_Decl.abs (F.2.2.2.2.2.get 612 (by decide +kernel) (by decide +kernel))) ⟨by decide +kernel, by decide +kernel, by decide +kernel⟩ F (hM.1.recv 0 rfl rfl) rfl hsz rfl ⟨by omega, by omega⟩ hw hdg hf MonB.m (fun U h1 h2 => MonB.m.2 s U h1 h2 hM) kk
  · obtain ⟨c1, c2, c3, c4, c5, c6, c7⟩ := hc
    exact ro_U (rest := rest) (ct_WC_lengthAt l a pl d) j_WC_lengthAt k_611 k_613 (F.2.2.2.2.1 _ k_624) (va_Decl.abs (F.2.2.2.2.2.get 612 (by decide +kernel) (by decide +kernel))) ⟨by decide +kernel, by decide +kernel, by decide +kernel⟩ F (hM.1.recv 0 rfl rfl) rfl hsz rfl ⟨by omega, by omega⟩ hw hdg hf Bm_true (fun _ _ _ => trivial) kk
  · exact ro_U (rest := rest) (ct_HC_lengthAt l D a pl d hp (by omega)) j_HC_lengthAt k_611 k_613 (F.2.2.2.2.1 _ k_614) (va_Decl.abs (F.2.2.2.2.2.get 612 (by decide +kernel) (by decide +kernel))) ⟨by decide +kernel, by decide +kernel, by decide +kernel⟩ F (hM.recv 0 rfl rfl) rfl hsz rfl ⟨by omega, by omega⟩ hw hdg hf OB.m (fun U h1 h2 => OB.m.2 s U h1 h2 hM) kk
theorem cs_MA {p : Program} {l : Launch} {e : Env} {R : Room} {s : State} {m : MethodId} {args : Array Value} {below : List Frame} {meth : Method} {c : Code} {cells slots : Nat} {Q : State → Prop} {cc : ByteArray} {pc : Nat} {ls : Array Slot} {rest : List Value} {nL : Nat} {D : va_G} {a : Nat} {S nm : Int → Int} {ma la : Int → Int → Int} {co ya : Int → Int} {hy : Int → Prop} {pl : Int} {d : Int} (hY : YC D a S nm ma la co ya hy s) (hp : 0 ≤ pl ∧ pl < nm d) (rd : -2147483648 ≤ d ∧ d ≤ 2147483647) (F : p.tables.exec = Jvm.exec ∧ c.code = cc ∧ c.maxLocals = nL ∧ s.vm.findClass "DayBook$YearCalendar" = some m.cls ∧ (∀ w ∈ gw, w.before args s = true) ∧ NV s) (hsz : ls.size = nL) (hRm : 2 ≤ R.frames ∧ 42 ≤ R.locals) (hw : (rest.map fun v => v.category).sum ≤ 8) (hdg : decode cc pc = .ok (.invokevirtual 33, 3)) (hf : cells ≤ R.cells ∧ slots ≤ R.slots)
    (kk : W p l e R s m args below meth c s.heap [] cells slots Q (F0 m (pc + 3) ls (.int (iI (ma pl d)) :: rest))) : W p l e R s m args below meth c s.heap [] cells slots Q (F0 m pc ls (.int (iI d) :: .int (iI pl) :: .ref a :: rest)) := by
  rcases hY with ⟨nu, le, ru, lp, ep, pd, H0, P, L, fn, fl, n, ⟨hc, rfl, rfl, rfl, rfl, rfl, rfl, rfl⟩, hM⟩ | ⟨z, nu, le, ru, lp, ep, H0, P, L, fn, fl, n, ⟨hc, rfl, rfl, rfl, rfl, rfl, rfl, rfl⟩, hM⟩ | ⟨⟨rfl, rfl, rfl, rfl, rfl, rfl, rfl⟩, hM⟩
  · obtain ⟨c1, c2, c3, c4, c5, c6, c7⟩ := hc
    exact ro_U (rest := rest) (ct_MC_monthAt l D a nu le ru lp ep pd H0 P L fn fl n pl d ⟨hp.1, by have h := hp.2; dsimp only at h; omega⟩) j_MC_monthAt k_636 k_638 (F.2.2.2.2.1 _ k_640) (va_Decl.abs (F.2.2.2.2.2.get 637 (by decide +kernel) (by decide +kernel))) ⟨by decide +kernel, by decide +kernel, by decide +kernel⟩ F (hM.1.recv 0 rfl rfl) rfl hsz rfl ⟨by omega, by omega⟩ hw hdg hf MonB.m (fun U h1 h2 => MonB.m.2 s U h1 h2 hM) kk
  · obtain ⟨c1, c2, c3, c4, c5, c6, c7⟩ := hc
    exact ro_U (rest := rest) (ct_WC_monthAt l a pl d) j_WC_monthAt k_636 k_638 (F.2.2.2.2.1 _ k_643) (va_Decl.abs (F.2.2.2.2.2.get 637 (by decide +kernel) (by decide +kernel))) ⟨by decide +kernel, by decide +kernel, by decide +kernel⟩ F (hM.1.recv 0 rfl rfl) rfl hsz rfl ⟨by omega, by omega⟩ hw hdg hf Bm_true (fun _ _ _ => trivial) kk
  · exact ro_U (rest := rest) (ct_HC_monthAt l a pl d ⟨hp.1, by have h := hp.2; unfold nmH at h; have := bI_01 (355 < d); omega⟩ (by omega)) j_HC_monthAt k_636 k_638 (F.2.2.2.2.1 _ k_639) (va_Decl.abs (F.2.2.2.2.2.get 637 (by decide +kernel) (by decide +kernel))) ⟨by decide +kernel, by decide +kernel, by decide +kernel⟩ F (hM.recv 0 rfl rfl) rfl hsz rfl ⟨by omega, by omega⟩ hw hdg hf Bm_true (fun _ _ _ => trivial) kk
theorem cs_YA {p : Program} {l : Launch} {e : Env} {R : Room} {s : State} {m : MethodId} {args : Array Value} {below : List Frame} {meth : Method} {c : Code} {cells slots : Nat} {Q : State → Prop} {cc : ByteArray} {pc : Nat} {ls : Array Slot} {rest : List Value} {nL : Nat} {D : va_G} {a : Nat} {S nm : Int → Int} {ma la : Int → Int → Int} {co ya : Int → Int} {hy : Int → Prop} {y : Int} (hY : YC D a S nm ma la co ya hy s) (ry : -900000000 ≤ y ∧ y ≤ 900000000) (F : p.tables.exec = Jvm.exec ∧ c.code = cc ∧ c.maxLocals = nL ∧ s.vm.findClass "DayBook$YearCalendar" = some m.cls ∧ (∀ w ∈ gw, w.before args s = true) ∧ NV s) (hsz : ls.size = nL) (hRm : 1 ≤ R.frames ∧ 22 ≤ R.locals) (hw : (rest.map fun v => v.category).sum ≤ 8) (hdg : decode cc pc = .ok (.invokevirtual 30, 3)) (hf : cells ≤ R.cells ∧ slots ≤ R.slots)
    (kk : W p l e R s m args below meth c s.heap [] cells slots Q (F0 m (pc + 3) ls (.long (iL (ya y)) :: rest))) : W p l e R s m args below meth c s.heap [] cells slots Q (F0 m pc ls (.long (iL y) :: .ref a :: rest)) := by
  rcases hY with ⟨nu, le, ru, lp, ep, pd, H0, P, L, fn, fl, n, ⟨hc, rfl, rfl, rfl, rfl, rfl, rfl, rfl⟩, hM⟩ | ⟨z, nu, le, ru, lp, ep, H0, P, L, fn, fl, n, ⟨hc, rfl, rfl, rfl, rfl, rfl, rfl, rfl⟩, hM⟩ | ⟨⟨rfl, rfl, rfl, rfl, rfl, rfl, rfl⟩, hM⟩
  · obtain ⟨c1, c2, c3, c4, c5, c6, c7⟩ := hc
    exact ro_U (rest := rest) (ct_MC_yearAt l D a nu le ru lp ep pd H0 P L fn fl n y (by omega)) j_MC_yearAt k_627 k_629 (F.2.2.2.2.1 _ k_631) (va_Decl.of (F.2.2.2.2.1 _ j_Y_yearAt.2.2.1) (F.2.2.2.2.1 _ j_Y_yearAt.1)) ⟨by decide +kernel, by decide +kernel, by decide +kernel⟩ F (hM.1.recv 0 rfl rfl) rfl hsz rfl ⟨by omega, by omega⟩ hw hdg hf MonB.m (fun U h1 h2 => MonB.m.2 s U h1 h2 hM) kk
  · obtain ⟨c1, c2, c3, c4, c5, c6, c7⟩ := hc
    exact ro_U (rest := rest) (ct_Y_yearAt l a y) j_Y_yearAt k_627 k_629 (F.2.2.2.2.1 _ k_634) (va_Decl.of (F.2.2.2.2.1 _ j_Y_yearAt.2.2.1) (F.2.2.2.2.1 _ j_Y_yearAt.1)) ⟨by decide +kernel, by decide +kernel, by decide +kernel⟩ F (hM.1.recv 0 rfl rfl) rfl hsz rfl ⟨by omega, by omega⟩ hw hdg hf Bm_true (fun _ _ _ => trivial) kk
  · exact ro_U (rest := rest) (ct_Y_yearAt l a y) j_Y_yearAt k_627 k_629 (F.2.2.2.2.1 _ k_630) (va_Decl.of (F.2.2.2.2.1 _ j_Y_yearAt.2.2.1) (F.2.2.2.2.1 _ j_Y_yearAt.1)) ⟨by decide +kernel, by decide +kernel, by decide +kernel⟩ F (hM.recv 0 rfl rfl) rfl hsz rfl ⟨by omega, by omega⟩ hw hdg hf Bm_true (fun _ _ _ => trivial) kk
theorem cs_CO {p : Program} {l : Launch} {e : Env} {R : Room} {s : State} {m : MethodId} {args : Array Value} {below : List Frame} {meth : Method} {c : Code} {cells slots : Nat} {Q : State → Prop} {cc : ByteArray} {pc : Nat} {ls : Array Slot} {rest : List Value} {nL : Nat} {D : va_G} {a : Nat} {S nm : Int → Int} {ma la : Int → Int → Int} {co ya : Int → Int} {hy : Int → Prop} {y : Int} (hY : YC D a S nm ma la co ya hy s) (ry : -900000000 ≤ y ∧ y ≤ 900000000) (F : p.tables.exec = Jvm.exec ∧ c.code = cc ∧ c.maxLocals = nL ∧ s.vm.findClass "DayBook$YearCalendar" = some m.cls ∧ (∀ w ∈ gw, w.before args s = true) ∧ NV s) (hsz : ls.size = nL) (hRm : 1 ≤ R.frames ∧ 22 ≤ R.locals) (hw : (rest.map fun v => v.category).sum ≤ 8) (hdg : decode cc pc = .ok (.invokevirtual 46, 3)) (hf : cells ≤ R.cells ∧ slots ≤ R.slots)
    (kk : W p l e R s m args below meth c s.heap [] cells slots Q (F0 m (pc + 3) ls (.long (iL (co y)) :: rest))) : W p l e R s m args below meth c s.heap [] cells slots Q (F0 m pc ls (.long (iL y) :: .ref a :: rest)) := by
  rcases hY with ⟨nu, le, ru, lp, ep, pd, H0, P, L, fn, fl, n, ⟨hc, rfl, rfl, rfl, rfl, rfl, rfl, rfl⟩, hM⟩ | ⟨z, nu, le, ru, lp, ep, H0, P, L, fn, fl, n, ⟨hc, rfl, rfl, rfl, rfl, rfl, rfl, rfl⟩, hM⟩ | ⟨⟨rfl, rfl, rfl, rfl, rfl, rfl, rfl⟩, hM⟩
  · obtain ⟨c1, c2, c3, c4, c5, c6, c7⟩ := hc
    exact ro_U (rest := rest) (ct_MC_countOf l D a nu le ru lp ep pd H0 P L fn fl n y (by omega)) j_MC_countOf k_719 k_721 (F.2.2.2.2.1 _ k_723) (va_Decl.of (F.2.2.2.2.1 _ j_Y_countOf.2.2.1) (F.2.2.2.2.1 _ j_Y_countOf.1)) ⟨by decide +kernel, by decide +kernel, by decide +kernel⟩ F (hM.1.recv 0 rfl rfl) rfl hsz rfl ⟨by omega, by omega⟩ hw hdg hf MonB.m (fun U h1 h2 => MonB.m.2 s U h1 h2 hM) kk
  · obtain ⟨c1, c2, c3, c4, c5, c6, c7⟩ := hc
    exact ro_U (rest := rest) (ct_Y_countOf l a y) j_Y_countOf k_719 k_721 (F.2.2.2.2.1 _ k_726) (va_Decl.of (F.2.2.2.2.1 _ j_Y_countOf.2.2.1) (F.2.2.2.2.1 _ j_Y_countOf.1)) ⟨by decide +kernel, by decide +kernel, by decide +kernel⟩ F (hM.1.recv 0 rfl rfl) rfl hsz rfl ⟨by omega, by omega⟩ hw hdg hf Bm_true (fun _ _ _ => trivial) kk
  · exact ro_U (rest := rest) (ct_Y_countOf l a y) j_Y_countOf k_719 k_721 (F.2.2.2.2.1 _ k_722) (va_Decl.of (F.2.2.2.2.1 _ j_Y_countOf.2.2.1) (F.2.2.2.2.1 _ j_Y_countOf.1)) ⟨by decide +kernel, by decide +kernel, by decide +kernel⟩ F (hM.recv 0 rfl rfl) rfl hsz rfl ⟨by omega, by omega⟩ hw hdg hf Bm_true (fun _ _ _ => trivial) kk
theorem cs_HY {p : Program} {l : Launch} {e : Env} {R : Room} {s : State} {m : MethodId} {args : Array Value} {below : List Frame} {meth : Method} {c : Code} {cells slots : Nat} {Q : State → Prop} {cc : ByteArray} {pc : Nat} {ls : Array Slot} {rest : List Value} {nL : Nat} {D : va_G} {a : Nat} {S nm : Int → Int} {ma la : Int → Int → Int} {co ya : Int → Int} {hy : Int → Prop} {y : Int} (hY : YC D a S nm ma la co ya hy s) (ry : -900000000 ≤ y ∧ y ≤ 900000000) (F : p.tables.exec = Jvm.exec ∧ c.code = cc ∧ c.maxLocals = nL ∧ s.vm.findClass "DayBook$YearCalendar" = some m.cls ∧ (∀ w ∈ gw, w.before args s = true) ∧ NV s) (hsz : ls.size = nL) (hRm : 1 ≤ R.frames ∧ 22 ≤ R.locals) (hw : (rest.map fun v => v.category).sum ≤ 8) (hdg : decode cc pc = .ok (.invokevirtual 40, 3)) (hf : cells ≤ R.cells ∧ slots ≤ R.slots)
    (kk : W p l e R s m args below meth c s.heap [] cells slots Q (F0 m (pc + 3) ls (.int (iI (bI (hy y))) :: rest))) : W p l e R s m args below meth c s.heap [] cells slots Q (F0 m pc ls (.long (iL y) :: .ref a :: rest)) := by
  rcases hY with ⟨nu, le, ru, lp, ep, pd, H0, P, L, fn, fl, n, ⟨hc, rfl, rfl, rfl, rfl, rfl, rfl, rfl⟩, hM⟩ | ⟨z, nu, le, ru, lp, ep, H0, P, L, fn, fl, n, ⟨hc, rfl, rfl, rfl, rfl, rfl, rfl, rfl⟩, hM⟩ | ⟨⟨rfl, rfl, rfl, rfl, rfl, rfl, rfl⟩, hM⟩
  · obtain ⟨c1, c2, c3, c4, c5, c6, c7⟩ := hc
    exact ro_U (rest := rest) (ct_MC_hasYear l D a nu le ru lp ep pd H0 P L fn fl n y (by omega)) j_MC_hasYear k_710 k_711 (F.2.2.2.2.1 _ k_714) (va_Decl.abs (F.2.2.2.2.2.get 712 (by decide +kernel) (by decide +kernel))) ⟨by decide +kernel, by decide +kernel, by decide +kernel⟩ F (hM.1.recv 0 rfl rfl) rfl hsz rfl ⟨by omega, by omega⟩ hw hdg hf MonB.m (fun U h1 h2 => MonB.m.2 s U h1 h2 hM) kk
  · obtain ⟨c1, c2, c3, c4, c5, c6, c7⟩ := hc
    exact ro_U (rest := rest) (ct_C_hasYear l a y) j_C_hasYear k_710 k_711 (F.2.2.2.2.1 _ k_715) (va_Decl.abs (F.2.2.2.2.2.get 712 (by decide +kernel) (by decide +kernel))) ⟨by decide +kernel, by decide +kernel, by decide +kernel⟩ F (hM.1.recv 0 rfl rfl) rfl hsz rfl ⟨by omega, by omega⟩ hw hdg hf Bm_true (fun _ _ _ => trivial) kk
  · exact ro_U (rest := rest) (ct_C_hasYear l a y) j_C_hasYear k_710 k_711 (F.2.2.2.2.1 _ k_713) (va_Decl.abs (F.2.2.2.2.2.get 712 (by decide +kernel) (by decide +kernel))) ⟨by decide +kernel, by decide +kernel, by decide +kernel⟩ F (hM.recv 0 rfl rfl) rfl hsz rfl ⟨by omega, by omega⟩ hw hdg hf Bm_true (fun _ _ _ => trivial) kk
end
