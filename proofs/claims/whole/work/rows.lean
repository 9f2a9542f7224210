section
-- ===== PART A: goes FIRST, ahead of the names: the tables' words, and 'selects' of the private methods out of them =====
/-- a private method of a class that the tables say can be made, by its rows of tables_1 -/
def lw_okq (q : MethodName × Nat) : Prop := (q.1.cls ≠ "java/lang/invoke/MethodHandle" ∧ q.1.cls ≠ "java/lang/invoke/VarHandle") ∧ Cond.instantiable q.1.cls q.2 ∈ tables_1 ∧ Cond.privateMethod q.1 ∈ tables_1 ∧ Cond.instanceMethod q.1 ∈ tables_1
theorem lw_p0 : lw_okq (⟨"java/lang/Throwable", "fillInStackTrace", "(I)Ljava/lang/Throwable;"⟩, 6) := ⟨⟨by decide +kernel, by decide +kernel⟩, List.mem_of_getElem? (i := 443) (by decide +kernel), List.mem_of_getElem? (i := 441) (by decide +kernel), List.mem_of_getElem? (i := 442) (by decide +kernel)⟩
theorem lw_p1 : lw_okq (⟨"DayBook", "calendarAt", "(I)LDayBook$Calendar;"⟩, 5) := ⟨⟨by decide +kernel, by decide +kernel⟩, List.mem_of_getElem? (i := 33) (by decide +kernel), List.mem_of_getElem? (i := 497) (by decide +kernel), List.mem_of_getElem? (i := 498) (by decide +kernel)⟩
theorem lw_p2 : lw_okq (⟨"DayBook", "newEaster", "(I)J"⟩, 5) := ⟨⟨by decide +kernel, by decide +kernel⟩, List.mem_of_getElem? (i := 33) (by decide +kernel), List.mem_of_getElem? (i := 818) (by decide +kernel), List.mem_of_getElem? (i := 819) (by decide +kernel)⟩
theorem lw_p3 : lw_okq (⟨"DayBook", "oldEaster", "(I)J"⟩, 5) := ⟨⟨by decide +kernel, by decide +kernel⟩, List.mem_of_getElem? (i := 33) (by decide +kernel), List.mem_of_getElem? (i := 833) (by decide +kernel), List.mem_of_getElem? (i := 834) (by decide +kernel)⟩
theorem lw_p4 : lw_okq (⟨"DayBook", "slashFrom", "(I)I"⟩, 5) := ⟨⟨by decide +kernel, by decide +kernel⟩, List.mem_of_getElem? (i := 33) (by decide +kernel), List.mem_of_getElem? (i := 893) (by decide +kernel), List.mem_of_getElem? (i := 894) (by decide +kernel)⟩
theorem lw_p5 : lw_okq (⟨"DayBook", "numberIn", "(II)I"⟩, 5) := ⟨⟨by decide +kernel, by decide +kernel⟩, List.mem_of_getElem? (i := 33) (by decide +kernel), List.mem_of_getElem? (i := 897) (by decide +kernel), List.mem_of_getElem? (i := 898) (by decide +kernel)⟩
theorem lw_p6 : lw_okq (⟨"DayBookModel", "countCycle", "(I)V"⟩, 19) := ⟨⟨by decide +kernel, by decide +kernel⟩, List.mem_of_getElem? (i := 901) (by decide +kernel), List.mem_of_getElem? (i := 908) (by decide +kernel), List.mem_of_getElem? (i := 909) (by decide +kernel)⟩
theorem lw_p7 : lw_okq (⟨"DayBookModel", "plainLength", "(I)J"⟩, 19) := ⟨⟨by decide +kernel, by decide +kernel⟩, List.mem_of_getElem? (i := 901) (by decide +kernel), List.mem_of_getElem? (i := 912) (by decide +kernel), List.mem_of_getElem? (i := 913) (by decide +kernel)⟩
theorem lw_p8 : lw_okq (⟨"DayBookModel", "isLeap", "(IJ)Z"⟩, 19) := ⟨⟨by decide +kernel, by decide +kernel⟩, List.mem_of_getElem? (i := 901) (by decide +kernel), List.mem_of_getElem? (i := 918) (by decide +kernel), List.mem_of_getElem? (i := 919) (by decide +kernel)⟩
theorem lw_p9 : lw_okq (⟨"DayBookModel", "hasCalendar", "(I)Z"⟩, 19) := ⟨⟨by decide +kernel, by decide +kernel⟩, List.mem_of_getElem? (i := 901) (by decide +kernel), List.mem_of_getElem? (i := 1022) (by decide +kernel), List.mem_of_getElem? (i := 1023) (by decide +kernel)⟩
theorem lw_p10 : lw_okq (⟨"DayBookModel", "findDate", "(IJ)V"⟩, 19) := ⟨⟨by decide +kernel, by decide +kernel⟩, List.mem_of_getElem? (i := 901) (by decide +kernel), List.mem_of_getElem? (i := 1031) (by decide +kernel), List.mem_of_getElem? (i := 1032) (by decide +kernel)⟩
theorem lw_p11 : lw_okq (⟨"DayBookModel", "findMoonDate", "(J)V"⟩, 19) := ⟨⟨by decide +kernel, by decide +kernel⟩, List.mem_of_getElem? (i := 901) (by decide +kernel), List.mem_of_getElem? (i := 1040) (by decide +kernel), List.mem_of_getElem? (i := 1041) (by decide +kernel)⟩
theorem lw_p12 : lw_okq (⟨"DayBookModel", "findYear", "(IJ)V"⟩, 19) := ⟨⟨by decide +kernel, by decide +kernel⟩, List.mem_of_getElem? (i := 901) (by decide +kernel), List.mem_of_getElem? (i := 1049) (by decide +kernel), List.mem_of_getElem? (i := 1050) (by decide +kernel)⟩
theorem lw_p13 : lw_okq (⟨"DayBookModel", "findPlainYear", "(IJ)V"⟩, 19) := ⟨⟨by decide +kernel, by decide +kernel⟩, List.mem_of_getElem? (i := 901) (by decide +kernel), List.mem_of_getElem? (i := 1053) (by decide +kernel), List.mem_of_getElem? (i := 1054) (by decide +kernel)⟩
theorem lw_p14 : lw_okq (⟨"DayBookModel", "epoch", "(I)I"⟩, 19) := ⟨⟨by decide +kernel, by decide +kernel⟩, List.mem_of_getElem? (i := 901) (by decide +kernel), List.mem_of_getElem? (i := 1057) (by decide +kernel), List.mem_of_getElem? (i := 1058) (by decide +kernel)⟩
theorem lw_p15 : lw_okq (⟨"DayBookModel", "setYear", "(IJJJ)V"⟩, 19) := ⟨⟨by decide +kernel, by decide +kernel⟩, List.mem_of_getElem? (i := 901) (by decide +kernel), List.mem_of_getElem? (i := 1066) (by decide +kernel), List.mem_of_getElem? (i := 1067) (by decide +kernel)⟩
def lw_privs_1 : List (MethodName × Nat) := [(⟨"java/lang/Throwable", "fillInStackTrace", "(I)Ljava/lang/Throwable;"⟩, 6), (⟨"DayBook", "calendarAt", "(I)LDayBook$Calendar;"⟩, 5), (⟨"DayBook", "newEaster", "(I)J"⟩, 5), (⟨"DayBook", "oldEaster", "(I)J"⟩, 5), (⟨"DayBook", "slashFrom", "(I)I"⟩, 5), (⟨"DayBook", "numberIn", "(II)I"⟩, 5), (⟨"DayBookModel", "countCycle", "(I)V"⟩, 19), (⟨"DayBookModel", "plainLength", "(I)J"⟩, 19), (⟨"DayBookModel", "isLeap", "(IJ)Z"⟩, 19), (⟨"DayBookModel", "hasCalendar", "(I)Z"⟩, 19), (⟨"DayBookModel", "findDate", "(IJ)V"⟩, 19), (⟨"DayBookModel", "findMoonDate", "(J)V"⟩, 19), (⟨"DayBookModel", "findYear", "(IJ)V"⟩, 19), (⟨"DayBookModel", "findPlainYear", "(IJ)V"⟩, 19), (⟨"DayBookModel", "epoch", "(I)I"⟩, 19), (⟨"DayBookModel", "setYear", "(IJJJ)V"⟩, 19)]
theorem lw_r1 : ∀ q ∈ lw_privs_1, lw_okq q := List.forall_mem_cons.mpr ⟨lw_p0, List.forall_mem_cons.mpr ⟨lw_p1, List.forall_mem_cons.mpr ⟨lw_p2, List.forall_mem_cons.mpr ⟨lw_p3, List.forall_mem_cons.mpr ⟨lw_p4, List.forall_mem_cons.mpr ⟨lw_p5, List.forall_mem_cons.mpr ⟨lw_p6, List.forall_mem_cons.mpr ⟨lw_p7, List.forall_mem_cons.mpr ⟨lw_p8, List.forall_mem_cons.mpr ⟨lw_p9, List.forall_mem_cons.mpr ⟨lw_p10, List.forall_mem_cons.mpr ⟨lw_p11, List.forall_mem_cons.mpr ⟨lw_p12, List.forall_mem_cons.mpr ⟨lw_p13, List.forall_mem_cons.mpr ⟨lw_p14, List.forall_mem_cons.mpr ⟨lw_p15, fun _ h => absurd h List.not_mem_nil⟩⟩⟩⟩⟩⟩⟩⟩⟩⟩⟩⟩⟩⟩⟩⟩
theorem lw_p16 : lw_okq (⟨"DayBookModel", "start", "(IJ)J"⟩, 19) := ⟨⟨by decide +kernel, by decide +kernel⟩, List.mem_of_getElem? (i := 901) (by decide +kernel), List.mem_of_getElem? (i := 1070) (by decide +kernel), List.mem_of_getElem? (i := 1071) (by decide +kernel)⟩
theorem lw_p17 : lw_okq (⟨"DayBookModel", "plainStart", "(IJ)J"⟩, 19) := ⟨⟨by decide +kernel, by decide +kernel⟩, List.mem_of_getElem? (i := 901) (by decide +kernel), List.mem_of_getElem? (i := 1090) (by decide +kernel), List.mem_of_getElem? (i := 1091) (by decide +kernel)⟩
theorem lw_p18 : lw_okq (⟨"DayBookModel", "monthAt", "(IJI)I"⟩, 19) := ⟨⟨by decide +kernel, by decide +kernel⟩, List.mem_of_getElem? (i := 901) (by decide +kernel), List.mem_of_getElem? (i := 1102) (by decide +kernel), List.mem_of_getElem? (i := 1103) (by decide +kernel)⟩
theorem lw_p19 : lw_okq (⟨"DayBookModel", "monthsOf", "(IJ)I"⟩, 19) := ⟨⟨by decide +kernel, by decide +kernel⟩, List.mem_of_getElem? (i := 901) (by decide +kernel), List.mem_of_getElem? (i := 1106) (by decide +kernel), List.mem_of_getElem? (i := 1107) (by decide +kernel)⟩
theorem lw_p20 : lw_okq (⟨"DayBookModel", "lengthOf", "(IJI)I"⟩, 19) := ⟨⟨by decide +kernel, by decide +kernel⟩, List.mem_of_getElem? (i := 901) (by decide +kernel), List.mem_of_getElem? (i := 1110) (by decide +kernel), List.mem_of_getElem? (i := 1111) (by decide +kernel)⟩
theorem lw_p21 : lw_okq (⟨"DayBookModel", "moonLength", "(JIZ)I"⟩, 19) := ⟨⟨by decide +kernel, by decide +kernel⟩, List.mem_of_getElem? (i := 901) (by decide +kernel), List.mem_of_getElem? (i := 1114) (by decide +kernel), List.mem_of_getElem? (i := 1115) (by decide +kernel)⟩
theorem lw_p22 : lw_okq (⟨"DayBookModel", "dayOf", "(IIII)J"⟩, 19) := ⟨⟨by decide +kernel, by decide +kernel⟩, List.mem_of_getElem? (i := 901) (by decide +kernel), List.mem_of_getElem? (i := 1131) (by decide +kernel), List.mem_of_getElem? (i := 1132) (by decide +kernel)⟩
theorem lw_p23 : lw_okq (⟨"DayBookModel", "lookFor", "(IIIIJI)J"⟩, 19) := ⟨⟨by decide +kernel, by decide +kernel⟩, List.mem_of_getElem? (i := 901) (by decide +kernel), List.mem_of_getElem? (i := 1136) (by decide +kernel), List.mem_of_getElem? (i := 1137) (by decide +kernel)⟩
theorem lw_p24 : lw_okq (⟨"DayBookModel", "hasDate", "(IIIIJ)Z"⟩, 19) := ⟨⟨by decide +kernel, by decide +kernel⟩, List.mem_of_getElem? (i := 901) (by decide +kernel), List.mem_of_getElem? (i := 1140) (by decide +kernel), List.mem_of_getElem? (i := 1141) (by decide +kernel)⟩
theorem lw_p25 : lw_okq (⟨"DayBookModel", "before", "(IJI)J"⟩, 19) := ⟨⟨by decide +kernel, by decide +kernel⟩, List.mem_of_getElem? (i := 901) (by decide +kernel), List.mem_of_getElem? (i := 1147) (by decide +kernel), List.mem_of_getElem? (i := 1148) (by decide +kernel)⟩
theorem lw_p26 : lw_okq (⟨"DayBookModel", "putNumber", "(J)V"⟩, 19) := ⟨⟨by decide +kernel, by decide +kernel⟩, List.mem_of_getElem? (i := 901) (by decide +kernel), List.mem_of_getElem? (i := 1193) (by decide +kernel), List.mem_of_getElem? (i := 1194) (by decide +kernel)⟩
theorem lw_p27 : lw_okq (⟨"DayBookModel", "slash", "(I)I"⟩, 19) := ⟨⟨by decide +kernel, by decide +kernel⟩, List.mem_of_getElem? (i := 901) (by decide +kernel), List.mem_of_getElem? (i := 1215) (by decide +kernel), List.mem_of_getElem? (i := 1216) (by decide +kernel)⟩
theorem lw_p28 : lw_okq (⟨"DayBookModel", "numberIn", "(II)I"⟩, 19) := ⟨⟨by decide +kernel, by decide +kernel⟩, List.mem_of_getElem? (i := 901) (by decide +kernel), List.mem_of_getElem? (i := 1219) (by decide +kernel), List.mem_of_getElem? (i := 1220) (by decide +kernel)⟩
def lw_privs_2 : List (MethodName × Nat) := [(⟨"DayBookModel", "start", "(IJ)J"⟩, 19), (⟨"DayBookModel", "plainStart", "(IJ)J"⟩, 19), (⟨"DayBookModel", "monthAt", "(IJI)I"⟩, 19), (⟨"DayBookModel", "monthsOf", "(IJ)I"⟩, 19), (⟨"DayBookModel", "lengthOf", "(IJI)I"⟩, 19), (⟨"DayBookModel", "moonLength", "(JIZ)I"⟩, 19), (⟨"DayBookModel", "dayOf", "(IIII)J"⟩, 19), (⟨"DayBookModel", "lookFor", "(IIIIJI)J"⟩, 19), (⟨"DayBookModel", "hasDate", "(IIIIJ)Z"⟩, 19), (⟨"DayBookModel", "before", "(IJI)J"⟩, 19), (⟨"DayBookModel", "putNumber", "(J)V"⟩, 19), (⟨"DayBookModel", "slash", "(I)I"⟩, 19), (⟨"DayBookModel", "numberIn", "(II)I"⟩, 19)]
theorem lw_r2 : ∀ q ∈ lw_privs_2, lw_okq q := List.forall_mem_cons.mpr ⟨lw_p16, List.forall_mem_cons.mpr ⟨lw_p17, List.forall_mem_cons.mpr ⟨lw_p18, List.forall_mem_cons.mpr ⟨lw_p19, List.forall_mem_cons.mpr ⟨lw_p20, List.forall_mem_cons.mpr ⟨lw_p21, List.forall_mem_cons.mpr ⟨lw_p22, List.forall_mem_cons.mpr ⟨lw_p23, List.forall_mem_cons.mpr ⟨lw_p24, List.forall_mem_cons.mpr ⟨lw_p25, List.forall_mem_cons.mpr ⟨lw_p26, List.forall_mem_cons.mpr ⟨lw_p27, List.forall_mem_cons.mpr ⟨lw_p28, fun _ h => absurd h List.not_mem_nil⟩⟩⟩⟩⟩⟩⟩⟩⟩⟩⟩⟩⟩
def lw_privs : List (MethodName × Nat) := lw_privs_1 ++ (lw_privs_2)
def lw_tbl : List Cond := k2_sels lw_privs ++ tables_1
theorem lw_privs_ok : ∀ q ∈ lw_privs, lw_okq q := by
  show ∀ q ∈ lw_privs_1 ++ (lw_privs_2), lw_okq q
  exact List.forall_mem_append.mpr ⟨lw_r1, lw_r2⟩
end
section
/-! numbers of the machine as Int: iI x, iL x are the int and the long of the number x; bI P is 1 where P holds, else 0 -/
def iI (x : Int) : Int32 := Int32.ofInt x
def iL (x : Int) : Int64 := Int64.ofInt x
noncomputable def bI (P : Prop) : Int := @ite Int P (Classical.propDecidable P) 1 0
theorem bI_t {P : Prop} (h : P) : bI P = 1 := by unfold bI; exact if_pos h
theorem bI_f {P : Prop} (h : ¬ P) : bI P = 0 := by unfold bI; exact if_neg h
theorem bI_iff {P Q : Prop} (h : P ↔ Q) : bI P = bI Q := by rw [propext h]
theorem bI_01 (P : Prop) : 0 ≤ bI P ∧ bI P ≤ 1 := by
  by_cases h : P
  · rw [bI_t h]; decide
  · rw [bI_f h]; decide
theorem iI_toInt {a : Int} (h : -2147483648 ≤ a ∧ a ≤ 2147483647) : (iI a).toInt = a := Int32.toInt_ofInt_of_le (by omega) (by omega)
theorem iL_toInt {a : Int} (h : -9223372036854775808 ≤ a ∧ a ≤ 9223372036854775807) : (iL a).toInt = a := Int64.toInt_ofInt_of_le (by omega) (by omega)
theorem iI_of (x : Int32) : iI x.toInt = x := Int32.ofInt_toInt x
theorem iL_of (x : Int64) : iL x.toInt = x := Int64.ofInt_toInt x
theorem iI_rng (x : Int32) : -2147483648 ≤ x.toInt ∧ x.toInt ≤ 2147483647 := ⟨Int32.le_toInt x, by have := Int32.toInt_lt x; omega⟩
theorem iL_rng (x : Int64) : -9223372036854775808 ≤ x.toInt ∧ x.toInt ≤ 9223372036854775807 := ⟨Int64.le_toInt x, by have := Int64.toInt_lt x; omega⟩
theorem iI_add (a b : Int) : iI a + iI b = iI (a + b) := (Int32.ofInt_add a b).symm
theorem iI_sub (a b : Int) : iI a - iI b = iI (a - b) := (Int32.ofInt_sub a b).symm
theorem iI_mul (a b : Int) : iI a * iI b = iI (a * b) := (Int32.ofInt_mul a b).symm
theorem iI_neg (a : Int) : -iI a = iI (-a) := (Int32.ofInt_neg a).symm
theorem iL_add (a b : Int) : iL a + iL b = iL (a + b) := (Int64.ofInt_add a b).symm
theorem iL_sub (a b : Int) : iL a - iL b = iL (a - b) := (Int64.ofInt_sub a b).symm
theorem iL_mul (a b : Int) : iL a * iL b = iL (a * b) := (Int64.ofInt_mul a b).symm
theorem iL_neg (a : Int) : -iL a = iL (-a) := (Int64.ofInt_neg a).symm
theorem iI_lt {a b : Int} (ha : (-2147483648 ≤ a ∧ a ≤ 2147483647)) (hb : (-2147483648 ≤ b ∧ b ≤ 2147483647)) : iI a < iI b ↔ a < b := by
  rw [Int32.lt_iff_toInt_lt, iI_toInt ha, iI_toInt hb]
theorem iI_le {a b : Int} (ha : (-2147483648 ≤ a ∧ a ≤ 2147483647)) (hb : (-2147483648 ≤ b ∧ b ≤ 2147483647)) : iI a ≤ iI b ↔ a ≤ b := by
  rw [Int32.le_iff_toInt_le, iI_toInt ha, iI_toInt hb]
theorem iI_eq {a b : Int} (ha : (-2147483648 ≤ a ∧ a ≤ 2147483647)) (hb : (-2147483648 ≤ b ∧ b ≤ 2147483647)) : iI a = iI b ↔ a = b := by
  rw [← Int32.toInt_inj, iI_toInt ha, iI_toInt hb]
theorem iI_tdiv {a b : Int} (ha : (-2147483648 ≤ a ∧ a ≤ 2147483647)) (hb : (-2147483648 ≤ b ∧ b ≤ 2147483647)) (hn : b ≠ -1) : iI a / iI b = iI (a.tdiv b) := by
  rw [← Int32.toInt_inj, Int32.toInt_div_of_ne_right _ _ (fun h => hn ((iI_eq hb (by decide)).mp (h.trans (by decide +kernel)))), iI_toInt ha, iI_toInt hb, iI_toInt]
  have h1 : (a.tdiv b).natAbs ≤ a.natAbs := by rw [Int.natAbs_tdiv]; exact Nat.div_le_self _ _
  by_cases h : a = -2147483648
  · subst h
    refine ⟨by omega, ?_⟩
    by_cases h0 : b = 0
    · subst h0; decide
    · by_cases hp : 0 < b
      · have : Int.tdiv (-2147483648) b ≤ 0 := by
          have := Int.tdiv_nonneg (a := 2147483647+1) (b := b) (by decide) (by omega)
          have e := Int.neg_tdiv (2147483647+1) b
          have e2 : (-(2147483647+1) : Int) = -2147483648 := by decide
          rw [e2] at e
          omega
        omega
      · have h3 : (Int.tdiv (-2147483648) b).natAbs ≤ (-2147483648 : Int).natAbs / 2 := by
          rw [Int.natAbs_tdiv]
          exact Nat.div_le_div_left (by omega) (by decide)
        have h4 : (-2147483648 : Int).natAbs / 2 ≤ 2147483647 := by decide
        omega
  · omega
theorem iL_lt {a b : Int} (ha : (-9223372036854775808 ≤ a ∧ a ≤ 9223372036854775807)) (hb : (-9223372036854775808 ≤ b ∧ b ≤ 9223372036854775807)) : iL a < iL b ↔ a < b := by
  rw [Int64.lt_iff_toInt_lt, iL_toInt ha, iL_toInt hb]
theorem iL_le {a b : Int} (ha : (-9223372036854775808 ≤ a ∧ a ≤ 9223372036854775807)) (hb : (-9223372036854775808 ≤ b ∧ b ≤ 9223372036854775807)) : iL a ≤ iL b ↔ a ≤ b := by
  rw [Int64.le_iff_toInt_le, iL_toInt ha, iL_toInt hb]
theorem iL_eq {a b : Int} (ha : (-9223372036854775808 ≤ a ∧ a ≤ 9223372036854775807)) (hb : (-9223372036854775808 ≤ b ∧ b ≤ 9223372036854775807)) : iL a = iL b ↔ a = b := by
  rw [← Int64.toInt_inj, iL_toInt ha, iL_toInt hb]
theorem iL_tdiv {a b : Int} (ha : (-9223372036854775808 ≤ a ∧ a ≤ 9223372036854775807)) (hb : (-9223372036854775808 ≤ b ∧ b ≤ 9223372036854775807)) (hn : b ≠ -1) : iL a / iL b = iL (a.tdiv b) := by
  rw [← Int64.toInt_inj, Int64.toInt_div_of_ne_right _ _ (fun h => hn ((iL_eq hb (by decide)).mp (h.trans (by decide +kernel)))), iL_toInt ha, iL_toInt hb, iL_toInt]
  have h1 : (a.tdiv b).natAbs ≤ a.natAbs := by rw [Int.natAbs_tdiv]; exact Nat.div_le_self _ _
  by_cases h : a = -9223372036854775808
  · subst h
    refine ⟨by omega, ?_⟩
    by_cases h0 : b = 0
    · subst h0; decide
    · by_cases hp : 0 < b
      · have : Int.tdiv (-9223372036854775808) b ≤ 0 := by
          have := Int.tdiv_nonneg (a := 9223372036854775807+1) (b := b) (by decide) (by omega)
          have e := Int.neg_tdiv (9223372036854775807+1) b
          have e2 : (-(9223372036854775807+1) : Int) = -9223372036854775808 := by decide
          rw [e2] at e
          omega
        omega
      · have h3 : (Int.tdiv (-9223372036854775808) b).natAbs ≤ (-9223372036854775808 : Int).natAbs / 2 := by
          rw [Int.natAbs_tdiv]
          exact Nat.div_le_div_left (by omega) (by decide)
        have h4 : (-9223372036854775808 : Int).natAbs / 2 ≤ 9223372036854775807 := by decide
        omega
  · omega
theorem iI_ltz {a : Int} (ha : -2147483648 ≤ a ∧ a ≤ 2147483647) : iI a < 0 ↔ a < 0 := iI_lt (b := 0) ha (by decide)
theorem iI_gez {a : Int} (ha : -2147483648 ≤ a ∧ a ≤ 2147483647) : 0 ≤ iI a ↔ 0 ≤ a := iI_le (a := 0) (by decide) ha
theorem iI_gtz {a : Int} (ha : -2147483648 ≤ a ∧ a ≤ 2147483647) : 0 < iI a ↔ 0 < a := iI_lt (a := 0) (by decide) ha
theorem iI_lez {a : Int} (ha : -2147483648 ≤ a ∧ a ≤ 2147483647) : iI a ≤ 0 ↔ a ≤ 0 := iI_le (b := 0) ha (by decide)
theorem iI_eqz {a : Int} (ha : -2147483648 ≤ a ∧ a ≤ 2147483647) : iI a = 0 ↔ a = 0 := iI_eq (b := 0) ha (by decide)
theorem iI_i2l {a : Int} (ha : -2147483648 ≤ a ∧ a ≤ 2147483647) : (iI a).toInt64 = iL a := by
  rw [← Int64.toInt_inj, Int32.toInt_toInt64, iI_toInt ha, iL_toInt (by omega)]
theorem iL_l2i (a : Int) : (iL a).toInt32 = iI a := Int64.toInt32_ofInt
theorem iI_nI (n : Nat) : iI (n : Int) = nI n := Int32.ofInt_eq_ofNat
theorem iI_cl {n : Nat} (h : n < 2147483648) : (iI (n : Int)).toNatClampNeg = n := by rw [iI_nI]; exact nI_clamp h
theorem iI_in {a : Int} {n : Nat} (h0 : 0 ≤ a) (h : a < n) (hn : n < 2147483648) : vp_in (iI a) n := by
  rw [vp_in_iff, iI_toInt (by omega)]
  exact ⟨h0, h⟩
theorem iI_clT {a : Int} (h0 : 0 ≤ a) (h : a < 2147483648) : (iI a).toNatClampNeg = a.toNat := by
  obtain ⟨n, rfl⟩ := Int.eq_ofNat_of_zero_le h0
  rw [iI_cl (by omega)]
  omega
theorem iI_andM (a : Int) (k : Nat) {M : Int32} (hM : M.toBitVec.toNat = 2 ^ k - 1) (hk : k ≤ 30) : iI a &&& M = iI (a % ((2 ^ k : Nat) : Int)) := by
  rw [pk_and (iI a) k hM]
  have e : (iI a).toBitVec.toNat = (a % 4294967296).toNat := by
    show (BitVec.ofInt 32 a).toNat = _
    rw [BitVec.toNat_ofInt]
    rfl
  have hd : ((2 ^ k : Nat) : Int) ∣ 4294967296 := ⟨((2 ^ (32 - k) : Nat) : Int), by
    rw [← Int.natCast_mul, ← Nat.pow_add, show k + (32 - k) = 32 by omega]; decide⟩
  have h0 : (0 : Int) < ((2 ^ k : Nat) : Int) := by have := Nat.two_pow_pos k; omega
  rw [← iI_nI, e]
  congr 1
  rw [Int.natCast_emod, Int.toNat_of_nonneg (Int.emod_nonneg _ (by decide)), Int.emod_emod_of_dvd _ hd]
theorem iI_char (a : Int) : ((iI a).toUInt32 % 65536).toInt32 = iI (a % 65536) := by
  rw [pk_char]
  have e : (iI a).toBitVec.toNat = (a % 4294967296).toNat := by
    show (BitVec.ofInt 32 a).toNat = _
    rw [BitVec.toNat_ofInt]
    rfl
  rw [← iI_nI, e]
  congr 1
  omega
theorem iL_shr {a : Int} (n k : Nat) (ha : -9223372036854775808 ≤ a ∧ a ≤ 9223372036854775807) (D : Int64) (hD : (D.toBitVec.smod 64).toNat = k) (hk : 2 ^ k = n) : iL a >>> D = iL (a / (n : Int)) := by
  have h0 : 0 < n := by rw [← hk]; exact Nat.two_pow_pos k
  have h1 : -9223372036854775808 ≤ a / (n : Int) ∧ a / (n : Int) ≤ 9223372036854775807 := by
    constructor
    · refine Int.le_ediv_of_mul_le (by omega) ?_
      omega
    · by_cases hs : 0 ≤ a
      · have := Int.ediv_le_self n hs; omega
      · have := Int.ediv_neg_of_neg_of_pos (show a < 0 by omega) (show (0 : Int) < n by omega); omega
  rw [← Int64.toInt_inj, iL_toInt h1]
  show ((BitVec.ofInt 64 a).sshiftRight (D.toBitVec.smod 64).toNat).toInt = _
  rw [hD, BitVec.toInt_sshiftRight]
  have e : (BitVec.ofInt 64 a).toInt = a := iL_toInt ha
  rw [e, Int.shiftRight_eq_div_pow, hk]
section AI
variable {p : Program} {l : Launch} {e : Env} {R : Room} {s : State} {m : MethodId} {args : Array Value} {below : List Frame} {meth : Method} {c : Code} {H : Heap} {locs : List Loc} {cells slots : Nat} {Q : State → Prop} {cc : ByteArray} {pc : Nat} {ls : Array Slot} {rest : List Value}
theorem ai_iconst (hexec : p.tables.exec = Jvm.exec) (hb : c.code = cc) {n : Int} (hdg : decode cc pc = .ok (.iconst n, 1)) (k : W p l e R s m args below meth c H locs cells slots Q (F0 m (pc + 1) ls (.int (iI n) :: rest))) : W p l e R s m args below meth c H locs cells slots Q (F0 m pc ls rest) :=
  lv_iconst hexec hb hdg rfl k
theorem ai_bipush (hexec : p.tables.exec = Jvm.exec) (hb : c.code = cc) {n x : Int} (hdg : decode cc pc = .ok (.bipush n, 2)) (hv : (Int8.ofInt n).toInt32 = iI x) (k : W p l e R s m args below meth c H locs cells slots Q (F0 m (pc + 2) ls (.int (iI x) :: rest))) : W p l e R s m args below meth c H locs cells slots Q (F0 m pc ls rest) :=
  lv_bipush hexec hb hdg hv k
theorem ai_sipush (hexec : p.tables.exec = Jvm.exec) (hb : c.code = cc) {n x : Int} (hdg : decode cc pc = .ok (.sipush n, 3)) (hv : (Int16.ofInt n).toInt32 = iI x) (k : W p l e R s m args below meth c H locs cells slots Q (F0 m (pc + 3) ls (.int (iI x) :: rest))) : W p l e R s m args below meth c H locs cells slots Q (F0 m pc ls rest) :=
  lv_sipush hexec hb hdg hv k
theorem ai_lconst (hexec : p.tables.exec = Jvm.exec) (hb : c.code = cc) {n : Fin 2} {x : Int} (hdg : decode cc pc = .ok (.lconst n, 1)) (hv : Int64.ofNat (n : Nat) = iL x) (k : W p l e R s m args below meth c H locs cells slots Q (F0 m (pc + 1) ls (.long (iL x) :: rest))) : W p l e R s m args below meth c H locs cells slots Q (F0 m pc ls rest) :=
  lv_lconst hexec hb hdg hv k
theorem ai_ldc (hexec : p.tables.exec = Jvm.exec) (hb : c.code = cc) {own : String} {index : Nat} {v : Int32} {x : Int} (hown : s.vm.findClass own = some m.cls) (hconst : (Jvm.Cond.constant own index v).before args s = true) (hv : v = iI x) (hdg : decode cc pc = .ok (.ldc index, 2)) (k : W p l e R s m args below meth c H locs cells slots Q (F0 m (pc + 2) ls (.int (iI x) :: rest))) : W p l e R s m args below meth c H locs cells slots Q (F0 m pc ls rest) :=
  lv_ldc hexec hb hown hconst hdg (by rw [hv]; exact k)
theorem ai_ldcw (hexec : p.tables.exec = Jvm.exec) (hb : c.code = cc) {own : String} {index : Nat} {v : Int32} {x : Int} (hown : s.vm.findClass own = some m.cls) (hconst : (Jvm.Cond.constant own index v).before args s = true) (hv : v = iI x) (hdg : decode cc pc = .ok (.ldc_w index, 3)) (k : W p l e R s m args below meth c H locs cells slots Q (F0 m (pc + 3) ls (.int (iI x) :: rest))) : W p l e R s m args below meth c H locs cells slots Q (F0 m pc ls rest) :=
  lv_ldcw hexec hb hown hconst hdg (by rw [hv]; exact k)
theorem ai_ldc2 (hexec : p.tables.exec = Jvm.exec) (hb : c.code = cc) {own : String} {index : Nat} {v : Int64} {x : Int} (hown : s.vm.findClass own = some m.cls) (hconst : (Jvm.Cond.constantLong own index v).before args s = true) (hv : v = iL x) (hdg : decode cc pc = .ok (.ldc2_w index, 3)) (k : W p l e R s m args below meth c H locs cells slots Q (F0 m (pc + 3) ls (.long (iL x) :: rest))) : W p l e R s m args below meth c H locs cells slots Q (F0 m pc ls rest) :=
  lv_ldc2 hexec hb hown hconst hdg (by rw [hv]; exact k)
theorem ai_iadd (hexec : p.tables.exec = Jvm.exec) (hb : c.code = cc) {a b : Int} (hdg : decode cc pc = .ok (.iadd, 1)) (k : W p l e R s m args below meth c H locs cells slots Q (F0 m (pc + 1) ls (.int (iI (a + b)) :: rest))) : W p l e R s m args below meth c H locs cells slots Q (F0 m pc ls (.int (iI b) :: .int (iI a) :: rest)) :=
  lv_iadd hexec hb hdg (by rw [iI_add]; exact k)
theorem ai_isub (hexec : p.tables.exec = Jvm.exec) (hb : c.code = cc) {a b : Int} (hdg : decode cc pc = .ok (.isub, 1)) (k : W p l e R s m args below meth c H locs cells slots Q (F0 m (pc + 1) ls (.int (iI (a - b)) :: rest))) : W p l e R s m args below meth c H locs cells slots Q (F0 m pc ls (.int (iI b) :: .int (iI a) :: rest)) :=
  lv_isub hexec hb hdg (by rw [iI_sub]; exact k)
theorem ai_imul (hexec : p.tables.exec = Jvm.exec) (hb : c.code = cc) {a b : Int} (hdg : decode cc pc = .ok (.imul, 1)) (k : W p l e R s m args below meth c H locs cells slots Q (F0 m (pc + 1) ls (.int (iI (a * b)) :: rest))) : W p l e R s m args below meth c H locs cells slots Q (F0 m pc ls (.int (iI b) :: .int (iI a) :: rest)) :=
  lv_imul hexec hb hdg (by rw [iI_mul]; exact k)
theorem ai_ladd (hexec : p.tables.exec = Jvm.exec) (hb : c.code = cc) {a b : Int} (hdg : decode cc pc = .ok (.ladd, 1)) (k : W p l e R s m args below meth c H locs cells slots Q (F0 m (pc + 1) ls (.long (iL (a + b)) :: rest))) : W p l e R s m args below meth c H locs cells slots Q (F0 m pc ls (.long (iL b) :: .long (iL a) :: rest)) :=
  lv_ladd hexec hb hdg (by rw [iL_add]; exact k)
theorem ai_lsub (hexec : p.tables.exec = Jvm.exec) (hb : c.code = cc) {a b : Int} (hdg : decode cc pc = .ok (.lsub, 1)) (k : W p l e R s m args below meth c H locs cells slots Q (F0 m (pc + 1) ls (.long (iL (a - b)) :: rest))) : W p l e R s m args below meth c H locs cells slots Q (F0 m pc ls (.long (iL b) :: .long (iL a) :: rest)) :=
  lv_lsub hexec hb hdg (by rw [iL_sub]; exact k)
theorem ai_lmul (hexec : p.tables.exec = Jvm.exec) (hb : c.code = cc) {a b : Int} (hdg : decode cc pc = .ok (.lmul, 1)) (k : W p l e R s m args below meth c H locs cells slots Q (F0 m (pc + 1) ls (.long (iL (a * b)) :: rest))) : W p l e R s m args below meth c H locs cells slots Q (F0 m pc ls (.long (iL b) :: .long (iL a) :: rest)) :=
  lv_lmul hexec hb hdg (by rw [iL_mul]; exact k)
theorem ai_ineg (hexec : p.tables.exec = Jvm.exec) (hb : c.code = cc) {a : Int} (hdg : decode cc pc = .ok (.ineg, 1)) (k : W p l e R s m args below meth c H locs cells slots Q (F0 m (pc + 1) ls (.int (iI (-a)) :: rest))) : W p l e R s m args below meth c H locs cells slots Q (F0 m pc ls (.int (iI a) :: rest)) :=
  lv_ineg hexec hb hdg (by rw [iI_neg]; exact k)
theorem ai_idiv (hexec : p.tables.exec = Jvm.exec) (hb : c.code = cc) {a b : Int} (hdg : decode cc pc = .ok (.idiv, 1)) (ra : (-2147483648 ≤ a ∧ a ≤ 2147483647)) (rb : (-2147483648 ≤ b ∧ b ≤ 2147483647)) (hn : b ≠ 0 ∧ b ≠ -1) (k : W p l e R s m args below meth c H locs cells slots Q (F0 m (pc + 1) ls (.int (iI (a.tdiv b)) :: rest))) : W p l e R s m args below meth c H locs cells slots Q (F0 m pc ls (.int (iI b) :: .int (iI a) :: rest)) :=
  lv_idiv hexec hb hdg (fun h => hn.1 ((iI_eq rb (by decide)).mp (h.trans (show _ = iI 0 from by decide +kernel)))) (by rw [iI_tdiv ra rb hn.2]; exact k)
theorem ai_irem (hexec : p.tables.exec = Jvm.exec) (hb : c.code = cc) {a b : Int} (hdg : decode cc pc = .ok (.irem, 1)) (ra : (-2147483648 ≤ a ∧ a ≤ 2147483647)) (rb : (-2147483648 ≤ b ∧ b ≤ 2147483647)) (hn : b ≠ 0 ∧ b ≠ -1) (k : W p l e R s m args below meth c H locs cells slots Q (F0 m (pc + 1) ls (.int (iI (a - a.tdiv b * b)) :: rest))) : W p l e R s m args below meth c H locs cells slots Q (F0 m pc ls (.int (iI b) :: .int (iI a) :: rest)) :=
  lv_irem hexec hb hdg (fun h => hn.1 ((iI_eq rb (by decide)).mp (h.trans (show _ = iI 0 from by decide +kernel)))) (by rw [iI_tdiv ra rb hn.2, iI_mul, iI_sub]; exact k)
theorem ai_lneg (hexec : p.tables.exec = Jvm.exec) (hb : c.code = cc) {a : Int} (hdg : decode cc pc = .ok (.lneg, 1)) (k : W p l e R s m args below meth c H locs cells slots Q (F0 m (pc + 1) ls (.long (iL (-a)) :: rest))) : W p l e R s m args below meth c H locs cells slots Q (F0 m pc ls (.long (iL a) :: rest)) :=
  lv_lneg hexec hb hdg (by rw [iL_neg]; exact k)
theorem ai_ldiv (hexec : p.tables.exec = Jvm.exec) (hb : c.code = cc) {a b : Int} (hdg : decode cc pc = .ok (.ldiv, 1)) (ra : (-9223372036854775808 ≤ a ∧ a ≤ 9223372036854775807)) (rb : (-9223372036854775808 ≤ b ∧ b ≤ 9223372036854775807)) (hn : b ≠ 0 ∧ b ≠ -1) (k : W p l e R s m args below meth c H locs cells slots Q (F0 m (pc + 1) ls (.long (iL (a.tdiv b)) :: rest))) : W p l e R s m args below meth c H locs cells slots Q (F0 m pc ls (.long (iL b) :: .long (iL a) :: rest)) :=
  lv_ldiv hexec hb hdg (fun h => hn.1 ((iL_eq rb (by decide)).mp (h.trans (show _ = iL 0 from by decide +kernel)))) (by rw [iL_tdiv ra rb hn.2]; exact k)
theorem ai_lrem (hexec : p.tables.exec = Jvm.exec) (hb : c.code = cc) {a b : Int} (hdg : decode cc pc = .ok (.lrem, 1)) (ra : (-9223372036854775808 ≤ a ∧ a ≤ 9223372036854775807)) (rb : (-9223372036854775808 ≤ b ∧ b ≤ 9223372036854775807)) (hn : b ≠ 0 ∧ b ≠ -1) (k : W p l e R s m args below meth c H locs cells slots Q (F0 m (pc + 1) ls (.long (iL (a - a.tdiv b * b)) :: rest))) : W p l e R s m args below meth c H locs cells slots Q (F0 m pc ls (.long (iL b) :: .long (iL a) :: rest)) :=
  lv_lrem hexec hb hdg (fun h => hn.1 ((iL_eq rb (by decide)).mp (h.trans (show _ = iL 0 from by decide +kernel)))) (by rw [iL_tdiv ra rb hn.2, iL_mul, iL_sub]; exact k)
theorem ai_i2l (hexec : p.tables.exec = Jvm.exec) (hb : c.code = cc) {a : Int} (hdg : decode cc pc = .ok (.i2l, 1)) (ra : (-2147483648 ≤ a ∧ a ≤ 2147483647)) (k : W p l e R s m args below meth c H locs cells slots Q (F0 m (pc + 1) ls (.long (iL a) :: rest))) : W p l e R s m args below meth c H locs cells slots Q (F0 m pc ls (.int (iI a) :: rest)) :=
  lv_i2l hexec hb hdg (iI_i2l ra) k
theorem ai_l2i (hexec : p.tables.exec = Jvm.exec) (hb : c.code = cc) {a : Int} (hdg : decode cc pc = .ok (.l2i, 1)) (k : W p l e R s m args below meth c H locs cells slots Q (F0 m (pc + 1) ls (.int (iI a) :: rest))) : W p l e R s m args below meth c H locs cells slots Q (F0 m pc ls (.long (iL a) :: rest)) :=
  lv_l2i hexec hb hdg (iL_l2i a) k
theorem ai_i2c (hexec : p.tables.exec = Jvm.exec) (hb : c.code = cc) {a : Int} (hdg : decode cc pc = .ok (.i2c, 1)) (k : W p l e R s m args below meth c H locs cells slots Q (F0 m (pc + 1) ls (.int (iI (a % 65536)) :: rest))) : W p l e R s m args below meth c H locs cells slots Q (F0 m pc ls (.int (iI a) :: rest)) :=
  lv_i2c hexec hb hdg (iI_char a) k
theorem ai_iand (hexec : p.tables.exec = Jvm.exec) (hb : c.code = cc) {a b : Int} (k0 : Nat) (hM : (iI b).toBitVec.toNat = 2 ^ k0 - 1) (hk0 : k0 ≤ 30) {n : Int} (hn : ((2 ^ k0 : Nat) : Int) = n) (hdg : decode cc pc = .ok (.iand, 1)) (k : W p l e R s m args below meth c H locs cells slots Q (F0 m (pc + 1) ls (.int (iI (a % n)) :: rest))) : W p l e R s m args below meth c H locs cells slots Q (F0 m pc ls (.int (iI b) :: .int (iI a) :: rest)) :=
  lv_iand hexec hb hdg (by rw [iI_andM a k0 hM hk0, hn]; exact k)
theorem ai_lshr (hexec : p.tables.exec = Jvm.exec) (hb : c.code = cc) {a b : Int} (n k0 : Nat) (hD : (((iI b).toInt64 &&& 63).toBitVec.smod 64).toNat = k0) (hk0 : 2 ^ k0 = n) (hdg : decode cc pc = .ok (.lshr, 1)) (ra : (-9223372036854775808 ≤ a ∧ a ≤ 9223372036854775807)) (k : W p l e R s m args below meth c H locs cells slots Q (F0 m (pc + 1) ls (.long (iL (a / (n : Int))) :: rest))) : W p l e R s m args below meth c H locs cells slots Q (F0 m pc ls (.int (iI b) :: .long (iL a) :: rest)) :=
  lv_lshr hexec hb hdg (iL_shr n k0 ra _ hD hk0) k
theorem ai_nmI (hexec : p.tables.exec = Jvm.exec) (hb : c.code = cc) {a : Int}  (k : ∀ y : Int, y = a → W p l e R s m args below meth c H locs cells slots Q (F0 m pc ls (.int (iI y) :: rest))) : W p l e R s m args below meth c H locs cells slots Q (F0 m pc ls (.int (iI a) :: rest)) :=
  k a rfl
theorem ai_nmL (hexec : p.tables.exec = Jvm.exec) (hb : c.code = cc) {a : Int}  (k : ∀ y : Int, y = a → W p l e R s m args below meth c H locs cells slots Q (F0 m pc ls (.long (iL y) :: rest))) : W p l e R s m args below meth c H locs cells slots Q (F0 m pc ls (.long (iL a) :: rest)) :=
  k a rfl
theorem ai_toI (hexec : p.tables.exec = Jvm.exec) (hb : c.code = cc) {a b : Int} (h : a = b) (k : W p l e R s m args below meth c H locs cells slots Q (F0 m pc ls (.int (iI b) :: rest))) : W p l e R s m args below meth c H locs cells slots Q (F0 m pc ls (.int (iI a) :: rest)) :=
  by rw [h]; exact k
theorem ai_toL (hexec : p.tables.exec = Jvm.exec) (hb : c.code = cc) {a b : Int} (h : a = b) (k : W p l e R s m args below meth c H locs cells slots Q (F0 m pc ls (.long (iL b) :: rest))) : W p l e R s m args below meth c H locs cells slots Q (F0 m pc ls (.long (iL a) :: rest)) :=
  by rw [h]; exact k
theorem ai_icmp_lt (hexec : p.tables.exec = Jvm.exec) (hb : c.code = cc) {a b : Int} {off : Int} {tgt : Nat} (hdg : decode cc pc = .ok (.if_icmp .lt off, 3)) (ht : (pc : Int) + off = (tgt : Int)) (ra : (-2147483648 ≤ a ∧ a ≤ 2147483647)) (rb : (-2147483648 ≤ b ∧ b ≤ 2147483647)) (kt : a < b → W p l e R s m args below meth c H locs cells slots Q (F0 m tgt ls rest)) (kf : b ≤ a → W p l e R s m args below meth c H locs cells slots Q (F0 m (pc + 3) ls rest)) : W p l e R s m args below meth c H locs cells slots Q (F0 m pc ls (.int (iI b) :: .int (iI a) :: rest)) :=
  lv_icmp_lt hexec hb hdg ht (fun h => kt ((iI_lt ra rb).mp h)) (fun h => kf (by have h2 := mt (iI_lt ra rb).mpr h; omega))
theorem ai_if_lt (hexec : p.tables.exec = Jvm.exec) (hb : c.code = cc) {a : Int} {off : Int} {tgt : Nat} (hdg : decode cc pc = .ok (.ifCond .lt off, 3)) (ht : (pc : Int) + off = (tgt : Int)) (ra : (-2147483648 ≤ a ∧ a ≤ 2147483647)) (kt : a < 0 → W p l e R s m args below meth c H locs cells slots Q (F0 m tgt ls rest)) (kf : 0 ≤ a → W p l e R s m args below meth c H locs cells slots Q (F0 m (pc + 3) ls rest)) : W p l e R s m args below meth c H locs cells slots Q (F0 m pc ls (.int (iI a) :: rest)) :=
  lv_if_lt hexec hb hdg ht (fun h => kt ((iI_ltz ra).mp h)) (fun h => kf (by have h2 := mt (iI_ltz ra).mpr h; omega))
theorem ai_lcmp_lt (hexec : p.tables.exec = Jvm.exec) (hb : c.code = cc) {a b : Int} {off : Int} {tgt : Nat} (hdg0 : decode cc pc = .ok (.lcmp, 1)) (hdg : decode cc (pc + 1) = .ok (.ifCond .lt off, 3)) (ht : ((pc + 1 : Nat) : Int) + off = (tgt : Int)) (ra : (-9223372036854775808 ≤ a ∧ a ≤ 9223372036854775807)) (rb : (-9223372036854775808 ≤ b ∧ b ≤ 9223372036854775807)) (kt : a < b → W p l e R s m args below meth c H locs cells slots Q (F0 m tgt ls rest)) (kf : b ≤ a → W p l e R s m args below meth c H locs cells slots Q (F0 m (pc + 4) ls rest)) : W p l e R s m args below meth c H locs cells slots Q (F0 m pc ls (.long (iL b) :: .long (iL a) :: rest)) :=
  W.lcmp hexec hb hdg0 (lv_if_lt hexec hb hdg ht (fun h => kt ((iL_lt ra rb).mp ((lg_cmp_lt _ _).mp h))) (fun h => kf (by have h2 := mt (iL_lt ra rb).mpr (mt (lg_cmp_lt _ _).mpr h); omega)))
theorem ai_icmp_ge (hexec : p.tables.exec = Jvm.exec) (hb : c.code = cc) {a b : Int} {off : Int} {tgt : Nat} (hdg : decode cc pc = .ok (.if_icmp .ge off, 3)) (ht : (pc : Int) + off = (tgt : Int)) (ra : (-2147483648 ≤ a ∧ a ≤ 2147483647)) (rb : (-2147483648 ≤ b ∧ b ≤ 2147483647)) (kt : b ≤ a → W p l e R s m args below meth c H locs cells slots Q (F0 m tgt ls rest)) (kf : a < b → W p l e R s m args below meth c H locs cells slots Q (F0 m (pc + 3) ls rest)) : W p l e R s m args below meth c H locs cells slots Q (F0 m pc ls (.int (iI b) :: .int (iI a) :: rest)) :=
  lv_icmp_ge hexec hb hdg ht (fun h => kt ((iI_le rb ra).mp h)) (fun h => kf (by have h2 := mt (iI_le rb ra).mpr h; omega))
theorem ai_if_ge (hexec : p.tables.exec = Jvm.exec) (hb : c.code = cc) {a : Int} {off : Int} {tgt : Nat} (hdg : decode cc pc = .ok (.ifCond .ge off, 3)) (ht : (pc : Int) + off = (tgt : Int)) (ra : (-2147483648 ≤ a ∧ a ≤ 2147483647)) (kt : 0 ≤ a → W p l e R s m args below meth c H locs cells slots Q (F0 m tgt ls rest)) (kf : a < 0 → W p l e R s m args below meth c H locs cells slots Q (F0 m (pc + 3) ls rest)) : W p l e R s m args below meth c H locs cells slots Q (F0 m pc ls (.int (iI a) :: rest)) :=
  lv_if_ge hexec hb hdg ht (fun h => kt ((iI_gez ra).mp h)) (fun h => kf (by have h2 := mt (iI_gez ra).mpr h; omega))
theorem ai_lcmp_ge (hexec : p.tables.exec = Jvm.exec) (hb : c.code = cc) {a b : Int} {off : Int} {tgt : Nat} (hdg0 : decode cc pc = .ok (.lcmp, 1)) (hdg : decode cc (pc + 1) = .ok (.ifCond .ge off, 3)) (ht : ((pc + 1 : Nat) : Int) + off = (tgt : Int)) (ra : (-9223372036854775808 ≤ a ∧ a ≤ 9223372036854775807)) (rb : (-9223372036854775808 ≤ b ∧ b ≤ 9223372036854775807)) (kt : b ≤ a → W p l e R s m args below meth c H locs cells slots Q (F0 m tgt ls rest)) (kf : a < b → W p l e R s m args below meth c H locs cells slots Q (F0 m (pc + 4) ls rest)) : W p l e R s m args below meth c H locs cells slots Q (F0 m pc ls (.long (iL b) :: .long (iL a) :: rest)) :=
  W.lcmp hexec hb hdg0 (lv_if_ge hexec hb hdg ht (fun h => kt ((iL_le rb ra).mp ((lg_cmp_ge _ _).mp h))) (fun h => kf (by have h2 := mt (iL_le rb ra).mpr (mt (lg_cmp_ge _ _).mpr h); omega)))
theorem ai_icmp_gt (hexec : p.tables.exec = Jvm.exec) (hb : c.code = cc) {a b : Int} {off : Int} {tgt : Nat} (hdg : decode cc pc = .ok (.if_icmp .gt off, 3)) (ht : (pc : Int) + off = (tgt : Int)) (ra : (-2147483648 ≤ a ∧ a ≤ 2147483647)) (rb : (-2147483648 ≤ b ∧ b ≤ 2147483647)) (kt : b < a → W p l e R s m args below meth c H locs cells slots Q (F0 m tgt ls rest)) (kf : a ≤ b → W p l e R s m args below meth c H locs cells slots Q (F0 m (pc + 3) ls rest)) : W p l e R s m args below meth c H locs cells slots Q (F0 m pc ls (.int (iI b) :: .int (iI a) :: rest)) :=
  lv_icmp_gt hexec hb hdg ht (fun h => kt ((iI_lt rb ra).mp h)) (fun h => kf (by have h2 := mt (iI_lt rb ra).mpr h; omega))
theorem ai_if_gt (hexec : p.tables.exec = Jvm.exec) (hb : c.code = cc) {a : Int} {off : Int} {tgt : Nat} (hdg : decode cc pc = .ok (.ifCond .gt off, 3)) (ht : (pc : Int) + off = (tgt : Int)) (ra : (-2147483648 ≤ a ∧ a ≤ 2147483647)) (kt : 0 < a → W p l e R s m args below meth c H locs cells slots Q (F0 m tgt ls rest)) (kf : a ≤ 0 → W p l e R s m args below meth c H locs cells slots Q (F0 m (pc + 3) ls rest)) : W p l e R s m args below meth c H locs cells slots Q (F0 m pc ls (.int (iI a) :: rest)) :=
  lv_if_gt hexec hb hdg ht (fun h => kt ((iI_gtz ra).mp h)) (fun h => kf (by have h2 := mt (iI_gtz ra).mpr h; omega))
theorem ai_lcmp_gt (hexec : p.tables.exec = Jvm.exec) (hb : c.code = cc) {a b : Int} {off : Int} {tgt : Nat} (hdg0 : decode cc pc = .ok (.lcmp, 1)) (hdg : decode cc (pc + 1) = .ok (.ifCond .gt off, 3)) (ht : ((pc + 1 : Nat) : Int) + off = (tgt : Int)) (ra : (-9223372036854775808 ≤ a ∧ a ≤ 9223372036854775807)) (rb : (-9223372036854775808 ≤ b ∧ b ≤ 9223372036854775807)) (kt : b < a → W p l e R s m args below meth c H locs cells slots Q (F0 m tgt ls rest)) (kf : a ≤ b → W p l e R s m args below meth c H locs cells slots Q (F0 m (pc + 4) ls rest)) : W p l e R s m args below meth c H locs cells slots Q (F0 m pc ls (.long (iL b) :: .long (iL a) :: rest)) :=
  W.lcmp hexec hb hdg0 (lv_if_gt hexec hb hdg ht (fun h => kt ((iL_lt rb ra).mp ((lg_cmp_gt _ _).mp h))) (fun h => kf (by have h2 := mt (iL_lt rb ra).mpr (mt (lg_cmp_gt _ _).mpr h); omega)))
theorem ai_icmp_le (hexec : p.tables.exec = Jvm.exec) (hb : c.code = cc) {a b : Int} {off : Int} {tgt : Nat} (hdg : decode cc pc = .ok (.if_icmp .le off, 3)) (ht : (pc : Int) + off = (tgt : Int)) (ra : (-2147483648 ≤ a ∧ a ≤ 2147483647)) (rb : (-2147483648 ≤ b ∧ b ≤ 2147483647)) (kt : a ≤ b → W p l e R s m args below meth c H locs cells slots Q (F0 m tgt ls rest)) (kf : b < a → W p l e R s m args below meth c H locs cells slots Q (F0 m (pc + 3) ls rest)) : W p l e R s m args below meth c H locs cells slots Q (F0 m pc ls (.int (iI b) :: .int (iI a) :: rest)) :=
  lv_icmp_le hexec hb hdg ht (fun h => kt ((iI_le ra rb).mp h)) (fun h => kf (by have h2 := mt (iI_le ra rb).mpr h; omega))
theorem ai_if_le (hexec : p.tables.exec = Jvm.exec) (hb : c.code = cc) {a : Int} {off : Int} {tgt : Nat} (hdg : decode cc pc = .ok (.ifCond .le off, 3)) (ht : (pc : Int) + off = (tgt : Int)) (ra : (-2147483648 ≤ a ∧ a ≤ 2147483647)) (kt : a ≤ 0 → W p l e R s m args below meth c H locs cells slots Q (F0 m tgt ls rest)) (kf : 0 < a → W p l e R s m args below meth c H locs cells slots Q (F0 m (pc + 3) ls rest)) : W p l e R s m args below meth c H locs cells slots Q (F0 m pc ls (.int (iI a) :: rest)) :=
  lv_if_le hexec hb hdg ht (fun h => kt ((iI_lez ra).mp h)) (fun h => kf (by have h2 := mt (iI_lez ra).mpr h; omega))
theorem ai_lcmp_le (hexec : p.tables.exec = Jvm.exec) (hb : c.code = cc) {a b : Int} {off : Int} {tgt : Nat} (hdg0 : decode cc pc = .ok (.lcmp, 1)) (hdg : decode cc (pc + 1) = .ok (.ifCond .le off, 3)) (ht : ((pc + 1 : Nat) : Int) + off = (tgt : Int)) (ra : (-9223372036854775808 ≤ a ∧ a ≤ 9223372036854775807)) (rb : (-9223372036854775808 ≤ b ∧ b ≤ 9223372036854775807)) (kt : a ≤ b → W p l e R s m args below meth c H locs cells slots Q (F0 m tgt ls rest)) (kf : b < a → W p l e R s m args below meth c H locs cells slots Q (F0 m (pc + 4) ls rest)) : W p l e R s m args below meth c H locs cells slots Q (F0 m pc ls (.long (iL b) :: .long (iL a) :: rest)) :=
  W.lcmp hexec hb hdg0 (lv_if_le hexec hb hdg ht (fun h => kt ((iL_le ra rb).mp ((lg_cmp_le _ _).mp h))) (fun h => kf (by have h2 := mt (iL_le ra rb).mpr (mt (lg_cmp_le _ _).mpr h); omega)))
theorem ai_icmp_eq (hexec : p.tables.exec = Jvm.exec) (hb : c.code = cc) {a b : Int} {off : Int} {tgt : Nat} (hdg : decode cc pc = .ok (.if_icmp .eq off, 3)) (ht : (pc : Int) + off = (tgt : Int)) (ra : (-2147483648 ≤ a ∧ a ≤ 2147483647)) (rb : (-2147483648 ≤ b ∧ b ≤ 2147483647)) (kt : a = b → W p l e R s m args below meth c H locs cells slots Q (F0 m tgt ls rest)) (kf : a ≠ b → W p l e R s m args below meth c H locs cells slots Q (F0 m (pc + 3) ls rest)) : W p l e R s m args below meth c H locs cells slots Q (F0 m pc ls (.int (iI b) :: .int (iI a) :: rest)) :=
  lv_icmp_eq hexec hb hdg ht (fun h => kt ((iI_eq ra rb).mp h)) (fun h => kf (by have h2 := mt (iI_eq ra rb).mpr h; omega))
theorem ai_if_eq (hexec : p.tables.exec = Jvm.exec) (hb : c.code = cc) {a : Int} {off : Int} {tgt : Nat} (hdg : decode cc pc = .ok (.ifCond .eq off, 3)) (ht : (pc : Int) + off = (tgt : Int)) (ra : (-2147483648 ≤ a ∧ a ≤ 2147483647)) (kt : a = 0 → W p l e R s m args below meth c H locs cells slots Q (F0 m tgt ls rest)) (kf : a ≠ 0 → W p l e R s m args below meth c H locs cells slots Q (F0 m (pc + 3) ls rest)) : W p l e R s m args below meth c H locs cells slots Q (F0 m pc ls (.int (iI a) :: rest)) :=
  lv_if_eq hexec hb hdg ht (fun h => kt ((iI_eqz ra).mp h)) (fun h => kf (by have h2 := mt (iI_eqz ra).mpr h; omega))
theorem ai_lcmp_eq (hexec : p.tables.exec = Jvm.exec) (hb : c.code = cc) {a b : Int} {off : Int} {tgt : Nat} (hdg0 : decode cc pc = .ok (.lcmp, 1)) (hdg : decode cc (pc + 1) = .ok (.ifCond .eq off, 3)) (ht : ((pc + 1 : Nat) : Int) + off = (tgt : Int)) (ra : (-9223372036854775808 ≤ a ∧ a ≤ 9223372036854775807)) (rb : (-9223372036854775808 ≤ b ∧ b ≤ 9223372036854775807)) (kt : a = b → W p l e R s m args below meth c H locs cells slots Q (F0 m tgt ls rest)) (kf : a ≠ b → W p l e R s m args below meth c H locs cells slots Q (F0 m (pc + 4) ls rest)) : W p l e R s m args below meth c H locs cells slots Q (F0 m pc ls (.long (iL b) :: .long (iL a) :: rest)) :=
  W.lcmp hexec hb hdg0 (lv_if_eq hexec hb hdg ht (fun h => kt ((iL_eq ra rb).mp ((lg_cmp_eq _ _).mp h))) (fun h => kf (by have h2 := mt (iL_eq ra rb).mpr (mt (lg_cmp_eq _ _).mpr h); omega)))
theorem ai_icmp_ne (hexec : p.tables.exec = Jvm.exec) (hb : c.code = cc) {a b : Int} {off : Int} {tgt : Nat} (hdg : decode cc pc = .ok (.if_icmp .ne off, 3)) (ht : (pc : Int) + off = (tgt : Int)) (ra : (-2147483648 ≤ a ∧ a ≤ 2147483647)) (rb : (-2147483648 ≤ b ∧ b ≤ 2147483647)) (kt : a ≠ b → W p l e R s m args below meth c H locs cells slots Q (F0 m tgt ls rest)) (kf : a = b → W p l e R s m args below meth c H locs cells slots Q (F0 m (pc + 3) ls rest)) : W p l e R s m args below meth c H locs cells slots Q (F0 m pc ls (.int (iI b) :: .int (iI a) :: rest)) :=
  lv_icmp_ne hexec hb hdg ht (fun h => kt (mt (iI_eq ra rb).mpr h)) (fun h => kf ((iI_eq ra rb).mp h))
theorem ai_if_ne (hexec : p.tables.exec = Jvm.exec) (hb : c.code = cc) {a : Int} {off : Int} {tgt : Nat} (hdg : decode cc pc = .ok (.ifCond .ne off, 3)) (ht : (pc : Int) + off = (tgt : Int)) (ra : (-2147483648 ≤ a ∧ a ≤ 2147483647)) (kt : a ≠ 0 → W p l e R s m args below meth c H locs cells slots Q (F0 m tgt ls rest)) (kf : a = 0 → W p l e R s m args below meth c H locs cells slots Q (F0 m (pc + 3) ls rest)) : W p l e R s m args below meth c H locs cells slots Q (F0 m pc ls (.int (iI a) :: rest)) :=
  lv_if_ne hexec hb hdg ht (fun h => kt (mt (iI_eqz ra).mpr h)) (fun h => kf ((iI_eqz ra).mp h))
theorem ai_lcmp_ne (hexec : p.tables.exec = Jvm.exec) (hb : c.code = cc) {a b : Int} {off : Int} {tgt : Nat} (hdg0 : decode cc pc = .ok (.lcmp, 1)) (hdg : decode cc (pc + 1) = .ok (.ifCond .ne off, 3)) (ht : ((pc + 1 : Nat) : Int) + off = (tgt : Int)) (ra : (-9223372036854775808 ≤ a ∧ a ≤ 9223372036854775807)) (rb : (-9223372036854775808 ≤ b ∧ b ≤ 9223372036854775807)) (kt : a ≠ b → W p l e R s m args below meth c H locs cells slots Q (F0 m tgt ls rest)) (kf : a = b → W p l e R s m args below meth c H locs cells slots Q (F0 m (pc + 4) ls rest)) : W p l e R s m args below meth c H locs cells slots Q (F0 m pc ls (.long (iL b) :: .long (iL a) :: rest)) :=
  W.lcmp hexec hb hdg0 (lv_if_ne hexec hb hdg ht (fun h => kt (mt (iL_eq ra rb).mpr (mt (lg_cmp_eq _ _).mpr h))) (fun h => kf ((iL_eq ra rb).mp ((lg_cmp_eq _ _).mp h))))
theorem ai_ifeqB (hexec : p.tables.exec = Jvm.exec) (hb : c.code = cc) {P : Prop} {off : Int} {tgt : Nat} (hdg : decode cc pc = .ok (.ifCond .eq off, 3)) (ht : (pc : Int) + off = (tgt : Int)) (kt : ¬ P → W p l e R s m args below meth c H locs cells slots Q (F0 m tgt ls rest)) (kf : P → W p l e R s m args below meth c H locs cells slots Q (F0 m (pc + 3) ls rest)) : W p l e R s m args below meth c H locs cells slots Q (F0 m pc ls (.int (iI (bI P)) :: rest)) :=
  lv_if_eq hexec hb hdg ht (fun h => kt (fun hP => by rw [bI_t hP] at h; revert h; decide +kernel)) (fun h => kf (Classical.byContradiction fun hP => by rw [bI_f hP] at h; revert h; decide +kernel))
theorem ai_ifneB (hexec : p.tables.exec = Jvm.exec) (hb : c.code = cc) {P : Prop} {off : Int} {tgt : Nat} (hdg : decode cc pc = .ok (.ifCond .ne off, 3)) (ht : (pc : Int) + off = (tgt : Int)) (kt : P → W p l e R s m args below meth c H locs cells slots Q (F0 m tgt ls rest)) (kf : ¬ P → W p l e R s m args below meth c H locs cells slots Q (F0 m (pc + 3) ls rest)) : W p l e R s m args below meth c H locs cells slots Q (F0 m pc ls (.int (iI (bI P)) :: rest)) :=
  lv_if_ne hexec hb hdg ht (fun h => kt (Classical.byContradiction fun hP => by rw [bI_f hP] at h; revert h; decide +kernel)) (fun h => kf (fun hP => by rw [bI_t hP] at h; revert h; decide +kernel))
theorem ai_iinc (hexec : p.tables.exec = Jvm.exec) (hb : c.code = cc) {i nL k : Nat} {n a : Int} {lv lv' : List (Nat × Value)} (hdg : decode cc pc = .ok (.iinc i n, 3)) (h : lv_has ls nL lv) (hk : lv[k]? = some (i, .int (iI a))) (hn : i < nL) (hl : (i, Value.int (iI (a + n))) :: lv.filter (fun q => !(q.1 == i) && !(q.1 + 1 == i && q.2.category == 2)) = lv') (kk : ∀ ls' : Array Slot, lv_has ls' nL lv' → W p l e R s m args below meth c H locs cells slots Q (F0 m (pc + 3) ls' rest)) : W p l e R s m args below meth c H locs cells slots Q (F0 m pc ls rest) :=
  lv_iinc hexec hb hdg h hk (iI_add a n) hn hl kk
end AI
section RO
variable {p : Program} {l : Launch} {e : Env} {R : Room} {s : State} {m : MethodId} {args : Array Value} {below : List Frame} {meth : Method} {c : Code} {H : Heap} {locs : List Loc} {cells slots : Nat} {Q : State → Prop} {cc : ByteArray} {pc : Nat} {ls : Array Slot} {rest : List Value}
/-- a contract of a method that writes nothing: arguments av, what it reads Bs, answer r -/
abbrev RO (l : Launch) (y : MethodName) (ws : List Cond) (fr lo : Nat) (av : List Value) (Bs : State → Prop) (r : Value) : Prop :=
  Met l y ws ({ frames := fr, cells := 0, slots := 0, locals := lo }) (va_Pc av Bs) (k2_QcV r) 0 0 (fun _ => False)
/-- what such a method may read: cells and the tables -/
def Bl (Bs : State → Prop) : Prop := ∀ (a : Array Value) (U : State) (g : JFrame) (mk : MethodId), Bs U → Bs (U.calling g mk a)
theorem Bl_true : Bl (fun _ => True) := fun _ _ _ _ _ => trivial
theorem ro_of {y : MethodName} {ws ws' : List Cond} {fr lo : Nat} {av : List Value} {Bs : State → Prop} {r : Value} {maxL : Nat} {ret : Option FieldType}
    (hy : plainName y.cls = true) (hw : ws = Cond.code y cc maxL ret :: ws') (hn : (lg_sl av).length ≤ maxL)
    (body : ∀ (p : Program) (e : Env) (s : State) (m : MethodId) (below : List Frame) (meth : Method) (c : Code) (ls : Array Slot), p.tables.exec = Jvm.exec → c.code = cc → meth.sig.returnType = ret → (∀ w ∈ ws, w.before av.toArray s = true) → s.vm.findClass y.cls = some m.cls → meth.locks = false → c.maxLocals = maxL → lv_has ls maxL (lv_args 0 av) → Bs s →
      W p l e (headSpec ws ({ frames := fr, cells := 0, slots := 0, locals := lo })).room s m av.toArray below meth c s.heap [] 0 0 (MQ below (k2_QcV r) av.toArray s 0 0 (fun _ => False)) (F0 m 0 ls [])) : RO l y ws fr lo av Bs r := by
  refine Met.ofW (cc := cc) (maxL := maxL) (ret := ret) hy hw ?_
  intro p e s m args below meth c s₁ B hml hv
  obtain ⟨rfl, hB⟩ := hv
  have hl := lv_entry av (n := maxL) hn
  rw [lg_entry_eq]
  exact body p e s m below meth c _ B.exec B.bytes B.returns (atoms_spec (ws := ws) B.pre) (findClass_of_methodNamed B.named) B.notSynchronized hml hl hB
theorem ro_lret {x y : Int} (hexec : p.tables.exec = Jvm.exec) (hb : c.code = cc) (hr : meth.sig.returnType = some .long) (hlocks : meth.locks = false) (hdg : decode cc pc = .ok (.lreturn, 1)) (h : x = y) :
    W p l e R s m args below meth c s.heap [] 0 0 (MQ below (k2_QcV (.long (iL y))) args s 0 0 (fun _ => False)) (F0 m pc ls [.long (iL x)]) :=
  W.lret (v := iL x) hexec hb hr (fun t ht _ => ⟨by rw [h], ht⟩) (fun q h => nomatch h) hdg hlocks
theorem ro_iret {x y : Int} (hexec : p.tables.exec = Jvm.exec) (hb : c.code = cc) (hr : meth.sig.returnType = some .int) (hlocks : meth.locks = false) (hdg : decode cc pc = .ok (.ireturn, 1)) (h : x = y) :
    W p l e R s m args below meth c s.heap [] 0 0 (MQ below (k2_QcV (.int (iI y))) args s 0 0 (fun _ => False)) (F0 m pc ls [.int (iI x)]) :=
  W.iret (v := iI x) hexec hb hr (fun t ht _ => ⟨by rw [h], ht⟩) (fun q h => nomatch h) hdg hlocks
theorem iI_narB {x : Int} (h : x = 0 ∨ x = 1) : narrow .boolean (.int (iI x)) = .int (iI x) := by
  rcases h with rfl | rfl <;> decide +kernel
theorem ro_zret {x : Int} {P : Prop} (hexec : p.tables.exec = Jvm.exec) (hb : c.code = cc) (hr : meth.sig.returnType = some .boolean) (hlocks : meth.locks = false) (hdg : decode cc pc = .ok (.ireturn, 1)) (h : x = bI P) :
    W p l e R s m args below meth c s.heap [] 0 0 (MQ below (k2_QcV (.int (iI (bI P)))) args s 0 0 (fun _ => False)) (F0 m pc ls [.int (iI x)]) :=
  W.zret (v := iI x) hexec hb hr (iI_narB (by rw [h]; have := bI_01 P; omega)) (fun t ht _ => ⟨by rw [h], ht⟩) (fun q h => nomatch h) hdg hlocks
theorem ro_1 {x : Int} {P : Prop} (h : P) (h1 : x = 1) : x = bI P := by rw [h1, bI_t h]
theorem ro_0 {x : Int} {P : Prop} (h : ¬ P) (h1 : x = 0) : x = bI P := by rw [h1, bI_f h]
/-- a call of such a method: nothing changes but the stack -/
theorem ro_preS {av : List Value} {Bs : State → Prop} (hbl : Bl Bs) (h : ∀ U : State, U.heap = H → s.WarmedH U.vm → Bs U) : PreS s H (va_Pc av Bs) av :=
  ⟨fun a U g mk q => ⟨q.1, hbl a U g mk q.2⟩, fun U h1 h2 => ⟨rfl, h U h1 h2⟩⟩
theorem ro_preV {C : String} {b : Addr} {As : List Value} {Bs : State → Prop} (hbl : Bl Bs) (hc : ∃ cellB : Cell, H[b]? = some cellB ∧ cellB.vm.isStatics = false ∧ s.vm.findClass C = some cellB.cls) (h : ∀ U : State, U.heap = H → s.WarmedH U.vm → Bs U) : PreV s H C b (va_Pc (.ref b :: As) Bs) As :=
  ⟨fun a U g mk q => ⟨q.1, hbl a U g mk q.2⟩, hc, fun U h1 h2 => ⟨rfl, h U h1 h2⟩⟩
/-- the run of such a call goes on with the answer on the stack -/
theorem ro_go {a : Array Value} {r : Value} {st0 : List Value} (hr : va_Run p l e R s m args below meth c H locs cells slots 0 0 (F0 m pc ls st0) rest (k2_QcV r a) (fun _ => False)) (kk : W p l e R s m args below meth c H locs cells slots Q (F0 m (pc + 3) ls (r :: rest))) : W p l e R s m args below meth c H locs cells slots Q (F0 m pc ls st0) :=
  W.callV (va_Run.run hr) kk
end RO
end
section
/-! pure: floors, rules of leap years, starts of years, rows of months -/
theorem dv_uniq {x c q r : Int} (h : x = c * q + r) (h0 : 0 ≤ r) (h1 : r < c) : x / c = q := by
  have hc : c ≠ 0 := by omega
  rw [h, Int.add_comm, Int.add_mul_ediv_left _ _ hc, Int.ediv_eq_zero_of_lt h0 h1, Int.zero_add]
theorem md_uniq {x c q r : Int} (h : x = c * q + r) (h0 : 0 ≤ r) (h1 : r < c) : x % c = r := by
  rw [h, Int.add_comm, Int.add_mul_emod_self_left, Int.emod_eq_of_lt h0 h1]
/-- the reference's div: the truncated quotient, one less where it is too large -/
theorem dv_floor {x n : Int} (hn : 0 < n) : x / n = if x.tdiv n * n > x then x.tdiv n - 1 else x.tdiv n := by
  have h1 := Int.tdiv_mul_add_tmod x n
  split
  · rename_i h
    have h2 : x.tmod n < 0 := by omega
    have h3 : -n < x.tmod n := by
      have := Int.lt_tmod_of_pos x hn
      omega
    refine dv_uniq (r := x.tmod n + n) ?_ (by omega) (by omega)
    rw [Int.mul_sub, Int.mul_one, Int.mul_comm]
    omega
  · rename_i h
    have h3 : x.tmod n < n := Int.tmod_lt_of_pos x hn
    refine dv_uniq (r := x.tmod n) ?_ (by omega) h3
    rw [Int.mul_comm]
    omega
theorem dv_rng {x n lo hi : Int} (hn : 0 < n) (hlo : lo ≤ x) (hhi : x ≤ hi) (h0 : lo ≤ 0) (h1 : 0 ≤ hi) : lo ≤ x / n ∧ x / n ≤ hi := by
  constructor
  · refine Int.le_ediv_of_mul_le hn ?_
    have := Int.mul_le_mul_of_nonpos_left (a := lo) (b := n) (c := 1) h0 (by omega)
    omega
  · by_cases hs : 0 ≤ x
    · have := Int.ediv_le_self n hs; omega
    · have := Int.ediv_neg_of_neg_of_pos (show x < 0 by omega) hn; omega
theorem md_rng {x n : Int} (hn : 0 < n) : 0 ≤ x % n ∧ x % n < n := ⟨Int.emod_nonneg x (by omega), Int.emod_lt_of_pos x hn⟩
/-- (a y + b) div c grows by one just where (a y + b) mod c is below a -/
theorem spread_step {z a c : Int} (h0 : 0 ≤ a) (h1 : a ≤ c) (hc : 0 < c) : z / c - (z - a) / c = bI (z % c < a) := by
  have h2 := Int.mul_ediv_add_emod z c
  have h3 := md_rng (x := z) hc
  by_cases h : z % c < a
  · rw [bI_t h, dv_uniq (x := z - a) (c := c) (q := z / c - 1) (r := z % c - a + c) (by rw [Int.mul_sub]; omega) (by omega) (by omega)]
    omega
  · rw [bI_f h, dv_uniq (x := z - a) (c := c) (q := z / c) (r := z % c - a) (by omega) (by omega) (by omega)]
    omega
/-- leap years: of four, of the century, the 2820-year cycle, the moon's nineteen -/
def ylS (a b c y : Int) : Prop := (a * y + b) % c < a
def lbS (a b c y : Int) : Int := (a * (y - 1) + b) / c
def yl0 (y : Int) : Prop := y % 4 = 0 ∧ (y % 100 ≠ 0 ∨ y % 400 = 0)
def lb0 (y : Int) : Int := (y - 1) / 4 - (y - 1) / 100 + (y - 1) / 400
def yl7 (y : Int) : Prop := yl0 y ∧ y % 4000 ≠ 0
def lb7 (y : Int) : Int := lb0 y - (y - 1) / 4000
def yl6 (y : Int) : Prop := (((y - 474) % 2820 + 512) * 31) % 128 < 31
def lb6 (y : Int) : Int := 683 * ((y - 474) / 2820) + (((y - 474) % 2820 + 511) * 31) / 128
theorem lbS_step {a b c : Int} (h0 : 0 ≤ a) (h1 : a ≤ c) (hc : 0 < c) (y : Int) : lbS a b c (y + 1) = lbS a b c y + bI (ylS a b c y) := by
  have h := spread_step (z := a * y + b) h0 h1 hc
  have e : a * y + b - a = a * (y - 1) + b := by rw [Int.mul_sub]; omega
  rw [e] at h
  unfold lbS ylS
  rw [← h, show y + 1 - 1 = y by omega]
  omega
theorem lb0_step (y : Int) : lb0 (y + 1) = lb0 y + bI (yl0 y) := by
  unfold lb0
  by_cases h : yl0 y
  · rw [bI_t h]; unfold yl0 at h; omega
  · rw [bI_f h]; unfold yl0 at h; omega
theorem lb7_step (y : Int) : lb7 (y + 1) = lb7 y + bI (yl7 y) := by
  unfold lb7
  rw [lb0_step]
  by_cases h : yl0 y
  · by_cases h2 : y % 4000 = 0
    · rw [bI_t h, bI_f (fun q : yl7 y => q.2 h2)]; omega
    · rw [bI_t h, bI_t (P := yl7 y) ⟨h, h2⟩]; omega
  · rw [bI_f h, bI_f (fun q : yl7 y => h q.1)]; unfold yl0 at h; omega
theorem lb6_step (y : Int) : lb6 (y + 1) = lb6 y + bI (yl6 y) := by
  unfold lb6
  obtain ⟨z, hz⟩ : ∃ z, z = y - 474 := ⟨_, rfl⟩
  have e1 : y + 1 - 474 = z + 1 := by omega
  have hc : (z % 2820 = 2819 ∧ (z + 1) / 2820 = z / 2820 + 1 ∧ (z + 1) % 2820 = 0) ∨ (z % 2820 < 2819 ∧ (z + 1) / 2820 = z / 2820 ∧ (z + 1) % 2820 = z % 2820 + 1) := by omega
  unfold yl6
  rw [e1, ← hz]
  rcases hc with ⟨h1, h2, h3⟩ | ⟨h1, h2, h3⟩
  · rw [h2, h3, h1, bI_f (by decide)]; omega
  · rw [h2, h3]
    have h4 := spread_step (z := (z % 2820 + 512) * 31) (a := 31) (c := 128) (by decide) (by decide) (by decide)
    rw [← h4, show (z % 2820 + 1 + 511) * 31 = (z % 2820 + 512) * 31 by omega, show (z % 2820 + 511) * 31 = (z % 2820 + 512) * 31 - 31 by omega]
    omega
/-- a row of years: each starts behind the one before -/
def Inc (S : Int → Int) : Prop := ∀ y, S y < S (y + 1)
theorem Inc.add {S : Int → Int} (h : Inc S) (a : Int) : ∀ n : Nat, S a + n ≤ S (a + n)
  | 0 => by simp
  | n + 1 => by
    have h1 := Inc.add h a n
    have h2 := h (a + n)
    rw [show a + ((n + 1 : Nat) : Int) = a + n + 1 by omega]
    omega
theorem Inc.gap {S : Int → Int} (h : Inc S) {a b : Int} (hab : a ≤ b) : S a + (b - a) ≤ S b := by
  obtain ⟨n, hn⟩ := Int.eq_ofNat_of_zero_le (show 0 ≤ b - a by omega)
  have := h.add a n
  rw [show a + (n : Int) = b by omega] at this
  omega
theorem Inc.lt {S : Int → Int} (h : Inc S) {a b : Int} (hab : a < b) : S a < S b := by
  have := h.gap (show a + 1 ≤ b by omega)
  have := h a
  omega
theorem Inc.le_of {S : Int → Int} (h : Inc S) {a b d : Int} (ha : S a ≤ d) (hb : d < S (b + 1)) : a ≤ b := by
  by_cases hc : a ≤ b
  · exact hc
  · have := h.gap (show b + 1 ≤ a by omega)
    omega
theorem Inc.uniq {S : Int → Int} (h : Inc S) {a b d : Int} (ha : S a ≤ d) (ha2 : d < S (a + 1)) (hb : S b ≤ d) (hb2 : d < S (b + 1)) : a = b := by
  have h1 := h.le_of ha hb2
  have h2 := h.le_of hb ha2
  omega
/-- the start of year y: epoch ep, pd days in a plain year, L leap days before -/
def ys (ep pd : Int) (L : Int → Int) (y : Int) : Int := ep + pd * (y - 1) + L y - L 1
theorem ys_1 (ep pd : Int) (L : Int → Int) : ys ep pd L 1 = ep := by unfold ys; simp
theorem ys_step {ep pd : Int} {L : Int → Int} {P : Int → Prop} (hL : ∀ y, L (y + 1) = L y + bI (P y)) (y : Int) : ys ep pd L (y + 1) = ys ep pd L y + pd + bI (P y) := by
  unfold ys
  rw [hL, show pd * (y + 1 - 1) = pd * (y - 1) + pd by rw [show y + 1 - 1 = (y - 1) + 1 by omega, Int.mul_add, Int.mul_one]]
  omega
theorem ys_inc {ep pd : Int} {L : Int → Int} {P : Int → Prop} (hp : 1 ≤ pd) (hL : ∀ y, L (y + 1) = L y + bI (P y)) : Inc (ys ep pd L) := fun y => by
  rw [ys_step hL]
  have := bI_01 (P y)
  omega
/-- whole cycles: n years with K leap years each, however many -/
theorem ys_cyc {ep pd n K : Int} {L : Int → Int} (hK : ∀ q, L (q * n + 1) = L 1 + q * K) (q : Int) : ys ep pd L (q * n + 1) = ep + q * (pd * n + K) := by
  unfold ys
  rw [hK, Int.mul_add, show q * n + 1 - 1 = q * n by omega, ← Int.mul_assoc, ← Int.mul_assoc, Int.mul_comm pd q]
  omega
theorem lb0_cyc (q : Int) : lb0 (q * 400 + 1) = lb0 1 + q * 97 := by unfold lb0; omega
theorem lb7_cyc (q : Int) : lb7 (q * 4000 + 1) = lb7 1 + q * 969 := by unfold lb7 lb0; omega
theorem lb6_cyc (q : Int) : lb6 (q * 2820 + 1) = lb6 1 + q * 683 := by unfold lb6; omega
theorem lbS_cyc {a b c : Int} (hc : 0 < c) (q : Int) : lbS a b c (q * c + 1) = lbS a b c 1 + q * a := by
  unfold lbS
  rw [show a * (q * c + 1 - 1) + b = b + c * (q * a) by rw [show q * c + 1 - 1 = q * c by omega, ← Int.mul_assoc, Int.mul_comm (a * q) c, Int.mul_comm a q]; omega, Int.add_mul_ediv_left _ _ (by omega), show a * (1 - 1) + b = b by simp]
/-- sums of the lengths of months -/
def cm (f : Nat → Int) : Nat → Int
  | 0 => 0
  | n + 1 => cm f n + f n
theorem cm_mono {f : Nat → Int} (h : ∀ n, 0 ≤ f n) (a : Nat) : ∀ n : Nat, cm f a ≤ cm f (a + n)
  | 0 => Int.le_refl _
  | n + 1 => by
    have h1 := cm_mono h a n
    have h2 := h (a + n)
    have e : cm f (a + (n + 1)) = cm f (a + n) + f (a + n) := rfl
    rw [e]
    omega
theorem cm_le {f : Nat → Int} (h : ∀ n, 0 ≤ f n) {a b : Nat} (hab : a ≤ b) : cm f a ≤ cm f b := by
  have := cm_mono h a (b - a)
  rw [show a + (b - a) = b by omega] at this
  exact this
theorem cm_uniq {f : Nat → Int} (h : ∀ n, 0 ≤ f n) {a b : Nat} {x : Int} (ha : cm f a ≤ x) (ha2 : x < cm f (a + 1)) (hb : cm f b ≤ x) (hb2 : x < cm f (b + 1)) : a = b := by
  by_cases h1 : a + 1 ≤ b
  · have := cm_le h h1; omega
  · by_cases h2 : b + 1 ≤ a
    · have := cm_le h h2; omega
    · omega
end
section
/-! pure: the moon's years (calendar 9), the weeks (calendar 2) -/
def hmo (y : Int) : Int := (235 * y - 234) / 19
def hea (m : Int) : Int := 29 * m + (12084 + 13753 * m) / 25920
noncomputable def hpo (a : Int) : Int := bI ((3 * a + 3) % 7 < 3)
noncomputable def hel (y : Int) : Int := hea (hmo y) + hpo (hea (hmo y))
def yl9 (y : Int) : Prop := (7 * y + 1) % 19 < 7
noncomputable def hla (y : Int) : Int := if hel (y + 1) - hel y = 356 then 2 else if hel y - hel (y - 1) = 382 then 1 else 0
noncomputable def hst (y : Int) : Int := hel y + hla y - 1373427
theorem hmo_step (y : Int) : hmo (y + 1) = hmo y + 12 + bI (yl9 y) := by
  unfold hmo
  have hc : y % 19 = 0 ∨ y % 19 = 1 ∨ y % 19 = 2 ∨ y % 19 = 3 ∨ y % 19 = 4 ∨ y % 19 = 5 ∨ y % 19 = 6 ∨ y % 19 = 7 ∨ y % 19 = 8 ∨ y % 19 = 9 ∨ y % 19 = 10 ∨ y % 19 = 11 ∨ y % 19 = 12 ∨ y % 19 = 13 ∨ y % 19 = 14 ∨ y % 19 = 15 ∨ y % 19 = 16 ∨ y % 19 = 17 ∨ y % 19 = 18 := by omega
  by_cases h : yl9 y
  · rw [bI_t h]; unfold yl9 at h; rcases hc with h1 | h1 | h1 | h1 | h1 | h1 | h1 | h1 | h1 | h1 | h1 | h1 | h1 | h1 | h1 | h1 | h1 | h1 | h1 <;> omega
  · rw [bI_f h]; unfold yl9 at h; rcases hc with h1 | h1 | h1 | h1 | h1 | h1 | h1 | h1 | h1 | h1 | h1 | h1 | h1 | h1 | h1 | h1 | h1 | h1 | h1 <;> omega
theorem hea_12 (m : Int) : hea m + 354 ≤ hea (m + 12) ∧ hea (m + 12) ≤ hea m + 355 := by unfold hea; omega
theorem hea_13 (m : Int) : hea m + 383 ≤ hea (m + 13) ∧ hea (m + 13) ≤ hea m + 384 := by unfold hea; omega
theorem hea_24 (m : Int) : hea (m + 12 + 12) ≤ hea m + 709 := by unfold hea; omega
theorem hpo_or (a : Int) : (hpo a = 1 ∧ (a % 7 = 2 ∨ a % 7 = 4 ∨ a % 7 = 6)) ∨ (hpo a = 0 ∧ (a % 7 = 0 ∨ a % 7 = 1 ∨ a % 7 = 3 ∨ a % 7 = 5)) := by
  unfold hpo
  have hc : a % 7 = 0 ∨ a % 7 = 1 ∨ a % 7 = 2 ∨ a % 7 = 3 ∨ a % 7 = 4 ∨ a % 7 = 5 ∨ a % 7 = 6 := by omega
  by_cases h : (3 * a + 3) % 7 < 3
  · rw [bI_t h]; rcases hc with h1 | h1 | h1 | h1 | h1 | h1 | h1 <;> omega
  · rw [bI_f h]; rcases hc with h1 | h1 | h1 | h1 | h1 | h1 | h1 <;> omega
theorem yl9_two (y : Int) (h : yl9 y) : ¬ yl9 (y + 1) := by
  have hc : y % 19 = 0 ∨ y % 19 = 1 ∨ y % 19 = 2 ∨ y % 19 = 3 ∨ y % 19 = 4 ∨ y % 19 = 5 ∨ y % 19 = 6 ∨ y % 19 = 7 ∨ y % 19 = 8 ∨ y % 19 = 9 ∨ y % 19 = 10 ∨ y % 19 = 11 ∨ y % 19 = 12 ∨ y % 19 = 13 ∨ y % 19 = 14 ∨ y % 19 = 15 ∨ y % 19 = 16 ∨ y % 19 = 17 ∨ y % 19 = 18 := by omega
  unfold yl9 at h ⊢
  rcases hc with h1 | h1 | h1 | h1 | h1 | h1 | h1 | h1 | h1 | h1 | h1 | h1 | h1 | h1 | h1 | h1 | h1 | h1 | h1 <;> omega
/-- from one year to the next: days between the moons -/
theorem hea_step (y : Int) : (yl9 y ∧ hea (hmo y) + 383 ≤ hea (hmo (y + 1)) ∧ hea (hmo (y + 1)) ≤ hea (hmo y) + 384) ∨ (¬ yl9 y ∧ hea (hmo y) + 354 ≤ hea (hmo (y + 1)) ∧ hea (hmo (y + 1)) ≤ hea (hmo y) + 355) := by
  by_cases h : yl9 y
  · have e := hmo_step y
    rw [bI_t h] at e
    rw [e, show hmo y + 12 + 1 = hmo y + 13 by omega]
    exact Or.inl ⟨h, hea_13 _⟩
  · have e := hmo_step y
    rw [bI_f h] at e
    rw [e, show hmo y + 12 + 0 = hmo y + 12 by omega]
    exact Or.inr ⟨h, hea_12 _⟩
theorem hea_two (y : Int) (h : ¬ yl9 y) (h2 : ¬ yl9 (y + 1)) : hea (hmo (y + 1 + 1)) ≤ hea (hmo y) + 709 := by
  have e := hmo_step y
  have e2 := hmo_step (y + 1)
  rw [bI_f h] at e
  rw [bI_f h2] at e2
  rw [e2, e, show hmo y + 12 + 0 + 12 + 0 = hmo y + 12 + 12 by omega]
  exact hea_24 _
/-- a year of the moon has 353 to 355 days, a leap year 383 to 385 -/
theorem hst_len (y : Int) : (yl9 y ∧ hst y + 383 ≤ hst (y + 1) ∧ hst (y + 1) ≤ hst y + 385) ∨ (¬ yl9 y ∧ hst y + 353 ≤ hst (y + 1) ∧ hst (y + 1) ≤ hst y + 355) := by
  have s0 := hea_step (y - 1)
  have s1 := hea_step y
  have s2 := hea_step (y + 1)
  have t1 := hea_two y
  have n0 := yl9_two (y - 1)
  have n1 := yl9_two y
  rw [show y - 1 + 1 = y by omega] at s0 n0
  have p0 := hpo_or (hea (hmo (y - 1)))
  have p1 := hpo_or (hea (hmo y))
  have p2 := hpo_or (hea (hmo (y + 1)))
  have p3 := hpo_or (hea (hmo (y + 1 + 1)))
  unfold hst hla
  rw [show y + 1 - 1 = y by omega]
  unfold hel
  generalize hea (hmo (y - 1)) = a0 at *
  generalize hea (hmo y) = a1 at *
  generalize hea (hmo (y + 1)) = a2 at *
  generalize hea (hmo (y + 1 + 1)) = a3 at *
  generalize hpo a0 = b0 at *
  generalize hpo a1 = b1 at *
  generalize hpo a2 = b2 at *
  generalize hpo a3 = b3 at *
  by_cases q : yl9 y
  · have n0' : ¬ yl9 (y - 1) := fun h => n0 h q
    have n1' := n1 q
    refine Or.inl ⟨q, ?_⟩
    rcases s0 with ⟨h, _⟩ | ⟨-, s0⟩
    · exact absurd h n0'
    rcases s1 with ⟨-, s1⟩ | ⟨h, _⟩
    · rcases s2 with ⟨h, _⟩ | ⟨-, s2⟩
      · exact absurd h n1'
      · split <;> split <;> (try split) <;> (try split) <;> omega
    · exact absurd q h
  · refine Or.inr ⟨q, ?_⟩
    rcases s1 with ⟨h, _⟩ | ⟨-, s1⟩
    · exact absurd h q
    have t1 := t1 q
    rcases s0 with ⟨-, s0⟩ | ⟨-, s0⟩ <;> rcases s2 with ⟨-, s2⟩ | ⟨h2, s2⟩
    · split <;> split <;> (try split) <;> (try split) <;> omega
    · have t1 := t1 h2
      split <;> split <;> (try split) <;> (try split) <;> omega
    · split <;> split <;> (try split) <;> (try split) <;> omega
    · have t1 := t1 h2
      split <;> split <;> (try split) <;> (try split) <;> omega
theorem hst_inc : Inc hst := fun y => by have := hst_len y; omega
/-- weeks: the year starts at the Monday nearest to its first of January -/
def wst (S : Int → Int) (y : Int) : Int := S y + 3 - (S y + 3 - 1) % 7
theorem wst_len {S : Int → Int} (y : Int) (h : S y + 365 ≤ S (y + 1)) (h2 : S (y + 1) ≤ S y + 366) : wst S (y + 1) = wst S y + 364 ∨ wst S (y + 1) = wst S y + 371 := by
  unfold wst; omega
end
