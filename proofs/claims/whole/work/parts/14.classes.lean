/-! the classes whose objects the worlds hold, their fields by slot, by program (wip/whole/classes.py) -/
theorem gw_idx {L : List Cond} (is : List Nat) (h : is.map (fun i => tables_1[i]?) = L.map some) (hg : L.all goodWord = true) : ∀ w ∈ L, w ∈ gw := fun w hw => by
  have h1 : some w ∈ L.map some := List.mem_map.mpr ⟨w, hw, rfl⟩
  rw [← h] at h1
  obtain ⟨i, -, hi⟩ := List.mem_map.mp h1
  exact gw_t i hi (List.all_eq_true.mp hg w hw)
def T_JB : u_T := fun k => match k with
  | 0 => ("java/lang/AbstractStringBuilder", "value", "[B", false)
  | 1 => ("java/lang/AbstractStringBuilder", "coder", "B", false)
  | 2 => ("java/lang/AbstractStringBuilder", "maybeLatin1", "Z", false)
  | _ => ("java/lang/AbstractStringBuilder", "count", "I", false)
def ty_JB : Nat → FieldType := fun k => match k with
  | 0 => .array .byte
  | 1 => .byte
  | 2 => .boolean
  | _ => .int
theorem nm_JB : ∀ a, a < 4 → ∀ b, b < 4 → a ≠ b → (T_JB a).2.1 ≠ (T_JB b).2.1 := by decide +kernel
theorem ty_JB_ok : ∀ k, k < 4 → parseFieldDescriptor (T_JB k).2.2.1 = some (ty_JB k) := by decide +kernel
theorem in_JB : ∀ w ∈ u_ws "java/lang/StringBuilder" T_JB 4, w ∈ gw := gw_idx [194, 196, 198, 200] (by decide +kernel) (by decide +kernel)
def T_CR : u_T := fun k => match k with
  | 0 => ("DayBook$CenturyRule", "later", "J", true)
  | _ => ("DayBook$CenturyRule", "dropsFourThousands", "Z", true)
def ty_CR : Nat → FieldType := fun k => match k with
  | 0 => .long
  | _ => .boolean
theorem nm_CR : ∀ a, a < 2 → ∀ b, b < 2 → a ≠ b → (T_CR a).2.1 ≠ (T_CR b).2.1 := by decide +kernel
theorem ty_CR_ok : ∀ k, k < 2 → parseFieldDescriptor (T_CR k).2.2.1 = some (ty_CR k) := by decide +kernel
theorem in_CR : ∀ w ∈ u_ws "DayBook$CenturyRule" T_CR 2, w ∈ gw := gw_idx [57, 59] (by decide +kernel) (by decide +kernel)
def T_YR : u_T := fun k => match k with
  | _ => ("", "", "", false)
def ty_YR : Nat → FieldType := fun k => match k with
  | _ => .int
theorem nm_YR : ∀ a, a < 0 → ∀ b, b < 0 → a ≠ b → (T_YR a).2.1 ≠ (T_YR b).2.1 := by decide +kernel
theorem ty_YR_ok : ∀ k, k < 0 → parseFieldDescriptor (T_YR k).2.2.1 = some (ty_YR k) := by decide +kernel
theorem in_YR : ∀ w ∈ u_ws "DayBook$CycleRule" T_YR 0, w ∈ gw := gw_idx [] (by decide +kernel) (by decide +kernel)
def T_HC : u_T := fun k => match k with
  | _ => ("", "", "", false)
def ty_HC : Nat → FieldType := fun k => match k with
  | _ => .int
theorem nm_HC : ∀ a, a < 0 → ∀ b, b < 0 → a ≠ b → (T_HC a).2.1 ≠ (T_HC b).2.1 := by decide +kernel
theorem ty_HC_ok : ∀ k, k < 0 → parseFieldDescriptor (T_HC k).2.2.1 = some (ty_HC k) := by decide +kernel
theorem in_HC : ∀ w ∈ u_ws "DayBook$HebrewCalendar" T_HC 0, w ∈ gw := gw_idx [] (by decide +kernel) (by decide +kernel)
def T_LC : u_T := fun k => match k with
  | _ => ("", "", "", false)
def ty_LC : Nat → FieldType := fun k => match k with
  | _ => .int
theorem nm_LC : ∀ a, a < 0 → ∀ b, b < 0 → a ≠ b → (T_LC a).2.1 ≠ (T_LC b).2.1 := by decide +kernel
theorem ty_LC_ok : ∀ k, k < 0 → parseFieldDescriptor (T_LC k).2.2.1 = some (ty_LC k) := by decide +kernel
theorem in_LC : ∀ w ∈ u_ws "DayBook$LunarCalendar" T_LC 0, w ∈ gw := gw_idx [] (by decide +kernel) (by decide +kernel)
def T_MC : u_T := fun k => match k with
  | 0 => ("DayBook$MonthCalendar", "numbers", "[I", true)
  | 1 => ("DayBook$MonthCalendar", "lengths", "[I", true)
  | 2 => ("DayBook$MonthCalendar", "leapPlace", "I", true)
  | 3 => ("DayBook$MonthCalendar", "epoch", "J", true)
  | 4 => ("DayBook$MonthCalendar", "hasYear0", "Z", true)
  | 5 => ("DayBook$MonthCalendar", "rule", "LDayBook$LeapRule;", true)
  | _ => ("DayBook$MonthCalendar", "plainDays", "I", true)
def ty_MC : Nat → FieldType := fun k => match k with
  | 0 => .array .int
  | 1 => .array .int
  | 2 => .int
  | 3 => .long
  | 4 => .boolean
  | 5 => .object "DayBook$LeapRule"
  | _ => .int
theorem nm_MC : ∀ a, a < 7 → ∀ b, b < 7 → a ≠ b → (T_MC a).2.1 ≠ (T_MC b).2.1 := by decide +kernel
theorem ty_MC_ok : ∀ k, k < 7 → parseFieldDescriptor (T_MC k).2.2.1 = some (ty_MC k) := by decide +kernel
theorem in_MC : ∀ w ∈ u_ws "DayBook$MonthCalendar" T_MC 7, w ∈ gw := gw_idx [79, 81, 83, 85, 87, 89, 91] (by decide +kernel) (by decide +kernel)
def T_SC : u_T := fun k => match k with
  | _ => ("", "", "", false)
def ty_SC : Nat → FieldType := fun k => match k with
  | _ => .int
theorem nm_SC : ∀ a, a < 0 → ∀ b, b < 0 → a ≠ b → (T_SC a).2.1 ≠ (T_SC b).2.1 := by decide +kernel
theorem ty_SC_ok : ∀ k, k < 0 → parseFieldDescriptor (T_SC k).2.2.1 = some (ty_SC k) := by decide +kernel
theorem in_SC : ∀ w ∈ u_ws "DayBook$SolarCalendar" T_SC 0, w ∈ gw := gw_idx [] (by decide +kernel) (by decide +kernel)
def T_SR : u_T := fun k => match k with
  | 0 => ("DayBook$SpreadRule", "a", "J", true)
  | 1 => ("DayBook$SpreadRule", "b", "J", true)
  | _ => ("DayBook$SpreadRule", "c", "J", true)
def ty_SR : Nat → FieldType := fun k => match k with
  | 0 => .long
  | 1 => .long
  | _ => .long
theorem nm_SR : ∀ a, a < 3 → ∀ b, b < 3 → a ≠ b → (T_SR a).2.1 ≠ (T_SR b).2.1 := by decide +kernel
theorem ty_SR_ok : ∀ k, k < 3 → parseFieldDescriptor (T_SR k).2.2.1 = some (ty_SR k) := by decide +kernel
theorem in_SR : ∀ w ∈ u_ws "DayBook$SpreadRule" T_SR 3, w ∈ gw := gw_idx [105, 107, 109] (by decide +kernel) (by decide +kernel)
def T_WC : u_T := fun k => match k with
  | _ => ("DayBook$WeekCalendar", "civil", "LDayBook$MonthCalendar;", true)
def ty_WC : Nat → FieldType := fun k => match k with
  | _ => .object "DayBook$MonthCalendar"
theorem nm_WC : ∀ a, a < 1 → ∀ b, b < 1 → a ≠ b → (T_WC a).2.1 ≠ (T_WC b).2.1 := by decide +kernel
theorem ty_WC_ok : ∀ k, k < 1 → parseFieldDescriptor (T_WC k).2.2.1 = some (ty_WC k) := by decide +kernel
theorem in_WC : ∀ w ∈ u_ws "DayBook$WeekCalendar" T_WC 1, w ∈ gw := gw_idx [128] (by decide +kernel) (by decide +kernel)
def T_B : u_T := fun k => match k with
  | 0 => ("DayBook", "civil", "LDayBook$MonthCalendar;", true)
  | 1 => ("DayBook", "julian", "LDayBook$MonthCalendar;", true)
  | 2 => ("DayBook", "hebrew", "LDayBook$HebrewCalendar;", true)
  | 3 => ("DayBook", "calendars", "[LDayBook$Calendar;", true)
  | _ => ("DayBook", "row", "Ljava/lang/StringBuilder;", true)
def ty_B : Nat → FieldType := fun k => match k with
  | 0 => .object "DayBook$MonthCalendar"
  | 1 => .object "DayBook$MonthCalendar"
  | 2 => .object "DayBook$HebrewCalendar"
  | 3 => .array (.object "DayBook$Calendar")
  | _ => .object "java/lang/StringBuilder"
theorem nm_B : ∀ a, a < 5 → ∀ b, b < 5 → a ≠ b → (T_B a).2.1 ≠ (T_B b).2.1 := by decide +kernel
theorem ty_B_ok : ∀ k, k < 5 → parseFieldDescriptor (T_B k).2.2.1 = some (ty_B k) := by decide +kernel
theorem in_B : ∀ w ∈ u_ws "DayBook" T_B 5, w ∈ gw := gw_idx [209, 211, 213, 215, 217] (by decide +kernel) (by decide +kernel)
def T_M : u_T := fun k => match k with
  | 0 => ("DayBookModel", "thrown", "I", false)
  | 1 => ("DayBookModel", "cycle", "[I", false)
  | 2 => ("DayBookModel", "days", "[J", false)
  | 3 => ("DayBookModel", "there", "[Z", false)
  | 4 => ("DayBookModel", "months", "[I", false)
  | 5 => ("DayBookModel", "lengths", "[I", false)
  | 6 => ("DayBookModel", "epochs", "[I", false)
  | 7 => ("DayBookModel", "ruleA", "[I", false)
  | 8 => ("DayBookModel", "ruleB", "[I", false)
  | 9 => ("DayBookModel", "ruleC", "[I", false)
  | 10 => ("DayBookModel", "lastCalendar", "I", false)
  | 11 => ("DayBookModel", "lastYear", "J", false)
  | 12 => ("DayBookModel", "lastStart", "J", false)
  | 13 => ("DayBookModel", "lastEnd", "J", false)
  | 14 => ("DayBookModel", "year", "J", false)
  | 15 => ("DayBookModel", "month", "I", false)
  | 16 => ("DayBookModel", "day", "I", false)
  | 17 => ("DayBookModel", "size", "I", false)
  | _ => ("DayBookModel", "row", "[C", false)
def ty_M : Nat → FieldType := fun k => match k with
  | 0 => .int
  | 1 => .array .int
  | 2 => .array .long
  | 3 => .array .boolean
  | 4 => .array .int
  | 5 => .array .int
  | 6 => .array .int
  | 7 => .array .int
  | 8 => .array .int
  | 9 => .array .int
  | 10 => .int
  | 11 => .long
  | 12 => .long
  | 13 => .long
  | 14 => .long
  | 15 => .int
  | 16 => .int
  | 17 => .int
  | _ => .array .char
theorem nm_M : ∀ a, a < 19 → ∀ b, b < 19 → a ≠ b → (T_M a).2.1 ≠ (T_M b).2.1 := by decide +kernel
theorem ty_M_ok : ∀ k, k < 19 → parseFieldDescriptor (T_M k).2.2.1 = some (ty_M k) := by decide +kernel
theorem in_M : ∀ w ∈ u_ws "DayBookModel" T_M 19, w ∈ gw := gw_idx [965, 967, 969, 971, 973, 975, 977, 979, 981, 983, 985, 987, 989, 991, 993, 995, 997, 999, 1001] (by decide +kernel) (by decide +kernel)
abbrev CL : List vw_C := [("java/lang/StringBuilder", T_JB, 4), ("DayBook$CenturyRule", T_CR, 2), ("DayBook$CycleRule", T_YR, 0), ("DayBook$HebrewCalendar", T_HC, 0), ("DayBook$LunarCalendar", T_LC, 0), ("DayBook$MonthCalendar", T_MC, 7), ("DayBook$SolarCalendar", T_SC, 0), ("DayBook$SpreadRule", T_SR, 3), ("DayBook$WeekCalendar", T_WC, 1), ("DayBook", T_B, 5), ("DayBookModel", T_M, 19)]
/-- cells that a method reads -/
def OB (D : va_G) (ws : va_W) (U : State) : Prop := va_K D CL [] U ∧ va_P D CL ws U.heap
theorem OB.m {D : va_G} {ws : va_W} : Bm (OB D ws) := ⟨fun a U g mk h => ⟨va_K.moved (u := U) (U := U.calling g mk a) (Vm.Alike.refl U.vm) h.1, h.2⟩, fun s U h1 h2 h => ⟨va_K.moved h2.alike h.1, by rw [h1]; exact h.2⟩⟩
theorem OB.recv {D : va_G} {ws : va_W} {s : State} (h : OB D ws s) {a ci : Nat} {q : vw_C} {fs : List Value} (k : Nat) (he : ws[k]? = some (a, .inr (ci, fs))) (hc : CL[ci]? = some q) : ∃ cell : Cell, s.heap[a]? = some cell ∧ cell.vm.isStatics = false ∧ s.vm.findClass q.1 = some cell.cls := va_recv h.1 h.2 hc he
theorem OB.sub {D : va_G} {ws ws' : va_W} {U : State} (h : OB D ws U) (is : List Nat) (hs : is.filterMap (fun i => ws[i]?) = ws') : OB D ws' U := ⟨h.1, h.2.sub is hs⟩
/-- an int array that a method reads: N places, f; it lies outside A -/
def TA (A : Nat → Prop) (t N : Nat) (f : Nat → Int) (U : State) : Prop := va_T .int t N (fun j => .int (iI (f j))) A U U.heap
theorem TA.m {A : Nat → Prop} {t N : Nat} {f : Nat → Int} : Bm (TA A t N f) := ⟨fun a U g mk h => va_T.moved (u := U) (U := U.calling g mk a) (Vm.Alike.refl U.vm) h, fun s U h1 h2 h => by unfold TA at h ⊢; rw [h1]; exact va_T.moved h2.alike h⟩
theorem TA.at {A B : Nat → Prop} {t N : Nat} {f : Nat → Int} {s : State} {H : Heap} {locs : List Loc} (h : TA A t N f s) (hS : va_S A s.heap H locs) (hB : ∀ q, B q → A q) (U : State) (h1 : U.heap = H) (h2 : s.WarmedH U.vm) : TA B t N f U := by
  unfold TA at h ⊢
  rw [h1]
  exact ((va_T.kept h hS.2.1).narrow hB).moved h2.alike
theorem TA.ofW {B : Nat → Prop} {D : va_G} {cl : List vw_C} {tys : List (ClassId × FieldType)} {ws : va_W} {s : State} {H : Heap} (hK : va_K D cl tys s) (hP : va_P D cl ws H) (q0 t0 : Nat) {t : Nat} {cA : ClassId} {n : Nat} {f : Nat → Int} (ha : ws[q0]? = some (t, .inl (cA, n, .inl (fun j => iI (f j))))) (ht : tys[t0]? = some (cA, .int)) (hB : ¬ B t) (U : State) (h1 : U.heap = H) (h2 : s.WarmedH U.vm) : TA B t n f U := by
  unfold TA
  rw [h1]
  have h3 := hP q0 _ ha
  have h4 := (va_K.moved h2.alike hK).2 t0 _ ht
  exact ⟨_, h3, h4.1 n (fun j => .int (iI (f j))), (fun q => by cases q), (by rw [vp_cell_i, arrV_size]; exact Nat.le_refl _), (by rw [vp_cell_i, arrV_size] <;> rfl), (fun j hj => by rw [vp_cell_i, arrV_read _ _ hj]), hB⟩
def tA (t N : Nat) (f : Nat → Int) (U : State) : Prop := TA (fun _ => False) t N f U
theorem tA.m {t N : Nat} {f : Nat → Int} : Bm (tA t N f) := TA.m
theorem Bm.and {A B : State → Prop} (ha : Bm A) (hb : Bm B) : Bm (fun U => A U ∧ B U) := ⟨fun a U g mk h => ⟨ha.1 a U g mk h.1, hb.1 a U g mk h.2⟩, fun s U h1 h2 h => ⟨ha.2 s U h1 h2 h.1, hb.2 s U h1 h2 h.2⟩⟩
theorem Bm.or {A B : State → Prop} (ha : Bm A) (hb : Bm B) : Bm (fun U => A U ∨ B U) := ⟨fun a U g mk h => h.imp (ha.1 a U g mk) (hb.1 a U g mk), fun s U h1 h2 h => h.imp (ha.2 s U h1 h2) (hb.2 s U h1 h2)⟩
theorem Bm.ex {α : Sort _} {A : α → State → Prop} (ha : ∀ x, Bm (A x)) : Bm (fun U => ∃ x, A x U) := ⟨fun a U g mk h => h.imp fun x hx => (ha x).1 a U g mk hx, fun s U h1 h2 h => h.imp fun x hx => (ha x).2 s U h1 h2 hx⟩
theorem Bm.c {P : Prop} : Bm (fun _ => P) := ⟨fun _ _ _ _ h => h, fun _ _ _ _ h => h⟩
section TA
variable {p : Program} {l : Launch} {e : Env} {R : Room} {s : State} {m : MethodId} {args : Array Value} {below : List Frame} {meth : Method} {c : Code} {cells slots : Nat} {Q : State → Prop} {cc : ByteArray} {pc : Nat} {ls : Array Slot} {rest : List Value}
theorem ta_ld (hexec : p.tables.exec = Jvm.exec) (hb : c.code = cc) {t N : Nat} {f : Nat → Int} {i : Int} (h : tA t N f s) (h0 : 0 ≤ i ∧ i < N) (hN : N < 2147483648) (hdg : decode cc pc = .ok (.iaload, 1)) (kk : W p l e R s m args below meth c s.heap [] cells slots Q (F0 m (pc + 1) ls (.int (iI (f i.toNat)) :: rest))) : W p l e R s m args below meth c s.heap [] cells slots Q (F0 m pc ls (.int (iI i) :: .ref t :: rest)) :=
  va_ti hexec hb (show va_T .int t N (fun j => .int (iI (f j))) (fun _ => False) s s.heap from h) va_S.rf (iI_in h0.1 h0.2 hN) (by rw [iI_clT h0.1 (by omega)]) hdg kk
theorem ta_len (hexec : p.tables.exec = Jvm.exec) (hb : c.code = cc) {t N : Nat} {f : Nat → Int} (h : tA t N f s) (hdg : decode cc pc = .ok (.arraylength, 1)) (kk : W p l e R s m args below meth c s.heap [] cells slots Q (F0 m (pc + 1) ls (.int (iI (N : Int)) :: rest))) : W p l e R s m args below meth c s.heap [] cells slots Q (F0 m pc ls (.ref t :: rest)) :=
  va_tlen hexec hb (show va_T .int t N (fun j => .int (iI (f j))) (fun _ => False) s s.heap from h) va_S.rf (by rw [iI_nI]; rfl) hdg kk
theorem ga_ld (hexec : p.tables.exec = Jvm.exec) (hb : c.code = cc) {A : Nat → Prop} {H : Heap} {locs : List Loc} {t N : Nat} {f : Nat → Int} {i : Int} (h : TA A t N f s) (hS : va_S A s.heap H locs) (h0 : 0 ≤ i ∧ i < N) (hN : N < 2147483648) (hdg : decode cc pc = .ok (.iaload, 1)) (kk : W p l e R s m args below meth c H locs cells slots Q (F0 m (pc + 1) ls (.int (iI (f i.toNat)) :: rest))) : W p l e R s m args below meth c H locs cells slots Q (F0 m pc ls (.int (iI i) :: .ref t :: rest)) :=
  va_ti hexec hb (show va_T .int t N (fun j => .int (iI (f j))) A s s.heap from h) hS (iI_in h0.1 h0.2 hN) (by rw [iI_clT h0.1 (by omega)]) hdg kk
theorem ga_len (hexec : p.tables.exec = Jvm.exec) (hb : c.code = cc) {A : Nat → Prop} {H : Heap} {locs : List Loc} {t N : Nat} {f : Nat → Int} (h : TA A t N f s) (hS : va_S A s.heap H locs) (hdg : decode cc pc = .ok (.arraylength, 1)) (kk : W p l e R s m args below meth c H locs cells slots Q (F0 m (pc + 1) ls (.int (iI (N : Int)) :: rest))) : W p l e R s m args below meth c H locs cells slots Q (F0 m pc ls (.ref t :: rest)) :=
  va_tlen hexec hb (show va_T .int t N (fun j => .int (iI (f j))) A s s.heap from h) hS (by rw [iI_nI]; rfl) hdg kk
end TA
