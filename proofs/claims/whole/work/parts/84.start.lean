/-! 84.start: laid by program (wip/whole) -/
/-! THE CLAIM OUT OF ONE WALK OF THE LAW'S BODY. Your part is whole_start (and what it stands on); all else here is the same for every law, but numbers. -/
def R_law : String := "DayBookLaw"
def lw_P (b : Addr) (xs : List Int32) (args : Array Value) (s : State) : Prop := args = #[.ref b] ∧ s.IntsAt b xs ∧ xs.length ≤ 4096 ∧ (Jvm.Cond.and given_1 narrow_1).before args s = true
def lw_Q (_ : Array Value) (s : State) (o : Outcome) (t : State) : Prop := o = .returned (some (.int 1)) ∧ Framed s o t [] 674659 7072127
def lw_Z (below : List Frame) (a : Array Value) (s : State) : State → Prop := fun t => ∃ o, t.status = .running ∧ Ended t below o ∧ lw_Q a s o t
/-- the law's own end, with 1 on the stack, nothing written that was there before, its room as the claim has it -/
theorem lw_ret {p : Program} {l : Launch} {e : Env} {s : State} {m : MethodId} {below : List Frame} {meth : Method} {c : Code} {b : Nat} (hx : p.tables.exec = Jvm.exec) (hb : c.code = code) (hr : meth.sig.returnType = ret) (hlocks : meth.locks = false) {pc : Nat} {H : Heap} {ls : Array Slot} (hdg : decode code pc = .ok (.ireturn, 1)) : W p l e room_1 s m #[Value.ref b] below meth c H [] 674659 7072127 (lw_Z below #[Value.ref b] s) (F0 m pc ls [.int 1]) := by
  intro T hT X
  obtain ⟨fs, hret, hrun, hended, hW, hframe⟩ := X.leave (v := some (.int 1)) (hlocks := hlocks) (fun h => by rw [hr] at h; cases h)
  have hmeth' : T.vm.method? m = some meth := X.method'
  refine ⟨T.setFrames fs, ?_, .returned (some (.int 1)), hrun, hended, rfl, ⟨_, rfl⟩, hW, hframe⟩
  jvm_step X.here [X.here.top, hx, hb, hdg, hmeth', hr, ret, narrow_b1]
  (try refine ⟨rfl, ?_⟩); (try refine ⟨rfl, ?_⟩)
  first | (intro acts; rw [hret _ acts rfl rfl rfl]) | rw [hret _ _ rfl rfl rfl]
  exact Steps.refl _
/-- what holds at the law's entry: the machine, the code, the tables' words (any of lw_tbl by 'hts w (by decide +kernel)'), the script of L ints xs at the cell b, what the Statement gives of the start (any of its parts by flat_of_before) -/
def lw_At (p : Program) (s : State) (m : MethodId) (meth : Method) (c : Code) (b L : Nat) (xs : Nat → Int32) : Prop :=
  p.tables.exec = Jvm.exec ∧ c.code = code ∧ meth.sig.returnType = ret ∧ c.maxLocals = 7 ∧ s.vm.findClass R_law = some m.cls ∧ (∀ w ∈ lw_tbl, w.before #[Value.ref b] s = true) ∧ va_X b L xs s s.heap ∧ b < s.heap.size ∧ meth.locks = false ∧ (Jvm.Cond.and given_1 narrow_1).before #[Value.ref b] s = true

/-! what the Statement gives of the start -/
theorem st_arr {args : Array Value} {s : State} {C n d : String} {ty : FieldType} {K : Nat} {f : Nat → Int32} (hK : K < 2 ^ 31) (hl : (Cond.laysStatic C n d).before args s = true) (hini : (Cond.initialized C).before args s = true) (harr : (Cond.arrayOf (.static C n d) ty).before args s = true) (hlen : (Cond.eq (.length (.static C n d)) (.int (Int32.ofNat K))).before args s = true) (hel : ∀ j : Nat, j < K → (Cond.eq (.elem (.static C n d) (.int (Int32.ofNat j))) (.int (f j))).before args s = true) : ∃ t : Nat, va_Z C n d (.ref t) (newA s) s s.heap ∧ va_T ty t K (fun j => .int (f j)) (newA s) s s.heap := by
  obtain ⟨t, h1, h2⟩ := va_Tof (A := newA s) hK harr (va_eqt hlen) (fun j hj => va_eqt (hel j hj)) (fun a ha h => absurd h (by show ¬ s.heap.size ≤ a; omega))
  exact ⟨t, va_Zref hl hini h1 (fun a ha h => absurd h (by show ¬ s.heap.size ≤ a; omega)), h2⟩
set_option maxHeartbeats 4000000 in
set_option maxRecDepth 100000 in
theorem start_ok {p : Program} {s : State} {m : MethodId} {meth : Method} {c : Code} {l : Launch} {sc L : Nat} {xs : Nat → Int32} (hfl : l.flags = pinnedFlags ++ [noTraceFlag]) (hL : L ≤ 4096) (C0 : lw_At p s m meth c sc L xs) : ∃ (D : va_G) (cA cB : ClassId) (cx : Nat → ClassId) (sr : Nat → Nat), LC p l s m c sc L xs D cA cB cx sr ∧ va_AO "DayBook$Calendar" s := by
  obtain ⟨hx, hb, hr, hml, hown, hts0, hX, hbl, hlk, hgv⟩ := C0
  have htb : ∀ w ∈ tables_1, w.before (#[Value.ref sc] : Array Value) s = true := fun w hw => hts0 w (List.mem_append_right _ hw)
  have hts : ∀ w ∈ gw, w.before (#[Value.ref sc] : Array Value) s = true := fun w hw => hts0 w (List.mem_filter.mp hw).1
  have hs := flat_of_before _ hgv
  have hN : NV s := ⟨fun w hw hn => va_Nw.of (isNw_on hn) (htb w hw), fun w hw hn => va_Nw.of (isPv_on hn) (htb w hw)⟩
  obtain ⟨c0, i0, hk0⟩ := u_known (C := "java/lang/StringBuilder") (T := T_JB) (N := 4) hts in_JB (hts _ k_173)
  obtain ⟨c1, i1, hk1⟩ := u_known (C := "DayBook$CenturyRule") (T := T_CR) (N := 2) hts in_CR (hts _ k_47)
  obtain ⟨c2, i2, hk2⟩ := u_known (C := "DayBook$CycleRule") (T := T_YR) (N := 0) hts in_YR (hts _ k_145)
  obtain ⟨c3, i3, hk3⟩ := u_known (C := "DayBook$HebrewCalendar") (T := T_HC) (N := 0) hts in_HC (hts _ k_113)
  obtain ⟨c4, i4, hk4⟩ := u_known (C := "DayBook$LunarCalendar") (T := T_LC) (N := 0) hts in_LC (hts _ k_166)
  obtain ⟨c5, i5, hk5⟩ := u_known (C := "DayBook$MonthCalendar") (T := T_MC) (N := 7) hts in_MC (hts _ k_41)
  obtain ⟨c6, i6, hk6⟩ := u_known (C := "DayBook$SolarCalendar") (T := T_SC) (N := 0) hts in_SC (hts _ k_159)
  obtain ⟨c7, i7, hk7⟩ := u_known (C := "DayBook$SpreadRule") (T := T_SR) (N := 3) hts in_SR (hts _ k_96)
  obtain ⟨c8, i8, hk8⟩ := u_known (C := "DayBook$WeekCalendar") (T := T_WC) (N := 1) hts in_WC (hts _ k_122)
  obtain ⟨c9, i9, hk9⟩ := u_known (C := "DayBook") (T := T_B) (N := 5) hts in_B (hts _ k_33)
  obtain ⟨c10, i10, hk10⟩ := u_known (C := "DayBookModel") (T := T_M) (N := 19) hts in_M (hts _ k_901)
  obtain ⟨aint, kaint, coint, aint1, aint2, aint3⟩ := Cond.arrayClass_spec (hts _ k_487)
  obtain ⟨along, kalong, colong, along1, along2, along3⟩ := Cond.arrayClass_spec (hts _ k_1004)
  obtain ⟨aboolean, kaboolean, coboolean, aboolean1, aboolean2, aboolean3⟩ := Cond.arrayClass_spec (hts _ k_1005)
  obtain ⟨achar, kachar, cochar, achar1, achar2, achar3⟩ := Cond.arrayClass_spec (hts _ k_1006)
  obtain ⟨abyte, kabyte, cobyte, abyte1, abyte2, abyte3⟩ := Cond.arrayClass_spec (hts _ k_203)
  have hAO : va_AO "DayBook$Calendar" s := va_AO.of (htb _ (List.mem_of_getElem? (i := 120) (by decide +kernel)))
  obtain ⟨co9, ca9, ka9, o1, o2, o3, o4, o5⟩ := Cond.arrayOver_spec (n := "DayBook$Calendar") (htb _ (List.mem_of_getElem? (i := 120) (by decide +kernel)))
  obtain ⟨dg1, dg1z, dg1t⟩ := st_arr (C := "java/lang/Integer") (n := "DigitOnes") (d := "[B") (ty := .byte) (K := 100) (f := (fun j => iI ((48 + j % 10 : Nat) : Int))) (by decide) (htb _ (List.mem_of_getElem? (i := 865) (by decide +kernel))) (htb _ (List.mem_of_getElem? (i := 30) (by decide +kernel))) (hs _ (List.mem_of_getElem? (i := 142) (by decide +kernel))) (hs _ (List.mem_of_getElem? (i := 143) (by decide +kernel))) (fun j hj => hs _ (va_run (L := flatC (Jvm.Cond.and given_1 narrow_1)) (N := 100) (p := 144) (f := fun j => Cond.eq (.elem (.static "java/lang/Integer" "DigitOnes" "[B") (.int (Int32.ofNat j))) (.int ((fun j => iI ((48 + j % 10 : Nat) : Int)) j))) (by decide +kernel) j hj))
  obtain ⟨dg2, dg2z, dg2t⟩ := st_arr (C := "java/lang/Integer") (n := "DigitTens") (d := "[B") (ty := .byte) (K := 100) (f := (fun j => iI ((48 + j / 10 : Nat) : Int))) (by decide) (htb _ (List.mem_of_getElem? (i := 867) (by decide +kernel))) (htb _ (List.mem_of_getElem? (i := 30) (by decide +kernel))) (hs _ (List.mem_of_getElem? (i := 245) (by decide +kernel))) (hs _ (List.mem_of_getElem? (i := 246) (by decide +kernel))) (fun j hj => hs _ (va_run (L := flatC (Jvm.Cond.and given_1 narrow_1)) (N := 100) (p := 247) (f := fun j => Cond.eq (.elem (.static "java/lang/Integer" "DigitTens" "[B") (.int (Int32.ofNat j))) (.int ((fun j => iI ((48 + j / 10 : Nat) : Int)) j))) (by decide +kernel) j hj))
  obtain ⟨n0, n0z, n0t⟩ := st_arr (C := "DayBook") (n := "NUMBERS") (d := "[I") (ty := .int) (K := 20) (f := (fun j => iI (dF 0 j))) (by decide) (htb _ (List.mem_of_getElem? (i := 43) (by decide +kernel))) (htb _ (List.mem_of_getElem? (i := 1) (by decide +kernel))) (hs _ (List.mem_of_getElem? (i := 5) (by decide +kernel))) (hs _ (List.mem_of_getElem? (i := 6) (by decide +kernel))) (fun j hj => hs _ (va_run (L := flatC (Jvm.Cond.and given_1 narrow_1)) (N := 20) (p := 7) (f := fun j => Cond.eq (.elem (.static "DayBook" "NUMBERS" "[I") (.int (Int32.ofNat j))) (.int ((fun j => iI (dF 0 j)) j))) (by decide +kernel) j hj))
  obtain ⟨n1, n1z, n1t⟩ := st_arr (C := "DayBook") (n := "NUMBERS_OF_8") (d := "[I") (ty := .int) (K := 20) (f := (fun j => iI (dF 1 j))) (by decide) (htb _ (List.mem_of_getElem? (i := 153) (by decide +kernel))) (htb _ (List.mem_of_getElem? (i := 1) (by decide +kernel))) (hs _ (List.mem_of_getElem? (i := 89) (by decide +kernel))) (hs _ (List.mem_of_getElem? (i := 90) (by decide +kernel))) (fun j hj => hs _ (va_run (L := flatC (Jvm.Cond.and given_1 narrow_1)) (N := 20) (p := 91) (f := fun j => Cond.eq (.elem (.static "DayBook" "NUMBERS_OF_8" "[I") (.int (Int32.ofNat j))) (.int ((fun j => iI (dF 1 j)) j))) (by decide +kernel) j hj))
  obtain ⟨n2, n2z, n2t⟩ := st_arr (C := "DayBook") (n := "LENGTHS_OF_0") (d := "[I") (ty := .int) (K := 12) (f := (fun j => iI (dF 2 j))) (by decide) (htb _ (List.mem_of_getElem? (i := 45) (by decide +kernel))) (htb _ (List.mem_of_getElem? (i := 1) (by decide +kernel))) (hs _ (List.mem_of_getElem? (i := 28) (by decide +kernel))) (hs _ (List.mem_of_getElem? (i := 29) (by decide +kernel))) (fun j hj => hs _ (va_run (L := flatC (Jvm.Cond.and given_1 narrow_1)) (N := 12) (p := 30) (f := fun j => Cond.eq (.elem (.static "DayBook" "LENGTHS_OF_0" "[I") (.int (Int32.ofNat j))) (.int ((fun j => iI (dF 2 j)) j))) (by decide +kernel) j hj))
  obtain ⟨n3, n3z, n3t⟩ := st_arr (C := "DayBook") (n := "LENGTHS_OF_3") (d := "[I") (ty := .int) (K := 13) (f := (fun j => iI (dF 3 j))) (by decide) (htb _ (List.mem_of_getElem? (i := 132) (by decide +kernel))) (htb _ (List.mem_of_getElem? (i := 1) (by decide +kernel))) (hs _ (List.mem_of_getElem? (i := 43) (by decide +kernel))) (hs _ (List.mem_of_getElem? (i := 44) (by decide +kernel))) (fun j hj => hs _ (va_run (L := flatC (Jvm.Cond.and given_1 narrow_1)) (N := 13) (p := 45) (f := fun j => Cond.eq (.elem (.static "DayBook" "LENGTHS_OF_3" "[I") (.int (Int32.ofNat j))) (.int ((fun j => iI (dF 3 j)) j))) (by decide +kernel) j hj))
  obtain ⟨n4, n4z, n4t⟩ := st_arr (C := "DayBook") (n := "LENGTHS_OF_5") (d := "[I") (ty := .int) (K := 12) (f := (fun j => iI (dF 4 j))) (by decide) (htb _ (List.mem_of_getElem? (i := 136) (by decide +kernel))) (htb _ (List.mem_of_getElem? (i := 1) (by decide +kernel))) (hs _ (List.mem_of_getElem? (i := 59) (by decide +kernel))) (hs _ (List.mem_of_getElem? (i := 60) (by decide +kernel))) (fun j hj => hs _ (va_run (L := flatC (Jvm.Cond.and given_1 narrow_1)) (N := 12) (p := 61) (f := fun j => Cond.eq (.elem (.static "DayBook" "LENGTHS_OF_5" "[I") (.int (Int32.ofNat j))) (.int ((fun j => iI (dF 4 j)) j))) (by decide +kernel) j hj))
  obtain ⟨n5, n5z, n5t⟩ := st_arr (C := "DayBook") (n := "LENGTHS_OF_6") (d := "[I") (ty := .int) (K := 12) (f := (fun j => iI (dF 5 j))) (by decide) (htb _ (List.mem_of_getElem? (i := 142) (by decide +kernel))) (htb _ (List.mem_of_getElem? (i := 1) (by decide +kernel))) (hs _ (List.mem_of_getElem? (i := 74) (by decide +kernel))) (hs _ (List.mem_of_getElem? (i := 75) (by decide +kernel))) (fun j hj => hs _ (va_run (L := flatC (Jvm.Cond.and given_1 narrow_1)) (N := 12) (p := 76) (f := fun j => Cond.eq (.elem (.static "DayBook" "LENGTHS_OF_6" "[I") (.int (Int32.ofNat j))) (.int ((fun j => iI (dF 5 j)) j))) (by decide +kernel) j hj))
  obtain ⟨n6, n6z, n6t⟩ := st_arr (C := "DayBook") (n := "LENGTHS_OF_8") (d := "[I") (ty := .int) (K := 20) (f := (fun j => iI (dF 6 j))) (by decide) (htb _ (List.mem_of_getElem? (i := 155) (by decide +kernel))) (htb _ (List.mem_of_getElem? (i := 1) (by decide +kernel))) (hs _ (List.mem_of_getElem? (i := 112) (by decide +kernel))) (hs _ (List.mem_of_getElem? (i := 113) (by decide +kernel))) (fun j hj => hs _ (va_run (L := flatC (Jvm.Cond.and given_1 narrow_1)) (N := 20) (p := 114) (f := fun j => Cond.eq (.elem (.static "DayBook" "LENGTHS_OF_8" "[I") (.int (Int32.ofNat j))) (.int ((fun j => iI (dF 6 j)) j))) (by decide +kernel) j hj))
  have hSA : SA (newA s) s := ⟨va_Zof (htb _ (List.mem_of_getElem? (i := 182) (by decide +kernel))) (htb _ (List.mem_of_getElem? (i := 15) (by decide +kernel))) (va_eqi (hs _ (List.mem_of_getElem? (i := 134) (by decide +kernel)))) (fun a ha h => absurd h (by show ¬ s.heap.size ≤ a; omega)), va_Zqof (htb _ (List.mem_of_getElem? (i := 329) (by decide +kernel))) (htb _ (List.mem_of_getElem? (i := 31) (by decide +kernel))) (hs _ (List.mem_of_getElem? (i := 135) (by decide +kernel))) (fun a ha h => absurd h (by show ¬ s.heap.size ≤ a; omega)), ⟨dg1, dg1z, dg1t⟩, dg2, dg2z, dg2t⟩
  have hTs : TSt s := ⟨tZ.of (htb _ (List.mem_of_getElem? (i := 430) (by decide +kernel))) (hs _ (List.mem_of_getElem? (i := 139) (by decide +kernel))), tZ.of (htb _ (List.mem_of_getElem? (i := 432) (by decide +kernel))) (hs _ (List.mem_of_getElem? (i := 140) (by decide +kernel)))⟩
  have hNc : NCX s := by
    intro E hE C hC hne
    have x0 : va_Nc "java/lang/IndexOutOfBoundsException" "java/lang/IllegalArgumentException" s := va_Nc.of (hs _ (List.mem_of_getElem? (i := 372) (by decide +kernel)))
    have x1 : va_Nc "java/lang/IndexOutOfBoundsException" "java/lang/ArithmeticException" s := va_Nc.of (hs _ (List.mem_of_getElem? (i := 386) (by decide +kernel)))
    have x2 : va_Nc "java/lang/IndexOutOfBoundsException" "java/lang/UnsupportedOperationException" s := va_Nc.of (hs _ (List.mem_of_getElem? (i := 400) (by decide +kernel)))
    have x3 : va_Nc "java/lang/IllegalArgumentException" "java/lang/IndexOutOfBoundsException" s := va_Nc.of (hs _ (List.mem_of_getElem? (i := 358) (by decide +kernel)))
    have x4 : va_Nc "java/lang/IllegalArgumentException" "java/lang/ArithmeticException" s := va_Nc.of (hs _ (List.mem_of_getElem? (i := 387) (by decide +kernel)))
    have x5 : va_Nc "java/lang/IllegalArgumentException" "java/lang/UnsupportedOperationException" s := va_Nc.of (hs _ (List.mem_of_getElem? (i := 401) (by decide +kernel)))
    have x6 : va_Nc "java/lang/ArithmeticException" "java/lang/IndexOutOfBoundsException" s := va_Nc.of (hs _ (List.mem_of_getElem? (i := 359) (by decide +kernel)))
    have x7 : va_Nc "java/lang/ArithmeticException" "java/lang/IllegalArgumentException" s := va_Nc.of (hs _ (List.mem_of_getElem? (i := 373) (by decide +kernel)))
    have x8 : va_Nc "java/lang/ArithmeticException" "java/lang/UnsupportedOperationException" s := va_Nc.of (hs _ (List.mem_of_getElem? (i := 402) (by decide +kernel)))
    have x9 : va_Nc "java/lang/UnsupportedOperationException" "java/lang/IndexOutOfBoundsException" s := va_Nc.of (hs _ (List.mem_of_getElem? (i := 360) (by decide +kernel)))
    have x10 : va_Nc "java/lang/UnsupportedOperationException" "java/lang/IllegalArgumentException" s := va_Nc.of (hs _ (List.mem_of_getElem? (i := 374) (by decide +kernel)))
    have x11 : va_Nc "java/lang/UnsupportedOperationException" "java/lang/ArithmeticException" s := va_Nc.of (hs _ (List.mem_of_getElem? (i := 388) (by decide +kernel)))
    simp only [xnm, List.mem_cons, List.not_mem_nil, or_false] at hE hC
    rcases hE with rfl | rfl | rfl | rfl <;> rcases hC with rfl | rfl | rfl | rfl <;> first | exact absurd rfl hne | assumption
  have hDs : DSA (fun i => match i with | 0 => n0 | 1 => n1 | 2 => n2 | 3 => n3 | 4 => n4 | 5 => n5 | _ => n6) (newA s) s := by
    intro i hi
    match i, hi with
    | 0, _ => exact ⟨n0z, n0t⟩
    | 1, _ => exact ⟨n1z, n1t⟩
    | 2, _ => exact ⟨n2z, n2t⟩
    | 3, _ => exact ⟨n3z, n3t⟩
    | 4, _ => exact ⟨n4z, n4t⟩
    | 5, _ => exact ⟨n5z, n5t⟩
    | 6, _ => exact ⟨n6z, n6t⟩
    | i + 7, h9 => omega
  have hK : va_K (fun c => match c with | 0 => c0 | 1 => c1 | 2 => c2 | 3 => c3 | 4 => c4 | 5 => c5 | 6 => c6 | 7 => c7 | 8 => c8 | 9 => c9 | _ => c10, fun c => match c with | 0 => i0 | 1 => i1 | 2 => i2 | 3 => i3 | 4 => i4 | 5 => i5 | 6 => i6 | 7 => i7 | 8 => i8 | 9 => i9 | _ => i10) CL [(ca9, .object "DayBook$Calendar"), (abyte, .byte), (aint, .int), (along, .long), (aboolean, .boolean), (achar, .char)] s := by
    refine ⟨fun c q hq => ?_, fun k q hq => ?_⟩
    · match c with
      | 0 => cases hq; exact hk0
      | 1 => cases hq; exact hk1
      | 2 => cases hq; exact hk2
      | 3 => cases hq; exact hk3
      | 4 => cases hq; exact hk4
      | 5 => cases hq; exact hk5
      | 6 => cases hq; exact hk6
      | 7 => cases hq; exact hk7
      | 8 => cases hq; exact hk8
      | 9 => cases hq; exact hk9
      | 10 => cases hq; exact hk10
      | c + 11 => simp [CL] at hq
    · match k with
      | 0 => cases hq; exact ⟨fun n z => ⟨fun k h => (by cases h), ka9, o3, co9, o4⟩, ka9, co9, o3, o4, o1, o5⟩
      | 1 => cases hq; exact ⟨fun n z => ⟨fun k h => (by cases h), kabyte, abyte2, cobyte, abyte3⟩, abyte1⟩
      | 2 => cases hq; exact ⟨fun n z => ⟨fun k h => (by cases h), kaint, aint2, coint, aint3⟩, aint1⟩
      | 3 => cases hq; exact ⟨fun n z => ⟨fun k h => (by cases h), kalong, along2, colong, along3⟩, along1⟩
      | 4 => cases hq; exact ⟨fun n z => ⟨fun k h => (by cases h), kaboolean, aboolean2, coboolean, aboolean3⟩, aboolean1⟩
      | 5 => cases hq; exact ⟨fun n z => ⟨fun k h => (by cases h), kachar, achar2, cochar, achar3⟩, achar1⟩
      | k + 6 => simp at hq
  exact ⟨_, ca9, abyte, fun i => match i with | 0 => aint | 1 => along | 2 => aboolean | _ => achar, _, ⟨⟨hx, hb, hml, hown, hts, hN⟩, ⟨hX, hbl, hL⟩, hK, ⟨hSA, hDs, hTs, hNc⟩, hfl⟩, hAO⟩

