/-! 43.exc: laid by program (wip/whole) -/
/-! a method that throws a new exception, and the call of it that is caught -/
def tZ (n d : String) (U : State) (H : Heap) : Prop := ∃ (c : ClassId) (k : Class) (i : Nat) (f : Field) (a : Nat) (cell : Cell) (v : Value), U.vm.findClass "java/lang/Throwable" = some c ∧ U.fieldFound? "java/lang/Throwable" n d = some (c, k, i, f) ∧ f.isStatic = true ∧ k.statics = some a ∧ H[a]? = some cell ∧ cell.vm.isStatics = true ∧ cell.cls = c ∧ f.slot < cell.slots.size ∧ k.staticTypes[f.slot]? = some f.type ∧ cell.slots[f.slot]? = some v ∧ v.isRef = true
theorem tZ.moved {n d : String} {u U : State} {H : Heap} (hvm : u.vm.Alike U.vm) (h : tZ n d u H) : tZ n d U H := by
  obtain ⟨c, k, i, f, a, cell, v, h0, h1, h2, h3, h4, h5, h6, h7, h8, h9⟩ := h
  obtain ⟨k', hi', he⟩ := State.fieldFound?_setVm hvm h1
  exact ⟨c, k', i, f, a, cell, v, by rw [hvm.findClass]; exact h0, hi', h2, by rw [he]; exact h3, h4, h5, h6, h7, by rw [he]; exact h8, h9⟩
theorem tZ.kept {n d : String} {U : State} {H H1 : Heap} (h : tZ n d U H) (hq : ∀ q : Nat, q < H.size → H1[q]? = H[q]?) : tZ n d U H1 := by
  obtain ⟨c, k, i, f, a, cell, v, h0, h1, h2, h3, h4, h5⟩ := h
  exact ⟨c, k, i, f, a, cell, v, h0, h1, h2, h3, by rw [hq a (Array.getElem?_eq_some_iff.mp h4).1]; exact h4, h5⟩
theorem tZ.of {n d : String} {s : State} {args : Array Value} (hl : (Cond.laysStatic "java/lang/Throwable" n d).before args s = true) (hr : (Cond.isRef (.static "java/lang/Throwable" n d)).before args s = true) : tZ n d s s.heap := by
  obtain ⟨c, k, i, f, a, cell, h1, h2, h3, h4, h5, h6, h7, h8, h9⟩ := Cond.laysStatic_spec hl
  obtain ⟨u, hu⟩ := Cond.staticRefV h2 h3 h4 h5 h6 hr
  exact ⟨c, k, i, f, a, cell, u.v, h1, h2, h3, h4, h5, h6, h7, h8, h9, hu, u.ok⟩
theorem tZ.lays {n d : String} {s : State} {args : Array Value} (h : tZ n d s s.heap) : (Cond.laysStatic "java/lang/Throwable" n d).before args s = true := by
  obtain ⟨c, k, i, f, a, cell, v, h0, h1, h2, h3, h4, h5, h6, h7, h8, h9⟩ := h
  exact Cond.laysStatic_of h0 h1 h2 h3 h4 h5 h6 h7 h8
theorem tZ.ref {n d : String} {s : State} {args : Array Value} (h : tZ n d s s.heap) : (Cond.isRef (.static "java/lang/Throwable" n d)).before args s = true := by
  obtain ⟨c, k, i, f, a, cell, v, h0, h1, h2, h3, h4, h5, h6, h7, h8, h9, h10⟩ := h
  have he : (Term.static "java/lang/Throwable" n d).eval args s none [] s = some v := by
    simp [Term.eval, State.fieldNamed?, h1, h2, h3, h4, h5, h9]
  simp only [Cond.before, Cond.holds, Cond.value, he]
  cases v <;> simp_all [Value.isRef]
def TSt (U : State) : Prop := tZ "UNASSIGNED_STACK" "[Ljava/lang/StackTraceElement;" U U.heap ∧ tZ "SUPPRESSED_SENTINEL" "Ljava/util/List;" U U.heap
theorem tZ.m {n d : String} : Bm (fun U => tZ n d U U.heap) := ⟨fun a U g mk h => tZ.moved (u := U) (U := U.calling g mk a) (Vm.Alike.refl U.vm) h, fun s U h1 h2 h => by show tZ n d U U.heap; rw [h1]; exact tZ.moved h2.alike h⟩
theorem TSt.m : Bm TSt := Bm.and tZ.m tZ.m
def XEnd (first t : State) (a : Nat) (E : String) (mc ms : Nat) : Prop :=
  first.WarmedH t.vm ∧ first.sameButNew ({ t with vm := first.vm } : State) [] mc ms ∧ first.heap.size ≤ a ∧ ∃ ce : Cell, t.heap[a]? = some ce ∧ first.vm.findClass E = some ce.cls ∧ ce.vm = .none
def XQ (below : List Frame) (E : String) (s : State) (mc ms : Nat) : State → Prop := fun t => ∃ a, t.status = .running ∧ Ended t below (.threw a) ∧ XEnd s t a E mc ms
/-- the contract of a method that throws a new E, and writes nothing -/
def MetX (l : Launch) (y : MethodName) (ws : List Cond) (rm : Room) (Pc : Array Value → State → Prop) (E : String) (mc ms : Nat) : Prop :=
  MetFree l y (headSpec ws rm) Pc (fun _ _ _ _ _ => True) (fun _ st o t => ∃ a, o = .threw a ∧ XEnd st t a E mc ms)
/-- what the tables say of an exception E that a method of DayBook makes by the entries iN, ic -/
def XOK (iN ic : Nat) (E : String) : Prop := (∀ w ∈ Bundle.ownAtoms0 "DayBook" ic E ["java/lang/RuntimeException", "java/lang/Exception"], w ∈ gw ∨ (w ∈ tables_1 ∧ isNw w = true) ∨ w = .isRef (.static "java/lang/Throwable" "UNASSIGNED_STACK" "[Ljava/lang/StackTraceElement;") ∨ w = .isRef (.static "java/lang/Throwable" "SUPPRESSED_SENTINEL" "Ljava/util/List;") ∨ w = .laysStatic "java/lang/Throwable" "UNASSIGNED_STACK" "[Ljava/lang/StackTraceElement;" ∨ w = .laysStatic "java/lang/Throwable" "SUPPRESSED_SENTINEL" "Ljava/util/List;") ∧ Bundle.fit E = true ∧ Cond.classLink "DayBook" iN E ∈ gw ∧ Cond.instantiable E 6 ∈ gw ∧ Cond.initialized E ∈ gw
theorem xfit : ∀ n ∈ ["java/lang/RuntimeException", "java/lang/Exception"], Bundle.fit n = true := by decide +kernel
section XT
variable {p : Program} {l : Launch} {e : Env} {R : Room} {s : State} {m : MethodId} {args : Array Value} {below : List Frame} {meth : Method} {c : Code} {H : Heap} {locs : List Loc} {cells slots : Nat} {Q : State → Prop} {cc : ByteArray} {pc : Nat} {ls : Array Slot} {rest : List Value}
theorem xt_throw (hexec : p.tables.exec = Jvm.exec) (hb : c.code = cc) (htr : e.platform.stackTraces = false) (hown : s.vm.findClass "DayBook" = some m.cls) (hts : ∀ w ∈ gw, w.before args s = true) (hN : NV s) (hT : TSt s) (hxt : c.exceptionTable.isEmpty = true) (hlocks : meth.locks = false) (hsz : ls.size = c.maxLocals) {E : String} {iN ic : Nat} (hX : XOK iN ic E)
    (hd0 : decode cc pc = .ok (.new iN, 3)) (hd3 : decode cc (pc + 3) = .ok (.dup, 1)) (hd4 : decode cc (pc + 3 + 1) = .ok (.invokespecial ic, 3)) (hd7 : decode cc (pc + 3 + 1 + 3) = .ok (.athrow, 1)) (hcells : 1 ≤ R.cells) (hslots : 6 ≤ R.slots) (hRf : 6 ≤ R.frames) (hRl : 100 ≤ R.locals) :
    W p l e R s m args below meth c s.heap [] 0 0 (XQ below E s 1 6) (F0 m pc ls []) := by
  obtain ⟨hat, hfit, hcl, hins, hini⟩ := hX
  obtain ⟨cC, kC', hfc, -⟩ := Cond.instantiable_spec (hts _ hins)
  refine W.newcK hexec hb hown (hts _ hcl) (hts _ hins) (hts _ hini) rfl hd0 (by omega) (by omega) hfc rfl fun H1 kC hkC e1 z1 o1 => ?_
  refine lv_dup hexec hb hd3 rfl ?_
  intro T hT9 X
  obtain ⟨U, h1, h2, h3, h4, h5, ce, h6, h7⟩ := X.ctorThrow0 hexec htr (own := "DayBook") (cls := E) (names := ["java/lang/RuntimeException", "java/lang/Exception"]) (ic := ic) hown hfit xfit
    (fun w hw => by
      rcases hat w hw with h | ⟨h, hn⟩ | rfl | rfl | rfl | rfl
      · exact hts w h
      · exact va_tabs (isNw_on hn) rfl (hN.1 w h hn)
      · exact hT.1.ref
      · exact hT.2.ref
      · exact hT.1.lays
      · exact hT.2.lays)
    (fun _ h => nomatch h) (a := s.heap.size) hfc hkC (by rw [hT9]; exact e1) (Nat.le_refl _) (g := F0 m (pc + 3 + 1) ls [.ref s.heap.size, .ref s.heap.size]) rfl hsz rfl rfl (rest := []) rfl (by rw [hb]; exact hd4) (by rw [hb]; exact hd7)
    (fun x hx => by rw [Array.isEmpty_iff] at hxt; rw [hxt] at hx; cases hx) (by show 2 + 3 < _; omega) (by show 2 * 0 + (1 + 0) + (13 * (2 + 1) + 41) ≤ _; omega)
  exact ⟨U, h1, s.heap.size, h2, h3, h4, h5, Nat.le_refl _, ce, h6, h7.cls, h7.vm⟩
end XT
theorem xt_of {l : Launch} {y : MethodName} {cc : ByteArray} {fr lo : Nat} {av : List Value} {Bs : State → Prop} {E : String} {maxL : Nat} {ret : Option FieldType}
    (hfl : l.flags = pinnedFlags ++ [noTraceFlag]) (hy : plainFor y = true) (hn : (lg_sl av).length ≤ maxL)
    (body : ∀ (p : Program) (e : Env) (s : State) (m : MethodId) (below : List Frame) (meth : Method) (c : Code) (ls : Array Slot), e.platform.stackTraces = false → c.exceptionTable.isEmpty = true → p.tables.exec = Jvm.exec → c.code = cc → meth.sig.returnType = ret → (∀ w ∈ gw, w.before av.toArray s = true) → s.vm.findClass y.cls = some m.cls → meth.locks = false → c.maxLocals = maxL → lv_has ls maxL (lv_args 0 av) → NV s → Bs s →
      W p l e (headSpec (wo y cc maxL ret) ({ frames := fr, cells := 1, slots := 6, locals := lo })).room s m av.toArray below meth c s.heap [] 0 0 (XQ below E s 1 6) (F0 m 0 ls [])) : MetX l y (wo y cc maxL ret) ({ frames := fr, cells := 1, slots := 6, locals := lo }) (va_Pc av (fun U => NV U ∧ Bs U)) E 1 6 := by
  refine MetFree.of_bodySF (code := cc) (maxLocals := maxL) (ret := ret) hy ?_ ?_
  · intro args s m h hn
    obtain ⟨meth, c, h1, h2, h3, h4, h5, h6, -, -⟩ := Cond.code_spec hn (atoms_spec (ws := wo y cc maxL ret) h _ List.mem_cons_self)
    exact ⟨meth, c, h1, h2, h3, h4, h5, h6⟩
  · intro p e s m args below meth c s₁ B hml hP _
    have hh0 : s₁.heap = s.heap := by rw [B.state]; rfl
    obtain ⟨rfl, hN, hB⟩ := hP
    have hl := lv_entry av (n := maxL) hn
    have hts := atoms_spec (ws := wo y cc maxL ret) B.pre
    obtain ⟨meth', c', h1, h2, -, -, -, -, hxt, -⟩ := Cond.code_spec B.named (hts _ List.mem_cons_self)
    have hX := Stand.of_body B
    cases B.method.symm.trans h1
    cases hX.code.symm.trans h2
    have K := body p e s m below meth c _ (Launch.traces_off hfl B.admits) hxt B.exec B.bytes B.returns (fun w h => hts w (List.mem_cons_of_mem _ h)) (findClass_of_methodNamed B.named) B.notSynchronized hml hl hN hB
    obtain ⟨t, a1, a, b1, b2, b3⟩ := K s₁ hh0 hX
    refine ⟨t, .threw a, ?_, b1, b2, a, rfl, b3⟩
    rw [lg_entry_eq]
    exact a1
