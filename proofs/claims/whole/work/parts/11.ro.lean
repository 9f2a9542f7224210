def isPv : Cond → Bool
  | .privateMethod _ => true
  | _ => false
def NV (U : State) : Prop := NW U ∧ ∀ w ∈ tables_1, isPv w = true → va_Nw w U
theorem isPv_on {w : Cond} (h : isPv w = true) : w.onTables = true := by
  cases w <;> first | rfl | (simp [isPv] at h)
theorem NV.warm {s U : State} (hW : s.WarmedH U.vm) (h : NV s) : NV U := ⟨NW.warm hW h.1, fun w hw hn => by
  cases w <;> first | exact va_tabs rfl (rfl : (s.setVm U.vm).vm = U.vm) (by rw [Cond.privateMethod_setVm hW.alike]; exact h.2 _ hw hn) | (simp [isPv] at hn)⟩
theorem NV.calling {U : State} {g : JFrame} {mk : MethodId} {a : Array Value} (h : NV U) : NV (U.calling g mk a) := ⟨NW.calling h.1, fun w hw hn => va_Nw.same (u := U) (U := U.calling g mk a) (isPv_on hn) rfl (h.2 w hw hn)⟩
theorem NV.get {U : State} (h : NV U) {w : Cond} (i : Nat) (hi : tables_1[i]? = some w) (hn : isNw w = true) : va_Nw w U := h.1.get i hi hn
theorem NV.pv {U : State} (h : NV U) {w : Cond} (i : Nat) (hi : tables_1[i]? = some w) (hn : isPv w = true) : va_Nw w U := h.2 w (List.mem_of_getElem? hi) hn
/-- a private method is selected by every class that can be made -/
theorem sel_priv {C : String} {y : MethodName} {s : State} {args : Array Value} {n : Nat} (hy : y.cls ≠ "java/lang/invoke/MethodHandle" ∧ y.cls ≠ "java/lang/invoke/VarHandle") (hins : (Cond.instantiable C n).before args s = true) (hpriv : (Cond.privateMethod y).before args s = true) (hinst : (Cond.instanceMethod y).before args s = true) {C2 : String} {x2 z2 : MethodName} (h2 : (Cond.selects C2 x2 z2).before args s = true) (hz : z2.cls = y.cls) : (Cond.selects C y y).before args s = true := by
  obtain ⟨c, k, hc, hk, -, hniab, -, -⟩ := Cond.instantiable_spec hins
  have hni : k.isInterface = false := (Bool.or_eq_false_iff.mp hniab).1
  obtain ⟨mk, methM, hnamed, hmethM, -, -⟩ := Cond.instanceMethod_spec hinst
  have hfound : s.methodFound? y.cls y.name y.desc = some mk := State.methodFound?_of_named hnamed hy
  have hsel : selectMethod {} s.vm c mk = .method mk := selectMethod_private hmethM (Cond.privateMethod_at hpriv mk methM hnamed hmethM)
  obtain ⟨c2, r2, m2, -, -, q3, -, k2, q5, q6⟩ := Cond.selects_spec h2
  have e1 : m2.cls = mk.cls := by
    have a1 := findClass_of_methodNamed q3
    have a2 := findClass_of_methodNamed hnamed
    rw [hz] at a1
    exact Option.some.inj (a1.symm.trans a2)
  rw [e1] at q5
  simp only [Cond.before, Cond.holds, Cond.value, hc, hfound, hnamed, hsel, q5]
  simp [q6]
section RO
variable {p : Program} {l : Launch} {e : Env} {R : Room} {s : State} {m : MethodId} {args : Array Value} {below : List Frame} {meth : Method} {c : Code} {H : Heap} {locs : List Loc} {cells slots : Nat} {Q : State → Prop} {cc : ByteArray} {pc : Nat} {ls : Array Slot} {rest : List Value}
/-- a contract of a method that writes nothing: arguments av, what it reads Bs, answer r -/
abbrev RO (l : Launch) (y : MethodName) (ws : List Cond) (fr lo : Nat) (av : List Value) (Bs : State → Prop) (r : Value) : Prop :=
  Met l y ws ({ frames := fr, cells := 0, slots := 0, locals := lo }) (va_Pc av (fun U => NV U ∧ Bs U)) (k2_QcV r) 0 0 (fun _ => False)
/-- what a method reads: it moves with the tables as they warm, and with a call's frame -/
def Bm (Bs : State → Prop) : Prop := (∀ (a : Array Value) (U : State) (g : JFrame) (mk : MethodId), Bs U → Bs (U.calling g mk a)) ∧ ∀ (s U : State), U.heap = s.heap → s.WarmedH U.vm → Bs s → Bs U
theorem Bm_true : Bm (fun _ => True) := ⟨fun _ _ _ _ _ => trivial, fun _ _ _ _ _ => trivial⟩
theorem ro_of {y : MethodName} {fr lo : Nat} {av : List Value} {Bs : State → Prop} {r : Value} {maxL : Nat} {ret : Option FieldType}
    (hy : plainFor y = true) (hn : (lg_sl av).length ≤ maxL)
    (body : ∀ (p : Program) (e : Env) (s : State) (m : MethodId) (below : List Frame) (meth : Method) (c : Code) (ls : Array Slot), p.tables.exec = Jvm.exec → c.code = cc → meth.sig.returnType = ret → (∀ w ∈ gw, w.before av.toArray s = true) → s.vm.findClass y.cls = some m.cls → meth.locks = false → c.maxLocals = maxL → lv_has ls maxL (lv_args 0 av) → NV s → Bs s →
      W p l e (headSpec (wo y cc maxL ret) ({ frames := fr, cells := 0, slots := 0, locals := lo })).room s m av.toArray below meth c s.heap [] 0 0 (MQ below (k2_QcV r) av.toArray s 0 0 (fun _ => False)) (F0 m 0 ls [])) : RO l y (wo y cc maxL ret) fr lo av Bs r := by
  refine va_MetF (cc := cc) (maxL := maxL) (ret := ret) hy rfl ?_
  intro p e s m args below meth c s₁ B hml hv
  obtain ⟨rfl, hN, hB⟩ := hv
  have hl := lv_entry av (n := maxL) hn
  have hts := atoms_spec (ws := wo y cc maxL ret) B.pre
  rw [lg_entry_eq]
  exact body p e s m below meth c _ B.exec B.bytes B.returns (fun w h => hts w (List.mem_cons_of_mem _ h)) (findClass_of_methodNamed B.named) B.notSynchronized hml hl hN hB
theorem ro_lret {x y : Int} (hexec : p.tables.exec = Jvm.exec) (hb : c.code = cc) (hr : meth.sig.returnType = some .long) (hlocks : meth.locks = false) (hdg : decode cc pc = .ok (.lreturn, 1)) (h : x = y) :
    W p l e R s m args below meth c s.heap [] 0 0 (MQ below (k2_QcV (.long (iL y))) args s 0 0 (fun _ => False)) (F0 m pc ls [.long (iL x)]) :=
  W.lret (v := iL x) hexec hb hr (fun t ht _ => ⟨by rw [h], ht⟩) (fun q h => nomatch h) hdg hlocks
theorem ro_iret {x y : Int} (hexec : p.tables.exec = Jvm.exec) (hb : c.code = cc) (hr : meth.sig.returnType = some .int) (hlocks : meth.locks = false) (hdg : decode cc pc = .ok (.ireturn, 1)) (h : x = y) :
    W p l e R s m args below meth c s.heap [] 0 0 (MQ below (k2_QcV (.int (iI y))) args s 0 0 (fun _ => False)) (F0 m pc ls [.int (iI x)]) :=
  W.iret (v := iI x) hexec hb hr (fun t ht _ => ⟨by rw [h], ht⟩) (fun q h => nomatch h) hdg hlocks
theorem iI_narB {x : Int} (h : x = 0 ∨ x = 1) : narrow .boolean (.int (iI x)) = .int (iI x) := by
  rcases h with rfl | rfl <;> decide +kernel
theorem ro_zret {x : Int} {P : Prop} (hexec : p.tables.exec = Jvm.exec) (hb : c.code = cc) (hr : meth.sig.returnType = some .boolean) (hlocks : meth.locks = false) (hdg : decode cc pc = .ok (.ireturn, 1)) (h : x = bI P) :
    W p l e R s m args below meth c s.heap [] 0 0 (MQ below (k2_QcV (.int (iI (bI P)))) args s 0 0 (fun _ => False)) (F0 m pc ls [.int (iI x)]) :=
  W.zret (v := iI x) hexec hb hr (iI_narB (by rw [h]; have := bI_01 P; omega)) (fun t ht _ => ⟨by rw [h], ht⟩) (fun q h => nomatch h) hdg hlocks
theorem ro_1 {x : Int} {P : Prop} (h : P) (h1 : x = 1) : x = bI P := by rw [h1, bI_t h]
theorem ro_0 {x : Int} {P : Prop} (h : ¬ P) (h1 : x = 0) : x = bI P := by rw [h1, bI_f h]
theorem ro_preS {av : List Value} {Bs : State → Prop} (hN : NV s) (hbl : Bm Bs) (h : ∀ U : State, U.heap = H → s.WarmedH U.vm → Bs U) : PreS s H (va_Pc av (fun U => NV U ∧ Bs U)) av :=
  ⟨fun a U g mk q => ⟨q.1, q.2.1.calling, hbl.1 a U g mk q.2.2⟩, fun U h1 h2 => ⟨rfl, hN.warm h2, h U h1 h2⟩⟩
theorem ro_preV {C : String} {b : Addr} {As : List Value} {Bs : State → Prop} (hN : NV s) (hbl : Bm Bs) (hc : ∃ cellB : Cell, H[b]? = some cellB ∧ cellB.vm.isStatics = false ∧ s.vm.findClass C = some cellB.cls) (h : ∀ U : State, U.heap = H → s.WarmedH U.vm → Bs U) : PreV s H C b (va_Pc (.ref b :: As) (fun U => NV U ∧ Bs U)) As :=
  ⟨fun a U g mk q => ⟨q.1, q.2.1.calling, hbl.1 a U g mk q.2.2⟩, hc, fun U h1 h2 => ⟨rfl, hN.warm h2, h U h1 h2⟩⟩
theorem ro_go {a : Array Value} {r : Value} {st0 : List Value} (hr : va_Run p l e R s m args below meth c H locs cells slots 0 0 (F0 m pc ls st0) rest (k2_QcV r a) (fun _ => False)) (kk : W p l e R s m args below meth c H locs cells slots Q (F0 m (pc + 3) ls (r :: rest))) : W p l e R s m args below meth c H locs cells slots Q (F0 m pc ls st0) :=
  W.callV (va_Run.run hr) kk
variable {own : String} {y : MethodName} {bytes : ByteArray} {maxL nL n index fr lo : Nat} {ret : Option FieldType} {av : List Value} {Bs : State → Prop} {r : Value}
/-- a static call of a method that writes nothing -/
theorem ro_S (hM : RO l y (wo y bytes maxL ret) fr lo av Bs r) (hj : JS y bytes maxL ret n) (hl : Cond.methodLink own index y ∈ gw) (F : p.tables.exec = Jvm.exec ∧ c.code = cc ∧ c.maxLocals = nL ∧ s.vm.findClass own = some m.cls ∧ (∀ w ∈ gw, w.before args s = true) ∧ NV s) {rest st0 : List Value} (hn : av.length = n) (hsz : ls.size = nL) (hst : st0 = av.reverse ++ rest) (hR : fr + 1 ≤ R.frames ∧ 8 + (maxL + 11) + lo ≤ R.locals) (hw : (rest.map fun v => v.category).sum ≤ 8) (hdg : decode cc pc = .ok (.invokestatic index, 3)) (hf : cells ≤ R.cells ∧ slots ≤ R.slots) (hbl : Bm Bs) (hB : ∀ U : State, U.heap = H → s.WarmedH U.vm → Bs U)
    (kk : W p l e R s m args below meth c H locs cells slots Q (F0 m (pc + 3) ls (r :: rest))) : W p l e R s m args below meth c H locs cells slots Q (F0 m pc ls st0) :=
  ro_go (va_runS (As := av) (rest := rest) (Ts := gw) ⟨F.1, F.2.1, F.2.2.1, F.2.2.2.1, F.2.2.2.2.1⟩ hM ⟨callB_of n F.2.2.2.2.1 (gw_in hj.1) rfl rfl rfl (F.2.2.2.2.1 _ hj.2.1) (F.2.2.2.2.1 _ hl) hj.2.2.2 hR, F.2.2.2.2.1 _ hj.2.2.1⟩ (ro_preS F.2.2.2.2.2 hbl hB) rfl hn hsz hst (lv_room hw) hdg hf) kk
/-- of a nest mate's private one -/
theorem ro_SN {host : String} (hM : RO l y (wo y bytes maxL ret) fr lo av Bs r) (hj : JS y bytes maxL ret n) (hl : va_Nw (Cond.methodLinkNest own index y host) s) (F : p.tables.exec = Jvm.exec ∧ c.code = cc ∧ c.maxLocals = nL ∧ s.vm.findClass own = some m.cls ∧ (∀ w ∈ gw, w.before args s = true) ∧ NV s) {rest st0 : List Value} (hn : av.length = n) (hsz : ls.size = nL) (hst : st0 = av.reverse ++ rest) (hR : fr + 1 ≤ R.frames ∧ 8 + (maxL + 11) + lo ≤ R.locals) (hw : (rest.map fun v => v.category).sum ≤ 8) (hdg : decode cc pc = .ok (.invokestatic index, 3)) (hf : cells ≤ R.cells ∧ slots ≤ R.slots) (hbl : Bm Bs) (hB : ∀ U : State, U.heap = H → s.WarmedH U.vm → Bs U)
    (kk : W p l e R s m args below meth c H locs cells slots Q (F0 m (pc + 3) ls (r :: rest))) : W p l e R s m args below meth c H locs cells slots Q (F0 m pc ls st0) :=
  ro_go (va_runSN (As := av) (rest := rest) (Ts := gw) ⟨F.1, F.2.1, F.2.2.1, F.2.2.2.1, F.2.2.2.2.1⟩ hM ⟨va_cnB n F.2.2.2.2.1 (gw_in hj.1) rfl rfl rfl hl (F.2.2.2.2.1 _ hj.2.1) hj.2.2.2 hR, F.2.2.2.2.1 _ hj.2.2.1, trivial⟩ (ro_preS F.2.2.2.2.2 hbl hB) rfl hn hsz hst (lv_room hw) hdg hf) kk
/-- a call of an instance method of the receiver's own class C that writes nothing -/
theorem ro_V {C : String} {b : Addr} {As : List Value} (hM : RO l y (wo y bytes maxL ret) fr lo (.ref b :: As) Bs r) (hj : JV y bytes maxL ret n) (hl : Cond.methodLink own index y ∈ gw) (hse : (Cond.selects C y y).before args s = true) (F : p.tables.exec = Jvm.exec ∧ c.code = cc ∧ c.maxLocals = nL ∧ s.vm.findClass own = some m.cls ∧ (∀ w ∈ gw, w.before args s = true) ∧ NV s) (hc : ∃ cellB : Cell, H[b]? = some cellB ∧ cellB.vm.isStatics = false ∧ s.vm.findClass C = some cellB.cls) {rest st0 : List Value} (hn : As.length = n) (hsz : ls.size = nL) (hst : st0 = As.reverse ++ .ref b :: rest) (hR : fr + 1 ≤ R.frames ∧ 8 + (maxL + 11) + lo ≤ R.locals) (hw : (rest.map fun v => v.category).sum ≤ 8) (hdg : decode cc pc = .ok (.invokevirtual index, 3)) (hf : cells ≤ R.cells ∧ slots ≤ R.slots) (hbl : Bm Bs) (hB : ∀ U : State, U.heap = H → s.WarmedH U.vm → Bs U)
    (kk : W p l e R s m args below meth c H locs cells slots Q (F0 m (pc + 3) ls (r :: rest))) : W p l e R s m args below meth c H locs cells slots Q (F0 m pc ls st0) :=
  ro_go (va_runV (As := As) (rest := rest) (Ts := gw) (C := C) ⟨F.1, F.2.1, F.2.2.1, F.2.2.2.1, F.2.2.2.2.1⟩ hM ⟨callB_of n F.2.2.2.2.1 (gw_in hj.1) rfl rfl rfl (F.2.2.2.2.1 _ hj.2.1) (F.2.2.2.2.1 _ hl) hj.2.2.2 hR, F.2.2.2.2.1 _ hj.2.2.1, hse⟩ (ro_preV F.2.2.2.2.2 hbl hc hB) rfl hn hsz hst (lv_room hw) hdg hf) kk
theorem ro_CU {C owner : String} {x : MethodName} (n : Nat) (ht : ∀ w ∈ gw, w.before args s = true) {n0 : Nat} (hj : JV y bytes maxL ret n0) (hl : Cond.methodLink own index x ∈ gw) (hsm : Cond.sameMethod x.cls owner x.name x.desc ∈ gw) (hse : (Cond.selects C x y).before args s = true) (hde : va_Decl s ⟨owner, x.name, x.desc⟩) (hd : owner ≠ "java/lang/invoke/MethodHandle" ∧ owner ≠ "java/lang/invoke/VarHandle" ∧ (parseMethodDescriptor x.desc).map (fun d => d.parameters.length) = some n) {rm : Room} (hR : rm.frames + 1 ≤ R.frames ∧ 8 + (maxL + 11) + rm.locals ≤ R.locals) : va_CU R s args own C owner index x y bytes maxL ret (wo y bytes maxL ret) rm rm.cells rm.slots n := by
  refine ⟨⟨rfl, rfl, hR.1, hR.2, pay_in ht (gw_in hj.1), List.mem_cons_self⟩, ht _ hj.1, ht _ hj.2.1, ⟨hd.1, hd.2.1⟩, fun sig h => ?_, ht _ hl, ht _ hsm, hde, hse, ht _ hj.2.2.1⟩
  have h2 := hd.2.2
  rw [h] at h2
  exact (Option.some.inj h2).symm
/-- a call of a method x of the class owner that the receiver's class C answers by y; it writes nothing -/
theorem ro_U {C owner : String} {x : MethodName} {b : Addr} {As : List Value} (hM : RO l y (wo y bytes maxL ret) fr lo (.ref b :: As) Bs r) (hj : JV y bytes maxL ret n) (hl : Cond.methodLink own index x ∈ gw) (hsm : Cond.sameMethod x.cls owner x.name x.desc ∈ gw) (hse : (Cond.selects C x y).before args s = true) (hde : va_Decl s ⟨owner, x.name, x.desc⟩) (hd : owner ≠ "java/lang/invoke/MethodHandle" ∧ owner ≠ "java/lang/invoke/VarHandle" ∧ (parseMethodDescriptor x.desc).map (fun d => d.parameters.length) = some n) (F : p.tables.exec = Jvm.exec ∧ c.code = cc ∧ c.maxLocals = nL ∧ s.vm.findClass own = some m.cls ∧ (∀ w ∈ gw, w.before args s = true) ∧ NV s) (hc : ∃ cellB : Cell, H[b]? = some cellB ∧ cellB.vm.isStatics = false ∧ s.vm.findClass C = some cellB.cls) {rest st0 : List Value} (hn : As.length = n) (hsz : ls.size = nL) (hst : st0 = As.reverse ++ .ref b :: rest) (hR : fr + 1 ≤ R.frames ∧ 8 + (maxL + 11) + lo ≤ R.locals) (hw : (rest.map fun v => v.category).sum ≤ 8) (hdg : decode cc pc = .ok (.invokevirtual index, 3)) (hf : cells ≤ R.cells ∧ slots ≤ R.slots) (hbl : Bm Bs) (hB : ∀ U : State, U.heap = H → s.WarmedH U.vm → Bs U)
    (kk : W p l e R s m args below meth c H locs cells slots Q (F0 m (pc + 3) ls (r :: rest))) : W p l e R s m args below meth c H locs cells slots Q (F0 m pc ls st0) :=
  ro_go (va_runU (As := As) (rest := rest) (Ts := gw) (C := C) (owner := owner) (x := x) ⟨F.1, F.2.1, F.2.2.1, F.2.2.2.1, F.2.2.2.2.1⟩ hM (ro_CU n F.2.2.2.2.1 hj hl hsm hse hde hd hR) (ro_preV F.2.2.2.2.2 hbl hc hB) rfl hn hsz hst (lv_room hw) hdg hf) kk
end RO
