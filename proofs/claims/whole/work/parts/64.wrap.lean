/-! 64.wrap: laid by program (wip/whole) -/
/-! methods with handlers -/
abbrev wow (y : MethodName) (cc : ByteArray) (maxL : Nat) (ret : Option FieldType) (hh : List (Nat × Nat × Nat × Nat)) : List Cond := Cond.codeWith y cc maxL ret hh :: gw
def JW (y : MethodName) (bytes : ByteArray) (maxL : Nat) (ret : Option FieldType) (hh : List (Nat × Nat × Nat × Nat)) (n : Nat) : Prop := Cond.codeWith y bytes maxL ret hh ∈ gw ∧ Cond.initialized y.cls ∈ gw ∧ Cond.static y ∈ gw ∧ (y.cls ≠ "java/lang/invoke/MethodHandle" ∧ y.cls ≠ "java/lang/invoke/VarHandle" ∧ (parseMethodDescriptor y.desc).map (fun d => d.parameters.length) = some n)
theorem gw_inW {y : MethodName} {cc : ByteArray} {maxL : Nat} {ret : Option FieldType} {hh : List (Nat × Nat × Nat × Nat)} (h : Cond.codeWith y cc maxL ret hh ∈ gw) : GoodIn gw (wow y cc maxL ret hh) := fun w hw => by
  rcases List.mem_cons.mp hw with rfl | hw
  · exact ⟨h, gw_good h⟩
  · exact ⟨hw, gw_good hw⟩
abbrev GMetW (l : Launch) (y : MethodName) (ws : List Cond) (fr lo mc ms : Nat) (av : List Value) (D : va_G) (tys : List (ClassId × FieldType)) (win : va_W) (sz : Nat) (Xs : State → Prop) (Qc : (Nat → Prop) → Array Value → State → Outcome → State → Prop) : Prop :=
  Met l y ws ({ frames := fr, cells := mc, slots := ms, locals := lo }) (va_Pc av (fun U => NV U ∧ GB D tys win sz U ∧ Xs U)) (Qc (va_A win sz)) mc ms (va_A win sz)
theorem gmW_of {l : Launch} {y : MethodName} {cc : ByteArray} {fr lo mc ms : Nat} {av : List Value} {D : va_G} {tys : List (ClassId × FieldType)} {win : va_W} {sz : Nat} {Xs : State → Prop} {Qc : (Nat → Prop) → Array Value → State → Outcome → State → Prop} {maxL : Nat} {ret : Option FieldType} {hh : List (Nat × Nat × Nat × Nat)}
    (hy : plainName y.cls = true) (hn : (lg_sl av).length ≤ maxL)
    (body : ∀ (p : Program) (e : Env) (s : State) (m : MethodId) (below : List Frame) (meth : Method) (c : Code) (ls : Array Slot) (A : Nat → Prop), p.tables.exec = Jvm.exec → c.code = cc → meth.sig.returnType = ret → (∀ w ∈ gw, w.before av.toArray s = true) → s.vm.findClass y.cls = some m.cls → meth.locks = false → c.maxLocals = maxL → lv_has ls maxL (lv_args 0 av) → NV s → va_K D CL tys s → va_P D CL win s.heap → va_D A win → va_S A s.heap s.heap [] → (∀ q, s.heap.size ≤ q → A q) → (∀ q, A q → (∃ (k : Nat) (e : va_E), win[k]? = some (q, e)) ∨ s.heap.size ≤ q) → c.exceptionTable.toList.map (fun h => (h.startPc, h.endPc, h.handlerPc, h.catchType)) = hh → s.heap.size = sz → Xs s →
      W p l e (headSpec (wow y cc maxL ret hh) ({ frames := fr, cells := mc, slots := ms, locals := lo })).room s m av.toArray below meth c s.heap [] 0 0 (MQ below (Qc A) av.toArray s mc ms A) (F0 m 0 ls [])) : GMetW l y (wow y cc maxL ret hh) fr lo mc ms av D tys win sz Xs Qc := by
  refine va_MetW (cc := cc) (maxL := maxL) (ret := ret) (hh := hh) hy rfl ?_
  intro p e s m args below meth c s₁ B hml hv
  obtain ⟨rfl, hN, ⟨hsz, hK, hP, hD⟩, hX⟩ := hv
  subst hsz
  have hl := lv_entry av (n := maxL) hn
  have hts := atoms_spec (ws := wow y cc maxL ret hh) B.pre
  obtain ⟨m9, meth', c', hn9, h1, h2, -, -, hxt, -⟩ := Cond.codeWith_spec (hts _ List.mem_cons_self)
  cases hn9.symm.trans B.named
  have hX0 := Stand.of_body B
  cases B.method.symm.trans h1
  cases hX0.code.symm.trans h2
  rw [lg_entry_eq]
  exact body p e s m below meth c _ _ B.exec B.bytes B.returns (fun w h => hts w (List.mem_cons_of_mem _ h)) (findClass_of_methodNamed B.named) B.notSynchronized hml hl hN hK hP hD.self va_S.rf (fun q h => Or.inr h) (fun q h => h) hxt rfl hX
def xnm : List String := ["java/lang/IndexOutOfBoundsException", "java/lang/IllegalArgumentException", "java/lang/ArithmeticException", "java/lang/UnsupportedOperationException"]
def NCX (U : State) : Prop := ∀ E ∈ xnm, ∀ C ∈ xnm, E ≠ C → va_Nc E C U
theorem NCX.m : Bm NCX := ⟨fun a U f mk h E hE C hC hne => va_Nc.moved (u := U) (U := U.calling f mk a) (Vm.Alike.refl U.vm) (h E hE C hC hne), fun s U h1 h2 h E hE C hC hne => va_Nc.moved h2.alike (h E hE C hC hne)⟩
section GWR
variable {p : Program} {l : Launch} {e : Env} {R : Room} {s : State} {m : MethodId} {args : Array Value} {below : List Frame} {meth : Method} {c : Code} {H : Heap} {locs : List Loc} {cells slots : Nat} {Q : State → Prop} {cc : ByteArray} {pc : Nat} {ls : Array Slot} {rest : List Value} {own C E : String} {y : MethodName} {bytes : ByteArray} {maxL nL n index mc ms fr lo : Nat} {ret : Option FieldType} {As st0 : List Value} {rm : Room} {Pc : Array Value → State → Prop} {Qc : Array Value → State → Outcome → State → Prop} {free : Addr → Prop} {b : Addr} {hh : List (Nat × Nat × Nat × Nat)}
theorem gr_SW (hM : Met l y (wow y bytes maxL ret hh) rm Pc Qc mc ms free) (hj : JW y bytes maxL ret hh n) (hl : Cond.methodLink own index y ∈ gw) (F : p.tables.exec = Jvm.exec ∧ c.code = cc ∧ c.maxLocals = nL ∧ s.vm.findClass own = some m.cls ∧ (∀ w ∈ gw, w.before args s = true) ∧ NV s) (hp : PreS s H Pc As) (hrc : rm.cells = mc) (hrs : rm.slots = ms) (hn : As.length = n) (hsz : ls.size = nL) (hst : st0 = As.reverse ++ rest) (hR : rm.frames + 1 ≤ R.frames ∧ 8 + (maxL + 11) + rm.locals ≤ R.locals) (hw : (rest.map fun v => v.category).sum ≤ 8) (hdg : decode cc pc = .ok (.invokestatic index, 3)) (hf : cells + mc ≤ R.cells ∧ slots + ms ≤ R.slots) : va_Run p l e R s m args below meth c H locs cells slots mc ms (F0 m pc ls st0) rest (Qc As.toArray) free := by
  subst hst
  obtain ⟨hx, hb, hml, ho, hts, hN⟩ := F
  have hK : Back l R p e below s args y 3 8 (PreOf R mc ms Pc) (PostOf Qc mc ms free) := va_backW (hh := hh) (bytes := bytes) (maxL := maxL) (ret := ret) hM hp.1 hrc hrs hR.1 hR.2 (pay_in hts (gw_inW hj.1)) List.mem_cons_self (fun a' U hW => word_at hW (Or.inl (by first | rfl | simp [Cond.onTables, Cond.keeps, Cond.steady])) (hts _ hj.2.1))
  have hlen : ∀ sig, parseMethodDescriptor y.desc = some sig → n = sig.parameters.length := fun sig h => by
    have h2 := hj.2.2.2.2.2
    rw [h] at h2
    exact (Option.some.inj h2).symm
  intro T hT X
  obtain ⟨mk, methM, cM, hnamed, hmethM, -, -, -, -, -, -, hsigM⟩ := Cond.codeWith_spec (hts _ hj.1)
  have hstatic : methM.isStatic = true := Cond.static_spec hnamed hmethM (hts _ hj.2.2.1)
  obtain ⟨kP, hkP, -⟩ := className_of_methodNamed hnamed
  have hinitP : kP.init = .initialized := Cond.initialized_spec (findClass_of_methodNamed hnamed) hkP (hts _ hj.2.1)
  obtain ⟨vm₁, X₁, hstep₁⟩ := X.invokestatic hx ho (hts _ hl) hnamed hmethM hstatic hkP hinitP ⟨hj.2.2.2.1, hj.2.2.2.2.1⟩ (g := F0 m pc ls (As.reverse ++ rest)) rfl (argsL := As) (rest := rest) (hn.trans (hlen _ hsigM)) rfl (by rw [hb]; exact hdg)
  obtain ⟨v, ⟨U', l2, c2, s2⟩, X', ⟨g', mk', t, L, e1, e2, hq, h1, hL, h2, h3⟩, hsteps⟩ := hK m meth c ⟨T.setVm vm₁, locs, cells, slots⟩ (F0 m pc ls rest) (.invokestatic index) mk As.toArray X₁ rfl (hsz.trans hml.symm) (by rw [hb]; exact hdg) (by show 2 * 0 + (rest.map fun v => v.category).sum ≤ 8; omega) (X₁.named hnamed) ⟨hf.1, hf.2, hp.2 (T.setVm vm₁) hT X₁.warmed⟩
  dsimp only [Pt.U, Pt.locs, Pt.cells, Pt.slots] at X' e1 e2 h1 h2 h3 hsteps
  subst h1; subst h2; subst h3
  exact ⟨v, (T.setVm vm₁).calling g' mk' As.toArray, t, U', L, hT, X', hL, e1, e2, hq, fun target h => hstep₁ _ fun acts => by rw [doInvoke_state]; exact hsteps.trans h⟩
theorem xt_split {P R9 : List (Nat × Nat × Nat × Nat)} {q : Nat × Nat × Nat × Nat} : ∀ {L : List ExceptionTableEntry}, L.map (fun h => (h.startPc, h.endPc, h.handlerPc, h.catchType)) = P ++ q :: R9 → ∃ (pre : List ExceptionTableEntry) (x : ExceptionTableEntry) (rs : List ExceptionTableEntry), L = pre ++ x :: rs ∧ pre.map (fun h => (h.startPc, h.endPc, h.handlerPc, h.catchType)) = P ∧ (x.startPc, x.endPc, x.handlerPc, x.catchType) = q := by
  induction P with
  | nil =>
    intro L h
    cases L with
    | nil => cases h
    | cons x L =>
      rw [List.map_cons, List.nil_append] at h
      exact ⟨[], x, L, rfl, rfl, (List.cons.inj h).1⟩
  | cons p0 P ih =>
    intro L h
    cases L with
    | nil => cases h
    | cons x L =>
      rw [List.map_cons, List.cons_append] at h
      obtain ⟨pre, x9, rs, e1, e2, e3⟩ := ih (List.cons.inj h).2
      exact ⟨x :: pre, x9, rs, by rw [e1]; rfl, by rw [List.map_cons, e2, (List.cons.inj h).1], e3⟩
variable {D : va_G} {ws : va_W} {A : Nat → Prop} {Bs : State → Prop}
theorem gx_V (hM : MetX l y (wo y bytes maxL ret) ({ frames := fr, cells := 1, slots := 6, locals := lo }) (va_Pc (.ref b :: As) (fun U => NV U ∧ Bs U)) E 1 6) (hj : JV y bytes maxL ret n) (hl : Cond.methodLink own index y ∈ gw) (hse : Cond.selects C y y ∈ gw) (F : p.tables.exec = Jvm.exec ∧ c.code = cc ∧ c.maxLocals = nL ∧ s.vm.findClass own = some m.cls ∧ (∀ w ∈ gw, w.before args s = true) ∧ NV s) (hc : ∃ cellB : Cell, H[b]? = some cellB ∧ cellB.vm.isStatics = false ∧ s.vm.findClass C = some cellB.cls) (hbl : Bm Bs) (hB : ∀ U : State, U.heap = H → s.WarmedH U.vm → Bs U) (hP : va_P D CL ws H) (hD : va_D A ws) (hS : va_S A s.heap H locs)
    (hn : As.length = n) (hsz : ls.size = c.maxLocals) (hst : st0 = As.reverse ++ .ref b :: rest) (hw : (rest.map fun v => v.category).sum ≤ 8) (hR : fr + 1 ≤ R.frames ∧ 8 + (maxL + 11) + lo ≤ R.locals) (hf : cells + 1 ≤ R.cells ∧ slots + 6 ≤ R.slots) (hdg : decode cc pc = .ok (.invokevirtual index, 3))
    {P9 R9 : List (Nat × Nat × Nat × Nat)} {a1 a2 a3 a4 : Nat} (hxt : c.exceptionTable.toList.map (fun h => (h.startPc, h.endPc, h.handlerPc, h.catchType)) = P9 ++ (a1, a2, a3, a4) :: R9) (hpre : ∀ z ∈ P9, (z.1 ≤ pc ∧ pc < z.2.1) ∧ z.2.2.2 ≠ 0 ∧ ∃ C9 : String, Cond.classLink own z.2.2.2 C9 ∈ gw ∧ va_Nc E C9 s) (hcov : a1 ≤ pc ∧ pc < a2) (h0 : a4 ≠ 0) (hlx : Cond.classLink own a4 E ∈ gw)
    (kk : ∀ (xa : Nat) (H1 : Heap), va_P D CL ws H1 → va_D A ws → va_S A s.heap H1 locs → W p l e R s m args below meth c H1 locs (cells + 1) (slots + 6) Q (F0 m a3 ls [.ref xa])) : W p l e R s m args below meth c H locs cells slots Q (F0 m pc ls st0) := by
  obtain ⟨hx, hb, hml, ho, hts, hN⟩ := F
  obtain ⟨pre, x, rs, e1, e2, e3⟩ := xt_split hxt
  obtain ⟨f1, f2, f3, f4⟩ : x.startPc = a1 ∧ x.endPc = a2 ∧ x.handlerPc = a3 ∧ x.catchType = a4 := by
    have := Prod.mk.inj e3
    have h2 := Prod.mk.inj this.2
    have h3 := Prod.mk.inj h2.2
    exact ⟨this.1, h2.1, h3.1, h3.2⟩
  refine xc_V hM hx hb hts ho hN hj hl hse hc hbl hB hn hsz hst hw hR hf hdg e1 (fun z hz => ?_) (by simp only [covers, f1, f2]; simp [hcov.1, hcov.2]) (by rw [f4]; exact h0) (by rw [f4]; exact hts _ hlx) (fun xa H1 z1 o1 => ?_)
  · have hz2 : (z.startPc, z.endPc, z.handlerPc, z.catchType) ∈ P9 := by rw [← e2]; exact List.mem_map.mpr ⟨z, hz, rfl⟩
    obtain ⟨⟨k1, k2⟩, k3, C9, k4, k5⟩ := hpre _ hz2
    dsimp only at k1 k2 k3 k4
    exact ⟨by simp only [covers]; simp [k1, k2], k3, C9, hts _ k4, k5⟩
  · rw [f3]
    exact kk xa H1 (hP.kept (fun k q hq => o1 q.1 (hP k q hq).lt)) hD ⟨Nat.le_trans hS.1 z1, fun q h1 h2 => (o1 q (Nat.lt_of_lt_of_le h1 hS.1)).trans (hS.2.1 q h1 h2), hS.2.2⟩
end GWR
abbrev w_W_plug : List Cond := wow y_W_plug c_W_plug 10 (some .int) [(0, 27, 30, 13), (0, 27, 34, 15)]
theorem j_W_plug : JW y_W_plug c_W_plug 10 (some .int) [(0, 27, 30, 13), (0, 27, 34, 15)] 9 := ⟨gw_t 396 (by decide +kernel) (by decide +kernel), gw_t 0 (by decide +kernel) (by decide +kernel), gw_t 395 (by decide +kernel) (by decide +kernel), ⟨by decide +kernel, by decide +kernel, by decide +kernel⟩⟩
abbrev w_W_date : List Cond := wow y_W_date c_W_date 6 (some .int) [(0, 12, 15, 13), (0, 12, 19, 21)]
theorem j_W_date : JW y_W_date c_W_date 6 (some .int) [(0, 12, 15, 13), (0, 12, 19, 21)] 5 := ⟨gw_t 490 (by decide +kernel) (by decide +kernel), gw_t 0 (by decide +kernel) (by decide +kernel), gw_t 489 (by decide +kernel) (by decide +kernel), ⟨by decide +kernel, by decide +kernel, by decide +kernel⟩⟩
abbrev w_W_fixed : List Cond := wow y_W_fixed c_W_fixed 7 (some .int) [(0, 14, 17, 13), (0, 14, 21, 21), (0, 14, 25, 15)]
theorem j_W_fixed : JW y_W_fixed c_W_fixed 7 (some .int) [(0, 14, 17, 13), (0, 14, 21, 21), (0, 14, 25, 15)] 6 := ⟨gw_t 695 (by decide +kernel) (by decide +kernel), gw_t 0 (by decide +kernel) (by decide +kernel), gw_t 694 (by decide +kernel) (by decide +kernel), ⟨by decide +kernel, by decide +kernel, by decide +kernel⟩⟩
abbrev w_W_leap : List Cond := wow y_W_leap c_W_leap 5 (some .int) [(0, 17, 20, 31), (0, 17, 24, 13), (0, 17, 28, 15), (0, 17, 32, 21)]
theorem j_W_leap : JW y_W_leap c_W_leap 5 (some .int) [(0, 17, 20, 31), (0, 17, 24, 13), (0, 17, 28, 15), (0, 17, 32, 21)] 4 := ⟨gw_t 744 (by decide +kernel) (by decide +kernel), gw_t 0 (by decide +kernel) (by decide +kernel), gw_t 743 (by decide +kernel) (by decide +kernel), ⟨by decide +kernel, by decide +kernel, by decide +kernel⟩⟩
abbrev w_W_onOrBefore : List Cond := wow y_W_onOrBefore c_W_onOrBefore 5 (some .int) [(0, 10, 13, 15), (0, 10, 17, 21)]
theorem j_W_onOrBefore : JW y_W_onOrBefore c_W_onOrBefore 5 (some .int) [(0, 10, 13, 15), (0, 10, 17, 21)] 4 := ⟨gw_t 799 (by decide +kernel) (by decide +kernel), gw_t 0 (by decide +kernel) (by decide +kernel), gw_t 798 (by decide +kernel) (by decide +kernel), ⟨by decide +kernel, by decide +kernel, by decide +kernel⟩⟩
abbrev w_W_feast : List Cond := wow y_W_feast c_W_feast 5 (some .int) [(0, 10, 13, 13), (0, 10, 17, 21)]
theorem j_W_feast : JW y_W_feast c_W_feast 5 (some .int) [(0, 10, 13, 13), (0, 10, 17, 21)] 4 := ⟨gw_t 806 (by decide +kernel) (by decide +kernel), gw_t 0 (by decide +kernel) (by decide +kernel), gw_t 805 (by decide +kernel) (by decide +kernel), ⟨by decide +kernel, by decide +kernel, by decide +kernel⟩⟩
abbrev w_W_when : List Cond := wow y_W_when c_W_when 8 (some .int) [(0, 16, 19, 13), (0, 16, 23, 21)]
theorem j_W_when : JW y_W_when c_W_when 8 (some .int) [(0, 16, 19, 13), (0, 16, 23, 21)] 7 := ⟨gw_t 838 (by decide +kernel) (by decide +kernel), gw_t 0 (by decide +kernel) (by decide +kernel), gw_t 837 (by decide +kernel) (by decide +kernel), ⟨by decide +kernel, by decide +kernel, by decide +kernel⟩⟩
abbrev w_W_write : List Cond := wow y_W_write c_W_write 5 (some .int) [(0, 10, 13, 13), (0, 10, 17, 21)]
theorem j_W_write : JW y_W_write c_W_write 5 (some .int) [(0, 10, 13, 13), (0, 10, 17, 21)] 4 := ⟨gw_t 846 (by decide +kernel) (by decide +kernel), gw_t 0 (by decide +kernel) (by decide +kernel), gw_t 845 (by decide +kernel) (by decide +kernel), ⟨by decide +kernel, by decide +kernel, by decide +kernel⟩⟩
abbrev w_W_read : List Cond := wow y_W_read c_W_read 4 (some .int) [(0, 9, 12, 13), (0, 9, 15, 15)]
theorem j_W_read : JW y_W_read c_W_read 4 (some .int) [(0, 9, 12, 13), (0, 9, 15, 15)] 3 := ⟨gw_t 887 (by decide +kernel) (by decide +kernel), gw_t 0 (by decide +kernel) (by decide +kernel), gw_t 886 (by decide +kernel) (by decide +kernel), ⟨by decide +kernel, by decide +kernel, by decide +kernel⟩⟩
