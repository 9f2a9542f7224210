/-! 45.xcall: laid by program (wip/whole) -/
/-! the call of a method that throws, caught -/
section XC
variable {p : Program} {l : Launch} {e : Env} {R : Room} {s : State} {m : MethodId} {args : Array Value} {below : List Frame} {meth : Method} {c : Code} {H : Heap} {locs : List Loc} {cells slots : Nat} {Q : State → Prop} {cc bytes : ByteArray} {pc : Nat} {ls : Array Slot} {rest st0 As : List Value} {y : MethodName} {maxL n index fr lo : Nat} {ret : Option FieldType} {own C E : String} {b : Addr} {Bs : State → Prop}
theorem xc_V (hM : MetX l y (wo y bytes maxL ret) ({ frames := fr, cells := 1, slots := 6, locals := lo }) (va_Pc (.ref b :: As) (fun U => NV U ∧ Bs U)) E 1 6) (hexec : p.tables.exec = Jvm.exec) (hb : c.code = cc) (hts : ∀ w ∈ gw, w.before args s = true) (hown : s.vm.findClass own = some m.cls) (hN : NV s)
    (hj : JV y bytes maxL ret n) (hl : Cond.methodLink own index y ∈ gw) (hse : Cond.selects C y y ∈ gw) (hc : ∃ cellB : Cell, H[b]? = some cellB ∧ cellB.vm.isStatics = false ∧ s.vm.findClass C = some cellB.cls) (hbl : Bm Bs) (hB : ∀ U : State, U.heap = H → s.WarmedH U.vm → Bs U)
    (hn : As.length = n) (hsz : ls.size = c.maxLocals) (hst : st0 = As.reverse ++ .ref b :: rest) (hw : (rest.map fun v => v.category).sum ≤ 8) (hR : fr + 1 ≤ R.frames ∧ 8 + (maxL + 11) + lo ≤ R.locals) (hf : cells + 1 ≤ R.cells ∧ slots + 6 ≤ R.slots) (hdg : decode cc pc = .ok (.invokevirtual index, 3))
    {pre restE : List ExceptionTableEntry} {x : ExceptionTableEntry} (htab : c.exceptionTable.toList = pre ++ x :: restE) (hpre : ∀ z ∈ pre, xP s args own E pc z) (hx : covers x pc = true) (h0 : x.catchType ≠ 0) (hlx : (Cond.classLink own x.catchType E).before args s = true)
    (kk : ∀ (a : Nat) (H1 : Heap), H.size ≤ H1.size → (∀ q : Nat, q < H.size → H1[q]? = H[q]?) → W p l e R s m args below meth c H1 locs (cells + 1) (slots + 6) Q (F0 m x.handlerPc ls [.ref a])) : W p l e R s m args below meth c H locs cells slots Q (F0 m pc ls st0) := by
  intro T hT X
  subst hst
  obtain ⟨hcode, hini, hinst, hy1, hy2, hlen⟩ := hj
  obtain ⟨cellB, hcell, hobj, hcls⟩ := hc
  obtain ⟨mk, methM, hnamed, hmethM, hstM, habM⟩ := Cond.instanceMethod_spec (hts _ hinst)
  obtain ⟨methM', cM, hmethM', hcM, -, hmM, -, -, -, hsigM⟩ := Cond.code_spec hnamed (hts _ hcode)
  cases hmethM.symm.trans hmethM'
  obtain ⟨c2, r2, m2, q1, q2, q3, q4, kP, hkP, hkPi⟩ := Cond.selects_spec (hts _ hse)
  cases hcls.symm.trans q1
  cases (State.methodFound?_of_named hnamed ⟨hy1, hy2⟩).symm.trans q2
  cases hnamed.symm.trans q3
  have hselP : selectMethod e.platform s.vm cellB.cls mk = .method mk := by rw [Launch.admits_selectMethod X.admits]; exact q4
  have hln : As.length = methM.sig.parameters.length := by
    rw [hsigM] at hlen
    exact hn.trans (Option.some.inj hlen).symm
  obtain ⟨vm₁, X₁, hstep₁⟩ := X.invokevirtual hexec hown (hts _ hl) hnamed hmethM hstM hkP hkPi ⟨hy1, hy2⟩ (a := b) (cell := cellB) (by rw [hT]; exact hcell)
    (fun z h => by rw [h] at hobj; cases hobj) hselP hmethM habM hkP hkPi (g := F0 m pc ls (As.reverse ++ .ref b :: rest)) rfl (argsL := As) (rest := rest) hln rfl (by rw [hb]; exact hdg)
  have hW₁ : s.WarmedH vm₁ := X₁.warmed
  have hG := pay_in hts (gw_in hcode)
  have hinitP : kP.init = .initialized := Cond.initialized_spec (findClass_of_methodNamed hnamed) hkP (hts _ hini)
  obtain ⟨kP₁, hkP₁, heP₁⟩ := hW₁.alike.2.2 _ _ hkP
  have hn₁ : (T.setVm vm₁).methodNamed? y = some mk := by
    have q : (s.setVm vm₁).methodNamed? y = some mk := by rw [State.methodNamed?_setVm hW₁.alike]; exact hnamed
    exact q
  have happ : (headSpec (wo y bytes maxL ret) ({ frames := fr, cells := 1, slots := 6, locals := lo })).appliesLoose y e.platform ((T.setVm vm₁).calling (F0 m pc ls rest) mk (Value.ref b :: As).toArray) = true :=
    Spec.appliesLoose_calling (g := F0 m pc ls rest) X₁.here (by rw [hb]; exact hdg) hn₁ hkP₁ (by rw [heP₁]; exact hinitP)
      (X₁.room_calling (g := F0 m pc ls rest) (R' := { frames := fr, cells := 1, slots := 6, locals := lo }) hsz (show vm₁.method? mk = some methM by rw [hW₁.alike.method?]; exact hmethM) hcM hR.1 (by rw [hmM]; show 2 * 0 + (rest.map fun v => v.category).sum + (maxL + 11) + lo ≤ R.locals; omega) hf.1 hf.2)
      (atoms_intro fun w hw => hG w hw _ _ hW₁)
  obtain ⟨mid, hmid⟩ := X₁.here.above
  have hfr : ((T.setVm vm₁).setTop (F0 m pc ls rest)).frames = (.java (F0 m pc ls rest) :: mid) ++ below := by rw [State.frames_setTop' _ X₁.here.top, hmid]; rfl
  have hPc : va_Pc (.ref b :: As) (fun U => NV U ∧ Bs U) (Value.ref b :: As).toArray ((T.setVm vm₁).calling (F0 m pc ls rest) mk (Value.ref b :: As).toArray) :=
    ⟨rfl, (hN.warm (U := T.setVm vm₁) hW₁).calling, hbl.1 _ _ _ _ (hB (T.setVm vm₁) hT hW₁)⟩
  obtain ⟨o, s₂, hsteps, -, hend, a, rfl, hW₂, hsame, hnew, ce, k1, k2, k3⟩ := Steps.callFree hM p X.admits X.cas X.clock (acts := []) hfr happ hPc trivial
  rw [State.frames_setTop' _ X₁.here.top, X₁.tail] at hend
  obtain ⟨T', X', hWT, hBT, hs₂⟩ := X₁.outOfThrown (g := F0 m pc ls rest) rfl hend hW₂ hsame
  have hheap : s₂.heap = T'.heap := by rw [hs₂]; exact throwing_heap T' _ _
  have hcls2 : s.vm.findClass E = some ce.cls := by rw [← hW₁.alike.findClass]; exact k2
  have hself : ((T'.setTop (F0 m pc ls rest)).pushFrame (.throwing a)).setVm T'.vm = (T'.setTop (F0 m pc ls rest)).pushFrame (.throwing a) := rfl
  obtain ⟨vm', hw', hgo⟩ := xf_go (e := e) (s := s) (U := (T'.setTop (F0 m pc ls rest)).pushFrame (.throwing a)) (args := args) (f := F0 m pc ls rest) (a := a) (cell := ce) (own := own) (E := E) (by rw [X.admits.platform]) hown (by rw [throwing_heap, ← hheap]; exact k1) k3 hcls2 (x := x) (rest := restE) hx h0 hlx pre hpre T'.vm X'.warmed
  rw [hself] at hgo
  have X2 := X'.noted hw'
  rw [List.append_nil] at X2
  have hH1 : ∀ q : Nat, q < H.size → T'.heap[q]? = H[q]? := fun q hq => by
    have hq2 : H[q]? = some H[q] := Array.getElem?_eq_getElem hq
    rw [hq2]
    exact State.sameButNew.old_cell hBT (by show T.heap[q]? = _; rw [hT]; exact hq2)
  obtain ⟨t, a1, b1⟩ := kk a T'.heap (by have := hBT.2.1; rw [← hT]; exact this) hH1 (T'.setVm vm') rfl X2
  refine ⟨t, hstep₁ _ fun acts => ?_, b1⟩
  rw [doInvoke_state]
  refine hsteps.trans ?_
  rw [hs₂]
  refine xf_catch (g := F0 m pc ls rest) X'.here (X'.warmed.alike.symm.trans hw'.alike) (pc := x.handlerPc) (vm' := vm') (fun Q9 E9 d9 acts9 => ?_) a1
  rw [W.findHandler_eq (meth := meth) (code := c) (by rw [throwing_vm]; exact X'.method') X'.code, htab]
  exact hgo Q9 E9 d9 acts9
end XC
