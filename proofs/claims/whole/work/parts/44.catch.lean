/-! 44.catch: laid by program (wip/whole) -/
/-! a catch clause, its class resolved or not -/
theorem xf_cold {Q : Handler → Pre} {E : CtlPost} {e : Env} {d : Bool} {acts : List Action} {s : State} {f : JFrame} {a : Addr} {x : ExceptionTableEntry} {t : List ExceptionTableEntry} {c : ClassId} {vm' : Vm} (hx : covers x f.pc = true) (h0 : x.catchType ≠ 0)
    (hg : (Jvm.resolveClass f.method.cls x.catchType).Gives e.toSetting s.vm (.ok c) vm') (hr : vm'.classReady f.method.cls x.catchType c) (hsz : vm'.classes.size ≤ s.vm.classes.size) :
    wp (findHandler.go f a (x :: t)) Q E e d acts s ↔ wp (findHandler.go f a (x :: t)) Q E e d acts (s.setVm vm') := by
  simp only [covers] at hx
  obtain ⟨ha, ht⟩ := hg.op (op := VmOp.resolveClass f.method.cls x.catchType) rfl
  obtain ⟨k, hkd, hres⟩ := hr
  simp [findHandler.go, hx, h0, ha, ht, hsz, resolveClass_memo e hkd hres, VmOp.dirties, VmOp.acts]
  exact Iff.rfl
theorem sv2 (U : State) (v w : Vm) : (U.setVm v).setVm w = U.setVm w := rfl
def xP (s : State) (args : Array Value) (own E : String) (pc : Nat) (x : ExceptionTableEntry) : Prop := covers x pc = true ∧ x.catchType ≠ 0 ∧ ∃ C : String, (Cond.classLink own x.catchType C).before args s = true ∧ va_Nc E C s
theorem xf_go {e : Env} {s U : State} {args : Array Value} {f : JFrame} {a : Addr} {cell : Cell} {own E : String} (hpl : e.platform.magicAccessors = ({} : Platform).magicAccessors) (hown : s.vm.findClass own = some f.method.cls) (hcell : U.heap[a]? = some cell) (hobj : cell.vm = .none) (hcls : s.vm.findClass E = some cell.cls)
    {x : ExceptionTableEntry} {rest : List ExceptionTableEntry} (hx : covers x f.pc = true) (h0 : x.catchType ≠ 0) (hl : (Cond.classLink own x.catchType E).before args s = true) :
    ∀ (pre : List ExceptionTableEntry), (∀ y ∈ pre, xP s args own E f.pc y) → ∀ vm : Vm, s.WarmedH vm → ∃ vm' : Vm, s.WarmedH vm' ∧ ∀ (Q : Handler → Pre) (Ep : CtlPost) (d : Bool) (acts : List Action), wp (findHandler.go f a (pre ++ x :: rest)) Q Ep e d acts (U.setVm vm) ↔ Q (.found x.handlerPc) d acts (U.setVm vm') := by
  intro pre
  induction pre with
  | nil =>
    intro _ vm hW
    obtain ⟨c1, hc1, hL⟩ := Cond.classLink_spec hown hl e.platform hpl
    cases hcls.symm.trans hc1
    obtain ⟨hg, hw, hr⟩ := State.classEntry (e := e) hW hL
    have hz : (vm.noted f.method.cls x.catchType (.cls cell.cls)).classes.size ≤ vm.classes.size := by rw [Vm.size_noted]; exact Nat.le_refl _
    generalize vm.noted f.method.cls x.catchType (.cls cell.cls) = vm1 at hg hw hr hz
    refine ⟨vm1, hw, fun Q Ep d acts => ?_⟩
    obtain ⟨k, hk, -⟩ := Vm.findClass_spec hcls
    obtain ⟨k1, hk1, -⟩ := hw.alike.2.2 _ _ hk
    rw [List.nil_append, xf_cold (s := U.setVm vm) hx h0 hg hr hz, sv2, W.findHandler_go_class (s := U.setVm vm1) hx h0 hr hcell (fun k h => by rw [hobj] at h; cases h) ⟨k1, hk1⟩ ⟨k1, hk1⟩, if_pos (va_asg _ _)]
  | cons y pre ih =>
    intro hp vm hW
    obtain ⟨py1, py2, C, hlC, c2, t2, q1, q2, q3⟩ := hp y List.mem_cons_self
    cases hcls.symm.trans q1
    obtain ⟨c1, hc1, hL⟩ := Cond.classLink_spec hown hlC e.platform hpl
    cases hc1.symm.trans q2
    obtain ⟨hg, hw, hr⟩ := State.classEntry (e := e) hW hL
    have hz : (vm.noted f.method.cls y.catchType (.cls t2)).classes.size ≤ vm.classes.size := by rw [Vm.size_noted]; exact Nat.le_refl _
    generalize vm.noted f.method.cls y.catchType (.cls t2) = vm1 at hg hw hr hz
    obtain ⟨vm', hw', h'⟩ := ih (fun z hz => hp z (List.mem_cons_of_mem _ hz)) vm1 hw
    refine ⟨vm', hw', fun Q Ep d acts => ?_⟩
    obtain ⟨k, hk, -⟩ := Vm.findClass_spec hcls
    obtain ⟨k1, hk1, -⟩ := hw.alike.2.2 _ _ hk
    obtain ⟨kc, hkc, -⟩ := Vm.findClass_spec q2
    obtain ⟨k2, hk2, -⟩ := hw.alike.2.2 _ _ hkc
    rw [List.cons_append, xf_cold (s := U.setVm vm) py1 py2 hg hr hz, sv2, W.findHandler_go_class (s := U.setVm vm1) py1 py2 hr hcell (fun k h => by rw [hobj] at h; cases h) ⟨k1, hk1⟩ ⟨k2, hk2⟩,
      if_neg (show ¬ (U.setVm vm1).vm.assignable cell.cls t2 = true by show ¬ vm1.assignable cell.cls t2 = true; rw [hw.alike.assignable, q3]; decide)]
    exact h' Q Ep d acts
theorem xf_catch {tb : Tables} {e : Env} {s target : State} {g : JFrame} {c : Code} {below : List Frame} {a : Addr} {vm' : Vm} (h : At s g.method c below) {pc : Nat} (hal : s.vm.Alike vm')
    (hfind : ∀ (Q : Handler → Pre) (E : CtlPost) (d : Bool) (acts : List Action), wp (findHandler g a) Q E e d acts ((s.setTop g).pushFrame (.throwing a)) ↔ Q (.found pc) d acts (((s.setTop g).pushFrame (.throwing a)).setVm vm'))
    (hrest : Steps tb e below ((s.setVm vm').setTop { g with pc := pc, stack := [.ref a] }) target) : Steps tb e below ((s.setTop g).pushFrame (.throwing a)) target := by
  obtain ⟨hgo, hw⟩ := h.throwing a
  refine Steps.head hgo hw ?_
  have hst : ∀ r, (stepThrowing e ((s.setTop g).pushFrame (.throwing a)) a (.java g :: r)).Is ((((s.setTop g).pushFrame (.throwing a)).setVm vm').setFrames (.java { g with pc := pc, stack := [.ref a] } :: r)) [] := fun r => by
    simp only [stepThrowing, searchFrame, vmDo]
    generalize hr : Sem.go _ e false [] _ = res
    obtain ⟨as, rfl, ha⟩ := Sem.eq_ok_of hr (a := Handler.found pc) (s' := ((s.setTop g).pushFrame (.throwing a)).setVm vm') (acts' := []) (by simp [hfind _ _ _ _])
    exact ⟨rfl, ha⟩
  rw [stepThread_throwing (frames_entered h.top _), (hst _).1]
  obtain ⟨g₀, hg⟩ := Option.isSome_iff_exists.mp h.top
  obtain ⟨r, hr⟩ := State.topJava?_eq_some.mp hg
  have hr' : (s.setVm vm').frames = .java g₀ :: r := hr
  rw [State.setTop_of_frames _ hr'] at hrest
  rw [State.pushFrame, State.setTop_of_frames _ hr, hr]
  show Steps tb e below ((((s.setFrames (.java g :: r)).setFrames (.throwing a :: (s.setFrames (.java g :: r)).frames)).setFrames (.java { g with pc := pc, stack := [.ref a] } :: r)).setVm vm') target
  rw [State.setFrames_setFrames, State.setFrames_setFrames]
  exact hrest
