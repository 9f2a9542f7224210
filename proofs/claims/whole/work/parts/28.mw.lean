/-! 28.mw: laid by program (wip/whole) -/
/-! methods of the reference that write: the numbers F and the arrays g change, the addresses stay -/
abbrev Ms : Type := (Nat → Int) × (Nat → Nat → Int)
def upF (F : Nat → Int) (i : Nat) (v : Int) : Nat → Int := fun j => if j = i then v else F j
def Ain (a : Nat) (ad : Nat → Nat) (q : Nat) : Prop := q = a ∨ ∃ k, k < 10 ∧ q = ad k
theorem va_D_addr {A : Nat → Prop} {ws ws' : va_W} (h : ws.map Prod.fst = ws'.map Prod.fst) (hD : va_D A ws) : va_D A ws' := by
  have key : ∀ (i : Nat) (q : Nat × va_E), ws'[i]? = some q → ∃ q0, ws[i]? = some q0 ∧ q0.1 = q.1 := fun i q hq => by
    have h1 : (ws'.map Prod.fst)[i]? = some q.1 := by rw [List.getElem?_map, hq]; rfl
    rw [← h, List.getElem?_map] at h1
    cases h2 : ws[i]? with
    | none => rw [h2] at h1; cases h1
    | some q0 => rw [h2] at h1; exact ⟨q0, rfl, Option.some.inj h1⟩
  refine ⟨fun i j q1 q2 h1 h2 he => ?_, fun k q hq => ?_⟩
  · obtain ⟨r1, a1, b1⟩ := key i q1 h1
    obtain ⟨r2, a2, b2⟩ := key j q2 h2
    exact hD.1 i j r1 r2 a1 a2 (by rw [b1, b2]; exact he)
  · obtain ⟨r, a1, b1⟩ := key k q hq
    rw [← b1]
    exact hD.2 k r a1
theorem MD.any {A : Nat → Prop} {a : Nat} {ad : Nat → Nat} {cx cx' : Nat → ClassId} {F F' : Nat → Int} {g g' : Nat → Nat → Int} (h : va_D A (MWs a ad cx F g)) : va_D A (MWs a ad cx' F' g') := va_D_addr (ws := MWs a ad cx F g) rfl h
theorem MD.self {A : Nat → Prop} {a : Nat} {ad : Nat → Nat} {cx : Nat → ClassId} {F : Nat → Int} {g : Nat → Nat → Int} (h : va_D A (MWs a ad cx F g)) : va_D (Ain a ad) (MWs a ad cx F g) := by
  refine ⟨h.1, fun k q hq => ?_⟩
  have hm := List.mem_of_getElem? hq
  simp only [MWs, List.mem_cons, List.not_mem_nil, or_false] at hm
  rcases hm with rfl | rfl | rfl | rfl | rfl | rfl | rfl | rfl | rfl | rfl | rfl
  · exact Or.inl rfl
  · exact Or.inr ⟨0, by decide, rfl⟩
  · exact Or.inr ⟨1, by decide, rfl⟩
  · exact Or.inr ⟨2, by decide, rfl⟩
  · exact Or.inr ⟨3, by decide, rfl⟩
  · exact Or.inr ⟨4, by decide, rfl⟩
  · exact Or.inr ⟨5, by decide, rfl⟩
  · exact Or.inr ⟨6, by decide, rfl⟩
  · exact Or.inr ⟨7, by decide, rfl⟩
  · exact Or.inr ⟨8, by decide, rfl⟩
  · exact Or.inr ⟨9, by decide, rfl⟩
def MdW (D : va_G) (a : Nat) (ad : Nat → Nat) (cx : Nat → ClassId) (F : Nat → Int) (g : Nat → Nat → Int) (U : State) : Prop := MdB D a ad cx F g U ∧ va_D (fun _ => True) (MWs a ad cx F g)
theorem MdW.m {D : va_G} {a : Nat} {ad : Nat → Nat} {cx : Nat → ClassId} {F : Nat → Int} {g : Nat → Nat → Int} : Bm (MdW D a ad cx F g) := Bm.and MdB.m Bm.c
abbrev QMi (D : va_G) (a : Nat) (ad : Nat → Nat) (cx : Nat → ClassId) (x : Int) (Φ : Ms → Prop) := va_Qi (fun (r : Int32) (u : Ms) => r = iI x ∧ Φ u) (fun (u : Ms) t => va_P D CL (MWs a ad cx u.1 u.2) t.heap) (Ain a ad)
abbrev QMl (D : va_G) (a : Nat) (ad : Nat → Nat) (cx : Nat → ClassId) (x : Int) (Φ : Ms → Prop) := va_Ql (fun (r : Int64) (u : Ms) => r = iL x ∧ Φ u) (fun (u : Ms) t => va_P D CL (MWs a ad cx u.1 u.2) t.heap) (Ain a ad)
abbrev QMv (D : va_G) (a : Nat) (ad : Nat → Nat) (cx : Nat → ClassId) (Φ : Ms → Prop) := va_Qv (fun (u : Ms) => Φ u) (fun (u : Ms) t => va_P D CL (MWs a ad cx u.1 u.2) t.heap) (Ain a ad)
abbrev MW (l : Launch) (y : MethodName) (ws : List Cond) (fr lo : Nat) (av : List Value) (D : va_G) (a : Nat) (ad : Nat → Nat) (cx : Nat → ClassId) (F : Nat → Int) (g : Nat → Nat → Int) (Qc : Array Value → State → Outcome → State → Prop) : Prop :=
  Met l y ws ({ frames := fr, cells := 0, slots := 0, locals := lo }) (va_Pc av (fun U => NV U ∧ MdW D a ad cx F g U)) Qc 0 0 (Ain a ad)
theorem mw_of {l : Launch} {y : MethodName} {cc : ByteArray} {fr lo : Nat} {av : List Value} {D : va_G} {a : Nat} {ad : Nat → Nat} {cx : Nat → ClassId} {F : Nat → Int} {g : Nat → Nat → Int} {Qc : Array Value → State → Outcome → State → Prop} {maxL : Nat} {ret : Option FieldType}
    (hy : plainFor y = true) (hn : (lg_sl av).length ≤ maxL)
    (body : ∀ (p : Program) (e : Env) (s : State) (m : MethodId) (below : List Frame) (meth : Method) (c : Code) (ls : Array Slot), p.tables.exec = Jvm.exec → c.code = cc → meth.sig.returnType = ret → (∀ w ∈ gw, w.before av.toArray s = true) → s.vm.findClass y.cls = some m.cls → meth.locks = false → c.maxLocals = maxL → lv_has ls maxL (lv_args 0 av) → NV s → va_K D CL (MTy cx) s → va_P D CL (MWs a ad cx F g) s.heap → va_D (Ain a ad) (MWs a ad cx F g) →
      W p l e (headSpec (wo y cc maxL ret) ({ frames := fr, cells := 0, slots := 0, locals := lo })).room s m av.toArray below meth c s.heap [] 0 0 (MQ below Qc av.toArray s 0 0 (Ain a ad)) (F0 m 0 ls [])) : MW l y (wo y cc maxL ret) fr lo av D a ad cx F g Qc := by
  refine va_MetF (cc := cc) (maxL := maxL) (ret := ret) hy rfl ?_
  intro p e s m args below meth c s₁ B hml hv
  obtain ⟨rfl, hN, hB⟩ := hv
  have hl := lv_entry av (n := maxL) hn
  have hts := atoms_spec (ws := wo y cc maxL ret) B.pre
  rw [lg_entry_eq]
  exact body p e s m below meth c _ B.exec B.bytes B.returns (fun w h => hts w (List.mem_cons_of_mem _ h)) (findClass_of_methodNamed B.named) B.notSynchronized hml hl hN hB.1.1 hB.1.2 (MD.self hB.2)
section MWR
variable {p : Program} {l : Launch} {e : Env} {R : Room} {s : State} {m : MethodId} {args : Array Value} {below : List Frame} {meth : Method} {c : Code} {H : Heap} {locs : List Loc} {cells slots : Nat} {Q : State → Prop} {cc : ByteArray} {pc : Nat} {ls : Array Slot} {rest : List Value} {D : va_G} {a : Nat} {ad : Nat → Nat} {cx : Nat → ClassId} {F : Nat → Int} {g : Nat → Nat → Int} {Φ : Ms → Prop}
theorem mw_vret (hexec : p.tables.exec = Jvm.exec) (hb : c.code = cc) (hr : meth.sig.returnType = none) (hlocks : meth.locks = false) (hdg : decode cc pc = .ok (.return_, 1)) (hP : va_P D CL (MWs a ad cx F g) H) (hS : va_S (Ain a ad) s.heap H locs) (h : Φ (F, g)) :
    W p l e R s m args below meth c H locs 0 0 (MQ below (QMv D a ad cx Φ) args s 0 0 (Ain a ad)) (F0 m pc ls []) :=
  W.vret hexec hb hr (fun t ht _ => ⟨⟨(F, g), rfl, h, by show va_P D CL (MWs a ad cx F g) t.heap; rw [ht]; exact hP⟩, hS.F ht⟩) hS.2.2 hdg hlocks
theorem mw_iret {x z : Int} (hexec : p.tables.exec = Jvm.exec) (hb : c.code = cc) (hr : meth.sig.returnType = some .int) (hlocks : meth.locks = false) (hdg : decode cc pc = .ok (.ireturn, 1)) (hP : va_P D CL (MWs a ad cx F g) H) (hS : va_S (Ain a ad) s.heap H locs) (hx : x = z) (h : Φ (F, g)) :
    W p l e R s m args below meth c H locs 0 0 (MQ below (QMi D a ad cx z Φ) args s 0 0 (Ain a ad)) (F0 m pc ls [.int (iI x)]) :=
  W.iret (v := iI x) hexec hb hr (fun t ht _ => ⟨⟨iI x, (F, g), rfl, ⟨by rw [hx], h⟩, by show va_P D CL (MWs a ad cx F g) t.heap; rw [ht]; exact hP⟩, hS.F ht⟩) hS.2.2 hdg hlocks
theorem mw_zret {x : Int} {P : Prop} (hexec : p.tables.exec = Jvm.exec) (hb : c.code = cc) (hr : meth.sig.returnType = some .boolean) (hlocks : meth.locks = false) (hdg : decode cc pc = .ok (.ireturn, 1)) (hP : va_P D CL (MWs a ad cx F g) H) (hS : va_S (Ain a ad) s.heap H locs) (hx : x = bI P) (h : Φ (F, g)) :
    W p l e R s m args below meth c H locs 0 0 (MQ below (QMi D a ad cx (bI P) Φ) args s 0 0 (Ain a ad)) (F0 m pc ls [.int (iI x)]) :=
  W.zret (v := iI x) hexec hb hr (iI_narB (by rw [hx]; have := bI_01 P; omega)) (fun t ht _ => ⟨⟨iI x, (F, g), rfl, ⟨by rw [hx], h⟩, by show va_P D CL (MWs a ad cx F g) t.heap; rw [ht]; exact hP⟩, hS.F ht⟩) hS.2.2 hdg hlocks
theorem mw_lret {x z : Int} (hexec : p.tables.exec = Jvm.exec) (hb : c.code = cc) (hr : meth.sig.returnType = some .long) (hlocks : meth.locks = false) (hdg : decode cc pc = .ok (.lreturn, 1)) (hP : va_P D CL (MWs a ad cx F g) H) (hS : va_S (Ain a ad) s.heap H locs) (hx : x = z) (h : Φ (F, g)) :
    W p l e R s m args below meth c H locs 0 0 (MQ below (QMl D a ad cx z Φ) args s 0 0 (Ain a ad)) (F0 m pc ls [.long (iL x)]) :=
  W.lret (v := iL x) hexec hb hr (fun t ht _ => ⟨⟨iL x, (F, g), rfl, ⟨by rw [hx], h⟩, by show va_P D CL (MWs a ad cx F g) t.heap; rw [ht]; exact hP⟩, hS.F ht⟩) hS.2.2 hdg hlocks
variable {own C : String} {y : MethodName} {bytes : ByteArray} {maxL nL n index fr lo : Nat} {ret : Option FieldType} {As : List Value} {A0 : Nat → Prop} {H0 : Heap} {st0 : List Value}
theorem mw_pre (hN : NV s) (hK : va_K D CL (MTy cx) s) (hP : va_P D CL (MWs a ad cx F g) H) {A : Nat → Prop} (hD : va_D A (MWs a ad cx F g)) : PreV s H "DayBookModel" a (va_Pc (.ref a :: As) (fun U => NV U ∧ MdW D a ad cx F g U)) As :=
  ⟨fun b U f mk q => ⟨q.1, q.2.1.calling, MdW.m.1 b U f mk q.2.2⟩, va_recv (q0 := 0) (ci := 10) hK hP rfl rfl, fun U h1 h2 => ⟨rfl, hN.warm h2, ⟨va_K.moved h2.alike hK, by rw [h1]; exact hP⟩, hD.weaken (fun _ _ _ _ => trivial)⟩⟩
theorem mw_v (hM : MW l y (wo y bytes maxL ret) fr lo (.ref a :: As) D a ad cx F g (QMv D a ad cx Φ)) (hj : JV y bytes maxL ret n) (hl : Cond.methodLink own index y ∈ gw) (hse : Cond.selects "DayBookModel" y y ∈ gw) (F9 : p.tables.exec = Jvm.exec ∧ c.code = cc ∧ c.maxLocals = nL ∧ s.vm.findClass own = some m.cls ∧ (∀ w ∈ gw, w.before args s = true) ∧ NV s) (hK : va_K D CL (MTy cx) s) (hP : va_P D CL (MWs a ad cx F g) H) {A : Nat → Prop} (hD : va_D A (MWs a ad cx F g)) (hS : va_S A0 H0 H locs) (hA : ∀ q, Ain a ad q → A0 q) (hn : As.length = n) (hsz : ls.size = nL) (hst : st0 = As.reverse ++ .ref a :: rest) (hR : fr + 1 ≤ R.frames ∧ 8 + (maxL + 11) + lo ≤ R.locals) (hw : (rest.map fun v => v.category).sum ≤ 8) (hdg : decode cc pc = .ok (.invokevirtual index, 3)) (hf : cells ≤ R.cells ∧ slots ≤ R.slots)
    (kk : ∀ (u : Ms) (H1 : Heap) (locs1 : List Loc), Φ u → va_P D CL (MWs a ad cx u.1 u.2) H1 → va_S A0 H0 H1 locs1 → W p l e R s m args below meth c H1 locs1 cells slots Q (F0 m (pc + 3) ls (rest))) : W p l e R s m args below meth c H locs cells slots Q (F0 m pc ls st0) :=
  va_callv (va_runV (As := As) (rest := rest) (Ts := gw) (C := "DayBookModel") ⟨F9.1, F9.2.1, F9.2.2.1, F9.2.2.2.1, F9.2.2.2.2.1⟩ hM ⟨callB_of n F9.2.2.2.2.1 (gw_in hj.1) rfl rfl rfl (F9.2.2.2.2.1 _ hj.2.1) (F9.2.2.2.2.1 _ hl) hj.2.2.2 hR, F9.2.2.2.2.1 _ hj.2.2.1, F9.2.2.2.2.1 _ hse⟩ (mw_pre F9.2.2.2.2.2 hK hP hD) rfl hn hsz hst (lv_room hw) hdg hf) hS (fun q _ h => hA q h) hA (fun u t H1 locs1 ht _ hp hB _ _ hS1 => kk u H1 locs1 hp (by rw [← ht]; exact hB) hS1)
theorem mw_i {z : Int} (hM : MW l y (wo y bytes maxL ret) fr lo (.ref a :: As) D a ad cx F g (QMi D a ad cx z Φ)) (hj : JV y bytes maxL ret n) (hl : Cond.methodLink own index y ∈ gw) (hse : Cond.selects "DayBookModel" y y ∈ gw) (F9 : p.tables.exec = Jvm.exec ∧ c.code = cc ∧ c.maxLocals = nL ∧ s.vm.findClass own = some m.cls ∧ (∀ w ∈ gw, w.before args s = true) ∧ NV s) (hK : va_K D CL (MTy cx) s) (hP : va_P D CL (MWs a ad cx F g) H) {A : Nat → Prop} (hD : va_D A (MWs a ad cx F g)) (hS : va_S A0 H0 H locs) (hA : ∀ q, Ain a ad q → A0 q) (hn : As.length = n) (hsz : ls.size = nL) (hst : st0 = As.reverse ++ .ref a :: rest) (hR : fr + 1 ≤ R.frames ∧ 8 + (maxL + 11) + lo ≤ R.locals) (hw : (rest.map fun v => v.category).sum ≤ 8) (hdg : decode cc pc = .ok (.invokevirtual index, 3)) (hf : cells ≤ R.cells ∧ slots ≤ R.slots)
    (kk : ∀ (u : Ms) (H1 : Heap) (locs1 : List Loc), Φ u → va_P D CL (MWs a ad cx u.1 u.2) H1 → va_S A0 H0 H1 locs1 → W p l e R s m args below meth c H1 locs1 cells slots Q (F0 m (pc + 3) ls (.int (iI z) :: rest))) : W p l e R s m args below meth c H locs cells slots Q (F0 m pc ls st0) :=
  va_calli (va_runV (As := As) (rest := rest) (Ts := gw) (C := "DayBookModel") ⟨F9.1, F9.2.1, F9.2.2.1, F9.2.2.2.1, F9.2.2.2.2.1⟩ hM ⟨callB_of n F9.2.2.2.2.1 (gw_in hj.1) rfl rfl rfl (F9.2.2.2.2.1 _ hj.2.1) (F9.2.2.2.2.1 _ hl) hj.2.2.2 hR, F9.2.2.2.2.1 _ hj.2.2.1, F9.2.2.2.2.1 _ hse⟩ (mw_pre F9.2.2.2.2.2 hK hP hD) rfl hn hsz hst (lv_room hw) hdg hf) hS (fun q _ h => hA q h) hA (fun r u t H1 locs1 ht _ hp hB _ _ hS1 => by rw [hp.1]; exact kk u H1 locs1 hp.2 (by rw [← ht]; exact hB) hS1)
theorem mw_l {z : Int} (hM : MW l y (wo y bytes maxL ret) fr lo (.ref a :: As) D a ad cx F g (QMl D a ad cx z Φ)) (hj : JV y bytes maxL ret n) (hl : Cond.methodLink own index y ∈ gw) (hse : Cond.selects "DayBookModel" y y ∈ gw) (F9 : p.tables.exec = Jvm.exec ∧ c.code = cc ∧ c.maxLocals = nL ∧ s.vm.findClass own = some m.cls ∧ (∀ w ∈ gw, w.before args s = true) ∧ NV s) (hK : va_K D CL (MTy cx) s) (hP : va_P D CL (MWs a ad cx F g) H) {A : Nat → Prop} (hD : va_D A (MWs a ad cx F g)) (hS : va_S A0 H0 H locs) (hA : ∀ q, Ain a ad q → A0 q) (hn : As.length = n) (hsz : ls.size = nL) (hst : st0 = As.reverse ++ .ref a :: rest) (hR : fr + 1 ≤ R.frames ∧ 8 + (maxL + 11) + lo ≤ R.locals) (hw : (rest.map fun v => v.category).sum ≤ 8) (hdg : decode cc pc = .ok (.invokevirtual index, 3)) (hf : cells ≤ R.cells ∧ slots ≤ R.slots)
    (kk : ∀ (u : Ms) (H1 : Heap) (locs1 : List Loc), Φ u → va_P D CL (MWs a ad cx u.1 u.2) H1 → va_S A0 H0 H1 locs1 → W p l e R s m args below meth c H1 locs1 cells slots Q (F0 m (pc + 3) ls (.long (iL z) :: rest))) : W p l e R s m args below meth c H locs cells slots Q (F0 m pc ls st0) :=
  va_calll (va_runV (As := As) (rest := rest) (Ts := gw) (C := "DayBookModel") ⟨F9.1, F9.2.1, F9.2.2.1, F9.2.2.2.1, F9.2.2.2.2.1⟩ hM ⟨callB_of n F9.2.2.2.2.1 (gw_in hj.1) rfl rfl rfl (F9.2.2.2.2.1 _ hj.2.1) (F9.2.2.2.2.1 _ hl) hj.2.2.2 hR, F9.2.2.2.2.1 _ hj.2.2.1, F9.2.2.2.2.1 _ hse⟩ (mw_pre F9.2.2.2.2.2 hK hP hD) rfl hn hsz hst (lv_room hw) hdg hf) hS (fun q _ h => hA q h) hA (fun r u t H1 locs1 ht _ hp hB _ _ hS1 => by rw [hp.1]; exact kk u H1 locs1 hp.2 (by rw [← ht]; exact hB) hS1)
end MWR
