/-! 53.gn: laid by program (wip/whole) -/
/-! worlds that are read; statics of the JDK; arrays that are made -/
def RB (D : va_G) (tys : List (ClassId × FieldType)) (ws : va_W) (U : State) : Prop := va_K D CL tys U ∧ va_P D CL ws U.heap
theorem RB.m {D : va_G} {tys : List (ClassId × FieldType)} {ws : va_W} : Bm (RB D tys ws) := ⟨fun a U f mk h => ⟨va_K.moved (u := U) (U := U.calling f mk a) (Vm.Alike.refl U.vm) h.1, h.2⟩, fun s U h1 h2 h => ⟨va_K.moved h2.alike h.1, by rw [h1]; exact h.2⟩⟩
def dOne (j : Nat) : Value := .int (iI ((48 + j % 10 : Nat) : Int))
def dTen (j : Nat) : Value := .int (iI ((48 + j / 10 : Nat) : Int))
/-- the JDK's statics that texts read -/
def ST (A : Nat → Prop) (U : State) (H : Heap) : Prop :=
  va_Z "java/lang/String" "COMPACT_STRINGS" "Z" (.int (iI 1)) A U H ∧ va_Zq "jdk/internal/util/Preconditions" "SIOOBE_FORMATTER" "Ljava/util/function/BiFunction;" A U H ∧
  (∃ t : Nat, va_Z "java/lang/Integer" "DigitOnes" "[B" (.ref t) A U H ∧ va_T .byte t 100 dOne A U H) ∧ ∃ t : Nat, va_Z "java/lang/Integer" "DigitTens" "[B" (.ref t) A U H ∧ va_T .byte t 100 dTen A U H
theorem ST.moved {A : Nat → Prop} {u U : State} {H : Heap} (hvm : u.vm.Alike U.vm) (h : ST A u H) : ST A U H := by
  obtain ⟨h1, h2, ⟨t, h3, h4⟩, r, h5, h6⟩ := h
  exact ⟨h1.moved hvm, h2.moved hvm, ⟨t, h3.moved hvm, h4.moved hvm⟩, r, h5.moved hvm, h6.moved hvm⟩
theorem ST.kept {A : Nat → Prop} {U : State} {H H1 : Heap} (h : ST A U H) (hq : ∀ a : Nat, a < H.size → ¬ A a → H1[a]? = H[a]?) : ST A U H1 := by
  obtain ⟨h1, h2, ⟨t, h3, h4⟩, r, h5, h6⟩ := h
  exact ⟨h1.kept hq, h2.kept hq, ⟨t, h3.kept hq, h4.kept hq⟩, r, h5.kept hq, h6.kept hq⟩
theorem ST.narrow {A B : Nat → Prop} {U : State} {H : Heap} (h : ST A U H) (hAB : ∀ q, B q → A q) : ST B U H := by
  obtain ⟨h1, h2, ⟨t, h3, h4⟩, r, h5, h6⟩ := h
  exact ⟨h1.narrow hAB, h2.narrow hAB, ⟨t, h3.narrow hAB, h4.narrow hAB⟩, r, h5.narrow hAB, h6.narrow hAB⟩
def SA (A : Nat → Prop) (U : State) : Prop := ST A U U.heap
theorem SA.m {A : Nat → Prop} : Bm (SA A) := ⟨fun a U f mk h => ST.moved (u := U) (U := U.calling f mk a) (Vm.Alike.refl U.vm) h, fun s U h1 h2 h => by unfold SA at h ⊢; rw [h1]; exact ST.moved h2.alike h⟩
theorem SA.at {A B : Nat → Prop} {s : State} {H : Heap} {locs : List Loc} (h : SA A s) (hS : va_S A s.heap H locs) (hB : ∀ q, B q → A q) (U : State) (h1 : U.heap = H) (h2 : s.WarmedH U.vm) : SA B U := by
  unfold SA at h ⊢
  rw [h1]
  exact ((ST.kept h hS.2.1).narrow hB).moved h2.alike
/-- a contract of a void method that writes nothing -/
abbrev ROv (l : Launch) (y : MethodName) (ws : List Cond) (fr lo : Nat) (av : List Value) (Bs : State → Prop) : Prop :=
  Met l y ws ({ frames := fr, cells := 0, slots := 0, locals := lo }) (va_Pc av (fun U => NV U ∧ Bs U)) (va_Sv (fun _ => True)) 0 0 (fun _ => False)
theorem rov_of {l : Launch} {y : MethodName} {cc : ByteArray} {fr lo : Nat} {av : List Value} {Bs : State → Prop} {maxL : Nat} {ret : Option FieldType}
    (hy : plainFor y = true) (hn : (lg_sl av).length ≤ maxL)
    (body : ∀ (p : Program) (e : Env) (s : State) (m : MethodId) (below : List Frame) (meth : Method) (c : Code) (ls : Array Slot), p.tables.exec = Jvm.exec → c.code = cc → meth.sig.returnType = ret → (∀ w ∈ gw, w.before av.toArray s = true) → s.vm.findClass y.cls = some m.cls → meth.locks = false → c.maxLocals = maxL → lv_has ls maxL (lv_args 0 av) → NV s → Bs s →
      W p l e (headSpec (wo y cc maxL ret) ({ frames := fr, cells := 0, slots := 0, locals := lo })).room s m av.toArray below meth c s.heap [] 0 0 (MQ below (va_Sv (fun _ => True)) av.toArray s 0 0 (fun _ => False)) (F0 m 0 ls [])) : ROv l y (wo y cc maxL ret) fr lo av Bs := by
  refine va_MetF (cc := cc) (maxL := maxL) (ret := ret) hy rfl ?_
  intro p e s m args below meth c s₁ B hml hv
  obtain ⟨rfl, hN, hB⟩ := hv
  have hl := lv_entry av (n := maxL) hn
  have hts := atoms_spec (ws := wo y cc maxL ret) B.pre
  rw [lg_entry_eq]
  exact body p e s m below meth c _ B.exec B.bytes B.returns (fun w h => hts w (List.mem_cons_of_mem _ h)) (findClass_of_methodNamed B.named) B.notSynchronized hml hl hN hB
section GN2
variable {p : Program} {l : Launch} {e : Env} {R : Room} {s : State} {m : MethodId} {args : Array Value} {below : List Frame} {meth : Method} {c : Code} {H : Heap} {locs : List Loc} {cells slots : Nat} {Q : State → Prop} {cc : ByteArray} {pc : Nat} {ls : Array Slot} {rest : List Value} {own C : String} {y : MethodName} {bytes : ByteArray} {maxL nL n index fr lo : Nat} {ret : Option FieldType} {As av st0 : List Value} {Bs : State → Prop} {r : Value} {b : Addr}
theorem rov_ret (hexec : p.tables.exec = Jvm.exec) (hb : c.code = cc) (hr : meth.sig.returnType = none) (hlocks : meth.locks = false) (hdg : decode cc pc = .ok (.return_, 1)) :
    W p l e R s m args below meth c s.heap [] 0 0 (MQ below (va_Sv (fun _ => True)) args s 0 0 (fun _ => False)) (F0 m pc ls []) :=
  W.vret hexec hb hr (fun t ht _ => ⟨rfl, trivial, ht⟩) (fun q h => nomatch h) hdg hlocks
theorem rov_S (hM : ROv l y (wo y bytes maxL ret) fr lo av Bs) (hj : JS y bytes maxL ret n) (hl : Cond.methodLink own index y ∈ gw) (F : p.tables.exec = Jvm.exec ∧ c.code = cc ∧ c.maxLocals = nL ∧ s.vm.findClass own = some m.cls ∧ (∀ w ∈ gw, w.before args s = true) ∧ NV s) (hn : av.length = n) (hsz : ls.size = nL) (hst : st0 = av.reverse ++ rest) (hR : fr + 1 ≤ R.frames ∧ 8 + (maxL + 11) + lo ≤ R.locals) (hw : (rest.map fun v => v.category).sum ≤ 8) (hdg : decode cc pc = .ok (.invokestatic index, 3)) (hf : cells ≤ R.cells ∧ slots ≤ R.slots) (hbl : Bm Bs) (hB : ∀ U : State, U.heap = H → s.WarmedH U.vm → Bs U)
    (kk : W p l e R s m args below meth c H locs cells slots Q (F0 m (pc + 3) ls rest)) : W p l e R s m args below meth c H locs cells slots Q (F0 m pc ls st0) :=
  va_csv (va_Run.run (gr_S (rest := rest) hM hj hl F (ro_preS F.2.2.2.2.2 hbl hB) rfl rfl hn hsz hst hR hw hdg hf)) (fun _ => kk)
theorem rov_V (hM : ROv l y (wo y bytes maxL ret) fr lo (.ref b :: As) Bs) (hj : JV y bytes maxL ret n) (hl : Cond.methodLink own index y ∈ gw) (hse : (Cond.selects C y y).before args s = true) (F : p.tables.exec = Jvm.exec ∧ c.code = cc ∧ c.maxLocals = nL ∧ s.vm.findClass own = some m.cls ∧ (∀ w ∈ gw, w.before args s = true) ∧ NV s) (hc : ∃ cellB : Cell, H[b]? = some cellB ∧ cellB.vm.isStatics = false ∧ s.vm.findClass C = some cellB.cls) (hn : As.length = n) (hsz : ls.size = nL) (hst : st0 = As.reverse ++ .ref b :: rest) (hR : fr + 1 ≤ R.frames ∧ 8 + (maxL + 11) + lo ≤ R.locals) (hw : (rest.map fun v => v.category).sum ≤ 8) (hdg : decode cc pc = .ok (.invokevirtual index, 3)) (hf : cells ≤ R.cells ∧ slots ≤ R.slots) (hbl : Bm Bs) (hB : ∀ U : State, U.heap = H → s.WarmedH U.vm → Bs U)
    (kk : W p l e R s m args below meth c H locs cells slots Q (F0 m (pc + 3) ls rest)) : W p l e R s m args below meth c H locs cells slots Q (F0 m pc ls st0) :=
  va_csv (va_Run.run (gr_V (C := C) (rest := rest) hM hj hl hse F (ro_preV F.2.2.2.2.2 hbl hc hB) rfl rfl hn hsz hst hR hw hdg hf)) (fun _ => kk)
/-- a call of the method above (super) that writes nothing -/
theorem ro_SU {cC : ClassId} (hat : ClassAt s C cC) (hM : RO l y (wo y bytes maxL ret) fr lo (.ref b :: As) Bs r) (hj : JV y bytes maxL ret n) (hl : Cond.methodLink own index y ∈ gw) (hsm : Cond.sameMethod y.cls y.cls y.name y.desc ∈ gw) (hsu : Cond.superclass own y.cls ∈ gw) (hno : y.name ≠ "<init>") (F : p.tables.exec = Jvm.exec ∧ c.code = cc ∧ c.maxLocals = nL ∧ s.vm.findClass own = some m.cls ∧ (∀ w ∈ gw, w.before args s = true) ∧ NV s) (hc : ∃ cellB : Cell, H[b]? = some cellB ∧ cellB.vm.isStatics = false ∧ s.vm.findClass C = some cellB.cls) (hn : As.length = n) (hsz : ls.size = nL) (hst : st0 = As.reverse ++ .ref b :: rest) (hR : fr + 1 ≤ R.frames ∧ 8 + (maxL + 11) + lo ≤ R.locals) (hw : (rest.map fun v => v.category).sum ≤ 8) (hdg : decode cc pc = .ok (.invokespecial index, 3)) (hf : cells ≤ R.cells ∧ slots ≤ R.slots) (hbl : Bm Bs) (hB : ∀ U : State, U.heap = H → s.WarmedH U.vm → Bs U)
    (kk : W p l e R s m args below meth c H locs cells slots Q (F0 m (pc + 3) ls (r :: rest))) : W p l e R s m args below meth c H locs cells slots Q (F0 m pc ls st0) :=
  ro_go (gr_SU (rest := rest) hat hM hj hl hsm hsu hno F (ro_preV F.2.2.2.2.2 hbl hc hB) rfl rfl hn hsz hst hR hw hdg hf) kk
theorem iI_narCh {x : Int} (h : 0 ≤ x ∧ x ≤ 127) : narrow .char (.int (iI x)) = .int (iI x) := by
  obtain ⟨k, rfl⟩ := Int.eq_ofNat_of_zero_le h.1
  have hk : k < 128 := by omega
  have key : ∀ k, k < 128 → narrow .char (.int (nI k)) = .int (nI k) := by decide +kernel
  rw [iI_nI]
  exact key k hk
theorem ro_cret {x y : Int} (hexec : p.tables.exec = Jvm.exec) (hb : c.code = cc) (hr : meth.sig.returnType = some .char) (hlocks : meth.locks = false) (hdg : decode cc pc = .ok (.ireturn, 1)) (h01 : 0 ≤ x ∧ x ≤ 127) (h : x = y) :
    W p l e R s m args below meth c s.heap [] 0 0 (MQ below (k2_QcV (.int (iI y))) args s 0 0 (fun _ => False)) (F0 m pc ls [.int (iI x)]) :=
  W.zret (v := iI x) hexec hb hr (iI_narCh h01) (fun t ht _ => ⟨by rw [h], ht⟩) (fun q h => nomatch h) hdg hlocks
theorem bI_or (P : Prop) : bI P = 0 ∨ bI P = 1 := by
  have := bI_01 P
  omega
theorem fitsB {x : Int} (h : x = 0 ∨ x = 1) : fits .boolean (.int (iI x)) = true := by
  rcases h with rfl | rfl <;> decide +kernel
variable {D : va_G} {cl : List vw_C} {tys : List (ClassId × FieldType)} {ws : va_W} {A : Nat → Prop} {H0 : Heap}
theorem ma_len (hexec : p.tables.exec = Jvm.exec) (hb : c.code = cc) (hK : va_K D cl tys s) (hP : va_P D cl ws H) (q0 t0 : Nat) {t : Nat} {cA : ClassId} {k : Nat} {g : (Nat → Int32) ⊕ (Nat → Int64) ⊕ (Nat → UInt32) ⊕ (Nat → UInt64) ⊕ (Nat → Option Nat)} (ha : ws[q0]? = some (t, .inl (cA, (k, g)))) {ty : FieldType} (ht : tys[t0]? = some (cA, ty)) (hdg : decode cc pc = .ok (.arraylength, 1)) (kk : W p l e R s m args below meth c H locs cells slots Q (F0 m (pc + 1) ls (.int (iI (k : Int)) :: rest))) : W p l e R s m args below meth c H locs cells slots Q (F0 m pc ls (.ref t :: rest)) :=
  va_alen hexec hb hK hP q0 t0 ha ht (v := iI (k : Int)) (by rw [iI_nI]; rfl) hdg kk
theorem ma_tb {t : Nat} {f : Nat → Value} (hexec : p.tables.exec = Jvm.exec) (hb : c.code = cc) (hT : va_T .byte t 100 f A s s.heap) (hS : va_S A s.heap H locs) {x : Int} (h0 : 0 ≤ x ∧ x < 100) (hdg : decode cc pc = .ok (.baload, 1)) {v : Value} (hv : f x.toNat = v) (kk : W p l e R s m args below meth c H locs cells slots Q (F0 m (pc + 1) ls (v :: rest))) : W p l e R s m args below meth c H locs cells slots Q (F0 m pc ls (.int (iI x) :: .ref t :: rest)) :=
  va_tb hexec hb hT hS (iI_in (n := 100) h0.1 (by omega) (by decide)) (by rw [iI_clT h0.1 (by omega)]; exact hv) hdg kk
/-- a new array of ints of a small or plain type -/
theorem gm_nw {atype : ArrayType} {ty : FieldType} {nm : String} (hexec : p.tables.exec = Jvm.exec) (hb : c.code = cc) (hts : ∀ w ∈ gw, w.before args s = true) (hty : newarray.typeOf atype = ty) (hin : Cond.arrayClass ty ∈ gw) (hdef : defaultValue ty = .int (iI 0)) (hcb : componentBytes ty ≤ 8) (hnm : ∀ cA, va_RA s cA ty → s.vm.findClass nm = some cA) (hK : va_K D cl tys s) (hP : va_P D cl ws H) (hD : va_D A ws) (hS : va_S A H0 H locs) (hA : ∀ q, H0.size ≤ q → A q) (t0 : Nat) {cA : ClassId} (ht : tys[t0]? = some (cA, ty)) {x : Int} (k : Nat) (hx : x = k) (hk : k ≤ 1000) (hcells : cells + 1 ≤ R.cells) (hslots : slots + k ≤ R.slots) (hdg : decode cc pc = .ok (.newarray atype, 2))
    (kk : ∀ (q : Nat) (H1 : Heap), va_P D cl (ws ++ [(q, .inl (cA, k, .inl (fun j => iI ((fun _ => (0 : Int)) j))))]) H1 → va_D A (ws ++ [(q, .inl (cA, k, .inl (fun j => iI ((fun _ => (0 : Int)) j))))]) → va_S A H0 H1 locs → W p l e R s m args below meth c H1 locs (cells + 1) (slots + k) Q (F0 m (pc + 2) ls (.ref q :: rest))) : W p l e R s m args below meth c H locs cells slots Q (F0 m pc ls (.int (iI x) :: rest)) := by
  subst hx
  refine va_newa hexec hb (atype := atype) (by rw [hty]; exact hts _ hin) hty hK hP hD hS hA (N' := k) (a0 := (k, .inl (fun _ => iI 0))) (fun cA => by rw [vp_cell_i, hdef]) (by rw [iI_nI]; exact nI_pos (by omega)) (by rw [iI_nI]; exact nI_clamp (by omega)) (Nat.le_trans (Nat.mul_le_mul hk hcb) (by decide)) hcells hslots hdg (fun q cN H1 hK1 hP1 hD1 hS1 => ?_)
  have e1 := hnm cA (hK.2 t0 _ ht).2
  have e2 := hnm cN (hK1.2 tys.length (cN, ty) (by rw [List.getElem?_append_right (Nat.le_refl _), Nat.sub_self]; rfl)).2
  have e3 : cA = cN := Option.some.inj (e1.symm.trans e2)
  subst e3
  exact kk q H1 hP1 hD1 hS1
theorem gm_nwL (hexec : p.tables.exec = Jvm.exec) (hb : c.code = cc) (hts : ∀ w ∈ gw, w.before args s = true) (hin : Cond.arrayClass .long ∈ gw) (hK : va_K D cl tys s) (hP : va_P D cl ws H) (hD : va_D A ws) (hS : va_S A H0 H locs) (hA : ∀ q, H0.size ≤ q → A q) (t0 : Nat) {cA : ClassId} (ht : tys[t0]? = some (cA, .long)) {x : Int} (k : Nat) (hx : x = k) (hk : k ≤ 1000) (hcells : cells + 1 ≤ R.cells) (hslots : slots + k ≤ R.slots) (hdg : decode cc pc = .ok (.newarray .long, 2))
    (kk : ∀ (q : Nat) (H1 : Heap), va_P D cl (ws ++ [(q, .inl (cA, k, .inr (.inl (fun j => iL ((fun _ => (0 : Int)) j)))))]) H1 → va_D A (ws ++ [(q, .inl (cA, k, .inr (.inl (fun j => iL ((fun _ => (0 : Int)) j)))))]) → va_S A H0 H1 locs → W p l e R s m args below meth c H1 locs (cells + 1) (slots + k) Q (F0 m (pc + 2) ls (.ref q :: rest))) : W p l e R s m args below meth c H locs cells slots Q (F0 m pc ls (.int (iI x) :: rest)) := by
  subst hx
  refine va_newa hexec hb (atype := .long) (hts _ hin) rfl hK hP hD hS hA (N' := k) (a0 := (k, .inr (.inl (fun _ => iL 0)))) (fun cA => rfl) (by rw [iI_nI]; exact nI_pos (by omega)) (by rw [iI_nI]; exact nI_clamp (by omega)) (Nat.le_trans (Nat.mul_le_mul hk (Nat.le_refl 8)) (by decide)) hcells hslots hdg (fun q cN H1 hK1 hP1 hD1 hS1 => ?_)
  have e1 := va_nm_long (hK.2 t0 _ ht).2
  have e2 := va_nm_long (hK1.2 tys.length (cN, .long) (by rw [List.getElem?_append_right (Nat.le_refl _), Nat.sub_self]; rfl)).2
  have e3 : cA = cN := Option.some.inj (e1.symm.trans e2)
  subst e3
  exact kk q H1 hP1 hD1 hS1
theorem ro_iretR {x y : Int} (hexec : p.tables.exec = Jvm.exec) (hb : c.code = cc) (hr : meth.sig.returnType = some .int) (hlocks : meth.locks = false) (hdg : decode cc pc = .ok (.ireturn, 1)) (h : x = y) :
    W p l e R s m args below meth c s.heap [] 0 0 (MQ below (k2_QcV (.int (iI y))) args s 0 0 (fun _ => False)) (F0 m pc ls [.int (iI x)]) := ro_iret hexec hb hr hlocks hdg h
end GN2
section GIW
variable {p : Program} {l : Launch} {e : Env} {R : Room} {s : State} {m : MethodId} {args : Array Value} {below : List Frame} {meth : Method} {c : Code} {H : Heap} {locs : List Loc} {cells slots : Nat} {Q : State → Prop} {cc : ByteArray} {pc : Nat} {ls : Array Slot} {rest : List Value} {own host : String} {y : MethodName} {bytes : ByteArray} {maxL nL n index mc ms : Nat} {As st0 : List Value} {rm : Room} {Pc : Array Value → State → Prop} {Qc : Array Value → State → Outcome → State → Prop} {free : Addr → Prop} {b : Addr}
theorem gr_IW (hM : Met l y (wo y bytes maxL none) rm Pc Qc mc ms free) (hj : JV y bytes maxL none n) (hl : Cond.methodLink own index y ∈ gw) (hi : y.name = "<init>") (F : p.tables.exec = Jvm.exec ∧ c.code = cc ∧ c.maxLocals = nL ∧ s.vm.findClass own = some m.cls ∧ (∀ w ∈ gw, w.before args s = true) ∧ NV s) (hp : PreS s H Pc (.ref b :: As)) (hrc : rm.cells = mc) (hrs : rm.slots = ms) (hn : As.length = n) (hsz : ls.size = nL) (hst : st0 = As.reverse ++ .ref b :: rest) (hR : rm.frames + 1 ≤ R.frames ∧ 20 + (maxL + 11) + rm.locals ≤ R.locals) (hw : (rest.map fun v => v.category).sum ≤ 20) (hdg : decode cc pc = .ok (.invokespecial index, 3)) (hf : cells + mc ≤ R.cells ∧ slots + ms ≤ R.slots) : va_Run p l e R s m args below meth c H locs cells slots mc ms (F0 m pc ls st0) rest (Qc (Value.ref b :: As).toArray) free := by
  subst hst
  obtain ⟨hx, hb, hml, ho, hts, hN⟩ := F
  have hK : Back l R p e below s args y 3 20 (PreOf R mc ms Pc) (PostOf Qc mc ms free) := back_of (bytes := bytes) (maxL := maxL) (ret := none) hM hp.1 hrc hrs hR.1 hR.2 (pay_in hts (gw_in hj.1)) List.mem_cons_self (fun a' U hW => word_at hW (Or.inl (by first | rfl | simp [Cond.onTables, Cond.keeps, Cond.steady])) (hts _ hj.2.1))
  have hlen : ∀ sig, parseMethodDescriptor y.desc = some sig → n = sig.parameters.length := fun sig h => by
    have h2 := hj.2.2.2.2.2
    rw [h] at h2
    exact (Option.some.inj h2).symm
  intro T hT X
  obtain ⟨v, vm₁, ⟨U', l2, c2, s2⟩, hW₁, X', ⟨g', mk, t, L, e1, e2, hq, h1, hL, h2, h3⟩, st⟩ := callI X hx (bytes := bytes) (maxL := maxL) ho hi (hts _ hl) (hts _ hj.2.2.1) (hts _ hj.1) ⟨hj.2.2.2.1, hj.2.2.2.2.1⟩ hK (g := F0 m pc ls (As.reverse ++ .ref b :: rest)) rfl (hsz.trans hml.symm) (a := b) (argsL := As) (rest := rest) (fun sig h => hn.trans (hlen sig h)) rfl (by show 2 * 0 + _ ≤ 20; omega) (by rw [hb]; exact hdg)
    (fun vm₁ hW₁ => ⟨hf.1, hf.2, hp.2 (T.setVm vm₁) hT hW₁⟩)
  dsimp only [Pt.U, Pt.locs, Pt.cells, Pt.slots] at X' e1 e2 h1 h2 h3 st
  subst h1; subst h2; subst h3
  exact ⟨v, (T.setVm vm₁).calling g' mk (Value.ref b :: As).toArray, t, U', L, hT, X', hL, e1, e2, hq, st⟩
theorem gr_INW (hM : Met l y (wo y bytes maxL none) rm Pc Qc mc ms free) (hj : JV y bytes maxL none n) (hl : va_Nw (Cond.methodLinkNest own index y host) s) (hi : y.name = "<init>") (F : p.tables.exec = Jvm.exec ∧ c.code = cc ∧ c.maxLocals = nL ∧ s.vm.findClass own = some m.cls ∧ (∀ w ∈ gw, w.before args s = true) ∧ NV s) (hp : PreS s H Pc (.ref b :: As)) (hrc : rm.cells = mc) (hrs : rm.slots = ms) (hn : As.length = n) (hsz : ls.size = nL) (hst : st0 = As.reverse ++ .ref b :: rest) (hR : rm.frames + 1 ≤ R.frames ∧ 20 + (maxL + 11) + rm.locals ≤ R.locals) (hw : (rest.map fun v => v.category).sum ≤ 20) (hdg : decode cc pc = .ok (.invokespecial index, 3)) (hf : cells + mc ≤ R.cells ∧ slots + ms ≤ R.slots) : va_Run p l e R s m args below meth c H locs cells slots mc ms (F0 m pc ls st0) rest (Qc (Value.ref b :: As).toArray) free := by
  subst hst
  obtain ⟨hx, hb, hml, ho, hts, hN⟩ := F
  have hK : Back l R p e below s args y 3 20 (PreOf R mc ms Pc) (PostOf Qc mc ms free) := back_of (bytes := bytes) (maxL := maxL) (ret := none) hM hp.1 hrc hrs hR.1 hR.2 (pay_in hts (gw_in hj.1)) List.mem_cons_self (fun a' U hW => word_at hW (Or.inl (by first | rfl | simp [Cond.onTables, Cond.keeps, Cond.steady])) (hts _ hj.2.1))
  have hlen : ∀ sig, parseMethodDescriptor y.desc = some sig → n = sig.parameters.length := fun sig h => by
    have h2 := hj.2.2.2.2.2
    rw [h] at h2
    exact (Option.some.inj h2).symm
  intro T hT X
  obtain ⟨v, vm₁, ⟨U', l2, c2, s2⟩, hW₁, X', ⟨g', mk, t, L, e1, e2, hq, h1, hL, h2, h3⟩, st⟩ := va_callIN X hx (bytes := bytes) (maxL := maxL) ho hi (va_Nw.use rfl hl) (hts _ hj.2.2.1) (hts _ hj.1) ⟨hj.2.2.2.1, hj.2.2.2.2.1⟩ hK (g := F0 m pc ls (As.reverse ++ .ref b :: rest)) rfl (hsz.trans hml.symm) (a := b) (argsL := As) (rest := rest) (fun sig h => hn.trans (hlen sig h)) rfl (by show 2 * 0 + _ ≤ 20; omega) (by rw [hb]; exact hdg)
    (fun vm₁ hW₁ => ⟨hf.1, hf.2, hp.2 (T.setVm vm₁) hT hW₁⟩)
  dsimp only [Pt.U, Pt.locs, Pt.cells, Pt.slots] at X' e1 e2 h1 h2 h3 st
  subst h1; subst h2; subst h3
  exact ⟨v, (T.setVm vm₁).calling g' mk (Value.ref b :: As).toArray, t, U', L, hT, X', hL, e1, e2, hq, st⟩
end GIW
