/-! 73.law: laid by program (wip/whole) -/
/-! the law: worlds with a rest -/
theorem va_P.left {D : va_G} {cl : List vw_C} {w1 w2 : va_W} {H : Heap} (h : va_P D cl (w1 ++ w2) H) : va_P D cl w1 H := fun k q hq => h k q (by rw [List.getElem?_append_left (List.getElem?_eq_some_iff.mp hq).1]; exact hq)
theorem va_P.right {D : va_G} {cl : List vw_C} {w1 w2 : va_W} {H : Heap} (h : va_P D cl (w1 ++ w2) H) : va_P D cl w2 H := fun k q hq => h (w1.length + k) q (by rw [List.getElem?_append_right (by omega), show w1.length + k - w1.length = k by omega]; exact hq)
theorem va_D.left {A : Nat → Prop} {w1 w2 : va_W} (h : va_D A (w1 ++ w2)) : va_D A w1 := by
  have key : ∀ (k : Nat) (q : Nat × va_E), w1[k]? = some q → (w1 ++ w2)[k]? = some q := fun k q hq => by rw [List.getElem?_append_left (List.getElem?_eq_some_iff.mp hq).1]; exact hq
  exact ⟨fun i j p q hi hj e => h.1 i j p q (key i p hi) (key j q hj) e, fun k q hq => h.2 k q (key k q hq)⟩
theorem va_D.right {A : Nat → Prop} {w1 w2 : va_W} (h : va_D A (w1 ++ w2)) : va_D A w2 := by
  have key : ∀ (k : Nat) (q : Nat × va_E), w2[k]? = some q → (w1 ++ w2)[w1.length + k]? = some q := fun k q hq => by rw [List.getElem?_append_right (by omega), show w1.length + k - w1.length = k by omega]; exact hq
  exact ⟨fun i j p q hi hj e => by have := h.1 _ _ p q (key i p hi) (key j q hj) e; omega, fun k q hq => h.2 _ q (key k q hq)⟩
theorem va_D.apart {A : Nat → Prop} {w1 w2 : va_W} (h : va_D A (w1 ++ w2)) (i j : Nat) (p q : Nat × va_E) (hi : w1[i]? = some p) (hj : w2[j]? = some q) : p.1 ≠ q.1 := fun e => by
  have l1 := (List.getElem?_eq_some_iff.mp hi).1
  have := h.1 i (w1.length + j) p q (by rw [List.getElem?_append_left l1]; exact hi) (by rw [List.getElem?_append_right (by omega), show w1.length + j - w1.length = j by omega]; exact hj) e
  omega
theorem va_D.sw {A : Nat → Prop} {w1 w2 : va_W} (h : va_D A (w1 ++ w2)) : va_D A (w2 ++ w1) := va_D.app h.right h.left (fun i j p q hi hj e => h.apart j i q p hj hi e.symm)
theorem va_P.sw {D : va_G} {cl : List vw_C} {w1 w2 : va_W} {H : Heap} (h : va_P D cl (w1 ++ w2) H) : va_P D cl (w2 ++ w1) H := va_P.app h.right h.left
theorem gl_join {A0 : Nat → Prop} {D : va_G} {cl : List vw_C} {win wr w1 : va_W} {H H1 : Heap} (hP : va_P D cl (win ++ wr) H) (hD : va_D A0 (win ++ wr)) (hF : ∀ q, va_A win H.size q → A0 q) (hk : ∀ q : Nat, q < H.size → ¬ va_A win H.size q → H1[q]? = H[q]?) (hP1 : va_P D cl w1 H1) (hD1 : va_D (va_A win H.size) w1) : va_P D cl (w1 ++ wr) H1 ∧ va_D A0 (w1 ++ wr) := by
  have apart : ∀ (k : Nat) (q : Nat × va_E), wr[k]? = some q → q.1 < H.size ∧ ¬ va_A win H.size q.1 := fun k q hq => by
    have hl := (hP.right k q hq).lt
    refine ⟨hl, ?_⟩
    rintro (⟨i, e9, hi⟩ | h)
    · exact hD.apart i k _ _ hi hq rfl
    · omega
  exact ⟨va_P.app hP1 (fun k q hq => (hP.right k q hq).kept (hk q.1 (apart k q hq).1 (apart k q hq).2)), va_D.app (hD1.weaken (fun k q _ h => hF q.1 h)) hD.right (fun i j x y hx hy hxy => (apart j y hy).2 (by rw [← hxy]; exact hD1.2 i x hx))⟩
theorem gl_free {A0 : Nat → Prop} {win wr : va_W} {H0 H : Heap} {locs : List Loc} (hD : va_D A0 (win ++ wr)) (hS : va_S A0 H0 H locs) (hA : ∀ q, H0.size ≤ q → A0 q) : ∀ q, va_A win H.size q → A0 q := by
  rintro q (⟨k, e9, hk⟩ | h)
  · exact hD.left.2 k _ hk
  · exact hA q (Nat.le_trans hS.1 h)
section GL
variable {p : Program} {l : Launch} {e : Env} {R : Room} {s : State} {m : MethodId} {args : Array Value} {below : List Frame} {meth : Method} {c : Code} {H : Heap} {locs : List Loc} {cells slots : Nat} {Q : State → Prop} {cc : ByteArray} {pc : Nat} {ls : Array Slot} {rest : List Value} {D : va_G} {S : Type} {Φ : S → Prop} {wq : S → va_W} {A : Nat → Prop} {mc ms : Nat} {win wr : va_W} {st0 : List Value} {a9 : Array Value}
theorem gl_i {x : S → Int} (hr : va_Run p l e R s m args below meth c H locs cells slots mc ms (F0 m pc ls st0) rest (GQi D x Φ wq (va_A win H.size) a9) (va_A win H.size)) (hP : va_P D CL (win ++ wr) H) (hD : va_D A (win ++ wr)) (hS : va_S A s.heap H locs) (hA : ∀ q, s.heap.size ≤ q → A q)
    (kk : ∀ (u : S) (H1 : Heap) (locs1 : List Loc), Φ u → va_P D CL (wq u ++ wr) H1 → va_D A (wq u ++ wr) → va_S A s.heap H1 locs1 → W p l e R s m args below meth c H1 locs1 (cells + mc) (slots + ms) Q (F0 m (pc + 3) ls (.int (iI (x u)) :: rest))) : W p l e R s m args below meth c H locs cells slots Q (F0 m pc ls st0) :=
  va_calli hr hS (fun q _ h => gl_free hD hS hA q h) (gl_free hD hS hA) (fun r u t H1 locs1 ht _ hp hB hz hk hS1 => by
    obtain ⟨h1, h2⟩ := gl_join (w1 := wq u) hP hD (gl_free hD hS hA) hk (by rw [← ht]; exact hB.1) hB.2
    rw [hp.1]
    exact kk u H1 locs1 hp.2 h1 h2 hS1)
theorem gl_v (hr : va_Run p l e R s m args below meth c H locs cells slots mc ms (F0 m pc ls st0) rest (GQv D Φ wq (va_A win H.size) a9) (va_A win H.size)) (hP : va_P D CL (win ++ wr) H) (hD : va_D A (win ++ wr)) (hS : va_S A s.heap H locs) (hA : ∀ q, s.heap.size ≤ q → A q)
    (kk : ∀ (u : S) (H1 : Heap) (locs1 : List Loc), Φ u → va_P D CL (wq u ++ wr) H1 → va_D A (wq u ++ wr) → va_S A s.heap H1 locs1 → W p l e R s m args below meth c H1 locs1 (cells + mc) (slots + ms) Q (F0 m (pc + 3) ls rest)) : W p l e R s m args below meth c H locs cells slots Q (F0 m pc ls st0) :=
  va_callv hr hS (fun q _ h => gl_free hD hS hA q h) (gl_free hD hS hA) (fun u t H1 locs1 ht _ hp hB hz hk hS1 => by
    obtain ⟨h1, h2⟩ := gl_join (w1 := wq u) hP hD (gl_free hD hS hA) hk (by rw [← ht]; exact hB.1) hB.2
    exact kk u H1 locs1 hp h1 h2 hS1)
variable {a : Nat} {ad : Nat → Nat} {cx : Nat → ClassId} {F : Nat → Int} {g : Nat → Nat → Int} {own : String} {y : MethodName} {bytes : ByteArray} {maxL nL n index fr lo : Nat} {ret : Option FieldType} {As : List Value} {Ψ : Ms → Prop}
/-- a call of the reference -/
theorem ml_i {x : Int} (hM : MW l y (wo y bytes maxL ret) fr lo (.ref a :: As) D a ad cx F g (QMi D a ad cx x Ψ)) (hj : JV y bytes maxL ret n) (hl : Cond.methodLink own index y ∈ gw) (hse : Cond.selects "DayBookModel" y y ∈ gw) (F9 : p.tables.exec = Jvm.exec ∧ c.code = cc ∧ c.maxLocals = nL ∧ s.vm.findClass own = some m.cls ∧ (∀ w ∈ gw, w.before args s = true) ∧ NV s) (hK : va_K D CL (MTy cx) s) (hP : va_P D CL (MWs a ad cx F g ++ wr) H) (hD : va_D A (MWs a ad cx F g ++ wr)) (hS : va_S A s.heap H locs) (hn : As.length = n) (hsz : ls.size = nL) (hst : st0 = As.reverse ++ .ref a :: rest) (hR : fr + 1 ≤ R.frames ∧ 8 + (maxL + 11) + lo ≤ R.locals) (hw : (rest.map fun v => v.category).sum ≤ 8) (hdg : decode cc pc = .ok (.invokevirtual index, 3)) (hf : cells ≤ R.cells ∧ slots ≤ R.slots)
    (kk : ∀ (u : Ms) (H1 : Heap) (locs1 : List Loc), Ψ u → va_P D CL (MWs a ad cx u.1 u.2 ++ wr) H1 → va_D A (MWs a ad cx u.1 u.2 ++ wr) → va_S A s.heap H1 locs1 → W p l e R s m args below meth c H1 locs1 cells slots Q (F0 m (pc + 3) ls (.int (iI x) :: rest))) : W p l e R s m args below meth c H locs cells slots Q (F0 m pc ls st0) := by
  have hA9 : ∀ q, Ain a ad q → A q := MD.in hD.left
  refine va_calli (va_runV (As := As) (rest := rest) (Ts := gw) (C := "DayBookModel") ⟨F9.1, F9.2.1, F9.2.2.1, F9.2.2.2.1, F9.2.2.2.2.1⟩ hM ⟨callB_of n F9.2.2.2.2.1 (gw_in hj.1) rfl rfl rfl (F9.2.2.2.2.1 _ hj.2.1) (F9.2.2.2.2.1 _ hl) hj.2.2.2 hR, F9.2.2.2.2.1 _ hj.2.2.1, F9.2.2.2.2.1 _ hse⟩ (mw_pre F9.2.2.2.2.2 hK hP.left hD.left) rfl hn hsz hst (lv_room hw) hdg hf) hS (fun q _ h => hA9 q h) hA9 (fun r u t H1 locs1 ht _ hp hB _ hk hS1 => ?_)
  have hin : ∀ q, Ain a ad q → ∃ (i : Nat) (p9 : Nat × va_E), (MWs a ad cx F g)[i]? = some p9 ∧ p9.1 = q := by
    rintro q (rfl | ⟨k, hk9, rfl⟩)
    · exact ⟨0, _, rfl, rfl⟩
    · match k, hk9 with
      | 0, _ => exact ⟨1, _, rfl, rfl⟩
      | 1, _ => exact ⟨2, _, rfl, rfl⟩
      | 2, _ => exact ⟨3, _, rfl, rfl⟩
      | 3, _ => exact ⟨4, _, rfl, rfl⟩
      | 4, _ => exact ⟨5, _, rfl, rfl⟩
      | 5, _ => exact ⟨6, _, rfl, rfl⟩
      | 6, _ => exact ⟨7, _, rfl, rfl⟩
      | 7, _ => exact ⟨8, _, rfl, rfl⟩
      | 8, _ => exact ⟨9, _, rfl, rfl⟩
      | 9, _ => exact ⟨10, _, rfl, rfl⟩
      | k + 10, h9 => omega
  have hwr : va_P D CL wr H1 := fun k q hq => (hP.right k q hq).kept (hk q.1 (hP.right k q hq).lt (fun hA => by
    obtain ⟨i, p9, h1, h2⟩ := hin _ hA
    exact hD.apart i k p9 q h1 hq h2))
  have hD1 : va_D A (MWs a ad cx u.1 u.2 ++ wr) := va_D_addr (by simp) hD
  rw [hp.1]
  exact kk u H1 locs1 hp.2 (va_P.app (by rw [← ht]; exact hB) hwr) hD1 hS1
variable {sc L : Nat} {xs : Nat → Int32}
def sxI (xs : Nat → Int32) (j : Int) : Int := (xs (Int.toNat j)).toInt
theorem sxI_rng (xs : Nat → Int32) (j : Int) : -2147483648 ≤ sxI xs j ∧ sxI xs j ≤ 2147483647 := iI_rng _
theorem la_ld (hexec : p.tables.exec = Jvm.exec) (hb : c.code = cc) (hX : va_X sc L xs s s.heap) (hbl : sc < s.heap.size) (hbA : ¬ A sc) (hS : va_S A s.heap H locs) {x : Int} (h0 : 0 ≤ x ∧ x < L) (hL : L ≤ 4096) (hdg : decode cc pc = .ok (.iaload, 1)) (kk : W p l e R s m args below meth c H locs cells slots Q (F0 m (pc + 1) ls (.int (iI (sxI xs x)) :: rest))) : W p l e R s m args below meth c H locs cells slots Q (F0 m pc ls (.int (iI x) :: .ref sc :: rest)) := by
  refine va_sld hexec hb hX hbl hbA hS (iI_in h0.1 h0.2 (by omega)) hdg ?_
  rw [iI_clT h0.1 (by omega)]
  unfold sxI at kk
  rw [iI_of] at kk
  exact kk
theorem la_len (hexec : p.tables.exec = Jvm.exec) (hb : c.code = cc) (hX : va_X sc L xs s s.heap) (hbl : sc < s.heap.size) (hbA : ¬ A sc) (hS : va_S A s.heap H locs) (hdg : decode cc pc = .ok (.arraylength, 1)) (kk : W p l e R s m args below meth c H locs cells slots Q (F0 m (pc + 1) ls (.int (iI (L : Int)) :: rest))) : W p l e R s m args below meth c H locs cells slots Q (F0 m pc ls (.ref sc :: rest)) := by
  refine va_slen hexec hb hX hbl hbA hS hdg ?_
  rw [iI_nI] at kk
  exact kk
end GL
theorem TSt.at {A : Nat → Prop} {s : State} {H : Heap} {locs : List Loc} (h : TSt s) (hS : va_S A s.heap H locs) (hA : ∀ q, A q → s.heap.size ≤ q) (U : State) (h1 : U.heap = H) (h2 : s.WarmedH U.vm) : TSt U := by
  have hq : ∀ q : Nat, q < s.heap.size → H[q]? = s.heap[q]? := fun q hq => hS.2.1 q hq (fun z => absurd (hA q z) (by omega))
  refine ⟨?_, ?_⟩
  · rw [h1]; exact tZ.moved h2.alike (tZ.kept h.1 hq)
  · rw [h1]; exact tZ.moved h2.alike (tZ.kept h.2 hq)
/-- what holds of a calendar as long as the cells CW stand -/
def CK (D : va_G) (cA cB : ClassId) (cx : Nat → ClassId) (sr : Nat → Nat) (CW : va_W) (B : State → Prop) : Prop := ∀ U : State, va_K D CL [(cA, .object "DayBook$Calendar"), (cB, .byte), (cx 0, .int), (cx 1, .long), (cx 2, .boolean), (cx 3, .char)] U → va_P D CL CW U.heap → DSA sr (fun _ => False) U → B U
theorem CK.more {D : va_G} {cA cB : ClassId} {cx : Nat → ClassId} {sr : Nat → Nat} {CW X : va_W} {B : State → Prop} (h : CK D cA cB cx sr CW B) : CK D cA cB cx sr (CW ++ X) B := fun U h1 h2 h3 => h U h1 h2.left h3
def SOwn (g g' : Nat → Nat → Int) (i : Nat) : Prop := 12 ≤ i → ∀ r : Nat, 3 ≤ r → r ≤ 8 → g' r (i - 12) = g r (i - 12)
/-- the class's calendar at the place i: dates, days and leap years are the reference's -/
def CA1 (D : va_G) (cA cB : ClassId) (cx : Nat → ClassId) (sr : Nat → Nat) (CW : va_W) (g : Nat → Nat → Int) (q i : Nat) : Prop :=
  ∃ (DT : Int → Int → Prop) (DR : Int → Int → Int → Int → Prop) (hy : Int → Prop) (YB : Int), (100000 ≤ YB ∧ YB ≤ 60000000) ∧ (∀ g', SOwn g g' i → CalOK g' i DT DR YB) ∧ CK D cA cB cx sr CW (CAL D q DT DR hy) ∧ (∀ y, hy y ↔ ¬ (((i : Int) = 1 ∨ (i : Int) = 6) ∧ y = 0)) ∧
    (¬ ((i : Int) = 2 ∨ (i : Int) = 10 ∨ (i : Int) = 11) → ∃ lp : Int → Prop, CK D cA cB cx sr CW (LPC D q lp) ∧ ∀ g', SOwn g g' i → ∀ y, hy y → (lp y ↔ lpM g' i (ctd i y)))
theorem CA1.move {D : va_G} {cA cB : ClassId} {cx : Nat → ClassId} {sr : Nat → Nat} {CW X : va_W} {g g' : Nat → Nat → Int} {q i : Nat} (h : CA1 D cA cB cx sr CW g q i) (hs : SOwn g g' i) : CA1 D cA cB cx sr (CW ++ X) g' q i := by
  obtain ⟨DT, DR, hy, YB, h1, h2, h3, h4, h5⟩ := h
  have tr : ∀ g2, SOwn g' g2 i → SOwn g g2 i := fun g2 k h9 r a b => (k h9 r a b).trans (hs h9 r a b)
  refine ⟨DT, DR, hy, YB, h1, fun g2 k => h2 g2 (tr g2 k), h3.more, h4, fun k => ?_⟩
  obtain ⟨lp, l1, l2⟩ := h5 k
  exact ⟨lp, l1.more, fun g2 k => l2 g2 (tr g2 k)⟩
/-- a calendar of months in a field of the class (civil, julian) -/
def CF (D : va_G) (cA cB : ClassId) (cx : Nat → ClassId) (sr : Nat → Nat) (CW : va_W) (q : Nat) (i : Int) : Prop :=
  ∃ (S nm : Int → Int) (ma la : Int → Int → Int) (co ya : Int → Int) (hy : Int → Prop), CK D cA cB cx sr CW (MCP D q S nm ma la co ya hy) ∧ Cok S nm ma la co ya ∧ ∀ g, YM g i S nm ma la co ya hy
def CALS (D : va_G) (cA cB : ClassId) (cx : Nat → ClassId) (sr : Nat → Nat) (CW : va_W) (g : Nat → Nat → Int) (ca : Nat → Option Nat) (cvA jlA hbA : Nat) : Prop :=
  (∀ i : Nat, i < 14 → (ca i = none ∧ ¬ hcM g i) ∨ ∃ q, ca i = some q ∧ hcM g i ∧ CA1 D cA cB cx sr CW g q i) ∧ CF D cA cB cx sr CW cvA 0 ∧ CF D cA cB cx sr CW jlA 1 ∧ CK D cA cB cx sr CW (OB D [(hbA, .inr (3, []))])
theorem CALS.move {D : va_G} {cA cB : ClassId} {cx : Nat → ClassId} {sr : Nat → Nat} {CW X : va_W} {g g' : Nat → Nat → Int} {ca : Nat → Option Nat} {cvA jlA hbA : Nat} (h : CALS D cA cB cx sr CW g ca cvA jlA hbA) (hs : ∀ i, SOwn g g' i) (h2 : g' 2 = g 2) : CALS D cA cB cx sr (CW ++ X) g' ca cvA jlA hbA := by
  obtain ⟨a1, a2, a3, a4⟩ := h
  have hc : ∀ i, hcM g' i ↔ hcM g i := fun i => by unfold hcM; rw [h2]
  have cf : ∀ {q i}, CF D cA cB cx sr CW q i → CF D cA cB cx sr (CW ++ X) q i := fun h => by
    obtain ⟨S, nm, ma, la, co, ya, hy, k1, k2⟩ := h
    exact ⟨S, nm, ma, la, co, ya, hy, k1.more, k2⟩
  refine ⟨fun i hi => ?_, cf a2, cf a3, a4.more⟩
  rcases a1 i hi with ⟨k1, k2⟩ | ⟨q, k1, k2, k3⟩
  · exact Or.inl ⟨k1, fun z => k2 ((hc _).mp z)⟩
  · exact Or.inr ⟨q, k1, (hc _).mpr k2, k3.move (hs i)⟩
theorem CALS.keep {D : va_G} {cA cB : ClassId} {cx : Nat → ClassId} {sr : Nat → Nat} {CW : va_W} {g g' : Nat → Nat → Int} {ca : Nat → Option Nat} {cvA jlA hbA : Nat} (h : CALS D cA cB cx sr CW g ca cvA jlA hbA) (hk : KeepG g g') : CALS D cA cB cx sr CW g' ca cvA jlA hbA := by
  have := h.move (X := []) (g' := g') (fun i _ r h1 h2 => by rw [hk r (by omega)]) (hk 2 (by decide))
  rw [List.append_nil] at this
  exact this

