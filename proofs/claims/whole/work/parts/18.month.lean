/-! 18.month: laid by program (wip/whole) -/
def RuleAt (D : va_G) (q : Nat) (P : Int → Prop) (L : Int → Int) (U : State) : Prop :=
  (∃ a b c0 : Int, (0 ≤ a ∧ a ≤ c0 ∧ c0 ≤ 1000 ∧ 0 < c0 ∧ 0 ≤ b ∧ b ≤ 1000 ∧ P = ylS a b c0 ∧ L = lbS a b c0) ∧ OB D [(q, .inr (7, [.long (iL a), .long (iL b), .long (iL c0)]))] U) ∨
  ((∃ (k : Int) (dr : Prop), (0 ≤ k ∧ k ≤ 10000 ∧ P = ylD k dr ∧ L = lbD k dr) ∧ OB D [(q, .inr (1, [.long (iL k), .int (iI (bI dr))]))] U) ∨
   ((P = yl6 ∧ L = lb6) ∧ OB D [(q, .inr (2, []))] U))
theorem RuleAt.m {D : va_G} {q : Nat} {P : Int → Prop} {L : Int → Int} : Bm (RuleAt D q P L) :=
  Bm.or (Bm.ex fun _ => Bm.ex fun _ => Bm.ex fun _ => Bm.and Bm.c OB.m) (Bm.or (Bm.ex fun _ => Bm.ex fun _ => Bm.and Bm.c OB.m) (Bm.and Bm.c OB.m))
theorem lbD_step (k : Int) (dr : Prop) (y : Int) : lbD k dr (y + 1) = lbD k dr y + bI (ylD k dr y) := by
  unfold lbD
  have h := lb0_step (y + k)
  rw [show y + 1 + k = y + k + 1 by omega, h]
  by_cases hd : dr
  · rw [bI_t hd]
    by_cases h2 : (y + k) % 4000 = 0
    · have h3 : yl0 (y + k) := by unfold yl0; omega
      rw [bI_t h3, bI_f (P := ylD k dr y) (fun q => q.2 ⟨hd, h2⟩)]
      omega
    · by_cases h3 : yl0 (y + k)
      · rw [bI_t h3, bI_t (P := ylD k dr y) ⟨h3, fun q => h2 q.2⟩]
        omega
      · rw [bI_f h3, bI_f (P := ylD k dr y) (fun q => h3 q.1)]
        omega
  · rw [bI_f hd, bI_iff (Q := ylD k dr y) ⟨fun h => ⟨h, fun q => hd q.1⟩, fun h => h.1⟩]
    omega
theorem RuleAt.step {D : va_G} {q : Nat} {P : Int → Prop} {L : Int → Int} {U : State} (h : RuleAt D q P L U) (y : Int) : L (y + 1) = L y + bI (P y) := by
  rcases h with ⟨a, b, c0, ⟨h1, h2, h3, h4, h5, h6, rfl, rfl⟩, -⟩ | ⟨k, dr, ⟨h1, h2, rfl, rfl⟩, -⟩ | ⟨⟨rfl, rfl⟩, -⟩
  · exact lbS_step h1 h2 h4 y
  · exact lbD_step k dr y
  · exact lb6_step y
theorem RuleAt.rng {D : va_G} {q : Nat} {P : Int → Prop} {L : Int → Int} {U : State} (h : RuleAt D q P L U) {y : Int} (hy : -1000000000 ≤ y ∧ y ≤ 1000000000) : -2000000000000 ≤ L y ∧ L y ≤ 2000000000000 := by
  rcases h with ⟨a, b, c0, ⟨h1, h2, h3, h4, h5, h6, rfl, rfl⟩, -⟩ | ⟨k, dr, ⟨h1, h2, rfl, rfl⟩, -⟩ | ⟨⟨rfl, rfl⟩, -⟩
  · unfold lbS
    have n := mul_rng (a := a) (y := y - 1) (by omega) (by omega)
    exact dv_rng h4 (by omega) (by omega) (by omega) (by omega)
  · unfold lbD lb0
    have n := bI_01 dr
    by_cases hd : dr
    · rw [bI_t hd]; omega
    · rw [bI_f hd]; omega
  · unfold lb6; omega
noncomputable def coM (H0 : Prop) (y : Int) : Int := y + bI (¬ H0 ∧ y ≤ 0)
noncomputable def yaM (H0 : Prop) (y : Int) : Int := y - bI (¬ H0 ∧ y ≤ 0)
noncomputable def laM (lp pd : Int) (fl : Nat → Int) (p d : Int) : Int := fl p.toNat + bI (p = lp ∧ pd < d)
def MonB (D : va_G) (a nu le ru : Nat) (lp ep pd : Int) (H0 : Prop) (P : Int → Prop) (L : Int → Int) (fn fl : Nat → Int) (n : Nat) (U : State) : Prop :=
  OB D [(a, .inr (5, [.ref nu, .ref le, .int (iI lp), .long (iL ep), .int (iI (bI H0)), .ref ru, .int (iI pd)]))] U ∧ RuleAt D ru P L U ∧ tA nu 20 fn U ∧ tA le n fl U
theorem MonB.m {D : va_G} {a nu le ru : Nat} {lp ep pd : Int} {H0 : Prop} {P : Int → Prop} {L : Int → Int} {fn fl : Nat → Int} {n : Nat} : Bm (MonB D a nu le ru lp ep pd H0 P L fn fl n) :=
  Bm.and OB.m (Bm.and RuleAt.m (Bm.and tA.m tA.m))
theorem cs_LB {p : Program} {l : Launch} {e : Env} {R : Room} {s : State} {m : MethodId} {args : Array Value} {below : List Frame} {meth : Method} {c : Code} {cells slots : Nat} {Q : State → Prop} {cc : ByteArray} {pc : Nat} {ls : Array Slot} {rest : List Value} {nL : Nat} {D : va_G} {q : Nat} {P : Int → Prop} {L : Int → Int} {y : Int} (hR : RuleAt D q P L s) (ry : -1000000000 ≤ y ∧ y ≤ 1000000000) (F : p.tables.exec = Jvm.exec ∧ c.code = cc ∧ c.maxLocals = nL ∧ s.vm.findClass "DayBook$MonthCalendar" = some m.cls ∧ (∀ w ∈ gw, w.before args s = true) ∧ NV s) (hsz : ls.size = nL) (hRm : 2 ≤ R.frames ∧ 51 ≤ R.locals) (hw : (rest.map fun v => v.category).sum ≤ 8) (hdg : decode cc pc = .ok (.invokevirtual 45, 3)) (hf : cells ≤ R.cells ∧ slots ≤ R.slots)
    (kk : W p l e R s m args below meth c s.heap [] cells slots Q (F0 m (pc + 3) ls (.long (iL (L y)) :: rest))) : W p l e R s m args below meth c s.heap [] cells slots Q (F0 m pc ls (.long (iL y) :: .ref q :: rest)) := by
  rcases hR with ⟨a, b, c0, ⟨h1, h2, h3, h4, h5, h6, rfl, rfl⟩, hO⟩ | ⟨k, dr, ⟨h1, h2, rfl, rfl⟩, hO⟩ | ⟨⟨rfl, rfl⟩, hO⟩
  · exact ro_U (rest := rest) (ct_SR_leapsBefore l D q a b c0 y (by omega) (by omega) (by omega) (by omega)) j_SR_leapsBefore k_558 k_560 (F.2.2.2.2.1 _ k_580) (va_Decl.abs (F.2.2.2.2.2.get 559 (by decide +kernel) (by decide +kernel))) ⟨by decide +kernel, by decide +kernel, by decide +kernel⟩ F (hO.recv 0 rfl rfl) rfl hsz rfl ⟨by omega, by omega⟩ hw hdg hf OB.m (fun U h1 h2 => OB.m.2 s U h1 h2 hO) kk
  · exact ro_U (rest := rest) (ct_CR_leapsBefore l D q k dr y (by omega) (by omega)) j_CR_leapsBefore k_558 k_560 (F.2.2.2.2.1 _ k_561) (va_Decl.abs (F.2.2.2.2.2.get 559 (by decide +kernel) (by decide +kernel))) ⟨by decide +kernel, by decide +kernel, by decide +kernel⟩ F (hO.recv 0 rfl rfl) rfl hsz rfl ⟨by omega, by omega⟩ hw hdg hf OB.m (fun U h1 h2 => OB.m.2 s U h1 h2 hO) kk
  · exact ro_U (rest := rest) (ct_YR_leapsBefore l D q y (by omega)) j_YR_leapsBefore k_558 k_560 (F.2.2.2.2.1 _ k_569) (va_Decl.abs (F.2.2.2.2.2.get 559 (by decide +kernel) (by decide +kernel))) ⟨by decide +kernel, by decide +kernel, by decide +kernel⟩ F (hO.recv 0 rfl rfl) rfl hsz rfl ⟨by omega, by omega⟩ hw hdg hf OB.m (fun U h1 h2 => OB.m.2 s U h1 h2 hO) kk
theorem cs_LC {p : Program} {l : Launch} {e : Env} {R : Room} {s : State} {m : MethodId} {args : Array Value} {below : List Frame} {meth : Method} {c : Code} {cells slots : Nat} {Q : State → Prop} {cc : ByteArray} {pc : Nat} {ls : Array Slot} {rest : List Value} {nL : Nat} {D : va_G} {q : Nat} {P : Int → Prop} {L : Int → Int} {y : Int} (hR : RuleAt D q P L s) (ry : -1000000000 ≤ y ∧ y ≤ 1000000000) (F : p.tables.exec = Jvm.exec ∧ c.code = cc ∧ c.maxLocals = nL ∧ s.vm.findClass "DayBook$MonthCalendar" = some m.cls ∧ (∀ w ∈ gw, w.before args s = true) ∧ NV s) (hsz : ls.size = nL) (hRm : 2 ≤ R.frames ∧ 49 ≤ R.locals) (hw : (rest.map fun v => v.category).sum ≤ 8) (hdg : decode cc pc = .ok (.invokevirtual 39, 3)) (hf : cells ≤ R.cells ∧ slots ≤ R.slots)
    (kk : W p l e R s m args below meth c s.heap [] cells slots Q (F0 m (pc + 3) ls (.int (iI (bI (P y))) :: rest))) : W p l e R s m args below meth c s.heap [] cells slots Q (F0 m pc ls (.long (iL y) :: .ref q :: rest)) := by
  rcases hR with ⟨a, b, c0, ⟨h1, h2, h3, h4, h5, h6, rfl, rfl⟩, hO⟩ | ⟨k, dr, ⟨h1, h2, rfl, rfl⟩, hO⟩ | ⟨⟨rfl, rfl⟩, hO⟩
  · exact ro_U (rest := rest) (ct_SR_isLeapCount l D q a b c0 y (by omega) (by omega) (by omega) (by omega)) j_SR_isLeapCount k_779 k_781 (F.2.2.2.2.1 _ k_790) (va_Decl.abs (F.2.2.2.2.2.get 780 (by decide +kernel) (by decide +kernel))) ⟨by decide +kernel, by decide +kernel, by decide +kernel⟩ F (hO.recv 0 rfl rfl) rfl hsz rfl ⟨by omega, by omega⟩ hw hdg hf OB.m (fun U h1 h2 => OB.m.2 s U h1 h2 hO) kk
  · exact ro_U (rest := rest) (ct_CR_isLeapCount l D q k dr y (by omega) (by omega)) j_CR_isLeapCount k_779 k_781 (F.2.2.2.2.1 _ k_782) (va_Decl.abs (F.2.2.2.2.2.get 780 (by decide +kernel) (by decide +kernel))) ⟨by decide +kernel, by decide +kernel, by decide +kernel⟩ F (hO.recv 0 rfl rfl) rfl hsz rfl ⟨by omega, by omega⟩ hw hdg hf OB.m (fun U h1 h2 => OB.m.2 s U h1 h2 hO) kk
  · exact ro_U (rest := rest) (ct_YR_isLeapCount l D q y (by omega)) j_YR_isLeapCount k_779 k_781 (F.2.2.2.2.1 _ k_786) (va_Decl.abs (F.2.2.2.2.2.get 780 (by decide +kernel) (by decide +kernel))) ⟨by decide +kernel, by decide +kernel, by decide +kernel⟩ F (hO.recv 0 rfl rfl) rfl hsz rfl ⟨by omega, by omega⟩ hw hdg hf OB.m (fun U h1 h2 => OB.m.2 s U h1 h2 hO) kk
set_option maxHeartbeats 4000000 in
set_option maxRecDepth 100000 in
theorem ct_MC_countOf (l : Launch) (D : va_G) (a : Nat) (nu : Nat) (le : Nat) (ru : Nat) (lp : Int) (ep : Int) (pd : Int) (H0 : Prop) (P : Int → Prop) (L : Int → Int) (fn : Nat → Int) (fl : Nat → Int) (n : Nat) (y : Int) (ry : -900000000 ≤ y ∧ y ≤ 900000000) : RO l y_MC_countOf w_MC_countOf 0 0 [.ref a, .long (iL y)] (MonB D a nu le ru lp ep pd H0 P L fn fl n) (.long (iL (coM H0 y))) := by
  refine ro_of (by decide +kernel) (Nat.le_of_ble_eq_true rfl) ?_
  intro p e s m below meth c ls hx hb hr hts hown hlk hml hl hN hB
  have hown : s.vm.findClass "DayBook$MonthCalendar" = some m.cls := hown
  have hl : lv_has ls 3 [(0, .ref a), (1, .long (iL y))] := hl
  have hF : _ ∧ _ ∧ _ ∧ _ ∧ _ ∧ _ := ⟨hx, hb, hml, hown, hts, hN⟩
  have hK := hB.1.1
  have hP := hB.1.2
  refine lv_aload_n hx hb d_MC_countOf_0 rfl (lv_at hl 0 rfl) ?_
  refine va_get (D := D) (cl := CL) (ci := 5) (v := .int (iI (bI H0))) (C := "DayBook$MonthCalendar") (T := T_MC) (N := 7) hx hb hts in_MC hown hK hP 0 rfl rfl 4 (by decide) (hts _ k_76) (fun _ h9 => h9) rfl d_MC_countOf_1 ?_
  refine ai_ifneB hx hb d_MC_countOf_4 rfl (fun h4 => ?_) (fun h4 => ?_)
  · skip
    refine lv_lload_n hx hb d_MC_countOf_13 rfl (lv_at hl 1 rfl) ?_
    refine lv_goto hx hb d_MC_countOf_14 rfl ?_
    exact ro_lret hx hb hr hlk d_MC_countOf_20 (by unfold coM; rw [bI_f (by intro ⟨q1, q2⟩; first | exact q1 h4 | omega)]; omega)
  · skip
    refine lv_lload_n hx hb d_MC_countOf_7 rfl (lv_at hl 1 rfl) ?_
    refine ai_lconst (x := 0) hx hb d_MC_countOf_8 (by decide +kernel) ?_
    refine ai_lcmp_le hx hb d_MC_countOf_9 d_MC_countOf_10 rfl (by omega) (by omega) (fun h9 => ?_) (fun h9 => ?_)
    · skip
      refine lv_lload_n hx hb d_MC_countOf_17 rfl (lv_at hl 1 rfl) ?_
      refine ai_lconst (x := 1) hx hb d_MC_countOf_18 (by decide +kernel) ?_
      refine ai_ladd hx hb d_MC_countOf_19 ?_
      exact ro_lret hx hb hr hlk d_MC_countOf_20 (by unfold coM; rw [bI_t ⟨h4, by omega⟩])
    · skip
      refine lv_lload_n hx hb d_MC_countOf_13 rfl (lv_at hl 1 rfl) ?_
      refine lv_goto hx hb d_MC_countOf_14 rfl ?_
      exact ro_lret hx hb hr hlk d_MC_countOf_20 (by unfold coM; rw [bI_f (by intro ⟨q1, q2⟩; first | exact q1 h4 | omega)]; omega)
set_option maxHeartbeats 4000000 in
set_option maxRecDepth 100000 in
theorem ct_MC_yearAt (l : Launch) (D : va_G) (a : Nat) (nu : Nat) (le : Nat) (ru : Nat) (lp : Int) (ep : Int) (pd : Int) (H0 : Prop) (P : Int → Prop) (L : Int → Int) (fn : Nat → Int) (fl : Nat → Int) (n : Nat) (y : Int) (ry : -900000000 ≤ y ∧ y ≤ 900000000) : RO l y_MC_yearAt w_MC_yearAt 0 0 [.ref a, .long (iL y)] (MonB D a nu le ru lp ep pd H0 P L fn fl n) (.long (iL (yaM H0 y))) := by
  refine ro_of (by decide +kernel) (Nat.le_of_ble_eq_true rfl) ?_
  intro p e s m below meth c ls hx hb hr hts hown hlk hml hl hN hB
  have hown : s.vm.findClass "DayBook$MonthCalendar" = some m.cls := hown
  have hl : lv_has ls 3 [(0, .ref a), (1, .long (iL y))] := hl
  have hF : _ ∧ _ ∧ _ ∧ _ ∧ _ ∧ _ := ⟨hx, hb, hml, hown, hts, hN⟩
  have hK := hB.1.1
  have hP := hB.1.2
  refine lv_aload_n hx hb d_MC_yearAt_0 rfl (lv_at hl 0 rfl) ?_
  refine va_get (D := D) (cl := CL) (ci := 5) (v := .int (iI (bI H0))) (C := "DayBook$MonthCalendar") (T := T_MC) (N := 7) hx hb hts in_MC hown hK hP 0 rfl rfl 4 (by decide) (hts _ k_76) (fun _ h9 => h9) rfl d_MC_yearAt_1 ?_
  refine ai_ifneB hx hb d_MC_yearAt_4 rfl (fun h4 => ?_) (fun h4 => ?_)
  · skip
    refine lv_lload_n hx hb d_MC_yearAt_13 rfl (lv_at hl 1 rfl) ?_
    refine lv_goto hx hb d_MC_yearAt_14 rfl ?_
    exact ro_lret hx hb hr hlk d_MC_yearAt_20 (by unfold yaM; rw [bI_f (by intro ⟨q1, q2⟩; first | exact q1 h4 | omega)]; omega)
  · skip
    refine lv_lload_n hx hb d_MC_yearAt_7 rfl (lv_at hl 1 rfl) ?_
    refine ai_lconst (x := 0) hx hb d_MC_yearAt_8 (by decide +kernel) ?_
    refine ai_lcmp_le hx hb d_MC_yearAt_9 d_MC_yearAt_10 rfl (by omega) (by omega) (fun h9 => ?_) (fun h9 => ?_)
    · skip
      refine lv_lload_n hx hb d_MC_yearAt_17 rfl (lv_at hl 1 rfl) ?_
      refine ai_lconst (x := 1) hx hb d_MC_yearAt_18 (by decide +kernel) ?_
      refine ai_lsub hx hb d_MC_yearAt_19 ?_
      exact ro_lret hx hb hr hlk d_MC_yearAt_20 (by unfold yaM; rw [bI_t ⟨h4, by omega⟩])
    · skip
      refine lv_lload_n hx hb d_MC_yearAt_13 rfl (lv_at hl 1 rfl) ?_
      refine lv_goto hx hb d_MC_yearAt_14 rfl ?_
      exact ro_lret hx hb hr hlk d_MC_yearAt_20 (by unfold yaM; rw [bI_f (by intro ⟨q1, q2⟩; first | exact q1 h4 | omega)]; omega)
set_option maxHeartbeats 4000000 in
set_option maxRecDepth 100000 in
theorem ct_MC_hasYear (l : Launch) (D : va_G) (a : Nat) (nu : Nat) (le : Nat) (ru : Nat) (lp : Int) (ep : Int) (pd : Int) (H0 : Prop) (P : Int → Prop) (L : Int → Int) (fn : Nat → Int) (fl : Nat → Int) (n : Nat) (y : Int) (ry : -9223372036854775808 ≤ y ∧ y ≤ 9223372036854775807) : RO l y_MC_hasYear w_MC_hasYear 0 0 [.ref a, .long (iL y)] (MonB D a nu le ru lp ep pd H0 P L fn fl n) (.int (iI (bI (H0 ∨ y ≠ 0)))) := by
  refine ro_of (by decide +kernel) (Nat.le_of_ble_eq_true rfl) ?_
  intro p e s m below meth c ls hx hb hr hts hown hlk hml hl hN hB
  have hown : s.vm.findClass "DayBook$MonthCalendar" = some m.cls := hown
  have hl : lv_has ls 3 [(0, .ref a), (1, .long (iL y))] := hl
  have hF : _ ∧ _ ∧ _ ∧ _ ∧ _ ∧ _ := ⟨hx, hb, hml, hown, hts, hN⟩
  have hK := hB.1.1
  have hP := hB.1.2
  refine lv_aload_n hx hb d_MC_hasYear_0 rfl (lv_at hl 0 rfl) ?_
  refine va_get (D := D) (cl := CL) (ci := 5) (v := .int (iI (bI H0))) (C := "DayBook$MonthCalendar") (T := T_MC) (N := 7) hx hb hts in_MC hown hK hP 0 rfl rfl 4 (by decide) (hts _ k_76) (fun _ h9 => h9) rfl d_MC_hasYear_1 ?_
  refine ai_ifneB hx hb d_MC_hasYear_4 rfl (fun h4 => ?_) (fun h4 => ?_)
  · skip
    refine ai_iconst hx hb d_MC_hasYear_13 ?_
    refine lv_goto hx hb d_MC_hasYear_14 rfl ?_
    exact ro_zret hx hb hr hlk d_MC_hasYear_18 (ro_1 (by first | exact Or.inl h4 | exact Or.inr h9) rfl)
  · skip
    refine lv_lload_n hx hb d_MC_hasYear_7 rfl (lv_at hl 1 rfl) ?_
    refine ai_lconst (x := 0) hx hb d_MC_hasYear_8 (by decide +kernel) ?_
    refine ai_lcmp_eq hx hb d_MC_hasYear_9 d_MC_hasYear_10 rfl (by omega) (by omega) (fun h9 => ?_) (fun h9 => ?_)
    · skip
      refine ai_iconst hx hb d_MC_hasYear_17 ?_
      exact ro_zret hx hb hr hlk d_MC_hasYear_18 (ro_0 (fun q => q.elim h4 (fun q => q h9)) rfl)
    · skip
      refine ai_iconst hx hb d_MC_hasYear_13 ?_
      refine lv_goto hx hb d_MC_hasYear_14 rfl ?_
      exact ro_zret hx hb hr hlk d_MC_hasYear_18 (ro_1 (by first | exact Or.inl h4 | exact Or.inr h9) rfl)
set_option maxHeartbeats 4000000 in
set_option maxRecDepth 100000 in
theorem ct_MC_yearStart (l : Launch) (D : va_G) (a : Nat) (nu : Nat) (le : Nat) (ru : Nat) (lp : Int) (ep : Int) (pd : Int) (H0 : Prop) (P : Int → Prop) (L : Int → Int) (fn : Nat → Int) (fl : Nat → Int) (n : Nat) (y : Int) (ry : -900000000 ≤ y ∧ y ≤ 900000000) (hpd : 0 ≤ pd ∧ pd ≤ 1000) : RO l y_MC_yearStart w_MC_yearStart 2 51 [.ref a, .long (iL y)] (MonB D a nu le ru lp ep pd H0 P L fn fl n) (.long (iL (ys ep pd L y))) := by
  refine ro_of (by decide +kernel) (Nat.le_of_ble_eq_true rfl) ?_
  intro p e s m below meth c ls hx hb hr hts hown hlk hml hl hN hB
  have hown : s.vm.findClass "DayBook$MonthCalendar" = some m.cls := hown
  have hl : lv_has ls 3 [(0, .ref a), (1, .long (iL y))] := hl
  have hF : _ ∧ _ ∧ _ ∧ _ ∧ _ ∧ _ := ⟨hx, hb, hml, hown, hts, hN⟩
  have hK := hB.1.1
  have hP := hB.1.2
  refine lv_aload_n hx hb d_MC_yearStart_0 rfl (lv_at hl 0 rfl) ?_
  refine va_get (D := D) (cl := CL) (ci := 5) (v := .long (iL ep)) (C := "DayBook$MonthCalendar") (T := T_MC) (N := 7) hx hb hts in_MC hown hK hP 0 rfl rfl 3 (by decide) (hts _ k_75) (fun _ h9 => h9) rfl d_MC_yearStart_1 ?_
  refine lv_aload_n hx hb d_MC_yearStart_4 rfl (lv_at hl 0 rfl) ?_
  refine va_get (D := D) (cl := CL) (ci := 5) (v := .int (iI pd)) (C := "DayBook$MonthCalendar") (T := T_MC) (N := 7) hx hb hts in_MC hown hK hP 0 rfl rfl 6 (by decide) (hts _ k_78) (fun _ h9 => h9) rfl d_MC_yearStart_5 ?_
  refine ai_i2l hx hb d_MC_yearStart_8 (by omega) ?_
  refine lv_lload_n hx hb d_MC_yearStart_9 rfl (lv_at hl 1 rfl) ?_
  refine ai_lconst (x := 1) hx hb d_MC_yearStart_10 (by decide +kernel) ?_
  refine ai_lsub hx hb d_MC_yearStart_11 ?_
  refine ai_lmul hx hb d_MC_yearStart_12 ?_
  refine ai_ladd hx hb d_MC_yearStart_13 ?_
  refine lv_aload_n hx hb d_MC_yearStart_14 rfl (lv_at hl 0 rfl) ?_
  refine va_get (D := D) (cl := CL) (ci := 5) (v := .ref ru) (C := "DayBook$MonthCalendar") (T := T_MC) (N := 7) hx hb hts in_MC hown hK hP 0 rfl rfl 5 (by decide) (hts _ k_77) (fun _ h9 => h9) rfl d_MC_yearStart_15 ?_
  refine lv_lload_n hx hb d_MC_yearStart_18 rfl (lv_at hl 1 rfl) ?_
  refine cs_LB hB.2.1 (by omega) hF hl.1 ⟨Nat.le_of_ble_eq_true rfl, Nat.le_of_ble_eq_true rfl⟩ (Nat.le_of_ble_eq_true rfl) d_MC_yearStart_19 ⟨Nat.zero_le _, Nat.zero_le _⟩ ?_
  refine ai_ladd hx hb d_MC_yearStart_22 ?_
  refine lv_aload_n hx hb d_MC_yearStart_23 rfl (lv_at hl 0 rfl) ?_
  refine va_get (D := D) (cl := CL) (ci := 5) (v := .ref ru) (C := "DayBook$MonthCalendar") (T := T_MC) (N := 7) hx hb hts in_MC hown hK hP 0 rfl rfl 5 (by decide) (hts _ k_77) (fun _ h9 => h9) rfl d_MC_yearStart_24 ?_
  refine ai_lconst (x := 1) hx hb d_MC_yearStart_27 (by decide +kernel) ?_
  refine cs_LB hB.2.1 (by omega) hF hl.1 ⟨Nat.le_of_ble_eq_true rfl, Nat.le_of_ble_eq_true rfl⟩ (Nat.le_of_ble_eq_true rfl) d_MC_yearStart_28 ⟨Nat.zero_le _, Nat.zero_le _⟩ ?_
  refine ai_lsub hx hb d_MC_yearStart_31 ?_
  exact ro_lret hx hb hr hlk d_MC_yearStart_32 rfl
set_option maxHeartbeats 4000000 in
set_option maxRecDepth 100000 in
theorem ct_MC_isLeap (l : Launch) (D : va_G) (a : Nat) (nu : Nat) (le : Nat) (ru : Nat) (lp : Int) (ep : Int) (pd : Int) (H0 : Prop) (P : Int → Prop) (L : Int → Int) (fn : Nat → Int) (fl : Nat → Int) (n : Nat) (y : Int) (ry : -800000000 ≤ y ∧ y ≤ 800000000) : RO l y_MC_isLeap w_MC_isLeap 2 49 [.ref a, .long (iL y)] (MonB D a nu le ru lp ep pd H0 P L fn fl n) (.int (iI (bI (P (coM H0 y))))) := by
  refine ro_of (by decide +kernel) (Nat.le_of_ble_eq_true rfl) ?_
  intro p e s m below meth c ls hx hb hr hts hown hlk hml hl hN hB
  have hown : s.vm.findClass "DayBook$MonthCalendar" = some m.cls := hown
  have hl : lv_has ls 3 [(0, .ref a), (1, .long (iL y))] := hl
  have hF : _ ∧ _ ∧ _ ∧ _ ∧ _ ∧ _ := ⟨hx, hb, hml, hown, hts, hN⟩
  have hK := hB.1.1
  have hP := hB.1.2
  have hco : -800000000 ≤ coM H0 y ∧ coM H0 y ≤ 800000001 := by unfold coM; have := bI_01 (¬ H0 ∧ y ≤ 0); omega
  refine lv_aload_n hx hb d_MC_isLeap_0 rfl (lv_at hl 0 rfl) ?_
  refine va_get (D := D) (cl := CL) (ci := 5) (v := .ref ru) (C := "DayBook$MonthCalendar") (T := T_MC) (N := 7) hx hb hts in_MC hown hK hP 0 rfl rfl 5 (by decide) (hts _ k_77) (fun _ h9 => h9) rfl d_MC_isLeap_1 ?_
  refine lv_aload_n hx hb d_MC_isLeap_4 rfl (lv_at hl 0 rfl) ?_
  refine lv_lload_n hx hb d_MC_isLeap_5 rfl (lv_at hl 1 rfl) ?_
  refine ro_V (rest := [.ref ru]) (ct_MC_countOf l D a nu le ru lp ep pd H0 P L fn fl n y (by omega)) j_MC_countOf k_778 (hts _ s_MC_countOf) hF (hB.1.recv 0 rfl rfl) rfl hl.1 rfl ⟨Nat.le_of_ble_eq_true rfl, Nat.le_of_ble_eq_true rfl⟩ (Nat.le_of_ble_eq_true rfl) d_MC_isLeap_6 ⟨Nat.zero_le _, Nat.zero_le _⟩ MonB.m (fun U h1 h2 => MonB.m.2 s U h1 h2 hB) ?_
  refine cs_LC hB.2.1 (by omega) hF hl.1 ⟨Nat.le_of_ble_eq_true rfl, Nat.le_of_ble_eq_true rfl⟩ (Nat.le_of_ble_eq_true rfl) d_MC_isLeap_9 ⟨Nat.zero_le _, Nat.zero_le _⟩ ?_
  exact ro_zret hx hb hr hlk d_MC_isLeap_12 rfl
set_option maxHeartbeats 4000000 in
set_option maxRecDepth 100000 in
theorem ct_MC_monthsIn (l : Launch) (D : va_G) (a : Nat) (nu : Nat) (le : Nat) (ru : Nat) (lp : Int) (ep : Int) (pd : Int) (H0 : Prop) (P : Int → Prop) (L : Int → Int) (fn : Nat → Int) (fl : Nat → Int) (n : Nat) (d : Int)  : RO l y_MC_monthsIn w_MC_monthsIn 0 0 [.ref a, .int (iI d)] (MonB D a nu le ru lp ep pd H0 P L fn fl n) (.int (iI (n : Int))) := by
  refine ro_of (by decide +kernel) (Nat.le_of_ble_eq_true rfl) ?_
  intro p e s m below meth c ls hx hb hr hts hown hlk hml hl hN hB
  have hown : s.vm.findClass "DayBook$MonthCalendar" = some m.cls := hown
  have hl : lv_has ls 2 [(0, .ref a), (1, .int (iI d))] := hl
  have hF : _ ∧ _ ∧ _ ∧ _ ∧ _ ∧ _ := ⟨hx, hb, hml, hown, hts, hN⟩
  have hK := hB.1.1
  have hP := hB.1.2
  refine lv_aload_n hx hb d_MC_monthsIn_0 rfl (lv_at hl 0 rfl) ?_
  refine va_get (D := D) (cl := CL) (ci := 5) (v := .ref le) (C := "DayBook$MonthCalendar") (T := T_MC) (N := 7) hx hb hts in_MC hown hK hP 0 rfl rfl 1 (by decide) (hts _ k_73) (fun _ h9 => h9) rfl d_MC_monthsIn_1 ?_
  refine ta_len hx hb hB.2.2.2 d_MC_monthsIn_4 ?_
  exact ro_iret hx hb hr hlk d_MC_monthsIn_5 rfl
set_option maxHeartbeats 4000000 in
set_option maxRecDepth 100000 in
theorem ct_MC_monthAt (l : Launch) (D : va_G) (a : Nat) (nu : Nat) (le : Nat) (ru : Nat) (lp : Int) (ep : Int) (pd : Int) (H0 : Prop) (P : Int → Prop) (L : Int → Int) (fn : Nat → Int) (fl : Nat → Int) (n : Nat) (pl : Int) (d : Int) (hp : 0 ≤ pl ∧ pl < 20) : RO l y_MC_monthAt w_MC_monthAt 0 0 [.ref a, .int (iI pl), .int (iI d)] (MonB D a nu le ru lp ep pd H0 P L fn fl n) (.int (iI (fn (Int.toNat pl)))) := by
  refine ro_of (by decide +kernel) (Nat.le_of_ble_eq_true rfl) ?_
  intro p e s m below meth c ls hx hb hr hts hown hlk hml hl hN hB
  have hown : s.vm.findClass "DayBook$MonthCalendar" = some m.cls := hown
  have hl : lv_has ls 3 [(0, .ref a), (1, .int (iI pl)), (2, .int (iI d))] := hl
  have hF : _ ∧ _ ∧ _ ∧ _ ∧ _ ∧ _ := ⟨hx, hb, hml, hown, hts, hN⟩
  have hK := hB.1.1
  have hP := hB.1.2
  refine lv_aload_n hx hb d_MC_monthAt_0 rfl (lv_at hl 0 rfl) ?_
  refine va_get (D := D) (cl := CL) (ci := 5) (v := .ref nu) (C := "DayBook$MonthCalendar") (T := T_MC) (N := 7) hx hb hts in_MC hown hK hP 0 rfl rfl 0 (by decide) (hts _ k_72) (fun _ h9 => h9) rfl d_MC_monthAt_1 ?_
  refine lv_iload_n hx hb d_MC_monthAt_4 rfl (lv_at hl 1 rfl) ?_
  refine ta_ld hx hb hB.2.2.1 (by omega) (by omega) d_MC_monthAt_5 ?_
  exact ro_iret hx hb hr hlk d_MC_monthAt_6 rfl
set_option maxHeartbeats 4000000 in
set_option maxRecDepth 100000 in
theorem ct_MC_lengthAt (l : Launch) (D : va_G) (a : Nat) (nu : Nat) (le : Nat) (ru : Nat) (lp : Int) (ep : Int) (pd : Int) (H0 : Prop) (P : Int → Prop) (L : Int → Int) (fn : Nat → Int) (fl : Nat → Int) (n : Nat) (pl : Int) (d : Int) (hp : 0 ≤ pl ∧ pl < n) (hn : n ≤ 20) (rd : -2147483648 ≤ d ∧ d ≤ 2147483647) (rlp : 0 ≤ lp ∧ lp ≤ 20) (hpd : 0 ≤ pd ∧ pd ≤ 1000) : RO l y_MC_lengthAt w_MC_lengthAt 0 0 [.ref a, .int (iI pl), .int (iI d)] (MonB D a nu le ru lp ep pd H0 P L fn fl n) (.int (iI (laM lp pd fl pl d))) := by
  refine ro_of (by decide +kernel) (Nat.le_of_ble_eq_true rfl) ?_
  intro p e s m below meth c ls hx hb hr hts hown hlk hml hl hN hB
  have hown : s.vm.findClass "DayBook$MonthCalendar" = some m.cls := hown
  have hl : lv_has ls 3 [(0, .ref a), (1, .int (iI pl)), (2, .int (iI d))] := hl
  have hF : _ ∧ _ ∧ _ ∧ _ ∧ _ ∧ _ := ⟨hx, hb, hml, hown, hts, hN⟩
  have hK := hB.1.1
  have hP := hB.1.2
  refine lv_iload_n hx hb d_MC_lengthAt_0 rfl (lv_at hl 1 rfl) ?_
  refine lv_aload_n hx hb d_MC_lengthAt_1 rfl (lv_at hl 0 rfl) ?_
  refine va_get (D := D) (cl := CL) (ci := 5) (v := .int (iI lp)) (C := "DayBook$MonthCalendar") (T := T_MC) (N := 7) hx hb hts in_MC hown hK hP 0 rfl rfl 2 (by decide) (hts _ k_74) (fun _ h9 => h9) rfl d_MC_lengthAt_2 ?_
  refine ai_icmp_ne hx hb d_MC_lengthAt_5 rfl (by omega) (by omega) (fun h5 => ?_) (fun h5 => ?_)
  · skip
    refine lv_aload_n hx hb d_MC_lengthAt_27 rfl (lv_at hl 0 rfl) ?_
    refine va_get (D := D) (cl := CL) (ci := 5) (v := .ref le) (C := "DayBook$MonthCalendar") (T := T_MC) (N := 7) hx hb hts in_MC hown hK hP 0 rfl rfl 1 (by decide) (hts _ k_73) (fun _ h9 => h9) rfl d_MC_lengthAt_28 ?_
    refine lv_iload_n hx hb d_MC_lengthAt_31 rfl (lv_at hl 1 rfl) ?_
    refine ta_ld hx hb hB.2.2.2 (by omega) (by omega) d_MC_lengthAt_32 ?_
    exact ro_iret hx hb hr hlk d_MC_lengthAt_33 (by unfold laM; rw [bI_f (by intro q; omega)]; omega)
  · skip
    refine lv_iload_n hx hb d_MC_lengthAt_8 rfl (lv_at hl 2 rfl) ?_
    refine lv_aload_n hx hb d_MC_lengthAt_9 rfl (lv_at hl 0 rfl) ?_
    refine va_get (D := D) (cl := CL) (ci := 5) (v := .int (iI pd)) (C := "DayBook$MonthCalendar") (T := T_MC) (N := 7) hx hb hts in_MC hown hK hP 0 rfl rfl 6 (by decide) (hts _ k_78) (fun _ h9 => h9) rfl d_MC_lengthAt_10 ?_
    refine ai_icmp_le hx hb d_MC_lengthAt_13 rfl (by omega) (by omega) (fun h13 => ?_) (fun h13 => ?_)
    · skip
      refine lv_aload_n hx hb d_MC_lengthAt_27 rfl (lv_at hl 0 rfl) ?_
      refine va_get (D := D) (cl := CL) (ci := 5) (v := .ref le) (C := "DayBook$MonthCalendar") (T := T_MC) (N := 7) hx hb hts in_MC hown hK hP 0 rfl rfl 1 (by decide) (hts _ k_73) (fun _ h9 => h9) rfl d_MC_lengthAt_28 ?_
      refine lv_iload_n hx hb d_MC_lengthAt_31 rfl (lv_at hl 1 rfl) ?_
      refine ta_ld hx hb hB.2.2.2 (by omega) (by omega) d_MC_lengthAt_32 ?_
      exact ro_iret hx hb hr hlk d_MC_lengthAt_33 (by unfold laM; rw [bI_f (by intro q; omega)]; omega)
    · skip
      refine lv_aload_n hx hb d_MC_lengthAt_16 rfl (lv_at hl 0 rfl) ?_
      refine va_get (D := D) (cl := CL) (ci := 5) (v := .ref le) (C := "DayBook$MonthCalendar") (T := T_MC) (N := 7) hx hb hts in_MC hown hK hP 0 rfl rfl 1 (by decide) (hts _ k_73) (fun _ h9 => h9) rfl d_MC_lengthAt_17 ?_
      refine lv_iload_n hx hb d_MC_lengthAt_20 rfl (lv_at hl 1 rfl) ?_
      refine ta_ld hx hb hB.2.2.2 (by omega) (by omega) d_MC_lengthAt_21 ?_
      refine ai_iconst hx hb d_MC_lengthAt_22 ?_
      refine ai_iadd hx hb d_MC_lengthAt_23 ?_
      refine lv_goto hx hb d_MC_lengthAt_24 rfl ?_
      exact ro_iret hx hb hr hlk d_MC_lengthAt_33 (by unfold laM; rw [bI_t ⟨h5, h13⟩])
