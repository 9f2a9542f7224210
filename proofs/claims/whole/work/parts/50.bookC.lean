/-! 50.bookC: laid by program (wip/whole) -/
/-- a calendar of the same months every year, by what it answers -/
def MCP (D : va_G) (a : Nat) (S nm : Int → Int) (ma la : Int → Int → Int) (co ya : Int → Int) (hy : Int → Prop) (U : State) : Prop :=
  ∃ (nu le ru : Nat) (lp ep pd : Int) (H0 : Prop) (P : Int → Prop) (L : Int → Int) (fn fl : Nat → Int) (n : Nat), (cM lp ep pd fn fl n ∧ S = ys ep pd L ∧ nm = (fun _ => (n : Int)) ∧ ma = (fun pl _ => fn pl.toNat) ∧ la = laM lp pd fl ∧ co = coM H0 ∧ ya = yaM H0 ∧ hy = fun y => H0 ∨ y ≠ 0) ∧ MonB D a nu le ru lp ep pd H0 P L fn fl n U
section MCPs
variable {D : va_G} {a : Nat} {S nm : Int → Int} {ma la : Int → Int → Int} {co ya : Int → Int} {hy : Int → Prop}
theorem MCP.m : Bm (MCP D a S nm ma la co ya hy) := Bm.ex fun _ => Bm.ex fun _ => Bm.ex fun _ => Bm.ex fun _ => Bm.ex fun _ => Bm.ex fun _ => Bm.ex fun _ => Bm.ex fun _ => Bm.ex fun _ => Bm.ex fun _ => Bm.ex fun _ => Bm.ex fun _ => Bm.and Bm.c MonB.m
theorem MCP.y {U : State} (h : MCP D a S nm ma la co ya hy U) : YC D a S nm ma la co ya hy U := Or.inl h
end MCPs
theorem cd_MD {p : Program} {l : Launch} {e : Env} {R : Room} {s : State} {m : MethodId} {args : Array Value} {below : List Frame} {meth : Method} {c : Code} {cells slots : Nat} {Q : State → Prop} {cc : ByteArray} {pc : Nat} {ls : Array Slot} {rest : List Value} {nL : Nat} {D : va_G} {a : Nat} {S nm : Int → Int} {ma la : Int → Int → Int} {co ya : Int → Int} {hy : Int → Prop} {y : Int} {mth : Int} {dd : Int} {r : Int} (hY : MCP D a S nm ma la co ya hy s) (ry : -60000000 ≤ y ∧ y ≤ 60000000) (rm : -2147483648 ≤ mth ∧ mth ≤ 2147483647) (rdd : -2147483648 ≤ dd ∧ dd ≤ 2147483647) (hdr : DYY S nm ma la co hy y mth dd r) (F : p.tables.exec = Jvm.exec ∧ c.code = cc ∧ c.maxLocals = nL ∧ s.vm.findClass "DayBook" = some m.cls ∧ (∀ w ∈ gw, w.before args s = true) ∧ NV s) (hsz : ls.size = nL) (hRm : 6 ≤ R.frames ∧ 151 ≤ R.locals) (hw : (rest.map fun v => v.category).sum ≤ 8) (hdg : decode cc pc = .ok (.invokevirtual 236, 3)) (hf : cells ≤ R.cells ∧ slots ≤ R.slots)
    (kk : W p l e R s m args below meth c s.heap [] cells slots Q (F0 m (pc + 3) ls (.long (iL r) :: rest))) : W p l e R s m args below meth c s.heap [] cells slots Q (F0 m pc ls (.int (iI dd) :: .int (iI mth) :: .long (iL y) :: .ref a :: rest)) := by
  have hc9 : ∃ cellB : Cell, s.heap[a]? = some cellB ∧ cellB.vm.isStatics = false ∧ s.vm.findClass "DayBook$MonthCalendar" = some cellB.cls := by obtain ⟨nu, le, ru, lp, ep, pd, H0, P, L, fn, fl, n, -, hM⟩ := hY; exact hM.1.recv 0 rfl rfl
  exact ro_U (rest := rest) (ct_Y_dayOf l D a S nm ma la co ya hy y mth dd _ _ r ry rm rdd rfl rfl hdr) j_Y_dayOf k_824 k_825 (F.2.2.2.2.1 _ k_826) (va_Decl.abs (F.2.2.2.2.2.get 815 (by decide +kernel) (by decide +kernel))) ⟨by decide +kernel, by decide +kernel, by decide +kernel⟩ F hc9 rfl hsz rfl ⟨by omega, by omega⟩ hw hdg hf YC.m (fun U h1 h2 => YC.m.2 s U h1 h2 hY.y) kk
theorem cd_MS {p : Program} {l : Launch} {e : Env} {R : Room} {s : State} {m : MethodId} {args : Array Value} {below : List Frame} {meth : Method} {c : Code} {cells slots : Nat} {Q : State → Prop} {cc : ByteArray} {pc : Nat} {ls : Array Slot} {rest : List Value} {nL : Nat} {D : va_G} {a : Nat} {S nm : Int → Int} {ma la : Int → Int → Int} {co ya : Int → Int} {hy : Int → Prop} {y : Int} (hY : MCP D a S nm ma la co ya hy s) (ry : -900000000 ≤ y ∧ y ≤ 900000000) (F : p.tables.exec = Jvm.exec ∧ c.code = cc ∧ c.maxLocals = nL ∧ s.vm.findClass "DayBook" = some m.cls ∧ (∀ w ∈ gw, w.before args s = true) ∧ NV s) (hsz : ls.size = nL) (hRm : 3 ≤ R.frames ∧ 73 ≤ R.locals) (hw : (rest.map fun v => v.category).sum ≤ 8) (hdg : decode cc pc = .ok (.invokevirtual 195, 3)) (hf : cells ≤ R.cells ∧ slots ≤ R.slots)
    (kk : W p l e R s m args below meth c s.heap [] cells slots Q (F0 m (pc + 3) ls (.long (iL (S y)) :: rest))) : W p l e R s m args below meth c s.heap [] cells slots Q (F0 m pc ls (.long (iL y) :: .ref a :: rest)) := by
  obtain ⟨nu, le, ru, lp, ep, pd, H0, P, L, fn, fl, n, ⟨hc, rfl, rfl, rfl, rfl, rfl, rfl, rfl⟩, hM⟩ := hY
  exact ro_V (rest := rest) (ct_MC_yearStart l D a nu le ru lp ep pd H0 P L fn fl n y (by omega) (by obtain ⟨-, c2, -⟩ := hc; omega)) j_MC_yearStart k_843 (F.2.2.2.2.1 _ k_1231) F (hM.1.recv 0 rfl rfl) rfl hsz rfl ⟨by omega, by omega⟩ hw hdg hf MonB.m (fun U h1 h2 => MonB.m.2 s U h1 h2 hM) kk
theorem cd_HD {p : Program} {l : Launch} {e : Env} {R : Room} {s : State} {m : MethodId} {args : Array Value} {below : List Frame} {meth : Method} {c : Code} {cells slots : Nat} {Q : State → Prop} {cc : ByteArray} {pc : Nat} {ls : Array Slot} {rest : List Value} {nL : Nat} {D : va_G} {a : Nat}  {y : Int} {mth : Int} {dd : Int} {r : Int} (hY : OB D [(a, .inr (3, []))] s) (ry : -60000000 ≤ y ∧ y ≤ 60000000) (rm : -2147483648 ≤ mth ∧ mth ≤ 2147483647) (rdd : -2147483648 ≤ dd ∧ dd ≤ 2147483647) (hdr : DYY hst nmH maH laH (fun y => y) (fun _ => True) y mth dd r) (F : p.tables.exec = Jvm.exec ∧ c.code = cc ∧ c.maxLocals = nL ∧ s.vm.findClass "DayBook" = some m.cls ∧ (∀ w ∈ gw, w.before args s = true) ∧ NV s) (hsz : ls.size = nL) (hRm : 6 ≤ R.frames ∧ 151 ≤ R.locals) (hw : (rest.map fun v => v.category).sum ≤ 8) (hdg : decode cc pc = .ok (.invokevirtual 187, 3)) (hf : cells ≤ R.cells ∧ slots ≤ R.slots)
    (kk : W p l e R s m args below meth c s.heap [] cells slots Q (F0 m (pc + 3) ls (.long (iL r) :: rest))) : W p l e R s m args below meth c s.heap [] cells slots Q (F0 m pc ls (.int (iI dd) :: .int (iI mth) :: .long (iL y) :: .ref a :: rest)) := by
  have hM := hY
  exact ro_U (rest := rest) (ct_Y_dayOf l D a hst nmH maH laH (fun y => y) (fun y => y) (fun _ => True) y mth dd _ _ r ry rm rdd rfl rfl hdr) j_Y_dayOf k_813 k_814 (F.2.2.2.2.1 _ k_816) (va_Decl.abs (F.2.2.2.2.2.get 815 (by decide +kernel) (by decide +kernel))) ⟨by decide +kernel, by decide +kernel, by decide +kernel⟩ F (hM.recv 0 rfl rfl) rfl hsz rfl ⟨by omega, by omega⟩ hw hdg hf YC.m (fun U h1 h2 => YC.m.2 s U h1 h2 (Or.inr (Or.inr ⟨⟨rfl, rfl, rfl, rfl, rfl, rfl, rfl⟩, hM⟩))) kk
set_option maxHeartbeats 4000000 in
set_option maxRecDepth 100000 in
theorem ct_B_newEaster (l : Launch) (D : va_G) (b : Nat) (cvA : Nat) (jlA : Nat) (hbA : Nat) (csA : Nat) (sbA : Nat) (vbA : Nat) (cA : ClassId) (cB : ClassId) (ca : Nat → Option Nat) (N : Nat) (z : Int) (ml : Int) (tx : Nat → Int) (S : Int → Int) (nm : Int → Int) (ma : Int → Int → Int) (la : Int → Int → Int) (co : Int → Int) (ya : Int → Int) (hy : Int → Prop) (y : Int) (r : Int) (ry : -90000 ≤ y ∧ y ≤ 90000) (rr : -1000000000000000 ≤ r ∧ r ≤ 1000000000000000) (hdr : DYY S nm ma la co hy y 4 19 r) : RO l y_B_newEaster w_B_newEaster 6 151 [.ref b, .int (iI y)] (fun U => BkB D b cvA jlA hbA csA sbA vbA cA cB ca N z ml tx U ∧ MCP D cvA S nm ma la co ya hy U) (.long (iL (sunb (r - eaN y)))) := by
  refine ro_of (by decide +kernel) (Nat.le_of_ble_eq_true rfl) ?_
  intro p e s m below meth c ls hx hb hr hts hown hlk hml hl hN hB
  have hown : s.vm.findClass "DayBook" = some m.cls := hown
  have hl : lv_has ls 5 [(0, .ref b), (1, .int (iI y))] := hl
  have hF : _ ∧ _ ∧ _ ∧ _ ∧ _ ∧ _ := ⟨hx, hb, hml, hown, hts, hN⟩
  obtain ⟨hBk, hCv⟩ := hB
  have hK := hBk.1
  have hP := hBk.2
  refine lv_iload_n hx hb d_B_newEaster_0 rfl (lv_at hl 1 rfl) ?_
  refine ai_bipush (x := 100) hx hb d_B_newEaster_1 (by decide +kernel) ?_
  refine ro_S (rest := []) (ct_JM_floorDiv_III l y 100 (by omega) (by omega)) j_JM_floorDiv_III k_821 hF rfl hl.1 rfl ⟨Nat.le_of_ble_eq_true rfl, Nat.le_of_ble_eq_true rfl⟩ (Nat.le_of_ble_eq_true rfl) d_B_newEaster_3 ⟨Nat.zero_le _, Nat.zero_le _⟩ Bm_true (fun _ _ _ => trivial) ?_
  refine ai_iconst hx hb d_B_newEaster_6 ?_
  refine ai_iadd hx hb d_B_newEaster_7 ?_
  refine ai_nmI hx hb (fun v8 e8 => ?_)
  refine lv_istore_n (lv' := [(2, .int (iI v8)), (0, .ref b), (1, .int (iI y))]) hx hb d_B_newEaster_8 rfl hl (by decide) rfl (fun ls hl => ?_)
  refine lv_iload_n hx hb d_B_newEaster_9 rfl (lv_at hl 2 rfl) ?_
  refine ai_bipush (x := 19) hx hb d_B_newEaster_10 (by decide +kernel) ?_
  refine ro_S (rest := []) (ct_JM_floorMod_III l y 19 (by omega) (by omega)) j_JM_floorMod_III k_233 hF rfl hl.1 rfl ⟨Nat.le_of_ble_eq_true rfl, Nat.le_of_ble_eq_true rfl⟩ (Nat.le_of_ble_eq_true rfl) d_B_newEaster_12 ⟨Nat.zero_le _, Nat.zero_le _⟩ Bm_true (fun _ _ _ => trivial) ?_
  refine ai_nmI hx hb (fun v15 e15 => ?_)
  refine lv_istore_n (lv' := [(3, .int (iI v15)), (2, .int (iI v8)), (0, .ref b), (1, .int (iI y))]) hx hb d_B_newEaster_15 rfl hl (by decide) rfl (fun ls hl => ?_)
  refine ai_bipush (x := 14) hx hb d_B_newEaster_16 (by decide +kernel) ?_
  refine ai_bipush (x := 11) hx hb d_B_newEaster_18 (by decide +kernel) ?_
  refine lv_iload_n hx hb d_B_newEaster_20 rfl (lv_at hl 0 rfl) ?_
  refine ai_imul hx hb d_B_newEaster_21 ?_
  refine ai_iadd hx hb d_B_newEaster_22 ?_
  refine ai_iconst hx hb d_B_newEaster_23 ?_
  refine lv_iload_n hx hb d_B_newEaster_24 rfl (lv_at hl 1 rfl) ?_
  refine ai_imul hx hb d_B_newEaster_25 ?_
  refine ai_iconst hx hb d_B_newEaster_26 ?_
  refine ro_S (rest := [.int (iI (14 + (11 * v15)))]) (ct_JM_floorDiv_III l (3 * v8) 4 (by omega) (by omega)) j_JM_floorDiv_III k_821 hF rfl hl.1 rfl ⟨Nat.le_of_ble_eq_true rfl, Nat.le_of_ble_eq_true rfl⟩ (Nat.le_of_ble_eq_true rfl) d_B_newEaster_27 ⟨Nat.zero_le _, Nat.zero_le _⟩ Bm_true (fun _ _ _ => trivial) ?_
  refine ai_isub hx hb d_B_newEaster_30 ?_
  refine ai_iconst hx hb d_B_newEaster_31 ?_
  refine ai_bipush (x := 8) hx hb d_B_newEaster_32 (by decide +kernel) ?_
  refine lv_iload_n hx hb d_B_newEaster_34 rfl (lv_at hl 1 rfl) ?_
  refine ai_imul hx hb d_B_newEaster_35 ?_
  refine ai_iadd hx hb d_B_newEaster_36 ?_
  refine ai_bipush (x := 25) hx hb d_B_newEaster_37 (by decide +kernel) ?_
  refine ro_S (rest := [.int (iI ((14 + (11 * v15)) - ((3 * v8) / 4)))]) (ct_JM_floorDiv_III l (5 + (8 * v8)) 25 (by omega) (by omega)) j_JM_floorDiv_III k_821 hF rfl hl.1 rfl ⟨Nat.le_of_ble_eq_true rfl, Nat.le_of_ble_eq_true rfl⟩ (Nat.le_of_ble_eq_true rfl) d_B_newEaster_39 ⟨Nat.zero_le _, Nat.zero_le _⟩ Bm_true (fun _ _ _ => trivial) ?_
  refine ai_iadd hx hb d_B_newEaster_42 ?_
  refine ai_bipush (x := 30) hx hb d_B_newEaster_43 (by decide +kernel) ?_
  refine ro_S (rest := []) (ct_JM_floorMod_III l (((14 + (11 * v15)) - ((3 * v8) / 4)) + ((5 + (8 * v8)) / 25)) 30 (by omega) (by omega)) j_JM_floorMod_III k_233 hF rfl hl.1 rfl ⟨Nat.le_of_ble_eq_true rfl, Nat.le_of_ble_eq_true rfl⟩ (Nat.le_of_ble_eq_true rfl) d_B_newEaster_45 ⟨Nat.zero_le _, Nat.zero_le _⟩ Bm_true (fun _ _ _ => trivial) ?_
  refine ai_nmI hx hb (fun v48 e48 => ?_)
  refine lv_istore (lv' := [(4, .int (iI v48)), (3, .int (iI v15)), (2, .int (iI v8)), (0, .ref b), (1, .int (iI y))]) hx hb d_B_newEaster_48 hl (by decide) rfl (fun ls hl => ?_)
  have eh : eaH y = v48 := by unfold eaH; rw [e48, e15, e8]
  refine lv_iload hx hb d_B_newEaster_50 (lv_at hl 0 rfl) ?_
  refine ai_if_eq hx hb d_B_newEaster_52 rfl (by omega) (fun h52 => ?_) (fun h52 => ?_)
  · skip
    refine ai_iinc (k := 0) (lv' := [(4, .int (iI (v48 + 1))), (3, .int (iI v15)), (2, .int (iI v8)), (0, .ref b), (1, .int (iI y))]) hx hb d_B_newEaster_67 hl rfl (by decide) rfl (fun ls hl => ?_)
    first | (have en : eaN y = v48 + 1 := by unfold eaN; rw [eh, if_pos (by omega)]) | (have en : eaN y = v48 := by unfold eaN; rw [eh, if_neg (by omega)])
    have emr := md_rng (x := 14 + 11 * v15 - 3 * v8 / 4 + (5 + 8 * v8) / 25) (n := 30) (by decide)
    refine lv_aload_n hx hb d_B_newEaster_70 rfl (lv_at hl 3 rfl) ?_
    refine va_get (D := D) (cl := CL) (ci := 9) (v := .ref cvA) (C := "DayBook") (T := T_B) (N := 5) hx hb hts in_B hown hK hP 0 rfl rfl 0 (by decide) (hts _ k_204) (fun _ h9 => h9) rfl d_B_newEaster_71 ?_
    refine lv_iload_n hx hb d_B_newEaster_74 rfl (lv_at hl 4 rfl) ?_
    refine ai_i2l hx hb d_B_newEaster_75 (by omega) ?_
    refine ai_iconst hx hb d_B_newEaster_76 ?_
    refine ai_bipush (x := 19) hx hb d_B_newEaster_77 (by decide +kernel) ?_
    refine cd_MD (rest := []) hCv (by omega) (by decide) (by decide) hdr hF hl.1 ⟨Nat.le_of_ble_eq_true rfl, Nat.le_of_ble_eq_true rfl⟩ (Nat.le_of_ble_eq_true rfl) d_B_newEaster_79 ⟨Nat.zero_le _, Nat.zero_le _⟩ ?_
    refine lv_iload hx hb d_B_newEaster_82 (lv_at hl 0 rfl) ?_
    refine ai_i2l hx hb d_B_newEaster_84 (by omega) ?_
    refine ai_lsub hx hb d_B_newEaster_85 ?_
    refine ro_S (rest := []) (ct_B_sundayBehind l (r - (v48 + 1)) (by omega)) j_B_sundayBehind k_827 hF rfl hl.1 rfl ⟨Nat.le_of_ble_eq_true rfl, Nat.le_of_ble_eq_true rfl⟩ (Nat.le_of_ble_eq_true rfl) d_B_newEaster_86 ⟨Nat.zero_le _, Nat.zero_le _⟩ Bm_true (fun _ _ _ => trivial) ?_
    exact ro_lret hx hb hr hlk d_B_newEaster_89 (by rw [en]; rfl)
  · skip
    refine lv_iload hx hb d_B_newEaster_55 (lv_at hl 0 rfl) ?_
    refine ai_iconst hx hb d_B_newEaster_57 ?_
    refine ai_icmp_ne hx hb d_B_newEaster_58 rfl (by omega) (by omega) (fun h58 => ?_) (fun h58 => ?_)
    · skip
      first | (have en : eaN y = v48 + 1 := by unfold eaN; rw [eh, if_pos (by omega)]) | (have en : eaN y = v48 := by unfold eaN; rw [eh, if_neg (by omega)])
      have emr := md_rng (x := 14 + 11 * v15 - 3 * v8 / 4 + (5 + 8 * v8) / 25) (n := 30) (by decide)
      refine lv_aload_n hx hb d_B_newEaster_70 rfl (lv_at hl 3 rfl) ?_
      refine va_get (D := D) (cl := CL) (ci := 9) (v := .ref cvA) (C := "DayBook") (T := T_B) (N := 5) hx hb hts in_B hown hK hP 0 rfl rfl 0 (by decide) (hts _ k_204) (fun _ h9 => h9) rfl d_B_newEaster_71 ?_
      refine lv_iload_n hx hb d_B_newEaster_74 rfl (lv_at hl 4 rfl) ?_
      refine ai_i2l hx hb d_B_newEaster_75 (by omega) ?_
      refine ai_iconst hx hb d_B_newEaster_76 ?_
      refine ai_bipush (x := 19) hx hb d_B_newEaster_77 (by decide +kernel) ?_
      refine cd_MD (rest := []) hCv (by omega) (by decide) (by decide) hdr hF hl.1 ⟨Nat.le_of_ble_eq_true rfl, Nat.le_of_ble_eq_true rfl⟩ (Nat.le_of_ble_eq_true rfl) d_B_newEaster_79 ⟨Nat.zero_le _, Nat.zero_le _⟩ ?_
      refine lv_iload hx hb d_B_newEaster_82 (lv_at hl 0 rfl) ?_
      refine ai_i2l hx hb d_B_newEaster_84 (by omega) ?_
      refine ai_lsub hx hb d_B_newEaster_85 ?_
      refine ro_S (rest := []) (ct_B_sundayBehind l (r - v48) (by omega)) j_B_sundayBehind k_827 hF rfl hl.1 rfl ⟨Nat.le_of_ble_eq_true rfl, Nat.le_of_ble_eq_true rfl⟩ (Nat.le_of_ble_eq_true rfl) d_B_newEaster_86 ⟨Nat.zero_le _, Nat.zero_le _⟩ Bm_true (fun _ _ _ => trivial) ?_
      exact ro_lret hx hb hr hlk d_B_newEaster_89 (by rw [en]; rfl)
    · skip
      refine lv_iload_n hx hb d_B_newEaster_61 rfl (lv_at hl 1 rfl) ?_
      refine ai_bipush (x := 10) hx hb d_B_newEaster_62 (by decide +kernel) ?_
      refine ai_icmp_le hx hb d_B_newEaster_64 rfl (by omega) (by omega) (fun h64 => ?_) (fun h64 => ?_)
      · skip
        first | (have en : eaN y = v48 + 1 := by unfold eaN; rw [eh, if_pos (by omega)]) | (have en : eaN y = v48 := by unfold eaN; rw [eh, if_neg (by omega)])
        have emr := md_rng (x := 14 + 11 * v15 - 3 * v8 / 4 + (5 + 8 * v8) / 25) (n := 30) (by decide)
        refine lv_aload_n hx hb d_B_newEaster_70 rfl (lv_at hl 3 rfl) ?_
        refine va_get (D := D) (cl := CL) (ci := 9) (v := .ref cvA) (C := "DayBook") (T := T_B) (N := 5) hx hb hts in_B hown hK hP 0 rfl rfl 0 (by decide) (hts _ k_204) (fun _ h9 => h9) rfl d_B_newEaster_71 ?_
        refine lv_iload_n hx hb d_B_newEaster_74 rfl (lv_at hl 4 rfl) ?_
        refine ai_i2l hx hb d_B_newEaster_75 (by omega) ?_
        refine ai_iconst hx hb d_B_newEaster_76 ?_
        refine ai_bipush (x := 19) hx hb d_B_newEaster_77 (by decide +kernel) ?_
        refine cd_MD (rest := []) hCv (by omega) (by decide) (by decide) hdr hF hl.1 ⟨Nat.le_of_ble_eq_true rfl, Nat.le_of_ble_eq_true rfl⟩ (Nat.le_of_ble_eq_true rfl) d_B_newEaster_79 ⟨Nat.zero_le _, Nat.zero_le _⟩ ?_
        refine lv_iload hx hb d_B_newEaster_82 (lv_at hl 0 rfl) ?_
        refine ai_i2l hx hb d_B_newEaster_84 (by omega) ?_
        refine ai_lsub hx hb d_B_newEaster_85 ?_
        refine ro_S (rest := []) (ct_B_sundayBehind l (r - v48) (by omega)) j_B_sundayBehind k_827 hF rfl hl.1 rfl ⟨Nat.le_of_ble_eq_true rfl, Nat.le_of_ble_eq_true rfl⟩ (Nat.le_of_ble_eq_true rfl) d_B_newEaster_86 ⟨Nat.zero_le _, Nat.zero_le _⟩ Bm_true (fun _ _ _ => trivial) ?_
        exact ro_lret hx hb hr hlk d_B_newEaster_89 (by rw [en]; rfl)
      · skip
        refine ai_iinc (k := 0) (lv' := [(4, .int (iI (v48 + 1))), (3, .int (iI v15)), (2, .int (iI v8)), (0, .ref b), (1, .int (iI y))]) hx hb d_B_newEaster_67 hl rfl (by decide) rfl (fun ls hl => ?_)
        first | (have en : eaN y = v48 + 1 := by unfold eaN; rw [eh, if_pos (by omega)]) | (have en : eaN y = v48 := by unfold eaN; rw [eh, if_neg (by omega)])
        have emr := md_rng (x := 14 + 11 * v15 - 3 * v8 / 4 + (5 + 8 * v8) / 25) (n := 30) (by decide)
        refine lv_aload_n hx hb d_B_newEaster_70 rfl (lv_at hl 3 rfl) ?_
        refine va_get (D := D) (cl := CL) (ci := 9) (v := .ref cvA) (C := "DayBook") (T := T_B) (N := 5) hx hb hts in_B hown hK hP 0 rfl rfl 0 (by decide) (hts _ k_204) (fun _ h9 => h9) rfl d_B_newEaster_71 ?_
        refine lv_iload_n hx hb d_B_newEaster_74 rfl (lv_at hl 4 rfl) ?_
        refine ai_i2l hx hb d_B_newEaster_75 (by omega) ?_
        refine ai_iconst hx hb d_B_newEaster_76 ?_
        refine ai_bipush (x := 19) hx hb d_B_newEaster_77 (by decide +kernel) ?_
        refine cd_MD (rest := []) hCv (by omega) (by decide) (by decide) hdr hF hl.1 ⟨Nat.le_of_ble_eq_true rfl, Nat.le_of_ble_eq_true rfl⟩ (Nat.le_of_ble_eq_true rfl) d_B_newEaster_79 ⟨Nat.zero_le _, Nat.zero_le _⟩ ?_
        refine lv_iload hx hb d_B_newEaster_82 (lv_at hl 0 rfl) ?_
        refine ai_i2l hx hb d_B_newEaster_84 (by omega) ?_
        refine ai_lsub hx hb d_B_newEaster_85 ?_
        refine ro_S (rest := []) (ct_B_sundayBehind l (r - (v48 + 1)) (by omega)) j_B_sundayBehind k_827 hF rfl hl.1 rfl ⟨Nat.le_of_ble_eq_true rfl, Nat.le_of_ble_eq_true rfl⟩ (Nat.le_of_ble_eq_true rfl) d_B_newEaster_86 ⟨Nat.zero_le _, Nat.zero_le _⟩ Bm_true (fun _ _ _ => trivial) ?_
        exact ro_lret hx hb hr hlk d_B_newEaster_89 (by rw [en]; rfl)
set_option maxHeartbeats 4000000 in
set_option maxRecDepth 100000 in
theorem ct_B_oldEaster (l : Launch) (D : va_G) (b : Nat) (cvA : Nat) (jlA : Nat) (hbA : Nat) (csA : Nat) (sbA : Nat) (vbA : Nat) (cA : ClassId) (cB : ClassId) (ca : Nat → Option Nat) (N : Nat) (z : Int) (ml : Int) (tx : Nat → Int) (S : Int → Int) (nm : Int → Int) (ma : Int → Int → Int) (la : Int → Int → Int) (co : Int → Int) (ya : Int → Int) (hy : Int → Prop) (y : Int) (r : Int) (ry : -90000 ≤ y ∧ y ≤ 90000) (rr : -1000000000000000 ≤ r ∧ r ≤ 1000000000000000) (hdr : DYY S nm ma la co hy (if 0 < y then y else y - 1) 4 19 r) : RO l y_B_oldEaster w_B_oldEaster 6 151 [.ref b, .int (iI y)] (fun U => BkB D b cvA jlA hbA csA sbA vbA cA cB ca N z ml tx U ∧ MCP D jlA S nm ma la co ya hy U) (.long (iL (sunb (r - (14 + 11 * (y % 19)) % 30)))) := by
  refine ro_of (by decide +kernel) (Nat.le_of_ble_eq_true rfl) ?_
  intro p e s m below meth c ls hx hb hr hts hown hlk hml hl hN hB
  have hown : s.vm.findClass "DayBook" = some m.cls := hown
  have hl : lv_has ls 4 [(0, .ref b), (1, .int (iI y))] := hl
  have hF : _ ∧ _ ∧ _ ∧ _ ∧ _ ∧ _ := ⟨hx, hb, hml, hown, hts, hN⟩
  obtain ⟨hBk, hJl⟩ := hB
  have hK := hBk.1
  have hP := hBk.2
  refine ai_bipush (x := 14) hx hb d_B_oldEaster_0 (by decide +kernel) ?_
  refine ai_bipush (x := 11) hx hb d_B_oldEaster_2 (by decide +kernel) ?_
  refine lv_iload_n hx hb d_B_oldEaster_4 rfl (lv_at hl 1 rfl) ?_
  refine ai_bipush (x := 19) hx hb d_B_oldEaster_5 (by decide +kernel) ?_
  refine ro_S (rest := [.int (iI 11), .int (iI 14)]) (ct_JM_floorMod_III l y 19 (by omega) (by omega)) j_JM_floorMod_III k_233 hF rfl hl.1 rfl ⟨Nat.le_of_ble_eq_true rfl, Nat.le_of_ble_eq_true rfl⟩ (Nat.le_of_ble_eq_true rfl) d_B_oldEaster_7 ⟨Nat.zero_le _, Nat.zero_le _⟩ Bm_true (fun _ _ _ => trivial) ?_
  refine ai_imul hx hb d_B_oldEaster_10 ?_
  refine ai_iadd hx hb d_B_oldEaster_11 ?_
  refine ai_bipush (x := 30) hx hb d_B_oldEaster_12 (by decide +kernel) ?_
  refine ro_S (rest := []) (ct_JM_floorMod_III l (14 + (11 * (y % 19))) 30 (by omega) (by omega)) j_JM_floorMod_III k_233 hF rfl hl.1 rfl ⟨Nat.le_of_ble_eq_true rfl, Nat.le_of_ble_eq_true rfl⟩ (Nat.le_of_ble_eq_true rfl) d_B_oldEaster_14 ⟨Nat.zero_le _, Nat.zero_le _⟩ Bm_true (fun _ _ _ => trivial) ?_
  refine ai_nmI hx hb (fun v17 e17 => ?_)
  refine lv_istore_n (lv' := [(2, .int (iI v17)), (0, .ref b), (1, .int (iI y))]) hx hb d_B_oldEaster_17 rfl hl (by decide) rfl (fun ls hl => ?_)
  refine lv_iload_n hx hb d_B_oldEaster_18 rfl (lv_at hl 2 rfl) ?_
  refine ai_if_le hx hb d_B_oldEaster_19 rfl (by omega) (fun h19 => ?_) (fun h19 => ?_)
  · skip
    rw [if_neg (by omega)] at hdr
    refine lv_iload_n hx hb d_B_oldEaster_26 rfl (lv_at hl 2 rfl) ?_
    refine ai_iconst hx hb d_B_oldEaster_27 ?_
    refine ai_isub hx hb d_B_oldEaster_28 ?_
    refine ai_nmI hx hb (fun v29 e29 => ?_)
    refine lv_istore_n (lv' := [(3, .int (iI v29)), (2, .int (iI v17)), (0, .ref b), (1, .int (iI y))]) hx hb d_B_oldEaster_29 rfl hl (by decide) rfl (fun ls hl => ?_)
    first | have hd2 : DYY S nm ma la co hy v29 4 19 r := (by rw [e29]; exact hdr) | have hd2 : DYY S nm ma la co hy y 4 19 r := hdr
    refine lv_aload_n hx hb d_B_oldEaster_30 rfl (lv_at hl 2 rfl) ?_
    refine va_get (D := D) (cl := CL) (ci := 9) (v := .ref jlA) (C := "DayBook") (T := T_B) (N := 5) hx hb hts in_B hown hK hP 0 rfl rfl 1 (by decide) (hts _ k_205) (fun _ h9 => h9) rfl d_B_oldEaster_31 ?_
    refine lv_iload_n hx hb d_B_oldEaster_34 rfl (lv_at hl 0 rfl) ?_
    refine ai_i2l hx hb d_B_oldEaster_35 (by omega) ?_
    refine ai_iconst hx hb d_B_oldEaster_36 ?_
    refine ai_bipush (x := 19) hx hb d_B_oldEaster_37 (by decide +kernel) ?_
    refine cd_MD (rest := []) hJl (by omega) (by decide) (by decide) hd2 hF hl.1 ⟨Nat.le_of_ble_eq_true rfl, Nat.le_of_ble_eq_true rfl⟩ (Nat.le_of_ble_eq_true rfl) d_B_oldEaster_39 ⟨Nat.zero_le _, Nat.zero_le _⟩ ?_
    refine lv_iload_n hx hb d_B_oldEaster_42 rfl (lv_at hl 1 rfl) ?_
    refine ai_i2l hx hb d_B_oldEaster_43 (by omega) ?_
    refine ai_lsub hx hb d_B_oldEaster_44 ?_
    refine ro_S (rest := []) (ct_B_sundayBehind l (r - v17) (by omega)) j_B_sundayBehind k_827 hF rfl hl.1 rfl ⟨Nat.le_of_ble_eq_true rfl, Nat.le_of_ble_eq_true rfl⟩ (Nat.le_of_ble_eq_true rfl) d_B_oldEaster_45 ⟨Nat.zero_le _, Nat.zero_le _⟩ Bm_true (fun _ _ _ => trivial) ?_
    exact ro_lret hx hb hr hlk d_B_oldEaster_48 (by rw [e17]; rfl)
  · skip
    rw [if_pos (by omega)] at hdr
    refine lv_iload_n hx hb d_B_oldEaster_22 rfl (lv_at hl 2 rfl) ?_
    refine lv_goto hx hb d_B_oldEaster_23 rfl ?_
    refine lv_istore_n (lv' := [(3, .int (iI y)), (2, .int (iI v17)), (0, .ref b), (1, .int (iI y))]) hx hb d_B_oldEaster_29 rfl hl (by decide) rfl (fun ls hl => ?_)
    first | have hd2 : DYY S nm ma la co hy v29 4 19 r := (by rw [e29]; exact hdr) | have hd2 : DYY S nm ma la co hy y 4 19 r := hdr
    refine lv_aload_n hx hb d_B_oldEaster_30 rfl (lv_at hl 2 rfl) ?_
    refine va_get (D := D) (cl := CL) (ci := 9) (v := .ref jlA) (C := "DayBook") (T := T_B) (N := 5) hx hb hts in_B hown hK hP 0 rfl rfl 1 (by decide) (hts _ k_205) (fun _ h9 => h9) rfl d_B_oldEaster_31 ?_
    refine lv_iload_n hx hb d_B_oldEaster_34 rfl (lv_at hl 0 rfl) ?_
    refine ai_i2l hx hb d_B_oldEaster_35 (by omega) ?_
    refine ai_iconst hx hb d_B_oldEaster_36 ?_
    refine ai_bipush (x := 19) hx hb d_B_oldEaster_37 (by decide +kernel) ?_
    refine cd_MD (rest := []) hJl (by omega) (by decide) (by decide) hd2 hF hl.1 ⟨Nat.le_of_ble_eq_true rfl, Nat.le_of_ble_eq_true rfl⟩ (Nat.le_of_ble_eq_true rfl) d_B_oldEaster_39 ⟨Nat.zero_le _, Nat.zero_le _⟩ ?_
    refine lv_iload_n hx hb d_B_oldEaster_42 rfl (lv_at hl 1 rfl) ?_
    refine ai_i2l hx hb d_B_oldEaster_43 (by omega) ?_
    refine ai_lsub hx hb d_B_oldEaster_44 ?_
    refine ro_S (rest := []) (ct_B_sundayBehind l (r - v17) (by omega)) j_B_sundayBehind k_827 hF rfl hl.1 rfl ⟨Nat.le_of_ble_eq_true rfl, Nat.le_of_ble_eq_true rfl⟩ (Nat.le_of_ble_eq_true rfl) d_B_oldEaster_45 ⟨Nat.zero_le _, Nat.zero_le _⟩ Bm_true (fun _ _ _ => trivial) ?_
    exact ro_lret hx hb hr hlk d_B_oldEaster_48 (by rw [e17]; rfl)
set_option maxHeartbeats 4000000 in
set_option maxRecDepth 100000 in
theorem ct_B_feast_0 (l : Launch) (D : va_G) (b : Nat) (cvA : Nat) (jlA : Nat) (hbA : Nat) (csA : Nat) (sbA : Nat) (vbA : Nat) (cA : ClassId) (cB : ClassId) (ca : Nat → Option Nat) (N : Nat) (z : Int) (ml : Int) (tx : Nat → Int) (w : Int) (y : Int) (S : Int → Int) (nm : Int → Int) (ma : Int → Int → Int) (la : Int → Int → Int) (co : Int → Int) (ya : Int → Int) (hy : Int → Prop) (r : Int) (r_w : -2147483648 ≤ w ∧ w ≤ 2147483647) (r_y : -2147483648 ≤ y ∧ y ≤ 2147483647) (hw : w = 0) (hyr : -90000 ≤ y ∧ y ≤ 90000) (rr : -1000000000000000 ≤ r ∧ r ≤ 1000000000000000) (hdr : DYY S nm ma la co hy y 4 19 r) : RO l y_B_feast w_B_feast 7 175 [.ref b, .int (iI w), .int (iI y)] (fun U => BkB D b cvA jlA hbA csA sbA vbA cA cB ca N z ml tx U ∧ MCP D cvA S nm ma la co ya hy U) (.int (iI (sunb (r - eaN y)))) := by
  refine ro_of (by decide +kernel) (Nat.le_of_ble_eq_true rfl) ?_
  intro p e s m below meth c ls hx hb hr hts hown hlk hml hl hN hB
  have hown : s.vm.findClass "DayBook" = some m.cls := hown
  have hl : lv_has ls 3 [(0, .ref b), (1, .int (iI w)), (2, .int (iI y))] := hl
  have hF : _ ∧ _ ∧ _ ∧ _ ∧ _ ∧ _ := ⟨hx, hb, hml, hown, hts, hN⟩
  obtain ⟨hBk, hCv⟩ := hB
  have hK := hBk.1
  have hP := hBk.2
  refine lv_iload_n hx hb d_B_feast_0 rfl (lv_at hl 1 rfl) ?_
  refine ai_if_lt hx hb d_B_feast_1 rfl (by omega) (fun h1 => ?_) (fun h1 => ?_)
  · skip
    exfalso; omega
  · skip
    refine lv_iload_n hx hb d_B_feast_4 rfl (lv_at hl 1 rfl) ?_
    refine ai_iconst hx hb d_B_feast_5 ?_
    refine ai_icmp_le hx hb d_B_feast_6 rfl (by omega) (by omega) (fun h6 => ?_) (fun h6 => ?_)
    · skip
      refine lv_iload_n hx hb d_B_feast_17 rfl (lv_at hl 2 rfl) ?_
      refine ai_ldc (x := 90000) hx hb hown (hts _ k_811) (by decide +kernel) d_B_feast_18 ?_
      refine ro_S (rest := []) (ct_B_isWithin l y 90000 (by omega) (by omega)) j_B_isWithin k_701 hF rfl hl.1 rfl ⟨Nat.le_of_ble_eq_true rfl, Nat.le_of_ble_eq_true rfl⟩ (Nat.le_of_ble_eq_true rfl) d_B_feast_20 ⟨Nat.zero_le _, Nat.zero_le _⟩ Bm_true (fun _ _ _ => trivial) ?_
      refine ai_ifneB hx hb d_B_feast_23 rfl (fun h23 => ?_) (fun h23 => ?_)
      · skip
        refine lv_iload_n hx hb d_B_feast_34 rfl (lv_at hl 1 rfl) ?_
        refine ai_iconst hx hb d_B_feast_35 ?_
        refine ai_icmp_ne hx hb d_B_feast_36 rfl (by omega) (by omega) (fun h36 => ?_) (fun h36 => by exfalso; omega)
        refine lv_iload_n hx hb d_B_feast_57 rfl (lv_at hl 1 rfl) ?_
        refine ai_if_ne hx hb d_B_feast_58 rfl (by omega) (fun h58 => by exfalso; omega) (fun h58 => ?_)
        refine lv_aload_n hx hb d_B_feast_61 rfl (lv_at hl 0 rfl) ?_
        refine lv_iload_n hx hb d_B_feast_62 rfl (lv_at hl 2 rfl) ?_
        refine ro_V (rest := []) (ct_B_newEaster l D b cvA jlA hbA csA sbA vbA cA cB ca N z ml tx S nm ma la co ya hy y r (by omega) (by omega) hdr) j_B_newEaster k_817 (hts _ s_B_newEaster) hF hBk.recv rfl hl.1 rfl ⟨Nat.le_of_ble_eq_true rfl, Nat.le_of_ble_eq_true rfl⟩ (Nat.le_of_ble_eq_true rfl) d_B_feast_63 ⟨Nat.zero_le _, Nat.zero_le _⟩ (Bm.and BkB.m MCP.m) (fun U h1 h2 => ⟨BkB.m.2 s U h1 h2 hBk, MCP.m.2 s U h1 h2 hCv⟩) ?_
        refine lv_goto hx hb d_B_feast_66 rfl ?_
        refine ai_l2i hx hb d_B_feast_74 ?_
        exact ro_iret hx hb hr hlk d_B_feast_75 rfl
      · skip
        exfalso; omega
    · skip
      exfalso; omega
set_option maxHeartbeats 4000000 in
set_option maxRecDepth 100000 in
theorem ct_B_feast_1 (l : Launch) (D : va_G) (b : Nat) (cvA : Nat) (jlA : Nat) (hbA : Nat) (csA : Nat) (sbA : Nat) (vbA : Nat) (cA : ClassId) (cB : ClassId) (ca : Nat → Option Nat) (N : Nat) (z : Int) (ml : Int) (tx : Nat → Int) (w : Int) (y : Int) (S : Int → Int) (nm : Int → Int) (ma : Int → Int → Int) (la : Int → Int → Int) (co : Int → Int) (ya : Int → Int) (hy : Int → Prop) (r : Int) (r_w : -2147483648 ≤ w ∧ w ≤ 2147483647) (r_y : -2147483648 ≤ y ∧ y ≤ 2147483647) (hw : w = 1) (hyr : -90000 ≤ y ∧ y ≤ 90000) (rr : -1000000000000000 ≤ r ∧ r ≤ 1000000000000000) (hdr : DYY S nm ma la co hy (if 0 < y then y else y - 1) 4 19 r) : RO l y_B_feast w_B_feast 7 175 [.ref b, .int (iI w), .int (iI y)] (fun U => BkB D b cvA jlA hbA csA sbA vbA cA cB ca N z ml tx U ∧ MCP D jlA S nm ma la co ya hy U) (.int (iI (sunb (r - (14 + 11 * (y % 19)) % 30)))) := by
  refine ro_of (by decide +kernel) (Nat.le_of_ble_eq_true rfl) ?_
  intro p e s m below meth c ls hx hb hr hts hown hlk hml hl hN hB
  have hown : s.vm.findClass "DayBook" = some m.cls := hown
  have hl : lv_has ls 3 [(0, .ref b), (1, .int (iI w)), (2, .int (iI y))] := hl
  have hF : _ ∧ _ ∧ _ ∧ _ ∧ _ ∧ _ := ⟨hx, hb, hml, hown, hts, hN⟩
  obtain ⟨hBk, hJl⟩ := hB
  have hK := hBk.1
  have hP := hBk.2
  refine lv_iload_n hx hb d_B_feast_0 rfl (lv_at hl 1 rfl) ?_
  refine ai_if_lt hx hb d_B_feast_1 rfl (by omega) (fun h1 => ?_) (fun h1 => ?_)
  · skip
    exfalso; omega
  · skip
    refine lv_iload_n hx hb d_B_feast_4 rfl (lv_at hl 1 rfl) ?_
    refine ai_iconst hx hb d_B_feast_5 ?_
    refine ai_icmp_le hx hb d_B_feast_6 rfl (by omega) (by omega) (fun h6 => ?_) (fun h6 => ?_)
    · skip
      refine lv_iload_n hx hb d_B_feast_17 rfl (lv_at hl 2 rfl) ?_
      refine ai_ldc (x := 90000) hx hb hown (hts _ k_811) (by decide +kernel) d_B_feast_18 ?_
      refine ro_S (rest := []) (ct_B_isWithin l y 90000 (by omega) (by omega)) j_B_isWithin k_701 hF rfl hl.1 rfl ⟨Nat.le_of_ble_eq_true rfl, Nat.le_of_ble_eq_true rfl⟩ (Nat.le_of_ble_eq_true rfl) d_B_feast_20 ⟨Nat.zero_le _, Nat.zero_le _⟩ Bm_true (fun _ _ _ => trivial) ?_
      refine ai_ifneB hx hb d_B_feast_23 rfl (fun h23 => ?_) (fun h23 => ?_)
      · skip
        refine lv_iload_n hx hb d_B_feast_34 rfl (lv_at hl 1 rfl) ?_
        refine ai_iconst hx hb d_B_feast_35 ?_
        refine ai_icmp_ne hx hb d_B_feast_36 rfl (by omega) (by omega) (fun h36 => ?_) (fun h36 => by exfalso; omega)
        refine lv_iload_n hx hb d_B_feast_57 rfl (lv_at hl 1 rfl) ?_
        refine ai_if_ne hx hb d_B_feast_58 rfl (by omega) (fun h58 => ?_) (fun h58 => by exfalso; omega)
        refine lv_aload_n hx hb d_B_feast_69 rfl (lv_at hl 0 rfl) ?_
        refine lv_iload_n hx hb d_B_feast_70 rfl (lv_at hl 2 rfl) ?_
        refine ro_V (rest := []) (ct_B_oldEaster l D b cvA jlA hbA csA sbA vbA cA cB ca N z ml tx S nm ma la co ya hy y r (by omega) (by omega) hdr) j_B_oldEaster k_832 (hts _ s_B_oldEaster) hF hBk.recv rfl hl.1 rfl ⟨Nat.le_of_ble_eq_true rfl, Nat.le_of_ble_eq_true rfl⟩ (Nat.le_of_ble_eq_true rfl) d_B_feast_71 ⟨Nat.zero_le _, Nat.zero_le _⟩ (Bm.and BkB.m MCP.m) (fun U h1 h2 => ⟨BkB.m.2 s U h1 h2 hBk, MCP.m.2 s U h1 h2 hJl⟩) ?_
        refine ai_l2i hx hb d_B_feast_74 ?_
        exact ro_iret hx hb hr hlk d_B_feast_75 rfl
      · skip
        exfalso; omega
    · skip
      exfalso; omega
set_option maxHeartbeats 4000000 in
set_option maxRecDepth 100000 in
theorem ct_B_feast_2 (l : Launch) (D : va_G) (b : Nat) (cvA : Nat) (jlA : Nat) (hbA : Nat) (csA : Nat) (sbA : Nat) (vbA : Nat) (cA : ClassId) (cB : ClassId) (ca : Nat → Option Nat) (N : Nat) (z : Int) (ml : Int) (tx : Nat → Int) (w : Int) (y : Int) (r : Int) (r_w : -2147483648 ≤ w ∧ w ≤ 2147483647) (r_y : -2147483648 ≤ y ∧ y ≤ 2147483647) (hw : w = 2) (hyr : -90000 ≤ y ∧ y ≤ 90000) (rr : -1000000000000000 ≤ r ∧ r ≤ 1000000000000000) (hdr : DYY hst nmH maH laH (fun y => y) (fun _ => True) (y + 3760) 1 15 r) : RO l y_B_feast w_B_feast 7 175 [.ref b, .int (iI w), .int (iI y)] (fun U => BkB D b cvA jlA hbA csA sbA vbA cA cB ca N z ml tx U ∧ OB D [(hbA, .inr (3, []))] U) (.int (iI r)) := by
  refine ro_of (by decide +kernel) (Nat.le_of_ble_eq_true rfl) ?_
  intro p e s m below meth c ls hx hb hr hts hown hlk hml hl hN hB
  have hown : s.vm.findClass "DayBook" = some m.cls := hown
  have hl : lv_has ls 3 [(0, .ref b), (1, .int (iI w)), (2, .int (iI y))] := hl
  have hF : _ ∧ _ ∧ _ ∧ _ ∧ _ ∧ _ := ⟨hx, hb, hml, hown, hts, hN⟩
  obtain ⟨hBk, hHb⟩ := hB
  have hK := hBk.1
  have hP := hBk.2
  refine lv_iload_n hx hb d_B_feast_0 rfl (lv_at hl 1 rfl) ?_
  refine ai_if_lt hx hb d_B_feast_1 rfl (by omega) (fun h1 => ?_) (fun h1 => ?_)
  · skip
    exfalso; omega
  · skip
    refine lv_iload_n hx hb d_B_feast_4 rfl (lv_at hl 1 rfl) ?_
    refine ai_iconst hx hb d_B_feast_5 ?_
    refine ai_icmp_le hx hb d_B_feast_6 rfl (by omega) (by omega) (fun h6 => ?_) (fun h6 => ?_)
    · skip
      refine lv_iload_n hx hb d_B_feast_17 rfl (lv_at hl 2 rfl) ?_
      refine ai_ldc (x := 90000) hx hb hown (hts _ k_811) (by decide +kernel) d_B_feast_18 ?_
      refine ro_S (rest := []) (ct_B_isWithin l y 90000 (by omega) (by omega)) j_B_isWithin k_701 hF rfl hl.1 rfl ⟨Nat.le_of_ble_eq_true rfl, Nat.le_of_ble_eq_true rfl⟩ (Nat.le_of_ble_eq_true rfl) d_B_feast_20 ⟨Nat.zero_le _, Nat.zero_le _⟩ Bm_true (fun _ _ _ => trivial) ?_
      refine ai_ifneB hx hb d_B_feast_23 rfl (fun h23 => ?_) (fun h23 => ?_)
      · skip
        refine lv_iload_n hx hb d_B_feast_34 rfl (lv_at hl 1 rfl) ?_
        refine ai_iconst hx hb d_B_feast_35 ?_
        refine ai_icmp_ne hx hb d_B_feast_36 rfl (by omega) (by omega) (fun h36 => by exfalso; omega) (fun h36 => ?_)
        refine lv_aload_n hx hb d_B_feast_39 rfl (lv_at hl 0 rfl) ?_
        refine va_get (D := D) (cl := CL) (ci := 9) (v := .ref hbA) (C := "DayBook") (T := T_B) (N := 5) hx hb hts in_B hown hK hP 0 rfl rfl 2 (by decide) (hts _ k_206) (fun _ h9 => h9) rfl d_B_feast_40 ?_
        refine lv_iload_n hx hb d_B_feast_43 rfl (lv_at hl 2 rfl) ?_
        refine ai_i2l hx hb d_B_feast_44 (by omega) ?_
        refine ai_ldc2 (x := 3760) hx hb hown (hts _ k_812) (by decide +kernel) d_B_feast_45 ?_
        refine ai_ladd hx hb d_B_feast_48 ?_
        refine ai_iconst hx hb d_B_feast_49 ?_
        refine ai_bipush (x := 15) hx hb d_B_feast_50 (by decide +kernel) ?_
        refine cd_HD (rest := []) hHb (by omega) (by decide) (by decide) hdr hF hl.1 ⟨Nat.le_of_ble_eq_true rfl, Nat.le_of_ble_eq_true rfl⟩ (Nat.le_of_ble_eq_true rfl) d_B_feast_52 ⟨Nat.zero_le _, Nat.zero_le _⟩ ?_
        refine ai_l2i hx hb d_B_feast_55 ?_
        exact ro_iret hx hb hr hlk d_B_feast_56 rfl
      · skip
        exfalso; omega
    · skip
      exfalso; omega
set_option maxHeartbeats 4000000 in
set_option maxRecDepth 100000 in
theorem ct_B_feast_x (l : Launch) (hfl : l.flags = pinnedFlags ++ [noTraceFlag]) (D : va_G) (b : Nat) (cvA : Nat) (jlA : Nat) (hbA : Nat) (csA : Nat) (sbA : Nat) (vbA : Nat) (cA : ClassId) (cB : ClassId) (ca : Nat → Option Nat) (N : Nat) (z : Int) (ml : Int) (tx : Nat → Int) (w : Int) (y : Int) (r_w : -2147483648 ≤ w ∧ w ≤ 2147483647) (r_y : -2147483648 ≤ y ∧ y ≤ 2147483647) (hw : ¬ (0 ≤ w ∧ w ≤ 2)) : MetX l y_B_feast w_B_feast ({ frames := 7, cells := 1, slots := 6, locals := 175 }) (va_Pc [.ref b, .int (iI w), .int (iI y)] (fun U => NV U ∧ (fun U => BkB D b cvA jlA hbA csA sbA vbA cA cB ca N z ml tx U ∧ TSt U) U)) "java/lang/IndexOutOfBoundsException" 1 6 := by
  refine xt_of hfl (by decide +kernel) (Nat.le_of_ble_eq_true rfl) ?_
  intro p e s m below meth c ls htr hxt hx hb hr hts hown hlk hml hl hN hB
  have hown : s.vm.findClass "DayBook" = some m.cls := hown
  have hl : lv_has ls 3 [(0, .ref b), (1, .int (iI w)), (2, .int (iI y))] := hl
  have hF : _ ∧ _ ∧ _ ∧ _ ∧ _ ∧ _ := ⟨hx, hb, hml, hown, hts, hN⟩
  obtain ⟨hBk, hT⟩ := hB
  have hK := hBk.1
  have hP := hBk.2
  refine lv_iload_n hx hb d_B_feast_0 rfl (lv_at hl 1 rfl) ?_
  refine ai_if_lt hx hb d_B_feast_1 rfl (by omega) (fun h1 => ?_) (fun h1 => ?_)
  · skip
    exact xt_throw hx hb htr hown hts hN hT hxt hlk (hl.1.trans hml.symm) xok_IX d_B_feast_9 d_B_feast_12 d_B_feast_13 d_B_feast_16 (Nat.le_of_ble_eq_true rfl) (Nat.le_of_ble_eq_true rfl) (Nat.le_of_ble_eq_true rfl) (Nat.le_of_ble_eq_true rfl)
  · skip
    refine lv_iload_n hx hb d_B_feast_4 rfl (lv_at hl 1 rfl) ?_
    refine ai_iconst hx hb d_B_feast_5 ?_
    refine ai_icmp_le hx hb d_B_feast_6 rfl (by omega) (by omega) (fun h6 => by exfalso; omega) (fun h6 => ?_)
    exact xt_throw hx hb htr hown hts hN hT hxt hlk (hl.1.trans hml.symm) xok_IX d_B_feast_9 d_B_feast_12 d_B_feast_13 d_B_feast_16 (Nat.le_of_ble_eq_true rfl) (Nat.le_of_ble_eq_true rfl) (Nat.le_of_ble_eq_true rfl) (Nat.le_of_ble_eq_true rfl)
set_option maxHeartbeats 4000000 in
set_option maxRecDepth 100000 in
theorem ct_B_feast_a (l : Launch) (hfl : l.flags = pinnedFlags ++ [noTraceFlag]) (D : va_G) (b : Nat) (cvA : Nat) (jlA : Nat) (hbA : Nat) (csA : Nat) (sbA : Nat) (vbA : Nat) (cA : ClassId) (cB : ClassId) (ca : Nat → Option Nat) (N : Nat) (z : Int) (ml : Int) (tx : Nat → Int) (w : Int) (y : Int) (r_w : -2147483648 ≤ w ∧ w ≤ 2147483647) (r_y : -2147483648 ≤ y ∧ y ≤ 2147483647) (hw : 0 ≤ w ∧ w ≤ 2) (hyr : ¬ (-90000 ≤ y ∧ y ≤ 90000)) : MetX l y_B_feast w_B_feast ({ frames := 7, cells := 1, slots := 6, locals := 175 }) (va_Pc [.ref b, .int (iI w), .int (iI y)] (fun U => NV U ∧ (fun U => BkB D b cvA jlA hbA csA sbA vbA cA cB ca N z ml tx U ∧ TSt U) U)) "java/lang/ArithmeticException" 1 6 := by
  refine xt_of hfl (by decide +kernel) (Nat.le_of_ble_eq_true rfl) ?_
  intro p e s m below meth c ls htr hxt hx hb hr hts hown hlk hml hl hN hB
  have hown : s.vm.findClass "DayBook" = some m.cls := hown
  have hl : lv_has ls 3 [(0, .ref b), (1, .int (iI w)), (2, .int (iI y))] := hl
  have hF : _ ∧ _ ∧ _ ∧ _ ∧ _ ∧ _ := ⟨hx, hb, hml, hown, hts, hN⟩
  obtain ⟨hBk, hT⟩ := hB
  have hK := hBk.1
  have hP := hBk.2
  refine lv_iload_n hx hb d_B_feast_0 rfl (lv_at hl 1 rfl) ?_
  refine ai_if_lt hx hb d_B_feast_1 rfl (by omega) (fun h1 => ?_) (fun h1 => ?_)
  · skip
    exfalso; omega
  · skip
    refine lv_iload_n hx hb d_B_feast_4 rfl (lv_at hl 1 rfl) ?_
    refine ai_iconst hx hb d_B_feast_5 ?_
    refine ai_icmp_le hx hb d_B_feast_6 rfl (by omega) (by omega) (fun h6 => ?_) (fun h6 => ?_)
    · skip
      refine lv_iload_n hx hb d_B_feast_17 rfl (lv_at hl 2 rfl) ?_
      refine ai_ldc (x := 90000) hx hb hown (hts _ k_811) (by decide +kernel) d_B_feast_18 ?_
      refine ro_S (rest := []) (ct_B_isWithin l y 90000 (by omega) (by omega)) j_B_isWithin k_701 hF rfl hl.1 rfl ⟨Nat.le_of_ble_eq_true rfl, Nat.le_of_ble_eq_true rfl⟩ (Nat.le_of_ble_eq_true rfl) d_B_feast_20 ⟨Nat.zero_le _, Nat.zero_le _⟩ Bm_true (fun _ _ _ => trivial) ?_
      refine ai_ifneB hx hb d_B_feast_23 rfl (fun h23 => absurd h23 hyr) (fun h23 => ?_)
      exact xt_throw hx hb htr hown hts hN hT hxt hlk (hl.1.trans hml.symm) xok_AR d_B_feast_26 d_B_feast_29 d_B_feast_30 d_B_feast_33 (Nat.le_of_ble_eq_true rfl) (Nat.le_of_ble_eq_true rfl) (Nat.le_of_ble_eq_true rfl) (Nat.le_of_ble_eq_true rfl)
    · skip
      exfalso; omega
