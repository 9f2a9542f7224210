/-! 49.bookB: laid by program (wip/whole) -/
set_option maxHeartbeats 4000000 in
set_option maxRecDepth 100000 in
theorem ct_B_onOrBefore (l : Launch) (b : Nat) (w : Int) (d : Int) (r_w : -2147483648 ≤ w ∧ w ≤ 2147483647) (r_d : -2147483648 ≤ d ∧ d ≤ 2147483647) (hw : 0 ≤ w ∧ w ≤ 6) (hd : -40000000 ≤ d ∧ d ≤ 40000000) (hf0 : -40000000 ≤ d - (d - w) % 7 ∧ d - (d - w) % 7 ≤ 40000000) : RO l y_B_onOrBefore w_B_onOrBefore 1 22 [.ref b, .int (iI w), .int (iI d)] (fun _ => True) (.int (iI (d - (d - w) % 7))) := by
  refine ro_of (by decide +kernel) (Nat.le_of_ble_eq_true rfl) ?_
  intro p e s m below meth c ls hx hb hr hts hown hlk hml hl hN hB
  have hown : s.vm.findClass "DayBook" = some m.cls := hown
  have hl : lv_has ls 4 [(0, .ref b), (1, .int (iI w)), (2, .int (iI d))] := hl
  have hF : _ ∧ _ ∧ _ ∧ _ ∧ _ ∧ _ := ⟨hx, hb, hml, hown, hts, hN⟩
  refine lv_iload_n hx hb d_B_onOrBefore_0 rfl (lv_at hl 1 rfl) ?_
  refine ai_if_lt hx hb d_B_onOrBefore_1 rfl (by omega) (fun h1 => ?_) (fun h1 => ?_)
  · skip
    exfalso; omega
  · skip
    refine lv_iload_n hx hb d_B_onOrBefore_4 rfl (lv_at hl 1 rfl) ?_
    refine ai_bipush (x := 6) hx hb d_B_onOrBefore_5 (by decide +kernel) ?_
    refine ai_icmp_le hx hb d_B_onOrBefore_7 rfl (by omega) (by omega) (fun h7 => ?_) (fun h7 => ?_)
    · skip
      refine lv_iload_n hx hb d_B_onOrBefore_18 rfl (lv_at hl 2 rfl) ?_
      refine ai_i2l hx hb d_B_onOrBefore_19 (by omega) ?_
      refine ro_S (rest := []) (ct_B_isInRange l d (by omega)) j_B_isInRange k_224 hF rfl hl.1 rfl ⟨Nat.le_of_ble_eq_true rfl, Nat.le_of_ble_eq_true rfl⟩ (Nat.le_of_ble_eq_true rfl) d_B_onOrBefore_20 ⟨Nat.zero_le _, Nat.zero_le _⟩ Bm_true (fun _ _ _ => trivial) ?_
      refine ai_ifneB hx hb d_B_onOrBefore_23 rfl (fun h23 => ?_) (fun h23 => ?_)
      · skip
        refine lv_iload_n hx hb d_B_onOrBefore_34 rfl (lv_at hl 2 rfl) ?_
        refine lv_iload_n hx hb d_B_onOrBefore_35 rfl (lv_at hl 2 rfl) ?_
        refine lv_iload_n hx hb d_B_onOrBefore_36 rfl (lv_at hl 1 rfl) ?_
        refine ai_isub hx hb d_B_onOrBefore_37 ?_
        refine ai_bipush (x := 7) hx hb d_B_onOrBefore_38 (by decide +kernel) ?_
        refine ro_S (rest := [.int (iI d)]) (ct_JM_floorMod_III l (d - w) 7 (by omega) (by omega)) j_JM_floorMod_III k_233 hF rfl hl.1 rfl ⟨Nat.le_of_ble_eq_true rfl, Nat.le_of_ble_eq_true rfl⟩ (Nat.le_of_ble_eq_true rfl) d_B_onOrBefore_40 ⟨Nat.zero_le _, Nat.zero_le _⟩ Bm_true (fun _ _ _ => trivial) ?_
        refine ai_isub hx hb d_B_onOrBefore_43 ?_
        refine ai_nmI hx hb (fun v44 e44 => ?_)
        refine lv_istore_n (lv' := [(3, .int (iI v44)), (0, .ref b), (1, .int (iI w)), (2, .int (iI d))]) hx hb d_B_onOrBefore_44 rfl hl (by decide) rfl (fun ls hl => ?_)
        refine lv_iload_n hx hb d_B_onOrBefore_45 rfl (lv_at hl 0 rfl) ?_
        refine ai_i2l hx hb d_B_onOrBefore_46 (by omega) ?_
        refine ro_S (rest := []) (ct_B_isInRange l v44 (by omega)) j_B_isInRange k_224 hF rfl hl.1 rfl ⟨Nat.le_of_ble_eq_true rfl, Nat.le_of_ble_eq_true rfl⟩ (Nat.le_of_ble_eq_true rfl) d_B_onOrBefore_47 ⟨Nat.zero_le _, Nat.zero_le _⟩ Bm_true (fun _ _ _ => trivial) ?_
        refine ai_ifneB hx hb d_B_onOrBefore_50 rfl (fun h50 => ?_) (fun h50 => ?_)
        · skip
          refine lv_iload_n hx hb d_B_onOrBefore_61 rfl (lv_at hl 0 rfl) ?_
          exact ro_iret hx hb hr hlk d_B_onOrBefore_62 (by omega)
        · skip
          exfalso; omega
      · skip
        exfalso; omega
    · skip
      exfalso; omega
set_option maxHeartbeats 4000000 in
set_option maxRecDepth 100000 in
theorem ct_B_onOrBefore_i (l : Launch) (hfl : l.flags = pinnedFlags ++ [noTraceFlag]) (b : Nat) (w : Int) (d : Int) (r_w : -2147483648 ≤ w ∧ w ≤ 2147483647) (r_d : -2147483648 ≤ d ∧ d ≤ 2147483647) (hw : ¬ (0 ≤ w ∧ w ≤ 6)) : MetX l y_B_onOrBefore w_B_onOrBefore ({ frames := 6, cells := 1, slots := 6, locals := 100 }) (va_Pc [.ref b, .int (iI w), .int (iI d)] (fun U => NV U ∧ (fun U => TSt U) U)) "java/lang/IllegalArgumentException" 1 6 := by
  refine xt_of hfl (by decide +kernel) (Nat.le_of_ble_eq_true rfl) ?_
  intro p e s m below meth c ls htr hxt hx hb hr hts hown hlk hml hl hN hB
  have hown : s.vm.findClass "DayBook" = some m.cls := hown
  have hl : lv_has ls 4 [(0, .ref b), (1, .int (iI w)), (2, .int (iI d))] := hl
  have hF : _ ∧ _ ∧ _ ∧ _ ∧ _ ∧ _ := ⟨hx, hb, hml, hown, hts, hN⟩
  have hT := hB
  refine lv_iload_n hx hb d_B_onOrBefore_0 rfl (lv_at hl 1 rfl) ?_
  refine ai_if_lt hx hb d_B_onOrBefore_1 rfl (by omega) (fun h1 => ?_) (fun h1 => ?_)
  · skip
    exact xt_throw hx hb htr hown hts hN hT hxt hlk (hl.1.trans hml.symm) xok_IA d_B_onOrBefore_10 d_B_onOrBefore_13 d_B_onOrBefore_14 d_B_onOrBefore_17 (Nat.le_of_ble_eq_true rfl) (Nat.le_of_ble_eq_true rfl) (Nat.le_of_ble_eq_true rfl) (Nat.le_of_ble_eq_true rfl)
  · skip
    refine lv_iload_n hx hb d_B_onOrBefore_4 rfl (lv_at hl 1 rfl) ?_
    refine ai_bipush (x := 6) hx hb d_B_onOrBefore_5 (by decide +kernel) ?_
    refine ai_icmp_le hx hb d_B_onOrBefore_7 rfl (by omega) (by omega) (fun h7 => by exfalso; omega) (fun h7 => ?_)
    exact xt_throw hx hb htr hown hts hN hT hxt hlk (hl.1.trans hml.symm) xok_IA d_B_onOrBefore_10 d_B_onOrBefore_13 d_B_onOrBefore_14 d_B_onOrBefore_17 (Nat.le_of_ble_eq_true rfl) (Nat.le_of_ble_eq_true rfl) (Nat.le_of_ble_eq_true rfl) (Nat.le_of_ble_eq_true rfl)
set_option maxHeartbeats 4000000 in
set_option maxRecDepth 100000 in
theorem ct_B_onOrBefore_a (l : Launch) (hfl : l.flags = pinnedFlags ++ [noTraceFlag]) (b : Nat) (w : Int) (d : Int) (r_w : -2147483648 ≤ w ∧ w ≤ 2147483647) (r_d : -2147483648 ≤ d ∧ d ≤ 2147483647) (hw : 0 ≤ w ∧ w ≤ 6) (hd : ¬ ((-40000000 ≤ d ∧ d ≤ 40000000) ∧ -40000000 ≤ d - (d - w) % 7 ∧ d - (d - w) % 7 ≤ 40000000)) : MetX l y_B_onOrBefore w_B_onOrBefore ({ frames := 6, cells := 1, slots := 6, locals := 100 }) (va_Pc [.ref b, .int (iI w), .int (iI d)] (fun U => NV U ∧ (fun U => TSt U) U)) "java/lang/ArithmeticException" 1 6 := by
  refine xt_of hfl (by decide +kernel) (Nat.le_of_ble_eq_true rfl) ?_
  intro p e s m below meth c ls htr hxt hx hb hr hts hown hlk hml hl hN hB
  have hown : s.vm.findClass "DayBook" = some m.cls := hown
  have hl : lv_has ls 4 [(0, .ref b), (1, .int (iI w)), (2, .int (iI d))] := hl
  have hF : _ ∧ _ ∧ _ ∧ _ ∧ _ ∧ _ := ⟨hx, hb, hml, hown, hts, hN⟩
  have hT := hB
  refine lv_iload_n hx hb d_B_onOrBefore_0 rfl (lv_at hl 1 rfl) ?_
  refine ai_if_lt hx hb d_B_onOrBefore_1 rfl (by omega) (fun h1 => ?_) (fun h1 => ?_)
  · skip
    exfalso; omega
  · skip
    refine lv_iload_n hx hb d_B_onOrBefore_4 rfl (lv_at hl 1 rfl) ?_
    refine ai_bipush (x := 6) hx hb d_B_onOrBefore_5 (by decide +kernel) ?_
    refine ai_icmp_le hx hb d_B_onOrBefore_7 rfl (by omega) (by omega) (fun h7 => ?_) (fun h7 => ?_)
    · skip
      refine lv_iload_n hx hb d_B_onOrBefore_18 rfl (lv_at hl 2 rfl) ?_
      refine ai_i2l hx hb d_B_onOrBefore_19 (by omega) ?_
      refine ro_S (rest := []) (ct_B_isInRange l d (by omega)) j_B_isInRange k_224 hF rfl hl.1 rfl ⟨Nat.le_of_ble_eq_true rfl, Nat.le_of_ble_eq_true rfl⟩ (Nat.le_of_ble_eq_true rfl) d_B_onOrBefore_20 ⟨Nat.zero_le _, Nat.zero_le _⟩ Bm_true (fun _ _ _ => trivial) ?_
      refine ai_ifneB hx hb d_B_onOrBefore_23 rfl (fun h23 => ?_) (fun h23 => ?_)
      · skip
        refine lv_iload_n hx hb d_B_onOrBefore_34 rfl (lv_at hl 2 rfl) ?_
        refine lv_iload_n hx hb d_B_onOrBefore_35 rfl (lv_at hl 2 rfl) ?_
        refine lv_iload_n hx hb d_B_onOrBefore_36 rfl (lv_at hl 1 rfl) ?_
        refine ai_isub hx hb d_B_onOrBefore_37 ?_
        refine ai_bipush (x := 7) hx hb d_B_onOrBefore_38 (by decide +kernel) ?_
        refine ro_S (rest := [.int (iI d)]) (ct_JM_floorMod_III l (d - w) 7 (by omega) (by omega)) j_JM_floorMod_III k_233 hF rfl hl.1 rfl ⟨Nat.le_of_ble_eq_true rfl, Nat.le_of_ble_eq_true rfl⟩ (Nat.le_of_ble_eq_true rfl) d_B_onOrBefore_40 ⟨Nat.zero_le _, Nat.zero_le _⟩ Bm_true (fun _ _ _ => trivial) ?_
        refine ai_isub hx hb d_B_onOrBefore_43 ?_
        refine ai_nmI hx hb (fun v44 e44 => ?_)
        refine lv_istore_n (lv' := [(3, .int (iI v44)), (0, .ref b), (1, .int (iI w)), (2, .int (iI d))]) hx hb d_B_onOrBefore_44 rfl hl (by decide) rfl (fun ls hl => ?_)
        refine lv_iload_n hx hb d_B_onOrBefore_45 rfl (lv_at hl 0 rfl) ?_
        refine ai_i2l hx hb d_B_onOrBefore_46 (by omega) ?_
        refine ro_S (rest := []) (ct_B_isInRange l v44 (by omega)) j_B_isInRange k_224 hF rfl hl.1 rfl ⟨Nat.le_of_ble_eq_true rfl, Nat.le_of_ble_eq_true rfl⟩ (Nat.le_of_ble_eq_true rfl) d_B_onOrBefore_47 ⟨Nat.zero_le _, Nat.zero_le _⟩ Bm_true (fun _ _ _ => trivial) ?_
        refine ai_ifneB hx hb d_B_onOrBefore_50 rfl (fun h50 => ?_) (fun h50 => ?_)
        · skip
          refine lv_iload_n hx hb d_B_onOrBefore_61 rfl (lv_at hl 0 rfl) ?_
          exfalso; omega
        · skip
          exact xt_throw hx hb htr hown hts hN hT hxt hlk (hl.1.trans hml.symm) xok_AR d_B_onOrBefore_53 d_B_onOrBefore_56 d_B_onOrBefore_57 d_B_onOrBefore_60 (Nat.le_of_ble_eq_true rfl) (Nat.le_of_ble_eq_true rfl) (Nat.le_of_ble_eq_true rfl) (Nat.le_of_ble_eq_true rfl)
      · skip
        exact xt_throw hx hb htr hown hts hN hT hxt hlk (hl.1.trans hml.symm) xok_AR d_B_onOrBefore_26 d_B_onOrBefore_29 d_B_onOrBefore_30 d_B_onOrBefore_33 (Nat.le_of_ble_eq_true rfl) (Nat.le_of_ble_eq_true rfl) (Nat.le_of_ble_eq_true rfl) (Nat.le_of_ble_eq_true rfl)
    · skip
      exfalso; omega
set_option maxHeartbeats 4000000 in
set_option maxRecDepth 100000 in
theorem ct_B_rounds (l : Launch) (b : Nat) (d : Int) (r_d : -2147483648 ≤ d ∧ d ≤ 2147483647) : RO l y_B_rounds w_B_rounds 2 42 [.ref b, .int (iI d)] (fun _ => True) (.int (iI (if -40000000 ≤ d ∧ d ≤ 40000000 then (d + 1137490) % 365 + 1000 * ((d + 1137302) % 260) else -2147483648))) := by
  refine ro_of (by decide +kernel) (Nat.le_of_ble_eq_true rfl) ?_
  intro p e s m below meth c ls hx hb hr hts hown hlk hml hl hN hB
  have hown : s.vm.findClass "DayBook" = some m.cls := hown
  have hl : lv_has ls 2 [(0, .ref b), (1, .int (iI d))] := hl
  have hF : _ ∧ _ ∧ _ ∧ _ ∧ _ ∧ _ := ⟨hx, hb, hml, hown, hts, hN⟩
  refine lv_iload_n hx hb d_B_rounds_0 rfl (lv_at hl 1 rfl) ?_
  refine ai_i2l hx hb d_B_rounds_1 (by omega) ?_
  refine ro_S (rest := []) (ct_B_isInRange l d (by omega)) j_B_isInRange k_224 hF rfl hl.1 rfl ⟨Nat.le_of_ble_eq_true rfl, Nat.le_of_ble_eq_true rfl⟩ (Nat.le_of_ble_eq_true rfl) d_B_rounds_2 ⟨Nat.zero_le _, Nat.zero_le _⟩ Bm_true (fun _ _ _ => trivial) ?_
  refine ai_ifeqB hx hb d_B_rounds_5 rfl (fun h5 => ?_) (fun h5 => ?_)
  · skip
    refine ai_ldc (x := -2147483648) hx hb hown (hts _ k_240) (by decide +kernel) d_B_rounds_24 ?_
    exact ro_iret hx hb hr hlk d_B_rounds_26 (by rw [if_neg (by omega)])
  · skip
    refine lv_iload_n hx hb d_B_rounds_8 rfl (lv_at hl 1 rfl) ?_
    refine ro_S (rest := []) (ct_B_placeIn365 l d (by omega)) j_B_placeIn365 k_229 hF rfl hl.1 rfl ⟨Nat.le_of_ble_eq_true rfl, Nat.le_of_ble_eq_true rfl⟩ (Nat.le_of_ble_eq_true rfl) d_B_rounds_9 ⟨Nat.zero_le _, Nat.zero_le _⟩ Bm_true (fun _ _ _ => trivial) ?_
    refine ai_sipush (x := 1000) hx hb d_B_rounds_12 (by decide +kernel) ?_
    refine lv_iload_n hx hb d_B_rounds_15 rfl (lv_at hl 1 rfl) ?_
    refine ro_S (rest := [.int (iI 1000), .int (iI ((d + 1137490) % 365))]) (ct_B_placeIn260 l d (by omega)) j_B_placeIn260 k_236 hF rfl hl.1 rfl ⟨Nat.le_of_ble_eq_true rfl, Nat.le_of_ble_eq_true rfl⟩ (Nat.le_of_ble_eq_true rfl) d_B_rounds_16 ⟨Nat.zero_le _, Nat.zero_le _⟩ Bm_true (fun _ _ _ => trivial) ?_
    refine ai_imul hx hb d_B_rounds_19 ?_
    refine ai_iadd hx hb d_B_rounds_20 ?_
    refine lv_goto hx hb d_B_rounds_21 rfl ?_
    exact ro_iret hx hb hr hlk d_B_rounds_26 (by rw [if_pos (by omega)])
section AIW
variable {p : Program} {l : Launch} {e : Env} {R : Room} {s : State} {m : MethodId} {args : Array Value} {below : List Frame} {meth : Method} {c : Code} {H : Heap} {locs : List Loc} {cells slots : Nat} {Q : State → Prop} {cc : ByteArray} {pc : Nat} {ls : Array Slot} {rest : List Value}
theorem ai_iincw (hexec : p.tables.exec = Jvm.exec) (hb : c.code = cc) {i nL k : Nat} {n a : Int} {lv lv' : List (Nat × Value)} (hdg : decode cc pc = .ok (.iinc i n, 6)) (h : lv_has ls nL lv) (hk : lv[k]? = some (i, .int (iI a))) (hn : i < nL) (hl : (i, Value.int (iI (a + n))) :: lv.filter (fun q => !(q.1 == i) && !(q.1 + 1 == i && q.2.category == 2)) = lv') (kk : ∀ ls' : Array Slot, lv_has ls' nL lv' → W p l e R s m args below meth c H locs cells slots Q (F0 m (pc + 6) ls' rest)) : W p l e R s m args below meth c H locs cells slots Q (F0 m pc ls rest) :=
  lv_iincW hexec hb hdg h hk (iI_add a n) hn hl kk
end AIW
/-- the days on which a row of 365 stands at its place, from the last on backwards: the first of 52 that fits, if it is in range -/
def f0M (pl d : Int) : Int := d - ((d + 1137490) % 365 - pl) % 365
def MTC (pl ot d x : Int) : Prop := (¬ ((0 ≤ pl ∧ pl ≤ 364) ∧ (0 ≤ ot ∧ ot ≤ 259) ∧ (-40000000 ≤ d ∧ d ≤ 40000000)) ∧ x = -2147483648) ∨ (((0 ≤ pl ∧ pl ≤ 364) ∧ (0 ≤ ot ∧ ot ≤ 259) ∧ (-40000000 ≤ d ∧ d ≤ 40000000)) ∧ ((∃ i : Int, (0 ≤ i ∧ i < 52) ∧ (f0M pl d - 365 * i + 1137302) % 260 = ot ∧ (∀ j : Int, 0 ≤ j → j < i → (f0M pl d - 365 * j + 1137302) % 260 ≠ ot) ∧ x = (if -40000000 ≤ f0M pl d - 365 * i ∧ f0M pl d - 365 * i ≤ 40000000 then f0M pl d - 365 * i else -2147483648)) ∨ ((∀ i : Int, 0 ≤ i → i < 52 → (f0M pl d - 365 * i + 1137302) % 260 ≠ ot) ∧ x = -2147483648)))
set_option maxHeartbeats 4000000 in
set_option maxRecDepth 100000 in
theorem ct_B_meeting (l : Launch) (b : Nat) (pl : Int) (ot : Int) (d : Int) (x : Int) (r_pl : -2147483648 ≤ pl ∧ pl ≤ 2147483647) (r_ot : -2147483648 ≤ ot ∧ ot ≤ 2147483647) (r_d : -2147483648 ≤ d ∧ d ≤ 2147483647) (hmt : MTC pl ot d x) : RO l y_B_meeting w_B_meeting 2 42 [.ref b, .int (iI pl), .int (iI ot), .int (iI d)] (fun _ => True) (.int (iI x)) := by
  refine ro_of (by decide +kernel) (Nat.le_of_ble_eq_true rfl) ?_
  intro p e s m below meth c ls hx hb hr hts hown hlk hml hl hN hB
  have hown : s.vm.findClass "DayBook" = some m.cls := hown
  have hl : lv_has ls 6 [(0, .ref b), (1, .int (iI pl)), (2, .int (iI ot)), (3, .int (iI d))] := hl
  have hF : _ ∧ _ ∧ _ ∧ _ ∧ _ ∧ _ := ⟨hx, hb, hml, hown, hts, hN⟩
  have hJ52 : ∀ (N : Nat) (fd : Int) (kk : Int) (ls : Array Slot), lv_has ls 6 [(5, .int (iI kk)), (4, .int (iI fd)), (2, .int (iI ot))] → ((∃ i : Int, (0 ≤ i ∧ i < 52) ∧ (f0M pl d - 365 * i + 1137302) % 260 = ot ∧ (∀ j : Int, 0 ≤ j → j < i → (f0M pl d - 365 * j + 1137302) % 260 ≠ ot) ∧ x = (if -40000000 ≤ f0M pl d - 365 * i ∧ f0M pl d - 365 * i ≤ 40000000 then f0M pl d - 365 * i else -2147483648)) ∨ ((∀ i : Int, 0 ≤ i → i < 52 → (f0M pl d - 365 * i + 1137302) % 260 ≠ ot) ∧ x = -2147483648)) → (0 ≤ kk ∧ kk ≤ 52) → (fd = f0M pl d - 365 * kk) → (-40000400 ≤ f0M pl d ∧ f0M pl d ≤ 40000000) → (∀ j : Int, 0 ≤ j → j < kk → (f0M pl d - 365 * j + 1137302) % 260 ≠ ot) → (52 - kk).toNat < N → W p l e (headSpec w_B_meeting ({ frames := 2, cells := 0, slots := 0, locals := 42 })).room s m [.ref b, .int (iI pl), .int (iI ot), .int (iI d)].toArray below meth c s.heap [] 0 0 (MQ below (k2_QcV (.int (iI x))) [.ref b, .int (iI pl), .int (iI ot), .int (iI d)].toArray s 0 0 (fun _ => False)) (F0 m 52 ls []) := by
    intro N
    induction N with
    | zero => intro _ _ _ _ _ _ _ _ _ hm; exact absurd hm (Nat.not_lt_zero _)
    | succ N ih =>
      intro fd kk ls hl hmt i1 i3 i4 i2 hm
      refine lv_iload hx hb d_B_meeting_52 (lv_at hl 0 rfl) ?_
      refine ai_bipush (x := 52) hx hb d_B_meeting_54 (by decide +kernel) ?_
      refine ai_icmp_ge hx hb d_B_meeting_56 rfl (by omega) (by omega) (fun h56 => ?_) (fun h56 => ?_)
      · skip
        refine ai_ldc (x := -2147483648) hx hb hown (hts _ k_240) (by decide +kernel) d_B_meeting_97 ?_
        exact ro_iret hx hb hr hlk d_B_meeting_99 (by rcases hmt with ⟨i, j1, j2, j3, j4⟩ | ⟨-, q⟩; exact absurd j2 (i2 i (by omega) (by omega)); exact q.symm)
      · skip
        refine lv_iload hx hb d_B_meeting_59 (lv_at hl 1 rfl) ?_
        refine ro_S (rest := []) (ct_B_placeIn260 l fd (by omega)) j_B_placeIn260 k_236 hF rfl hl.1 rfl ⟨Nat.le_of_ble_eq_true rfl, Nat.le_of_ble_eq_true rfl⟩ (Nat.le_of_ble_eq_true rfl) d_B_meeting_61 ⟨Nat.zero_le _, Nat.zero_le _⟩ Bm_true (fun _ _ _ => trivial) ?_
        refine lv_iload_n hx hb d_B_meeting_64 rfl (lv_at hl 2 rfl) ?_
        refine ai_icmp_ne hx hb d_B_meeting_65 rfl (by omega) (by omega) (fun h65 => ?_) (fun h65 => ?_)
        · skip
          refine ai_iincw (k := 1) (lv' := [(4, .int (iI (fd + (-365)))), (5, .int (iI kk)), (2, .int (iI ot))]) hx hb d_B_meeting_85 hl rfl (by decide) rfl (fun ls hl => ?_)
          refine ai_iinc (k := 1) (lv' := [(5, .int (iI (kk + 1))), (4, .int (iI (fd + (-365)))), (2, .int (iI ot))]) hx hb d_B_meeting_91 hl rfl (by decide) rfl (fun ls hl => ?_)
          refine lv_goto hx hb d_B_meeting_94 rfl ?_
          exact ih (fd + (-365)) (kk + 1) _ (lv_sub hl [0, 1, 2] rfl) hmt (by omega) (by omega) i4 (fun j h1 h2 => by by_cases z : j = kk; (subst z; rw [← i3]; exact h65); exact i2 j h1 (by omega)) (by omega)
        · skip
          refine lv_iload hx hb d_B_meeting_68 (lv_at hl 1 rfl) ?_
          refine ai_i2l hx hb d_B_meeting_70 (by omega) ?_
          refine ro_S (rest := []) (ct_B_isInRange l fd (by omega)) j_B_isInRange k_224 hF rfl hl.1 rfl ⟨Nat.le_of_ble_eq_true rfl, Nat.le_of_ble_eq_true rfl⟩ (Nat.le_of_ble_eq_true rfl) d_B_meeting_71 ⟨Nat.zero_le _, Nat.zero_le _⟩ Bm_true (fun _ _ _ => trivial) ?_
          refine ai_ifeqB hx hb d_B_meeting_74 rfl (fun h74 => ?_) (fun h74 => ?_)
          · skip
            refine ai_ldc (x := -2147483648) hx hb hown (hts _ k_240) (by decide +kernel) d_B_meeting_82 ?_
            exact ro_iret hx hb hr hlk d_B_meeting_84 (by rcases hmt with ⟨i, j1, j2, j3, j4⟩ | ⟨q, -⟩; (have ei : i = kk := (by by_cases z1 : i < kk; exact absurd j2 (i2 i (by omega) z1); by_cases z2 : kk < i; exact absurd (by rw [← i3]; exact h65) (j3 kk (by omega) z2); omega); subst ei; rw [← i3] at j4; first | (rw [if_pos h74] at j4; exact j4.symm) | (rw [if_neg h74] at j4; exact j4.symm)); exact absurd (by rw [← i3]; exact h65) (q kk (by omega) (by omega)))
          · skip
            refine lv_iload hx hb d_B_meeting_77 (lv_at hl 1 rfl) ?_
            refine lv_goto hx hb d_B_meeting_79 rfl ?_
            exact ro_iret hx hb hr hlk d_B_meeting_84 (by rcases hmt with ⟨i, j1, j2, j3, j4⟩ | ⟨q, -⟩; (have ei : i = kk := (by by_cases z1 : i < kk; exact absurd j2 (i2 i (by omega) z1); by_cases z2 : kk < i; exact absurd (by rw [← i3]; exact h65) (j3 kk (by omega) z2); omega); subst ei; rw [← i3] at j4; first | (rw [if_pos h74] at j4; exact j4.symm) | (rw [if_neg h74] at j4; exact j4.symm)); exact absurd (by rw [← i3]; exact h65) (q kk (by omega) (by omega)))
  refine lv_iload_n hx hb d_B_meeting_0 rfl (lv_at hl 1 rfl) ?_
  refine ai_if_lt hx hb d_B_meeting_1 rfl (by omega) (fun h1 => ?_) (fun h1 => ?_)
  · skip
    have ex : x = -2147483648 := by rcases hmt with ⟨-, q⟩ | ⟨q, -⟩; exact q; omega
    refine ai_ldc (x := -2147483648) hx hb hown (hts _ k_240) (by decide +kernel) d_B_meeting_30 ?_
    exact ro_iret hx hb hr hlk d_B_meeting_32 ex.symm
  · skip
    refine lv_iload_n hx hb d_B_meeting_4 rfl (lv_at hl 1 rfl) ?_
    refine ai_sipush (x := 365) hx hb d_B_meeting_5 (by decide +kernel) ?_
    refine ai_icmp_ge hx hb d_B_meeting_8 rfl (by omega) (by omega) (fun h8 => ?_) (fun h8 => ?_)
    · skip
      have ex : x = -2147483648 := by rcases hmt with ⟨-, q⟩ | ⟨q, -⟩; exact q; omega
      refine ai_ldc (x := -2147483648) hx hb hown (hts _ k_240) (by decide +kernel) d_B_meeting_30 ?_
      exact ro_iret hx hb hr hlk d_B_meeting_32 ex.symm
    · skip
      refine lv_iload_n hx hb d_B_meeting_11 rfl (lv_at hl 2 rfl) ?_
      refine ai_if_lt hx hb d_B_meeting_12 rfl (by omega) (fun h12 => ?_) (fun h12 => ?_)
      · skip
        have ex : x = -2147483648 := by rcases hmt with ⟨-, q⟩ | ⟨q, -⟩; exact q; omega
        refine ai_ldc (x := -2147483648) hx hb hown (hts _ k_240) (by decide +kernel) d_B_meeting_30 ?_
        exact ro_iret hx hb hr hlk d_B_meeting_32 ex.symm
      · skip
        refine lv_iload_n hx hb d_B_meeting_15 rfl (lv_at hl 2 rfl) ?_
        refine ai_sipush (x := 260) hx hb d_B_meeting_16 (by decide +kernel) ?_
        refine ai_icmp_ge hx hb d_B_meeting_19 rfl (by omega) (by omega) (fun h19 => ?_) (fun h19 => ?_)
        · skip
          have ex : x = -2147483648 := by rcases hmt with ⟨-, q⟩ | ⟨q, -⟩; exact q; omega
          refine ai_ldc (x := -2147483648) hx hb hown (hts _ k_240) (by decide +kernel) d_B_meeting_30 ?_
          exact ro_iret hx hb hr hlk d_B_meeting_32 ex.symm
        · skip
          refine lv_iload_n hx hb d_B_meeting_22 rfl (lv_at hl 3 rfl) ?_
          refine ai_i2l hx hb d_B_meeting_23 (by omega) ?_
          refine ro_S (rest := []) (ct_B_isInRange l d (by omega)) j_B_isInRange k_224 hF rfl hl.1 rfl ⟨Nat.le_of_ble_eq_true rfl, Nat.le_of_ble_eq_true rfl⟩ (Nat.le_of_ble_eq_true rfl) d_B_meeting_24 ⟨Nat.zero_le _, Nat.zero_le _⟩ Bm_true (fun _ _ _ => trivial) ?_
          refine ai_ifneB hx hb d_B_meeting_27 rfl (fun h27 => ?_) (fun h27 => ?_)
          · skip
            replace hmt := (hmt.resolve_left (fun q => q.1 (by omega))).2
            refine lv_iload_n hx hb d_B_meeting_33 rfl (lv_at hl 3 rfl) ?_
            refine lv_iload_n hx hb d_B_meeting_34 rfl (lv_at hl 3 rfl) ?_
            refine ro_S (rest := [.int (iI d)]) (ct_B_placeIn365 l d (by omega)) j_B_placeIn365 k_229 hF rfl hl.1 rfl ⟨Nat.le_of_ble_eq_true rfl, Nat.le_of_ble_eq_true rfl⟩ (Nat.le_of_ble_eq_true rfl) d_B_meeting_35 ⟨Nat.zero_le _, Nat.zero_le _⟩ Bm_true (fun _ _ _ => trivial) ?_
            refine lv_iload_n hx hb d_B_meeting_38 rfl (lv_at hl 1 rfl) ?_
            refine ai_isub hx hb d_B_meeting_39 ?_
            refine ai_sipush (x := 365) hx hb d_B_meeting_40 (by decide +kernel) ?_
            refine ro_S (rest := [.int (iI d)]) (ct_JM_floorMod_III l (((d + 1137490) % 365) - pl) 365 (by omega) (by omega)) j_JM_floorMod_III k_233 hF rfl hl.1 rfl ⟨Nat.le_of_ble_eq_true rfl, Nat.le_of_ble_eq_true rfl⟩ (Nat.le_of_ble_eq_true rfl) d_B_meeting_43 ⟨Nat.zero_le _, Nat.zero_le _⟩ Bm_true (fun _ _ _ => trivial) ?_
            refine ai_isub hx hb d_B_meeting_46 ?_
            refine ai_nmI hx hb (fun v47 e47 => ?_)
            refine lv_istore (lv' := [(4, .int (iI v47)), (0, .ref b), (1, .int (iI pl)), (2, .int (iI ot)), (3, .int (iI d))]) hx hb d_B_meeting_47 hl (by decide) rfl (fun ls hl => ?_)
            refine ai_iconst hx hb d_B_meeting_49 ?_
            refine lv_istore (lv' := [(5, .int (iI 0)), (4, .int (iI v47)), (0, .ref b), (1, .int (iI pl)), (2, .int (iI ot)), (3, .int (iI d))]) hx hb d_B_meeting_50 hl (by decide) rfl (fun ls hl => ?_)
            exact hJ52 _ v47 0 _ (lv_sub hl [0, 1, 4] rfl) hmt (by omega) (by rw [e47]; unfold f0M; omega) (by unfold f0M; omega) (fun j h1 h2 => absurd h2 (by omega)) (Nat.lt_succ_self _)
          · skip
            have ex : x = -2147483648 := by rcases hmt with ⟨-, q⟩ | ⟨q, -⟩; exact q; omega
            refine ai_ldc (x := -2147483648) hx hb hown (hts _ k_240) (by decide +kernel) d_B_meeting_30 ?_
            exact ro_iret hx hb hr hlk d_B_meeting_32 ex.symm
