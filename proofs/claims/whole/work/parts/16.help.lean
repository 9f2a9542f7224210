/-! 16.help: laid by program (wip/whole) -/
set_option maxHeartbeats 4000000 in
set_option maxRecDepth 100000 in
theorem ct_B_isInRange (l : Launch) (d : Int) (rd : -9223372036854775808 ≤ d ∧ d ≤ 9223372036854775807) : RO l y_B_isInRange w_B_isInRange 0 0 [.long (iL d)] (fun _ => True) (.int (iI (bI (-40000000 ≤ d ∧ d ≤ 40000000)))) := by
  refine ro_of (by decide +kernel) (Nat.le_of_ble_eq_true rfl) ?_
  intro p e s m below meth c ls hx hb hr hts hown hlk hml hl hN hB
  have hown : s.vm.findClass "DayBook" = some m.cls := hown
  have hl : lv_has ls 2 [(0, .long (iL d))] := hl
  have hF : _ ∧ _ ∧ _ ∧ _ ∧ _ ∧ _ := ⟨hx, hb, hml, hown, hts, hN⟩
  refine lv_lload_n hx hb d_B_isInRange_0 rfl (lv_at hl 0 rfl) ?_
  refine ai_ldc2 (x := -40000000) hx hb hown (hts _ k_227) (by decide +kernel) d_B_isInRange_1 ?_
  refine ai_lcmp_lt hx hb d_B_isInRange_4 d_B_isInRange_5 rfl (by omega) (by omega) (fun h4 => ?_) (fun h4 => ?_)
  · skip
    refine ai_iconst hx hb d_B_isInRange_20 ?_
    exact ro_zret hx hb hr hlk d_B_isInRange_21 (ro_0 (by omega) rfl)
  · skip
    refine lv_lload_n hx hb d_B_isInRange_8 rfl (lv_at hl 0 rfl) ?_
    refine ai_ldc2 (x := 40000000) hx hb hown (hts _ k_228) (by decide +kernel) d_B_isInRange_9 ?_
    refine ai_lcmp_gt hx hb d_B_isInRange_12 d_B_isInRange_13 rfl (by omega) (by omega) (fun h12 => ?_) (fun h12 => ?_)
    · skip
      refine ai_iconst hx hb d_B_isInRange_20 ?_
      exact ro_zret hx hb hr hlk d_B_isInRange_21 (ro_0 (by omega) rfl)
    · skip
      refine ai_iconst hx hb d_B_isInRange_16 ?_
      refine lv_goto hx hb d_B_isInRange_17 rfl ?_
      exact ro_zret hx hb hr hlk d_B_isInRange_21 (ro_1 (by omega) rfl)
set_option maxHeartbeats 4000000 in
set_option maxRecDepth 100000 in
theorem ct_B_isWithin (l : Launch) (y : Int) (n : Int) (ry : -2147483648 ≤ y ∧ y ≤ 2147483647) (rn : 0 ≤ n ∧ n ≤ 2147483647) : RO l y_B_isWithin w_B_isWithin 0 0 [.int (iI y), .int (iI n)] (fun _ => True) (.int (iI (bI (-n ≤ y ∧ y ≤ n)))) := by
  refine ro_of (by decide +kernel) (Nat.le_of_ble_eq_true rfl) ?_
  intro p e s m below meth c ls hx hb hr hts hown hlk hml hl hN hB
  have hown : s.vm.findClass "DayBook" = some m.cls := hown
  have hl : lv_has ls 2 [(0, .int (iI y)), (1, .int (iI n))] := hl
  have hF : _ ∧ _ ∧ _ ∧ _ ∧ _ ∧ _ := ⟨hx, hb, hml, hown, hts, hN⟩
  refine lv_iload_n hx hb d_B_isWithin_0 rfl (lv_at hl 0 rfl) ?_
  refine lv_iload_n hx hb d_B_isWithin_1 rfl (lv_at hl 1 rfl) ?_
  refine ai_ineg hx hb d_B_isWithin_2 ?_
  refine ai_icmp_lt hx hb d_B_isWithin_3 rfl (by omega) (by omega) (fun h3 => ?_) (fun h3 => ?_)
  · skip
    refine ai_iconst hx hb d_B_isWithin_15 ?_
    exact ro_zret hx hb hr hlk d_B_isWithin_16 (ro_0 (by omega) rfl)
  · skip
    refine lv_iload_n hx hb d_B_isWithin_6 rfl (lv_at hl 0 rfl) ?_
    refine lv_iload_n hx hb d_B_isWithin_7 rfl (lv_at hl 1 rfl) ?_
    refine ai_icmp_gt hx hb d_B_isWithin_8 rfl (by omega) (by omega) (fun h8 => ?_) (fun h8 => ?_)
    · skip
      refine ai_iconst hx hb d_B_isWithin_15 ?_
      exact ro_zret hx hb hr hlk d_B_isWithin_16 (ro_0 (by omega) rfl)
    · skip
      refine ai_iconst hx hb d_B_isWithin_11 ?_
      refine lv_goto hx hb d_B_isWithin_12 rfl ?_
      exact ro_zret hx hb hr hlk d_B_isWithin_16 (ro_1 (by omega) rfl)
set_option maxHeartbeats 4000000 in
set_option maxRecDepth 100000 in
theorem ct_B_isDecimal (l : Launch) (k : Int) (rk : -2147483648 ≤ k ∧ k ≤ 2147483647) : RO l y_B_isDecimal w_B_isDecimal 0 0 [.int (iI k)] (fun _ => True) (.int (iI (bI (48 ≤ k ∧ k ≤ 57)))) := by
  refine ro_of (by decide +kernel) (Nat.le_of_ble_eq_true rfl) ?_
  intro p e s m below meth c ls hx hb hr hts hown hlk hml hl hN hB
  have hown : s.vm.findClass "DayBook" = some m.cls := hown
  have hl : lv_has ls 1 [(0, .int (iI k))] := hl
  have hF : _ ∧ _ ∧ _ ∧ _ ∧ _ ∧ _ := ⟨hx, hb, hml, hown, hts, hN⟩
  refine lv_iload_n hx hb d_B_isDecimal_0 rfl (lv_at hl 0 rfl) ?_
  refine ai_bipush (x := 48) hx hb d_B_isDecimal_1 (by decide +kernel) ?_
  refine ai_icmp_lt hx hb d_B_isDecimal_3 rfl (by omega) (by omega) (fun h3 => ?_) (fun h3 => ?_)
  · skip
    refine ai_iconst hx hb d_B_isDecimal_16 ?_
    exact ro_zret hx hb hr hlk d_B_isDecimal_17 (ro_0 (by omega) rfl)
  · skip
    refine lv_iload_n hx hb d_B_isDecimal_6 rfl (lv_at hl 0 rfl) ?_
    refine ai_bipush (x := 57) hx hb d_B_isDecimal_7 (by decide +kernel) ?_
    refine ai_icmp_gt hx hb d_B_isDecimal_9 rfl (by omega) (by omega) (fun h9 => ?_) (fun h9 => ?_)
    · skip
      refine ai_iconst hx hb d_B_isDecimal_16 ?_
      exact ro_zret hx hb hr hlk d_B_isDecimal_17 (ro_0 (by omega) rfl)
    · skip
      refine ai_iconst hx hb d_B_isDecimal_12 ?_
      refine lv_goto hx hb d_B_isDecimal_13 rfl ?_
      exact ro_zret hx hb hr hlk d_B_isDecimal_17 (ro_1 (by omega) rfl)
set_option maxHeartbeats 4000000 in
set_option maxRecDepth 100000 in
theorem ct_B_placeIn365 (l : Launch) (d : Int) (rd : -60000000 ≤ d ∧ d ≤ 60000000) : RO l y_B_placeIn365 w_B_placeIn365 1 22 [.int (iI d)] (fun _ => True) (.int (iI ((d + 1137490) % 365))) := by
  refine ro_of (by decide +kernel) (Nat.le_of_ble_eq_true rfl) ?_
  intro p e s m below meth c ls hx hb hr hts hown hlk hml hl hN hB
  have hown : s.vm.findClass "DayBook" = some m.cls := hown
  have hl : lv_has ls 1 [(0, .int (iI d))] := hl
  have hF : _ ∧ _ ∧ _ ∧ _ ∧ _ ∧ _ := ⟨hx, hb, hml, hown, hts, hN⟩
  refine lv_iload_n hx hb d_B_placeIn365_0 rfl (lv_at hl 0 rfl) ?_
  refine ai_ldc (x := 1137490) hx hb hown (hts _ k_232) (by decide +kernel) d_B_placeIn365_1 ?_
  refine ai_iadd hx hb d_B_placeIn365_3 ?_
  refine ai_sipush (x := 365) hx hb d_B_placeIn365_4 (by decide +kernel) ?_
  refine ro_S (rest := []) (ct_JM_floorMod_III l (d + 1137490) 365 (by omega) (by omega)) j_JM_floorMod_III k_233 hF rfl hl.1 rfl ⟨Nat.le_of_ble_eq_true rfl, Nat.le_of_ble_eq_true rfl⟩ (Nat.le_of_ble_eq_true rfl) d_B_placeIn365_7 ⟨Nat.zero_le _, Nat.zero_le _⟩ Bm_true (fun _ _ _ => trivial) ?_
  exact ro_iret hx hb hr hlk d_B_placeIn365_10 rfl
set_option maxHeartbeats 4000000 in
set_option maxRecDepth 100000 in
theorem ct_B_placeIn260 (l : Launch) (d : Int) (rd : -60000000 ≤ d ∧ d ≤ 60000000) : RO l y_B_placeIn260 w_B_placeIn260 1 22 [.int (iI d)] (fun _ => True) (.int (iI ((d + 1137302) % 260))) := by
  refine ro_of (by decide +kernel) (Nat.le_of_ble_eq_true rfl) ?_
  intro p e s m below meth c ls hx hb hr hts hown hlk hml hl hN hB
  have hown : s.vm.findClass "DayBook" = some m.cls := hown
  have hl : lv_has ls 1 [(0, .int (iI d))] := hl
  have hF : _ ∧ _ ∧ _ ∧ _ ∧ _ ∧ _ := ⟨hx, hb, hml, hown, hts, hN⟩
  refine lv_iload_n hx hb d_B_placeIn260_0 rfl (lv_at hl 0 rfl) ?_
  refine ai_ldc (x := 1137302) hx hb hown (hts _ k_239) (by decide +kernel) d_B_placeIn260_1 ?_
  refine ai_iadd hx hb d_B_placeIn260_3 ?_
  refine ai_sipush (x := 260) hx hb d_B_placeIn260_4 (by decide +kernel) ?_
  refine ro_S (rest := []) (ct_JM_floorMod_III l (d + 1137302) 260 (by omega) (by omega)) j_JM_floorMod_III k_233 hF rfl hl.1 rfl ⟨Nat.le_of_ble_eq_true rfl, Nat.le_of_ble_eq_true rfl⟩ (Nat.le_of_ble_eq_true rfl) d_B_placeIn260_7 ⟨Nat.zero_le _, Nat.zero_le _⟩ Bm_true (fun _ _ _ => trivial) ?_
  exact ro_iret hx hb hr hlk d_B_placeIn260_10 rfl
set_option maxHeartbeats 4000000 in
set_option maxRecDepth 100000 in
theorem ct_B_sundayBehind (l : Launch) (d : Int) (rd : -1000000000000000000 ≤ d ∧ d ≤ 1000000000000000000) : RO l y_B_sundayBehind w_B_sundayBehind 1 25 [.long (iL d)] (fun _ => True) (.long (iL (d + 7 - d % 7))) := by
  refine ro_of (by decide +kernel) (Nat.le_of_ble_eq_true rfl) ?_
  intro p e s m below meth c ls hx hb hr hts hown hlk hml hl hN hB
  have hown : s.vm.findClass "DayBook" = some m.cls := hown
  have hl : lv_has ls 2 [(0, .long (iL d))] := hl
  have hF : _ ∧ _ ∧ _ ∧ _ ∧ _ ∧ _ := ⟨hx, hb, hml, hown, hts, hN⟩
  refine lv_lload_n hx hb d_B_sundayBehind_0 rfl (lv_at hl 0 rfl) ?_
  refine ai_ldc2 (x := 7) hx hb hown (hts _ k_830) (by decide +kernel) d_B_sundayBehind_1 ?_
  refine ai_ladd hx hb d_B_sundayBehind_4 ?_
  refine lv_lload_n hx hb d_B_sundayBehind_5 rfl (lv_at hl 0 rfl) ?_
  refine ai_ldc2 (x := 7) hx hb hown (hts _ k_830) (by decide +kernel) d_B_sundayBehind_6 ?_
  refine ro_S (rest := [.long (iL (d + 7))]) (ct_JM_floorMod_JJJ l d 7 (by omega) (by omega)) j_JM_floorMod_JJJ k_831 hF rfl hl.1 rfl ⟨Nat.le_of_ble_eq_true rfl, Nat.le_of_ble_eq_true rfl⟩ (Nat.le_of_ble_eq_true rfl) d_B_sundayBehind_9 ⟨Nat.zero_le _, Nat.zero_le _⟩ Bm_true (fun _ _ _ => trivial) ?_
  refine ai_lsub hx hb d_B_sundayBehind_12 ?_
  exact ro_lret hx hb hr hlk d_B_sundayBehind_13 (by omega)
set_option maxHeartbeats 4000000 in
set_option maxRecDepth 100000 in
theorem ct_B_packed (l : Launch) (y : Int) (n : Int) (d : Int)  : RO l y_B_packed w_B_packed 0 0 [.long (iL y), .long (iL n), .long (iL d)] (fun _ => True) (.long (iL (y * 65536 + n * 256 + d))) := by
  refine ro_of (by decide +kernel) (Nat.le_of_ble_eq_true rfl) ?_
  intro p e s m below meth c ls hx hb hr hts hown hlk hml hl hN hB
  have hown : s.vm.findClass "DayBook" = some m.cls := hown
  have hl : lv_has ls 6 [(0, .long (iL y)), (2, .long (iL n)), (4, .long (iL d))] := hl
  have hF : _ ∧ _ ∧ _ ∧ _ ∧ _ ∧ _ := ⟨hx, hb, hml, hown, hts, hN⟩
  refine lv_lload_n hx hb d_B_packed_0 rfl (lv_at hl 0 rfl) ?_
  refine ai_ldc2 (x := 65536) hx hb hown (hts _ k_649) (by decide +kernel) d_B_packed_1 ?_
  refine ai_lmul hx hb d_B_packed_4 ?_
  refine lv_lload_n hx hb d_B_packed_5 rfl (lv_at hl 1 rfl) ?_
  refine ai_ldc2 (x := 256) hx hb hown (hts _ k_650) (by decide +kernel) d_B_packed_6 ?_
  refine ai_lmul hx hb d_B_packed_9 ?_
  refine ai_ladd hx hb d_B_packed_10 ?_
  refine lv_lload hx hb d_B_packed_11 (lv_at hl 2 rfl) ?_
  refine ai_ladd hx hb d_B_packed_13 ?_
  exact ro_lret hx hb hr hlk d_B_packed_14 (by omega)
set_option maxHeartbeats 4000000 in
set_option maxRecDepth 100000 in
theorem ct_B_yearIn (l : Launch) (k : Int) (rk : -9223372036854775808 ≤ k ∧ k ≤ 9223372036854775807) : RO l y_B_yearIn w_B_yearIn 0 0 [.long (iL k)] (fun _ => True) (.int (iI (k / 65536))) := by
  refine ro_of (by decide +kernel) (Nat.le_of_ble_eq_true rfl) ?_
  intro p e s m below meth c ls hx hb hr hts hown hlk hml hl hN hB
  have hown : s.vm.findClass "DayBook" = some m.cls := hown
  have hl : lv_has ls 2 [(0, .long (iL k))] := hl
  have hF : _ ∧ _ ∧ _ ∧ _ ∧ _ ∧ _ := ⟨hx, hb, hml, hown, hts, hN⟩
  refine lv_lload_n hx hb d_B_yearIn_0 rfl (lv_at hl 0 rfl) ?_
  refine ai_bipush (x := 16) hx hb d_B_yearIn_1 (by decide +kernel) ?_
  refine ai_lshr hx hb 65536 16 (by decide +kernel) (by decide) d_B_yearIn_3 (by omega) ?_
  refine ai_toL hx hb (b := k / 65536) rfl ?_
  refine ai_l2i hx hb d_B_yearIn_4 ?_
  exact ro_iret hx hb hr hlk d_B_yearIn_5 rfl
set_option maxHeartbeats 4000000 in
set_option maxRecDepth 100000 in
theorem ct_B_monthIn (l : Launch) (k : Int) (rk : -9223372036854775808 ≤ k ∧ k ≤ 9223372036854775807) : RO l y_B_monthIn w_B_monthIn 0 0 [.long (iL k)] (fun _ => True) (.int (iI (k / 256 % 256))) := by
  refine ro_of (by decide +kernel) (Nat.le_of_ble_eq_true rfl) ?_
  intro p e s m below meth c ls hx hb hr hts hown hlk hml hl hN hB
  have hown : s.vm.findClass "DayBook" = some m.cls := hown
  have hl : lv_has ls 2 [(0, .long (iL k))] := hl
  have hF : _ ∧ _ ∧ _ ∧ _ ∧ _ ∧ _ := ⟨hx, hb, hml, hown, hts, hN⟩
  refine lv_lload_n hx hb d_B_monthIn_0 rfl (lv_at hl 0 rfl) ?_
  refine ai_bipush (x := 8) hx hb d_B_monthIn_1 (by decide +kernel) ?_
  refine ai_lshr hx hb 256 8 (by decide +kernel) (by decide) d_B_monthIn_3 (by omega) ?_
  refine ai_toL hx hb (b := k / 256) rfl ?_
  refine ai_l2i hx hb d_B_monthIn_4 ?_
  refine ai_sipush (x := 255) hx hb d_B_monthIn_5 (by decide +kernel) ?_
  refine ai_iand (n := 256) hx hb 8 (by decide +kernel) (by decide) rfl d_B_monthIn_8 ?_
  exact ro_iret hx hb hr hlk d_B_monthIn_9 (by omega)
set_option maxHeartbeats 4000000 in
set_option maxRecDepth 100000 in
theorem ct_B_dayIn (l : Launch) (k : Int) (rk : -9223372036854775808 ≤ k ∧ k ≤ 9223372036854775807) : RO l y_B_dayIn w_B_dayIn 0 0 [.long (iL k)] (fun _ => True) (.int (iI (k % 256))) := by
  refine ro_of (by decide +kernel) (Nat.le_of_ble_eq_true rfl) ?_
  intro p e s m below meth c ls hx hb hr hts hown hlk hml hl hN hB
  have hown : s.vm.findClass "DayBook" = some m.cls := hown
  have hl : lv_has ls 2 [(0, .long (iL k))] := hl
  have hF : _ ∧ _ ∧ _ ∧ _ ∧ _ ∧ _ := ⟨hx, hb, hml, hown, hts, hN⟩
  refine lv_lload_n hx hb d_B_dayIn_0 rfl (lv_at hl 0 rfl) ?_
  refine ai_l2i hx hb d_B_dayIn_1 ?_
  refine ai_sipush (x := 255) hx hb d_B_dayIn_2 (by decide +kernel) ?_
  refine ai_iand (n := 256) hx hb 8 (by decide +kernel) (by decide) rfl d_B_dayIn_5 ?_
  exact ro_iret hx hb hr hlk d_B_dayIn_6 rfl
set_option maxHeartbeats 4000000 in
set_option maxRecDepth 100000 in
theorem ct_B_ceilDiv (l : Launch) (x : Int) (n : Int) (rx : -1000000000000000000 ≤ x ∧ x ≤ 1000000000000000000) (rn : 0 < n ∧ n ≤ 1000000000000) : RO l y_B_ceilDiv w_B_ceilDiv 1 25 [.long (iL x), .long (iL n)] (fun _ => True) (.long (iL (-(-x / n)))) := by
  refine ro_of (by decide +kernel) (Nat.le_of_ble_eq_true rfl) ?_
  intro p e s m below meth c ls hx hb hr hts hown hlk hml hl hN hB
  have hown : s.vm.findClass "DayBook" = some m.cls := hown
  have hl : lv_has ls 4 [(0, .long (iL x)), (2, .long (iL n))] := hl
  have hF : _ ∧ _ ∧ _ ∧ _ ∧ _ ∧ _ := ⟨hx, hb, hml, hown, hts, hN⟩
  refine lv_lload_n hx hb d_B_ceilDiv_0 rfl (lv_at hl 0 rfl) ?_
  refine ai_lneg hx hb d_B_ceilDiv_1 ?_
  refine lv_lload_n hx hb d_B_ceilDiv_2 rfl (lv_at hl 1 rfl) ?_
  refine ro_S (rest := []) (ct_JM_floorDiv_JJJ l (-x) n (by omega) (by omega)) j_JM_floorDiv_JJJ k_663 hF rfl hl.1 rfl ⟨Nat.le_of_ble_eq_true rfl, Nat.le_of_ble_eq_true rfl⟩ (Nat.le_of_ble_eq_true rfl) d_B_ceilDiv_3 ⟨Nat.zero_le _, Nat.zero_le _⟩ Bm_true (fun _ _ _ => trivial) ?_
  refine ai_lneg hx hb d_B_ceilDiv_6 ?_
  exact ro_lret hx hb hr hlk d_B_ceilDiv_7 (by omega)
