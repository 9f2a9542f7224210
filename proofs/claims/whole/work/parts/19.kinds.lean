/-! 19.kinds: laid by program (wip/whole) -/
noncomputable def nmH (d : Int) : Int := 12 + bI (355 < d)
noncomputable def maH (pl d : Int) : Int := if pl < 6 then pl + 7 else if 355 < d then (if pl = 6 then 13 else pl - 6) else pl - 5
noncomputable def mlH (M d : Int) : Int := if M = 8 then 29 + bI (d = 355 ∨ d = 385) else if M = 9 then 30 - bI (d = 353 ∨ d = 383) else if M = 12 then 29 + bI (355 < d) else if M = 2 ∨ M = 4 ∨ M = 6 ∨ M = 10 ∨ M = 13 then 29 else 30
noncomputable def laH (pl d : Int) : Int := mlH (maH pl d) d
theorem maH_rng {pl d : Int} (h : 0 ≤ pl ∧ pl < nmH d) : 1 ≤ maH pl d ∧ maH pl d ≤ 13 := by
  unfold maH
  unfold nmH at h
  split
  · omega
  · split
    · rename_i h1 h2
      rw [bI_t h2] at h
      split <;> omega
    · rename_i h1 h2
      rw [bI_f h2] at h
      omega
theorem mlH_7 (d : Int) : mlH 7 d = 30 := rfl
theorem mlH_3 (d : Int) : mlH 3 d = 30 := rfl
set_option maxHeartbeats 4000000 in
set_option maxRecDepth 100000 in
theorem ct_Y_yearAt (l : Launch) (a : Nat) (y : Int)  : RO l y_Y_yearAt w_Y_yearAt 0 0 [.ref a, .long (iL y)] (fun _ => True) (.long (iL y)) := by
  refine ro_of (by decide +kernel) (Nat.le_of_ble_eq_true rfl) ?_
  intro p e s m below meth c ls hx hb hr hts hown hlk hml hl hN hB
  have hown : s.vm.findClass "DayBook$YearCalendar" = some m.cls := hown
  have hl : lv_has ls 3 [(0, .ref a), (1, .long (iL y))] := hl
  have hF : _ ∧ _ ∧ _ ∧ _ ∧ _ ∧ _ := ⟨hx, hb, hml, hown, hts, hN⟩
  refine lv_lload_n hx hb d_Y_yearAt_0 rfl (lv_at hl 1 rfl) ?_
  exact ro_lret hx hb hr hlk d_Y_yearAt_1 rfl
set_option maxHeartbeats 4000000 in
set_option maxRecDepth 100000 in
theorem ct_Y_countOf (l : Launch) (a : Nat) (y : Int)  : RO l y_Y_countOf w_Y_countOf 0 0 [.ref a, .long (iL y)] (fun _ => True) (.long (iL y)) := by
  refine ro_of (by decide +kernel) (Nat.le_of_ble_eq_true rfl) ?_
  intro p e s m below meth c ls hx hb hr hts hown hlk hml hl hN hB
  have hown : s.vm.findClass "DayBook$YearCalendar" = some m.cls := hown
  have hl : lv_has ls 3 [(0, .ref a), (1, .long (iL y))] := hl
  have hF : _ ∧ _ ∧ _ ∧ _ ∧ _ ∧ _ := ⟨hx, hb, hml, hown, hts, hN⟩
  refine lv_lload_n hx hb d_Y_countOf_0 rfl (lv_at hl 1 rfl) ?_
  exact ro_lret hx hb hr hlk d_Y_countOf_1 rfl
set_option maxHeartbeats 4000000 in
set_option maxRecDepth 100000 in
theorem ct_C_hasYear (l : Launch) (a : Nat) (y : Int)  : RO l y_C_hasYear w_C_hasYear 0 0 [.ref a, .long (iL y)] (fun _ => True) (.int (iI (bI True))) := by
  refine ro_of (by decide +kernel) (Nat.le_of_ble_eq_true rfl) ?_
  intro p e s m below meth c ls hx hb hr hts hown hlk hml hl hN hB
  have hown : s.vm.findClass "DayBook$Calendar" = some m.cls := hown
  have hl : lv_has ls 3 [(0, .ref a), (1, .long (iL y))] := hl
  have hF : _ ∧ _ ∧ _ ∧ _ ∧ _ ∧ _ := ⟨hx, hb, hml, hown, hts, hN⟩
  refine ai_iconst hx hb d_C_hasYear_0 ?_
  exact ro_zret hx hb hr hlk d_C_hasYear_1 (ro_1 trivial rfl)
set_option maxHeartbeats 4000000 in
set_option maxRecDepth 100000 in
theorem ct_C_isLeap (l : Launch) (a : Nat) (y : Int)  : RO l y_C_isLeap w_C_isLeap 0 0 [.ref a, .long (iL y)] (fun _ => True) (.int (iI (bI False))) := by
  refine ro_of (by decide +kernel) (Nat.le_of_ble_eq_true rfl) ?_
  intro p e s m below meth c ls hx hb hr hts hown hlk hml hl hN hB
  have hown : s.vm.findClass "DayBook$Calendar" = some m.cls := hown
  have hl : lv_has ls 3 [(0, .ref a), (1, .long (iL y))] := hl
  have hF : _ ∧ _ ∧ _ ∧ _ ∧ _ ∧ _ := ⟨hx, hb, hml, hown, hts, hN⟩
  refine ai_iconst hx hb d_C_isLeap_0 ?_
  exact ro_zret hx hb hr hlk d_C_isLeap_1 (ro_0 (fun h => h) rfl)
set_option maxHeartbeats 4000000 in
set_option maxRecDepth 100000 in
theorem ct_WC_monthsIn (l : Launch) (a : Nat) (d : Int) (rd : -2147483648 ≤ d ∧ d ≤ 2147483647) : RO l y_WC_monthsIn w_WC_monthsIn 0 0 [.ref a, .int (iI d)] (fun _ => True) (.int (iI (Int.tdiv d 7))) := by
  refine ro_of (by decide +kernel) (Nat.le_of_ble_eq_true rfl) ?_
  intro p e s m below meth c ls hx hb hr hts hown hlk hml hl hN hB
  have hown : s.vm.findClass "DayBook$WeekCalendar" = some m.cls := hown
  have hl : lv_has ls 2 [(0, .ref a), (1, .int (iI d))] := hl
  have hF : _ ∧ _ ∧ _ ∧ _ ∧ _ ∧ _ := ⟨hx, hb, hml, hown, hts, hN⟩
  refine lv_iload_n hx hb d_WC_monthsIn_0 rfl (lv_at hl 1 rfl) ?_
  refine ai_bipush (x := 7) hx hb d_WC_monthsIn_1 (by decide +kernel) ?_
  refine ai_idiv hx hb d_WC_monthsIn_3 (by omega) (by omega) (by omega) ?_
  exact ro_iret hx hb hr hlk d_WC_monthsIn_4 rfl
set_option maxHeartbeats 4000000 in
set_option maxRecDepth 100000 in
theorem ct_WC_monthAt (l : Launch) (a : Nat) (pl : Int) (d : Int)  : RO l y_WC_monthAt w_WC_monthAt 0 0 [.ref a, .int (iI pl), .int (iI d)] (fun _ => True) (.int (iI (pl + 1))) := by
  refine ro_of (by decide +kernel) (Nat.le_of_ble_eq_true rfl) ?_
  intro p e s m below meth c ls hx hb hr hts hown hlk hml hl hN hB
  have hown : s.vm.findClass "DayBook$WeekCalendar" = some m.cls := hown
  have hl : lv_has ls 3 [(0, .ref a), (1, .int (iI pl)), (2, .int (iI d))] := hl
  have hF : _ ∧ _ ∧ _ ∧ _ ∧ _ ∧ _ := ⟨hx, hb, hml, hown, hts, hN⟩
  refine lv_iload_n hx hb d_WC_monthAt_0 rfl (lv_at hl 1 rfl) ?_
  refine ai_iconst hx hb d_WC_monthAt_1 ?_
  refine ai_iadd hx hb d_WC_monthAt_2 ?_
  exact ro_iret hx hb hr hlk d_WC_monthAt_3 rfl
set_option maxHeartbeats 4000000 in
set_option maxRecDepth 100000 in
theorem ct_WC_lengthAt (l : Launch) (a : Nat) (pl : Int) (d : Int)  : RO l y_WC_lengthAt w_WC_lengthAt 0 0 [.ref a, .int (iI pl), .int (iI d)] (fun _ => True) (.int (iI 7)) := by
  refine ro_of (by decide +kernel) (Nat.le_of_ble_eq_true rfl) ?_
  intro p e s m below meth c ls hx hb hr hts hown hlk hml hl hN hB
  have hown : s.vm.findClass "DayBook$WeekCalendar" = some m.cls := hown
  have hl : lv_has ls 3 [(0, .ref a), (1, .int (iI pl)), (2, .int (iI d))] := hl
  have hF : _ ∧ _ ∧ _ ∧ _ ∧ _ ∧ _ := ⟨hx, hb, hml, hown, hts, hN⟩
  refine ai_bipush (x := 7) hx hb d_WC_lengthAt_0 (by decide +kernel) ?_
  exact ro_iret hx hb hr hlk d_WC_lengthAt_2 rfl
set_option maxHeartbeats 4000000 in
set_option maxRecDepth 100000 in
theorem ct_HC_monthsIn (l : Launch) (a : Nat) (d : Int) (rd : -2147483648 ≤ d ∧ d ≤ 2147483647) : RO l y_HC_monthsIn w_HC_monthsIn 1 20 [.ref a, .int (iI d)] (fun _ => True) (.int (iI (nmH d))) := by
  refine ro_of (by decide +kernel) (Nat.le_of_ble_eq_true rfl) ?_
  intro p e s m below meth c ls hx hb hr hts hown hlk hml hl hN hB
  have hown : s.vm.findClass "DayBook$HebrewCalendar" = some m.cls := hown
  have hl : lv_has ls 2 [(0, .ref a), (1, .int (iI d))] := hl
  have hF : _ ∧ _ ∧ _ ∧ _ ∧ _ ∧ _ := ⟨hx, hb, hml, hown, hts, hN⟩
  refine lv_iload_n hx hb d_HC_monthsIn_0 rfl (lv_at hl 1 rfl) ?_
  refine ro_S (rest := []) (ct_HC_isLong l d (by omega)) j_HC_isLong k_602 hF rfl hl.1 rfl ⟨Nat.le_of_ble_eq_true rfl, Nat.le_of_ble_eq_true rfl⟩ (Nat.le_of_ble_eq_true rfl) d_HC_monthsIn_1 ⟨Nat.zero_le _, Nat.zero_le _⟩ Bm_true (fun _ _ _ => trivial) ?_
  refine ai_ifeqB hx hb d_HC_monthsIn_4 rfl (fun h4 => ?_) (fun h4 => ?_)
  · skip
    refine ai_bipush (x := 12) hx hb d_HC_monthsIn_12 (by decide +kernel) ?_
    exact ro_iret hx hb hr hlk d_HC_monthsIn_14 (by unfold nmH; rw [bI_f h4]; rfl)
  · skip
    refine ai_bipush (x := 13) hx hb d_HC_monthsIn_7 (by decide +kernel) ?_
    refine lv_goto hx hb d_HC_monthsIn_9 rfl ?_
    exact ro_iret hx hb hr hlk d_HC_monthsIn_14 (by unfold nmH; rw [bI_t h4]; rfl)
set_option maxHeartbeats 4000000 in
set_option maxRecDepth 100000 in
theorem ct_HC_monthAt (l : Launch) (a : Nat) (pl : Int) (d : Int) (hp : 0 ≤ pl ∧ pl ≤ 20) (rd : -2147483648 ≤ d ∧ d ≤ 2147483647) : RO l y_HC_monthAt w_HC_monthAt 1 20 [.ref a, .int (iI pl), .int (iI d)] (fun _ => True) (.int (iI (maH pl d))) := by
  refine ro_of (by decide +kernel) (Nat.le_of_ble_eq_true rfl) ?_
  intro p e s m below meth c ls hx hb hr hts hown hlk hml hl hN hB
  have hown : s.vm.findClass "DayBook$HebrewCalendar" = some m.cls := hown
  have hl : lv_has ls 3 [(0, .ref a), (1, .int (iI pl)), (2, .int (iI d))] := hl
  have hF : _ ∧ _ ∧ _ ∧ _ ∧ _ ∧ _ := ⟨hx, hb, hml, hown, hts, hN⟩
  refine lv_iload_n hx hb d_HC_monthAt_0 rfl (lv_at hl 1 rfl) ?_
  refine ai_bipush (x := 6) hx hb d_HC_monthAt_1 (by decide +kernel) ?_
  refine ai_icmp_ge hx hb d_HC_monthAt_3 rfl (by omega) (by omega) (fun h3 => ?_) (fun h3 => ?_)
  · skip
    refine lv_iload_n hx hb d_HC_monthAt_11 rfl (lv_at hl 2 rfl) ?_
    refine ro_S (rest := []) (ct_HC_isLong l d (by omega)) j_HC_isLong k_602 hF rfl hl.1 rfl ⟨Nat.le_of_ble_eq_true rfl, Nat.le_of_ble_eq_true rfl⟩ (Nat.le_of_ble_eq_true rfl) d_HC_monthAt_12 ⟨Nat.zero_le _, Nat.zero_le _⟩ Bm_true (fun _ _ _ => trivial) ?_
    refine ai_ifneB hx hb d_HC_monthAt_15 rfl (fun h15 => ?_) (fun h15 => ?_)
    · skip
      refine lv_iload_n hx hb d_HC_monthAt_22 rfl (lv_at hl 1 rfl) ?_
      refine ai_bipush (x := 6) hx hb d_HC_monthAt_23 (by decide +kernel) ?_
      refine ai_icmp_ne hx hb d_HC_monthAt_25 rfl (by omega) (by omega) (fun h25 => ?_) (fun h25 => ?_)
      · skip
        refine lv_iload_n hx hb d_HC_monthAt_33 rfl (lv_at hl 1 rfl) ?_
        refine ai_bipush (x := 6) hx hb d_HC_monthAt_34 (by decide +kernel) ?_
        refine ai_isub hx hb d_HC_monthAt_36 ?_
        exact ro_iret hx hb hr hlk d_HC_monthAt_37 (by unfold maH; rw [if_neg (by omega), if_pos h15, if_neg (by omega)])
      · skip
        refine ai_bipush (x := 13) hx hb d_HC_monthAt_28 (by decide +kernel) ?_
        refine lv_goto hx hb d_HC_monthAt_30 rfl ?_
        exact ro_iret hx hb hr hlk d_HC_monthAt_37 (by unfold maH; rw [if_neg (by omega), if_pos h15, if_pos (by omega)])
    · skip
      refine lv_iload_n hx hb d_HC_monthAt_18 rfl (lv_at hl 1 rfl) ?_
      refine ai_iconst hx hb d_HC_monthAt_19 ?_
      refine ai_isub hx hb d_HC_monthAt_20 ?_
      exact ro_iret hx hb hr hlk d_HC_monthAt_21 (by unfold maH; rw [if_neg (by omega), if_neg h15])
  · skip
    refine lv_iload_n hx hb d_HC_monthAt_6 rfl (lv_at hl 1 rfl) ?_
    refine ai_bipush (x := 7) hx hb d_HC_monthAt_7 (by decide +kernel) ?_
    refine ai_iadd hx hb d_HC_monthAt_9 ?_
    exact ro_iret hx hb hr hlk d_HC_monthAt_10 (by unfold maH; rw [if_pos (by omega)])
set_option maxHeartbeats 4000000 in
set_option maxRecDepth 100000 in
theorem ct_HC_lengthAt (l : Launch) (D : va_G) (a : Nat) (pl : Int) (d : Int) (hp : 0 ≤ pl ∧ pl < nmH d) (rd : -2147483648 ≤ d ∧ d ≤ 2147483647) : RO l y_HC_lengthAt w_HC_lengthAt 2 42 [.ref a, .int (iI pl), .int (iI d)] (OB D [(a, .inr (3, []))]) (.int (iI (laH pl d))) := by
  refine ro_of (by decide +kernel) (Nat.le_of_ble_eq_true rfl) ?_
  intro p e s m below meth c ls hx hb hr hts hown hlk hml hl hN hB
  have hown : s.vm.findClass "DayBook$HebrewCalendar" = some m.cls := hown
  have hl : lv_has ls 3 [(0, .ref a), (1, .int (iI pl)), (2, .int (iI d))] := hl
  have hF : _ ∧ _ ∧ _ ∧ _ ∧ _ ∧ _ := ⟨hx, hb, hml, hown, hts, hN⟩
  have hp2 : nmH d ≤ 13 := by unfold nmH; have := bI_01 (355 < d); omega
  refine lv_aload_n hx hb d_HC_lengthAt_0 rfl (lv_at hl 0 rfl) ?_
  refine lv_iload_n hx hb d_HC_lengthAt_1 rfl (lv_at hl 1 rfl) ?_
  refine lv_iload_n hx hb d_HC_lengthAt_2 rfl (lv_at hl 2 rfl) ?_
  refine ro_V (rest := []) (ct_HC_monthAt l a pl d (by omega) (by omega)) j_HC_monthAt k_617 (hts _ s_HC_monthAt) hF (hB.recv 0 rfl rfl) rfl hl.1 rfl ⟨Nat.le_of_ble_eq_true rfl, Nat.le_of_ble_eq_true rfl⟩ (Nat.le_of_ble_eq_true rfl) d_HC_lengthAt_3 ⟨Nat.zero_le _, Nat.zero_le _⟩ Bm_true (fun _ _ _ => trivial) ?_
  refine ai_nmI hx hb (fun vM eM => ?_)
  have hM := maH_rng hp
  have hc : vM = 1 ∨ vM = 2 ∨ vM = 3 ∨ vM = 4 ∨ vM = 5 ∨ vM = 6 ∨ vM = 7 ∨ vM = 8 ∨ vM = 9 ∨ vM = 10 ∨ vM = 11 ∨ vM = 12 ∨ vM = 13 := by omega
  rcases hc with rfl | rfl | rfl | rfl | rfl | rfl | rfl | rfl | rfl | rfl | rfl | rfl | rfl
  · skip
    refine lv_tableOut (tgt := 130) hx hb d_HC_lengthAt_6 (by decide +kernel) rfl ?_
    refine ai_bipush (x := 30) hx hb d_HC_lengthAt_130 (by decide +kernel) ?_
    exact ro_iret hx hb hr hlk d_HC_lengthAt_132 (by unfold laH; rw [← eM]; rfl)
  · skip
    refine lv_tableIn (off := 121) (tgt := 127) hx hb d_HC_lengthAt_6 (by decide +kernel) (by decide +kernel) (by decide +kernel) rfl ?_
    refine ai_bipush (x := 29) hx hb d_HC_lengthAt_127 (by decide +kernel) ?_
    exact ro_iret hx hb hr hlk d_HC_lengthAt_129 (by unfold laH; rw [← eM]; rfl)
  · skip
    refine lv_tableIn (off := 124) (tgt := 130) hx hb d_HC_lengthAt_6 (by decide +kernel) (by decide +kernel) (by decide +kernel) rfl ?_
    refine ai_bipush (x := 30) hx hb d_HC_lengthAt_130 (by decide +kernel) ?_
    exact ro_iret hx hb hr hlk d_HC_lengthAt_132 (by unfold laH; rw [← eM]; rfl)
  · skip
    refine lv_tableIn (off := 121) (tgt := 127) hx hb d_HC_lengthAt_6 (by decide +kernel) (by decide +kernel) (by decide +kernel) rfl ?_
    refine ai_bipush (x := 29) hx hb d_HC_lengthAt_127 (by decide +kernel) ?_
    exact ro_iret hx hb hr hlk d_HC_lengthAt_129 (by unfold laH; rw [← eM]; rfl)
  · skip
    refine lv_tableIn (off := 124) (tgt := 130) hx hb d_HC_lengthAt_6 (by decide +kernel) (by decide +kernel) (by decide +kernel) rfl ?_
    refine ai_bipush (x := 30) hx hb d_HC_lengthAt_130 (by decide +kernel) ?_
    exact ro_iret hx hb hr hlk d_HC_lengthAt_132 (by unfold laH; rw [← eM]; rfl)
  · skip
    refine lv_tableIn (off := 121) (tgt := 127) hx hb d_HC_lengthAt_6 (by decide +kernel) (by decide +kernel) (by decide +kernel) rfl ?_
    refine ai_bipush (x := 29) hx hb d_HC_lengthAt_127 (by decide +kernel) ?_
    exact ro_iret hx hb hr hlk d_HC_lengthAt_129 (by unfold laH; rw [← eM]; rfl)
  · skip
    refine lv_tableIn (off := 124) (tgt := 130) hx hb d_HC_lengthAt_6 (by decide +kernel) (by decide +kernel) (by decide +kernel) rfl ?_
    refine ai_bipush (x := 30) hx hb d_HC_lengthAt_130 (by decide +kernel) ?_
    exact ro_iret hx hb hr hlk d_HC_lengthAt_132 (by unfold laH; rw [← eM]; rfl)
  · skip
    refine lv_tableIn (off := 62) (tgt := 68) hx hb d_HC_lengthAt_6 (by decide +kernel) (by decide +kernel) (by decide +kernel) rfl ?_
    refine lv_iload_n hx hb d_HC_lengthAt_68 rfl (lv_at hl 2 rfl) ?_
    refine ai_sipush (x := 355) hx hb d_HC_lengthAt_69 (by decide +kernel) ?_
    refine ai_icmp_eq hx hb d_HC_lengthAt_72 rfl (by omega) (by omega) (fun h72 => ?_) (fun h72 => ?_)
    · skip
      refine ai_bipush (x := 30) hx hb d_HC_lengthAt_82 (by decide +kernel) ?_
      refine lv_goto hx hb d_HC_lengthAt_84 rfl ?_
      exact ro_iret hx hb hr hlk d_HC_lengthAt_89 (by unfold laH; rw [← eM]; show (30 : Int) = 29 + bI (d = 355 ∨ d = 385); rw [bI_t (by omega)]; rfl)
    · skip
      refine lv_iload_n hx hb d_HC_lengthAt_75 rfl (lv_at hl 2 rfl) ?_
      refine ai_sipush (x := 385) hx hb d_HC_lengthAt_76 (by decide +kernel) ?_
      refine ai_icmp_ne hx hb d_HC_lengthAt_79 rfl (by omega) (by omega) (fun h79 => ?_) (fun h79 => ?_)
      · skip
        refine ai_bipush (x := 29) hx hb d_HC_lengthAt_87 (by decide +kernel) ?_
        exact ro_iret hx hb hr hlk d_HC_lengthAt_89 (by unfold laH; rw [← eM]; show (29 : Int) = 29 + bI (d = 355 ∨ d = 385); rw [bI_f (by omega)]; rfl)
      · skip
        refine ai_bipush (x := 30) hx hb d_HC_lengthAt_82 (by decide +kernel) ?_
        refine lv_goto hx hb d_HC_lengthAt_84 rfl ?_
        exact ro_iret hx hb hr hlk d_HC_lengthAt_89 (by unfold laH; rw [← eM]; show (30 : Int) = 29 + bI (d = 355 ∨ d = 385); rw [bI_t (by omega)]; rfl)
  · skip
    refine lv_tableIn (off := 84) (tgt := 90) hx hb d_HC_lengthAt_6 (by decide +kernel) (by decide +kernel) (by decide +kernel) rfl ?_
    refine lv_iload_n hx hb d_HC_lengthAt_90 rfl (lv_at hl 2 rfl) ?_
    refine ai_sipush (x := 353) hx hb d_HC_lengthAt_91 (by decide +kernel) ?_
    refine ai_icmp_eq hx hb d_HC_lengthAt_94 rfl (by omega) (by omega) (fun h94 => ?_) (fun h94 => ?_)
    · skip
      refine ai_bipush (x := 29) hx hb d_HC_lengthAt_104 (by decide +kernel) ?_
      refine lv_goto hx hb d_HC_lengthAt_106 rfl ?_
      exact ro_iret hx hb hr hlk d_HC_lengthAt_111 (by unfold laH; rw [← eM]; show (29 : Int) = 30 - bI (d = 353 ∨ d = 383); rw [bI_t (by omega)]; rfl)
    · skip
      refine lv_iload_n hx hb d_HC_lengthAt_97 rfl (lv_at hl 2 rfl) ?_
      refine ai_sipush (x := 383) hx hb d_HC_lengthAt_98 (by decide +kernel) ?_
      refine ai_icmp_ne hx hb d_HC_lengthAt_101 rfl (by omega) (by omega) (fun h101 => ?_) (fun h101 => ?_)
      · skip
        refine ai_bipush (x := 30) hx hb d_HC_lengthAt_109 (by decide +kernel) ?_
        exact ro_iret hx hb hr hlk d_HC_lengthAt_111 (by unfold laH; rw [← eM]; show (30 : Int) = 30 - bI (d = 353 ∨ d = 383); rw [bI_f (by omega)]; rfl)
      · skip
        refine ai_bipush (x := 29) hx hb d_HC_lengthAt_104 (by decide +kernel) ?_
        refine lv_goto hx hb d_HC_lengthAt_106 rfl ?_
        exact ro_iret hx hb hr hlk d_HC_lengthAt_111 (by unfold laH; rw [← eM]; show (29 : Int) = 30 - bI (d = 353 ∨ d = 383); rw [bI_t (by omega)]; rfl)
  · skip
    refine lv_tableIn (off := 121) (tgt := 127) hx hb d_HC_lengthAt_6 (by decide +kernel) (by decide +kernel) (by decide +kernel) rfl ?_
    refine ai_bipush (x := 29) hx hb d_HC_lengthAt_127 (by decide +kernel) ?_
    exact ro_iret hx hb hr hlk d_HC_lengthAt_129 (by unfold laH; rw [← eM]; rfl)
  · skip
    refine lv_tableIn (off := 124) (tgt := 130) hx hb d_HC_lengthAt_6 (by decide +kernel) (by decide +kernel) (by decide +kernel) rfl ?_
    refine ai_bipush (x := 30) hx hb d_HC_lengthAt_130 (by decide +kernel) ?_
    exact ro_iret hx hb hr hlk d_HC_lengthAt_132 (by unfold laH; rw [← eM]; rfl)
  · skip
    refine lv_tableIn (off := 106) (tgt := 112) hx hb d_HC_lengthAt_6 (by decide +kernel) (by decide +kernel) (by decide +kernel) rfl ?_
    refine lv_iload_n hx hb d_HC_lengthAt_112 rfl (lv_at hl 2 rfl) ?_
    refine ro_S (rest := []) (ct_HC_isLong l d (by omega)) j_HC_isLong k_602 hF rfl hl.1 rfl ⟨Nat.le_of_ble_eq_true rfl, Nat.le_of_ble_eq_true rfl⟩ (Nat.le_of_ble_eq_true rfl) d_HC_lengthAt_113 ⟨Nat.zero_le _, Nat.zero_le _⟩ Bm_true (fun _ _ _ => trivial) ?_
    refine ai_ifeqB hx hb d_HC_lengthAt_116 rfl (fun h116 => ?_) (fun h116 => ?_)
    · skip
      refine ai_bipush (x := 29) hx hb d_HC_lengthAt_124 (by decide +kernel) ?_
      exact ro_iret hx hb hr hlk d_HC_lengthAt_126 (by unfold laH; rw [← eM]; show (29 : Int) = 29 + bI (355 < d); rw [bI_f h116]; rfl)
    · skip
      refine ai_bipush (x := 30) hx hb d_HC_lengthAt_119 (by decide +kernel) ?_
      refine lv_goto hx hb d_HC_lengthAt_121 rfl ?_
      exact ro_iret hx hb hr hlk d_HC_lengthAt_126 (by unfold laH; rw [← eM]; show (30 : Int) = 29 + bI (355 < d); rw [bI_t h116]; rfl)
  · skip
    refine lv_tableIn (off := 121) (tgt := 127) hx hb d_HC_lengthAt_6 (by decide +kernel) (by decide +kernel) (by decide +kernel) rfl ?_
    refine ai_bipush (x := 29) hx hb d_HC_lengthAt_127 (by decide +kernel) ?_
    exact ro_iret hx hb hr hlk d_HC_lengthAt_129 (by unfold laH; rw [← eM]; rfl)
def WkB (D : va_G) (w a nu le ru : Nat) (lp ep pd : Int) (H0 : Prop) (P : Int → Prop) (L : Int → Int) (fn fl : Nat → Int) (n : Nat) (U : State) : Prop :=
  OB D [(w, .inr (8, [.ref a]))] U ∧ MonB D a nu le ru lp ep pd H0 P L fn fl n U
theorem WkB.m {D : va_G} {w a nu le ru : Nat} {lp ep pd : Int} {H0 : Prop} {P : Int → Prop} {L : Int → Int} {fn fl : Nat → Int} {n : Nat} : Bm (WkB D w a nu le ru lp ep pd H0 P L fn fl n) := Bm.and OB.m MonB.m
set_option maxHeartbeats 4000000 in
set_option maxRecDepth 100000 in
theorem ct_WC_yearStart (l : Launch) (D : va_G) (w : Nat) (a : Nat) (nu : Nat) (le : Nat) (ru : Nat) (lp : Int) (ep : Int) (pd : Int) (H0 : Prop) (P : Int → Prop) (L : Int → Int) (fn : Nat → Int) (fl : Nat → Int) (n : Nat) (y : Int) (ry : -900000000 ≤ y ∧ y ≤ 900000000) (hpd : 0 ≤ pd ∧ pd ≤ 1000) (hep : -1000000 ≤ ep ∧ ep ≤ 1000000) : RO l y_WC_yearStart w_WC_yearStart 3 73 [.ref w, .long (iL y)] (WkB D w a nu le ru lp ep pd H0 P L fn fl n) (.long (iL (wst (ys ep pd L) y))) := by
  refine ro_of (by decide +kernel) (Nat.le_of_ble_eq_true rfl) ?_
  intro p e s m below meth c ls hx hb hr hts hown hlk hml hl hN hB
  have hown : s.vm.findClass "DayBook$WeekCalendar" = some m.cls := hown
  have hl : lv_has ls 5 [(0, .ref w), (1, .long (iL y))] := hl
  have hF : _ ∧ _ ∧ _ ∧ _ ∧ _ ∧ _ := ⟨hx, hb, hml, hown, hts, hN⟩
  have hK := hB.1.1
  have hP := hB.1.2
  have q1 := hB.2.2.1.rng (y := y) (by omega)
  have q2 := hB.2.2.1.rng (y := 1) (by omega)
  have q3 := mul_rng (a := pd) (y := y - 1) hpd (by omega)
  have q4 : ys ep pd L y = ep + pd * (y - 1) + L y - L 1 := rfl
  refine lv_aload_n hx hb d_WC_yearStart_0 rfl (lv_at hl 0 rfl) ?_
  refine va_get (D := D) (cl := CL) (ci := 8) (v := .ref a) (C := "DayBook$WeekCalendar") (T := T_WC) (N := 1) hx hb hts in_WC hown hK hP 0 rfl rfl 0 (by decide) (hts _ k_127) (fun _ h9 => h9) rfl d_WC_yearStart_1 ?_
  refine lv_lload_n hx hb d_WC_yearStart_4 rfl (lv_at hl 1 rfl) ?_
  refine ro_V (rest := []) (ct_MC_yearStart l D a nu le ru lp ep pd H0 P L fn fl n y (by omega) (by omega)) j_MC_yearStart k_587 (hts _ s_MC_yearStart) hF (hB.2.1.recv 0 rfl rfl) rfl hl.1 rfl ⟨Nat.le_of_ble_eq_true rfl, Nat.le_of_ble_eq_true rfl⟩ (Nat.le_of_ble_eq_true rfl) d_WC_yearStart_5 ⟨Nat.zero_le _, Nat.zero_le _⟩ MonB.m (fun U h1 h2 => MonB.m.2 s U h1 h2 hB.2) ?_
  refine ai_ldc2 (x := 3) hx hb hown (hts _ k_588) (by decide +kernel) d_WC_yearStart_8 ?_
  refine ai_ladd hx hb d_WC_yearStart_11 ?_
  refine ai_nmL hx hb (fun v12 e12 => ?_)
  refine lv_lstore_n (lv' := [(3, .long (iL v12)), (0, .ref w), (1, .long (iL y))]) hx hb d_WC_yearStart_12 rfl hl (by decide) rfl (fun ls hl => ?_)
  refine lv_lload_n hx hb d_WC_yearStart_13 rfl (lv_at hl 0 rfl) ?_
  refine lv_lload_n hx hb d_WC_yearStart_14 rfl (lv_at hl 0 rfl) ?_
  refine ai_lconst (x := 1) hx hb d_WC_yearStart_15 (by decide +kernel) ?_
  refine ai_lsub hx hb d_WC_yearStart_16 ?_
  refine ai_ldc2 (x := 7) hx hb hown (hts _ k_589) (by decide +kernel) d_WC_yearStart_17 ?_
  refine ro_S (rest := [.long (iL v12)]) (ct_JM_floorMod_JJJ l (v12 - 1) 7 (by omega) (by omega)) j_JM_floorMod_JJJ k_590 hF rfl hl.1 rfl ⟨Nat.le_of_ble_eq_true rfl, Nat.le_of_ble_eq_true rfl⟩ (Nat.le_of_ble_eq_true rfl) d_WC_yearStart_20 ⟨Nat.zero_le _, Nat.zero_le _⟩ Bm_true (fun _ _ _ => trivial) ?_
  refine ai_lsub hx hb d_WC_yearStart_23 ?_
  exact ro_lret hx hb hr hlk d_WC_yearStart_24 (by unfold wst; rw [e12])
