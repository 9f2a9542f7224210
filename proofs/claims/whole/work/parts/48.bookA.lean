/-! 48.bookA: laid by program (wip/whole) -/
def CS (ca : Nat → Option Nat) (cal : Int) (q : Nat) : Prop := (0 ≤ cal ∧ cal < 14) ∧ ca (Int.toNat cal) = some q
def CN (ca : Nat → Option Nat) (cal : Int) : Prop := ¬ (0 ≤ cal ∧ cal < 14) ∨ ca (Int.toNat cal) = none
set_option maxHeartbeats 4000000 in
set_option maxRecDepth 100000 in
theorem ct_B_calendarAt_s (l : Launch) (D : va_G) (b : Nat) (cvA : Nat) (jlA : Nat) (hbA : Nat) (csA : Nat) (sbA : Nat) (vbA : Nat) (cA : ClassId) (cB : ClassId) (ca : Nat → Option Nat) (N : Nat) (z : Int) (ml : Int) (tx : Nat → Int) (cal : Int) (q : Nat) (rc : -2147483648 ≤ cal ∧ cal ≤ 2147483647) (hcs : CS ca cal q) : RO l y_B_calendarAt w_B_calendarAt 0 0 [.ref b, .int (iI cal)] (fun U => BkB D b cvA jlA hbA csA sbA vbA cA cB ca N z ml tx U) (.ref q) := by
  refine ro_of (by decide +kernel) (Nat.le_of_ble_eq_true rfl) ?_
  intro p e s m below meth c ls hx hb hr hts hown hlk hml hl hN hB
  have hown : s.vm.findClass "DayBook" = some m.cls := hown
  have hl : lv_has ls 2 [(0, .ref b), (1, .int (iI cal))] := hl
  have hF : _ ∧ _ ∧ _ ∧ _ ∧ _ ∧ _ := ⟨hx, hb, hml, hown, hts, hN⟩
  have hBk := hB
  have hK := hBk.1
  have hP := hBk.2
  have hc0 := hcs.1
  refine lv_iload_n hx hb d_B_calendarAt_0 rfl (lv_at hl 1 rfl) ?_
  refine ai_if_lt hx hb d_B_calendarAt_1 rfl (by omega) (fun h1 => by exfalso; omega) (fun h1 => ?_)
  refine lv_iload_n hx hb d_B_calendarAt_4 rfl (lv_at hl 1 rfl) ?_
  refine ai_bipush (x := 14) hx hb d_B_calendarAt_5 (by decide +kernel) ?_
  refine ai_icmp_ge hx hb d_B_calendarAt_7 rfl (by omega) (by omega) (fun h7 => by exfalso; omega) (fun h7 => ?_)
  refine lv_aload_n hx hb d_B_calendarAt_10 rfl (lv_at hl 0 rfl) ?_
  refine va_get (D := D) (cl := CL) (ci := 9) (v := .ref csA) (C := "DayBook") (T := T_B) (N := 5) hx hb hts in_B hown hK hP 0 rfl rfl 3 (by decide) (hts _ k_207) (fun _ h9 => h9) rfl d_B_calendarAt_11 ?_
  refine lv_iload_n hx hb d_B_calendarAt_14 rfl (lv_at hl 1 rfl) ?_
  refine va_aldq hx hb hK hP 1 0 rfl rfl (iI_in (by omega) (by omega) (by decide)) d_B_calendarAt_15 ?_
  rw [iI_clT (by omega) (by omega)]
  refine lv_goto hx hb d_B_calendarAt_16 rfl ?_
  exact ro_aret hx hb hr (Or.inl ⟨_, rfl⟩) hlk d_B_calendarAt_20 (by cases (ca (Int.toNat cal)) with | none => exact Or.inl rfl | some q9 => exact Or.inr ⟨q9, rfl⟩) (by rw [hcs.2]; rfl)
set_option maxHeartbeats 4000000 in
set_option maxRecDepth 100000 in
theorem ct_B_calendarAt_n (l : Launch) (D : va_G) (b : Nat) (cvA : Nat) (jlA : Nat) (hbA : Nat) (csA : Nat) (sbA : Nat) (vbA : Nat) (cA : ClassId) (cB : ClassId) (ca : Nat → Option Nat) (N : Nat) (z : Int) (ml : Int) (tx : Nat → Int) (cal : Int) (rc : -2147483648 ≤ cal ∧ cal ≤ 2147483647) (hcn : CN ca cal) : RO l y_B_calendarAt w_B_calendarAt 0 0 [.ref b, .int (iI cal)] (fun U => BkB D b cvA jlA hbA csA sbA vbA cA cB ca N z ml tx U) (.null) := by
  refine ro_of (by decide +kernel) (Nat.le_of_ble_eq_true rfl) ?_
  intro p e s m below meth c ls hx hb hr hts hown hlk hml hl hN hB
  have hown : s.vm.findClass "DayBook" = some m.cls := hown
  have hl : lv_has ls 2 [(0, .ref b), (1, .int (iI cal))] := hl
  have hF : _ ∧ _ ∧ _ ∧ _ ∧ _ ∧ _ := ⟨hx, hb, hml, hown, hts, hN⟩
  have hBk := hB
  have hK := hBk.1
  have hP := hBk.2
  refine lv_iload_n hx hb d_B_calendarAt_0 rfl (lv_at hl 1 rfl) ?_
  refine ai_if_lt hx hb d_B_calendarAt_1 rfl (by omega) (fun h1 => ?_) (fun h1 => ?_)
  · skip
    refine lv_null hx hb d_B_calendarAt_19 ?_
    exact ro_aret hx hb hr (Or.inl ⟨_, rfl⟩) hlk d_B_calendarAt_20 (Or.inl rfl) rfl
  · skip
    refine lv_iload_n hx hb d_B_calendarAt_4 rfl (lv_at hl 1 rfl) ?_
    refine ai_bipush (x := 14) hx hb d_B_calendarAt_5 (by decide +kernel) ?_
    refine ai_icmp_ge hx hb d_B_calendarAt_7 rfl (by omega) (by omega) (fun h7 => ?_) (fun h7 => ?_)
    · skip
      refine lv_null hx hb d_B_calendarAt_19 ?_
      exact ro_aret hx hb hr (Or.inl ⟨_, rfl⟩) hlk d_B_calendarAt_20 (Or.inl rfl) rfl
    · skip
      refine lv_aload_n hx hb d_B_calendarAt_10 rfl (lv_at hl 0 rfl) ?_
      refine va_get (D := D) (cl := CL) (ci := 9) (v := .ref csA) (C := "DayBook") (T := T_B) (N := 5) hx hb hts in_B hown hK hP 0 rfl rfl 3 (by decide) (hts _ k_207) (fun _ h9 => h9) rfl d_B_calendarAt_11 ?_
      refine lv_iload_n hx hb d_B_calendarAt_14 rfl (lv_at hl 1 rfl) ?_
      refine va_aldq hx hb hK hP 1 0 rfl rfl (iI_in (by omega) (by omega) (by decide)) d_B_calendarAt_15 ?_
      rw [iI_clT (by omega) (by omega)]
      refine lv_goto hx hb d_B_calendarAt_16 rfl ?_
      exact ro_aret hx hb hr (Or.inl ⟨_, rfl⟩) hlk d_B_calendarAt_20 (by cases (ca (Int.toNat cal)) with | none => exact Or.inl rfl | some q9 => exact Or.inr ⟨q9, rfl⟩) (by rw [hcn.resolve_left (fun q => q (by omega))]; rfl)
set_option maxHeartbeats 4000000 in
set_option maxRecDepth 100000 in
theorem ct_B_date (l : Launch) (D : va_G) (b : Nat) (cvA : Nat) (jlA : Nat) (hbA : Nat) (csA : Nat) (sbA : Nat) (vbA : Nat) (cA : ClassId) (cB : ClassId) (ca : Nat → Option Nat) (N : Nat) (z : Int) (ml : Int) (tx : Nat → Int) (cal : Int) (d : Int) (w : Int) (q : Nat) (DT : Int → Int → Prop) (DR : Int → Int → Int → Int → Prop) (hy : Int → Prop) (x : Int) (r_cal : -2147483648 ≤ cal ∧ cal ≤ 2147483647) (r_d : -2147483648 ≤ d ∧ d ≤ 2147483647) (r_w : -2147483648 ≤ w ∧ w ≤ 2147483647) (hcs : CS ca cal q) (hw : 0 ≤ w ∧ w ≤ 2) (hd : -40000000 ≤ d ∧ d ≤ 40000000) (hdt : DT d x) (rx : -9223372036854775808 ≤ x ∧ x ≤ 9223372036854775807) : RO l y_B_date w_B_date 6 152 [.ref b, .int (iI cal), .int (iI d), .int (iI w)] (fun U => BkB D b cvA jlA hbA csA sbA vbA cA cB ca N z ml tx U ∧ CAL D q DT DR hy U) (.int (iI (if w = 0 then x / 65536 else if w = 1 then x / 256 % 256 else x % 256))) := by
  refine ro_of (by decide +kernel) (Nat.le_of_ble_eq_true rfl) ?_
  intro p e s m below meth c ls hx hb hr hts hown hlk hml hl hN hB
  have hown : s.vm.findClass "DayBook" = some m.cls := hown
  have hl : lv_has ls 7 [(0, .ref b), (1, .int (iI cal)), (2, .int (iI d)), (3, .int (iI w))] := hl
  have hF : _ ∧ _ ∧ _ ∧ _ ∧ _ ∧ _ := ⟨hx, hb, hml, hown, hts, hN⟩
  obtain ⟨hBk, hC⟩ := hB
  have hK := hBk.1
  have hP := hBk.2
  refine lv_aload_n hx hb d_B_date_0 rfl (lv_at hl 0 rfl) ?_
  refine lv_iload_n hx hb d_B_date_1 rfl (lv_at hl 1 rfl) ?_
  refine ro_V (rest := []) (ct_B_calendarAt_s l D b cvA jlA hbA csA sbA vbA cA cB ca N z ml tx cal q (by omega) hcs) j_B_calendarAt k_496 (hts _ s_B_calendarAt) hF hBk.recv rfl hl.1 rfl ⟨Nat.le_of_ble_eq_true rfl, Nat.le_of_ble_eq_true rfl⟩ (Nat.le_of_ble_eq_true rfl) d_B_date_2 ⟨Nat.zero_le _, Nat.zero_le _⟩ BkB.m (fun U h1 h2 => BkB.m.2 s U h1 h2 hBk) ?_
  refine lv_astore (lv' := [(4, .ref q), (0, .ref b), (1, .int (iI cal)), (2, .int (iI d)), (3, .int (iI w))]) hx hb d_B_date_5 hl (by decide) rfl (fun ls hl => ?_)
  refine lv_aload hx hb d_B_date_7 (lv_at hl 0 rfl) ?_
  refine lv_ifnull hx hb d_B_date_9 ?_
  refine lv_iload_n hx hb d_B_date_12 rfl (lv_at hl 4 rfl) ?_
  refine ai_if_lt hx hb d_B_date_13 rfl (by omega) (fun h13 => ?_) (fun h13 => ?_)
  · skip
    exfalso; omega
  · skip
    refine lv_iload_n hx hb d_B_date_16 rfl (lv_at hl 4 rfl) ?_
    refine ai_iconst hx hb d_B_date_17 ?_
    refine ai_icmp_le hx hb d_B_date_18 rfl (by omega) (by omega) (fun h18 => ?_) (fun h18 => ?_)
    · skip
      refine lv_iload_n hx hb d_B_date_29 rfl (lv_at hl 3 rfl) ?_
      refine ai_i2l hx hb d_B_date_30 (by omega) ?_
      refine ro_S (rest := []) (ct_B_isInRange l d (by omega)) j_B_isInRange k_224 hF rfl hl.1 rfl ⟨Nat.le_of_ble_eq_true rfl, Nat.le_of_ble_eq_true rfl⟩ (Nat.le_of_ble_eq_true rfl) d_B_date_31 ⟨Nat.zero_le _, Nat.zero_le _⟩ Bm_true (fun _ _ _ => trivial) ?_
      refine ai_ifneB hx hb d_B_date_34 rfl (fun h34 => ?_) (fun h34 => ?_)
      · skip
        refine lv_aload hx hb d_B_date_45 (lv_at hl 0 rfl) ?_
        refine lv_iload_n hx hb d_B_date_47 rfl (lv_at hl 3 rfl) ?_
        refine ai_i2l hx hb d_B_date_48 (by omega) ?_
        refine cd_DT (rest := []) hC (by omega) hdt hF hl.1 ⟨Nat.le_of_ble_eq_true rfl, Nat.le_of_ble_eq_true rfl⟩ (Nat.le_of_ble_eq_true rfl) d_B_date_49 ⟨Nat.zero_le _, Nat.zero_le _⟩ ?_
        refine lv_lstore (lv' := [(5, .long (iL x)), (4, .ref q), (0, .ref b), (1, .int (iI cal)), (2, .int (iI d)), (3, .int (iI w))]) hx hb d_B_date_52 hl (by decide) rfl (fun ls hl => ?_)
        refine lv_iload_n hx hb d_B_date_54 rfl (lv_at hl 5 rfl) ?_
        refine ai_if_ne hx hb d_B_date_55 rfl (by omega) (fun h55 => ?_) (fun h55 => ?_)
        · skip
          refine lv_iload_n hx hb d_B_date_64 rfl (lv_at hl 5 rfl) ?_
          refine ai_iconst hx hb d_B_date_65 ?_
          refine ai_icmp_ne hx hb d_B_date_66 rfl (by omega) (by omega) (fun h66 => ?_) (fun h66 => ?_)
          · skip
            refine lv_lload hx hb d_B_date_77 (lv_at hl 0 rfl) ?_
            refine ro_S (rest := []) (ct_B_dayIn l x (by omega)) j_B_dayIn k_690 hF rfl hl.1 rfl ⟨Nat.le_of_ble_eq_true rfl, Nat.le_of_ble_eq_true rfl⟩ (Nat.le_of_ble_eq_true rfl) d_B_date_79 ⟨Nat.zero_le _, Nat.zero_le _⟩ Bm_true (fun _ _ _ => trivial) ?_
            exact ro_iret hx hb hr hlk d_B_date_82 (by rw [if_neg (by omega), if_neg (by omega)])
          · skip
            refine lv_lload hx hb d_B_date_69 (lv_at hl 0 rfl) ?_
            refine ro_S (rest := []) (ct_B_monthIn l x (by omega)) j_B_monthIn k_687 hF rfl hl.1 rfl ⟨Nat.le_of_ble_eq_true rfl, Nat.le_of_ble_eq_true rfl⟩ (Nat.le_of_ble_eq_true rfl) d_B_date_71 ⟨Nat.zero_le _, Nat.zero_le _⟩ Bm_true (fun _ _ _ => trivial) ?_
            refine lv_goto hx hb d_B_date_74 rfl ?_
            exact ro_iret hx hb hr hlk d_B_date_82 (by rw [if_neg (by omega), if_pos (by omega)])
        · skip
          refine lv_lload hx hb d_B_date_58 (lv_at hl 0 rfl) ?_
          refine ro_S (rest := []) (ct_B_yearIn l x (by omega)) j_B_yearIn k_684 hF rfl hl.1 rfl ⟨Nat.le_of_ble_eq_true rfl, Nat.le_of_ble_eq_true rfl⟩ (Nat.le_of_ble_eq_true rfl) d_B_date_60 ⟨Nat.zero_le _, Nat.zero_le _⟩ Bm_true (fun _ _ _ => trivial) ?_
          exact ro_iret hx hb hr hlk d_B_date_63 (by rw [if_pos (by omega)])
      · skip
        exfalso; omega
    · skip
      exfalso; omega
set_option maxHeartbeats 4000000 in
set_option maxRecDepth 100000 in
theorem ct_B_date_n (l : Launch) (hfl : l.flags = pinnedFlags ++ [noTraceFlag]) (D : va_G) (b : Nat) (cvA : Nat) (jlA : Nat) (hbA : Nat) (csA : Nat) (sbA : Nat) (vbA : Nat) (cA : ClassId) (cB : ClassId) (ca : Nat → Option Nat) (N : Nat) (z : Int) (ml : Int) (tx : Nat → Int) (cal : Int) (d : Int) (w : Int) (r_cal : -2147483648 ≤ cal ∧ cal ≤ 2147483647) (r_d : -2147483648 ≤ d ∧ d ≤ 2147483647) (r_w : -2147483648 ≤ w ∧ w ≤ 2147483647) (hcn : CN ca cal) : MetX l y_B_date w_B_date ({ frames := 6, cells := 1, slots := 6, locals := 152 }) (va_Pc [.ref b, .int (iI cal), .int (iI d), .int (iI w)] (fun U => NV U ∧ (fun U => BkB D b cvA jlA hbA csA sbA vbA cA cB ca N z ml tx U ∧ TSt U) U)) "java/lang/IndexOutOfBoundsException" 1 6 := by
  refine xt_of hfl (by decide +kernel) (Nat.le_of_ble_eq_true rfl) ?_
  intro p e s m below meth c ls htr hxt hx hb hr hts hown hlk hml hl hN hB
  have hown : s.vm.findClass "DayBook" = some m.cls := hown
  have hl : lv_has ls 7 [(0, .ref b), (1, .int (iI cal)), (2, .int (iI d)), (3, .int (iI w))] := hl
  have hF : _ ∧ _ ∧ _ ∧ _ ∧ _ ∧ _ := ⟨hx, hb, hml, hown, hts, hN⟩
  obtain ⟨hBk, hT⟩ := hB
  have hK := hBk.1
  have hP := hBk.2
  refine lv_aload_n hx hb d_B_date_0 rfl (lv_at hl 0 rfl) ?_
  refine lv_iload_n hx hb d_B_date_1 rfl (lv_at hl 1 rfl) ?_
  refine ro_V (rest := []) (ct_B_calendarAt_n l D b cvA jlA hbA csA sbA vbA cA cB ca N z ml tx cal (by omega) hcn) j_B_calendarAt k_496 (hts _ s_B_calendarAt) hF hBk.recv rfl hl.1 rfl ⟨Nat.le_of_ble_eq_true rfl, Nat.le_of_ble_eq_true rfl⟩ (Nat.le_of_ble_eq_true rfl) d_B_date_2 ⟨Nat.zero_le _, Nat.zero_le _⟩ BkB.m (fun U h1 h2 => BkB.m.2 s U h1 h2 hBk) ?_
  refine lv_astoreN (lv' := [(4, .null), (0, .ref b), (1, .int (iI cal)), (2, .int (iI d)), (3, .int (iI w))]) hx hb d_B_date_5 hl (by decide) rfl (fun ls hl => ?_)
  refine lv_aloadN hx hb d_B_date_7 (lv_at hl 0 rfl) ?_
  refine lv_ifnullN hx hb d_B_date_9 rfl ?_
  exact xt_throw hx hb htr hown hts hN hT hxt hlk (hl.1.trans hml.symm) xok_IX d_B_date_21 d_B_date_24 d_B_date_25 d_B_date_28 (Nat.le_of_ble_eq_true rfl) (Nat.le_of_ble_eq_true rfl) (Nat.le_of_ble_eq_true rfl) (Nat.le_of_ble_eq_true rfl)
set_option maxHeartbeats 4000000 in
set_option maxRecDepth 100000 in
theorem ct_B_date_w (l : Launch) (hfl : l.flags = pinnedFlags ++ [noTraceFlag]) (D : va_G) (b : Nat) (cvA : Nat) (jlA : Nat) (hbA : Nat) (csA : Nat) (sbA : Nat) (vbA : Nat) (cA : ClassId) (cB : ClassId) (ca : Nat → Option Nat) (N : Nat) (z : Int) (ml : Int) (tx : Nat → Int) (cal : Int) (d : Int) (w : Int) (q : Nat) (r_cal : -2147483648 ≤ cal ∧ cal ≤ 2147483647) (r_d : -2147483648 ≤ d ∧ d ≤ 2147483647) (r_w : -2147483648 ≤ w ∧ w ≤ 2147483647) (hcs : CS ca cal q) (hw : ¬ (0 ≤ w ∧ w ≤ 2)) : MetX l y_B_date w_B_date ({ frames := 6, cells := 1, slots := 6, locals := 152 }) (va_Pc [.ref b, .int (iI cal), .int (iI d), .int (iI w)] (fun U => NV U ∧ (fun U => BkB D b cvA jlA hbA csA sbA vbA cA cB ca N z ml tx U ∧ TSt U) U)) "java/lang/IndexOutOfBoundsException" 1 6 := by
  refine xt_of hfl (by decide +kernel) (Nat.le_of_ble_eq_true rfl) ?_
  intro p e s m below meth c ls htr hxt hx hb hr hts hown hlk hml hl hN hB
  have hown : s.vm.findClass "DayBook" = some m.cls := hown
  have hl : lv_has ls 7 [(0, .ref b), (1, .int (iI cal)), (2, .int (iI d)), (3, .int (iI w))] := hl
  have hF : _ ∧ _ ∧ _ ∧ _ ∧ _ ∧ _ := ⟨hx, hb, hml, hown, hts, hN⟩
  obtain ⟨hBk, hT⟩ := hB
  have hK := hBk.1
  have hP := hBk.2
  refine lv_aload_n hx hb d_B_date_0 rfl (lv_at hl 0 rfl) ?_
  refine lv_iload_n hx hb d_B_date_1 rfl (lv_at hl 1 rfl) ?_
  refine ro_V (rest := []) (ct_B_calendarAt_s l D b cvA jlA hbA csA sbA vbA cA cB ca N z ml tx cal q (by omega) hcs) j_B_calendarAt k_496 (hts _ s_B_calendarAt) hF hBk.recv rfl hl.1 rfl ⟨Nat.le_of_ble_eq_true rfl, Nat.le_of_ble_eq_true rfl⟩ (Nat.le_of_ble_eq_true rfl) d_B_date_2 ⟨Nat.zero_le _, Nat.zero_le _⟩ BkB.m (fun U h1 h2 => BkB.m.2 s U h1 h2 hBk) ?_
  refine lv_astore (lv' := [(4, .ref q), (0, .ref b), (1, .int (iI cal)), (2, .int (iI d)), (3, .int (iI w))]) hx hb d_B_date_5 hl (by decide) rfl (fun ls hl => ?_)
  refine lv_aload hx hb d_B_date_7 (lv_at hl 0 rfl) ?_
  refine lv_ifnull hx hb d_B_date_9 ?_
  refine lv_iload_n hx hb d_B_date_12 rfl (lv_at hl 4 rfl) ?_
  refine ai_if_lt hx hb d_B_date_13 rfl (by omega) (fun h13 => ?_) (fun h13 => ?_)
  · skip
    exact xt_throw hx hb htr hown hts hN hT hxt hlk (hl.1.trans hml.symm) xok_IX d_B_date_21 d_B_date_24 d_B_date_25 d_B_date_28 (Nat.le_of_ble_eq_true rfl) (Nat.le_of_ble_eq_true rfl) (Nat.le_of_ble_eq_true rfl) (Nat.le_of_ble_eq_true rfl)
  · skip
    refine lv_iload_n hx hb d_B_date_16 rfl (lv_at hl 4 rfl) ?_
    refine ai_iconst hx hb d_B_date_17 ?_
    refine ai_icmp_le hx hb d_B_date_18 rfl (by omega) (by omega) (fun h18 => by exfalso; omega) (fun h18 => ?_)
    exact xt_throw hx hb htr hown hts hN hT hxt hlk (hl.1.trans hml.symm) xok_IX d_B_date_21 d_B_date_24 d_B_date_25 d_B_date_28 (Nat.le_of_ble_eq_true rfl) (Nat.le_of_ble_eq_true rfl) (Nat.le_of_ble_eq_true rfl) (Nat.le_of_ble_eq_true rfl)
set_option maxHeartbeats 4000000 in
set_option maxRecDepth 100000 in
theorem ct_B_date_a (l : Launch) (hfl : l.flags = pinnedFlags ++ [noTraceFlag]) (D : va_G) (b : Nat) (cvA : Nat) (jlA : Nat) (hbA : Nat) (csA : Nat) (sbA : Nat) (vbA : Nat) (cA : ClassId) (cB : ClassId) (ca : Nat → Option Nat) (N : Nat) (z : Int) (ml : Int) (tx : Nat → Int) (cal : Int) (d : Int) (w : Int) (q : Nat) (r_cal : -2147483648 ≤ cal ∧ cal ≤ 2147483647) (r_d : -2147483648 ≤ d ∧ d ≤ 2147483647) (r_w : -2147483648 ≤ w ∧ w ≤ 2147483647) (hcs : CS ca cal q) (hw : 0 ≤ w ∧ w ≤ 2) (hd : ¬ (-40000000 ≤ d ∧ d ≤ 40000000)) : MetX l y_B_date w_B_date ({ frames := 6, cells := 1, slots := 6, locals := 152 }) (va_Pc [.ref b, .int (iI cal), .int (iI d), .int (iI w)] (fun U => NV U ∧ (fun U => BkB D b cvA jlA hbA csA sbA vbA cA cB ca N z ml tx U ∧ TSt U) U)) "java/lang/ArithmeticException" 1 6 := by
  refine xt_of hfl (by decide +kernel) (Nat.le_of_ble_eq_true rfl) ?_
  intro p e s m below meth c ls htr hxt hx hb hr hts hown hlk hml hl hN hB
  have hown : s.vm.findClass "DayBook" = some m.cls := hown
  have hl : lv_has ls 7 [(0, .ref b), (1, .int (iI cal)), (2, .int (iI d)), (3, .int (iI w))] := hl
  have hF : _ ∧ _ ∧ _ ∧ _ ∧ _ ∧ _ := ⟨hx, hb, hml, hown, hts, hN⟩
  obtain ⟨hBk, hT⟩ := hB
  have hK := hBk.1
  have hP := hBk.2
  refine lv_aload_n hx hb d_B_date_0 rfl (lv_at hl 0 rfl) ?_
  refine lv_iload_n hx hb d_B_date_1 rfl (lv_at hl 1 rfl) ?_
  refine ro_V (rest := []) (ct_B_calendarAt_s l D b cvA jlA hbA csA sbA vbA cA cB ca N z ml tx cal q (by omega) hcs) j_B_calendarAt k_496 (hts _ s_B_calendarAt) hF hBk.recv rfl hl.1 rfl ⟨Nat.le_of_ble_eq_true rfl, Nat.le_of_ble_eq_true rfl⟩ (Nat.le_of_ble_eq_true rfl) d_B_date_2 ⟨Nat.zero_le _, Nat.zero_le _⟩ BkB.m (fun U h1 h2 => BkB.m.2 s U h1 h2 hBk) ?_
  refine lv_astore (lv' := [(4, .ref q), (0, .ref b), (1, .int (iI cal)), (2, .int (iI d)), (3, .int (iI w))]) hx hb d_B_date_5 hl (by decide) rfl (fun ls hl => ?_)
  refine lv_aload hx hb d_B_date_7 (lv_at hl 0 rfl) ?_
  refine lv_ifnull hx hb d_B_date_9 ?_
  refine lv_iload_n hx hb d_B_date_12 rfl (lv_at hl 4 rfl) ?_
  refine ai_if_lt hx hb d_B_date_13 rfl (by omega) (fun h13 => ?_) (fun h13 => ?_)
  · skip
    exfalso; omega
  · skip
    refine lv_iload_n hx hb d_B_date_16 rfl (lv_at hl 4 rfl) ?_
    refine ai_iconst hx hb d_B_date_17 ?_
    refine ai_icmp_le hx hb d_B_date_18 rfl (by omega) (by omega) (fun h18 => ?_) (fun h18 => ?_)
    · skip
      refine lv_iload_n hx hb d_B_date_29 rfl (lv_at hl 3 rfl) ?_
      refine ai_i2l hx hb d_B_date_30 (by omega) ?_
      refine ro_S (rest := []) (ct_B_isInRange l d (by omega)) j_B_isInRange k_224 hF rfl hl.1 rfl ⟨Nat.le_of_ble_eq_true rfl, Nat.le_of_ble_eq_true rfl⟩ (Nat.le_of_ble_eq_true rfl) d_B_date_31 ⟨Nat.zero_le _, Nat.zero_le _⟩ Bm_true (fun _ _ _ => trivial) ?_
      refine ai_ifneB hx hb d_B_date_34 rfl (fun h34 => absurd h34 hd) (fun h34 => ?_)
      exact xt_throw hx hb htr hown hts hN hT hxt hlk (hl.1.trans hml.symm) xok_AR d_B_date_37 d_B_date_40 d_B_date_41 d_B_date_44 (Nat.le_of_ble_eq_true rfl) (Nat.le_of_ble_eq_true rfl) (Nat.le_of_ble_eq_true rfl) (Nat.le_of_ble_eq_true rfl)
    · skip
      exfalso; omega
set_option maxHeartbeats 4000000 in
set_option maxRecDepth 100000 in
theorem ct_B_fixed (l : Launch) (D : va_G) (b : Nat) (cvA : Nat) (jlA : Nat) (hbA : Nat) (csA : Nat) (sbA : Nat) (vbA : Nat) (cA : ClassId) (cB : ClassId) (ca : Nat → Option Nat) (N : Nat) (z : Int) (ml : Int) (tx : Nat → Int) (cal : Int) (y : Int) (mn : Int) (dd : Int) (q : Nat) (DT : Int → Int → Prop) (DR : Int → Int → Int → Int → Prop) (hy : Int → Prop) (r : Int) (r_cal : -2147483648 ≤ cal ∧ cal ≤ 2147483647) (r_y : -2147483648 ≤ y ∧ y ≤ 2147483647) (r_mn : -2147483648 ≤ mn ∧ mn ≤ 2147483647) (r_dd : -2147483648 ≤ dd ∧ dd ≤ 2147483647) (hcs : CS ca cal q) (hyr : -100000 ≤ y ∧ y ≤ 100000) (hdr : DR y mn dd r) (hn : r ≠ -9223372036854775808) (hir : -40000000 ≤ r ∧ r ≤ 40000000) : RO l y_B_fixed w_B_fixed 6 151 [.ref b, .int (iI cal), .int (iI y), .int (iI mn), .int (iI dd)] (fun U => BkB D b cvA jlA hbA csA sbA vbA cA cB ca N z ml tx U ∧ CAL D q DT DR hy U) (.int (iI r)) := by
  refine ro_of (by decide +kernel) (Nat.le_of_ble_eq_true rfl) ?_
  intro p e s m below meth c ls hx hb hr hts hown hlk hml hl hN hB
  have hown : s.vm.findClass "DayBook" = some m.cls := hown
  have hl : lv_has ls 8 [(0, .ref b), (1, .int (iI cal)), (2, .int (iI y)), (3, .int (iI mn)), (4, .int (iI dd))] := hl
  have hF : _ ∧ _ ∧ _ ∧ _ ∧ _ ∧ _ := ⟨hx, hb, hml, hown, hts, hN⟩
  obtain ⟨hBk, hC⟩ := hB
  have hK := hBk.1
  have hP := hBk.2
  refine lv_aload_n hx hb d_B_fixed_0 rfl (lv_at hl 0 rfl) ?_
  refine lv_iload_n hx hb d_B_fixed_1 rfl (lv_at hl 1 rfl) ?_
  refine ro_V (rest := []) (ct_B_calendarAt_s l D b cvA jlA hbA csA sbA vbA cA cB ca N z ml tx cal q (by omega) hcs) j_B_calendarAt k_496 (hts _ s_B_calendarAt) hF hBk.recv rfl hl.1 rfl ⟨Nat.le_of_ble_eq_true rfl, Nat.le_of_ble_eq_true rfl⟩ (Nat.le_of_ble_eq_true rfl) d_B_fixed_2 ⟨Nat.zero_le _, Nat.zero_le _⟩ BkB.m (fun U h1 h2 => BkB.m.2 s U h1 h2 hBk) ?_
  refine lv_astore (lv' := [(5, .ref q), (0, .ref b), (1, .int (iI cal)), (2, .int (iI y)), (3, .int (iI mn)), (4, .int (iI dd))]) hx hb d_B_fixed_5 hl (by decide) rfl (fun ls hl => ?_)
  refine lv_aload hx hb d_B_fixed_7 (lv_at hl 0 rfl) ?_
  refine lv_ifnonnull hx hb d_B_fixed_9 rfl ?_
  refine lv_iload_n hx hb d_B_fixed_20 rfl (lv_at hl 3 rfl) ?_
  refine ai_ldc (x := 100000) hx hb hown (hts _ k_700) (by decide +kernel) d_B_fixed_21 ?_
  refine ro_S (rest := []) (ct_B_isWithin l y 100000 (by omega) (by omega)) j_B_isWithin k_701 hF rfl hl.1 rfl ⟨Nat.le_of_ble_eq_true rfl, Nat.le_of_ble_eq_true rfl⟩ (Nat.le_of_ble_eq_true rfl) d_B_fixed_23 ⟨Nat.zero_le _, Nat.zero_le _⟩ Bm_true (fun _ _ _ => trivial) ?_
  refine ai_ifneB hx hb d_B_fixed_26 rfl (fun h26 => ?_) (fun h26 => ?_)
  · skip
    refine lv_aload hx hb d_B_fixed_37 (lv_at hl 0 rfl) ?_
    refine lv_iload_n hx hb d_B_fixed_39 rfl (lv_at hl 3 rfl) ?_
    refine ai_i2l hx hb d_B_fixed_40 (by omega) ?_
    refine lv_iload_n hx hb d_B_fixed_41 rfl (lv_at hl 4 rfl) ?_
    refine lv_iload hx hb d_B_fixed_42 (lv_at hl 5 rfl) ?_
    refine cd_DR (rest := []) hC (by omega) (by omega) (by omega) hdr hF hl.1 ⟨Nat.le_of_ble_eq_true rfl, Nat.le_of_ble_eq_true rfl⟩ (Nat.le_of_ble_eq_true rfl) d_B_fixed_44 ⟨Nat.zero_le _, Nat.zero_le _⟩ ?_
    refine lv_lstore (lv' := [(6, .long (iL r)), (5, .ref q), (0, .ref b), (1, .int (iI cal)), (2, .int (iI y)), (3, .int (iI mn)), (4, .int (iI dd))]) hx hb d_B_fixed_47 hl (by decide) rfl (fun ls hl => ?_)
    refine lv_lload hx hb d_B_fixed_49 (lv_at hl 0 rfl) ?_
    refine ai_ldc2 (x := -9223372036854775808) hx hb hown (hts _ k_741) (by decide +kernel) d_B_fixed_51 ?_
    refine ai_lcmp_ne hx hb d_B_fixed_54 d_B_fixed_55 rfl (by omega) (by omega) (fun h54 => ?_) (fun h54 => ?_)
    · skip
      refine lv_lload hx hb d_B_fixed_66 (lv_at hl 0 rfl) ?_
      refine ro_S (rest := []) (ct_B_isInRange l r (by omega)) j_B_isInRange k_224 hF rfl hl.1 rfl ⟨Nat.le_of_ble_eq_true rfl, Nat.le_of_ble_eq_true rfl⟩ (Nat.le_of_ble_eq_true rfl) d_B_fixed_68 ⟨Nat.zero_le _, Nat.zero_le _⟩ Bm_true (fun _ _ _ => trivial) ?_
      refine ai_ifneB hx hb d_B_fixed_71 rfl (fun h71 => ?_) (fun h71 => ?_)
      · skip
        refine lv_lload hx hb d_B_fixed_82 (lv_at hl 0 rfl) ?_
        refine ai_l2i hx hb d_B_fixed_84 ?_
        exact ro_iret hx hb hr hlk d_B_fixed_85 rfl
      · skip
        exfalso; omega
    · skip
      exfalso; omega
  · skip
    exfalso; omega
set_option maxHeartbeats 4000000 in
set_option maxRecDepth 100000 in
theorem ct_B_fixed_n (l : Launch) (hfl : l.flags = pinnedFlags ++ [noTraceFlag]) (D : va_G) (b : Nat) (cvA : Nat) (jlA : Nat) (hbA : Nat) (csA : Nat) (sbA : Nat) (vbA : Nat) (cA : ClassId) (cB : ClassId) (ca : Nat → Option Nat) (N : Nat) (z : Int) (ml : Int) (tx : Nat → Int) (cal : Int) (y : Int) (mn : Int) (dd : Int) (r_cal : -2147483648 ≤ cal ∧ cal ≤ 2147483647) (r_y : -2147483648 ≤ y ∧ y ≤ 2147483647) (r_mn : -2147483648 ≤ mn ∧ mn ≤ 2147483647) (r_dd : -2147483648 ≤ dd ∧ dd ≤ 2147483647) (hcn : CN ca cal) : MetX l y_B_fixed w_B_fixed ({ frames := 6, cells := 1, slots := 6, locals := 151 }) (va_Pc [.ref b, .int (iI cal), .int (iI y), .int (iI mn), .int (iI dd)] (fun U => NV U ∧ (fun U => BkB D b cvA jlA hbA csA sbA vbA cA cB ca N z ml tx U ∧ TSt U) U)) "java/lang/IndexOutOfBoundsException" 1 6 := by
  refine xt_of hfl (by decide +kernel) (Nat.le_of_ble_eq_true rfl) ?_
  intro p e s m below meth c ls htr hxt hx hb hr hts hown hlk hml hl hN hB
  have hown : s.vm.findClass "DayBook" = some m.cls := hown
  have hl : lv_has ls 8 [(0, .ref b), (1, .int (iI cal)), (2, .int (iI y)), (3, .int (iI mn)), (4, .int (iI dd))] := hl
  have hF : _ ∧ _ ∧ _ ∧ _ ∧ _ ∧ _ := ⟨hx, hb, hml, hown, hts, hN⟩
  obtain ⟨hBk, hT⟩ := hB
  have hK := hBk.1
  have hP := hBk.2
  refine lv_aload_n hx hb d_B_fixed_0 rfl (lv_at hl 0 rfl) ?_
  refine lv_iload_n hx hb d_B_fixed_1 rfl (lv_at hl 1 rfl) ?_
  refine ro_V (rest := []) (ct_B_calendarAt_n l D b cvA jlA hbA csA sbA vbA cA cB ca N z ml tx cal (by omega) hcn) j_B_calendarAt k_496 (hts _ s_B_calendarAt) hF hBk.recv rfl hl.1 rfl ⟨Nat.le_of_ble_eq_true rfl, Nat.le_of_ble_eq_true rfl⟩ (Nat.le_of_ble_eq_true rfl) d_B_fixed_2 ⟨Nat.zero_le _, Nat.zero_le _⟩ BkB.m (fun U h1 h2 => BkB.m.2 s U h1 h2 hBk) ?_
  refine lv_astoreN (lv' := [(5, .null), (0, .ref b), (1, .int (iI cal)), (2, .int (iI y)), (3, .int (iI mn)), (4, .int (iI dd))]) hx hb d_B_fixed_5 hl (by decide) rfl (fun ls hl => ?_)
  refine lv_aloadN hx hb d_B_fixed_7 (lv_at hl 0 rfl) ?_
  refine lv_ifnonnullN hx hb d_B_fixed_9 ?_
  exact xt_throw hx hb htr hown hts hN hT hxt hlk (hl.1.trans hml.symm) xok_IX d_B_fixed_12 d_B_fixed_15 d_B_fixed_16 d_B_fixed_19 (Nat.le_of_ble_eq_true rfl) (Nat.le_of_ble_eq_true rfl) (Nat.le_of_ble_eq_true rfl) (Nat.le_of_ble_eq_true rfl)
set_option maxHeartbeats 4000000 in
set_option maxRecDepth 100000 in
theorem ct_B_fixed_y (l : Launch) (hfl : l.flags = pinnedFlags ++ [noTraceFlag]) (D : va_G) (b : Nat) (cvA : Nat) (jlA : Nat) (hbA : Nat) (csA : Nat) (sbA : Nat) (vbA : Nat) (cA : ClassId) (cB : ClassId) (ca : Nat → Option Nat) (N : Nat) (z : Int) (ml : Int) (tx : Nat → Int) (cal : Int) (y : Int) (mn : Int) (dd : Int) (q : Nat) (r_cal : -2147483648 ≤ cal ∧ cal ≤ 2147483647) (r_y : -2147483648 ≤ y ∧ y ≤ 2147483647) (r_mn : -2147483648 ≤ mn ∧ mn ≤ 2147483647) (r_dd : -2147483648 ≤ dd ∧ dd ≤ 2147483647) (hcs : CS ca cal q) (hyr : ¬ (-100000 ≤ y ∧ y ≤ 100000)) : MetX l y_B_fixed w_B_fixed ({ frames := 6, cells := 1, slots := 6, locals := 151 }) (va_Pc [.ref b, .int (iI cal), .int (iI y), .int (iI mn), .int (iI dd)] (fun U => NV U ∧ (fun U => BkB D b cvA jlA hbA csA sbA vbA cA cB ca N z ml tx U ∧ TSt U) U)) "java/lang/ArithmeticException" 1 6 := by
  refine xt_of hfl (by decide +kernel) (Nat.le_of_ble_eq_true rfl) ?_
  intro p e s m below meth c ls htr hxt hx hb hr hts hown hlk hml hl hN hB
  have hown : s.vm.findClass "DayBook" = some m.cls := hown
  have hl : lv_has ls 8 [(0, .ref b), (1, .int (iI cal)), (2, .int (iI y)), (3, .int (iI mn)), (4, .int (iI dd))] := hl
  have hF : _ ∧ _ ∧ _ ∧ _ ∧ _ ∧ _ := ⟨hx, hb, hml, hown, hts, hN⟩
  obtain ⟨hBk, hT⟩ := hB
  have hK := hBk.1
  have hP := hBk.2
  refine lv_aload_n hx hb d_B_fixed_0 rfl (lv_at hl 0 rfl) ?_
  refine lv_iload_n hx hb d_B_fixed_1 rfl (lv_at hl 1 rfl) ?_
  refine ro_V (rest := []) (ct_B_calendarAt_s l D b cvA jlA hbA csA sbA vbA cA cB ca N z ml tx cal q (by omega) hcs) j_B_calendarAt k_496 (hts _ s_B_calendarAt) hF hBk.recv rfl hl.1 rfl ⟨Nat.le_of_ble_eq_true rfl, Nat.le_of_ble_eq_true rfl⟩ (Nat.le_of_ble_eq_true rfl) d_B_fixed_2 ⟨Nat.zero_le _, Nat.zero_le _⟩ BkB.m (fun U h1 h2 => BkB.m.2 s U h1 h2 hBk) ?_
  refine lv_astore (lv' := [(5, .ref q), (0, .ref b), (1, .int (iI cal)), (2, .int (iI y)), (3, .int (iI mn)), (4, .int (iI dd))]) hx hb d_B_fixed_5 hl (by decide) rfl (fun ls hl => ?_)
  refine lv_aload hx hb d_B_fixed_7 (lv_at hl 0 rfl) ?_
  refine lv_ifnonnull hx hb d_B_fixed_9 rfl ?_
  refine lv_iload_n hx hb d_B_fixed_20 rfl (lv_at hl 3 rfl) ?_
  refine ai_ldc (x := 100000) hx hb hown (hts _ k_700) (by decide +kernel) d_B_fixed_21 ?_
  refine ro_S (rest := []) (ct_B_isWithin l y 100000 (by omega) (by omega)) j_B_isWithin k_701 hF rfl hl.1 rfl ⟨Nat.le_of_ble_eq_true rfl, Nat.le_of_ble_eq_true rfl⟩ (Nat.le_of_ble_eq_true rfl) d_B_fixed_23 ⟨Nat.zero_le _, Nat.zero_le _⟩ Bm_true (fun _ _ _ => trivial) ?_
  refine ai_ifneB hx hb d_B_fixed_26 rfl (fun h26 => absurd h26 hyr) (fun h26 => ?_)
  exact xt_throw hx hb htr hown hts hN hT hxt hlk (hl.1.trans hml.symm) xok_AR d_B_fixed_29 d_B_fixed_32 d_B_fixed_33 d_B_fixed_36 (Nat.le_of_ble_eq_true rfl) (Nat.le_of_ble_eq_true rfl) (Nat.le_of_ble_eq_true rfl) (Nat.le_of_ble_eq_true rfl)
set_option maxHeartbeats 4000000 in
set_option maxRecDepth 100000 in
theorem ct_B_fixed_i (l : Launch) (hfl : l.flags = pinnedFlags ++ [noTraceFlag]) (D : va_G) (b : Nat) (cvA : Nat) (jlA : Nat) (hbA : Nat) (csA : Nat) (sbA : Nat) (vbA : Nat) (cA : ClassId) (cB : ClassId) (ca : Nat → Option Nat) (N : Nat) (z : Int) (ml : Int) (tx : Nat → Int) (cal : Int) (y : Int) (mn : Int) (dd : Int) (q : Nat) (DT : Int → Int → Prop) (DR : Int → Int → Int → Int → Prop) (hy : Int → Prop) (r : Int) (r_cal : -2147483648 ≤ cal ∧ cal ≤ 2147483647) (r_y : -2147483648 ≤ y ∧ y ≤ 2147483647) (r_mn : -2147483648 ≤ mn ∧ mn ≤ 2147483647) (r_dd : -2147483648 ≤ dd ∧ dd ≤ 2147483647) (hcs : CS ca cal q) (hyr : -100000 ≤ y ∧ y ≤ 100000) (hdr : DR y mn dd r) (hn : r = -9223372036854775808) : MetX l y_B_fixed w_B_fixed ({ frames := 6, cells := 1, slots := 6, locals := 151 }) (va_Pc [.ref b, .int (iI cal), .int (iI y), .int (iI mn), .int (iI dd)] (fun U => NV U ∧ (fun U => BkB D b cvA jlA hbA csA sbA vbA cA cB ca N z ml tx U ∧ TSt U ∧ CAL D q DT DR hy U) U)) "java/lang/IllegalArgumentException" 1 6 := by
  refine xt_of hfl (by decide +kernel) (Nat.le_of_ble_eq_true rfl) ?_
  intro p e s m below meth c ls htr hxt hx hb hr hts hown hlk hml hl hN hB
  have hown : s.vm.findClass "DayBook" = some m.cls := hown
  have hl : lv_has ls 8 [(0, .ref b), (1, .int (iI cal)), (2, .int (iI y)), (3, .int (iI mn)), (4, .int (iI dd))] := hl
  have hF : _ ∧ _ ∧ _ ∧ _ ∧ _ ∧ _ := ⟨hx, hb, hml, hown, hts, hN⟩
  obtain ⟨hBk, hT, hC⟩ := hB
  have hK := hBk.1
  have hP := hBk.2
  refine lv_aload_n hx hb d_B_fixed_0 rfl (lv_at hl 0 rfl) ?_
  refine lv_iload_n hx hb d_B_fixed_1 rfl (lv_at hl 1 rfl) ?_
  refine ro_V (rest := []) (ct_B_calendarAt_s l D b cvA jlA hbA csA sbA vbA cA cB ca N z ml tx cal q (by omega) hcs) j_B_calendarAt k_496 (hts _ s_B_calendarAt) hF hBk.recv rfl hl.1 rfl ⟨Nat.le_of_ble_eq_true rfl, Nat.le_of_ble_eq_true rfl⟩ (Nat.le_of_ble_eq_true rfl) d_B_fixed_2 ⟨Nat.zero_le _, Nat.zero_le _⟩ BkB.m (fun U h1 h2 => BkB.m.2 s U h1 h2 hBk) ?_
  refine lv_astore (lv' := [(5, .ref q), (0, .ref b), (1, .int (iI cal)), (2, .int (iI y)), (3, .int (iI mn)), (4, .int (iI dd))]) hx hb d_B_fixed_5 hl (by decide) rfl (fun ls hl => ?_)
  refine lv_aload hx hb d_B_fixed_7 (lv_at hl 0 rfl) ?_
  refine lv_ifnonnull hx hb d_B_fixed_9 rfl ?_
  refine lv_iload_n hx hb d_B_fixed_20 rfl (lv_at hl 3 rfl) ?_
  refine ai_ldc (x := 100000) hx hb hown (hts _ k_700) (by decide +kernel) d_B_fixed_21 ?_
  refine ro_S (rest := []) (ct_B_isWithin l y 100000 (by omega) (by omega)) j_B_isWithin k_701 hF rfl hl.1 rfl ⟨Nat.le_of_ble_eq_true rfl, Nat.le_of_ble_eq_true rfl⟩ (Nat.le_of_ble_eq_true rfl) d_B_fixed_23 ⟨Nat.zero_le _, Nat.zero_le _⟩ Bm_true (fun _ _ _ => trivial) ?_
  refine ai_ifneB hx hb d_B_fixed_26 rfl (fun h26 => ?_) (fun h26 => ?_)
  · skip
    refine lv_aload hx hb d_B_fixed_37 (lv_at hl 0 rfl) ?_
    refine lv_iload_n hx hb d_B_fixed_39 rfl (lv_at hl 3 rfl) ?_
    refine ai_i2l hx hb d_B_fixed_40 (by omega) ?_
    refine lv_iload_n hx hb d_B_fixed_41 rfl (lv_at hl 4 rfl) ?_
    refine lv_iload hx hb d_B_fixed_42 (lv_at hl 5 rfl) ?_
    refine cd_DR (rest := []) hC (by omega) (by omega) (by omega) hdr hF hl.1 ⟨Nat.le_of_ble_eq_true rfl, Nat.le_of_ble_eq_true rfl⟩ (Nat.le_of_ble_eq_true rfl) d_B_fixed_44 ⟨Nat.zero_le _, Nat.zero_le _⟩ ?_
    refine lv_lstore (lv' := [(6, .long (iL r)), (5, .ref q), (0, .ref b), (1, .int (iI cal)), (2, .int (iI y)), (3, .int (iI mn)), (4, .int (iI dd))]) hx hb d_B_fixed_47 hl (by decide) rfl (fun ls hl => ?_)
    refine lv_lload hx hb d_B_fixed_49 (lv_at hl 0 rfl) ?_
    refine ai_ldc2 (x := -9223372036854775808) hx hb hown (hts _ k_741) (by decide +kernel) d_B_fixed_51 ?_
    refine ai_lcmp_ne hx hb d_B_fixed_54 d_B_fixed_55 rfl (by omega) (by omega) (fun h54 => by exfalso; omega) (fun h54 => ?_)
    exact xt_throw hx hb htr hown hts hN hT hxt hlk (hl.1.trans hml.symm) xok_IA d_B_fixed_58 d_B_fixed_61 d_B_fixed_62 d_B_fixed_65 (Nat.le_of_ble_eq_true rfl) (Nat.le_of_ble_eq_true rfl) (Nat.le_of_ble_eq_true rfl) (Nat.le_of_ble_eq_true rfl)
  · skip
    exfalso; omega
set_option maxHeartbeats 4000000 in
set_option maxRecDepth 100000 in
theorem ct_B_fixed_a (l : Launch) (hfl : l.flags = pinnedFlags ++ [noTraceFlag]) (D : va_G) (b : Nat) (cvA : Nat) (jlA : Nat) (hbA : Nat) (csA : Nat) (sbA : Nat) (vbA : Nat) (cA : ClassId) (cB : ClassId) (ca : Nat → Option Nat) (N : Nat) (z : Int) (ml : Int) (tx : Nat → Int) (cal : Int) (y : Int) (mn : Int) (dd : Int) (q : Nat) (DT : Int → Int → Prop) (DR : Int → Int → Int → Int → Prop) (hy : Int → Prop) (r : Int) (r_cal : -2147483648 ≤ cal ∧ cal ≤ 2147483647) (r_y : -2147483648 ≤ y ∧ y ≤ 2147483647) (r_mn : -2147483648 ≤ mn ∧ mn ≤ 2147483647) (r_dd : -2147483648 ≤ dd ∧ dd ≤ 2147483647) (rr : -9223372036854775808 ≤ r ∧ r ≤ 9223372036854775807) (hcs : CS ca cal q) (hyr : -100000 ≤ y ∧ y ≤ 100000) (hdr : DR y mn dd r) (hn : r ≠ -9223372036854775808) (hir : ¬ (-40000000 ≤ r ∧ r ≤ 40000000)) : MetX l y_B_fixed w_B_fixed ({ frames := 6, cells := 1, slots := 6, locals := 151 }) (va_Pc [.ref b, .int (iI cal), .int (iI y), .int (iI mn), .int (iI dd)] (fun U => NV U ∧ (fun U => BkB D b cvA jlA hbA csA sbA vbA cA cB ca N z ml tx U ∧ TSt U ∧ CAL D q DT DR hy U) U)) "java/lang/ArithmeticException" 1 6 := by
  refine xt_of hfl (by decide +kernel) (Nat.le_of_ble_eq_true rfl) ?_
  intro p e s m below meth c ls htr hxt hx hb hr hts hown hlk hml hl hN hB
  have hown : s.vm.findClass "DayBook" = some m.cls := hown
  have hl : lv_has ls 8 [(0, .ref b), (1, .int (iI cal)), (2, .int (iI y)), (3, .int (iI mn)), (4, .int (iI dd))] := hl
  have hF : _ ∧ _ ∧ _ ∧ _ ∧ _ ∧ _ := ⟨hx, hb, hml, hown, hts, hN⟩
  obtain ⟨hBk, hT, hC⟩ := hB
  have hK := hBk.1
  have hP := hBk.2
  refine lv_aload_n hx hb d_B_fixed_0 rfl (lv_at hl 0 rfl) ?_
  refine lv_iload_n hx hb d_B_fixed_1 rfl (lv_at hl 1 rfl) ?_
  refine ro_V (rest := []) (ct_B_calendarAt_s l D b cvA jlA hbA csA sbA vbA cA cB ca N z ml tx cal q (by omega) hcs) j_B_calendarAt k_496 (hts _ s_B_calendarAt) hF hBk.recv rfl hl.1 rfl ⟨Nat.le_of_ble_eq_true rfl, Nat.le_of_ble_eq_true rfl⟩ (Nat.le_of_ble_eq_true rfl) d_B_fixed_2 ⟨Nat.zero_le _, Nat.zero_le _⟩ BkB.m (fun U h1 h2 => BkB.m.2 s U h1 h2 hBk) ?_
  refine lv_astore (lv' := [(5, .ref q), (0, .ref b), (1, .int (iI cal)), (2, .int (iI y)), (3, .int (iI mn)), (4, .int (iI dd))]) hx hb d_B_fixed_5 hl (by decide) rfl (fun ls hl => ?_)
  refine lv_aload hx hb d_B_fixed_7 (lv_at hl 0 rfl) ?_
  refine lv_ifnonnull hx hb d_B_fixed_9 rfl ?_
  refine lv_iload_n hx hb d_B_fixed_20 rfl (lv_at hl 3 rfl) ?_
  refine ai_ldc (x := 100000) hx hb hown (hts _ k_700) (by decide +kernel) d_B_fixed_21 ?_
  refine ro_S (rest := []) (ct_B_isWithin l y 100000 (by omega) (by omega)) j_B_isWithin k_701 hF rfl hl.1 rfl ⟨Nat.le_of_ble_eq_true rfl, Nat.le_of_ble_eq_true rfl⟩ (Nat.le_of_ble_eq_true rfl) d_B_fixed_23 ⟨Nat.zero_le _, Nat.zero_le _⟩ Bm_true (fun _ _ _ => trivial) ?_
  refine ai_ifneB hx hb d_B_fixed_26 rfl (fun h26 => ?_) (fun h26 => absurd hyr h26)
  refine lv_aload hx hb d_B_fixed_37 (lv_at hl 0 rfl) ?_
  refine lv_iload_n hx hb d_B_fixed_39 rfl (lv_at hl 3 rfl) ?_
  refine ai_i2l hx hb d_B_fixed_40 (by omega) ?_
  refine lv_iload_n hx hb d_B_fixed_41 rfl (lv_at hl 4 rfl) ?_
  refine lv_iload hx hb d_B_fixed_42 (lv_at hl 5 rfl) ?_
  refine cd_DR (rest := []) hC (by omega) (by omega) (by omega) hdr hF hl.1 ⟨Nat.le_of_ble_eq_true rfl, Nat.le_of_ble_eq_true rfl⟩ (Nat.le_of_ble_eq_true rfl) d_B_fixed_44 ⟨Nat.zero_le _, Nat.zero_le _⟩ ?_
  refine lv_lstore (lv' := [(6, .long (iL r)), (5, .ref q), (0, .ref b), (1, .int (iI cal)), (2, .int (iI y)), (3, .int (iI mn)), (4, .int (iI dd))]) hx hb d_B_fixed_47 hl (by decide) rfl (fun ls hl => ?_)
  refine lv_lload hx hb d_B_fixed_49 (lv_at hl 0 rfl) ?_
  refine ai_ldc2 (x := -9223372036854775808) hx hb hown (hts _ k_741) (by decide +kernel) d_B_fixed_51 ?_
  refine ai_lcmp_ne hx hb d_B_fixed_54 d_B_fixed_55 rfl (by omega) (by omega) (fun h54 => ?_) (fun h54 => ?_)
  · skip
    refine lv_lload hx hb d_B_fixed_66 (lv_at hl 0 rfl) ?_
    refine ro_S (rest := []) (ct_B_isInRange l r (by omega)) j_B_isInRange k_224 hF rfl hl.1 rfl ⟨Nat.le_of_ble_eq_true rfl, Nat.le_of_ble_eq_true rfl⟩ (Nat.le_of_ble_eq_true rfl) d_B_fixed_68 ⟨Nat.zero_le _, Nat.zero_le _⟩ Bm_true (fun _ _ _ => trivial) ?_
    refine ai_ifneB hx hb d_B_fixed_71 rfl (fun h71 => absurd h71 hir) (fun h71 => ?_)
    exact xt_throw hx hb htr hown hts hN hT hxt hlk (hl.1.trans hml.symm) xok_AR d_B_fixed_74 d_B_fixed_77 d_B_fixed_78 d_B_fixed_81 (Nat.le_of_ble_eq_true rfl) (Nat.le_of_ble_eq_true rfl) (Nat.le_of_ble_eq_true rfl) (Nat.le_of_ble_eq_true rfl)
  · skip
    exfalso; omega
set_option maxHeartbeats 4000000 in
set_option maxRecDepth 100000 in
theorem ct_B_leap (l : Launch) (D : va_G) (b : Nat) (cvA : Nat) (jlA : Nat) (hbA : Nat) (csA : Nat) (sbA : Nat) (vbA : Nat) (cA : ClassId) (cB : ClassId) (ca : Nat → Option Nat) (N : Nat) (z : Int) (ml : Int) (tx : Nat → Int) (cal : Int) (y : Int) (q : Nat) (DT : Int → Int → Prop) (DR : Int → Int → Int → Int → Prop) (hy : Int → Prop) (lp : Int → Prop) (r_cal : -2147483648 ≤ cal ∧ cal ≤ 2147483647) (r_y : -2147483648 ≤ y ∧ y ≤ 2147483647) (hnl : ¬ (cal = 2 ∨ cal = 10 ∨ cal = 11)) (hcs : CS ca cal q) (hhy : hy y) (hyr : -100000 ≤ y ∧ y ≤ 100000) : RO l y_B_leap w_B_leap 3 71 [.ref b, .int (iI cal), .int (iI y)] (fun U => BkB D b cvA jlA hbA csA sbA vbA cA cB ca N z ml tx U ∧ CAL D q DT DR hy U ∧ LPC D q lp U) (.int (iI (bI (lp y)))) := by
  refine ro_of (by decide +kernel) (Nat.le_of_ble_eq_true rfl) ?_
  intro p e s m below meth c ls hx hb hr hts hown hlk hml hl hN hB
  have hown : s.vm.findClass "DayBook" = some m.cls := hown
  have hl : lv_has ls 4 [(0, .ref b), (1, .int (iI cal)), (2, .int (iI y))] := hl
  have hF : _ ∧ _ ∧ _ ∧ _ ∧ _ ∧ _ := ⟨hx, hb, hml, hown, hts, hN⟩
  obtain ⟨hBk, hC, hLp⟩ := hB
  have hK := hBk.1
  have hP := hBk.2
  refine lv_iload_n hx hb d_B_leap_0 rfl (lv_at hl 1 rfl) ?_
  refine ai_iconst hx hb d_B_leap_1 ?_
  refine ai_icmp_eq hx hb d_B_leap_2 rfl (by omega) (by omega) (fun h2 => ?_) (fun h2 => ?_)
  · skip
    exfalso; omega
  · skip
    refine lv_iload_n hx hb d_B_leap_5 rfl (lv_at hl 1 rfl) ?_
    refine ai_bipush (x := 10) hx hb d_B_leap_6 (by decide +kernel) ?_
    refine ai_icmp_eq hx hb d_B_leap_8 rfl (by omega) (by omega) (fun h8 => ?_) (fun h8 => ?_)
    · skip
      exfalso; omega
    · skip
      refine lv_iload_n hx hb d_B_leap_11 rfl (lv_at hl 1 rfl) ?_
      refine ai_bipush (x := 11) hx hb d_B_leap_12 (by decide +kernel) ?_
      refine ai_icmp_ne hx hb d_B_leap_14 rfl (by omega) (by omega) (fun h14 => ?_) (fun h14 => ?_)
      · skip
        refine lv_aload_n hx hb d_B_leap_25 rfl (lv_at hl 0 rfl) ?_
        refine lv_iload_n hx hb d_B_leap_26 rfl (lv_at hl 1 rfl) ?_
        refine ro_V (rest := []) (ct_B_calendarAt_s l D b cvA jlA hbA csA sbA vbA cA cB ca N z ml tx cal q (by omega) hcs) j_B_calendarAt k_496 (hts _ s_B_calendarAt) hF hBk.recv rfl hl.1 rfl ⟨Nat.le_of_ble_eq_true rfl, Nat.le_of_ble_eq_true rfl⟩ (Nat.le_of_ble_eq_true rfl) d_B_leap_27 ⟨Nat.zero_le _, Nat.zero_le _⟩ BkB.m (fun U h1 h2 => BkB.m.2 s U h1 h2 hBk) ?_
        refine lv_astore_n (lv' := [(3, .ref q), (0, .ref b), (1, .int (iI cal)), (2, .int (iI y))]) hx hb d_B_leap_30 rfl hl (by decide) rfl (fun ls hl => ?_)
        refine lv_aload_n hx hb d_B_leap_31 rfl (lv_at hl 0 rfl) ?_
        refine lv_ifnonnull hx hb d_B_leap_32 rfl ?_
        refine lv_aload_n hx hb d_B_leap_43 rfl (lv_at hl 0 rfl) ?_
        refine lv_iload_n hx hb d_B_leap_44 rfl (lv_at hl 3 rfl) ?_
        refine ai_i2l hx hb d_B_leap_45 (by omega) ?_
        refine cd_HY (rest := []) hC (by omega) hF hl.1 ⟨Nat.le_of_ble_eq_true rfl, Nat.le_of_ble_eq_true rfl⟩ (Nat.le_of_ble_eq_true rfl) d_B_leap_46 ⟨Nat.zero_le _, Nat.zero_le _⟩ ?_
        refine ai_ifneB hx hb d_B_leap_49 rfl (fun h49 => ?_) (fun h49 => ?_)
        · skip
          refine lv_iload_n hx hb d_B_leap_60 rfl (lv_at hl 3 rfl) ?_
          refine ai_ldc (x := 100000) hx hb hown (hts _ k_700) (by decide +kernel) d_B_leap_61 ?_
          refine ro_S (rest := []) (ct_B_isWithin l y 100000 (by omega) (by omega)) j_B_isWithin k_701 hF rfl hl.1 rfl ⟨Nat.le_of_ble_eq_true rfl, Nat.le_of_ble_eq_true rfl⟩ (Nat.le_of_ble_eq_true rfl) d_B_leap_63 ⟨Nat.zero_le _, Nat.zero_le _⟩ Bm_true (fun _ _ _ => trivial) ?_
          refine ai_ifneB hx hb d_B_leap_66 rfl (fun h66 => ?_) (fun h66 => ?_)
          · skip
            refine lv_aload_n hx hb d_B_leap_77 rfl (lv_at hl 0 rfl) ?_
            refine lv_iload_n hx hb d_B_leap_78 rfl (lv_at hl 3 rfl) ?_
            refine ai_i2l hx hb d_B_leap_79 (by omega) ?_
            refine cd_LP (rest := []) hLp (by omega) hF hl.1 ⟨Nat.le_of_ble_eq_true rfl, Nat.le_of_ble_eq_true rfl⟩ (Nat.le_of_ble_eq_true rfl) d_B_leap_80 ⟨Nat.zero_le _, Nat.zero_le _⟩ ?_
            exact ro_zret hx hb hr hlk d_B_leap_83 rfl
          · skip
            exfalso; exact h66 hyr
        · skip
          exfalso; exact h49 hhy
      · skip
        exfalso; omega
set_option maxHeartbeats 4000000 in
set_option maxRecDepth 100000 in
theorem ct_B_leap_u (l : Launch) (hfl : l.flags = pinnedFlags ++ [noTraceFlag]) (D : va_G) (b : Nat) (cvA : Nat) (jlA : Nat) (hbA : Nat) (csA : Nat) (sbA : Nat) (vbA : Nat) (cA : ClassId) (cB : ClassId) (ca : Nat → Option Nat) (N : Nat) (z : Int) (ml : Int) (tx : Nat → Int) (cal : Int) (y : Int) (r_cal : -2147483648 ≤ cal ∧ cal ≤ 2147483647) (r_y : -2147483648 ≤ y ∧ y ≤ 2147483647) (hnl : cal = 2 ∨ cal = 10 ∨ cal = 11) : MetX l y_B_leap w_B_leap ({ frames := 6, cells := 1, slots := 6, locals := 100 }) (va_Pc [.ref b, .int (iI cal), .int (iI y)] (fun U => NV U ∧ (fun U => BkB D b cvA jlA hbA csA sbA vbA cA cB ca N z ml tx U ∧ TSt U) U)) "java/lang/UnsupportedOperationException" 1 6 := by
  refine xt_of hfl (by decide +kernel) (Nat.le_of_ble_eq_true rfl) ?_
  intro p e s m below meth c ls htr hxt hx hb hr hts hown hlk hml hl hN hB
  have hown : s.vm.findClass "DayBook" = some m.cls := hown
  have hl : lv_has ls 4 [(0, .ref b), (1, .int (iI cal)), (2, .int (iI y))] := hl
  have hF : _ ∧ _ ∧ _ ∧ _ ∧ _ ∧ _ := ⟨hx, hb, hml, hown, hts, hN⟩
  obtain ⟨hBk, hT⟩ := hB
  have hK := hBk.1
  have hP := hBk.2
  refine lv_iload_n hx hb d_B_leap_0 rfl (lv_at hl 1 rfl) ?_
  refine ai_iconst hx hb d_B_leap_1 ?_
  refine ai_icmp_eq hx hb d_B_leap_2 rfl (by omega) (by omega) (fun h2 => ?_) (fun h2 => ?_)
  · skip
    exact xt_throw hx hb htr hown hts hN hT hxt hlk (hl.1.trans hml.symm) xok_UO d_B_leap_17 d_B_leap_20 d_B_leap_21 d_B_leap_24 (Nat.le_of_ble_eq_true rfl) (Nat.le_of_ble_eq_true rfl) (Nat.le_of_ble_eq_true rfl) (Nat.le_of_ble_eq_true rfl)
  · skip
    refine lv_iload_n hx hb d_B_leap_5 rfl (lv_at hl 1 rfl) ?_
    refine ai_bipush (x := 10) hx hb d_B_leap_6 (by decide +kernel) ?_
    refine ai_icmp_eq hx hb d_B_leap_8 rfl (by omega) (by omega) (fun h8 => ?_) (fun h8 => ?_)
    · skip
      exact xt_throw hx hb htr hown hts hN hT hxt hlk (hl.1.trans hml.symm) xok_UO d_B_leap_17 d_B_leap_20 d_B_leap_21 d_B_leap_24 (Nat.le_of_ble_eq_true rfl) (Nat.le_of_ble_eq_true rfl) (Nat.le_of_ble_eq_true rfl) (Nat.le_of_ble_eq_true rfl)
    · skip
      refine lv_iload_n hx hb d_B_leap_11 rfl (lv_at hl 1 rfl) ?_
      refine ai_bipush (x := 11) hx hb d_B_leap_12 (by decide +kernel) ?_
      refine ai_icmp_ne hx hb d_B_leap_14 rfl (by omega) (by omega) (fun h14 => by exfalso; omega) (fun h14 => ?_)
      exact xt_throw hx hb htr hown hts hN hT hxt hlk (hl.1.trans hml.symm) xok_UO d_B_leap_17 d_B_leap_20 d_B_leap_21 d_B_leap_24 (Nat.le_of_ble_eq_true rfl) (Nat.le_of_ble_eq_true rfl) (Nat.le_of_ble_eq_true rfl) (Nat.le_of_ble_eq_true rfl)
set_option maxHeartbeats 4000000 in
set_option maxRecDepth 100000 in
theorem ct_B_leap_n (l : Launch) (hfl : l.flags = pinnedFlags ++ [noTraceFlag]) (D : va_G) (b : Nat) (cvA : Nat) (jlA : Nat) (hbA : Nat) (csA : Nat) (sbA : Nat) (vbA : Nat) (cA : ClassId) (cB : ClassId) (ca : Nat → Option Nat) (N : Nat) (z : Int) (ml : Int) (tx : Nat → Int) (cal : Int) (y : Int) (r_cal : -2147483648 ≤ cal ∧ cal ≤ 2147483647) (r_y : -2147483648 ≤ y ∧ y ≤ 2147483647) (hnl : ¬ (cal = 2 ∨ cal = 10 ∨ cal = 11)) (hcn : CN ca cal) : MetX l y_B_leap w_B_leap ({ frames := 6, cells := 1, slots := 6, locals := 100 }) (va_Pc [.ref b, .int (iI cal), .int (iI y)] (fun U => NV U ∧ (fun U => BkB D b cvA jlA hbA csA sbA vbA cA cB ca N z ml tx U ∧ TSt U) U)) "java/lang/IndexOutOfBoundsException" 1 6 := by
  refine xt_of hfl (by decide +kernel) (Nat.le_of_ble_eq_true rfl) ?_
  intro p e s m below meth c ls htr hxt hx hb hr hts hown hlk hml hl hN hB
  have hown : s.vm.findClass "DayBook" = some m.cls := hown
  have hl : lv_has ls 4 [(0, .ref b), (1, .int (iI cal)), (2, .int (iI y))] := hl
  have hF : _ ∧ _ ∧ _ ∧ _ ∧ _ ∧ _ := ⟨hx, hb, hml, hown, hts, hN⟩
  obtain ⟨hBk, hT⟩ := hB
  have hK := hBk.1
  have hP := hBk.2
  refine lv_iload_n hx hb d_B_leap_0 rfl (lv_at hl 1 rfl) ?_
  refine ai_iconst hx hb d_B_leap_1 ?_
  refine ai_icmp_eq hx hb d_B_leap_2 rfl (by omega) (by omega) (fun h2 => ?_) (fun h2 => ?_)
  · skip
    exfalso; omega
  · skip
    refine lv_iload_n hx hb d_B_leap_5 rfl (lv_at hl 1 rfl) ?_
    refine ai_bipush (x := 10) hx hb d_B_leap_6 (by decide +kernel) ?_
    refine ai_icmp_eq hx hb d_B_leap_8 rfl (by omega) (by omega) (fun h8 => ?_) (fun h8 => ?_)
    · skip
      exfalso; omega
    · skip
      refine lv_iload_n hx hb d_B_leap_11 rfl (lv_at hl 1 rfl) ?_
      refine ai_bipush (x := 11) hx hb d_B_leap_12 (by decide +kernel) ?_
      refine ai_icmp_ne hx hb d_B_leap_14 rfl (by omega) (by omega) (fun h14 => ?_) (fun h14 => ?_)
      · skip
        refine lv_aload_n hx hb d_B_leap_25 rfl (lv_at hl 0 rfl) ?_
        refine lv_iload_n hx hb d_B_leap_26 rfl (lv_at hl 1 rfl) ?_
        refine ro_V (rest := []) (ct_B_calendarAt_n l D b cvA jlA hbA csA sbA vbA cA cB ca N z ml tx cal (by omega) hcn) j_B_calendarAt k_496 (hts _ s_B_calendarAt) hF hBk.recv rfl hl.1 rfl ⟨Nat.le_of_ble_eq_true rfl, Nat.le_of_ble_eq_true rfl⟩ (Nat.le_of_ble_eq_true rfl) d_B_leap_27 ⟨Nat.zero_le _, Nat.zero_le _⟩ BkB.m (fun U h1 h2 => BkB.m.2 s U h1 h2 hBk) ?_
        refine lv_astore_nN (lv' := [(3, .null), (0, .ref b), (1, .int (iI cal)), (2, .int (iI y))]) hx hb d_B_leap_30 rfl hl (by decide) rfl (fun ls hl => ?_)
        refine lv_aload_nN hx hb d_B_leap_31 rfl (lv_at hl 0 rfl) ?_
        refine lv_ifnonnullN hx hb d_B_leap_32 ?_
        exact xt_throw hx hb htr hown hts hN hT hxt hlk (hl.1.trans hml.symm) xok_IX d_B_leap_35 d_B_leap_38 d_B_leap_39 d_B_leap_42 (Nat.le_of_ble_eq_true rfl) (Nat.le_of_ble_eq_true rfl) (Nat.le_of_ble_eq_true rfl) (Nat.le_of_ble_eq_true rfl)
      · skip
        exfalso; omega
set_option maxHeartbeats 4000000 in
set_option maxRecDepth 100000 in
theorem ct_B_leap_i (l : Launch) (hfl : l.flags = pinnedFlags ++ [noTraceFlag]) (D : va_G) (b : Nat) (cvA : Nat) (jlA : Nat) (hbA : Nat) (csA : Nat) (sbA : Nat) (vbA : Nat) (cA : ClassId) (cB : ClassId) (ca : Nat → Option Nat) (N : Nat) (z : Int) (ml : Int) (tx : Nat → Int) (cal : Int) (y : Int) (q : Nat) (DT : Int → Int → Prop) (DR : Int → Int → Int → Int → Prop) (hy : Int → Prop) (r_cal : -2147483648 ≤ cal ∧ cal ≤ 2147483647) (r_y : -2147483648 ≤ y ∧ y ≤ 2147483647) (hnl : ¬ (cal = 2 ∨ cal = 10 ∨ cal = 11)) (hcs : CS ca cal q) (hhy : ¬ hy y) : MetX l y_B_leap w_B_leap ({ frames := 6, cells := 1, slots := 6, locals := 100 }) (va_Pc [.ref b, .int (iI cal), .int (iI y)] (fun U => NV U ∧ (fun U => BkB D b cvA jlA hbA csA sbA vbA cA cB ca N z ml tx U ∧ TSt U ∧ CAL D q DT DR hy U) U)) "java/lang/IllegalArgumentException" 1 6 := by
  refine xt_of hfl (by decide +kernel) (Nat.le_of_ble_eq_true rfl) ?_
  intro p e s m below meth c ls htr hxt hx hb hr hts hown hlk hml hl hN hB
  have hown : s.vm.findClass "DayBook" = some m.cls := hown
  have hl : lv_has ls 4 [(0, .ref b), (1, .int (iI cal)), (2, .int (iI y))] := hl
  have hF : _ ∧ _ ∧ _ ∧ _ ∧ _ ∧ _ := ⟨hx, hb, hml, hown, hts, hN⟩
  obtain ⟨hBk, hT, hC⟩ := hB
  have hK := hBk.1
  have hP := hBk.2
  refine lv_iload_n hx hb d_B_leap_0 rfl (lv_at hl 1 rfl) ?_
  refine ai_iconst hx hb d_B_leap_1 ?_
  refine ai_icmp_eq hx hb d_B_leap_2 rfl (by omega) (by omega) (fun h2 => ?_) (fun h2 => ?_)
  · skip
    exfalso; omega
  · skip
    refine lv_iload_n hx hb d_B_leap_5 rfl (lv_at hl 1 rfl) ?_
    refine ai_bipush (x := 10) hx hb d_B_leap_6 (by decide +kernel) ?_
    refine ai_icmp_eq hx hb d_B_leap_8 rfl (by omega) (by omega) (fun h8 => ?_) (fun h8 => ?_)
    · skip
      exfalso; omega
    · skip
      refine lv_iload_n hx hb d_B_leap_11 rfl (lv_at hl 1 rfl) ?_
      refine ai_bipush (x := 11) hx hb d_B_leap_12 (by decide +kernel) ?_
      refine ai_icmp_ne hx hb d_B_leap_14 rfl (by omega) (by omega) (fun h14 => ?_) (fun h14 => ?_)
      · skip
        refine lv_aload_n hx hb d_B_leap_25 rfl (lv_at hl 0 rfl) ?_
        refine lv_iload_n hx hb d_B_leap_26 rfl (lv_at hl 1 rfl) ?_
        refine ro_V (rest := []) (ct_B_calendarAt_s l D b cvA jlA hbA csA sbA vbA cA cB ca N z ml tx cal q (by omega) hcs) j_B_calendarAt k_496 (hts _ s_B_calendarAt) hF hBk.recv rfl hl.1 rfl ⟨Nat.le_of_ble_eq_true rfl, Nat.le_of_ble_eq_true rfl⟩ (Nat.le_of_ble_eq_true rfl) d_B_leap_27 ⟨Nat.zero_le _, Nat.zero_le _⟩ BkB.m (fun U h1 h2 => BkB.m.2 s U h1 h2 hBk) ?_
        refine lv_astore_n (lv' := [(3, .ref q), (0, .ref b), (1, .int (iI cal)), (2, .int (iI y))]) hx hb d_B_leap_30 rfl hl (by decide) rfl (fun ls hl => ?_)
        refine lv_aload_n hx hb d_B_leap_31 rfl (lv_at hl 0 rfl) ?_
        refine lv_ifnonnull hx hb d_B_leap_32 rfl ?_
        refine lv_aload_n hx hb d_B_leap_43 rfl (lv_at hl 0 rfl) ?_
        refine lv_iload_n hx hb d_B_leap_44 rfl (lv_at hl 3 rfl) ?_
        refine ai_i2l hx hb d_B_leap_45 (by omega) ?_
        refine cd_HY (rest := []) hC (by omega) hF hl.1 ⟨Nat.le_of_ble_eq_true rfl, Nat.le_of_ble_eq_true rfl⟩ (Nat.le_of_ble_eq_true rfl) d_B_leap_46 ⟨Nat.zero_le _, Nat.zero_le _⟩ ?_
        refine ai_ifneB hx hb d_B_leap_49 rfl (fun h49 => absurd h49 hhy) (fun h49 => ?_)
        exact xt_throw hx hb htr hown hts hN hT hxt hlk (hl.1.trans hml.symm) xok_IA d_B_leap_52 d_B_leap_55 d_B_leap_56 d_B_leap_59 (Nat.le_of_ble_eq_true rfl) (Nat.le_of_ble_eq_true rfl) (Nat.le_of_ble_eq_true rfl) (Nat.le_of_ble_eq_true rfl)
      · skip
        exfalso; omega
set_option maxHeartbeats 4000000 in
set_option maxRecDepth 100000 in
theorem ct_B_leap_a (l : Launch) (hfl : l.flags = pinnedFlags ++ [noTraceFlag]) (D : va_G) (b : Nat) (cvA : Nat) (jlA : Nat) (hbA : Nat) (csA : Nat) (sbA : Nat) (vbA : Nat) (cA : ClassId) (cB : ClassId) (ca : Nat → Option Nat) (N : Nat) (z : Int) (ml : Int) (tx : Nat → Int) (cal : Int) (y : Int) (q : Nat) (DT : Int → Int → Prop) (DR : Int → Int → Int → Int → Prop) (hy : Int → Prop) (r_cal : -2147483648 ≤ cal ∧ cal ≤ 2147483647) (r_y : -2147483648 ≤ y ∧ y ≤ 2147483647) (hnl : ¬ (cal = 2 ∨ cal = 10 ∨ cal = 11)) (hcs : CS ca cal q) (hhy : hy y) (hyr : ¬ (-100000 ≤ y ∧ y ≤ 100000)) : MetX l y_B_leap w_B_leap ({ frames := 6, cells := 1, slots := 6, locals := 100 }) (va_Pc [.ref b, .int (iI cal), .int (iI y)] (fun U => NV U ∧ (fun U => BkB D b cvA jlA hbA csA sbA vbA cA cB ca N z ml tx U ∧ TSt U ∧ CAL D q DT DR hy U) U)) "java/lang/ArithmeticException" 1 6 := by
  refine xt_of hfl (by decide +kernel) (Nat.le_of_ble_eq_true rfl) ?_
  intro p e s m below meth c ls htr hxt hx hb hr hts hown hlk hml hl hN hB
  have hown : s.vm.findClass "DayBook" = some m.cls := hown
  have hl : lv_has ls 4 [(0, .ref b), (1, .int (iI cal)), (2, .int (iI y))] := hl
  have hF : _ ∧ _ ∧ _ ∧ _ ∧ _ ∧ _ := ⟨hx, hb, hml, hown, hts, hN⟩
  obtain ⟨hBk, hT, hC⟩ := hB
  have hK := hBk.1
  have hP := hBk.2
  refine lv_iload_n hx hb d_B_leap_0 rfl (lv_at hl 1 rfl) ?_
  refine ai_iconst hx hb d_B_leap_1 ?_
  refine ai_icmp_eq hx hb d_B_leap_2 rfl (by omega) (by omega) (fun h2 => ?_) (fun h2 => ?_)
  · skip
    exfalso; omega
  · skip
    refine lv_iload_n hx hb d_B_leap_5 rfl (lv_at hl 1 rfl) ?_
    refine ai_bipush (x := 10) hx hb d_B_leap_6 (by decide +kernel) ?_
    refine ai_icmp_eq hx hb d_B_leap_8 rfl (by omega) (by omega) (fun h8 => ?_) (fun h8 => ?_)
    · skip
      exfalso; omega
    · skip
      refine lv_iload_n hx hb d_B_leap_11 rfl (lv_at hl 1 rfl) ?_
      refine ai_bipush (x := 11) hx hb d_B_leap_12 (by decide +kernel) ?_
      refine ai_icmp_ne hx hb d_B_leap_14 rfl (by omega) (by omega) (fun h14 => ?_) (fun h14 => ?_)
      · skip
        refine lv_aload_n hx hb d_B_leap_25 rfl (lv_at hl 0 rfl) ?_
        refine lv_iload_n hx hb d_B_leap_26 rfl (lv_at hl 1 rfl) ?_
        refine ro_V (rest := []) (ct_B_calendarAt_s l D b cvA jlA hbA csA sbA vbA cA cB ca N z ml tx cal q (by omega) hcs) j_B_calendarAt k_496 (hts _ s_B_calendarAt) hF hBk.recv rfl hl.1 rfl ⟨Nat.le_of_ble_eq_true rfl, Nat.le_of_ble_eq_true rfl⟩ (Nat.le_of_ble_eq_true rfl) d_B_leap_27 ⟨Nat.zero_le _, Nat.zero_le _⟩ BkB.m (fun U h1 h2 => BkB.m.2 s U h1 h2 hBk) ?_
        refine lv_astore_n (lv' := [(3, .ref q), (0, .ref b), (1, .int (iI cal)), (2, .int (iI y))]) hx hb d_B_leap_30 rfl hl (by decide) rfl (fun ls hl => ?_)
        refine lv_aload_n hx hb d_B_leap_31 rfl (lv_at hl 0 rfl) ?_
        refine lv_ifnonnull hx hb d_B_leap_32 rfl ?_
        refine lv_aload_n hx hb d_B_leap_43 rfl (lv_at hl 0 rfl) ?_
        refine lv_iload_n hx hb d_B_leap_44 rfl (lv_at hl 3 rfl) ?_
        refine ai_i2l hx hb d_B_leap_45 (by omega) ?_
        refine cd_HY (rest := []) hC (by omega) hF hl.1 ⟨Nat.le_of_ble_eq_true rfl, Nat.le_of_ble_eq_true rfl⟩ (Nat.le_of_ble_eq_true rfl) d_B_leap_46 ⟨Nat.zero_le _, Nat.zero_le _⟩ ?_
        refine ai_ifneB hx hb d_B_leap_49 rfl (fun h49 => ?_) (fun h49 => ?_)
        · skip
          refine lv_iload_n hx hb d_B_leap_60 rfl (lv_at hl 3 rfl) ?_
          refine ai_ldc (x := 100000) hx hb hown (hts _ k_700) (by decide +kernel) d_B_leap_61 ?_
          refine ro_S (rest := []) (ct_B_isWithin l y 100000 (by omega) (by omega)) j_B_isWithin k_701 hF rfl hl.1 rfl ⟨Nat.le_of_ble_eq_true rfl, Nat.le_of_ble_eq_true rfl⟩ (Nat.le_of_ble_eq_true rfl) d_B_leap_63 ⟨Nat.zero_le _, Nat.zero_le _⟩ Bm_true (fun _ _ _ => trivial) ?_
          refine ai_ifneB hx hb d_B_leap_66 rfl (fun h66 => absurd h66 hyr) (fun h66 => ?_)
          exact xt_throw hx hb htr hown hts hN hT hxt hlk (hl.1.trans hml.symm) xok_AR d_B_leap_69 d_B_leap_72 d_B_leap_73 d_B_leap_76 (Nat.le_of_ble_eq_true rfl) (Nat.le_of_ble_eq_true rfl) (Nat.le_of_ble_eq_true rfl) (Nat.le_of_ble_eq_true rfl)
        · skip
          exfalso; exact h49 hhy
      · skip
        exfalso; omega
