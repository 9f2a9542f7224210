/-! 34.modelI: laid by program (wip/whole) -/
def hcM (g : Nat → Nat → Int) (cal : Int) : Prop := (0 ≤ cal ∧ cal ≤ 11) ∨ ((12 ≤ cal ∧ cal ≤ 13) ∧ g 2 (Int.toNat (cal - 12)) ≠ 0)
/-- the reference's arrays between calls -/
def MInv (g : Nat → Nat → Int) : Prop := (∀ cal : Int, (cal = 0 ∨ cal = 1 ∨ cal = 3 ∨ cal = 4 ∨ cal = 5 ∨ cal = 6 ∨ cal = 7 ∨ cal = 8) → CyOK g cal) ∧ ∀ i : Nat, i < 2 → (0 ≤ g 2 i ∧ g 2 i ≤ 1) ∧ (g 2 i ≠ 0 → OwnOK g i ∧ CyOK g (12 + i))
theorem MInv.ho {g : Nat → Nat → Int} (h : MInv g) {cal : Int} (hc : hcM g cal) : 12 ≤ cal → OwnOK g (Int.toNat (cal - 12)) := fun q => by
  rcases hc with z | ⟨z1, z2⟩
  · omega
  · exact ((h.2 (Int.toNat (cal - 12)) (by omega)).2 z2).1
theorem MInv.cy {g : Nat → Nat → Int} (h : MInv g) {cal : Int} (hc : hcM g cal) : cal ≠ 9 → cal ≠ 2 → cal ≠ 10 → cal ≠ 11 → CyOK g cal := fun h9 h2 h10 h11 => by
  rcases hc with z | ⟨z1, z2⟩
  · exact h.1 cal (by omega)
  · have q := ((h.2 (Int.toNat (cal - 12)) (by omega)).2 z2).2
    rw [show (12 : Int) + ((Int.toNat (cal - 12) : Nat) : Int) = cal by omega] at q
    exact q
theorem MInv.cal {g : Nat → Nat → Int} {cal : Int} (hc : hcM g cal) : cal = 10 ∨ cal = 11 ∨ cal = 9 ∨ cal = 2 ∨ cal = 0 ∨ cal = 1 ∨ cal = 3 ∨ cal = 4 ∨ cal = 5 ∨ cal = 6 ∨ cal = 7 ∨ cal = 8 ∨ cal = 12 ∨ cal = 13 := by
  rcases hc with z | ⟨z1, z2⟩ <;> omega
theorem MInv.i {g : Nat → Nat → Int} (h : MInv g) (x : Int) (hx : 12 ≤ x ∧ x ≤ 13) : 0 ≤ g 2 (Int.toNat (x - 12)) ∧ g 2 (Int.toNat (x - 12)) ≤ 1 := (h.2 (Int.toNat (x - 12)) (by omega)).1
set_option maxHeartbeats 4000000 in
set_option maxRecDepth 100000 in
theorem ct_M_hasCalendar (l : Launch) (D : va_G) (a : Nat) (ad : Nat → Nat) (cx : Nat → ClassId) (F : Nat → Int) (g : Nat → Nat → Int) (cal : Int) (hv : MInv g) (rc : -2147483648 ≤ cal ∧ cal ≤ 2147483647) : RO l y_M_hasCalendar w_M_hasCalendar 0 0 [.ref a, .int (iI cal)] (MdB D a ad cx F g) (.int (iI (bI (hcM g cal)))) := by
  refine ro_of (by decide +kernel) (Nat.le_of_ble_eq_true rfl) ?_
  intro p e s m below meth c ls hx hb hr hts hown hlk hml hl hN hB
  have hown : s.vm.findClass "DayBookModel" = some m.cls := hown
  have hl : lv_has ls 2 [(0, .ref a), (1, .int (iI cal))] := hl
  have hF : _ ∧ _ ∧ _ ∧ _ ∧ _ ∧ _ := ⟨hx, hb, hml, hown, hts, hN⟩
  have hK := hB.1
  have hP := hB.2
  refine lv_iload_n hx hb d_M_hasCalendar_0 rfl (lv_at hl 1 rfl) ?_
  refine ai_if_lt hx hb d_M_hasCalendar_1 rfl (by omega) (fun h1 => ?_) (fun h1 => ?_)
  · skip
    refine lv_iload_n hx hb d_M_hasCalendar_10 rfl (lv_at hl 1 rfl) ?_
    refine ai_bipush (x := 12) hx hb d_M_hasCalendar_11 (by decide +kernel) ?_
    refine ai_icmp_lt hx hb d_M_hasCalendar_13 rfl (by omega) (by omega) (fun h13 => ?_) (fun h13 => ?_)
    · skip
      refine ai_iconst hx hb d_M_hasCalendar_38 ?_
      exact ro_zret hx hb hr hlk d_M_hasCalendar_39 (ro_0 (by intro q; rcases q with q | ⟨q1, q2⟩; omega; first | omega | exact q2 h31) rfl)
    · skip
      refine lv_iload_n hx hb d_M_hasCalendar_16 rfl (lv_at hl 1 rfl) ?_
      refine ai_bipush (x := 13) hx hb d_M_hasCalendar_17 (by decide +kernel) ?_
      refine ai_icmp_gt hx hb d_M_hasCalendar_19 rfl (by omega) (by omega) (fun h19 => ?_) (fun h19 => ?_)
      · skip
        refine ai_iconst hx hb d_M_hasCalendar_38 ?_
        exact ro_zret hx hb hr hlk d_M_hasCalendar_39 (ro_0 (by intro q; rcases q with q | ⟨q1, q2⟩; omega; first | omega | exact q2 h31) rfl)
      · skip
        have hi := hv.i cal (by omega)
        refine lv_aload_n hx hb d_M_hasCalendar_22 rfl (lv_at hl 0 rfl) ?_
        refine va_get (D := D) (cl := CL) (ci := 10) (v := .ref (ad 2)) (C := "DayBookModel") (T := T_M) (N := 19) hx hb hts in_M hown hK hP 0 rfl rfl 3 (by decide) (hts _ k_949) (fun _ h9 => h9) rfl d_M_hasCalendar_23 ?_
        refine lv_iload_n hx hb d_M_hasCalendar_26 rfl (lv_at hl 1 rfl) ?_
        refine ai_bipush (x := 12) hx hb d_M_hasCalendar_27 (by decide +kernel) ?_
        refine ai_isub hx hb d_M_hasCalendar_29 ?_
        refine ma_zld hx hb hK hP 3 2 rfl rfl (h := g 2) (by omega) (by decide) d_M_hasCalendar_30 ?_
        refine ai_if_eq hx hb d_M_hasCalendar_31 rfl (by omega) (fun h31 => ?_) (fun h31 => ?_)
        · skip
          refine ai_iconst hx hb d_M_hasCalendar_38 ?_
          exact ro_zret hx hb hr hlk d_M_hasCalendar_39 (ro_0 (by intro q; rcases q with q | ⟨q1, q2⟩; omega; first | omega | exact q2 h31) rfl)
        · skip
          refine ai_iconst hx hb d_M_hasCalendar_34 ?_
          refine lv_goto hx hb d_M_hasCalendar_35 rfl ?_
          exact ro_zret hx hb hr hlk d_M_hasCalendar_39 (ro_1 (by first | exact Or.inl (by omega) | exact Or.inr ⟨by omega, h31⟩) rfl)
  · skip
    refine lv_iload_n hx hb d_M_hasCalendar_4 rfl (lv_at hl 1 rfl) ?_
    refine ai_bipush (x := 11) hx hb d_M_hasCalendar_5 (by decide +kernel) ?_
    refine ai_icmp_le hx hb d_M_hasCalendar_7 rfl (by omega) (by omega) (fun h7 => ?_) (fun h7 => ?_)
    · skip
      refine ai_iconst hx hb d_M_hasCalendar_34 ?_
      refine lv_goto hx hb d_M_hasCalendar_35 rfl ?_
      exact ro_zret hx hb hr hlk d_M_hasCalendar_39 (ro_1 (by first | exact Or.inl (by omega) | exact Or.inr ⟨by omega, h31⟩) rfl)
    · skip
      refine lv_iload_n hx hb d_M_hasCalendar_10 rfl (lv_at hl 1 rfl) ?_
      refine ai_bipush (x := 12) hx hb d_M_hasCalendar_11 (by decide +kernel) ?_
      refine ai_icmp_lt hx hb d_M_hasCalendar_13 rfl (by omega) (by omega) (fun h13 => ?_) (fun h13 => ?_)
      · skip
        refine ai_iconst hx hb d_M_hasCalendar_38 ?_
        exact ro_zret hx hb hr hlk d_M_hasCalendar_39 (ro_0 (by intro q; rcases q with q | ⟨q1, q2⟩; omega; first | omega | exact q2 h31) rfl)
      · skip
        refine lv_iload_n hx hb d_M_hasCalendar_16 rfl (lv_at hl 1 rfl) ?_
        refine ai_bipush (x := 13) hx hb d_M_hasCalendar_17 (by decide +kernel) ?_
        refine ai_icmp_gt hx hb d_M_hasCalendar_19 rfl (by omega) (by omega) (fun h19 => ?_) (fun h19 => ?_)
        · skip
          refine ai_iconst hx hb d_M_hasCalendar_38 ?_
          exact ro_zret hx hb hr hlk d_M_hasCalendar_39 (ro_0 (by intro q; rcases q with q | ⟨q1, q2⟩; omega; first | omega | exact q2 h31) rfl)
        · skip
          have hi := hv.i cal (by omega)
          refine lv_aload_n hx hb d_M_hasCalendar_22 rfl (lv_at hl 0 rfl) ?_
          refine va_get (D := D) (cl := CL) (ci := 10) (v := .ref (ad 2)) (C := "DayBookModel") (T := T_M) (N := 19) hx hb hts in_M hown hK hP 0 rfl rfl 3 (by decide) (hts _ k_949) (fun _ h9 => h9) rfl d_M_hasCalendar_23 ?_
          refine lv_iload_n hx hb d_M_hasCalendar_26 rfl (lv_at hl 1 rfl) ?_
          refine ai_bipush (x := 12) hx hb d_M_hasCalendar_27 (by decide +kernel) ?_
          refine ai_isub hx hb d_M_hasCalendar_29 ?_
          refine ma_zld hx hb hK hP 3 2 rfl rfl (h := g 2) (by omega) (by decide) d_M_hasCalendar_30 ?_
          refine ai_if_eq hx hb d_M_hasCalendar_31 rfl (by omega) (fun h31 => ?_) (fun h31 => ?_)
          · skip
            refine ai_iconst hx hb d_M_hasCalendar_38 ?_
            exact ro_zret hx hb hr hlk d_M_hasCalendar_39 (ro_0 (by intro q; rcases q with q | ⟨q1, q2⟩; omega; first | omega | exact q2 h31) rfl)
          · skip
            refine ai_iconst hx hb d_M_hasCalendar_34 ?_
            refine lv_goto hx hb d_M_hasCalendar_35 rfl ?_
            exact ro_zret hx hb hr hlk d_M_hasCalendar_39 (ro_1 (by first | exact Or.inl (by omega) | exact Or.inr ⟨by omega, h31⟩) rfl)
set_option maxHeartbeats 4000000 in
set_option maxRecDepth 100000 in
theorem ct_M_thrown (l : Launch) (D : va_G) (a : Nat) (ad : Nat → Nat) (cx : Nat → ClassId) (F : Nat → Int) (g : Nat → Nat → Int)  : RO l y_M_thrown w_M_thrown 0 0 [.ref a] (MdB D a ad cx F g) (.int (iI (F 0))) := by
  refine ro_of (by decide +kernel) (Nat.le_of_ble_eq_true rfl) ?_
  intro p e s m below meth c ls hx hb hr hts hown hlk hml hl hN hB
  have hown : s.vm.findClass "DayBookModel" = some m.cls := hown
  have hl : lv_has ls 1 [(0, .ref a)] := hl
  have hF : _ ∧ _ ∧ _ ∧ _ ∧ _ ∧ _ := ⟨hx, hb, hml, hown, hts, hN⟩
  have hK := hB.1
  have hP := hB.2
  refine lv_aload_n hx hb d_M_thrown_0 rfl (lv_at hl 0 rfl) ?_
  refine va_get (D := D) (cl := CL) (ci := 10) (v := .int (iI (F 0))) (C := "DayBookModel") (T := T_M) (N := 19) hx hb hts in_M hown hK hP 0 rfl rfl 0 (by decide) (hts _ k_946) (fun _ h9 => h9) rfl d_M_thrown_1 ?_
  exact ro_iret hx hb hr hlk d_M_thrown_4 rfl
set_option maxHeartbeats 4000000 in
set_option maxRecDepth 100000 in
theorem ct_M_date (l : Launch) (D : va_G) (a : Nat) (ad : Nat → Nat) (cx : Nat → ClassId) (F : Nat → Int) (g : Nat → Nat → Int) (cal : Int) (d : Int) (w : Int) (tc : Int) (x : Int) (Yr : Int) (Mo : Int) (Dy : Int) (hv : MInv g) (hca : CacheOK F g) (rc : -2147483648 ≤ cal ∧ cal ≤ 2147483647) (rd : -2147483648 ≤ d ∧ d ≤ 2147483647) (rw_ : -2147483648 ≤ w ∧ w ≤ 2147483647) (htc : (tc = 1 ∧ ¬ (hcM g cal ∧ 0 ≤ w ∧ w ≤ 2) ∧ x = 0) ∨ (tc = 2 ∧ (hcM g cal ∧ 0 ≤ w ∧ w ≤ 2) ∧ ¬ (-40000000 ≤ d ∧ d ≤ 40000000) ∧ x = 0) ∨ (tc = 0 ∧ (hcM g cal ∧ 0 ≤ w ∧ w ≤ 2) ∧ (-40000000 ≤ d ∧ d ≤ 40000000) ∧ DTM g cal d Yr Mo Dy ∧ x = if w = 0 then Yr else if w = 1 then Mo else Dy)) : MW l y_M_date w_M_date 8 198 [.ref a, .int (iI cal), .int (iI d), .int (iI w)] D a ad cx F g (QMi D a ad cx x (fun u => u.2 = g ∧ u.1 0 = tc ∧ u.1 8 = F 8 ∧ CacheOK u.1 g)) := by
  refine mw_of (by decide +kernel) (Nat.le_of_ble_eq_true rfl) ?_
  intro p e s m below meth c ls hx hb hr hts hown hlk hml hl hN hK hP hD
  have hown : s.vm.findClass "DayBookModel" = some m.cls := hown
  have hl : lv_has ls 4 [(0, .ref a), (1, .int (iI cal)), (2, .int (iI d)), (3, .int (iI w))] := hl
  have hF : _ ∧ _ ∧ _ ∧ _ ∧ _ ∧ _ := ⟨hx, hb, hml, hown, hts, hN⟩
  have hS : va_S (Ain a ad) s.heap s.heap [] := va_S.rf
  refine lv_aload_n hx hb d_M_date_0 rfl (lv_at hl 0 rfl) ?_
  refine lv_aload_n hx hb d_M_date_1 rfl (lv_at hl 0 rfl) ?_
  refine lv_iload_n hx hb d_M_date_2 rfl (lv_at hl 1 rfl) ?_
  refine ro_V (rest := [.ref a]) (ct_M_hasCalendar l D a ad cx F g cal hv (by omega)) j_M_hasCalendar k_1021 (hts _ s_M_hasCalendar) hF (va_recv (q0 := 0) (ci := 10) hK hP rfl rfl) rfl hl.1 rfl ⟨Nat.le_of_ble_eq_true rfl, Nat.le_of_ble_eq_true rfl⟩ (Nat.le_of_ble_eq_true rfl) d_M_date_3 ⟨Nat.zero_le _, Nat.zero_le _⟩ MdB.m (fun U h1 h2 => ⟨va_K.moved h2.alike hK, by rw [h1]; exact hP⟩) ?_
  refine ai_ifeqB hx hb d_M_date_6 rfl (fun h6 => ?_) (fun h6 => ?_)
  · skip
    obtain ⟨et, ex⟩ : tc = 1 ∧ x = 0 := by rcases htc with ⟨a1, a2, a3⟩ | ⟨a1, a2, a3, a4⟩ | ⟨a1, a2, a3, a4, a5⟩; exact ⟨a1, a3⟩; (exfalso; first | exact h6 a2.1 | omega); (exfalso; first | exact h6 a2.1 | omega)
    refine ai_iconst hx hb d_M_date_18 ?_
    refine lv_goto hx hb d_M_date_19 rfl ?_
    refine va_put (D := D) (cl := CL) (ci := 10) (v := .int (iI 1)) (ty := .int) (C := "DayBookModel") (T := T_M) (N := 19) hx hb hts in_M ty_M ty_M_ok nm_M hown hK hP hD hS 0 rfl rfl 0 (by decide) (hts _ k_946) (fun _ h9 => h9) rfl (by decide +kernel) rfl rfl (Nat.le_of_ble_eq_true rfl) d_M_date_35 (fun H locs hP hD hS => ?_)
    have hP : va_P D CL (MWs a ad cx (upF F 0 1) g) H := hP
    have hD : va_D (Ain a ad) (MWs a ad cx (upF F 0 1) g) := hD
    refine lv_aload_n hx hb d_M_date_38 rfl (lv_at hl 0 rfl) ?_
    refine va_get (D := D) (cl := CL) (ci := 10) (v := .int (iI 1)) (C := "DayBookModel") (T := T_M) (N := 19) hx hb hts in_M hown hK hP 0 rfl rfl 0 (by decide) (hts _ k_946) (fun _ h9 => h9) rfl d_M_date_39 ?_
    refine ai_if_le hx hb d_M_date_42 rfl (by omega) (fun h42 => by exfalso; omega) (fun h42 => ?_)
    refine ai_iconst hx hb d_M_date_45 ?_
    exact mw_iret hx hb hr hlk d_M_date_46 hP hS ex.symm ⟨rfl, et.symm, rfl, hca⟩
  · skip
    refine lv_iload_n hx hb d_M_date_9 rfl (lv_at hl 3 rfl) ?_
    refine ai_if_lt hx hb d_M_date_10 rfl (by omega) (fun h10 => ?_) (fun h10 => ?_)
    · skip
      obtain ⟨et, ex⟩ : tc = 1 ∧ x = 0 := by rcases htc with ⟨a1, a2, a3⟩ | ⟨a1, a2, a3, a4⟩ | ⟨a1, a2, a3, a4, a5⟩; exact ⟨a1, a3⟩; (exfalso; first | exact h6 a2.1 | omega); (exfalso; first | exact h6 a2.1 | omega)
      refine ai_iconst hx hb d_M_date_18 ?_
      refine lv_goto hx hb d_M_date_19 rfl ?_
      refine va_put (D := D) (cl := CL) (ci := 10) (v := .int (iI 1)) (ty := .int) (C := "DayBookModel") (T := T_M) (N := 19) hx hb hts in_M ty_M ty_M_ok nm_M hown hK hP hD hS 0 rfl rfl 0 (by decide) (hts _ k_946) (fun _ h9 => h9) rfl (by decide +kernel) rfl rfl (Nat.le_of_ble_eq_true rfl) d_M_date_35 (fun H locs hP hD hS => ?_)
      have hP : va_P D CL (MWs a ad cx (upF F 0 1) g) H := hP
      have hD : va_D (Ain a ad) (MWs a ad cx (upF F 0 1) g) := hD
      refine lv_aload_n hx hb d_M_date_38 rfl (lv_at hl 0 rfl) ?_
      refine va_get (D := D) (cl := CL) (ci := 10) (v := .int (iI 1)) (C := "DayBookModel") (T := T_M) (N := 19) hx hb hts in_M hown hK hP 0 rfl rfl 0 (by decide) (hts _ k_946) (fun _ h9 => h9) rfl d_M_date_39 ?_
      refine ai_if_le hx hb d_M_date_42 rfl (by omega) (fun h42 => by exfalso; omega) (fun h42 => ?_)
      refine ai_iconst hx hb d_M_date_45 ?_
      exact mw_iret hx hb hr hlk d_M_date_46 hP hS ex.symm ⟨rfl, et.symm, rfl, hca⟩
    · skip
      refine lv_iload_n hx hb d_M_date_13 rfl (lv_at hl 3 rfl) ?_
      refine ai_iconst hx hb d_M_date_14 ?_
      refine ai_icmp_le hx hb d_M_date_15 rfl (by omega) (by omega) (fun h15 => ?_) (fun h15 => ?_)
      · skip
        refine lv_iload_n hx hb d_M_date_22 rfl (lv_at hl 2 rfl) ?_
        refine ai_i2l hx hb d_M_date_23 (by omega) ?_
        refine ro_S (rest := [.ref a]) (ct_M_inRange l d (by omega)) j_M_inRange k_1025 hF rfl hl.1 rfl ⟨Nat.le_of_ble_eq_true rfl, Nat.le_of_ble_eq_true rfl⟩ (Nat.le_of_ble_eq_true rfl) d_M_date_24 ⟨Nat.zero_le _, Nat.zero_le _⟩ Bm_true (fun _ _ _ => trivial) ?_
        refine ai_ifneB hx hb d_M_date_27 rfl (fun h27 => ?_) (fun h27 => ?_)
        · skip
          have hc_ := h6
          obtain ⟨et, hdt, ex⟩ : tc = 0 ∧ DTM g cal d Yr Mo Dy ∧ x = (if w = 0 then Yr else if w = 1 then Mo else Dy) := by rcases htc with ⟨a1, a2, a3⟩ | ⟨a1, a2, a3, a4⟩ | ⟨a1, a2, a3, a4, a5⟩; exact absurd ⟨h6, by omega⟩ a2; exact absurd h27 a3; exact ⟨a1, a4, a5⟩
          refine ai_iconst hx hb d_M_date_34 ?_
          refine va_put (D := D) (cl := CL) (ci := 10) (v := .int (iI 0)) (ty := .int) (C := "DayBookModel") (T := T_M) (N := 19) hx hb hts in_M ty_M ty_M_ok nm_M hown hK hP hD hS 0 rfl rfl 0 (by decide) (hts _ k_946) (fun _ h9 => h9) rfl (by decide +kernel) rfl rfl (Nat.le_of_ble_eq_true rfl) d_M_date_35 (fun H locs hP hD hS => ?_)
          have hP : va_P D CL (MWs a ad cx (upF F 0 0) g) H := hP
          have hD : va_D (Ain a ad) (MWs a ad cx (upF F 0 0) g) := hD
          refine lv_aload_n hx hb d_M_date_38 rfl (lv_at hl 0 rfl) ?_
          refine va_get (D := D) (cl := CL) (ci := 10) (v := .int (iI 0)) (C := "DayBookModel") (T := T_M) (N := 19) hx hb hts in_M hown hK hP 0 rfl rfl 0 (by decide) (hts _ k_946) (fun _ h9 => h9) rfl d_M_date_39 ?_
          refine ai_if_le hx hb d_M_date_42 rfl (by omega) (fun h42 => ?_) (fun h42 => by exfalso; omega)
          refine lv_aload_n hx hb d_M_date_47 rfl (lv_at hl 0 rfl) ?_
          refine lv_iload_n hx hb d_M_date_48 rfl (lv_at hl 1 rfl) ?_
          refine lv_iload_n hx hb d_M_date_49 rfl (lv_at hl 2 rfl) ?_
          refine ai_i2l hx hb d_M_date_50 (by omega) ?_
          refine mw_v (rest := []) (ct_M_findDate l D a ad cx (upF F 0 0) g cal d Yr Mo Dy (MInv.cal hc_) (hv.ho hc_) (hv.1 0 (by decide)) (hv.cy hc_) hca (by omega) hdt) j_M_findDate k_1030 s_M_findDate hF hK hP hD hS (fun _ h => h) rfl hl.1 rfl ⟨Nat.le_of_ble_eq_true rfl, Nat.le_of_ble_eq_true rfl⟩ (Nat.le_of_ble_eq_true rfl) d_M_date_51 ⟨Nat.zero_le _, Nat.zero_le _⟩ (fun u51 H locs hΦ51 hP hS => ?_)
          obtain ⟨F51, g51⟩ := u51
          dsimp only at hΦ51 hP
          obtain ⟨eg51, y51, m51, d51, t51, z51, c51⟩ := hΦ51
          rw [eg51] at hP
          have hD : va_D (Ain a ad) (MWs a ad cx F51 g) := MD.any hD
          refine lv_iload_n hx hb d_M_date_54 rfl (lv_at hl 3 rfl) ?_
          refine ai_if_ne hx hb d_M_date_55 rfl (by omega) (fun h55 => ?_) (fun h55 => ?_)
          · skip
            refine lv_iload_n hx hb d_M_date_66 rfl (lv_at hl 3 rfl) ?_
            refine ai_iconst hx hb d_M_date_67 ?_
            refine ai_icmp_ne hx hb d_M_date_68 rfl (by omega) (by omega) (fun h68 => ?_) (fun h68 => ?_)
            · skip
              refine lv_aload_n hx hb d_M_date_78 rfl (lv_at hl 0 rfl) ?_
              refine va_get (D := D) (cl := CL) (ci := 10) (v := .int (iI (F51 7))) (C := "DayBookModel") (T := T_M) (N := 19) hx hb hts in_M hown hK hP 0 rfl rfl 16 (by decide) (hts _ k_962) (fun _ h9 => h9) rfl d_M_date_79 ?_
              exact mw_iret hx hb hr hlk d_M_date_82 hP hS (by rw [ex, if_neg (by omega), if_neg (by omega), d51]) ⟨rfl, (by rw [et]; exact t51), z51, c51⟩
            · skip
              refine lv_aload_n hx hb d_M_date_71 rfl (lv_at hl 0 rfl) ?_
              refine va_get (D := D) (cl := CL) (ci := 10) (v := .int (iI (F51 6))) (C := "DayBookModel") (T := T_M) (N := 19) hx hb hts in_M hown hK hP 0 rfl rfl 15 (by decide) (hts _ k_961) (fun _ h9 => h9) rfl d_M_date_72 ?_
              refine lv_goto hx hb d_M_date_75 rfl ?_
              exact mw_iret hx hb hr hlk d_M_date_82 hP hS (by rw [ex, if_neg (by omega), if_pos (by omega), m51]) ⟨rfl, (by rw [et]; exact t51), z51, c51⟩
          · skip
            refine lv_aload_n hx hb d_M_date_58 rfl (lv_at hl 0 rfl) ?_
            refine va_get (D := D) (cl := CL) (ci := 10) (v := .long (iL (F51 5))) (C := "DayBookModel") (T := T_M) (N := 19) hx hb hts in_M hown hK hP 0 rfl rfl 14 (by decide) (hts _ k_960) (fun _ h9 => h9) rfl d_M_date_59 ?_
            refine ai_l2i hx hb d_M_date_62 ?_
            refine lv_goto hx hb d_M_date_63 rfl ?_
            exact mw_iret hx hb hr hlk d_M_date_82 hP hS (by rw [ex, if_pos (by omega), y51]) ⟨rfl, (by rw [et]; exact t51), z51, c51⟩
        · skip
          obtain ⟨et, ex⟩ : tc = 2 ∧ x = 0 := by rcases htc with ⟨a1, a2, a3⟩ | ⟨a1, a2, a3, a4⟩ | ⟨a1, a2, a3, a4, a5⟩; exact absurd ⟨h6, by omega⟩ a2; exact ⟨a1, a4⟩; exact absurd a3 h27
          refine ai_iconst hx hb d_M_date_30 ?_
          refine lv_goto hx hb d_M_date_31 rfl ?_
          refine va_put (D := D) (cl := CL) (ci := 10) (v := .int (iI 2)) (ty := .int) (C := "DayBookModel") (T := T_M) (N := 19) hx hb hts in_M ty_M ty_M_ok nm_M hown hK hP hD hS 0 rfl rfl 0 (by decide) (hts _ k_946) (fun _ h9 => h9) rfl (by decide +kernel) rfl rfl (Nat.le_of_ble_eq_true rfl) d_M_date_35 (fun H locs hP hD hS => ?_)
          have hP : va_P D CL (MWs a ad cx (upF F 0 2) g) H := hP
          have hD : va_D (Ain a ad) (MWs a ad cx (upF F 0 2) g) := hD
          refine lv_aload_n hx hb d_M_date_38 rfl (lv_at hl 0 rfl) ?_
          refine va_get (D := D) (cl := CL) (ci := 10) (v := .int (iI 2)) (C := "DayBookModel") (T := T_M) (N := 19) hx hb hts in_M hown hK hP 0 rfl rfl 0 (by decide) (hts _ k_946) (fun _ h9 => h9) rfl d_M_date_39 ?_
          refine ai_if_le hx hb d_M_date_42 rfl (by omega) (fun h42 => by exfalso; omega) (fun h42 => ?_)
          refine ai_iconst hx hb d_M_date_45 ?_
          exact mw_iret hx hb hr hlk d_M_date_46 hP hS ex.symm ⟨rfl, et.symm, rfl, hca⟩
      · skip
        obtain ⟨et, ex⟩ : tc = 1 ∧ x = 0 := by rcases htc with ⟨a1, a2, a3⟩ | ⟨a1, a2, a3, a4⟩ | ⟨a1, a2, a3, a4, a5⟩; exact ⟨a1, a3⟩; (exfalso; first | exact h6 a2.1 | omega); (exfalso; first | exact h6 a2.1 | omega)
        refine ai_iconst hx hb d_M_date_18 ?_
        refine lv_goto hx hb d_M_date_19 rfl ?_
        refine va_put (D := D) (cl := CL) (ci := 10) (v := .int (iI 1)) (ty := .int) (C := "DayBookModel") (T := T_M) (N := 19) hx hb hts in_M ty_M ty_M_ok nm_M hown hK hP hD hS 0 rfl rfl 0 (by decide) (hts _ k_946) (fun _ h9 => h9) rfl (by decide +kernel) rfl rfl (Nat.le_of_ble_eq_true rfl) d_M_date_35 (fun H locs hP hD hS => ?_)
        have hP : va_P D CL (MWs a ad cx (upF F 0 1) g) H := hP
        have hD : va_D (Ain a ad) (MWs a ad cx (upF F 0 1) g) := hD
        refine lv_aload_n hx hb d_M_date_38 rfl (lv_at hl 0 rfl) ?_
        refine va_get (D := D) (cl := CL) (ci := 10) (v := .int (iI 1)) (C := "DayBookModel") (T := T_M) (N := 19) hx hb hts in_M hown hK hP 0 rfl rfl 0 (by decide) (hts _ k_946) (fun _ h9 => h9) rfl d_M_date_39 ?_
        refine ai_if_le hx hb d_M_date_42 rfl (by omega) (fun h42 => by exfalso; omega) (fun h42 => ?_)
        refine ai_iconst hx hb d_M_date_45 ?_
        exact mw_iret hx hb hr hlk d_M_date_46 hP hS ex.symm ⟨rfl, et.symm, rfl, hca⟩
set_option maxHeartbeats 4000000 in
set_option maxRecDepth 100000 in
theorem ct_M_fixed (l : Launch) (D : va_G) (a : Nat) (ad : Nat → Nat) (cx : Nat → ClassId) (F : Nat → Int) (g : Nat → Nat → Int) (cal : Int) (y : Int) (mn : Int) (dd : Int) (tc : Int) (x : Int) (r : Int) (hv : MInv g) (hca : CacheOK F g) (rc : -2147483648 ≤ cal ∧ cal ≤ 2147483647) (ry : -2147483648 ≤ y ∧ y ≤ 2147483647) (rm : -2147483648 ≤ mn ∧ mn ≤ 2147483647) (rdd : -2147483648 ≤ dd ∧ dd ≤ 2147483647) (rr : -9223372036854775808 ≤ r ∧ r ≤ 9223372036854775807) (htc : (tc = 1 ∧ ¬ hcM g cal ∧ x = 0) ∨ (tc = 2 ∧ hcM g cal ∧ ¬ (-100000 ≤ y ∧ y ≤ 100000) ∧ x = 0) ∨ (hcM g cal ∧ (-100000 ≤ y ∧ y ≤ 100000) ∧ DOM g cal y mn dd r ∧ ((tc = 3 ∧ r = -9223372036854775808 ∧ x = 0) ∨ (tc = 2 ∧ r ≠ -9223372036854775808 ∧ ¬ (-40000000 ≤ r ∧ r ≤ 40000000) ∧ x = 0) ∨ (tc = 0 ∧ r ≠ -9223372036854775808 ∧ (-40000000 ≤ r ∧ r ≤ 40000000) ∧ x = r)))) : MW l y_M_fixed w_M_fixed 11 283 [.ref a, .int (iI cal), .int (iI y), .int (iI mn), .int (iI dd)] D a ad cx F g (QMi D a ad cx x (fun u => u.2 = g ∧ u.1 0 = tc ∧ u.1 8 = F 8 ∧ CacheOK u.1 g)) := by
  refine mw_of (by decide +kernel) (Nat.le_of_ble_eq_true rfl) ?_
  intro p e s m below meth c ls hx hb hr hts hown hlk hml hl hN hK hP hD
  have hown : s.vm.findClass "DayBookModel" = some m.cls := hown
  have hl : lv_has ls 7 [(0, .ref a), (1, .int (iI cal)), (2, .int (iI y)), (3, .int (iI mn)), (4, .int (iI dd))] := hl
  have hF : _ ∧ _ ∧ _ ∧ _ ∧ _ ∧ _ := ⟨hx, hb, hml, hown, hts, hN⟩
  have hS : va_S (Ain a ad) s.heap s.heap [] := va_S.rf
  refine lv_aload_n hx hb d_M_fixed_0 rfl (lv_at hl 0 rfl) ?_
  refine lv_aload_n hx hb d_M_fixed_1 rfl (lv_at hl 0 rfl) ?_
  refine lv_iload_n hx hb d_M_fixed_2 rfl (lv_at hl 1 rfl) ?_
  refine ro_V (rest := [.ref a]) (ct_M_hasCalendar l D a ad cx F g cal hv (by omega)) j_M_hasCalendar k_1021 (hts _ s_M_hasCalendar) hF (va_recv (q0 := 0) (ci := 10) hK hP rfl rfl) rfl hl.1 rfl ⟨Nat.le_of_ble_eq_true rfl, Nat.le_of_ble_eq_true rfl⟩ (Nat.le_of_ble_eq_true rfl) d_M_fixed_3 ⟨Nat.zero_le _, Nat.zero_le _⟩ MdB.m (fun U h1 h2 => ⟨va_K.moved h2.alike hK, by rw [h1]; exact hP⟩) ?_
  refine ai_ifneB hx hb d_M_fixed_6 rfl (fun h6 => ?_) (fun h6 => ?_)
  · skip
    refine lv_iload_n hx hb d_M_fixed_13 rfl (lv_at hl 2 rfl) ?_
    refine ro_S (rest := [.ref a]) (ct_M_isYear l y (by omega)) j_M_isYear k_1125 hF rfl hl.1 rfl ⟨Nat.le_of_ble_eq_true rfl, Nat.le_of_ble_eq_true rfl⟩ (Nat.le_of_ble_eq_true rfl) d_M_fixed_14 ⟨Nat.zero_le _, Nat.zero_le _⟩ Bm_true (fun _ _ _ => trivial) ?_
    refine ai_ifneB hx hb d_M_fixed_17 rfl (fun h17 => ?_) (fun h17 => ?_)
    · skip
      have hc_ := h6
      obtain ⟨hdo, hfin⟩ : DOM g cal y mn dd r ∧ ((tc = 3 ∧ r = -9223372036854775808 ∧ x = 0) ∨ (tc = 2 ∧ r ≠ -9223372036854775808 ∧ ¬ (-40000000 ≤ r ∧ r ≤ 40000000) ∧ x = 0) ∨ (tc = 0 ∧ r ≠ -9223372036854775808 ∧ (-40000000 ≤ r ∧ r ≤ 40000000) ∧ x = r)) := by rcases htc with ⟨a1, a2, a3⟩ | ⟨a1, a2, a3, a4⟩ | ⟨a1, a2, a3, a4⟩; exact absurd h6 a2; exact absurd h17 a3; exact ⟨a3, a4⟩
      refine ai_iconst hx hb d_M_fixed_24 ?_
      refine va_put (D := D) (cl := CL) (ci := 10) (v := .int (iI 0)) (ty := .int) (C := "DayBookModel") (T := T_M) (N := 19) hx hb hts in_M ty_M ty_M_ok nm_M hown hK hP hD hS 0 rfl rfl 0 (by decide) (hts _ k_946) (fun _ h9 => h9) rfl (by decide +kernel) rfl rfl (Nat.le_of_ble_eq_true rfl) d_M_fixed_25 (fun H locs hP hD hS => ?_)
      have hP : va_P D CL (MWs a ad cx (upF F 0 0) g) H := hP
      have hD : va_D (Ain a ad) (MWs a ad cx (upF F 0 0) g) := hD
      refine lv_aload_n hx hb d_M_fixed_28 rfl (lv_at hl 0 rfl) ?_
      refine va_get (D := D) (cl := CL) (ci := 10) (v := .int (iI 0)) (C := "DayBookModel") (T := T_M) (N := 19) hx hb hts in_M hown hK hP 0 rfl rfl 0 (by decide) (hts _ k_946) (fun _ h9 => h9) rfl d_M_fixed_29 ?_
      refine ai_if_le hx hb d_M_fixed_32 rfl (by omega) (fun h32 => ?_) (fun h32 => by exfalso; omega)
      refine lv_aload_n hx hb d_M_fixed_37 rfl (lv_at hl 0 rfl) ?_
      refine lv_iload_n hx hb d_M_fixed_38 rfl (lv_at hl 1 rfl) ?_
      refine lv_iload_n hx hb d_M_fixed_39 rfl (lv_at hl 2 rfl) ?_
      refine lv_iload_n hx hb d_M_fixed_40 rfl (lv_at hl 3 rfl) ?_
      refine lv_iload hx hb d_M_fixed_41 (lv_at hl 4 rfl) ?_
      refine mw_l (rest := []) (ct_M_dayOf l D a ad cx (upF F 0 0) g cal y mn dd r (MInv.cal hc_) (hv.ho hc_) (hv.1 0 (by decide)) (hv.cy hc_) hca (by omega) (by omega) (by omega) hdo) j_M_dayOf k_1130 s_M_dayOf hF hK hP hD hS (fun _ h => h) rfl hl.1 rfl ⟨Nat.le_of_ble_eq_true rfl, Nat.le_of_ble_eq_true rfl⟩ (Nat.le_of_ble_eq_true rfl) d_M_fixed_43 ⟨Nat.zero_le _, Nat.zero_le _⟩ (fun u43 H locs hΦ43 hP hS => ?_)
      obtain ⟨F43, g43⟩ := u43
      dsimp only at hΦ43 hP
      obtain ⟨eg43, t43, z43, c43⟩ := hΦ43
      rw [eg43] at hP
      have hD : va_D (Ain a ad) (MWs a ad cx F43 g) := MD.any hD
      refine lv_lstore (lv' := [(5, .long (iL r)), (0, .ref a), (1, .int (iI cal)), (2, .int (iI y)), (3, .int (iI mn)), (4, .int (iI dd))]) hx hb d_M_fixed_46 hl (by decide) rfl (fun ls hl => ?_)
      refine lv_aload_n hx hb d_M_fixed_48 rfl (lv_at hl 1 rfl) ?_
      refine lv_lload hx hb d_M_fixed_49 (lv_at hl 0 rfl) ?_
      refine ai_ldc2 (x := -9223372036854775808) hx hb hown (hts _ k_1134) (by decide +kernel) d_M_fixed_51 ?_
      refine ai_lcmp_ne hx hb d_M_fixed_54 d_M_fixed_55 rfl (by omega) (by omega) (fun h54 => ?_) (fun h54 => ?_)
      · skip
        refine lv_lload hx hb d_M_fixed_62 (lv_at hl 0 rfl) ?_
        refine ro_S (rest := [.ref a]) (ct_M_inRange l r (by omega)) j_M_inRange k_1025 hF rfl hl.1 rfl ⟨Nat.le_of_ble_eq_true rfl, Nat.le_of_ble_eq_true rfl⟩ (Nat.le_of_ble_eq_true rfl) d_M_fixed_64 ⟨Nat.zero_le _, Nat.zero_le _⟩ Bm_true (fun _ _ _ => trivial) ?_
        refine ai_ifneB hx hb d_M_fixed_67 rfl (fun h67 => ?_) (fun h67 => ?_)
        · skip
          refine ai_iconst hx hb d_M_fixed_74 ?_
          refine va_put (D := D) (cl := CL) (ci := 10) (v := .int (iI 0)) (ty := .int) (C := "DayBookModel") (T := T_M) (N := 19) hx hb hts in_M ty_M ty_M_ok nm_M hown hK hP hD hS 0 rfl rfl 0 (by decide) (hts _ k_946) (fun _ h9 => h9) rfl (by decide +kernel) rfl rfl (Nat.le_of_ble_eq_true rfl) d_M_fixed_75 (fun H locs hP hD hS => ?_)
          have hP : va_P D CL (MWs a ad cx (upF F43 0 0) g) H := hP
          have hD : va_D (Ain a ad) (MWs a ad cx (upF F43 0 0) g) := hD
          refine lv_aload_n hx hb d_M_fixed_78 rfl (lv_at hl 1 rfl) ?_
          refine va_get (D := D) (cl := CL) (ci := 10) (v := .int (iI 0)) (C := "DayBookModel") (T := T_M) (N := 19) hx hb hts in_M hown hK hP 0 rfl rfl 0 (by decide) (hts _ k_946) (fun _ h9 => h9) rfl d_M_fixed_79 ?_
          refine ai_if_le hx hb d_M_fixed_82 rfl (by omega) (fun h82 => ?_) (fun h82 => by exfalso; omega)
          refine lv_lload hx hb d_M_fixed_89 (lv_at hl 0 rfl) ?_
          refine ai_l2i hx hb d_M_fixed_91 ?_
          exact mw_iret hx hb hr hlk d_M_fixed_92 hP hS (by omega) ⟨rfl, (by show 0 = tc; omega), z43, c43⟩
        · skip
          refine ai_iconst hx hb d_M_fixed_70 ?_
          refine lv_goto hx hb d_M_fixed_71 rfl ?_
          refine va_put (D := D) (cl := CL) (ci := 10) (v := .int (iI 2)) (ty := .int) (C := "DayBookModel") (T := T_M) (N := 19) hx hb hts in_M ty_M ty_M_ok nm_M hown hK hP hD hS 0 rfl rfl 0 (by decide) (hts _ k_946) (fun _ h9 => h9) rfl (by decide +kernel) rfl rfl (Nat.le_of_ble_eq_true rfl) d_M_fixed_75 (fun H locs hP hD hS => ?_)
          have hP : va_P D CL (MWs a ad cx (upF F43 0 2) g) H := hP
          have hD : va_D (Ain a ad) (MWs a ad cx (upF F43 0 2) g) := hD
          refine lv_aload_n hx hb d_M_fixed_78 rfl (lv_at hl 1 rfl) ?_
          refine va_get (D := D) (cl := CL) (ci := 10) (v := .int (iI 2)) (C := "DayBookModel") (T := T_M) (N := 19) hx hb hts in_M hown hK hP 0 rfl rfl 0 (by decide) (hts _ k_946) (fun _ h9 => h9) rfl d_M_fixed_79 ?_
          refine ai_if_le hx hb d_M_fixed_82 rfl (by omega) (fun h82 => by exfalso; omega) (fun h82 => ?_)
          refine ai_iconst hx hb d_M_fixed_85 ?_
          refine lv_goto hx hb d_M_fixed_86 rfl ?_
          exact mw_iret hx hb hr hlk d_M_fixed_92 hP hS (by omega) ⟨rfl, (by show 2 = tc; omega), z43, c43⟩
      · skip
        refine ai_iconst hx hb d_M_fixed_58 ?_
        refine lv_goto hx hb d_M_fixed_59 rfl ?_
        refine va_put (D := D) (cl := CL) (ci := 10) (v := .int (iI 3)) (ty := .int) (C := "DayBookModel") (T := T_M) (N := 19) hx hb hts in_M ty_M ty_M_ok nm_M hown hK hP hD hS 0 rfl rfl 0 (by decide) (hts _ k_946) (fun _ h9 => h9) rfl (by decide +kernel) rfl rfl (Nat.le_of_ble_eq_true rfl) d_M_fixed_75 (fun H locs hP hD hS => ?_)
        have hP : va_P D CL (MWs a ad cx (upF F43 0 3) g) H := hP
        have hD : va_D (Ain a ad) (MWs a ad cx (upF F43 0 3) g) := hD
        refine lv_aload_n hx hb d_M_fixed_78 rfl (lv_at hl 1 rfl) ?_
        refine va_get (D := D) (cl := CL) (ci := 10) (v := .int (iI 3)) (C := "DayBookModel") (T := T_M) (N := 19) hx hb hts in_M hown hK hP 0 rfl rfl 0 (by decide) (hts _ k_946) (fun _ h9 => h9) rfl d_M_fixed_79 ?_
        refine ai_if_le hx hb d_M_fixed_82 rfl (by omega) (fun h82 => by exfalso; omega) (fun h82 => ?_)
        refine ai_iconst hx hb d_M_fixed_85 ?_
        refine lv_goto hx hb d_M_fixed_86 rfl ?_
        exact mw_iret hx hb hr hlk d_M_fixed_92 hP hS (by omega) ⟨rfl, (by show 3 = tc; omega), z43, c43⟩
    · skip
      obtain ⟨et, ex⟩ : tc = 2 ∧ x = 0 := by rcases htc with ⟨a1, a2, a3⟩ | ⟨a1, a2, a3, a4⟩ | ⟨a1, a2, a3, a4⟩; exact absurd h6 a2; exact ⟨a1, a4⟩; exact absurd a2 h17
      refine ai_iconst hx hb d_M_fixed_20 ?_
      refine lv_goto hx hb d_M_fixed_21 rfl ?_
      refine va_put (D := D) (cl := CL) (ci := 10) (v := .int (iI 2)) (ty := .int) (C := "DayBookModel") (T := T_M) (N := 19) hx hb hts in_M ty_M ty_M_ok nm_M hown hK hP hD hS 0 rfl rfl 0 (by decide) (hts _ k_946) (fun _ h9 => h9) rfl (by decide +kernel) rfl rfl (Nat.le_of_ble_eq_true rfl) d_M_fixed_25 (fun H locs hP hD hS => ?_)
      have hP : va_P D CL (MWs a ad cx (upF F 0 2) g) H := hP
      have hD : va_D (Ain a ad) (MWs a ad cx (upF F 0 2) g) := hD
      refine lv_aload_n hx hb d_M_fixed_28 rfl (lv_at hl 0 rfl) ?_
      refine va_get (D := D) (cl := CL) (ci := 10) (v := .int (iI 2)) (C := "DayBookModel") (T := T_M) (N := 19) hx hb hts in_M hown hK hP 0 rfl rfl 0 (by decide) (hts _ k_946) (fun _ h9 => h9) rfl d_M_fixed_29 ?_
      refine ai_if_le hx hb d_M_fixed_32 rfl (by omega) (fun h32 => by exfalso; omega) (fun h32 => ?_)
      refine ai_iconst hx hb d_M_fixed_35 ?_
      exact mw_iret hx hb hr hlk d_M_fixed_36 hP hS ex.symm ⟨rfl, et.symm, rfl, hca⟩
  · skip
    obtain ⟨et, ex⟩ : tc = 1 ∧ x = 0 := by rcases htc with ⟨a1, a2, a3⟩ | ⟨a1, a2, a3, a4⟩ | ⟨a1, a2, a3, a4⟩; exact ⟨a1, a3⟩; exact absurd a2 h6; exact absurd a1 h6
    refine ai_iconst hx hb d_M_fixed_9 ?_
    refine lv_goto hx hb d_M_fixed_10 rfl ?_
    refine va_put (D := D) (cl := CL) (ci := 10) (v := .int (iI 1)) (ty := .int) (C := "DayBookModel") (T := T_M) (N := 19) hx hb hts in_M ty_M ty_M_ok nm_M hown hK hP hD hS 0 rfl rfl 0 (by decide) (hts _ k_946) (fun _ h9 => h9) rfl (by decide +kernel) rfl rfl (Nat.le_of_ble_eq_true rfl) d_M_fixed_25 (fun H locs hP hD hS => ?_)
    have hP : va_P D CL (MWs a ad cx (upF F 0 1) g) H := hP
    have hD : va_D (Ain a ad) (MWs a ad cx (upF F 0 1) g) := hD
    refine lv_aload_n hx hb d_M_fixed_28 rfl (lv_at hl 0 rfl) ?_
    refine va_get (D := D) (cl := CL) (ci := 10) (v := .int (iI 1)) (C := "DayBookModel") (T := T_M) (N := 19) hx hb hts in_M hown hK hP 0 rfl rfl 0 (by decide) (hts _ k_946) (fun _ h9 => h9) rfl d_M_fixed_29 ?_
    refine ai_if_le hx hb d_M_fixed_32 rfl (by omega) (fun h32 => by exfalso; omega) (fun h32 => ?_)
    refine ai_iconst hx hb d_M_fixed_35 ?_
    exact mw_iret hx hb hr hlk d_M_fixed_36 hP hS ex.symm ⟨rfl, et.symm, rfl, hca⟩
set_option maxHeartbeats 4000000 in
set_option maxRecDepth 100000 in
theorem ct_M_leap (l : Launch) (D : va_G) (a : Nat) (ad : Nat → Nat) (cx : Nat → ClassId) (F : Nat → Int) (g : Nat → Nat → Int) (cal : Int) (y : Int) (tc : Int) (A : Prop) (hv : MInv g) (hca : CacheOK F g) (rc : -2147483648 ≤ cal ∧ cal ≤ 2147483647) (ry : -2147483648 ≤ y ∧ y ≤ 2147483647) (htc : (tc = 1 ∧ (cal = 2 ∨ cal = 10 ∨ cal = 11) ∧ ¬ A) ∨ (¬ (cal = 2 ∨ cal = 10 ∨ cal = 11) ∧ ((tc = 2 ∧ ¬ hcM g cal ∧ ¬ A) ∨ (hcM g cal ∧ ((tc = 3 ∧ ((cal = 1 ∨ cal = 6) ∧ y = 0) ∧ ¬ A) ∨ (¬ ((cal = 1 ∨ cal = 6) ∧ y = 0) ∧ ((tc = 4 ∧ ¬ (-100000 ≤ y ∧ y ≤ 100000) ∧ ¬ A) ∨ (tc = 0 ∧ (-100000 ≤ y ∧ y ≤ 100000) ∧ (A ↔ lpM g cal (ctd cal y)))))))))) : MW l y_M_leap w_M_leap 4 92 [.ref a, .int (iI cal), .int (iI y)] D a ad cx F g (QMi D a ad cx (bI A) (fun u => u.2 = g ∧ u.1 0 = tc ∧ u.1 8 = F 8 ∧ CacheOK u.1 g)) := by
  refine mw_of (by decide +kernel) (Nat.le_of_ble_eq_true rfl) ?_
  intro p e s m below meth c ls hx hb hr hts hown hlk hml hl hN hK hP hD
  have hown : s.vm.findClass "DayBookModel" = some m.cls := hown
  have hl : lv_has ls 3 [(0, .ref a), (1, .int (iI cal)), (2, .int (iI y))] := hl
  have hF : _ ∧ _ ∧ _ ∧ _ ∧ _ ∧ _ := ⟨hx, hb, hml, hown, hts, hN⟩
  have hS : va_S (Ain a ad) s.heap s.heap [] := va_S.rf
  have hct := ctd_rng (cal := cal) (y := y)
  refine lv_aload_n hx hb d_M_leap_0 rfl (lv_at hl 0 rfl) ?_
  refine lv_iload_n hx hb d_M_leap_1 rfl (lv_at hl 1 rfl) ?_
  refine ai_iconst hx hb d_M_leap_2 ?_
  refine ai_icmp_eq hx hb d_M_leap_3 rfl (by omega) (by omega) (fun h3 => ?_) (fun h3 => ?_)
  · skip
    obtain ⟨et, ex⟩ : tc = 1 ∧ ¬ A := by rcases htc with ⟨a1, a2, a3⟩ | ⟨a1, a2⟩; exact ⟨a1, a3⟩; exact absurd (by omega) a1
    refine ai_iconst hx hb d_M_leap_18 ?_
    refine lv_goto hx hb d_M_leap_19 rfl ?_
    refine va_put (D := D) (cl := CL) (ci := 10) (v := .int (iI 1)) (ty := .int) (C := "DayBookModel") (T := T_M) (N := 19) hx hb hts in_M ty_M ty_M_ok nm_M hown hK hP hD hS 0 rfl rfl 0 (by decide) (hts _ k_946) (fun _ h9 => h9) rfl (by decide +kernel) rfl rfl (Nat.le_of_ble_eq_true rfl) d_M_leap_61 (fun H locs hP hD hS => ?_)
    have hP : va_P D CL (MWs a ad cx (upF F 0 1) g) H := hP
    have hD : va_D (Ain a ad) (MWs a ad cx (upF F 0 1) g) := hD
    refine lv_aload_n hx hb d_M_leap_64 rfl (lv_at hl 0 rfl) ?_
    refine va_get (D := D) (cl := CL) (ci := 10) (v := .int (iI 1)) (C := "DayBookModel") (T := T_M) (N := 19) hx hb hts in_M hown hK hP 0 rfl rfl 0 (by decide) (hts _ k_946) (fun _ h9 => h9) rfl d_M_leap_65 ?_
    refine ai_if_ne hx hb d_M_leap_68 rfl (by omega) (fun h68 => ?_) (fun h68 => by exfalso; omega)
    refine ai_iconst hx hb d_M_leap_89 ?_
    exact mw_zret hx hb hr hlk d_M_leap_90 hP hS (ro_0 (by first | exact ex | exact fun q => h82 (ex.mp q)) rfl) ⟨rfl, et.symm, rfl, hca⟩
  · skip
    refine lv_iload_n hx hb d_M_leap_6 rfl (lv_at hl 1 rfl) ?_
    refine ai_bipush (x := 10) hx hb d_M_leap_7 (by decide +kernel) ?_
    refine ai_icmp_eq hx hb d_M_leap_9 rfl (by omega) (by omega) (fun h9 => ?_) (fun h9 => ?_)
    · skip
      obtain ⟨et, ex⟩ : tc = 1 ∧ ¬ A := by rcases htc with ⟨a1, a2, a3⟩ | ⟨a1, a2⟩; exact ⟨a1, a3⟩; exact absurd (by omega) a1
      refine ai_iconst hx hb d_M_leap_18 ?_
      refine lv_goto hx hb d_M_leap_19 rfl ?_
      refine va_put (D := D) (cl := CL) (ci := 10) (v := .int (iI 1)) (ty := .int) (C := "DayBookModel") (T := T_M) (N := 19) hx hb hts in_M ty_M ty_M_ok nm_M hown hK hP hD hS 0 rfl rfl 0 (by decide) (hts _ k_946) (fun _ h9 => h9) rfl (by decide +kernel) rfl rfl (Nat.le_of_ble_eq_true rfl) d_M_leap_61 (fun H locs hP hD hS => ?_)
      have hP : va_P D CL (MWs a ad cx (upF F 0 1) g) H := hP
      have hD : va_D (Ain a ad) (MWs a ad cx (upF F 0 1) g) := hD
      refine lv_aload_n hx hb d_M_leap_64 rfl (lv_at hl 0 rfl) ?_
      refine va_get (D := D) (cl := CL) (ci := 10) (v := .int (iI 1)) (C := "DayBookModel") (T := T_M) (N := 19) hx hb hts in_M hown hK hP 0 rfl rfl 0 (by decide) (hts _ k_946) (fun _ h9 => h9) rfl d_M_leap_65 ?_
      refine ai_if_ne hx hb d_M_leap_68 rfl (by omega) (fun h68 => ?_) (fun h68 => by exfalso; omega)
      refine ai_iconst hx hb d_M_leap_89 ?_
      exact mw_zret hx hb hr hlk d_M_leap_90 hP hS (ro_0 (by first | exact ex | exact fun q => h82 (ex.mp q)) rfl) ⟨rfl, et.symm, rfl, hca⟩
    · skip
      refine lv_iload_n hx hb d_M_leap_12 rfl (lv_at hl 1 rfl) ?_
      refine ai_bipush (x := 11) hx hb d_M_leap_13 (by decide +kernel) ?_
      refine ai_icmp_ne hx hb d_M_leap_15 rfl (by omega) (by omega) (fun h15 => ?_) (fun h15 => ?_)
      · skip
        replace htc := (htc.resolve_left (fun q => by omega)).2
        refine lv_aload_n hx hb d_M_leap_22 rfl (lv_at hl 0 rfl) ?_
        refine lv_iload_n hx hb d_M_leap_23 rfl (lv_at hl 1 rfl) ?_
        refine ro_V (rest := [.ref a]) (ct_M_hasCalendar l D a ad cx F g cal hv (by omega)) j_M_hasCalendar k_1021 (hts _ s_M_hasCalendar) hF (va_recv (q0 := 0) (ci := 10) hK hP rfl rfl) rfl hl.1 rfl ⟨Nat.le_of_ble_eq_true rfl, Nat.le_of_ble_eq_true rfl⟩ (Nat.le_of_ble_eq_true rfl) d_M_leap_24 ⟨Nat.zero_le _, Nat.zero_le _⟩ MdB.m (fun U h1 h2 => ⟨va_K.moved h2.alike hK, by rw [h1]; exact hP⟩) ?_
        refine ai_ifneB hx hb d_M_leap_27 rfl (fun h27 => ?_) (fun h27 => ?_)
        · skip
          have hc_ := h27
          replace htc := (htc.resolve_left (fun q => q.2.1 h27)).2
          have hC : cal = 0 ∨ cal = 1 ∨ cal = 3 ∨ cal = 4 ∨ cal = 5 ∨ cal = 6 ∨ cal = 7 ∨ cal = 8 ∨ cal = 9 ∨ cal = 12 ∨ cal = 13 := by have := MInv.cal hc_; omega
          replace hC : Hd (cal = 0 ∨ cal = 1 ∨ cal = 3 ∨ cal = 4 ∨ cal = 5 ∨ cal = 6 ∨ cal = 7 ∨ cal = 8 ∨ cal = 9 ∨ cal = 12 ∨ cal = 13) := hC
          refine lv_iload_n hx hb d_M_leap_34 rfl (lv_at hl 1 rfl) ?_
          refine ro_S (rest := [.ref a]) (ct_M_skips l cal (by omega)) j_M_skips k_1098 hF rfl hl.1 rfl ⟨Nat.le_of_ble_eq_true rfl, Nat.le_of_ble_eq_true rfl⟩ (Nat.le_of_ble_eq_true rfl) d_M_leap_35 ⟨Nat.zero_le _, Nat.zero_le _⟩ Bm_true (fun _ _ _ => trivial) ?_
          refine ai_ifeqB hx hb d_M_leap_38 rfl (fun h38 => ?_) (fun h38 => ?_)
          · skip
            replace htc := (htc.resolve_left (fun q => by have := q.2.1; first | exact h38 this.1 | exact h42 this.2)).2
            refine lv_iload_n hx hb d_M_leap_49 rfl (lv_at hl 2 rfl) ?_
            refine ro_S (rest := [.ref a]) (ct_M_isYear l y (by omega)) j_M_isYear k_1125 hF rfl hl.1 rfl ⟨Nat.le_of_ble_eq_true rfl, Nat.le_of_ble_eq_true rfl⟩ (Nat.le_of_ble_eq_true rfl) d_M_leap_50 ⟨Nat.zero_le _, Nat.zero_le _⟩ Bm_true (fun _ _ _ => trivial) ?_
            refine ai_ifneB hx hb d_M_leap_53 rfl (fun h53 => ?_) (fun h53 => ?_)
            · skip
              obtain ⟨et, ex⟩ : tc = 0 ∧ (A ↔ lpM g cal (ctd cal y)) := by rcases htc with ⟨a1, a2, a3⟩ | ⟨a1, a2, a3⟩; exact absurd h53 a2; exact ⟨a1, a3⟩
              refine ai_iconst hx hb d_M_leap_60 ?_
              refine va_put (D := D) (cl := CL) (ci := 10) (v := .int (iI 0)) (ty := .int) (C := "DayBookModel") (T := T_M) (N := 19) hx hb hts in_M ty_M ty_M_ok nm_M hown hK hP hD hS 0 rfl rfl 0 (by decide) (hts _ k_946) (fun _ h9 => h9) rfl (by decide +kernel) rfl rfl (Nat.le_of_ble_eq_true rfl) d_M_leap_61 (fun H locs hP hD hS => ?_)
              have hP : va_P D CL (MWs a ad cx (upF F 0 0) g) H := hP
              have hD : va_D (Ain a ad) (MWs a ad cx (upF F 0 0) g) := hD
              refine lv_aload_n hx hb d_M_leap_64 rfl (lv_at hl 0 rfl) ?_
              refine va_get (D := D) (cl := CL) (ci := 10) (v := .int (iI 0)) (C := "DayBookModel") (T := T_M) (N := 19) hx hb hts in_M hown hK hP 0 rfl rfl 0 (by decide) (hts _ k_946) (fun _ h9 => h9) rfl d_M_leap_65 ?_
              refine ai_if_ne hx hb d_M_leap_68 rfl (by omega) (fun h68 => by exfalso; omega) (fun h68 => ?_)
              refine lv_aload_n hx hb d_M_leap_71 rfl (lv_at hl 0 rfl) ?_
              refine lv_iload_n hx hb d_M_leap_72 rfl (lv_at hl 1 rfl) ?_
              refine lv_iload_n hx hb d_M_leap_73 rfl (lv_at hl 1 rfl) ?_
              refine lv_iload_n hx hb d_M_leap_74 rfl (lv_at hl 2 rfl) ?_
              refine ai_i2l hx hb d_M_leap_75 (by omega) ?_
              refine ro_S (rest := [.int (iI cal), .ref a]) (ct_M_counted l cal y (by omega) (by omega)) j_M_counted k_1143 hF rfl hl.1 rfl ⟨Nat.le_of_ble_eq_true rfl, Nat.le_of_ble_eq_true rfl⟩ (Nat.le_of_ble_eq_true rfl) d_M_leap_76 ⟨Nat.zero_le _, Nat.zero_le _⟩ Bm_true (fun _ _ _ => trivial) ?_
              refine ro_V (rest := []) (ct_M_isLeap l D a ad cx (upF F 0 0) g cal (ctd cal y) hC.o (hv.ho hc_) (by omega)) j_M_isLeap k_917 (hts _ s_M_isLeap) hF (va_recv (q0 := 0) (ci := 10) hK hP rfl rfl) rfl hl.1 rfl ⟨Nat.le_of_ble_eq_true rfl, Nat.le_of_ble_eq_true rfl⟩ (Nat.le_of_ble_eq_true rfl) d_M_leap_79 ⟨Nat.zero_le _, Nat.zero_le _⟩ MdB.m (fun U h1 h2 => ⟨va_K.moved h2.alike hK, by rw [h1]; exact hP⟩) ?_
              refine ai_ifeqB hx hb d_M_leap_82 rfl (fun h82 => ?_) (fun h82 => ?_)
              · skip
                refine ai_iconst hx hb d_M_leap_89 ?_
                exact mw_zret hx hb hr hlk d_M_leap_90 hP hS (ro_0 (by first | exact ex | exact fun q => h82 (ex.mp q)) rfl) ⟨rfl, et.symm, rfl, hca⟩
              · skip
                refine ai_iconst hx hb d_M_leap_85 ?_
                refine lv_goto hx hb d_M_leap_86 rfl ?_
                exact mw_zret hx hb hr hlk d_M_leap_90 hP hS (ro_1 (ex.mpr h82) rfl) ⟨rfl, et.symm, rfl, hca⟩
            · skip
              obtain ⟨et, ex⟩ : tc = 4 ∧ ¬ A := by rcases htc with ⟨a1, a2, a3⟩ | ⟨a1, a2, a3⟩; exact ⟨a1, a3⟩; exact absurd a2 h53
              refine ai_iconst hx hb d_M_leap_56 ?_
              refine lv_goto hx hb d_M_leap_57 rfl ?_
              refine va_put (D := D) (cl := CL) (ci := 10) (v := .int (iI 4)) (ty := .int) (C := "DayBookModel") (T := T_M) (N := 19) hx hb hts in_M ty_M ty_M_ok nm_M hown hK hP hD hS 0 rfl rfl 0 (by decide) (hts _ k_946) (fun _ h9 => h9) rfl (by decide +kernel) rfl rfl (Nat.le_of_ble_eq_true rfl) d_M_leap_61 (fun H locs hP hD hS => ?_)
              have hP : va_P D CL (MWs a ad cx (upF F 0 4) g) H := hP
              have hD : va_D (Ain a ad) (MWs a ad cx (upF F 0 4) g) := hD
              refine lv_aload_n hx hb d_M_leap_64 rfl (lv_at hl 0 rfl) ?_
              refine va_get (D := D) (cl := CL) (ci := 10) (v := .int (iI 4)) (C := "DayBookModel") (T := T_M) (N := 19) hx hb hts in_M hown hK hP 0 rfl rfl 0 (by decide) (hts _ k_946) (fun _ h9 => h9) rfl d_M_leap_65 ?_
              refine ai_if_ne hx hb d_M_leap_68 rfl (by omega) (fun h68 => ?_) (fun h68 => by exfalso; omega)
              refine ai_iconst hx hb d_M_leap_89 ?_
              exact mw_zret hx hb hr hlk d_M_leap_90 hP hS (ro_0 (by first | exact ex | exact fun q => h82 (ex.mp q)) rfl) ⟨rfl, et.symm, rfl, hca⟩
          · skip
            refine lv_iload_n hx hb d_M_leap_41 rfl (lv_at hl 2 rfl) ?_
            refine ai_if_ne hx hb d_M_leap_42 rfl (by omega) (fun h42 => ?_) (fun h42 => ?_)
            · skip
              replace htc := (htc.resolve_left (fun q => by have := q.2.1; first | exact h38 this.1 | exact h42 this.2)).2
              refine lv_iload_n hx hb d_M_leap_49 rfl (lv_at hl 2 rfl) ?_
              refine ro_S (rest := [.ref a]) (ct_M_isYear l y (by omega)) j_M_isYear k_1125 hF rfl hl.1 rfl ⟨Nat.le_of_ble_eq_true rfl, Nat.le_of_ble_eq_true rfl⟩ (Nat.le_of_ble_eq_true rfl) d_M_leap_50 ⟨Nat.zero_le _, Nat.zero_le _⟩ Bm_true (fun _ _ _ => trivial) ?_
              refine ai_ifneB hx hb d_M_leap_53 rfl (fun h53 => ?_) (fun h53 => ?_)
              · skip
                obtain ⟨et, ex⟩ : tc = 0 ∧ (A ↔ lpM g cal (ctd cal y)) := by rcases htc with ⟨a1, a2, a3⟩ | ⟨a1, a2, a3⟩; exact absurd h53 a2; exact ⟨a1, a3⟩
                refine ai_iconst hx hb d_M_leap_60 ?_
                refine va_put (D := D) (cl := CL) (ci := 10) (v := .int (iI 0)) (ty := .int) (C := "DayBookModel") (T := T_M) (N := 19) hx hb hts in_M ty_M ty_M_ok nm_M hown hK hP hD hS 0 rfl rfl 0 (by decide) (hts _ k_946) (fun _ h9 => h9) rfl (by decide +kernel) rfl rfl (Nat.le_of_ble_eq_true rfl) d_M_leap_61 (fun H locs hP hD hS => ?_)
                have hP : va_P D CL (MWs a ad cx (upF F 0 0) g) H := hP
                have hD : va_D (Ain a ad) (MWs a ad cx (upF F 0 0) g) := hD
                refine lv_aload_n hx hb d_M_leap_64 rfl (lv_at hl 0 rfl) ?_
                refine va_get (D := D) (cl := CL) (ci := 10) (v := .int (iI 0)) (C := "DayBookModel") (T := T_M) (N := 19) hx hb hts in_M hown hK hP 0 rfl rfl 0 (by decide) (hts _ k_946) (fun _ h9 => h9) rfl d_M_leap_65 ?_
                refine ai_if_ne hx hb d_M_leap_68 rfl (by omega) (fun h68 => by exfalso; omega) (fun h68 => ?_)
                refine lv_aload_n hx hb d_M_leap_71 rfl (lv_at hl 0 rfl) ?_
                refine lv_iload_n hx hb d_M_leap_72 rfl (lv_at hl 1 rfl) ?_
                refine lv_iload_n hx hb d_M_leap_73 rfl (lv_at hl 1 rfl) ?_
                refine lv_iload_n hx hb d_M_leap_74 rfl (lv_at hl 2 rfl) ?_
                refine ai_i2l hx hb d_M_leap_75 (by omega) ?_
                refine ro_S (rest := [.int (iI cal), .ref a]) (ct_M_counted l cal y (by omega) (by omega)) j_M_counted k_1143 hF rfl hl.1 rfl ⟨Nat.le_of_ble_eq_true rfl, Nat.le_of_ble_eq_true rfl⟩ (Nat.le_of_ble_eq_true rfl) d_M_leap_76 ⟨Nat.zero_le _, Nat.zero_le _⟩ Bm_true (fun _ _ _ => trivial) ?_
                refine ro_V (rest := []) (ct_M_isLeap l D a ad cx (upF F 0 0) g cal (ctd cal y) hC.o (hv.ho hc_) (by omega)) j_M_isLeap k_917 (hts _ s_M_isLeap) hF (va_recv (q0 := 0) (ci := 10) hK hP rfl rfl) rfl hl.1 rfl ⟨Nat.le_of_ble_eq_true rfl, Nat.le_of_ble_eq_true rfl⟩ (Nat.le_of_ble_eq_true rfl) d_M_leap_79 ⟨Nat.zero_le _, Nat.zero_le _⟩ MdB.m (fun U h1 h2 => ⟨va_K.moved h2.alike hK, by rw [h1]; exact hP⟩) ?_
                refine ai_ifeqB hx hb d_M_leap_82 rfl (fun h82 => ?_) (fun h82 => ?_)
                · skip
                  refine ai_iconst hx hb d_M_leap_89 ?_
                  exact mw_zret hx hb hr hlk d_M_leap_90 hP hS (ro_0 (by first | exact ex | exact fun q => h82 (ex.mp q)) rfl) ⟨rfl, et.symm, rfl, hca⟩
                · skip
                  refine ai_iconst hx hb d_M_leap_85 ?_
                  refine lv_goto hx hb d_M_leap_86 rfl ?_
                  exact mw_zret hx hb hr hlk d_M_leap_90 hP hS (ro_1 (ex.mpr h82) rfl) ⟨rfl, et.symm, rfl, hca⟩
              · skip
                obtain ⟨et, ex⟩ : tc = 4 ∧ ¬ A := by rcases htc with ⟨a1, a2, a3⟩ | ⟨a1, a2, a3⟩; exact ⟨a1, a3⟩; exact absurd a2 h53
                refine ai_iconst hx hb d_M_leap_56 ?_
                refine lv_goto hx hb d_M_leap_57 rfl ?_
                refine va_put (D := D) (cl := CL) (ci := 10) (v := .int (iI 4)) (ty := .int) (C := "DayBookModel") (T := T_M) (N := 19) hx hb hts in_M ty_M ty_M_ok nm_M hown hK hP hD hS 0 rfl rfl 0 (by decide) (hts _ k_946) (fun _ h9 => h9) rfl (by decide +kernel) rfl rfl (Nat.le_of_ble_eq_true rfl) d_M_leap_61 (fun H locs hP hD hS => ?_)
                have hP : va_P D CL (MWs a ad cx (upF F 0 4) g) H := hP
                have hD : va_D (Ain a ad) (MWs a ad cx (upF F 0 4) g) := hD
                refine lv_aload_n hx hb d_M_leap_64 rfl (lv_at hl 0 rfl) ?_
                refine va_get (D := D) (cl := CL) (ci := 10) (v := .int (iI 4)) (C := "DayBookModel") (T := T_M) (N := 19) hx hb hts in_M hown hK hP 0 rfl rfl 0 (by decide) (hts _ k_946) (fun _ h9 => h9) rfl d_M_leap_65 ?_
                refine ai_if_ne hx hb d_M_leap_68 rfl (by omega) (fun h68 => ?_) (fun h68 => by exfalso; omega)
                refine ai_iconst hx hb d_M_leap_89 ?_
                exact mw_zret hx hb hr hlk d_M_leap_90 hP hS (ro_0 (by first | exact ex | exact fun q => h82 (ex.mp q)) rfl) ⟨rfl, et.symm, rfl, hca⟩
            · skip
              obtain ⟨et, ex⟩ : tc = 3 ∧ ¬ A := by rcases htc with ⟨a1, a2, a3⟩ | ⟨a1, a2⟩; exact ⟨a1, a3⟩; exact absurd ⟨h38, h42⟩ a1
              refine ai_iconst hx hb d_M_leap_45 ?_
              refine lv_goto hx hb d_M_leap_46 rfl ?_
              refine va_put (D := D) (cl := CL) (ci := 10) (v := .int (iI 3)) (ty := .int) (C := "DayBookModel") (T := T_M) (N := 19) hx hb hts in_M ty_M ty_M_ok nm_M hown hK hP hD hS 0 rfl rfl 0 (by decide) (hts _ k_946) (fun _ h9 => h9) rfl (by decide +kernel) rfl rfl (Nat.le_of_ble_eq_true rfl) d_M_leap_61 (fun H locs hP hD hS => ?_)
              have hP : va_P D CL (MWs a ad cx (upF F 0 3) g) H := hP
              have hD : va_D (Ain a ad) (MWs a ad cx (upF F 0 3) g) := hD
              refine lv_aload_n hx hb d_M_leap_64 rfl (lv_at hl 0 rfl) ?_
              refine va_get (D := D) (cl := CL) (ci := 10) (v := .int (iI 3)) (C := "DayBookModel") (T := T_M) (N := 19) hx hb hts in_M hown hK hP 0 rfl rfl 0 (by decide) (hts _ k_946) (fun _ h9 => h9) rfl d_M_leap_65 ?_
              refine ai_if_ne hx hb d_M_leap_68 rfl (by omega) (fun h68 => ?_) (fun h68 => by exfalso; omega)
              refine ai_iconst hx hb d_M_leap_89 ?_
              exact mw_zret hx hb hr hlk d_M_leap_90 hP hS (ro_0 (by first | exact ex | exact fun q => h82 (ex.mp q)) rfl) ⟨rfl, et.symm, rfl, hca⟩
        · skip
          obtain ⟨et, ex⟩ : tc = 2 ∧ ¬ A := by rcases htc with ⟨a1, a2, a3⟩ | ⟨a1, a2⟩; exact ⟨a1, a3⟩; exact absurd a1 h27
          refine ai_iconst hx hb d_M_leap_30 ?_
          refine lv_goto hx hb d_M_leap_31 rfl ?_
          refine va_put (D := D) (cl := CL) (ci := 10) (v := .int (iI 2)) (ty := .int) (C := "DayBookModel") (T := T_M) (N := 19) hx hb hts in_M ty_M ty_M_ok nm_M hown hK hP hD hS 0 rfl rfl 0 (by decide) (hts _ k_946) (fun _ h9 => h9) rfl (by decide +kernel) rfl rfl (Nat.le_of_ble_eq_true rfl) d_M_leap_61 (fun H locs hP hD hS => ?_)
          have hP : va_P D CL (MWs a ad cx (upF F 0 2) g) H := hP
          have hD : va_D (Ain a ad) (MWs a ad cx (upF F 0 2) g) := hD
          refine lv_aload_n hx hb d_M_leap_64 rfl (lv_at hl 0 rfl) ?_
          refine va_get (D := D) (cl := CL) (ci := 10) (v := .int (iI 2)) (C := "DayBookModel") (T := T_M) (N := 19) hx hb hts in_M hown hK hP 0 rfl rfl 0 (by decide) (hts _ k_946) (fun _ h9 => h9) rfl d_M_leap_65 ?_
          refine ai_if_ne hx hb d_M_leap_68 rfl (by omega) (fun h68 => ?_) (fun h68 => by exfalso; omega)
          refine ai_iconst hx hb d_M_leap_89 ?_
          exact mw_zret hx hb hr hlk d_M_leap_90 hP hS (ro_0 (by first | exact ex | exact fun q => h82 (ex.mp q)) rfl) ⟨rfl, et.symm, rfl, hca⟩
      · skip
        obtain ⟨et, ex⟩ : tc = 1 ∧ ¬ A := by rcases htc with ⟨a1, a2, a3⟩ | ⟨a1, a2⟩; exact ⟨a1, a3⟩; exact absurd (by omega) a1
        refine ai_iconst hx hb d_M_leap_18 ?_
        refine lv_goto hx hb d_M_leap_19 rfl ?_
        refine va_put (D := D) (cl := CL) (ci := 10) (v := .int (iI 1)) (ty := .int) (C := "DayBookModel") (T := T_M) (N := 19) hx hb hts in_M ty_M ty_M_ok nm_M hown hK hP hD hS 0 rfl rfl 0 (by decide) (hts _ k_946) (fun _ h9 => h9) rfl (by decide +kernel) rfl rfl (Nat.le_of_ble_eq_true rfl) d_M_leap_61 (fun H locs hP hD hS => ?_)
        have hP : va_P D CL (MWs a ad cx (upF F 0 1) g) H := hP
        have hD : va_D (Ain a ad) (MWs a ad cx (upF F 0 1) g) := hD
        refine lv_aload_n hx hb d_M_leap_64 rfl (lv_at hl 0 rfl) ?_
        refine va_get (D := D) (cl := CL) (ci := 10) (v := .int (iI 1)) (C := "DayBookModel") (T := T_M) (N := 19) hx hb hts in_M hown hK hP 0 rfl rfl 0 (by decide) (hts _ k_946) (fun _ h9 => h9) rfl d_M_leap_65 ?_
        refine ai_if_ne hx hb d_M_leap_68 rfl (by omega) (fun h68 => ?_) (fun h68 => by exfalso; omega)
        refine ai_iconst hx hb d_M_leap_89 ?_
        exact mw_zret hx hb hr hlk d_M_leap_90 hP hS (ro_0 (by first | exact ex | exact fun q => h82 (ex.mp q)) rfl) ⟨rfl, et.symm, rfl, hca⟩
set_option maxHeartbeats 4000000 in
set_option maxRecDepth 100000 in
theorem ct_M_onOrBefore (l : Launch) (D : va_G) (a : Nat) (ad : Nat → Nat) (cx : Nat → ClassId) (F : Nat → Int) (g : Nat → Nat → Int) (w : Int) (d : Int) (tc : Int) (x : Int) (hv : MInv g) (hca : CacheOK F g) (rw_ : -2147483648 ≤ w ∧ w ≤ 2147483647) (rd : -2147483648 ≤ d ∧ d ≤ 2147483647) (htc : (tc = 1 ∧ ¬ (0 ≤ w ∧ w ≤ 6) ∧ x = 0) ∨ (tc = 2 ∧ (0 ≤ w ∧ w ≤ 6) ∧ ¬ ((-40000000 ≤ d ∧ d ≤ 40000000) ∧ (-40000000 ≤ d - (d - w) % 7 ∧ d - (d - w) % 7 ≤ 40000000)) ∧ x = 0) ∨ (tc = 0 ∧ (0 ≤ w ∧ w ≤ 6) ∧ (-40000000 ≤ d ∧ d ≤ 40000000) ∧ (-40000000 ≤ d - (d - w) % 7 ∧ d - (d - w) % 7 ≤ 40000000) ∧ x = d - (d - w) % 7)) : MW l y_M_onOrBefore w_M_onOrBefore 2 48 [.ref a, .int (iI w), .int (iI d)] D a ad cx F g (QMi D a ad cx x (fun u => u.2 = g ∧ u.1 0 = tc ∧ u.1 8 = F 8 ∧ CacheOK u.1 g)) := by
  refine mw_of (by decide +kernel) (Nat.le_of_ble_eq_true rfl) ?_
  intro p e s m below meth c ls hx hb hr hts hown hlk hml hl hN hK hP hD
  have hown : s.vm.findClass "DayBookModel" = some m.cls := hown
  have hl : lv_has ls 3 [(0, .ref a), (1, .int (iI w)), (2, .int (iI d))] := hl
  have hF : _ ∧ _ ∧ _ ∧ _ ∧ _ ∧ _ := ⟨hx, hb, hml, hown, hts, hN⟩
  have hS : va_S (Ain a ad) s.heap s.heap [] := va_S.rf
  refine lv_aload_n hx hb d_M_onOrBefore_0 rfl (lv_at hl 0 rfl) ?_
  refine lv_iload_n hx hb d_M_onOrBefore_1 rfl (lv_at hl 1 rfl) ?_
  refine ai_if_lt hx hb d_M_onOrBefore_2 rfl (by omega) (fun h2 => ?_) (fun h2 => ?_)
  · skip
    refine ai_iconst hx hb d_M_onOrBefore_11 ?_
    refine lv_goto hx hb d_M_onOrBefore_12 rfl ?_
    refine va_put (D := D) (cl := CL) (ci := 10) (v := .int (iI 1)) (ty := .int) (C := "DayBookModel") (T := T_M) (N := 19) hx hb hts in_M ty_M ty_M_ok nm_M hown hK hP hD hS 0 rfl rfl 0 (by decide) (hts _ k_946) (fun _ h9 => h9) rfl (by decide +kernel) rfl rfl (Nat.le_of_ble_eq_true rfl) d_M_onOrBefore_47 (fun H locs hP hD hS => ?_)
    have hP : va_P D CL (MWs a ad cx (upF F 0 1) g) H := hP
    have hD : va_D (Ain a ad) (MWs a ad cx (upF F 0 1) g) := hD
    refine lv_aload_n hx hb d_M_onOrBefore_50 rfl (lv_at hl 0 rfl) ?_
    refine va_get (D := D) (cl := CL) (ci := 10) (v := .int (iI 1)) (C := "DayBookModel") (T := T_M) (N := 19) hx hb hts in_M hown hK hP 0 rfl rfl 0 (by decide) (hts _ k_946) (fun _ h9 => h9) rfl d_M_onOrBefore_51 ?_
    refine ai_if_le hx hb d_M_onOrBefore_54 rfl (by omega) (fun h54 => by exfalso; omega) (fun h54 => ?_)
    refine ai_iconst hx hb d_M_onOrBefore_57 ?_
    refine lv_goto hx hb d_M_onOrBefore_58 rfl ?_
    exact mw_iret hx hb hr hlk d_M_onOrBefore_74 hP hS (by omega) ⟨rfl, (by show 1 = tc; omega), rfl, hca⟩
  · skip
    refine lv_iload_n hx hb d_M_onOrBefore_5 rfl (lv_at hl 1 rfl) ?_
    refine ai_bipush (x := 6) hx hb d_M_onOrBefore_6 (by decide +kernel) ?_
    refine ai_icmp_le hx hb d_M_onOrBefore_8 rfl (by omega) (by omega) (fun h8 => ?_) (fun h8 => ?_)
    · skip
      refine lv_iload_n hx hb d_M_onOrBefore_15 rfl (lv_at hl 2 rfl) ?_
      refine ai_i2l hx hb d_M_onOrBefore_16 (by omega) ?_
      refine ro_S (rest := [.ref a]) (ct_M_inRange l d (by omega)) j_M_inRange k_1025 hF rfl hl.1 rfl ⟨Nat.le_of_ble_eq_true rfl, Nat.le_of_ble_eq_true rfl⟩ (Nat.le_of_ble_eq_true rfl) d_M_onOrBefore_17 ⟨Nat.zero_le _, Nat.zero_le _⟩ Bm_true (fun _ _ _ => trivial) ?_
      refine ai_ifeqB hx hb d_M_onOrBefore_20 rfl (fun h20 => ?_) (fun h20 => ?_)
      · skip
        refine ai_iconst hx hb d_M_onOrBefore_42 ?_
        refine lv_goto hx hb d_M_onOrBefore_43 rfl ?_
        refine va_put (D := D) (cl := CL) (ci := 10) (v := .int (iI 2)) (ty := .int) (C := "DayBookModel") (T := T_M) (N := 19) hx hb hts in_M ty_M ty_M_ok nm_M hown hK hP hD hS 0 rfl rfl 0 (by decide) (hts _ k_946) (fun _ h9 => h9) rfl (by decide +kernel) rfl rfl (Nat.le_of_ble_eq_true rfl) d_M_onOrBefore_47 (fun H locs hP hD hS => ?_)
        have hP : va_P D CL (MWs a ad cx (upF F 0 2) g) H := hP
        have hD : va_D (Ain a ad) (MWs a ad cx (upF F 0 2) g) := hD
        refine lv_aload_n hx hb d_M_onOrBefore_50 rfl (lv_at hl 0 rfl) ?_
        refine va_get (D := D) (cl := CL) (ci := 10) (v := .int (iI 2)) (C := "DayBookModel") (T := T_M) (N := 19) hx hb hts in_M hown hK hP 0 rfl rfl 0 (by decide) (hts _ k_946) (fun _ h9 => h9) rfl d_M_onOrBefore_51 ?_
        refine ai_if_le hx hb d_M_onOrBefore_54 rfl (by omega) (fun h54 => by exfalso; omega) (fun h54 => ?_)
        refine ai_iconst hx hb d_M_onOrBefore_57 ?_
        refine lv_goto hx hb d_M_onOrBefore_58 rfl ?_
        exact mw_iret hx hb hr hlk d_M_onOrBefore_74 hP hS (by omega) ⟨rfl, (by show 2 = tc; omega), rfl, hca⟩
      · skip
        refine lv_iload_n hx hb d_M_onOrBefore_23 rfl (lv_at hl 2 rfl) ?_
        refine ai_i2l hx hb d_M_onOrBefore_24 (by omega) ?_
        refine lv_iload_n hx hb d_M_onOrBefore_25 rfl (lv_at hl 2 rfl) ?_
        refine lv_iload_n hx hb d_M_onOrBefore_26 rfl (lv_at hl 1 rfl) ?_
        refine ai_isub hx hb d_M_onOrBefore_27 ?_
        refine ai_i2l hx hb d_M_onOrBefore_28 (by omega) ?_
        refine ai_ldc2 (x := 7) hx hb hown (hts _ k_944) (by decide +kernel) d_M_onOrBefore_29 ?_
        refine ro_S (rest := [.long (iL d), .ref a]) (ct_M_mod l (d - w) 7 (by omega) (by omega)) j_M_mod k_925 hF rfl hl.1 rfl ⟨Nat.le_of_ble_eq_true rfl, Nat.le_of_ble_eq_true rfl⟩ (Nat.le_of_ble_eq_true rfl) d_M_onOrBefore_32 ⟨Nat.zero_le _, Nat.zero_le _⟩ Bm_true (fun _ _ _ => trivial) ?_
        refine ai_lsub hx hb d_M_onOrBefore_35 ?_
        refine ro_S (rest := [.ref a]) (ct_M_inRange l (d - ((d - w) % 7)) (by omega)) j_M_inRange k_1025 hF rfl hl.1 rfl ⟨Nat.le_of_ble_eq_true rfl, Nat.le_of_ble_eq_true rfl⟩ (Nat.le_of_ble_eq_true rfl) d_M_onOrBefore_36 ⟨Nat.zero_le _, Nat.zero_le _⟩ Bm_true (fun _ _ _ => trivial) ?_
        refine ai_ifneB hx hb d_M_onOrBefore_39 rfl (fun h39 => ?_) (fun h39 => ?_)
        · skip
          refine ai_iconst hx hb d_M_onOrBefore_46 ?_
          refine va_put (D := D) (cl := CL) (ci := 10) (v := .int (iI 0)) (ty := .int) (C := "DayBookModel") (T := T_M) (N := 19) hx hb hts in_M ty_M ty_M_ok nm_M hown hK hP hD hS 0 rfl rfl 0 (by decide) (hts _ k_946) (fun _ h9 => h9) rfl (by decide +kernel) rfl rfl (Nat.le_of_ble_eq_true rfl) d_M_onOrBefore_47 (fun H locs hP hD hS => ?_)
          have hP : va_P D CL (MWs a ad cx (upF F 0 0) g) H := hP
          have hD : va_D (Ain a ad) (MWs a ad cx (upF F 0 0) g) := hD
          refine lv_aload_n hx hb d_M_onOrBefore_50 rfl (lv_at hl 0 rfl) ?_
          refine va_get (D := D) (cl := CL) (ci := 10) (v := .int (iI 0)) (C := "DayBookModel") (T := T_M) (N := 19) hx hb hts in_M hown hK hP 0 rfl rfl 0 (by decide) (hts _ k_946) (fun _ h9 => h9) rfl d_M_onOrBefore_51 ?_
          refine ai_if_le hx hb d_M_onOrBefore_54 rfl (by omega) (fun h54 => ?_) (fun h54 => by exfalso; omega)
          have et : tc = 0 ∧ x = d - (d - w) % 7 := by omega
          refine lv_iload_n hx hb d_M_onOrBefore_61 rfl (lv_at hl 2 rfl) ?_
          refine lv_iload_n hx hb d_M_onOrBefore_62 rfl (lv_at hl 2 rfl) ?_
          refine lv_iload_n hx hb d_M_onOrBefore_63 rfl (lv_at hl 1 rfl) ?_
          refine ai_isub hx hb d_M_onOrBefore_64 ?_
          refine ai_i2l hx hb d_M_onOrBefore_65 (by omega) ?_
          refine ai_ldc2 (x := 7) hx hb hown (hts _ k_944) (by decide +kernel) d_M_onOrBefore_66 ?_
          refine ro_S (rest := [.int (iI d)]) (ct_M_mod l (d - w) 7 (by omega) (by omega)) j_M_mod k_925 hF rfl hl.1 rfl ⟨Nat.le_of_ble_eq_true rfl, Nat.le_of_ble_eq_true rfl⟩ (Nat.le_of_ble_eq_true rfl) d_M_onOrBefore_69 ⟨Nat.zero_le _, Nat.zero_le _⟩ Bm_true (fun _ _ _ => trivial) ?_
          refine ai_l2i hx hb d_M_onOrBefore_72 ?_
          refine ai_isub hx hb d_M_onOrBefore_73 ?_
          exact mw_iret hx hb hr hlk d_M_onOrBefore_74 hP hS (by omega) ⟨rfl, (by show 0 = tc; omega), rfl, hca⟩
        · skip
          refine ai_iconst hx hb d_M_onOrBefore_42 ?_
          refine lv_goto hx hb d_M_onOrBefore_43 rfl ?_
          refine va_put (D := D) (cl := CL) (ci := 10) (v := .int (iI 2)) (ty := .int) (C := "DayBookModel") (T := T_M) (N := 19) hx hb hts in_M ty_M ty_M_ok nm_M hown hK hP hD hS 0 rfl rfl 0 (by decide) (hts _ k_946) (fun _ h9 => h9) rfl (by decide +kernel) rfl rfl (Nat.le_of_ble_eq_true rfl) d_M_onOrBefore_47 (fun H locs hP hD hS => ?_)
          have hP : va_P D CL (MWs a ad cx (upF F 0 2) g) H := hP
          have hD : va_D (Ain a ad) (MWs a ad cx (upF F 0 2) g) := hD
          refine lv_aload_n hx hb d_M_onOrBefore_50 rfl (lv_at hl 0 rfl) ?_
          refine va_get (D := D) (cl := CL) (ci := 10) (v := .int (iI 2)) (C := "DayBookModel") (T := T_M) (N := 19) hx hb hts in_M hown hK hP 0 rfl rfl 0 (by decide) (hts _ k_946) (fun _ h9 => h9) rfl d_M_onOrBefore_51 ?_
          refine ai_if_le hx hb d_M_onOrBefore_54 rfl (by omega) (fun h54 => by exfalso; omega) (fun h54 => ?_)
          refine ai_iconst hx hb d_M_onOrBefore_57 ?_
          refine lv_goto hx hb d_M_onOrBefore_58 rfl ?_
          exact mw_iret hx hb hr hlk d_M_onOrBefore_74 hP hS (by omega) ⟨rfl, (by show 2 = tc; omega), rfl, hca⟩
    · skip
      refine ai_iconst hx hb d_M_onOrBefore_11 ?_
      refine lv_goto hx hb d_M_onOrBefore_12 rfl ?_
      refine va_put (D := D) (cl := CL) (ci := 10) (v := .int (iI 1)) (ty := .int) (C := "DayBookModel") (T := T_M) (N := 19) hx hb hts in_M ty_M ty_M_ok nm_M hown hK hP hD hS 0 rfl rfl 0 (by decide) (hts _ k_946) (fun _ h9 => h9) rfl (by decide +kernel) rfl rfl (Nat.le_of_ble_eq_true rfl) d_M_onOrBefore_47 (fun H locs hP hD hS => ?_)
      have hP : va_P D CL (MWs a ad cx (upF F 0 1) g) H := hP
      have hD : va_D (Ain a ad) (MWs a ad cx (upF F 0 1) g) := hD
      refine lv_aload_n hx hb d_M_onOrBefore_50 rfl (lv_at hl 0 rfl) ?_
      refine va_get (D := D) (cl := CL) (ci := 10) (v := .int (iI 1)) (C := "DayBookModel") (T := T_M) (N := 19) hx hb hts in_M hown hK hP 0 rfl rfl 0 (by decide) (hts _ k_946) (fun _ h9 => h9) rfl d_M_onOrBefore_51 ?_
      refine ai_if_le hx hb d_M_onOrBefore_54 rfl (by omega) (fun h54 => by exfalso; omega) (fun h54 => ?_)
      refine ai_iconst hx hb d_M_onOrBefore_57 ?_
      refine lv_goto hx hb d_M_onOrBefore_58 rfl ?_
      exact mw_iret hx hb hr hlk d_M_onOrBefore_74 hP hS (by omega) ⟨rfl, (by show 1 = tc; omega), rfl, hca⟩
set_option maxHeartbeats 4000000 in
set_option maxRecDepth 100000 in
theorem ct_M_rounds (l : Launch) (D : va_G) (a : Nat) (ad : Nat → Nat) (cx : Nat → ClassId) (F : Nat → Int) (g : Nat → Nat → Int) (d : Int) (rd : -2147483648 ≤ d ∧ d ≤ 2147483647) : MW l y_M_rounds w_M_rounds 2 48 [.ref a, .int (iI d)] D a ad cx F g (QMi D a ad cx (if -40000000 ≤ d ∧ d ≤ 40000000 then (d + 1137490) % 365 + 1000 * ((d + 1137302) % 260) else -2147483648) (fun u => u = (upF F 0 0, g))) := by
  refine mw_of (by decide +kernel) (Nat.le_of_ble_eq_true rfl) ?_
  intro p e s m below meth c ls hx hb hr hts hown hlk hml hl hN hK hP hD
  have hown : s.vm.findClass "DayBookModel" = some m.cls := hown
  have hl : lv_has ls 2 [(0, .ref a), (1, .int (iI d))] := hl
  have hF : _ ∧ _ ∧ _ ∧ _ ∧ _ ∧ _ := ⟨hx, hb, hml, hown, hts, hN⟩
  have hS : va_S (Ain a ad) s.heap s.heap [] := va_S.rf
  refine lv_aload_n hx hb d_M_rounds_0 rfl (lv_at hl 0 rfl) ?_
  refine ai_iconst hx hb d_M_rounds_1 ?_
  refine va_put (D := D) (cl := CL) (ci := 10) (v := .int (iI 0)) (ty := .int) (C := "DayBookModel") (T := T_M) (N := 19) hx hb hts in_M ty_M ty_M_ok nm_M hown hK hP hD hS 0 rfl rfl 0 (by decide) (hts _ k_946) (fun _ h9 => h9) rfl (by decide +kernel) rfl rfl (Nat.le_of_ble_eq_true rfl) d_M_rounds_2 (fun H locs hP hD hS => ?_)
  have hP : va_P D CL (MWs a ad cx (upF F 0 0) g) H := hP
  have hD : va_D (Ain a ad) (MWs a ad cx (upF F 0 0) g) := hD
  refine lv_iload_n hx hb d_M_rounds_5 rfl (lv_at hl 1 rfl) ?_
  refine ai_i2l hx hb d_M_rounds_6 (by omega) ?_
  refine ro_S (rest := []) (ct_M_inRange l d (by omega)) j_M_inRange k_1025 hF rfl hl.1 rfl ⟨Nat.le_of_ble_eq_true rfl, Nat.le_of_ble_eq_true rfl⟩ (Nat.le_of_ble_eq_true rfl) d_M_rounds_7 ⟨Nat.zero_le _, Nat.zero_le _⟩ Bm_true (fun _ _ _ => trivial) ?_
  refine ai_ifeqB hx hb d_M_rounds_10 rfl (fun h10 => ?_) (fun h10 => ?_)
  · skip
    refine ai_ldc (x := -2147483648) hx hb hown (hts _ k_906) (by decide +kernel) d_M_rounds_46 ?_
    exact mw_iret hx hb hr hlk d_M_rounds_48 hP hS (by rw [if_neg (by omega)]) rfl
  · skip
    refine lv_iload_n hx hb d_M_rounds_13 rfl (lv_at hl 1 rfl) ?_
    refine ai_i2l hx hb d_M_rounds_14 (by omega) ?_
    refine ai_ldc2 (x := 1137490) hx hb hown (hts _ k_1163) (by decide +kernel) d_M_rounds_15 ?_
    refine ai_ladd hx hb d_M_rounds_18 ?_
    refine ai_ldc2 (x := 365) hx hb hown (hts _ k_916) (by decide +kernel) d_M_rounds_19 ?_
    refine ro_S (rest := []) (ct_M_mod l (d + 1137490) 365 (by omega) (by omega)) j_M_mod k_925 hF rfl hl.1 rfl ⟨Nat.le_of_ble_eq_true rfl, Nat.le_of_ble_eq_true rfl⟩ (Nat.le_of_ble_eq_true rfl) d_M_rounds_22 ⟨Nat.zero_le _, Nat.zero_le _⟩ Bm_true (fun _ _ _ => trivial) ?_
    refine ai_ldc2 (x := 1000) hx hb hown (hts _ k_1164) (by decide +kernel) d_M_rounds_25 ?_
    refine lv_iload_n hx hb d_M_rounds_28 rfl (lv_at hl 1 rfl) ?_
    refine ai_i2l hx hb d_M_rounds_29 (by omega) ?_
    refine ai_ldc2 (x := 1137302) hx hb hown (hts _ k_1165) (by decide +kernel) d_M_rounds_30 ?_
    refine ai_ladd hx hb d_M_rounds_33 ?_
    refine ai_ldc2 (x := 260) hx hb hown (hts _ k_1166) (by decide +kernel) d_M_rounds_34 ?_
    refine ro_S (rest := [.long (iL 1000), .long (iL ((d + 1137490) % 365))]) (ct_M_mod l (d + 1137302) 260 (by omega) (by omega)) j_M_mod k_925 hF rfl hl.1 rfl ⟨Nat.le_of_ble_eq_true rfl, Nat.le_of_ble_eq_true rfl⟩ (Nat.le_of_ble_eq_true rfl) d_M_rounds_37 ⟨Nat.zero_le _, Nat.zero_le _⟩ Bm_true (fun _ _ _ => trivial) ?_
    refine ai_lmul hx hb d_M_rounds_40 ?_
    refine ai_ladd hx hb d_M_rounds_41 ?_
    refine ai_l2i hx hb d_M_rounds_42 ?_
    refine lv_goto hx hb d_M_rounds_43 rfl ?_
    exact mw_iret hx hb hr hlk d_M_rounds_48 hP hS (by rw [if_pos (by omega)]) rfl
