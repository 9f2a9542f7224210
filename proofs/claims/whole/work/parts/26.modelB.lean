/-! 26.modelB: laid by program (wip/whole) -/
set_option maxHeartbeats 4000000 in
set_option maxRecDepth 100000 in
theorem ct_M_monthAt (l : Launch) (D : va_G) (a : Nat) (ad : Nat → Nat) (cx : Nat → ClassId) (F : Nat → Int) (g : Nat → Nat → Int) (cal : Int) (y : Int) (pl : Int) (hcal : cal = 0 ∨ cal = 1 ∨ cal = 3 ∨ cal = 4 ∨ cal = 5 ∨ cal = 6 ∨ cal = 7 ∨ cal = 8 ∨ cal = 9 ∨ cal = 12 ∨ cal = 13) (ry : -300000000 ≤ y ∧ y ≤ 300000000) (rp : 0 ≤ pl ∧ pl ≤ 100) : RO l y_M_monthAt w_M_monthAt 5 115 [.ref a, .int (iI cal), .long (iL y), .int (iI pl)] (MdB D a ad cx F g) (.int (iI (maM cal y pl))) := by
  refine ro_of (by decide +kernel) (Nat.le_of_ble_eq_true rfl) ?_
  intro p e s m below meth c ls hx hb hr hts hown hlk hml hl hN hB
  have hown : s.vm.findClass "DayBookModel" = some m.cls := hown
  have hl : lv_has ls 6 [(0, .ref a), (1, .int (iI cal)), (2, .long (iL y)), (4, .int (iI pl))] := hl
  have hF : _ ∧ _ ∧ _ ∧ _ ∧ _ ∧ _ := ⟨hx, hb, hml, hown, hts, hN⟩
  have hK := hB.1
  have hP := hB.2
  rcases hcal with rfl | rfl | rfl | rfl | rfl | rfl | rfl | rfl | rfl | rfl | rfl
  · skip
    refine lv_iload_n hx hb d_M_monthAt_0 rfl (lv_at hl 1 rfl) ?_
    refine ai_bipush (x := 8) hx hb d_M_monthAt_1 (by decide +kernel) ?_
    refine ai_icmp_ne hx hb d_M_monthAt_3 rfl (by omega) (by omega) (fun h3 => ?_) (fun h3 => by exfalso; omega)
    refine lv_iload_n hx hb d_M_monthAt_34 rfl (lv_at hl 1 rfl) ?_
    refine ai_bipush (x := 9) hx hb d_M_monthAt_35 (by decide +kernel) ?_
    refine ai_icmp_ne hx hb d_M_monthAt_37 rfl (by omega) (by omega) (fun h37 => ?_) (fun h37 => by exfalso; omega)
    refine lv_iload hx hb d_M_monthAt_76 (lv_at hl 3 rfl) ?_
    refine ai_iconst hx hb d_M_monthAt_78 ?_
    refine ai_iadd hx hb d_M_monthAt_79 ?_
    exact ro_iret hx hb hr hlk d_M_monthAt_80 rfl
  · skip
    refine lv_iload_n hx hb d_M_monthAt_0 rfl (lv_at hl 1 rfl) ?_
    refine ai_bipush (x := 8) hx hb d_M_monthAt_1 (by decide +kernel) ?_
    refine ai_icmp_ne hx hb d_M_monthAt_3 rfl (by omega) (by omega) (fun h3 => ?_) (fun h3 => by exfalso; omega)
    refine lv_iload_n hx hb d_M_monthAt_34 rfl (lv_at hl 1 rfl) ?_
    refine ai_bipush (x := 9) hx hb d_M_monthAt_35 (by decide +kernel) ?_
    refine ai_icmp_ne hx hb d_M_monthAt_37 rfl (by omega) (by omega) (fun h37 => ?_) (fun h37 => by exfalso; omega)
    refine lv_iload hx hb d_M_monthAt_76 (lv_at hl 3 rfl) ?_
    refine ai_iconst hx hb d_M_monthAt_78 ?_
    refine ai_iadd hx hb d_M_monthAt_79 ?_
    exact ro_iret hx hb hr hlk d_M_monthAt_80 rfl
  · skip
    refine lv_iload_n hx hb d_M_monthAt_0 rfl (lv_at hl 1 rfl) ?_
    refine ai_bipush (x := 8) hx hb d_M_monthAt_1 (by decide +kernel) ?_
    refine ai_icmp_ne hx hb d_M_monthAt_3 rfl (by omega) (by omega) (fun h3 => ?_) (fun h3 => by exfalso; omega)
    refine lv_iload_n hx hb d_M_monthAt_34 rfl (lv_at hl 1 rfl) ?_
    refine ai_bipush (x := 9) hx hb d_M_monthAt_35 (by decide +kernel) ?_
    refine ai_icmp_ne hx hb d_M_monthAt_37 rfl (by omega) (by omega) (fun h37 => ?_) (fun h37 => by exfalso; omega)
    refine lv_iload hx hb d_M_monthAt_76 (lv_at hl 3 rfl) ?_
    refine ai_iconst hx hb d_M_monthAt_78 ?_
    refine ai_iadd hx hb d_M_monthAt_79 ?_
    exact ro_iret hx hb hr hlk d_M_monthAt_80 rfl
  · skip
    refine lv_iload_n hx hb d_M_monthAt_0 rfl (lv_at hl 1 rfl) ?_
    refine ai_bipush (x := 8) hx hb d_M_monthAt_1 (by decide +kernel) ?_
    refine ai_icmp_ne hx hb d_M_monthAt_3 rfl (by omega) (by omega) (fun h3 => ?_) (fun h3 => by exfalso; omega)
    refine lv_iload_n hx hb d_M_monthAt_34 rfl (lv_at hl 1 rfl) ?_
    refine ai_bipush (x := 9) hx hb d_M_monthAt_35 (by decide +kernel) ?_
    refine ai_icmp_ne hx hb d_M_monthAt_37 rfl (by omega) (by omega) (fun h37 => ?_) (fun h37 => by exfalso; omega)
    refine lv_iload hx hb d_M_monthAt_76 (lv_at hl 3 rfl) ?_
    refine ai_iconst hx hb d_M_monthAt_78 ?_
    refine ai_iadd hx hb d_M_monthAt_79 ?_
    exact ro_iret hx hb hr hlk d_M_monthAt_80 rfl
  · skip
    refine lv_iload_n hx hb d_M_monthAt_0 rfl (lv_at hl 1 rfl) ?_
    refine ai_bipush (x := 8) hx hb d_M_monthAt_1 (by decide +kernel) ?_
    refine ai_icmp_ne hx hb d_M_monthAt_3 rfl (by omega) (by omega) (fun h3 => ?_) (fun h3 => by exfalso; omega)
    refine lv_iload_n hx hb d_M_monthAt_34 rfl (lv_at hl 1 rfl) ?_
    refine ai_bipush (x := 9) hx hb d_M_monthAt_35 (by decide +kernel) ?_
    refine ai_icmp_ne hx hb d_M_monthAt_37 rfl (by omega) (by omega) (fun h37 => ?_) (fun h37 => by exfalso; omega)
    refine lv_iload hx hb d_M_monthAt_76 (lv_at hl 3 rfl) ?_
    refine ai_iconst hx hb d_M_monthAt_78 ?_
    refine ai_iadd hx hb d_M_monthAt_79 ?_
    exact ro_iret hx hb hr hlk d_M_monthAt_80 rfl
  · skip
    refine lv_iload_n hx hb d_M_monthAt_0 rfl (lv_at hl 1 rfl) ?_
    refine ai_bipush (x := 8) hx hb d_M_monthAt_1 (by decide +kernel) ?_
    refine ai_icmp_ne hx hb d_M_monthAt_3 rfl (by omega) (by omega) (fun h3 => ?_) (fun h3 => by exfalso; omega)
    refine lv_iload_n hx hb d_M_monthAt_34 rfl (lv_at hl 1 rfl) ?_
    refine ai_bipush (x := 9) hx hb d_M_monthAt_35 (by decide +kernel) ?_
    refine ai_icmp_ne hx hb d_M_monthAt_37 rfl (by omega) (by omega) (fun h37 => ?_) (fun h37 => by exfalso; omega)
    refine lv_iload hx hb d_M_monthAt_76 (lv_at hl 3 rfl) ?_
    refine ai_iconst hx hb d_M_monthAt_78 ?_
    refine ai_iadd hx hb d_M_monthAt_79 ?_
    exact ro_iret hx hb hr hlk d_M_monthAt_80 rfl
  · skip
    refine lv_iload_n hx hb d_M_monthAt_0 rfl (lv_at hl 1 rfl) ?_
    refine ai_bipush (x := 8) hx hb d_M_monthAt_1 (by decide +kernel) ?_
    refine ai_icmp_ne hx hb d_M_monthAt_3 rfl (by omega) (by omega) (fun h3 => ?_) (fun h3 => by exfalso; omega)
    refine lv_iload_n hx hb d_M_monthAt_34 rfl (lv_at hl 1 rfl) ?_
    refine ai_bipush (x := 9) hx hb d_M_monthAt_35 (by decide +kernel) ?_
    refine ai_icmp_ne hx hb d_M_monthAt_37 rfl (by omega) (by omega) (fun h37 => ?_) (fun h37 => by exfalso; omega)
    refine lv_iload hx hb d_M_monthAt_76 (lv_at hl 3 rfl) ?_
    refine ai_iconst hx hb d_M_monthAt_78 ?_
    refine ai_iadd hx hb d_M_monthAt_79 ?_
    exact ro_iret hx hb hr hlk d_M_monthAt_80 rfl
  · skip
    refine lv_iload_n hx hb d_M_monthAt_0 rfl (lv_at hl 1 rfl) ?_
    refine ai_bipush (x := 8) hx hb d_M_monthAt_1 (by decide +kernel) ?_
    refine ai_icmp_ne hx hb d_M_monthAt_3 rfl (by omega) (by omega) (fun h3 => by exfalso; omega) (fun h3 => ?_)
    refine lv_iload hx hb d_M_monthAt_6 (lv_at hl 3 rfl) ?_
    refine ai_bipush (x := 18) hx hb d_M_monthAt_8 (by decide +kernel) ?_
    refine ai_icmp_ge hx hb d_M_monthAt_10 rfl (by omega) (by omega) (fun h10 => ?_) (fun h10 => ?_)
    · skip
      refine lv_iload hx hb d_M_monthAt_20 (lv_at hl 3 rfl) ?_
      refine ai_bipush (x := 18) hx hb d_M_monthAt_22 (by decide +kernel) ?_
      refine ai_icmp_ne hx hb d_M_monthAt_24 rfl (by omega) (by omega) (fun h24 => ?_) (fun h24 => ?_)
      · skip
        refine ai_bipush (x := 19) hx hb d_M_monthAt_31 (by decide +kernel) ?_
        exact ro_iret hx hb hr hlk d_M_monthAt_33 (by show (19 : Int) = if pl < 18 then pl + 1 else if pl = 18 then 0 else 19; rw [if_neg (by omega), if_neg (by omega)])
      · skip
        refine ai_iconst hx hb d_M_monthAt_27 ?_
        refine lv_goto hx hb d_M_monthAt_28 rfl ?_
        exact ro_iret hx hb hr hlk d_M_monthAt_33 (by show (0 : Int) = if pl < 18 then pl + 1 else if pl = 18 then 0 else 19; rw [if_neg (by omega), if_pos (by omega)])
    · skip
      refine lv_iload hx hb d_M_monthAt_13 (lv_at hl 3 rfl) ?_
      refine ai_iconst hx hb d_M_monthAt_15 ?_
      refine ai_iadd hx hb d_M_monthAt_16 ?_
      refine lv_goto hx hb d_M_monthAt_17 rfl ?_
      exact ro_iret hx hb hr hlk d_M_monthAt_33 (by show pl + 1 = if pl < 18 then pl + 1 else if pl = 18 then 0 else 19; rw [if_pos (by omega)])
  · skip
    refine lv_iload_n hx hb d_M_monthAt_0 rfl (lv_at hl 1 rfl) ?_
    refine ai_bipush (x := 8) hx hb d_M_monthAt_1 (by decide +kernel) ?_
    refine ai_icmp_ne hx hb d_M_monthAt_3 rfl (by omega) (by omega) (fun h3 => ?_) (fun h3 => by exfalso; omega)
    refine lv_iload_n hx hb d_M_monthAt_34 rfl (lv_at hl 1 rfl) ?_
    refine ai_bipush (x := 9) hx hb d_M_monthAt_35 (by decide +kernel) ?_
    refine ai_icmp_ne hx hb d_M_monthAt_37 rfl (by omega) (by omega) (fun h37 => by exfalso; omega) (fun h37 => ?_)
    refine lv_aload_n hx hb d_M_monthAt_40 rfl (lv_at hl 0 rfl) ?_
    refine ai_bipush (x := 9) hx hb d_M_monthAt_41 (by decide +kernel) ?_
    refine lv_lload_n hx hb d_M_monthAt_43 rfl (lv_at hl 2 rfl) ?_
    refine ro_V (rest := []) (ct_M_monthsOf l D a ad cx F g 9 y (by decide) (fun h => absurd h (by decide)) (by omega)) j_M_monthsOf k_1105 (hts _ s_M_monthsOf) hF hB.recv rfl hl.1 rfl ⟨Nat.le_of_ble_eq_true rfl, Nat.le_of_ble_eq_true rfl⟩ (Nat.le_of_ble_eq_true rfl) d_M_monthAt_44 ⟨Nat.zero_le _, Nat.zero_le _⟩ MdB.m (fun U h1 h2 => MdB.m.2 s U h1 h2 hB) ?_
    refine ai_nmI hx hb (fun v47 e47 => ?_)
    refine lv_istore (lv' := [(5, .int (iI v47)), (0, .ref a), (1, .int (iI 9)), (2, .long (iL y)), (4, .int (iI pl))]) hx hb d_M_monthAt_47 hl (by decide) rfl (fun ls hl => ?_)
    have q9 : nmM g 9 y = 12 + bI (yl9 y) := rfl
    have qb := bI_01 (yl9 y)
    refine lv_iload hx hb d_M_monthAt_49 (lv_at hl 4 rfl) ?_
    refine ai_bipush (x := 7) hx hb d_M_monthAt_51 (by decide +kernel) ?_
    refine ai_iadd hx hb d_M_monthAt_53 ?_
    refine lv_iload hx hb d_M_monthAt_54 (lv_at hl 0 rfl) ?_
    refine ai_icmp_gt hx hb d_M_monthAt_56 rfl (by omega) (by omega) (fun h56 => ?_) (fun h56 => ?_)
    · skip
      refine lv_iload hx hb d_M_monthAt_67 (lv_at hl 4 rfl) ?_
      refine ai_bipush (x := 7) hx hb d_M_monthAt_69 (by decide +kernel) ?_
      refine ai_iadd hx hb d_M_monthAt_71 ?_
      refine lv_iload hx hb d_M_monthAt_72 (lv_at hl 0 rfl) ?_
      refine ai_isub hx hb d_M_monthAt_74 ?_
      exact ro_iret hx hb hr hlk d_M_monthAt_75 (by show pl + 7 - v47 = if pl + 7 ≤ 12 + bI (yl9 y) then pl + 7 else pl + 7 - (12 + bI (yl9 y)); rw [if_neg (by omega)]; omega)
    · skip
      refine lv_iload hx hb d_M_monthAt_59 (lv_at hl 4 rfl) ?_
      refine ai_bipush (x := 7) hx hb d_M_monthAt_61 (by decide +kernel) ?_
      refine ai_iadd hx hb d_M_monthAt_63 ?_
      refine lv_goto hx hb d_M_monthAt_64 rfl ?_
      exact ro_iret hx hb hr hlk d_M_monthAt_75 (by show pl + 7 = if pl + 7 ≤ 12 + bI (yl9 y) then pl + 7 else pl + 7 - (12 + bI (yl9 y)); rw [if_pos (by omega)])
  · skip
    refine lv_iload_n hx hb d_M_monthAt_0 rfl (lv_at hl 1 rfl) ?_
    refine ai_bipush (x := 8) hx hb d_M_monthAt_1 (by decide +kernel) ?_
    refine ai_icmp_ne hx hb d_M_monthAt_3 rfl (by omega) (by omega) (fun h3 => ?_) (fun h3 => by exfalso; omega)
    refine lv_iload_n hx hb d_M_monthAt_34 rfl (lv_at hl 1 rfl) ?_
    refine ai_bipush (x := 9) hx hb d_M_monthAt_35 (by decide +kernel) ?_
    refine ai_icmp_ne hx hb d_M_monthAt_37 rfl (by omega) (by omega) (fun h37 => ?_) (fun h37 => by exfalso; omega)
    refine lv_iload hx hb d_M_monthAt_76 (lv_at hl 3 rfl) ?_
    refine ai_iconst hx hb d_M_monthAt_78 ?_
    refine ai_iadd hx hb d_M_monthAt_79 ?_
    exact ro_iret hx hb hr hlk d_M_monthAt_80 rfl
  · skip
    refine lv_iload_n hx hb d_M_monthAt_0 rfl (lv_at hl 1 rfl) ?_
    refine ai_bipush (x := 8) hx hb d_M_monthAt_1 (by decide +kernel) ?_
    refine ai_icmp_ne hx hb d_M_monthAt_3 rfl (by omega) (by omega) (fun h3 => ?_) (fun h3 => by exfalso; omega)
    refine lv_iload_n hx hb d_M_monthAt_34 rfl (lv_at hl 1 rfl) ?_
    refine ai_bipush (x := 9) hx hb d_M_monthAt_35 (by decide +kernel) ?_
    refine ai_icmp_ne hx hb d_M_monthAt_37 rfl (by omega) (by omega) (fun h37 => ?_) (fun h37 => by exfalso; omega)
    refine lv_iload hx hb d_M_monthAt_76 (lv_at hl 3 rfl) ?_
    refine ai_iconst hx hb d_M_monthAt_78 ?_
    refine ai_iadd hx hb d_M_monthAt_79 ?_
    exact ro_iret hx hb hr hlk d_M_monthAt_80 rfl
set_option maxHeartbeats 4000000 in
set_option maxRecDepth 100000 in
theorem ct_M_moonLength (l : Launch) (a : Nat) (y : Int) (mn : Int) (P : Prop) (ry : -300000000 ≤ y ∧ y ≤ 300000000) (rm : 0 ≤ mn ∧ mn ≤ 100) : RO l y_M_moonLength w_M_moonLength 4 100 [.ref a, .long (iL y), .int (iI mn), .int (iI (bI P))] (fun _ => True) (.int (iI (mlM y P mn))) := by
  refine ro_of (by decide +kernel) (Nat.le_of_ble_eq_true rfl) ?_
  intro p e s m below meth c ls hx hb hr hts hown hlk hml hl hN hB
  have hown : s.vm.findClass "DayBookModel" = some m.cls := hown
  have hl : lv_has ls 7 [(0, .ref a), (1, .long (iL y)), (3, .int (iI mn)), (4, .int (iI (bI P)))] := hl
  have hF : _ ∧ _ ∧ _ ∧ _ ∧ _ ∧ _ := ⟨hx, hb, hml, hown, hts, hN⟩
  have q0 := hst_rng (y := y) (by omega)
  have q1 := hst_rng (y := y + 1) (by omega)
  refine lv_lload_n hx hb d_M_moonLength_0 rfl (lv_at hl 1 rfl) ?_
  refine ai_lconst (x := 1) hx hb d_M_moonLength_1 (by decide +kernel) ?_
  refine ai_ladd hx hb d_M_moonLength_2 ?_
  refine ro_S (rest := []) (ct_M_moonStart l (y + 1) (by omega)) j_M_moonStart k_1073 hF rfl hl.1 rfl ⟨Nat.le_of_ble_eq_true rfl, Nat.le_of_ble_eq_true rfl⟩ (Nat.le_of_ble_eq_true rfl) d_M_moonLength_3 ⟨Nat.zero_le _, Nat.zero_le _⟩ Bm_true (fun _ _ _ => trivial) ?_
  refine lv_lload_n hx hb d_M_moonLength_6 rfl (lv_at hl 1 rfl) ?_
  refine ro_S (rest := [.long (iL (hst (y + 1)))]) (ct_M_moonStart l y (by omega)) j_M_moonStart k_1073 hF rfl hl.1 rfl ⟨Nat.le_of_ble_eq_true rfl, Nat.le_of_ble_eq_true rfl⟩ (Nat.le_of_ble_eq_true rfl) d_M_moonLength_7 ⟨Nat.zero_le _, Nat.zero_le _⟩ Bm_true (fun _ _ _ => trivial) ?_
  refine ai_lsub hx hb d_M_moonLength_10 ?_
  refine ai_nmL hx hb (fun v11 e11 => ?_)
  refine lv_lstore (lv' := [(5, .long (iL v11)), (0, .ref a), (1, .long (iL y)), (3, .int (iI mn)), (4, .int (iI (bI P)))]) hx hb d_M_moonLength_11 hl (by decide) rfl (fun ls hl => ?_)
  refine lv_iload_n hx hb d_M_moonLength_13 rfl (lv_at hl 3 rfl) ?_
  refine ai_bipush (x := 8) hx hb d_M_moonLength_14 (by decide +kernel) ?_
  refine ai_icmp_ne hx hb d_M_moonLength_16 rfl (by omega) (by omega) (fun h16 => ?_) (fun h16 => ?_)
  · skip
    refine lv_iload_n hx hb d_M_moonLength_45 rfl (lv_at hl 3 rfl) ?_
    refine ai_bipush (x := 9) hx hb d_M_moonLength_46 (by decide +kernel) ?_
    refine ai_icmp_ne hx hb d_M_moonLength_48 rfl (by omega) (by omega) (fun h48 => ?_) (fun h48 => ?_)
    · skip
      refine lv_iload_n hx hb d_M_moonLength_77 rfl (lv_at hl 3 rfl) ?_
      refine ai_bipush (x := 12) hx hb d_M_moonLength_78 (by decide +kernel) ?_
      refine ai_icmp_ne hx hb d_M_moonLength_80 rfl (by omega) (by omega) (fun h80 => ?_) (fun h80 => ?_)
      · skip
        refine lv_iload_n hx hb d_M_moonLength_96 rfl (lv_at hl 3 rfl) ?_
        refine ai_bipush (x := 7) hx hb d_M_moonLength_97 (by decide +kernel) ?_
        refine ai_icmp_eq hx hb d_M_moonLength_99 rfl (by omega) (by omega) (fun h99 => ?_) (fun h99 => ?_)
        · skip
          refine ai_bipush (x := 30) hx hb d_M_moonLength_123 (by decide +kernel) ?_
          refine lv_goto hx hb d_M_moonLength_125 rfl ?_
          exact ro_iret hx hb hr hlk d_M_moonLength_130 (by unfold mlM; rw [if_neg (by omega), if_neg (by omega), if_neg (by omega), if_pos (by omega)])
        · skip
          refine lv_iload_n hx hb d_M_moonLength_102 rfl (lv_at hl 3 rfl) ?_
          refine ai_bipush (x := 11) hx hb d_M_moonLength_103 (by decide +kernel) ?_
          refine ai_icmp_eq hx hb d_M_moonLength_105 rfl (by omega) (by omega) (fun h105 => ?_) (fun h105 => ?_)
          · skip
            refine ai_bipush (x := 30) hx hb d_M_moonLength_123 (by decide +kernel) ?_
            refine lv_goto hx hb d_M_moonLength_125 rfl ?_
            exact ro_iret hx hb hr hlk d_M_moonLength_130 (by unfold mlM; rw [if_neg (by omega), if_neg (by omega), if_neg (by omega), if_pos (by omega)])
          · skip
            refine lv_iload_n hx hb d_M_moonLength_108 rfl (lv_at hl 3 rfl) ?_
            refine ai_iconst hx hb d_M_moonLength_109 ?_
            refine ai_icmp_eq hx hb d_M_moonLength_110 rfl (by omega) (by omega) (fun h110 => ?_) (fun h110 => ?_)
            · skip
              refine ai_bipush (x := 30) hx hb d_M_moonLength_123 (by decide +kernel) ?_
              refine lv_goto hx hb d_M_moonLength_125 rfl ?_
              exact ro_iret hx hb hr hlk d_M_moonLength_130 (by unfold mlM; rw [if_neg (by omega), if_neg (by omega), if_neg (by omega), if_pos (by omega)])
            · skip
              refine lv_iload_n hx hb d_M_moonLength_113 rfl (lv_at hl 3 rfl) ?_
              refine ai_iconst hx hb d_M_moonLength_114 ?_
              refine ai_icmp_eq hx hb d_M_moonLength_115 rfl (by omega) (by omega) (fun h115 => ?_) (fun h115 => ?_)
              · skip
                refine ai_bipush (x := 30) hx hb d_M_moonLength_123 (by decide +kernel) ?_
                refine lv_goto hx hb d_M_moonLength_125 rfl ?_
                exact ro_iret hx hb hr hlk d_M_moonLength_130 (by unfold mlM; rw [if_neg (by omega), if_neg (by omega), if_neg (by omega), if_pos (by omega)])
              · skip
                refine lv_iload_n hx hb d_M_moonLength_118 rfl (lv_at hl 3 rfl) ?_
                refine ai_iconst hx hb d_M_moonLength_119 ?_
                refine ai_icmp_ne hx hb d_M_moonLength_120 rfl (by omega) (by omega) (fun h120 => ?_) (fun h120 => ?_)
                · skip
                  refine ai_bipush (x := 29) hx hb d_M_moonLength_128 (by decide +kernel) ?_
                  exact ro_iret hx hb hr hlk d_M_moonLength_130 (by unfold mlM; rw [if_neg (by omega), if_neg (by omega), if_neg (by omega), if_neg (by omega)])
                · skip
                  refine ai_bipush (x := 30) hx hb d_M_moonLength_123 (by decide +kernel) ?_
                  refine lv_goto hx hb d_M_moonLength_125 rfl ?_
                  exact ro_iret hx hb hr hlk d_M_moonLength_130 (by unfold mlM; rw [if_neg (by omega), if_neg (by omega), if_neg (by omega), if_pos (by omega)])
      · skip
        refine lv_iload hx hb d_M_moonLength_83 (lv_at hl 4 rfl) ?_
        refine ai_ifeqB hx hb d_M_moonLength_85 rfl (fun h85 => ?_) (fun h85 => ?_)
        · skip
          refine ai_bipush (x := 29) hx hb d_M_moonLength_93 (by decide +kernel) ?_
          exact ro_iret hx hb hr hlk d_M_moonLength_95 (by unfold mlM; rw [if_neg (by omega), if_neg (by omega), if_pos (by omega), bI_f h85]; rfl)
        · skip
          refine ai_bipush (x := 30) hx hb d_M_moonLength_88 (by decide +kernel) ?_
          refine lv_goto hx hb d_M_moonLength_90 rfl ?_
          exact ro_iret hx hb hr hlk d_M_moonLength_95 (by unfold mlM; rw [if_neg (by omega), if_neg (by omega), if_pos (by omega), bI_t h85]; rfl)
    · skip
      refine lv_lload hx hb d_M_moonLength_51 (lv_at hl 0 rfl) ?_
      refine ai_ldc2 (x := 353) hx hb hown (hts _ k_1119) (by decide +kernel) d_M_moonLength_53 ?_
      refine ai_lcmp_eq hx hb d_M_moonLength_56 d_M_moonLength_57 rfl (by omega) (by omega) (fun h56 => ?_) (fun h56 => ?_)
      · skip
        refine ai_bipush (x := 29) hx hb d_M_moonLength_69 (by decide +kernel) ?_
        refine lv_goto hx hb d_M_moonLength_71 rfl ?_
        exact ro_iret hx hb hr hlk d_M_moonLength_76 (by unfold mlM; rw [if_neg (by omega), if_pos (by omega), bI_t (by omega)]; rfl)
      · skip
        refine lv_lload hx hb d_M_moonLength_60 (lv_at hl 0 rfl) ?_
        refine ai_ldc2 (x := 383) hx hb hown (hts _ k_1120) (by decide +kernel) d_M_moonLength_62 ?_
        refine ai_lcmp_ne hx hb d_M_moonLength_65 d_M_moonLength_66 rfl (by omega) (by omega) (fun h65 => ?_) (fun h65 => ?_)
        · skip
          refine ai_bipush (x := 30) hx hb d_M_moonLength_74 (by decide +kernel) ?_
          exact ro_iret hx hb hr hlk d_M_moonLength_76 (by unfold mlM; rw [if_neg (by omega), if_pos (by omega), bI_f (by omega)]; rfl)
        · skip
          refine ai_bipush (x := 29) hx hb d_M_moonLength_69 (by decide +kernel) ?_
          refine lv_goto hx hb d_M_moonLength_71 rfl ?_
          exact ro_iret hx hb hr hlk d_M_moonLength_76 (by unfold mlM; rw [if_neg (by omega), if_pos (by omega), bI_t (by omega)]; rfl)
  · skip
    refine lv_lload hx hb d_M_moonLength_19 (lv_at hl 0 rfl) ?_
    refine ai_ldc2 (x := 355) hx hb hown (hts _ k_1117) (by decide +kernel) d_M_moonLength_21 ?_
    refine ai_lcmp_eq hx hb d_M_moonLength_24 d_M_moonLength_25 rfl (by omega) (by omega) (fun h24 => ?_) (fun h24 => ?_)
    · skip
      refine ai_bipush (x := 30) hx hb d_M_moonLength_37 (by decide +kernel) ?_
      refine lv_goto hx hb d_M_moonLength_39 rfl ?_
      exact ro_iret hx hb hr hlk d_M_moonLength_44 (by unfold mlM; rw [if_pos (by omega), bI_t (by omega)]; rfl)
    · skip
      refine lv_lload hx hb d_M_moonLength_28 (lv_at hl 0 rfl) ?_
      refine ai_ldc2 (x := 385) hx hb hown (hts _ k_1118) (by decide +kernel) d_M_moonLength_30 ?_
      refine ai_lcmp_ne hx hb d_M_moonLength_33 d_M_moonLength_34 rfl (by omega) (by omega) (fun h33 => ?_) (fun h33 => ?_)
      · skip
        refine ai_bipush (x := 29) hx hb d_M_moonLength_42 (by decide +kernel) ?_
        exact ro_iret hx hb hr hlk d_M_moonLength_44 (by unfold mlM; rw [if_pos (by omega), bI_f (by omega)]; rfl)
      · skip
        refine ai_bipush (x := 30) hx hb d_M_moonLength_37 (by decide +kernel) ?_
        refine lv_goto hx hb d_M_moonLength_39 rfl ?_
        exact ro_iret hx hb hr hlk d_M_moonLength_44 (by unfold mlM; rw [if_pos (by omega), bI_t (by omega)]; rfl)
set_option maxHeartbeats 4000000 in
set_option maxRecDepth 100000 in
theorem ct_M_lengthOf (l : Launch) (D : va_G) (a : Nat) (ad : Nat → Nat) (cx : Nat → ClassId) (F : Nat → Int) (g : Nat → Nat → Int) (cal : Int) (y : Int) (mn : Int) (hcal : cal = 0 ∨ cal = 1 ∨ cal = 3 ∨ cal = 4 ∨ cal = 5 ∨ cal = 6 ∨ cal = 7 ∨ cal = 8 ∨ cal = 9 ∨ cal = 12 ∨ cal = 13) (ho : 12 ≤ cal → OwnOK g (Int.toNat (cal - 12))) (ry : -300000000 ≤ y ∧ y ≤ 300000000) (rm : 0 ≤ mn ∧ mn ≤ 100) : RO l y_M_lengthOf w_M_lengthOf 5 126 [.ref a, .int (iI cal), .long (iL y), .int (iI mn)] (MdB D a ad cx F g) (.int (iI (lnM g cal y mn))) := by
  refine ro_of (by decide +kernel) (Nat.le_of_ble_eq_true rfl) ?_
  intro p e s m below meth c ls hx hb hr hts hown hlk hml hl hN hB
  have hown : s.vm.findClass "DayBookModel" = some m.cls := hown
  have hl : lv_has ls 6 [(0, .ref a), (1, .int (iI cal)), (2, .long (iL y)), (4, .int (iI mn))] := hl
  have hF : _ ∧ _ ∧ _ ∧ _ ∧ _ ∧ _ := ⟨hx, hb, hml, hown, hts, hN⟩
  have hK := hB.1
  have hP := hB.2
  refine lv_aload_n hx hb d_M_lengthOf_0 rfl (lv_at hl 0 rfl) ?_
  refine lv_iload_n hx hb d_M_lengthOf_1 rfl (lv_at hl 1 rfl) ?_
  refine lv_lload_n hx hb d_M_lengthOf_2 rfl (lv_at hl 2 rfl) ?_
  refine ro_V (rest := []) (ct_M_isLeap l D a ad cx F g cal y hcal ho (by omega)) j_M_isLeap k_917 (hts _ s_M_isLeap) hF hB.recv rfl hl.1 rfl ⟨Nat.le_of_ble_eq_true rfl, Nat.le_of_ble_eq_true rfl⟩ (Nat.le_of_ble_eq_true rfl) d_M_lengthOf_3 ⟨Nat.zero_le _, Nat.zero_le _⟩ MdB.m (fun U h1 h2 => MdB.m.2 s U h1 h2 hB) ?_
  refine lv_istore (lv' := [(5, .int (iI (bI (lpM g cal y)))), (0, .ref a), (1, .int (iI cal)), (2, .long (iL y)), (4, .int (iI mn))]) hx hb d_M_lengthOf_6 hl (by decide) rfl (fun ls hl => ?_)
  rcases hcal with rfl | rfl | rfl | rfl | rfl | rfl | rfl | rfl | rfl | rfl | rfl
  · skip
    refine lv_iload_n hx hb d_M_lengthOf_8 rfl (lv_at hl 2 rfl) ?_
    refine lv_tableIn (off := 55) (tgt := 64) hx hb d_M_lengthOf_9 (by decide +kernel) (by decide +kernel) (by decide +kernel) rfl ?_
    refine lv_iload hx hb d_M_lengthOf_64 (lv_at hl 4 rfl) ?_
    refine ai_iconst hx hb d_M_lengthOf_66 ?_
    refine ai_icmp_ne hx hb d_M_lengthOf_67 rfl (by omega) (by omega) (fun h67 => ?_) (fun h67 => ?_)
    · skip
      refine lv_iload hx hb d_M_lengthOf_85 (lv_at hl 4 rfl) ?_
      refine ai_iconst hx hb d_M_lengthOf_87 ?_
      refine ai_icmp_eq hx hb d_M_lengthOf_88 rfl (by omega) (by omega) (fun h88 => ?_) (fun h88 => ?_)
      · skip
        refine ai_bipush (x := 30) hx hb d_M_lengthOf_112 (by decide +kernel) ?_
        refine lv_goto hx hb d_M_lengthOf_114 rfl ?_
        exact ro_iret hx hb hr hlk d_M_lengthOf_119 (show (30 : Int) = ln0 (lpM g 0 y) mn from by unfold ln0; rw [if_neg (by omega), if_pos (by omega)])
      · skip
        refine lv_iload hx hb d_M_lengthOf_91 (lv_at hl 4 rfl) ?_
        refine ai_bipush (x := 6) hx hb d_M_lengthOf_93 (by decide +kernel) ?_
        refine ai_icmp_eq hx hb d_M_lengthOf_95 rfl (by omega) (by omega) (fun h95 => ?_) (fun h95 => ?_)
        · skip
          refine ai_bipush (x := 30) hx hb d_M_lengthOf_112 (by decide +kernel) ?_
          refine lv_goto hx hb d_M_lengthOf_114 rfl ?_
          exact ro_iret hx hb hr hlk d_M_lengthOf_119 (show (30 : Int) = ln0 (lpM g 0 y) mn from by unfold ln0; rw [if_neg (by omega), if_pos (by omega)])
        · skip
          refine lv_iload hx hb d_M_lengthOf_98 (lv_at hl 4 rfl) ?_
          refine ai_bipush (x := 9) hx hb d_M_lengthOf_100 (by decide +kernel) ?_
          refine ai_icmp_eq hx hb d_M_lengthOf_102 rfl (by omega) (by omega) (fun h102 => ?_) (fun h102 => ?_)
          · skip
            refine ai_bipush (x := 30) hx hb d_M_lengthOf_112 (by decide +kernel) ?_
            refine lv_goto hx hb d_M_lengthOf_114 rfl ?_
            exact ro_iret hx hb hr hlk d_M_lengthOf_119 (show (30 : Int) = ln0 (lpM g 0 y) mn from by unfold ln0; rw [if_neg (by omega), if_pos (by omega)])
          · skip
            refine lv_iload hx hb d_M_lengthOf_105 (lv_at hl 4 rfl) ?_
            refine ai_bipush (x := 11) hx hb d_M_lengthOf_107 (by decide +kernel) ?_
            refine ai_icmp_ne hx hb d_M_lengthOf_109 rfl (by omega) (by omega) (fun h109 => ?_) (fun h109 => ?_)
            · skip
              refine ai_bipush (x := 31) hx hb d_M_lengthOf_117 (by decide +kernel) ?_
              exact ro_iret hx hb hr hlk d_M_lengthOf_119 (show (31 : Int) = ln0 (lpM g 0 y) mn from by unfold ln0; rw [if_neg (by omega), if_neg (by omega)])
            · skip
              refine ai_bipush (x := 30) hx hb d_M_lengthOf_112 (by decide +kernel) ?_
              refine lv_goto hx hb d_M_lengthOf_114 rfl ?_
              exact ro_iret hx hb hr hlk d_M_lengthOf_119 (show (30 : Int) = ln0 (lpM g 0 y) mn from by unfold ln0; rw [if_neg (by omega), if_pos (by omega)])
    · skip
      refine lv_iload hx hb d_M_lengthOf_70 (lv_at hl 0 rfl) ?_
      refine ai_ifeqB hx hb d_M_lengthOf_72 rfl (fun h72 => ?_) (fun h72 => ?_)
      · skip
        refine ai_bipush (x := 28) hx hb d_M_lengthOf_80 (by decide +kernel) ?_
        refine lv_goto hx hb d_M_lengthOf_82 rfl ?_
        exact ro_iret hx hb hr hlk d_M_lengthOf_119 (show (28 : Int) = ln0 (lpM g 0 y) mn from by unfold ln0; rw [if_pos (by omega), bI_f h72]; rfl)
      · skip
        refine ai_bipush (x := 29) hx hb d_M_lengthOf_75 (by decide +kernel) ?_
        refine lv_goto hx hb d_M_lengthOf_77 rfl ?_
        exact ro_iret hx hb hr hlk d_M_lengthOf_119 (show (29 : Int) = ln0 (lpM g 0 y) mn from by unfold ln0; rw [if_pos (by omega), bI_t h72]; rfl)
  · skip
    refine lv_iload_n hx hb d_M_lengthOf_8 rfl (lv_at hl 2 rfl) ?_
    refine lv_tableIn (off := 55) (tgt := 64) hx hb d_M_lengthOf_9 (by decide +kernel) (by decide +kernel) (by decide +kernel) rfl ?_
    refine lv_iload hx hb d_M_lengthOf_64 (lv_at hl 4 rfl) ?_
    refine ai_iconst hx hb d_M_lengthOf_66 ?_
    refine ai_icmp_ne hx hb d_M_lengthOf_67 rfl (by omega) (by omega) (fun h67 => ?_) (fun h67 => ?_)
    · skip
      refine lv_iload hx hb d_M_lengthOf_85 (lv_at hl 4 rfl) ?_
      refine ai_iconst hx hb d_M_lengthOf_87 ?_
      refine ai_icmp_eq hx hb d_M_lengthOf_88 rfl (by omega) (by omega) (fun h88 => ?_) (fun h88 => ?_)
      · skip
        refine ai_bipush (x := 30) hx hb d_M_lengthOf_112 (by decide +kernel) ?_
        refine lv_goto hx hb d_M_lengthOf_114 rfl ?_
        exact ro_iret hx hb hr hlk d_M_lengthOf_119 (show (30 : Int) = ln0 (lpM g 1 y) mn from by unfold ln0; rw [if_neg (by omega), if_pos (by omega)])
      · skip
        refine lv_iload hx hb d_M_lengthOf_91 (lv_at hl 4 rfl) ?_
        refine ai_bipush (x := 6) hx hb d_M_lengthOf_93 (by decide +kernel) ?_
        refine ai_icmp_eq hx hb d_M_lengthOf_95 rfl (by omega) (by omega) (fun h95 => ?_) (fun h95 => ?_)
        · skip
          refine ai_bipush (x := 30) hx hb d_M_lengthOf_112 (by decide +kernel) ?_
          refine lv_goto hx hb d_M_lengthOf_114 rfl ?_
          exact ro_iret hx hb hr hlk d_M_lengthOf_119 (show (30 : Int) = ln0 (lpM g 1 y) mn from by unfold ln0; rw [if_neg (by omega), if_pos (by omega)])
        · skip
          refine lv_iload hx hb d_M_lengthOf_98 (lv_at hl 4 rfl) ?_
          refine ai_bipush (x := 9) hx hb d_M_lengthOf_100 (by decide +kernel) ?_
          refine ai_icmp_eq hx hb d_M_lengthOf_102 rfl (by omega) (by omega) (fun h102 => ?_) (fun h102 => ?_)
          · skip
            refine ai_bipush (x := 30) hx hb d_M_lengthOf_112 (by decide +kernel) ?_
            refine lv_goto hx hb d_M_lengthOf_114 rfl ?_
            exact ro_iret hx hb hr hlk d_M_lengthOf_119 (show (30 : Int) = ln0 (lpM g 1 y) mn from by unfold ln0; rw [if_neg (by omega), if_pos (by omega)])
          · skip
            refine lv_iload hx hb d_M_lengthOf_105 (lv_at hl 4 rfl) ?_
            refine ai_bipush (x := 11) hx hb d_M_lengthOf_107 (by decide +kernel) ?_
            refine ai_icmp_ne hx hb d_M_lengthOf_109 rfl (by omega) (by omega) (fun h109 => ?_) (fun h109 => ?_)
            · skip
              refine ai_bipush (x := 31) hx hb d_M_lengthOf_117 (by decide +kernel) ?_
              exact ro_iret hx hb hr hlk d_M_lengthOf_119 (show (31 : Int) = ln0 (lpM g 1 y) mn from by unfold ln0; rw [if_neg (by omega), if_neg (by omega)])
            · skip
              refine ai_bipush (x := 30) hx hb d_M_lengthOf_112 (by decide +kernel) ?_
              refine lv_goto hx hb d_M_lengthOf_114 rfl ?_
              exact ro_iret hx hb hr hlk d_M_lengthOf_119 (show (30 : Int) = ln0 (lpM g 1 y) mn from by unfold ln0; rw [if_neg (by omega), if_pos (by omega)])
    · skip
      refine lv_iload hx hb d_M_lengthOf_70 (lv_at hl 0 rfl) ?_
      refine ai_ifeqB hx hb d_M_lengthOf_72 rfl (fun h72 => ?_) (fun h72 => ?_)
      · skip
        refine ai_bipush (x := 28) hx hb d_M_lengthOf_80 (by decide +kernel) ?_
        refine lv_goto hx hb d_M_lengthOf_82 rfl ?_
        exact ro_iret hx hb hr hlk d_M_lengthOf_119 (show (28 : Int) = ln0 (lpM g 1 y) mn from by unfold ln0; rw [if_pos (by omega), bI_f h72]; rfl)
      · skip
        refine ai_bipush (x := 29) hx hb d_M_lengthOf_75 (by decide +kernel) ?_
        refine lv_goto hx hb d_M_lengthOf_77 rfl ?_
        exact ro_iret hx hb hr hlk d_M_lengthOf_119 (show (29 : Int) = ln0 (lpM g 1 y) mn from by unfold ln0; rw [if_pos (by omega), bI_t h72]; rfl)
  · skip
    refine lv_iload_n hx hb d_M_lengthOf_8 rfl (lv_at hl 2 rfl) ?_
    refine lv_tableIn (off := 111) (tgt := 120) hx hb d_M_lengthOf_9 (by decide +kernel) (by decide +kernel) (by decide +kernel) rfl ?_
    refine lv_iload hx hb d_M_lengthOf_120 (lv_at hl 4 rfl) ?_
    refine ai_bipush (x := 13) hx hb d_M_lengthOf_122 (by decide +kernel) ?_
    refine ai_icmp_ge hx hb d_M_lengthOf_124 rfl (by omega) (by omega) (fun h124 => ?_) (fun h124 => ?_)
    · skip
      refine lv_iload hx hb d_M_lengthOf_132 (lv_at hl 0 rfl) ?_
      refine ai_ifeqB hx hb d_M_lengthOf_134 rfl (fun h134 => ?_) (fun h134 => ?_)
      · skip
        refine ai_iconst hx hb d_M_lengthOf_142 ?_
        exact ro_iret hx hb hr hlk d_M_lengthOf_143 (show (5 : Int) = ln3 (lpM g 3 y) mn from by unfold ln3; rw [if_neg (by omega), bI_f h134]; rfl)
      · skip
        refine ai_bipush (x := 6) hx hb d_M_lengthOf_137 (by decide +kernel) ?_
        refine lv_goto hx hb d_M_lengthOf_139 rfl ?_
        exact ro_iret hx hb hr hlk d_M_lengthOf_143 (show (6 : Int) = ln3 (lpM g 3 y) mn from by unfold ln3; rw [if_neg (by omega), bI_t h134]; rfl)
    · skip
      refine ai_bipush (x := 30) hx hb d_M_lengthOf_127 (by decide +kernel) ?_
      refine lv_goto hx hb d_M_lengthOf_129 rfl ?_
      exact ro_iret hx hb hr hlk d_M_lengthOf_143 (show (30 : Int) = ln3 (lpM g 3 y) mn from by unfold ln3; rw [if_pos (by omega)])
  · skip
    refine lv_iload_n hx hb d_M_lengthOf_8 rfl (lv_at hl 2 rfl) ?_
    refine lv_tableIn (off := 111) (tgt := 120) hx hb d_M_lengthOf_9 (by decide +kernel) (by decide +kernel) (by decide +kernel) rfl ?_
    refine lv_iload hx hb d_M_lengthOf_120 (lv_at hl 4 rfl) ?_
    refine ai_bipush (x := 13) hx hb d_M_lengthOf_122 (by decide +kernel) ?_
    refine ai_icmp_ge hx hb d_M_lengthOf_124 rfl (by omega) (by omega) (fun h124 => ?_) (fun h124 => ?_)
    · skip
      refine lv_iload hx hb d_M_lengthOf_132 (lv_at hl 0 rfl) ?_
      refine ai_ifeqB hx hb d_M_lengthOf_134 rfl (fun h134 => ?_) (fun h134 => ?_)
      · skip
        refine ai_iconst hx hb d_M_lengthOf_142 ?_
        exact ro_iret hx hb hr hlk d_M_lengthOf_143 (show (5 : Int) = ln3 (lpM g 4 y) mn from by unfold ln3; rw [if_neg (by omega), bI_f h134]; rfl)
      · skip
        refine ai_bipush (x := 6) hx hb d_M_lengthOf_137 (by decide +kernel) ?_
        refine lv_goto hx hb d_M_lengthOf_139 rfl ?_
        exact ro_iret hx hb hr hlk d_M_lengthOf_143 (show (6 : Int) = ln3 (lpM g 4 y) mn from by unfold ln3; rw [if_neg (by omega), bI_t h134]; rfl)
    · skip
      refine ai_bipush (x := 30) hx hb d_M_lengthOf_127 (by decide +kernel) ?_
      refine lv_goto hx hb d_M_lengthOf_129 rfl ?_
      exact ro_iret hx hb hr hlk d_M_lengthOf_143 (show (30 : Int) = ln3 (lpM g 4 y) mn from by unfold ln3; rw [if_pos (by omega)])
  · skip
    refine lv_iload_n hx hb d_M_lengthOf_8 rfl (lv_at hl 2 rfl) ?_
    refine lv_tableIn (off := 135) (tgt := 144) hx hb d_M_lengthOf_9 (by decide +kernel) (by decide +kernel) (by decide +kernel) rfl ?_
    refine lv_iload hx hb d_M_lengthOf_144 (lv_at hl 4 rfl) ?_
    refine ai_iconst hx hb d_M_lengthOf_146 ?_
    refine ai_irem hx hb d_M_lengthOf_147 (by omega) (by omega) (by omega) ?_
    have ht := Int.tdiv_eq_ediv_of_nonneg (a := mn) (b := 2) (by omega)
    refine ai_iconst hx hb d_M_lengthOf_148 ?_
    refine ai_icmp_eq hx hb d_M_lengthOf_149 rfl (by omega) (by omega) (fun h149 => ?_) (fun h149 => ?_)
    · skip
      refine ai_bipush (x := 30) hx hb d_M_lengthOf_164 (by decide +kernel) ?_
      refine lv_goto hx hb d_M_lengthOf_166 rfl ?_
      exact ro_iret hx hb hr hlk d_M_lengthOf_171 (show (30 : Int) = ln5 (lpM g 5 y) mn from by unfold ln5; first | (rw [if_pos (by omega)]; done) | (rw [if_neg (by omega), bI_t ⟨by omega, h161⟩]; rfl))
    · skip
      refine lv_iload hx hb d_M_lengthOf_152 (lv_at hl 4 rfl) ?_
      refine ai_bipush (x := 12) hx hb d_M_lengthOf_154 (by decide +kernel) ?_
      refine ai_icmp_ne hx hb d_M_lengthOf_156 rfl (by omega) (by omega) (fun h156 => ?_) (fun h156 => ?_)
      · skip
        refine ai_bipush (x := 29) hx hb d_M_lengthOf_169 (by decide +kernel) ?_
        exact ro_iret hx hb hr hlk d_M_lengthOf_171 (show (29 : Int) = ln5 (lpM g 5 y) mn from by unfold ln5; rw [if_neg (by omega), bI_f (by intro q; first | omega | exact h161 q.2)]; rfl)
      · skip
        refine lv_iload hx hb d_M_lengthOf_159 (lv_at hl 0 rfl) ?_
        refine ai_ifeqB hx hb d_M_lengthOf_161 rfl (fun h161 => ?_) (fun h161 => ?_)
        · skip
          refine ai_bipush (x := 29) hx hb d_M_lengthOf_169 (by decide +kernel) ?_
          exact ro_iret hx hb hr hlk d_M_lengthOf_171 (show (29 : Int) = ln5 (lpM g 5 y) mn from by unfold ln5; rw [if_neg (by omega), bI_f (by intro q; first | omega | exact h161 q.2)]; rfl)
        · skip
          refine ai_bipush (x := 30) hx hb d_M_lengthOf_164 (by decide +kernel) ?_
          refine lv_goto hx hb d_M_lengthOf_166 rfl ?_
          exact ro_iret hx hb hr hlk d_M_lengthOf_171 (show (30 : Int) = ln5 (lpM g 5 y) mn from by unfold ln5; first | (rw [if_pos (by omega)]; done) | (rw [if_neg (by omega), bI_t ⟨by omega, h161⟩]; rfl))
  · skip
    refine lv_iload_n hx hb d_M_lengthOf_8 rfl (lv_at hl 2 rfl) ?_
    refine lv_tableIn (off := 163) (tgt := 172) hx hb d_M_lengthOf_9 (by decide +kernel) (by decide +kernel) (by decide +kernel) rfl ?_
    refine lv_iload hx hb d_M_lengthOf_172 (lv_at hl 4 rfl) ?_
    refine ai_bipush (x := 7) hx hb d_M_lengthOf_174 (by decide +kernel) ?_
    refine ai_icmp_ge hx hb d_M_lengthOf_176 rfl (by omega) (by omega) (fun h176 => ?_) (fun h176 => ?_)
    · skip
      refine lv_iload hx hb d_M_lengthOf_184 (lv_at hl 4 rfl) ?_
      refine ai_bipush (x := 12) hx hb d_M_lengthOf_186 (by decide +kernel) ?_
      refine ai_icmp_lt hx hb d_M_lengthOf_188 rfl (by omega) (by omega) (fun h188 => ?_) (fun h188 => ?_)
      · skip
        refine ai_bipush (x := 30) hx hb d_M_lengthOf_196 (by decide +kernel) ?_
        refine lv_goto hx hb d_M_lengthOf_198 rfl ?_
        exact ro_iret hx hb hr hlk d_M_lengthOf_203 (show (30 : Int) = ln6 (lpM g 6 y) mn from by unfold ln6; first | (rw [if_neg (by omega), if_pos (by omega)]; done) | (rw [if_neg (by omega), if_neg (by omega), bI_t h193]; rfl))
      · skip
        refine lv_iload hx hb d_M_lengthOf_191 (lv_at hl 0 rfl) ?_
        refine ai_ifeqB hx hb d_M_lengthOf_193 rfl (fun h193 => ?_) (fun h193 => ?_)
        · skip
          refine ai_bipush (x := 29) hx hb d_M_lengthOf_201 (by decide +kernel) ?_
          exact ro_iret hx hb hr hlk d_M_lengthOf_203 (show (29 : Int) = ln6 (lpM g 6 y) mn from by unfold ln6; rw [if_neg (by omega), if_neg (by omega), bI_f h193]; rfl)
        · skip
          refine ai_bipush (x := 30) hx hb d_M_lengthOf_196 (by decide +kernel) ?_
          refine lv_goto hx hb d_M_lengthOf_198 rfl ?_
          exact ro_iret hx hb hr hlk d_M_lengthOf_203 (show (30 : Int) = ln6 (lpM g 6 y) mn from by unfold ln6; first | (rw [if_neg (by omega), if_pos (by omega)]; done) | (rw [if_neg (by omega), if_neg (by omega), bI_t h193]; rfl))
    · skip
      refine ai_bipush (x := 31) hx hb d_M_lengthOf_179 (by decide +kernel) ?_
      refine lv_goto hx hb d_M_lengthOf_181 rfl ?_
      exact ro_iret hx hb hr hlk d_M_lengthOf_203 (show (31 : Int) = ln6 (lpM g 6 y) mn from by unfold ln6; rw [if_pos (by omega)])
  · skip
    refine lv_iload_n hx hb d_M_lengthOf_8 rfl (lv_at hl 2 rfl) ?_
    refine lv_tableIn (off := 111) (tgt := 120) hx hb d_M_lengthOf_9 (by decide +kernel) (by decide +kernel) (by decide +kernel) rfl ?_
    refine lv_iload hx hb d_M_lengthOf_120 (lv_at hl 4 rfl) ?_
    refine ai_bipush (x := 13) hx hb d_M_lengthOf_122 (by decide +kernel) ?_
    refine ai_icmp_ge hx hb d_M_lengthOf_124 rfl (by omega) (by omega) (fun h124 => ?_) (fun h124 => ?_)
    · skip
      refine lv_iload hx hb d_M_lengthOf_132 (lv_at hl 0 rfl) ?_
      refine ai_ifeqB hx hb d_M_lengthOf_134 rfl (fun h134 => ?_) (fun h134 => ?_)
      · skip
        refine ai_iconst hx hb d_M_lengthOf_142 ?_
        exact ro_iret hx hb hr hlk d_M_lengthOf_143 (show (5 : Int) = ln3 (lpM g 7 y) mn from by unfold ln3; rw [if_neg (by omega), bI_f h134]; rfl)
      · skip
        refine ai_bipush (x := 6) hx hb d_M_lengthOf_137 (by decide +kernel) ?_
        refine lv_goto hx hb d_M_lengthOf_139 rfl ?_
        exact ro_iret hx hb hr hlk d_M_lengthOf_143 (show (6 : Int) = ln3 (lpM g 7 y) mn from by unfold ln3; rw [if_neg (by omega), bI_t h134]; rfl)
    · skip
      refine ai_bipush (x := 30) hx hb d_M_lengthOf_127 (by decide +kernel) ?_
      refine lv_goto hx hb d_M_lengthOf_129 rfl ?_
      exact ro_iret hx hb hr hlk d_M_lengthOf_143 (show (30 : Int) = ln3 (lpM g 7 y) mn from by unfold ln3; rw [if_pos (by omega)])
  · skip
    refine lv_iload_n hx hb d_M_lengthOf_8 rfl (lv_at hl 2 rfl) ?_
    refine lv_tableIn (off := 195) (tgt := 204) hx hb d_M_lengthOf_9 (by decide +kernel) (by decide +kernel) (by decide +kernel) rfl ?_
    refine lv_iload hx hb d_M_lengthOf_204 (lv_at hl 4 rfl) ?_
    refine ai_if_eq hx hb d_M_lengthOf_206 rfl (by omega) (fun h206 => ?_) (fun h206 => ?_)
    · skip
      refine lv_iload hx hb d_M_lengthOf_214 (lv_at hl 0 rfl) ?_
      refine ai_ifeqB hx hb d_M_lengthOf_216 rfl (fun h216 => ?_) (fun h216 => ?_)
      · skip
        refine ai_iconst hx hb d_M_lengthOf_223 ?_
        exact ro_iret hx hb hr hlk d_M_lengthOf_224 (show (4 : Int) = ln8 (lpM g 8 y) mn from by unfold ln8; rw [if_pos (by omega), bI_f h216]; rfl)
      · skip
        refine ai_iconst hx hb d_M_lengthOf_219 ?_
        refine lv_goto hx hb d_M_lengthOf_220 rfl ?_
        exact ro_iret hx hb hr hlk d_M_lengthOf_224 (show (5 : Int) = ln8 (lpM g 8 y) mn from by unfold ln8; rw [if_pos (by omega), bI_t h216]; rfl)
    · skip
      refine ai_bipush (x := 19) hx hb d_M_lengthOf_209 (by decide +kernel) ?_
      refine lv_goto hx hb d_M_lengthOf_211 rfl ?_
      exact ro_iret hx hb hr hlk d_M_lengthOf_224 (show (19 : Int) = ln8 (lpM g 8 y) mn from by unfold ln8; rw [if_neg (by omega)])
  · skip
    refine lv_iload_n hx hb d_M_lengthOf_8 rfl (lv_at hl 2 rfl) ?_
    refine lv_tableIn (off := 216) (tgt := 225) hx hb d_M_lengthOf_9 (by decide +kernel) (by decide +kernel) (by decide +kernel) rfl ?_
    refine lv_aload_n hx hb d_M_lengthOf_225 rfl (lv_at hl 1 rfl) ?_
    refine lv_lload_n hx hb d_M_lengthOf_226 rfl (lv_at hl 3 rfl) ?_
    refine lv_iload hx hb d_M_lengthOf_227 (lv_at hl 4 rfl) ?_
    refine lv_iload hx hb d_M_lengthOf_229 (lv_at hl 0 rfl) ?_
    refine ro_V (rest := []) (ct_M_moonLength l a y mn (lpM g 9 y) (by omega) (by omega)) j_M_moonLength k_1113 (hts _ s_M_moonLength) hF hB.recv rfl hl.1 rfl ⟨Nat.le_of_ble_eq_true rfl, Nat.le_of_ble_eq_true rfl⟩ (Nat.le_of_ble_eq_true rfl) d_M_lengthOf_231 ⟨Nat.zero_le _, Nat.zero_le _⟩ Bm_true (fun _ _ _ => trivial) ?_
    exact ro_iret hx hb hr hlk d_M_lengthOf_234 rfl
  · skip
    refine lv_iload_n hx hb d_M_lengthOf_8 rfl (lv_at hl 2 rfl) ?_
    refine lv_tableOut (tgt := 235) hx hb d_M_lengthOf_9 (by decide +kernel) rfl ?_
    obtain ⟨o1, o2, o3, o4, o5, o6⟩ := ho (by decide)
    refine lv_iload hx hb d_M_lengthOf_235 (lv_at hl 4 rfl) ?_
    refine lv_aload_n hx hb d_M_lengthOf_237 rfl (lv_at hl 1 rfl) ?_
    refine va_get (D := D) (cl := CL) (ci := 10) (v := .ref (ad 3)) (C := "DayBookModel") (T := T_M) (N := 19) hx hb hts in_M hown hK hP 0 rfl rfl 4 (by decide) (hts _ k_950) (fun _ h9 => h9) rfl d_M_lengthOf_238 ?_
    refine lv_iload_n hx hb d_M_lengthOf_241 rfl (lv_at hl 2 rfl) ?_
    refine ai_bipush (x := 12) hx hb d_M_lengthOf_242 (by decide +kernel) ?_
    refine ai_isub hx hb d_M_lengthOf_244 ?_
    refine ma_ild hx hb hK hP 4 0 rfl rfl (h := g 3) (by omega) (by decide) d_M_lengthOf_245 ?_
    refine ai_icmp_ne hx hb d_M_lengthOf_246 rfl (by omega) (by omega) (fun h246 => ?_) (fun h246 => ?_)
    · skip
      refine lv_aload_n hx hb d_M_lengthOf_268 rfl (lv_at hl 1 rfl) ?_
      refine va_get (D := D) (cl := CL) (ci := 10) (v := .ref (ad 4)) (C := "DayBookModel") (T := T_M) (N := 19) hx hb hts in_M hown hK hP 0 rfl rfl 5 (by decide) (hts _ k_951) (fun _ h9 => h9) rfl d_M_lengthOf_269 ?_
      refine lv_iload_n hx hb d_M_lengthOf_272 rfl (lv_at hl 2 rfl) ?_
      refine ai_bipush (x := 12) hx hb d_M_lengthOf_273 (by decide +kernel) ?_
      refine ai_isub hx hb d_M_lengthOf_275 ?_
      refine ma_ild hx hb hK hP 5 0 rfl rfl (h := g 4) (by omega) (by decide) d_M_lengthOf_276 ?_
      exact ro_iret hx hb hr hlk d_M_lengthOf_277 (show g 4 (Int.toNat (12 - 12)) = lnO (g 3 (Int.toNat (12 - 12))) (g 4 (Int.toNat (12 - 12))) (lpM g 12 y) mn from by unfold lnO; rw [bI_f (by intro q; first | omega | exact h251 q.2)]; omega)
    · skip
      refine lv_iload hx hb d_M_lengthOf_249 (lv_at hl 0 rfl) ?_
      refine ai_ifeqB hx hb d_M_lengthOf_251 rfl (fun h251 => ?_) (fun h251 => ?_)
      · skip
        refine lv_aload_n hx hb d_M_lengthOf_268 rfl (lv_at hl 1 rfl) ?_
        refine va_get (D := D) (cl := CL) (ci := 10) (v := .ref (ad 4)) (C := "DayBookModel") (T := T_M) (N := 19) hx hb hts in_M hown hK hP 0 rfl rfl 5 (by decide) (hts _ k_951) (fun _ h9 => h9) rfl d_M_lengthOf_269 ?_
        refine lv_iload_n hx hb d_M_lengthOf_272 rfl (lv_at hl 2 rfl) ?_
        refine ai_bipush (x := 12) hx hb d_M_lengthOf_273 (by decide +kernel) ?_
        refine ai_isub hx hb d_M_lengthOf_275 ?_
        refine ma_ild hx hb hK hP 5 0 rfl rfl (h := g 4) (by omega) (by decide) d_M_lengthOf_276 ?_
        exact ro_iret hx hb hr hlk d_M_lengthOf_277 (show g 4 (Int.toNat (12 - 12)) = lnO (g 3 (Int.toNat (12 - 12))) (g 4 (Int.toNat (12 - 12))) (lpM g 12 y) mn from by unfold lnO; rw [bI_f (by intro q; first | omega | exact h251 q.2)]; omega)
      · skip
        refine lv_aload_n hx hb d_M_lengthOf_254 rfl (lv_at hl 1 rfl) ?_
        refine va_get (D := D) (cl := CL) (ci := 10) (v := .ref (ad 4)) (C := "DayBookModel") (T := T_M) (N := 19) hx hb hts in_M hown hK hP 0 rfl rfl 5 (by decide) (hts _ k_951) (fun _ h9 => h9) rfl d_M_lengthOf_255 ?_
        refine lv_iload_n hx hb d_M_lengthOf_258 rfl (lv_at hl 2 rfl) ?_
        refine ai_bipush (x := 12) hx hb d_M_lengthOf_259 (by decide +kernel) ?_
        refine ai_isub hx hb d_M_lengthOf_261 ?_
        refine ma_ild hx hb hK hP 5 0 rfl rfl (h := g 4) (by omega) (by decide) d_M_lengthOf_262 ?_
        refine ai_iconst hx hb d_M_lengthOf_263 ?_
        refine ai_iadd hx hb d_M_lengthOf_264 ?_
        refine lv_goto hx hb d_M_lengthOf_265 rfl ?_
        exact ro_iret hx hb hr hlk d_M_lengthOf_277 (show (g 4 (Int.toNat (12 - 12))) + 1 = lnO (g 3 (Int.toNat (12 - 12))) (g 4 (Int.toNat (12 - 12))) (lpM g 12 y) mn from by unfold lnO; rw [bI_t ⟨by omega, h251⟩])
  · skip
    refine lv_iload_n hx hb d_M_lengthOf_8 rfl (lv_at hl 2 rfl) ?_
    refine lv_tableOut (tgt := 235) hx hb d_M_lengthOf_9 (by decide +kernel) rfl ?_
    obtain ⟨o1, o2, o3, o4, o5, o6⟩ := ho (by decide)
    refine lv_iload hx hb d_M_lengthOf_235 (lv_at hl 4 rfl) ?_
    refine lv_aload_n hx hb d_M_lengthOf_237 rfl (lv_at hl 1 rfl) ?_
    refine va_get (D := D) (cl := CL) (ci := 10) (v := .ref (ad 3)) (C := "DayBookModel") (T := T_M) (N := 19) hx hb hts in_M hown hK hP 0 rfl rfl 4 (by decide) (hts _ k_950) (fun _ h9 => h9) rfl d_M_lengthOf_238 ?_
    refine lv_iload_n hx hb d_M_lengthOf_241 rfl (lv_at hl 2 rfl) ?_
    refine ai_bipush (x := 12) hx hb d_M_lengthOf_242 (by decide +kernel) ?_
    refine ai_isub hx hb d_M_lengthOf_244 ?_
    refine ma_ild hx hb hK hP 4 0 rfl rfl (h := g 3) (by omega) (by decide) d_M_lengthOf_245 ?_
    refine ai_icmp_ne hx hb d_M_lengthOf_246 rfl (by omega) (by omega) (fun h246 => ?_) (fun h246 => ?_)
    · skip
      refine lv_aload_n hx hb d_M_lengthOf_268 rfl (lv_at hl 1 rfl) ?_
      refine va_get (D := D) (cl := CL) (ci := 10) (v := .ref (ad 4)) (C := "DayBookModel") (T := T_M) (N := 19) hx hb hts in_M hown hK hP 0 rfl rfl 5 (by decide) (hts _ k_951) (fun _ h9 => h9) rfl d_M_lengthOf_269 ?_
      refine lv_iload_n hx hb d_M_lengthOf_272 rfl (lv_at hl 2 rfl) ?_
      refine ai_bipush (x := 12) hx hb d_M_lengthOf_273 (by decide +kernel) ?_
      refine ai_isub hx hb d_M_lengthOf_275 ?_
      refine ma_ild hx hb hK hP 5 0 rfl rfl (h := g 4) (by omega) (by decide) d_M_lengthOf_276 ?_
      exact ro_iret hx hb hr hlk d_M_lengthOf_277 (show g 4 (Int.toNat (13 - 12)) = lnO (g 3 (Int.toNat (13 - 12))) (g 4 (Int.toNat (13 - 12))) (lpM g 13 y) mn from by unfold lnO; rw [bI_f (by intro q; first | omega | exact h251 q.2)]; omega)
    · skip
      refine lv_iload hx hb d_M_lengthOf_249 (lv_at hl 0 rfl) ?_
      refine ai_ifeqB hx hb d_M_lengthOf_251 rfl (fun h251 => ?_) (fun h251 => ?_)
      · skip
        refine lv_aload_n hx hb d_M_lengthOf_268 rfl (lv_at hl 1 rfl) ?_
        refine va_get (D := D) (cl := CL) (ci := 10) (v := .ref (ad 4)) (C := "DayBookModel") (T := T_M) (N := 19) hx hb hts in_M hown hK hP 0 rfl rfl 5 (by decide) (hts _ k_951) (fun _ h9 => h9) rfl d_M_lengthOf_269 ?_
        refine lv_iload_n hx hb d_M_lengthOf_272 rfl (lv_at hl 2 rfl) ?_
        refine ai_bipush (x := 12) hx hb d_M_lengthOf_273 (by decide +kernel) ?_
        refine ai_isub hx hb d_M_lengthOf_275 ?_
        refine ma_ild hx hb hK hP 5 0 rfl rfl (h := g 4) (by omega) (by decide) d_M_lengthOf_276 ?_
        exact ro_iret hx hb hr hlk d_M_lengthOf_277 (show g 4 (Int.toNat (13 - 12)) = lnO (g 3 (Int.toNat (13 - 12))) (g 4 (Int.toNat (13 - 12))) (lpM g 13 y) mn from by unfold lnO; rw [bI_f (by intro q; first | omega | exact h251 q.2)]; omega)
      · skip
        refine lv_aload_n hx hb d_M_lengthOf_254 rfl (lv_at hl 1 rfl) ?_
        refine va_get (D := D) (cl := CL) (ci := 10) (v := .ref (ad 4)) (C := "DayBookModel") (T := T_M) (N := 19) hx hb hts in_M hown hK hP 0 rfl rfl 5 (by decide) (hts _ k_951) (fun _ h9 => h9) rfl d_M_lengthOf_255 ?_
        refine lv_iload_n hx hb d_M_lengthOf_258 rfl (lv_at hl 2 rfl) ?_
        refine ai_bipush (x := 12) hx hb d_M_lengthOf_259 (by decide +kernel) ?_
        refine ai_isub hx hb d_M_lengthOf_261 ?_
        refine ma_ild hx hb hK hP 5 0 rfl rfl (h := g 4) (by omega) (by decide) d_M_lengthOf_262 ?_
        refine ai_iconst hx hb d_M_lengthOf_263 ?_
        refine ai_iadd hx hb d_M_lengthOf_264 ?_
        refine lv_goto hx hb d_M_lengthOf_265 rfl ?_
        exact ro_iret hx hb hr hlk d_M_lengthOf_277 (show (g 4 (Int.toNat (13 - 12))) + 1 = lnO (g 3 (Int.toNat (13 - 12))) (g 4 (Int.toNat (13 - 12))) (lpM g 13 y) mn from by unfold lnO; rw [bI_t ⟨by omega, h251⟩])
