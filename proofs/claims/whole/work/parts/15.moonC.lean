/-! 15.moonC: laid by program (wip/whole) -/
theorem hel_rng {y : Int} (h : -1000000000000 ≤ y ∧ y ≤ 1000000000000) : -1000000000000000 ≤ hel y ∧ hel y ≤ 1000000000000000 := by
  have h1 := bI_01 ((3 * hea (hmo y) + 3) % 7 < 3)
  unfold hel hpo
  unfold hea hmo at h1 ⊢
  omega
theorem hst_rng {y : Int} (h : -999999999999 ≤ y ∧ y ≤ 999999999999) : -1000002000000000 ≤ hst y ∧ hst y ≤ 1000002000000000 := by
  have h1 := hel_rng (y := y) (by omega)
  unfold hst hla
  split
  · omega
  · split <;> omega
set_option maxHeartbeats 4000000 in
set_option maxRecDepth 100000 in
theorem ct_M_moons (l : Launch) (y : Int) (ry : -1000000000000 ≤ y ∧ y ≤ 1000000000000) : RO l y_M_moons w_M_moons 2 48 [.long (iL y)] (fun _ => True) (.long (iL (hel y))) := by
  refine ro_of (by decide +kernel) (Nat.le_of_ble_eq_true rfl) ?_
  intro p e s m below meth c ls hx hb hr hts hown hlk hml hl hN hB
  have hown : s.vm.findClass "DayBookModel" = some m.cls := hown
  have hl : lv_has ls 6 [(0, .long (iL y))] := hl
  have hF : _ ∧ _ ∧ _ ∧ _ ∧ _ ∧ _ := ⟨hx, hb, hml, hown, hts, hN⟩
  refine ai_ldc2 (x := 235) hx hb hown (hts _ k_1079) (by decide +kernel) d_M_moons_0 ?_
  refine lv_lload_n hx hb d_M_moons_3 rfl (lv_at hl 0 rfl) ?_
  refine ai_lmul hx hb d_M_moons_4 ?_
  refine ai_ldc2 (x := 234) hx hb hown (hts _ k_1080) (by decide +kernel) d_M_moons_5 ?_
  refine ai_lsub hx hb d_M_moons_8 ?_
  refine ai_ldc2 (x := 19) hx hb hown (hts _ k_945) (by decide +kernel) d_M_moons_9 ?_
  refine ro_S (rest := []) (ct_M_div l ((235 * y) - 234) 19 (by omega) (by omega)) j_M_div k_928 hF rfl hl.1 rfl ⟨Nat.le_of_ble_eq_true rfl, Nat.le_of_ble_eq_true rfl⟩ (Nat.le_of_ble_eq_true rfl) d_M_moons_12 ⟨Nat.zero_le _, Nat.zero_le _⟩ Bm_true (fun _ _ _ => trivial) ?_
  refine ai_nmL hx hb (fun v15 e15 => ?_)
  refine lv_lstore_n (lv' := [(2, .long (iL v15)), (0, .long (iL y))]) hx hb d_M_moons_15 rfl hl (by decide) rfl (fun ls hl => ?_)
  refine ai_ldc2 (x := 29) hx hb hown (hts _ k_1081) (by decide +kernel) d_M_moons_16 ?_
  refine lv_lload_n hx hb d_M_moons_19 rfl (lv_at hl 0 rfl) ?_
  refine ai_lmul hx hb d_M_moons_20 ?_
  refine ai_ldc2 (x := 12084) hx hb hown (hts _ k_1082) (by decide +kernel) d_M_moons_21 ?_
  refine ai_ldc2 (x := 13753) hx hb hown (hts _ k_1083) (by decide +kernel) d_M_moons_24 ?_
  refine lv_lload_n hx hb d_M_moons_27 rfl (lv_at hl 0 rfl) ?_
  refine ai_lmul hx hb d_M_moons_28 ?_
  refine ai_ladd hx hb d_M_moons_29 ?_
  refine ai_ldc2 (x := 25920) hx hb hown (hts _ k_1084) (by decide +kernel) d_M_moons_30 ?_
  refine ro_S (rest := [.long (iL (29 * v15))]) (ct_M_div l (12084 + (13753 * v15)) 25920 (by omega) (by omega)) j_M_div k_928 hF rfl hl.1 rfl ⟨Nat.le_of_ble_eq_true rfl, Nat.le_of_ble_eq_true rfl⟩ (Nat.le_of_ble_eq_true rfl) d_M_moons_33 ⟨Nat.zero_le _, Nat.zero_le _⟩ Bm_true (fun _ _ _ => trivial) ?_
  refine ai_ladd hx hb d_M_moons_36 ?_
  refine ai_nmL hx hb (fun v37 e37 => ?_)
  refine lv_lstore (lv' := [(4, .long (iL v37)), (2, .long (iL v15)), (0, .long (iL y))]) hx hb d_M_moons_37 hl (by decide) rfl (fun ls hl => ?_)
  refine ai_ldc2 (x := 3) hx hb hown (hts _ k_933) (by decide +kernel) d_M_moons_39 ?_
  refine lv_lload hx hb d_M_moons_42 (lv_at hl 0 rfl) ?_
  refine ai_lmul hx hb d_M_moons_44 ?_
  refine ai_ldc2 (x := 3) hx hb hown (hts _ k_933) (by decide +kernel) d_M_moons_45 ?_
  refine ai_ladd hx hb d_M_moons_48 ?_
  refine ai_ldc2 (x := 7) hx hb hown (hts _ k_944) (by decide +kernel) d_M_moons_49 ?_
  refine ro_S (rest := []) (ct_M_mod l ((3 * v37) + 3) 7 (by omega) (by omega)) j_M_mod k_925 hF rfl hl.1 rfl ⟨Nat.le_of_ble_eq_true rfl, Nat.le_of_ble_eq_true rfl⟩ (Nat.le_of_ble_eq_true rfl) d_M_moons_52 ⟨Nat.zero_le _, Nat.zero_le _⟩ Bm_true (fun _ _ _ => trivial) ?_
  refine ai_ldc2 (x := 3) hx hb hown (hts _ k_933) (by decide +kernel) d_M_moons_55 ?_
  refine ai_lcmp_ge hx hb d_M_moons_58 d_M_moons_59 rfl (by omega) (by omega) (fun h58 => ?_) (fun h58 => ?_)
  · skip
    refine lv_lload hx hb d_M_moons_69 (lv_at hl 0 rfl) ?_
    exact ro_lret hx hb hr hlk d_M_moons_71 (by have q : hea (hmo y) = v37 := (by unfold hea hmo; rw [e37, e15]); unfold hel hpo; rw [q, bI_f (by omega)]; omega)
  · skip
    refine lv_lload hx hb d_M_moons_62 (lv_at hl 0 rfl) ?_
    refine ai_lconst (x := 1) hx hb d_M_moons_64 (by decide +kernel) ?_
    refine ai_ladd hx hb d_M_moons_65 ?_
    refine lv_goto hx hb d_M_moons_66 rfl ?_
    exact ro_lret hx hb hr hlk d_M_moons_71 (by have q : hea (hmo y) = v37 := (by unfold hea hmo; rw [e37, e15]); unfold hel hpo; rw [q, bI_t (by omega)])
set_option maxHeartbeats 4000000 in
set_option maxRecDepth 100000 in
theorem ct_HC_elapsed (l : Launch) (y : Int) (ry : -1000000000000 ≤ y ∧ y ≤ 1000000000000) : RO l y_HC_elapsed w_HC_elapsed 1 25 [.long (iL y)] (fun _ => True) (.long (iL (hel y))) := by
  refine ro_of (by decide +kernel) (Nat.le_of_ble_eq_true rfl) ?_
  intro p e s m below meth c ls hx hb hr hts hown hlk hml hl hN hB
  have hown : s.vm.findClass "DayBook$HebrewCalendar" = some m.cls := hown
  have hl : lv_has ls 6 [(0, .long (iL y))] := hl
  have hF : _ ∧ _ ∧ _ ∧ _ ∧ _ ∧ _ := ⟨hx, hb, hml, hown, hts, hN⟩
  refine ai_ldc2 (x := 235) hx hb hown (hts _ k_536) (by decide +kernel) d_HC_elapsed_0 ?_
  refine lv_lload_n hx hb d_HC_elapsed_3 rfl (lv_at hl 0 rfl) ?_
  refine ai_lmul hx hb d_HC_elapsed_4 ?_
  refine ai_ldc2 (x := 234) hx hb hown (hts _ k_537) (by decide +kernel) d_HC_elapsed_5 ?_
  refine ai_lsub hx hb d_HC_elapsed_8 ?_
  refine ai_ldc2 (x := 19) hx hb hown (hts _ k_538) (by decide +kernel) d_HC_elapsed_9 ?_
  refine ro_S (rest := []) (ct_JM_floorDiv_JJJ l ((235 * y) - 234) 19 (by omega) (by omega)) j_JM_floorDiv_JJJ k_539 hF rfl hl.1 rfl ⟨Nat.le_of_ble_eq_true rfl, Nat.le_of_ble_eq_true rfl⟩ (Nat.le_of_ble_eq_true rfl) d_HC_elapsed_12 ⟨Nat.zero_le _, Nat.zero_le _⟩ Bm_true (fun _ _ _ => trivial) ?_
  refine ai_nmL hx hb (fun v15 e15 => ?_)
  refine lv_lstore_n (lv' := [(2, .long (iL v15)), (0, .long (iL y))]) hx hb d_HC_elapsed_15 rfl hl (by decide) rfl (fun ls hl => ?_)
  refine ai_ldc2 (x := 29) hx hb hown (hts _ k_542) (by decide +kernel) d_HC_elapsed_16 ?_
  refine lv_lload_n hx hb d_HC_elapsed_19 rfl (lv_at hl 0 rfl) ?_
  refine ai_lmul hx hb d_HC_elapsed_20 ?_
  refine ai_ldc2 (x := 12084) hx hb hown (hts _ k_543) (by decide +kernel) d_HC_elapsed_21 ?_
  refine ai_ldc2 (x := 13753) hx hb hown (hts _ k_544) (by decide +kernel) d_HC_elapsed_24 ?_
  refine lv_lload_n hx hb d_HC_elapsed_27 rfl (lv_at hl 0 rfl) ?_
  refine ai_lmul hx hb d_HC_elapsed_28 ?_
  refine ai_ladd hx hb d_HC_elapsed_29 ?_
  refine ai_ldc2 (x := 25920) hx hb hown (hts _ k_545) (by decide +kernel) d_HC_elapsed_30 ?_
  refine ro_S (rest := [.long (iL (29 * v15))]) (ct_JM_floorDiv_JJJ l (12084 + (13753 * v15)) 25920 (by omega) (by omega)) j_JM_floorDiv_JJJ k_539 hF rfl hl.1 rfl ⟨Nat.le_of_ble_eq_true rfl, Nat.le_of_ble_eq_true rfl⟩ (Nat.le_of_ble_eq_true rfl) d_HC_elapsed_33 ⟨Nat.zero_le _, Nat.zero_le _⟩ Bm_true (fun _ _ _ => trivial) ?_
  refine ai_ladd hx hb d_HC_elapsed_36 ?_
  refine ai_nmL hx hb (fun v37 e37 => ?_)
  refine lv_lstore (lv' := [(4, .long (iL v37)), (2, .long (iL v15)), (0, .long (iL y))]) hx hb d_HC_elapsed_37 hl (by decide) rfl (fun ls hl => ?_)
  refine ai_ldc2 (x := 3) hx hb hown (hts _ k_546) (by decide +kernel) d_HC_elapsed_39 ?_
  refine lv_lload hx hb d_HC_elapsed_42 (lv_at hl 0 rfl) ?_
  refine ai_lmul hx hb d_HC_elapsed_44 ?_
  refine ai_ldc2 (x := 3) hx hb hown (hts _ k_546) (by decide +kernel) d_HC_elapsed_45 ?_
  refine ai_ladd hx hb d_HC_elapsed_48 ?_
  refine ai_ldc2 (x := 7) hx hb hown (hts _ k_547) (by decide +kernel) d_HC_elapsed_49 ?_
  refine ro_S (rest := []) (ct_JM_floorMod_JJJ l ((3 * v37) + 3) 7 (by omega) (by omega)) j_JM_floorMod_JJJ k_548 hF rfl hl.1 rfl ⟨Nat.le_of_ble_eq_true rfl, Nat.le_of_ble_eq_true rfl⟩ (Nat.le_of_ble_eq_true rfl) d_HC_elapsed_52 ⟨Nat.zero_le _, Nat.zero_le _⟩ Bm_true (fun _ _ _ => trivial) ?_
  refine ai_ldc2 (x := 3) hx hb hown (hts _ k_546) (by decide +kernel) d_HC_elapsed_55 ?_
  refine ai_lcmp_ge hx hb d_HC_elapsed_58 d_HC_elapsed_59 rfl (by omega) (by omega) (fun h58 => ?_) (fun h58 => ?_)
  · skip
    refine lv_lload hx hb d_HC_elapsed_69 (lv_at hl 0 rfl) ?_
    exact ro_lret hx hb hr hlk d_HC_elapsed_71 (by have q : hea (hmo y) = v37 := (by unfold hea hmo; rw [e37, e15]); unfold hel hpo; rw [q, bI_f (by omega)]; omega)
  · skip
    refine lv_lload hx hb d_HC_elapsed_62 (lv_at hl 0 rfl) ?_
    refine ai_lconst (x := 1) hx hb d_HC_elapsed_64 (by decide +kernel) ?_
    refine ai_ladd hx hb d_HC_elapsed_65 ?_
    refine lv_goto hx hb d_HC_elapsed_66 rfl ?_
    exact ro_lret hx hb hr hlk d_HC_elapsed_71 (by have q : hea (hmo y) = v37 := (by unfold hea hmo; rw [e37, e15]); unfold hel hpo; rw [q, bI_t (by omega)])
set_option maxHeartbeats 4000000 in
set_option maxRecDepth 100000 in
theorem ct_M_moonStart (l : Launch) (y : Int) (ry : -999999999999 ≤ y ∧ y ≤ 999999999999) : RO l y_M_moonStart w_M_moonStart 3 73 [.long (iL y)] (fun _ => True) (.long (iL (hst y))) := by
  refine ro_of (by decide +kernel) (Nat.le_of_ble_eq_true rfl) ?_
  intro p e s m below meth c ls hx hb hr hts hown hlk hml hl hN hB
  have hown : s.vm.findClass "DayBookModel" = some m.cls := hown
  have hl : lv_has ls 8 [(0, .long (iL y))] := hl
  have hF : _ ∧ _ ∧ _ ∧ _ ∧ _ ∧ _ := ⟨hx, hb, hml, hown, hts, hN⟩
  have q0 := hel_rng (y := y - 1) (by omega)
  have q1 := hel_rng (y := y) (by omega)
  have q2 := hel_rng (y := y + 1) (by omega)
  refine lv_lload_n hx hb d_M_moonStart_0 rfl (lv_at hl 0 rfl) ?_
  refine ai_lconst (x := 1) hx hb d_M_moonStart_1 (by decide +kernel) ?_
  refine ai_lsub hx hb d_M_moonStart_2 ?_
  refine ro_S (rest := []) (ct_M_moons l (y - 1) (by omega)) j_M_moons k_1076 hF rfl hl.1 rfl ⟨Nat.le_of_ble_eq_true rfl, Nat.le_of_ble_eq_true rfl⟩ (Nat.le_of_ble_eq_true rfl) d_M_moonStart_3 ⟨Nat.zero_le _, Nat.zero_le _⟩ Bm_true (fun _ _ _ => trivial) ?_
  refine ai_nmL hx hb (fun v6 e6 => ?_)
  refine lv_lstore_n (lv' := [(2, .long (iL v6)), (0, .long (iL y))]) hx hb d_M_moonStart_6 rfl hl (by decide) rfl (fun ls hl => ?_)
  refine lv_lload_n hx hb d_M_moonStart_7 rfl (lv_at hl 1 rfl) ?_
  refine ro_S (rest := []) (ct_M_moons l y (by omega)) j_M_moons k_1076 hF rfl hl.1 rfl ⟨Nat.le_of_ble_eq_true rfl, Nat.le_of_ble_eq_true rfl⟩ (Nat.le_of_ble_eq_true rfl) d_M_moonStart_8 ⟨Nat.zero_le _, Nat.zero_le _⟩ Bm_true (fun _ _ _ => trivial) ?_
  refine ai_nmL hx hb (fun v11 e11 => ?_)
  refine lv_lstore (lv' := [(4, .long (iL v11)), (2, .long (iL v6)), (0, .long (iL y))]) hx hb d_M_moonStart_11 hl (by decide) rfl (fun ls hl => ?_)
  refine lv_lload_n hx hb d_M_moonStart_13 rfl (lv_at hl 2 rfl) ?_
  refine ai_lconst (x := 1) hx hb d_M_moonStart_14 (by decide +kernel) ?_
  refine ai_ladd hx hb d_M_moonStart_15 ?_
  refine ro_S (rest := []) (ct_M_moons l (y + 1) (by omega)) j_M_moons k_1076 hF rfl hl.1 rfl ⟨Nat.le_of_ble_eq_true rfl, Nat.le_of_ble_eq_true rfl⟩ (Nat.le_of_ble_eq_true rfl) d_M_moonStart_16 ⟨Nat.zero_le _, Nat.zero_le _⟩ Bm_true (fun _ _ _ => trivial) ?_
  refine ai_nmL hx hb (fun v19 e19 => ?_)
  refine lv_lstore (lv' := [(6, .long (iL v19)), (4, .long (iL v11)), (2, .long (iL v6)), (0, .long (iL y))]) hx hb d_M_moonStart_19 hl (by decide) rfl (fun ls hl => ?_)
  refine lv_lload hx hb d_M_moonStart_21 (lv_at hl 1 rfl) ?_
  refine ai_ldc2 (x := 1373427) hx hb hown (hts _ k_1085) (by decide +kernel) d_M_moonStart_23 ?_
  refine ai_lsub hx hb d_M_moonStart_26 ?_
  refine lv_lload hx hb d_M_moonStart_27 (lv_at hl 0 rfl) ?_
  refine lv_lload hx hb d_M_moonStart_29 (lv_at hl 1 rfl) ?_
  refine ai_lsub hx hb d_M_moonStart_31 ?_
  refine ai_ldc2 (x := 356) hx hb hown (hts _ k_1086) (by decide +kernel) d_M_moonStart_32 ?_
  refine ai_lcmp_ne hx hb d_M_moonStart_35 d_M_moonStart_36 rfl (by omega) (by omega) (fun h35 => ?_) (fun h35 => ?_)
  · skip
    refine lv_lload hx hb d_M_moonStart_45 (lv_at hl 1 rfl) ?_
    refine lv_lload_n hx hb d_M_moonStart_47 rfl (lv_at hl 2 rfl) ?_
    refine ai_lsub hx hb d_M_moonStart_48 ?_
    refine ai_ldc2 (x := 382) hx hb hown (hts _ k_1088) (by decide +kernel) d_M_moonStart_49 ?_
    refine ai_lcmp_ne hx hb d_M_moonStart_52 d_M_moonStart_53 rfl (by omega) (by omega) (fun h52 => ?_) (fun h52 => ?_)
    · skip
      refine ai_lconst (x := 0) hx hb d_M_moonStart_60 (by decide +kernel) ?_
      refine ai_ladd hx hb d_M_moonStart_61 ?_
      exact ro_lret hx hb hr hlk d_M_moonStart_62 (by unfold hst hla; rw [if_neg (by omega), if_neg (by omega)]; omega)
    · skip
      refine ai_lconst (x := 1) hx hb d_M_moonStart_56 (by decide +kernel) ?_
      refine lv_goto hx hb d_M_moonStart_57 rfl ?_
      refine ai_ladd hx hb d_M_moonStart_61 ?_
      exact ro_lret hx hb hr hlk d_M_moonStart_62 (by unfold hst hla; rw [if_neg (by omega), if_pos (by omega)]; omega)
  · skip
    refine ai_ldc2 (x := 2) hx hb hown (hts _ k_1087) (by decide +kernel) d_M_moonStart_39 ?_
    refine lv_goto hx hb d_M_moonStart_42 rfl ?_
    refine ai_ladd hx hb d_M_moonStart_61 ?_
    exact ro_lret hx hb hr hlk d_M_moonStart_62 (by unfold hst hla; rw [if_pos (by omega)]; omega)
set_option maxHeartbeats 4000000 in
set_option maxRecDepth 100000 in
theorem ct_HC_yearStart (l : Launch) (a : Nat) (y : Int) (ry : -999999999999 ≤ y ∧ y ≤ 999999999999) : RO l y_HC_yearStart w_HC_yearStart 2 50 [.ref a, .long (iL y)] (fun _ => True) (.long (iL (hst y))) := by
  refine ro_of (by decide +kernel) (Nat.le_of_ble_eq_true rfl) ?_
  intro p e s m below meth c ls hx hb hr hts hown hlk hml hl hN hB
  have hown : s.vm.findClass "DayBook$HebrewCalendar" = some m.cls := hown
  have hl : lv_has ls 7 [(0, .ref a), (1, .long (iL y))] := hl
  have hF : _ ∧ _ ∧ _ ∧ _ ∧ _ ∧ _ := ⟨hx, hb, hml, hown, hts, hN⟩
  have q0 := hel_rng (y := y - 1) (by omega)
  have q1 := hel_rng (y := y) (by omega)
  have q2 := hel_rng (y := y + 1) (by omega)
  refine lv_lload_n hx hb d_HC_yearStart_0 rfl (lv_at hl 1 rfl) ?_
  refine ro_S (rest := []) (ct_HC_elapsed l y (by omega)) j_HC_elapsed k_533 hF rfl hl.1 rfl ⟨Nat.le_of_ble_eq_true rfl, Nat.le_of_ble_eq_true rfl⟩ (Nat.le_of_ble_eq_true rfl) d_HC_yearStart_1 ⟨Nat.zero_le _, Nat.zero_le _⟩ Bm_true (fun _ _ _ => trivial) ?_
  refine ai_nmL hx hb (fun v4 e4 => ?_)
  refine lv_lstore_n (lv' := [(3, .long (iL v4)), (0, .ref a), (1, .long (iL y))]) hx hb d_HC_yearStart_4 rfl hl (by decide) rfl (fun ls hl => ?_)
  refine ai_lconst (x := 0) hx hb d_HC_yearStart_5 (by decide +kernel) ?_
  refine lv_lstore (lv' := [(5, .long (iL 0)), (3, .long (iL v4)), (0, .ref a), (1, .long (iL y))]) hx hb d_HC_yearStart_6 hl (by decide) rfl (fun ls hl => ?_)
  refine lv_lload_n hx hb d_HC_yearStart_8 rfl (lv_at hl 3 rfl) ?_
  refine ai_lconst (x := 1) hx hb d_HC_yearStart_9 (by decide +kernel) ?_
  refine ai_ladd hx hb d_HC_yearStart_10 ?_
  refine ro_S (rest := []) (ct_HC_elapsed l (y + 1) (by omega)) j_HC_elapsed k_533 hF rfl hl.1 rfl ⟨Nat.le_of_ble_eq_true rfl, Nat.le_of_ble_eq_true rfl⟩ (Nat.le_of_ble_eq_true rfl) d_HC_yearStart_11 ⟨Nat.zero_le _, Nat.zero_le _⟩ Bm_true (fun _ _ _ => trivial) ?_
  refine lv_lload_n hx hb d_HC_yearStart_14 rfl (lv_at hl 1 rfl) ?_
  refine ai_lsub hx hb d_HC_yearStart_15 ?_
  refine ai_ldc2 (x := 356) hx hb hown (hts _ k_551) (by decide +kernel) d_HC_yearStart_16 ?_
  refine ai_lcmp_ne hx hb d_HC_yearStart_19 d_HC_yearStart_20 rfl (by omega) (by omega) (fun h19 => ?_) (fun h19 => ?_)
  · skip
    refine lv_lload_n hx hb d_HC_yearStart_31 rfl (lv_at hl 1 rfl) ?_
    refine lv_lload_n hx hb d_HC_yearStart_32 rfl (lv_at hl 3 rfl) ?_
    refine ai_lconst (x := 1) hx hb d_HC_yearStart_33 (by decide +kernel) ?_
    refine ai_lsub hx hb d_HC_yearStart_34 ?_
    refine ro_S (rest := [.long (iL v4)]) (ct_HC_elapsed l (y - 1) (by omega)) j_HC_elapsed k_533 hF rfl hl.1 rfl ⟨Nat.le_of_ble_eq_true rfl, Nat.le_of_ble_eq_true rfl⟩ (Nat.le_of_ble_eq_true rfl) d_HC_yearStart_35 ⟨Nat.zero_le _, Nat.zero_le _⟩ Bm_true (fun _ _ _ => trivial) ?_
    refine ai_lsub hx hb d_HC_yearStart_38 ?_
    refine ai_ldc2 (x := 382) hx hb hown (hts _ k_553) (by decide +kernel) d_HC_yearStart_39 ?_
    refine ai_lcmp_ne hx hb d_HC_yearStart_42 d_HC_yearStart_43 rfl (by omega) (by omega) (fun h42 => ?_) (fun h42 => ?_)
    · skip
      refine ai_ldc2 (x := -1373427) hx hb hown (hts _ k_554) (by decide +kernel) d_HC_yearStart_49 ?_
      refine lv_lload_n hx hb d_HC_yearStart_52 rfl (lv_at hl 1 rfl) ?_
      refine ai_ladd hx hb d_HC_yearStart_53 ?_
      refine lv_lload hx hb d_HC_yearStart_54 (lv_at hl 0 rfl) ?_
      refine ai_ladd hx hb d_HC_yearStart_56 ?_
      exact ro_lret hx hb hr hlk d_HC_yearStart_57 (by unfold hst hla; rw [if_neg (by omega), if_neg (by omega)]; omega)
    · skip
      refine ai_lconst (x := 1) hx hb d_HC_yearStart_46 (by decide +kernel) ?_
      refine lv_lstore (lv' := [(5, .long (iL 1)), (3, .long (iL v4)), (0, .ref a), (1, .long (iL y))]) hx hb d_HC_yearStart_47 hl (by decide) rfl (fun ls hl => ?_)
      refine ai_ldc2 (x := -1373427) hx hb hown (hts _ k_554) (by decide +kernel) d_HC_yearStart_49 ?_
      refine lv_lload_n hx hb d_HC_yearStart_52 rfl (lv_at hl 1 rfl) ?_
      refine ai_ladd hx hb d_HC_yearStart_53 ?_
      refine lv_lload hx hb d_HC_yearStart_54 (lv_at hl 0 rfl) ?_
      refine ai_ladd hx hb d_HC_yearStart_56 ?_
      exact ro_lret hx hb hr hlk d_HC_yearStart_57 (by unfold hst hla; rw [if_neg (by omega), if_pos (by omega)]; omega)
  · skip
    refine ai_ldc2 (x := 2) hx hb hown (hts _ k_552) (by decide +kernel) d_HC_yearStart_23 ?_
    refine lv_lstore (lv' := [(5, .long (iL 2)), (3, .long (iL v4)), (0, .ref a), (1, .long (iL y))]) hx hb d_HC_yearStart_26 hl (by decide) rfl (fun ls hl => ?_)
    refine lv_goto hx hb d_HC_yearStart_28 rfl ?_
    refine ai_ldc2 (x := -1373427) hx hb hown (hts _ k_554) (by decide +kernel) d_HC_yearStart_49 ?_
    refine lv_lload_n hx hb d_HC_yearStart_52 rfl (lv_at hl 1 rfl) ?_
    refine ai_ladd hx hb d_HC_yearStart_53 ?_
    refine lv_lload hx hb d_HC_yearStart_54 (lv_at hl 0 rfl) ?_
    refine ai_ladd hx hb d_HC_yearStart_56 ?_
    exact ro_lret hx hb hr hlk d_HC_yearStart_57 (by unfold hst hla; rw [if_pos (by omega)]; omega)
set_option maxHeartbeats 4000000 in
set_option maxRecDepth 100000 in
theorem ct_HC_isLeap (l : Launch) (a : Nat) (y : Int) (ry : -999999999999 ≤ y ∧ y ≤ 999999999999) : RO l y_HC_isLeap w_HC_isLeap 1 25 [.ref a, .long (iL y)] (fun _ => True) (.int (iI (bI (yl9 y)))) := by
  refine ro_of (by decide +kernel) (Nat.le_of_ble_eq_true rfl) ?_
  intro p e s m below meth c ls hx hb hr hts hown hlk hml hl hN hB
  have hown : s.vm.findClass "DayBook$HebrewCalendar" = some m.cls := hown
  have hl : lv_has ls 3 [(0, .ref a), (1, .long (iL y))] := hl
  have hF : _ ∧ _ ∧ _ ∧ _ ∧ _ ∧ _ := ⟨hx, hb, hml, hown, hts, hN⟩
  refine ai_ldc2 (x := 7) hx hb hown (hts _ k_547) (by decide +kernel) d_HC_isLeap_0 ?_
  refine lv_lload_n hx hb d_HC_isLeap_3 rfl (lv_at hl 1 rfl) ?_
  refine ai_lmul hx hb d_HC_isLeap_4 ?_
  refine ai_lconst (x := 1) hx hb d_HC_isLeap_5 (by decide +kernel) ?_
  refine ai_ladd hx hb d_HC_isLeap_6 ?_
  refine ai_ldc2 (x := 19) hx hb hown (hts _ k_538) (by decide +kernel) d_HC_isLeap_7 ?_
  refine ro_S (rest := []) (ct_JM_floorMod_JJJ l ((7 * y) + 1) 19 (by omega) (by omega)) j_JM_floorMod_JJJ k_548 hF rfl hl.1 rfl ⟨Nat.le_of_ble_eq_true rfl, Nat.le_of_ble_eq_true rfl⟩ (Nat.le_of_ble_eq_true rfl) d_HC_isLeap_10 ⟨Nat.zero_le _, Nat.zero_le _⟩ Bm_true (fun _ _ _ => trivial) ?_
  refine ai_ldc2 (x := 7) hx hb hown (hts _ k_547) (by decide +kernel) d_HC_isLeap_13 ?_
  refine ai_lcmp_ge hx hb d_HC_isLeap_16 d_HC_isLeap_17 rfl (by omega) (by omega) (fun h16 => ?_) (fun h16 => ?_)
  · skip
    refine ai_iconst hx hb d_HC_isLeap_24 ?_
    exact ro_zret hx hb hr hlk d_HC_isLeap_25 (ro_0 (by unfold yl9; omega) rfl)
  · skip
    refine ai_iconst hx hb d_HC_isLeap_20 ?_
    refine lv_goto hx hb d_HC_isLeap_21 rfl ?_
    exact ro_zret hx hb hr hlk d_HC_isLeap_25 (ro_1 (by unfold yl9; omega) rfl)
set_option maxHeartbeats 4000000 in
set_option maxRecDepth 100000 in
theorem ct_HC_isLong (l : Launch) (n : Int) (rn : -2147483648 ≤ n ∧ n ≤ 2147483647) : RO l y_HC_isLong w_HC_isLong 0 0 [.int (iI n)] (fun _ => True) (.int (iI (bI (355 < n)))) := by
  refine ro_of (by decide +kernel) (Nat.le_of_ble_eq_true rfl) ?_
  intro p e s m below meth c ls hx hb hr hts hown hlk hml hl hN hB
  have hown : s.vm.findClass "DayBook$HebrewCalendar" = some m.cls := hown
  have hl : lv_has ls 1 [(0, .int (iI n))] := hl
  have hF : _ ∧ _ ∧ _ ∧ _ ∧ _ ∧ _ := ⟨hx, hb, hml, hown, hts, hN⟩
  refine lv_iload_n hx hb d_HC_isLong_0 rfl (lv_at hl 0 rfl) ?_
  refine ai_sipush (x := 355) hx hb d_HC_isLong_1 (by decide +kernel) ?_
  refine ai_icmp_le hx hb d_HC_isLong_4 rfl (by omega) (by omega) (fun h4 => ?_) (fun h4 => ?_)
  · skip
    refine ai_iconst hx hb d_HC_isLong_11 ?_
    exact ro_zret hx hb hr hlk d_HC_isLong_12 (ro_0 (by omega) rfl)
  · skip
    refine ai_iconst hx hb d_HC_isLong_7 ?_
    refine lv_goto hx hb d_HC_isLong_8 rfl ?_
    exact ro_zret hx hb hr hlk d_HC_isLong_12 (ro_1 (by omega) rfl)
