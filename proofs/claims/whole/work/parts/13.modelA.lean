/-! 13.modelA: laid by program (wip/whole) -/
def ctd (c y : Int) : Int := if (c = 1 ∨ c = 6) ∧ y < 0 then y + 1 else y
def nmd (c y : Int) : Int := if (c = 1 ∨ c = 6) ∧ y < 1 then y - 1 else y
set_option maxHeartbeats 4000000 in
set_option maxRecDepth 100000 in
theorem ct_M_div (l : Launch) (x : Int) (n : Int) (rx : -1000000000000000000 ≤ x ∧ x ≤ 1000000000000000000) (rn : 0 < n ∧ n ≤ 1000000000000) : RO l y_M_div w_M_div 0 0 [.long (iL x), .long (iL n)] (fun _ => True) (.long (iL (x / n))) := by
  refine ro_of (by decide +kernel) (Nat.le_of_ble_eq_true rfl) ?_
  intro p e s m below meth c ls hx hb hr hts hown hlk hml hl hN hB
  have hown : s.vm.findClass "DayBookModel" = some m.cls := hown
  have hl : lv_has ls 6 [(0, .long (iL x)), (2, .long (iL n))] := hl
  have hF : _ ∧ _ ∧ _ ∧ _ ∧ _ ∧ _ := ⟨hx, hb, hml, hown, hts, hN⟩
  have hf := dv_floor (x := x) rn.1
  have ht := Int.tdiv_mul_add_tmod x n
  have htn := tm_sign x rn.1
  refine lv_lload_n hx hb d_M_div_0 rfl (lv_at hl 0 rfl) ?_
  refine lv_lload_n hx hb d_M_div_1 rfl (lv_at hl 1 rfl) ?_
  refine ai_ldiv hx hb d_M_div_2 (by omega) (by omega) (by omega) ?_
  refine ai_nmL hx hb (fun v3 e3 => ?_)
  refine lv_lstore (lv' := [(4, .long (iL v3)), (0, .long (iL x)), (2, .long (iL n))]) hx hb d_M_div_3 hl (by decide) rfl (fun ls hl => ?_)
  rw [← e3] at ht hf
  refine lv_lload hx hb d_M_div_5 (lv_at hl 0 rfl) ?_
  refine lv_lload_n hx hb d_M_div_7 rfl (lv_at hl 2 rfl) ?_
  refine ai_lmul hx hb d_M_div_8 ?_
  refine lv_lload_n hx hb d_M_div_9 rfl (lv_at hl 1 rfl) ?_
  refine ai_lcmp_le hx hb d_M_div_10 d_M_div_11 rfl (by omega) (by omega) (fun h10 => ?_) (fun h10 => ?_)
  · skip
    refine lv_lload hx hb d_M_div_21 (lv_at hl 0 rfl) ?_
    exact ro_lret hx hb hr hlk d_M_div_23 (by rw [hf, if_neg (by omega)] <;> omega)
  · skip
    refine lv_lload hx hb d_M_div_14 (lv_at hl 0 rfl) ?_
    refine ai_lconst (x := 1) hx hb d_M_div_16 (by decide +kernel) ?_
    refine ai_lsub hx hb d_M_div_17 ?_
    refine lv_goto hx hb d_M_div_18 rfl ?_
    exact ro_lret hx hb hr hlk d_M_div_23 (by rw [hf, if_pos (by omega)] <;> omega)
set_option maxHeartbeats 4000000 in
set_option maxRecDepth 100000 in
theorem ct_M_mod (l : Launch) (x : Int) (n : Int) (rx : -1000000000000000000 ≤ x ∧ x ≤ 1000000000000000000) (rn : 0 < n ∧ n ≤ 1000000000000) : RO l y_M_mod w_M_mod 1 25 [.long (iL x), .long (iL n)] (fun _ => True) (.long (iL (x % n))) := by
  refine ro_of (by decide +kernel) (Nat.le_of_ble_eq_true rfl) ?_
  intro p e s m below meth c ls hx hb hr hts hown hlk hml hl hN hB
  have hown : s.vm.findClass "DayBookModel" = some m.cls := hown
  have hl : lv_has ls 4 [(0, .long (iL x)), (2, .long (iL n))] := hl
  have hF : _ ∧ _ ∧ _ ∧ _ ∧ _ ∧ _ := ⟨hx, hb, hml, hown, hts, hN⟩
  have hm := Int.mul_ediv_add_emod x n
  refine lv_lload_n hx hb d_M_mod_0 rfl (lv_at hl 0 rfl) ?_
  refine lv_lload_n hx hb d_M_mod_1 rfl (lv_at hl 1 rfl) ?_
  refine lv_lload_n hx hb d_M_mod_2 rfl (lv_at hl 0 rfl) ?_
  refine lv_lload_n hx hb d_M_mod_3 rfl (lv_at hl 1 rfl) ?_
  refine ro_S (rest := [.long (iL n), .long (iL x)]) (ct_M_div l x n (by omega) (by omega)) j_M_div k_928 hF rfl hl.1 rfl ⟨Nat.le_of_ble_eq_true rfl, Nat.le_of_ble_eq_true rfl⟩ (Nat.le_of_ble_eq_true rfl) d_M_mod_4 ⟨Nat.zero_le _, Nat.zero_le _⟩ Bm_true (fun _ _ _ => trivial) ?_
  refine ai_lmul hx hb d_M_mod_7 ?_
  refine ai_lsub hx hb d_M_mod_8 ?_
  exact ro_lret hx hb hr hlk d_M_mod_9 (by omega)
set_option maxHeartbeats 4000000 in
set_option maxRecDepth 100000 in
theorem ct_M_skips (l : Launch) (g : Int) (rg : -2147483648 ≤ g ∧ g ≤ 2147483647) : RO l y_M_skips w_M_skips 0 0 [.int (iI g)] (fun _ => True) (.int (iI (bI (g = 1 ∨ g = 6)))) := by
  refine ro_of (by decide +kernel) (Nat.le_of_ble_eq_true rfl) ?_
  intro p e s m below meth c ls hx hb hr hts hown hlk hml hl hN hB
  have hown : s.vm.findClass "DayBookModel" = some m.cls := hown
  have hl : lv_has ls 1 [(0, .int (iI g))] := hl
  have hF : _ ∧ _ ∧ _ ∧ _ ∧ _ ∧ _ := ⟨hx, hb, hml, hown, hts, hN⟩
  refine lv_iload_n hx hb d_M_skips_0 rfl (lv_at hl 0 rfl) ?_
  refine ai_iconst hx hb d_M_skips_1 ?_
  refine ai_icmp_eq hx hb d_M_skips_2 rfl (by omega) (by omega) (fun h2 => ?_) (fun h2 => ?_)
  · skip
    refine ai_iconst hx hb d_M_skips_11 ?_
    refine lv_goto hx hb d_M_skips_12 rfl ?_
    exact ro_zret hx hb hr hlk d_M_skips_16 (ro_1 (by omega) rfl)
  · skip
    refine lv_iload_n hx hb d_M_skips_5 rfl (lv_at hl 0 rfl) ?_
    refine ai_bipush (x := 6) hx hb d_M_skips_6 (by decide +kernel) ?_
    refine ai_icmp_ne hx hb d_M_skips_8 rfl (by omega) (by omega) (fun h8 => ?_) (fun h8 => ?_)
    · skip
      refine ai_iconst hx hb d_M_skips_15 ?_
      exact ro_zret hx hb hr hlk d_M_skips_16 (ro_0 (by omega) rfl)
    · skip
      refine ai_iconst hx hb d_M_skips_11 ?_
      refine lv_goto hx hb d_M_skips_12 rfl ?_
      exact ro_zret hx hb hr hlk d_M_skips_16 (ro_1 (by omega) rfl)
set_option maxHeartbeats 4000000 in
set_option maxRecDepth 100000 in
theorem ct_M_counted (l : Launch) (g : Int) (y : Int) (rg : -2147483648 ≤ g ∧ g ≤ 2147483647) (ry : -1000000000000000000 ≤ y ∧ y ≤ 1000000000000000000) : RO l y_M_counted w_M_counted 1 20 [.int (iI g), .long (iL y)] (fun _ => True) (.long (iL (ctd g y))) := by
  refine ro_of (by decide +kernel) (Nat.le_of_ble_eq_true rfl) ?_
  intro p e s m below meth c ls hx hb hr hts hown hlk hml hl hN hB
  have hown : s.vm.findClass "DayBookModel" = some m.cls := hown
  have hl : lv_has ls 3 [(0, .int (iI g)), (1, .long (iL y))] := hl
  have hF : _ ∧ _ ∧ _ ∧ _ ∧ _ ∧ _ := ⟨hx, hb, hml, hown, hts, hN⟩
  refine lv_iload_n hx hb d_M_counted_0 rfl (lv_at hl 0 rfl) ?_
  refine ro_S (rest := []) (ct_M_skips l g (by omega)) j_M_skips k_1098 hF rfl hl.1 rfl ⟨Nat.le_of_ble_eq_true rfl, Nat.le_of_ble_eq_true rfl⟩ (Nat.le_of_ble_eq_true rfl) d_M_counted_1 ⟨Nat.zero_le _, Nat.zero_le _⟩ Bm_true (fun _ _ _ => trivial) ?_
  refine ai_ifeqB hx hb d_M_counted_4 rfl (fun h4 => ?_) (fun h4 => ?_)
  · skip
    refine lv_lload_n hx hb d_M_counted_19 rfl (lv_at hl 1 rfl) ?_
    exact ro_lret hx hb hr hlk d_M_counted_20 (by unfold ctd; rw [if_neg (by omega)])
  · skip
    refine lv_lload_n hx hb d_M_counted_7 rfl (lv_at hl 1 rfl) ?_
    refine ai_lconst (x := 0) hx hb d_M_counted_8 (by decide +kernel) ?_
    refine ai_lcmp_ge hx hb d_M_counted_9 d_M_counted_10 rfl (by omega) (by omega) (fun h9 => ?_) (fun h9 => ?_)
    · skip
      refine lv_lload_n hx hb d_M_counted_19 rfl (lv_at hl 1 rfl) ?_
      exact ro_lret hx hb hr hlk d_M_counted_20 (by unfold ctd; rw [if_neg (by omega)])
    · skip
      refine lv_lload_n hx hb d_M_counted_13 rfl (lv_at hl 1 rfl) ?_
      refine ai_lconst (x := 1) hx hb d_M_counted_14 (by decide +kernel) ?_
      refine ai_ladd hx hb d_M_counted_15 ?_
      refine lv_goto hx hb d_M_counted_16 rfl ?_
      exact ro_lret hx hb hr hlk d_M_counted_20 (by unfold ctd; rw [if_pos ⟨h4, h9⟩])
set_option maxHeartbeats 4000000 in
set_option maxRecDepth 100000 in
theorem ct_M_named (l : Launch) (g : Int) (y : Int) (rg : -2147483648 ≤ g ∧ g ≤ 2147483647) (ry : -1000000000000000000 ≤ y ∧ y ≤ 1000000000000000000) : RO l y_M_named w_M_named 1 20 [.int (iI g), .long (iL y)] (fun _ => True) (.long (iL (nmd g y))) := by
  refine ro_of (by decide +kernel) (Nat.le_of_ble_eq_true rfl) ?_
  intro p e s m below meth c ls hx hb hr hts hown hlk hml hl hN hB
  have hown : s.vm.findClass "DayBookModel" = some m.cls := hown
  have hl : lv_has ls 3 [(0, .int (iI g)), (1, .long (iL y))] := hl
  have hF : _ ∧ _ ∧ _ ∧ _ ∧ _ ∧ _ := ⟨hx, hb, hml, hown, hts, hN⟩
  refine lv_iload_n hx hb d_M_named_0 rfl (lv_at hl 0 rfl) ?_
  refine ro_S (rest := []) (ct_M_skips l g (by omega)) j_M_skips k_1098 hF rfl hl.1 rfl ⟨Nat.le_of_ble_eq_true rfl, Nat.le_of_ble_eq_true rfl⟩ (Nat.le_of_ble_eq_true rfl) d_M_named_1 ⟨Nat.zero_le _, Nat.zero_le _⟩ Bm_true (fun _ _ _ => trivial) ?_
  refine ai_ifeqB hx hb d_M_named_4 rfl (fun h4 => ?_) (fun h4 => ?_)
  · skip
    refine lv_lload_n hx hb d_M_named_19 rfl (lv_at hl 1 rfl) ?_
    exact ro_lret hx hb hr hlk d_M_named_20 (by unfold nmd; rw [if_neg (by omega)])
  · skip
    refine lv_lload_n hx hb d_M_named_7 rfl (lv_at hl 1 rfl) ?_
    refine ai_lconst (x := 1) hx hb d_M_named_8 (by decide +kernel) ?_
    refine ai_lcmp_ge hx hb d_M_named_9 d_M_named_10 rfl (by omega) (by omega) (fun h9 => ?_) (fun h9 => ?_)
    · skip
      refine lv_lload_n hx hb d_M_named_19 rfl (lv_at hl 1 rfl) ?_
      exact ro_lret hx hb hr hlk d_M_named_20 (by unfold nmd; rw [if_neg (by omega)])
    · skip
      refine lv_lload_n hx hb d_M_named_13 rfl (lv_at hl 1 rfl) ?_
      refine ai_lconst (x := 1) hx hb d_M_named_14 (by decide +kernel) ?_
      refine ai_lsub hx hb d_M_named_15 ?_
      refine lv_goto hx hb d_M_named_16 rfl ?_
      exact ro_lret hx hb hr hlk d_M_named_20 (by unfold nmd; rw [if_pos ⟨h4, h9⟩])
set_option maxHeartbeats 4000000 in
set_option maxRecDepth 100000 in
theorem ct_M_leap0 (l : Launch) (y : Int) (ry : -1000000000000000000 ≤ y ∧ y ≤ 1000000000000000000) : RO l y_M_leap0 w_M_leap0 2 48 [.long (iL y)] (fun _ => True) (.int (iI (bI (yl0 y)))) := by
  refine ro_of (by decide +kernel) (Nat.le_of_ble_eq_true rfl) ?_
  intro p e s m below meth c ls hx hb hr hts hown hlk hml hl hN hB
  have hown : s.vm.findClass "DayBookModel" = some m.cls := hown
  have hl : lv_has ls 2 [(0, .long (iL y))] := hl
  have hF : _ ∧ _ ∧ _ ∧ _ ∧ _ ∧ _ := ⟨hx, hb, hml, hown, hts, hN⟩
  refine lv_lload_n hx hb d_M_leap0_0 rfl (lv_at hl 0 rfl) ?_
  refine ai_ldc2 (x := 4) hx hb hown (hts _ k_924) (by decide +kernel) d_M_leap0_1 ?_
  refine ro_S (rest := []) (ct_M_mod l y 4 (by omega) (by omega)) j_M_mod k_925 hF rfl hl.1 rfl ⟨Nat.le_of_ble_eq_true rfl, Nat.le_of_ble_eq_true rfl⟩ (Nat.le_of_ble_eq_true rfl) d_M_leap0_4 ⟨Nat.zero_le _, Nat.zero_le _⟩ Bm_true (fun _ _ _ => trivial) ?_
  refine ai_lconst (x := 0) hx hb d_M_leap0_7 (by decide +kernel) ?_
  refine ai_lcmp_ne hx hb d_M_leap0_8 d_M_leap0_9 rfl (by omega) (by omega) (fun h8 => ?_) (fun h8 => ?_)
  · skip
    refine ai_iconst hx hb d_M_leap0_40 ?_
    exact ro_zret hx hb hr hlk d_M_leap0_41 (ro_0 (by unfold yl0; omega) rfl)
  · skip
    refine lv_lload_n hx hb d_M_leap0_12 rfl (lv_at hl 0 rfl) ?_
    refine ai_ldc2 (x := 100) hx hb hown (hts _ k_931) (by decide +kernel) d_M_leap0_13 ?_
    refine ro_S (rest := []) (ct_M_mod l y 100 (by omega) (by omega)) j_M_mod k_925 hF rfl hl.1 rfl ⟨Nat.le_of_ble_eq_true rfl, Nat.le_of_ble_eq_true rfl⟩ (Nat.le_of_ble_eq_true rfl) d_M_leap0_16 ⟨Nat.zero_le _, Nat.zero_le _⟩ Bm_true (fun _ _ _ => trivial) ?_
    refine ai_lconst (x := 0) hx hb d_M_leap0_19 (by decide +kernel) ?_
    refine ai_lcmp_ne hx hb d_M_leap0_20 d_M_leap0_21 rfl (by omega) (by omega) (fun h20 => ?_) (fun h20 => ?_)
    · skip
      refine ai_iconst hx hb d_M_leap0_36 ?_
      refine lv_goto hx hb d_M_leap0_37 rfl ?_
      exact ro_zret hx hb hr hlk d_M_leap0_41 (ro_1 (by unfold yl0; omega) rfl)
    · skip
      refine lv_lload_n hx hb d_M_leap0_24 rfl (lv_at hl 0 rfl) ?_
      refine ai_ldc2 (x := 400) hx hb hown (hts _ k_932) (by decide +kernel) d_M_leap0_25 ?_
      refine ro_S (rest := []) (ct_M_mod l y 400 (by omega) (by omega)) j_M_mod k_925 hF rfl hl.1 rfl ⟨Nat.le_of_ble_eq_true rfl, Nat.le_of_ble_eq_true rfl⟩ (Nat.le_of_ble_eq_true rfl) d_M_leap0_28 ⟨Nat.zero_le _, Nat.zero_le _⟩ Bm_true (fun _ _ _ => trivial) ?_
      refine ai_lconst (x := 0) hx hb d_M_leap0_31 (by decide +kernel) ?_
      refine ai_lcmp_ne hx hb d_M_leap0_32 d_M_leap0_33 rfl (by omega) (by omega) (fun h32 => ?_) (fun h32 => ?_)
      · skip
        refine ai_iconst hx hb d_M_leap0_40 ?_
        exact ro_zret hx hb hr hlk d_M_leap0_41 (ro_0 (by unfold yl0; omega) rfl)
      · skip
        refine ai_iconst hx hb d_M_leap0_36 ?_
        refine lv_goto hx hb d_M_leap0_37 rfl ?_
        exact ro_zret hx hb hr hlk d_M_leap0_41 (ro_1 (by unfold yl0; omega) rfl)
set_option maxHeartbeats 4000000 in
set_option maxRecDepth 100000 in
theorem ct_M_inRange (l : Launch) (d : Int) (rd : -9223372036854775808 ≤ d ∧ d ≤ 9223372036854775807) : RO l y_M_inRange w_M_inRange 0 0 [.long (iL d)] (fun _ => True) (.int (iI (bI (-40000000 ≤ d ∧ d ≤ 40000000)))) := by
  refine ro_of (by decide +kernel) (Nat.le_of_ble_eq_true rfl) ?_
  intro p e s m below meth c ls hx hb hr hts hown hlk hml hl hN hB
  have hown : s.vm.findClass "DayBookModel" = some m.cls := hown
  have hl : lv_has ls 2 [(0, .long (iL d))] := hl
  have hF : _ ∧ _ ∧ _ ∧ _ ∧ _ ∧ _ := ⟨hx, hb, hml, hown, hts, hN⟩
  refine lv_lload_n hx hb d_M_inRange_0 rfl (lv_at hl 0 rfl) ?_
  refine ai_ldc2 (x := -40000000) hx hb hown (hts _ k_1028) (by decide +kernel) d_M_inRange_1 ?_
  refine ai_lcmp_lt hx hb d_M_inRange_4 d_M_inRange_5 rfl (by omega) (by omega) (fun h4 => ?_) (fun h4 => ?_)
  · skip
    refine ai_iconst hx hb d_M_inRange_20 ?_
    exact ro_zret hx hb hr hlk d_M_inRange_21 (ro_0 (by omega) rfl)
  · skip
    refine lv_lload_n hx hb d_M_inRange_8 rfl (lv_at hl 0 rfl) ?_
    refine ai_ldc2 (x := 40000000) hx hb hown (hts _ k_1029) (by decide +kernel) d_M_inRange_9 ?_
    refine ai_lcmp_gt hx hb d_M_inRange_12 d_M_inRange_13 rfl (by omega) (by omega) (fun h12 => ?_) (fun h12 => ?_)
    · skip
      refine ai_iconst hx hb d_M_inRange_20 ?_
      exact ro_zret hx hb hr hlk d_M_inRange_21 (ro_0 (by omega) rfl)
    · skip
      refine ai_iconst hx hb d_M_inRange_16 ?_
      refine lv_goto hx hb d_M_inRange_17 rfl ?_
      exact ro_zret hx hb hr hlk d_M_inRange_21 (ro_1 (by omega) rfl)
set_option maxHeartbeats 4000000 in
set_option maxRecDepth 100000 in
theorem ct_M_isYear (l : Launch) (y : Int) (ry : -2147483648 ≤ y ∧ y ≤ 2147483647) : RO l y_M_isYear w_M_isYear 0 0 [.int (iI y)] (fun _ => True) (.int (iI (bI (-100000 ≤ y ∧ y ≤ 100000)))) := by
  refine ro_of (by decide +kernel) (Nat.le_of_ble_eq_true rfl) ?_
  intro p e s m below meth c ls hx hb hr hts hown hlk hml hl hN hB
  have hown : s.vm.findClass "DayBookModel" = some m.cls := hown
  have hl : lv_has ls 1 [(0, .int (iI y))] := hl
  have hF : _ ∧ _ ∧ _ ∧ _ ∧ _ ∧ _ := ⟨hx, hb, hml, hown, hts, hN⟩
  refine lv_iload_n hx hb d_M_isYear_0 rfl (lv_at hl 0 rfl) ?_
  refine ai_ldcw (x := -100000) hx hb hown (hts _ k_1128) (by decide +kernel) d_M_isYear_1 ?_
  refine ai_icmp_lt hx hb d_M_isYear_4 rfl (by omega) (by omega) (fun h4 => ?_) (fun h4 => ?_)
  · skip
    refine ai_iconst hx hb d_M_isYear_18 ?_
    exact ro_zret hx hb hr hlk d_M_isYear_19 (ro_0 (by omega) rfl)
  · skip
    refine lv_iload_n hx hb d_M_isYear_7 rfl (lv_at hl 0 rfl) ?_
    refine ai_ldcw (x := 100000) hx hb hown (hts _ k_1129) (by decide +kernel) d_M_isYear_8 ?_
    refine ai_icmp_gt hx hb d_M_isYear_11 rfl (by omega) (by omega) (fun h11 => ?_) (fun h11 => ?_)
    · skip
      refine ai_iconst hx hb d_M_isYear_18 ?_
      exact ro_zret hx hb hr hlk d_M_isYear_19 (ro_0 (by omega) rfl)
    · skip
      refine ai_iconst hx hb d_M_isYear_14 ?_
      refine lv_goto hx hb d_M_isYear_15 rfl ?_
      exact ro_zret hx hb hr hlk d_M_isYear_19 (ro_1 (by omega) rfl)
set_option maxHeartbeats 4000000 in
set_option maxRecDepth 100000 in
theorem ct_M_sundayBehind (l : Launch) (d : Int) (rd : -1000000000000000000 ≤ d ∧ d ≤ 1000000000000000000) : RO l y_M_sundayBehind w_M_sundayBehind 2 48 [.long (iL d)] (fun _ => True) (.long (iL (d + 7 - d % 7))) := by
  refine ro_of (by decide +kernel) (Nat.le_of_ble_eq_true rfl) ?_
  intro p e s m below meth c ls hx hb hr hts hown hlk hml hl hN hB
  have hown : s.vm.findClass "DayBookModel" = some m.cls := hown
  have hl : lv_has ls 2 [(0, .long (iL d))] := hl
  have hF : _ ∧ _ ∧ _ ∧ _ ∧ _ ∧ _ := ⟨hx, hb, hml, hown, hts, hN⟩
  refine lv_lload_n hx hb d_M_sundayBehind_0 rfl (lv_at hl 0 rfl) ?_
  refine ai_ldc2 (x := 7) hx hb hown (hts _ k_944) (by decide +kernel) d_M_sundayBehind_1 ?_
  refine ai_ladd hx hb d_M_sundayBehind_4 ?_
  refine lv_lload_n hx hb d_M_sundayBehind_5 rfl (lv_at hl 0 rfl) ?_
  refine ai_ldc2 (x := 7) hx hb hown (hts _ k_944) (by decide +kernel) d_M_sundayBehind_6 ?_
  refine ro_S (rest := [.long (iL (d + 7))]) (ct_M_mod l d 7 (by omega) (by omega)) j_M_mod k_925 hF rfl hl.1 rfl ⟨Nat.le_of_ble_eq_true rfl, Nat.le_of_ble_eq_true rfl⟩ (Nat.le_of_ble_eq_true rfl) d_M_sundayBehind_9 ⟨Nat.zero_le _, Nat.zero_le _⟩ Bm_true (fun _ _ _ => trivial) ?_
  refine ai_lsub hx hb d_M_sundayBehind_12 ?_
  exact ro_lret hx hb hr hlk d_M_sundayBehind_13 (by omega)
