/-! 55.sb: laid by program (wip/whole) -/
set_option maxHeartbeats 4000000 in
set_option maxRecDepth 100000 in
theorem ct_JM_max (l : Launch) (x : Int) (y : Int) (r : Int) (rx : -2147483648 ≤ x ∧ x ≤ 2147483647) (ry : -2147483648 ≤ y ∧ y ≤ 2147483647) (hm : (x < y ∧ r = y) ∨ (y ≤ x ∧ r = x)) : RO l y_JM_max w_JM_max 0 0 [.int (iI x), .int (iI y)] (fun _ => True) (.int (iI r)) := by
  refine ro_of (by decide +kernel) (Nat.le_of_ble_eq_true rfl) ?_
  intro p e s m below meth c ls hx hb hr hts hown hlk hml hl hN hB
  have hown : s.vm.findClass "java/lang/Math" = some m.cls := hown
  have hl : lv_has ls 2 [(0, .int (iI x)), (1, .int (iI y))] := hl
  have hF : _ ∧ _ ∧ _ ∧ _ ∧ _ ∧ _ := ⟨hx, hb, hml, hown, hts, hN⟩
  refine lv_iload_n hx hb d_JM_max_0 rfl (lv_at hl 0 rfl) ?_
  refine lv_iload_n hx hb d_JM_max_1 rfl (lv_at hl 1 rfl) ?_
  refine ai_icmp_lt hx hb d_JM_max_2 rfl (by omega) (by omega) (fun h2 => ?_) (fun h2 => ?_)
  · skip
    refine lv_iload_n hx hb d_JM_max_9 rfl (lv_at hl 1 rfl) ?_
    exact ro_iret hx hb hr hlk d_JM_max_10 (by omega)
  · skip
    refine lv_iload_n hx hb d_JM_max_5 rfl (lv_at hl 0 rfl) ?_
    refine lv_goto hx hb d_JM_max_6 rfl ?_
    exact ro_iret hx hb hr hlk d_JM_max_10 (by omega)
set_option maxHeartbeats 4000000 in
set_option maxRecDepth 100000 in
theorem ct_JM_min (l : Launch) (x : Int) (y : Int) (r : Int) (rx : -2147483648 ≤ x ∧ x ≤ 2147483647) (ry : -2147483648 ≤ y ∧ y ≤ 2147483647) (hm : (y < x ∧ r = y) ∨ (x ≤ y ∧ r = x)) : RO l y_JM_min w_JM_min 0 0 [.int (iI x), .int (iI y)] (fun _ => True) (.int (iI r)) := by
  refine ro_of (by decide +kernel) (Nat.le_of_ble_eq_true rfl) ?_
  intro p e s m below meth c ls hx hb hr hts hown hlk hml hl hN hB
  have hown : s.vm.findClass "java/lang/Math" = some m.cls := hown
  have hl : lv_has ls 2 [(0, .int (iI x)), (1, .int (iI y))] := hl
  have hF : _ ∧ _ ∧ _ ∧ _ ∧ _ ∧ _ := ⟨hx, hb, hml, hown, hts, hN⟩
  refine lv_iload_n hx hb d_JM_min_0 rfl (lv_at hl 0 rfl) ?_
  refine lv_iload_n hx hb d_JM_min_1 rfl (lv_at hl 1 rfl) ?_
  refine ai_icmp_gt hx hb d_JM_min_2 rfl (by omega) (by omega) (fun h2 => ?_) (fun h2 => ?_)
  · skip
    refine lv_iload_n hx hb d_JM_min_9 rfl (lv_at hl 1 rfl) ?_
    exact ro_iret hx hb hr hlk d_JM_min_10 (by omega)
  · skip
    refine lv_iload_n hx hb d_JM_min_5 rfl (lv_at hl 0 rfl) ?_
    refine lv_goto hx hb d_JM_min_6 rfl ?_
    exact ro_iret hx hb hr hlk d_JM_min_10 (by omega)
set_option maxHeartbeats 4000000 in
set_option maxRecDepth 100000 in
theorem ct_JA_length (l : Launch) (D : va_G) (sb : Nat) (vb : Nat) (cB : ClassId) (cp : Nat) (ml : Int) (z : Int) (tx : Nat → Int)  : RO l y_JA_length w_JA_length 0 0 [.ref sb] (fun U => RB D [(cB, .byte)] [(sb, .inr (0, [.ref vb, .int (iI 0), .int (iI ml), .int (iI z)])), (vb, .inl (cB, cp, .inl (fun j => iI (tx j))))] U) (.int (iI z)) := by
  refine ro_of (by decide +kernel) (Nat.le_of_ble_eq_true rfl) ?_
  intro p e s m below meth c ls hx hb hr hts hown hlk hml hl hN hX
  have hown : s.vm.findClass "java/lang/AbstractStringBuilder" = some m.cls := hown
  have hl : lv_has ls 1 [(0, .ref sb)] := hl
  have hF : _ ∧ _ ∧ _ ∧ _ ∧ _ ∧ _ := ⟨hx, hb, hml, hown, hts, hN⟩
  have hW := hX
  have hK := hW.1
  have hP : va_P D CL [(sb, .inr (0, [.ref vb, .int (iI 0), .int (iI ml), .int (iI z)])), (vb, .inl (cB, cp, .inl (fun j => iI (tx j))))] s.heap := hW.2
  have hS : va_S (fun _ => False) s.heap s.heap [] := va_S.rf
  refine lv_aload_n hx hb d_JA_length_0 rfl (lv_at hl 0 rfl) ?_
  refine va_get (D := D) (cl := CL) (ci := 0) (v := .int (iI z)) (C := "java/lang/StringBuilder") (T := T_JB) (N := 4) hx hb hts in_JB hown hK hP 0 rfl rfl 3 (by decide) (hts _ k_193) (fun _ h9 => h9) rfl d_JA_length_1 ?_
  exact ro_iret hx hb hr hlk d_JA_length_4 rfl
set_option maxHeartbeats 4000000 in
set_option maxRecDepth 100000 in
theorem ct_JB_length (l : Launch) (D : va_G) (sb : Nat) (vb : Nat) (cB : ClassId) (cp : Nat) (ml : Int) (z : Int) (tx : Nat → Int)  : RO l y_JB_length w_JB_length 1 20 [.ref sb] (fun U => RB D [(cB, .byte)] [(sb, .inr (0, [.ref vb, .int (iI 0), .int (iI ml), .int (iI z)])), (vb, .inl (cB, cp, .inl (fun j => iI (tx j))))] U) (.int (iI z)) := by
  refine ro_of (by decide +kernel) (Nat.le_of_ble_eq_true rfl) ?_
  intro p e s m below meth c ls hx hb hr hts hown hlk hml hl hN hX
  have hown : s.vm.findClass "java/lang/StringBuilder" = some m.cls := hown
  have hl : lv_has ls 1 [(0, .ref sb)] := hl
  have hF : _ ∧ _ ∧ _ ∧ _ ∧ _ ∧ _ := ⟨hx, hb, hml, hown, hts, hN⟩
  have hW := hX
  have hK := hW.1
  have hP : va_P D CL [(sb, .inr (0, [.ref vb, .int (iI 0), .int (iI ml), .int (iI z)])), (vb, .inl (cB, cp, .inl (fun j => iI (tx j))))] s.heap := hW.2
  have hS : va_S (fun _ => False) s.heap s.heap [] := va_S.rf
  refine lv_aload_n hx hb d_JB_length_0 rfl (lv_at hl 0 rfl) ?_
  refine ro_SU (C := "java/lang/StringBuilder") (rest := []) (hK.1 0 _ rfl).2 (ct_JA_length l D sb vb cB cp ml z tx) j_JA_length k_256 k_1222 (gw_t 202 (by decide +kernel) (by decide +kernel)) (by decide) hF (va_recv (q0 := 0) (ci := 0) hK hP rfl rfl) rfl hl.1 rfl ⟨Nat.le_of_ble_eq_true rfl, Nat.le_of_ble_eq_true rfl⟩ (Nat.le_of_ble_eq_true rfl) d_JB_length_1 ⟨(Nat.le_of_ble_eq_true rfl), (Nat.le_of_ble_eq_true rfl)⟩ RB.m (fun U h1 h2 => ⟨va_K.moved h2.alike hK, by rw [h1]; exact va_P.sub hP [0, 1] rfl⟩) ?_
  exact ro_iret hx hb hr hlk d_JB_length_4 rfl
set_option maxHeartbeats 4000000 in
set_option maxRecDepth 100000 in
theorem ct_JC_checkIndex_n (l : Launch) (i : Int) (k : Int) (hi : 0 ≤ i ∧ i < k ∧ k ≤ 2147483647) : RO l y_JC_checkIndex w_JC_checkIndex 0 0 [.int (iI i), .int (iI k), .null] (fun _ => True) (.int (iI i)) := by
  refine ro_of (by decide +kernel) (Nat.le_of_ble_eq_true rfl) ?_
  intro p e s m below meth c ls hx hb hr hts hown hlk hml hl hN hB
  have hown : s.vm.findClass "jdk/internal/util/Preconditions" = some m.cls := hown
  have hl : lv_has ls 3 [(0, .int (iI i)), (1, .int (iI k)), (2, .null)] := hl
  have hF : _ ∧ _ ∧ _ ∧ _ ∧ _ ∧ _ := ⟨hx, hb, hml, hown, hts, hN⟩
  refine lv_iload_n hx hb d_JC_checkIndex_0 rfl (lv_at hl 0 rfl) ?_
  refine ai_if_lt hx hb d_JC_checkIndex_1 rfl (by omega) (fun h1 => by exfalso; omega) (fun h1 => ?_)
  refine lv_iload_n hx hb d_JC_checkIndex_4 rfl (lv_at hl 0 rfl) ?_
  refine lv_iload_n hx hb d_JC_checkIndex_5 rfl (lv_at hl 1 rfl) ?_
  refine ai_icmp_lt hx hb d_JC_checkIndex_6 rfl (by omega) (by omega) (fun h6 => ?_) (fun h6 => by exfalso; omega)
  refine lv_iload_n hx hb d_JC_checkIndex_16 rfl (lv_at hl 0 rfl) ?_
  exact ro_iret hx hb hr hlk d_JC_checkIndex_17 rfl
set_option maxHeartbeats 4000000 in
set_option maxRecDepth 100000 in
theorem ct_JC_checkIndex_r (l : Launch) (i : Int) (k : Int) (t : Nat) (hi : 0 ≤ i ∧ i < k ∧ k ≤ 2147483647) : RO l y_JC_checkIndex w_JC_checkIndex 0 0 [.int (iI i), .int (iI k), .ref t] (fun _ => True) (.int (iI i)) := by
  refine ro_of (by decide +kernel) (Nat.le_of_ble_eq_true rfl) ?_
  intro p e s m below meth c ls hx hb hr hts hown hlk hml hl hN hB
  have hown : s.vm.findClass "jdk/internal/util/Preconditions" = some m.cls := hown
  have hl : lv_has ls 3 [(0, .int (iI i)), (1, .int (iI k)), (2, .ref t)] := hl
  have hF : _ ∧ _ ∧ _ ∧ _ ∧ _ ∧ _ := ⟨hx, hb, hml, hown, hts, hN⟩
  refine lv_iload_n hx hb d_JC_checkIndex_0 rfl (lv_at hl 0 rfl) ?_
  refine ai_if_lt hx hb d_JC_checkIndex_1 rfl (by omega) (fun h1 => by exfalso; omega) (fun h1 => ?_)
  refine lv_iload_n hx hb d_JC_checkIndex_4 rfl (lv_at hl 0 rfl) ?_
  refine lv_iload_n hx hb d_JC_checkIndex_5 rfl (lv_at hl 1 rfl) ?_
  refine ai_icmp_lt hx hb d_JC_checkIndex_6 rfl (by omega) (by omega) (fun h6 => ?_) (fun h6 => by exfalso; omega)
  refine lv_iload_n hx hb d_JC_checkIndex_16 rfl (lv_at hl 0 rfl) ?_
  exact ro_iret hx hb hr hlk d_JC_checkIndex_17 rfl
set_option maxHeartbeats 4000000 in
set_option maxRecDepth 100000 in
theorem ct_JS_checkIndex (l : Launch) (D : va_G) (i : Int) (k : Int) (hi : 0 ≤ i ∧ i < k ∧ k ≤ 2147483647) : ROv l y_JS_checkIndex w_JS_checkIndex 1 22 [.int (iI i), .int (iI k)] (fun U => SA (fun _ => False) U) := by
  refine rov_of (by decide +kernel) (Nat.le_of_ble_eq_true rfl) ?_
  intro p e s m below meth c ls hx hb hr hts hown hlk hml hl hN hX
  have hown : s.vm.findClass "java/lang/String" = some m.cls := hown
  have hl : lv_has ls 2 [(0, .int (iI i)), (1, .int (iI k))] := hl
  have hF : _ ∧ _ ∧ _ ∧ _ ∧ _ ∧ _ := ⟨hx, hb, hml, hown, hts, hN⟩
  have hT := hX
  have hS : va_S (fun _ => False) s.heap s.heap [] := va_S.rf
  refine lv_iload_n hx hb d_JS_checkIndex_0 rfl (lv_at hl 0 rfl) ?_
  refine lv_iload_n hx hb d_JS_checkIndex_1 rfl (lv_at hl 1 rfl) ?_
  rcases hT.2.1 with hZ | ⟨t9, hZ⟩
  · skip
    refine va_gets hx hb hZ hS hown (hts _ k_328) (fun _ h9 => h9) d_JS_checkIndex_2 ?_
    refine ro_S (rest := []) (ct_JC_checkIndex_n l i k (by omega)) j_JC_checkIndex k_351 hF rfl hl.1 rfl ⟨Nat.le_of_ble_eq_true rfl, Nat.le_of_ble_eq_true rfl⟩ (Nat.le_of_ble_eq_true rfl) d_JS_checkIndex_5 ⟨(Nat.le_of_ble_eq_true rfl), (Nat.le_of_ble_eq_true rfl)⟩ Bm_true (fun _ _ _ => trivial) ?_
    refine lv_pop hx hb d_JS_checkIndex_8 rfl ?_
    exact rov_ret hx hb hr hlk d_JS_checkIndex_9
  · skip
    refine va_gets hx hb hZ hS hown (hts _ k_328) (fun _ h9 => h9) d_JS_checkIndex_2 ?_
    refine ro_S (rest := []) (ct_JC_checkIndex_r l i k t9 (by omega)) j_JC_checkIndex k_351 hF rfl hl.1 rfl ⟨Nat.le_of_ble_eq_true rfl, Nat.le_of_ble_eq_true rfl⟩ (Nat.le_of_ble_eq_true rfl) d_JS_checkIndex_5 ⟨(Nat.le_of_ble_eq_true rfl), (Nat.le_of_ble_eq_true rfl)⟩ Bm_true (fun _ _ _ => trivial) ?_
    refine lv_pop hx hb d_JS_checkIndex_8 rfl ?_
    exact rov_ret hx hb hr hlk d_JS_checkIndex_9
set_option maxHeartbeats 4000000 in
set_option maxRecDepth 100000 in
theorem ct_JA_charAt (l : Launch) (D : va_G) (sb : Nat) (vb : Nat) (cB : ClassId) (cp : Nat) (ml : Int) (z : Int) (tx : Nat → Int) (i : Int) (hi : 0 ≤ i ∧ i < z ∧ z ≤ cp ∧ cp ≤ 1000) (htx : 0 ≤ tx (Int.toNat i) ∧ tx (Int.toNat i) ≤ 127) : RO l y_JA_charAt w_JA_charAt 2 43 [.ref sb, .int (iI i)] (fun U => RB D [(cB, .byte)] [(sb, .inr (0, [.ref vb, .int (iI 0), .int (iI ml), .int (iI z)])), (vb, .inl (cB, cp, .inl (fun j => iI (tx j))))] U ∧ SA (fun _ => False) U) (.int (iI (tx (Int.toNat i)))) := by
  refine ro_of (by decide +kernel) (Nat.le_of_ble_eq_true rfl) ?_
  intro p e s m below meth c ls hx hb hr hts hown hlk hml hl hN hX
  have hown : s.vm.findClass "java/lang/AbstractStringBuilder" = some m.cls := hown
  have hl : lv_has ls 5 [(0, .ref sb), (1, .int (iI i))] := hl
  have hF : _ ∧ _ ∧ _ ∧ _ ∧ _ ∧ _ := ⟨hx, hb, hml, hown, hts, hN⟩
  obtain ⟨hW, hT⟩ := hX
  have hK := hW.1
  have hP : va_P D CL [(sb, .inr (0, [.ref vb, .int (iI 0), .int (iI ml), .int (iI z)])), (vb, .inl (cB, cp, .inl (fun j => iI (tx j))))] s.heap := hW.2
  have hS : va_S (fun _ => False) s.heap s.heap [] := va_S.rf
  refine lv_aload_n hx hb d_JA_charAt_0 rfl (lv_at hl 0 rfl) ?_
  refine va_get (D := D) (cl := CL) (ci := 0) (v := .int (iI 0)) (C := "java/lang/StringBuilder") (T := T_JB) (N := 4) hx hb hts in_JB hown hK hP 0 rfl rfl 1 (by decide) (hts _ k_191) (fun _ h9 => h9) rfl d_JA_charAt_1 ?_
  refine lv_istore_n (lv' := [(2, .int (iI 0)), (0, .ref sb), (1, .int (iI i))]) hx hb d_JA_charAt_4 rfl hl (by decide) rfl (fun ls hl => ?_)
  refine lv_aload_n hx hb d_JA_charAt_5 rfl (lv_at hl 1 rfl) ?_
  refine va_get (D := D) (cl := CL) (ci := 0) (v := .ref vb) (C := "java/lang/StringBuilder") (T := T_JB) (N := 4) hx hb hts in_JB hown hK hP 0 rfl rfl 0 (by decide) (hts _ k_190) (fun _ h9 => h9) rfl d_JA_charAt_6 ?_
  refine lv_astore_n (lv' := [(3, .ref vb), (2, .int (iI 0)), (0, .ref sb), (1, .int (iI i))]) hx hb d_JA_charAt_9 rfl hl (by decide) rfl (fun ls hl => ?_)
  refine lv_aload_n hx hb d_JA_charAt_10 rfl (lv_at hl 2 rfl) ?_
  refine va_get (D := D) (cl := CL) (ci := 0) (v := .int (iI z)) (C := "java/lang/StringBuilder") (T := T_JB) (N := 4) hx hb hts in_JB hown hK hP 0 rfl rfl 3 (by decide) (hts _ k_193) (fun _ h9 => h9) rfl d_JA_charAt_11 ?_
  refine lv_aload_n hx hb d_JA_charAt_14 rfl (lv_at hl 0 rfl) ?_
  refine ma_len hx hb hK hP 1 0 rfl rfl d_JA_charAt_15 ?_
  refine lv_iload_n hx hb d_JA_charAt_16 rfl (lv_at hl 1 rfl) ?_
  refine ai_ish0 hx hb d_JA_charAt_17 ?_
  refine ro_S (rest := []) (ct_JM_min l z ((cp : Nat) : Int) z (by omega) (by omega) (by omega)) j_JM_min k_389 hF rfl hl.1 rfl ⟨Nat.le_of_ble_eq_true rfl, Nat.le_of_ble_eq_true rfl⟩ (Nat.le_of_ble_eq_true rfl) d_JA_charAt_18 ⟨(Nat.le_of_ble_eq_true rfl), (Nat.le_of_ble_eq_true rfl)⟩ Bm_true (fun _ _ _ => trivial) ?_
  refine lv_istore (lv' := [(4, .int (iI z)), (3, .ref vb), (2, .int (iI 0)), (0, .ref sb), (1, .int (iI i))]) hx hb d_JA_charAt_21 hl (by decide) rfl (fun ls hl => ?_)
  refine lv_iload_n hx hb d_JA_charAt_23 rfl (lv_at hl 4 rfl) ?_
  refine lv_iload hx hb d_JA_charAt_24 (lv_at hl 0 rfl) ?_
  refine rov_S (rest := []) (ct_JS_checkIndex l D i z (by omega)) j_JS_checkIndex k_390 hF rfl hl.1 rfl ⟨Nat.le_of_ble_eq_true rfl, Nat.le_of_ble_eq_true rfl⟩ (Nat.le_of_ble_eq_true rfl) d_JA_charAt_26 ⟨(Nat.le_of_ble_eq_true rfl), (Nat.le_of_ble_eq_true rfl)⟩ SA.m (fun U h1 h2 => SA.at hT hS (fun _ h9 => h9.elim) U h1 h2) ?_
  refine lv_iload_n hx hb d_JA_charAt_29 rfl (lv_at hl 2 rfl) ?_
  refine ai_if_ne hx hb d_JA_charAt_30 rfl (by omega) (fun h30 => by exfalso; omega) (fun h30 => ?_)
  refine lv_aload_n hx hb d_JA_charAt_33 rfl (lv_at hl 1 rfl) ?_
  refine lv_iload_n hx hb d_JA_charAt_34 rfl (lv_at hl 4 rfl) ?_
  refine ma_bld hx hb hK hP 1 0 rfl rfl (h := tx) (by omega) (by omega) d_JA_charAt_35 ?_
  refine ai_sipush (x := 255) hx hb d_JA_charAt_36 (by decide +kernel) ?_
  refine ai_iand (n := 256) hx hb 8 (by decide +kernel) (by decide) rfl d_JA_charAt_39 ?_
  refine ai_i2c hx hb d_JA_charAt_40 ?_
  exact ro_cret hx hb hr hlk d_JA_charAt_41 (by omega) (by omega)
set_option maxHeartbeats 4000000 in
set_option maxRecDepth 100000 in
theorem ct_JB_charAt (l : Launch) (D : va_G) (sb : Nat) (vb : Nat) (cB : ClassId) (cp : Nat) (ml : Int) (z : Int) (tx : Nat → Int) (i : Int) (hi : 0 ≤ i ∧ i < z ∧ z ≤ cp ∧ cp ≤ 1000) (htx : 0 ≤ tx (Int.toNat i) ∧ tx (Int.toNat i) ≤ 127) : RO l y_JB_charAt w_JB_charAt 3 67 [.ref sb, .int (iI i)] (fun U => RB D [(cB, .byte)] [(sb, .inr (0, [.ref vb, .int (iI 0), .int (iI ml), .int (iI z)])), (vb, .inl (cB, cp, .inl (fun j => iI (tx j))))] U ∧ SA (fun _ => False) U) (.int (iI (tx (Int.toNat i)))) := by
  refine ro_of (by decide +kernel) (Nat.le_of_ble_eq_true rfl) ?_
  intro p e s m below meth c ls hx hb hr hts hown hlk hml hl hN hX
  have hown : s.vm.findClass "java/lang/StringBuilder" = some m.cls := hown
  have hl : lv_has ls 2 [(0, .ref sb), (1, .int (iI i))] := hl
  have hF : _ ∧ _ ∧ _ ∧ _ ∧ _ ∧ _ := ⟨hx, hb, hml, hown, hts, hN⟩
  obtain ⟨hW, hT⟩ := hX
  have hK := hW.1
  have hP : va_P D CL [(sb, .inr (0, [.ref vb, .int (iI 0), .int (iI ml), .int (iI z)])), (vb, .inl (cB, cp, .inl (fun j => iI (tx j))))] s.heap := hW.2
  have hS : va_S (fun _ => False) s.heap s.heap [] := va_S.rf
  refine lv_aload_n hx hb d_JB_charAt_0 rfl (lv_at hl 0 rfl) ?_
  refine lv_iload_n hx hb d_JB_charAt_1 rfl (lv_at hl 1 rfl) ?_
  refine ro_SU (C := "java/lang/StringBuilder") (rest := []) (hK.1 0 _ rfl).2 (ct_JA_charAt l D sb vb cB cp ml z tx i (by omega) (by omega)) j_JA_charAt k_386 k_1228 (gw_t 202 (by decide +kernel) (by decide +kernel)) (by decide) hF (va_recv (q0 := 0) (ci := 0) hK hP rfl rfl) rfl hl.1 rfl ⟨Nat.le_of_ble_eq_true rfl, Nat.le_of_ble_eq_true rfl⟩ (Nat.le_of_ble_eq_true rfl) d_JB_charAt_2 ⟨(Nat.le_of_ble_eq_true rfl), (Nat.le_of_ble_eq_true rfl)⟩ (Bm.and RB.m SA.m) (fun U h1 h2 => ⟨⟨va_K.moved h2.alike hK, by rw [h1]; exact va_P.sub hP [0, 1] rfl⟩, SA.at hT hS (fun _ h9 => h9.elim) U h1 h2⟩) ?_
  exact ro_cret hx hb hr hlk d_JB_charAt_5 (by omega) rfl
set_option maxHeartbeats 4000000 in
set_option maxRecDepth 100000 in
theorem ct_JA_isLatin1 (l : Launch) (D : va_G) (sb : Nat) (vb : Nat) (cB : ClassId) (cp : Nat) (ml : Int) (z : Int) (tx : Nat → Int)  : RO l y_JA_isLatin1 w_JA_isLatin1 0 0 [.ref sb] (fun U => RB D [(cB, .byte)] [(sb, .inr (0, [.ref vb, .int (iI 0), .int (iI ml), .int (iI z)])), (vb, .inl (cB, cp, .inl (fun j => iI (tx j))))] U ∧ SA (fun _ => False) U) (.int (iI (bI True))) := by
  refine ro_of (by decide +kernel) (Nat.le_of_ble_eq_true rfl) ?_
  intro p e s m below meth c ls hx hb hr hts hown hlk hml hl hN hX
  have hown : s.vm.findClass "java/lang/AbstractStringBuilder" = some m.cls := hown
  have hl : lv_has ls 1 [(0, .ref sb)] := hl
  have hF : _ ∧ _ ∧ _ ∧ _ ∧ _ ∧ _ := ⟨hx, hb, hml, hown, hts, hN⟩
  obtain ⟨hW, hT⟩ := hX
  have hK := hW.1
  have hP : va_P D CL [(sb, .inr (0, [.ref vb, .int (iI 0), .int (iI ml), .int (iI z)])), (vb, .inl (cB, cp, .inl (fun j => iI (tx j))))] s.heap := hW.2
  have hS : va_S (fun _ => False) s.heap s.heap [] := va_S.rf
  refine va_gets hx hb hT.1 hS hown (hts _ k_181) (fun _ h9 => h9) d_JA_isLatin1_0 ?_
  refine ai_if_eq hx hb d_JA_isLatin1_3 rfl (by omega) (fun h3 => by exfalso; omega) (fun h3 => ?_)
  refine lv_aload_n hx hb d_JA_isLatin1_6 rfl (lv_at hl 0 rfl) ?_
  refine va_get (D := D) (cl := CL) (ci := 0) (v := .int (iI 0)) (C := "java/lang/StringBuilder") (T := T_JB) (N := 4) hx hb hts in_JB hown hK hP 0 rfl rfl 1 (by decide) (hts _ k_191) (fun _ h9 => h9) rfl d_JA_isLatin1_7 ?_
  refine ai_if_ne hx hb d_JA_isLatin1_10 rfl (by omega) (fun h10 => by exfalso; omega) (fun h10 => ?_)
  refine ai_iconst hx hb d_JA_isLatin1_13 ?_
  refine lv_goto hx hb d_JA_isLatin1_14 rfl ?_
  exact ro_zret hx hb hr hlk d_JA_isLatin1_18 (ro_1 trivial rfl)
set_option maxHeartbeats 4000000 in
set_option maxRecDepth 100000 in
theorem ct_JL_canEncode (l : Launch) (v : Int) (rv : 0 ≤ v ∧ v ≤ 65535) : RO l y_JL_canEncode w_JL_canEncode 0 0 [.int (iI v)] (fun _ => True) (.int (iI (bI (v ≤ 255)))) := by
  refine ro_of (by decide +kernel) (Nat.le_of_ble_eq_true rfl) ?_
  intro p e s m below meth c ls hx hb hr hts hown hlk hml hl hN hB
  have hown : s.vm.findClass "java/lang/StringLatin1" = some m.cls := hown
  have hl : lv_has ls 1 [(0, .int (iI v))] := hl
  have hF : _ ∧ _ ∧ _ ∧ _ ∧ _ ∧ _ := ⟨hx, hb, hml, hown, hts, hN⟩
  refine lv_iload_n hx hb d_JL_canEncode_0 rfl (lv_at hl 0 rfl) ?_
  refine ai_sipush (x := 255) hx hb d_JL_canEncode_1 (by decide +kernel) ?_
  refine ai_icmp_gt hx hb d_JL_canEncode_4 rfl (by omega) (by omega) (fun h4 => ?_) (fun h4 => ?_)
  · skip
    refine ai_iconst hx hb d_JL_canEncode_11 ?_
    exact ro_zret hx hb hr hlk d_JL_canEncode_12 (ro_0 (by omega) rfl)
  · skip
    refine ai_iconst hx hb d_JL_canEncode_7 ?_
    refine lv_goto hx hb d_JL_canEncode_8 rfl ?_
    exact ro_zret hx hb hr hlk d_JL_canEncode_12 (ro_1 (by omega) rfl)
set_option maxHeartbeats 4000000 in
set_option maxRecDepth 100000 in
theorem ct_JP_newLength (l : Launch) (o : Int) (mg : Int) (pf : Int) (r0 : Int) (ro : 0 ≤ o ∧ o ≤ 5000) (rg : 1 ≤ mg ∧ mg ≤ 5000) (rp : 0 ≤ pf ∧ pf ≤ 5000) (hm : (mg < pf ∧ r0 = pf) ∨ (pf ≤ mg ∧ r0 = mg)) : RO l y_JP_newLength w_JP_newLength 1 21 [.int (iI o), .int (iI mg), .int (iI pf)] (fun _ => True) (.int (iI (o + r0))) := by
  refine ro_of (by decide +kernel) (Nat.le_of_ble_eq_true rfl) ?_
  intro p e s m below meth c ls hx hb hr hts hown hlk hml hl hN hB
  have hown : s.vm.findClass "jdk/internal/util/ArraysSupport" = some m.cls := hown
  have hl : lv_has ls 4 [(0, .int (iI o)), (1, .int (iI mg)), (2, .int (iI pf))] := hl
  have hF : _ ∧ _ ∧ _ ∧ _ ∧ _ ∧ _ := ⟨hx, hb, hml, hown, hts, hN⟩
  refine lv_iload_n hx hb d_JP_newLength_0 rfl (lv_at hl 0 rfl) ?_
  refine lv_iload_n hx hb d_JP_newLength_1 rfl (lv_at hl 1 rfl) ?_
  refine lv_iload_n hx hb d_JP_newLength_2 rfl (lv_at hl 2 rfl) ?_
  refine ro_S (rest := [.int (iI o)]) (ct_JM_max l mg pf r0 (by omega) (by omega) (by omega)) j_JM_max k_277 hF rfl hl.1 rfl ⟨Nat.le_of_ble_eq_true rfl, Nat.le_of_ble_eq_true rfl⟩ (Nat.le_of_ble_eq_true rfl) d_JP_newLength_3 ⟨Nat.zero_le _, Nat.zero_le _⟩ Bm_true (fun _ _ _ => trivial) ?_
  refine ai_iadd hx hb d_JP_newLength_6 ?_
  refine ai_nmI hx hb (fun v7 e7 => ?_)
  refine lv_istore_n (lv' := [(3, .int (iI v7)), (0, .int (iI o)), (1, .int (iI mg)), (2, .int (iI pf))]) hx hb d_JP_newLength_7 rfl hl (by decide) rfl (fun ls hl => ?_)
  refine ai_iconst hx hb d_JP_newLength_8 ?_
  refine lv_iload_n hx hb d_JP_newLength_9 rfl (lv_at hl 0 rfl) ?_
  refine ai_icmp_ge hx hb d_JP_newLength_10 rfl (by omega) (by omega) (fun h10 => by exfalso; omega) (fun h10 => ?_)
  refine lv_iload_n hx hb d_JP_newLength_13 rfl (lv_at hl 0 rfl) ?_
  refine ai_ldc (x := 2147483639) hx hb hown (hts _ k_280) (by decide +kernel) d_JP_newLength_14 ?_
  refine ai_icmp_gt hx hb d_JP_newLength_16 rfl (by omega) (by omega) (fun h16 => by exfalso; omega) (fun h16 => ?_)
  refine lv_iload_n hx hb d_JP_newLength_19 rfl (lv_at hl 0 rfl) ?_
  exact ro_iret hx hb hr hlk d_JP_newLength_20 (by omega)
set_option maxHeartbeats 4000000 in
set_option maxRecDepth 100000 in
theorem ct_JA_newCapacity (l : Launch) (D : va_G) (sb : Nat) (vb : Nat) (cB : ClassId) (cp : Nat) (ml : Int) (z : Int) (tx : Nat → Int) (q : Int) (nc : Int) (rq : cp < q ∧ q ≤ 1000) (hnc : (q - cp < cp + 2 ∧ nc = cp + (cp + 2)) ∨ (cp + 2 ≤ q - cp ∧ nc = cp + (q - cp))) : RO l y_JA_newCapacity w_JA_newCapacity 2 44 [.ref sb, .int (iI q)] (fun U => RB D [(cB, .byte)] [(sb, .inr (0, [.ref vb, .int (iI 0), .int (iI ml), .int (iI z)])), (vb, .inl (cB, cp, .inl (fun j => iI (tx j))))] U) (.int (iI nc)) := by
  refine ro_of (by decide +kernel) (Nat.le_of_ble_eq_true rfl) ?_
  intro p e s m below meth c ls hx hb hr hts hown hlk hml hl hN hX
  have hown : s.vm.findClass "java/lang/AbstractStringBuilder" = some m.cls := hown
  have hl : lv_has ls 6 [(0, .ref sb), (1, .int (iI q))] := hl
  have hF : _ ∧ _ ∧ _ ∧ _ ∧ _ ∧ _ := ⟨hx, hb, hml, hown, hts, hN⟩
  have hW := hX
  have hK := hW.1
  have hP : va_P D CL [(sb, .inr (0, [.ref vb, .int (iI 0), .int (iI ml), .int (iI z)])), (vb, .inl (cB, cp, .inl (fun j => iI (tx j))))] s.heap := hW.2
  have hS : va_S (fun _ => False) s.heap s.heap [] := va_S.rf
  refine lv_aload_n hx hb d_JA_newCapacity_0 rfl (lv_at hl 0 rfl) ?_
  refine va_get (D := D) (cl := CL) (ci := 0) (v := .ref vb) (C := "java/lang/StringBuilder") (T := T_JB) (N := 4) hx hb hts in_JB hown hK hP 0 rfl rfl 0 (by decide) (hts _ k_190) (fun _ h9 => h9) rfl d_JA_newCapacity_1 ?_
  refine ma_len hx hb hK hP 1 0 rfl rfl d_JA_newCapacity_4 ?_
  refine ai_nmI hx hb (fun v5 e5 => ?_)
  refine lv_istore_n (lv' := [(2, .int (iI v5)), (0, .ref sb), (1, .int (iI q))]) hx hb d_JA_newCapacity_5 rfl hl (by decide) rfl (fun ls hl => ?_)
  refine lv_iload_n hx hb d_JA_newCapacity_6 rfl (lv_at hl 2 rfl) ?_
  refine lv_aload_n hx hb d_JA_newCapacity_7 rfl (lv_at hl 1 rfl) ?_
  refine va_get (D := D) (cl := CL) (ci := 0) (v := .int (iI 0)) (C := "java/lang/StringBuilder") (T := T_JB) (N := 4) hx hb hts in_JB hown hK hP 0 rfl rfl 1 (by decide) (hts _ k_191) (fun _ h9 => h9) rfl d_JA_newCapacity_8 ?_
  refine ai_isl0 hx hb d_JA_newCapacity_11 ?_
  refine lv_istore_n (lv' := [(3, .int (iI q)), (2, .int (iI v5)), (0, .ref sb), (1, .int (iI q))]) hx hb d_JA_newCapacity_12 rfl hl (by decide) rfl (fun ls hl => ?_)
  refine lv_iload_n hx hb d_JA_newCapacity_13 rfl (lv_at hl 0 rfl) ?_
  refine lv_iload_n hx hb d_JA_newCapacity_14 rfl (lv_at hl 1 rfl) ?_
  refine ai_isub hx hb d_JA_newCapacity_15 ?_
  refine ai_nmI hx hb (fun v16 e16 => ?_)
  refine lv_istore (lv' := [(4, .int (iI v16)), (3, .int (iI q)), (2, .int (iI v5)), (0, .ref sb), (1, .int (iI q))]) hx hb d_JA_newCapacity_16 hl (by decide) rfl (fun ls hl => ?_)
  refine lv_iload_n hx hb d_JA_newCapacity_18 rfl (lv_at hl 2 rfl) ?_
  refine lv_iload hx hb d_JA_newCapacity_19 (lv_at hl 0 rfl) ?_
  refine lv_iload_n hx hb d_JA_newCapacity_21 rfl (lv_at hl 2 rfl) ?_
  refine ai_iconst hx hb d_JA_newCapacity_22 ?_
  refine lv_aload_n hx hb d_JA_newCapacity_23 rfl (lv_at hl 3 rfl) ?_
  refine va_get (D := D) (cl := CL) (ci := 0) (v := .int (iI 0)) (C := "java/lang/StringBuilder") (T := T_JB) (N := 4) hx hb hts in_JB hown hK hP 0 rfl rfl 1 (by decide) (hts _ k_191) (fun _ h9 => h9) rfl d_JA_newCapacity_24 ?_
  refine ai_isl0 hx hb d_JA_newCapacity_27 ?_
  refine ai_iadd hx hb d_JA_newCapacity_28 ?_
  refine ro_S (rest := []) (ct_JP_newLength l v5 v16 (v5 + 2) (nc - v5) (by omega) (by omega) (by omega) (by omega)) j_JP_newLength k_274 hF rfl hl.1 rfl ⟨Nat.le_of_ble_eq_true rfl, Nat.le_of_ble_eq_true rfl⟩ (Nat.le_of_ble_eq_true rfl) d_JA_newCapacity_29 ⟨(Nat.le_of_ble_eq_true rfl), (Nat.le_of_ble_eq_true rfl)⟩ Bm_true (fun _ _ _ => trivial) ?_
  refine ai_nmI hx hb (fun v32 e32 => ?_)
  refine lv_istore (lv' := [(5, .int (iI v32)), (4, .int (iI v16)), (3, .int (iI q)), (2, .int (iI v5)), (0, .ref sb), (1, .int (iI q))]) hx hb d_JA_newCapacity_32 hl (by decide) rfl (fun ls hl => ?_)
  refine lv_iload hx hb d_JA_newCapacity_34 (lv_at hl 0 rfl) ?_
  refine ai_ldc (x := 2147483647) hx hb hown (hts _ k_284) (by decide +kernel) d_JA_newCapacity_36 ?_
  refine ai_icmp_ne hx hb d_JA_newCapacity_38 rfl (by omega) (by omega) (fun h38 => ?_) (fun h38 => by exfalso; omega)
  refine lv_iload hx hb d_JA_newCapacity_51 (lv_at hl 0 rfl) ?_
  refine lv_aload_n hx hb d_JA_newCapacity_53 rfl (lv_at hl 4 rfl) ?_
  refine va_get (D := D) (cl := CL) (ci := 0) (v := .int (iI 0)) (C := "java/lang/StringBuilder") (T := T_JB) (N := 4) hx hb hts in_JB hown hK hP 0 rfl rfl 1 (by decide) (hts _ k_191) (fun _ h9 => h9) rfl d_JA_newCapacity_54 ?_
  refine ai_ish0 hx hb d_JA_newCapacity_57 ?_
  exact ro_iret hx hb hr hlk d_JA_newCapacity_58 (by omega)
set_option maxHeartbeats 4000000 in
set_option maxRecDepth 100000 in
theorem ct_JY_copyOf (l : Launch) (D : va_G) (vb : Nat) (cB : ClassId) (cp : Nat) (tx : Nat → Int) (q : Int) (sz : Nat) (rq : cp < q ∧ q ≤ 34) (htr : ∀ j : Nat, 0 ≤ tx j ∧ tx j ≤ 127) : GMet l y_JY_copyOf w_JY_copyOf 1 60 1 34 [.ref vb, .int (iI q)] D [(cB, .byte)] [(vb, .inl (cB, cp, .inl (fun j => iI (tx j))))] sz (fun _ => True) (GQr D (fun (u : Nat) => u) (fun (u : Nat) => True) (fun (u : Nat) => ([(vb, .inl (cB, cp, .inl (fun j => iI (tx j)))), (u, .inl (cB, (Int.toNat q), .inl (fun j => iI ((cpB tx (fun _ => (0 : Int)) cp) j))))] : va_W))) := by
  refine gm_of (by decide +kernel) (Nat.le_of_ble_eq_true rfl) ?_
  intro p e s m below meth c ls A hx hb hr hts hown hlk hml hl hN hK hP hD hS hA hAi hnm hsz hX
  subst hsz
  have hown : s.vm.findClass "java/util/Arrays" = some m.cls := hown
  have hl : lv_has ls 3 [(0, .ref vb), (1, .int (iI q))] := hl
  have hF : _ ∧ _ ∧ _ ∧ _ ∧ _ ∧ _ := ⟨hx, hb, hml, hown, hts, hN⟩
  refine lv_iload_n hx hb d_JY_copyOf_0 rfl (lv_at hl 1 rfl) ?_
  refine lv_aload_n hx hb d_JY_copyOf_1 rfl (lv_at hl 0 rfl) ?_
  refine ma_len hx hb hK hP 0 0 rfl rfl d_JY_copyOf_2 ?_
  refine ai_icmp_ne hx hb d_JY_copyOf_3 rfl (by omega) (by omega) (fun h3 => ?_) (fun h3 => by exfalso; omega)
  refine lv_iload_n hx hb d_JY_copyOf_14 rfl (lv_at hl 1 rfl) ?_
  refine gm_nw hx hb hts (ty := .byte) rfl k_203 (by decide +kernel) (by decide) (fun _ h9 => va_nm_byte h9) hK hP hD hS hA 0 rfl (Int.toNat q) (by omega) (by omega) (Nat.le_of_ble_eq_true rfl) (by show 0 + (Int.toNat q) ≤ 34; omega) d_JY_copyOf_15 (fun q15 H hP hD hS => ?_)
  have hP : va_P D CL [(vb, .inl (cB, cp, .inl (fun j => iI (tx j)))), (q15, .inl (cB, (Int.toNat q), .inl (fun j => iI ((fun _ => (0 : Int)) j))))] H := hP
  have hD : va_D A [(vb, .inl (cB, cp, .inl (fun j => iI (tx j)))), (q15, .inl (cB, (Int.toNat q), .inl (fun j => iI ((fun _ => (0 : Int)) j))))] := hD
  refine lv_astore_n (lv' := [(2, .ref q15), (0, .ref vb), (1, .int (iI q))]) hx hb d_JY_copyOf_17 rfl hl (by decide) rfl (fun ls hl => ?_)
  refine lv_aload_n hx hb d_JY_copyOf_18 rfl (lv_at hl 1 rfl) ?_
  refine ai_iconst hx hb d_JY_copyOf_19 ?_
  refine lv_aload_n hx hb d_JY_copyOf_20 rfl (lv_at hl 0 rfl) ?_
  refine ai_iconst hx hb d_JY_copyOf_21 ?_
  refine lv_aload_n hx hb d_JY_copyOf_22 rfl (lv_at hl 1 rfl) ?_
  refine ma_len hx hb hK hP 0 0 rfl rfl d_JY_copyOf_23 ?_
  refine lv_iload_n hx hb d_JY_copyOf_24 rfl (lv_at hl 2 rfl) ?_
  refine ro_S (rest := [.int (iI 0), .ref q15, .int (iI 0), .ref vb]) (ct_JM_min l ((cp : Nat) : Int) q ((cp : Nat) : Int) (by omega) (by omega) (by omega)) j_JM_min k_295 hF rfl hl.1 rfl ⟨Nat.le_of_ble_eq_true rfl, Nat.le_of_ble_eq_true rfl⟩ (Nat.le_of_ble_eq_true rfl) d_JY_copyOf_25 ⟨(Nat.le_of_ble_eq_true rfl), (by show 0 + (Int.toNat q) ≤ 34; omega)⟩ Bm_true (fun _ _ _ => trivial) ?_
  refine ma_bcp hx hb (hml.trans hl.1.symm) hown (hts _ k_298) hts hN hK hP hD hS 0 1 0 0 (f := tx) (g := (fun _ => (0 : Int))) rfl rfl rfl rfl htr (by omega) (Nat.le_of_ble_eq_true rfl) (Nat.le_of_ble_eq_true rfl) d_JY_copyOf_28 (fun H locs hP hD hS => ?_)
  have hP : va_P D CL [(vb, .inl (cB, cp, .inl (fun j => iI (tx j)))), (q15, .inl (cB, (Int.toNat q), .inl (fun j => iI ((cpB tx (fun _ => (0 : Int)) cp) j))))] H := hP
  have hD : va_D A [(vb, .inl (cB, cp, .inl (fun j => iI (tx j)))), (q15, .inl (cB, (Int.toNat q), .inl (fun j => iI ((cpB tx (fun _ => (0 : Int)) cp) j))))] := hD
  refine lv_aload_n hx hb d_JY_copyOf_31 rfl (lv_at hl 0 rfl) ?_
  exact gm_aret (q15) hx hb hr (Or.inr ⟨_, rfl⟩) hlk d_JY_copyOf_32 hP hD hS (Nat.le_of_ble_eq_true rfl) (by show 0 + (Int.toNat q) ≤ 34; omega) rfl trivial
set_option maxHeartbeats 4000000 in
set_option maxRecDepth 100000 in
theorem ct_JA_ensureCapacityInternal_0 (l : Launch) (D : va_G) (sb : Nat) (vb : Nat) (cB : ClassId) (cp : Nat) (ml : Int) (z : Int) (tx : Nat → Int) (q : Int) (rq : 0 ≤ q ∧ q ≤ cp ∧ cp ≤ 1000) : ROv l y_JA_ensureCapacityInternal w_JA_ensureCapacityInternal 0 0 [.ref sb, .int (iI q)] (fun U => RB D [(cB, .byte)] [(sb, .inr (0, [.ref vb, .int (iI 0), .int (iI ml), .int (iI z)])), (vb, .inl (cB, cp, .inl (fun j => iI (tx j))))] U) := by
  refine rov_of (by decide +kernel) (Nat.le_of_ble_eq_true rfl) ?_
  intro p e s m below meth c ls hx hb hr hts hown hlk hml hl hN hX
  have hown : s.vm.findClass "java/lang/AbstractStringBuilder" = some m.cls := hown
  have hl : lv_has ls 3 [(0, .ref sb), (1, .int (iI q))] := hl
  have hF : _ ∧ _ ∧ _ ∧ _ ∧ _ ∧ _ := ⟨hx, hb, hml, hown, hts, hN⟩
  have hW := hX
  have hK := hW.1
  have hP : va_P D CL [(sb, .inr (0, [.ref vb, .int (iI 0), .int (iI ml), .int (iI z)])), (vb, .inl (cB, cp, .inl (fun j => iI (tx j))))] s.heap := hW.2
  have hS : va_S (fun _ => False) s.heap s.heap [] := va_S.rf
  refine lv_aload_n hx hb d_JA_ensureCapacityInternal_0 rfl (lv_at hl 0 rfl) ?_
  refine va_get (D := D) (cl := CL) (ci := 0) (v := .ref vb) (C := "java/lang/StringBuilder") (T := T_JB) (N := 4) hx hb hts in_JB hown hK hP 0 rfl rfl 0 (by decide) (hts _ k_190) (fun _ h9 => h9) rfl d_JA_ensureCapacityInternal_1 ?_
  refine ma_len hx hb hK hP 1 0 rfl rfl d_JA_ensureCapacityInternal_4 ?_
  refine lv_aload_n hx hb d_JA_ensureCapacityInternal_5 rfl (lv_at hl 0 rfl) ?_
  refine va_get (D := D) (cl := CL) (ci := 0) (v := .int (iI 0)) (C := "java/lang/StringBuilder") (T := T_JB) (N := 4) hx hb hts in_JB hown hK hP 0 rfl rfl 1 (by decide) (hts _ k_191) (fun _ h9 => h9) rfl d_JA_ensureCapacityInternal_6 ?_
  refine ai_ish0 hx hb d_JA_ensureCapacityInternal_9 ?_
  refine ai_nmI hx hb (fun v10 e10 => ?_)
  refine lv_istore_n (lv' := [(2, .int (iI v10)), (0, .ref sb), (1, .int (iI q))]) hx hb d_JA_ensureCapacityInternal_10 rfl hl (by decide) rfl (fun ls hl => ?_)
  refine lv_iload_n hx hb d_JA_ensureCapacityInternal_11 rfl (lv_at hl 2 rfl) ?_
  refine lv_iload_n hx hb d_JA_ensureCapacityInternal_12 rfl (lv_at hl 0 rfl) ?_
  refine ai_isub hx hb d_JA_ensureCapacityInternal_13 ?_
  refine ai_if_le hx hb d_JA_ensureCapacityInternal_14 rfl (by omega) (fun h14 => ?_) (fun h14 => by exfalso; omega)
  exact rov_ret hx hb hr hlk d_JA_ensureCapacityInternal_38
set_option maxHeartbeats 4000000 in
set_option maxRecDepth 100000 in
theorem ct_JA_ensureCapacityInternal_1 (l : Launch) (D : va_G) (sb : Nat) (vb : Nat) (cB : ClassId) (cp : Nat) (ml : Int) (z : Int) (tx : Nat → Int) (q : Int) (sz : Nat) (rq : cp = 16 ∧ 16 < q ∧ q ≤ 34) (htr : ∀ j : Nat, 0 ≤ tx j ∧ tx j ≤ 127) : GMet l y_JA_ensureCapacityInternal w_JA_ensureCapacityInternal 3 82 1 34 [.ref sb, .int (iI q)] D [(cB, .byte)] [(sb, .inr (0, [.ref vb, .int (iI 0), .int (iI ml), .int (iI z)])), (vb, .inl (cB, cp, .inl (fun j => iI (tx j))))] sz (fun _ => True) (GQv D (fun (u : Nat) => True) (fun (u : Nat) => ([(sb, .inr (0, [.ref u, .int (iI 0), .int (iI ml), .int (iI z)])), (u, .inl (cB, 34, .inl (fun j => iI ((cpB tx (fun _ => (0 : Int)) cp) j))))] : va_W))) := by
  refine gm_of (by decide +kernel) (Nat.le_of_ble_eq_true rfl) ?_
  intro p e s m below meth c ls A hx hb hr hts hown hlk hml hl hN hK hP hD hS hA hAi hnm hsz hX
  subst hsz
  have hown : s.vm.findClass "java/lang/AbstractStringBuilder" = some m.cls := hown
  have hl : lv_has ls 3 [(0, .ref sb), (1, .int (iI q))] := hl
  have hF : _ ∧ _ ∧ _ ∧ _ ∧ _ ∧ _ := ⟨hx, hb, hml, hown, hts, hN⟩
  refine lv_aload_n hx hb d_JA_ensureCapacityInternal_0 rfl (lv_at hl 0 rfl) ?_
  refine va_get (D := D) (cl := CL) (ci := 0) (v := .ref vb) (C := "java/lang/StringBuilder") (T := T_JB) (N := 4) hx hb hts in_JB hown hK hP 0 rfl rfl 0 (by decide) (hts _ k_190) (fun _ h9 => h9) rfl d_JA_ensureCapacityInternal_1 ?_
  refine ma_len hx hb hK hP 1 0 rfl rfl d_JA_ensureCapacityInternal_4 ?_
  refine lv_aload_n hx hb d_JA_ensureCapacityInternal_5 rfl (lv_at hl 0 rfl) ?_
  refine va_get (D := D) (cl := CL) (ci := 0) (v := .int (iI 0)) (C := "java/lang/StringBuilder") (T := T_JB) (N := 4) hx hb hts in_JB hown hK hP 0 rfl rfl 1 (by decide) (hts _ k_191) (fun _ h9 => h9) rfl d_JA_ensureCapacityInternal_6 ?_
  refine ai_ish0 hx hb d_JA_ensureCapacityInternal_9 ?_
  refine ai_nmI hx hb (fun v10 e10 => ?_)
  refine lv_istore_n (lv' := [(2, .int (iI v10)), (0, .ref sb), (1, .int (iI q))]) hx hb d_JA_ensureCapacityInternal_10 rfl hl (by decide) rfl (fun ls hl => ?_)
  refine lv_iload_n hx hb d_JA_ensureCapacityInternal_11 rfl (lv_at hl 2 rfl) ?_
  refine lv_iload_n hx hb d_JA_ensureCapacityInternal_12 rfl (lv_at hl 0 rfl) ?_
  refine ai_isub hx hb d_JA_ensureCapacityInternal_13 ?_
  refine ai_if_le hx hb d_JA_ensureCapacityInternal_14 rfl (by omega) (fun h14 => by exfalso; omega) (fun h14 => ?_)
  refine lv_aload_n hx hb d_JA_ensureCapacityInternal_17 rfl (lv_at hl 1 rfl) ?_
  refine lv_aload_n hx hb d_JA_ensureCapacityInternal_18 rfl (lv_at hl 1 rfl) ?_
  refine va_get (D := D) (cl := CL) (ci := 0) (v := .ref vb) (C := "java/lang/StringBuilder") (T := T_JB) (N := 4) hx hb hts in_JB hown hK hP 0 rfl rfl 0 (by decide) (hts _ k_190) (fun _ h9 => h9) rfl d_JA_ensureCapacityInternal_19 ?_
  refine lv_aload_n hx hb d_JA_ensureCapacityInternal_22 rfl (lv_at hl 1 rfl) ?_
  refine lv_iload_n hx hb d_JA_ensureCapacityInternal_23 rfl (lv_at hl 2 rfl) ?_
  refine ro_V (C := "java/lang/StringBuilder") (rest := [.ref vb, .ref sb]) (ct_JA_newCapacity l D sb vb cB cp ml z tx q 34 (by omega) (by omega)) j_JA_newCapacity k_270 (sel_priv ⟨by decide +kernel, by decide +kernel⟩ (hts _ k_173) (va_Nw.use rfl (hN.pv 271 (by decide +kernel) (by decide +kernel))) (hts _ j_JA_newCapacity.2.2.1) (hts _ k_304) rfl) hF (va_recv (q0 := 0) (ci := 0) hK hP rfl rfl) rfl hl.1 rfl ⟨Nat.le_of_ble_eq_true rfl, Nat.le_of_ble_eq_true rfl⟩ (Nat.le_of_ble_eq_true rfl) d_JA_ensureCapacityInternal_24 ⟨(Nat.le_of_ble_eq_true rfl), (Nat.le_of_ble_eq_true rfl)⟩ RB.m (fun U h1 h2 => ⟨va_K.moved h2.alike hK, by rw [h1]; exact va_P.sub hP [0, 1] rfl⟩) ?_
  refine lv_aload_n hx hb d_JA_ensureCapacityInternal_27 rfl (lv_at hl 1 rfl) ?_
  refine va_get (D := D) (cl := CL) (ci := 0) (v := .int (iI 0)) (C := "java/lang/StringBuilder") (T := T_JB) (N := 4) hx hb hts in_JB hown hK hP 0 rfl rfl 1 (by decide) (hts _ k_191) (fun _ h9 => h9) rfl d_JA_ensureCapacityInternal_28 ?_
  refine ai_isl0 hx hb d_JA_ensureCapacityInternal_31 ?_
  refine gm_cr (wr := [(sb, .inr (0, [.ref vb, .int (iI 0), .int (iI ml), .int (iI z)]))]) (gr_S (rest := [.ref sb]) (ct_JY_copyOf l D vb cB cp tx 34 s.heap.size (by omega) htr) j_JY_copyOf k_285 hF (gm_pS hN hK (va_P.sub hP [1] rfl) (va_D.sub hD [1] rfl rfl) Bm_true (fun _ _ _ => trivial)) rfl rfl rfl hl.1 rfl ⟨Nat.le_of_ble_eq_true rfl, Nat.le_of_ble_eq_true rfl⟩ (Nat.le_of_ble_eq_true rfl) d_JA_ensureCapacityInternal_32 ⟨(Nat.le_of_ble_eq_true rfl), (Nat.le_of_ble_eq_true rfl)⟩) hP hD hS hA [1] [0] rfl rfl rfl (by decide) (fun u32 H locs hΦ32 hz32 hP hD hS => ?_)
  have hΦ32 : True := hΦ32
  have hP : va_P D CL [(sb, .inr (0, [.ref vb, .int (iI 0), .int (iI ml), .int (iI z)])), (vb, .inl (cB, cp, .inl (fun j => iI (tx j)))), (u32, .inl (cB, (Int.toNat 34), .inl (fun j => iI ((cpB tx (fun _ => (0 : Int)) cp) j))))] H := hP
  have hD : va_D A [(sb, .inr (0, [.ref vb, .int (iI 0), .int (iI ml), .int (iI z)])), (vb, .inl (cB, cp, .inl (fun j => iI (tx j)))), (u32, .inl (cB, (Int.toNat 34), .inl (fun j => iI ((cpB tx (fun _ => (0 : Int)) cp) j))))] := hD
  refine va_put (D := D) (cl := CL) (ci := 0) (v := .ref u32) (ty := .array .byte) (C := "java/lang/StringBuilder") (T := T_JB) (N := 4) hx hb hts in_JB ty_JB ty_JB_ok nm_JB hown hK hP hD hS 0 rfl rfl 0 (by decide) (hts _ k_190) (fun _ h9 => h9) rfl (by decide +kernel) rfl rfl (Nat.le_of_ble_eq_true rfl) d_JA_ensureCapacityInternal_35 (fun H locs hP hD hS => ?_)
  have hP : va_P D CL [(sb, .inr (0, [.ref u32, .int (iI 0), .int (iI ml), .int (iI z)])), (vb, .inl (cB, cp, .inl (fun j => iI (tx j)))), (u32, .inl (cB, (Int.toNat 34), .inl (fun j => iI ((cpB tx (fun _ => (0 : Int)) cp) j))))] H := hP
  have hD : va_D A [(sb, .inr (0, [.ref u32, .int (iI 0), .int (iI ml), .int (iI z)])), (vb, .inl (cB, cp, .inl (fun j => iI (tx j)))), (u32, .inl (cB, (Int.toNat 34), .inl (fun j => iI ((cpB tx (fun _ => (0 : Int)) cp) j))))] := hD
  have hP := va_P.sub hP [0, 2] (ws' := [(sb, .inr (0, [.ref u32, .int (iI 0), .int (iI ml), .int (iI z)])), (u32, .inl (cB, 34, .inl (fun j => iI ((cpB tx (fun _ => (0 : Int)) cp) j))))]) rfl
  have hD := va_D.sub hD [0, 2] (ws' := [(sb, .inr (0, [.ref u32, .int (iI 0), .int (iI ml), .int (iI z)])), (u32, .inl (cB, 34, .inl (fun j => iI ((cpB tx (fun _ => (0 : Int)) cp) j))))]) rfl rfl
  exact gm_vret (u32) hx hb hr hlk d_JA_ensureCapacityInternal_38 hP hD hS (Nat.le_of_ble_eq_true rfl) (Nat.le_of_ble_eq_true rfl) trivial
