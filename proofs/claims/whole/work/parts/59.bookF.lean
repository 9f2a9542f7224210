/-! 59.bookF: laid by program (wip/whole) -/
set_option maxHeartbeats 4000000 in
set_option maxRecDepth 100000 in
theorem ct_B_type_1 (l : Launch) (D : va_G) (b : Nat) (cvA : Nat) (jlA : Nat) (hbA : Nat) (csA : Nat) (sbA : Nat) (vbA : Nat) (cA : ClassId) (cB : ClassId) (ca : Nat → Option Nat) (cp : Nat) (z : Int) (ml : Int) (tx : Nat → Int) (L : List Int) (v : Int) (sz : Nat) (hR9 : RWO cp z tx L) (rv : 0 ≤ v ∧ v ≤ 65535) (hva : ((48 ≤ v ∧ v ≤ 57) ∨ v = 45 ∨ v = 47)) (hz24 : z < 24) : GMet l y_B_type w_B_type 6 146 1 34 [.ref b, .int (iI v)] D [(cA, .object "DayBook$Calendar"), (cB, .byte)] [(b, .inr (9, [.ref cvA, .ref jlA, .ref hbA, .ref csA, .ref sbA])), (csA, .inl (cA, 14, .inr (.inr (.inr (.inr ca))))), (sbA, .inr (0, [.ref vbA, .int (iI 0), .int (iI ml), .int (iI z)])), (vbA, .inl (cB, cp, .inl (fun j => iI (tx j))))] sz (fun U => SA (va_A [(b, .inr (9, [.ref cvA, .ref jlA, .ref hbA, .ref csA, .ref sbA])), (csA, .inl (cA, 14, .inr (.inr (.inr (.inr ca))))), (sbA, .inr (0, [.ref vbA, .int (iI 0), .int (iI ml), .int (iI z)])), (vbA, .inl (cB, cp, .inl (fun j => iI (tx j))))] sz) U) (GQi D (fun (u : Nat × Nat × (Nat → Int)) => 1) (fun (u : Nat × Nat × (Nat → Int)) => RWO u.2.1 (z + 1) u.2.2 (L ++ [v])) (fun (u : Nat × Nat × (Nat → Int)) => ([(b, .inr (9, [.ref cvA, .ref jlA, .ref hbA, .ref csA, .ref sbA])), (csA, .inl (cA, 14, .inr (.inr (.inr (.inr ca))))), (sbA, .inr (0, [.ref u.1, .int (iI 0), .int (iI ml), .int (iI (z + 1))])), (u.1, .inl (cB, u.2.1, .inl (fun j => iI (u.2.2 j))))] : va_W))) := by
  refine gm_of (by decide +kernel) (Nat.le_of_ble_eq_true rfl) ?_
  intro p e s m below meth c ls A hx hb hr hts hown hlk hml hl hN hK hP hD hS hA hAi hnm hsz hX
  subst hsz
  have hown : s.vm.findClass "DayBook" = some m.cls := hown
  have hl : lv_has ls 3 [(0, .ref b), (1, .int (iI v))] := hl
  have hF : _ ∧ _ ∧ _ ∧ _ ∧ _ ∧ _ := ⟨hx, hb, hml, hown, hts, hN⟩
  have hT := hX
  have hT : SA A s := ST.narrow hT hAi
  obtain ⟨hcp, hzc, hL⟩ := hR9
  have hz1 := hL.1
  refine lv_iload_n hx hb d_B_type_0 rfl (lv_at hl 1 rfl) ?_
  refine ro_S (rest := []) (ct_B_isDecimal l v (by omega)) j_B_isDecimal k_249 hF rfl hl.1 rfl ⟨Nat.le_of_ble_eq_true rfl, Nat.le_of_ble_eq_true rfl⟩ (Nat.le_of_ble_eq_true rfl) d_B_type_1 ⟨(Nat.le_of_ble_eq_true rfl), (Nat.le_of_ble_eq_true rfl)⟩ Bm_true (fun _ _ _ => trivial) ?_
  refine ai_ifneB hx hb d_B_type_4 rfl (fun h4 => ?_) (fun h4 => ?_)
  · skip
    refine ai_iconst hx hb d_B_type_19 ?_
    refine lv_goto hx hb d_B_type_20 rfl ?_
    refine lv_istore_n (lv' := [(2, .int (iI 1)), (0, .ref b), (1, .int (iI v))]) hx hb d_B_type_24 rfl hl (by decide) rfl (fun ls hl => ?_)
    refine lv_iload_n hx hb d_B_type_25 rfl (lv_at hl 0 rfl) ?_
    refine ai_if_eq hx hb d_B_type_26 rfl (by omega) (fun h26 => by exfalso; omega) (fun h26 => ?_)
    refine lv_aload_n hx hb d_B_type_29 rfl (lv_at hl 1 rfl) ?_
    refine va_get (D := D) (cl := CL) (ci := 9) (v := .ref sbA) (C := "DayBook") (T := T_B) (N := 5) hx hb hts in_B hown hK hP 0 rfl rfl 4 (by decide) (hts _ k_208) (fun _ h9 => h9) rfl d_B_type_30 ?_
    refine ro_V (C := "java/lang/StringBuilder") (rest := []) (ct_JB_length l D sbA vbA cB cp ml z tx) j_JB_length k_252 (hts _ k_254) hF (va_recv (q0 := 2) (ci := 0) hK hP rfl rfl) rfl hl.1 rfl ⟨Nat.le_of_ble_eq_true rfl, Nat.le_of_ble_eq_true rfl⟩ (Nat.le_of_ble_eq_true rfl) d_B_type_33 ⟨(Nat.le_of_ble_eq_true rfl), (Nat.le_of_ble_eq_true rfl)⟩ RB.m (fun U h1 h2 => ⟨va_K.moved h2.alike (va_K.sub hK [1] rfl), by rw [h1]; exact va_P.sub hP [2, 3] rfl⟩) ?_
    refine ai_bipush (x := 24) hx hb d_B_type_36 (by decide +kernel) ?_
    refine ai_icmp_lt hx hb d_B_type_38 rfl (by omega) (by omega) (fun h38 => ?_) (fun h38 => ?_)
    · skip
      refine lv_aload_n hx hb d_B_type_43 rfl (lv_at hl 1 rfl) ?_
      refine va_get (D := D) (cl := CL) (ci := 9) (v := .ref sbA) (C := "DayBook") (T := T_B) (N := 5) hx hb hts in_B hown hK hP 0 rfl rfl 4 (by decide) (hts _ k_208) (fun _ h9 => h9) rfl d_B_type_44 ?_
      refine lv_iload_n hx hb d_B_type_47 rfl (lv_at hl 2 rfl) ?_
      refine gm_cr (wr := [(b, .inr (9, [.ref cvA, .ref jlA, .ref hbA, .ref csA, .ref sbA])), (csA, .inl (cA, 14, .inr (.inr (.inr (.inr ca)))))]) (gr_V (C := "java/lang/StringBuilder") (rest := []) (ct_JB_append_CStringBuilder l D sbA vbA cB cp ml z tx L v s.heap.size ⟨hcp, hzc, hL⟩ (by omega) (by omega)) j_JB_append_CStringBuilder k_259 (hts _ k_261) hF (gm_pV (va_recv (q0 := 2) (ci := 0) hK hP rfl rfl) hN (va_K.sub hK [1] rfl) (va_P.sub hP [2, 3] rfl) (va_D.sub hD [2, 3] rfl rfl) SA.m (fun U h1 h2 => SA.at hT hS (va_free hD hS hA [2, 3] rfl) U h1 h2)) rfl rfl rfl hl.1 rfl ⟨Nat.le_of_ble_eq_true rfl, Nat.le_of_ble_eq_true rfl⟩ (Nat.le_of_ble_eq_true rfl) d_B_type_48 ⟨(Nat.le_of_ble_eq_true rfl), (Nat.le_of_ble_eq_true rfl)⟩) hP hD hS hA [2, 3] [0, 1] rfl rfl rfl (by decide) (fun u48 H locs hΦ48 hz48 hP hD hS => ?_)
      obtain ⟨vo48, co48, fo48⟩ := u48
      have hΦ48 : RWO co48 (z + 1) fo48 (L ++ [v]) := hΦ48
      have hP : va_P D CL [(b, .inr (9, [.ref cvA, .ref jlA, .ref hbA, .ref csA, .ref sbA])), (csA, .inl (cA, 14, .inr (.inr (.inr (.inr ca))))), (sbA, .inr (0, [.ref vo48, .int (iI 0), .int (iI ml), .int (iI (z + 1))])), (vo48, .inl (cB, co48, .inl (fun j => iI (fo48 j))))] H := hP
      have hD : va_D A [(b, .inr (9, [.ref cvA, .ref jlA, .ref hbA, .ref csA, .ref sbA])), (csA, .inl (cA, 14, .inr (.inr (.inr (.inr ca))))), (sbA, .inr (0, [.ref vo48, .int (iI 0), .int (iI ml), .int (iI (z + 1))])), (vo48, .inl (cB, co48, .inl (fun j => iI (fo48 j))))] := hD
      refine lv_pop hx hb d_B_type_51 rfl ?_
      refine ai_iconst hx hb d_B_type_52 ?_
      exact gm_zret (vo48, co48, fo48) hx hb hr hlk d_B_type_53 hP hD hS (Nat.le_of_ble_eq_true rfl) (Nat.le_of_ble_eq_true rfl) (by decide) rfl (show RWO co48 (z + 1) fo48 (L ++ [v]) from hΦ48)
    · skip
      exfalso; omega
  · skip
    refine lv_iload_n hx hb d_B_type_7 rfl (lv_at hl 1 rfl) ?_
    refine ai_bipush (x := 45) hx hb d_B_type_8 (by decide +kernel) ?_
    refine ai_icmp_eq hx hb d_B_type_10 rfl (by omega) (by omega) (fun h10 => ?_) (fun h10 => ?_)
    · skip
      refine ai_iconst hx hb d_B_type_19 ?_
      refine lv_goto hx hb d_B_type_20 rfl ?_
      refine lv_istore_n (lv' := [(2, .int (iI 1)), (0, .ref b), (1, .int (iI v))]) hx hb d_B_type_24 rfl hl (by decide) rfl (fun ls hl => ?_)
      refine lv_iload_n hx hb d_B_type_25 rfl (lv_at hl 0 rfl) ?_
      refine ai_if_eq hx hb d_B_type_26 rfl (by omega) (fun h26 => by exfalso; omega) (fun h26 => ?_)
      refine lv_aload_n hx hb d_B_type_29 rfl (lv_at hl 1 rfl) ?_
      refine va_get (D := D) (cl := CL) (ci := 9) (v := .ref sbA) (C := "DayBook") (T := T_B) (N := 5) hx hb hts in_B hown hK hP 0 rfl rfl 4 (by decide) (hts _ k_208) (fun _ h9 => h9) rfl d_B_type_30 ?_
      refine ro_V (C := "java/lang/StringBuilder") (rest := []) (ct_JB_length l D sbA vbA cB cp ml z tx) j_JB_length k_252 (hts _ k_254) hF (va_recv (q0 := 2) (ci := 0) hK hP rfl rfl) rfl hl.1 rfl ⟨Nat.le_of_ble_eq_true rfl, Nat.le_of_ble_eq_true rfl⟩ (Nat.le_of_ble_eq_true rfl) d_B_type_33 ⟨(Nat.le_of_ble_eq_true rfl), (Nat.le_of_ble_eq_true rfl)⟩ RB.m (fun U h1 h2 => ⟨va_K.moved h2.alike (va_K.sub hK [1] rfl), by rw [h1]; exact va_P.sub hP [2, 3] rfl⟩) ?_
      refine ai_bipush (x := 24) hx hb d_B_type_36 (by decide +kernel) ?_
      refine ai_icmp_lt hx hb d_B_type_38 rfl (by omega) (by omega) (fun h38 => ?_) (fun h38 => ?_)
      · skip
        refine lv_aload_n hx hb d_B_type_43 rfl (lv_at hl 1 rfl) ?_
        refine va_get (D := D) (cl := CL) (ci := 9) (v := .ref sbA) (C := "DayBook") (T := T_B) (N := 5) hx hb hts in_B hown hK hP 0 rfl rfl 4 (by decide) (hts _ k_208) (fun _ h9 => h9) rfl d_B_type_44 ?_
        refine lv_iload_n hx hb d_B_type_47 rfl (lv_at hl 2 rfl) ?_
        refine gm_cr (wr := [(b, .inr (9, [.ref cvA, .ref jlA, .ref hbA, .ref csA, .ref sbA])), (csA, .inl (cA, 14, .inr (.inr (.inr (.inr ca)))))]) (gr_V (C := "java/lang/StringBuilder") (rest := []) (ct_JB_append_CStringBuilder l D sbA vbA cB cp ml z tx L v s.heap.size ⟨hcp, hzc, hL⟩ (by omega) (by omega)) j_JB_append_CStringBuilder k_259 (hts _ k_261) hF (gm_pV (va_recv (q0 := 2) (ci := 0) hK hP rfl rfl) hN (va_K.sub hK [1] rfl) (va_P.sub hP [2, 3] rfl) (va_D.sub hD [2, 3] rfl rfl) SA.m (fun U h1 h2 => SA.at hT hS (va_free hD hS hA [2, 3] rfl) U h1 h2)) rfl rfl rfl hl.1 rfl ⟨Nat.le_of_ble_eq_true rfl, Nat.le_of_ble_eq_true rfl⟩ (Nat.le_of_ble_eq_true rfl) d_B_type_48 ⟨(Nat.le_of_ble_eq_true rfl), (Nat.le_of_ble_eq_true rfl)⟩) hP hD hS hA [2, 3] [0, 1] rfl rfl rfl (by decide) (fun u48 H locs hΦ48 hz48 hP hD hS => ?_)
        obtain ⟨vo48, co48, fo48⟩ := u48
        have hΦ48 : RWO co48 (z + 1) fo48 (L ++ [v]) := hΦ48
        have hP : va_P D CL [(b, .inr (9, [.ref cvA, .ref jlA, .ref hbA, .ref csA, .ref sbA])), (csA, .inl (cA, 14, .inr (.inr (.inr (.inr ca))))), (sbA, .inr (0, [.ref vo48, .int (iI 0), .int (iI ml), .int (iI (z + 1))])), (vo48, .inl (cB, co48, .inl (fun j => iI (fo48 j))))] H := hP
        have hD : va_D A [(b, .inr (9, [.ref cvA, .ref jlA, .ref hbA, .ref csA, .ref sbA])), (csA, .inl (cA, 14, .inr (.inr (.inr (.inr ca))))), (sbA, .inr (0, [.ref vo48, .int (iI 0), .int (iI ml), .int (iI (z + 1))])), (vo48, .inl (cB, co48, .inl (fun j => iI (fo48 j))))] := hD
        refine lv_pop hx hb d_B_type_51 rfl ?_
        refine ai_iconst hx hb d_B_type_52 ?_
        exact gm_zret (vo48, co48, fo48) hx hb hr hlk d_B_type_53 hP hD hS (Nat.le_of_ble_eq_true rfl) (Nat.le_of_ble_eq_true rfl) (by decide) rfl (show RWO co48 (z + 1) fo48 (L ++ [v]) from hΦ48)
      · skip
        exfalso; omega
    · skip
      refine lv_iload_n hx hb d_B_type_13 rfl (lv_at hl 1 rfl) ?_
      refine ai_bipush (x := 47) hx hb d_B_type_14 (by decide +kernel) ?_
      refine ai_icmp_ne hx hb d_B_type_16 rfl (by omega) (by omega) (fun h16 => ?_) (fun h16 => ?_)
      · skip
        refine ai_iconst hx hb d_B_type_23 ?_
        refine lv_istore_n (lv' := [(2, .int (iI 0)), (0, .ref b), (1, .int (iI v))]) hx hb d_B_type_24 rfl hl (by decide) rfl (fun ls hl => ?_)
        refine lv_iload_n hx hb d_B_type_25 rfl (lv_at hl 0 rfl) ?_
        refine ai_if_eq hx hb d_B_type_26 rfl (by omega) (fun h26 => ?_) (fun h26 => by exfalso; omega)
        exfalso; omega
      · skip
        refine ai_iconst hx hb d_B_type_19 ?_
        refine lv_goto hx hb d_B_type_20 rfl ?_
        refine lv_istore_n (lv' := [(2, .int (iI 1)), (0, .ref b), (1, .int (iI v))]) hx hb d_B_type_24 rfl hl (by decide) rfl (fun ls hl => ?_)
        refine lv_iload_n hx hb d_B_type_25 rfl (lv_at hl 0 rfl) ?_
        refine ai_if_eq hx hb d_B_type_26 rfl (by omega) (fun h26 => by exfalso; omega) (fun h26 => ?_)
        refine lv_aload_n hx hb d_B_type_29 rfl (lv_at hl 1 rfl) ?_
        refine va_get (D := D) (cl := CL) (ci := 9) (v := .ref sbA) (C := "DayBook") (T := T_B) (N := 5) hx hb hts in_B hown hK hP 0 rfl rfl 4 (by decide) (hts _ k_208) (fun _ h9 => h9) rfl d_B_type_30 ?_
        refine ro_V (C := "java/lang/StringBuilder") (rest := []) (ct_JB_length l D sbA vbA cB cp ml z tx) j_JB_length k_252 (hts _ k_254) hF (va_recv (q0 := 2) (ci := 0) hK hP rfl rfl) rfl hl.1 rfl ⟨Nat.le_of_ble_eq_true rfl, Nat.le_of_ble_eq_true rfl⟩ (Nat.le_of_ble_eq_true rfl) d_B_type_33 ⟨(Nat.le_of_ble_eq_true rfl), (Nat.le_of_ble_eq_true rfl)⟩ RB.m (fun U h1 h2 => ⟨va_K.moved h2.alike (va_K.sub hK [1] rfl), by rw [h1]; exact va_P.sub hP [2, 3] rfl⟩) ?_
        refine ai_bipush (x := 24) hx hb d_B_type_36 (by decide +kernel) ?_
        refine ai_icmp_lt hx hb d_B_type_38 rfl (by omega) (by omega) (fun h38 => ?_) (fun h38 => ?_)
        · skip
          refine lv_aload_n hx hb d_B_type_43 rfl (lv_at hl 1 rfl) ?_
          refine va_get (D := D) (cl := CL) (ci := 9) (v := .ref sbA) (C := "DayBook") (T := T_B) (N := 5) hx hb hts in_B hown hK hP 0 rfl rfl 4 (by decide) (hts _ k_208) (fun _ h9 => h9) rfl d_B_type_44 ?_
          refine lv_iload_n hx hb d_B_type_47 rfl (lv_at hl 2 rfl) ?_
          refine gm_cr (wr := [(b, .inr (9, [.ref cvA, .ref jlA, .ref hbA, .ref csA, .ref sbA])), (csA, .inl (cA, 14, .inr (.inr (.inr (.inr ca)))))]) (gr_V (C := "java/lang/StringBuilder") (rest := []) (ct_JB_append_CStringBuilder l D sbA vbA cB cp ml z tx L v s.heap.size ⟨hcp, hzc, hL⟩ (by omega) (by omega)) j_JB_append_CStringBuilder k_259 (hts _ k_261) hF (gm_pV (va_recv (q0 := 2) (ci := 0) hK hP rfl rfl) hN (va_K.sub hK [1] rfl) (va_P.sub hP [2, 3] rfl) (va_D.sub hD [2, 3] rfl rfl) SA.m (fun U h1 h2 => SA.at hT hS (va_free hD hS hA [2, 3] rfl) U h1 h2)) rfl rfl rfl hl.1 rfl ⟨Nat.le_of_ble_eq_true rfl, Nat.le_of_ble_eq_true rfl⟩ (Nat.le_of_ble_eq_true rfl) d_B_type_48 ⟨(Nat.le_of_ble_eq_true rfl), (Nat.le_of_ble_eq_true rfl)⟩) hP hD hS hA [2, 3] [0, 1] rfl rfl rfl (by decide) (fun u48 H locs hΦ48 hz48 hP hD hS => ?_)
          obtain ⟨vo48, co48, fo48⟩ := u48
          have hΦ48 : RWO co48 (z + 1) fo48 (L ++ [v]) := hΦ48
          have hP : va_P D CL [(b, .inr (9, [.ref cvA, .ref jlA, .ref hbA, .ref csA, .ref sbA])), (csA, .inl (cA, 14, .inr (.inr (.inr (.inr ca))))), (sbA, .inr (0, [.ref vo48, .int (iI 0), .int (iI ml), .int (iI (z + 1))])), (vo48, .inl (cB, co48, .inl (fun j => iI (fo48 j))))] H := hP
          have hD : va_D A [(b, .inr (9, [.ref cvA, .ref jlA, .ref hbA, .ref csA, .ref sbA])), (csA, .inl (cA, 14, .inr (.inr (.inr (.inr ca))))), (sbA, .inr (0, [.ref vo48, .int (iI 0), .int (iI ml), .int (iI (z + 1))])), (vo48, .inl (cB, co48, .inl (fun j => iI (fo48 j))))] := hD
          refine lv_pop hx hb d_B_type_51 rfl ?_
          refine ai_iconst hx hb d_B_type_52 ?_
          exact gm_zret (vo48, co48, fo48) hx hb hr hlk d_B_type_53 hP hD hS (Nat.le_of_ble_eq_true rfl) (Nat.le_of_ble_eq_true rfl) (by decide) rfl (show RWO co48 (z + 1) fo48 (L ++ [v]) from hΦ48)
        · skip
          exfalso; omega
set_option maxHeartbeats 4000000 in
set_option maxRecDepth 100000 in
theorem ct_B_wipe (l : Launch) (D : va_G) (b : Nat) (cvA : Nat) (jlA : Nat) (hbA : Nat) (csA : Nat) (sbA : Nat) (vbA : Nat) (cA : ClassId) (cB : ClassId) (ca : Nat → Option Nat) (cp : Nat) (z : Int) (ml : Int) (tx : Nat → Int) (L : List Int) (sz : Nat) (hR9 : RWO cp z tx L) : GMet l y_B_wipe w_B_wipe 3 64 0 0 [.ref b] D [(cA, .object "DayBook$Calendar"), (cB, .byte)] [(b, .inr (9, [.ref cvA, .ref jlA, .ref hbA, .ref csA, .ref sbA])), (csA, .inl (cA, 14, .inr (.inr (.inr (.inr ca))))), (sbA, .inr (0, [.ref vbA, .int (iI 0), .int (iI ml), .int (iI z)])), (vbA, .inl (cB, cp, .inl (fun j => iI (tx j))))] sz (fun U => SA (va_A [(b, .inr (9, [.ref cvA, .ref jlA, .ref hbA, .ref csA, .ref sbA])), (csA, .inl (cA, 14, .inr (.inr (.inr (.inr ca))))), (sbA, .inr (0, [.ref vbA, .int (iI 0), .int (iI ml), .int (iI z)])), (vbA, .inl (cB, cp, .inl (fun j => iI (tx j))))] sz) U) (GQi D (fun (u : Int) => z) (fun (u : Int) => True) (fun (u : Int) => ([(b, .inr (9, [.ref cvA, .ref jlA, .ref hbA, .ref csA, .ref sbA])), (csA, .inl (cA, 14, .inr (.inr (.inr (.inr ca))))), (sbA, .inr (0, [.ref vbA, .int (iI 0), .int (iI u), .int (iI 0)])), (vbA, .inl (cB, cp, .inl (fun j => iI (tx j))))] : va_W))) := by
  refine gm_of (by decide +kernel) (Nat.le_of_ble_eq_true rfl) ?_
  intro p e s m below meth c ls A hx hb hr hts hown hlk hml hl hN hK hP hD hS hA hAi hnm hsz hX
  subst hsz
  have hown : s.vm.findClass "DayBook" = some m.cls := hown
  have hl : lv_has ls 2 [(0, .ref b)] := hl
  have hF : _ ∧ _ ∧ _ ∧ _ ∧ _ ∧ _ := ⟨hx, hb, hml, hown, hts, hN⟩
  have hT := hX
  have hT : SA A s := ST.narrow hT hAi
  obtain ⟨hcp, hzc, hL⟩ := hR9
  have hz1 := hL.1
  refine lv_aload_n hx hb d_B_wipe_0 rfl (lv_at hl 0 rfl) ?_
  refine va_get (D := D) (cl := CL) (ci := 9) (v := .ref sbA) (C := "DayBook") (T := T_B) (N := 5) hx hb hts in_B hown hK hP 0 rfl rfl 4 (by decide) (hts _ k_208) (fun _ h9 => h9) rfl d_B_wipe_1 ?_
  refine ro_V (C := "java/lang/StringBuilder") (rest := []) (ct_JB_length l D sbA vbA cB cp ml z tx) j_JB_length k_252 (hts _ k_254) hF (va_recv (q0 := 2) (ci := 0) hK hP rfl rfl) rfl hl.1 rfl ⟨Nat.le_of_ble_eq_true rfl, Nat.le_of_ble_eq_true rfl⟩ (Nat.le_of_ble_eq_true rfl) d_B_wipe_4 ⟨(Nat.le_of_ble_eq_true rfl), (Nat.le_of_ble_eq_true rfl)⟩ RB.m (fun U h1 h2 => ⟨va_K.moved h2.alike (va_K.sub hK [1] rfl), by rw [h1]; exact va_P.sub hP [2, 3] rfl⟩) ?_
  refine lv_istore_n (lv' := [(1, .int (iI z)), (0, .ref b)]) hx hb d_B_wipe_7 rfl hl (by decide) rfl (fun ls hl => ?_)
  refine lv_aload_n hx hb d_B_wipe_8 rfl (lv_at hl 1 rfl) ?_
  refine va_get (D := D) (cl := CL) (ci := 9) (v := .ref sbA) (C := "DayBook") (T := T_B) (N := 5) hx hb hts in_B hown hK hP 0 rfl rfl 4 (by decide) (hts _ k_208) (fun _ h9 => h9) rfl d_B_wipe_9 ?_
  refine ai_iconst hx hb d_B_wipe_12 ?_
  refine gm_cv (wr := [(b, .inr (9, [.ref cvA, .ref jlA, .ref hbA, .ref csA, .ref sbA])), (csA, .inl (cA, 14, .inr (.inr (.inr (.inr ca)))))]) (gr_V (C := "java/lang/StringBuilder") (rest := []) (ct_JB_setLength l D sbA vbA cB cp ml z tx s.heap.size (by omega)) j_JB_setLength k_358 (hts _ k_360) hF (gm_pV (va_recv (q0 := 2) (ci := 0) hK hP rfl rfl) hN (va_K.sub hK [1] rfl) (va_P.sub hP [2, 3] rfl) (va_D.sub hD [2, 3] rfl rfl) Bm_true (fun _ _ _ => trivial)) rfl rfl rfl hl.1 rfl ⟨Nat.le_of_ble_eq_true rfl, Nat.le_of_ble_eq_true rfl⟩ (Nat.le_of_ble_eq_true rfl) d_B_wipe_13 ⟨(Nat.le_of_ble_eq_true rfl), (Nat.le_of_ble_eq_true rfl)⟩) hP hD hS hA [2, 3] [0, 1] rfl rfl rfl (by decide) (fun u13 H locs hΦ13 hz13 hP hD hS => ?_)
  have hΦ13 : True := hΦ13
  have hP : va_P D CL [(b, .inr (9, [.ref cvA, .ref jlA, .ref hbA, .ref csA, .ref sbA])), (csA, .inl (cA, 14, .inr (.inr (.inr (.inr ca))))), (sbA, .inr (0, [.ref vbA, .int (iI 0), .int (iI u13), .int (iI 0)])), (vbA, .inl (cB, cp, .inl (fun j => iI (tx j))))] H := hP
  have hD : va_D A [(b, .inr (9, [.ref cvA, .ref jlA, .ref hbA, .ref csA, .ref sbA])), (csA, .inl (cA, 14, .inr (.inr (.inr (.inr ca))))), (sbA, .inr (0, [.ref vbA, .int (iI 0), .int (iI u13), .int (iI 0)])), (vbA, .inl (cB, cp, .inl (fun j => iI (tx j))))] := hD
  refine lv_iload_n hx hb d_B_wipe_16 rfl (lv_at hl 0 rfl) ?_
  exact gm_iret (u13) hx hb hr hlk d_B_wipe_17 hP hD hS (Nat.le_of_ble_eq_true rfl) (Nat.le_of_ble_eq_true rfl) rfl trivial
set_option maxHeartbeats 4000000 in
set_option maxRecDepth 100000 in
theorem ct_B_write (l : Launch) (D : va_G) (b : Nat) (cvA : Nat) (jlA : Nat) (hbA : Nat) (csA : Nat) (sbA : Nat) (vbA : Nat) (cA : ClassId) (cB : ClassId) (ca : Nat → Option Nat) (cp : Nat) (z : Int) (ml : Int) (tx : Nat → Int) (L : List Int) (cal : Int) (d : Int) (q : Nat) (DT : Int → Int → Prop) (DR : Int → Int → Int → Int → Prop) (hy : Int → Prop) (x : Int) (sz : Nat) (hR9 : RWO cp z tx L) (r_cal : -2147483648 ≤ cal ∧ cal ≤ 2147483647) (r_d : -2147483648 ≤ d ∧ d ≤ 2147483647) (hcs : CS ca cal q) (hd : -40000000 ≤ d ∧ d ≤ 40000000) (hdt : DT d x) (rx : -9223372036854775808 ≤ x ∧ x ≤ 9223372036854775807) (hrg : RGW (x / 65536) (x / 256 % 256) (x % 256)) : GMet l y_B_write w_B_write 6 152 5 170 [.ref b, .int (iI cal), .int (iI d)] D [(cA, .object "DayBook$Calendar"), (cB, .byte)] [(b, .inr (9, [.ref cvA, .ref jlA, .ref hbA, .ref csA, .ref sbA])), (csA, .inl (cA, 14, .inr (.inr (.inr (.inr ca))))), (sbA, .inr (0, [.ref vbA, .int (iI 0), .int (iI ml), .int (iI z)])), (vbA, .inl (cB, cp, .inl (fun j => iI (tx j))))] sz (fun U => SA (va_A [(b, .inr (9, [.ref cvA, .ref jlA, .ref hbA, .ref csA, .ref sbA])), (csA, .inl (cA, 14, .inr (.inr (.inr (.inr ca))))), (sbA, .inr (0, [.ref vbA, .int (iI 0), .int (iI ml), .int (iI z)])), (vbA, .inl (cB, cp, .inl (fun j => iI (tx j))))] sz) U ∧ CAL D q DT DR hy U) (GQi D (fun (u : Int × Int × Nat × Nat × (Nat → Int)) => u.1) (fun (u : Int × Int × Nat × Nat × (Nat → Int)) => RWO u.2.2.2.1 u.1 u.2.2.2.2 (txt (x / 65536) (x / 256 % 256) (x % 256))) (fun (u : Int × Int × Nat × Nat × (Nat → Int)) => ([(b, .inr (9, [.ref cvA, .ref jlA, .ref hbA, .ref csA, .ref sbA])), (csA, .inl (cA, 14, .inr (.inr (.inr (.inr ca))))), (sbA, .inr (0, [.ref u.2.2.1, .int (iI 0), .int (iI u.2.1), .int (iI u.1)])), (u.2.2.1, .inl (cB, u.2.2.2.1, .inl (fun j => iI (u.2.2.2.2 j))))] : va_W))) := by
  refine gm_of (by decide +kernel) (Nat.le_of_ble_eq_true rfl) ?_
  intro p e s m below meth c ls A hx hb hr hts hown hlk hml hl hN hK hP hD hS hA hAi hnm hsz hX
  subst hsz
  have hown : s.vm.findClass "DayBook" = some m.cls := hown
  have hl : lv_has ls 6 [(0, .ref b), (1, .int (iI cal)), (2, .int (iI d))] := hl
  have hF : _ ∧ _ ∧ _ ∧ _ ∧ _ ∧ _ := ⟨hx, hb, hml, hown, hts, hN⟩
  obtain ⟨hT, hC⟩ := hX
  have hT : SA A s := ST.narrow hT hAi
  obtain ⟨hcp, hzc, hL⟩ := hR9
  have hz1 := hL.1
  obtain ⟨g1, g2, g3⟩ := hrg
  have lY := wr_len9 g1
  have lM := wr_len4 g2
  have lD := wr_len4 g3
  refine lv_aload_n hx hb d_B_write_0 rfl (lv_at hl 0 rfl) ?_
  refine lv_iload_n hx hb d_B_write_1 rfl (lv_at hl 1 rfl) ?_
  refine ro_V (C := "DayBook") (rest := []) (ct_B_calendarAt_s l D b cvA jlA hbA csA sbA vbA cA cB ca cp z ml tx cal q (by omega) hcs) j_B_calendarAt k_496 (hts _ s_B_calendarAt) hF (va_recv (q0 := 0) (ci := 9) hK hP rfl rfl) rfl hl.1 rfl ⟨Nat.le_of_ble_eq_true rfl, Nat.le_of_ble_eq_true rfl⟩ (Nat.le_of_ble_eq_true rfl) d_B_write_2 ⟨(Nat.le_of_ble_eq_true rfl), (Nat.le_of_ble_eq_true rfl)⟩ BkB.m (fun U h1 h2 => ⟨va_K.moved h2.alike hK, by rw [h1]; exact hP⟩) ?_
  refine lv_astore_n (lv' := [(3, .ref q), (0, .ref b), (1, .int (iI cal)), (2, .int (iI d))]) hx hb d_B_write_5 rfl hl (by decide) rfl (fun ls hl => ?_)
  refine lv_aload_n hx hb d_B_write_6 rfl (lv_at hl 0 rfl) ?_
  refine lv_ifnonnull hx hb d_B_write_7 rfl ?_
  refine lv_iload_n hx hb d_B_write_18 rfl (lv_at hl 3 rfl) ?_
  refine ai_i2l hx hb d_B_write_19 (by omega) ?_
  refine ro_S (rest := []) (ct_B_isInRange l d (by omega)) j_B_isInRange k_224 hF rfl hl.1 rfl ⟨Nat.le_of_ble_eq_true rfl, Nat.le_of_ble_eq_true rfl⟩ (Nat.le_of_ble_eq_true rfl) d_B_write_20 ⟨(Nat.le_of_ble_eq_true rfl), (Nat.le_of_ble_eq_true rfl)⟩ Bm_true (fun _ _ _ => trivial) ?_
  refine ai_ifneB hx hb d_B_write_23 rfl (fun h23 => ?_) (fun h23 => absurd hd h23)
  refine lv_aload_n hx hb d_B_write_34 rfl (lv_at hl 0 rfl) ?_
  refine lv_iload_n hx hb d_B_write_35 rfl (lv_at hl 3 rfl) ?_
  refine ai_i2l hx hb d_B_write_36 (by omega) ?_
  refine cd_DT (rest := []) hC (by omega) hdt hF hl.1 ⟨Nat.le_of_ble_eq_true rfl, Nat.le_of_ble_eq_true rfl⟩ (Nat.le_of_ble_eq_true rfl) d_B_write_37 ⟨Nat.zero_le _, Nat.zero_le _⟩ ?_
  refine lv_lstore (lv' := [(4, .long (iL x)), (3, .ref q), (0, .ref b), (1, .int (iI cal)), (2, .int (iI d))]) hx hb d_B_write_40 hl (by decide) rfl (fun ls hl => ?_)
  refine lv_aload_n hx hb d_B_write_42 rfl (lv_at hl 2 rfl) ?_
  refine va_get (D := D) (cl := CL) (ci := 9) (v := .ref sbA) (C := "DayBook") (T := T_B) (N := 5) hx hb hts in_B hown hK hP 0 rfl rfl 4 (by decide) (hts _ k_208) (fun _ h9 => h9) rfl d_B_write_43 ?_
  refine ai_iconst hx hb d_B_write_46 ?_
  refine gm_cv (wr := [(b, .inr (9, [.ref cvA, .ref jlA, .ref hbA, .ref csA, .ref sbA])), (csA, .inl (cA, 14, .inr (.inr (.inr (.inr ca)))))]) (gr_V (C := "java/lang/StringBuilder") (rest := []) (ct_JB_setLength l D sbA vbA cB cp ml z tx s.heap.size (by omega)) j_JB_setLength k_358 (hts _ k_360) hF (gm_pV (va_recv (q0 := 2) (ci := 0) hK hP rfl rfl) hN (va_K.sub hK [1] rfl) (va_P.sub hP [2, 3] rfl) (va_D.sub hD [2, 3] rfl rfl) Bm_true (fun _ _ _ => trivial)) rfl rfl rfl hl.1 rfl ⟨Nat.le_of_ble_eq_true rfl, Nat.le_of_ble_eq_true rfl⟩ (Nat.le_of_ble_eq_true rfl) d_B_write_47 ⟨(Nat.le_of_ble_eq_true rfl), (Nat.le_of_ble_eq_true rfl)⟩) hP hD hS hA [2, 3] [0, 1] rfl rfl rfl (by decide) (fun u47 H locs hΦ47 hz47 hP hD hS => ?_)
  have hΦ47 : True := hΦ47
  have hP : va_P D CL [(b, .inr (9, [.ref cvA, .ref jlA, .ref hbA, .ref csA, .ref sbA])), (csA, .inl (cA, 14, .inr (.inr (.inr (.inr ca))))), (sbA, .inr (0, [.ref vbA, .int (iI 0), .int (iI u47), .int (iI 0)])), (vbA, .inl (cB, cp, .inl (fun j => iI (tx j))))] H := hP
  have hD : va_D A [(b, .inr (9, [.ref cvA, .ref jlA, .ref hbA, .ref csA, .ref sbA])), (csA, .inl (cA, 14, .inr (.inr (.inr (.inr ca))))), (sbA, .inr (0, [.ref vbA, .int (iI 0), .int (iI u47), .int (iI 0)])), (vbA, .inl (cB, cp, .inl (fun j => iI (tx j))))] := hD
  refine lv_aload_n hx hb d_B_write_50 rfl (lv_at hl 2 rfl) ?_
  refine va_get (D := D) (cl := CL) (ci := 9) (v := .ref sbA) (C := "DayBook") (T := T_B) (N := 5) hx hb hts in_B hown hK hP 0 rfl rfl 4 (by decide) (hts _ k_208) (fun _ h9 => h9) rfl d_B_write_51 ?_
  refine lv_lload hx hb d_B_write_54 (lv_at hl 0 rfl) ?_
  refine ro_S (rest := [.ref sbA]) (ct_B_yearIn l x (by omega)) j_B_yearIn k_684 hF rfl hl.1 rfl ⟨Nat.le_of_ble_eq_true rfl, Nat.le_of_ble_eq_true rfl⟩ (Nat.le_of_ble_eq_true rfl) d_B_write_56 ⟨(Nat.le_of_ble_eq_true rfl), (Nat.le_of_ble_eq_true rfl)⟩ Bm_true (fun _ _ _ => trivial) ?_
  refine gm_cr (wr := [(b, .inr (9, [.ref cvA, .ref jlA, .ref hbA, .ref csA, .ref sbA])), (csA, .inl (cA, 14, .inr (.inr (.inr (.inr ca)))))]) (gr_V (C := "java/lang/StringBuilder") (rest := []) (ct_JB_append_IStringBuilder l D sbA vbA cB cp u47 0 tx ([]) (x / 65536) H.size ⟨hcp, by omega, hL.nil⟩ (by show 0 + (wr (x / 65536)).length ≤ 24; omega) (by omega)) j_JB_append_IStringBuilder k_851 (hts _ k_853) hF (gm_pV (va_recv (q0 := 2) (ci := 0) hK hP rfl rfl) hN (va_K.sub hK [1] rfl) (va_P.sub hP [2, 3] rfl) (va_D.sub hD [2, 3] rfl rfl) SA.m (fun U h1 h2 => SA.at hT hS (va_free hD hS hA [2, 3] rfl) U h1 h2)) rfl rfl rfl hl.1 rfl ⟨Nat.le_of_ble_eq_true rfl, Nat.le_of_ble_eq_true rfl⟩ (Nat.le_of_ble_eq_true rfl) d_B_write_59 ⟨(Nat.le_of_ble_eq_true rfl), (Nat.le_of_ble_eq_true rfl)⟩) hP hD hS hA [2, 3] [0, 1] rfl rfl rfl (by decide) (fun u59 H locs hΦ59 hz59 hP hD hS => ?_)
  obtain ⟨vo59, co59, fo59⟩ := u59
  have hΦ59 : RWO co59 (0 + ((wr (x / 65536)).length : Int)) fo59 (([]) ++ wr (x / 65536)) := hΦ59
  have hP : va_P D CL [(b, .inr (9, [.ref cvA, .ref jlA, .ref hbA, .ref csA, .ref sbA])), (csA, .inl (cA, 14, .inr (.inr (.inr (.inr ca))))), (sbA, .inr (0, [.ref vo59, .int (iI 0), .int (iI u47), .int (iI (0 + ((wr (x / 65536)).length : Int)))])), (vo59, .inl (cB, co59, .inl (fun j => iI (fo59 j))))] H := hP
  have hD : va_D A [(b, .inr (9, [.ref cvA, .ref jlA, .ref hbA, .ref csA, .ref sbA])), (csA, .inl (cA, 14, .inr (.inr (.inr (.inr ca))))), (sbA, .inr (0, [.ref vo59, .int (iI 0), .int (iI u47), .int (iI (0 + ((wr (x / 65536)).length : Int)))])), (vo59, .inl (cB, co59, .inl (fun j => iI (fo59 j))))] := hD
  refine lv_pop hx hb d_B_write_62 rfl ?_
  refine lv_aload_n hx hb d_B_write_63 rfl (lv_at hl 2 rfl) ?_
  refine va_get (D := D) (cl := CL) (ci := 9) (v := .ref sbA) (C := "DayBook") (T := T_B) (N := 5) hx hb hts in_B hown hK hP 0 rfl rfl 4 (by decide) (hts _ k_208) (fun _ h9 => h9) rfl d_B_write_64 ?_
  refine ai_bipush (x := 47) hx hb d_B_write_67 (by decide +kernel) ?_
  refine gm_cr (wr := [(b, .inr (9, [.ref cvA, .ref jlA, .ref hbA, .ref csA, .ref sbA])), (csA, .inl (cA, 14, .inr (.inr (.inr (.inr ca)))))]) (gr_V (C := "java/lang/StringBuilder") (rest := []) (ct_JB_append_CStringBuilder l D sbA vo59 cB co59 u47 (0 + ((wr (x / 65536)).length : Int)) fo59 (wr (x / 65536)) 47 H.size hΦ59 (by omega) (by omega)) j_JB_append_CStringBuilder k_259 (hts _ k_261) hF (gm_pV (va_recv (q0 := 2) (ci := 0) hK hP rfl rfl) hN (va_K.sub hK [1] rfl) (va_P.sub hP [2, 3] rfl) (va_D.sub hD [2, 3] rfl rfl) SA.m (fun U h1 h2 => SA.at hT hS (va_free hD hS hA [2, 3] rfl) U h1 h2)) rfl rfl rfl hl.1 rfl ⟨Nat.le_of_ble_eq_true rfl, Nat.le_of_ble_eq_true rfl⟩ (Nat.le_of_ble_eq_true rfl) d_B_write_69 ⟨(Nat.le_of_ble_eq_true rfl), (Nat.le_of_ble_eq_true rfl)⟩) hP hD hS hA [2, 3] [0, 1] rfl rfl rfl (by decide) (fun u69 H locs hΦ69 hz69 hP hD hS => ?_)
  obtain ⟨vo69, co69, fo69⟩ := u69
  have hΦ69 : RWO co69 ((0 + ((wr (x / 65536)).length : Int)) + 1) fo69 ((wr (x / 65536)) ++ [47]) := hΦ69
  have hP : va_P D CL [(b, .inr (9, [.ref cvA, .ref jlA, .ref hbA, .ref csA, .ref sbA])), (csA, .inl (cA, 14, .inr (.inr (.inr (.inr ca))))), (sbA, .inr (0, [.ref vo69, .int (iI 0), .int (iI u47), .int (iI ((0 + ((wr (x / 65536)).length : Int)) + 1))])), (vo69, .inl (cB, co69, .inl (fun j => iI (fo69 j))))] H := hP
  have hD : va_D A [(b, .inr (9, [.ref cvA, .ref jlA, .ref hbA, .ref csA, .ref sbA])), (csA, .inl (cA, 14, .inr (.inr (.inr (.inr ca))))), (sbA, .inr (0, [.ref vo69, .int (iI 0), .int (iI u47), .int (iI ((0 + ((wr (x / 65536)).length : Int)) + 1))])), (vo69, .inl (cB, co69, .inl (fun j => iI (fo69 j))))] := hD
  refine lv_pop hx hb d_B_write_72 rfl ?_
  refine lv_aload_n hx hb d_B_write_73 rfl (lv_at hl 2 rfl) ?_
  refine va_get (D := D) (cl := CL) (ci := 9) (v := .ref sbA) (C := "DayBook") (T := T_B) (N := 5) hx hb hts in_B hown hK hP 0 rfl rfl 4 (by decide) (hts _ k_208) (fun _ h9 => h9) rfl d_B_write_74 ?_
  refine lv_lload hx hb d_B_write_77 (lv_at hl 0 rfl) ?_
  refine ro_S (rest := [.ref sbA]) (ct_B_monthIn l x (by omega)) j_B_monthIn k_687 hF rfl hl.1 rfl ⟨Nat.le_of_ble_eq_true rfl, Nat.le_of_ble_eq_true rfl⟩ (Nat.le_of_ble_eq_true rfl) d_B_write_79 ⟨(Nat.le_of_ble_eq_true rfl), (Nat.le_of_ble_eq_true rfl)⟩ Bm_true (fun _ _ _ => trivial) ?_
  refine gm_cr (wr := [(b, .inr (9, [.ref cvA, .ref jlA, .ref hbA, .ref csA, .ref sbA])), (csA, .inl (cA, 14, .inr (.inr (.inr (.inr ca)))))]) (gr_V (C := "java/lang/StringBuilder") (rest := []) (ct_JB_append_IStringBuilder l D sbA vo69 cB co69 u47 ((0 + ((wr (x / 65536)).length : Int)) + 1) fo69 (wr (x / 65536) ++ [47]) (x / 256 % 256) H.size hΦ69 (by rw [List.length_append, List.length_singleton]; omega) (by omega)) j_JB_append_IStringBuilder k_851 (hts _ k_853) hF (gm_pV (va_recv (q0 := 2) (ci := 0) hK hP rfl rfl) hN (va_K.sub hK [1] rfl) (va_P.sub hP [2, 3] rfl) (va_D.sub hD [2, 3] rfl rfl) SA.m (fun U h1 h2 => SA.at hT hS (va_free hD hS hA [2, 3] rfl) U h1 h2)) rfl rfl rfl hl.1 rfl ⟨Nat.le_of_ble_eq_true rfl, Nat.le_of_ble_eq_true rfl⟩ (Nat.le_of_ble_eq_true rfl) d_B_write_82 ⟨(Nat.le_of_ble_eq_true rfl), (Nat.le_of_ble_eq_true rfl)⟩) hP hD hS hA [2, 3] [0, 1] rfl rfl rfl (by decide) (fun u82 H locs hΦ82 hz82 hP hD hS => ?_)
  obtain ⟨vo82, co82, fo82⟩ := u82
  have hΦ82 : RWO co82 (((0 + ((wr (x / 65536)).length : Int)) + 1) + ((wr (x / 256 % 256)).length : Int)) fo82 ((wr (x / 65536) ++ [47]) ++ wr (x / 256 % 256)) := hΦ82
  have hP : va_P D CL [(b, .inr (9, [.ref cvA, .ref jlA, .ref hbA, .ref csA, .ref sbA])), (csA, .inl (cA, 14, .inr (.inr (.inr (.inr ca))))), (sbA, .inr (0, [.ref vo82, .int (iI 0), .int (iI u47), .int (iI (((0 + ((wr (x / 65536)).length : Int)) + 1) + ((wr (x / 256 % 256)).length : Int)))])), (vo82, .inl (cB, co82, .inl (fun j => iI (fo82 j))))] H := hP
  have hD : va_D A [(b, .inr (9, [.ref cvA, .ref jlA, .ref hbA, .ref csA, .ref sbA])), (csA, .inl (cA, 14, .inr (.inr (.inr (.inr ca))))), (sbA, .inr (0, [.ref vo82, .int (iI 0), .int (iI u47), .int (iI (((0 + ((wr (x / 65536)).length : Int)) + 1) + ((wr (x / 256 % 256)).length : Int)))])), (vo82, .inl (cB, co82, .inl (fun j => iI (fo82 j))))] := hD
  refine lv_pop hx hb d_B_write_85 rfl ?_
  refine lv_aload_n hx hb d_B_write_86 rfl (lv_at hl 2 rfl) ?_
  refine va_get (D := D) (cl := CL) (ci := 9) (v := .ref sbA) (C := "DayBook") (T := T_B) (N := 5) hx hb hts in_B hown hK hP 0 rfl rfl 4 (by decide) (hts _ k_208) (fun _ h9 => h9) rfl d_B_write_87 ?_
  refine ai_bipush (x := 47) hx hb d_B_write_90 (by decide +kernel) ?_
  refine gm_cr (wr := [(b, .inr (9, [.ref cvA, .ref jlA, .ref hbA, .ref csA, .ref sbA])), (csA, .inl (cA, 14, .inr (.inr (.inr (.inr ca)))))]) (gr_V (C := "java/lang/StringBuilder") (rest := []) (ct_JB_append_CStringBuilder l D sbA vo82 cB co82 u47 (((0 + ((wr (x / 65536)).length : Int)) + 1) + ((wr (x / 256 % 256)).length : Int)) fo82 (wr (x / 65536) ++ [47] ++ wr (x / 256 % 256)) 47 H.size hΦ82 (by rw [List.length_append, List.length_append, List.length_singleton]; omega) (by omega)) j_JB_append_CStringBuilder k_259 (hts _ k_261) hF (gm_pV (va_recv (q0 := 2) (ci := 0) hK hP rfl rfl) hN (va_K.sub hK [1] rfl) (va_P.sub hP [2, 3] rfl) (va_D.sub hD [2, 3] rfl rfl) SA.m (fun U h1 h2 => SA.at hT hS (va_free hD hS hA [2, 3] rfl) U h1 h2)) rfl rfl rfl hl.1 rfl ⟨Nat.le_of_ble_eq_true rfl, Nat.le_of_ble_eq_true rfl⟩ (Nat.le_of_ble_eq_true rfl) d_B_write_92 ⟨(Nat.le_of_ble_eq_true rfl), (Nat.le_of_ble_eq_true rfl)⟩) hP hD hS hA [2, 3] [0, 1] rfl rfl rfl (by decide) (fun u92 H locs hΦ92 hz92 hP hD hS => ?_)
  obtain ⟨vo92, co92, fo92⟩ := u92
  have hΦ92 : RWO co92 ((((0 + ((wr (x / 65536)).length : Int)) + 1) + ((wr (x / 256 % 256)).length : Int)) + 1) fo92 ((wr (x / 65536) ++ [47] ++ wr (x / 256 % 256)) ++ [47]) := hΦ92
  have hP : va_P D CL [(b, .inr (9, [.ref cvA, .ref jlA, .ref hbA, .ref csA, .ref sbA])), (csA, .inl (cA, 14, .inr (.inr (.inr (.inr ca))))), (sbA, .inr (0, [.ref vo92, .int (iI 0), .int (iI u47), .int (iI ((((0 + ((wr (x / 65536)).length : Int)) + 1) + ((wr (x / 256 % 256)).length : Int)) + 1))])), (vo92, .inl (cB, co92, .inl (fun j => iI (fo92 j))))] H := hP
  have hD : va_D A [(b, .inr (9, [.ref cvA, .ref jlA, .ref hbA, .ref csA, .ref sbA])), (csA, .inl (cA, 14, .inr (.inr (.inr (.inr ca))))), (sbA, .inr (0, [.ref vo92, .int (iI 0), .int (iI u47), .int (iI ((((0 + ((wr (x / 65536)).length : Int)) + 1) + ((wr (x / 256 % 256)).length : Int)) + 1))])), (vo92, .inl (cB, co92, .inl (fun j => iI (fo92 j))))] := hD
  refine lv_pop hx hb d_B_write_95 rfl ?_
  refine lv_aload_n hx hb d_B_write_96 rfl (lv_at hl 2 rfl) ?_
  refine va_get (D := D) (cl := CL) (ci := 9) (v := .ref sbA) (C := "DayBook") (T := T_B) (N := 5) hx hb hts in_B hown hK hP 0 rfl rfl 4 (by decide) (hts _ k_208) (fun _ h9 => h9) rfl d_B_write_97 ?_
  refine lv_lload hx hb d_B_write_100 (lv_at hl 0 rfl) ?_
  refine ro_S (rest := [.ref sbA]) (ct_B_dayIn l x (by omega)) j_B_dayIn k_690 hF rfl hl.1 rfl ⟨Nat.le_of_ble_eq_true rfl, Nat.le_of_ble_eq_true rfl⟩ (Nat.le_of_ble_eq_true rfl) d_B_write_102 ⟨(Nat.le_of_ble_eq_true rfl), (Nat.le_of_ble_eq_true rfl)⟩ Bm_true (fun _ _ _ => trivial) ?_
  refine gm_cr (wr := [(b, .inr (9, [.ref cvA, .ref jlA, .ref hbA, .ref csA, .ref sbA])), (csA, .inl (cA, 14, .inr (.inr (.inr (.inr ca)))))]) (gr_V (C := "java/lang/StringBuilder") (rest := []) (ct_JB_append_IStringBuilder l D sbA vo92 cB co92 u47 ((((0 + ((wr (x / 65536)).length : Int)) + 1) + ((wr (x / 256 % 256)).length : Int)) + 1) fo92 (wr (x / 65536) ++ [47] ++ wr (x / 256 % 256) ++ [47]) (x % 256) H.size hΦ92 (by rw [List.length_append, List.length_append, List.length_append, List.length_singleton]; omega) (by omega)) j_JB_append_IStringBuilder k_851 (hts _ k_853) hF (gm_pV (va_recv (q0 := 2) (ci := 0) hK hP rfl rfl) hN (va_K.sub hK [1] rfl) (va_P.sub hP [2, 3] rfl) (va_D.sub hD [2, 3] rfl rfl) SA.m (fun U h1 h2 => SA.at hT hS (va_free hD hS hA [2, 3] rfl) U h1 h2)) rfl rfl rfl hl.1 rfl ⟨Nat.le_of_ble_eq_true rfl, Nat.le_of_ble_eq_true rfl⟩ (Nat.le_of_ble_eq_true rfl) d_B_write_105 ⟨(Nat.le_of_ble_eq_true rfl), (Nat.le_of_ble_eq_true rfl)⟩) hP hD hS hA [2, 3] [0, 1] rfl rfl rfl (by decide) (fun u105 H locs hΦ105 hz105 hP hD hS => ?_)
  obtain ⟨vo105, co105, fo105⟩ := u105
  have hΦ105 : RWO co105 (((((0 + ((wr (x / 65536)).length : Int)) + 1) + ((wr (x / 256 % 256)).length : Int)) + 1) + ((wr (x % 256)).length : Int)) fo105 ((wr (x / 65536) ++ [47] ++ wr (x / 256 % 256) ++ [47]) ++ wr (x % 256)) := hΦ105
  have hP : va_P D CL [(b, .inr (9, [.ref cvA, .ref jlA, .ref hbA, .ref csA, .ref sbA])), (csA, .inl (cA, 14, .inr (.inr (.inr (.inr ca))))), (sbA, .inr (0, [.ref vo105, .int (iI 0), .int (iI u47), .int (iI (((((0 + ((wr (x / 65536)).length : Int)) + 1) + ((wr (x / 256 % 256)).length : Int)) + 1) + ((wr (x % 256)).length : Int)))])), (vo105, .inl (cB, co105, .inl (fun j => iI (fo105 j))))] H := hP
  have hD : va_D A [(b, .inr (9, [.ref cvA, .ref jlA, .ref hbA, .ref csA, .ref sbA])), (csA, .inl (cA, 14, .inr (.inr (.inr (.inr ca))))), (sbA, .inr (0, [.ref vo105, .int (iI 0), .int (iI u47), .int (iI (((((0 + ((wr (x / 65536)).length : Int)) + 1) + ((wr (x / 256 % 256)).length : Int)) + 1) + ((wr (x % 256)).length : Int)))])), (vo105, .inl (cB, co105, .inl (fun j => iI (fo105 j))))] := hD
  refine lv_pop hx hb d_B_write_108 rfl ?_
  refine lv_aload_n hx hb d_B_write_109 rfl (lv_at hl 2 rfl) ?_
  refine va_get (D := D) (cl := CL) (ci := 9) (v := .ref sbA) (C := "DayBook") (T := T_B) (N := 5) hx hb hts in_B hown hK hP 0 rfl rfl 4 (by decide) (hts _ k_208) (fun _ h9 => h9) rfl d_B_write_110 ?_
  refine ro_V (C := "java/lang/StringBuilder") (rest := []) (ct_JB_length l D sbA vo105 cB co105 u47 (((((0 + ((wr (x / 65536)).length : Int)) + 1) + ((wr (x / 256 % 256)).length : Int)) + 1) + ((wr (x % 256)).length : Int)) fo105) j_JB_length k_252 (hts _ k_254) hF (va_recv (q0 := 2) (ci := 0) hK hP rfl rfl) rfl hl.1 rfl ⟨Nat.le_of_ble_eq_true rfl, Nat.le_of_ble_eq_true rfl⟩ (Nat.le_of_ble_eq_true rfl) d_B_write_113 ⟨(Nat.le_of_ble_eq_true rfl), (Nat.le_of_ble_eq_true rfl)⟩ RB.m (fun U h1 h2 => ⟨va_K.moved h2.alike (va_K.sub hK [1] rfl), by rw [h1]; exact va_P.sub hP [2, 3] rfl⟩) ?_
  exact gm_iret (((((0 + ((wr (x / 65536)).length : Int)) + 1) + ((wr (x / 256 % 256)).length : Int)) + 1) + ((wr (x % 256)).length : Int), u47, vo105, co105, fo105) hx hb hr hlk d_B_write_116 hP hD hS (Nat.le_of_ble_eq_true rfl) (Nat.le_of_ble_eq_true rfl) rfl (show RWO co105 (((((0 + ((wr (x / 65536)).length : Int)) + 1) + ((wr (x / 256 % 256)).length : Int)) + 1) + ((wr (x % 256)).length : Int)) fo105 (txt (x / 65536) (x / 256 % 256) (x % 256)) from hΦ105)
