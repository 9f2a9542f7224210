/-! 56.sbA: laid by program (wip/whole) -/
set_option maxHeartbeats 4000000 in
set_option maxRecDepth 100000 in
theorem ct_JA_append_CAbstractStrin (l : Launch) (D : va_G) (sb : Nat) (vb : Nat) (cB : ClassId) (cp : Nat) (ml : Int) (z : Int) (tx : Nat → Int) (L : List Int) (v : Int) (sz : Nat) (hR9 : RWO cp z tx L) (hl24 : L.length < 24) (rv : 0 ≤ v ∧ v ≤ 127) : GMet l y_JA_append_CAbstractStrin w_JA_append_CAbstractStrin 4 104 1 34 [.ref sb, .int (iI v)] D [(cB, .byte)] [(sb, .inr (0, [.ref vb, .int (iI 0), .int (iI ml), .int (iI z)])), (vb, .inl (cB, cp, .inl (fun j => iI (tx j))))] sz (fun U => SA (va_A [(sb, .inr (0, [.ref vb, .int (iI 0), .int (iI ml), .int (iI z)])), (vb, .inl (cB, cp, .inl (fun j => iI (tx j))))] sz) U) (GQr D (fun (u : Nat × Nat × (Nat → Int)) => sb) (fun (u : Nat × Nat × (Nat → Int)) => RWO u.2.1 (z + 1) u.2.2 (L ++ [v])) (fun (u : Nat × Nat × (Nat → Int)) => ([(sb, .inr (0, [.ref u.1, .int (iI 0), .int (iI ml), .int (iI (z + 1))])), (u.1, .inl (cB, u.2.1, .inl (fun j => iI (u.2.2 j))))] : va_W))) := by
  refine gm_of (by decide +kernel) (Nat.le_of_ble_eq_true rfl) ?_
  intro p e s m below meth c ls A hx hb hr hts hown hlk hml hl hN hK hP hD hS hA hAi hnm hsz hX
  subst hsz
  have hown : s.vm.findClass "java/lang/AbstractStringBuilder" = some m.cls := hown
  have hl : lv_has ls 2 [(0, .ref sb), (1, .int (iI v))] := hl
  have hF : _ ∧ _ ∧ _ ∧ _ ∧ _ ∧ _ := ⟨hx, hb, hml, hown, hts, hN⟩
  have hT := hX
  have hT : SA A s := ST.narrow hT hAi
  obtain ⟨hcp, hzc, hL⟩ := hR9
  have htr := hL.2.2
  have hz1 := hL.1
  refine lv_aload_n hx hb d_JA_append_CAbstractStrin_0 rfl (lv_at hl 0 rfl) ?_
  refine lv_aload_n hx hb d_JA_append_CAbstractStrin_1 rfl (lv_at hl 0 rfl) ?_
  refine va_get (D := D) (cl := CL) (ci := 0) (v := .int (iI z)) (C := "java/lang/StringBuilder") (T := T_JB) (N := 4) hx hb hts in_JB hown hK hP 0 rfl rfl 3 (by decide) (hts _ k_193) (fun _ h9 => h9) rfl d_JA_append_CAbstractStrin_2 ?_
  refine ai_iconst hx hb d_JA_append_CAbstractStrin_5 ?_
  refine ai_iadd hx hb d_JA_append_CAbstractStrin_6 ?_
  by_cases hq : z + 1 ≤ (cp : Int)
  · skip
    refine rov_V (C := "java/lang/StringBuilder") (rest := []) (ct_JA_ensureCapacityInternal_0 l D sb vb cB cp ml z tx (z + 1) (by omega)) j_JA_ensureCapacityInternal k_266 (sel_priv ⟨by decide +kernel, by decide +kernel⟩ (hts _ k_173) (va_Nw.use rfl (hN.pv 267 (by decide +kernel) (by decide +kernel))) (hts _ j_JA_ensureCapacityInternal.2.2.1) (hts _ k_304) rfl) hF (va_recv (q0 := 0) (ci := 0) hK hP rfl rfl) rfl hl.1 rfl ⟨Nat.le_of_ble_eq_true rfl, Nat.le_of_ble_eq_true rfl⟩ (Nat.le_of_ble_eq_true rfl) d_JA_append_CAbstractStrin_7 ⟨(Nat.le_of_ble_eq_true rfl), (Nat.le_of_ble_eq_true rfl)⟩ RB.m (fun U h1 h2 => ⟨va_K.moved h2.alike hK, by rw [h1]; exact va_P.sub hP [0, 1] rfl⟩) ?_
    refine lv_aload_n hx hb d_JA_append_CAbstractStrin_10 rfl (lv_at hl 0 rfl) ?_
    refine ro_V (C := "java/lang/StringBuilder") (rest := []) (ct_JA_isLatin1 l D sb vb cB cp ml z tx) j_JA_isLatin1 k_301 (hts _ k_304) hF (va_recv (q0 := 0) (ci := 0) hK hP rfl rfl) rfl hl.1 rfl ⟨Nat.le_of_ble_eq_true rfl, Nat.le_of_ble_eq_true rfl⟩ (Nat.le_of_ble_eq_true rfl) d_JA_append_CAbstractStrin_11 ⟨(Nat.le_of_ble_eq_true rfl), (Nat.le_of_ble_eq_true rfl)⟩ (Bm.and RB.m SA.m) (fun U h1 h2 => ⟨⟨va_K.moved h2.alike hK, by rw [h1]; exact va_P.sub hP [0, 1] rfl⟩, SA.at hT hS (fun _ h9 => h9.elim) U h1 h2⟩) ?_
    refine ai_ifeqB hx hb d_JA_append_CAbstractStrin_14 rfl (fun h14 => absurd trivial h14) (fun h14 => ?_)
    refine lv_iload_n hx hb d_JA_append_CAbstractStrin_17 rfl (lv_at hl 1 rfl) ?_
    refine ro_S (rest := []) (ct_JL_canEncode l v (by omega)) j_JL_canEncode k_306 hF rfl hl.1 rfl ⟨Nat.le_of_ble_eq_true rfl, Nat.le_of_ble_eq_true rfl⟩ (Nat.le_of_ble_eq_true rfl) d_JA_append_CAbstractStrin_18 ⟨(Nat.le_of_ble_eq_true rfl), (Nat.le_of_ble_eq_true rfl)⟩ Bm_true (fun _ _ _ => trivial) ?_
    refine ai_ifeqB hx hb d_JA_append_CAbstractStrin_21 rfl (fun h21 => absurd (by omega) h21) (fun h21 => ?_)
    refine lv_aload_n hx hb d_JA_append_CAbstractStrin_24 rfl (lv_at hl 0 rfl) ?_
    refine va_get (D := D) (cl := CL) (ci := 0) (v := .ref vb) (C := "java/lang/StringBuilder") (T := T_JB) (N := 4) hx hb hts in_JB hown hK hP 0 rfl rfl 0 (by decide) (hts _ k_190) (fun _ h9 => h9) rfl d_JA_append_CAbstractStrin_25 ?_
    refine lv_aload_n hx hb d_JA_append_CAbstractStrin_28 rfl (lv_at hl 0 rfl) ?_
    refine lv_dup hx hb d_JA_append_CAbstractStrin_29 rfl ?_
    refine va_get (D := D) (cl := CL) (ci := 0) (v := .int (iI z)) (C := "java/lang/StringBuilder") (T := T_JB) (N := 4) hx hb hts in_JB hown hK hP 0 rfl rfl 3 (by decide) (hts _ k_193) (fun _ h9 => h9) rfl d_JA_append_CAbstractStrin_30 ?_
    refine lv_dup_x1 hx hb d_JA_append_CAbstractStrin_33 rfl rfl ?_
    refine ai_iconst hx hb d_JA_append_CAbstractStrin_34 ?_
    refine ai_iadd hx hb d_JA_append_CAbstractStrin_35 ?_
    refine va_put (D := D) (cl := CL) (ci := 0) (v := .int (iI (z + 1))) (ty := .int) (C := "java/lang/StringBuilder") (T := T_JB) (N := 4) hx hb hts in_JB ty_JB ty_JB_ok nm_JB hown hK hP hD hS 0 rfl rfl 3 (by decide) (hts _ k_193) (fun _ h9 => h9) rfl (by decide +kernel) rfl rfl (Nat.le_of_ble_eq_true rfl) d_JA_append_CAbstractStrin_36 (fun H locs hP hD hS => ?_)
    have hP : va_P D CL [(sb, .inr (0, [.ref vb, .int (iI 0), .int (iI ml), .int (iI (z + 1))])), (vb, .inl (cB, cp, .inl (fun j => iI (tx j))))] H := hP
    have hD : va_D A [(sb, .inr (0, [.ref vb, .int (iI 0), .int (iI ml), .int (iI (z + 1))])), (vb, .inl (cB, cp, .inl (fun j => iI (tx j))))] := hD
    refine lv_iload_n hx hb d_JA_append_CAbstractStrin_39 rfl (lv_at hl 1 rfl) ?_
    refine ai_i2b hx hb d_JA_append_CAbstractStrin_40 (by omega) ?_
    refine ma_bst hx hb hK hP hD hS 1 0 rfl rfl (h := tx) (v := v) (by omega) (by omega) (by omega) d_JA_append_CAbstractStrin_41 (fun H locs hP hD hS => ?_)
    have hP : va_P D CL [(sb, .inr (0, [.ref vb, .int (iI 0), .int (iI ml), .int (iI (z + 1))])), (vb, .inl (cB, cp, .inl (fun j => iI ((upF tx (Int.toNat z) v) j))))] H := hP
    have hD : va_D A [(sb, .inr (0, [.ref vb, .int (iI 0), .int (iI ml), .int (iI (z + 1))])), (vb, .inl (cB, cp, .inl (fun j => iI ((upF tx (Int.toNat z) v) j))))] := hD
    refine lv_goto hx hb d_JA_append_CAbstractStrin_42 rfl ?_
    refine lv_aload_n hx hb d_JA_append_CAbstractStrin_75 rfl (lv_at hl 0 rfl) ?_
    exact gm_aret (vb, cp, (upF tx (Int.toNat z) v)) hx hb hr (Or.inl ⟨_, rfl⟩) hlk d_JA_append_CAbstractStrin_76 hP hD hS (Nat.le_of_ble_eq_true rfl) (Nat.le_of_ble_eq_true rfl) rfl (show RWO cp (z + 1) (upF tx (Int.toNat z) v) (L ++ [v]) from ⟨hcp, hq, hL.push rv hl24⟩)
  · skip
    refine gm_cv (wr := []) (gr_V (C := "java/lang/StringBuilder") (rest := []) (ct_JA_ensureCapacityInternal_1 l D sb vb cB cp ml z tx (z + 1) s.heap.size (by omega) htr) j_JA_ensureCapacityInternal k_266 (sel_priv ⟨by decide +kernel, by decide +kernel⟩ (hts _ k_173) (va_Nw.use rfl (hN.pv 267 (by decide +kernel) (by decide +kernel))) (hts _ j_JA_ensureCapacityInternal.2.2.1) (hts _ k_304) rfl) hF (gm_pV (va_recv (q0 := 0) (ci := 0) hK hP rfl rfl) hN hK (va_P.sub hP [0, 1] rfl) (va_D.sub hD [0, 1] rfl rfl) Bm_true (fun _ _ _ => trivial)) rfl rfl rfl hl.1 rfl ⟨Nat.le_of_ble_eq_true rfl, Nat.le_of_ble_eq_true rfl⟩ (Nat.le_of_ble_eq_true rfl) d_JA_append_CAbstractStrin_7 ⟨(Nat.le_of_ble_eq_true rfl), (Nat.le_of_ble_eq_true rfl)⟩) hP hD hS hA [0, 1] [] rfl rfl rfl (by decide) (fun u7 H locs hΦ7 hz7 hP hD hS => ?_)
    have hΦ7 : True := hΦ7
    have hP : va_P D CL [(sb, .inr (0, [.ref u7, .int (iI 0), .int (iI ml), .int (iI z)])), (u7, .inl (cB, 34, .inl (fun j => iI ((cpB tx (fun _ => (0 : Int)) cp) j))))] H := hP
    have hD : va_D A [(sb, .inr (0, [.ref u7, .int (iI 0), .int (iI ml), .int (iI z)])), (u7, .inl (cB, 34, .inl (fun j => iI ((cpB tx (fun _ => (0 : Int)) cp) j))))] := hD
    refine lv_aload_n hx hb d_JA_append_CAbstractStrin_10 rfl (lv_at hl 0 rfl) ?_
    refine ro_V (C := "java/lang/StringBuilder") (rest := []) (ct_JA_isLatin1 l D sb u7 cB 34 ml z (cpB tx (fun _ => (0 : Int)) cp)) j_JA_isLatin1 k_301 (hts _ k_304) hF (va_recv (q0 := 0) (ci := 0) hK hP rfl rfl) rfl hl.1 rfl ⟨Nat.le_of_ble_eq_true rfl, Nat.le_of_ble_eq_true rfl⟩ (Nat.le_of_ble_eq_true rfl) d_JA_append_CAbstractStrin_11 ⟨(Nat.le_of_ble_eq_true rfl), (Nat.le_of_ble_eq_true rfl)⟩ (Bm.and RB.m SA.m) (fun U h1 h2 => ⟨⟨va_K.moved h2.alike hK, by rw [h1]; exact va_P.sub hP [0, 1] rfl⟩, SA.at hT hS (fun _ h9 => h9.elim) U h1 h2⟩) ?_
    refine ai_ifeqB hx hb d_JA_append_CAbstractStrin_14 rfl (fun h14 => absurd trivial h14) (fun h14 => ?_)
    refine lv_iload_n hx hb d_JA_append_CAbstractStrin_17 rfl (lv_at hl 1 rfl) ?_
    refine ro_S (rest := []) (ct_JL_canEncode l v (by omega)) j_JL_canEncode k_306 hF rfl hl.1 rfl ⟨Nat.le_of_ble_eq_true rfl, Nat.le_of_ble_eq_true rfl⟩ (Nat.le_of_ble_eq_true rfl) d_JA_append_CAbstractStrin_18 ⟨(Nat.le_of_ble_eq_true rfl), (Nat.le_of_ble_eq_true rfl)⟩ Bm_true (fun _ _ _ => trivial) ?_
    refine ai_ifeqB hx hb d_JA_append_CAbstractStrin_21 rfl (fun h21 => absurd (by omega) h21) (fun h21 => ?_)
    refine lv_aload_n hx hb d_JA_append_CAbstractStrin_24 rfl (lv_at hl 0 rfl) ?_
    refine va_get (D := D) (cl := CL) (ci := 0) (v := .ref u7) (C := "java/lang/StringBuilder") (T := T_JB) (N := 4) hx hb hts in_JB hown hK hP 0 rfl rfl 0 (by decide) (hts _ k_190) (fun _ h9 => h9) rfl d_JA_append_CAbstractStrin_25 ?_
    refine lv_aload_n hx hb d_JA_append_CAbstractStrin_28 rfl (lv_at hl 0 rfl) ?_
    refine lv_dup hx hb d_JA_append_CAbstractStrin_29 rfl ?_
    refine va_get (D := D) (cl := CL) (ci := 0) (v := .int (iI z)) (C := "java/lang/StringBuilder") (T := T_JB) (N := 4) hx hb hts in_JB hown hK hP 0 rfl rfl 3 (by decide) (hts _ k_193) (fun _ h9 => h9) rfl d_JA_append_CAbstractStrin_30 ?_
    refine lv_dup_x1 hx hb d_JA_append_CAbstractStrin_33 rfl rfl ?_
    refine ai_iconst hx hb d_JA_append_CAbstractStrin_34 ?_
    refine ai_iadd hx hb d_JA_append_CAbstractStrin_35 ?_
    refine va_put (D := D) (cl := CL) (ci := 0) (v := .int (iI (z + 1))) (ty := .int) (C := "java/lang/StringBuilder") (T := T_JB) (N := 4) hx hb hts in_JB ty_JB ty_JB_ok nm_JB hown hK hP hD hS 0 rfl rfl 3 (by decide) (hts _ k_193) (fun _ h9 => h9) rfl (by decide +kernel) rfl rfl (Nat.le_of_ble_eq_true rfl) d_JA_append_CAbstractStrin_36 (fun H locs hP hD hS => ?_)
    have hP : va_P D CL [(sb, .inr (0, [.ref u7, .int (iI 0), .int (iI ml), .int (iI (z + 1))])), (u7, .inl (cB, 34, .inl (fun j => iI ((cpB tx (fun _ => (0 : Int)) cp) j))))] H := hP
    have hD : va_D A [(sb, .inr (0, [.ref u7, .int (iI 0), .int (iI ml), .int (iI (z + 1))])), (u7, .inl (cB, 34, .inl (fun j => iI ((cpB tx (fun _ => (0 : Int)) cp) j))))] := hD
    refine lv_iload_n hx hb d_JA_append_CAbstractStrin_39 rfl (lv_at hl 1 rfl) ?_
    refine ai_i2b hx hb d_JA_append_CAbstractStrin_40 (by omega) ?_
    refine ma_bst hx hb hK hP hD hS 1 0 rfl rfl (h := (cpB tx (fun _ => (0 : Int)) cp)) (v := v) (by omega) (by decide) (by omega) d_JA_append_CAbstractStrin_41 (fun H locs hP hD hS => ?_)
    have hP : va_P D CL [(sb, .inr (0, [.ref u7, .int (iI 0), .int (iI ml), .int (iI (z + 1))])), (u7, .inl (cB, 34, .inl (fun j => iI ((upF (cpB tx (fun _ => (0 : Int)) cp) (Int.toNat z) v) j))))] H := hP
    have hD : va_D A [(sb, .inr (0, [.ref u7, .int (iI 0), .int (iI ml), .int (iI (z + 1))])), (u7, .inl (cB, 34, .inl (fun j => iI ((upF (cpB tx (fun _ => (0 : Int)) cp) (Int.toNat z) v) j))))] := hD
    refine lv_goto hx hb d_JA_append_CAbstractStrin_42 rfl ?_
    refine lv_aload_n hx hb d_JA_append_CAbstractStrin_75 rfl (lv_at hl 0 rfl) ?_
    exact gm_aret (u7, 34, (upF (cpB tx (fun _ => (0 : Int)) cp) (Int.toNat z) v)) hx hb hr (Or.inl ⟨_, rfl⟩) hlk d_JA_append_CAbstractStrin_76 hP hD hS (Nat.le_of_ble_eq_true rfl) (Nat.le_of_ble_eq_true rfl) rfl (show RWO 34 (z + 1) (upF (cpB tx (fun _ => (0 : Int)) cp) (Int.toNat z) v) (L ++ [v]) from ⟨Or.inr rfl, by omega, (hL.grow (by omega)).push rv hl24⟩)
set_option maxHeartbeats 4000000 in
set_option maxRecDepth 100000 in
theorem ct_JB_append_CStringBuilder (l : Launch) (D : va_G) (sb : Nat) (vb : Nat) (cB : ClassId) (cp : Nat) (ml : Int) (z : Int) (tx : Nat → Int) (L : List Int) (v : Int) (sz : Nat) (hR9 : RWO cp z tx L) (hl24 : L.length < 24) (rv : 0 ≤ v ∧ v ≤ 127) : GMet l y_JB_append_CStringBuilder w_JB_append_CStringBuilder 5 125 1 34 [.ref sb, .int (iI v)] D [(cB, .byte)] [(sb, .inr (0, [.ref vb, .int (iI 0), .int (iI ml), .int (iI z)])), (vb, .inl (cB, cp, .inl (fun j => iI (tx j))))] sz (fun U => SA (va_A [(sb, .inr (0, [.ref vb, .int (iI 0), .int (iI ml), .int (iI z)])), (vb, .inl (cB, cp, .inl (fun j => iI (tx j))))] sz) U) (GQr D (fun (u : Nat × Nat × (Nat → Int)) => sb) (fun (u : Nat × Nat × (Nat → Int)) => RWO u.2.1 (z + 1) u.2.2 (L ++ [v])) (fun (u : Nat × Nat × (Nat → Int)) => ([(sb, .inr (0, [.ref u.1, .int (iI 0), .int (iI ml), .int (iI (z + 1))])), (u.1, .inl (cB, u.2.1, .inl (fun j => iI (u.2.2 j))))] : va_W))) := by
  refine gm_of (by decide +kernel) (Nat.le_of_ble_eq_true rfl) ?_
  intro p e s m below meth c ls A hx hb hr hts hown hlk hml hl hN hK hP hD hS hA hAi hnm hsz hX
  subst hsz
  have hown : s.vm.findClass "java/lang/StringBuilder" = some m.cls := hown
  have hl : lv_has ls 2 [(0, .ref sb), (1, .int (iI v))] := hl
  have hF : _ ∧ _ ∧ _ ∧ _ ∧ _ ∧ _ := ⟨hx, hb, hml, hown, hts, hN⟩
  have hT := hX
  have hT : SA A s := ST.narrow hT hAi
  refine lv_aload_n hx hb d_JB_append_CStringBuilder_0 rfl (lv_at hl 0 rfl) ?_
  refine lv_iload_n hx hb d_JB_append_CStringBuilder_1 rfl (lv_at hl 1 rfl) ?_
  refine gm_cr (wr := []) (gr_SU (C := "java/lang/StringBuilder") (rest := []) (hK.1 0 _ rfl).2 (ct_JA_append_CAbstractStrin l D sb vb cB cp ml z tx L v s.heap.size hR9 hl24 (by omega)) j_JA_append_CAbstractStrin k_263 k_1223 (gw_t 202 (by decide +kernel) (by decide +kernel)) (by decide) hF (gm_pV (va_recv (q0 := 0) (ci := 0) hK hP rfl rfl) hN hK (va_P.sub hP [0, 1] rfl) (va_D.sub hD [0, 1] rfl rfl) SA.m (fun U h1 h2 => SA.at hT hS (va_free hD hS hA [0, 1] rfl) U h1 h2)) rfl rfl rfl hl.1 rfl ⟨Nat.le_of_ble_eq_true rfl, Nat.le_of_ble_eq_true rfl⟩ (Nat.le_of_ble_eq_true rfl) d_JB_append_CStringBuilder_2 ⟨(Nat.le_of_ble_eq_true rfl), (Nat.le_of_ble_eq_true rfl)⟩) hP hD hS hA [0, 1] [] rfl rfl rfl (by decide) (fun u2 H locs hΦ2 hz2 hP hD hS => ?_)
  obtain ⟨vo2, co2, fo2⟩ := u2
  have hΦ2 : RWO co2 (z + 1) fo2 (L ++ [v]) := hΦ2
  have hP : va_P D CL [(sb, .inr (0, [.ref vo2, .int (iI 0), .int (iI ml), .int (iI (z + 1))])), (vo2, .inl (cB, co2, .inl (fun j => iI (fo2 j))))] H := hP
  have hD : va_D A [(sb, .inr (0, [.ref vo2, .int (iI 0), .int (iI ml), .int (iI (z + 1))])), (vo2, .inl (cB, co2, .inl (fun j => iI (fo2 j))))] := hD
  refine lv_pop hx hb d_JB_append_CStringBuilder_5 rfl ?_
  refine lv_aload_n hx hb d_JB_append_CStringBuilder_6 rfl (lv_at hl 0 rfl) ?_
  exact gm_aret (vo2, co2, fo2) hx hb hr (Or.inl ⟨_, rfl⟩) hlk d_JB_append_CStringBuilder_7 hP hD hS (Nat.le_of_ble_eq_true rfl) (Nat.le_of_ble_eq_true rfl) rfl (show RWO co2 (z + 1) fo2 (L ++ [v]) from hΦ2)
set_option maxHeartbeats 4000000 in
set_option maxRecDepth 100000 in
theorem ct_JI_stringSize (l : Launch) (x : Int) (rx : -99999999 ≤ x ∧ x ≤ 99999999) : RO l y_JI_stringSize w_JI_stringSize 0 0 [.int (iI x)] (fun _ => True) (.int (iI ((wr x).length : Int))) := by
  refine ro_of (by decide +kernel) (Nat.le_of_ble_eq_true rfl) ?_
  intro p e s m below meth c ls hx hb hr hts hown hlk hml hl hN hB
  have hown : s.vm.findClass "java/lang/Integer" = some m.cls := hown
  have hl : lv_has ls 4 [(0, .int (iI x))] := hl
  have hF : _ ∧ _ ∧ _ ∧ _ ∧ _ ∧ _ := ⟨hx, hb, hml, hown, hts, hN⟩
  have hJ16 : ∀ (N : Nat) (xx : Int) (sg : Int) (pw : Int) (i : Int) (k : Nat) (ls : Array Slot), lv_has ls 4 [(0, .int (iI xx)), (1, .int (iI sg)), (2, .int (iI pw)), (3, .int (iI i))] → ((x < 0 ∧ sg = 1 ∧ xx = x) ∨ (¬ x < 0 ∧ sg = 0 ∧ xx = -x)) → (i = (k : Int) ∧ 1 ≤ k ∧ k ≤ 9) → (pw = -(10 ^ k)) → (k = 1 ∨ 10 ^ (k - 1) ≤ -xx) → 9 - k < N → W p l e (headSpec w_JI_stringSize ({ frames := 0, cells := 0, slots := 0, locals := 0 })).room s m [.int (iI x)].toArray below meth c s.heap [] 0 0 (MQ below (k2_QcV (.int (iI ((wr x).length : Int)))) [.int (iI x)].toArray s 0 0 (fun _ => False)) (F0 m 16 ls []) := by
    intro N
    induction N with
    | zero => intro _ _ _ _ _ _ _ _ _ _ _ hm; exact absurd hm (Nat.not_lt_zero _)
    | succ N ih =>
      intro xx sg pw i k ls hl hs hi hpw hlo hm
      have p9 := p10_9 k (by omega)
      have p0 := p10_pos k
      have p8 := p10_8 k
      refine lv_iload_n hx hb d_JI_stringSize_16 rfl (lv_at hl 3 rfl) ?_
      refine ai_bipush (x := 10) hx hb d_JI_stringSize_17 (by decide +kernel) ?_
      refine ai_icmp_ge hx hb d_JI_stringSize_19 rfl (by omega) (by omega) (fun h19 => by exfalso; omega) (fun h19 => ?_)
      refine lv_iload_n hx hb d_JI_stringSize_22 rfl (lv_at hl 0 rfl) ?_
      refine lv_iload_n hx hb d_JI_stringSize_23 rfl (lv_at hl 2 rfl) ?_
      refine ai_icmp_le hx hb d_JI_stringSize_24 rfl (by omega) (by omega) (fun h24 => ?_) (fun h24 => ?_)
      · skip
        refine ai_bipush (x := 10) hx hb d_JI_stringSize_31 (by decide +kernel) ?_
        refine lv_iload_n hx hb d_JI_stringSize_33 rfl (lv_at hl 2 rfl) ?_
        refine ai_imul hx hb d_JI_stringSize_34 ?_
        refine ai_nmI hx hb (fun v35 e35 => ?_)
        refine lv_istore_n (lv' := [(2, .int (iI v35)), (0, .int (iI xx)), (1, .int (iI sg)), (3, .int (iI i))]) hx hb d_JI_stringSize_35 rfl hl (by decide) rfl (fun ls hl => ?_)
        refine ai_iinc (k := 3) (lv' := [(3, .int (iI (i + 1))), (2, .int (iI v35)), (0, .int (iI xx)), (1, .int (iI sg))]) hx hb d_JI_stringSize_36 hl rfl (by decide) rfl (fun ls hl => ?_)
        refine lv_goto hx hb d_JI_stringSize_39 rfl ?_
        exact ih xx sg v35 (i + 1) (k + 1) _ (lv_sub hl [2, 3, 1, 0] rfl) (by omega) (by omega) (by rw [Int.pow_succ]; omega) (Or.inr (by rw [Nat.add_sub_cancel]; omega)) (by omega)
      · skip
        refine lv_iload_n hx hb d_JI_stringSize_27 rfl (lv_at hl 3 rfl) ?_
        refine lv_iload_n hx hb d_JI_stringSize_28 rfl (lv_at hl 1 rfl) ?_
        refine ai_iadd hx hb d_JI_stringSize_29 ?_
        exact ro_iret hx hb hr hlk d_JI_stringSize_30 (by have e9 := dgn_uniq (x := x) (k := k) rx (by omega) ⟨by omega, by omega⟩ (by omega); have w9 := wr_len (x := x); rw [e9] at w9; split at w9 <;> omega)
  refine ai_iconst hx hb d_JI_stringSize_0 ?_
  refine lv_istore_n (lv' := [(1, .int (iI 1)), (0, .int (iI x))]) hx hb d_JI_stringSize_1 rfl hl (by decide) rfl (fun ls hl => ?_)
  refine lv_iload_n hx hb d_JI_stringSize_2 rfl (lv_at hl 1 rfl) ?_
  refine ai_if_lt hx hb d_JI_stringSize_3 rfl (by omega) (fun h3 => ?_) (fun h3 => ?_)
  · skip
    refine ai_bipush (x := -10) hx hb d_JI_stringSize_11 (by decide +kernel) ?_
    refine lv_istore_n (lv' := [(2, .int (iI (-10))), (1, .int (iI 1)), (0, .int (iI x))]) hx hb d_JI_stringSize_13 rfl hl (by decide) rfl (fun ls hl => ?_)
    refine ai_iconst hx hb d_JI_stringSize_14 ?_
    refine lv_istore_n (lv' := [(3, .int (iI 1)), (2, .int (iI (-10))), (1, .int (iI 1)), (0, .int (iI x))]) hx hb d_JI_stringSize_15 rfl hl (by decide) rfl (fun ls hl => ?_)
    exact hJ16 _ x 1 (-10) 1 1 _ (lv_sub hl [3, 2, 1, 0] rfl) (by omega) ⟨rfl, by decide, by decide⟩ (by decide) (Or.inl rfl) (Nat.lt_succ_self _)
  · skip
    refine ai_iconst hx hb d_JI_stringSize_6 ?_
    refine lv_istore_n (lv' := [(1, .int (iI 0)), (0, .int (iI x))]) hx hb d_JI_stringSize_7 rfl hl (by decide) rfl (fun ls hl => ?_)
    refine lv_iload_n hx hb d_JI_stringSize_8 rfl (lv_at hl 1 rfl) ?_
    refine ai_ineg hx hb d_JI_stringSize_9 ?_
    refine ai_nmI hx hb (fun v10 e10 => ?_)
    refine lv_istore_n (lv' := [(0, .int (iI v10)), (1, .int (iI 0))]) hx hb d_JI_stringSize_10 rfl hl (by decide) rfl (fun ls hl => ?_)
    refine ai_bipush (x := -10) hx hb d_JI_stringSize_11 (by decide +kernel) ?_
    refine lv_istore_n (lv' := [(2, .int (iI (-10))), (0, .int (iI v10)), (1, .int (iI 0))]) hx hb d_JI_stringSize_13 rfl hl (by decide) rfl (fun ls hl => ?_)
    refine ai_iconst hx hb d_JI_stringSize_14 ?_
    refine lv_istore_n (lv' := [(3, .int (iI 1)), (2, .int (iI (-10))), (0, .int (iI v10)), (1, .int (iI 0))]) hx hb d_JI_stringSize_15 rfl hl (by decide) rfl (fun ls hl => ?_)
    exact hJ16 _ v10 0 (-10) 1 1 _ (lv_sub hl [2, 3, 1, 0] rfl) (by omega) ⟨rfl, by decide, by decide⟩ (by decide) (Or.inl rfl) (Nat.lt_succ_self _)
set_option maxHeartbeats 4000000 in
set_option maxRecDepth 100000 in
theorem ct_JI_getChars (l : Launch) (D : va_G) (vb : Nat) (cB : ClassId) (cp : Nat) (tx : Nat → Int) (x : Int) (ix : Int) (b0 : Int) (sz : Nat) (rx : -99999999 ≤ x ∧ x ≤ 99999999) (hix : ix = b0 + ((wr x).length : Int)) (hb0 : 0 ≤ b0 ∧ ix ≤ cp ∧ cp ≤ 1000) (htr : ∀ j : Nat, 0 ≤ tx j ∧ tx j ≤ 127) : GMet l y_JI_getChars w_JI_getChars 0 0 0 0 [.int (iI x), .int (iI ix), .ref vb] D [(cB, .byte)] [(vb, .inl (cB, cp, .inl (fun j => iI (tx j))))] sz (fun U => SA (va_A [(vb, .inl (cB, cp, .inl (fun j => iI (tx j))))] sz) U) (GQi D (fun (u : (Nat → Int)) => b0) (fun (u : (Nat → Int)) => (∀ j : Nat, 0 ≤ u j ∧ u j ≤ 127) ∧ (∀ j : Nat, (j : Int) < b0 → u j = tx j) ∧ PT u (Int.toNat b0) (wr x)) (fun (u : (Nat → Int)) => ([(vb, .inl (cB, cp, .inl (fun j => iI (u j))))] : va_W))) := by
  refine gm_of (by decide +kernel) (Nat.le_of_ble_eq_true rfl) ?_
  intro p e s m below meth c ls A hx hb hr hts hown hlk hml hl hN hK hP hD hS hA hAi hnm hsz hX
  subst hsz
  have hown : s.vm.findClass "java/lang/Integer" = some m.cls := hown
  have hl : lv_has ls 7 [(0, .int (iI x)), (1, .int (iI ix)), (2, .ref vb)] := hl
  have hF : _ ∧ _ ∧ _ ∧ _ ∧ _ ∧ _ := ⟨hx, hb, hml, hown, hts, hN⟩
  have hT := hX
  have hT : SA A s := ST.narrow hT hAi
  obtain ⟨t1, hy1, ht1⟩ := hT.2.2.1
  obtain ⟨t2, hy2, ht2⟩ := hT.2.2.2
  have hJ22 : ∀ (N : Nat) (H : Heap) (locs : List Loc) (xx : Int) (pos : Int) (sg : Int) (f : Nat → Int) (T : List Int) (ls : Array Slot), va_P D CL [(vb, .inl (cB, cp, .inl (fun j => iI (f j))))] H → va_D A [(vb, .inl (cB, cp, .inl (fun j => iI (f j))))] → va_S A s.heap H locs → lv_has ls 7 [(0, .int (iI xx)), (2, .ref vb), (5, .int (iI pos)), (6, .int (iI sg))] → (GC x b0 ix sg tx (-xx) pos f T) → ((x < 0 ∧ sg = 1) ∨ (¬ x < 0 ∧ sg = 0)) → Int.toNat (-xx) < N → W p l e (headSpec w_JI_getChars ({ frames := 0, cells := 0, slots := 0, locals := 0 })).room s m [.int (iI x), .int (iI ix), .ref vb].toArray below meth c H locs 0 0 (MQ below ((GQi D (fun (u : (Nat → Int)) => b0) (fun (u : (Nat → Int)) => (∀ j : Nat, 0 ≤ u j ∧ u j ≤ 127) ∧ (∀ j : Nat, (j : Int) < b0 → u j = tx j) ∧ PT u (Int.toNat b0) (wr x)) (fun (u : (Nat → Int)) => ([(vb, .inl (cB, cp, .inl (fun j => iI (u j))))] : va_W))) A) [.int (iI x), .int (iI ix), .ref vb].toArray s 0 0 A) (F0 m 22 ls []) := by
    intro N
    induction N with
    | zero => intro _ _ _ _ _ _ _ _ _ _ _ _ _ _ hm; exact absurd hm (Nat.not_lt_zero _)
    | succ N ih =>
      intro H locs xx pos sg f T ls hP hD hS hl hg hs hm
      have hgC := hg
      obtain ⟨⟨g1, g2, g3, g4⟩, g5, g6, g7, g8⟩ := hgC
      have gd := (dgn_ok (v := -xx) (by omega)).1
      refine lv_iload_n hx hb d_JI_getChars_22 rfl (lv_at hl 0 rfl) ?_
      refine ai_bipush (x := -100) hx hb d_JI_getChars_23 (by decide +kernel) ?_
      refine ai_icmp_gt hx hb d_JI_getChars_25 rfl (by omega) (by omega) (fun h25 => ?_) (fun h25 => ?_)
      · skip
        refine lv_aload_n hx hb d_JI_getChars_72 rfl (lv_at hl 1 rfl) ?_
        refine ai_iinc (k := 2) (lv' := [(5, .int (iI (pos + (-1)))), (0, .int (iI xx)), (2, .ref vb), (6, .int (iI sg))]) hx hb d_JI_getChars_73 hl rfl (by decide) rfl (fun ls hl => ?_)
        refine lv_iload hx hb d_JI_getChars_76 (lv_at hl 0 rfl) ?_
        refine va_gets hx hb hy1 hS hown (hts _ k_864) (fun _ h9 => h9) d_JI_getChars_78 ?_
        refine lv_iload_n hx hb d_JI_getChars_81 rfl (lv_at hl 1 rfl) ?_
        refine ai_ineg hx hb d_JI_getChars_82 ?_
        refine ma_tb hx hb ht1 hS (by omega) d_JI_getChars_83 (v := .int (iI (48 + (-xx) % 10))) (dOne_at (by omega)) ?_
        refine ma_bst hx hb hK hP hD hS 0 0 rfl rfl (h := f) (v := 48 + (-xx) % 10) (by omega) (by omega) (by omega) d_JI_getChars_84 (fun H locs hP hD hS => ?_)
        have hP : va_P D CL [(vb, .inl (cB, cp, .inl (fun j => iI ((upF f (Int.toNat (pos + (-1))) (48 + (-xx) % 10)) j))))] H := hP
        have hD : va_D A [(vb, .inl (cB, cp, .inl (fun j => iI ((upF f (Int.toNat (pos + (-1))) (48 + (-xx) % 10)) j))))] := hD
        refine lv_iload_n hx hb d_JI_getChars_85 rfl (lv_at hl 1 rfl) ?_
        refine ai_bipush (x := -9) hx hb d_JI_getChars_86 (by decide +kernel) ?_
        refine ai_icmp_ge hx hb d_JI_getChars_88 rfl (by omega) (by omega) (fun h88 => ?_) (fun h88 => ?_)
        · skip
          obtain ⟨⟨f1, f2⟩, f3, f4, f5⟩ := hg.one (by omega)
          refine lv_iload hx hb d_JI_getChars_104 (lv_at hl 3 rfl) ?_
          refine ai_if_eq hx hb d_JI_getChars_106 rfl (by omega) (fun h106 => ?_) (fun h106 => ?_)
          · skip
            refine lv_iload hx hb d_JI_getChars_118 (lv_at hl 0 rfl) ?_
            exact gm_iret ((upF f (Int.toNat (pos + (-1))) (48 + (-xx) % 10))) hx hb hr hlk d_JI_getChars_120 hP hD hS (Nat.le_of_ble_eq_true rfl) (Nat.le_of_ble_eq_true rfl) (by omega) (show (∀ j : Nat, 0 ≤ (upF f (Int.toNat (pos + (-1))) (48 + (-xx) % 10)) j ∧ (upF f (Int.toNat (pos + (-1))) (48 + (-xx) % 10)) j ≤ 127) ∧ (∀ j : Nat, (j : Int) < b0 → (upF f (Int.toNat (pos + (-1))) (48 + (-xx) % 10)) j = tx j) ∧ PT (upF f (Int.toNat (pos + (-1))) (48 + (-xx) % 10)) (Int.toNat b0) (wr x) from ⟨f3, f4, by rw [wr_pos (by omega), show Int.toNat b0 = Int.toNat (b0 + sg) by omega]; exact f5⟩)
          · skip
            refine lv_aload_n hx hb d_JI_getChars_109 rfl (lv_at hl 2 rfl) ?_
            refine ai_iinc (k := 0) (lv' := [(5, .int (iI ((pos + (-1)) + (-1)))), (0, .int (iI xx)), (2, .ref vb), (6, .int (iI sg))]) hx hb d_JI_getChars_110 hl rfl (by decide) rfl (fun ls hl => ?_)
            refine lv_iload hx hb d_JI_getChars_113 (lv_at hl 0 rfl) ?_
            refine ai_bipush (x := 45) hx hb d_JI_getChars_115 (by decide +kernel) ?_
            refine ma_bst hx hb hK hP hD hS 0 0 rfl rfl (h := (upF f (Int.toNat (pos + (-1))) (48 + (-xx) % 10))) (v := 45) (by omega) (by omega) (by omega) d_JI_getChars_117 (fun H locs hP hD hS => ?_)
            have hP : va_P D CL [(vb, .inl (cB, cp, .inl (fun j => iI ((upF (upF f (Int.toNat (pos + (-1))) (48 + (-xx) % 10)) (Int.toNat ((pos + (-1)) + (-1))) 45) j))))] H := hP
            have hD : va_D A [(vb, .inl (cB, cp, .inl (fun j => iI ((upF (upF f (Int.toNat (pos + (-1))) (48 + (-xx) % 10)) (Int.toNat ((pos + (-1)) + (-1))) 45) j))))] := hD
            refine lv_iload hx hb d_JI_getChars_118 (lv_at hl 0 rfl) ?_
            exact gm_iret ((upF (upF f (Int.toNat (pos + (-1))) (48 + (-xx) % 10)) (Int.toNat ((pos + (-1)) + (-1))) 45)) hx hb hr hlk d_JI_getChars_120 hP hD hS (Nat.le_of_ble_eq_true rfl) (Nat.le_of_ble_eq_true rfl) (by omega) (show (∀ j : Nat, 0 ≤ (upF (upF f (Int.toNat (pos + (-1))) (48 + (-xx) % 10)) (Int.toNat ((pos + (-1)) + (-1))) 45) j ∧ (upF (upF f (Int.toNat (pos + (-1))) (48 + (-xx) % 10)) (Int.toNat ((pos + (-1)) + (-1))) 45) j ≤ 127) ∧ (∀ j : Nat, (j : Int) < b0 → (upF (upF f (Int.toNat (pos + (-1))) (48 + (-xx) % 10)) (Int.toNat ((pos + (-1)) + (-1))) 45) j = tx j) ∧ PT (upF (upF f (Int.toNat (pos + (-1))) (48 + (-xx) % 10)) (Int.toNat ((pos + (-1)) + (-1))) 45) (Int.toNat b0) (wr x) from ⟨upF_rng f3 (by decide), upF_lo f4 (by omega), by rw [wr_neg (by omega), show Int.toNat b0 = Int.toNat ((pos + (-1)) + (-1)) by omega]; exact PT.cons (by rw [show Int.toNat ((pos + (-1)) + (-1)) + 1 = Int.toNat (b0 + sg) by omega]; exact f5)⟩)
        · skip
          obtain ⟨⟨f1, f2⟩, f3, f4, f5⟩ := hg.two (by omega)
          have d2 := dgn_2 (w := -xx) (by omega)
          refine lv_aload_n hx hb d_JI_getChars_91 rfl (lv_at hl 2 rfl) ?_
          refine ai_iinc (k := 0) (lv' := [(5, .int (iI ((pos + (-1)) + (-1)))), (0, .int (iI xx)), (2, .ref vb), (6, .int (iI sg))]) hx hb d_JI_getChars_92 hl rfl (by decide) rfl (fun ls hl => ?_)
          refine lv_iload hx hb d_JI_getChars_95 (lv_at hl 0 rfl) ?_
          refine va_gets hx hb hy2 hS hown (hts _ k_866) (fun _ h9 => h9) d_JI_getChars_97 ?_
          refine lv_iload_n hx hb d_JI_getChars_100 rfl (lv_at hl 1 rfl) ?_
          refine ai_ineg hx hb d_JI_getChars_101 ?_
          refine ma_tb hx hb ht2 hS (by omega) d_JI_getChars_102 (v := .int (iI (48 + (-xx) / 10))) (dTen_at (by omega)) ?_
          refine ma_bst hx hb hK hP hD hS 0 0 rfl rfl (h := (upF f (Int.toNat (pos + (-1))) (48 + (-xx) % 10))) (v := 48 + (-xx) / 10) (by omega) (by omega) (by omega) d_JI_getChars_103 (fun H locs hP hD hS => ?_)
          have hP : va_P D CL [(vb, .inl (cB, cp, .inl (fun j => iI ((upF (upF f (Int.toNat (pos + (-1))) (48 + (-xx) % 10)) (Int.toNat ((pos + (-1)) + (-1))) (48 + (-xx) / 10)) j))))] H := hP
          have hD : va_D A [(vb, .inl (cB, cp, .inl (fun j => iI ((upF (upF f (Int.toNat (pos + (-1))) (48 + (-xx) % 10)) (Int.toNat ((pos + (-1)) + (-1))) (48 + (-xx) / 10)) j))))] := hD
          refine lv_iload hx hb d_JI_getChars_104 (lv_at hl 3 rfl) ?_
          refine ai_if_eq hx hb d_JI_getChars_106 rfl (by omega) (fun h106 => ?_) (fun h106 => ?_)
          · skip
            refine lv_iload hx hb d_JI_getChars_118 (lv_at hl 0 rfl) ?_
            exact gm_iret ((upF (upF f (Int.toNat (pos + (-1))) (48 + (-xx) % 10)) (Int.toNat ((pos + (-1)) + (-1))) (48 + (-xx) / 10))) hx hb hr hlk d_JI_getChars_120 hP hD hS (Nat.le_of_ble_eq_true rfl) (Nat.le_of_ble_eq_true rfl) (by omega) (show (∀ j : Nat, 0 ≤ (upF (upF f (Int.toNat (pos + (-1))) (48 + (-xx) % 10)) (Int.toNat ((pos + (-1)) + (-1))) (48 + (-xx) / 10)) j ∧ (upF (upF f (Int.toNat (pos + (-1))) (48 + (-xx) % 10)) (Int.toNat ((pos + (-1)) + (-1))) (48 + (-xx) / 10)) j ≤ 127) ∧ (∀ j : Nat, (j : Int) < b0 → (upF (upF f (Int.toNat (pos + (-1))) (48 + (-xx) % 10)) (Int.toNat ((pos + (-1)) + (-1))) (48 + (-xx) / 10)) j = tx j) ∧ PT (upF (upF f (Int.toNat (pos + (-1))) (48 + (-xx) % 10)) (Int.toNat ((pos + (-1)) + (-1))) (48 + (-xx) / 10)) (Int.toNat b0) (wr x) from ⟨f3, f4, by rw [wr_pos (by omega), show Int.toNat b0 = Int.toNat (b0 + sg) by omega]; exact f5⟩)
          · skip
            refine lv_aload_n hx hb d_JI_getChars_109 rfl (lv_at hl 2 rfl) ?_
            refine ai_iinc (k := 0) (lv' := [(5, .int (iI (((pos + (-1)) + (-1)) + (-1)))), (0, .int (iI xx)), (2, .ref vb), (6, .int (iI sg))]) hx hb d_JI_getChars_110 hl rfl (by decide) rfl (fun ls hl => ?_)
            refine lv_iload hx hb d_JI_getChars_113 (lv_at hl 0 rfl) ?_
            refine ai_bipush (x := 45) hx hb d_JI_getChars_115 (by decide +kernel) ?_
            refine ma_bst hx hb hK hP hD hS 0 0 rfl rfl (h := (upF (upF f (Int.toNat (pos + (-1))) (48 + (-xx) % 10)) (Int.toNat ((pos + (-1)) + (-1))) (48 + (-xx) / 10))) (v := 45) (by omega) (by omega) (by omega) d_JI_getChars_117 (fun H locs hP hD hS => ?_)
            have hP : va_P D CL [(vb, .inl (cB, cp, .inl (fun j => iI ((upF (upF (upF f (Int.toNat (pos + (-1))) (48 + (-xx) % 10)) (Int.toNat ((pos + (-1)) + (-1))) (48 + (-xx) / 10)) (Int.toNat (((pos + (-1)) + (-1)) + (-1))) 45) j))))] H := hP
            have hD : va_D A [(vb, .inl (cB, cp, .inl (fun j => iI ((upF (upF (upF f (Int.toNat (pos + (-1))) (48 + (-xx) % 10)) (Int.toNat ((pos + (-1)) + (-1))) (48 + (-xx) / 10)) (Int.toNat (((pos + (-1)) + (-1)) + (-1))) 45) j))))] := hD
            refine lv_iload hx hb d_JI_getChars_118 (lv_at hl 0 rfl) ?_
            exact gm_iret ((upF (upF (upF f (Int.toNat (pos + (-1))) (48 + (-xx) % 10)) (Int.toNat ((pos + (-1)) + (-1))) (48 + (-xx) / 10)) (Int.toNat (((pos + (-1)) + (-1)) + (-1))) 45)) hx hb hr hlk d_JI_getChars_120 hP hD hS (Nat.le_of_ble_eq_true rfl) (Nat.le_of_ble_eq_true rfl) (by omega) (show (∀ j : Nat, 0 ≤ (upF (upF (upF f (Int.toNat (pos + (-1))) (48 + (-xx) % 10)) (Int.toNat ((pos + (-1)) + (-1))) (48 + (-xx) / 10)) (Int.toNat (((pos + (-1)) + (-1)) + (-1))) 45) j ∧ (upF (upF (upF f (Int.toNat (pos + (-1))) (48 + (-xx) % 10)) (Int.toNat ((pos + (-1)) + (-1))) (48 + (-xx) / 10)) (Int.toNat (((pos + (-1)) + (-1)) + (-1))) 45) j ≤ 127) ∧ (∀ j : Nat, (j : Int) < b0 → (upF (upF (upF f (Int.toNat (pos + (-1))) (48 + (-xx) % 10)) (Int.toNat ((pos + (-1)) + (-1))) (48 + (-xx) / 10)) (Int.toNat (((pos + (-1)) + (-1)) + (-1))) 45) j = tx j) ∧ PT (upF (upF (upF f (Int.toNat (pos + (-1))) (48 + (-xx) % 10)) (Int.toNat ((pos + (-1)) + (-1))) (48 + (-xx) / 10)) (Int.toNat (((pos + (-1)) + (-1)) + (-1))) 45) (Int.toNat b0) (wr x) from ⟨upF_rng f3 (by decide), upF_lo f4 (by omega), by rw [wr_neg (by omega), show Int.toNat b0 = Int.toNat (((pos + (-1)) + (-1)) + (-1)) by omega]; exact PT.cons (by rw [show Int.toNat (((pos + (-1)) + (-1)) + (-1)) + 1 = Int.toNat (b0 + sg) by omega]; exact f5)⟩)
      · skip
        refine lv_iload_n hx hb d_JI_getChars_28 rfl (lv_at hl 0 rfl) ?_
        refine ai_bipush (x := 100) hx hb d_JI_getChars_29 (by decide +kernel) ?_
        refine ai_idiv hx hb d_JI_getChars_31 (by omega) (by omega) (by omega) ?_
        refine ai_nmI hx hb (fun v32 e32 => ?_)
        refine lv_istore_n (lv' := [(3, .int (iI v32)), (0, .int (iI xx)), (2, .ref vb), (5, .int (iI pos)), (6, .int (iI sg))]) hx hb d_JI_getChars_32 rfl hl (by decide) rfl (fun ls hl => ?_)
        have q32 := td_neg (x := xx) (by omega)
        rw [← e32] at q32
        refine lv_iload_n hx hb d_JI_getChars_33 rfl (lv_at hl 0 rfl) ?_
        refine ai_bipush (x := 100) hx hb d_JI_getChars_34 (by decide +kernel) ?_
        refine ai_imul hx hb d_JI_getChars_36 ?_
        refine lv_iload_n hx hb d_JI_getChars_37 rfl (lv_at hl 1 rfl) ?_
        refine ai_isub hx hb d_JI_getChars_38 ?_
        refine ai_nmI hx hb (fun v39 e39 => ?_)
        refine lv_istore (lv' := [(4, .int (iI v39)), (3, .int (iI v32)), (0, .int (iI xx)), (2, .ref vb), (5, .int (iI pos)), (6, .int (iI sg))]) hx hb d_JI_getChars_39 hl (by decide) rfl (fun ls hl => ?_)
        have r39 : v39 = (-xx) % 100 := by omega
        have d100 := dgn100 (w := -xx) (by omega)
        have d101 := (dgn_ok (v := (-xx) / 100) (by omega)).1
        refine lv_iload_n hx hb d_JI_getChars_41 rfl (lv_at hl 1 rfl) ?_
        refine lv_istore_n (lv' := [(0, .int (iI v32)), (4, .int (iI v39)), (3, .int (iI v32)), (2, .ref vb), (5, .int (iI pos)), (6, .int (iI sg))]) hx hb d_JI_getChars_42 rfl hl (by decide) rfl (fun ls hl => ?_)
        refine lv_aload_n hx hb d_JI_getChars_43 rfl (lv_at hl 3 rfl) ?_
        refine ai_iinc (k := 4) (lv' := [(5, .int (iI (pos + (-1)))), (0, .int (iI v32)), (4, .int (iI v39)), (3, .int (iI v32)), (2, .ref vb), (6, .int (iI sg))]) hx hb d_JI_getChars_44 hl rfl (by decide) rfl (fun ls hl => ?_)
        refine lv_iload hx hb d_JI_getChars_47 (lv_at hl 0 rfl) ?_
        refine va_gets hx hb hy1 hS hown (hts _ k_864) (fun _ h9 => h9) d_JI_getChars_49 ?_
        refine lv_iload hx hb d_JI_getChars_52 (lv_at hl 2 rfl) ?_
        refine ma_tb hx hb ht1 hS (by omega) d_JI_getChars_54 (v := .int (iI (48 + v39 % 10))) (dOne_at (by omega)) ?_
        refine ma_bst hx hb hK hP hD hS 0 0 rfl rfl (h := f) (v := 48 + v39 % 10) (by omega) (by omega) (by omega) d_JI_getChars_55 (fun H locs hP hD hS => ?_)
        have hP : va_P D CL [(vb, .inl (cB, cp, .inl (fun j => iI ((upF f (Int.toNat (pos + (-1))) (48 + v39 % 10)) j))))] H := hP
        have hD : va_D A [(vb, .inl (cB, cp, .inl (fun j => iI ((upF f (Int.toNat (pos + (-1))) (48 + v39 % 10)) j))))] := hD
        refine lv_aload_n hx hb d_JI_getChars_56 rfl (lv_at hl 4 rfl) ?_
        refine ai_iinc (k := 0) (lv' := [(5, .int (iI ((pos + (-1)) + (-1)))), (0, .int (iI v32)), (4, .int (iI v39)), (3, .int (iI v32)), (2, .ref vb), (6, .int (iI sg))]) hx hb d_JI_getChars_57 hl rfl (by decide) rfl (fun ls hl => ?_)
        refine lv_iload hx hb d_JI_getChars_60 (lv_at hl 0 rfl) ?_
        refine va_gets hx hb hy2 hS hown (hts _ k_866) (fun _ h9 => h9) d_JI_getChars_62 ?_
        refine lv_iload hx hb d_JI_getChars_65 (lv_at hl 2 rfl) ?_
        refine ma_tb hx hb ht2 hS (by omega) d_JI_getChars_67 (v := .int (iI (48 + v39 / 10))) (dTen_at (by omega)) ?_
        refine ma_bst hx hb hK hP hD hS 0 0 rfl rfl (h := (upF f (Int.toNat (pos + (-1))) (48 + v39 % 10))) (v := 48 + v39 / 10) (by omega) (by omega) (by omega) d_JI_getChars_68 (fun H locs hP hD hS => ?_)
        have hP : va_P D CL [(vb, .inl (cB, cp, .inl (fun j => iI ((upF (upF f (Int.toNat (pos + (-1))) (48 + v39 % 10)) (Int.toNat ((pos + (-1)) + (-1))) (48 + v39 / 10)) j))))] H := hP
        have hD : va_D A [(vb, .inl (cB, cp, .inl (fun j => iI ((upF (upF f (Int.toNat (pos + (-1))) (48 + v39 % 10)) (Int.toNat ((pos + (-1)) + (-1))) (48 + v39 / 10)) j))))] := hD
        refine lv_goto hx hb d_JI_getChars_69 rfl ?_
        exact ih _ _ v32 ((pos + (-1)) + (-1)) sg (upF (upF f (Int.toNat (pos + (-1))) (48 + v39 % 10)) (Int.toNat ((pos + (-1)) + (-1))) (48 + v39 / 10)) ((48 + v39 / 10) :: (48 + v39 % 10) :: T) _ hP hD hS (lv_sub hl [1, 4, 0, 5] rfl) (by rw [show -v32 = (-xx) / 100 by omega]; exact hg.step (by omega) r39) hs (by omega)
  refine lv_iload_n hx hb d_JI_getChars_0 rfl (lv_at hl 1 rfl) ?_
  refine lv_istore (lv' := [(5, .int (iI ix)), (0, .int (iI x)), (1, .int (iI ix)), (2, .ref vb)]) hx hb d_JI_getChars_1 hl (by decide) rfl (fun ls hl => ?_)
  refine lv_iload_n hx hb d_JI_getChars_3 rfl (lv_at hl 1 rfl) ?_
  refine ai_if_ge hx hb d_JI_getChars_4 rfl (by omega) (fun h4 => ?_) (fun h4 => ?_)
  · skip
    have hs9 : (x < 0 ∧ (0 : Int) = 1) ∨ (¬ x < 0 ∧ (0 : Int) = 0) := by omega
    refine ai_iconst hx hb d_JI_getChars_11 ?_
    refine lv_istore (lv' := [(6, .int (iI 0)), (5, .int (iI ix)), (0, .int (iI x)), (1, .int (iI ix)), (2, .ref vb)]) hx hb d_JI_getChars_12 hl (by decide) rfl (fun ls hl => ?_)
    refine lv_iload hx hb d_JI_getChars_14 (lv_at hl 0 rfl) ?_
    refine ai_if_ne hx hb d_JI_getChars_16 rfl (by omega) (fun h16 => by exfalso; omega) (fun h16 => ?_)
    refine lv_iload_n hx hb d_JI_getChars_19 rfl (lv_at hl 2 rfl) ?_
    refine ai_ineg hx hb d_JI_getChars_20 ?_
    refine ai_nmI hx hb (fun v21 e21 => ?_)
    refine lv_istore_n (lv' := [(0, .int (iI v21)), (6, .int (iI 0)), (5, .int (iI ix)), (1, .int (iI ix)), (2, .ref vb)]) hx hb d_JI_getChars_21 rfl hl (by decide) rfl (fun ls hl => ?_)
    exact hJ22 _ _ _ v21 ix 0 tx ([]) _ hP hD hS (lv_sub hl [0, 4, 2, 1] rfl) (GC.start rx (by unfold ab; rw [if_neg (by omega)]; omega) hb0.1 hs9 hix htr) hs9 (Nat.lt_succ_self _)
  · skip
    have hs9 : (x < 0 ∧ (1 : Int) = 1) ∨ (¬ x < 0 ∧ (1 : Int) = 0) := by omega
    refine ai_iconst hx hb d_JI_getChars_7 ?_
    refine lv_goto hx hb d_JI_getChars_8 rfl ?_
    refine lv_istore (lv' := [(6, .int (iI 1)), (5, .int (iI ix)), (0, .int (iI x)), (1, .int (iI ix)), (2, .ref vb)]) hx hb d_JI_getChars_12 hl (by decide) rfl (fun ls hl => ?_)
    refine lv_iload hx hb d_JI_getChars_14 (lv_at hl 0 rfl) ?_
    refine ai_if_ne hx hb d_JI_getChars_16 rfl (by omega) (fun h16 => ?_) (fun h16 => by exfalso; omega)
    exact hJ22 _ _ _ x ix 1 tx ([]) _ hP hD hS (lv_sub hl [2, 4, 1, 0] rfl) (GC.start rx (by unfold ab; rw [if_pos (by omega)]) hb0.1 hs9 hix htr) hs9 (Nat.lt_succ_self _)
set_option maxHeartbeats 4000000 in
set_option maxRecDepth 100000 in
theorem ct_JA_append_IAbstractStrin (l : Launch) (D : va_G) (sb : Nat) (vb : Nat) (cB : ClassId) (cp : Nat) (ml : Int) (z : Int) (tx : Nat → Int) (L : List Int) (v : Int) (sz : Nat) (hR9 : RWO cp z tx L) (hl24 : L.length + (wr v).length ≤ 24) (rv : -99999999 ≤ v ∧ v ≤ 99999999) : GMet l y_JA_append_IAbstractStrin w_JA_append_IAbstractStrin 4 104 1 34 [.ref sb, .int (iI v)] D [(cB, .byte)] [(sb, .inr (0, [.ref vb, .int (iI 0), .int (iI ml), .int (iI z)])), (vb, .inl (cB, cp, .inl (fun j => iI (tx j))))] sz (fun U => SA (va_A [(sb, .inr (0, [.ref vb, .int (iI 0), .int (iI ml), .int (iI z)])), (vb, .inl (cB, cp, .inl (fun j => iI (tx j))))] sz) U) (GQr D (fun (u : Nat × Nat × (Nat → Int)) => sb) (fun (u : Nat × Nat × (Nat → Int)) => RWO u.2.1 (z + ((wr v).length : Int)) u.2.2 (L ++ wr v)) (fun (u : Nat × Nat × (Nat → Int)) => ([(sb, .inr (0, [.ref u.1, .int (iI 0), .int (iI ml), .int (iI (z + ((wr v).length : Int)))])), (u.1, .inl (cB, u.2.1, .inl (fun j => iI (u.2.2 j))))] : va_W))) := by
  refine gm_of (by decide +kernel) (Nat.le_of_ble_eq_true rfl) ?_
  intro p e s m below meth c ls A hx hb hr hts hown hlk hml hl hN hK hP hD hS hA hAi hnm hsz hX
  subst hsz
  have hown : s.vm.findClass "java/lang/AbstractStringBuilder" = some m.cls := hown
  have hl : lv_has ls 4 [(0, .ref sb), (1, .int (iI v))] := hl
  have hF : _ ∧ _ ∧ _ ∧ _ ∧ _ ∧ _ := ⟨hx, hb, hml, hown, hts, hN⟩
  have hT := hX
  have hT : SA A s := ST.narrow hT hAi
  obtain ⟨hcp, hzc, hL⟩ := hR9
  have htr := hL.2.2
  have hz1 := hL.1
  refine lv_aload_n hx hb d_JA_append_IAbstractStrin_0 rfl (lv_at hl 0 rfl) ?_
  refine va_get (D := D) (cl := CL) (ci := 0) (v := .int (iI z)) (C := "java/lang/StringBuilder") (T := T_JB) (N := 4) hx hb hts in_JB hown hK hP 0 rfl rfl 3 (by decide) (hts _ k_193) (fun _ h9 => h9) rfl d_JA_append_IAbstractStrin_1 ?_
  refine lv_istore_n (lv' := [(2, .int (iI z)), (0, .ref sb), (1, .int (iI v))]) hx hb d_JA_append_IAbstractStrin_4 rfl hl (by decide) rfl (fun ls hl => ?_)
  refine lv_iload_n hx hb d_JA_append_IAbstractStrin_5 rfl (lv_at hl 0 rfl) ?_
  refine lv_iload_n hx hb d_JA_append_IAbstractStrin_6 rfl (lv_at hl 2 rfl) ?_
  refine ro_S (rest := [.int (iI z)]) (ct_JI_stringSize l v (by omega)) j_JI_stringSize k_858 hF rfl hl.1 rfl ⟨Nat.le_of_ble_eq_true rfl, Nat.le_of_ble_eq_true rfl⟩ (Nat.le_of_ble_eq_true rfl) d_JA_append_IAbstractStrin_7 ⟨(Nat.le_of_ble_eq_true rfl), (Nat.le_of_ble_eq_true rfl)⟩ Bm_true (fun _ _ _ => trivial) ?_
  refine ai_iadd hx hb d_JA_append_IAbstractStrin_10 ?_
  refine lv_istore_n (lv' := [(3, .int (iI (z + ((wr v).length : Int)))), (2, .int (iI z)), (0, .ref sb), (1, .int (iI v))]) hx hb d_JA_append_IAbstractStrin_11 rfl hl (by decide) rfl (fun ls hl => ?_)
  refine lv_aload_n hx hb d_JA_append_IAbstractStrin_12 rfl (lv_at hl 2 rfl) ?_
  refine lv_iload_n hx hb d_JA_append_IAbstractStrin_13 rfl (lv_at hl 0 rfl) ?_
  by_cases hq : z + ((wr v).length : Int) ≤ (cp : Int)
  · skip
    refine rov_V (C := "java/lang/StringBuilder") (rest := []) (ct_JA_ensureCapacityInternal_0 l D sb vb cB cp ml z tx (z + ((wr v).length : Int)) (by omega)) j_JA_ensureCapacityInternal k_266 (sel_priv ⟨by decide +kernel, by decide +kernel⟩ (hts _ k_173) (va_Nw.use rfl (hN.pv 267 (by decide +kernel) (by decide +kernel))) (hts _ j_JA_ensureCapacityInternal.2.2.1) (hts _ k_304) rfl) hF (va_recv (q0 := 0) (ci := 0) hK hP rfl rfl) rfl hl.1 rfl ⟨Nat.le_of_ble_eq_true rfl, Nat.le_of_ble_eq_true rfl⟩ (Nat.le_of_ble_eq_true rfl) d_JA_append_IAbstractStrin_14 ⟨(Nat.le_of_ble_eq_true rfl), (Nat.le_of_ble_eq_true rfl)⟩ RB.m (fun U h1 h2 => ⟨va_K.moved h2.alike hK, by rw [h1]; exact va_P.sub hP [0, 1] rfl⟩) ?_
    have hL9 := hL
    refine lv_aload_n hx hb d_JA_append_IAbstractStrin_17 rfl (lv_at hl 2 rfl) ?_
    refine ro_V (C := "java/lang/StringBuilder") (rest := []) (ct_JA_isLatin1 l D sb vb cB cp ml z tx) j_JA_isLatin1 k_301 (hts _ k_304) hF (va_recv (q0 := 0) (ci := 0) hK hP rfl rfl) rfl hl.1 rfl ⟨Nat.le_of_ble_eq_true rfl, Nat.le_of_ble_eq_true rfl⟩ (Nat.le_of_ble_eq_true rfl) d_JA_append_IAbstractStrin_18 ⟨(Nat.le_of_ble_eq_true rfl), (Nat.le_of_ble_eq_true rfl)⟩ (Bm.and RB.m SA.m) (fun U h1 h2 => ⟨⟨va_K.moved h2.alike hK, by rw [h1]; exact va_P.sub hP [0, 1] rfl⟩, SA.at hT hS (fun _ h9 => h9.elim) U h1 h2⟩) ?_
    refine ai_ifeqB hx hb d_JA_append_IAbstractStrin_21 rfl (fun h21 => absurd trivial h21) (fun h21 => ?_)
    refine lv_iload_n hx hb d_JA_append_IAbstractStrin_24 rfl (lv_at hl 3 rfl) ?_
    refine lv_iload_n hx hb d_JA_append_IAbstractStrin_25 rfl (lv_at hl 0 rfl) ?_
    refine lv_aload_n hx hb d_JA_append_IAbstractStrin_26 rfl (lv_at hl 2 rfl) ?_
    refine va_get (D := D) (cl := CL) (ci := 0) (v := .ref vb) (C := "java/lang/StringBuilder") (T := T_JB) (N := 4) hx hb hts in_JB hown hK hP 0 rfl rfl 0 (by decide) (hts _ k_190) (fun _ h9 => h9) rfl d_JA_append_IAbstractStrin_27 ?_
    refine gm_ci (wr := [(sb, .inr (0, [.ref vb, .int (iI 0), .int (iI ml), .int (iI z)]))]) (gr_S (rest := []) (ct_JI_getChars l D vb cB cp tx v (z + ((wr v).length : Int)) z s.heap.size (by omega) (by omega) (by omega) hL9.2.2) j_JI_getChars k_861 hF (gm_pS hN hK (va_P.sub hP [1] rfl) (va_D.sub hD [1] rfl rfl) SA.m (fun U h1 h2 => SA.at hT hS (va_free hD hS hA [1] rfl) U h1 h2)) rfl rfl rfl hl.1 rfl ⟨Nat.le_of_ble_eq_true rfl, Nat.le_of_ble_eq_true rfl⟩ (Nat.le_of_ble_eq_true rfl) d_JA_append_IAbstractStrin_30 ⟨(Nat.le_of_ble_eq_true rfl), (Nat.le_of_ble_eq_true rfl)⟩) hP hD hS hA [1] [0] rfl rfl rfl (by decide) (fun u30 H locs hΦ30 hz30 hP hD hS => ?_)
    have hΦ30 : (∀ j : Nat, 0 ≤ u30 j ∧ u30 j ≤ 127) ∧ (∀ j : Nat, (j : Int) < z → u30 j = tx j) ∧ PT u30 (Int.toNat z) (wr v) := hΦ30
    have hP : va_P D CL [(sb, .inr (0, [.ref vb, .int (iI 0), .int (iI ml), .int (iI z)])), (vb, .inl (cB, cp, .inl (fun j => iI (u30 j))))] H := hP
    have hD : va_D A [(sb, .inr (0, [.ref vb, .int (iI 0), .int (iI ml), .int (iI z)])), (vb, .inl (cB, cp, .inl (fun j => iI (u30 j))))] := hD
    refine lv_pop hx hb d_JA_append_IAbstractStrin_33 rfl ?_
    refine lv_goto hx hb d_JA_append_IAbstractStrin_34 rfl ?_
    refine lv_aload_n hx hb d_JA_append_IAbstractStrin_48 rfl (lv_at hl 2 rfl) ?_
    refine lv_iload_n hx hb d_JA_append_IAbstractStrin_49 rfl (lv_at hl 0 rfl) ?_
    refine va_put (D := D) (cl := CL) (ci := 0) (v := .int (iI (z + ((wr v).length : Int)))) (ty := .int) (C := "java/lang/StringBuilder") (T := T_JB) (N := 4) hx hb hts in_JB ty_JB ty_JB_ok nm_JB hown hK hP hD hS 0 rfl rfl 3 (by decide) (hts _ k_193) (fun _ h9 => h9) rfl (by decide +kernel) rfl rfl (Nat.le_of_ble_eq_true rfl) d_JA_append_IAbstractStrin_50 (fun H locs hP hD hS => ?_)
    have hP : va_P D CL [(sb, .inr (0, [.ref vb, .int (iI 0), .int (iI ml), .int (iI (z + ((wr v).length : Int)))])), (vb, .inl (cB, cp, .inl (fun j => iI (u30 j))))] H := hP
    have hD : va_D A [(sb, .inr (0, [.ref vb, .int (iI 0), .int (iI ml), .int (iI (z + ((wr v).length : Int)))])), (vb, .inl (cB, cp, .inl (fun j => iI (u30 j))))] := hD
    refine lv_aload_n hx hb d_JA_append_IAbstractStrin_53 rfl (lv_at hl 2 rfl) ?_
    exact gm_aret (vb, cp, u30) hx hb hr (Or.inl ⟨_, rfl⟩) hlk d_JA_append_IAbstractStrin_54 hP hD hS (Nat.le_of_ble_eq_true rfl) (Nat.le_of_ble_eq_true rfl) rfl (show RWO cp (z + ((wr v).length : Int)) u30 (L ++ wr v) from ⟨(by first | exact hcp | exact Or.inr rfl), (by omega), hL9.app hΦ30.2.1 hΦ30.2.2 hΦ30.1 hl24⟩)
  · skip
    refine gm_cv (wr := []) (gr_V (C := "java/lang/StringBuilder") (rest := []) (ct_JA_ensureCapacityInternal_1 l D sb vb cB cp ml z tx (z + ((wr v).length : Int)) s.heap.size (by omega) htr) j_JA_ensureCapacityInternal k_266 (sel_priv ⟨by decide +kernel, by decide +kernel⟩ (hts _ k_173) (va_Nw.use rfl (hN.pv 267 (by decide +kernel) (by decide +kernel))) (hts _ j_JA_ensureCapacityInternal.2.2.1) (hts _ k_304) rfl) hF (gm_pV (va_recv (q0 := 0) (ci := 0) hK hP rfl rfl) hN hK (va_P.sub hP [0, 1] rfl) (va_D.sub hD [0, 1] rfl rfl) Bm_true (fun _ _ _ => trivial)) rfl rfl rfl hl.1 rfl ⟨Nat.le_of_ble_eq_true rfl, Nat.le_of_ble_eq_true rfl⟩ (Nat.le_of_ble_eq_true rfl) d_JA_append_IAbstractStrin_14 ⟨(Nat.le_of_ble_eq_true rfl), (Nat.le_of_ble_eq_true rfl)⟩) hP hD hS hA [0, 1] [] rfl rfl rfl (by decide) (fun u14 H locs hΦ14 hz14 hP hD hS => ?_)
    have hΦ14 : True := hΦ14
    have hP : va_P D CL [(sb, .inr (0, [.ref u14, .int (iI 0), .int (iI ml), .int (iI z)])), (u14, .inl (cB, 34, .inl (fun j => iI ((cpB tx (fun _ => (0 : Int)) cp) j))))] H := hP
    have hD : va_D A [(sb, .inr (0, [.ref u14, .int (iI 0), .int (iI ml), .int (iI z)])), (u14, .inl (cB, 34, .inl (fun j => iI ((cpB tx (fun _ => (0 : Int)) cp) j))))] := hD
    have hL9 := hL.grow (k := cp) (by omega)
    refine lv_aload_n hx hb d_JA_append_IAbstractStrin_17 rfl (lv_at hl 2 rfl) ?_
    refine ro_V (C := "java/lang/StringBuilder") (rest := []) (ct_JA_isLatin1 l D sb u14 cB 34 ml z (cpB tx (fun _ => (0 : Int)) cp)) j_JA_isLatin1 k_301 (hts _ k_304) hF (va_recv (q0 := 0) (ci := 0) hK hP rfl rfl) rfl hl.1 rfl ⟨Nat.le_of_ble_eq_true rfl, Nat.le_of_ble_eq_true rfl⟩ (Nat.le_of_ble_eq_true rfl) d_JA_append_IAbstractStrin_18 ⟨(Nat.le_of_ble_eq_true rfl), (Nat.le_of_ble_eq_true rfl)⟩ (Bm.and RB.m SA.m) (fun U h1 h2 => ⟨⟨va_K.moved h2.alike hK, by rw [h1]; exact va_P.sub hP [0, 1] rfl⟩, SA.at hT hS (fun _ h9 => h9.elim) U h1 h2⟩) ?_
    refine ai_ifeqB hx hb d_JA_append_IAbstractStrin_21 rfl (fun h21 => absurd trivial h21) (fun h21 => ?_)
    refine lv_iload_n hx hb d_JA_append_IAbstractStrin_24 rfl (lv_at hl 3 rfl) ?_
    refine lv_iload_n hx hb d_JA_append_IAbstractStrin_25 rfl (lv_at hl 0 rfl) ?_
    refine lv_aload_n hx hb d_JA_append_IAbstractStrin_26 rfl (lv_at hl 2 rfl) ?_
    refine va_get (D := D) (cl := CL) (ci := 0) (v := .ref u14) (C := "java/lang/StringBuilder") (T := T_JB) (N := 4) hx hb hts in_JB hown hK hP 0 rfl rfl 0 (by decide) (hts _ k_190) (fun _ h9 => h9) rfl d_JA_append_IAbstractStrin_27 ?_
    refine gm_ci (wr := [(sb, .inr (0, [.ref u14, .int (iI 0), .int (iI ml), .int (iI z)]))]) (gr_S (rest := []) (ct_JI_getChars l D u14 cB 34 (cpB tx (fun _ => (0 : Int)) cp) v (z + ((wr v).length : Int)) z H.size (by omega) (by omega) (by omega) hL9.2.2) j_JI_getChars k_861 hF (gm_pS hN hK (va_P.sub hP [1] rfl) (va_D.sub hD [1] rfl rfl) SA.m (fun U h1 h2 => SA.at hT hS (va_free hD hS hA [1] rfl) U h1 h2)) rfl rfl rfl hl.1 rfl ⟨Nat.le_of_ble_eq_true rfl, Nat.le_of_ble_eq_true rfl⟩ (Nat.le_of_ble_eq_true rfl) d_JA_append_IAbstractStrin_30 ⟨(Nat.le_of_ble_eq_true rfl), (Nat.le_of_ble_eq_true rfl)⟩) hP hD hS hA [1] [0] rfl rfl rfl (by decide) (fun u30 H locs hΦ30 hz30 hP hD hS => ?_)
    have hΦ30 : (∀ j : Nat, 0 ≤ u30 j ∧ u30 j ≤ 127) ∧ (∀ j : Nat, (j : Int) < z → u30 j = (cpB tx (fun _ => (0 : Int)) cp) j) ∧ PT u30 (Int.toNat z) (wr v) := hΦ30
    have hP : va_P D CL [(sb, .inr (0, [.ref u14, .int (iI 0), .int (iI ml), .int (iI z)])), (u14, .inl (cB, 34, .inl (fun j => iI (u30 j))))] H := hP
    have hD : va_D A [(sb, .inr (0, [.ref u14, .int (iI 0), .int (iI ml), .int (iI z)])), (u14, .inl (cB, 34, .inl (fun j => iI (u30 j))))] := hD
    refine lv_pop hx hb d_JA_append_IAbstractStrin_33 rfl ?_
    refine lv_goto hx hb d_JA_append_IAbstractStrin_34 rfl ?_
    refine lv_aload_n hx hb d_JA_append_IAbstractStrin_48 rfl (lv_at hl 2 rfl) ?_
    refine lv_iload_n hx hb d_JA_append_IAbstractStrin_49 rfl (lv_at hl 0 rfl) ?_
    refine va_put (D := D) (cl := CL) (ci := 0) (v := .int (iI (z + ((wr v).length : Int)))) (ty := .int) (C := "java/lang/StringBuilder") (T := T_JB) (N := 4) hx hb hts in_JB ty_JB ty_JB_ok nm_JB hown hK hP hD hS 0 rfl rfl 3 (by decide) (hts _ k_193) (fun _ h9 => h9) rfl (by decide +kernel) rfl rfl (Nat.le_of_ble_eq_true rfl) d_JA_append_IAbstractStrin_50 (fun H locs hP hD hS => ?_)
    have hP : va_P D CL [(sb, .inr (0, [.ref u14, .int (iI 0), .int (iI ml), .int (iI (z + ((wr v).length : Int)))])), (u14, .inl (cB, 34, .inl (fun j => iI (u30 j))))] H := hP
    have hD : va_D A [(sb, .inr (0, [.ref u14, .int (iI 0), .int (iI ml), .int (iI (z + ((wr v).length : Int)))])), (u14, .inl (cB, 34, .inl (fun j => iI (u30 j))))] := hD
    refine lv_aload_n hx hb d_JA_append_IAbstractStrin_53 rfl (lv_at hl 2 rfl) ?_
    exact gm_aret (u14, 34, u30) hx hb hr (Or.inl ⟨_, rfl⟩) hlk d_JA_append_IAbstractStrin_54 hP hD hS (Nat.le_of_ble_eq_true rfl) (Nat.le_of_ble_eq_true rfl) rfl (show RWO 34 (z + ((wr v).length : Int)) u30 (L ++ wr v) from ⟨(by first | exact hcp | exact Or.inr rfl), (by omega), hL9.app hΦ30.2.1 hΦ30.2.2 hΦ30.1 hl24⟩)
set_option maxHeartbeats 4000000 in
set_option maxRecDepth 100000 in
theorem ct_JB_append_IStringBuilder (l : Launch) (D : va_G) (sb : Nat) (vb : Nat) (cB : ClassId) (cp : Nat) (ml : Int) (z : Int) (tx : Nat → Int) (L : List Int) (v : Int) (sz : Nat) (hR9 : RWO cp z tx L) (hl24 : L.length + (wr v).length ≤ 24) (rv : -99999999 ≤ v ∧ v ≤ 99999999) : GMet l y_JB_append_IStringBuilder w_JB_append_IStringBuilder 5 127 1 34 [.ref sb, .int (iI v)] D [(cB, .byte)] [(sb, .inr (0, [.ref vb, .int (iI 0), .int (iI ml), .int (iI z)])), (vb, .inl (cB, cp, .inl (fun j => iI (tx j))))] sz (fun U => SA (va_A [(sb, .inr (0, [.ref vb, .int (iI 0), .int (iI ml), .int (iI z)])), (vb, .inl (cB, cp, .inl (fun j => iI (tx j))))] sz) U) (GQr D (fun (u : Nat × Nat × (Nat → Int)) => sb) (fun (u : Nat × Nat × (Nat → Int)) => RWO u.2.1 (z + ((wr v).length : Int)) u.2.2 (L ++ wr v)) (fun (u : Nat × Nat × (Nat → Int)) => ([(sb, .inr (0, [.ref u.1, .int (iI 0), .int (iI ml), .int (iI (z + ((wr v).length : Int)))])), (u.1, .inl (cB, u.2.1, .inl (fun j => iI (u.2.2 j))))] : va_W))) := by
  refine gm_of (by decide +kernel) (Nat.le_of_ble_eq_true rfl) ?_
  intro p e s m below meth c ls A hx hb hr hts hown hlk hml hl hN hK hP hD hS hA hAi hnm hsz hX
  subst hsz
  have hown : s.vm.findClass "java/lang/StringBuilder" = some m.cls := hown
  have hl : lv_has ls 2 [(0, .ref sb), (1, .int (iI v))] := hl
  have hF : _ ∧ _ ∧ _ ∧ _ ∧ _ ∧ _ := ⟨hx, hb, hml, hown, hts, hN⟩
  have hT := hX
  have hT : SA A s := ST.narrow hT hAi
  refine lv_aload_n hx hb d_JB_append_IStringBuilder_0 rfl (lv_at hl 0 rfl) ?_
  refine lv_iload_n hx hb d_JB_append_IStringBuilder_1 rfl (lv_at hl 1 rfl) ?_
  refine gm_cr (wr := []) (gr_SU (C := "java/lang/StringBuilder") (rest := []) (hK.1 0 _ rfl).2 (ct_JA_append_IAbstractStrin l D sb vb cB cp ml z tx L v s.heap.size hR9 hl24 (by omega)) j_JA_append_IAbstractStrin k_855 k_1242 (gw_t 202 (by decide +kernel) (by decide +kernel)) (by decide) hF (gm_pV (va_recv (q0 := 0) (ci := 0) hK hP rfl rfl) hN hK (va_P.sub hP [0, 1] rfl) (va_D.sub hD [0, 1] rfl rfl) SA.m (fun U h1 h2 => SA.at hT hS (va_free hD hS hA [0, 1] rfl) U h1 h2)) rfl rfl rfl hl.1 rfl ⟨Nat.le_of_ble_eq_true rfl, Nat.le_of_ble_eq_true rfl⟩ (Nat.le_of_ble_eq_true rfl) d_JB_append_IStringBuilder_2 ⟨(Nat.le_of_ble_eq_true rfl), (Nat.le_of_ble_eq_true rfl)⟩) hP hD hS hA [0, 1] [] rfl rfl rfl (by decide) (fun u2 H locs hΦ2 hz2 hP hD hS => ?_)
  obtain ⟨vo2, co2, fo2⟩ := u2
  have hΦ2 : RWO co2 (z + ((wr v).length : Int)) fo2 (L ++ wr v) := hΦ2
  have hP : va_P D CL [(sb, .inr (0, [.ref vo2, .int (iI 0), .int (iI ml), .int (iI (z + ((wr v).length : Int)))])), (vo2, .inl (cB, co2, .inl (fun j => iI (fo2 j))))] H := hP
  have hD : va_D A [(sb, .inr (0, [.ref vo2, .int (iI 0), .int (iI ml), .int (iI (z + ((wr v).length : Int)))])), (vo2, .inl (cB, co2, .inl (fun j => iI (fo2 j))))] := hD
  refine lv_pop hx hb d_JB_append_IStringBuilder_5 rfl ?_
  refine lv_aload_n hx hb d_JB_append_IStringBuilder_6 rfl (lv_at hl 0 rfl) ?_
  exact gm_aret (vo2, co2, fo2) hx hb hr (Or.inl ⟨_, rfl⟩) hlk d_JB_append_IStringBuilder_7 hP hD hS (Nat.le_of_ble_eq_true rfl) (Nat.le_of_ble_eq_true rfl) rfl (show RWO co2 (z + ((wr v).length : Int)) fo2 (L ++ wr v) from hΦ2)
set_option maxHeartbeats 4000000 in
set_option maxRecDepth 100000 in
theorem ct_JA_setLength (l : Launch) (D : va_G) (sb : Nat) (vb : Nat) (cB : ClassId) (cp : Nat) (ml : Int) (z : Int) (tx : Nat → Int) (sz : Nat) (rz : 0 ≤ z ∧ z ≤ cp ∧ cp ≤ 1000) : GMet l y_JA_setLength w_JA_setLength 1 22 0 0 [.ref sb, .int (iI 0)] D [(cB, .byte)] [(sb, .inr (0, [.ref vb, .int (iI 0), .int (iI ml), .int (iI z)])), (vb, .inl (cB, cp, .inl (fun j => iI (tx j))))] sz (fun _ => True) (GQv D (fun (u : Int) => True) (fun (u : Int) => ([(sb, .inr (0, [.ref vb, .int (iI 0), .int (iI u), .int (iI 0)])), (vb, .inl (cB, cp, .inl (fun j => iI (tx j))))] : va_W))) := by
  refine gm_of (by decide +kernel) (Nat.le_of_ble_eq_true rfl) ?_
  intro p e s m below meth c ls A hx hb hr hts hown hlk hml hl hN hK hP hD hS hA hAi hnm hsz hX
  subst hsz
  have hown : s.vm.findClass "java/lang/AbstractStringBuilder" = some m.cls := hown
  have hl : lv_has ls 2 [(0, .ref sb), (1, .int (iI 0))] := hl
  have hF : _ ∧ _ ∧ _ ∧ _ ∧ _ ∧ _ := ⟨hx, hb, hml, hown, hts, hN⟩
  refine lv_iload_n hx hb d_JA_setLength_0 rfl (lv_at hl 1 rfl) ?_
  refine ai_if_ge hx hb d_JA_setLength_1 rfl (by omega) (fun h1 => ?_) (fun h1 => by exfalso; omega)
  refine lv_aload_n hx hb d_JA_setLength_13 rfl (lv_at hl 0 rfl) ?_
  refine lv_iload_n hx hb d_JA_setLength_14 rfl (lv_at hl 1 rfl) ?_
  refine rov_V (C := "java/lang/StringBuilder") (rest := []) (ct_JA_ensureCapacityInternal_0 l D sb vb cB cp ml z tx 0 (by omega)) j_JA_ensureCapacityInternal k_266 (sel_priv ⟨by decide +kernel, by decide +kernel⟩ (hts _ k_173) (va_Nw.use rfl (hN.pv 267 (by decide +kernel) (by decide +kernel))) (hts _ j_JA_ensureCapacityInternal.2.2.1) (hts _ k_304) rfl) hF (va_recv (q0 := 0) (ci := 0) hK hP rfl rfl) rfl hl.1 rfl ⟨Nat.le_of_ble_eq_true rfl, Nat.le_of_ble_eq_true rfl⟩ (Nat.le_of_ble_eq_true rfl) d_JA_setLength_15 ⟨(Nat.le_of_ble_eq_true rfl), (Nat.le_of_ble_eq_true rfl)⟩ RB.m (fun U h1 h2 => ⟨va_K.moved h2.alike hK, by rw [h1]; exact va_P.sub hP [0, 1] rfl⟩) ?_
  refine lv_aload_n hx hb d_JA_setLength_18 rfl (lv_at hl 0 rfl) ?_
  refine va_get (D := D) (cl := CL) (ci := 0) (v := .int (iI z)) (C := "java/lang/StringBuilder") (T := T_JB) (N := 4) hx hb hts in_JB hown hK hP 0 rfl rfl 3 (by decide) (hts _ k_193) (fun _ h9 => h9) rfl d_JA_setLength_19 ?_
  refine lv_iload_n hx hb d_JA_setLength_22 rfl (lv_at hl 1 rfl) ?_
  refine ai_icmp_ge hx hb d_JA_setLength_23 rfl (by omega) (by omega) (fun h23 => ?_) (fun h23 => by exfalso; omega)
  refine lv_aload_n hx hb d_JA_setLength_63 rfl (lv_at hl 0 rfl) ?_
  refine va_get (D := D) (cl := CL) (ci := 0) (v := .int (iI z)) (C := "java/lang/StringBuilder") (T := T_JB) (N := 4) hx hb hts in_JB hown hK hP 0 rfl rfl 3 (by decide) (hts _ k_193) (fun _ h9 => h9) rfl d_JA_setLength_64 ?_
  refine lv_iload_n hx hb d_JA_setLength_67 rfl (lv_at hl 1 rfl) ?_
  refine ai_icmp_le hx hb d_JA_setLength_68 rfl (by omega) (by omega) (fun h68 => ?_) (fun h68 => ?_)
  · skip
    refine lv_aload_n hx hb d_JA_setLength_76 rfl (lv_at hl 0 rfl) ?_
    refine lv_iload_n hx hb d_JA_setLength_77 rfl (lv_at hl 1 rfl) ?_
    refine va_put (D := D) (cl := CL) (ci := 0) (v := .int (iI 0)) (ty := .int) (C := "java/lang/StringBuilder") (T := T_JB) (N := 4) hx hb hts in_JB ty_JB ty_JB_ok nm_JB hown hK hP hD hS 0 rfl rfl 3 (by decide) (hts _ k_193) (fun _ h9 => h9) rfl (by decide +kernel) rfl rfl (Nat.le_of_ble_eq_true rfl) d_JA_setLength_78 (fun H locs hP hD hS => ?_)
    have hP : va_P D CL [(sb, .inr (0, [.ref vb, .int (iI 0), .int (iI ml), .int (iI 0)])), (vb, .inl (cB, cp, .inl (fun j => iI (tx j))))] H := hP
    have hD : va_D A [(sb, .inr (0, [.ref vb, .int (iI 0), .int (iI ml), .int (iI 0)])), (vb, .inl (cB, cp, .inl (fun j => iI (tx j))))] := hD
    exact gm_vret (ml) hx hb hr hlk d_JA_setLength_81 hP hD hS (Nat.le_of_ble_eq_true rfl) (Nat.le_of_ble_eq_true rfl) trivial
  · skip
    refine lv_aload_n hx hb d_JA_setLength_71 rfl (lv_at hl 0 rfl) ?_
    refine ai_iconst hx hb d_JA_setLength_72 ?_
    refine va_put (D := D) (cl := CL) (ci := 0) (v := .int (iI 1)) (ty := .boolean) (C := "java/lang/StringBuilder") (T := T_JB) (N := 4) hx hb hts in_JB ty_JB ty_JB_ok nm_JB hown hK hP hD hS 0 rfl rfl 2 (by decide) (hts _ k_192) (fun _ h9 => h9) rfl (by decide +kernel) (iI_narB (by decide)) (fitsB (by decide)) (Nat.le_of_ble_eq_true rfl) d_JA_setLength_73 (fun H locs hP hD hS => ?_)
    have hP : va_P D CL [(sb, .inr (0, [.ref vb, .int (iI 0), .int (iI 1), .int (iI z)])), (vb, .inl (cB, cp, .inl (fun j => iI (tx j))))] H := hP
    have hD : va_D A [(sb, .inr (0, [.ref vb, .int (iI 0), .int (iI 1), .int (iI z)])), (vb, .inl (cB, cp, .inl (fun j => iI (tx j))))] := hD
    refine lv_aload_n hx hb d_JA_setLength_76 rfl (lv_at hl 0 rfl) ?_
    refine lv_iload_n hx hb d_JA_setLength_77 rfl (lv_at hl 1 rfl) ?_
    refine va_put (D := D) (cl := CL) (ci := 0) (v := .int (iI 0)) (ty := .int) (C := "java/lang/StringBuilder") (T := T_JB) (N := 4) hx hb hts in_JB ty_JB ty_JB_ok nm_JB hown hK hP hD hS 0 rfl rfl 3 (by decide) (hts _ k_193) (fun _ h9 => h9) rfl (by decide +kernel) rfl rfl (Nat.le_of_ble_eq_true rfl) d_JA_setLength_78 (fun H locs hP hD hS => ?_)
    have hP : va_P D CL [(sb, .inr (0, [.ref vb, .int (iI 0), .int (iI 1), .int (iI 0)])), (vb, .inl (cB, cp, .inl (fun j => iI (tx j))))] H := hP
    have hD : va_D A [(sb, .inr (0, [.ref vb, .int (iI 0), .int (iI 1), .int (iI 0)])), (vb, .inl (cB, cp, .inl (fun j => iI (tx j))))] := hD
    exact gm_vret (1) hx hb hr hlk d_JA_setLength_81 hP hD hS (Nat.le_of_ble_eq_true rfl) (Nat.le_of_ble_eq_true rfl) trivial
set_option maxHeartbeats 4000000 in
set_option maxRecDepth 100000 in
theorem ct_JB_setLength (l : Launch) (D : va_G) (sb : Nat) (vb : Nat) (cB : ClassId) (cp : Nat) (ml : Int) (z : Int) (tx : Nat → Int) (sz : Nat) (rz : 0 ≤ z ∧ z ≤ cp ∧ cp ≤ 1000) : GMet l y_JB_setLength w_JB_setLength 2 43 0 0 [.ref sb, .int (iI 0)] D [(cB, .byte)] [(sb, .inr (0, [.ref vb, .int (iI 0), .int (iI ml), .int (iI z)])), (vb, .inl (cB, cp, .inl (fun j => iI (tx j))))] sz (fun _ => True) (GQv D (fun (u : Int) => True) (fun (u : Int) => ([(sb, .inr (0, [.ref vb, .int (iI 0), .int (iI u), .int (iI 0)])), (vb, .inl (cB, cp, .inl (fun j => iI (tx j))))] : va_W))) := by
  refine gm_of (by decide +kernel) (Nat.le_of_ble_eq_true rfl) ?_
  intro p e s m below meth c ls A hx hb hr hts hown hlk hml hl hN hK hP hD hS hA hAi hnm hsz hX
  subst hsz
  have hown : s.vm.findClass "java/lang/StringBuilder" = some m.cls := hown
  have hl : lv_has ls 2 [(0, .ref sb), (1, .int (iI 0))] := hl
  have hF : _ ∧ _ ∧ _ ∧ _ ∧ _ ∧ _ := ⟨hx, hb, hml, hown, hts, hN⟩
  refine lv_aload_n hx hb d_JB_setLength_0 rfl (lv_at hl 0 rfl) ?_
  refine lv_iload_n hx hb d_JB_setLength_1 rfl (lv_at hl 1 rfl) ?_
  refine gm_cv (wr := []) (gr_SU (C := "java/lang/StringBuilder") (rest := []) (hK.1 0 _ rfl).2 (ct_JA_setLength l D sb vb cB cp ml z tx s.heap.size (by omega)) j_JA_setLength k_362 k_1227 (gw_t 202 (by decide +kernel) (by decide +kernel)) (by decide) hF (gm_pV (va_recv (q0 := 0) (ci := 0) hK hP rfl rfl) hN hK (va_P.sub hP [0, 1] rfl) (va_D.sub hD [0, 1] rfl rfl) Bm_true (fun _ _ _ => trivial)) rfl rfl rfl hl.1 rfl ⟨Nat.le_of_ble_eq_true rfl, Nat.le_of_ble_eq_true rfl⟩ (Nat.le_of_ble_eq_true rfl) d_JB_setLength_2 ⟨(Nat.le_of_ble_eq_true rfl), (Nat.le_of_ble_eq_true rfl)⟩) hP hD hS hA [0, 1] [] rfl rfl rfl (by decide) (fun u2 H locs hΦ2 hz2 hP hD hS => ?_)
  have hΦ2 : True := hΦ2
  have hP : va_P D CL [(sb, .inr (0, [.ref vb, .int (iI 0), .int (iI u2), .int (iI 0)])), (vb, .inl (cB, cp, .inl (fun j => iI (tx j))))] H := hP
  have hD : va_D A [(sb, .inr (0, [.ref vb, .int (iI 0), .int (iI u2), .int (iI 0)])), (vb, .inl (cB, cp, .inl (fun j => iI (tx j))))] := hD
  exact gm_vret (u2) hx hb hr hlk d_JB_setLength_5 hP hD hS (Nat.le_of_ble_eq_true rfl) (Nat.le_of_ble_eq_true rfl) trivial
set_option maxHeartbeats 4000000 in
set_option maxRecDepth 100000 in
theorem ct_JA_init (l : Launch) (D : va_G) (sb : Nat) (cB : ClassId) (sz : Nat)  : GMet l y_JA_init w_JA_init 1 20 1 16 [.ref sb, .int (iI 16)] D [(cB, .byte)] [(sb, .inr (0, [.null, .int (iI 0), .int (iI 0), .int (iI 0)]))] sz (fun U => SA (va_A [(sb, .inr (0, [.null, .int (iI 0), .int (iI 0), .int (iI 0)]))] sz) U) (GQv D (fun (u : Nat) => True) (fun (u : Nat) => ([(sb, .inr (0, [.ref u, .int (iI 0), .int (iI 0), .int (iI 0)])), (u, .inl (cB, 16, .inl (fun j => iI ((fun _ => (0 : Int)) j))))] : va_W))) := by
  refine gm_of (by decide +kernel) (Nat.le_of_ble_eq_true rfl) ?_
  intro p e s m below meth c ls A hx hb hr hts hown hlk hml hl hN hK hP hD hS hA hAi hnm hsz hX
  subst hsz
  have hown : s.vm.findClass "java/lang/AbstractStringBuilder" = some m.cls := hown
  have hl : lv_has ls 2 [(0, .ref sb), (1, .int (iI 16))] := hl
  have hF : _ ∧ _ ∧ _ ∧ _ ∧ _ ∧ _ := ⟨hx, hb, hml, hown, hts, hN⟩
  have hT := hX
  have hT : SA A s := ST.narrow hT hAi
  refine lv_aload_n hx hb d_JA_init_0 rfl (lv_at hl 0 rfl) ?_
  refine W.objInit hx hb hown (hts _ k_180) (hts _ (gw_t 38 (by decide +kernel) (by decide +kernel))) (hts _ (gw_t 39 (by decide +kernel) (by decide +kernel))) (g := F0 m 1 ls [.ref sb]) rfl (hl.1.trans hml.symm) rfl d_JA_init_1 (Nat.le_of_ble_eq_true rfl) (Nat.le_of_ble_eq_true rfl) ?_
  refine va_gets hx hb hT.1 hS hown (hts _ k_181) (fun _ h9 => h9) d_JA_init_4 ?_
  refine ai_if_eq hx hb d_JA_init_7 rfl (by omega) (fun h7 => by exfalso; omega) (fun h7 => ?_)
  refine lv_aload_n hx hb d_JA_init_10 rfl (lv_at hl 0 rfl) ?_
  refine lv_iload_n hx hb d_JA_init_11 rfl (lv_at hl 1 rfl) ?_
  refine gm_nw hx hb hts (ty := .byte) rfl k_203 (by decide +kernel) (by decide) (fun _ h9 => va_nm_byte h9) hK hP hD hS hA 0 rfl 16 rfl (by decide) (Nat.le_of_ble_eq_true rfl) (Nat.le_of_ble_eq_true rfl) d_JA_init_12 (fun q12 H hP hD hS => ?_)
  have hP : va_P D CL [(sb, .inr (0, [.null, .int (iI 0), .int (iI 0), .int (iI 0)])), (q12, .inl (cB, 16, .inl (fun j => iI ((fun _ => (0 : Int)) j))))] H := hP
  have hD : va_D A [(sb, .inr (0, [.null, .int (iI 0), .int (iI 0), .int (iI 0)])), (q12, .inl (cB, 16, .inl (fun j => iI ((fun _ => (0 : Int)) j))))] := hD
  refine va_put (D := D) (cl := CL) (ci := 0) (v := .ref q12) (ty := .array .byte) (C := "java/lang/StringBuilder") (T := T_JB) (N := 4) hx hb hts in_JB ty_JB ty_JB_ok nm_JB hown hK hP hD hS 0 rfl rfl 0 (by decide) (hts _ k_190) (fun _ h9 => h9) rfl (by decide +kernel) rfl rfl (Nat.le_of_ble_eq_true rfl) d_JA_init_14 (fun H locs hP hD hS => ?_)
  have hP : va_P D CL [(sb, .inr (0, [.ref q12, .int (iI 0), .int (iI 0), .int (iI 0)])), (q12, .inl (cB, 16, .inl (fun j => iI ((fun _ => (0 : Int)) j))))] H := hP
  have hD : va_D A [(sb, .inr (0, [.ref q12, .int (iI 0), .int (iI 0), .int (iI 0)])), (q12, .inl (cB, 16, .inl (fun j => iI ((fun _ => (0 : Int)) j))))] := hD
  refine lv_aload_n hx hb d_JA_init_17 rfl (lv_at hl 0 rfl) ?_
  refine ai_iconst hx hb d_JA_init_18 ?_
  refine va_put (D := D) (cl := CL) (ci := 0) (v := .int (iI 0)) (ty := .byte) (C := "java/lang/StringBuilder") (T := T_JB) (N := 4) hx hb hts in_JB ty_JB ty_JB_ok nm_JB hown hK hP hD hS 0 rfl rfl 1 (by decide) (hts _ k_191) (fun _ h9 => h9) rfl (by decide +kernel) (by decide +kernel) (by decide +kernel) (Nat.le_of_ble_eq_true rfl) d_JA_init_19 (fun H locs hP hD hS => ?_)
  have hP : va_P D CL [(sb, .inr (0, [.ref q12, .int (iI 0), .int (iI 0), .int (iI 0)])), (q12, .inl (cB, 16, .inl (fun j => iI ((fun _ => (0 : Int)) j))))] H := hP
  have hD : va_D A [(sb, .inr (0, [.ref q12, .int (iI 0), .int (iI 0), .int (iI 0)])), (q12, .inl (cB, 16, .inl (fun j => iI ((fun _ => (0 : Int)) j))))] := hD
  refine lv_goto hx hb d_JA_init_22 rfl ?_
  exact gm_vret (q12) hx hb hr hlk d_JA_init_38 hP hD hS (Nat.le_of_ble_eq_true rfl) (Nat.le_of_ble_eq_true rfl) trivial
set_option maxHeartbeats 4000000 in
set_option maxRecDepth 100000 in
theorem ct_JB_init (l : Launch) (D : va_G) (sb : Nat) (cB : ClassId) (sz : Nat)  : GMet l y_JB_init w_JB_init 2 41 1 16 [.ref sb] D [(cB, .byte)] [(sb, .inr (0, [.null, .int (iI 0), .int (iI 0), .int (iI 0)]))] sz (fun U => SA (va_A [(sb, .inr (0, [.null, .int (iI 0), .int (iI 0), .int (iI 0)]))] sz) U) (GQv D (fun (u : Nat) => True) (fun (u : Nat) => ([(sb, .inr (0, [.ref u, .int (iI 0), .int (iI 0), .int (iI 0)])), (u, .inl (cB, 16, .inl (fun j => iI ((fun _ => (0 : Int)) j))))] : va_W))) := by
  refine gm_of (by decide +kernel) (Nat.le_of_ble_eq_true rfl) ?_
  intro p e s m below meth c ls A hx hb hr hts hown hlk hml hl hN hK hP hD hS hA hAi hnm hsz hX
  subst hsz
  have hown : s.vm.findClass "java/lang/StringBuilder" = some m.cls := hown
  have hl : lv_has ls 1 [(0, .ref sb)] := hl
  have hF : _ ∧ _ ∧ _ ∧ _ ∧ _ ∧ _ := ⟨hx, hb, hml, hown, hts, hN⟩
  have hT := hX
  have hT : SA A s := ST.narrow hT hAi
  refine lv_aload_n hx hb d_JB_init_0 rfl (lv_at hl 0 rfl) ?_
  refine ai_bipush (x := 16) hx hb d_JB_init_1 (by decide +kernel) ?_
  refine gm_cv (wr := []) (gr_I (rest := []) (ct_JA_init l D sb cB s.heap.size) j_JA_init k_177 rfl hF (gm_pS hN hK (va_P.sub hP [0] rfl) (va_D.sub hD [0] rfl rfl) SA.m (fun U h1 h2 => SA.at hT hS (va_free hD hS hA [0] rfl) U h1 h2)) rfl rfl rfl hl.1 rfl ⟨Nat.le_of_ble_eq_true rfl, Nat.le_of_ble_eq_true rfl⟩ (Nat.le_of_ble_eq_true rfl) d_JB_init_3 ⟨(Nat.le_of_ble_eq_true rfl), (Nat.le_of_ble_eq_true rfl)⟩) hP hD hS hA [0] [] rfl rfl rfl (by decide) (fun u3 H locs hΦ3 hz3 hP hD hS => ?_)
  have hΦ3 : True := hΦ3
  have hP : va_P D CL [(sb, .inr (0, [.ref u3, .int (iI 0), .int (iI 0), .int (iI 0)])), (u3, .inl (cB, 16, .inl (fun j => iI ((fun _ => (0 : Int)) j))))] H := hP
  have hD : va_D A [(sb, .inr (0, [.ref u3, .int (iI 0), .int (iI 0), .int (iI 0)])), (u3, .inl (cB, 16, .inl (fun j => iI ((fun _ => (0 : Int)) j))))] := hD
  exact gm_vret (u3) hx hb hr hlk d_JB_init_6 hP hD hS (Nat.le_of_ble_eq_true rfl) (Nat.le_of_ble_eq_true rfl) trivial
