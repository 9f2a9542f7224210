/-! 65.wrapA: laid by program (wip/whole) -/
set_option maxHeartbeats 4000000 in
set_option maxRecDepth 100000 in
theorem ct_W_plug_IX (l : Launch) (D : va_G) (b : Nat) (oa : Nat) (cL : ClassId) (v0 : Nat → Int) (p0 : Int) (p1 : Int) (p2 : Int) (p3 : Int) (p4 : Int) (p5 : Int) (p6 : Int) (fr : Nat) (lo : Nat) (Bs : State → Prop) (sz : Nat) (hM : MetX l y_B_plug w_B_plug ({ frames := fr, cells := 1, slots := 6, locals := lo }) (va_Pc [.ref b, .int (iI p0), .int (iI p1), .int (iI p2), .int (iI p3), .int (iI p4), .int (iI p5), .int (iI p6)] (fun U => NV U ∧ Bs U)) "java/lang/IndexOutOfBoundsException" 1 6) (hbm : Bm Bs) (hrc : ∀ U : State, Bs U → ∃ cellB : Cell, U.heap[b]? = some cellB ∧ cellB.vm.isStatics = false ∧ U.vm.findClass "DayBook" = some cellB.cls) : GMetW l y_W_plug w_W_plug (fr + 1) (8 + (12 + 11) + lo) 1 6 [.ref b, .int (iI p0), .int (iI p1), .int (iI p2), .int (iI p3), .int (iI p4), .int (iI p5), .int (iI p6), .ref oa] D [(cL, .long)] [(oa, .inl (cL, 1, .inr (.inl (fun j => iL (v0 j)))))] sz (fun U => Bs U ∧ NCX U) (GQi D (fun (u : Unit) => 1) (fun (u : Unit) => True) (fun (u : Unit) => ([(oa, .inl (cL, 1, .inr (.inl (fun j => iL (v0 j)))))] : va_W))) := by
  refine gmW_of (by decide +kernel) (Nat.le_of_ble_eq_true rfl) ?_
  intro p e s m below meth c ls A hx hb hr hts hown hlk hml hl hN hK hP hD hS hA hAi hxt hsz hX
  subst hsz
  have hown : s.vm.findClass "DayBookLaw" = some m.cls := hown
  have hl : lv_has ls 10 [(0, .ref b), (1, .int (iI p0)), (2, .int (iI p1)), (3, .int (iI p2)), (4, .int (iI p3)), (5, .int (iI p4)), (6, .int (iI p5)), (7, .int (iI p6)), (8, .ref oa)] := hl
  have hF : _ ∧ _ ∧ _ ∧ _ ∧ _ ∧ _ := ⟨hx, hb, hml, hown, hts, hN⟩
  refine lv_aload hx hb d_W_plug_0 (lv_at hl 8 rfl) ?_
  refine ai_iconst hx hb d_W_plug_2 ?_
  refine lv_aload_n hx hb d_W_plug_3 rfl (lv_at hl 0 rfl) ?_
  refine lv_iload_n hx hb d_W_plug_4 rfl (lv_at hl 1 rfl) ?_
  refine lv_iload_n hx hb d_W_plug_5 rfl (lv_at hl 2 rfl) ?_
  refine lv_iload_n hx hb d_W_plug_6 rfl (lv_at hl 3 rfl) ?_
  refine lv_iload hx hb d_W_plug_7 (lv_at hl 4 rfl) ?_
  refine lv_iload hx hb d_W_plug_9 (lv_at hl 5 rfl) ?_
  refine lv_iload hx hb d_W_plug_11 (lv_at hl 6 rfl) ?_
  refine lv_iload hx hb d_W_plug_13 (lv_at hl 7 rfl) ?_
  refine gx_V (C := "DayBook") (rest := [.int (iI 0), .ref oa]) hM j_B_plug k_399 s_B_plug hF (hrc s hX.1) hbm (fun U h1 h2 => hbm.2 s U h1 h2 hX.1) hP hD hS rfl (hl.1.trans hml.symm) rfl (Nat.le_of_ble_eq_true rfl) ⟨Nat.le_refl _, Nat.le_refl _⟩ ⟨Nat.le_of_ble_eq_true rfl, Nat.le_of_ble_eq_true rfl⟩ d_W_plug_15 (P9 := []) (R9 := [(0, 27, 34, 15)]) hxt (fun _ h9 => absurd h9 List.not_mem_nil) (by decide) (by decide) k_397 (fun xa H hP hD hS => ?_)
  refine lv_astore (lv' := [(9, .ref xa), (0, .ref b), (1, .int (iI p0)), (2, .int (iI p1)), (3, .int (iI p2)), (4, .int (iI p3)), (5, .int (iI p4)), (6, .int (iI p5)), (7, .int (iI p6)), (8, .ref oa)]) hx hb d_W_plug_30 hl (by decide) rfl (fun ls hl => ?_)
  refine ai_iconst hx hb d_W_plug_32 ?_
  exact gm_iret () hx hb hr hlk d_W_plug_33 hP hD hS (Nat.le_of_ble_eq_true rfl) (Nat.le_of_ble_eq_true rfl) rfl trivial
set_option maxHeartbeats 4000000 in
set_option maxRecDepth 100000 in
theorem ct_W_plug_IA (l : Launch) (D : va_G) (b : Nat) (oa : Nat) (cL : ClassId) (v0 : Nat → Int) (p0 : Int) (p1 : Int) (p2 : Int) (p3 : Int) (p4 : Int) (p5 : Int) (p6 : Int) (fr : Nat) (lo : Nat) (Bs : State → Prop) (sz : Nat) (hM : MetX l y_B_plug w_B_plug ({ frames := fr, cells := 1, slots := 6, locals := lo }) (va_Pc [.ref b, .int (iI p0), .int (iI p1), .int (iI p2), .int (iI p3), .int (iI p4), .int (iI p5), .int (iI p6)] (fun U => NV U ∧ Bs U)) "java/lang/IllegalArgumentException" 1 6) (hbm : Bm Bs) (hrc : ∀ U : State, Bs U → ∃ cellB : Cell, U.heap[b]? = some cellB ∧ cellB.vm.isStatics = false ∧ U.vm.findClass "DayBook" = some cellB.cls) : GMetW l y_W_plug w_W_plug (fr + 1) (8 + (12 + 11) + lo) 1 6 [.ref b, .int (iI p0), .int (iI p1), .int (iI p2), .int (iI p3), .int (iI p4), .int (iI p5), .int (iI p6), .ref oa] D [(cL, .long)] [(oa, .inl (cL, 1, .inr (.inl (fun j => iL (v0 j)))))] sz (fun U => Bs U ∧ NCX U) (GQi D (fun (u : Unit) => 2) (fun (u : Unit) => True) (fun (u : Unit) => ([(oa, .inl (cL, 1, .inr (.inl (fun j => iL (v0 j)))))] : va_W))) := by
  refine gmW_of (by decide +kernel) (Nat.le_of_ble_eq_true rfl) ?_
  intro p e s m below meth c ls A hx hb hr hts hown hlk hml hl hN hK hP hD hS hA hAi hxt hsz hX
  subst hsz
  have hown : s.vm.findClass "DayBookLaw" = some m.cls := hown
  have hl : lv_has ls 10 [(0, .ref b), (1, .int (iI p0)), (2, .int (iI p1)), (3, .int (iI p2)), (4, .int (iI p3)), (5, .int (iI p4)), (6, .int (iI p5)), (7, .int (iI p6)), (8, .ref oa)] := hl
  have hF : _ ∧ _ ∧ _ ∧ _ ∧ _ ∧ _ := ⟨hx, hb, hml, hown, hts, hN⟩
  refine lv_aload hx hb d_W_plug_0 (lv_at hl 8 rfl) ?_
  refine ai_iconst hx hb d_W_plug_2 ?_
  refine lv_aload_n hx hb d_W_plug_3 rfl (lv_at hl 0 rfl) ?_
  refine lv_iload_n hx hb d_W_plug_4 rfl (lv_at hl 1 rfl) ?_
  refine lv_iload_n hx hb d_W_plug_5 rfl (lv_at hl 2 rfl) ?_
  refine lv_iload_n hx hb d_W_plug_6 rfl (lv_at hl 3 rfl) ?_
  refine lv_iload hx hb d_W_plug_7 (lv_at hl 4 rfl) ?_
  refine lv_iload hx hb d_W_plug_9 (lv_at hl 5 rfl) ?_
  refine lv_iload hx hb d_W_plug_11 (lv_at hl 6 rfl) ?_
  refine lv_iload hx hb d_W_plug_13 (lv_at hl 7 rfl) ?_
  refine gx_V (C := "DayBook") (rest := [.int (iI 0), .ref oa]) hM j_B_plug k_399 s_B_plug hF (hrc s hX.1) hbm (fun U h1 h2 => hbm.2 s U h1 h2 hX.1) hP hD hS rfl (hl.1.trans hml.symm) rfl (Nat.le_of_ble_eq_true rfl) ⟨Nat.le_refl _, Nat.le_refl _⟩ ⟨Nat.le_of_ble_eq_true rfl, Nat.le_of_ble_eq_true rfl⟩ d_W_plug_15 (P9 := [(0, 27, 30, 13)]) (R9 := []) hxt (List.forall_mem_cons.mpr ⟨⟨by decide, by decide, "java/lang/IndexOutOfBoundsException", k_397, hX.2 _ (by decide) _ (by decide) (by decide)⟩, (fun _ h9 => absurd h9 List.not_mem_nil)⟩) (by decide) (by decide) k_398 (fun xa H hP hD hS => ?_)
  refine lv_astore (lv' := [(9, .ref xa), (0, .ref b), (1, .int (iI p0)), (2, .int (iI p1)), (3, .int (iI p2)), (4, .int (iI p3)), (5, .int (iI p4)), (6, .int (iI p5)), (7, .int (iI p6)), (8, .ref oa)]) hx hb d_W_plug_34 hl (by decide) rfl (fun ls hl => ?_)
  refine ai_iconst hx hb d_W_plug_36 ?_
  exact gm_iret () hx hb hr hlk d_W_plug_37 hP hD hS (Nat.le_of_ble_eq_true rfl) (Nat.le_of_ble_eq_true rfl) rfl trivial
set_option maxHeartbeats 4000000 in
set_option maxRecDepth 100000 in
theorem ct_W_date (l : Launch) (D : va_G) (b : Nat) (oa : Nat) (cL : ClassId) (v0 : Nat → Int) (p0 : Int) (p1 : Int) (p2 : Int) (fr : Nat) (lo : Nat) (Bs : State → Prop) (v : Int) (sz : Nat) (hM : RO l y_B_date w_B_date fr lo [.ref b, .int (iI p0), .int (iI p1), .int (iI p2)] Bs (.int (iI v))) (hbm : Bm Bs) (hrc : ∀ U : State, Bs U → ∃ cellB : Cell, U.heap[b]? = some cellB ∧ cellB.vm.isStatics = false ∧ U.vm.findClass "DayBook" = some cellB.cls) (rv : -2147483648 ≤ v ∧ v ≤ 2147483647) : GMetW l y_W_date w_W_date (fr + 1) (8 + (7 + 11) + lo) 0 0 [.ref b, .int (iI p0), .int (iI p1), .int (iI p2), .ref oa] D [(cL, .long)] [(oa, .inl (cL, 1, .inr (.inl (fun j => iL (v0 j)))))] sz Bs (GQi D (fun (u : Unit) => 0) (fun (u : Unit) => True) (fun (u : Unit) => ([(oa, .inl (cL, 1, .inr (.inl (fun j => iL ((upF v0 (Int.toNat 0) (v)) j)))))] : va_W))) := by
  refine gmW_of (by decide +kernel) (Nat.le_of_ble_eq_true rfl) ?_
  intro p e s m below meth c ls A hx hb hr hts hown hlk hml hl hN hK hP hD hS hA hAi hxt hsz hX
  subst hsz
  have hown : s.vm.findClass "DayBookLaw" = some m.cls := hown
  have hl : lv_has ls 6 [(0, .ref b), (1, .int (iI p0)), (2, .int (iI p1)), (3, .int (iI p2)), (4, .ref oa)] := hl
  have hF : _ ∧ _ ∧ _ ∧ _ ∧ _ ∧ _ := ⟨hx, hb, hml, hown, hts, hN⟩
  refine lv_aload hx hb d_W_date_0 (lv_at hl 4 rfl) ?_
  refine ai_iconst hx hb d_W_date_2 ?_
  refine lv_aload_n hx hb d_W_date_3 rfl (lv_at hl 0 rfl) ?_
  refine lv_iload_n hx hb d_W_date_4 rfl (lv_at hl 1 rfl) ?_
  refine lv_iload_n hx hb d_W_date_5 rfl (lv_at hl 2 rfl) ?_
  refine lv_iload_n hx hb d_W_date_6 rfl (lv_at hl 3 rfl) ?_
  refine ro_V (C := "DayBook") (rest := [.int (iI 0), .ref oa]) hM j_B_date k_492 (hts _ s_B_date) hF (hrc s hX) rfl hl.1 rfl ⟨Nat.le_refl _, Nat.le_refl _⟩ (Nat.le_of_ble_eq_true rfl) d_W_date_7 ⟨Nat.le_of_ble_eq_true rfl, Nat.le_of_ble_eq_true rfl⟩ hbm (fun U h1 h2 => hbm.2 s U h1 h2 hX) ?_
  refine ai_i2l hx hb d_W_date_10 (by omega) ?_
  refine ma_lst hx hb hK hP hD hS 0 0 rfl rfl (h := v0) (v := v) (by omega) (by decide) d_W_date_11 (fun H locs hP hD hS => ?_)
  have hP : va_P D CL [(oa, .inl (cL, 1, .inr (.inl (fun j => iL ((upF v0 (Int.toNat 0) v) j)))))] H := hP
  have hD : va_D A [(oa, .inl (cL, 1, .inr (.inl (fun j => iL ((upF v0 (Int.toNat 0) v) j)))))] := hD
  refine lv_goto hx hb d_W_date_12 rfl ?_
  refine ai_iconst hx hb d_W_date_23 ?_
  exact gm_iret () hx hb hr hlk d_W_date_24 hP hD hS (Nat.le_of_ble_eq_true rfl) (Nat.le_of_ble_eq_true rfl) rfl trivial
set_option maxHeartbeats 4000000 in
set_option maxRecDepth 100000 in
theorem ct_W_date_IX (l : Launch) (D : va_G) (b : Nat) (oa : Nat) (cL : ClassId) (v0 : Nat → Int) (p0 : Int) (p1 : Int) (p2 : Int) (fr : Nat) (lo : Nat) (Bs : State → Prop) (sz : Nat) (hM : MetX l y_B_date w_B_date ({ frames := fr, cells := 1, slots := 6, locals := lo }) (va_Pc [.ref b, .int (iI p0), .int (iI p1), .int (iI p2)] (fun U => NV U ∧ Bs U)) "java/lang/IndexOutOfBoundsException" 1 6) (hbm : Bm Bs) (hrc : ∀ U : State, Bs U → ∃ cellB : Cell, U.heap[b]? = some cellB ∧ cellB.vm.isStatics = false ∧ U.vm.findClass "DayBook" = some cellB.cls) : GMetW l y_W_date w_W_date (fr + 1) (8 + (7 + 11) + lo) 1 6 [.ref b, .int (iI p0), .int (iI p1), .int (iI p2), .ref oa] D [(cL, .long)] [(oa, .inl (cL, 1, .inr (.inl (fun j => iL (v0 j)))))] sz (fun U => Bs U ∧ NCX U) (GQi D (fun (u : Unit) => 1) (fun (u : Unit) => True) (fun (u : Unit) => ([(oa, .inl (cL, 1, .inr (.inl (fun j => iL (v0 j)))))] : va_W))) := by
  refine gmW_of (by decide +kernel) (Nat.le_of_ble_eq_true rfl) ?_
  intro p e s m below meth c ls A hx hb hr hts hown hlk hml hl hN hK hP hD hS hA hAi hxt hsz hX
  subst hsz
  have hown : s.vm.findClass "DayBookLaw" = some m.cls := hown
  have hl : lv_has ls 6 [(0, .ref b), (1, .int (iI p0)), (2, .int (iI p1)), (3, .int (iI p2)), (4, .ref oa)] := hl
  have hF : _ ∧ _ ∧ _ ∧ _ ∧ _ ∧ _ := ⟨hx, hb, hml, hown, hts, hN⟩
  refine lv_aload hx hb d_W_date_0 (lv_at hl 4 rfl) ?_
  refine ai_iconst hx hb d_W_date_2 ?_
  refine lv_aload_n hx hb d_W_date_3 rfl (lv_at hl 0 rfl) ?_
  refine lv_iload_n hx hb d_W_date_4 rfl (lv_at hl 1 rfl) ?_
  refine lv_iload_n hx hb d_W_date_5 rfl (lv_at hl 2 rfl) ?_
  refine lv_iload_n hx hb d_W_date_6 rfl (lv_at hl 3 rfl) ?_
  refine gx_V (C := "DayBook") (rest := [.int (iI 0), .ref oa]) hM j_B_date k_492 s_B_date hF (hrc s hX.1) hbm (fun U h1 h2 => hbm.2 s U h1 h2 hX.1) hP hD hS rfl (hl.1.trans hml.symm) rfl (Nat.le_of_ble_eq_true rfl) ⟨Nat.le_refl _, Nat.le_refl _⟩ ⟨Nat.le_of_ble_eq_true rfl, Nat.le_of_ble_eq_true rfl⟩ d_W_date_7 (P9 := []) (R9 := [(0, 12, 19, 21)]) hxt (fun _ h9 => absurd h9 List.not_mem_nil) (by decide) (by decide) k_397 (fun xa H hP hD hS => ?_)
  refine lv_astore (lv' := [(5, .ref xa), (0, .ref b), (1, .int (iI p0)), (2, .int (iI p1)), (3, .int (iI p2)), (4, .ref oa)]) hx hb d_W_date_15 hl (by decide) rfl (fun ls hl => ?_)
  refine ai_iconst hx hb d_W_date_17 ?_
  exact gm_iret () hx hb hr hlk d_W_date_18 hP hD hS (Nat.le_of_ble_eq_true rfl) (Nat.le_of_ble_eq_true rfl) rfl trivial
set_option maxHeartbeats 4000000 in
set_option maxRecDepth 100000 in
theorem ct_W_date_AR (l : Launch) (D : va_G) (b : Nat) (oa : Nat) (cL : ClassId) (v0 : Nat → Int) (p0 : Int) (p1 : Int) (p2 : Int) (fr : Nat) (lo : Nat) (Bs : State → Prop) (sz : Nat) (hM : MetX l y_B_date w_B_date ({ frames := fr, cells := 1, slots := 6, locals := lo }) (va_Pc [.ref b, .int (iI p0), .int (iI p1), .int (iI p2)] (fun U => NV U ∧ Bs U)) "java/lang/ArithmeticException" 1 6) (hbm : Bm Bs) (hrc : ∀ U : State, Bs U → ∃ cellB : Cell, U.heap[b]? = some cellB ∧ cellB.vm.isStatics = false ∧ U.vm.findClass "DayBook" = some cellB.cls) : GMetW l y_W_date w_W_date (fr + 1) (8 + (7 + 11) + lo) 1 6 [.ref b, .int (iI p0), .int (iI p1), .int (iI p2), .ref oa] D [(cL, .long)] [(oa, .inl (cL, 1, .inr (.inl (fun j => iL (v0 j)))))] sz (fun U => Bs U ∧ NCX U) (GQi D (fun (u : Unit) => 2) (fun (u : Unit) => True) (fun (u : Unit) => ([(oa, .inl (cL, 1, .inr (.inl (fun j => iL (v0 j)))))] : va_W))) := by
  refine gmW_of (by decide +kernel) (Nat.le_of_ble_eq_true rfl) ?_
  intro p e s m below meth c ls A hx hb hr hts hown hlk hml hl hN hK hP hD hS hA hAi hxt hsz hX
  subst hsz
  have hown : s.vm.findClass "DayBookLaw" = some m.cls := hown
  have hl : lv_has ls 6 [(0, .ref b), (1, .int (iI p0)), (2, .int (iI p1)), (3, .int (iI p2)), (4, .ref oa)] := hl
  have hF : _ ∧ _ ∧ _ ∧ _ ∧ _ ∧ _ := ⟨hx, hb, hml, hown, hts, hN⟩
  refine lv_aload hx hb d_W_date_0 (lv_at hl 4 rfl) ?_
  refine ai_iconst hx hb d_W_date_2 ?_
  refine lv_aload_n hx hb d_W_date_3 rfl (lv_at hl 0 rfl) ?_
  refine lv_iload_n hx hb d_W_date_4 rfl (lv_at hl 1 rfl) ?_
  refine lv_iload_n hx hb d_W_date_5 rfl (lv_at hl 2 rfl) ?_
  refine lv_iload_n hx hb d_W_date_6 rfl (lv_at hl 3 rfl) ?_
  refine gx_V (C := "DayBook") (rest := [.int (iI 0), .ref oa]) hM j_B_date k_492 s_B_date hF (hrc s hX.1) hbm (fun U h1 h2 => hbm.2 s U h1 h2 hX.1) hP hD hS rfl (hl.1.trans hml.symm) rfl (Nat.le_of_ble_eq_true rfl) ⟨Nat.le_refl _, Nat.le_refl _⟩ ⟨Nat.le_of_ble_eq_true rfl, Nat.le_of_ble_eq_true rfl⟩ d_W_date_7 (P9 := [(0, 12, 15, 13)]) (R9 := []) hxt (List.forall_mem_cons.mpr ⟨⟨by decide, by decide, "java/lang/IndexOutOfBoundsException", k_397, hX.2 _ (by decide) _ (by decide) (by decide)⟩, (fun _ h9 => absurd h9 List.not_mem_nil)⟩) (by decide) (by decide) k_491 (fun xa H hP hD hS => ?_)
  refine lv_astore (lv' := [(5, .ref xa), (0, .ref b), (1, .int (iI p0)), (2, .int (iI p1)), (3, .int (iI p2)), (4, .ref oa)]) hx hb d_W_date_19 hl (by decide) rfl (fun ls hl => ?_)
  refine ai_iconst hx hb d_W_date_21 ?_
  exact gm_iret () hx hb hr hlk d_W_date_22 hP hD hS (Nat.le_of_ble_eq_true rfl) (Nat.le_of_ble_eq_true rfl) rfl trivial
set_option maxHeartbeats 4000000 in
set_option maxRecDepth 100000 in
theorem ct_W_fixed (l : Launch) (D : va_G) (b : Nat) (oa : Nat) (cL : ClassId) (v0 : Nat → Int) (p0 : Int) (p1 : Int) (p2 : Int) (p3 : Int) (fr : Nat) (lo : Nat) (Bs : State → Prop) (v : Int) (sz : Nat) (hM : RO l y_B_fixed w_B_fixed fr lo [.ref b, .int (iI p0), .int (iI p1), .int (iI p2), .int (iI p3)] Bs (.int (iI v))) (hbm : Bm Bs) (hrc : ∀ U : State, Bs U → ∃ cellB : Cell, U.heap[b]? = some cellB ∧ cellB.vm.isStatics = false ∧ U.vm.findClass "DayBook" = some cellB.cls) (rv : -2147483648 ≤ v ∧ v ≤ 2147483647) : GMetW l y_W_fixed w_W_fixed (fr + 1) (8 + (8 + 11) + lo) 0 0 [.ref b, .int (iI p0), .int (iI p1), .int (iI p2), .int (iI p3), .ref oa] D [(cL, .long)] [(oa, .inl (cL, 1, .inr (.inl (fun j => iL (v0 j)))))] sz Bs (GQi D (fun (u : Unit) => 0) (fun (u : Unit) => True) (fun (u : Unit) => ([(oa, .inl (cL, 1, .inr (.inl (fun j => iL ((upF v0 (Int.toNat 0) (v)) j)))))] : va_W))) := by
  refine gmW_of (by decide +kernel) (Nat.le_of_ble_eq_true rfl) ?_
  intro p e s m below meth c ls A hx hb hr hts hown hlk hml hl hN hK hP hD hS hA hAi hxt hsz hX
  subst hsz
  have hown : s.vm.findClass "DayBookLaw" = some m.cls := hown
  have hl : lv_has ls 7 [(0, .ref b), (1, .int (iI p0)), (2, .int (iI p1)), (3, .int (iI p2)), (4, .int (iI p3)), (5, .ref oa)] := hl
  have hF : _ ∧ _ ∧ _ ∧ _ ∧ _ ∧ _ := ⟨hx, hb, hml, hown, hts, hN⟩
  refine lv_aload hx hb d_W_fixed_0 (lv_at hl 5 rfl) ?_
  refine ai_iconst hx hb d_W_fixed_2 ?_
  refine lv_aload_n hx hb d_W_fixed_3 rfl (lv_at hl 0 rfl) ?_
  refine lv_iload_n hx hb d_W_fixed_4 rfl (lv_at hl 1 rfl) ?_
  refine lv_iload_n hx hb d_W_fixed_5 rfl (lv_at hl 2 rfl) ?_
  refine lv_iload_n hx hb d_W_fixed_6 rfl (lv_at hl 3 rfl) ?_
  refine lv_iload hx hb d_W_fixed_7 (lv_at hl 4 rfl) ?_
  refine ro_V (C := "DayBook") (rest := [.int (iI 0), .ref oa]) hM j_B_fixed k_696 (hts _ s_B_fixed) hF (hrc s hX) rfl hl.1 rfl ⟨Nat.le_refl _, Nat.le_refl _⟩ (Nat.le_of_ble_eq_true rfl) d_W_fixed_9 ⟨Nat.le_of_ble_eq_true rfl, Nat.le_of_ble_eq_true rfl⟩ hbm (fun U h1 h2 => hbm.2 s U h1 h2 hX) ?_
  refine ai_i2l hx hb d_W_fixed_12 (by omega) ?_
  refine ma_lst hx hb hK hP hD hS 0 0 rfl rfl (h := v0) (v := v) (by omega) (by decide) d_W_fixed_13 (fun H locs hP hD hS => ?_)
  have hP : va_P D CL [(oa, .inl (cL, 1, .inr (.inl (fun j => iL ((upF v0 (Int.toNat 0) v) j)))))] H := hP
  have hD : va_D A [(oa, .inl (cL, 1, .inr (.inl (fun j => iL ((upF v0 (Int.toNat 0) v) j)))))] := hD
  refine lv_goto hx hb d_W_fixed_14 rfl ?_
  refine ai_iconst hx hb d_W_fixed_29 ?_
  exact gm_iret () hx hb hr hlk d_W_fixed_30 hP hD hS (Nat.le_of_ble_eq_true rfl) (Nat.le_of_ble_eq_true rfl) rfl trivial
set_option maxHeartbeats 4000000 in
set_option maxRecDepth 100000 in
theorem ct_W_fixed_IX (l : Launch) (D : va_G) (b : Nat) (oa : Nat) (cL : ClassId) (v0 : Nat → Int) (p0 : Int) (p1 : Int) (p2 : Int) (p3 : Int) (fr : Nat) (lo : Nat) (Bs : State → Prop) (sz : Nat) (hM : MetX l y_B_fixed w_B_fixed ({ frames := fr, cells := 1, slots := 6, locals := lo }) (va_Pc [.ref b, .int (iI p0), .int (iI p1), .int (iI p2), .int (iI p3)] (fun U => NV U ∧ Bs U)) "java/lang/IndexOutOfBoundsException" 1 6) (hbm : Bm Bs) (hrc : ∀ U : State, Bs U → ∃ cellB : Cell, U.heap[b]? = some cellB ∧ cellB.vm.isStatics = false ∧ U.vm.findClass "DayBook" = some cellB.cls) : GMetW l y_W_fixed w_W_fixed (fr + 1) (8 + (8 + 11) + lo) 1 6 [.ref b, .int (iI p0), .int (iI p1), .int (iI p2), .int (iI p3), .ref oa] D [(cL, .long)] [(oa, .inl (cL, 1, .inr (.inl (fun j => iL (v0 j)))))] sz (fun U => Bs U ∧ NCX U) (GQi D (fun (u : Unit) => 1) (fun (u : Unit) => True) (fun (u : Unit) => ([(oa, .inl (cL, 1, .inr (.inl (fun j => iL (v0 j)))))] : va_W))) := by
  refine gmW_of (by decide +kernel) (Nat.le_of_ble_eq_true rfl) ?_
  intro p e s m below meth c ls A hx hb hr hts hown hlk hml hl hN hK hP hD hS hA hAi hxt hsz hX
  subst hsz
  have hown : s.vm.findClass "DayBookLaw" = some m.cls := hown
  have hl : lv_has ls 7 [(0, .ref b), (1, .int (iI p0)), (2, .int (iI p1)), (3, .int (iI p2)), (4, .int (iI p3)), (5, .ref oa)] := hl
  have hF : _ ∧ _ ∧ _ ∧ _ ∧ _ ∧ _ := ⟨hx, hb, hml, hown, hts, hN⟩
  refine lv_aload hx hb d_W_fixed_0 (lv_at hl 5 rfl) ?_
  refine ai_iconst hx hb d_W_fixed_2 ?_
  refine lv_aload_n hx hb d_W_fixed_3 rfl (lv_at hl 0 rfl) ?_
  refine lv_iload_n hx hb d_W_fixed_4 rfl (lv_at hl 1 rfl) ?_
  refine lv_iload_n hx hb d_W_fixed_5 rfl (lv_at hl 2 rfl) ?_
  refine lv_iload_n hx hb d_W_fixed_6 rfl (lv_at hl 3 rfl) ?_
  refine lv_iload hx hb d_W_fixed_7 (lv_at hl 4 rfl) ?_
  refine gx_V (C := "DayBook") (rest := [.int (iI 0), .ref oa]) hM j_B_fixed k_696 s_B_fixed hF (hrc s hX.1) hbm (fun U h1 h2 => hbm.2 s U h1 h2 hX.1) hP hD hS rfl (hl.1.trans hml.symm) rfl (Nat.le_of_ble_eq_true rfl) ⟨Nat.le_refl _, Nat.le_refl _⟩ ⟨Nat.le_of_ble_eq_true rfl, Nat.le_of_ble_eq_true rfl⟩ d_W_fixed_9 (P9 := []) (R9 := [(0, 14, 21, 21), (0, 14, 25, 15)]) hxt (fun _ h9 => absurd h9 List.not_mem_nil) (by decide) (by decide) k_397 (fun xa H hP hD hS => ?_)
  refine lv_astore (lv' := [(6, .ref xa), (0, .ref b), (1, .int (iI p0)), (2, .int (iI p1)), (3, .int (iI p2)), (4, .int (iI p3)), (5, .ref oa)]) hx hb d_W_fixed_17 hl (by decide) rfl (fun ls hl => ?_)
  refine ai_iconst hx hb d_W_fixed_19 ?_
  exact gm_iret () hx hb hr hlk d_W_fixed_20 hP hD hS (Nat.le_of_ble_eq_true rfl) (Nat.le_of_ble_eq_true rfl) rfl trivial
set_option maxHeartbeats 4000000 in
set_option maxRecDepth 100000 in
theorem ct_W_fixed_AR (l : Launch) (D : va_G) (b : Nat) (oa : Nat) (cL : ClassId) (v0 : Nat → Int) (p0 : Int) (p1 : Int) (p2 : Int) (p3 : Int) (fr : Nat) (lo : Nat) (Bs : State → Prop) (sz : Nat) (hM : MetX l y_B_fixed w_B_fixed ({ frames := fr, cells := 1, slots := 6, locals := lo }) (va_Pc [.ref b, .int (iI p0), .int (iI p1), .int (iI p2), .int (iI p3)] (fun U => NV U ∧ Bs U)) "java/lang/ArithmeticException" 1 6) (hbm : Bm Bs) (hrc : ∀ U : State, Bs U → ∃ cellB : Cell, U.heap[b]? = some cellB ∧ cellB.vm.isStatics = false ∧ U.vm.findClass "DayBook" = some cellB.cls) : GMetW l y_W_fixed w_W_fixed (fr + 1) (8 + (8 + 11) + lo) 1 6 [.ref b, .int (iI p0), .int (iI p1), .int (iI p2), .int (iI p3), .ref oa] D [(cL, .long)] [(oa, .inl (cL, 1, .inr (.inl (fun j => iL (v0 j)))))] sz (fun U => Bs U ∧ NCX U) (GQi D (fun (u : Unit) => 2) (fun (u : Unit) => True) (fun (u : Unit) => ([(oa, .inl (cL, 1, .inr (.inl (fun j => iL (v0 j)))))] : va_W))) := by
  refine gmW_of (by decide +kernel) (Nat.le_of_ble_eq_true rfl) ?_
  intro p e s m below meth c ls A hx hb hr hts hown hlk hml hl hN hK hP hD hS hA hAi hxt hsz hX
  subst hsz
  have hown : s.vm.findClass "DayBookLaw" = some m.cls := hown
  have hl : lv_has ls 7 [(0, .ref b), (1, .int (iI p0)), (2, .int (iI p1)), (3, .int (iI p2)), (4, .int (iI p3)), (5, .ref oa)] := hl
  have hF : _ ∧ _ ∧ _ ∧ _ ∧ _ ∧ _ := ⟨hx, hb, hml, hown, hts, hN⟩
  refine lv_aload hx hb d_W_fixed_0 (lv_at hl 5 rfl) ?_
  refine ai_iconst hx hb d_W_fixed_2 ?_
  refine lv_aload_n hx hb d_W_fixed_3 rfl (lv_at hl 0 rfl) ?_
  refine lv_iload_n hx hb d_W_fixed_4 rfl (lv_at hl 1 rfl) ?_
  refine lv_iload_n hx hb d_W_fixed_5 rfl (lv_at hl 2 rfl) ?_
  refine lv_iload_n hx hb d_W_fixed_6 rfl (lv_at hl 3 rfl) ?_
  refine lv_iload hx hb d_W_fixed_7 (lv_at hl 4 rfl) ?_
  refine gx_V (C := "DayBook") (rest := [.int (iI 0), .ref oa]) hM j_B_fixed k_696 s_B_fixed hF (hrc s hX.1) hbm (fun U h1 h2 => hbm.2 s U h1 h2 hX.1) hP hD hS rfl (hl.1.trans hml.symm) rfl (Nat.le_of_ble_eq_true rfl) ⟨Nat.le_refl _, Nat.le_refl _⟩ ⟨Nat.le_of_ble_eq_true rfl, Nat.le_of_ble_eq_true rfl⟩ d_W_fixed_9 (P9 := [(0, 14, 17, 13)]) (R9 := [(0, 14, 25, 15)]) hxt (List.forall_mem_cons.mpr ⟨⟨by decide, by decide, "java/lang/IndexOutOfBoundsException", k_397, hX.2 _ (by decide) _ (by decide) (by decide)⟩, (fun _ h9 => absurd h9 List.not_mem_nil)⟩) (by decide) (by decide) k_491 (fun xa H hP hD hS => ?_)
  refine lv_astore (lv' := [(6, .ref xa), (0, .ref b), (1, .int (iI p0)), (2, .int (iI p1)), (3, .int (iI p2)), (4, .int (iI p3)), (5, .ref oa)]) hx hb d_W_fixed_21 hl (by decide) rfl (fun ls hl => ?_)
  refine ai_iconst hx hb d_W_fixed_23 ?_
  exact gm_iret () hx hb hr hlk d_W_fixed_24 hP hD hS (Nat.le_of_ble_eq_true rfl) (Nat.le_of_ble_eq_true rfl) rfl trivial
set_option maxHeartbeats 4000000 in
set_option maxRecDepth 100000 in
theorem ct_W_fixed_IA (l : Launch) (D : va_G) (b : Nat) (oa : Nat) (cL : ClassId) (v0 : Nat → Int) (p0 : Int) (p1 : Int) (p2 : Int) (p3 : Int) (fr : Nat) (lo : Nat) (Bs : State → Prop) (sz : Nat) (hM : MetX l y_B_fixed w_B_fixed ({ frames := fr, cells := 1, slots := 6, locals := lo }) (va_Pc [.ref b, .int (iI p0), .int (iI p1), .int (iI p2), .int (iI p3)] (fun U => NV U ∧ Bs U)) "java/lang/IllegalArgumentException" 1 6) (hbm : Bm Bs) (hrc : ∀ U : State, Bs U → ∃ cellB : Cell, U.heap[b]? = some cellB ∧ cellB.vm.isStatics = false ∧ U.vm.findClass "DayBook" = some cellB.cls) : GMetW l y_W_fixed w_W_fixed (fr + 1) (8 + (8 + 11) + lo) 1 6 [.ref b, .int (iI p0), .int (iI p1), .int (iI p2), .int (iI p3), .ref oa] D [(cL, .long)] [(oa, .inl (cL, 1, .inr (.inl (fun j => iL (v0 j)))))] sz (fun U => Bs U ∧ NCX U) (GQi D (fun (u : Unit) => 3) (fun (u : Unit) => True) (fun (u : Unit) => ([(oa, .inl (cL, 1, .inr (.inl (fun j => iL (v0 j)))))] : va_W))) := by
  refine gmW_of (by decide +kernel) (Nat.le_of_ble_eq_true rfl) ?_
  intro p e s m below meth c ls A hx hb hr hts hown hlk hml hl hN hK hP hD hS hA hAi hxt hsz hX
  subst hsz
  have hown : s.vm.findClass "DayBookLaw" = some m.cls := hown
  have hl : lv_has ls 7 [(0, .ref b), (1, .int (iI p0)), (2, .int (iI p1)), (3, .int (iI p2)), (4, .int (iI p3)), (5, .ref oa)] := hl
  have hF : _ ∧ _ ∧ _ ∧ _ ∧ _ ∧ _ := ⟨hx, hb, hml, hown, hts, hN⟩
  refine lv_aload hx hb d_W_fixed_0 (lv_at hl 5 rfl) ?_
  refine ai_iconst hx hb d_W_fixed_2 ?_
  refine lv_aload_n hx hb d_W_fixed_3 rfl (lv_at hl 0 rfl) ?_
  refine lv_iload_n hx hb d_W_fixed_4 rfl (lv_at hl 1 rfl) ?_
  refine lv_iload_n hx hb d_W_fixed_5 rfl (lv_at hl 2 rfl) ?_
  refine lv_iload_n hx hb d_W_fixed_6 rfl (lv_at hl 3 rfl) ?_
  refine lv_iload hx hb d_W_fixed_7 (lv_at hl 4 rfl) ?_
  refine gx_V (C := "DayBook") (rest := [.int (iI 0), .ref oa]) hM j_B_fixed k_696 s_B_fixed hF (hrc s hX.1) hbm (fun U h1 h2 => hbm.2 s U h1 h2 hX.1) hP hD hS rfl (hl.1.trans hml.symm) rfl (Nat.le_of_ble_eq_true rfl) ⟨Nat.le_refl _, Nat.le_refl _⟩ ⟨Nat.le_of_ble_eq_true rfl, Nat.le_of_ble_eq_true rfl⟩ d_W_fixed_9 (P9 := [(0, 14, 17, 13), (0, 14, 21, 21)]) (R9 := []) hxt (List.forall_mem_cons.mpr ⟨⟨by decide, by decide, "java/lang/IndexOutOfBoundsException", k_397, hX.2 _ (by decide) _ (by decide) (by decide)⟩, (List.forall_mem_cons.mpr ⟨⟨by decide, by decide, "java/lang/ArithmeticException", k_491, hX.2 _ (by decide) _ (by decide) (by decide)⟩, (fun _ h9 => absurd h9 List.not_mem_nil)⟩)⟩) (by decide) (by decide) k_398 (fun xa H hP hD hS => ?_)
  refine lv_astore (lv' := [(6, .ref xa), (0, .ref b), (1, .int (iI p0)), (2, .int (iI p1)), (3, .int (iI p2)), (4, .int (iI p3)), (5, .ref oa)]) hx hb d_W_fixed_25 hl (by decide) rfl (fun ls hl => ?_)
  refine ai_iconst hx hb d_W_fixed_27 ?_
  exact gm_iret () hx hb hr hlk d_W_fixed_28 hP hD hS (Nat.le_of_ble_eq_true rfl) (Nat.le_of_ble_eq_true rfl) rfl trivial
set_option maxHeartbeats 4000000 in
set_option maxRecDepth 100000 in
theorem ct_W_leap (l : Launch) (D : va_G) (b : Nat) (oa : Nat) (cL : ClassId) (v0 : Nat → Int) (p0 : Int) (p1 : Int) (fr : Nat) (lo : Nat) (Bs : State → Prop) (Pv : Prop) (sz : Nat) (hM : RO l y_B_leap w_B_leap fr lo [.ref b, .int (iI p0), .int (iI p1)] Bs (.int (iI (bI Pv)))) (hbm : Bm Bs) (hrc : ∀ U : State, Bs U → ∃ cellB : Cell, U.heap[b]? = some cellB ∧ cellB.vm.isStatics = false ∧ U.vm.findClass "DayBook" = some cellB.cls) : GMetW l y_W_leap w_W_leap (fr + 1) (8 + (4 + 11) + lo) 0 0 [.ref b, .int (iI p0), .int (iI p1), .ref oa] D [(cL, .long)] [(oa, .inl (cL, 1, .inr (.inl (fun j => iL (v0 j)))))] sz Bs (GQi D (fun (u : Unit) => 0) (fun (u : Unit) => True) (fun (u : Unit) => ([(oa, .inl (cL, 1, .inr (.inl (fun j => iL ((upF v0 (Int.toNat 0) (bI Pv)) j)))))] : va_W))) := by
  refine gmW_of (by decide +kernel) (Nat.le_of_ble_eq_true rfl) ?_
  intro p e s m below meth c ls A hx hb hr hts hown hlk hml hl hN hK hP hD hS hA hAi hxt hsz hX
  subst hsz
  have hown : s.vm.findClass "DayBookLaw" = some m.cls := hown
  have hl : lv_has ls 5 [(0, .ref b), (1, .int (iI p0)), (2, .int (iI p1)), (3, .ref oa)] := hl
  have hF : _ ∧ _ ∧ _ ∧ _ ∧ _ ∧ _ := ⟨hx, hb, hml, hown, hts, hN⟩
  refine lv_aload_n hx hb d_W_leap_0 rfl (lv_at hl 3 rfl) ?_
  refine ai_iconst hx hb d_W_leap_1 ?_
  refine lv_aload_n hx hb d_W_leap_2 rfl (lv_at hl 0 rfl) ?_
  refine lv_iload_n hx hb d_W_leap_3 rfl (lv_at hl 1 rfl) ?_
  refine lv_iload_n hx hb d_W_leap_4 rfl (lv_at hl 2 rfl) ?_
  refine ro_V (C := "DayBook") (rest := [.int (iI 0), .ref oa]) hM j_B_leap k_746 (hts _ s_B_leap) hF (hrc s hX) rfl hl.1 rfl ⟨Nat.le_refl _, Nat.le_refl _⟩ (Nat.le_of_ble_eq_true rfl) d_W_leap_5 ⟨Nat.le_of_ble_eq_true rfl, Nat.le_of_ble_eq_true rfl⟩ hbm (fun U h1 h2 => hbm.2 s U h1 h2 hX) ?_
  refine ai_ifeqB hx hb d_W_leap_8 rfl (fun h8 => ?_) (fun h8 => ?_)
  · skip
    refine ai_lconst (x := 0) hx hb d_W_leap_15 (by decide +kernel) ?_
    refine ai_toL hx hb (b := bI Pv) (by rw [bI_f h8]) ?_
    refine ma_lst hx hb hK hP hD hS 0 0 rfl rfl (h := v0) (v := bI Pv) (by omega) (by decide) d_W_leap_16 (fun H locs hP hD hS => ?_)
    have hP : va_P D CL [(oa, .inl (cL, 1, .inr (.inl (fun j => iL ((upF v0 (Int.toNat 0) (bI Pv)) j)))))] H := hP
    have hD : va_D A [(oa, .inl (cL, 1, .inr (.inl (fun j => iL ((upF v0 (Int.toNat 0) (bI Pv)) j)))))] := hD
    refine lv_goto hx hb d_W_leap_17 rfl ?_
    refine ai_iconst hx hb d_W_leap_36 ?_
    exact gm_iret () hx hb hr hlk d_W_leap_37 hP hD hS (Nat.le_of_ble_eq_true rfl) (Nat.le_of_ble_eq_true rfl) rfl trivial
  · skip
    refine ai_lconst (x := 1) hx hb d_W_leap_11 (by decide +kernel) ?_
    refine ai_toL hx hb (b := bI Pv) (by rw [bI_t h8]) ?_
    refine lv_goto hx hb d_W_leap_12 rfl ?_
    refine ma_lst hx hb hK hP hD hS 0 0 rfl rfl (h := v0) (v := bI Pv) (by omega) (by decide) d_W_leap_16 (fun H locs hP hD hS => ?_)
    have hP : va_P D CL [(oa, .inl (cL, 1, .inr (.inl (fun j => iL ((upF v0 (Int.toNat 0) (bI Pv)) j)))))] H := hP
    have hD : va_D A [(oa, .inl (cL, 1, .inr (.inl (fun j => iL ((upF v0 (Int.toNat 0) (bI Pv)) j)))))] := hD
    refine lv_goto hx hb d_W_leap_17 rfl ?_
    refine ai_iconst hx hb d_W_leap_36 ?_
    exact gm_iret () hx hb hr hlk d_W_leap_37 hP hD hS (Nat.le_of_ble_eq_true rfl) (Nat.le_of_ble_eq_true rfl) rfl trivial
set_option maxHeartbeats 4000000 in
set_option maxRecDepth 100000 in
theorem ct_W_leap_UO (l : Launch) (D : va_G) (b : Nat) (oa : Nat) (cL : ClassId) (v0 : Nat → Int) (p0 : Int) (p1 : Int) (fr : Nat) (lo : Nat) (Bs : State → Prop) (sz : Nat) (hM : MetX l y_B_leap w_B_leap ({ frames := fr, cells := 1, slots := 6, locals := lo }) (va_Pc [.ref b, .int (iI p0), .int (iI p1)] (fun U => NV U ∧ Bs U)) "java/lang/UnsupportedOperationException" 1 6) (hbm : Bm Bs) (hrc : ∀ U : State, Bs U → ∃ cellB : Cell, U.heap[b]? = some cellB ∧ cellB.vm.isStatics = false ∧ U.vm.findClass "DayBook" = some cellB.cls) : GMetW l y_W_leap w_W_leap (fr + 1) (8 + (4 + 11) + lo) 1 6 [.ref b, .int (iI p0), .int (iI p1), .ref oa] D [(cL, .long)] [(oa, .inl (cL, 1, .inr (.inl (fun j => iL (v0 j)))))] sz (fun U => Bs U ∧ NCX U) (GQi D (fun (u : Unit) => 1) (fun (u : Unit) => True) (fun (u : Unit) => ([(oa, .inl (cL, 1, .inr (.inl (fun j => iL (v0 j)))))] : va_W))) := by
  refine gmW_of (by decide +kernel) (Nat.le_of_ble_eq_true rfl) ?_
  intro p e s m below meth c ls A hx hb hr hts hown hlk hml hl hN hK hP hD hS hA hAi hxt hsz hX
  subst hsz
  have hown : s.vm.findClass "DayBookLaw" = some m.cls := hown
  have hl : lv_has ls 5 [(0, .ref b), (1, .int (iI p0)), (2, .int (iI p1)), (3, .ref oa)] := hl
  have hF : _ ∧ _ ∧ _ ∧ _ ∧ _ ∧ _ := ⟨hx, hb, hml, hown, hts, hN⟩
  refine lv_aload_n hx hb d_W_leap_0 rfl (lv_at hl 3 rfl) ?_
  refine ai_iconst hx hb d_W_leap_1 ?_
  refine lv_aload_n hx hb d_W_leap_2 rfl (lv_at hl 0 rfl) ?_
  refine lv_iload_n hx hb d_W_leap_3 rfl (lv_at hl 1 rfl) ?_
  refine lv_iload_n hx hb d_W_leap_4 rfl (lv_at hl 2 rfl) ?_
  refine gx_V (C := "DayBook") (rest := [.int (iI 0), .ref oa]) hM j_B_leap k_746 s_B_leap hF (hrc s hX.1) hbm (fun U h1 h2 => hbm.2 s U h1 h2 hX.1) hP hD hS rfl (hl.1.trans hml.symm) rfl (Nat.le_of_ble_eq_true rfl) ⟨Nat.le_refl _, Nat.le_refl _⟩ ⟨Nat.le_of_ble_eq_true rfl, Nat.le_of_ble_eq_true rfl⟩ d_W_leap_5 (P9 := []) (R9 := [(0, 17, 24, 13), (0, 17, 28, 15), (0, 17, 32, 21)]) hxt (fun _ h9 => absurd h9 List.not_mem_nil) (by decide) (by decide) k_745 (fun xa H hP hD hS => ?_)
  refine lv_astore (lv' := [(4, .ref xa), (0, .ref b), (1, .int (iI p0)), (2, .int (iI p1)), (3, .ref oa)]) hx hb d_W_leap_20 hl (by decide) rfl (fun ls hl => ?_)
  refine ai_iconst hx hb d_W_leap_22 ?_
  exact gm_iret () hx hb hr hlk d_W_leap_23 hP hD hS (Nat.le_of_ble_eq_true rfl) (Nat.le_of_ble_eq_true rfl) rfl trivial
set_option maxHeartbeats 4000000 in
set_option maxRecDepth 100000 in
theorem ct_W_leap_IX (l : Launch) (D : va_G) (b : Nat) (oa : Nat) (cL : ClassId) (v0 : Nat → Int) (p0 : Int) (p1 : Int) (fr : Nat) (lo : Nat) (Bs : State → Prop) (sz : Nat) (hM : MetX l y_B_leap w_B_leap ({ frames := fr, cells := 1, slots := 6, locals := lo }) (va_Pc [.ref b, .int (iI p0), .int (iI p1)] (fun U => NV U ∧ Bs U)) "java/lang/IndexOutOfBoundsException" 1 6) (hbm : Bm Bs) (hrc : ∀ U : State, Bs U → ∃ cellB : Cell, U.heap[b]? = some cellB ∧ cellB.vm.isStatics = false ∧ U.vm.findClass "DayBook" = some cellB.cls) : GMetW l y_W_leap w_W_leap (fr + 1) (8 + (4 + 11) + lo) 1 6 [.ref b, .int (iI p0), .int (iI p1), .ref oa] D [(cL, .long)] [(oa, .inl (cL, 1, .inr (.inl (fun j => iL (v0 j)))))] sz (fun U => Bs U ∧ NCX U) (GQi D (fun (u : Unit) => 2) (fun (u : Unit) => True) (fun (u : Unit) => ([(oa, .inl (cL, 1, .inr (.inl (fun j => iL (v0 j)))))] : va_W))) := by
  refine gmW_of (by decide +kernel) (Nat.le_of_ble_eq_true rfl) ?_
  intro p e s m below meth c ls A hx hb hr hts hown hlk hml hl hN hK hP hD hS hA hAi hxt hsz hX
  subst hsz
  have hown : s.vm.findClass "DayBookLaw" = some m.cls := hown
  have hl : lv_has ls 5 [(0, .ref b), (1, .int (iI p0)), (2, .int (iI p1)), (3, .ref oa)] := hl
  have hF : _ ∧ _ ∧ _ ∧ _ ∧ _ ∧ _ := ⟨hx, hb, hml, hown, hts, hN⟩
  refine lv_aload_n hx hb d_W_leap_0 rfl (lv_at hl 3 rfl) ?_
  refine ai_iconst hx hb d_W_leap_1 ?_
  refine lv_aload_n hx hb d_W_leap_2 rfl (lv_at hl 0 rfl) ?_
  refine lv_iload_n hx hb d_W_leap_3 rfl (lv_at hl 1 rfl) ?_
  refine lv_iload_n hx hb d_W_leap_4 rfl (lv_at hl 2 rfl) ?_
  refine gx_V (C := "DayBook") (rest := [.int (iI 0), .ref oa]) hM j_B_leap k_746 s_B_leap hF (hrc s hX.1) hbm (fun U h1 h2 => hbm.2 s U h1 h2 hX.1) hP hD hS rfl (hl.1.trans hml.symm) rfl (Nat.le_of_ble_eq_true rfl) ⟨Nat.le_refl _, Nat.le_refl _⟩ ⟨Nat.le_of_ble_eq_true rfl, Nat.le_of_ble_eq_true rfl⟩ d_W_leap_5 (P9 := [(0, 17, 20, 31)]) (R9 := [(0, 17, 28, 15), (0, 17, 32, 21)]) hxt (List.forall_mem_cons.mpr ⟨⟨by decide, by decide, "java/lang/UnsupportedOperationException", k_745, hX.2 _ (by decide) _ (by decide) (by decide)⟩, (fun _ h9 => absurd h9 List.not_mem_nil)⟩) (by decide) (by decide) k_397 (fun xa H hP hD hS => ?_)
  refine lv_astore (lv' := [(4, .ref xa), (0, .ref b), (1, .int (iI p0)), (2, .int (iI p1)), (3, .ref oa)]) hx hb d_W_leap_24 hl (by decide) rfl (fun ls hl => ?_)
  refine ai_iconst hx hb d_W_leap_26 ?_
  exact gm_iret () hx hb hr hlk d_W_leap_27 hP hD hS (Nat.le_of_ble_eq_true rfl) (Nat.le_of_ble_eq_true rfl) rfl trivial
set_option maxHeartbeats 4000000 in
set_option maxRecDepth 100000 in
theorem ct_W_leap_IA (l : Launch) (D : va_G) (b : Nat) (oa : Nat) (cL : ClassId) (v0 : Nat → Int) (p0 : Int) (p1 : Int) (fr : Nat) (lo : Nat) (Bs : State → Prop) (sz : Nat) (hM : MetX l y_B_leap w_B_leap ({ frames := fr, cells := 1, slots := 6, locals := lo }) (va_Pc [.ref b, .int (iI p0), .int (iI p1)] (fun U => NV U ∧ Bs U)) "java/lang/IllegalArgumentException" 1 6) (hbm : Bm Bs) (hrc : ∀ U : State, Bs U → ∃ cellB : Cell, U.heap[b]? = some cellB ∧ cellB.vm.isStatics = false ∧ U.vm.findClass "DayBook" = some cellB.cls) : GMetW l y_W_leap w_W_leap (fr + 1) (8 + (4 + 11) + lo) 1 6 [.ref b, .int (iI p0), .int (iI p1), .ref oa] D [(cL, .long)] [(oa, .inl (cL, 1, .inr (.inl (fun j => iL (v0 j)))))] sz (fun U => Bs U ∧ NCX U) (GQi D (fun (u : Unit) => 3) (fun (u : Unit) => True) (fun (u : Unit) => ([(oa, .inl (cL, 1, .inr (.inl (fun j => iL (v0 j)))))] : va_W))) := by
  refine gmW_of (by decide +kernel) (Nat.le_of_ble_eq_true rfl) ?_
  intro p e s m below meth c ls A hx hb hr hts hown hlk hml hl hN hK hP hD hS hA hAi hxt hsz hX
  subst hsz
  have hown : s.vm.findClass "DayBookLaw" = some m.cls := hown
  have hl : lv_has ls 5 [(0, .ref b), (1, .int (iI p0)), (2, .int (iI p1)), (3, .ref oa)] := hl
  have hF : _ ∧ _ ∧ _ ∧ _ ∧ _ ∧ _ := ⟨hx, hb, hml, hown, hts, hN⟩
  refine lv_aload_n hx hb d_W_leap_0 rfl (lv_at hl 3 rfl) ?_
  refine ai_iconst hx hb d_W_leap_1 ?_
  refine lv_aload_n hx hb d_W_leap_2 rfl (lv_at hl 0 rfl) ?_
  refine lv_iload_n hx hb d_W_leap_3 rfl (lv_at hl 1 rfl) ?_
  refine lv_iload_n hx hb d_W_leap_4 rfl (lv_at hl 2 rfl) ?_
  refine gx_V (C := "DayBook") (rest := [.int (iI 0), .ref oa]) hM j_B_leap k_746 s_B_leap hF (hrc s hX.1) hbm (fun U h1 h2 => hbm.2 s U h1 h2 hX.1) hP hD hS rfl (hl.1.trans hml.symm) rfl (Nat.le_of_ble_eq_true rfl) ⟨Nat.le_refl _, Nat.le_refl _⟩ ⟨Nat.le_of_ble_eq_true rfl, Nat.le_of_ble_eq_true rfl⟩ d_W_leap_5 (P9 := [(0, 17, 20, 31), (0, 17, 24, 13)]) (R9 := [(0, 17, 32, 21)]) hxt (List.forall_mem_cons.mpr ⟨⟨by decide, by decide, "java/lang/UnsupportedOperationException", k_745, hX.2 _ (by decide) _ (by decide) (by decide)⟩, (List.forall_mem_cons.mpr ⟨⟨by decide, by decide, "java/lang/IndexOutOfBoundsException", k_397, hX.2 _ (by decide) _ (by decide) (by decide)⟩, (fun _ h9 => absurd h9 List.not_mem_nil)⟩)⟩) (by decide) (by decide) k_398 (fun xa H hP hD hS => ?_)
  refine lv_astore (lv' := [(4, .ref xa), (0, .ref b), (1, .int (iI p0)), (2, .int (iI p1)), (3, .ref oa)]) hx hb d_W_leap_28 hl (by decide) rfl (fun ls hl => ?_)
  refine ai_iconst hx hb d_W_leap_30 ?_
  exact gm_iret () hx hb hr hlk d_W_leap_31 hP hD hS (Nat.le_of_ble_eq_true rfl) (Nat.le_of_ble_eq_true rfl) rfl trivial
set_option maxHeartbeats 4000000 in
set_option maxRecDepth 100000 in
theorem ct_W_leap_AR (l : Launch) (D : va_G) (b : Nat) (oa : Nat) (cL : ClassId) (v0 : Nat → Int) (p0 : Int) (p1 : Int) (fr : Nat) (lo : Nat) (Bs : State → Prop) (sz : Nat) (hM : MetX l y_B_leap w_B_leap ({ frames := fr, cells := 1, slots := 6, locals := lo }) (va_Pc [.ref b, .int (iI p0), .int (iI p1)] (fun U => NV U ∧ Bs U)) "java/lang/ArithmeticException" 1 6) (hbm : Bm Bs) (hrc : ∀ U : State, Bs U → ∃ cellB : Cell, U.heap[b]? = some cellB ∧ cellB.vm.isStatics = false ∧ U.vm.findClass "DayBook" = some cellB.cls) : GMetW l y_W_leap w_W_leap (fr + 1) (8 + (4 + 11) + lo) 1 6 [.ref b, .int (iI p0), .int (iI p1), .ref oa] D [(cL, .long)] [(oa, .inl (cL, 1, .inr (.inl (fun j => iL (v0 j)))))] sz (fun U => Bs U ∧ NCX U) (GQi D (fun (u : Unit) => 4) (fun (u : Unit) => True) (fun (u : Unit) => ([(oa, .inl (cL, 1, .inr (.inl (fun j => iL (v0 j)))))] : va_W))) := by
  refine gmW_of (by decide +kernel) (Nat.le_of_ble_eq_true rfl) ?_
  intro p e s m below meth c ls A hx hb hr hts hown hlk hml hl hN hK hP hD hS hA hAi hxt hsz hX
  subst hsz
  have hown : s.vm.findClass "DayBookLaw" = some m.cls := hown
  have hl : lv_has ls 5 [(0, .ref b), (1, .int (iI p0)), (2, .int (iI p1)), (3, .ref oa)] := hl
  have hF : _ ∧ _ ∧ _ ∧ _ ∧ _ ∧ _ := ⟨hx, hb, hml, hown, hts, hN⟩
  refine lv_aload_n hx hb d_W_leap_0 rfl (lv_at hl 3 rfl) ?_
  refine ai_iconst hx hb d_W_leap_1 ?_
  refine lv_aload_n hx hb d_W_leap_2 rfl (lv_at hl 0 rfl) ?_
  refine lv_iload_n hx hb d_W_leap_3 rfl (lv_at hl 1 rfl) ?_
  refine lv_iload_n hx hb d_W_leap_4 rfl (lv_at hl 2 rfl) ?_
  refine gx_V (C := "DayBook") (rest := [.int (iI 0), .ref oa]) hM j_B_leap k_746 s_B_leap hF (hrc s hX.1) hbm (fun U h1 h2 => hbm.2 s U h1 h2 hX.1) hP hD hS rfl (hl.1.trans hml.symm) rfl (Nat.le_of_ble_eq_true rfl) ⟨Nat.le_refl _, Nat.le_refl _⟩ ⟨Nat.le_of_ble_eq_true rfl, Nat.le_of_ble_eq_true rfl⟩ d_W_leap_5 (P9 := [(0, 17, 20, 31), (0, 17, 24, 13), (0, 17, 28, 15)]) (R9 := []) hxt (List.forall_mem_cons.mpr ⟨⟨by decide, by decide, "java/lang/UnsupportedOperationException", k_745, hX.2 _ (by decide) _ (by decide) (by decide)⟩, (List.forall_mem_cons.mpr ⟨⟨by decide, by decide, "java/lang/IndexOutOfBoundsException", k_397, hX.2 _ (by decide) _ (by decide) (by decide)⟩, (List.forall_mem_cons.mpr ⟨⟨by decide, by decide, "java/lang/IllegalArgumentException", k_398, hX.2 _ (by decide) _ (by decide) (by decide)⟩, (fun _ h9 => absurd h9 List.not_mem_nil)⟩)⟩)⟩) (by decide) (by decide) k_491 (fun xa H hP hD hS => ?_)
  refine lv_astore (lv' := [(4, .ref xa), (0, .ref b), (1, .int (iI p0)), (2, .int (iI p1)), (3, .ref oa)]) hx hb d_W_leap_32 hl (by decide) rfl (fun ls hl => ?_)
  refine ai_iconst hx hb d_W_leap_34 ?_
  exact gm_iret () hx hb hr hlk d_W_leap_35 hP hD hS (Nat.le_of_ble_eq_true rfl) (Nat.le_of_ble_eq_true rfl) rfl trivial
set_option maxHeartbeats 4000000 in
set_option maxRecDepth 100000 in
theorem ct_W_onOrBefore (l : Launch) (D : va_G) (b : Nat) (oa : Nat) (cL : ClassId) (v0 : Nat → Int) (p0 : Int) (p1 : Int) (fr : Nat) (lo : Nat) (Bs : State → Prop) (v : Int) (sz : Nat) (hM : RO l y_B_onOrBefore w_B_onOrBefore fr lo [.ref b, .int (iI p0), .int (iI p1)] Bs (.int (iI v))) (hbm : Bm Bs) (hrc : ∀ U : State, Bs U → ∃ cellB : Cell, U.heap[b]? = some cellB ∧ cellB.vm.isStatics = false ∧ U.vm.findClass "DayBook" = some cellB.cls) (rv : -2147483648 ≤ v ∧ v ≤ 2147483647) : GMetW l y_W_onOrBefore w_W_onOrBefore (fr + 1) (8 + (4 + 11) + lo) 0 0 [.ref b, .int (iI p0), .int (iI p1), .ref oa] D [(cL, .long)] [(oa, .inl (cL, 1, .inr (.inl (fun j => iL (v0 j)))))] sz Bs (GQi D (fun (u : Unit) => 0) (fun (u : Unit) => True) (fun (u : Unit) => ([(oa, .inl (cL, 1, .inr (.inl (fun j => iL ((upF v0 (Int.toNat 0) (v)) j)))))] : va_W))) := by
  refine gmW_of (by decide +kernel) (Nat.le_of_ble_eq_true rfl) ?_
  intro p e s m below meth c ls A hx hb hr hts hown hlk hml hl hN hK hP hD hS hA hAi hxt hsz hX
  subst hsz
  have hown : s.vm.findClass "DayBookLaw" = some m.cls := hown
  have hl : lv_has ls 5 [(0, .ref b), (1, .int (iI p0)), (2, .int (iI p1)), (3, .ref oa)] := hl
  have hF : _ ∧ _ ∧ _ ∧ _ ∧ _ ∧ _ := ⟨hx, hb, hml, hown, hts, hN⟩
  refine lv_aload_n hx hb d_W_onOrBefore_0 rfl (lv_at hl 3 rfl) ?_
  refine ai_iconst hx hb d_W_onOrBefore_1 ?_
  refine lv_aload_n hx hb d_W_onOrBefore_2 rfl (lv_at hl 0 rfl) ?_
  refine lv_iload_n hx hb d_W_onOrBefore_3 rfl (lv_at hl 1 rfl) ?_
  refine lv_iload_n hx hb d_W_onOrBefore_4 rfl (lv_at hl 2 rfl) ?_
  refine ro_V (C := "DayBook") (rest := [.int (iI 0), .ref oa]) hM j_B_onOrBefore k_800 (hts _ s_B_onOrBefore) hF (hrc s hX) rfl hl.1 rfl ⟨Nat.le_refl _, Nat.le_refl _⟩ (Nat.le_of_ble_eq_true rfl) d_W_onOrBefore_5 ⟨Nat.le_of_ble_eq_true rfl, Nat.le_of_ble_eq_true rfl⟩ hbm (fun U h1 h2 => hbm.2 s U h1 h2 hX) ?_
  refine ai_i2l hx hb d_W_onOrBefore_8 (by omega) ?_
  refine ma_lst hx hb hK hP hD hS 0 0 rfl rfl (h := v0) (v := v) (by omega) (by decide) d_W_onOrBefore_9 (fun H locs hP hD hS => ?_)
  have hP : va_P D CL [(oa, .inl (cL, 1, .inr (.inl (fun j => iL ((upF v0 (Int.toNat 0) v) j)))))] H := hP
  have hD : va_D A [(oa, .inl (cL, 1, .inr (.inl (fun j => iL ((upF v0 (Int.toNat 0) v) j)))))] := hD
  refine lv_goto hx hb d_W_onOrBefore_10 rfl ?_
  refine ai_iconst hx hb d_W_onOrBefore_21 ?_
  exact gm_iret () hx hb hr hlk d_W_onOrBefore_22 hP hD hS (Nat.le_of_ble_eq_true rfl) (Nat.le_of_ble_eq_true rfl) rfl trivial
set_option maxHeartbeats 4000000 in
set_option maxRecDepth 100000 in
theorem ct_W_onOrBefore_IA (l : Launch) (D : va_G) (b : Nat) (oa : Nat) (cL : ClassId) (v0 : Nat → Int) (p0 : Int) (p1 : Int) (fr : Nat) (lo : Nat) (Bs : State → Prop) (sz : Nat) (hM : MetX l y_B_onOrBefore w_B_onOrBefore ({ frames := fr, cells := 1, slots := 6, locals := lo }) (va_Pc [.ref b, .int (iI p0), .int (iI p1)] (fun U => NV U ∧ Bs U)) "java/lang/IllegalArgumentException" 1 6) (hbm : Bm Bs) (hrc : ∀ U : State, Bs U → ∃ cellB : Cell, U.heap[b]? = some cellB ∧ cellB.vm.isStatics = false ∧ U.vm.findClass "DayBook" = some cellB.cls) : GMetW l y_W_onOrBefore w_W_onOrBefore (fr + 1) (8 + (4 + 11) + lo) 1 6 [.ref b, .int (iI p0), .int (iI p1), .ref oa] D [(cL, .long)] [(oa, .inl (cL, 1, .inr (.inl (fun j => iL (v0 j)))))] sz (fun U => Bs U ∧ NCX U) (GQi D (fun (u : Unit) => 1) (fun (u : Unit) => True) (fun (u : Unit) => ([(oa, .inl (cL, 1, .inr (.inl (fun j => iL (v0 j)))))] : va_W))) := by
  refine gmW_of (by decide +kernel) (Nat.le_of_ble_eq_true rfl) ?_
  intro p e s m below meth c ls A hx hb hr hts hown hlk hml hl hN hK hP hD hS hA hAi hxt hsz hX
  subst hsz
  have hown : s.vm.findClass "DayBookLaw" = some m.cls := hown
  have hl : lv_has ls 5 [(0, .ref b), (1, .int (iI p0)), (2, .int (iI p1)), (3, .ref oa)] := hl
  have hF : _ ∧ _ ∧ _ ∧ _ ∧ _ ∧ _ := ⟨hx, hb, hml, hown, hts, hN⟩
  refine lv_aload_n hx hb d_W_onOrBefore_0 rfl (lv_at hl 3 rfl) ?_
  refine ai_iconst hx hb d_W_onOrBefore_1 ?_
  refine lv_aload_n hx hb d_W_onOrBefore_2 rfl (lv_at hl 0 rfl) ?_
  refine lv_iload_n hx hb d_W_onOrBefore_3 rfl (lv_at hl 1 rfl) ?_
  refine lv_iload_n hx hb d_W_onOrBefore_4 rfl (lv_at hl 2 rfl) ?_
  refine gx_V (C := "DayBook") (rest := [.int (iI 0), .ref oa]) hM j_B_onOrBefore k_800 s_B_onOrBefore hF (hrc s hX.1) hbm (fun U h1 h2 => hbm.2 s U h1 h2 hX.1) hP hD hS rfl (hl.1.trans hml.symm) rfl (Nat.le_of_ble_eq_true rfl) ⟨Nat.le_refl _, Nat.le_refl _⟩ ⟨Nat.le_of_ble_eq_true rfl, Nat.le_of_ble_eq_true rfl⟩ d_W_onOrBefore_5 (P9 := []) (R9 := [(0, 10, 17, 21)]) hxt (fun _ h9 => absurd h9 List.not_mem_nil) (by decide) (by decide) k_398 (fun xa H hP hD hS => ?_)
  refine lv_astore (lv' := [(4, .ref xa), (0, .ref b), (1, .int (iI p0)), (2, .int (iI p1)), (3, .ref oa)]) hx hb d_W_onOrBefore_13 hl (by decide) rfl (fun ls hl => ?_)
  refine ai_iconst hx hb d_W_onOrBefore_15 ?_
  exact gm_iret () hx hb hr hlk d_W_onOrBefore_16 hP hD hS (Nat.le_of_ble_eq_true rfl) (Nat.le_of_ble_eq_true rfl) rfl trivial
set_option maxHeartbeats 4000000 in
set_option maxRecDepth 100000 in
theorem ct_W_onOrBefore_AR (l : Launch) (D : va_G) (b : Nat) (oa : Nat) (cL : ClassId) (v0 : Nat → Int) (p0 : Int) (p1 : Int) (fr : Nat) (lo : Nat) (Bs : State → Prop) (sz : Nat) (hM : MetX l y_B_onOrBefore w_B_onOrBefore ({ frames := fr, cells := 1, slots := 6, locals := lo }) (va_Pc [.ref b, .int (iI p0), .int (iI p1)] (fun U => NV U ∧ Bs U)) "java/lang/ArithmeticException" 1 6) (hbm : Bm Bs) (hrc : ∀ U : State, Bs U → ∃ cellB : Cell, U.heap[b]? = some cellB ∧ cellB.vm.isStatics = false ∧ U.vm.findClass "DayBook" = some cellB.cls) : GMetW l y_W_onOrBefore w_W_onOrBefore (fr + 1) (8 + (4 + 11) + lo) 1 6 [.ref b, .int (iI p0), .int (iI p1), .ref oa] D [(cL, .long)] [(oa, .inl (cL, 1, .inr (.inl (fun j => iL (v0 j)))))] sz (fun U => Bs U ∧ NCX U) (GQi D (fun (u : Unit) => 2) (fun (u : Unit) => True) (fun (u : Unit) => ([(oa, .inl (cL, 1, .inr (.inl (fun j => iL (v0 j)))))] : va_W))) := by
  refine gmW_of (by decide +kernel) (Nat.le_of_ble_eq_true rfl) ?_
  intro p e s m below meth c ls A hx hb hr hts hown hlk hml hl hN hK hP hD hS hA hAi hxt hsz hX
  subst hsz
  have hown : s.vm.findClass "DayBookLaw" = some m.cls := hown
  have hl : lv_has ls 5 [(0, .ref b), (1, .int (iI p0)), (2, .int (iI p1)), (3, .ref oa)] := hl
  have hF : _ ∧ _ ∧ _ ∧ _ ∧ _ ∧ _ := ⟨hx, hb, hml, hown, hts, hN⟩
  refine lv_aload_n hx hb d_W_onOrBefore_0 rfl (lv_at hl 3 rfl) ?_
  refine ai_iconst hx hb d_W_onOrBefore_1 ?_
  refine lv_aload_n hx hb d_W_onOrBefore_2 rfl (lv_at hl 0 rfl) ?_
  refine lv_iload_n hx hb d_W_onOrBefore_3 rfl (lv_at hl 1 rfl) ?_
  refine lv_iload_n hx hb d_W_onOrBefore_4 rfl (lv_at hl 2 rfl) ?_
  refine gx_V (C := "DayBook") (rest := [.int (iI 0), .ref oa]) hM j_B_onOrBefore k_800 s_B_onOrBefore hF (hrc s hX.1) hbm (fun U h1 h2 => hbm.2 s U h1 h2 hX.1) hP hD hS rfl (hl.1.trans hml.symm) rfl (Nat.le_of_ble_eq_true rfl) ⟨Nat.le_refl _, Nat.le_refl _⟩ ⟨Nat.le_of_ble_eq_true rfl, Nat.le_of_ble_eq_true rfl⟩ d_W_onOrBefore_5 (P9 := [(0, 10, 13, 15)]) (R9 := []) hxt (List.forall_mem_cons.mpr ⟨⟨by decide, by decide, "java/lang/IllegalArgumentException", k_398, hX.2 _ (by decide) _ (by decide) (by decide)⟩, (fun _ h9 => absurd h9 List.not_mem_nil)⟩) (by decide) (by decide) k_491 (fun xa H hP hD hS => ?_)
  refine lv_astore (lv' := [(4, .ref xa), (0, .ref b), (1, .int (iI p0)), (2, .int (iI p1)), (3, .ref oa)]) hx hb d_W_onOrBefore_17 hl (by decide) rfl (fun ls hl => ?_)
  refine ai_iconst hx hb d_W_onOrBefore_19 ?_
  exact gm_iret () hx hb hr hlk d_W_onOrBefore_20 hP hD hS (Nat.le_of_ble_eq_true rfl) (Nat.le_of_ble_eq_true rfl) rfl trivial
set_option maxHeartbeats 4000000 in
set_option maxRecDepth 100000 in
theorem ct_W_feast (l : Launch) (D : va_G) (b : Nat) (oa : Nat) (cL : ClassId) (v0 : Nat → Int) (p0 : Int) (p1 : Int) (fr : Nat) (lo : Nat) (Bs : State → Prop) (v : Int) (sz : Nat) (hM : RO l y_B_feast w_B_feast fr lo [.ref b, .int (iI p0), .int (iI p1)] Bs (.int (iI v))) (hbm : Bm Bs) (hrc : ∀ U : State, Bs U → ∃ cellB : Cell, U.heap[b]? = some cellB ∧ cellB.vm.isStatics = false ∧ U.vm.findClass "DayBook" = some cellB.cls) (rv : -2147483648 ≤ v ∧ v ≤ 2147483647) : GMetW l y_W_feast w_W_feast (fr + 1) (8 + (3 + 11) + lo) 0 0 [.ref b, .int (iI p0), .int (iI p1), .ref oa] D [(cL, .long)] [(oa, .inl (cL, 1, .inr (.inl (fun j => iL (v0 j)))))] sz Bs (GQi D (fun (u : Unit) => 0) (fun (u : Unit) => True) (fun (u : Unit) => ([(oa, .inl (cL, 1, .inr (.inl (fun j => iL ((upF v0 (Int.toNat 0) (v)) j)))))] : va_W))) := by
  refine gmW_of (by decide +kernel) (Nat.le_of_ble_eq_true rfl) ?_
  intro p e s m below meth c ls A hx hb hr hts hown hlk hml hl hN hK hP hD hS hA hAi hxt hsz hX
  subst hsz
  have hown : s.vm.findClass "DayBookLaw" = some m.cls := hown
  have hl : lv_has ls 5 [(0, .ref b), (1, .int (iI p0)), (2, .int (iI p1)), (3, .ref oa)] := hl
  have hF : _ ∧ _ ∧ _ ∧ _ ∧ _ ∧ _ := ⟨hx, hb, hml, hown, hts, hN⟩
  refine lv_aload_n hx hb d_W_feast_0 rfl (lv_at hl 3 rfl) ?_
  refine ai_iconst hx hb d_W_feast_1 ?_
  refine lv_aload_n hx hb d_W_feast_2 rfl (lv_at hl 0 rfl) ?_
  refine lv_iload_n hx hb d_W_feast_3 rfl (lv_at hl 1 rfl) ?_
  refine lv_iload_n hx hb d_W_feast_4 rfl (lv_at hl 2 rfl) ?_
  refine ro_V (C := "DayBook") (rest := [.int (iI 0), .ref oa]) hM j_B_feast k_807 (hts _ s_B_feast) hF (hrc s hX) rfl hl.1 rfl ⟨Nat.le_refl _, Nat.le_refl _⟩ (Nat.le_of_ble_eq_true rfl) d_W_feast_5 ⟨Nat.le_of_ble_eq_true rfl, Nat.le_of_ble_eq_true rfl⟩ hbm (fun U h1 h2 => hbm.2 s U h1 h2 hX) ?_
  refine ai_i2l hx hb d_W_feast_8 (by omega) ?_
  refine ma_lst hx hb hK hP hD hS 0 0 rfl rfl (h := v0) (v := v) (by omega) (by decide) d_W_feast_9 (fun H locs hP hD hS => ?_)
  have hP : va_P D CL [(oa, .inl (cL, 1, .inr (.inl (fun j => iL ((upF v0 (Int.toNat 0) v) j)))))] H := hP
  have hD : va_D A [(oa, .inl (cL, 1, .inr (.inl (fun j => iL ((upF v0 (Int.toNat 0) v) j)))))] := hD
  refine lv_goto hx hb d_W_feast_10 rfl ?_
  refine ai_iconst hx hb d_W_feast_21 ?_
  exact gm_iret () hx hb hr hlk d_W_feast_22 hP hD hS (Nat.le_of_ble_eq_true rfl) (Nat.le_of_ble_eq_true rfl) rfl trivial
set_option maxHeartbeats 4000000 in
set_option maxRecDepth 100000 in
theorem ct_W_feast_IX (l : Launch) (D : va_G) (b : Nat) (oa : Nat) (cL : ClassId) (v0 : Nat → Int) (p0 : Int) (p1 : Int) (fr : Nat) (lo : Nat) (Bs : State → Prop) (sz : Nat) (hM : MetX l y_B_feast w_B_feast ({ frames := fr, cells := 1, slots := 6, locals := lo }) (va_Pc [.ref b, .int (iI p0), .int (iI p1)] (fun U => NV U ∧ Bs U)) "java/lang/IndexOutOfBoundsException" 1 6) (hbm : Bm Bs) (hrc : ∀ U : State, Bs U → ∃ cellB : Cell, U.heap[b]? = some cellB ∧ cellB.vm.isStatics = false ∧ U.vm.findClass "DayBook" = some cellB.cls) : GMetW l y_W_feast w_W_feast (fr + 1) (8 + (3 + 11) + lo) 1 6 [.ref b, .int (iI p0), .int (iI p1), .ref oa] D [(cL, .long)] [(oa, .inl (cL, 1, .inr (.inl (fun j => iL (v0 j)))))] sz (fun U => Bs U ∧ NCX U) (GQi D (fun (u : Unit) => 1) (fun (u : Unit) => True) (fun (u : Unit) => ([(oa, .inl (cL, 1, .inr (.inl (fun j => iL (v0 j)))))] : va_W))) := by
  refine gmW_of (by decide +kernel) (Nat.le_of_ble_eq_true rfl) ?_
  intro p e s m below meth c ls A hx hb hr hts hown hlk hml hl hN hK hP hD hS hA hAi hxt hsz hX
  subst hsz
  have hown : s.vm.findClass "DayBookLaw" = some m.cls := hown
  have hl : lv_has ls 5 [(0, .ref b), (1, .int (iI p0)), (2, .int (iI p1)), (3, .ref oa)] := hl
  have hF : _ ∧ _ ∧ _ ∧ _ ∧ _ ∧ _ := ⟨hx, hb, hml, hown, hts, hN⟩
  refine lv_aload_n hx hb d_W_feast_0 rfl (lv_at hl 3 rfl) ?_
  refine ai_iconst hx hb d_W_feast_1 ?_
  refine lv_aload_n hx hb d_W_feast_2 rfl (lv_at hl 0 rfl) ?_
  refine lv_iload_n hx hb d_W_feast_3 rfl (lv_at hl 1 rfl) ?_
  refine lv_iload_n hx hb d_W_feast_4 rfl (lv_at hl 2 rfl) ?_
  refine gx_V (C := "DayBook") (rest := [.int (iI 0), .ref oa]) hM j_B_feast k_807 s_B_feast hF (hrc s hX.1) hbm (fun U h1 h2 => hbm.2 s U h1 h2 hX.1) hP hD hS rfl (hl.1.trans hml.symm) rfl (Nat.le_of_ble_eq_true rfl) ⟨Nat.le_refl _, Nat.le_refl _⟩ ⟨Nat.le_of_ble_eq_true rfl, Nat.le_of_ble_eq_true rfl⟩ d_W_feast_5 (P9 := []) (R9 := [(0, 10, 17, 21)]) hxt (fun _ h9 => absurd h9 List.not_mem_nil) (by decide) (by decide) k_397 (fun xa H hP hD hS => ?_)
  refine lv_astore (lv' := [(4, .ref xa), (0, .ref b), (1, .int (iI p0)), (2, .int (iI p1)), (3, .ref oa)]) hx hb d_W_feast_13 hl (by decide) rfl (fun ls hl => ?_)
  refine ai_iconst hx hb d_W_feast_15 ?_
  exact gm_iret () hx hb hr hlk d_W_feast_16 hP hD hS (Nat.le_of_ble_eq_true rfl) (Nat.le_of_ble_eq_true rfl) rfl trivial
set_option maxHeartbeats 4000000 in
set_option maxRecDepth 100000 in
theorem ct_W_feast_AR (l : Launch) (D : va_G) (b : Nat) (oa : Nat) (cL : ClassId) (v0 : Nat → Int) (p0 : Int) (p1 : Int) (fr : Nat) (lo : Nat) (Bs : State → Prop) (sz : Nat) (hM : MetX l y_B_feast w_B_feast ({ frames := fr, cells := 1, slots := 6, locals := lo }) (va_Pc [.ref b, .int (iI p0), .int (iI p1)] (fun U => NV U ∧ Bs U)) "java/lang/ArithmeticException" 1 6) (hbm : Bm Bs) (hrc : ∀ U : State, Bs U → ∃ cellB : Cell, U.heap[b]? = some cellB ∧ cellB.vm.isStatics = false ∧ U.vm.findClass "DayBook" = some cellB.cls) : GMetW l y_W_feast w_W_feast (fr + 1) (8 + (3 + 11) + lo) 1 6 [.ref b, .int (iI p0), .int (iI p1), .ref oa] D [(cL, .long)] [(oa, .inl (cL, 1, .inr (.inl (fun j => iL (v0 j)))))] sz (fun U => Bs U ∧ NCX U) (GQi D (fun (u : Unit) => 2) (fun (u : Unit) => True) (fun (u : Unit) => ([(oa, .inl (cL, 1, .inr (.inl (fun j => iL (v0 j)))))] : va_W))) := by
  refine gmW_of (by decide +kernel) (Nat.le_of_ble_eq_true rfl) ?_
  intro p e s m below meth c ls A hx hb hr hts hown hlk hml hl hN hK hP hD hS hA hAi hxt hsz hX
  subst hsz
  have hown : s.vm.findClass "DayBookLaw" = some m.cls := hown
  have hl : lv_has ls 5 [(0, .ref b), (1, .int (iI p0)), (2, .int (iI p1)), (3, .ref oa)] := hl
  have hF : _ ∧ _ ∧ _ ∧ _ ∧ _ ∧ _ := ⟨hx, hb, hml, hown, hts, hN⟩
  refine lv_aload_n hx hb d_W_feast_0 rfl (lv_at hl 3 rfl) ?_
  refine ai_iconst hx hb d_W_feast_1 ?_
  refine lv_aload_n hx hb d_W_feast_2 rfl (lv_at hl 0 rfl) ?_
  refine lv_iload_n hx hb d_W_feast_3 rfl (lv_at hl 1 rfl) ?_
  refine lv_iload_n hx hb d_W_feast_4 rfl (lv_at hl 2 rfl) ?_
  refine gx_V (C := "DayBook") (rest := [.int (iI 0), .ref oa]) hM j_B_feast k_807 s_B_feast hF (hrc s hX.1) hbm (fun U h1 h2 => hbm.2 s U h1 h2 hX.1) hP hD hS rfl (hl.1.trans hml.symm) rfl (Nat.le_of_ble_eq_true rfl) ⟨Nat.le_refl _, Nat.le_refl _⟩ ⟨Nat.le_of_ble_eq_true rfl, Nat.le_of_ble_eq_true rfl⟩ d_W_feast_5 (P9 := [(0, 10, 13, 13)]) (R9 := []) hxt (List.forall_mem_cons.mpr ⟨⟨by decide, by decide, "java/lang/IndexOutOfBoundsException", k_397, hX.2 _ (by decide) _ (by decide) (by decide)⟩, (fun _ h9 => absurd h9 List.not_mem_nil)⟩) (by decide) (by decide) k_491 (fun xa H hP hD hS => ?_)
  refine lv_astore (lv' := [(4, .ref xa), (0, .ref b), (1, .int (iI p0)), (2, .int (iI p1)), (3, .ref oa)]) hx hb d_W_feast_17 hl (by decide) rfl (fun ls hl => ?_)
  refine ai_iconst hx hb d_W_feast_19 ?_
  exact gm_iret () hx hb hr hlk d_W_feast_20 hP hD hS (Nat.le_of_ble_eq_true rfl) (Nat.le_of_ble_eq_true rfl) rfl trivial
set_option maxHeartbeats 4000000 in
set_option maxRecDepth 100000 in
theorem ct_W_when (l : Launch) (D : va_G) (b : Nat) (oa : Nat) (cL : ClassId) (v0 : Nat → Int) (p0 : Int) (p1 : Int) (p2 : Int) (p3 : Int) (p4 : Int) (fr : Nat) (lo : Nat) (Bs : State → Prop) (v : Int) (sz : Nat) (hM : RO l y_B_when w_B_when fr lo [.ref b, .int (iI p0), .int (iI p1), .int (iI p2), .int (iI p3), .int (iI p4)] Bs (.int (iI v))) (hbm : Bm Bs) (hrc : ∀ U : State, Bs U → ∃ cellB : Cell, U.heap[b]? = some cellB ∧ cellB.vm.isStatics = false ∧ U.vm.findClass "DayBook" = some cellB.cls) (rv : -2147483648 ≤ v ∧ v ≤ 2147483647) : GMetW l y_W_when w_W_when (fr + 1) (8 + (16 + 11) + lo) 0 0 [.ref b, .int (iI p0), .int (iI p1), .int (iI p2), .int (iI p3), .int (iI p4), .ref oa] D [(cL, .long)] [(oa, .inl (cL, 1, .inr (.inl (fun j => iL (v0 j)))))] sz Bs (GQi D (fun (u : Unit) => 0) (fun (u : Unit) => True) (fun (u : Unit) => ([(oa, .inl (cL, 1, .inr (.inl (fun j => iL ((upF v0 (Int.toNat 0) (v)) j)))))] : va_W))) := by
  refine gmW_of (by decide +kernel) (Nat.le_of_ble_eq_true rfl) ?_
  intro p e s m below meth c ls A hx hb hr hts hown hlk hml hl hN hK hP hD hS hA hAi hxt hsz hX
  subst hsz
  have hown : s.vm.findClass "DayBookLaw" = some m.cls := hown
  have hl : lv_has ls 8 [(0, .ref b), (1, .int (iI p0)), (2, .int (iI p1)), (3, .int (iI p2)), (4, .int (iI p3)), (5, .int (iI p4)), (6, .ref oa)] := hl
  have hF : _ ∧ _ ∧ _ ∧ _ ∧ _ ∧ _ := ⟨hx, hb, hml, hown, hts, hN⟩
  refine lv_aload hx hb d_W_when_0 (lv_at hl 6 rfl) ?_
  refine ai_iconst hx hb d_W_when_2 ?_
  refine lv_aload_n hx hb d_W_when_3 rfl (lv_at hl 0 rfl) ?_
  refine lv_iload_n hx hb d_W_when_4 rfl (lv_at hl 1 rfl) ?_
  refine lv_iload_n hx hb d_W_when_5 rfl (lv_at hl 2 rfl) ?_
  refine lv_iload_n hx hb d_W_when_6 rfl (lv_at hl 3 rfl) ?_
  refine lv_iload hx hb d_W_when_7 (lv_at hl 4 rfl) ?_
  refine lv_iload hx hb d_W_when_9 (lv_at hl 5 rfl) ?_
  refine ro_V (C := "DayBook") (rest := [.int (iI 0), .ref oa]) hM j_B_when k_839 (hts _ s_B_when) hF (hrc s hX) rfl hl.1 rfl ⟨Nat.le_refl _, Nat.le_refl _⟩ (Nat.le_of_ble_eq_true rfl) d_W_when_11 ⟨Nat.le_of_ble_eq_true rfl, Nat.le_of_ble_eq_true rfl⟩ hbm (fun U h1 h2 => hbm.2 s U h1 h2 hX) ?_
  refine ai_i2l hx hb d_W_when_14 (by omega) ?_
  refine ma_lst hx hb hK hP hD hS 0 0 rfl rfl (h := v0) (v := v) (by omega) (by decide) d_W_when_15 (fun H locs hP hD hS => ?_)
  have hP : va_P D CL [(oa, .inl (cL, 1, .inr (.inl (fun j => iL ((upF v0 (Int.toNat 0) v) j)))))] H := hP
  have hD : va_D A [(oa, .inl (cL, 1, .inr (.inl (fun j => iL ((upF v0 (Int.toNat 0) v) j)))))] := hD
  refine lv_goto hx hb d_W_when_16 rfl ?_
  refine ai_iconst hx hb d_W_when_27 ?_
  exact gm_iret () hx hb hr hlk d_W_when_28 hP hD hS (Nat.le_of_ble_eq_true rfl) (Nat.le_of_ble_eq_true rfl) rfl trivial
set_option maxHeartbeats 4000000 in
set_option maxRecDepth 100000 in
theorem ct_W_when_IX (l : Launch) (D : va_G) (b : Nat) (oa : Nat) (cL : ClassId) (v0 : Nat → Int) (p0 : Int) (p1 : Int) (p2 : Int) (p3 : Int) (p4 : Int) (fr : Nat) (lo : Nat) (Bs : State → Prop) (sz : Nat) (hM : MetX l y_B_when w_B_when ({ frames := fr, cells := 1, slots := 6, locals := lo }) (va_Pc [.ref b, .int (iI p0), .int (iI p1), .int (iI p2), .int (iI p3), .int (iI p4)] (fun U => NV U ∧ Bs U)) "java/lang/IndexOutOfBoundsException" 1 6) (hbm : Bm Bs) (hrc : ∀ U : State, Bs U → ∃ cellB : Cell, U.heap[b]? = some cellB ∧ cellB.vm.isStatics = false ∧ U.vm.findClass "DayBook" = some cellB.cls) : GMetW l y_W_when w_W_when (fr + 1) (8 + (16 + 11) + lo) 1 6 [.ref b, .int (iI p0), .int (iI p1), .int (iI p2), .int (iI p3), .int (iI p4), .ref oa] D [(cL, .long)] [(oa, .inl (cL, 1, .inr (.inl (fun j => iL (v0 j)))))] sz (fun U => Bs U ∧ NCX U) (GQi D (fun (u : Unit) => 1) (fun (u : Unit) => True) (fun (u : Unit) => ([(oa, .inl (cL, 1, .inr (.inl (fun j => iL (v0 j)))))] : va_W))) := by
  refine gmW_of (by decide +kernel) (Nat.le_of_ble_eq_true rfl) ?_
  intro p e s m below meth c ls A hx hb hr hts hown hlk hml hl hN hK hP hD hS hA hAi hxt hsz hX
  subst hsz
  have hown : s.vm.findClass "DayBookLaw" = some m.cls := hown
  have hl : lv_has ls 8 [(0, .ref b), (1, .int (iI p0)), (2, .int (iI p1)), (3, .int (iI p2)), (4, .int (iI p3)), (5, .int (iI p4)), (6, .ref oa)] := hl
  have hF : _ ∧ _ ∧ _ ∧ _ ∧ _ ∧ _ := ⟨hx, hb, hml, hown, hts, hN⟩
  refine lv_aload hx hb d_W_when_0 (lv_at hl 6 rfl) ?_
  refine ai_iconst hx hb d_W_when_2 ?_
  refine lv_aload_n hx hb d_W_when_3 rfl (lv_at hl 0 rfl) ?_
  refine lv_iload_n hx hb d_W_when_4 rfl (lv_at hl 1 rfl) ?_
  refine lv_iload_n hx hb d_W_when_5 rfl (lv_at hl 2 rfl) ?_
  refine lv_iload_n hx hb d_W_when_6 rfl (lv_at hl 3 rfl) ?_
  refine lv_iload hx hb d_W_when_7 (lv_at hl 4 rfl) ?_
  refine lv_iload hx hb d_W_when_9 (lv_at hl 5 rfl) ?_
  refine gx_V (C := "DayBook") (rest := [.int (iI 0), .ref oa]) hM j_B_when k_839 s_B_when hF (hrc s hX.1) hbm (fun U h1 h2 => hbm.2 s U h1 h2 hX.1) hP hD hS rfl (hl.1.trans hml.symm) rfl (Nat.le_of_ble_eq_true rfl) ⟨Nat.le_refl _, Nat.le_refl _⟩ ⟨Nat.le_of_ble_eq_true rfl, Nat.le_of_ble_eq_true rfl⟩ d_W_when_11 (P9 := []) (R9 := [(0, 16, 23, 21)]) hxt (fun _ h9 => absurd h9 List.not_mem_nil) (by decide) (by decide) k_397 (fun xa H hP hD hS => ?_)
  refine lv_astore (lv' := [(7, .ref xa), (0, .ref b), (1, .int (iI p0)), (2, .int (iI p1)), (3, .int (iI p2)), (4, .int (iI p3)), (5, .int (iI p4)), (6, .ref oa)]) hx hb d_W_when_19 hl (by decide) rfl (fun ls hl => ?_)
  refine ai_iconst hx hb d_W_when_21 ?_
  exact gm_iret () hx hb hr hlk d_W_when_22 hP hD hS (Nat.le_of_ble_eq_true rfl) (Nat.le_of_ble_eq_true rfl) rfl trivial
set_option maxHeartbeats 4000000 in
set_option maxRecDepth 100000 in
theorem ct_W_when_AR (l : Launch) (D : va_G) (b : Nat) (oa : Nat) (cL : ClassId) (v0 : Nat → Int) (p0 : Int) (p1 : Int) (p2 : Int) (p3 : Int) (p4 : Int) (fr : Nat) (lo : Nat) (Bs : State → Prop) (sz : Nat) (hM : MetX l y_B_when w_B_when ({ frames := fr, cells := 1, slots := 6, locals := lo }) (va_Pc [.ref b, .int (iI p0), .int (iI p1), .int (iI p2), .int (iI p3), .int (iI p4)] (fun U => NV U ∧ Bs U)) "java/lang/ArithmeticException" 1 6) (hbm : Bm Bs) (hrc : ∀ U : State, Bs U → ∃ cellB : Cell, U.heap[b]? = some cellB ∧ cellB.vm.isStatics = false ∧ U.vm.findClass "DayBook" = some cellB.cls) : GMetW l y_W_when w_W_when (fr + 1) (8 + (16 + 11) + lo) 1 6 [.ref b, .int (iI p0), .int (iI p1), .int (iI p2), .int (iI p3), .int (iI p4), .ref oa] D [(cL, .long)] [(oa, .inl (cL, 1, .inr (.inl (fun j => iL (v0 j)))))] sz (fun U => Bs U ∧ NCX U) (GQi D (fun (u : Unit) => 2) (fun (u : Unit) => True) (fun (u : Unit) => ([(oa, .inl (cL, 1, .inr (.inl (fun j => iL (v0 j)))))] : va_W))) := by
  refine gmW_of (by decide +kernel) (Nat.le_of_ble_eq_true rfl) ?_
  intro p e s m below meth c ls A hx hb hr hts hown hlk hml hl hN hK hP hD hS hA hAi hxt hsz hX
  subst hsz
  have hown : s.vm.findClass "DayBookLaw" = some m.cls := hown
  have hl : lv_has ls 8 [(0, .ref b), (1, .int (iI p0)), (2, .int (iI p1)), (3, .int (iI p2)), (4, .int (iI p3)), (5, .int (iI p4)), (6, .ref oa)] := hl
  have hF : _ ∧ _ ∧ _ ∧ _ ∧ _ ∧ _ := ⟨hx, hb, hml, hown, hts, hN⟩
  refine lv_aload hx hb d_W_when_0 (lv_at hl 6 rfl) ?_
  refine ai_iconst hx hb d_W_when_2 ?_
  refine lv_aload_n hx hb d_W_when_3 rfl (lv_at hl 0 rfl) ?_
  refine lv_iload_n hx hb d_W_when_4 rfl (lv_at hl 1 rfl) ?_
  refine lv_iload_n hx hb d_W_when_5 rfl (lv_at hl 2 rfl) ?_
  refine lv_iload_n hx hb d_W_when_6 rfl (lv_at hl 3 rfl) ?_
  refine lv_iload hx hb d_W_when_7 (lv_at hl 4 rfl) ?_
  refine lv_iload hx hb d_W_when_9 (lv_at hl 5 rfl) ?_
  refine gx_V (C := "DayBook") (rest := [.int (iI 0), .ref oa]) hM j_B_when k_839 s_B_when hF (hrc s hX.1) hbm (fun U h1 h2 => hbm.2 s U h1 h2 hX.1) hP hD hS rfl (hl.1.trans hml.symm) rfl (Nat.le_of_ble_eq_true rfl) ⟨Nat.le_refl _, Nat.le_refl _⟩ ⟨Nat.le_of_ble_eq_true rfl, Nat.le_of_ble_eq_true rfl⟩ d_W_when_11 (P9 := [(0, 16, 19, 13)]) (R9 := []) hxt (List.forall_mem_cons.mpr ⟨⟨by decide, by decide, "java/lang/IndexOutOfBoundsException", k_397, hX.2 _ (by decide) _ (by decide) (by decide)⟩, (fun _ h9 => absurd h9 List.not_mem_nil)⟩) (by decide) (by decide) k_491 (fun xa H hP hD hS => ?_)
  refine lv_astore (lv' := [(7, .ref xa), (0, .ref b), (1, .int (iI p0)), (2, .int (iI p1)), (3, .int (iI p2)), (4, .int (iI p3)), (5, .int (iI p4)), (6, .ref oa)]) hx hb d_W_when_23 hl (by decide) rfl (fun ls hl => ?_)
  refine ai_iconst hx hb d_W_when_25 ?_
  exact gm_iret () hx hb hr hlk d_W_when_26 hP hD hS (Nat.le_of_ble_eq_true rfl) (Nat.le_of_ble_eq_true rfl) rfl trivial
set_option maxHeartbeats 4000000 in
set_option maxRecDepth 100000 in
theorem ct_W_write_IX (l : Launch) (D : va_G) (b : Nat) (oa : Nat) (cL : ClassId) (v0 : Nat → Int) (p0 : Int) (p1 : Int) (fr : Nat) (lo : Nat) (Bs : State → Prop) (sz : Nat) (hM : MetX l y_B_write w_B_write ({ frames := fr, cells := 1, slots := 6, locals := lo }) (va_Pc [.ref b, .int (iI p0), .int (iI p1)] (fun U => NV U ∧ Bs U)) "java/lang/IndexOutOfBoundsException" 1 6) (hbm : Bm Bs) (hrc : ∀ U : State, Bs U → ∃ cellB : Cell, U.heap[b]? = some cellB ∧ cellB.vm.isStatics = false ∧ U.vm.findClass "DayBook" = some cellB.cls) : GMetW l y_W_write w_W_write (fr + 1) (8 + (6 + 11) + lo) 1 6 [.ref b, .int (iI p0), .int (iI p1), .ref oa] D [(cL, .long)] [(oa, .inl (cL, 1, .inr (.inl (fun j => iL (v0 j)))))] sz (fun U => Bs U ∧ NCX U) (GQi D (fun (u : Unit) => 1) (fun (u : Unit) => True) (fun (u : Unit) => ([(oa, .inl (cL, 1, .inr (.inl (fun j => iL (v0 j)))))] : va_W))) := by
  refine gmW_of (by decide +kernel) (Nat.le_of_ble_eq_true rfl) ?_
  intro p e s m below meth c ls A hx hb hr hts hown hlk hml hl hN hK hP hD hS hA hAi hxt hsz hX
  subst hsz
  have hown : s.vm.findClass "DayBookLaw" = some m.cls := hown
  have hl : lv_has ls 5 [(0, .ref b), (1, .int (iI p0)), (2, .int (iI p1)), (3, .ref oa)] := hl
  have hF : _ ∧ _ ∧ _ ∧ _ ∧ _ ∧ _ := ⟨hx, hb, hml, hown, hts, hN⟩
  refine lv_aload_n hx hb d_W_write_0 rfl (lv_at hl 3 rfl) ?_
  refine ai_iconst hx hb d_W_write_1 ?_
  refine lv_aload_n hx hb d_W_write_2 rfl (lv_at hl 0 rfl) ?_
  refine lv_iload_n hx hb d_W_write_3 rfl (lv_at hl 1 rfl) ?_
  refine lv_iload_n hx hb d_W_write_4 rfl (lv_at hl 2 rfl) ?_
  refine gx_V (C := "DayBook") (rest := [.int (iI 0), .ref oa]) hM j_B_write k_847 s_B_write hF (hrc s hX.1) hbm (fun U h1 h2 => hbm.2 s U h1 h2 hX.1) hP hD hS rfl (hl.1.trans hml.symm) rfl (Nat.le_of_ble_eq_true rfl) ⟨Nat.le_refl _, Nat.le_refl _⟩ ⟨Nat.le_of_ble_eq_true rfl, Nat.le_of_ble_eq_true rfl⟩ d_W_write_5 (P9 := []) (R9 := [(0, 10, 17, 21)]) hxt (fun _ h9 => absurd h9 List.not_mem_nil) (by decide) (by decide) k_397 (fun xa H hP hD hS => ?_)
  refine lv_astore (lv' := [(4, .ref xa), (0, .ref b), (1, .int (iI p0)), (2, .int (iI p1)), (3, .ref oa)]) hx hb d_W_write_13 hl (by decide) rfl (fun ls hl => ?_)
  refine ai_iconst hx hb d_W_write_15 ?_
  exact gm_iret () hx hb hr hlk d_W_write_16 hP hD hS (Nat.le_of_ble_eq_true rfl) (Nat.le_of_ble_eq_true rfl) rfl trivial
set_option maxHeartbeats 4000000 in
set_option maxRecDepth 100000 in
theorem ct_W_write_AR (l : Launch) (D : va_G) (b : Nat) (oa : Nat) (cL : ClassId) (v0 : Nat → Int) (p0 : Int) (p1 : Int) (fr : Nat) (lo : Nat) (Bs : State → Prop) (sz : Nat) (hM : MetX l y_B_write w_B_write ({ frames := fr, cells := 1, slots := 6, locals := lo }) (va_Pc [.ref b, .int (iI p0), .int (iI p1)] (fun U => NV U ∧ Bs U)) "java/lang/ArithmeticException" 1 6) (hbm : Bm Bs) (hrc : ∀ U : State, Bs U → ∃ cellB : Cell, U.heap[b]? = some cellB ∧ cellB.vm.isStatics = false ∧ U.vm.findClass "DayBook" = some cellB.cls) : GMetW l y_W_write w_W_write (fr + 1) (8 + (6 + 11) + lo) 1 6 [.ref b, .int (iI p0), .int (iI p1), .ref oa] D [(cL, .long)] [(oa, .inl (cL, 1, .inr (.inl (fun j => iL (v0 j)))))] sz (fun U => Bs U ∧ NCX U) (GQi D (fun (u : Unit) => 2) (fun (u : Unit) => True) (fun (u : Unit) => ([(oa, .inl (cL, 1, .inr (.inl (fun j => iL (v0 j)))))] : va_W))) := by
  refine gmW_of (by decide +kernel) (Nat.le_of_ble_eq_true rfl) ?_
  intro p e s m below meth c ls A hx hb hr hts hown hlk hml hl hN hK hP hD hS hA hAi hxt hsz hX
  subst hsz
  have hown : s.vm.findClass "DayBookLaw" = some m.cls := hown
  have hl : lv_has ls 5 [(0, .ref b), (1, .int (iI p0)), (2, .int (iI p1)), (3, .ref oa)] := hl
  have hF : _ ∧ _ ∧ _ ∧ _ ∧ _ ∧ _ := ⟨hx, hb, hml, hown, hts, hN⟩
  refine lv_aload_n hx hb d_W_write_0 rfl (lv_at hl 3 rfl) ?_
  refine ai_iconst hx hb d_W_write_1 ?_
  refine lv_aload_n hx hb d_W_write_2 rfl (lv_at hl 0 rfl) ?_
  refine lv_iload_n hx hb d_W_write_3 rfl (lv_at hl 1 rfl) ?_
  refine lv_iload_n hx hb d_W_write_4 rfl (lv_at hl 2 rfl) ?_
  refine gx_V (C := "DayBook") (rest := [.int (iI 0), .ref oa]) hM j_B_write k_847 s_B_write hF (hrc s hX.1) hbm (fun U h1 h2 => hbm.2 s U h1 h2 hX.1) hP hD hS rfl (hl.1.trans hml.symm) rfl (Nat.le_of_ble_eq_true rfl) ⟨Nat.le_refl _, Nat.le_refl _⟩ ⟨Nat.le_of_ble_eq_true rfl, Nat.le_of_ble_eq_true rfl⟩ d_W_write_5 (P9 := [(0, 10, 13, 13)]) (R9 := []) hxt (List.forall_mem_cons.mpr ⟨⟨by decide, by decide, "java/lang/IndexOutOfBoundsException", k_397, hX.2 _ (by decide) _ (by decide) (by decide)⟩, (fun _ h9 => absurd h9 List.not_mem_nil)⟩) (by decide) (by decide) k_491 (fun xa H hP hD hS => ?_)
  refine lv_astore (lv' := [(4, .ref xa), (0, .ref b), (1, .int (iI p0)), (2, .int (iI p1)), (3, .ref oa)]) hx hb d_W_write_17 hl (by decide) rfl (fun ls hl => ?_)
  refine ai_iconst hx hb d_W_write_19 ?_
  exact gm_iret () hx hb hr hlk d_W_write_20 hP hD hS (Nat.le_of_ble_eq_true rfl) (Nat.le_of_ble_eq_true rfl) rfl trivial
set_option maxHeartbeats 4000000 in
set_option maxRecDepth 100000 in
theorem ct_W_read (l : Launch) (D : va_G) (b : Nat) (oa : Nat) (cL : ClassId) (v0 : Nat → Int) (p0 : Int) (fr : Nat) (lo : Nat) (Bs : State → Prop) (v : Int) (sz : Nat) (hM : RO l y_B_read w_B_read fr lo [.ref b, .int (iI p0)] Bs (.int (iI v))) (hbm : Bm Bs) (hrc : ∀ U : State, Bs U → ∃ cellB : Cell, U.heap[b]? = some cellB ∧ cellB.vm.isStatics = false ∧ U.vm.findClass "DayBook" = some cellB.cls) (rv : -2147483648 ≤ v ∧ v ≤ 2147483647) : GMetW l y_W_read w_W_read (fr + 1) (8 + (10 + 11) + lo) 0 0 [.ref b, .int (iI p0), .ref oa] D [(cL, .long)] [(oa, .inl (cL, 1, .inr (.inl (fun j => iL (v0 j)))))] sz Bs (GQi D (fun (u : Unit) => 0) (fun (u : Unit) => True) (fun (u : Unit) => ([(oa, .inl (cL, 1, .inr (.inl (fun j => iL ((upF v0 (Int.toNat 0) (v)) j)))))] : va_W))) := by
  refine gmW_of (by decide +kernel) (Nat.le_of_ble_eq_true rfl) ?_
  intro p e s m below meth c ls A hx hb hr hts hown hlk hml hl hN hK hP hD hS hA hAi hxt hsz hX
  subst hsz
  have hown : s.vm.findClass "DayBookLaw" = some m.cls := hown
  have hl : lv_has ls 4 [(0, .ref b), (1, .int (iI p0)), (2, .ref oa)] := hl
  have hF : _ ∧ _ ∧ _ ∧ _ ∧ _ ∧ _ := ⟨hx, hb, hml, hown, hts, hN⟩
  refine lv_aload_n hx hb d_W_read_0 rfl (lv_at hl 2 rfl) ?_
  refine ai_iconst hx hb d_W_read_1 ?_
  refine lv_aload_n hx hb d_W_read_2 rfl (lv_at hl 0 rfl) ?_
  refine lv_iload_n hx hb d_W_read_3 rfl (lv_at hl 1 rfl) ?_
  refine ro_V (C := "DayBook") (rest := [.int (iI 0), .ref oa]) hM j_B_read k_888 (hts _ s_B_read) hF (hrc s hX) rfl hl.1 rfl ⟨Nat.le_refl _, Nat.le_refl _⟩ (Nat.le_of_ble_eq_true rfl) d_W_read_4 ⟨Nat.le_of_ble_eq_true rfl, Nat.le_of_ble_eq_true rfl⟩ hbm (fun U h1 h2 => hbm.2 s U h1 h2 hX) ?_
  refine ai_i2l hx hb d_W_read_7 (by omega) ?_
  refine ma_lst hx hb hK hP hD hS 0 0 rfl rfl (h := v0) (v := v) (by omega) (by decide) d_W_read_8 (fun H locs hP hD hS => ?_)
  have hP : va_P D CL [(oa, .inl (cL, 1, .inr (.inl (fun j => iL ((upF v0 (Int.toNat 0) v) j)))))] H := hP
  have hD : va_D A [(oa, .inl (cL, 1, .inr (.inl (fun j => iL ((upF v0 (Int.toNat 0) v) j)))))] := hD
  refine lv_goto hx hb d_W_read_9 rfl ?_
  refine ai_iconst hx hb d_W_read_18 ?_
  exact gm_iret () hx hb hr hlk d_W_read_19 hP hD hS (Nat.le_of_ble_eq_true rfl) (Nat.le_of_ble_eq_true rfl) rfl trivial
set_option maxHeartbeats 4000000 in
set_option maxRecDepth 100000 in
theorem ct_W_read_IX (l : Launch) (D : va_G) (b : Nat) (oa : Nat) (cL : ClassId) (v0 : Nat → Int) (p0 : Int) (fr : Nat) (lo : Nat) (Bs : State → Prop) (sz : Nat) (hM : MetX l y_B_read w_B_read ({ frames := fr, cells := 1, slots := 6, locals := lo }) (va_Pc [.ref b, .int (iI p0)] (fun U => NV U ∧ Bs U)) "java/lang/IndexOutOfBoundsException" 1 6) (hbm : Bm Bs) (hrc : ∀ U : State, Bs U → ∃ cellB : Cell, U.heap[b]? = some cellB ∧ cellB.vm.isStatics = false ∧ U.vm.findClass "DayBook" = some cellB.cls) : GMetW l y_W_read w_W_read (fr + 1) (8 + (10 + 11) + lo) 1 6 [.ref b, .int (iI p0), .ref oa] D [(cL, .long)] [(oa, .inl (cL, 1, .inr (.inl (fun j => iL (v0 j)))))] sz (fun U => Bs U ∧ NCX U) (GQi D (fun (u : Unit) => 1) (fun (u : Unit) => True) (fun (u : Unit) => ([(oa, .inl (cL, 1, .inr (.inl (fun j => iL (v0 j)))))] : va_W))) := by
  refine gmW_of (by decide +kernel) (Nat.le_of_ble_eq_true rfl) ?_
  intro p e s m below meth c ls A hx hb hr hts hown hlk hml hl hN hK hP hD hS hA hAi hxt hsz hX
  subst hsz
  have hown : s.vm.findClass "DayBookLaw" = some m.cls := hown
  have hl : lv_has ls 4 [(0, .ref b), (1, .int (iI p0)), (2, .ref oa)] := hl
  have hF : _ ∧ _ ∧ _ ∧ _ ∧ _ ∧ _ := ⟨hx, hb, hml, hown, hts, hN⟩
  refine lv_aload_n hx hb d_W_read_0 rfl (lv_at hl 2 rfl) ?_
  refine ai_iconst hx hb d_W_read_1 ?_
  refine lv_aload_n hx hb d_W_read_2 rfl (lv_at hl 0 rfl) ?_
  refine lv_iload_n hx hb d_W_read_3 rfl (lv_at hl 1 rfl) ?_
  refine gx_V (C := "DayBook") (rest := [.int (iI 0), .ref oa]) hM j_B_read k_888 s_B_read hF (hrc s hX.1) hbm (fun U h1 h2 => hbm.2 s U h1 h2 hX.1) hP hD hS rfl (hl.1.trans hml.symm) rfl (Nat.le_of_ble_eq_true rfl) ⟨Nat.le_refl _, Nat.le_refl _⟩ ⟨Nat.le_of_ble_eq_true rfl, Nat.le_of_ble_eq_true rfl⟩ d_W_read_4 (P9 := []) (R9 := [(0, 9, 15, 15)]) hxt (fun _ h9 => absurd h9 List.not_mem_nil) (by decide) (by decide) k_397 (fun xa H hP hD hS => ?_)
  refine lv_astore_n (lv' := [(3, .ref xa), (0, .ref b), (1, .int (iI p0)), (2, .ref oa)]) hx hb d_W_read_12 rfl hl (by decide) rfl (fun ls hl => ?_)
  refine ai_iconst hx hb d_W_read_13 ?_
  exact gm_iret () hx hb hr hlk d_W_read_14 hP hD hS (Nat.le_of_ble_eq_true rfl) (Nat.le_of_ble_eq_true rfl) rfl trivial
set_option maxHeartbeats 4000000 in
set_option maxRecDepth 100000 in
theorem ct_W_read_IA (l : Launch) (D : va_G) (b : Nat) (oa : Nat) (cL : ClassId) (v0 : Nat → Int) (p0 : Int) (fr : Nat) (lo : Nat) (Bs : State → Prop) (sz : Nat) (hM : MetX l y_B_read w_B_read ({ frames := fr, cells := 1, slots := 6, locals := lo }) (va_Pc [.ref b, .int (iI p0)] (fun U => NV U ∧ Bs U)) "java/lang/IllegalArgumentException" 1 6) (hbm : Bm Bs) (hrc : ∀ U : State, Bs U → ∃ cellB : Cell, U.heap[b]? = some cellB ∧ cellB.vm.isStatics = false ∧ U.vm.findClass "DayBook" = some cellB.cls) : GMetW l y_W_read w_W_read (fr + 1) (8 + (10 + 11) + lo) 1 6 [.ref b, .int (iI p0), .ref oa] D [(cL, .long)] [(oa, .inl (cL, 1, .inr (.inl (fun j => iL (v0 j)))))] sz (fun U => Bs U ∧ NCX U) (GQi D (fun (u : Unit) => 2) (fun (u : Unit) => True) (fun (u : Unit) => ([(oa, .inl (cL, 1, .inr (.inl (fun j => iL (v0 j)))))] : va_W))) := by
  refine gmW_of (by decide +kernel) (Nat.le_of_ble_eq_true rfl) ?_
  intro p e s m below meth c ls A hx hb hr hts hown hlk hml hl hN hK hP hD hS hA hAi hxt hsz hX
  subst hsz
  have hown : s.vm.findClass "DayBookLaw" = some m.cls := hown
  have hl : lv_has ls 4 [(0, .ref b), (1, .int (iI p0)), (2, .ref oa)] := hl
  have hF : _ ∧ _ ∧ _ ∧ _ ∧ _ ∧ _ := ⟨hx, hb, hml, hown, hts, hN⟩
  refine lv_aload_n hx hb d_W_read_0 rfl (lv_at hl 2 rfl) ?_
  refine ai_iconst hx hb d_W_read_1 ?_
  refine lv_aload_n hx hb d_W_read_2 rfl (lv_at hl 0 rfl) ?_
  refine lv_iload_n hx hb d_W_read_3 rfl (lv_at hl 1 rfl) ?_
  refine gx_V (C := "DayBook") (rest := [.int (iI 0), .ref oa]) hM j_B_read k_888 s_B_read hF (hrc s hX.1) hbm (fun U h1 h2 => hbm.2 s U h1 h2 hX.1) hP hD hS rfl (hl.1.trans hml.symm) rfl (Nat.le_of_ble_eq_true rfl) ⟨Nat.le_refl _, Nat.le_refl _⟩ ⟨Nat.le_of_ble_eq_true rfl, Nat.le_of_ble_eq_true rfl⟩ d_W_read_4 (P9 := [(0, 9, 12, 13)]) (R9 := []) hxt (List.forall_mem_cons.mpr ⟨⟨by decide, by decide, "java/lang/IndexOutOfBoundsException", k_397, hX.2 _ (by decide) _ (by decide) (by decide)⟩, (fun _ h9 => absurd h9 List.not_mem_nil)⟩) (by decide) (by decide) k_398 (fun xa H hP hD hS => ?_)
  refine lv_astore_n (lv' := [(3, .ref xa), (0, .ref b), (1, .int (iI p0)), (2, .ref oa)]) hx hb d_W_read_15 rfl hl (by decide) rfl (fun ls hl => ?_)
  refine ai_iconst hx hb d_W_read_16 ?_
  exact gm_iret () hx hb hr hlk d_W_read_17 hP hD hS (Nat.le_of_ble_eq_true rfl) (Nat.le_of_ble_eq_true rfl) rfl trivial
