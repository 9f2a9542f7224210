/-! 57.init: laid by program (wip/whole) -/
theorem cm_succ (f : Nat → Int) (k : Nat) : cm f (k + 1) = cm f k + f k := rfl
set_option maxHeartbeats 4000000 in
set_option maxRecDepth 100000 in
theorem ct_LR_init (l : Launch) (D : va_G) (a : Nat) (sz : Nat)  : GMet l y_LR_init w_LR_init 1 20 0 0 [.ref a] D [] [] sz (fun _ => True) (GQv D (fun (u : Unit) => True) (fun (u : Unit) => ([] : va_W))) := by
  refine gm_of (by decide +kernel) (Nat.le_of_ble_eq_true rfl) ?_
  intro p e s m below meth c ls A hx hb hr hts hown hlk hml hl hN hK hP hD hS hA hAi hnm hsz hX
  subst hsz
  have hown : s.vm.findClass "DayBook$LeapRule" = some m.cls := hown
  have hl : lv_has ls 1 [(0, .ref a)] := hl
  have hF : _ ∧ _ ∧ _ ∧ _ ∧ _ ∧ _ := ⟨hx, hb, hml, hown, hts, hN⟩
  refine lv_aload_n hx hb d_LR_init_0 rfl (lv_at hl 0 rfl) ?_
  refine W.objInit hx hb hown (hts _ k_54) (hts _ (gw_t 38 (by decide +kernel) (by decide +kernel))) (hts _ (gw_t 39 (by decide +kernel) (by decide +kernel))) (g := F0 m 1 ls [.ref a]) rfl (hl.1.trans hml.symm) rfl d_LR_init_1 (Nat.le_of_ble_eq_true rfl) (Nat.le_of_ble_eq_true rfl) ?_
  exact gm_vret () hx hb hr hlk d_LR_init_4 hP hD hS (Nat.le_of_ble_eq_true rfl) (Nat.le_of_ble_eq_true rfl) trivial
set_option maxHeartbeats 4000000 in
set_option maxRecDepth 100000 in
theorem ct_C_init (l : Launch) (D : va_G) (a : Nat) (sz : Nat)  : GMet l y_C_init w_C_init 1 20 0 0 [.ref a] D [] [] sz (fun _ => True) (GQv D (fun (u : Unit) => True) (fun (u : Unit) => ([] : va_W))) := by
  refine gm_of (by decide +kernel) (Nat.le_of_ble_eq_true rfl) ?_
  intro p e s m below meth c ls A hx hb hr hts hown hlk hml hl hN hK hP hD hS hA hAi hnm hsz hX
  subst hsz
  have hown : s.vm.findClass "DayBook$Calendar" = some m.cls := hown
  have hl : lv_has ls 1 [(0, .ref a)] := hl
  have hF : _ ∧ _ ∧ _ ∧ _ ∧ _ ∧ _ := ⟨hx, hb, hml, hown, hts, hN⟩
  refine lv_aload_n hx hb d_C_init_0 rfl (lv_at hl 0 rfl) ?_
  refine W.objInit hx hb hown (hts _ k_71) (hts _ (gw_t 38 (by decide +kernel) (by decide +kernel))) (hts _ (gw_t 39 (by decide +kernel) (by decide +kernel))) (g := F0 m 1 ls [.ref a]) rfl (hl.1.trans hml.symm) rfl d_C_init_1 (Nat.le_of_ble_eq_true rfl) (Nat.le_of_ble_eq_true rfl) ?_
  exact gm_vret () hx hb hr hlk d_C_init_4 hP hD hS (Nat.le_of_ble_eq_true rfl) (Nat.le_of_ble_eq_true rfl) trivial
set_option maxHeartbeats 4000000 in
set_option maxRecDepth 100000 in
theorem ct_Y_init (l : Launch) (D : va_G) (a : Nat) (sz : Nat)  : GMet l y_Y_init w_Y_init 2 40 0 0 [.ref a] D [] [] sz (fun _ => True) (GQv D (fun (u : Unit) => True) (fun (u : Unit) => ([] : va_W))) := by
  refine gm_of (by decide +kernel) (Nat.le_of_ble_eq_true rfl) ?_
  intro p e s m below meth c ls A hx hb hr hts hown hlk hml hl hN hK hP hD hS hA hAi hnm hsz hX
  subst hsz
  have hown : s.vm.findClass "DayBook$YearCalendar" = some m.cls := hown
  have hl : lv_has ls 1 [(0, .ref a)] := hl
  have hF : _ ∧ _ ∧ _ ∧ _ ∧ _ ∧ _ := ⟨hx, hb, hml, hown, hts, hN⟩
  refine lv_aload_n hx hb d_Y_init_0 rfl (lv_at hl 0 rfl) ?_
  refine gm_cv (wr := []) (gr_IN (host := "DayBook") (rest := []) (ct_C_init l D a s.heap.size) j_C_init (hN.get 68 (by decide +kernel) (by decide +kernel)) rfl hF (gm_pS hN hK (va_P.sub hP [] rfl) (va_D.sub hD [] rfl rfl) Bm_true (fun _ _ _ => trivial)) rfl rfl rfl hl.1 rfl ⟨Nat.le_of_ble_eq_true rfl, Nat.le_of_ble_eq_true rfl⟩ (Nat.le_of_ble_eq_true rfl) d_Y_init_1 ⟨(Nat.le_of_ble_eq_true rfl), (Nat.le_of_ble_eq_true rfl)⟩) hP hD hS hA [] [] rfl rfl rfl (by decide) (fun u1 H locs hΦ1 hz1 hP hD hS => ?_)
  have hΦ1 : True := hΦ1
  have hP : va_P D CL [] H := hP
  have hD : va_D A [] := hD
  exact gm_vret () hx hb hr hlk d_Y_init_4 hP hD hS (Nat.le_of_ble_eq_true rfl) (Nat.le_of_ble_eq_true rfl) trivial
set_option maxHeartbeats 4000000 in
set_option maxRecDepth 100000 in
theorem ct_HC_init (l : Launch) (D : va_G) (a : Nat) (sz : Nat)  : GMet l y_HC_init w_HC_init 3 60 0 0 [.ref a] D [] [] sz (fun _ => True) (GQv D (fun (u : Unit) => True) (fun (u : Unit) => ([] : va_W))) := by
  refine gm_of (by decide +kernel) (Nat.le_of_ble_eq_true rfl) ?_
  intro p e s m below meth c ls A hx hb hr hts hown hlk hml hl hN hK hP hD hS hA hAi hnm hsz hX
  subst hsz
  have hown : s.vm.findClass "DayBook$HebrewCalendar" = some m.cls := hown
  have hl : lv_has ls 1 [(0, .ref a)] := hl
  have hF : _ ∧ _ ∧ _ ∧ _ ∧ _ ∧ _ := ⟨hx, hb, hml, hown, hts, hN⟩
  refine lv_aload_n hx hb d_HC_init_0 rfl (lv_at hl 0 rfl) ?_
  refine gm_cv (wr := []) (gr_IN (host := "DayBook") (rest := []) (ct_Y_init l D a s.heap.size) j_Y_init (hN.get 117 (by decide +kernel) (by decide +kernel)) rfl hF (gm_pS hN hK (va_P.sub hP [] rfl) (va_D.sub hD [] rfl rfl) Bm_true (fun _ _ _ => trivial)) rfl rfl rfl hl.1 rfl ⟨Nat.le_of_ble_eq_true rfl, Nat.le_of_ble_eq_true rfl⟩ (Nat.le_of_ble_eq_true rfl) d_HC_init_1 ⟨(Nat.le_of_ble_eq_true rfl), (Nat.le_of_ble_eq_true rfl)⟩) hP hD hS hA [] [] rfl rfl rfl (by decide) (fun u1 H locs hΦ1 hz1 hP hD hS => ?_)
  have hΦ1 : True := hΦ1
  have hP : va_P D CL [] H := hP
  have hD : va_D A [] := hD
  exact gm_vret () hx hb hr hlk d_HC_init_4 hP hD hS (Nat.le_of_ble_eq_true rfl) (Nat.le_of_ble_eq_true rfl) trivial
set_option maxHeartbeats 4000000 in
set_option maxRecDepth 100000 in
theorem ct_SC_init (l : Launch) (D : va_G) (a : Nat) (sz : Nat)  : GMet l y_SC_init w_SC_init 2 40 0 0 [.ref a] D [] [] sz (fun _ => True) (GQv D (fun (u : Unit) => True) (fun (u : Unit) => ([] : va_W))) := by
  refine gm_of (by decide +kernel) (Nat.le_of_ble_eq_true rfl) ?_
  intro p e s m below meth c ls A hx hb hr hts hown hlk hml hl hN hK hP hD hS hA hAi hnm hsz hX
  subst hsz
  have hown : s.vm.findClass "DayBook$SolarCalendar" = some m.cls := hown
  have hl : lv_has ls 1 [(0, .ref a)] := hl
  have hF : _ ∧ _ ∧ _ ∧ _ ∧ _ ∧ _ := ⟨hx, hb, hml, hown, hts, hN⟩
  refine lv_aload_n hx hb d_SC_init_0 rfl (lv_at hl 0 rfl) ?_
  refine gm_cv (wr := []) (gr_IN (host := "DayBook") (rest := []) (ct_C_init l D a s.heap.size) j_C_init (hN.get 163 (by decide +kernel) (by decide +kernel)) rfl hF (gm_pS hN hK (va_P.sub hP [] rfl) (va_D.sub hD [] rfl rfl) Bm_true (fun _ _ _ => trivial)) rfl rfl rfl hl.1 rfl ⟨Nat.le_of_ble_eq_true rfl, Nat.le_of_ble_eq_true rfl⟩ (Nat.le_of_ble_eq_true rfl) d_SC_init_1 ⟨(Nat.le_of_ble_eq_true rfl), (Nat.le_of_ble_eq_true rfl)⟩) hP hD hS hA [] [] rfl rfl rfl (by decide) (fun u1 H locs hΦ1 hz1 hP hD hS => ?_)
  have hΦ1 : True := hΦ1
  have hP : va_P D CL [] H := hP
  have hD : va_D A [] := hD
  exact gm_vret () hx hb hr hlk d_SC_init_4 hP hD hS (Nat.le_of_ble_eq_true rfl) (Nat.le_of_ble_eq_true rfl) trivial
set_option maxHeartbeats 4000000 in
set_option maxRecDepth 100000 in
theorem ct_LC_init (l : Launch) (D : va_G) (a : Nat) (sz : Nat)  : GMet l y_LC_init w_LC_init 2 40 0 0 [.ref a] D [] [] sz (fun _ => True) (GQv D (fun (u : Unit) => True) (fun (u : Unit) => ([] : va_W))) := by
  refine gm_of (by decide +kernel) (Nat.le_of_ble_eq_true rfl) ?_
  intro p e s m below meth c ls A hx hb hr hts hown hlk hml hl hN hK hP hD hS hA hAi hnm hsz hX
  subst hsz
  have hown : s.vm.findClass "DayBook$LunarCalendar" = some m.cls := hown
  have hl : lv_has ls 1 [(0, .ref a)] := hl
  have hF : _ ∧ _ ∧ _ ∧ _ ∧ _ ∧ _ := ⟨hx, hb, hml, hown, hts, hN⟩
  refine lv_aload_n hx hb d_LC_init_0 rfl (lv_at hl 0 rfl) ?_
  refine gm_cv (wr := []) (gr_IN (host := "DayBook") (rest := []) (ct_C_init l D a s.heap.size) j_C_init (hN.get 170 (by decide +kernel) (by decide +kernel)) rfl hF (gm_pS hN hK (va_P.sub hP [] rfl) (va_D.sub hD [] rfl rfl) Bm_true (fun _ _ _ => trivial)) rfl rfl rfl hl.1 rfl ⟨Nat.le_of_ble_eq_true rfl, Nat.le_of_ble_eq_true rfl⟩ (Nat.le_of_ble_eq_true rfl) d_LC_init_1 ⟨(Nat.le_of_ble_eq_true rfl), (Nat.le_of_ble_eq_true rfl)⟩) hP hD hS hA [] [] rfl rfl rfl (by decide) (fun u1 H locs hΦ1 hz1 hP hD hS => ?_)
  have hΦ1 : True := hΦ1
  have hP : va_P D CL [] H := hP
  have hD : va_D A [] := hD
  exact gm_vret () hx hb hr hlk d_LC_init_4 hP hD hS (Nat.le_of_ble_eq_true rfl) (Nat.le_of_ble_eq_true rfl) trivial
set_option maxHeartbeats 4000000 in
set_option maxRecDepth 100000 in
theorem ct_YR_init (l : Launch) (D : va_G) (a : Nat) (sz : Nat)  : GMet l y_YR_init w_YR_init 2 40 0 0 [.ref a] D [] [] sz (fun _ => True) (GQv D (fun (u : Unit) => True) (fun (u : Unit) => ([] : va_W))) := by
  refine gm_of (by decide +kernel) (Nat.le_of_ble_eq_true rfl) ?_
  intro p e s m below meth c ls A hx hb hr hts hown hlk hml hl hN hK hP hD hS hA hAi hnm hsz hX
  subst hsz
  have hown : s.vm.findClass "DayBook$CycleRule" = some m.cls := hown
  have hl : lv_has ls 1 [(0, .ref a)] := hl
  have hF : _ ∧ _ ∧ _ ∧ _ ∧ _ ∧ _ := ⟨hx, hb, hml, hown, hts, hN⟩
  refine lv_aload_n hx hb d_YR_init_0 rfl (lv_at hl 0 rfl) ?_
  refine gm_cv (wr := []) (gr_IN (host := "DayBook") (rest := []) (ct_LR_init l D a s.heap.size) j_LR_init (hN.get 149 (by decide +kernel) (by decide +kernel)) rfl hF (gm_pS hN hK (va_P.sub hP [] rfl) (va_D.sub hD [] rfl rfl) Bm_true (fun _ _ _ => trivial)) rfl rfl rfl hl.1 rfl ⟨Nat.le_of_ble_eq_true rfl, Nat.le_of_ble_eq_true rfl⟩ (Nat.le_of_ble_eq_true rfl) d_YR_init_1 ⟨(Nat.le_of_ble_eq_true rfl), (Nat.le_of_ble_eq_true rfl)⟩) hP hD hS hA [] [] rfl rfl rfl (by decide) (fun u1 H locs hΦ1 hz1 hP hD hS => ?_)
  have hΦ1 : True := hΦ1
  have hP : va_P D CL [] H := hP
  have hD : va_D A [] := hD
  exact gm_vret () hx hb hr hlk d_YR_init_4 hP hD hS (Nat.le_of_ble_eq_true rfl) (Nat.le_of_ble_eq_true rfl) trivial
set_option maxHeartbeats 4000000 in
set_option maxRecDepth 100000 in
theorem ct_CR_init (l : Launch) (D : va_G) (a : Nat) (k : Int) (dr : Prop) (sz : Nat)  : GMet l y_CR_init w_CR_init 2 40 0 0 [.ref a, .long (iL k), .int (iI (bI dr))] D [] [(a, .inr (1, [.long (iL 0), .int (iI 0)]))] sz (fun _ => True) (GQv D (fun (u : Unit) => True) (fun (u : Unit) => ([(a, .inr (1, [.long (iL k), .int (iI (bI dr))]))] : va_W))) := by
  refine gm_of (by decide +kernel) (Nat.le_of_ble_eq_true rfl) ?_
  intro p e s m below meth c ls A hx hb hr hts hown hlk hml hl hN hK hP hD hS hA hAi hnm hsz hX
  subst hsz
  have hown : s.vm.findClass "DayBook$CenturyRule" = some m.cls := hown
  have hl : lv_has ls 4 [(0, .ref a), (1, .long (iL k)), (3, .int (iI (bI dr)))] := hl
  have hF : _ ∧ _ ∧ _ ∧ _ ∧ _ ∧ _ := ⟨hx, hb, hml, hown, hts, hN⟩
  refine lv_aload_n hx hb d_CR_init_0 rfl (lv_at hl 0 rfl) ?_
  refine gm_cv (wr := [(a, .inr (1, [.long (iL 0), .int (iI 0)]))]) (gr_IN (host := "DayBook") (rest := []) (ct_LR_init l D a s.heap.size) j_LR_init (hN.get 51 (by decide +kernel) (by decide +kernel)) rfl hF (gm_pS hN hK (va_P.sub hP [] rfl) (va_D.sub hD [] rfl rfl) Bm_true (fun _ _ _ => trivial)) rfl rfl rfl hl.1 rfl ⟨Nat.le_of_ble_eq_true rfl, Nat.le_of_ble_eq_true rfl⟩ (Nat.le_of_ble_eq_true rfl) d_CR_init_1 ⟨(Nat.le_of_ble_eq_true rfl), (Nat.le_of_ble_eq_true rfl)⟩) hP hD hS hA [] [0] rfl rfl rfl (by decide) (fun u1 H locs hΦ1 hz1 hP hD hS => ?_)
  have hΦ1 : True := hΦ1
  have hP : va_P D CL [(a, .inr (1, [.long (iL 0), .int (iI 0)]))] H := hP
  have hD : va_D A [(a, .inr (1, [.long (iL 0), .int (iI 0)]))] := hD
  refine lv_aload_n hx hb d_CR_init_4 rfl (lv_at hl 0 rfl) ?_
  refine lv_lload_n hx hb d_CR_init_5 rfl (lv_at hl 1 rfl) ?_
  refine va_putF (D := D) (cl := CL) (ci := 1) (v := .long (iL k)) (ty := .long) (C := "DayBook$CenturyRule") (T := T_CR) (N := 2) hx hb hts in_CR ty_CR ty_CR_ok nm_CR hown hK hP hD hS 0 rfl rfl 0 (by decide) (hts _ k_55) (fun _ h9 => h9) rfl hnm rfl (by decide +kernel) rfl rfl (Nat.le_of_ble_eq_true rfl) d_CR_init_6 (fun H locs hP hD hS => ?_)
  have hP : va_P D CL [(a, .inr (1, [.long (iL k), .int (iI 0)]))] H := hP
  have hD : va_D A [(a, .inr (1, [.long (iL k), .int (iI 0)]))] := hD
  refine lv_aload_n hx hb d_CR_init_9 rfl (lv_at hl 0 rfl) ?_
  refine lv_iload_n hx hb d_CR_init_10 rfl (lv_at hl 2 rfl) ?_
  refine va_putF (D := D) (cl := CL) (ci := 1) (v := .int (iI (bI dr))) (ty := .boolean) (C := "DayBook$CenturyRule") (T := T_CR) (N := 2) hx hb hts in_CR ty_CR ty_CR_ok nm_CR hown hK hP hD hS 0 rfl rfl 1 (by decide) (hts _ k_56) (fun _ h9 => h9) rfl hnm rfl (by decide +kernel) (iI_narB (bI_or _)) (fitsB (bI_or _)) (Nat.le_of_ble_eq_true rfl) d_CR_init_11 (fun H locs hP hD hS => ?_)
  have hP : va_P D CL [(a, .inr (1, [.long (iL k), .int (iI (bI dr))]))] H := hP
  have hD : va_D A [(a, .inr (1, [.long (iL k), .int (iI (bI dr))]))] := hD
  exact gm_vret () hx hb hr hlk d_CR_init_14 hP hD hS (Nat.le_of_ble_eq_true rfl) (Nat.le_of_ble_eq_true rfl) trivial
set_option maxHeartbeats 4000000 in
set_option maxRecDepth 100000 in
theorem ct_SR_init (l : Launch) (D : va_G) (a : Nat) (x : Int) (y : Int) (w : Int) (sz : Nat)  : GMet l y_SR_init w_SR_init 2 40 0 0 [.ref a, .long (iL x), .long (iL y), .long (iL w)] D [] [(a, .inr (7, [.long (iL 0), .long (iL 0), .long (iL 0)]))] sz (fun _ => True) (GQv D (fun (u : Unit) => True) (fun (u : Unit) => ([(a, .inr (7, [.long (iL x), .long (iL y), .long (iL w)]))] : va_W))) := by
  refine gm_of (by decide +kernel) (Nat.le_of_ble_eq_true rfl) ?_
  intro p e s m below meth c ls A hx hb hr hts hown hlk hml hl hN hK hP hD hS hA hAi hnm hsz hX
  subst hsz
  have hown : s.vm.findClass "DayBook$SpreadRule" = some m.cls := hown
  have hl : lv_has ls 7 [(0, .ref a), (1, .long (iL x)), (3, .long (iL y)), (5, .long (iL w))] := hl
  have hF : _ ∧ _ ∧ _ ∧ _ ∧ _ ∧ _ := ⟨hx, hb, hml, hown, hts, hN⟩
  refine lv_aload_n hx hb d_SR_init_0 rfl (lv_at hl 0 rfl) ?_
  refine gm_cv (wr := [(a, .inr (7, [.long (iL 0), .long (iL 0), .long (iL 0)]))]) (gr_IN (host := "DayBook") (rest := []) (ct_LR_init l D a s.heap.size) j_LR_init (hN.get 101 (by decide +kernel) (by decide +kernel)) rfl hF (gm_pS hN hK (va_P.sub hP [] rfl) (va_D.sub hD [] rfl rfl) Bm_true (fun _ _ _ => trivial)) rfl rfl rfl hl.1 rfl ⟨Nat.le_of_ble_eq_true rfl, Nat.le_of_ble_eq_true rfl⟩ (Nat.le_of_ble_eq_true rfl) d_SR_init_1 ⟨(Nat.le_of_ble_eq_true rfl), (Nat.le_of_ble_eq_true rfl)⟩) hP hD hS hA [] [0] rfl rfl rfl (by decide) (fun u1 H locs hΦ1 hz1 hP hD hS => ?_)
  have hΦ1 : True := hΦ1
  have hP : va_P D CL [(a, .inr (7, [.long (iL 0), .long (iL 0), .long (iL 0)]))] H := hP
  have hD : va_D A [(a, .inr (7, [.long (iL 0), .long (iL 0), .long (iL 0)]))] := hD
  refine lv_aload_n hx hb d_SR_init_4 rfl (lv_at hl 0 rfl) ?_
  refine lv_lload_n hx hb d_SR_init_5 rfl (lv_at hl 1 rfl) ?_
  refine va_putF (D := D) (cl := CL) (ci := 7) (v := .long (iL x)) (ty := .long) (C := "DayBook$SpreadRule") (T := T_SR) (N := 3) hx hb hts in_SR ty_SR ty_SR_ok nm_SR hown hK hP hD hS 0 rfl rfl 0 (by decide) (hts _ k_102) (fun _ h9 => h9) rfl hnm rfl (by decide +kernel) rfl rfl (Nat.le_of_ble_eq_true rfl) d_SR_init_6 (fun H locs hP hD hS => ?_)
  have hP : va_P D CL [(a, .inr (7, [.long (iL x), .long (iL 0), .long (iL 0)]))] H := hP
  have hD : va_D A [(a, .inr (7, [.long (iL x), .long (iL 0), .long (iL 0)]))] := hD
  refine lv_aload_n hx hb d_SR_init_9 rfl (lv_at hl 0 rfl) ?_
  refine lv_lload_n hx hb d_SR_init_10 rfl (lv_at hl 2 rfl) ?_
  refine va_putF (D := D) (cl := CL) (ci := 7) (v := .long (iL y)) (ty := .long) (C := "DayBook$SpreadRule") (T := T_SR) (N := 3) hx hb hts in_SR ty_SR ty_SR_ok nm_SR hown hK hP hD hS 0 rfl rfl 1 (by decide) (hts _ k_103) (fun _ h9 => h9) rfl hnm rfl (by decide +kernel) rfl rfl (Nat.le_of_ble_eq_true rfl) d_SR_init_11 (fun H locs hP hD hS => ?_)
  have hP : va_P D CL [(a, .inr (7, [.long (iL x), .long (iL y), .long (iL 0)]))] H := hP
  have hD : va_D A [(a, .inr (7, [.long (iL x), .long (iL y), .long (iL 0)]))] := hD
  refine lv_aload_n hx hb d_SR_init_14 rfl (lv_at hl 0 rfl) ?_
  refine lv_lload hx hb d_SR_init_15 (lv_at hl 3 rfl) ?_
  refine va_putF (D := D) (cl := CL) (ci := 7) (v := .long (iL w)) (ty := .long) (C := "DayBook$SpreadRule") (T := T_SR) (N := 3) hx hb hts in_SR ty_SR ty_SR_ok nm_SR hown hK hP hD hS 0 rfl rfl 2 (by decide) (hts _ k_104) (fun _ h9 => h9) rfl hnm rfl (by decide +kernel) rfl rfl (Nat.le_of_ble_eq_true rfl) d_SR_init_17 (fun H locs hP hD hS => ?_)
  have hP : va_P D CL [(a, .inr (7, [.long (iL x), .long (iL y), .long (iL w)]))] H := hP
  have hD : va_D A [(a, .inr (7, [.long (iL x), .long (iL y), .long (iL w)]))] := hD
  exact gm_vret () hx hb hr hlk d_SR_init_20 hP hD hS (Nat.le_of_ble_eq_true rfl) (Nat.le_of_ble_eq_true rfl) trivial
set_option maxHeartbeats 4000000 in
set_option maxRecDepth 100000 in
theorem ct_WC_init (l : Launch) (D : va_G) (a : Nat) (cv : Nat) (sz : Nat)  : GMet l y_WC_init w_WC_init 3 60 0 0 [.ref a, .ref cv] D [] [(a, .inr (8, [.null]))] sz (fun _ => True) (GQv D (fun (u : Unit) => True) (fun (u : Unit) => ([(a, .inr (8, [.ref cv]))] : va_W))) := by
  refine gm_of (by decide +kernel) (Nat.le_of_ble_eq_true rfl) ?_
  intro p e s m below meth c ls A hx hb hr hts hown hlk hml hl hN hK hP hD hS hA hAi hnm hsz hX
  subst hsz
  have hown : s.vm.findClass "DayBook$WeekCalendar" = some m.cls := hown
  have hl : lv_has ls 2 [(0, .ref a), (1, .ref cv)] := hl
  have hF : _ ∧ _ ∧ _ ∧ _ ∧ _ ∧ _ := ⟨hx, hb, hml, hown, hts, hN⟩
  refine lv_aload_n hx hb d_WC_init_0 rfl (lv_at hl 0 rfl) ?_
  refine gm_cv (wr := [(a, .inr (8, [.null]))]) (gr_IN (host := "DayBook") (rest := []) (ct_Y_init l D a s.heap.size) j_Y_init (hN.get 126 (by decide +kernel) (by decide +kernel)) rfl hF (gm_pS hN hK (va_P.sub hP [] rfl) (va_D.sub hD [] rfl rfl) Bm_true (fun _ _ _ => trivial)) rfl rfl rfl hl.1 rfl ⟨Nat.le_of_ble_eq_true rfl, Nat.le_of_ble_eq_true rfl⟩ (Nat.le_of_ble_eq_true rfl) d_WC_init_1 ⟨(Nat.le_of_ble_eq_true rfl), (Nat.le_of_ble_eq_true rfl)⟩) hP hD hS hA [] [0] rfl rfl rfl (by decide) (fun u1 H locs hΦ1 hz1 hP hD hS => ?_)
  have hΦ1 : True := hΦ1
  have hP : va_P D CL [(a, .inr (8, [.null]))] H := hP
  have hD : va_D A [(a, .inr (8, [.null]))] := hD
  refine lv_aload_n hx hb d_WC_init_4 rfl (lv_at hl 0 rfl) ?_
  refine lv_aload_n hx hb d_WC_init_5 rfl (lv_at hl 1 rfl) ?_
  refine va_putF (D := D) (cl := CL) (ci := 8) (v := .ref cv) (ty := .object "DayBook$MonthCalendar") (C := "DayBook$WeekCalendar") (T := T_WC) (N := 1) hx hb hts in_WC ty_WC ty_WC_ok nm_WC hown hK hP hD hS 0 rfl rfl 0 (by decide) (hts _ k_127) (fun _ h9 => h9) rfl hnm rfl (by decide +kernel) rfl rfl (Nat.le_of_ble_eq_true rfl) d_WC_init_6 (fun H locs hP hD hS => ?_)
  have hP : va_P D CL [(a, .inr (8, [.ref cv]))] H := hP
  have hD : va_D A [(a, .inr (8, [.ref cv]))] := hD
  exact gm_vret () hx hb hr hlk d_WC_init_9 hP hD hS (Nat.le_of_ble_eq_true rfl) (Nat.le_of_ble_eq_true rfl) trivial
set_option maxHeartbeats 4000000 in
set_option maxRecDepth 100000 in
theorem ct_MC_init (l : Launch) (D : va_G) (a : Nat) (nu : Nat) (le : Nat) (lp : Int) (ep : Int) (H0 : Prop) (ru : Nat) (k : Nat) (fl : Nat → Int) (sz : Nat) (hk : k ≤ 1000) (hfl : ∀ j : Nat, j < k → 0 ≤ fl j ∧ fl j ≤ 60) : GMet l y_MC_init w_MC_init 3 60 0 0 [.ref a, .ref nu, .ref le, .int (iI lp), .long (iL ep), .int (iI (bI H0)), .ref ru] D [] [(a, .inr (5, [.null, .null, .int (iI 0), .long (iL 0), .int (iI 0), .null, .int (iI 0)]))] sz (fun U => TA (va_A [(a, .inr (5, [.null, .null, .int (iI 0), .long (iL 0), .int (iI 0), .null, .int (iI 0)]))] sz) le k fl U) (GQv D (fun (u : Unit) => True) (fun (u : Unit) => ([(a, .inr (5, [.ref nu, .ref le, .int (iI lp), .long (iL ep), .int (iI (bI H0)), .ref ru, .int (iI (cm fl k))]))] : va_W))) := by
  refine gm_of (by decide +kernel) (Nat.le_of_ble_eq_true rfl) ?_
  intro p e s m below meth c ls A hx hb hr hts hown hlk hml hl hN hK hP hD hS hA hAi hnm hsz hX
  subst hsz
  have hown : s.vm.findClass "DayBook$MonthCalendar" = some m.cls := hown
  have hl : lv_has ls 13 [(0, .ref a), (1, .ref nu), (2, .ref le), (3, .int (iI lp)), (4, .long (iL ep)), (6, .int (iI (bI H0))), (7, .ref ru)] := hl
  have hF : _ ∧ _ ∧ _ ∧ _ ∧ _ ∧ _ := ⟨hx, hb, hml, hown, hts, hN⟩
  have hta := hX
  have hta : TA A le k fl s := va_T.narrow hta hAi
  have hJ51 : ∀ (N : Nat) (H : Heap) (locs : List Loc) (sm : Int) (kk : Int) (i : Int) (j : Nat) (ls : Array Slot), va_P D CL [(a, .inr (5, [.ref nu, .ref le, .int (iI lp), .long (iL ep), .int (iI (bI H0)), .ref ru, .int (iI 0)]))] H → va_D A [(a, .inr (5, [.ref nu, .ref le, .int (iI lp), .long (iL ep), .int (iI (bI H0)), .ref ru, .int (iI 0)]))] → va_S A s.heap H locs → lv_has ls 13 [(0, .ref a), (8, .int (iI sm)), (9, .ref le), (10, .int (iI kk)), (11, .int (iI i))] → (kk = (k : Int)) → (i = (j : Int) ∧ j ≤ k) → (sm = cm fl j) → k - j < N → W p l e (headSpec w_MC_init ({ frames := 3, cells := 0, slots := 0, locals := 60 })).room s m [.ref a, .ref nu, .ref le, .int (iI lp), .long (iL ep), .int (iI (bI H0)), .ref ru].toArray below meth c H locs 0 0 (MQ below ((GQv D (fun (u : Unit) => True) (fun (u : Unit) => ([(a, .inr (5, [.ref nu, .ref le, .int (iI lp), .long (iL ep), .int (iI (bI H0)), .ref ru, .int (iI (cm fl k))]))] : va_W))) A) [.ref a, .ref nu, .ref le, .int (iI lp), .long (iL ep), .int (iI (bI H0)), .ref ru].toArray s 0 0 A) (F0 m 51 ls []) := by
    intro N
    induction N with
    | zero => intro _ _ _ _ _ _ _ _ _ _ _ _ _ _ hm; exact absurd hm (Nat.not_lt_zero _)
    | succ N ih =>
      intro H locs sm kk i j ls hP hD hS hl hkk hi hs hm
      refine lv_iload hx hb d_MC_init_51 (lv_at hl 4 rfl) ?_
      refine lv_iload hx hb d_MC_init_53 (lv_at hl 3 rfl) ?_
      refine ai_icmp_ge hx hb d_MC_init_55 rfl (by omega) (by omega) (fun h55 => ?_) (fun h55 => ?_)
      · skip
        have ejk : j = k := by omega
        refine lv_aload_n hx hb d_MC_init_78 rfl (lv_at hl 0 rfl) ?_
        refine lv_iload hx hb d_MC_init_79 (lv_at hl 1 rfl) ?_
        refine ai_toI hx hb (b := cm fl k) (by rw [hs, ejk]) ?_
        refine va_putF (D := D) (cl := CL) (ci := 5) (v := .int (iI (cm fl k))) (ty := .int) (C := "DayBook$MonthCalendar") (T := T_MC) (N := 7) hx hb hts in_MC ty_MC ty_MC_ok nm_MC hown hK hP hD hS 0 rfl rfl 6 (by decide) (hts _ k_78) (fun _ h9 => h9) rfl hnm rfl (by decide +kernel) rfl rfl (Nat.le_of_ble_eq_true rfl) d_MC_init_81 (fun H locs hP hD hS => ?_)
        have hP : va_P D CL [(a, .inr (5, [.ref nu, .ref le, .int (iI lp), .long (iL ep), .int (iI (bI H0)), .ref ru, .int (iI (cm fl k))]))] H := hP
        have hD : va_D A [(a, .inr (5, [.ref nu, .ref le, .int (iI lp), .long (iL ep), .int (iI (bI H0)), .ref ru, .int (iI (cm fl k))]))] := hD
        exact gm_vret () hx hb hr hlk d_MC_init_84 hP hD hS (Nat.le_of_ble_eq_true rfl) (Nat.le_of_ble_eq_true rfl) trivial
      · skip
        have hfj := hfl j (by omega)
        refine lv_aload hx hb d_MC_init_58 (lv_at hl 2 rfl) ?_
        refine lv_iload hx hb d_MC_init_60 (lv_at hl 4 rfl) ?_
        refine ga_ld hx hb hta hS (by omega) (by omega) d_MC_init_62 ?_
        refine ai_nmI hx hb (fun v63 e63 => ?_)
        refine lv_istore (lv' := [(12, .int (iI v63)), (0, .ref a), (8, .int (iI sm)), (9, .ref le), (10, .int (iI kk)), (11, .int (iI i))]) hx hb d_MC_init_63 hl (by decide) rfl (fun ls hl => ?_)
        refine lv_iload hx hb d_MC_init_65 (lv_at hl 2 rfl) ?_
        refine lv_iload hx hb d_MC_init_67 (lv_at hl 0 rfl) ?_
        refine ai_iadd hx hb d_MC_init_69 ?_
        refine ai_nmI hx hb (fun v70 e70 => ?_)
        refine lv_istore (lv' := [(8, .int (iI v70)), (12, .int (iI v63)), (0, .ref a), (9, .ref le), (10, .int (iI kk)), (11, .int (iI i))]) hx hb d_MC_init_70 hl (by decide) rfl (fun ls hl => ?_)
        refine ai_iinc (k := 5) (lv' := [(11, .int (iI (i + 1))), (8, .int (iI v70)), (12, .int (iI v63)), (0, .ref a), (9, .ref le), (10, .int (iI kk))]) hx hb d_MC_init_72 hl rfl (by decide) rfl (fun ls hl => ?_)
        refine lv_goto hx hb d_MC_init_75 rfl ?_
        exact ih _ _ v70 kk (i + 1) (j + 1) _ hP hD hS (lv_sub hl [3, 1, 4, 5, 0] rfl) (by omega) (by omega) (by rw [cm_succ, ← hs]; rw [show Int.toNat i = j by omega] at e63; omega) (by omega)
  refine lv_aload_n hx hb d_MC_init_0 rfl (lv_at hl 0 rfl) ?_
  refine gm_cv (wr := [(a, .inr (5, [.null, .null, .int (iI 0), .long (iL 0), .int (iI 0), .null, .int (iI 0)]))]) (gr_IN (host := "DayBook") (rest := []) (ct_Y_init l D a s.heap.size) j_Y_init (hN.get 65 (by decide +kernel) (by decide +kernel)) rfl hF (gm_pS hN hK (va_P.sub hP [] rfl) (va_D.sub hD [] rfl rfl) Bm_true (fun _ _ _ => trivial)) rfl rfl rfl hl.1 rfl ⟨Nat.le_of_ble_eq_true rfl, Nat.le_of_ble_eq_true rfl⟩ (Nat.le_of_ble_eq_true rfl) d_MC_init_1 ⟨(Nat.le_of_ble_eq_true rfl), (Nat.le_of_ble_eq_true rfl)⟩) hP hD hS hA [] [0] rfl rfl rfl (by decide) (fun u1 H locs hΦ1 hz1 hP hD hS => ?_)
  have hΦ1 : True := hΦ1
  have hP : va_P D CL [(a, .inr (5, [.null, .null, .int (iI 0), .long (iL 0), .int (iI 0), .null, .int (iI 0)]))] H := hP
  have hD : va_D A [(a, .inr (5, [.null, .null, .int (iI 0), .long (iL 0), .int (iI 0), .null, .int (iI 0)]))] := hD
  refine lv_aload_n hx hb d_MC_init_4 rfl (lv_at hl 0 rfl) ?_
  refine lv_aload_n hx hb d_MC_init_5 rfl (lv_at hl 1 rfl) ?_
  refine va_putF (D := D) (cl := CL) (ci := 5) (v := .ref nu) (ty := .array .int) (C := "DayBook$MonthCalendar") (T := T_MC) (N := 7) hx hb hts in_MC ty_MC ty_MC_ok nm_MC hown hK hP hD hS 0 rfl rfl 0 (by decide) (hts _ k_72) (fun _ h9 => h9) rfl hnm rfl (by decide +kernel) rfl rfl (Nat.le_of_ble_eq_true rfl) d_MC_init_6 (fun H locs hP hD hS => ?_)
  have hP : va_P D CL [(a, .inr (5, [.ref nu, .null, .int (iI 0), .long (iL 0), .int (iI 0), .null, .int (iI 0)]))] H := hP
  have hD : va_D A [(a, .inr (5, [.ref nu, .null, .int (iI 0), .long (iL 0), .int (iI 0), .null, .int (iI 0)]))] := hD
  refine lv_aload_n hx hb d_MC_init_9 rfl (lv_at hl 0 rfl) ?_
  refine lv_aload_n hx hb d_MC_init_10 rfl (lv_at hl 2 rfl) ?_
  refine va_putF (D := D) (cl := CL) (ci := 5) (v := .ref le) (ty := .array .int) (C := "DayBook$MonthCalendar") (T := T_MC) (N := 7) hx hb hts in_MC ty_MC ty_MC_ok nm_MC hown hK hP hD hS 0 rfl rfl 1 (by decide) (hts _ k_73) (fun _ h9 => h9) rfl hnm rfl (by decide +kernel) rfl rfl (Nat.le_of_ble_eq_true rfl) d_MC_init_11 (fun H locs hP hD hS => ?_)
  have hP : va_P D CL [(a, .inr (5, [.ref nu, .ref le, .int (iI 0), .long (iL 0), .int (iI 0), .null, .int (iI 0)]))] H := hP
  have hD : va_D A [(a, .inr (5, [.ref nu, .ref le, .int (iI 0), .long (iL 0), .int (iI 0), .null, .int (iI 0)]))] := hD
  refine lv_aload_n hx hb d_MC_init_14 rfl (lv_at hl 0 rfl) ?_
  refine lv_iload_n hx hb d_MC_init_15 rfl (lv_at hl 3 rfl) ?_
  refine va_putF (D := D) (cl := CL) (ci := 5) (v := .int (iI lp)) (ty := .int) (C := "DayBook$MonthCalendar") (T := T_MC) (N := 7) hx hb hts in_MC ty_MC ty_MC_ok nm_MC hown hK hP hD hS 0 rfl rfl 2 (by decide) (hts _ k_74) (fun _ h9 => h9) rfl hnm rfl (by decide +kernel) rfl rfl (Nat.le_of_ble_eq_true rfl) d_MC_init_16 (fun H locs hP hD hS => ?_)
  have hP : va_P D CL [(a, .inr (5, [.ref nu, .ref le, .int (iI lp), .long (iL 0), .int (iI 0), .null, .int (iI 0)]))] H := hP
  have hD : va_D A [(a, .inr (5, [.ref nu, .ref le, .int (iI lp), .long (iL 0), .int (iI 0), .null, .int (iI 0)]))] := hD
  refine lv_aload_n hx hb d_MC_init_19 rfl (lv_at hl 0 rfl) ?_
  refine lv_lload hx hb d_MC_init_20 (lv_at hl 4 rfl) ?_
  refine va_putF (D := D) (cl := CL) (ci := 5) (v := .long (iL ep)) (ty := .long) (C := "DayBook$MonthCalendar") (T := T_MC) (N := 7) hx hb hts in_MC ty_MC ty_MC_ok nm_MC hown hK hP hD hS 0 rfl rfl 3 (by decide) (hts _ k_75) (fun _ h9 => h9) rfl hnm rfl (by decide +kernel) rfl rfl (Nat.le_of_ble_eq_true rfl) d_MC_init_22 (fun H locs hP hD hS => ?_)
  have hP : va_P D CL [(a, .inr (5, [.ref nu, .ref le, .int (iI lp), .long (iL ep), .int (iI 0), .null, .int (iI 0)]))] H := hP
  have hD : va_D A [(a, .inr (5, [.ref nu, .ref le, .int (iI lp), .long (iL ep), .int (iI 0), .null, .int (iI 0)]))] := hD
  refine lv_aload_n hx hb d_MC_init_25 rfl (lv_at hl 0 rfl) ?_
  refine lv_iload hx hb d_MC_init_26 (lv_at hl 5 rfl) ?_
  refine va_putF (D := D) (cl := CL) (ci := 5) (v := .int (iI (bI H0))) (ty := .boolean) (C := "DayBook$MonthCalendar") (T := T_MC) (N := 7) hx hb hts in_MC ty_MC ty_MC_ok nm_MC hown hK hP hD hS 0 rfl rfl 4 (by decide) (hts _ k_76) (fun _ h9 => h9) rfl hnm rfl (by decide +kernel) (iI_narB (bI_or _)) (fitsB (bI_or _)) (Nat.le_of_ble_eq_true rfl) d_MC_init_28 (fun H locs hP hD hS => ?_)
  have hP : va_P D CL [(a, .inr (5, [.ref nu, .ref le, .int (iI lp), .long (iL ep), .int (iI (bI H0)), .null, .int (iI 0)]))] H := hP
  have hD : va_D A [(a, .inr (5, [.ref nu, .ref le, .int (iI lp), .long (iL ep), .int (iI (bI H0)), .null, .int (iI 0)]))] := hD
  refine lv_aload_n hx hb d_MC_init_31 rfl (lv_at hl 0 rfl) ?_
  refine lv_aload hx hb d_MC_init_32 (lv_at hl 6 rfl) ?_
  refine va_putF (D := D) (cl := CL) (ci := 5) (v := .ref ru) (ty := .object "DayBook$LeapRule") (C := "DayBook$MonthCalendar") (T := T_MC) (N := 7) hx hb hts in_MC ty_MC ty_MC_ok nm_MC hown hK hP hD hS 0 rfl rfl 5 (by decide) (hts _ k_77) (fun _ h9 => h9) rfl hnm rfl (by decide +kernel) rfl rfl (Nat.le_of_ble_eq_true rfl) d_MC_init_34 (fun H locs hP hD hS => ?_)
  have hP : va_P D CL [(a, .inr (5, [.ref nu, .ref le, .int (iI lp), .long (iL ep), .int (iI (bI H0)), .ref ru, .int (iI 0)]))] H := hP
  have hD : va_D A [(a, .inr (5, [.ref nu, .ref le, .int (iI lp), .long (iL ep), .int (iI (bI H0)), .ref ru, .int (iI 0)]))] := hD
  refine ai_iconst hx hb d_MC_init_37 ?_
  refine lv_istore (lv' := [(8, .int (iI 0)), (0, .ref a), (1, .ref nu), (2, .ref le), (3, .int (iI lp)), (4, .long (iL ep)), (6, .int (iI (bI H0))), (7, .ref ru)]) hx hb d_MC_init_38 hl (by decide) rfl (fun ls hl => ?_)
  refine lv_aload_n hx hb d_MC_init_40 rfl (lv_at hl 3 rfl) ?_
  refine lv_astore (lv' := [(9, .ref le), (8, .int (iI 0)), (0, .ref a), (1, .ref nu), (2, .ref le), (3, .int (iI lp)), (4, .long (iL ep)), (6, .int (iI (bI H0))), (7, .ref ru)]) hx hb d_MC_init_41 hl (by decide) rfl (fun ls hl => ?_)
  refine lv_aload hx hb d_MC_init_43 (lv_at hl 0 rfl) ?_
  refine ga_len hx hb hta hS d_MC_init_45 ?_
  refine ai_nmI hx hb (fun v46 e46 => ?_)
  refine lv_istore (lv' := [(10, .int (iI v46)), (9, .ref le), (8, .int (iI 0)), (0, .ref a), (1, .ref nu), (2, .ref le), (3, .int (iI lp)), (4, .long (iL ep)), (6, .int (iI (bI H0))), (7, .ref ru)]) hx hb d_MC_init_46 hl (by decide) rfl (fun ls hl => ?_)
  refine ai_iconst hx hb d_MC_init_48 ?_
  refine lv_istore (lv' := [(11, .int (iI 0)), (10, .int (iI v46)), (9, .ref le), (8, .int (iI 0)), (0, .ref a), (1, .ref nu), (2, .ref le), (3, .int (iI lp)), (4, .long (iL ep)), (6, .int (iI (bI H0))), (7, .ref ru)]) hx hb d_MC_init_49 hl (by decide) rfl (fun ls hl => ?_)
  exact hJ51 _ _ _ 0 v46 0 0 _ hP hD hS (lv_sub hl [4, 3, 2, 1, 0] rfl) (by omega) (by omega) rfl (Nat.lt_succ_self _)
set_option maxHeartbeats 4000000 in
set_option maxRecDepth 100000 in
theorem ct_JY_fill_IIV (l : Launch) (D : va_G) (t : Nat) (cI : ClassId) (k : Nat) (f0 : Nat → Int) (v : Int) (sz : Nat) (hk : k ≤ 1000) : GMet l y_JY_fill_IIV w_JY_fill_IIV 0 0 0 0 [.ref t, .int (iI v)] D [(cI, .int)] [(t, .inl (cI, k, .inl (fun j => iI (f0 j))))] sz (fun _ => True) (GQv D (fun (u : (Nat → Int)) => ∀ j : Nat, j < k → u j = v) (fun (u : (Nat → Int)) => ([(t, .inl (cI, k, .inl (fun j => iI (u j))))] : va_W))) := by
  refine gm_of (by decide +kernel) (Nat.le_of_ble_eq_true rfl) ?_
  intro p e s m below meth c ls A hx hb hr hts hown hlk hml hl hN hK hP hD hS hA hAi hnm hsz hX
  subst hsz
  have hown : s.vm.findClass "java/util/Arrays" = some m.cls := hown
  have hl : lv_has ls 4 [(0, .ref t), (1, .int (iI v))] := hl
  have hF : _ ∧ _ ∧ _ ∧ _ ∧ _ ∧ _ := ⟨hx, hb, hml, hown, hts, hN⟩
  have hJ5 : ∀ (N : Nat) (H : Heap) (locs : List Loc) (kk : Int) (i : Int) (j : Nat) (f : Nat → Int) (ls : Array Slot), va_P D CL [(t, .inl (cI, k, .inl (fun j => iI (f j))))] H → va_D A [(t, .inl (cI, k, .inl (fun j => iI (f j))))] → va_S A s.heap H locs → lv_has ls 4 [(0, .ref t), (1, .int (iI v)), (2, .int (iI i)), (3, .int (iI kk))] → (kk = (k : Int)) → (i = (j : Int) ∧ j ≤ k) → (∀ q : Nat, q < j → f q = v) → k - j < N → W p l e (headSpec w_JY_fill_IIV ({ frames := 0, cells := 0, slots := 0, locals := 0 })).room s m [.ref t, .int (iI v)].toArray below meth c H locs 0 0 (MQ below ((GQv D (fun (u : (Nat → Int)) => ∀ j : Nat, j < k → u j = v) (fun (u : (Nat → Int)) => ([(t, .inl (cI, k, .inl (fun j => iI (u j))))] : va_W))) A) [.ref t, .int (iI v)].toArray s 0 0 A) (F0 m 5 ls []) := by
    intro N
    induction N with
    | zero => intro _ _ _ _ _ _ _ _ _ _ _ _ _ _ hm; exact absurd hm (Nat.not_lt_zero _)
    | succ N ih =>
      intro H locs kk i j f ls hP hD hS hl hkk hi hs hm
      refine lv_iload_n hx hb d_JY_fill_IIV_5 rfl (lv_at hl 2 rfl) ?_
      refine lv_iload_n hx hb d_JY_fill_IIV_6 rfl (lv_at hl 3 rfl) ?_
      refine ai_icmp_ge hx hb d_JY_fill_IIV_7 rfl (by omega) (by omega) (fun h7 => ?_) (fun h7 => ?_)
      · skip
        exact gm_vret (f) hx hb hr hlk d_JY_fill_IIV_20 hP hD hS (Nat.le_of_ble_eq_true rfl) (Nat.le_of_ble_eq_true rfl) (show ∀ j : Nat, j < k → f j = v from (fun j9 hj9 => hs j9 (by omega)))
      · skip
        refine lv_aload_n hx hb d_JY_fill_IIV_10 rfl (lv_at hl 0 rfl) ?_
        refine lv_iload_n hx hb d_JY_fill_IIV_11 rfl (lv_at hl 2 rfl) ?_
        refine lv_iload_n hx hb d_JY_fill_IIV_12 rfl (lv_at hl 1 rfl) ?_
        refine ma_ist hx hb hK hP hD hS 0 0 rfl rfl (h := f) (v := v) (by omega) (by omega) d_JY_fill_IIV_13 (fun H locs hP hD hS => ?_)
        have hP : va_P D CL [(t, .inl (cI, k, .inl (fun j => iI ((upF f (Int.toNat i) v) j))))] H := hP
        have hD : va_D A [(t, .inl (cI, k, .inl (fun j => iI ((upF f (Int.toNat i) v) j))))] := hD
        refine ai_iinc (k := 2) (lv' := [(2, .int (iI (i + 1))), (0, .ref t), (1, .int (iI v)), (3, .int (iI kk))]) hx hb d_JY_fill_IIV_14 hl rfl (by decide) rfl (fun ls hl => ?_)
        refine lv_goto hx hb d_JY_fill_IIV_17 rfl ?_
        exact ih _ _ kk (i + 1) (j + 1) (upF f (Int.toNat i) v) _ hP hD hS (lv_sub hl [1, 2, 0, 3] rfl) (by omega) (by omega) (fun q hq => by show (if q = Int.toNat i then v else f q) = v; split; rfl; exact hs q (by omega)) (by omega)
  refine ai_iconst hx hb d_JY_fill_IIV_0 ?_
  refine lv_istore_n (lv' := [(2, .int (iI 0)), (0, .ref t), (1, .int (iI v))]) hx hb d_JY_fill_IIV_1 rfl hl (by decide) rfl (fun ls hl => ?_)
  refine lv_aload_n hx hb d_JY_fill_IIV_2 rfl (lv_at hl 1 rfl) ?_
  refine ma_len hx hb hK hP 0 0 rfl rfl d_JY_fill_IIV_3 ?_
  refine ai_nmI hx hb (fun v4 e4 => ?_)
  refine lv_istore_n (lv' := [(3, .int (iI v4)), (2, .int (iI 0)), (0, .ref t), (1, .int (iI v))]) hx hb d_JY_fill_IIV_4 rfl hl (by decide) rfl (fun ls hl => ?_)
  exact hJ5 _ _ _ v4 0 0 f0 _ hP hD hS (lv_sub hl [2, 3, 1, 0] rfl) (by omega) (by omega) (fun q hq => absurd hq (Nat.not_lt_zero _)) (Nat.lt_succ_self _)
