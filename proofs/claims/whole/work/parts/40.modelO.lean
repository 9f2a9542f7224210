/-! 40.modelO: laid by program (wip/whole) -/
def dgn (v : Int) : Nat := if -10 < v ∧ v < 10 then 1 else if -100 < v ∧ v < 100 then 2 else if -1000 < v ∧ v < 1000 then 3 else if -10000 < v ∧ v < 10000 then 4 else if -100000 < v ∧ v < 100000 then 5 else if -1000000 < v ∧ v < 1000000 then 6 else if -10000000 < v ∧ v < 10000000 then 7 else if -100000000 < v ∧ v < 100000000 then 8 else 9
def wr (v : Int) : List Int := dec v (dgn v)
def txt (Y M D : Int) : List Int := wr Y ++ [47] ++ wr M ++ [47] ++ wr D
theorem dgn_ok {v : Int} (h : -900000000 ≤ v ∧ v ≤ 900000000) : (1 ≤ dgn v ∧ dgn v ≤ 9) ∧ (-v < 10 ^ dgn v ∧ v < 10 ^ dgn v) ∧ (dgn v = 1 ∨ 10 ^ (dgn v - 1) ≤ v ∨ 10 ^ (dgn v - 1) ≤ -v) := by
  have e1 : (10 : Int) ^ 1 = 10 := by decide
  have e2 : (10 : Int) ^ 2 = 100 := by decide
  have e3 : (10 : Int) ^ 3 = 1000 := by decide
  have e4 : (10 : Int) ^ 4 = 10000 := by decide
  have e5 : (10 : Int) ^ 5 = 100000 := by decide
  have e6 : (10 : Int) ^ 6 = 1000000 := by decide
  have e7 : (10 : Int) ^ 7 = 10000000 := by decide
  have e8 : (10 : Int) ^ 8 = 100000000 := by decide
  have e9 : (10 : Int) ^ 9 = 1000000000 := by decide
  unfold dgn
  by_cases h1 : -10 < v ∧ v < 10
  · rw [if_pos h1]; exact ⟨by decide, by omega, Or.inl rfl⟩
  rw [if_neg h1]
  by_cases h1 : -100 < v ∧ v < 100
  · rw [if_pos h1]; exact ⟨by decide, by omega, Or.inr (by show 10 ^ 1 ≤ v ∨ 10 ^ 1 ≤ -v; omega)⟩
  rw [if_neg h1]
  by_cases h1 : -1000 < v ∧ v < 1000
  · rw [if_pos h1]; exact ⟨by decide, by omega, Or.inr (by show 10 ^ 2 ≤ v ∨ 10 ^ 2 ≤ -v; omega)⟩
  rw [if_neg h1]
  by_cases h1 : -10000 < v ∧ v < 10000
  · rw [if_pos h1]; exact ⟨by decide, by omega, Or.inr (by show 10 ^ 3 ≤ v ∨ 10 ^ 3 ≤ -v; omega)⟩
  rw [if_neg h1]
  by_cases h1 : -100000 < v ∧ v < 100000
  · rw [if_pos h1]; exact ⟨by decide, by omega, Or.inr (by show 10 ^ 4 ≤ v ∨ 10 ^ 4 ≤ -v; omega)⟩
  rw [if_neg h1]
  by_cases h1 : -1000000 < v ∧ v < 1000000
  · rw [if_pos h1]; exact ⟨by decide, by omega, Or.inr (by show 10 ^ 5 ≤ v ∨ 10 ^ 5 ≤ -v; omega)⟩
  rw [if_neg h1]
  by_cases h1 : -10000000 < v ∧ v < 10000000
  · rw [if_pos h1]; exact ⟨by decide, by omega, Or.inr (by show 10 ^ 6 ≤ v ∨ 10 ^ 6 ≤ -v; omega)⟩
  rw [if_neg h1]
  by_cases h1 : -100000000 < v ∧ v < 100000000
  · rw [if_pos h1]; exact ⟨by decide, by omega, Or.inr (by show 10 ^ 7 ≤ v ∨ 10 ^ 7 ≤ -v; omega)⟩
  rw [if_neg h1]
  exact ⟨by decide, by omega, Or.inr (by show 10 ^ 8 ≤ v ∨ 10 ^ 8 ≤ -v; omega)⟩
theorem dec_len (v : Int) (n : Nat) : (dec v n).length ≤ n + 1 := by
  unfold dec
  split
  · rw [List.length_cons, dgl_len]; omega
  · rw [dgl_len]; omega
theorem wr_len9 {v : Int} (h : -99999999 ≤ v ∧ v ≤ 99999999) : (wr v).length ≤ 9 := by
  have := dec_len v (dgn v)
  have : dgn v ≤ 8 := by unfold dgn; repeat' split
                         all_goals omega
  unfold wr; omega
theorem wr_len4 {v : Int} (h : 0 ≤ v ∧ v ≤ 999) : (wr v).length ≤ 4 := by
  have := dec_len v (dgn v)
  have : dgn v ≤ 3 := by unfold dgn; repeat' split
                         all_goals omega
  unfold wr; omega
def KeepG (g g' : Nat → Nat → Int) : Prop := ∀ k, k ≠ 9 → g' k = g k
theorem stM_keep {g g' : Nat → Nat → Int} (h : KeepG g g') : stM g' = stM g := by
  funext cal y
  unfold stM ysM epM plM lbM
  rw [h 3 (by decide), h 4 (by decide), h 5 (by decide), h 6 (by decide), h 7 (by decide), h 8 (by decide)]
theorem CacheOK.keep {F F' : Nat → Int} {g g' : Nat → Nat → Int} (h : CacheOK F g) (hk : KeepR F F' g g') : CacheOK F' g' := by
  unfold CacheOK at h ⊢
  rw [stM_keep hk.2, hk.1 1 (by decide), hk.1 2 (by decide), hk.1 3 (by decide), hk.1 4 (by decide)]
  exact h
theorem RowIs.nil {F : Nat → Int} {g : Nat → Nat → Int} : RowIs (upF F 8 0) g [] := ⟨rfl, by decide, fun i hi => absurd hi (Nat.not_lt_zero _)⟩
theorem RowIs.len {F : Nat → Int} {g : Nat → Nat → Int} {L : List Int} (h : RowIs F g L) : F 8 = (L.length : Int) ∧ L.length ≤ 24 := ⟨h.1, h.2.1⟩
def RGW (Y M D : Int) : Prop := (-99999999 ≤ Y ∧ Y ≤ 99999999) ∧ (0 ≤ M ∧ M ≤ 999) ∧ (0 ≤ D ∧ D ≤ 999)

set_option maxHeartbeats 4000000 in
set_option maxRecDepth 100000 in
theorem ct_M_write (l : Launch) (D : va_G) (a : Nat) (ad : Nat → Nat) (cx : Nat → ClassId) (F : Nat → Int) (g : Nat → Nat → Int) (cal : Int) (d : Int) (tc : Int) (x : Int) (Yr : Int) (Mo : Int) (Dy : Int) (hv : MInv g) (hca : CacheOK F g) (hch : ChOK g) (rc : -2147483648 ≤ cal ∧ cal ≤ 2147483647) (rd : -2147483648 ≤ d ∧ d ≤ 2147483647) (htc : (tc = 1 ∧ ¬ hcM g cal ∧ x = 0) ∨ (tc = 2 ∧ hcM g cal ∧ ¬ (-40000000 ≤ d ∧ d ≤ 40000000) ∧ x = 0) ∨ (tc = 0 ∧ hcM g cal ∧ (-40000000 ≤ d ∧ d ≤ 40000000) ∧ DTM g cal d Yr Mo Dy ∧ RGW Yr Mo Dy ∧ x = ((txt Yr Mo Dy).length : Int))) : MW l y_M_write w_M_write 8 198 [.ref a, .int (iI cal), .int (iI d)] D a ad cx F g (QMi D a ad cx x (fun u => u.1 0 = tc ∧ KeepG g u.2 ∧ CacheOK u.1 u.2 ∧ ((tc = 0 ∧ RowIs u.1 u.2 (txt Yr Mo Dy) ∧ ChOK u.2) ∨ (tc ≠ 0 ∧ u.2 = g ∧ u.1 8 = F 8)))) := by
  refine mw_of (by decide +kernel) (Nat.le_of_ble_eq_true rfl) ?_
  intro p e s m below meth c ls hx hb hr hts hown hlk hml hl hN hK hP hD
  have hown : s.vm.findClass "DayBookModel" = some m.cls := hown
  have hl : lv_has ls 3 [(0, .ref a), (1, .int (iI cal)), (2, .int (iI d))] := hl
  have hF : _ ∧ _ ∧ _ ∧ _ ∧ _ ∧ _ := ⟨hx, hb, hml, hown, hts, hN⟩
  have hS : va_S (Ain a ad) s.heap s.heap [] := va_S.rf
  refine lv_aload_n hx hb d_M_write_0 rfl (lv_at hl 0 rfl) ?_
  refine lv_aload_n hx hb d_M_write_1 rfl (lv_at hl 0 rfl) ?_
  refine lv_iload_n hx hb d_M_write_2 rfl (lv_at hl 1 rfl) ?_
  refine ro_V (rest := [.ref a]) (ct_M_hasCalendar l D a ad cx F g cal hv (by omega)) j_M_hasCalendar k_1021 (hts _ s_M_hasCalendar) hF (va_recv (q0 := 0) (ci := 10) hK hP rfl rfl) rfl hl.1 rfl ⟨Nat.le_of_ble_eq_true rfl, Nat.le_of_ble_eq_true rfl⟩ (Nat.le_of_ble_eq_true rfl) d_M_write_3 ⟨Nat.zero_le _, Nat.zero_le _⟩ MdB.m (fun U h1 h2 => ⟨va_K.moved h2.alike hK, by rw [h1]; exact hP⟩) ?_
  refine ai_ifneB hx hb d_M_write_6 rfl (fun h6 => ?_) (fun h6 => ?_)
  · skip
    refine lv_iload_n hx hb d_M_write_13 rfl (lv_at hl 2 rfl) ?_
    refine ai_i2l hx hb d_M_write_14 (by omega) ?_
    refine ro_S (rest := [.ref a]) (ct_M_inRange l d (by omega)) j_M_inRange k_1025 hF rfl hl.1 rfl ⟨Nat.le_of_ble_eq_true rfl, Nat.le_of_ble_eq_true rfl⟩ (Nat.le_of_ble_eq_true rfl) d_M_write_15 ⟨Nat.zero_le _, Nat.zero_le _⟩ Bm_true (fun _ _ _ => trivial) ?_
    refine ai_ifneB hx hb d_M_write_18 rfl (fun h18 => ?_) (fun h18 => ?_)
    · skip
      have hc_ := h6
      obtain ⟨et, hdt, hrg, ex⟩ : tc = 0 ∧ DTM g cal d Yr Mo Dy ∧ RGW Yr Mo Dy ∧ x = ((txt Yr Mo Dy).length : Int) := by rcases htc with ⟨a1, a2, a3⟩ | ⟨a1, a2, a3, a4⟩ | ⟨a1, a2, a3, a4, a5, a6⟩; exact absurd h6 a2; exact absurd h18 a3; exact ⟨a1, a4, a5, a6⟩
      obtain ⟨g1, g2, g3⟩ := hrg
      refine ai_iconst hx hb d_M_write_25 ?_
      refine va_put (D := D) (cl := CL) (ci := 10) (v := .int (iI 0)) (ty := .int) (C := "DayBookModel") (T := T_M) (N := 19) hx hb hts in_M ty_M ty_M_ok nm_M hown hK hP hD hS 0 rfl rfl 0 (by decide) (hts _ k_946) (fun _ h9 => h9) rfl (by decide +kernel) rfl rfl (Nat.le_of_ble_eq_true rfl) d_M_write_26 (fun H locs hP hD hS => ?_)
      have hP : va_P D CL (MWs a ad cx (upF F 0 0) g) H := hP
      have hD : va_D (Ain a ad) (MWs a ad cx (upF F 0 0) g) := hD
      refine lv_aload_n hx hb d_M_write_29 rfl (lv_at hl 0 rfl) ?_
      refine va_get (D := D) (cl := CL) (ci := 10) (v := .int (iI 0)) (C := "DayBookModel") (T := T_M) (N := 19) hx hb hts in_M hown hK hP 0 rfl rfl 0 (by decide) (hts _ k_946) (fun _ h9 => h9) rfl d_M_write_30 ?_
      refine ai_if_le hx hb d_M_write_33 rfl (by omega) (fun h33 => ?_) (fun h33 => by exfalso; omega)
      refine lv_aload_n hx hb d_M_write_38 rfl (lv_at hl 0 rfl) ?_
      refine lv_iload_n hx hb d_M_write_39 rfl (lv_at hl 1 rfl) ?_
      refine lv_iload_n hx hb d_M_write_40 rfl (lv_at hl 2 rfl) ?_
      refine ai_i2l hx hb d_M_write_41 (by omega) ?_
      refine mw_v (rest := []) (ct_M_findDate l D a ad cx (upF F 0 0) g cal d Yr Mo Dy (MInv.cal hc_) (hv.ho hc_) (hv.1 0 (by decide)) (hv.cy hc_) hca (by omega) hdt) j_M_findDate k_1030 s_M_findDate hF hK hP hD hS (fun _ h => h) rfl hl.1 rfl ⟨Nat.le_of_ble_eq_true rfl, Nat.le_of_ble_eq_true rfl⟩ (Nat.le_of_ble_eq_true rfl) d_M_write_42 ⟨Nat.zero_le _, Nat.zero_le _⟩ (fun u42 H locs hΦ42 hP hS => ?_)
      obtain ⟨F42, g42⟩ := u42
      dsimp only at hΦ42 hP
      obtain ⟨eg42, y42, m42, d42, t42, z42, c42⟩ := hΦ42
      rw [eg42] at hP
      have hD : va_D (Ain a ad) (MWs a ad cx F42 g) := MD.any hD
      refine lv_aload_n hx hb d_M_write_45 rfl (lv_at hl 0 rfl) ?_
      refine ai_iconst hx hb d_M_write_46 ?_
      refine va_put (D := D) (cl := CL) (ci := 10) (v := .int (iI 0)) (ty := .int) (C := "DayBookModel") (T := T_M) (N := 19) hx hb hts in_M ty_M ty_M_ok nm_M hown hK hP hD hS 0 rfl rfl 17 (by decide) (hts _ k_963) (fun _ h9 => h9) rfl (by decide +kernel) rfl rfl (Nat.le_of_ble_eq_true rfl) d_M_write_47 (fun H locs hP hD hS => ?_)
      have hP : va_P D CL (MWs a ad cx (upF F42 8 0) g) H := hP
      have hD : va_D (Ain a ad) (MWs a ad cx (upF F42 8 0) g) := hD
      refine lv_aload_n hx hb d_M_write_50 rfl (lv_at hl 0 rfl) ?_
      refine lv_aload_n hx hb d_M_write_51 rfl (lv_at hl 0 rfl) ?_
      refine va_get (D := D) (cl := CL) (ci := 10) (v := .long (iL (F42 5))) (C := "DayBookModel") (T := T_M) (N := 19) hx hb hts in_M hown hK hP 0 rfl rfl 14 (by decide) (hts _ k_960) (fun _ h9 => h9) rfl d_M_write_52 ?_
      have lY := wr_len9 (v := F42 5) (by omega)
      have lh55 : ([] : List Int).length + (dec (F42 5) (dgn (F42 5))).length ≤ 24 := by show 0 + (wr (F42 5)).length ≤ 24; omega
      refine mw_v (rest := []) (ct_M_putNumber l D a ad cx (upF F42 8 0) g (F42 5) (dgn (F42 5)) ([]) RowIs.nil hch (dgn_ok (v := F42 5) (by omega)).1 (dgn_ok (v := F42 5) (by omega)).2 lh55 (by omega)) j_M_putNumber k_1192 s_M_putNumber hF hK hP hD hS (fun _ h => h) rfl hl.1 rfl ⟨Nat.le_of_ble_eq_true rfl, Nat.le_of_ble_eq_true rfl⟩ (Nat.le_of_ble_eq_true rfl) d_M_write_55 ⟨Nat.zero_le _, Nat.zero_le _⟩ (fun u55 H locs hΦ55 hP hS => ?_)
      obtain ⟨F55, g55⟩ := u55
      dsimp only at hΦ55 hP
      obtain ⟨kp55, rw55, ch55⟩ := hΦ55
      have hD : va_D (Ain a ad) (MWs a ad cx F55 g55) := MD.any hD
      have q8 := rw55.len.1
      have q9 : ([] ++ dec (F42 5) (dgn (F42 5)) : List Int).length = (wr (F42 5)).length := rfl
      rw [q9] at q8
      refine lv_aload_n hx hb d_M_write_58 rfl (lv_at hl 0 rfl) ?_
      refine va_get (D := D) (cl := CL) (ci := 10) (v := .ref (ad 9)) (C := "DayBookModel") (T := T_M) (N := 19) hx hb hts in_M hown hK hP 0 rfl rfl 18 (by decide) (hts _ k_964) (fun _ h9 => h9) rfl d_M_write_59 ?_
      refine lv_aload_n hx hb d_M_write_62 rfl (lv_at hl 0 rfl) ?_
      refine va_get (D := D) (cl := CL) (ci := 10) (v := .int (iI (F55 8))) (C := "DayBookModel") (T := T_M) (N := 19) hx hb hts in_M hown hK hP 0 rfl rfl 17 (by decide) (hts _ k_963) (fun _ h9 => h9) rfl d_M_write_63 ?_
      refine ai_bipush (x := 47) hx hb d_M_write_66 (by decide +kernel) ?_
      refine ma_cst hx hb hK hP hD hS 10 3 rfl rfl (h := g55 9) (v := 47) (by omega) (by decide) (by omega) d_M_write_68 (fun H locs hP hD hS => ?_)
      have hP : va_P D CL (MWs a ad cx F55 (upG g55 9 (Int.toNat (F55 8)) 47)) H := hP
      have hD : va_D (Ain a ad) (MWs a ad cx F55 (upG g55 9 (Int.toNat (F55 8)) 47)) := hD
      refine lv_aload_n hx hb d_M_write_69 rfl (lv_at hl 0 rfl) ?_
      refine lv_dup hx hb d_M_write_70 rfl ?_
      refine va_get (D := D) (cl := CL) (ci := 10) (v := .int (iI (F55 8))) (C := "DayBookModel") (T := T_M) (N := 19) hx hb hts in_M hown hK hP 0 rfl rfl 17 (by decide) (hts _ k_963) (fun _ h9 => h9) rfl d_M_write_71 ?_
      refine ai_iconst hx hb d_M_write_74 ?_
      refine ai_iadd hx hb d_M_write_75 ?_
      refine ai_nmI hx hb (fun v76 e76 => ?_)
      refine va_put (D := D) (cl := CL) (ci := 10) (v := .int (iI v76)) (ty := .int) (C := "DayBookModel") (T := T_M) (N := 19) hx hb hts in_M ty_M ty_M_ok nm_M hown hK hP hD hS 0 rfl rfl 17 (by decide) (hts _ k_963) (fun _ h9 => h9) rfl (by decide +kernel) rfl rfl (Nat.le_of_ble_eq_true rfl) d_M_write_76 (fun H locs hP hD hS => ?_)
      have hP : va_P D CL (MWs a ad cx (upF F55 8 v76) (upG g55 9 (Int.toNat (F55 8)) 47)) H := hP
      have hD : va_D (Ain a ad) (MWs a ad cx (upF F55 8 v76) (upG g55 9 (Int.toNat (F55 8)) 47)) := hD
      have rw76 := rw55.push (v := 47) (w := v76) (by rw [q9]; omega) e76
      have ch76 := ch55.push (i := Int.toNat (F55 8)) (v := 47) (by decide)
      have e6 : F55 6 = Mo := (kp55.1 6 (by decide)).trans m42
      refine lv_aload_n hx hb d_M_write_79 rfl (lv_at hl 0 rfl) ?_
      refine lv_aload_n hx hb d_M_write_80 rfl (lv_at hl 0 rfl) ?_
      refine va_get (D := D) (cl := CL) (ci := 10) (v := .int (iI (F55 6))) (C := "DayBookModel") (T := T_M) (N := 19) hx hb hts in_M hown hK hP 0 rfl rfl 15 (by decide) (hts _ k_961) (fun _ h9 => h9) rfl d_M_write_81 ?_
      refine ai_i2l hx hb d_M_write_84 (by omega) ?_
      have lM := wr_len4 (v := F55 6) (by omega)
      have lh85 : (([] ++ wr (F42 5)) ++ [47] : List Int).length + (dec (F55 6) (dgn (F55 6))).length ≤ 24 := by show (wr (F42 5) ++ [47]).length + (wr (F55 6)).length ≤ 24; rw [List.length_append, List.length_singleton]; omega
      refine mw_v (rest := []) (ct_M_putNumber l D a ad cx (upF F55 8 v76) (upG g55 9 (Int.toNat (F55 8)) 47) (F55 6) (dgn (F55 6)) (([] ++ wr (F42 5)) ++ [47]) rw76 ch76 (dgn_ok (v := F55 6) (by omega)).1 (dgn_ok (v := F55 6) (by omega)).2 lh85 (by omega)) j_M_putNumber k_1192 s_M_putNumber hF hK hP hD hS (fun _ h => h) rfl hl.1 rfl ⟨Nat.le_of_ble_eq_true rfl, Nat.le_of_ble_eq_true rfl⟩ (Nat.le_of_ble_eq_true rfl) d_M_write_85 ⟨Nat.zero_le _, Nat.zero_le _⟩ (fun u85 H locs hΦ85 hP hS => ?_)
      obtain ⟨F85, g85⟩ := u85
      dsimp only at hΦ85 hP
      obtain ⟨kp85, rw85, ch85⟩ := hΦ85
      have hD : va_D (Ain a ad) (MWs a ad cx F85 g85) := MD.any hD
      have q8 := rw85.len.1
      have q9 : (([] ++ wr (F42 5)) ++ [47] ++ dec (F55 6) (dgn (F55 6)) : List Int).length = (wr (F42 5)).length + 1 + (wr (F55 6)).length := by rw [List.length_append, List.length_append, List.length_singleton]; rfl
      rw [q9] at q8
      refine lv_aload_n hx hb d_M_write_88 rfl (lv_at hl 0 rfl) ?_
      refine va_get (D := D) (cl := CL) (ci := 10) (v := .ref (ad 9)) (C := "DayBookModel") (T := T_M) (N := 19) hx hb hts in_M hown hK hP 0 rfl rfl 18 (by decide) (hts _ k_964) (fun _ h9 => h9) rfl d_M_write_89 ?_
      refine lv_aload_n hx hb d_M_write_92 rfl (lv_at hl 0 rfl) ?_
      refine va_get (D := D) (cl := CL) (ci := 10) (v := .int (iI (F85 8))) (C := "DayBookModel") (T := T_M) (N := 19) hx hb hts in_M hown hK hP 0 rfl rfl 17 (by decide) (hts _ k_963) (fun _ h9 => h9) rfl d_M_write_93 ?_
      refine ai_bipush (x := 47) hx hb d_M_write_96 (by decide +kernel) ?_
      refine ma_cst hx hb hK hP hD hS 10 3 rfl rfl (h := g85 9) (v := 47) (by omega) (by decide) (by omega) d_M_write_98 (fun H locs hP hD hS => ?_)
      have hP : va_P D CL (MWs a ad cx F85 (upG g85 9 (Int.toNat (F85 8)) 47)) H := hP
      have hD : va_D (Ain a ad) (MWs a ad cx F85 (upG g85 9 (Int.toNat (F85 8)) 47)) := hD
      refine lv_aload_n hx hb d_M_write_99 rfl (lv_at hl 0 rfl) ?_
      refine lv_dup hx hb d_M_write_100 rfl ?_
      refine va_get (D := D) (cl := CL) (ci := 10) (v := .int (iI (F85 8))) (C := "DayBookModel") (T := T_M) (N := 19) hx hb hts in_M hown hK hP 0 rfl rfl 17 (by decide) (hts _ k_963) (fun _ h9 => h9) rfl d_M_write_101 ?_
      refine ai_iconst hx hb d_M_write_104 ?_
      refine ai_iadd hx hb d_M_write_105 ?_
      refine ai_nmI hx hb (fun v106 e106 => ?_)
      refine va_put (D := D) (cl := CL) (ci := 10) (v := .int (iI v106)) (ty := .int) (C := "DayBookModel") (T := T_M) (N := 19) hx hb hts in_M ty_M ty_M_ok nm_M hown hK hP hD hS 0 rfl rfl 17 (by decide) (hts _ k_963) (fun _ h9 => h9) rfl (by decide +kernel) rfl rfl (Nat.le_of_ble_eq_true rfl) d_M_write_106 (fun H locs hP hD hS => ?_)
      have hP : va_P D CL (MWs a ad cx (upF F85 8 v106) (upG g85 9 (Int.toNat (F85 8)) 47)) H := hP
      have hD : va_D (Ain a ad) (MWs a ad cx (upF F85 8 v106) (upG g85 9 (Int.toNat (F85 8)) 47)) := hD
      have rw106 := rw85.push (v := 47) (w := v106) (by rw [q9]; omega) e106
      have ch106 := ch85.push (i := Int.toNat (F85 8)) (v := 47) (by decide)
      have e7 : F85 7 = Dy := (kp85.1 7 (by decide)).trans ((kp55.1 7 (by decide)).trans d42)
      refine lv_aload_n hx hb d_M_write_109 rfl (lv_at hl 0 rfl) ?_
      refine lv_aload_n hx hb d_M_write_110 rfl (lv_at hl 0 rfl) ?_
      refine va_get (D := D) (cl := CL) (ci := 10) (v := .int (iI (F85 7))) (C := "DayBookModel") (T := T_M) (N := 19) hx hb hts in_M hown hK hP 0 rfl rfl 16 (by decide) (hts _ k_962) (fun _ h9 => h9) rfl d_M_write_111 ?_
      refine ai_i2l hx hb d_M_write_114 (by omega) ?_
      have lD := wr_len4 (v := F85 7) (by omega)
      have lh115 : ((([] ++ wr (F42 5)) ++ [47] ++ wr (F55 6)) ++ [47] : List Int).length + (dec (F85 7) (dgn (F85 7))).length ≤ 24 := by show ((wr (F42 5) ++ [47] ++ wr (F55 6)) ++ [47]).length + (wr (F85 7)).length ≤ 24; rw [List.length_append, List.length_append, List.length_append, List.length_singleton]; omega
      refine mw_v (rest := []) (ct_M_putNumber l D a ad cx (upF F85 8 v106) (upG g85 9 (Int.toNat (F85 8)) 47) (F85 7) (dgn (F85 7)) ((([] ++ wr (F42 5)) ++ [47] ++ wr (F55 6)) ++ [47]) rw106 ch106 (dgn_ok (v := F85 7) (by omega)).1 (dgn_ok (v := F85 7) (by omega)).2 lh115 (by omega)) j_M_putNumber k_1192 s_M_putNumber hF hK hP hD hS (fun _ h => h) rfl hl.1 rfl ⟨Nat.le_of_ble_eq_true rfl, Nat.le_of_ble_eq_true rfl⟩ (Nat.le_of_ble_eq_true rfl) d_M_write_115 ⟨Nat.zero_le _, Nat.zero_le _⟩ (fun u115 H locs hΦ115 hP hS => ?_)
      obtain ⟨F115, g115⟩ := u115
      dsimp only at hΦ115 hP
      obtain ⟨kp115, rw115, ch115⟩ := hΦ115
      have hD : va_D (Ain a ad) (MWs a ad cx F115 g115) := MD.any hD
      have rwE : RowIs F115 g115 (txt Yr Mo Dy) := by rw [← y42, ← e6, ← e7]; exact rw115
      have kp0 : KeepR F42 (upF F42 8 0) g g := ⟨fun j hj => by show (if j = 8 then 0 else F42 j) = F42 j; rw [if_neg hj], fun _ _ => rfl⟩
      have kpE := ((kp0.tr kp55).push (w := v76) (v := 47) (i := Int.toNat (F55 8))).tr kp85
      have kpF := (kpE.push (w := v106) (v := 47) (i := Int.toNat (F85 8))).tr kp115
      have et0 : F115 0 = tc := by rw [kpF.1 0 (by decide), t42]; exact et.symm
      have kgE : KeepG g g115 := kpF.2
      have ccE : CacheOK F115 g115 := c42.keep kpF
      refine lv_aload_n hx hb d_M_write_118 rfl (lv_at hl 0 rfl) ?_
      refine va_get (D := D) (cl := CL) (ci := 10) (v := .int (iI (F115 8))) (C := "DayBookModel") (T := T_M) (N := 19) hx hb hts in_M hown hK hP 0 rfl rfl 17 (by decide) (hts _ k_963) (fun _ h9 => h9) rfl d_M_write_119 ?_
      exact mw_iret hx hb hr hlk d_M_write_122 hP hS (by rw [ex, rwE.1]) ⟨et0, kgE, ccE, Or.inl ⟨et, rwE, ch115⟩⟩
    · skip
      obtain ⟨et, ex⟩ : tc = 2 ∧ x = 0 := by rcases htc with ⟨a1, a2, a3⟩ | ⟨a1, a2, a3, a4⟩ | ⟨a1, a2, a3, a4⟩; exact absurd h6 a2; exact ⟨a1, a4⟩; exact absurd a3 h18
      refine ai_iconst hx hb d_M_write_21 ?_
      refine lv_goto hx hb d_M_write_22 rfl ?_
      refine va_put (D := D) (cl := CL) (ci := 10) (v := .int (iI 2)) (ty := .int) (C := "DayBookModel") (T := T_M) (N := 19) hx hb hts in_M ty_M ty_M_ok nm_M hown hK hP hD hS 0 rfl rfl 0 (by decide) (hts _ k_946) (fun _ h9 => h9) rfl (by decide +kernel) rfl rfl (Nat.le_of_ble_eq_true rfl) d_M_write_26 (fun H locs hP hD hS => ?_)
      have hP : va_P D CL (MWs a ad cx (upF F 0 2) g) H := hP
      have hD : va_D (Ain a ad) (MWs a ad cx (upF F 0 2) g) := hD
      refine lv_aload_n hx hb d_M_write_29 rfl (lv_at hl 0 rfl) ?_
      refine va_get (D := D) (cl := CL) (ci := 10) (v := .int (iI 2)) (C := "DayBookModel") (T := T_M) (N := 19) hx hb hts in_M hown hK hP 0 rfl rfl 0 (by decide) (hts _ k_946) (fun _ h9 => h9) rfl d_M_write_30 ?_
      refine ai_if_le hx hb d_M_write_33 rfl (by omega) (fun h33 => by exfalso; omega) (fun h33 => ?_)
      refine ai_iconst hx hb d_M_write_36 ?_
      exact mw_iret hx hb hr hlk d_M_write_37 hP hS ex.symm ⟨et.symm, fun _ _ => rfl, hca, Or.inr ⟨by omega, rfl, rfl⟩⟩
  · skip
    obtain ⟨et, ex⟩ : tc = 1 ∧ x = 0 := by rcases htc with ⟨a1, a2, a3⟩ | ⟨a1, a2, a3, a4⟩ | ⟨a1, a2, a3, a4⟩; exact ⟨a1, a3⟩; exact absurd a2 h6; exact absurd a2 h6
    refine ai_iconst hx hb d_M_write_9 ?_
    refine lv_goto hx hb d_M_write_10 rfl ?_
    refine va_put (D := D) (cl := CL) (ci := 10) (v := .int (iI 1)) (ty := .int) (C := "DayBookModel") (T := T_M) (N := 19) hx hb hts in_M ty_M ty_M_ok nm_M hown hK hP hD hS 0 rfl rfl 0 (by decide) (hts _ k_946) (fun _ h9 => h9) rfl (by decide +kernel) rfl rfl (Nat.le_of_ble_eq_true rfl) d_M_write_26 (fun H locs hP hD hS => ?_)
    have hP : va_P D CL (MWs a ad cx (upF F 0 1) g) H := hP
    have hD : va_D (Ain a ad) (MWs a ad cx (upF F 0 1) g) := hD
    refine lv_aload_n hx hb d_M_write_29 rfl (lv_at hl 0 rfl) ?_
    refine va_get (D := D) (cl := CL) (ci := 10) (v := .int (iI 1)) (C := "DayBookModel") (T := T_M) (N := 19) hx hb hts in_M hown hK hP 0 rfl rfl 0 (by decide) (hts _ k_946) (fun _ h9 => h9) rfl d_M_write_30 ?_
    refine ai_if_le hx hb d_M_write_33 rfl (by omega) (fun h33 => by exfalso; omega) (fun h33 => ?_)
    refine ai_iconst hx hb d_M_write_36 ?_
    exact mw_iret hx hb hr hlk d_M_write_37 hP hS ex.symm ⟨et.symm, fun _ _ => rfl, hca, Or.inr ⟨by omega, rfl, rfl⟩⟩
