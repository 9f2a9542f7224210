/-! 61.plug: laid by program (wip/whole) -/
set_option maxHeartbeats 4000000 in
set_option maxRecDepth 100000 in
theorem ct_B_plug (l : Launch) (D : va_G) (b : Nat) (cvA : Nat) (jlA : Nat) (hbA : Nat) (csA : Nat) (sbA : Nat) (vbA : Nat) (cA : ClassId) (cB : ClassId) (ca : Nat → Option Nat) (cp : Nat) (z : Int) (ml : Int) (tx : Nat → Int) (L : List Int) (cI : ClassId) (sr : Nat → Nat) (k : Int) (mo : Int) (le : Int) (ep : Int) (ra : Int) (rb : Int) (rc : Int) (sz : Nat) (hR9 : RWO cp z tx L) (hk : 0 ≤ k ∧ k ≤ 1) (hok : okP mo le ep ra rb rc) : GMet l y_B_plug w_B_plug 4 104 3 30 [.ref b, .int (iI k), .int (iI mo), .int (iI le), .int (iI ep), .int (iI ra), .int (iI rb), .int (iI rc)] D [(cA, .object "DayBook$Calendar"), (cB, .byte), (cI, .int)] [(b, .inr (9, [.ref cvA, .ref jlA, .ref hbA, .ref csA, .ref sbA])), (csA, .inl (cA, 14, .inr (.inr (.inr (.inr ca))))), (sbA, .inr (0, [.ref vbA, .int (iI 0), .int (iI ml), .int (iI z)])), (vbA, .inl (cB, cp, .inl (fun j => iI (tx j))))] sz (fun U => SA (va_A [(b, .inr (9, [.ref cvA, .ref jlA, .ref hbA, .ref csA, .ref sbA])), (csA, .inl (cA, 14, .inr (.inr (.inr (.inr ca))))), (sbA, .inr (0, [.ref vbA, .int (iI 0), .int (iI ml), .int (iI z)])), (vbA, .inl (cB, cp, .inl (fun j => iI (tx j))))] sz) U ∧ DSA sr (va_A [(b, .inr (9, [.ref cvA, .ref jlA, .ref hbA, .ref csA, .ref sbA])), (csA, .inl (cA, 14, .inr (.inr (.inr (.inr ca))))), (sbA, .inr (0, [.ref vbA, .int (iI 0), .int (iI ml), .int (iI z)])), (vbA, .inl (cB, cp, .inl (fun j => iI (tx j))))] sz) U) (GQi D (fun (u : Nat × Nat × Nat × (Nat → Int)) => bI (ca (Int.toNat (12 + k)) ≠ none)) (fun (u : Nat × Nat × Nat × (Nat → Int)) => ∀ j : Nat, j < Int.toNat mo → u.2.2.2 j = le) (fun (u : Nat × Nat × Nat × (Nat → Int)) => ([(b, .inr (9, [.ref cvA, .ref jlA, .ref hbA, .ref csA, .ref sbA])), (csA, .inl (cA, 14, .inr (.inr (.inr (.inr (va_up ca (Int.toNat (12 + k)) (some u.2.1))))))), (sbA, .inr (0, [.ref vbA, .int (iI 0), .int (iI ml), .int (iI z)])), (vbA, .inl (cB, cp, .inl (fun j => iI (tx j)))), (u.1, .inl (cI, (Int.toNat mo), .inl (fun j => iI (u.2.2.2 j)))), (u.2.2.1, .inr (7, [.long (iL ra), .long (iL rb), .long (iL rc)])), (u.2.1, .inr (5, [.ref (sr 0), .ref u.1, .int (iI (mo - 1)), .long (iL ep), .int (iI (bI True)), .ref u.2.2.1, .int (iI (cm u.2.2.2 (Int.toNat mo)))]))] : va_W))) := by
  refine gm_of (by decide +kernel) (Nat.le_of_ble_eq_true rfl) ?_
  intro p e s m below meth c ls A hx hb hr hts hown hlk hml hl hN hK hP hD hS hA hAi hnm hsz hX
  subst hsz
  have hown : s.vm.findClass "DayBook" = some m.cls := hown
  have hl : lv_has ls 12 [(0, .ref b), (1, .int (iI k)), (2, .int (iI mo)), (3, .int (iI le)), (4, .int (iI ep)), (5, .int (iI ra)), (6, .int (iI rb)), (7, .int (iI rc))] := hl
  have hF : _ ∧ _ ∧ _ ∧ _ ∧ _ ∧ _ := ⟨hx, hb, hml, hown, hts, hN⟩
  obtain ⟨hT, hDs⟩ := hX
  have hT : SA A s := ST.narrow hT hAi
  obtain ⟨hcp, hzc, hL⟩ := hR9
  have hz1 := hL.1
  have hDs : DSA sr A s := DSA.narrow hDs hAi
  obtain ⟨o1, o2, o3, o4, o5, o6⟩ := hok
  refine lv_iload_n hx hb d_B_plug_0 rfl (lv_at hl 1 rfl) ?_
  refine ai_if_lt hx hb d_B_plug_1 rfl (by omega) (fun h1 => by exfalso; omega) (fun h1 => ?_)
  refine lv_iload_n hx hb d_B_plug_4 rfl (lv_at hl 1 rfl) ?_
  refine ai_iconst hx hb d_B_plug_5 ?_
  refine ai_icmp_le hx hb d_B_plug_6 rfl (by omega) (by omega) (fun h6 => ?_) (fun h6 => by exfalso; omega)
  refine lv_iload_n hx hb d_B_plug_17 rfl (lv_at hl 2 rfl) ?_
  refine ai_iconst hx hb d_B_plug_18 ?_
  refine ai_icmp_lt hx hb d_B_plug_19 rfl (by omega) (by omega) (fun h19 => by exfalso; omega) (fun h19 => ?_)
  refine lv_iload_n hx hb d_B_plug_22 rfl (lv_at hl 2 rfl) ?_
  refine ai_bipush (x := 20) hx hb d_B_plug_23 (by decide +kernel) ?_
  refine ai_icmp_gt hx hb d_B_plug_25 rfl (by omega) (by omega) (fun h25 => by exfalso; omega) (fun h25 => ?_)
  refine lv_iload_n hx hb d_B_plug_28 rfl (lv_at hl 3 rfl) ?_
  refine ai_iconst hx hb d_B_plug_29 ?_
  refine ai_icmp_lt hx hb d_B_plug_30 rfl (by omega) (by omega) (fun h30 => by exfalso; omega) (fun h30 => ?_)
  refine lv_iload_n hx hb d_B_plug_33 rfl (lv_at hl 3 rfl) ?_
  refine ai_bipush (x := 40) hx hb d_B_plug_34 (by decide +kernel) ?_
  refine ai_icmp_gt hx hb d_B_plug_36 rfl (by omega) (by omega) (fun h36 => by exfalso; omega) (fun h36 => ?_)
  refine lv_iload hx hb d_B_plug_39 (lv_at hl 4 rfl) ?_
  refine ai_ldc (x := -1000000) hx hb hown (hts _ k_467) (by decide +kernel) d_B_plug_41 ?_
  refine ai_icmp_lt hx hb d_B_plug_43 rfl (by omega) (by omega) (fun h43 => by exfalso; omega) (fun h43 => ?_)
  refine lv_iload hx hb d_B_plug_46 (lv_at hl 4 rfl) ?_
  refine ai_ldc (x := 1000000) hx hb hown (hts _ k_468) (by decide +kernel) d_B_plug_48 ?_
  refine ai_icmp_gt hx hb d_B_plug_50 rfl (by omega) (by omega) (fun h50 => by exfalso; omega) (fun h50 => ?_)
  refine ai_iconst hx hb d_B_plug_53 ?_
  refine lv_goto hx hb d_B_plug_54 rfl ?_
  refine lv_istore (lv' := [(8, .int (iI 1)), (0, .ref b), (1, .int (iI k)), (2, .int (iI mo)), (3, .int (iI le)), (4, .int (iI ep)), (5, .int (iI ra)), (6, .int (iI rb)), (7, .int (iI rc))]) hx hb d_B_plug_58 hl (by decide) rfl (fun ls hl => ?_)
  refine lv_iload hx hb d_B_plug_60 (lv_at hl 8 rfl) ?_
  refine ai_iconst hx hb d_B_plug_62 ?_
  refine ai_icmp_lt hx hb d_B_plug_63 rfl (by omega) (by omega) (fun h63 => by exfalso; omega) (fun h63 => ?_)
  refine lv_iload hx hb d_B_plug_66 (lv_at hl 8 rfl) ?_
  refine ai_sipush (x := 1000) hx hb d_B_plug_68 (by decide +kernel) ?_
  refine ai_icmp_gt hx hb d_B_plug_71 rfl (by omega) (by omega) (fun h71 => by exfalso; omega) (fun h71 => ?_)
  refine lv_iload hx hb d_B_plug_74 (lv_at hl 6 rfl) ?_
  refine ai_if_lt hx hb d_B_plug_76 rfl (by omega) (fun h76 => by exfalso; omega) (fun h76 => ?_)
  refine lv_iload hx hb d_B_plug_79 (lv_at hl 6 rfl) ?_
  refine lv_iload hx hb d_B_plug_81 (lv_at hl 8 rfl) ?_
  refine ai_icmp_gt hx hb d_B_plug_83 rfl (by omega) (by omega) (fun h83 => by exfalso; omega) (fun h83 => ?_)
  refine lv_iload hx hb d_B_plug_86 (lv_at hl 7 rfl) ?_
  refine ai_if_lt hx hb d_B_plug_88 rfl (by omega) (fun h88 => by exfalso; omega) (fun h88 => ?_)
  refine lv_iload hx hb d_B_plug_91 (lv_at hl 7 rfl) ?_
  refine lv_iload hx hb d_B_plug_93 (lv_at hl 8 rfl) ?_
  refine ai_icmp_ge hx hb d_B_plug_95 rfl (by omega) (by omega) (fun h95 => by exfalso; omega) (fun h95 => ?_)
  refine ai_iconst hx hb d_B_plug_98 ?_
  refine lv_goto hx hb d_B_plug_99 rfl ?_
  refine lv_istore (lv' := [(9, .int (iI 1)), (8, .int (iI 1)), (0, .ref b), (1, .int (iI k)), (2, .int (iI mo)), (3, .int (iI le)), (4, .int (iI ep)), (5, .int (iI ra)), (6, .int (iI rb)), (7, .int (iI rc))]) hx hb d_B_plug_103 hl (by decide) rfl (fun ls hl => ?_)
  refine lv_iload hx hb d_B_plug_105 (lv_at hl 1 rfl) ?_
  refine ai_if_eq hx hb d_B_plug_107 rfl (by omega) (fun h107 => by exfalso; omega) (fun h107 => ?_)
  refine lv_iload hx hb d_B_plug_110 (lv_at hl 0 rfl) ?_
  refine ai_if_ne hx hb d_B_plug_112 rfl (by omega) (fun h112 => ?_) (fun h112 => by exfalso; omega)
  refine lv_aload_n hx hb d_B_plug_123 rfl (lv_at hl 2 rfl) ?_
  refine va_get (D := D) (cl := CL) (ci := 9) (v := .ref csA) (C := "DayBook") (T := T_B) (N := 5) hx hb hts in_B hown hK hP 0 rfl rfl 3 (by decide) (hts _ k_207) (fun _ h9 => h9) rfl d_B_plug_124 ?_
  refine ai_bipush (x := 12) hx hb d_B_plug_127 (by decide +kernel) ?_
  refine lv_iload_n hx hb d_B_plug_129 rfl (lv_at hl 3 rfl) ?_
  refine ai_iadd hx hb d_B_plug_130 ?_
  refine ma_qld hx hb hK hP 1 0 rfl rfl (by omega) (by decide) d_B_plug_131 ?_
  cases hca : ca (Int.toNat (12 + k)) with
  | none =>
    refine lv_ifnullN hx hb d_B_plug_132 rfl ?_
    refine ai_iconst hx hb d_B_plug_139 ?_
    refine lv_istore (lv' := [(10, .int (iI 0)), (9, .int (iI 1)), (8, .int (iI 1)), (0, .ref b), (1, .int (iI k)), (2, .int (iI mo)), (3, .int (iI le)), (4, .int (iI ep)), (5, .int (iI ra)), (6, .int (iI rb)), (7, .int (iI rc))]) hx hb d_B_plug_140 hl (by decide) rfl (fun ls hl => ?_)
    refine lv_iload_n hx hb d_B_plug_142 rfl (lv_at hl 5 rfl) ?_
    refine gm_nw hx hb hts (ty := .int) rfl k_487 (by decide +kernel) (by decide) (fun _ h9 => va_nm_int h9) hK hP hD hS hA 2 rfl (Int.toNat mo) (by omega) (by omega) (Nat.le_of_ble_eq_true rfl) (by show 0 + (Int.toNat mo) ≤ 30; omega) d_B_plug_143 (fun q143 H hP hD hS => ?_)
    have hP : va_P D CL [(b, .inr (9, [.ref cvA, .ref jlA, .ref hbA, .ref csA, .ref sbA])), (csA, .inl (cA, 14, .inr (.inr (.inr (.inr ca))))), (sbA, .inr (0, [.ref vbA, .int (iI 0), .int (iI ml), .int (iI z)])), (vbA, .inl (cB, cp, .inl (fun j => iI (tx j)))), (q143, .inl (cI, (Int.toNat mo), .inl (fun j => iI ((fun _ => (0 : Int)) j))))] H := hP
    have hD : va_D A [(b, .inr (9, [.ref cvA, .ref jlA, .ref hbA, .ref csA, .ref sbA])), (csA, .inl (cA, 14, .inr (.inr (.inr (.inr ca))))), (sbA, .inr (0, [.ref vbA, .int (iI 0), .int (iI ml), .int (iI z)])), (vbA, .inl (cB, cp, .inl (fun j => iI (tx j)))), (q143, .inl (cI, (Int.toNat mo), .inl (fun j => iI ((fun _ => (0 : Int)) j))))] := hD
    refine lv_astore (lv' := [(11, .ref q143), (10, .int (iI 0)), (9, .int (iI 1)), (8, .int (iI 1)), (0, .ref b), (1, .int (iI k)), (2, .int (iI mo)), (3, .int (iI le)), (4, .int (iI ep)), (5, .int (iI ra)), (6, .int (iI rb)), (7, .int (iI rc))]) hx hb d_B_plug_145 hl (by decide) rfl (fun ls hl => ?_)
    refine lv_aload hx hb d_B_plug_147 (lv_at hl 0 rfl) ?_
    refine lv_iload_n hx hb d_B_plug_149 rfl (lv_at hl 7 rfl) ?_
    refine gm_cv (wr := [(b, .inr (9, [.ref cvA, .ref jlA, .ref hbA, .ref csA, .ref sbA])), (csA, .inl (cA, 14, .inr (.inr (.inr (.inr ca))))), (sbA, .inr (0, [.ref vbA, .int (iI 0), .int (iI ml), .int (iI z)])), (vbA, .inl (cB, cp, .inl (fun j => iI (tx j))))]) (gr_S (rest := []) (ct_JY_fill_IIV l D q143 cI (Int.toNat mo) (fun _ => (0 : Int)) le H.size (by omega)) j_JY_fill_IIV k_484 hF (gm_pS hN (va_K.sub hK [2] rfl) (va_P.sub hP [4] rfl) (va_D.sub hD [4] rfl rfl) Bm_true (fun _ _ _ => trivial)) rfl rfl rfl hl.1 rfl ⟨Nat.le_of_ble_eq_true rfl, Nat.le_of_ble_eq_true rfl⟩ (Nat.le_of_ble_eq_true rfl) d_B_plug_150 ⟨(Nat.le_of_ble_eq_true rfl), (by show 0 + (Int.toNat mo) + 0 ≤ 30; omega)⟩) hP hD hS hA [4] [0, 1, 2, 3] rfl rfl rfl (by decide) (fun u150 H locs hΦ150 hz150 hP hD hS => ?_)
    have hΦ150 : ∀ j : Nat, j < (Int.toNat mo) → u150 j = le := hΦ150
    have hP : va_P D CL [(b, .inr (9, [.ref cvA, .ref jlA, .ref hbA, .ref csA, .ref sbA])), (csA, .inl (cA, 14, .inr (.inr (.inr (.inr ca))))), (sbA, .inr (0, [.ref vbA, .int (iI 0), .int (iI ml), .int (iI z)])), (vbA, .inl (cB, cp, .inl (fun j => iI (tx j)))), (q143, .inl (cI, (Int.toNat mo), .inl (fun j => iI (u150 j))))] H := hP
    have hD : va_D A [(b, .inr (9, [.ref cvA, .ref jlA, .ref hbA, .ref csA, .ref sbA])), (csA, .inl (cA, 14, .inr (.inr (.inr (.inr ca))))), (sbA, .inr (0, [.ref vbA, .int (iI 0), .int (iI ml), .int (iI z)])), (vbA, .inl (cB, cp, .inl (fun j => iI (tx j)))), (q143, .inl (cI, (Int.toNat mo), .inl (fun j => iI (u150 j))))] := hD
    refine lv_aload_n hx hb d_B_plug_153 rfl (lv_at hl 4 rfl) ?_
    refine va_get (D := D) (cl := CL) (ci := 9) (v := .ref csA) (C := "DayBook") (T := T_B) (N := 5) hx hb hts in_B hown hK hP 0 rfl rfl 3 (by decide) (hts _ k_207) (fun _ h9 => h9) rfl d_B_plug_154 ?_
    refine ai_bipush (x := 12) hx hb d_B_plug_157 (by decide +kernel) ?_
    refine lv_iload_n hx hb d_B_plug_159 rfl (lv_at hl 5 rfl) ?_
    refine ai_iadd hx hb d_B_plug_160 ?_
    refine va_new (D := D) (cl := CL) (ci := 5) (C := "DayBook$MonthCalendar") (T := T_MC) (N := 7) (fs := [.null, .null, .int (iI 0), .long (iL 0), .int (iI 0), .null, .int (iI 0)]) hx hb hts in_MC ty_MC ty_MC_ok hown (hts _ k_40) (hts _ k_41) (hts _ (gw_t 4 (by decide +kernel) (by decide +kernel))) hK hP hD hS hA rfl (by decide +kernel) (Nat.le_of_ble_eq_true rfl) (by show 0 + (Int.toNat mo) + 0 + 7 ≤ 30; omega) d_B_plug_161 (fun q161 H hP hD hS => ?_)
    have hP : va_P D CL [(b, .inr (9, [.ref cvA, .ref jlA, .ref hbA, .ref csA, .ref sbA])), (csA, .inl (cA, 14, .inr (.inr (.inr (.inr ca))))), (sbA, .inr (0, [.ref vbA, .int (iI 0), .int (iI ml), .int (iI z)])), (vbA, .inl (cB, cp, .inl (fun j => iI (tx j)))), (q143, .inl (cI, (Int.toNat mo), .inl (fun j => iI (u150 j)))), (q161, .inr (5, [.null, .null, .int (iI 0), .long (iL 0), .int (iI 0), .null, .int (iI 0)]))] H := hP
    have hD : va_D A [(b, .inr (9, [.ref cvA, .ref jlA, .ref hbA, .ref csA, .ref sbA])), (csA, .inl (cA, 14, .inr (.inr (.inr (.inr ca))))), (sbA, .inr (0, [.ref vbA, .int (iI 0), .int (iI ml), .int (iI z)])), (vbA, .inl (cB, cp, .inl (fun j => iI (tx j)))), (q143, .inl (cI, (Int.toNat mo), .inl (fun j => iI (u150 j)))), (q161, .inr (5, [.null, .null, .int (iI 0), .long (iL 0), .int (iI 0), .null, .int (iI 0)]))] := hD
    refine lv_dup hx hb d_B_plug_164 rfl ?_
    refine va_gets hx hb (hDs 0 (by decide)).1 hS hown (hts _ k_42) (fun _ h9 => h9) d_B_plug_165 ?_
    refine lv_aload hx hb d_B_plug_168 (lv_at hl 0 rfl) ?_
    refine lv_iload_n hx hb d_B_plug_170 rfl (lv_at hl 6 rfl) ?_
    refine ai_iconst hx hb d_B_plug_171 ?_
    refine ai_isub hx hb d_B_plug_172 ?_
    refine lv_iload hx hb d_B_plug_173 (lv_at hl 8 rfl) ?_
    refine ai_i2l hx hb d_B_plug_175 (by omega) ?_
    refine ai_iconst hx hb d_B_plug_176 ?_
    refine ai_toI hx hb (b := bI True) (by first | rw [bI_t trivial] | rw [bI_f (fun h9 => h9)]) ?_
    refine va_new (D := D) (cl := CL) (ci := 7) (C := "DayBook$SpreadRule") (T := T_SR) (N := 3) (fs := [.long (iL 0), .long (iL 0), .long (iL 0)]) hx hb hts in_SR ty_SR ty_SR_ok hown (hts _ k_95) (hts _ k_96) (hts _ (gw_t 7 (by decide +kernel) (by decide +kernel))) hK hP hD hS hA rfl (by decide +kernel) (Nat.le_of_ble_eq_true rfl) (by show 0 + (Int.toNat mo) + 0 + 7 + 3 ≤ 30; omega) d_B_plug_177 (fun q177 H hP hD hS => ?_)
    have hP : va_P D CL [(b, .inr (9, [.ref cvA, .ref jlA, .ref hbA, .ref csA, .ref sbA])), (csA, .inl (cA, 14, .inr (.inr (.inr (.inr ca))))), (sbA, .inr (0, [.ref vbA, .int (iI 0), .int (iI ml), .int (iI z)])), (vbA, .inl (cB, cp, .inl (fun j => iI (tx j)))), (q143, .inl (cI, (Int.toNat mo), .inl (fun j => iI (u150 j)))), (q161, .inr (5, [.null, .null, .int (iI 0), .long (iL 0), .int (iI 0), .null, .int (iI 0)])), (q177, .inr (7, [.long (iL 0), .long (iL 0), .long (iL 0)]))] H := hP
    have hD : va_D A [(b, .inr (9, [.ref cvA, .ref jlA, .ref hbA, .ref csA, .ref sbA])), (csA, .inl (cA, 14, .inr (.inr (.inr (.inr ca))))), (sbA, .inr (0, [.ref vbA, .int (iI 0), .int (iI ml), .int (iI z)])), (vbA, .inl (cB, cp, .inl (fun j => iI (tx j)))), (q143, .inl (cI, (Int.toNat mo), .inl (fun j => iI (u150 j)))), (q161, .inr (5, [.null, .null, .int (iI 0), .long (iL 0), .int (iI 0), .null, .int (iI 0)])), (q177, .inr (7, [.long (iL 0), .long (iL 0), .long (iL 0)]))] := hD
    refine lv_dup hx hb d_B_plug_180 rfl ?_
    refine lv_iload hx hb d_B_plug_181 (lv_at hl 9 rfl) ?_
    refine ai_i2l hx hb d_B_plug_183 (by omega) ?_
    refine lv_iload hx hb d_B_plug_184 (lv_at hl 10 rfl) ?_
    refine ai_i2l hx hb d_B_plug_186 (by omega) ?_
    refine lv_iload hx hb d_B_plug_187 (lv_at hl 11 rfl) ?_
    refine ai_i2l hx hb d_B_plug_189 (by omega) ?_
    refine gm_cv (wr := [(b, .inr (9, [.ref cvA, .ref jlA, .ref hbA, .ref csA, .ref sbA])), (csA, .inl (cA, 14, .inr (.inr (.inr (.inr ca))))), (sbA, .inr (0, [.ref vbA, .int (iI 0), .int (iI ml), .int (iI z)])), (vbA, .inl (cB, cp, .inl (fun j => iI (tx j)))), (q143, .inl (cI, (Int.toNat mo), .inl (fun j => iI (u150 j)))), (q161, .inr (5, [.null, .null, .int (iI 0), .long (iL 0), .int (iI 0), .null, .int (iI 0)]))]) (gr_IW (rest := [.ref q177, .int (iI (bI True)), .long (iL ep), .int (iI (mo - 1)), .ref q143, .ref (sr 0), .ref q161, .ref q161, .int (iI (12 + k)), .ref csA]) (ct_SR_init l D q177 ra rb rc H.size) j_SR_init k_98 rfl hF (gm_pS hN (va_K.sub hK [] rfl) (va_P.sub hP [6] rfl) (va_D.sub hD [6] rfl rfl) Bm_true (fun _ _ _ => trivial)) rfl rfl rfl hl.1 rfl ⟨Nat.le_of_ble_eq_true rfl, Nat.le_of_ble_eq_true rfl⟩ (Nat.le_of_ble_eq_true rfl) d_B_plug_190 ⟨(Nat.le_of_ble_eq_true rfl), (by show 0 + (Int.toNat mo) + 0 + 7 + 3 + 0 ≤ 30; omega)⟩) hP hD hS hA [6] [0, 1, 2, 3, 4, 5] rfl rfl rfl (by decide) (fun u190 H locs hΦ190 hz190 hP hD hS => ?_)
    have hΦ190 : True := hΦ190
    have hP : va_P D CL [(b, .inr (9, [.ref cvA, .ref jlA, .ref hbA, .ref csA, .ref sbA])), (csA, .inl (cA, 14, .inr (.inr (.inr (.inr ca))))), (sbA, .inr (0, [.ref vbA, .int (iI 0), .int (iI ml), .int (iI z)])), (vbA, .inl (cB, cp, .inl (fun j => iI (tx j)))), (q143, .inl (cI, (Int.toNat mo), .inl (fun j => iI (u150 j)))), (q161, .inr (5, [.null, .null, .int (iI 0), .long (iL 0), .int (iI 0), .null, .int (iI 0)])), (q177, .inr (7, [.long (iL ra), .long (iL rb), .long (iL rc)]))] H := hP
    have hD : va_D A [(b, .inr (9, [.ref cvA, .ref jlA, .ref hbA, .ref csA, .ref sbA])), (csA, .inl (cA, 14, .inr (.inr (.inr (.inr ca))))), (sbA, .inr (0, [.ref vbA, .int (iI 0), .int (iI ml), .int (iI z)])), (vbA, .inl (cB, cp, .inl (fun j => iI (tx j)))), (q143, .inl (cI, (Int.toNat mo), .inl (fun j => iI (u150 j)))), (q161, .inr (5, [.null, .null, .int (iI 0), .long (iL 0), .int (iI 0), .null, .int (iI 0)])), (q177, .inr (7, [.long (iL ra), .long (iL rb), .long (iL rc)]))] := hD
    refine gm_cv (wr := [(b, .inr (9, [.ref cvA, .ref jlA, .ref hbA, .ref csA, .ref sbA])), (csA, .inl (cA, 14, .inr (.inr (.inr (.inr ca))))), (sbA, .inr (0, [.ref vbA, .int (iI 0), .int (iI ml), .int (iI z)])), (vbA, .inl (cB, cp, .inl (fun j => iI (tx j)))), (q143, .inl (cI, (Int.toNat mo), .inl (fun j => iI (u150 j)))), (q177, .inr (7, [.long (iL ra), .long (iL rb), .long (iL rc)]))]) (gr_IW (rest := [.ref q161, .int (iI (12 + k)), .ref csA]) (ct_MC_init l D q161 (sr 0) q143 (mo - 1) ep True q177 (Int.toNat mo) u150 H.size (by omega) (fun j9 hj9 => by rw [hΦ150 j9 hj9]; omega)) j_MC_init k_62 rfl hF (gm_pS hN (va_K.sub hK [] rfl) (va_P.sub hP [5] rfl) (va_D.sub hD [5] rfl rfl) TA.m (fun U h1 h2 => TA.ofW hK hP 4 2 rfl rfl (na1 hP hD 4 5 rfl rfl (by decide)) U h1 h2)) rfl rfl rfl hl.1 rfl ⟨Nat.le_of_ble_eq_true rfl, Nat.le_of_ble_eq_true rfl⟩ (Nat.le_of_ble_eq_true rfl) d_B_plug_193 ⟨(Nat.le_of_ble_eq_true rfl), (by show 0 + (Int.toNat mo) + 0 + 7 + 3 + 0 + 0 ≤ 30; omega)⟩) hP hD hS hA [5] [0, 1, 2, 3, 4, 6] rfl rfl rfl (by decide) (fun u193 H locs hΦ193 hz193 hP hD hS => ?_)
    have hΦ193 : True := hΦ193
    have hP : va_P D CL [(b, .inr (9, [.ref cvA, .ref jlA, .ref hbA, .ref csA, .ref sbA])), (csA, .inl (cA, 14, .inr (.inr (.inr (.inr ca))))), (sbA, .inr (0, [.ref vbA, .int (iI 0), .int (iI ml), .int (iI z)])), (vbA, .inl (cB, cp, .inl (fun j => iI (tx j)))), (q143, .inl (cI, (Int.toNat mo), .inl (fun j => iI (u150 j)))), (q177, .inr (7, [.long (iL ra), .long (iL rb), .long (iL rc)])), (q161, .inr (5, [.ref (sr 0), .ref q143, .int (iI (mo - 1)), .long (iL ep), .int (iI (bI True)), .ref q177, .int (iI (cm u150 (Int.toNat mo)))]))] H := hP
    have hD : va_D A [(b, .inr (9, [.ref cvA, .ref jlA, .ref hbA, .ref csA, .ref sbA])), (csA, .inl (cA, 14, .inr (.inr (.inr (.inr ca))))), (sbA, .inr (0, [.ref vbA, .int (iI 0), .int (iI ml), .int (iI z)])), (vbA, .inl (cB, cp, .inl (fun j => iI (tx j)))), (q143, .inl (cI, (Int.toNat mo), .inl (fun j => iI (u150 j)))), (q177, .inr (7, [.long (iL ra), .long (iL rb), .long (iL rc)])), (q161, .inr (5, [.ref (sr 0), .ref q143, .int (iI (mo - 1)), .long (iL ep), .int (iI (bI True)), .ref q177, .int (iI (cm u150 (Int.toNat mo)))]))] := hD
    refine ma_qst hx hb hK hP hD hS 1 0 6 5 (E := "DayBook$Calendar") rfl rfl (hN.get 1245 (by decide +kernel) (by decide +kernel)) rfl rfl (by omega) (by decide) d_B_plug_196 (fun H locs hP hD hS => ?_)
    have hP : va_P D CL [(b, .inr (9, [.ref cvA, .ref jlA, .ref hbA, .ref csA, .ref sbA])), (csA, .inl (cA, 14, .inr (.inr (.inr (.inr (va_up ca (Int.toNat (12 + k)) (some q161))))))), (sbA, .inr (0, [.ref vbA, .int (iI 0), .int (iI ml), .int (iI z)])), (vbA, .inl (cB, cp, .inl (fun j => iI (tx j)))), (q143, .inl (cI, (Int.toNat mo), .inl (fun j => iI (u150 j)))), (q177, .inr (7, [.long (iL ra), .long (iL rb), .long (iL rc)])), (q161, .inr (5, [.ref (sr 0), .ref q143, .int (iI (mo - 1)), .long (iL ep), .int (iI (bI True)), .ref q177, .int (iI (cm u150 (Int.toNat mo)))]))] H := hP
    have hD : va_D A [(b, .inr (9, [.ref cvA, .ref jlA, .ref hbA, .ref csA, .ref sbA])), (csA, .inl (cA, 14, .inr (.inr (.inr (.inr (va_up ca (Int.toNat (12 + k)) (some q161))))))), (sbA, .inr (0, [.ref vbA, .int (iI 0), .int (iI ml), .int (iI z)])), (vbA, .inl (cB, cp, .inl (fun j => iI (tx j)))), (q143, .inl (cI, (Int.toNat mo), .inl (fun j => iI (u150 j)))), (q177, .inr (7, [.long (iL ra), .long (iL rb), .long (iL rc)])), (q161, .inr (5, [.ref (sr 0), .ref q143, .int (iI (mo - 1)), .long (iL ep), .int (iI (bI True)), .ref q177, .int (iI (cm u150 (Int.toNat mo)))]))] := hD
    refine lv_iload hx hb d_B_plug_197 (lv_at hl 1 rfl) ?_
    exact gm_zret (q143, q161, q177, u150) hx hb hr hlk d_B_plug_199 hP hD hS (Nat.le_of_ble_eq_true rfl) (by show 0 + (Int.toNat mo) + 0 + 7 + 3 + 0 + 0 ≤ 30; omega) (by decide) (by first | exact (bI_t (by simp)).symm | exact (bI_f (by simp)).symm) (show ∀ j : Nat, j < Int.toNat mo → u150 j = le from hΦ150)
  | some q9 =>
    refine lv_ifnull hx hb d_B_plug_132 ?_
    refine ai_iconst hx hb d_B_plug_135 ?_
    refine lv_goto hx hb d_B_plug_136 rfl ?_
    refine lv_istore (lv' := [(10, .int (iI 1)), (9, .int (iI 1)), (8, .int (iI 1)), (0, .ref b), (1, .int (iI k)), (2, .int (iI mo)), (3, .int (iI le)), (4, .int (iI ep)), (5, .int (iI ra)), (6, .int (iI rb)), (7, .int (iI rc))]) hx hb d_B_plug_140 hl (by decide) rfl (fun ls hl => ?_)
    refine lv_iload_n hx hb d_B_plug_142 rfl (lv_at hl 5 rfl) ?_
    refine gm_nw hx hb hts (ty := .int) rfl k_487 (by decide +kernel) (by decide) (fun _ h9 => va_nm_int h9) hK hP hD hS hA 2 rfl (Int.toNat mo) (by omega) (by omega) (Nat.le_of_ble_eq_true rfl) (by show 0 + (Int.toNat mo) ≤ 30; omega) d_B_plug_143 (fun q143 H hP hD hS => ?_)
    have hP : va_P D CL [(b, .inr (9, [.ref cvA, .ref jlA, .ref hbA, .ref csA, .ref sbA])), (csA, .inl (cA, 14, .inr (.inr (.inr (.inr ca))))), (sbA, .inr (0, [.ref vbA, .int (iI 0), .int (iI ml), .int (iI z)])), (vbA, .inl (cB, cp, .inl (fun j => iI (tx j)))), (q143, .inl (cI, (Int.toNat mo), .inl (fun j => iI ((fun _ => (0 : Int)) j))))] H := hP
    have hD : va_D A [(b, .inr (9, [.ref cvA, .ref jlA, .ref hbA, .ref csA, .ref sbA])), (csA, .inl (cA, 14, .inr (.inr (.inr (.inr ca))))), (sbA, .inr (0, [.ref vbA, .int (iI 0), .int (iI ml), .int (iI z)])), (vbA, .inl (cB, cp, .inl (fun j => iI (tx j)))), (q143, .inl (cI, (Int.toNat mo), .inl (fun j => iI ((fun _ => (0 : Int)) j))))] := hD
    refine lv_astore (lv' := [(11, .ref q143), (10, .int (iI 1)), (9, .int (iI 1)), (8, .int (iI 1)), (0, .ref b), (1, .int (iI k)), (2, .int (iI mo)), (3, .int (iI le)), (4, .int (iI ep)), (5, .int (iI ra)), (6, .int (iI rb)), (7, .int (iI rc))]) hx hb d_B_plug_145 hl (by decide) rfl (fun ls hl => ?_)
    refine lv_aload hx hb d_B_plug_147 (lv_at hl 0 rfl) ?_
    refine lv_iload_n hx hb d_B_plug_149 rfl (lv_at hl 7 rfl) ?_
    refine gm_cv (wr := [(b, .inr (9, [.ref cvA, .ref jlA, .ref hbA, .ref csA, .ref sbA])), (csA, .inl (cA, 14, .inr (.inr (.inr (.inr ca))))), (sbA, .inr (0, [.ref vbA, .int (iI 0), .int (iI ml), .int (iI z)])), (vbA, .inl (cB, cp, .inl (fun j => iI (tx j))))]) (gr_S (rest := []) (ct_JY_fill_IIV l D q143 cI (Int.toNat mo) (fun _ => (0 : Int)) le H.size (by omega)) j_JY_fill_IIV k_484 hF (gm_pS hN (va_K.sub hK [2] rfl) (va_P.sub hP [4] rfl) (va_D.sub hD [4] rfl rfl) Bm_true (fun _ _ _ => trivial)) rfl rfl rfl hl.1 rfl ⟨Nat.le_of_ble_eq_true rfl, Nat.le_of_ble_eq_true rfl⟩ (Nat.le_of_ble_eq_true rfl) d_B_plug_150 ⟨(Nat.le_of_ble_eq_true rfl), (by show 0 + (Int.toNat mo) + 0 ≤ 30; omega)⟩) hP hD hS hA [4] [0, 1, 2, 3] rfl rfl rfl (by decide) (fun u150 H locs hΦ150 hz150 hP hD hS => ?_)
    have hΦ150 : ∀ j : Nat, j < (Int.toNat mo) → u150 j = le := hΦ150
    have hP : va_P D CL [(b, .inr (9, [.ref cvA, .ref jlA, .ref hbA, .ref csA, .ref sbA])), (csA, .inl (cA, 14, .inr (.inr (.inr (.inr ca))))), (sbA, .inr (0, [.ref vbA, .int (iI 0), .int (iI ml), .int (iI z)])), (vbA, .inl (cB, cp, .inl (fun j => iI (tx j)))), (q143, .inl (cI, (Int.toNat mo), .inl (fun j => iI (u150 j))))] H := hP
    have hD : va_D A [(b, .inr (9, [.ref cvA, .ref jlA, .ref hbA, .ref csA, .ref sbA])), (csA, .inl (cA, 14, .inr (.inr (.inr (.inr ca))))), (sbA, .inr (0, [.ref vbA, .int (iI 0), .int (iI ml), .int (iI z)])), (vbA, .inl (cB, cp, .inl (fun j => iI (tx j)))), (q143, .inl (cI, (Int.toNat mo), .inl (fun j => iI (u150 j))))] := hD
    refine lv_aload_n hx hb d_B_plug_153 rfl (lv_at hl 4 rfl) ?_
    refine va_get (D := D) (cl := CL) (ci := 9) (v := .ref csA) (C := "DayBook") (T := T_B) (N := 5) hx hb hts in_B hown hK hP 0 rfl rfl 3 (by decide) (hts _ k_207) (fun _ h9 => h9) rfl d_B_plug_154 ?_
    refine ai_bipush (x := 12) hx hb d_B_plug_157 (by decide +kernel) ?_
    refine lv_iload_n hx hb d_B_plug_159 rfl (lv_at hl 5 rfl) ?_
    refine ai_iadd hx hb d_B_plug_160 ?_
    refine va_new (D := D) (cl := CL) (ci := 5) (C := "DayBook$MonthCalendar") (T := T_MC) (N := 7) (fs := [.null, .null, .int (iI 0), .long (iL 0), .int (iI 0), .null, .int (iI 0)]) hx hb hts in_MC ty_MC ty_MC_ok hown (hts _ k_40) (hts _ k_41) (hts _ (gw_t 4 (by decide +kernel) (by decide +kernel))) hK hP hD hS hA rfl (by decide +kernel) (Nat.le_of_ble_eq_true rfl) (by show 0 + (Int.toNat mo) + 0 + 7 ≤ 30; omega) d_B_plug_161 (fun q161 H hP hD hS => ?_)
    have hP : va_P D CL [(b, .inr (9, [.ref cvA, .ref jlA, .ref hbA, .ref csA, .ref sbA])), (csA, .inl (cA, 14, .inr (.inr (.inr (.inr ca))))), (sbA, .inr (0, [.ref vbA, .int (iI 0), .int (iI ml), .int (iI z)])), (vbA, .inl (cB, cp, .inl (fun j => iI (tx j)))), (q143, .inl (cI, (Int.toNat mo), .inl (fun j => iI (u150 j)))), (q161, .inr (5, [.null, .null, .int (iI 0), .long (iL 0), .int (iI 0), .null, .int (iI 0)]))] H := hP
    have hD : va_D A [(b, .inr (9, [.ref cvA, .ref jlA, .ref hbA, .ref csA, .ref sbA])), (csA, .inl (cA, 14, .inr (.inr (.inr (.inr ca))))), (sbA, .inr (0, [.ref vbA, .int (iI 0), .int (iI ml), .int (iI z)])), (vbA, .inl (cB, cp, .inl (fun j => iI (tx j)))), (q143, .inl (cI, (Int.toNat mo), .inl (fun j => iI (u150 j)))), (q161, .inr (5, [.null, .null, .int (iI 0), .long (iL 0), .int (iI 0), .null, .int (iI 0)]))] := hD
    refine lv_dup hx hb d_B_plug_164 rfl ?_
    refine va_gets hx hb (hDs 0 (by decide)).1 hS hown (hts _ k_42) (fun _ h9 => h9) d_B_plug_165 ?_
    refine lv_aload hx hb d_B_plug_168 (lv_at hl 0 rfl) ?_
    refine lv_iload_n hx hb d_B_plug_170 rfl (lv_at hl 6 rfl) ?_
    refine ai_iconst hx hb d_B_plug_171 ?_
    refine ai_isub hx hb d_B_plug_172 ?_
    refine lv_iload hx hb d_B_plug_173 (lv_at hl 8 rfl) ?_
    refine ai_i2l hx hb d_B_plug_175 (by omega) ?_
    refine ai_iconst hx hb d_B_plug_176 ?_
    refine ai_toI hx hb (b := bI True) (by first | rw [bI_t trivial] | rw [bI_f (fun h9 => h9)]) ?_
    refine va_new (D := D) (cl := CL) (ci := 7) (C := "DayBook$SpreadRule") (T := T_SR) (N := 3) (fs := [.long (iL 0), .long (iL 0), .long (iL 0)]) hx hb hts in_SR ty_SR ty_SR_ok hown (hts _ k_95) (hts _ k_96) (hts _ (gw_t 7 (by decide +kernel) (by decide +kernel))) hK hP hD hS hA rfl (by decide +kernel) (Nat.le_of_ble_eq_true rfl) (by show 0 + (Int.toNat mo) + 0 + 7 + 3 ≤ 30; omega) d_B_plug_177 (fun q177 H hP hD hS => ?_)
    have hP : va_P D CL [(b, .inr (9, [.ref cvA, .ref jlA, .ref hbA, .ref csA, .ref sbA])), (csA, .inl (cA, 14, .inr (.inr (.inr (.inr ca))))), (sbA, .inr (0, [.ref vbA, .int (iI 0), .int (iI ml), .int (iI z)])), (vbA, .inl (cB, cp, .inl (fun j => iI (tx j)))), (q143, .inl (cI, (Int.toNat mo), .inl (fun j => iI (u150 j)))), (q161, .inr (5, [.null, .null, .int (iI 0), .long (iL 0), .int (iI 0), .null, .int (iI 0)])), (q177, .inr (7, [.long (iL 0), .long (iL 0), .long (iL 0)]))] H := hP
    have hD : va_D A [(b, .inr (9, [.ref cvA, .ref jlA, .ref hbA, .ref csA, .ref sbA])), (csA, .inl (cA, 14, .inr (.inr (.inr (.inr ca))))), (sbA, .inr (0, [.ref vbA, .int (iI 0), .int (iI ml), .int (iI z)])), (vbA, .inl (cB, cp, .inl (fun j => iI (tx j)))), (q143, .inl (cI, (Int.toNat mo), .inl (fun j => iI (u150 j)))), (q161, .inr (5, [.null, .null, .int (iI 0), .long (iL 0), .int (iI 0), .null, .int (iI 0)])), (q177, .inr (7, [.long (iL 0), .long (iL 0), .long (iL 0)]))] := hD
    refine lv_dup hx hb d_B_plug_180 rfl ?_
    refine lv_iload hx hb d_B_plug_181 (lv_at hl 9 rfl) ?_
    refine ai_i2l hx hb d_B_plug_183 (by omega) ?_
    refine lv_iload hx hb d_B_plug_184 (lv_at hl 10 rfl) ?_
    refine ai_i2l hx hb d_B_plug_186 (by omega) ?_
    refine lv_iload hx hb d_B_plug_187 (lv_at hl 11 rfl) ?_
    refine ai_i2l hx hb d_B_plug_189 (by omega) ?_
    refine gm_cv (wr := [(b, .inr (9, [.ref cvA, .ref jlA, .ref hbA, .ref csA, .ref sbA])), (csA, .inl (cA, 14, .inr (.inr (.inr (.inr ca))))), (sbA, .inr (0, [.ref vbA, .int (iI 0), .int (iI ml), .int (iI z)])), (vbA, .inl (cB, cp, .inl (fun j => iI (tx j)))), (q143, .inl (cI, (Int.toNat mo), .inl (fun j => iI (u150 j)))), (q161, .inr (5, [.null, .null, .int (iI 0), .long (iL 0), .int (iI 0), .null, .int (iI 0)]))]) (gr_IW (rest := [.ref q177, .int (iI (bI True)), .long (iL ep), .int (iI (mo - 1)), .ref q143, .ref (sr 0), .ref q161, .ref q161, .int (iI (12 + k)), .ref csA]) (ct_SR_init l D q177 ra rb rc H.size) j_SR_init k_98 rfl hF (gm_pS hN (va_K.sub hK [] rfl) (va_P.sub hP [6] rfl) (va_D.sub hD [6] rfl rfl) Bm_true (fun _ _ _ => trivial)) rfl rfl rfl hl.1 rfl ⟨Nat.le_of_ble_eq_true rfl, Nat.le_of_ble_eq_true rfl⟩ (Nat.le_of_ble_eq_true rfl) d_B_plug_190 ⟨(Nat.le_of_ble_eq_true rfl), (by show 0 + (Int.toNat mo) + 0 + 7 + 3 + 0 ≤ 30; omega)⟩) hP hD hS hA [6] [0, 1, 2, 3, 4, 5] rfl rfl rfl (by decide) (fun u190 H locs hΦ190 hz190 hP hD hS => ?_)
    have hΦ190 : True := hΦ190
    have hP : va_P D CL [(b, .inr (9, [.ref cvA, .ref jlA, .ref hbA, .ref csA, .ref sbA])), (csA, .inl (cA, 14, .inr (.inr (.inr (.inr ca))))), (sbA, .inr (0, [.ref vbA, .int (iI 0), .int (iI ml), .int (iI z)])), (vbA, .inl (cB, cp, .inl (fun j => iI (tx j)))), (q143, .inl (cI, (Int.toNat mo), .inl (fun j => iI (u150 j)))), (q161, .inr (5, [.null, .null, .int (iI 0), .long (iL 0), .int (iI 0), .null, .int (iI 0)])), (q177, .inr (7, [.long (iL ra), .long (iL rb), .long (iL rc)]))] H := hP
    have hD : va_D A [(b, .inr (9, [.ref cvA, .ref jlA, .ref hbA, .ref csA, .ref sbA])), (csA, .inl (cA, 14, .inr (.inr (.inr (.inr ca))))), (sbA, .inr (0, [.ref vbA, .int (iI 0), .int (iI ml), .int (iI z)])), (vbA, .inl (cB, cp, .inl (fun j => iI (tx j)))), (q143, .inl (cI, (Int.toNat mo), .inl (fun j => iI (u150 j)))), (q161, .inr (5, [.null, .null, .int (iI 0), .long (iL 0), .int (iI 0), .null, .int (iI 0)])), (q177, .inr (7, [.long (iL ra), .long (iL rb), .long (iL rc)]))] := hD
    refine gm_cv (wr := [(b, .inr (9, [.ref cvA, .ref jlA, .ref hbA, .ref csA, .ref sbA])), (csA, .inl (cA, 14, .inr (.inr (.inr (.inr ca))))), (sbA, .inr (0, [.ref vbA, .int (iI 0), .int (iI ml), .int (iI z)])), (vbA, .inl (cB, cp, .inl (fun j => iI (tx j)))), (q143, .inl (cI, (Int.toNat mo), .inl (fun j => iI (u150 j)))), (q177, .inr (7, [.long (iL ra), .long (iL rb), .long (iL rc)]))]) (gr_IW (rest := [.ref q161, .int (iI (12 + k)), .ref csA]) (ct_MC_init l D q161 (sr 0) q143 (mo - 1) ep True q177 (Int.toNat mo) u150 H.size (by omega) (fun j9 hj9 => by rw [hΦ150 j9 hj9]; omega)) j_MC_init k_62 rfl hF (gm_pS hN (va_K.sub hK [] rfl) (va_P.sub hP [5] rfl) (va_D.sub hD [5] rfl rfl) TA.m (fun U h1 h2 => TA.ofW hK hP 4 2 rfl rfl (na1 hP hD 4 5 rfl rfl (by decide)) U h1 h2)) rfl rfl rfl hl.1 rfl ⟨Nat.le_of_ble_eq_true rfl, Nat.le_of_ble_eq_true rfl⟩ (Nat.le_of_ble_eq_true rfl) d_B_plug_193 ⟨(Nat.le_of_ble_eq_true rfl), (by show 0 + (Int.toNat mo) + 0 + 7 + 3 + 0 + 0 ≤ 30; omega)⟩) hP hD hS hA [5] [0, 1, 2, 3, 4, 6] rfl rfl rfl (by decide) (fun u193 H locs hΦ193 hz193 hP hD hS => ?_)
    have hΦ193 : True := hΦ193
    have hP : va_P D CL [(b, .inr (9, [.ref cvA, .ref jlA, .ref hbA, .ref csA, .ref sbA])), (csA, .inl (cA, 14, .inr (.inr (.inr (.inr ca))))), (sbA, .inr (0, [.ref vbA, .int (iI 0), .int (iI ml), .int (iI z)])), (vbA, .inl (cB, cp, .inl (fun j => iI (tx j)))), (q143, .inl (cI, (Int.toNat mo), .inl (fun j => iI (u150 j)))), (q177, .inr (7, [.long (iL ra), .long (iL rb), .long (iL rc)])), (q161, .inr (5, [.ref (sr 0), .ref q143, .int (iI (mo - 1)), .long (iL ep), .int (iI (bI True)), .ref q177, .int (iI (cm u150 (Int.toNat mo)))]))] H := hP
    have hD : va_D A [(b, .inr (9, [.ref cvA, .ref jlA, .ref hbA, .ref csA, .ref sbA])), (csA, .inl (cA, 14, .inr (.inr (.inr (.inr ca))))), (sbA, .inr (0, [.ref vbA, .int (iI 0), .int (iI ml), .int (iI z)])), (vbA, .inl (cB, cp, .inl (fun j => iI (tx j)))), (q143, .inl (cI, (Int.toNat mo), .inl (fun j => iI (u150 j)))), (q177, .inr (7, [.long (iL ra), .long (iL rb), .long (iL rc)])), (q161, .inr (5, [.ref (sr 0), .ref q143, .int (iI (mo - 1)), .long (iL ep), .int (iI (bI True)), .ref q177, .int (iI (cm u150 (Int.toNat mo)))]))] := hD
    refine ma_qst hx hb hK hP hD hS 1 0 6 5 (E := "DayBook$Calendar") rfl rfl (hN.get 1245 (by decide +kernel) (by decide +kernel)) rfl rfl (by omega) (by decide) d_B_plug_196 (fun H locs hP hD hS => ?_)
    have hP : va_P D CL [(b, .inr (9, [.ref cvA, .ref jlA, .ref hbA, .ref csA, .ref sbA])), (csA, .inl (cA, 14, .inr (.inr (.inr (.inr (va_up ca (Int.toNat (12 + k)) (some q161))))))), (sbA, .inr (0, [.ref vbA, .int (iI 0), .int (iI ml), .int (iI z)])), (vbA, .inl (cB, cp, .inl (fun j => iI (tx j)))), (q143, .inl (cI, (Int.toNat mo), .inl (fun j => iI (u150 j)))), (q177, .inr (7, [.long (iL ra), .long (iL rb), .long (iL rc)])), (q161, .inr (5, [.ref (sr 0), .ref q143, .int (iI (mo - 1)), .long (iL ep), .int (iI (bI True)), .ref q177, .int (iI (cm u150 (Int.toNat mo)))]))] H := hP
    have hD : va_D A [(b, .inr (9, [.ref cvA, .ref jlA, .ref hbA, .ref csA, .ref sbA])), (csA, .inl (cA, 14, .inr (.inr (.inr (.inr (va_up ca (Int.toNat (12 + k)) (some q161))))))), (sbA, .inr (0, [.ref vbA, .int (iI 0), .int (iI ml), .int (iI z)])), (vbA, .inl (cB, cp, .inl (fun j => iI (tx j)))), (q143, .inl (cI, (Int.toNat mo), .inl (fun j => iI (u150 j)))), (q177, .inr (7, [.long (iL ra), .long (iL rb), .long (iL rc)])), (q161, .inr (5, [.ref (sr 0), .ref q143, .int (iI (mo - 1)), .long (iL ep), .int (iI (bI True)), .ref q177, .int (iI (cm u150 (Int.toNat mo)))]))] := hD
    refine lv_iload hx hb d_B_plug_197 (lv_at hl 1 rfl) ?_
    exact gm_zret (q143, q161, q177, u150) hx hb hr hlk d_B_plug_199 hP hD hS (Nat.le_of_ble_eq_true rfl) (by show 0 + (Int.toNat mo) + 0 + 7 + 3 + 0 + 0 ≤ 30; omega) (by decide) (by first | exact (bI_t (by simp)).symm | exact (bI_f (by simp)).symm) (show ∀ j : Nat, j < Int.toNat mo → u150 j = le from hΦ150)
