/-! 51.bookD: laid by program (wip/whole) -/
theorem mt1 {f1 l1 : Int} {fr : Int → Int} {t : Int} (h : f1 ≤ fr t ∧ fr t ≤ l1) : mtW (fun t => bI (f1 ≤ fr t ∧ fr t ≤ l1)) (fun _ => 0) 1 0 t := by
  refine And.intro ?_ rfl
  exact bI_t h
theorem mt0 {f1 l1 : Int} {fr : Int → Int} {t : Int} (h : ¬ (f1 ≤ fr t ∧ fr t ≤ l1)) : ¬ mtW (fun t => bI (f1 ≤ fr t ∧ fr t ≤ l1)) (fun _ => 0) 1 0 t := fun q => by
  have q1 : bI (f1 ≤ fr t ∧ fr t ≤ l1) = 1 := q.1
  rw [bI_f h] at q1
  omega
set_option maxHeartbeats 4000000 in
set_option maxRecDepth 100000 in
theorem ct_B_when_n (l : Launch) (hfl : l.flags = pinnedFlags ++ [noTraceFlag]) (D : va_G) (b : Nat) (cvA : Nat) (jlA : Nat) (hbA : Nat) (csA : Nat) (sbA : Nat) (vbA : Nat) (cA : ClassId) (cB : ClassId) (ca : Nat → Option Nat) (N : Nat) (z : Int) (ml : Int) (tx : Nat → Int) (cal : Int) (mn : Int) (dd : Int) (y : Int) (k : Int) (r_cal : -2147483648 ≤ cal ∧ cal ≤ 2147483647) (r_mn : -2147483648 ≤ mn ∧ mn ≤ 2147483647) (r_dd : -2147483648 ≤ dd ∧ dd ≤ 2147483647) (r_y : -2147483648 ≤ y ∧ y ≤ 2147483647) (r_k : -2147483648 ≤ k ∧ k ≤ 2147483647) (hcn : CN ca cal) : MetX l y_B_when w_B_when ({ frames := 6, cells := 1, slots := 6, locals := 152 }) (va_Pc [.ref b, .int (iI cal), .int (iI mn), .int (iI dd), .int (iI y), .int (iI k)] (fun U => NV U ∧ (fun U => BkB D b cvA jlA hbA csA sbA vbA cA cB ca N z ml tx U ∧ TSt U) U)) "java/lang/IndexOutOfBoundsException" 1 6 := by
  refine xt_of hfl (by decide +kernel) (Nat.le_of_ble_eq_true rfl) ?_
  intro p e s m below meth c ls htr hxt hx hb hr hts hown hlk hml hl hN hB
  have hown : s.vm.findClass "DayBook" = some m.cls := hown
  have hl : lv_has ls 16 [(0, .ref b), (1, .int (iI cal)), (2, .int (iI mn)), (3, .int (iI dd)), (4, .int (iI y)), (5, .int (iI k))] := hl
  have hF : _ ∧ _ ∧ _ ∧ _ ∧ _ ∧ _ := ⟨hx, hb, hml, hown, hts, hN⟩
  obtain ⟨hBk, hT⟩ := hB
  have hK := hBk.1
  have hP := hBk.2
  refine lv_aload_n hx hb d_B_when_0 rfl (lv_at hl 0 rfl) ?_
  refine lv_iload_n hx hb d_B_when_1 rfl (lv_at hl 1 rfl) ?_
  refine ro_V (rest := []) (ct_B_calendarAt_n l D b cvA jlA hbA csA sbA vbA cA cB ca N z ml tx cal (by omega) hcn) j_B_calendarAt k_496 (hts _ s_B_calendarAt) hF hBk.recv rfl hl.1 rfl ⟨Nat.le_of_ble_eq_true rfl, Nat.le_of_ble_eq_true rfl⟩ (Nat.le_of_ble_eq_true rfl) d_B_when_2 ⟨Nat.zero_le _, Nat.zero_le _⟩ BkB.m (fun U h1 h2 => BkB.m.2 s U h1 h2 hBk) ?_
  refine lv_astoreN (lv' := [(6, .null), (0, .ref b), (1, .int (iI cal)), (2, .int (iI mn)), (3, .int (iI dd)), (4, .int (iI y)), (5, .int (iI k))]) hx hb d_B_when_5 hl (by decide) rfl (fun ls hl => ?_)
  refine lv_aloadN hx hb d_B_when_7 (lv_at hl 0 rfl) ?_
  refine lv_ifnonnullN hx hb d_B_when_9 ?_
  exact xt_throw hx hb htr hown hts hN hT hxt hlk (hl.1.trans hml.symm) xok_IX d_B_when_12 d_B_when_15 d_B_when_16 d_B_when_19 (Nat.le_of_ble_eq_true rfl) (Nat.le_of_ble_eq_true rfl) (Nat.le_of_ble_eq_true rfl) (Nat.le_of_ble_eq_true rfl)
set_option maxHeartbeats 4000000 in
set_option maxRecDepth 100000 in
theorem ct_B_when_a (l : Launch) (hfl : l.flags = pinnedFlags ++ [noTraceFlag]) (D : va_G) (b : Nat) (cvA : Nat) (jlA : Nat) (hbA : Nat) (csA : Nat) (sbA : Nat) (vbA : Nat) (cA : ClassId) (cB : ClassId) (ca : Nat → Option Nat) (N : Nat) (z : Int) (ml : Int) (tx : Nat → Int) (cal : Int) (mn : Int) (dd : Int) (y : Int) (k : Int) (q : Nat) (r_cal : -2147483648 ≤ cal ∧ cal ≤ 2147483647) (r_mn : -2147483648 ≤ mn ∧ mn ≤ 2147483647) (r_dd : -2147483648 ≤ dd ∧ dd ≤ 2147483647) (r_y : -2147483648 ≤ y ∧ y ≤ 2147483647) (r_k : -2147483648 ≤ k ∧ k ≤ 2147483647) (hcs : CS ca cal q) (hyr : ¬ (-90000 ≤ y ∧ y ≤ 90000)) : MetX l y_B_when w_B_when ({ frames := 6, cells := 1, slots := 6, locals := 152 }) (va_Pc [.ref b, .int (iI cal), .int (iI mn), .int (iI dd), .int (iI y), .int (iI k)] (fun U => NV U ∧ (fun U => BkB D b cvA jlA hbA csA sbA vbA cA cB ca N z ml tx U ∧ TSt U) U)) "java/lang/ArithmeticException" 1 6 := by
  refine xt_of hfl (by decide +kernel) (Nat.le_of_ble_eq_true rfl) ?_
  intro p e s m below meth c ls htr hxt hx hb hr hts hown hlk hml hl hN hB
  have hown : s.vm.findClass "DayBook" = some m.cls := hown
  have hl : lv_has ls 16 [(0, .ref b), (1, .int (iI cal)), (2, .int (iI mn)), (3, .int (iI dd)), (4, .int (iI y)), (5, .int (iI k))] := hl
  have hF : _ ∧ _ ∧ _ ∧ _ ∧ _ ∧ _ := ⟨hx, hb, hml, hown, hts, hN⟩
  obtain ⟨hBk, hT⟩ := hB
  have hK := hBk.1
  have hP := hBk.2
  refine lv_aload_n hx hb d_B_when_0 rfl (lv_at hl 0 rfl) ?_
  refine lv_iload_n hx hb d_B_when_1 rfl (lv_at hl 1 rfl) ?_
  refine ro_V (rest := []) (ct_B_calendarAt_s l D b cvA jlA hbA csA sbA vbA cA cB ca N z ml tx cal q (by omega) hcs) j_B_calendarAt k_496 (hts _ s_B_calendarAt) hF hBk.recv rfl hl.1 rfl ⟨Nat.le_of_ble_eq_true rfl, Nat.le_of_ble_eq_true rfl⟩ (Nat.le_of_ble_eq_true rfl) d_B_when_2 ⟨Nat.zero_le _, Nat.zero_le _⟩ BkB.m (fun U h1 h2 => BkB.m.2 s U h1 h2 hBk) ?_
  refine lv_astore (lv' := [(6, .ref q), (0, .ref b), (1, .int (iI cal)), (2, .int (iI mn)), (3, .int (iI dd)), (4, .int (iI y)), (5, .int (iI k))]) hx hb d_B_when_5 hl (by decide) rfl (fun ls hl => ?_)
  refine lv_aload hx hb d_B_when_7 (lv_at hl 0 rfl) ?_
  refine lv_ifnonnull hx hb d_B_when_9 rfl ?_
  refine lv_iload hx hb d_B_when_20 (lv_at hl 5 rfl) ?_
  refine ai_ldc (x := 90000) hx hb hown (hts _ k_811) (by decide +kernel) d_B_when_22 ?_
  refine ro_S (rest := []) (ct_B_isWithin l y 90000 (by omega) (by omega)) j_B_isWithin k_701 hF rfl hl.1 rfl ⟨Nat.le_of_ble_eq_true rfl, Nat.le_of_ble_eq_true rfl⟩ (Nat.le_of_ble_eq_true rfl) d_B_when_24 ⟨Nat.zero_le _, Nat.zero_le _⟩ Bm_true (fun _ _ _ => trivial) ?_
  refine ai_ifneB hx hb d_B_when_27 rfl (fun h27 => absurd h27 hyr) (fun h27 => ?_)
  exact xt_throw hx hb htr hown hts hN hT hxt hlk (hl.1.trans hml.symm) xok_AR d_B_when_30 d_B_when_33 d_B_when_34 d_B_when_37 (Nat.le_of_ble_eq_true rfl) (Nat.le_of_ble_eq_true rfl) (Nat.le_of_ble_eq_true rfl) (Nat.le_of_ble_eq_true rfl)
set_option maxHeartbeats 4000000 in
set_option maxRecDepth 100000 in
theorem ct_B_when (l : Launch) (D : va_G) (b : Nat) (cvA : Nat) (jlA : Nat) (hbA : Nat) (csA : Nat) (sbA : Nat) (vbA : Nat) (cA : ClassId) (cB : ClassId) (ca : Nat → Option Nat) (N : Nat) (z : Int) (ml : Int) (tx : Nat → Int) (cal : Int) (mn : Int) (dd : Int) (y : Int) (k : Int) (q : Nat) (DT : Int → Int → Prop) (DR : Int → Int → Int → Int → Prop) (hy : Int → Prop) (S : Int → Int) (nm : Int → Int) (ma : Int → Int → Int) (la : Int → Int → Int) (co : Int → Int) (ya : Int → Int) (hy2 : Int → Prop) (fr : Int → Int) (xf : Int) (xl : Int) (tt : Int) (x : Int) (r_cal : -2147483648 ≤ cal ∧ cal ≤ 2147483647) (r_mn : -2147483648 ≤ mn ∧ mn ≤ 2147483647) (r_dd : -2147483648 ≤ dd ∧ dd ≤ 2147483647) (r_y : -2147483648 ≤ y ∧ y ≤ 2147483647) (r_k : -2147483648 ≤ k ∧ k ≤ 2147483647) (hcs : CS ca cal q) (hyr : -90000 ≤ y ∧ y ≤ 90000) (rS : (-34000000 ≤ S y ∧ S y ≤ 34000000) ∧ (-34000000 ≤ S (y + 1) ∧ S (y + 1) ≤ 34000000)) (hxf : DT (S y) xf) (hxl : DT (S (y + 1) - 1) xl) (rxf : -50000000 ≤ xf / 65536 ∧ xf / 65536 ≤ 50000000) (rxl : -50000000 ≤ xl / 65536 ∧ xl / 65536 ≤ 50000000) (rx2 : (-4000000000000 ≤ xf ∧ xf ≤ 4000000000000) ∧ (-4000000000000 ≤ xl ∧ xl ≤ 4000000000000)) (hfr : ∀ t, xf / 65536 ≤ t → t ≤ xl / 65536 → DR t mn dd (fr t) ∧ -9223372036854775808 ≤ fr t ∧ fr t ≤ 9223372036854775807) (hwh : WHM (fun t => bI (S y ≤ fr t ∧ fr t ≤ S (y + 1) - 1)) (fun _ => 0) 1 0 (xf / 65536) (xl / 65536 + 1) k tt) (hxx : (tt = -2147483648 ∧ x = -2147483648) ∨ (tt ≠ -2147483648 ∧ x = fr tt)) (hle : xl / 65536 ≤ xf / 65536 + 400) : RO l y_B_when w_B_when 6 152 [.ref b, .int (iI cal), .int (iI mn), .int (iI dd), .int (iI y), .int (iI k)] (fun U => BkB D b cvA jlA hbA csA sbA vbA cA cB ca N z ml tx U ∧ CAL D q DT DR hy U ∧ MCP D cvA S nm ma la co ya hy2 U) (.int (iI x)) := by
  refine ro_of (by decide +kernel) (Nat.le_of_ble_eq_true rfl) ?_
  intro p e s m below meth c ls hx hb hr hts hown hlk hml hl hN hB
  have hown : s.vm.findClass "DayBook" = some m.cls := hown
  have hl : lv_has ls 16 [(0, .ref b), (1, .int (iI cal)), (2, .int (iI mn)), (3, .int (iI dd)), (4, .int (iI y)), (5, .int (iI k))] := hl
  have hF : _ ∧ _ ∧ _ ∧ _ ∧ _ ∧ _ := ⟨hx, hb, hml, hown, hts, hN⟩
  obtain ⟨hBk, hC, hCv⟩ := hB
  have hK := hBk.1
  have hP := hBk.2
  have hJ93 : ∀ (N : Nat) (yy : Int) (sn : Int) (f1 : Int) (l1 : Int) (ly : Int) (ls : Array Slot), lv_has ls 16 [(13, .int (iI yy)), (12, .int (iI sn)), (11, .int (iI ly)), (9, .long (iL l1)), (7, .long (iL f1)), (6, .ref q), (0, .ref b), (2, .int (iI mn)), (3, .int (iI dd)), (5, .int (iI k))] → (f1 = S y) → (l1 = S (y + 1) - 1) → (ly = xl / 65536) → (xf / 65536 ≤ yy ∧ (yy ≤ xl / 65536 + 1 ∨ yy = xf / 65536)) → (sn = cnW (fun t => bI (S y ≤ fr t ∧ fr t ≤ S (y + 1) - 1)) (fun _ => 0) 1 0 (xf / 65536) (yy - xf / 65536).toNat) → (∀ t : Int, xf / 65536 ≤ t → t < yy → mtW (fun t => bI (S y ≤ fr t ∧ fr t ≤ S (y + 1) - 1)) (fun _ => 0) 1 0 t → cnW (fun t => bI (S y ≤ fr t ∧ fr t ≤ S (y + 1) - 1)) (fun _ => 0) 1 0 (xf / 65536) (t - xf / 65536).toNat ≠ k) → (xl / 65536 + 1 - yy).toNat < N → W p l e (headSpec w_B_when ({ frames := 6, cells := 0, slots := 0, locals := 152 })).room s m [.ref b, .int (iI cal), .int (iI mn), .int (iI dd), .int (iI y), .int (iI k)].toArray below meth c s.heap [] 0 0 (MQ below (k2_QcV (.int (iI x))) [.ref b, .int (iI cal), .int (iI mn), .int (iI dd), .int (iI y), .int (iI k)].toArray s 0 0 (fun _ => False)) (F0 m 93 ls []) := by
    intro N
    induction N with
    | zero => intro _ _ _ _ _ _ _ _ _ _ _ _ _ hm; exact absurd hm (Nat.not_lt_zero _)
    | succ N ih =>
      intro yy sn f1 l1 ly ls hl e1 e2 e3 i1 i2 i4 hm
      have hcr := cnW_rng (fM := (fun t => bI (S y ≤ fr t ∧ fr t ≤ S (y + 1) - 1))) (fD := (fun _ => 0)) (mn := 1) (dd := 0) (s0 := xf / 65536) (yy - xf / 65536).toNat
      refine lv_iload hx hb d_B_when_93 (lv_at hl 0 rfl) ?_
      refine lv_iload hx hb d_B_when_95 (lv_at hl 2 rfl) ?_
      refine ai_icmp_gt hx hb d_B_when_97 rfl (by omega) (by omega) (fun h97 => ?_) (fun h97 => ?_)
      · skip
        refine ai_ldc (x := -2147483648) hx hb hown (hts _ k_240) (by decide +kernel) d_B_when_148 ?_
        exact ro_iret hx hb hr hlk d_B_when_150 (by rcases hwh with ⟨t, t1, t2, t3, t4⟩ | ⟨-, q⟩; exact absurd t3 (i4 t t1.1 (by omega) t2); rcases hxx with ⟨-, q2⟩ | ⟨q1, -⟩; exact q2.symm; exact absurd q q1)
      · skip
        refine lv_aload hx hb d_B_when_100 (lv_at hl 5 rfl) ?_
        refine lv_iload hx hb d_B_when_102 (lv_at hl 0 rfl) ?_
        refine ai_i2l hx hb d_B_when_104 (by omega) ?_
        refine lv_iload_n hx hb d_B_when_105 rfl (lv_at hl 7 rfl) ?_
        refine lv_iload_n hx hb d_B_when_106 rfl (lv_at hl 8 rfl) ?_
        refine cd_DR (rest := []) hC (by omega) (by omega) (by omega) (hfr yy (by omega) (by omega)).1 hF hl.1 ⟨Nat.le_of_ble_eq_true rfl, Nat.le_of_ble_eq_true rfl⟩ (Nat.le_of_ble_eq_true rfl) d_B_when_107 ⟨Nat.zero_le _, Nat.zero_le _⟩ ?_
        refine ai_nmL hx hb (fun v110 e110 => ?_)
        refine lv_lstore (lv' := [(14, .long (iL v110)), (13, .int (iI yy)), (12, .int (iI sn)), (11, .int (iI ly)), (9, .long (iL l1)), (7, .long (iL f1)), (6, .ref q), (0, .ref b), (2, .int (iI mn)), (3, .int (iI dd)), (5, .int (iI k))]) hx hb d_B_when_110 hl (by decide) rfl (fun ls hl => ?_)
        have r112 := (hfr yy (by omega) (by omega)).2
        refine lv_lload hx hb d_B_when_112 (lv_at hl 0 rfl) ?_
        refine lv_lload hx hb d_B_when_114 (lv_at hl 5 rfl) ?_
        refine ai_lcmp_lt hx hb d_B_when_116 d_B_when_117 rfl (by omega) (by omega) (fun h116 => ?_) (fun h116 => ?_)
        · skip
          refine ai_iinc (k := 1) (lv' := [(13, .int (iI (yy + 1))), (14, .long (iL v110)), (12, .int (iI sn)), (11, .int (iI ly)), (9, .long (iL l1)), (7, .long (iL f1)), (6, .ref q), (0, .ref b), (2, .int (iI mn)), (3, .int (iI dd)), (5, .int (iI k))]) hx hb d_B_when_142 hl rfl (by decide) rfl (fun ls hl => ?_)
          refine lv_goto hx hb d_B_when_145 rfl ?_
          exact ih (yy + 1) sn f1 l1 ly _ (lv_sub hl [0, 2, 3, 4, 5, 6, 7, 8, 9, 10] rfl) e1 e2 e3 (by omega) (by first | (rw [cnW_step (by omega), bI_t (mt1 (f1 := S y) (l1 := S (y + 1) - 1) (fr := fr) (t := yy) (by omega))]; omega) | (rw [cnW_step (by omega), bI_f (mt0 (f1 := S y) (l1 := S (y + 1) - 1) (fr := fr) (t := yy) (by omega))]; omega)) (fun t h1 h2 hm9 => by by_cases z : t = yy; (subst z; first | (rw [← i2]; exact h132) | exact absurd hm9 (mt0 (by omega))); exact i4 t h1 (by omega) hm9) (by omega)
        · skip
          refine lv_lload hx hb d_B_when_120 (lv_at hl 0 rfl) ?_
          refine lv_lload hx hb d_B_when_122 (lv_at hl 4 rfl) ?_
          refine ai_lcmp_gt hx hb d_B_when_124 d_B_when_125 rfl (by omega) (by omega) (fun h124 => ?_) (fun h124 => ?_)
          · skip
            refine ai_iinc (k := 1) (lv' := [(13, .int (iI (yy + 1))), (14, .long (iL v110)), (12, .int (iI sn)), (11, .int (iI ly)), (9, .long (iL l1)), (7, .long (iL f1)), (6, .ref q), (0, .ref b), (2, .int (iI mn)), (3, .int (iI dd)), (5, .int (iI k))]) hx hb d_B_when_142 hl rfl (by decide) rfl (fun ls hl => ?_)
            refine lv_goto hx hb d_B_when_145 rfl ?_
            exact ih (yy + 1) sn f1 l1 ly _ (lv_sub hl [0, 2, 3, 4, 5, 6, 7, 8, 9, 10] rfl) e1 e2 e3 (by omega) (by first | (rw [cnW_step (by omega), bI_t (mt1 (f1 := S y) (l1 := S (y + 1) - 1) (fr := fr) (t := yy) (by omega))]; omega) | (rw [cnW_step (by omega), bI_f (mt0 (f1 := S y) (l1 := S (y + 1) - 1) (fr := fr) (t := yy) (by omega))]; omega)) (fun t h1 h2 hm9 => by by_cases z : t = yy; (subst z; first | (rw [← i2]; exact h132) | exact absurd hm9 (mt0 (by omega))); exact i4 t h1 (by omega) hm9) (by omega)
          · skip
            refine lv_iload hx hb d_B_when_128 (lv_at hl 2 rfl) ?_
            refine lv_iload hx hb d_B_when_130 (lv_at hl 10 rfl) ?_
            refine ai_icmp_ne hx hb d_B_when_132 rfl (by omega) (by omega) (fun h132 => ?_) (fun h132 => ?_)
            · skip
              refine ai_iinc (k := 2) (lv' := [(12, .int (iI (sn + 1))), (14, .long (iL v110)), (13, .int (iI yy)), (11, .int (iI ly)), (9, .long (iL l1)), (7, .long (iL f1)), (6, .ref q), (0, .ref b), (2, .int (iI mn)), (3, .int (iI dd)), (5, .int (iI k))]) hx hb d_B_when_139 hl rfl (by decide) rfl (fun ls hl => ?_)
              refine ai_iinc (k := 2) (lv' := [(13, .int (iI (yy + 1))), (12, .int (iI (sn + 1))), (14, .long (iL v110)), (11, .int (iI ly)), (9, .long (iL l1)), (7, .long (iL f1)), (6, .ref q), (0, .ref b), (2, .int (iI mn)), (3, .int (iI dd)), (5, .int (iI k))]) hx hb d_B_when_142 hl rfl (by decide) rfl (fun ls hl => ?_)
              refine lv_goto hx hb d_B_when_145 rfl ?_
              exact ih (yy + 1) (sn + 1) f1 l1 ly _ (lv_sub hl [0, 1, 3, 4, 5, 6, 7, 8, 9, 10] rfl) e1 e2 e3 (by omega) (by first | (rw [cnW_step (by omega), bI_t (mt1 (f1 := S y) (l1 := S (y + 1) - 1) (fr := fr) (t := yy) (by omega))]; omega) | (rw [cnW_step (by omega), bI_f (mt0 (f1 := S y) (l1 := S (y + 1) - 1) (fr := fr) (t := yy) (by omega))]; omega)) (fun t h1 h2 hm9 => by by_cases z : t = yy; (subst z; first | (rw [← i2]; exact h132) | exact absurd hm9 (mt0 (by omega))); exact i4 t h1 (by omega) hm9) (by omega)
            · skip
              refine lv_lload hx hb d_B_when_135 (lv_at hl 0 rfl) ?_
              refine ai_l2i hx hb d_B_when_137 ?_
              exact ro_iret hx hb hr hlk d_B_when_138 (by have e1 := hwh.hit (t0 := yy) (by omega) (mt1 (by omega)) (by omega); rw [← e1] at hxx; rcases hxx with ⟨q1, q2⟩ | ⟨-, q2⟩; omega; rw [q2, e110])
  refine lv_aload_n hx hb d_B_when_0 rfl (lv_at hl 0 rfl) ?_
  refine lv_iload_n hx hb d_B_when_1 rfl (lv_at hl 1 rfl) ?_
  refine ro_V (rest := []) (ct_B_calendarAt_s l D b cvA jlA hbA csA sbA vbA cA cB ca N z ml tx cal q (by omega) hcs) j_B_calendarAt k_496 (hts _ s_B_calendarAt) hF hBk.recv rfl hl.1 rfl ⟨Nat.le_of_ble_eq_true rfl, Nat.le_of_ble_eq_true rfl⟩ (Nat.le_of_ble_eq_true rfl) d_B_when_2 ⟨Nat.zero_le _, Nat.zero_le _⟩ BkB.m (fun U h1 h2 => BkB.m.2 s U h1 h2 hBk) ?_
  refine lv_astore (lv' := [(6, .ref q), (0, .ref b), (1, .int (iI cal)), (2, .int (iI mn)), (3, .int (iI dd)), (4, .int (iI y)), (5, .int (iI k))]) hx hb d_B_when_5 hl (by decide) rfl (fun ls hl => ?_)
  refine lv_aload hx hb d_B_when_7 (lv_at hl 0 rfl) ?_
  refine lv_ifnonnull hx hb d_B_when_9 rfl ?_
  refine lv_iload hx hb d_B_when_20 (lv_at hl 5 rfl) ?_
  refine ai_ldc (x := 90000) hx hb hown (hts _ k_811) (by decide +kernel) d_B_when_22 ?_
  refine ro_S (rest := []) (ct_B_isWithin l y 90000 (by omega) (by omega)) j_B_isWithin k_701 hF rfl hl.1 rfl ⟨Nat.le_of_ble_eq_true rfl, Nat.le_of_ble_eq_true rfl⟩ (Nat.le_of_ble_eq_true rfl) d_B_when_24 ⟨Nat.zero_le _, Nat.zero_le _⟩ Bm_true (fun _ _ _ => trivial) ?_
  refine ai_ifneB hx hb d_B_when_27 rfl (fun h27 => ?_) (fun h27 => ?_)
  · skip
    refine lv_aload_n hx hb d_B_when_38 rfl (lv_at hl 1 rfl) ?_
    refine va_get (D := D) (cl := CL) (ci := 9) (v := .ref cvA) (C := "DayBook") (T := T_B) (N := 5) hx hb hts in_B hown hK hP 0 rfl rfl 0 (by decide) (hts _ k_204) (fun _ h9 => h9) rfl d_B_when_39 ?_
    refine lv_iload hx hb d_B_when_42 (lv_at hl 5 rfl) ?_
    refine ai_i2l hx hb d_B_when_44 (by omega) ?_
    refine cd_MS (rest := []) hCv (by omega) hF hl.1 ⟨Nat.le_of_ble_eq_true rfl, Nat.le_of_ble_eq_true rfl⟩ (Nat.le_of_ble_eq_true rfl) d_B_when_45 ⟨Nat.zero_le _, Nat.zero_le _⟩ ?_
    refine ai_nmL hx hb (fun v48 e48 => ?_)
    refine lv_lstore (lv' := [(7, .long (iL v48)), (6, .ref q), (0, .ref b), (1, .int (iI cal)), (2, .int (iI mn)), (3, .int (iI dd)), (4, .int (iI y)), (5, .int (iI k))]) hx hb d_B_when_48 hl (by decide) rfl (fun ls hl => ?_)
    refine lv_aload_n hx hb d_B_when_50 rfl (lv_at hl 2 rfl) ?_
    refine va_get (D := D) (cl := CL) (ci := 9) (v := .ref cvA) (C := "DayBook") (T := T_B) (N := 5) hx hb hts in_B hown hK hP 0 rfl rfl 0 (by decide) (hts _ k_204) (fun _ h9 => h9) rfl d_B_when_51 ?_
    refine lv_iload hx hb d_B_when_54 (lv_at hl 6 rfl) ?_
    refine ai_i2l hx hb d_B_when_56 (by omega) ?_
    refine ai_lconst (x := 1) hx hb d_B_when_57 (by decide +kernel) ?_
    refine ai_ladd hx hb d_B_when_58 ?_
    refine cd_MS (rest := []) hCv (by omega) hF hl.1 ⟨Nat.le_of_ble_eq_true rfl, Nat.le_of_ble_eq_true rfl⟩ (Nat.le_of_ble_eq_true rfl) d_B_when_59 ⟨Nat.zero_le _, Nat.zero_le _⟩ ?_
    refine ai_lconst (x := 1) hx hb d_B_when_62 (by decide +kernel) ?_
    refine ai_lsub hx hb d_B_when_63 ?_
    refine ai_nmL hx hb (fun v64 e64 => ?_)
    refine lv_lstore (lv' := [(9, .long (iL v64)), (7, .long (iL v48)), (6, .ref q), (0, .ref b), (1, .int (iI cal)), (2, .int (iI mn)), (3, .int (iI dd)), (4, .int (iI y)), (5, .int (iI k))]) hx hb d_B_when_64 hl (by decide) rfl (fun ls hl => ?_)
    refine lv_aload hx hb d_B_when_66 (lv_at hl 2 rfl) ?_
    refine lv_lload hx hb d_B_when_68 (lv_at hl 0 rfl) ?_
    refine cd_DT (rest := []) hC (by omega) (by rw [e64]; exact hxl) hF hl.1 ⟨Nat.le_of_ble_eq_true rfl, Nat.le_of_ble_eq_true rfl⟩ (Nat.le_of_ble_eq_true rfl) d_B_when_70 ⟨Nat.zero_le _, Nat.zero_le _⟩ ?_
    refine ro_S (rest := []) (ct_B_yearIn l xl (by omega)) j_B_yearIn k_684 hF rfl hl.1 rfl ⟨Nat.le_of_ble_eq_true rfl, Nat.le_of_ble_eq_true rfl⟩ (Nat.le_of_ble_eq_true rfl) d_B_when_73 ⟨Nat.zero_le _, Nat.zero_le _⟩ Bm_true (fun _ _ _ => trivial) ?_
    refine ai_nmI hx hb (fun v76 e76 => ?_)
    refine lv_istore (lv' := [(11, .int (iI v76)), (9, .long (iL v64)), (7, .long (iL v48)), (6, .ref q), (0, .ref b), (1, .int (iI cal)), (2, .int (iI mn)), (3, .int (iI dd)), (4, .int (iI y)), (5, .int (iI k))]) hx hb d_B_when_76 hl (by decide) rfl (fun ls hl => ?_)
    refine ai_iconst hx hb d_B_when_78 ?_
    refine lv_istore (lv' := [(12, .int (iI 0)), (11, .int (iI v76)), (9, .long (iL v64)), (7, .long (iL v48)), (6, .ref q), (0, .ref b), (1, .int (iI cal)), (2, .int (iI mn)), (3, .int (iI dd)), (4, .int (iI y)), (5, .int (iI k))]) hx hb d_B_when_79 hl (by decide) rfl (fun ls hl => ?_)
    refine lv_aload hx hb d_B_when_81 (lv_at hl 4 rfl) ?_
    refine lv_lload hx hb d_B_when_83 (lv_at hl 3 rfl) ?_
    refine cd_DT (rest := []) hC (by omega) (by rw [e48]; exact hxf) hF hl.1 ⟨Nat.le_of_ble_eq_true rfl, Nat.le_of_ble_eq_true rfl⟩ (Nat.le_of_ble_eq_true rfl) d_B_when_85 ⟨Nat.zero_le _, Nat.zero_le _⟩ ?_
    refine ro_S (rest := []) (ct_B_yearIn l xf (by omega)) j_B_yearIn k_684 hF rfl hl.1 rfl ⟨Nat.le_of_ble_eq_true rfl, Nat.le_of_ble_eq_true rfl⟩ (Nat.le_of_ble_eq_true rfl) d_B_when_88 ⟨Nat.zero_le _, Nat.zero_le _⟩ Bm_true (fun _ _ _ => trivial) ?_
    refine ai_nmI hx hb (fun v91 e91 => ?_)
    refine lv_istore (lv' := [(13, .int (iI v91)), (12, .int (iI 0)), (11, .int (iI v76)), (9, .long (iL v64)), (7, .long (iL v48)), (6, .ref q), (0, .ref b), (1, .int (iI cal)), (2, .int (iI mn)), (3, .int (iI dd)), (4, .int (iI y)), (5, .int (iI k))]) hx hb d_B_when_91 hl (by decide) rfl (fun ls hl => ?_)
    exact hJ93 _ v91 0 v48 v64 v76 _ (lv_sub hl [0, 1, 2, 3, 4, 5, 6, 8, 9, 11] rfl) e48 e64 e76 (by omega) (by rw [show (v91 - xf / 65536).toNat = 0 by omega]; rfl) (fun t h1 h2 => absurd h2 (by omega)) (Nat.lt_succ_self _)
  · skip
    exfalso; omega
