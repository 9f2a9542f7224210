/-! 36.modelK: laid by program (wip/whole) -/
def sunb (d : Int) : Int := d + 7 - d % 7
def eaH (y : Int) : Int := (14 + 11 * (y % 19) - 3 * (y / 100 + 1) / 4 + (5 + 8 * (y / 100 + 1)) / 25) % 30
def eaN (y : Int) : Int := if eaH y = 0 ∨ (eaH y = 1 ∧ 10 < y % 19) then eaH y + 1 else eaH y
def FEM (g : Nat → Nat → Int) (w y tc x r : Int) : Prop := (tc = 1 ∧ ¬ (0 ≤ w ∧ w ≤ 2) ∧ x = 0) ∨ (tc = 2 ∧ (0 ≤ w ∧ w ≤ 2) ∧ ¬ (-90000 ≤ y ∧ y ≤ 90000) ∧ x = 0) ∨ (tc = 0 ∧ (0 ≤ w ∧ w ≤ 2) ∧ (-90000 ≤ y ∧ y ≤ 90000) ∧ ((w = 2 ∧ DOM g 9 (y + 3760) 1 15 r ∧ x = r) ∨ (w = 1 ∧ DOM g 1 (if 0 < y then y else y - 1) 4 19 r ∧ x = sunb (r - (14 + 11 * (y % 19)) % 30)) ∨ (w = 0 ∧ DOM g 0 y 4 19 r ∧ x = sunb (r - eaN y))))
set_option maxHeartbeats 4000000 in
set_option maxRecDepth 100000 in
theorem ct_M_feast (l : Launch) (D : va_G) (a : Nat) (ad : Nat → Nat) (cx : Nat → ClassId) (F : Nat → Int) (g : Nat → Nat → Int) (w : Int) (y : Int) (tc : Int) (x : Int) (r : Int) (hv : MInv g) (hca : CacheOK F g) (rw_ : -2147483648 ≤ w ∧ w ≤ 2147483647) (ry : -2147483648 ≤ y ∧ y ≤ 2147483647) (rr : -1000000000000000 ≤ r ∧ r ≤ 1000000000000000) (hfe : FEM g w y tc x r) : MW l y_M_feast w_M_feast 11 283 [.ref a, .int (iI w), .int (iI y)] D a ad cx F g (QMi D a ad cx x (fun u => u.2 = g ∧ u.1 0 = tc ∧ u.1 8 = F 8 ∧ CacheOK u.1 g)) := by
  refine mw_of (by decide +kernel) (Nat.le_of_ble_eq_true rfl) ?_
  intro p e s m below meth c ls hx hb hr hts hown hlk hml hl hN hK hP hD
  have hown : s.vm.findClass "DayBookModel" = some m.cls := hown
  have hl : lv_has ls 9 [(0, .ref a), (1, .int (iI w)), (2, .int (iI y))] := hl
  have hF : _ ∧ _ ∧ _ ∧ _ ∧ _ ∧ _ := ⟨hx, hb, hml, hown, hts, hN⟩
  have hS : va_S (Ain a ad) s.heap s.heap [] := va_S.rf
  refine lv_aload_n hx hb d_M_feast_0 rfl (lv_at hl 0 rfl) ?_
  refine lv_iload_n hx hb d_M_feast_1 rfl (lv_at hl 1 rfl) ?_
  refine ai_if_lt hx hb d_M_feast_2 rfl (by omega) (fun h2 => ?_) (fun h2 => ?_)
  · skip
    obtain ⟨et, ex⟩ : tc = 1 ∧ x = 0 := by rcases hfe with ⟨a1, a2, a3⟩ | ⟨a1, a2, a3, a4⟩ | ⟨a1, a2, a3, a4⟩; exact ⟨a1, a3⟩; omega; omega
    refine ai_iconst hx hb d_M_feast_10 ?_
    refine lv_goto hx hb d_M_feast_11 rfl ?_
    refine va_put (D := D) (cl := CL) (ci := 10) (v := .int (iI 1)) (ty := .int) (C := "DayBookModel") (T := T_M) (N := 19) hx hb hts in_M ty_M ty_M_ok nm_M hown hK hP hD hS 0 rfl rfl 0 (by decide) (hts _ k_946) (fun _ h9 => h9) rfl (by decide +kernel) rfl rfl (Nat.le_of_ble_eq_true rfl) d_M_feast_33 (fun H locs hP hD hS => ?_)
    have hP : va_P D CL (MWs a ad cx (upF F 0 1) g) H := hP
    have hD : va_D (Ain a ad) (MWs a ad cx (upF F 0 1) g) := hD
    refine lv_aload_n hx hb d_M_feast_36 rfl (lv_at hl 0 rfl) ?_
    refine va_get (D := D) (cl := CL) (ci := 10) (v := .int (iI 1)) (C := "DayBookModel") (T := T_M) (N := 19) hx hb hts in_M hown hK hP 0 rfl rfl 0 (by decide) (hts _ k_946) (fun _ h9 => h9) rfl d_M_feast_37 ?_
    refine ai_if_le hx hb d_M_feast_40 rfl (by omega) (fun h40 => by exfalso; omega) (fun h40 => ?_)
    refine ai_iconst hx hb d_M_feast_43 ?_
    exact mw_iret hx hb hr hlk d_M_feast_44 hP hS ex.symm ⟨rfl, et.symm, rfl, hca⟩
  · skip
    refine lv_iload_n hx hb d_M_feast_5 rfl (lv_at hl 1 rfl) ?_
    refine ai_iconst hx hb d_M_feast_6 ?_
    refine ai_icmp_le hx hb d_M_feast_7 rfl (by omega) (by omega) (fun h7 => ?_) (fun h7 => ?_)
    · skip
      refine lv_iload_n hx hb d_M_feast_14 rfl (lv_at hl 2 rfl) ?_
      refine ai_ldcw (x := -90000) hx hb hown (hts _ k_1175) (by decide +kernel) d_M_feast_15 ?_
      refine ai_icmp_lt hx hb d_M_feast_18 rfl (by omega) (by omega) (fun h18 => ?_) (fun h18 => ?_)
      · skip
        obtain ⟨et, ex⟩ : tc = 2 ∧ x = 0 := by rcases hfe with ⟨a1, a2, a3⟩ | ⟨a1, a2, a3, a4⟩ | ⟨a1, a2, a3, a4⟩; omega; exact ⟨a1, a4⟩; omega
        refine ai_iconst hx hb d_M_feast_28 ?_
        refine lv_goto hx hb d_M_feast_29 rfl ?_
        refine va_put (D := D) (cl := CL) (ci := 10) (v := .int (iI 2)) (ty := .int) (C := "DayBookModel") (T := T_M) (N := 19) hx hb hts in_M ty_M ty_M_ok nm_M hown hK hP hD hS 0 rfl rfl 0 (by decide) (hts _ k_946) (fun _ h9 => h9) rfl (by decide +kernel) rfl rfl (Nat.le_of_ble_eq_true rfl) d_M_feast_33 (fun H locs hP hD hS => ?_)
        have hP : va_P D CL (MWs a ad cx (upF F 0 2) g) H := hP
        have hD : va_D (Ain a ad) (MWs a ad cx (upF F 0 2) g) := hD
        refine lv_aload_n hx hb d_M_feast_36 rfl (lv_at hl 0 rfl) ?_
        refine va_get (D := D) (cl := CL) (ci := 10) (v := .int (iI 2)) (C := "DayBookModel") (T := T_M) (N := 19) hx hb hts in_M hown hK hP 0 rfl rfl 0 (by decide) (hts _ k_946) (fun _ h9 => h9) rfl d_M_feast_37 ?_
        refine ai_if_le hx hb d_M_feast_40 rfl (by omega) (fun h40 => by exfalso; omega) (fun h40 => ?_)
        refine ai_iconst hx hb d_M_feast_43 ?_
        exact mw_iret hx hb hr hlk d_M_feast_44 hP hS ex.symm ⟨rfl, et.symm, rfl, hca⟩
      · skip
        refine lv_iload_n hx hb d_M_feast_21 rfl (lv_at hl 2 rfl) ?_
        refine ai_ldcw (x := 90000) hx hb hown (hts _ k_1176) (by decide +kernel) d_M_feast_22 ?_
        refine ai_icmp_le hx hb d_M_feast_25 rfl (by omega) (by omega) (fun h25 => ?_) (fun h25 => ?_)
        · skip
          obtain ⟨et, hfi⟩ : tc = 0 ∧ ((w = 2 ∧ DOM g 9 (y + 3760) 1 15 r ∧ x = r) ∨ (w = 1 ∧ DOM g 1 (if 0 < y then y else y - 1) 4 19 r ∧ x = sunb (r - (14 + 11 * (y % 19)) % 30)) ∨ (w = 0 ∧ DOM g 0 y 4 19 r ∧ x = sunb (r - eaN y))) := by rcases hfe with ⟨a1, a2, a3⟩ | ⟨a1, a2, a3, a4⟩ | ⟨a1, a2, a3, a4⟩; omega; omega; exact ⟨a1, a4⟩
          refine ai_iconst hx hb d_M_feast_32 ?_
          refine va_put (D := D) (cl := CL) (ci := 10) (v := .int (iI 0)) (ty := .int) (C := "DayBookModel") (T := T_M) (N := 19) hx hb hts in_M ty_M ty_M_ok nm_M hown hK hP hD hS 0 rfl rfl 0 (by decide) (hts _ k_946) (fun _ h9 => h9) rfl (by decide +kernel) rfl rfl (Nat.le_of_ble_eq_true rfl) d_M_feast_33 (fun H locs hP hD hS => ?_)
          have hP : va_P D CL (MWs a ad cx (upF F 0 0) g) H := hP
          have hD : va_D (Ain a ad) (MWs a ad cx (upF F 0 0) g) := hD
          refine lv_aload_n hx hb d_M_feast_36 rfl (lv_at hl 0 rfl) ?_
          refine va_get (D := D) (cl := CL) (ci := 10) (v := .int (iI 0)) (C := "DayBookModel") (T := T_M) (N := 19) hx hb hts in_M hown hK hP 0 rfl rfl 0 (by decide) (hts _ k_946) (fun _ h9 => h9) rfl d_M_feast_37 ?_
          refine ai_if_le hx hb d_M_feast_40 rfl (by omega) (fun h40 => ?_) (fun h40 => by exfalso; omega)
          refine lv_iload_n hx hb d_M_feast_45 rfl (lv_at hl 2 rfl) ?_
          refine ai_i2l hx hb d_M_feast_46 (by omega) ?_
          refine ai_ldc2 (x := 19) hx hb hown (hts _ k_945) (by decide +kernel) d_M_feast_47 ?_
          refine ro_S (rest := []) (ct_M_mod l y 19 (by omega) (by omega)) j_M_mod k_925 hF rfl hl.1 rfl ⟨Nat.le_of_ble_eq_true rfl, Nat.le_of_ble_eq_true rfl⟩ (Nat.le_of_ble_eq_true rfl) d_M_feast_50 ⟨Nat.zero_le _, Nat.zero_le _⟩ Bm_true (fun _ _ _ => trivial) ?_
          refine ai_nmL hx hb (fun v53 e53 => ?_)
          refine lv_lstore_n (lv' := [(3, .long (iL v53)), (0, .ref a), (1, .int (iI w)), (2, .int (iI y))]) hx hb d_M_feast_53 rfl hl (by decide) rfl (fun ls hl => ?_)
          refine lv_iload_n hx hb d_M_feast_54 rfl (lv_at hl 2 rfl) ?_
          refine ai_iconst hx hb d_M_feast_55 ?_
          refine ai_icmp_ne hx hb d_M_feast_56 rfl (by omega) (by omega) (fun h56 => ?_) (fun h56 => ?_)
          · skip
            refine lv_iload_n hx hb d_M_feast_75 rfl (lv_at hl 2 rfl) ?_
            refine ai_iconst hx hb d_M_feast_76 ?_
            refine ai_icmp_ne hx hb d_M_feast_77 rfl (by omega) (by omega) (fun h77 => ?_) (fun h77 => ?_)
            · skip
              obtain ⟨hd1, ex⟩ : DOM g 0 y 4 19 r ∧ x = sunb (r - eaN y) := by rcases hfi with ⟨a1, a2, a3⟩ | ⟨a1, a2, a3⟩ | ⟨a1, a2, a3⟩; omega; omega; exact ⟨a2, a3⟩
              refine lv_iload_n hx hb d_M_feast_120 rfl (lv_at hl 3 rfl) ?_
              refine ai_i2l hx hb d_M_feast_121 (by omega) ?_
              refine ai_ldc2 (x := 100) hx hb hown (hts _ k_931) (by decide +kernel) d_M_feast_122 ?_
              refine ro_S (rest := []) (ct_M_div l y 100 (by omega) (by omega)) j_M_div k_928 hF rfl hl.1 rfl ⟨Nat.le_of_ble_eq_true rfl, Nat.le_of_ble_eq_true rfl⟩ (Nat.le_of_ble_eq_true rfl) d_M_feast_125 ⟨Nat.zero_le _, Nat.zero_le _⟩ Bm_true (fun _ _ _ => trivial) ?_
              refine ai_lconst (x := 1) hx hb d_M_feast_128 (by decide +kernel) ?_
              refine ai_ladd hx hb d_M_feast_129 ?_
              refine ai_nmL hx hb (fun v130 e130 => ?_)
              refine lv_lstore (lv' := [(5, .long (iL v130)), (3, .long (iL v53)), (0, .ref a), (1, .int (iI w)), (2, .int (iI y))]) hx hb d_M_feast_130 hl (by decide) rfl (fun ls hl => ?_)
              refine ai_ldc2 (x := 14) hx hb hown (hts _ k_935) (by decide +kernel) d_M_feast_132 ?_
              refine ai_ldc2 (x := 11) hx hb hown (hts _ k_934) (by decide +kernel) d_M_feast_135 ?_
              refine lv_lload_n hx hb d_M_feast_138 rfl (lv_at hl 1 rfl) ?_
              refine ai_lmul hx hb d_M_feast_139 ?_
              refine ai_ladd hx hb d_M_feast_140 ?_
              refine ai_ldc2 (x := 3) hx hb hown (hts _ k_933) (by decide +kernel) d_M_feast_141 ?_
              refine lv_lload hx hb d_M_feast_144 (lv_at hl 0 rfl) ?_
              refine ai_lmul hx hb d_M_feast_146 ?_
              refine ai_ldc2 (x := 4) hx hb hown (hts _ k_924) (by decide +kernel) d_M_feast_147 ?_
              refine ro_S (rest := [.long (iL (14 + (11 * v53)))]) (ct_M_div l (3 * v130) 4 (by omega) (by omega)) j_M_div k_928 hF rfl hl.1 rfl ⟨Nat.le_of_ble_eq_true rfl, Nat.le_of_ble_eq_true rfl⟩ (Nat.le_of_ble_eq_true rfl) d_M_feast_150 ⟨Nat.zero_le _, Nat.zero_le _⟩ Bm_true (fun _ _ _ => trivial) ?_
              refine ai_lsub hx hb d_M_feast_153 ?_
              refine ai_ldc2 (x := 5) hx hb hown (hts _ k_1180) (by decide +kernel) d_M_feast_154 ?_
              refine ai_ldc2 (x := 8) hx hb hown (hts _ k_1181) (by decide +kernel) d_M_feast_157 ?_
              refine lv_lload hx hb d_M_feast_160 (lv_at hl 0 rfl) ?_
              refine ai_lmul hx hb d_M_feast_162 ?_
              refine ai_ladd hx hb d_M_feast_163 ?_
              refine ai_ldc2 (x := 25) hx hb hown (hts _ k_1182) (by decide +kernel) d_M_feast_164 ?_
              refine ro_S (rest := [.long (iL ((14 + (11 * v53)) - ((3 * v130) / 4)))]) (ct_M_div l (5 + (8 * v130)) 25 (by omega) (by omega)) j_M_div k_928 hF rfl hl.1 rfl ⟨Nat.le_of_ble_eq_true rfl, Nat.le_of_ble_eq_true rfl⟩ (Nat.le_of_ble_eq_true rfl) d_M_feast_167 ⟨Nat.zero_le _, Nat.zero_le _⟩ Bm_true (fun _ _ _ => trivial) ?_
              refine ai_ladd hx hb d_M_feast_170 ?_
              refine ai_ldc2 (x := 30) hx hb hown (hts _ k_936) (by decide +kernel) d_M_feast_171 ?_
              refine ro_S (rest := []) (ct_M_mod l (((14 + (11 * v53)) - ((3 * v130) / 4)) + ((5 + (8 * v130)) / 25)) 30 (by omega) (by omega)) j_M_mod k_925 hF rfl hl.1 rfl ⟨Nat.le_of_ble_eq_true rfl, Nat.le_of_ble_eq_true rfl⟩ (Nat.le_of_ble_eq_true rfl) d_M_feast_174 ⟨Nat.zero_le _, Nat.zero_le _⟩ Bm_true (fun _ _ _ => trivial) ?_
              refine ai_nmL hx hb (fun v177 e177 => ?_)
              refine lv_lstore (lv' := [(7, .long (iL v177)), (5, .long (iL v130)), (3, .long (iL v53)), (0, .ref a), (1, .int (iI w)), (2, .int (iI y))]) hx hb d_M_feast_177 hl (by decide) rfl (fun ls hl => ?_)
              have eh : eaH y = v177 := by unfold eaH; rw [e177, e130, e53]
              refine lv_lload hx hb d_M_feast_179 (lv_at hl 0 rfl) ?_
              refine ai_lconst (x := 0) hx hb d_M_feast_181 (by decide +kernel) ?_
              refine ai_lcmp_eq hx hb d_M_feast_182 d_M_feast_183 rfl (by omega) (by omega) (fun h182 => ?_) (fun h182 => ?_)
              · skip
                refine lv_lload hx hb d_M_feast_201 (lv_at hl 0 rfl) ?_
                refine ai_lconst (x := 1) hx hb d_M_feast_203 (by decide +kernel) ?_
                refine ai_ladd hx hb d_M_feast_204 ?_
                refine lv_goto hx hb d_M_feast_205 rfl ?_
                refine ai_nmL hx hb (fun v210 e210 => ?_)
                refine lv_lstore (lv' := [(7, .long (iL v210)), (5, .long (iL v130)), (3, .long (iL v53)), (0, .ref a), (1, .int (iI w)), (2, .int (iI y))]) hx hb d_M_feast_210 hl (by decide) rfl (fun ls hl => ?_)
                first | (have en : eaN y = v210 := by unfold eaN; rw [eh, if_pos (by omega)]; omega) | (have en : eaN y = v177 := by unfold eaN; rw [eh, if_neg (by omega)])
                have emr := md_rng (x := 14 + 11 * v53 - 3 * v130 / 4 + (5 + 8 * v130) / 25) (n := 30) (by decide)
                refine lv_aload_n hx hb d_M_feast_212 rfl (lv_at hl 3 rfl) ?_
                refine ai_iconst hx hb d_M_feast_213 ?_
                refine lv_iload_n hx hb d_M_feast_214 rfl (lv_at hl 5 rfl) ?_
                refine ai_iconst hx hb d_M_feast_215 ?_
                refine ai_bipush (x := 19) hx hb d_M_feast_216 (by decide +kernel) ?_
                refine mw_l (rest := []) (ct_M_dayOf l D a ad cx (upF F 0 0) g 0 y 4 19 r (by decide) (fun h => absurd h (by decide)) (hv.1 0 (by decide)) (fun _ _ _ _ => hv.1 0 (by decide)) hca (by omega) (by omega) (by omega) hd1) j_M_dayOf k_1130 s_M_dayOf hF hK hP hD hS (fun _ h => h) rfl hl.1 rfl ⟨Nat.le_of_ble_eq_true rfl, Nat.le_of_ble_eq_true rfl⟩ (Nat.le_of_ble_eq_true rfl) d_M_feast_218 ⟨Nat.zero_le _, Nat.zero_le _⟩ (fun u218 H locs hΦ218 hP hS => ?_)
                obtain ⟨F218, g218⟩ := u218
                dsimp only at hΦ218 hP
                obtain ⟨eg218, t218, z218, c218⟩ := hΦ218
                rw [eg218] at hP
                have hD : va_D (Ain a ad) (MWs a ad cx F218 g) := MD.any hD
                refine lv_lload hx hb d_M_feast_221 (lv_at hl 0 rfl) ?_
                refine ai_lsub hx hb d_M_feast_223 ?_
                refine ro_S (rest := []) (ct_M_sundayBehind l (r - v210) (by omega)) j_M_sundayBehind k_1177 hF rfl hl.1 rfl ⟨Nat.le_of_ble_eq_true rfl, Nat.le_of_ble_eq_true rfl⟩ (Nat.le_of_ble_eq_true rfl) d_M_feast_224 ⟨Nat.zero_le _, Nat.zero_le _⟩ Bm_true (fun _ _ _ => trivial) ?_
                refine ai_l2i hx hb d_M_feast_227 ?_
                exact mw_iret hx hb hr hlk d_M_feast_228 hP hS (by rw [ex, en]; rfl) ⟨rfl, (by rw [et]; exact t218), z218, c218⟩
              · skip
                refine lv_lload hx hb d_M_feast_186 (lv_at hl 0 rfl) ?_
                refine ai_lconst (x := 1) hx hb d_M_feast_188 (by decide +kernel) ?_
                refine ai_lcmp_ne hx hb d_M_feast_189 d_M_feast_190 rfl (by omega) (by omega) (fun h189 => ?_) (fun h189 => ?_)
                · skip
                  refine lv_lload hx hb d_M_feast_208 (lv_at hl 0 rfl) ?_
                  refine lv_lstore (lv' := [(7, .long (iL v177)), (5, .long (iL v130)), (3, .long (iL v53)), (0, .ref a), (1, .int (iI w)), (2, .int (iI y))]) hx hb d_M_feast_210 hl (by decide) rfl (fun ls hl => ?_)
                  first | (have en : eaN y = v210 := by unfold eaN; rw [eh, if_pos (by omega)]; omega) | (have en : eaN y = v177 := by unfold eaN; rw [eh, if_neg (by omega)])
                  have emr := md_rng (x := 14 + 11 * v53 - 3 * v130 / 4 + (5 + 8 * v130) / 25) (n := 30) (by decide)
                  refine lv_aload_n hx hb d_M_feast_212 rfl (lv_at hl 3 rfl) ?_
                  refine ai_iconst hx hb d_M_feast_213 ?_
                  refine lv_iload_n hx hb d_M_feast_214 rfl (lv_at hl 5 rfl) ?_
                  refine ai_iconst hx hb d_M_feast_215 ?_
                  refine ai_bipush (x := 19) hx hb d_M_feast_216 (by decide +kernel) ?_
                  refine mw_l (rest := []) (ct_M_dayOf l D a ad cx (upF F 0 0) g 0 y 4 19 r (by decide) (fun h => absurd h (by decide)) (hv.1 0 (by decide)) (fun _ _ _ _ => hv.1 0 (by decide)) hca (by omega) (by omega) (by omega) hd1) j_M_dayOf k_1130 s_M_dayOf hF hK hP hD hS (fun _ h => h) rfl hl.1 rfl ⟨Nat.le_of_ble_eq_true rfl, Nat.le_of_ble_eq_true rfl⟩ (Nat.le_of_ble_eq_true rfl) d_M_feast_218 ⟨Nat.zero_le _, Nat.zero_le _⟩ (fun u218 H locs hΦ218 hP hS => ?_)
                  obtain ⟨F218, g218⟩ := u218
                  dsimp only at hΦ218 hP
                  obtain ⟨eg218, t218, z218, c218⟩ := hΦ218
                  rw [eg218] at hP
                  have hD : va_D (Ain a ad) (MWs a ad cx F218 g) := MD.any hD
                  refine lv_lload hx hb d_M_feast_221 (lv_at hl 0 rfl) ?_
                  refine ai_lsub hx hb d_M_feast_223 ?_
                  refine ro_S (rest := []) (ct_M_sundayBehind l (r - v177) (by omega)) j_M_sundayBehind k_1177 hF rfl hl.1 rfl ⟨Nat.le_of_ble_eq_true rfl, Nat.le_of_ble_eq_true rfl⟩ (Nat.le_of_ble_eq_true rfl) d_M_feast_224 ⟨Nat.zero_le _, Nat.zero_le _⟩ Bm_true (fun _ _ _ => trivial) ?_
                  refine ai_l2i hx hb d_M_feast_227 ?_
                  exact mw_iret hx hb hr hlk d_M_feast_228 hP hS (by rw [ex, en]; rfl) ⟨rfl, (by rw [et]; exact t218), z218, c218⟩
                · skip
                  refine lv_lload_n hx hb d_M_feast_193 rfl (lv_at hl 2 rfl) ?_
                  refine ai_ldc2 (x := 10) hx hb hown (hts _ k_1183) (by decide +kernel) d_M_feast_194 ?_
                  refine ai_lcmp_le hx hb d_M_feast_197 d_M_feast_198 rfl (by omega) (by omega) (fun h197 => ?_) (fun h197 => ?_)
                  · skip
                    refine lv_lload hx hb d_M_feast_208 (lv_at hl 0 rfl) ?_
                    refine lv_lstore (lv' := [(7, .long (iL v177)), (5, .long (iL v130)), (3, .long (iL v53)), (0, .ref a), (1, .int (iI w)), (2, .int (iI y))]) hx hb d_M_feast_210 hl (by decide) rfl (fun ls hl => ?_)
                    first | (have en : eaN y = v210 := by unfold eaN; rw [eh, if_pos (by omega)]; omega) | (have en : eaN y = v177 := by unfold eaN; rw [eh, if_neg (by omega)])
                    have emr := md_rng (x := 14 + 11 * v53 - 3 * v130 / 4 + (5 + 8 * v130) / 25) (n := 30) (by decide)
                    refine lv_aload_n hx hb d_M_feast_212 rfl (lv_at hl 3 rfl) ?_
                    refine ai_iconst hx hb d_M_feast_213 ?_
                    refine lv_iload_n hx hb d_M_feast_214 rfl (lv_at hl 5 rfl) ?_
                    refine ai_iconst hx hb d_M_feast_215 ?_
                    refine ai_bipush (x := 19) hx hb d_M_feast_216 (by decide +kernel) ?_
                    refine mw_l (rest := []) (ct_M_dayOf l D a ad cx (upF F 0 0) g 0 y 4 19 r (by decide) (fun h => absurd h (by decide)) (hv.1 0 (by decide)) (fun _ _ _ _ => hv.1 0 (by decide)) hca (by omega) (by omega) (by omega) hd1) j_M_dayOf k_1130 s_M_dayOf hF hK hP hD hS (fun _ h => h) rfl hl.1 rfl ⟨Nat.le_of_ble_eq_true rfl, Nat.le_of_ble_eq_true rfl⟩ (Nat.le_of_ble_eq_true rfl) d_M_feast_218 ⟨Nat.zero_le _, Nat.zero_le _⟩ (fun u218 H locs hΦ218 hP hS => ?_)
                    obtain ⟨F218, g218⟩ := u218
                    dsimp only at hΦ218 hP
                    obtain ⟨eg218, t218, z218, c218⟩ := hΦ218
                    rw [eg218] at hP
                    have hD : va_D (Ain a ad) (MWs a ad cx F218 g) := MD.any hD
                    refine lv_lload hx hb d_M_feast_221 (lv_at hl 0 rfl) ?_
                    refine ai_lsub hx hb d_M_feast_223 ?_
                    refine ro_S (rest := []) (ct_M_sundayBehind l (r - v177) (by omega)) j_M_sundayBehind k_1177 hF rfl hl.1 rfl ⟨Nat.le_of_ble_eq_true rfl, Nat.le_of_ble_eq_true rfl⟩ (Nat.le_of_ble_eq_true rfl) d_M_feast_224 ⟨Nat.zero_le _, Nat.zero_le _⟩ Bm_true (fun _ _ _ => trivial) ?_
                    refine ai_l2i hx hb d_M_feast_227 ?_
                    exact mw_iret hx hb hr hlk d_M_feast_228 hP hS (by rw [ex, en]; rfl) ⟨rfl, (by rw [et]; exact t218), z218, c218⟩
                  · skip
                    refine lv_lload hx hb d_M_feast_201 (lv_at hl 0 rfl) ?_
                    refine ai_lconst (x := 1) hx hb d_M_feast_203 (by decide +kernel) ?_
                    refine ai_ladd hx hb d_M_feast_204 ?_
                    refine lv_goto hx hb d_M_feast_205 rfl ?_
                    refine ai_nmL hx hb (fun v210 e210 => ?_)
                    refine lv_lstore (lv' := [(7, .long (iL v210)), (5, .long (iL v130)), (3, .long (iL v53)), (0, .ref a), (1, .int (iI w)), (2, .int (iI y))]) hx hb d_M_feast_210 hl (by decide) rfl (fun ls hl => ?_)
                    first | (have en : eaN y = v210 := by unfold eaN; rw [eh, if_pos (by omega)]; omega) | (have en : eaN y = v177 := by unfold eaN; rw [eh, if_neg (by omega)])
                    have emr := md_rng (x := 14 + 11 * v53 - 3 * v130 / 4 + (5 + 8 * v130) / 25) (n := 30) (by decide)
                    refine lv_aload_n hx hb d_M_feast_212 rfl (lv_at hl 3 rfl) ?_
                    refine ai_iconst hx hb d_M_feast_213 ?_
                    refine lv_iload_n hx hb d_M_feast_214 rfl (lv_at hl 5 rfl) ?_
                    refine ai_iconst hx hb d_M_feast_215 ?_
                    refine ai_bipush (x := 19) hx hb d_M_feast_216 (by decide +kernel) ?_
                    refine mw_l (rest := []) (ct_M_dayOf l D a ad cx (upF F 0 0) g 0 y 4 19 r (by decide) (fun h => absurd h (by decide)) (hv.1 0 (by decide)) (fun _ _ _ _ => hv.1 0 (by decide)) hca (by omega) (by omega) (by omega) hd1) j_M_dayOf k_1130 s_M_dayOf hF hK hP hD hS (fun _ h => h) rfl hl.1 rfl ⟨Nat.le_of_ble_eq_true rfl, Nat.le_of_ble_eq_true rfl⟩ (Nat.le_of_ble_eq_true rfl) d_M_feast_218 ⟨Nat.zero_le _, Nat.zero_le _⟩ (fun u218 H locs hΦ218 hP hS => ?_)
                    obtain ⟨F218, g218⟩ := u218
                    dsimp only at hΦ218 hP
                    obtain ⟨eg218, t218, z218, c218⟩ := hΦ218
                    rw [eg218] at hP
                    have hD : va_D (Ain a ad) (MWs a ad cx F218 g) := MD.any hD
                    refine lv_lload hx hb d_M_feast_221 (lv_at hl 0 rfl) ?_
                    refine ai_lsub hx hb d_M_feast_223 ?_
                    refine ro_S (rest := []) (ct_M_sundayBehind l (r - v210) (by omega)) j_M_sundayBehind k_1177 hF rfl hl.1 rfl ⟨Nat.le_of_ble_eq_true rfl, Nat.le_of_ble_eq_true rfl⟩ (Nat.le_of_ble_eq_true rfl) d_M_feast_224 ⟨Nat.zero_le _, Nat.zero_le _⟩ Bm_true (fun _ _ _ => trivial) ?_
                    refine ai_l2i hx hb d_M_feast_227 ?_
                    exact mw_iret hx hb hr hlk d_M_feast_228 hP hS (by rw [ex, en]; rfl) ⟨rfl, (by rw [et]; exact t218), z218, c218⟩
            · skip
              obtain ⟨hd1, ex⟩ : DOM g 1 (if 0 < y then y else y - 1) 4 19 r ∧ x = sunb (r - (14 + 11 * (y % 19)) % 30) := by rcases hfi with ⟨a1, a2, a3⟩ | ⟨a1, a2, a3⟩ | ⟨a1, a2, a3⟩; omega; exact ⟨a2, a3⟩; omega
              refine lv_aload_n hx hb d_M_feast_80 rfl (lv_at hl 1 rfl) ?_
              refine ai_iconst hx hb d_M_feast_81 ?_
              refine lv_iload_n hx hb d_M_feast_82 rfl (lv_at hl 3 rfl) ?_
              refine ai_if_le hx hb d_M_feast_83 rfl (by omega) (fun h83 => ?_) (fun h83 => ?_)
              · skip
                rw [if_neg (by omega)] at hd1
                refine lv_iload_n hx hb d_M_feast_90 rfl (lv_at hl 3 rfl) ?_
                refine ai_iconst hx hb d_M_feast_91 ?_
                refine ai_isub hx hb d_M_feast_92 ?_
                refine ai_iconst hx hb d_M_feast_93 ?_
                refine ai_bipush (x := 19) hx hb d_M_feast_94 (by decide +kernel) ?_
                refine mw_l (rest := []) (ct_M_dayOf l D a ad cx (upF F 0 0) g 1 (y - 1) 4 19 r (by decide) (fun h => absurd h (by decide)) (hv.1 0 (by decide)) (fun _ _ _ _ => hv.1 1 (by decide)) hca (by omega) (by omega) (by omega) hd1) j_M_dayOf k_1130 s_M_dayOf hF hK hP hD hS (fun _ h => h) rfl hl.1 rfl ⟨Nat.le_of_ble_eq_true rfl, Nat.le_of_ble_eq_true rfl⟩ (Nat.le_of_ble_eq_true rfl) d_M_feast_96 ⟨Nat.zero_le _, Nat.zero_le _⟩ (fun u96 H locs hΦ96 hP hS => ?_)
                obtain ⟨F96, g96⟩ := u96
                dsimp only at hΦ96 hP
                obtain ⟨eg96, t96, z96, c96⟩ := hΦ96
                rw [eg96] at hP
                have hD : va_D (Ain a ad) (MWs a ad cx F96 g) := MD.any hD
                refine ai_ldc2 (x := 14) hx hb hown (hts _ k_935) (by decide +kernel) d_M_feast_99 ?_
                refine ai_ldc2 (x := 11) hx hb hown (hts _ k_934) (by decide +kernel) d_M_feast_102 ?_
                refine lv_lload_n hx hb d_M_feast_105 rfl (lv_at hl 0 rfl) ?_
                refine ai_lmul hx hb d_M_feast_106 ?_
                refine ai_ladd hx hb d_M_feast_107 ?_
                refine ai_ldc2 (x := 30) hx hb hown (hts _ k_936) (by decide +kernel) d_M_feast_108 ?_
                refine ro_S (rest := [.long (iL r)]) (ct_M_mod l (14 + (11 * v53)) 30 (by omega) (by omega)) j_M_mod k_925 hF rfl hl.1 rfl ⟨Nat.le_of_ble_eq_true rfl, Nat.le_of_ble_eq_true rfl⟩ (Nat.le_of_ble_eq_true rfl) d_M_feast_111 ⟨Nat.zero_le _, Nat.zero_le _⟩ Bm_true (fun _ _ _ => trivial) ?_
                refine ai_lsub hx hb d_M_feast_114 ?_
                refine ro_S (rest := []) (ct_M_sundayBehind l (r - ((14 + (11 * v53)) % 30)) (by omega)) j_M_sundayBehind k_1177 hF rfl hl.1 rfl ⟨Nat.le_of_ble_eq_true rfl, Nat.le_of_ble_eq_true rfl⟩ (Nat.le_of_ble_eq_true rfl) d_M_feast_115 ⟨Nat.zero_le _, Nat.zero_le _⟩ Bm_true (fun _ _ _ => trivial) ?_
                refine ai_l2i hx hb d_M_feast_118 ?_
                exact mw_iret hx hb hr hlk d_M_feast_119 hP hS (by rw [ex, e53]; rfl) ⟨rfl, (by rw [et]; exact t96), z96, c96⟩
              · skip
                rw [if_pos (by omega)] at hd1
                refine lv_iload_n hx hb d_M_feast_86 rfl (lv_at hl 3 rfl) ?_
                refine lv_goto hx hb d_M_feast_87 rfl ?_
                refine ai_iconst hx hb d_M_feast_93 ?_
                refine ai_bipush (x := 19) hx hb d_M_feast_94 (by decide +kernel) ?_
                refine mw_l (rest := []) (ct_M_dayOf l D a ad cx (upF F 0 0) g 1 y 4 19 r (by decide) (fun h => absurd h (by decide)) (hv.1 0 (by decide)) (fun _ _ _ _ => hv.1 1 (by decide)) hca (by omega) (by omega) (by omega) hd1) j_M_dayOf k_1130 s_M_dayOf hF hK hP hD hS (fun _ h => h) rfl hl.1 rfl ⟨Nat.le_of_ble_eq_true rfl, Nat.le_of_ble_eq_true rfl⟩ (Nat.le_of_ble_eq_true rfl) d_M_feast_96 ⟨Nat.zero_le _, Nat.zero_le _⟩ (fun u96 H locs hΦ96 hP hS => ?_)
                obtain ⟨F96, g96⟩ := u96
                dsimp only at hΦ96 hP
                obtain ⟨eg96, t96, z96, c96⟩ := hΦ96
                rw [eg96] at hP
                have hD : va_D (Ain a ad) (MWs a ad cx F96 g) := MD.any hD
                refine ai_ldc2 (x := 14) hx hb hown (hts _ k_935) (by decide +kernel) d_M_feast_99 ?_
                refine ai_ldc2 (x := 11) hx hb hown (hts _ k_934) (by decide +kernel) d_M_feast_102 ?_
                refine lv_lload_n hx hb d_M_feast_105 rfl (lv_at hl 0 rfl) ?_
                refine ai_lmul hx hb d_M_feast_106 ?_
                refine ai_ladd hx hb d_M_feast_107 ?_
                refine ai_ldc2 (x := 30) hx hb hown (hts _ k_936) (by decide +kernel) d_M_feast_108 ?_
                refine ro_S (rest := [.long (iL r)]) (ct_M_mod l (14 + (11 * v53)) 30 (by omega) (by omega)) j_M_mod k_925 hF rfl hl.1 rfl ⟨Nat.le_of_ble_eq_true rfl, Nat.le_of_ble_eq_true rfl⟩ (Nat.le_of_ble_eq_true rfl) d_M_feast_111 ⟨Nat.zero_le _, Nat.zero_le _⟩ Bm_true (fun _ _ _ => trivial) ?_
                refine ai_lsub hx hb d_M_feast_114 ?_
                refine ro_S (rest := []) (ct_M_sundayBehind l (r - ((14 + (11 * v53)) % 30)) (by omega)) j_M_sundayBehind k_1177 hF rfl hl.1 rfl ⟨Nat.le_of_ble_eq_true rfl, Nat.le_of_ble_eq_true rfl⟩ (Nat.le_of_ble_eq_true rfl) d_M_feast_115 ⟨Nat.zero_le _, Nat.zero_le _⟩ Bm_true (fun _ _ _ => trivial) ?_
                refine ai_l2i hx hb d_M_feast_118 ?_
                exact mw_iret hx hb hr hlk d_M_feast_119 hP hS (by rw [ex, e53]; rfl) ⟨rfl, (by rw [et]; exact t96), z96, c96⟩
          · skip
            obtain ⟨hd1, ex⟩ : DOM g 9 (y + 3760) 1 15 r ∧ x = r := by rcases hfi with ⟨a1, a2, a3⟩ | ⟨a1, a2, a3⟩ | ⟨a1, a2, a3⟩; exact ⟨a2, a3⟩; omega; omega
            refine lv_aload_n hx hb d_M_feast_59 rfl (lv_at hl 1 rfl) ?_
            refine ai_bipush (x := 9) hx hb d_M_feast_60 (by decide +kernel) ?_
            refine lv_iload_n hx hb d_M_feast_62 rfl (lv_at hl 3 rfl) ?_
            refine ai_sipush (x := 3760) hx hb d_M_feast_63 (by decide +kernel) ?_
            refine ai_iadd hx hb d_M_feast_66 ?_
            refine ai_iconst hx hb d_M_feast_67 ?_
            refine ai_bipush (x := 15) hx hb d_M_feast_68 (by decide +kernel) ?_
            refine mw_l (rest := []) (ct_M_dayOf l D a ad cx (upF F 0 0) g 9 (y + 3760) 1 15 r (by decide) (fun h => absurd h (by decide)) (hv.1 0 (by decide)) (fun h => absurd rfl h) hca (by omega) (by omega) (by omega) hd1) j_M_dayOf k_1130 s_M_dayOf hF hK hP hD hS (fun _ h => h) rfl hl.1 rfl ⟨Nat.le_of_ble_eq_true rfl, Nat.le_of_ble_eq_true rfl⟩ (Nat.le_of_ble_eq_true rfl) d_M_feast_70 ⟨Nat.zero_le _, Nat.zero_le _⟩ (fun u70 H locs hΦ70 hP hS => ?_)
            obtain ⟨F70, g70⟩ := u70
            dsimp only at hΦ70 hP
            obtain ⟨eg70, t70, z70, c70⟩ := hΦ70
            rw [eg70] at hP
            have hD : va_D (Ain a ad) (MWs a ad cx F70 g) := MD.any hD
            refine ai_l2i hx hb d_M_feast_73 ?_
            exact mw_iret hx hb hr hlk d_M_feast_74 hP hS ex.symm ⟨rfl, (by rw [et]; exact t70), z70, c70⟩
        · skip
          obtain ⟨et, ex⟩ : tc = 2 ∧ x = 0 := by rcases hfe with ⟨a1, a2, a3⟩ | ⟨a1, a2, a3, a4⟩ | ⟨a1, a2, a3, a4⟩; omega; exact ⟨a1, a4⟩; omega
          refine ai_iconst hx hb d_M_feast_28 ?_
          refine lv_goto hx hb d_M_feast_29 rfl ?_
          refine va_put (D := D) (cl := CL) (ci := 10) (v := .int (iI 2)) (ty := .int) (C := "DayBookModel") (T := T_M) (N := 19) hx hb hts in_M ty_M ty_M_ok nm_M hown hK hP hD hS 0 rfl rfl 0 (by decide) (hts _ k_946) (fun _ h9 => h9) rfl (by decide +kernel) rfl rfl (Nat.le_of_ble_eq_true rfl) d_M_feast_33 (fun H locs hP hD hS => ?_)
          have hP : va_P D CL (MWs a ad cx (upF F 0 2) g) H := hP
          have hD : va_D (Ain a ad) (MWs a ad cx (upF F 0 2) g) := hD
          refine lv_aload_n hx hb d_M_feast_36 rfl (lv_at hl 0 rfl) ?_
          refine va_get (D := D) (cl := CL) (ci := 10) (v := .int (iI 2)) (C := "DayBookModel") (T := T_M) (N := 19) hx hb hts in_M hown hK hP 0 rfl rfl 0 (by decide) (hts _ k_946) (fun _ h9 => h9) rfl d_M_feast_37 ?_
          refine ai_if_le hx hb d_M_feast_40 rfl (by omega) (fun h40 => by exfalso; omega) (fun h40 => ?_)
          refine ai_iconst hx hb d_M_feast_43 ?_
          exact mw_iret hx hb hr hlk d_M_feast_44 hP hS ex.symm ⟨rfl, et.symm, rfl, hca⟩
    · skip
      obtain ⟨et, ex⟩ : tc = 1 ∧ x = 0 := by rcases hfe with ⟨a1, a2, a3⟩ | ⟨a1, a2, a3, a4⟩ | ⟨a1, a2, a3, a4⟩; exact ⟨a1, a3⟩; omega; omega
      refine ai_iconst hx hb d_M_feast_10 ?_
      refine lv_goto hx hb d_M_feast_11 rfl ?_
      refine va_put (D := D) (cl := CL) (ci := 10) (v := .int (iI 1)) (ty := .int) (C := "DayBookModel") (T := T_M) (N := 19) hx hb hts in_M ty_M ty_M_ok nm_M hown hK hP hD hS 0 rfl rfl 0 (by decide) (hts _ k_946) (fun _ h9 => h9) rfl (by decide +kernel) rfl rfl (Nat.le_of_ble_eq_true rfl) d_M_feast_33 (fun H locs hP hD hS => ?_)
      have hP : va_P D CL (MWs a ad cx (upF F 0 1) g) H := hP
      have hD : va_D (Ain a ad) (MWs a ad cx (upF F 0 1) g) := hD
      refine lv_aload_n hx hb d_M_feast_36 rfl (lv_at hl 0 rfl) ?_
      refine va_get (D := D) (cl := CL) (ci := 10) (v := .int (iI 1)) (C := "DayBookModel") (T := T_M) (N := 19) hx hb hts in_M hown hK hP 0 rfl rfl 0 (by decide) (hts _ k_946) (fun _ h9 => h9) rfl d_M_feast_37 ?_
      refine ai_if_le hx hb d_M_feast_40 rfl (by omega) (fun h40 => by exfalso; omega) (fun h40 => ?_)
      refine ai_iconst hx hb d_M_feast_43 ?_
      exact mw_iret hx hb hr hlk d_M_feast_44 hP hS ex.symm ⟨rfl, et.symm, rfl, hca⟩
def mtW (fM fD : Int → Int) (mn dd t : Int) : Prop := fM t = mn ∧ fD t = dd
noncomputable def cnW (fM fD : Int → Int) (mn dd s0 : Int) : Nat → Int := cm (fun i => bI (mtW fM fD mn dd (s0 + i)))
/-- the k-th day of a row of days whose month and day are these, or none -/
def WHM (fM fD : Int → Int) (mn dd s0 e0 k x : Int) : Prop := (∃ t : Int, (s0 ≤ t ∧ t < e0) ∧ mtW fM fD mn dd t ∧ cnW fM fD mn dd s0 (t - s0).toNat = k ∧ x = t) ∨ ((∀ t : Int, s0 ≤ t → t < e0 → mtW fM fD mn dd t → cnW fM fD mn dd s0 (t - s0).toNat ≠ k) ∧ x = -2147483648)
theorem cnW_step {fM fD : Int → Int} {mn dd s0 t : Int} (h : s0 ≤ t) : cnW fM fD mn dd s0 (t + 1 - s0).toNat = cnW fM fD mn dd s0 (t - s0).toNat + bI (mtW fM fD mn dd t) := by
  rw [show (t + 1 - s0).toNat = (t - s0).toNat + 1 by omega]
  show cnW fM fD mn dd s0 (t - s0).toNat + bI (mtW fM fD mn dd (s0 + (((t - s0).toNat : Nat) : Int))) = _
  rw [show s0 + (((t - s0).toNat : Nat) : Int) = t by omega]
theorem cnW_rng {fM fD : Int → Int} {mn dd s0 : Int} : ∀ n : Nat, 0 ≤ cnW fM fD mn dd s0 n ∧ cnW fM fD mn dd s0 n ≤ n
  | 0 => by unfold cnW; simp [cm]
  | n + 1 => by
    have h := cnW_rng (fM := fM) (fD := fD) (mn := mn) (dd := dd) (s0 := s0) n
    have b := bI_01 (mtW fM fD mn dd (s0 + n))
    show 0 ≤ cnW fM fD mn dd s0 n + bI (mtW fM fD mn dd (s0 + n)) ∧ cnW fM fD mn dd s0 n + bI (mtW fM fD mn dd (s0 + n)) ≤ _
    omega
theorem cnW_mono {fM fD : Int → Int} {mn dd s0 : Int} {a b : Nat} (h : a ≤ b) : cnW fM fD mn dd s0 a ≤ cnW fM fD mn dd s0 b := cm_le (fun i => (bI_01 _).1) h
theorem WHM.hit {fM fD : Int → Int} {mn dd s0 e0 k x t0 : Int} (h : WHM fM fD mn dd s0 e0 k x) (h0 : s0 ≤ t0 ∧ t0 < e0) (hm : mtW fM fD mn dd t0) (hk : cnW fM fD mn dd s0 (t0 - s0).toNat = k) : t0 = x := by
  rcases h with ⟨t, t1, t2, t3, t4⟩ | ⟨q, -⟩
  · have e : t = t0 := by
      by_cases z : t < t0
      · have a := cnW_mono (fM := fM) (fD := fD) (mn := mn) (dd := dd) (s0 := s0) (a := (t + 1 - s0).toNat) (b := (t0 - s0).toNat) (by omega)
        rw [cnW_step t1.1, bI_t t2] at a
        omega
      · by_cases z2 : t0 < t
        · have a := cnW_mono (fM := fM) (fD := fD) (mn := mn) (dd := dd) (s0 := s0) (a := (t0 + 1 - s0).toNat) (b := (t - s0).toNat) (by omega)
          rw [cnW_step h0.1, bI_t hm] at a
          omega
        · omega
    omega
  · exact absurd hk (q t0 h0.1 h0.2 hm)
theorem iI_eqzW {a : Int} (h : -4294967295 ≤ a ∧ a ≤ 4294967295) : iI a = 0 ↔ a = 0 := by
  refine ⟨fun q => ?_, fun q => by rw [q]; decide +kernel⟩
  have q1 : (iI a).toBitVec.toNat = (a % 4294967296).toNat := by
    show (BitVec.ofInt 32 a).toNat = _
    rw [BitVec.toNat_ofInt]
    rfl
  rw [q] at q1
  have q2 : (0 : Int32).toBitVec.toNat = 0 := by decide
  omega
section IFW
variable {p : Program} {l : Launch} {e : Env} {R : Room} {s : State} {m : MethodId} {args : Array Value} {below : List Frame} {meth : Method} {c : Code} {H : Heap} {locs : List Loc} {cells slots : Nat} {Q : State → Prop} {cc : ByteArray} {pc : Nat} {ls : Array Slot} {rest : List Value}
theorem ai_if_neW (hexec : p.tables.exec = Jvm.exec) (hb : c.code = cc) {a : Int} {off : Int} {tgt : Nat} (hdg : decode cc pc = .ok (.ifCond .ne off, 3)) (ht : (pc : Int) + off = (tgt : Int)) (ra : -4294967295 ≤ a ∧ a ≤ 4294967295) (kt : a ≠ 0 → W p l e R s m args below meth c H locs cells slots Q (F0 m tgt ls rest)) (kf : a = 0 → W p l e R s m args below meth c H locs cells slots Q (F0 m (pc + 3) ls rest)) : W p l e R s m args below meth c H locs cells slots Q (F0 m pc ls (.int (iI a) :: rest)) :=
  lv_if_ne hexec hb hdg ht (fun h => kt (mt (iI_eqzW ra).mpr h)) (fun h => kf ((iI_eqzW ra).mp h))
end IFW
def WTM (g : Nat → Nat → Int) (fM fD : Int → Int) (cal mn dd y k tc x : Int) : Prop := (tc = 1 ∧ ¬ hcM g cal ∧ x = 0) ∨ (tc = 2 ∧ hcM g cal ∧ ¬ (-90000 ≤ y ∧ y ≤ 90000) ∧ x = 0) ∨ (tc = 0 ∧ hcM g cal ∧ (-90000 ≤ y ∧ y ≤ 90000) ∧ WHM fM fD mn dd (ysM g 0 y) (ysM g 0 (y + 1)) k x)
theorem ys0_rng {g : Nat → Nat → Int} {y : Int} (h : -90001 ≤ y ∧ y ≤ 90001) : -34000000 ≤ ysM g 0 y ∧ ysM g 0 y ≤ 34000000 := by
  have e1 : epM g 0 = 1 := rfl
  have e2 : plM g 0 = 365 := rfl
  have e3 : ∀ z, lbM g 0 z = lb0 z := fun z => rfl
  unfold ysM ys
  rw [e1, e2, e3, e3]
  unfold lb0
  omega
set_option maxHeartbeats 4000000 in
set_option maxRecDepth 100000 in
theorem ct_M_when (l : Launch) (D : va_G) (a : Nat) (ad : Nat → Nat) (cx : Nat → ClassId) (F : Nat → Int) (g : Nat → Nat → Int) (cal : Int) (mn : Int) (dd : Int) (y : Int) (k : Int) (tc : Int) (x : Int) (fY : Int → Int) (fM : Int → Int) (fD : Int → Int) (hv : MInv g) (hca : CacheOK F g) (rc : -2147483648 ≤ cal ∧ cal ≤ 2147483647) (rm : -2147483648 ≤ mn ∧ mn ≤ 2147483647) (rdd : -2147483648 ≤ dd ∧ dd ≤ 2147483647) (ry : -2147483648 ≤ y ∧ y ≤ 2147483647) (rk : -2147483648 ≤ k ∧ k ≤ 2147483647) (hdt : hcM g cal → ∀ t, -34000000 ≤ t → t ≤ 34000000 → DTM g cal t (fY t) (fM t) (fD t) ∧ (0 ≤ fM t ∧ fM t ≤ 1000) ∧ (0 ≤ fD t ∧ fD t ≤ 1000)) (htc : WTM g fM fD cal mn dd y k tc x) : MW l y_M_when w_M_when 8 198 [.ref a, .int (iI cal), .int (iI mn), .int (iI dd), .int (iI y), .int (iI k)] D a ad cx F g (QMi D a ad cx x (fun u => u.2 = g ∧ u.1 0 = tc ∧ u.1 8 = F 8 ∧ CacheOK u.1 g)) := by
  refine mw_of (by decide +kernel) (Nat.le_of_ble_eq_true rfl) ?_
  intro p e s m below meth c ls hx hb hr hts hown hlk hml hl hN hK hP hD
  have hown : s.vm.findClass "DayBookModel" = some m.cls := hown
  have hl : lv_has ls 11 [(0, .ref a), (1, .int (iI cal)), (2, .int (iI mn)), (3, .int (iI dd)), (4, .int (iI y)), (5, .int (iI k))] := hl
  have hF : _ ∧ _ ∧ _ ∧ _ ∧ _ ∧ _ := ⟨hx, hb, hml, hown, hts, hN⟩
  have hS : va_S (Ain a ad) s.heap s.heap [] := va_S.rf
  have hJ72 : ∀ (N : Nat) (H : Heap) (locs : List Loc) (Fv : Nat → Int) (t0 : Int) (lf : Int) (e0 : Int) (ls : Array Slot), va_P D CL (MWs a ad cx Fv g) H → va_S (Ain a ad) s.heap H locs → lv_has ls 11 [(9, .long (iL t0)), (7, .long (iL e0)), (6, .int (iI lf)), (0, .ref a), (1, .int (iI cal)), (2, .int (iI mn)), (3, .int (iI dd))] → (hcM g cal) → (tc = 0) → (WHM fM fD mn dd (ysM g 0 y) (ysM g 0 (y + 1)) k x) → (Fv 0 = 0) → (Fv 8 = F 8) → (CacheOK Fv g) → (-34000000 ≤ ysM g 0 y ∧ ysM g 0 y ≤ 34000000) → (-34000000 ≤ ysM g 0 (y + 1) ∧ ysM g 0 (y + 1) ≤ 34000000) → (e0 = ysM g 0 (y + 1)) → (ysM g 0 y ≤ t0 ∧ t0 ≤ ysM g 0 (y + 1)) → (lf = k - cnW fM fD mn dd (ysM g 0 y) (t0 - ysM g 0 y).toNat) → (lf < 0 ∨ cnW fM fD mn dd (ysM g 0 y) (t0 - ysM g 0 y).toNat ≤ k) → (∀ t : Int, ysM g 0 y ≤ t → t < t0 → mtW fM fD mn dd t → cnW fM fD mn dd (ysM g 0 y) (t - ysM g 0 y).toNat ≠ k) → (ysM g 0 y + 365 ≤ ysM g 0 (y + 1) ∧ ysM g 0 (y + 1) ≤ ysM g 0 y + 366) → (ysM g 0 (y + 1) - t0).toNat < N → W p l e (headSpec w_M_when ({ frames := 8, cells := 0, slots := 0, locals := 198 })).room s m [.ref a, .int (iI cal), .int (iI mn), .int (iI dd), .int (iI y), .int (iI k)].toArray below meth c H locs 0 0 (MQ below (QMi D a ad cx x (fun u => u.2 = g ∧ u.1 0 = tc ∧ u.1 8 = F 8 ∧ CacheOK u.1 g)) [.ref a, .int (iI cal), .int (iI mn), .int (iI dd), .int (iI y), .int (iI k)].toArray s 0 0 (Ain a ad)) (F0 m 72 ls []) := by
    intro N
    induction N with
    | zero => intro _ _ _ _ _ _ _ _ _ _ _ _ _ _ _ _ _ _ _ _ _ _ _ _ hm; exact absurd hm (Nat.not_lt_zero _)
    | succ N ih =>
      intro H locs Fv t0 lf e0 ls hP hS hl hc_ et hwh f0 f8 fc w0 w1 i0 i1 i2 i3 i4 w2 hm
      have hD : va_D (Ain a ad) (MWs a ad cx Fv g) := MD.any hD
      refine lv_lload hx hb d_M_when_72 (lv_at hl 0 rfl) ?_
      refine lv_lload hx hb d_M_when_74 (lv_at hl 1 rfl) ?_
      refine ai_lcmp_ge hx hb d_M_when_76 d_M_when_77 rfl (by omega) (by omega) (fun h76 => ?_) (fun h76 => ?_)
      · skip
        refine ai_ldc (x := -2147483648) hx hb hown (hts _ k_906) (by decide +kernel) d_M_when_124 ?_
        exact mw_iret hx hb hr hlk d_M_when_126 hP hS (by rcases hwh with ⟨t, t1, t2, t3, t4⟩ | ⟨-, q⟩; exact absurd t3 (i4 t t1.1 (by omega) t2); exact q.symm) ⟨rfl, (by rw [et]; exact f0), f8, fc⟩
      · skip
        have hfr := (hdt hc_ t0 (by omega) (by omega)).2
        have cr := cnW_rng (fM := fM) (fD := fD) (mn := mn) (dd := dd) (s0 := ysM g 0 y) (t0 - ysM g 0 y).toNat
        have cst_ := cnW_step (fM := fM) (fD := fD) (mn := mn) (dd := dd) (s0 := ysM g 0 y) (t := t0) (by omega)
        refine lv_aload_n hx hb d_M_when_80 rfl (lv_at hl 3 rfl) ?_
        refine lv_iload_n hx hb d_M_when_81 rfl (lv_at hl 4 rfl) ?_
        refine lv_lload hx hb d_M_when_82 (lv_at hl 0 rfl) ?_
        refine mw_v (rest := []) (ct_M_findDate l D a ad cx Fv g cal t0 (fY t0) (fM t0) (fD t0) (MInv.cal hc_) (hv.ho hc_) (hv.1 0 (by decide)) (hv.cy hc_) fc (by omega) (hdt hc_ t0 (by omega) (by omega)).1) j_M_findDate k_1030 s_M_findDate hF hK hP hD hS (fun _ h => h) rfl hl.1 rfl ⟨Nat.le_of_ble_eq_true rfl, Nat.le_of_ble_eq_true rfl⟩ (Nat.le_of_ble_eq_true rfl) d_M_when_84 ⟨Nat.zero_le _, Nat.zero_le _⟩ (fun u84 H locs hΦ84 hP hS => ?_)
        obtain ⟨F84, g84⟩ := u84
        dsimp only at hΦ84 hP
        obtain ⟨eg84, y84, m84, d84, t84, z84, c84⟩ := hΦ84
        rw [eg84] at hP
        have hD : va_D (Ain a ad) (MWs a ad cx F84 g) := MD.any hD
        refine lv_aload_n hx hb d_M_when_87 rfl (lv_at hl 3 rfl) ?_
        refine va_get (D := D) (cl := CL) (ci := 10) (v := .int (iI (F84 6))) (C := "DayBookModel") (T := T_M) (N := 19) hx hb hts in_M hown hK hP 0 rfl rfl 15 (by decide) (hts _ k_961) (fun _ h9 => h9) rfl d_M_when_88 ?_
        refine lv_iload_n hx hb d_M_when_91 rfl (lv_at hl 5 rfl) ?_
        refine ai_icmp_ne hx hb d_M_when_92 rfl (by omega) (by omega) (fun h92 => ?_) (fun h92 => ?_)
        · skip
          refine lv_lload hx hb d_M_when_115 (lv_at hl 0 rfl) ?_
          refine ai_lconst (x := 1) hx hb d_M_when_117 (by decide +kernel) ?_
          refine ai_ladd hx hb d_M_when_118 ?_
          refine ai_nmL hx hb (fun v119 e119 => ?_)
          refine lv_lstore (lv' := [(9, .long (iL v119)), (7, .long (iL e0)), (6, .int (iI lf)), (0, .ref a), (1, .int (iI cal)), (2, .int (iI mn)), (3, .int (iI dd))]) hx hb d_M_when_119 hl (by decide) rfl (fun ls hl => ?_)
          refine lv_goto hx hb d_M_when_121 rfl ?_
          exact ih _ _ F84 v119 lf e0 _ hP hS (lv_sub hl [0, 1, 2, 3, 4, 5, 6] rfl) hc_ et hwh (t84.trans f0) (z84.trans f8) c84 w0 w1 i0 (by omega) (by rw [e119, cst_]; first | (rw [bI_t hmt]; omega) | (rw [bI_f (fun q => by have q1 := q.1; have q2 := q.2; omega)]; omega)) (by rw [e119, cst_]; first | (rw [bI_t hmt]; omega) | (rw [bI_f (fun q => by have q1 := q.1; have q2 := q.2; omega)]; omega)) (fun t h1 h2 h3 => by by_cases z : t = t0; (subst z; first | omega | exact absurd h3 (fun q => by have q1 := q.1; have q2 := q.2; omega)); exact i4 t h1 (by omega) h3) w2 (by omega)
        · skip
          refine lv_aload_n hx hb d_M_when_95 rfl (lv_at hl 3 rfl) ?_
          refine va_get (D := D) (cl := CL) (ci := 10) (v := .int (iI (F84 7))) (C := "DayBookModel") (T := T_M) (N := 19) hx hb hts in_M hown hK hP 0 rfl rfl 16 (by decide) (hts _ k_962) (fun _ h9 => h9) rfl d_M_when_96 ?_
          refine lv_iload_n hx hb d_M_when_99 rfl (lv_at hl 6 rfl) ?_
          refine ai_icmp_ne hx hb d_M_when_100 rfl (by omega) (by omega) (fun h100 => ?_) (fun h100 => ?_)
          · skip
            refine lv_lload hx hb d_M_when_115 (lv_at hl 0 rfl) ?_
            refine ai_lconst (x := 1) hx hb d_M_when_117 (by decide +kernel) ?_
            refine ai_ladd hx hb d_M_when_118 ?_
            refine ai_nmL hx hb (fun v119 e119 => ?_)
            refine lv_lstore (lv' := [(9, .long (iL v119)), (7, .long (iL e0)), (6, .int (iI lf)), (0, .ref a), (1, .int (iI cal)), (2, .int (iI mn)), (3, .int (iI dd))]) hx hb d_M_when_119 hl (by decide) rfl (fun ls hl => ?_)
            refine lv_goto hx hb d_M_when_121 rfl ?_
            exact ih _ _ F84 v119 lf e0 _ hP hS (lv_sub hl [0, 1, 2, 3, 4, 5, 6] rfl) hc_ et hwh (t84.trans f0) (z84.trans f8) c84 w0 w1 i0 (by omega) (by rw [e119, cst_]; first | (rw [bI_t hmt]; omega) | (rw [bI_f (fun q => by have q1 := q.1; have q2 := q.2; omega)]; omega)) (by rw [e119, cst_]; first | (rw [bI_t hmt]; omega) | (rw [bI_f (fun q => by have q1 := q.1; have q2 := q.2; omega)]; omega)) (fun t h1 h2 h3 => by by_cases z : t = t0; (subst z; first | omega | exact absurd h3 (fun q => by have q1 := q.1; have q2 := q.2; omega)); exact i4 t h1 (by omega) h3) w2 (by omega)
          · skip
            have hmt : mtW fM fD mn dd t0 := ⟨by omega, by omega⟩
            refine lv_iload hx hb d_M_when_103 (lv_at hl 2 rfl) ?_
            refine ai_if_neW hx hb d_M_when_105 rfl (by omega) (fun h105 => ?_) (fun h105 => ?_)
            · skip
              refine ai_iinc (k := 2) (lv' := [(6, .int (iI (lf + (-1)))), (9, .long (iL t0)), (7, .long (iL e0)), (0, .ref a), (1, .int (iI cal)), (2, .int (iI mn)), (3, .int (iI dd))]) hx hb d_M_when_112 hl rfl (by decide) rfl (fun ls hl => ?_)
              refine lv_lload hx hb d_M_when_115 (lv_at hl 1 rfl) ?_
              refine ai_lconst (x := 1) hx hb d_M_when_117 (by decide +kernel) ?_
              refine ai_ladd hx hb d_M_when_118 ?_
              refine ai_nmL hx hb (fun v119 e119 => ?_)
              refine lv_lstore (lv' := [(9, .long (iL v119)), (6, .int (iI (lf + (-1)))), (7, .long (iL e0)), (0, .ref a), (1, .int (iI cal)), (2, .int (iI mn)), (3, .int (iI dd))]) hx hb d_M_when_119 hl (by decide) rfl (fun ls hl => ?_)
              refine lv_goto hx hb d_M_when_121 rfl ?_
              exact ih _ _ F84 v119 (lf + (-1)) e0 _ hP hS (lv_sub hl [0, 2, 1, 3, 4, 5, 6] rfl) hc_ et hwh (t84.trans f0) (z84.trans f8) c84 w0 w1 i0 (by omega) (by rw [e119, cst_]; first | (rw [bI_t hmt]; omega) | (rw [bI_f (fun q => by have q1 := q.1; have q2 := q.2; omega)]; omega)) (by rw [e119, cst_]; first | (rw [bI_t hmt]; omega) | (rw [bI_f (fun q => by have q1 := q.1; have q2 := q.2; omega)]; omega)) (fun t h1 h2 h3 => by by_cases z : t = t0; (subst z; first | omega | exact absurd h3 (fun q => by have q1 := q.1; have q2 := q.2; omega)); exact i4 t h1 (by omega) h3) w2 (by omega)
            · skip
              refine lv_lload hx hb d_M_when_108 (lv_at hl 0 rfl) ?_
              refine ai_l2i hx hb d_M_when_110 ?_
              exact mw_iret hx hb hr hlk d_M_when_111 hP hS (hwh.hit (by omega) hmt (by omega)) ⟨rfl, (by rw [et]; exact t84.trans f0), z84.trans f8, c84⟩
  refine lv_aload_n hx hb d_M_when_0 rfl (lv_at hl 0 rfl) ?_
  refine lv_aload_n hx hb d_M_when_1 rfl (lv_at hl 0 rfl) ?_
  refine lv_iload_n hx hb d_M_when_2 rfl (lv_at hl 1 rfl) ?_
  refine ro_V (rest := [.ref a]) (ct_M_hasCalendar l D a ad cx F g cal hv (by omega)) j_M_hasCalendar k_1021 (hts _ s_M_hasCalendar) hF (va_recv (q0 := 0) (ci := 10) hK hP rfl rfl) rfl hl.1 rfl ⟨Nat.le_of_ble_eq_true rfl, Nat.le_of_ble_eq_true rfl⟩ (Nat.le_of_ble_eq_true rfl) d_M_when_3 ⟨Nat.zero_le _, Nat.zero_le _⟩ MdB.m (fun U h1 h2 => ⟨va_K.moved h2.alike hK, by rw [h1]; exact hP⟩) ?_
  refine ai_ifneB hx hb d_M_when_6 rfl (fun h6 => ?_) (fun h6 => ?_)
  · skip
    refine lv_iload hx hb d_M_when_13 (lv_at hl 4 rfl) ?_
    refine ai_ldcw (x := -90000) hx hb hown (hts _ k_1175) (by decide +kernel) d_M_when_15 ?_
    refine ai_icmp_lt hx hb d_M_when_18 rfl (by omega) (by omega) (fun h18 => ?_) (fun h18 => ?_)
    · skip
      obtain ⟨et, ex⟩ : tc = 2 ∧ x = 0 := by rcases htc with ⟨a1, a2, a3⟩ | ⟨a1, a2, a3, a4⟩ | ⟨a1, a2, a3, a4⟩; exact absurd h6 a2; exact ⟨a1, a4⟩; omega
      refine ai_iconst hx hb d_M_when_29 ?_
      refine lv_goto hx hb d_M_when_30 rfl ?_
      refine va_put (D := D) (cl := CL) (ci := 10) (v := .int (iI 2)) (ty := .int) (C := "DayBookModel") (T := T_M) (N := 19) hx hb hts in_M ty_M ty_M_ok nm_M hown hK hP hD hS 0 rfl rfl 0 (by decide) (hts _ k_946) (fun _ h9 => h9) rfl (by decide +kernel) rfl rfl (Nat.le_of_ble_eq_true rfl) d_M_when_34 (fun H locs hP hD hS => ?_)
      have hP : va_P D CL (MWs a ad cx (upF F 0 2) g) H := hP
      have hD : va_D (Ain a ad) (MWs a ad cx (upF F 0 2) g) := hD
      refine lv_aload_n hx hb d_M_when_37 rfl (lv_at hl 0 rfl) ?_
      refine va_get (D := D) (cl := CL) (ci := 10) (v := .int (iI 2)) (C := "DayBookModel") (T := T_M) (N := 19) hx hb hts in_M hown hK hP 0 rfl rfl 0 (by decide) (hts _ k_946) (fun _ h9 => h9) rfl d_M_when_38 ?_
      refine ai_if_le hx hb d_M_when_41 rfl (by omega) (fun h41 => by exfalso; omega) (fun h41 => ?_)
      refine ai_iconst hx hb d_M_when_44 ?_
      exact mw_iret hx hb hr hlk d_M_when_45 hP hS ex.symm ⟨rfl, et.symm, rfl, hca⟩
    · skip
      refine lv_iload hx hb d_M_when_21 (lv_at hl 4 rfl) ?_
      refine ai_ldcw (x := 90000) hx hb hown (hts _ k_1176) (by decide +kernel) d_M_when_23 ?_
      refine ai_icmp_le hx hb d_M_when_26 rfl (by omega) (by omega) (fun h26 => ?_) (fun h26 => ?_)
      · skip
        have hc_ := h6
        obtain ⟨et, hwh⟩ : tc = 0 ∧ WHM fM fD mn dd (ysM g 0 y) (ysM g 0 (y + 1)) k x := by rcases htc with ⟨a1, a2, a3⟩ | ⟨a1, a2, a3, a4⟩ | ⟨a1, a2, a3, a4⟩; exact absurd h6 a2; omega; exact ⟨a1, a4⟩
        have w0 := ys0_rng (g := g) (y := y) (by omega)
        have w1 := ys0_rng (g := g) (y := y + 1) (by omega)
        have w2 := ysM0_step g y
        have s00 : ∀ z, stM g 0 z = ysM g 0 z := fun z => rfl
        refine ai_iconst hx hb d_M_when_33 ?_
        refine va_put (D := D) (cl := CL) (ci := 10) (v := .int (iI 0)) (ty := .int) (C := "DayBookModel") (T := T_M) (N := 19) hx hb hts in_M ty_M ty_M_ok nm_M hown hK hP hD hS 0 rfl rfl 0 (by decide) (hts _ k_946) (fun _ h9 => h9) rfl (by decide +kernel) rfl rfl (Nat.le_of_ble_eq_true rfl) d_M_when_34 (fun H locs hP hD hS => ?_)
        have hP : va_P D CL (MWs a ad cx (upF F 0 0) g) H := hP
        have hD : va_D (Ain a ad) (MWs a ad cx (upF F 0 0) g) := hD
        refine lv_aload_n hx hb d_M_when_37 rfl (lv_at hl 0 rfl) ?_
        refine va_get (D := D) (cl := CL) (ci := 10) (v := .int (iI 0)) (C := "DayBookModel") (T := T_M) (N := 19) hx hb hts in_M hown hK hP 0 rfl rfl 0 (by decide) (hts _ k_946) (fun _ h9 => h9) rfl d_M_when_38 ?_
        refine ai_if_le hx hb d_M_when_41 rfl (by omega) (fun h41 => ?_) (fun h41 => by exfalso; omega)
        refine lv_iload hx hb d_M_when_46 (lv_at hl 5 rfl) ?_
        refine lv_istore (lv' := [(6, .int (iI k)), (0, .ref a), (1, .int (iI cal)), (2, .int (iI mn)), (3, .int (iI dd)), (4, .int (iI y)), (5, .int (iI k))]) hx hb d_M_when_48 hl (by decide) rfl (fun ls hl => ?_)
        refine lv_aload_n hx hb d_M_when_50 rfl (lv_at hl 1 rfl) ?_
        refine ai_iconst hx hb d_M_when_51 ?_
        refine lv_iload hx hb d_M_when_52 (lv_at hl 5 rfl) ?_
        refine ai_i2l hx hb d_M_when_54 (by omega) ?_
        refine ai_lconst (x := 1) hx hb d_M_when_55 (by decide +kernel) ?_
        refine ai_ladd hx hb d_M_when_56 ?_
        refine ro_V (rest := []) (ct_M_start l D a ad cx (upF F 0 0) g 0 (y + 1) (by decide) (fun h => absurd h (by decide)) (fun _ => hv.1 0 (by decide)) (by omega)) j_M_start k_1069 (hts _ s_M_start) hF (va_recv (q0 := 0) (ci := 10) hK hP rfl rfl) rfl hl.1 rfl ⟨Nat.le_of_ble_eq_true rfl, Nat.le_of_ble_eq_true rfl⟩ (Nat.le_of_ble_eq_true rfl) d_M_when_57 ⟨Nat.zero_le _, Nat.zero_le _⟩ MdB.m (fun U h1 h2 => ⟨va_K.moved h2.alike hK, by rw [h1]; exact hP⟩) ?_
        refine ai_nmL hx hb (fun v60 e60 => ?_)
        refine lv_lstore (lv' := [(7, .long (iL v60)), (6, .int (iI k)), (0, .ref a), (1, .int (iI cal)), (2, .int (iI mn)), (3, .int (iI dd)), (4, .int (iI y)), (5, .int (iI k))]) hx hb d_M_when_60 hl (by decide) rfl (fun ls hl => ?_)
        refine lv_aload_n hx hb d_M_when_62 rfl (lv_at hl 2 rfl) ?_
        refine ai_iconst hx hb d_M_when_63 ?_
        refine lv_iload hx hb d_M_when_64 (lv_at hl 6 rfl) ?_
        refine ai_i2l hx hb d_M_when_66 (by omega) ?_
        refine ro_V (rest := []) (ct_M_start l D a ad cx (upF F 0 0) g 0 y (by decide) (fun h => absurd h (by decide)) (fun _ => hv.1 0 (by decide)) (by omega)) j_M_start k_1069 (hts _ s_M_start) hF (va_recv (q0 := 0) (ci := 10) hK hP rfl rfl) rfl hl.1 rfl ⟨Nat.le_of_ble_eq_true rfl, Nat.le_of_ble_eq_true rfl⟩ (Nat.le_of_ble_eq_true rfl) d_M_when_67 ⟨Nat.zero_le _, Nat.zero_le _⟩ MdB.m (fun U h1 h2 => ⟨va_K.moved h2.alike hK, by rw [h1]; exact hP⟩) ?_
        refine ai_nmL hx hb (fun v70 e70 => ?_)
        refine lv_lstore (lv' := [(9, .long (iL v70)), (7, .long (iL v60)), (6, .int (iI k)), (0, .ref a), (1, .int (iI cal)), (2, .int (iI mn)), (3, .int (iI dd)), (4, .int (iI y)), (5, .int (iI k))]) hx hb d_M_when_70 hl (by decide) rfl (fun ls hl => ?_)
        exact hJ72 _ _ _ (upF F 0 0) v70 k v60 _ hP hS (lv_sub hl [0, 1, 2, 3, 4, 5, 6] rfl) hc_ et hwh rfl rfl hca w0 w1 (by rw [e60]; exact s00 _) (by have := s00 y; omega) (by have q : v70 = ysM g 0 y := (by rw [e70]; exact s00 y); have z : cnW fM fD mn dd (ysM g 0 y) (v70 - ysM g 0 y).toNat = 0 := (by rw [q, show (ysM g 0 y - ysM g 0 y).toNat = 0 by omega]; rfl); omega) (by have q : v70 = ysM g 0 y := (by rw [e70]; exact s00 y); have z : cnW fM fD mn dd (ysM g 0 y) (v70 - ysM g 0 y).toNat = 0 := (by rw [q, show (ysM g 0 y - ysM g 0 y).toNat = 0 by omega]; rfl); omega) (fun t h1 h2 => absurd h2 (by have := s00 y; omega)) w2 (Nat.lt_succ_self _)
      · skip
        obtain ⟨et, ex⟩ : tc = 2 ∧ x = 0 := by rcases htc with ⟨a1, a2, a3⟩ | ⟨a1, a2, a3, a4⟩ | ⟨a1, a2, a3, a4⟩; exact absurd h6 a2; exact ⟨a1, a4⟩; omega
        refine ai_iconst hx hb d_M_when_29 ?_
        refine lv_goto hx hb d_M_when_30 rfl ?_
        refine va_put (D := D) (cl := CL) (ci := 10) (v := .int (iI 2)) (ty := .int) (C := "DayBookModel") (T := T_M) (N := 19) hx hb hts in_M ty_M ty_M_ok nm_M hown hK hP hD hS 0 rfl rfl 0 (by decide) (hts _ k_946) (fun _ h9 => h9) rfl (by decide +kernel) rfl rfl (Nat.le_of_ble_eq_true rfl) d_M_when_34 (fun H locs hP hD hS => ?_)
        have hP : va_P D CL (MWs a ad cx (upF F 0 2) g) H := hP
        have hD : va_D (Ain a ad) (MWs a ad cx (upF F 0 2) g) := hD
        refine lv_aload_n hx hb d_M_when_37 rfl (lv_at hl 0 rfl) ?_
        refine va_get (D := D) (cl := CL) (ci := 10) (v := .int (iI 2)) (C := "DayBookModel") (T := T_M) (N := 19) hx hb hts in_M hown hK hP 0 rfl rfl 0 (by decide) (hts _ k_946) (fun _ h9 => h9) rfl d_M_when_38 ?_
        refine ai_if_le hx hb d_M_when_41 rfl (by omega) (fun h41 => by exfalso; omega) (fun h41 => ?_)
        refine ai_iconst hx hb d_M_when_44 ?_
        exact mw_iret hx hb hr hlk d_M_when_45 hP hS ex.symm ⟨rfl, et.symm, rfl, hca⟩
  · skip
    obtain ⟨et, ex⟩ : tc = 1 ∧ x = 0 := by rcases htc with ⟨a1, a2, a3⟩ | ⟨a1, a2, a3, a4⟩ | ⟨a1, a2, a3, a4⟩; exact ⟨a1, a3⟩; exact absurd a2 h6; exact absurd a2 h6
    refine ai_iconst hx hb d_M_when_9 ?_
    refine lv_goto hx hb d_M_when_10 rfl ?_
    refine va_put (D := D) (cl := CL) (ci := 10) (v := .int (iI 1)) (ty := .int) (C := "DayBookModel") (T := T_M) (N := 19) hx hb hts in_M ty_M ty_M_ok nm_M hown hK hP hD hS 0 rfl rfl 0 (by decide) (hts _ k_946) (fun _ h9 => h9) rfl (by decide +kernel) rfl rfl (Nat.le_of_ble_eq_true rfl) d_M_when_34 (fun H locs hP hD hS => ?_)
    have hP : va_P D CL (MWs a ad cx (upF F 0 1) g) H := hP
    have hD : va_D (Ain a ad) (MWs a ad cx (upF F 0 1) g) := hD
    refine lv_aload_n hx hb d_M_when_37 rfl (lv_at hl 0 rfl) ?_
    refine va_get (D := D) (cl := CL) (ci := 10) (v := .int (iI 1)) (C := "DayBookModel") (T := T_M) (N := 19) hx hb hts in_M hown hK hP 0 rfl rfl 0 (by decide) (hts _ k_946) (fun _ h9 => h9) rfl d_M_when_38 ?_
    refine ai_if_le hx hb d_M_when_41 rfl (by omega) (fun h41 => by exfalso; omega) (fun h41 => ?_)
    refine ai_iconst hx hb d_M_when_44 ?_
    exact mw_iret hx hb hr hlk d_M_when_45 hP hS ex.symm ⟨rfl, et.symm, rfl, hca⟩
