/-! 32.modelG: laid by program (wip/whole) -/
set_option maxHeartbeats 4000000 in
set_option maxRecDepth 100000 in
theorem ct_M_hasDate (l : Launch) (D : va_G) (a : Nat) (ad : Nat → Nat) (cx : Nat → ClassId) (F : Nat → Int) (g : Nat → Nat → Int) (cal : Int) (y : Int) (mn : Int) (dd : Int) (t0 : Int) (Yr : Int) (Mo : Int) (Dy : Int) (hcal : cal = 10 ∨ cal = 11 ∨ cal = 9 ∨ cal = 2 ∨ cal = 0 ∨ cal = 1 ∨ cal = 3 ∨ cal = 4 ∨ cal = 5 ∨ cal = 6 ∨ cal = 7 ∨ cal = 8 ∨ cal = 12 ∨ cal = 13) (ho : 12 ≤ cal → OwnOK g (Int.toNat (cal - 12))) (hcy0 : CyOK g 0) (hcy : cal ≠ 9 → cal ≠ 2 → cal ≠ 10 → cal ≠ 11 → CyOK g cal) (hca : CacheOK F g) (rd : -46000000 ≤ t0 ∧ t0 ≤ 46000000) (ry : -2147483648 ≤ y ∧ y ≤ 2147483647) (rm : -2147483648 ≤ mn ∧ mn ≤ 2147483647) (rdd : -2147483648 ≤ dd ∧ dd ≤ 2147483647) (rY : -9223372036854775808 ≤ Yr ∧ Yr ≤ 9223372036854775807) (rM : -2147483648 ≤ Mo ∧ Mo ≤ 2147483647) (rDy : -2147483648 ≤ Dy ∧ Dy ≤ 2147483647) (hdt : DTM g cal t0 Yr Mo Dy) : MW l y_M_hasDate w_M_hasDate 8 198 [.ref a, .int (iI cal), .int (iI y), .int (iI mn), .int (iI dd), .long (iL t0)] D a ad cx F g (QMi D a ad cx (bI (Yr = y ∧ Mo = mn ∧ Dy = dd)) (fun u => u.2 = g ∧ u.1 0 = F 0 ∧ u.1 8 = F 8 ∧ CacheOK u.1 g)) := by
  refine mw_of (by decide +kernel) (Nat.le_of_ble_eq_true rfl) ?_
  intro p e s m below meth c ls hx hb hr hts hown hlk hml hl hN hK hP hD
  have hown : s.vm.findClass "DayBookModel" = some m.cls := hown
  have hl : lv_has ls 7 [(0, .ref a), (1, .int (iI cal)), (2, .int (iI y)), (3, .int (iI mn)), (4, .int (iI dd)), (5, .long (iL t0))] := hl
  have hF : _ ∧ _ ∧ _ ∧ _ ∧ _ ∧ _ := ⟨hx, hb, hml, hown, hts, hN⟩
  have hS : va_S (Ain a ad) s.heap s.heap [] := va_S.rf
  refine lv_aload_n hx hb d_M_hasDate_0 rfl (lv_at hl 0 rfl) ?_
  refine lv_iload_n hx hb d_M_hasDate_1 rfl (lv_at hl 1 rfl) ?_
  refine lv_lload hx hb d_M_hasDate_2 (lv_at hl 5 rfl) ?_
  refine mw_v (rest := []) (ct_M_findDate l D a ad cx F g cal t0 Yr Mo Dy hcal ho hcy0 hcy hca (by omega) hdt) j_M_findDate k_1030 s_M_findDate hF hK hP hD hS (fun _ h => h) rfl hl.1 rfl ⟨Nat.le_of_ble_eq_true rfl, Nat.le_of_ble_eq_true rfl⟩ (Nat.le_of_ble_eq_true rfl) d_M_hasDate_4 ⟨Nat.zero_le _, Nat.zero_le _⟩ (fun u4 H locs hΦ4 hP hS => ?_)
  obtain ⟨F4, g4⟩ := u4
  dsimp only at hΦ4 hP
  obtain ⟨eg4, y4, m4, d4, t4, z4, c4⟩ := hΦ4
  rw [eg4] at hP
  have hD : va_D (Ain a ad) (MWs a ad cx F4 g) := MD.any hD
  refine lv_aload_n hx hb d_M_hasDate_7 rfl (lv_at hl 0 rfl) ?_
  refine va_get (D := D) (cl := CL) (ci := 10) (v := .long (iL (F4 5))) (C := "DayBookModel") (T := T_M) (N := 19) hx hb hts in_M hown hK hP 0 rfl rfl 14 (by decide) (hts _ k_960) (fun _ h9 => h9) rfl d_M_hasDate_8 ?_
  refine lv_iload_n hx hb d_M_hasDate_11 rfl (lv_at hl 2 rfl) ?_
  refine ai_i2l hx hb d_M_hasDate_12 (by omega) ?_
  refine ai_lcmp_ne hx hb d_M_hasDate_13 d_M_hasDate_14 rfl (by omega) (by omega) (fun h13 => ?_) (fun h13 => ?_)
  · skip
    refine ai_iconst hx hb d_M_hasDate_38 ?_
    exact mw_zret hx hb hr hlk d_M_hasDate_39 hP hS (ro_0 (by omega) rfl) ⟨rfl, t4, z4, c4⟩
  · skip
    refine lv_aload_n hx hb d_M_hasDate_17 rfl (lv_at hl 0 rfl) ?_
    refine va_get (D := D) (cl := CL) (ci := 10) (v := .int (iI (F4 6))) (C := "DayBookModel") (T := T_M) (N := 19) hx hb hts in_M hown hK hP 0 rfl rfl 15 (by decide) (hts _ k_961) (fun _ h9 => h9) rfl d_M_hasDate_18 ?_
    refine lv_iload_n hx hb d_M_hasDate_21 rfl (lv_at hl 3 rfl) ?_
    refine ai_icmp_ne hx hb d_M_hasDate_22 rfl (by omega) (by omega) (fun h22 => ?_) (fun h22 => ?_)
    · skip
      refine ai_iconst hx hb d_M_hasDate_38 ?_
      exact mw_zret hx hb hr hlk d_M_hasDate_39 hP hS (ro_0 (by omega) rfl) ⟨rfl, t4, z4, c4⟩
    · skip
      refine lv_aload_n hx hb d_M_hasDate_25 rfl (lv_at hl 0 rfl) ?_
      refine va_get (D := D) (cl := CL) (ci := 10) (v := .int (iI (F4 7))) (C := "DayBookModel") (T := T_M) (N := 19) hx hb hts in_M hown hK hP 0 rfl rfl 16 (by decide) (hts _ k_962) (fun _ h9 => h9) rfl d_M_hasDate_26 ?_
      refine lv_iload hx hb d_M_hasDate_29 (lv_at hl 4 rfl) ?_
      refine ai_icmp_ne hx hb d_M_hasDate_31 rfl (by omega) (by omega) (fun h31 => ?_) (fun h31 => ?_)
      · skip
        refine ai_iconst hx hb d_M_hasDate_38 ?_
        exact mw_zret hx hb hr hlk d_M_hasDate_39 hP hS (ro_0 (by omega) rfl) ⟨rfl, t4, z4, c4⟩
      · skip
        refine ai_iconst hx hb d_M_hasDate_34 ?_
        refine lv_goto hx hb d_M_hasDate_35 rfl ?_
        exact mw_zret hx hb hr hlk d_M_hasDate_39 hP hS (ro_1 (by omega) rfl) ⟨rfl, t4, z4, c4⟩
def sY (cal d : Int) : Int := if cal = 10 then suK d / 12 else luC d / 12
noncomputable def sM (cal d : Int) : Int := if cal = 10 then suK d % 12 + 1 else luM d
def sD (cal d : Int) : Int := if cal = 10 then suD d else luD d
theorem DTM_s {g : Nat → Nat → Int} {cal : Int} (h : cal = 10 ∨ cal = 11) (d : Int) : DTM g cal d (sY cal d) (sM cal d) (sD cal d) := by
  rcases h with rfl | rfl
  · exact Or.inl ⟨rfl, rfl, rfl, rfl⟩
  · exact Or.inr (Or.inl ⟨rfl, rfl, rfl, rfl⟩)
theorem s_rng {cal d : Int} (h : cal = 10 ∨ cal = 11) (hd : -100000000 ≤ d ∧ d ≤ 100000000) : (-10000000 ≤ sY cal d ∧ sY cal d ≤ 10000000) ∧ (0 ≤ sM cal d ∧ sM cal d ≤ 200) ∧ (0 ≤ sD cal d ∧ sD cal d ≤ 200) := by
  rcases h with rfl | rfl
  · show (-10000000 ≤ suK d / 12 ∧ suK d / 12 ≤ 10000000) ∧ (0 ≤ suK d % 12 + 1 ∧ suK d % 12 + 1 ≤ 200) ∧ (0 ≤ suD d ∧ suD d ≤ 200)
    have h1 : -700000000000 ≤ suP d ∧ suP d ≤ 710000000000 := by unfold suP; omega
    have h2 : -3400000 ≤ suK d ∧ suK d ≤ 3400000 := db (by decide) (by omega) (by omega)
    have h3 := md_rng (x := suP d) (n := 210389) (by decide)
    have h4 : 0 ≤ suP d % 210389 / 6912 ∧ suP d % 210389 / 6912 ≤ 31 := db (by decide) (by omega) (by omega)
    have h5 : -300000 ≤ suK d / 12 ∧ suK d / 12 ≤ 300000 := db (by decide) (by omega) (by omega)
    have h6 := md_rng (x := suK d) (n := 12) (by decide)
    unfold suD
    generalize suP d % 210389 / 6912 = z1 at *
    generalize suK d / 12 = z2 at *
    generalize suK d % 12 = z3 at *
    omega
  · show (-10000000 ≤ luC d / 12 ∧ luC d / 12 ≤ 10000000) ∧ (0 ≤ luM d ∧ luM d ≤ 200) ∧ (0 ≤ luD d ∧ luD d ≤ 200)
    have a := bI_01 (luL d)
    have h1 : -400000000 ≤ luN d ∧ luN d ≤ 405000000 := by unfold luN; omega
    have h2 : -4000000 ≤ luN d * 53433336 / 6311670000 ∧ luN d * 53433336 / 6311670000 ≤ 4000000 := db (by decide) (by omega) (by omega)
    have h3 : -207360000000000 ≤ luQ d ∧ luQ d ≤ 207360000000000 := by unfold luQ; generalize luN d * 53433336 / 6311670000 = z at *; omega
    have h4 : -4000000 ≤ -luQ d / 53433336 ∧ -luQ d / 53433336 ≤ 4000000 := db (by decide) (by omega) (by omega)
    have h5 : -4000000 ≤ luC d ∧ luC d ≤ 4000000 := by unfold luC; generalize -luQ d / 53433336 = z at *; omega
    have h6 : -400000 ≤ luC d / 12 ∧ luC d / 12 ≤ 400000 := db (by decide) (by omega) (by omega)
    have h7 := md_rng (x := luC d) (n := 12) (by decide)
    have h8 := md_rng (x := luN d * 1603000080 / 6311670000) (n := 30) (by decide)
    unfold luM luD
    generalize luN d * 1603000080 / 6311670000 % 30 = z1 at *
    generalize luC d / 12 = z2 at *
    generalize luC d % 12 = z3 at *
    omega
def mtS (cal y mn dd t : Int) : Prop := sY cal t = y ∧ sM cal t = mn ∧ sD cal t = dd
/-- the first day about 'near' with a date of the sun's or the moon's calendar, or none -/
def LK (cal y mn dd near ab r : Int) : Prop := (mtS cal y mn dd r ∧ (near - ab ≤ r ∧ r ≤ near + ab) ∧ ∀ t, near - ab ≤ t → t < r → ¬ mtS cal y mn dd t) ∨ ((∀ t, near - ab ≤ t → t ≤ near + ab → ¬ mtS cal y mn dd t) ∧ r = -9223372036854775808)
def BF (g : Nat → Nat → Int) (cal k mn b : Int) : Prop := (∃ pl : Nat, (pl : Int) < nmM g cal k ∧ maM cal k pl = mn ∧ (∀ j : Nat, j < pl → maM cal k j ≠ mn) ∧ b = cm (fun i => lnM g cal k (maM cal k i)) pl) ∨ ((∀ j : Nat, (j : Int) < nmM g cal k → maM cal k j ≠ mn) ∧ b = -1)
set_option maxHeartbeats 4000000 in
set_option maxRecDepth 100000 in
theorem ct_M_lookFor (l : Launch) (D : va_G) (a : Nat) (ad : Nat → Nat) (cx : Nat → ClassId) (F : Nat → Int) (g : Nat → Nat → Int) (cal : Int) (y : Int) (mn : Int) (dd : Int) (near : Int) (ab : Int) (r : Int) (hc : cal = 10 ∨ cal = 11) (hcy0 : CyOK g 0) (hca : CacheOK F g) (rn : -45000000 ≤ near ∧ near ≤ 45000000) (rab : 0 ≤ ab ∧ ab ≤ 100) (ry : -2147483648 ≤ y ∧ y ≤ 2147483647) (rm : -2147483648 ≤ mn ∧ mn ≤ 2147483647) (rdd : -2147483648 ≤ dd ∧ dd ≤ 2147483647) (hLK : LK cal y mn dd near ab r) : MW l y_M_lookFor w_M_lookFor 9 224 [.ref a, .int (iI cal), .int (iI y), .int (iI mn), .int (iI dd), .long (iL near), .int (iI ab)] D a ad cx F g (QMl D a ad cx r (fun u => u.2 = g ∧ u.1 0 = F 0 ∧ u.1 8 = F 8 ∧ CacheOK u.1 g)) := by
  refine mw_of (by decide +kernel) (Nat.le_of_ble_eq_true rfl) ?_
  intro p e s m below meth c ls hx hb hr hts hown hlk hml hl hN hK hP hD
  have hown : s.vm.findClass "DayBookModel" = some m.cls := hown
  have hl : lv_has ls 10 [(0, .ref a), (1, .int (iI cal)), (2, .int (iI y)), (3, .int (iI mn)), (4, .int (iI dd)), (5, .long (iL near)), (7, .int (iI ab))] := hl
  have hF : _ ∧ _ ∧ _ ∧ _ ∧ _ ∧ _ := ⟨hx, hb, hml, hown, hts, hN⟩
  have hS : va_S (Ain a ad) s.heap s.heap [] := va_S.rf
  have hJ8 : ∀ (N : Nat) (H : Heap) (locs : List Loc) (Fv : Nat → Int) (t0 : Int) (ls : Array Slot), va_P D CL (MWs a ad cx Fv g) H → va_S (Ain a ad) s.heap H locs → lv_has ls 10 [(8, .long (iL t0)), (0, .ref a), (1, .int (iI cal)), (2, .int (iI y)), (3, .int (iI mn)), (4, .int (iI dd)), (5, .long (iL near)), (7, .int (iI ab))] → (Fv 0 = F 0) → (Fv 8 = F 8) → (CacheOK Fv g) → (near - ab ≤ t0 ∧ t0 ≤ near + ab + 1) → (∀ t, near - ab ≤ t → t < t0 → ¬ mtS cal y mn dd t) → (near + ab + 1 - t0).toNat < N → W p l e (headSpec w_M_lookFor ({ frames := 9, cells := 0, slots := 0, locals := 224 })).room s m [.ref a, .int (iI cal), .int (iI y), .int (iI mn), .int (iI dd), .long (iL near), .int (iI ab)].toArray below meth c H locs 0 0 (MQ below (QMl D a ad cx r (fun u => u.2 = g ∧ u.1 0 = F 0 ∧ u.1 8 = F 8 ∧ CacheOK u.1 g)) [.ref a, .int (iI cal), .int (iI y), .int (iI mn), .int (iI dd), .long (iL near), .int (iI ab)].toArray s 0 0 (Ain a ad)) (F0 m 8 ls []) := by
    intro N
    induction N with
    | zero => intro _ _ _ _ _ _ _ _ _ _ _ _ _ hm; exact absurd hm (Nat.not_lt_zero _)
    | succ N ih =>
      intro H locs Fv t0 ls hP hS hl f0 f8 fc i1 i2 hm
      have hD : va_D (Ain a ad) (MWs a ad cx Fv g) := MD.any hD
      refine lv_lload hx hb d_M_lookFor_8 (lv_at hl 0 rfl) ?_
      refine lv_lload hx hb d_M_lookFor_10 (lv_at hl 6 rfl) ?_
      refine lv_iload hx hb d_M_lookFor_12 (lv_at hl 7 rfl) ?_
      refine ai_i2l hx hb d_M_lookFor_14 (by omega) ?_
      refine ai_ladd hx hb d_M_lookFor_15 ?_
      refine ai_lcmp_gt hx hb d_M_lookFor_16 d_M_lookFor_17 rfl (by omega) (by omega) (fun h16 => ?_) (fun h16 => ?_)
      · skip
        refine ai_ldc2 (x := -9223372036854775808) hx hb hown (hts _ k_1134) (by decide +kernel) d_M_lookFor_46 ?_
        exact mw_lret hx hb hr hlk d_M_lookFor_49 hP hS (by rcases hLK with ⟨q1, q2, q3⟩ | ⟨q1, q2⟩; exact absurd q1 (i2 r (by omega) (by omega)); exact q2.symm) ⟨rfl, f0, f8, fc⟩
      · skip
        have sr := s_rng (cal := cal) (d := t0) hc (by omega)
        refine lv_aload_n hx hb d_M_lookFor_20 rfl (lv_at hl 1 rfl) ?_
        refine lv_iload_n hx hb d_M_lookFor_21 rfl (lv_at hl 2 rfl) ?_
        refine lv_iload_n hx hb d_M_lookFor_22 rfl (lv_at hl 3 rfl) ?_
        refine lv_iload_n hx hb d_M_lookFor_23 rfl (lv_at hl 4 rfl) ?_
        refine lv_iload hx hb d_M_lookFor_24 (lv_at hl 5 rfl) ?_
        refine lv_lload hx hb d_M_lookFor_26 (lv_at hl 0 rfl) ?_
        refine mw_i (rest := []) (ct_M_hasDate l D a ad cx Fv g cal y mn dd t0 (sY cal t0) (sM cal t0) (sD cal t0) (by omega) (fun h => absurd h (by omega)) hcy0 (fun _ _ h1 h2 => absurd hc (by omega)) fc (by omega) (by omega) (by omega) (by omega) (by omega) (by omega) (by omega) (DTM_s hc t0)) j_M_hasDate k_1139 s_M_hasDate hF hK hP hD hS (fun _ h => h) rfl hl.1 rfl ⟨Nat.le_of_ble_eq_true rfl, Nat.le_of_ble_eq_true rfl⟩ (Nat.le_of_ble_eq_true rfl) d_M_lookFor_28 ⟨Nat.zero_le _, Nat.zero_le _⟩ (fun u28 H locs hΦ28 hP hS => ?_)
        obtain ⟨F28, g28⟩ := u28
        dsimp only at hΦ28 hP
        obtain ⟨eg28, t28, z28, c28⟩ := hΦ28
        rw [eg28] at hP
        have hD : va_D (Ain a ad) (MWs a ad cx F28 g) := MD.any hD
        refine ai_ifeqB hx hb d_M_lookFor_31 rfl (fun h31 => ?_) (fun h31 => ?_)
        · skip
          refine lv_lload hx hb d_M_lookFor_37 (lv_at hl 0 rfl) ?_
          refine ai_lconst (x := 1) hx hb d_M_lookFor_39 (by decide +kernel) ?_
          refine ai_ladd hx hb d_M_lookFor_40 ?_
          refine ai_nmL hx hb (fun v41 e41 => ?_)
          refine lv_lstore (lv' := [(8, .long (iL v41)), (0, .ref a), (1, .int (iI cal)), (2, .int (iI y)), (3, .int (iI mn)), (4, .int (iI dd)), (5, .long (iL near)), (7, .int (iI ab))]) hx hb d_M_lookFor_41 hl (by decide) rfl (fun ls hl => ?_)
          refine lv_goto hx hb d_M_lookFor_43 rfl ?_
          exact ih _ _ F28 v41 _ hP hS (lv_sub hl [0, 1, 2, 3, 4, 5, 6, 7] rfl) (t28.trans f0) (z28.trans f8) c28 (by omega) (fun t h1 h2 => by by_cases z : t = t0; (subst z; exact h31); exact i2 t h1 (by omega)) (by omega)
        · skip
          refine lv_lload hx hb d_M_lookFor_34 (lv_at hl 0 rfl) ?_
          exact mw_lret hx hb hr hlk d_M_lookFor_36 hP hS (by rcases hLK with ⟨q1, q2, q3⟩ | ⟨q1, q2⟩; (by_cases z : t0 < r; exact absurd h31 (q3 t0 (by omega) z); by_cases z2 : r < t0; exact absurd q1 (i2 r (by omega) z2); omega); exact absurd h31 (q1 t0 (by omega) (by omega))) ⟨rfl, t28.trans f0, z28.trans f8, c28⟩
  refine lv_lload hx hb d_M_lookFor_0 (lv_at hl 5 rfl) ?_
  refine lv_iload hx hb d_M_lookFor_2 (lv_at hl 6 rfl) ?_
  refine ai_i2l hx hb d_M_lookFor_4 (by omega) ?_
  refine ai_lsub hx hb d_M_lookFor_5 ?_
  refine ai_nmL hx hb (fun v6 e6 => ?_)
  refine lv_lstore (lv' := [(8, .long (iL v6)), (0, .ref a), (1, .int (iI cal)), (2, .int (iI y)), (3, .int (iI mn)), (4, .int (iI dd)), (5, .long (iL near)), (7, .int (iI ab))]) hx hb d_M_lookFor_6 hl (by decide) rfl (fun ls hl => ?_)
  exact hJ8 _ _ _ F v6 _ hP hS (lv_sub hl [0, 1, 2, 3, 4, 5, 6, 7] rfl) rfl rfl hca (by omega) (fun t h1 h2 => absurd h2 (by omega)) (Nat.lt_succ_self _)
set_option maxHeartbeats 4000000 in
set_option maxRecDepth 100000 in
theorem ct_M_before (l : Launch) (D : va_G) (a : Nat) (ad : Nat → Nat) (cx : Nat → ClassId) (F : Nat → Int) (g : Nat → Nat → Int) (cal : Int) (y : Int) (mn : Int) (b : Int) (hcal : cal = 0 ∨ cal = 1 ∨ cal = 3 ∨ cal = 4 ∨ cal = 5 ∨ cal = 6 ∨ cal = 7 ∨ cal = 8 ∨ cal = 9 ∨ cal = 12 ∨ cal = 13) (ho : 12 ≤ cal → OwnOK g (Int.toNat (cal - 12))) (ry : -300000000 ≤ y ∧ y ≤ 300000000) (rm : -2147483648 ≤ mn ∧ mn ≤ 2147483647) (hbf : BF g cal y mn b) : RO l y_M_before w_M_before 6 151 [.ref a, .int (iI cal), .long (iL y), .int (iI mn)] (MdB D a ad cx F g) (.long (iL b)) := by
  refine ro_of (by decide +kernel) (Nat.le_of_ble_eq_true rfl) ?_
  intro p e s m below meth c ls hx hb hr hts hown hlk hml hl hN hB
  have hown : s.vm.findClass "DayBookModel" = some m.cls := hown
  have hl : lv_has ls 9 [(0, .ref a), (1, .int (iI cal)), (2, .long (iL y)), (4, .int (iI mn))] := hl
  have hF : _ ∧ _ ∧ _ ∧ _ ∧ _ ∧ _ := ⟨hx, hb, hml, hown, hts, hN⟩
  have hK := hB.1
  have hP := hB.2
  have hn20 := nmM_rng hcal ho y
  have hJ14 : ∀ (N : Nat) (sm : Int) (j : Nat) (nn : Int) (ls : Array Slot), lv_has ls 9 [(8, .int (iI (j : Int))), (7, .int (iI nn)), (5, .long (iL sm)), (0, .ref a), (1, .int (iI cal)), (2, .long (iL y)), (4, .int (iI mn))] → (nn = nmM g cal y) → ((j : Int) ≤ nmM g cal y) → (sm = cm (fun i => lnM g cal y (maM cal y i)) j) → (∀ i : Nat, i < j → maM cal y i ≠ mn) → (nmM g cal y - j).toNat < N → W p l e (headSpec w_M_before ({ frames := 6, cells := 0, slots := 0, locals := 151 })).room s m [.ref a, .int (iI cal), .long (iL y), .int (iI mn)].toArray below meth c s.heap [] 0 0 (MQ below (k2_QcV (.long (iL b))) [.ref a, .int (iI cal), .long (iL y), .int (iI mn)].toArray s 0 0 (fun _ => False)) (F0 m 14 ls []) := by
    intro N
    induction N with
    | zero => intro _ _ _ _ _ _ _ _ _ hm; exact absurd hm (Nat.not_lt_zero _)
    | succ N ih =>
      intro sm j nn ls hl i1 i2 i3 i4 hm
      have hma := maM_rng (cal := cal) (y := y) (pl := (j : Int)) (by omega)
      have hln := lnM_rng hcal ho y (maM cal y j)
      refine lv_iload hx hb d_M_before_14 (lv_at hl 0 rfl) ?_
      refine lv_iload hx hb d_M_before_16 (lv_at hl 1 rfl) ?_
      refine ai_icmp_ge hx hb d_M_before_18 rfl (by omega) (by omega) (fun h18 => ?_) (fun h18 => ?_)
      · skip
        refine ai_ldc2 (x := -1) hx hb hown (hts _ k_1150) (by decide +kernel) d_M_before_63 ?_
        exact ro_lret hx hb hr hlk d_M_before_66 (by rcases hbf with ⟨pl, p1, p2, -⟩ | ⟨-, p2⟩; exact absurd p2 (i4 pl (by omega)); exact p2.symm)
      · skip
        refine lv_aload_n hx hb d_M_before_21 rfl (lv_at hl 3 rfl) ?_
        refine lv_iload_n hx hb d_M_before_22 rfl (lv_at hl 4 rfl) ?_
        refine lv_lload_n hx hb d_M_before_23 rfl (lv_at hl 5 rfl) ?_
        refine lv_iload hx hb d_M_before_24 (lv_at hl 0 rfl) ?_
        refine ro_V (rest := []) (ct_M_monthAt l D a ad cx F g cal y (j : Int) hcal (by omega) (by omega)) j_M_monthAt k_1101 (hts _ s_M_monthAt) hF hB.recv rfl hl.1 rfl ⟨Nat.le_of_ble_eq_true rfl, Nat.le_of_ble_eq_true rfl⟩ (Nat.le_of_ble_eq_true rfl) d_M_before_26 ⟨Nat.zero_le _, Nat.zero_le _⟩ MdB.m (fun U h1 h2 => MdB.m.2 s U h1 h2 hB) ?_
        refine lv_iload hx hb d_M_before_29 (lv_at hl 6 rfl) ?_
        refine ai_icmp_ne hx hb d_M_before_31 rfl (by omega) (by omega) (fun h31 => ?_) (fun h31 => ?_)
        · skip
          refine lv_lload hx hb d_M_before_37 (lv_at hl 2 rfl) ?_
          refine lv_aload_n hx hb d_M_before_39 rfl (lv_at hl 3 rfl) ?_
          refine lv_iload_n hx hb d_M_before_40 rfl (lv_at hl 4 rfl) ?_
          refine lv_lload_n hx hb d_M_before_41 rfl (lv_at hl 5 rfl) ?_
          refine lv_aload_n hx hb d_M_before_42 rfl (lv_at hl 3 rfl) ?_
          refine lv_iload_n hx hb d_M_before_43 rfl (lv_at hl 4 rfl) ?_
          refine lv_lload_n hx hb d_M_before_44 rfl (lv_at hl 5 rfl) ?_
          refine lv_iload hx hb d_M_before_45 (lv_at hl 0 rfl) ?_
          refine ro_V (rest := [.long (iL y), .int (iI cal), .ref a, .long (iL sm)]) (ct_M_monthAt l D a ad cx F g cal y (j : Int) hcal (by omega) (by omega)) j_M_monthAt k_1101 (hts _ s_M_monthAt) hF hB.recv rfl hl.1 rfl ⟨Nat.le_of_ble_eq_true rfl, Nat.le_of_ble_eq_true rfl⟩ (Nat.le_of_ble_eq_true rfl) d_M_before_47 ⟨Nat.zero_le _, Nat.zero_le _⟩ MdB.m (fun U h1 h2 => MdB.m.2 s U h1 h2 hB) ?_
          refine ro_V (rest := [.long (iL sm)]) (ct_M_lengthOf l D a ad cx F g cal y (maM cal y (j : Int)) hcal ho (by omega) (by omega)) j_M_lengthOf k_1109 (hts _ s_M_lengthOf) hF hB.recv rfl hl.1 rfl ⟨Nat.le_of_ble_eq_true rfl, Nat.le_of_ble_eq_true rfl⟩ (Nat.le_of_ble_eq_true rfl) d_M_before_50 ⟨Nat.zero_le _, Nat.zero_le _⟩ MdB.m (fun U h1 h2 => MdB.m.2 s U h1 h2 hB) ?_
          refine ai_i2l hx hb d_M_before_53 (by omega) ?_
          refine ai_ladd hx hb d_M_before_54 ?_
          refine ai_nmL hx hb (fun v55 e55 => ?_)
          refine lv_lstore (lv' := [(5, .long (iL v55)), (8, .int (iI (j : Int))), (7, .int (iI nn)), (0, .ref a), (1, .int (iI cal)), (2, .long (iL y)), (4, .int (iI mn))]) hx hb d_M_before_55 hl (by decide) rfl (fun ls hl => ?_)
          refine ai_iinc (k := 1) (lv' := [(8, .int (iI ((j : Int) + 1))), (5, .long (iL v55)), (7, .int (iI nn)), (0, .ref a), (1, .int (iI cal)), (2, .long (iL y)), (4, .int (iI mn))]) hx hb d_M_before_57 hl rfl (by decide) rfl (fun ls hl => ?_)
          refine lv_goto hx hb d_M_before_60 rfl ?_
          exact ih v55 (j + 1) nn _ (lv_sub hl [0, 2, 1, 3, 4, 5, 6] rfl) (by omega) (by omega) (by show v55 = cm (fun i => lnM g cal y (maM cal y i)) j + lnM g cal y (maM cal y j); omega) (fun i hi => by by_cases q : i = j; (subst q; exact h31); exact i4 i (by omega)) (by omega)
        · skip
          refine lv_lload hx hb d_M_before_34 (lv_at hl 2 rfl) ?_
          exact ro_lret hx hb hr hlk d_M_before_36 (by rcases hbf with ⟨pl, p1, p2, p3, p4⟩ | ⟨p1, -⟩; (have e : pl = j := (by by_cases q : pl < j; exact absurd p2 (i4 pl q); by_cases q2 : j < pl; exact absurd h31 (p3 j q2); omega); subst e; rw [p4, i3]); exact absurd h31 (p1 j (by omega)))
  refine ai_lconst (x := 0) hx hb d_M_before_0 (by decide +kernel) ?_
  refine lv_lstore (lv' := [(5, .long (iL 0)), (0, .ref a), (1, .int (iI cal)), (2, .long (iL y)), (4, .int (iI mn))]) hx hb d_M_before_1 hl (by decide) rfl (fun ls hl => ?_)
  refine lv_aload_n hx hb d_M_before_3 rfl (lv_at hl 1 rfl) ?_
  refine lv_iload_n hx hb d_M_before_4 rfl (lv_at hl 2 rfl) ?_
  refine lv_lload_n hx hb d_M_before_5 rfl (lv_at hl 3 rfl) ?_
  refine ro_V (rest := []) (ct_M_monthsOf l D a ad cx F g cal y hcal ho (by omega)) j_M_monthsOf k_1105 (hts _ s_M_monthsOf) hF hB.recv rfl hl.1 rfl ⟨Nat.le_of_ble_eq_true rfl, Nat.le_of_ble_eq_true rfl⟩ (Nat.le_of_ble_eq_true rfl) d_M_before_6 ⟨Nat.zero_le _, Nat.zero_le _⟩ MdB.m (fun U h1 h2 => MdB.m.2 s U h1 h2 hB) ?_
  refine ai_nmI hx hb (fun v9 e9 => ?_)
  refine lv_istore (lv' := [(7, .int (iI v9)), (5, .long (iL 0)), (0, .ref a), (1, .int (iI cal)), (2, .long (iL y)), (4, .int (iI mn))]) hx hb d_M_before_9 hl (by decide) rfl (fun ls hl => ?_)
  refine ai_iconst hx hb d_M_before_11 ?_
  refine lv_istore (lv' := [(8, .int (iI 0)), (7, .int (iI v9)), (5, .long (iL 0)), (0, .ref a), (1, .int (iI cal)), (2, .long (iL y)), (4, .int (iI mn))]) hx hb d_M_before_12 hl (by decide) rfl (fun ls hl => ?_)
  exact hJ14 _ 0 0 v9 _ (lv_sub hl [0, 1, 2, 3, 4, 5, 6] rfl) (by omega) (by omega) rfl (fun i hi => absurd hi (Nat.not_lt_zero i)) (Nat.lt_succ_self _)
