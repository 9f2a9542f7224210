/-! 24.sunmoon: laid by program (wip/whole) -/
def suP (d : Int) : Int := 6912 * (d + 1132959) + 1728
def suK (d : Int) : Int := suP d / 210389
def suD (d : Int) : Int := suP d % 210389 / 6912 + 1
def dtS (d : Int) : Int := suK d / 12 * 65536 + (suK d % 12 + 1) * 256 + suD d
def dyS0 (y mth dd : Int) : Int := -(-((12 * y + mth - 1) * 210389 - 1728) / 6912) - 1132959 + dd - 1
def dyS (y mth dd : Int) : Int := if (1 ≤ mth ∧ mth ≤ 12 ∧ 1 ≤ dd ∧ dd ≤ 31) ∧ dtS (dyS0 y mth dd) = y * 65536 + mth * 256 + dd then dyS0 y mth dd else -9223372036854775808
def luN (d : Int) : Int := 4 * (d + 1132959) + 1
def luQ (d : Int) : Int := luN d * 53433336 / 6311670000 * 51840000
def luC (d : Int) : Int := -(-luQ d / 53433336)
def luB (d : Int) : Int := luQ d % 53433336
def luL (d : Int) : Prop := 1 ≤ luB d ∧ luB d ≤ 1593336
noncomputable def luM (d : Int) : Int := luC d % 12 + 1 + 100 * bI (luL d)
def luD (d : Int) : Int := luN d * 1603000080 / 6311670000 % 30 + 1
noncomputable def dtL (d : Int) : Int := luC d / 12 * 65536 + luM d * 256 + luD d
noncomputable def smL (mth : Int) : Int := mth - 100 * bI (100 < mth)
def mdL (y sm lf dd : Int) : Int := 30 * ((12 * y + sm - 1) * 53433336 / 51840000 - lf) + dd - 1
def qdL (md : Int) : Int := -(-(-(-(md * 6311670000) / 1603000080) - 1) / 4) - 1132959
noncomputable def dyL0 (y mth dd : Int) : Int := qdL (mdL y (smL mth) (bI (100 < mth)) dd)
noncomputable def dyL (y mth dd : Int) : Int := @ite Int ((1 ≤ smL mth ∧ smL mth ≤ 12 ∧ 1 ≤ dd ∧ dd ≤ 30) ∧ dtL (dyL0 y mth dd) = y * 65536 + mth * 256 + dd) (Classical.propDecidable _) (dyL0 y mth dd) (-9223372036854775808)
def Hd (A : Prop) : Prop := A
theorem Hd.o {A : Prop} (h : Hd A) : A := h
theorem db {x n lo hi : Int} (hn : 0 < n) (h1 : lo * n ≤ x) (h2 : x < (hi + 1) * n) : lo ≤ x / n ∧ x / n ≤ hi := by
  refine ⟨Int.le_ediv_of_mul_le hn h1, ?_⟩
  have := Int.ediv_lt_of_lt_mul hn h2
  omega
theorem dtS_rng {d : Int} (h : -200000000 ≤ d ∧ d ≤ 200000000) : -1000000000000 ≤ dtS d ∧ dtS d ≤ 1000000000000 := by
  have h1 : -1390000000000 ≤ suP d ∧ suP d ≤ 1400000000000 := by unfold suP; omega
  have h2 : -7000000 ≤ suK d ∧ suK d ≤ 7000000 := db (by decide) (by omega) (by omega)
  have h3 := md_rng (x := suP d) (n := 210389) (by decide)
  have h4 : 0 ≤ suP d % 210389 / 6912 ∧ suP d % 210389 / 6912 ≤ 31 := db (by decide) (by omega) (by omega)
  have h5 : -600000 ≤ suK d / 12 ∧ suK d / 12 ≤ 600000 := db (by decide) (by omega) (by omega)
  have h6 := md_rng (x := suK d) (n := 12) (by decide)
  unfold dtS suD
  generalize suP d % 210389 / 6912 = z1 at *
  generalize suK d / 12 = z2 at *
  generalize suK d % 12 = z3 at *
  omega
theorem dtL_rng {d : Int} (h : -200000000 ≤ d ∧ d ≤ 200000000) : -1000000000000 ≤ dtL d ∧ dtL d ≤ 1000000000000 := by
  have a := bI_01 (luL d)
  have h1 : -800000000 ≤ luN d ∧ luN d ≤ 810000000 := by unfold luN; omega
  have h2 : -8000000 ≤ luN d * 53433336 / 6311670000 ∧ luN d * 53433336 / 6311670000 ≤ 8000000 := db (by decide) (by omega) (by omega)
  have h3 : -414720000000000 ≤ luQ d ∧ luQ d ≤ 414720000000000 := by unfold luQ; generalize luN d * 53433336 / 6311670000 = z at *; omega
  have h4 : -8000000 ≤ -luQ d / 53433336 ∧ -luQ d / 53433336 ≤ 8000000 := db (by decide) (by omega) (by omega)
  have h5 : -8000000 ≤ luC d ∧ luC d ≤ 8000000 := by unfold luC; generalize -luQ d / 53433336 = z at *; omega
  have h6 : -700000 ≤ luC d / 12 ∧ luC d / 12 ≤ 700000 := db (by decide) (by omega) (by omega)
  have h7 := md_rng (x := luC d) (n := 12) (by decide)
  have h8 := md_rng (x := luN d * 1603000080 / 6311670000) (n := 30) (by decide)
  unfold dtL luM luD
  generalize luN d * 1603000080 / 6311670000 % 30 = z1 at *
  generalize luC d / 12 = z2 at *
  generalize luC d % 12 = z3 at *
  omega
set_option maxHeartbeats 4000000 in
set_option maxRecDepth 100000 in
theorem ct_SC_dateOf (l : Launch) (a : Nat) (d : Int) (rd : -100000000 ≤ d ∧ d ≤ 100000000) : RO l y_SC_dateOf w_SC_dateOf 1 25 [.ref a, .long (iL d)] (fun _ => True) (.long (iL (dtS d))) := by
  refine ro_of (by decide +kernel) (Nat.le_of_ble_eq_true rfl) ?_
  intro p e s m below meth c ls hx hb hr hts hown hlk hml hl hN hB
  have hown : s.vm.findClass "DayBook$SolarCalendar" = some m.cls := hown
  have hl : lv_has ls 9 [(0, .ref a), (1, .long (iL d))] := hl
  have hF : _ ∧ _ ∧ _ ∧ _ ∧ _ ∧ _ := ⟨hx, hb, hml, hown, hts, hN⟩
  refine ai_ldc2 (x := 6912) hx hb hown (hts _ k_675) (by decide +kernel) d_SC_dateOf_0 ?_
  refine lv_lload_n hx hb d_SC_dateOf_3 rfl (lv_at hl 1 rfl) ?_
  refine ai_ldc2 (x := 1132959) hx hb hown (hts _ k_676) (by decide +kernel) d_SC_dateOf_4 ?_
  refine ai_ladd hx hb d_SC_dateOf_7 ?_
  refine ai_lmul hx hb d_SC_dateOf_8 ?_
  refine ai_ldc2 (x := 1728) hx hb hown (hts _ k_677) (by decide +kernel) d_SC_dateOf_9 ?_
  refine ai_ladd hx hb d_SC_dateOf_12 ?_
  refine ai_nmL hx hb (fun v13 e13 => ?_)
  have b13 : -700000000000 ≤ v13 ∧ v13 ≤ 710000000000 := (by omega)
  replace e13 : Hd (v13 = (6912 * (d + 1132959)) + 1728) := e13
  refine lv_lstore_n (lv' := [(3, .long (iL v13)), (0, .ref a), (1, .long (iL d))]) hx hb d_SC_dateOf_13 rfl hl (by decide) rfl (fun ls hl => ?_)
  refine lv_lload_n hx hb d_SC_dateOf_14 rfl (lv_at hl 0 rfl) ?_
  refine ai_ldc2 (x := 210389) hx hb hown (hts _ k_678) (by decide +kernel) d_SC_dateOf_15 ?_
  refine ro_S (rest := []) (ct_JM_floorDiv_JJJ l v13 210389 (by omega) (by omega)) j_JM_floorDiv_JJJ k_679 hF rfl hl.1 rfl ⟨Nat.le_of_ble_eq_true rfl, Nat.le_of_ble_eq_true rfl⟩ (Nat.le_of_ble_eq_true rfl) d_SC_dateOf_18 ⟨Nat.zero_le _, Nat.zero_le _⟩ Bm_true (fun _ _ _ => trivial) ?_
  refine ai_nmL hx hb (fun v21 e21 => ?_)
  have b21 : -3400000 ≤ v21 ∧ v21 ≤ 3400000 := (by have q := db (x := v13) (n := 210389) (lo := -3400000) (hi := 3400000) (by decide) (by omega) (by omega); rw [e21]; generalize (v13) / 210389 = zz at *; clear e21; omega)
  replace e21 : Hd (v21 = v13 / 210389) := e21
  refine lv_lstore (lv' := [(5, .long (iL v21)), (3, .long (iL v13)), (0, .ref a), (1, .long (iL d))]) hx hb d_SC_dateOf_21 hl (by decide) rfl (fun ls hl => ?_)
  refine lv_lload_n hx hb d_SC_dateOf_23 rfl (lv_at hl 1 rfl) ?_
  refine ai_ldc2 (x := 210389) hx hb hown (hts _ k_678) (by decide +kernel) d_SC_dateOf_24 ?_
  refine ro_S (rest := []) (ct_JM_floorMod_JJJ l v13 210389 (by omega) (by omega)) j_JM_floorMod_JJJ k_680 hF rfl hl.1 rfl ⟨Nat.le_of_ble_eq_true rfl, Nat.le_of_ble_eq_true rfl⟩ (Nat.le_of_ble_eq_true rfl) d_SC_dateOf_27 ⟨Nat.zero_le _, Nat.zero_le _⟩ Bm_true (fun _ _ _ => trivial) ?_
  refine ai_ldc2 (x := 6912) hx hb hown (hts _ k_675) (by decide +kernel) d_SC_dateOf_30 ?_
  refine ai_ldiv hx hb d_SC_dateOf_33 (by omega) (by omega) (by omega) ?_
  refine ai_lconst (x := 1) hx hb d_SC_dateOf_34 (by decide +kernel) ?_
  refine ai_ladd hx hb d_SC_dateOf_35 ?_
  refine ai_nmL hx hb (fun v36 e36 => ?_)
  have b36 : 0 ≤ v36 ∧ v36 ≤ 40 := (by have q := md_rng (x := v13) (n := 210389) (by decide); have q2 := db (x := v13 % 210389) (n := 6912) (lo := 0) (hi := 31) (by decide) (by omega) (by omega); rw [e36, Int.tdiv_eq_ediv_of_nonneg q.1]; clear e36; generalize v13 % 210389 / 6912 = zz at *; omega)
  replace e36 : Hd (v36 = (Int.tdiv (v13 % 210389) 6912) + 1) := e36
  refine lv_lstore (lv' := [(7, .long (iL v36)), (5, .long (iL v21)), (3, .long (iL v13)), (0, .ref a), (1, .long (iL d))]) hx hb d_SC_dateOf_36 hl (by decide) rfl (fun ls hl => ?_)
  refine lv_lload hx hb d_SC_dateOf_38 (lv_at hl 1 rfl) ?_
  refine ai_ldc2 (x := 12) hx hb hown (hts _ k_681) (by decide +kernel) d_SC_dateOf_40 ?_
  refine ro_S (rest := []) (ct_JM_floorDiv_JJJ l v21 12 (by omega) (by omega)) j_JM_floorDiv_JJJ k_679 hF rfl hl.1 rfl ⟨Nat.le_of_ble_eq_true rfl, Nat.le_of_ble_eq_true rfl⟩ (Nat.le_of_ble_eq_true rfl) d_SC_dateOf_43 ⟨Nat.zero_le _, Nat.zero_le _⟩ Bm_true (fun _ _ _ => trivial) ?_
  refine lv_lload hx hb d_SC_dateOf_46 (lv_at hl 1 rfl) ?_
  refine ai_ldc2 (x := 12) hx hb hown (hts _ k_681) (by decide +kernel) d_SC_dateOf_48 ?_
  refine ro_S (rest := [.long (iL (v21 / 12))]) (ct_JM_floorMod_JJJ l v21 12 (by omega) (by omega)) j_JM_floorMod_JJJ k_680 hF rfl hl.1 rfl ⟨Nat.le_of_ble_eq_true rfl, Nat.le_of_ble_eq_true rfl⟩ (Nat.le_of_ble_eq_true rfl) d_SC_dateOf_51 ⟨Nat.zero_le _, Nat.zero_le _⟩ Bm_true (fun _ _ _ => trivial) ?_
  refine ai_lconst (x := 1) hx hb d_SC_dateOf_54 (by decide +kernel) ?_
  refine ai_ladd hx hb d_SC_dateOf_55 ?_
  refine lv_lload hx hb d_SC_dateOf_56 (lv_at hl 0 rfl) ?_
  refine ro_SN (host := "DayBook") (rest := []) (ct_B_packed l (v21 / 12) ((v21 % 12) + 1) v36) j_B_packed (hN.get 682 (by decide +kernel) (by decide +kernel)) hF rfl hl.1 rfl ⟨Nat.le_of_ble_eq_true rfl, Nat.le_of_ble_eq_true rfl⟩ (Nat.le_of_ble_eq_true rfl) d_SC_dateOf_58 ⟨Nat.zero_le _, Nat.zero_le _⟩ Bm_true (fun _ _ _ => trivial) ?_
  exact ro_lret hx hb hr hlk d_SC_dateOf_61 (by have hP : suP d = v13 := e13.o.symm; unfold dtS suD suK; rw [hP, ← e21.o, e36.o, Int.tdiv_eq_ediv_of_nonneg (md_rng (by decide)).1])
set_option maxHeartbeats 4000000 in
set_option maxRecDepth 100000 in
theorem ct_SC_dayOf (l : Launch) (D : va_G) (a : Nat) (y : Int) (mth : Int) (dd : Int) (ry : -200000 ≤ y ∧ y ≤ 200000) (rm : -2147483648 ≤ mth ∧ mth ≤ 2147483647) (rdd : -2147483648 ≤ dd ∧ dd ≤ 2147483647) : RO l y_SC_dayOf w_SC_dayOf 2 53 [.ref a, .long (iL y), .int (iI mth), .int (iI dd)] (OB D [(a, .inr (6, []))]) (.long (iL (dyS y mth dd))) := by
  refine ro_of (by decide +kernel) (Nat.le_of_ble_eq_true rfl) ?_
  intro p e s m below meth c ls hx hb hr hts hown hlk hml hl hN hB
  have hown : s.vm.findClass "DayBook$SolarCalendar" = some m.cls := hown
  have hl : lv_has ls 9 [(0, .ref a), (1, .long (iL y)), (3, .int (iI mth)), (4, .int (iI dd))] := hl
  have hF : _ ∧ _ ∧ _ ∧ _ ∧ _ ∧ _ := ⟨hx, hb, hml, hown, hts, hN⟩
  refine lv_iload_n hx hb d_SC_dayOf_0 rfl (lv_at hl 2 rfl) ?_
  refine ai_iconst hx hb d_SC_dayOf_1 ?_
  refine ai_icmp_lt hx hb d_SC_dayOf_2 rfl (by omega) (by omega) (fun h2 => ?_) (fun h2 => ?_)
  · skip
    refine ai_ldc2 (x := -9223372036854775808) hx hb hown (hts _ k_737) (by decide +kernel) d_SC_dayOf_24 ?_
    exact ro_lret hx hb hr hlk d_SC_dayOf_27 (by unfold dyS; rw [if_neg (by omega)])
  · skip
    refine lv_iload_n hx hb d_SC_dayOf_5 rfl (lv_at hl 2 rfl) ?_
    refine ai_bipush (x := 12) hx hb d_SC_dayOf_6 (by decide +kernel) ?_
    refine ai_icmp_gt hx hb d_SC_dayOf_8 rfl (by omega) (by omega) (fun h8 => ?_) (fun h8 => ?_)
    · skip
      refine ai_ldc2 (x := -9223372036854775808) hx hb hown (hts _ k_737) (by decide +kernel) d_SC_dayOf_24 ?_
      exact ro_lret hx hb hr hlk d_SC_dayOf_27 (by unfold dyS; rw [if_neg (by omega)])
    · skip
      refine lv_iload hx hb d_SC_dayOf_11 (lv_at hl 3 rfl) ?_
      refine ai_iconst hx hb d_SC_dayOf_13 ?_
      refine ai_icmp_lt hx hb d_SC_dayOf_14 rfl (by omega) (by omega) (fun h14 => ?_) (fun h14 => ?_)
      · skip
        refine ai_ldc2 (x := -9223372036854775808) hx hb hown (hts _ k_737) (by decide +kernel) d_SC_dayOf_24 ?_
        exact ro_lret hx hb hr hlk d_SC_dayOf_27 (by unfold dyS; rw [if_neg (by omega)])
      · skip
        refine lv_iload hx hb d_SC_dayOf_17 (lv_at hl 3 rfl) ?_
        refine ai_bipush (x := 31) hx hb d_SC_dayOf_19 (by decide +kernel) ?_
        refine ai_icmp_le hx hb d_SC_dayOf_21 rfl (by omega) (by omega) (fun h21 => ?_) (fun h21 => ?_)
        · skip
          refine ai_ldc2 (x := 12) hx hb hown (hts _ k_681) (by decide +kernel) d_SC_dayOf_28 ?_
          refine lv_lload_n hx hb d_SC_dayOf_31 rfl (lv_at hl 1 rfl) ?_
          refine ai_lmul hx hb d_SC_dayOf_32 ?_
          refine lv_iload_n hx hb d_SC_dayOf_33 rfl (lv_at hl 2 rfl) ?_
          refine ai_i2l hx hb d_SC_dayOf_34 (by omega) ?_
          refine ai_ladd hx hb d_SC_dayOf_35 ?_
          refine ai_lconst (x := 1) hx hb d_SC_dayOf_36 (by decide +kernel) ?_
          refine ai_lsub hx hb d_SC_dayOf_37 ?_
          refine ai_nmL hx hb (fun v38 e38 => ?_)
          have b38 : -2400020 ≤ v38 ∧ v38 ≤ 2400020 := (by omega)
          replace e38 : Hd (v38 = ((12 * y) + mth) - 1) := e38
          refine lv_lstore (lv' := [(5, .long (iL v38)), (0, .ref a), (1, .long (iL y)), (3, .int (iI mth)), (4, .int (iI dd))]) hx hb d_SC_dayOf_38 hl (by decide) rfl (fun ls hl => ?_)
          refine lv_lload hx hb d_SC_dayOf_40 (lv_at hl 0 rfl) ?_
          refine ai_ldc2 (x := 210389) hx hb hown (hts _ k_678) (by decide +kernel) d_SC_dayOf_42 ?_
          refine ai_lmul hx hb d_SC_dayOf_45 ?_
          refine ai_ldc2 (x := 1728) hx hb hown (hts _ k_677) (by decide +kernel) d_SC_dayOf_46 ?_
          refine ai_lsub hx hb d_SC_dayOf_49 ?_
          refine ai_ldc2 (x := 6912) hx hb hown (hts _ k_675) (by decide +kernel) d_SC_dayOf_50 ?_
          refine ro_SN (host := "DayBook") (rest := []) (ct_B_ceilDiv l ((v38 * 210389) - 1728) 6912 (by omega) (by omega)) j_B_ceilDiv (hN.get 738 (by decide +kernel) (by decide +kernel)) hF rfl hl.1 rfl ⟨Nat.le_of_ble_eq_true rfl, Nat.le_of_ble_eq_true rfl⟩ (Nat.le_of_ble_eq_true rfl) d_SC_dayOf_53 ⟨Nat.zero_le _, Nat.zero_le _⟩ Bm_true (fun _ _ _ => trivial) ?_
          refine ai_ldc2 (x := 1132959) hx hb hown (hts _ k_676) (by decide +kernel) d_SC_dayOf_56 ?_
          refine ai_lsub hx hb d_SC_dayOf_59 ?_
          refine lv_iload hx hb d_SC_dayOf_60 (lv_at hl 4 rfl) ?_
          refine ai_i2l hx hb d_SC_dayOf_62 (by omega) ?_
          refine ai_ladd hx hb d_SC_dayOf_63 ?_
          refine ai_lconst (x := 1) hx hb d_SC_dayOf_64 (by decide +kernel) ?_
          refine ai_lsub hx hb d_SC_dayOf_65 ?_
          refine ai_nmL hx hb (fun v66 e66 => ?_)
          have b66 : -75000000 ≤ v66 ∧ v66 ≤ 75000000 := (by have q := db (x := -((v38 * 210389) - 1728)) (n := 6912) (lo := -73100000) (hi := 73100000) (by decide) (by omega) (by omega); rw [e66]; clear e66; generalize -((v38 * 210389) - 1728) / 6912 = zz at *; omega)
          replace e66 : Hd (v66 = (((-(-((v38 * 210389) - 1728) / 6912)) - 1132959) + dd) - 1) := e66
          refine lv_lstore (lv' := [(7, .long (iL v66)), (5, .long (iL v38)), (0, .ref a), (1, .long (iL y)), (3, .int (iI mth)), (4, .int (iI dd))]) hx hb d_SC_dayOf_66 hl (by decide) rfl (fun ls hl => ?_)
          have qd : dyS0 y mth dd = v66 := by unfold dyS0; rw [e66.o, e38.o]
          have qr := dtS_rng (d := v66) (by omega)
          refine lv_aload_n hx hb d_SC_dayOf_68 rfl (lv_at hl 2 rfl) ?_
          refine lv_lload hx hb d_SC_dayOf_69 (lv_at hl 0 rfl) ?_
          refine ro_V (rest := []) (ct_SC_dateOf l a v66 (by omega)) j_SC_dateOf k_739 (hts _ s_SC_dateOf) hF (hB.recv 0 rfl rfl) rfl hl.1 rfl ⟨Nat.le_of_ble_eq_true rfl, Nat.le_of_ble_eq_true rfl⟩ (Nat.le_of_ble_eq_true rfl) d_SC_dayOf_71 ⟨Nat.zero_le _, Nat.zero_le _⟩ Bm_true (fun _ _ _ => trivial) ?_
          refine lv_lload_n hx hb d_SC_dayOf_74 rfl (lv_at hl 3 rfl) ?_
          refine lv_iload_n hx hb d_SC_dayOf_75 rfl (lv_at hl 4 rfl) ?_
          refine ai_i2l hx hb d_SC_dayOf_76 (by omega) ?_
          refine lv_iload hx hb d_SC_dayOf_77 (lv_at hl 5 rfl) ?_
          refine ai_i2l hx hb d_SC_dayOf_79 (by omega) ?_
          refine ro_SN (host := "DayBook") (rest := [.long (iL (dtS v66))]) (ct_B_packed l y mth dd) j_B_packed (hN.get 682 (by decide +kernel) (by decide +kernel)) hF rfl hl.1 rfl ⟨Nat.le_of_ble_eq_true rfl, Nat.le_of_ble_eq_true rfl⟩ (Nat.le_of_ble_eq_true rfl) d_SC_dayOf_80 ⟨Nat.zero_le _, Nat.zero_le _⟩ Bm_true (fun _ _ _ => trivial) ?_
          refine ai_lcmp_ne hx hb d_SC_dayOf_83 d_SC_dayOf_84 rfl (by omega) (by omega) (fun h83 => ?_) (fun h83 => ?_)
          · skip
            refine ai_ldc2 (x := -9223372036854775808) hx hb hown (hts _ k_737) (by decide +kernel) d_SC_dayOf_92 ?_
            exact ro_lret hx hb hr hlk d_SC_dayOf_95 (by unfold dyS; rw [if_neg (fun q => h83 (by rw [← qd]; exact q.2))])
          · skip
            refine lv_lload hx hb d_SC_dayOf_87 (lv_at hl 0 rfl) ?_
            refine lv_goto hx hb d_SC_dayOf_89 rfl ?_
            exact ro_lret hx hb hr hlk d_SC_dayOf_95 (by unfold dyS; rw [if_pos ⟨by omega, by rw [qd]; exact h83⟩, qd])
        · skip
          refine ai_ldc2 (x := -9223372036854775808) hx hb hown (hts _ k_737) (by decide +kernel) d_SC_dayOf_24 ?_
          exact ro_lret hx hb hr hlk d_SC_dayOf_27 (by unfold dyS; rw [if_neg (by omega)])
set_option maxHeartbeats 4000000 in
set_option maxRecDepth 100000 in
theorem ct_LC_dateOf (l : Launch) (a : Nat) (d : Int) (rd : -100000000 ≤ d ∧ d ≤ 100000000) : RO l y_LC_dateOf w_LC_dateOf 2 48 [.ref a, .long (iL d)] (fun _ => True) (.long (iL (dtL d))) := by
  refine ro_of (by decide +kernel) (Nat.le_of_ble_eq_true rfl) ?_
  intro p e s m below meth c ls hx hb hr hts hown hlk hml hl hN hB
  have hown : s.vm.findClass "DayBook$LunarCalendar" = some m.cls := hown
  have hl : lv_has ls 16 [(0, .ref a), (1, .long (iL d))] := hl
  have hF : _ ∧ _ ∧ _ ∧ _ ∧ _ ∧ _ := ⟨hx, hb, hml, hown, hts, hN⟩
  refine ai_ldc2 (x := 4) hx hb hown (hts _ k_654) (by decide +kernel) d_LC_dateOf_0 ?_
  refine lv_lload_n hx hb d_LC_dateOf_3 rfl (lv_at hl 1 rfl) ?_
  refine ai_ldc2 (x := 1132959) hx hb hown (hts _ k_655) (by decide +kernel) d_LC_dateOf_4 ?_
  refine ai_ladd hx hb d_LC_dateOf_7 ?_
  refine ai_lmul hx hb d_LC_dateOf_8 ?_
  refine ai_lconst (x := 1) hx hb d_LC_dateOf_9 (by decide +kernel) ?_
  refine ai_ladd hx hb d_LC_dateOf_10 ?_
  refine ai_nmL hx hb (fun v11 e11 => ?_)
  have b11 : -400000000 ≤ v11 ∧ v11 ≤ 405000000 := (by omega)
  replace e11 : Hd (v11 = (4 * (d + 1132959)) + 1) := e11
  refine lv_lstore_n (lv' := [(3, .long (iL v11)), (0, .ref a), (1, .long (iL d))]) hx hb d_LC_dateOf_11 rfl hl (by decide) rfl (fun ls hl => ?_)
  refine lv_lload_n hx hb d_LC_dateOf_12 rfl (lv_at hl 0 rfl) ?_
  refine ai_ldc2 (x := 53433336) hx hb hown (hts _ k_656) (by decide +kernel) d_LC_dateOf_13 ?_
  refine ai_lmul hx hb d_LC_dateOf_16 ?_
  refine ai_ldc2 (x := 6311670000) hx hb hown (hts _ k_657) (by decide +kernel) d_LC_dateOf_17 ?_
  refine ro_S (rest := []) (ct_JM_floorDiv_JJJ l (v11 * 53433336) 6311670000 (by omega) (by omega)) j_JM_floorDiv_JJJ k_658 hF rfl hl.1 rfl ⟨Nat.le_of_ble_eq_true rfl, Nat.le_of_ble_eq_true rfl⟩ (Nat.le_of_ble_eq_true rfl) d_LC_dateOf_20 ⟨Nat.zero_le _, Nat.zero_le _⟩ Bm_true (fun _ _ _ => trivial) ?_
  refine ai_ldc2 (x := 51840000) hx hb hown (hts _ k_659) (by decide +kernel) d_LC_dateOf_23 ?_
  refine ai_lmul hx hb d_LC_dateOf_26 ?_
  refine ai_nmL hx hb (fun v27 e27 => ?_)
  have b27 : -207360000000000 ≤ v27 ∧ v27 ≤ 207360000000000 := (by have q := db (x := v11 * 53433336) (n := 6311670000) (lo := -4000000) (hi := 4000000) (by decide) (by omega) (by omega); rw [e27]; clear e27; generalize v11 * 53433336 / 6311670000 = zz at *; omega)
  replace e27 : Hd (v27 = ((v11 * 53433336) / 6311670000) * 51840000) := e27
  refine lv_lstore (lv' := [(5, .long (iL v27)), (3, .long (iL v11)), (0, .ref a), (1, .long (iL d))]) hx hb d_LC_dateOf_27 hl (by decide) rfl (fun ls hl => ?_)
  refine lv_lload hx hb d_LC_dateOf_29 (lv_at hl 0 rfl) ?_
  refine ai_ldc2 (x := 53433336) hx hb hown (hts _ k_656) (by decide +kernel) d_LC_dateOf_31 ?_
  refine ro_SN (host := "DayBook") (rest := []) (ct_B_ceilDiv l v27 53433336 (by omega) (by omega)) j_B_ceilDiv (hN.get 660 (by decide +kernel) (by decide +kernel)) hF rfl hl.1 rfl ⟨Nat.le_of_ble_eq_true rfl, Nat.le_of_ble_eq_true rfl⟩ (Nat.le_of_ble_eq_true rfl) d_LC_dateOf_34 ⟨Nat.zero_le _, Nat.zero_le _⟩ Bm_true (fun _ _ _ => trivial) ?_
  refine ai_nmL hx hb (fun v37 e37 => ?_)
  have b37 : -4000000 ≤ v37 ∧ v37 ≤ 4000000 := (by have q := db (x := -v27) (n := 53433336) (lo := -4000000) (hi := 4000000) (by decide) (by omega) (by omega); rw [e37]; clear e37; generalize -v27 / 53433336 = zz at *; omega)
  replace e37 : Hd (v37 = -(-v27 / 53433336)) := e37
  refine lv_lstore (lv' := [(7, .long (iL v37)), (5, .long (iL v27)), (3, .long (iL v11)), (0, .ref a), (1, .long (iL d))]) hx hb d_LC_dateOf_37 hl (by decide) rfl (fun ls hl => ?_)
  refine lv_lload hx hb d_LC_dateOf_39 (lv_at hl 1 rfl) ?_
  refine ai_ldc2 (x := 53433336) hx hb hown (hts _ k_656) (by decide +kernel) d_LC_dateOf_41 ?_
  refine ro_S (rest := []) (ct_JM_floorMod_JJJ l v27 53433336 (by omega) (by omega)) j_JM_floorMod_JJJ k_664 hF rfl hl.1 rfl ⟨Nat.le_of_ble_eq_true rfl, Nat.le_of_ble_eq_true rfl⟩ (Nat.le_of_ble_eq_true rfl) d_LC_dateOf_44 ⟨Nat.zero_le _, Nat.zero_le _⟩ Bm_true (fun _ _ _ => trivial) ?_
  refine ai_nmL hx hb (fun v47 e47 => ?_)
  have b47 : 0 ≤ v47 ∧ v47 ≤ 53433335 := (by have q := md_rng (x := v27) (n := 53433336) (by decide); rw [e47]; clear e47; generalize v27 % 53433336 = zz at *; omega)
  replace e47 : Hd (v47 = v27 % 53433336) := e47
  refine lv_lstore (lv' := [(9, .long (iL v47)), (7, .long (iL v37)), (5, .long (iL v27)), (3, .long (iL v11)), (0, .ref a), (1, .long (iL d))]) hx hb d_LC_dateOf_47 hl (by decide) rfl (fun ls hl => ?_)
  refine lv_lload hx hb d_LC_dateOf_49 (lv_at hl 0 rfl) ?_
  refine ai_lconst (x := 1) hx hb d_LC_dateOf_51 (by decide +kernel) ?_
  refine ai_lcmp_lt hx hb d_LC_dateOf_52 d_LC_dateOf_53 rfl (by omega) (by omega) (fun h52 => ?_) (fun h52 => ?_)
  · skip
    refine ai_iconst hx hb d_LC_dateOf_69 ?_
    refine lv_istore (lv' := [(11, .int (iI 0)), (9, .long (iL v47)), (7, .long (iL v37)), (5, .long (iL v27)), (3, .long (iL v11)), (0, .ref a), (1, .long (iL d))]) hx hb d_LC_dateOf_70 hl (by decide) rfl (fun ls hl => ?_)
    refine lv_lload hx hb d_LC_dateOf_72 (lv_at hl 2 rfl) ?_
    refine ai_ldc2 (x := 12) hx hb hown (hts _ k_666) (by decide +kernel) d_LC_dateOf_74 ?_
    refine ro_S (rest := []) (ct_JM_floorMod_JJJ l v37 12 (by omega) (by omega)) j_JM_floorMod_JJJ k_664 hF rfl hl.1 rfl ⟨Nat.le_of_ble_eq_true rfl, Nat.le_of_ble_eq_true rfl⟩ (Nat.le_of_ble_eq_true rfl) d_LC_dateOf_77 ⟨Nat.zero_le _, Nat.zero_le _⟩ Bm_true (fun _ _ _ => trivial) ?_
    refine ai_lconst (x := 1) hx hb d_LC_dateOf_80 (by decide +kernel) ?_
    refine ai_ladd hx hb d_LC_dateOf_81 ?_
    refine ai_nmL hx hb (fun v82 e82 => ?_)
    have b82 : 1 ≤ v82 ∧ v82 ≤ 12 := (by have q := md_rng (x := v37) (n := 12) (by decide); rw [e82]; clear e82; generalize v37 % 12 = zz at *; omega)
    replace e82 : Hd (v82 = (v37 % 12) + 1) := e82
    refine lv_lstore (lv' := [(12, .long (iL v82)), (11, .int (iI 0)), (9, .long (iL v47)), (7, .long (iL v37)), (5, .long (iL v27)), (3, .long (iL v11)), (0, .ref a), (1, .long (iL d))]) hx hb d_LC_dateOf_82 hl (by decide) rfl (fun ls hl => ?_)
    refine lv_lload_n hx hb d_LC_dateOf_84 rfl (lv_at hl 5 rfl) ?_
    refine ai_ldc2 (x := 1603000080) hx hb hown (hts _ k_667) (by decide +kernel) d_LC_dateOf_85 ?_
    refine ai_lmul hx hb d_LC_dateOf_88 ?_
    refine ai_ldc2 (x := 6311670000) hx hb hown (hts _ k_657) (by decide +kernel) d_LC_dateOf_89 ?_
    refine ro_S (rest := []) (ct_JM_floorDiv_JJJ l (v11 * 1603000080) 6311670000 (by omega) (by omega)) j_JM_floorDiv_JJJ k_658 hF rfl hl.1 rfl ⟨Nat.le_of_ble_eq_true rfl, Nat.le_of_ble_eq_true rfl⟩ (Nat.le_of_ble_eq_true rfl) d_LC_dateOf_92 ⟨Nat.zero_le _, Nat.zero_le _⟩ Bm_true (fun _ _ _ => trivial) ?_
    refine ai_ldc2 (x := 30) hx hb hown (hts _ k_668) (by decide +kernel) d_LC_dateOf_95 ?_
    refine ro_S (rest := []) (ct_JM_floorMod_JJJ l ((v11 * 1603000080) / 6311670000) 30 (by omega) (by omega)) j_JM_floorMod_JJJ k_664 hF rfl hl.1 rfl ⟨Nat.le_of_ble_eq_true rfl, Nat.le_of_ble_eq_true rfl⟩ (Nat.le_of_ble_eq_true rfl) d_LC_dateOf_98 ⟨Nat.zero_le _, Nat.zero_le _⟩ Bm_true (fun _ _ _ => trivial) ?_
    refine ai_lconst (x := 1) hx hb d_LC_dateOf_101 (by decide +kernel) ?_
    refine ai_ladd hx hb d_LC_dateOf_102 ?_
    refine ai_nmL hx hb (fun v103 e103 => ?_)
    have b103 : 1 ≤ v103 ∧ v103 ≤ 30 := (by have q := md_rng (x := v11 * 1603000080 / 6311670000) (n := 30) (by decide); rw [e103]; clear e103; generalize v11 * 1603000080 / 6311670000 % 30 = zz at *; omega)
    replace e103 : Hd (v103 = (((v11 * 1603000080) / 6311670000) % 30) + 1) := e103
    refine lv_lstore (lv' := [(14, .long (iL v103)), (12, .long (iL v82)), (11, .int (iI 0)), (9, .long (iL v47)), (7, .long (iL v37)), (5, .long (iL v27)), (3, .long (iL v11)), (0, .ref a), (1, .long (iL d))]) hx hb d_LC_dateOf_103 hl (by decide) rfl (fun ls hl => ?_)
    have q0 : luN d = v11 := e11.o.symm
    have q1 : luQ d = v27 := by unfold luQ; rw [q0, e27.o]
    have q2 : luC d = v37 := by unfold luC; rw [q1, e37.o]
    have q3 : luB d = v47 := by unfold luB; rw [q1, e47.o]
    have q4 : luD d = v103 := by unfold luD; rw [q0, e103.o]
    refine lv_lload hx hb d_LC_dateOf_105 (lv_at hl 4 rfl) ?_
    refine ai_ldc2 (x := 12) hx hb hown (hts _ k_666) (by decide +kernel) d_LC_dateOf_107 ?_
    refine ro_S (rest := []) (ct_JM_floorDiv_JJJ l v37 12 (by omega) (by omega)) j_JM_floorDiv_JJJ k_658 hF rfl hl.1 rfl ⟨Nat.le_of_ble_eq_true rfl, Nat.le_of_ble_eq_true rfl⟩ (Nat.le_of_ble_eq_true rfl) d_LC_dateOf_110 ⟨Nat.zero_le _, Nat.zero_le _⟩ Bm_true (fun _ _ _ => trivial) ?_
    refine lv_iload hx hb d_LC_dateOf_113 (lv_at hl 2 rfl) ?_
    refine ai_if_eq hx hb d_LC_dateOf_115 rfl (by omega) (fun h115 => ?_) (fun h115 => by exfalso; omega)
    refine lv_lload hx hb d_LC_dateOf_127 (lv_at hl 1 rfl) ?_
    refine lv_lload hx hb d_LC_dateOf_129 (lv_at hl 0 rfl) ?_
    refine ro_SN (host := "DayBook") (rest := []) (ct_B_packed l (v37 / 12) v82 v103) j_B_packed (hN.get 670 (by decide +kernel) (by decide +kernel)) hF rfl hl.1 rfl ⟨Nat.le_of_ble_eq_true rfl, Nat.le_of_ble_eq_true rfl⟩ (Nat.le_of_ble_eq_true rfl) d_LC_dateOf_131 ⟨Nat.zero_le _, Nat.zero_le _⟩ Bm_true (fun _ _ _ => trivial) ?_
    exact ro_lret hx hb hr hlk d_LC_dateOf_134 (by unfold dtL luM; rw [q2, q4, bI_f (by unfold luL; rw [q3]; omega), ← e82.o]; omega)
  · skip
    refine lv_lload hx hb d_LC_dateOf_56 (lv_at hl 0 rfl) ?_
    refine ai_ldc2 (x := 1593336) hx hb hown (hts _ k_665) (by decide +kernel) d_LC_dateOf_58 ?_
    refine ai_lcmp_gt hx hb d_LC_dateOf_61 d_LC_dateOf_62 rfl (by omega) (by omega) (fun h61 => ?_) (fun h61 => ?_)
    · skip
      refine ai_iconst hx hb d_LC_dateOf_69 ?_
      refine lv_istore (lv' := [(11, .int (iI 0)), (9, .long (iL v47)), (7, .long (iL v37)), (5, .long (iL v27)), (3, .long (iL v11)), (0, .ref a), (1, .long (iL d))]) hx hb d_LC_dateOf_70 hl (by decide) rfl (fun ls hl => ?_)
      refine lv_lload hx hb d_LC_dateOf_72 (lv_at hl 2 rfl) ?_
      refine ai_ldc2 (x := 12) hx hb hown (hts _ k_666) (by decide +kernel) d_LC_dateOf_74 ?_
      refine ro_S (rest := []) (ct_JM_floorMod_JJJ l v37 12 (by omega) (by omega)) j_JM_floorMod_JJJ k_664 hF rfl hl.1 rfl ⟨Nat.le_of_ble_eq_true rfl, Nat.le_of_ble_eq_true rfl⟩ (Nat.le_of_ble_eq_true rfl) d_LC_dateOf_77 ⟨Nat.zero_le _, Nat.zero_le _⟩ Bm_true (fun _ _ _ => trivial) ?_
      refine ai_lconst (x := 1) hx hb d_LC_dateOf_80 (by decide +kernel) ?_
      refine ai_ladd hx hb d_LC_dateOf_81 ?_
      refine ai_nmL hx hb (fun v82 e82 => ?_)
      have b82 : 1 ≤ v82 ∧ v82 ≤ 12 := (by have q := md_rng (x := v37) (n := 12) (by decide); rw [e82]; clear e82; generalize v37 % 12 = zz at *; omega)
      replace e82 : Hd (v82 = (v37 % 12) + 1) := e82
      refine lv_lstore (lv' := [(12, .long (iL v82)), (11, .int (iI 0)), (9, .long (iL v47)), (7, .long (iL v37)), (5, .long (iL v27)), (3, .long (iL v11)), (0, .ref a), (1, .long (iL d))]) hx hb d_LC_dateOf_82 hl (by decide) rfl (fun ls hl => ?_)
      refine lv_lload_n hx hb d_LC_dateOf_84 rfl (lv_at hl 5 rfl) ?_
      refine ai_ldc2 (x := 1603000080) hx hb hown (hts _ k_667) (by decide +kernel) d_LC_dateOf_85 ?_
      refine ai_lmul hx hb d_LC_dateOf_88 ?_
      refine ai_ldc2 (x := 6311670000) hx hb hown (hts _ k_657) (by decide +kernel) d_LC_dateOf_89 ?_
      refine ro_S (rest := []) (ct_JM_floorDiv_JJJ l (v11 * 1603000080) 6311670000 (by omega) (by omega)) j_JM_floorDiv_JJJ k_658 hF rfl hl.1 rfl ⟨Nat.le_of_ble_eq_true rfl, Nat.le_of_ble_eq_true rfl⟩ (Nat.le_of_ble_eq_true rfl) d_LC_dateOf_92 ⟨Nat.zero_le _, Nat.zero_le _⟩ Bm_true (fun _ _ _ => trivial) ?_
      refine ai_ldc2 (x := 30) hx hb hown (hts _ k_668) (by decide +kernel) d_LC_dateOf_95 ?_
      refine ro_S (rest := []) (ct_JM_floorMod_JJJ l ((v11 * 1603000080) / 6311670000) 30 (by omega) (by omega)) j_JM_floorMod_JJJ k_664 hF rfl hl.1 rfl ⟨Nat.le_of_ble_eq_true rfl, Nat.le_of_ble_eq_true rfl⟩ (Nat.le_of_ble_eq_true rfl) d_LC_dateOf_98 ⟨Nat.zero_le _, Nat.zero_le _⟩ Bm_true (fun _ _ _ => trivial) ?_
      refine ai_lconst (x := 1) hx hb d_LC_dateOf_101 (by decide +kernel) ?_
      refine ai_ladd hx hb d_LC_dateOf_102 ?_
      refine ai_nmL hx hb (fun v103 e103 => ?_)
      have b103 : 1 ≤ v103 ∧ v103 ≤ 30 := (by have q := md_rng (x := v11 * 1603000080 / 6311670000) (n := 30) (by decide); rw [e103]; clear e103; generalize v11 * 1603000080 / 6311670000 % 30 = zz at *; omega)
      replace e103 : Hd (v103 = (((v11 * 1603000080) / 6311670000) % 30) + 1) := e103
      refine lv_lstore (lv' := [(14, .long (iL v103)), (12, .long (iL v82)), (11, .int (iI 0)), (9, .long (iL v47)), (7, .long (iL v37)), (5, .long (iL v27)), (3, .long (iL v11)), (0, .ref a), (1, .long (iL d))]) hx hb d_LC_dateOf_103 hl (by decide) rfl (fun ls hl => ?_)
      have q0 : luN d = v11 := e11.o.symm
      have q1 : luQ d = v27 := by unfold luQ; rw [q0, e27.o]
      have q2 : luC d = v37 := by unfold luC; rw [q1, e37.o]
      have q3 : luB d = v47 := by unfold luB; rw [q1, e47.o]
      have q4 : luD d = v103 := by unfold luD; rw [q0, e103.o]
      refine lv_lload hx hb d_LC_dateOf_105 (lv_at hl 4 rfl) ?_
      refine ai_ldc2 (x := 12) hx hb hown (hts _ k_666) (by decide +kernel) d_LC_dateOf_107 ?_
      refine ro_S (rest := []) (ct_JM_floorDiv_JJJ l v37 12 (by omega) (by omega)) j_JM_floorDiv_JJJ k_658 hF rfl hl.1 rfl ⟨Nat.le_of_ble_eq_true rfl, Nat.le_of_ble_eq_true rfl⟩ (Nat.le_of_ble_eq_true rfl) d_LC_dateOf_110 ⟨Nat.zero_le _, Nat.zero_le _⟩ Bm_true (fun _ _ _ => trivial) ?_
      refine lv_iload hx hb d_LC_dateOf_113 (lv_at hl 2 rfl) ?_
      refine ai_if_eq hx hb d_LC_dateOf_115 rfl (by omega) (fun h115 => ?_) (fun h115 => by exfalso; omega)
      refine lv_lload hx hb d_LC_dateOf_127 (lv_at hl 1 rfl) ?_
      refine lv_lload hx hb d_LC_dateOf_129 (lv_at hl 0 rfl) ?_
      refine ro_SN (host := "DayBook") (rest := []) (ct_B_packed l (v37 / 12) v82 v103) j_B_packed (hN.get 670 (by decide +kernel) (by decide +kernel)) hF rfl hl.1 rfl ⟨Nat.le_of_ble_eq_true rfl, Nat.le_of_ble_eq_true rfl⟩ (Nat.le_of_ble_eq_true rfl) d_LC_dateOf_131 ⟨Nat.zero_le _, Nat.zero_le _⟩ Bm_true (fun _ _ _ => trivial) ?_
      exact ro_lret hx hb hr hlk d_LC_dateOf_134 (by unfold dtL luM; rw [q2, q4, bI_f (by unfold luL; rw [q3]; omega), ← e82.o]; omega)
    · skip
      refine ai_iconst hx hb d_LC_dateOf_65 ?_
      refine lv_goto hx hb d_LC_dateOf_66 rfl ?_
      refine lv_istore (lv' := [(11, .int (iI 1)), (9, .long (iL v47)), (7, .long (iL v37)), (5, .long (iL v27)), (3, .long (iL v11)), (0, .ref a), (1, .long (iL d))]) hx hb d_LC_dateOf_70 hl (by decide) rfl (fun ls hl => ?_)
      refine lv_lload hx hb d_LC_dateOf_72 (lv_at hl 2 rfl) ?_
      refine ai_ldc2 (x := 12) hx hb hown (hts _ k_666) (by decide +kernel) d_LC_dateOf_74 ?_
      refine ro_S (rest := []) (ct_JM_floorMod_JJJ l v37 12 (by omega) (by omega)) j_JM_floorMod_JJJ k_664 hF rfl hl.1 rfl ⟨Nat.le_of_ble_eq_true rfl, Nat.le_of_ble_eq_true rfl⟩ (Nat.le_of_ble_eq_true rfl) d_LC_dateOf_77 ⟨Nat.zero_le _, Nat.zero_le _⟩ Bm_true (fun _ _ _ => trivial) ?_
      refine ai_lconst (x := 1) hx hb d_LC_dateOf_80 (by decide +kernel) ?_
      refine ai_ladd hx hb d_LC_dateOf_81 ?_
      refine ai_nmL hx hb (fun v82 e82 => ?_)
      have b82 : 1 ≤ v82 ∧ v82 ≤ 12 := (by have q := md_rng (x := v37) (n := 12) (by decide); rw [e82]; clear e82; generalize v37 % 12 = zz at *; omega)
      replace e82 : Hd (v82 = (v37 % 12) + 1) := e82
      refine lv_lstore (lv' := [(12, .long (iL v82)), (11, .int (iI 1)), (9, .long (iL v47)), (7, .long (iL v37)), (5, .long (iL v27)), (3, .long (iL v11)), (0, .ref a), (1, .long (iL d))]) hx hb d_LC_dateOf_82 hl (by decide) rfl (fun ls hl => ?_)
      refine lv_lload_n hx hb d_LC_dateOf_84 rfl (lv_at hl 5 rfl) ?_
      refine ai_ldc2 (x := 1603000080) hx hb hown (hts _ k_667) (by decide +kernel) d_LC_dateOf_85 ?_
      refine ai_lmul hx hb d_LC_dateOf_88 ?_
      refine ai_ldc2 (x := 6311670000) hx hb hown (hts _ k_657) (by decide +kernel) d_LC_dateOf_89 ?_
      refine ro_S (rest := []) (ct_JM_floorDiv_JJJ l (v11 * 1603000080) 6311670000 (by omega) (by omega)) j_JM_floorDiv_JJJ k_658 hF rfl hl.1 rfl ⟨Nat.le_of_ble_eq_true rfl, Nat.le_of_ble_eq_true rfl⟩ (Nat.le_of_ble_eq_true rfl) d_LC_dateOf_92 ⟨Nat.zero_le _, Nat.zero_le _⟩ Bm_true (fun _ _ _ => trivial) ?_
      refine ai_ldc2 (x := 30) hx hb hown (hts _ k_668) (by decide +kernel) d_LC_dateOf_95 ?_
      refine ro_S (rest := []) (ct_JM_floorMod_JJJ l ((v11 * 1603000080) / 6311670000) 30 (by omega) (by omega)) j_JM_floorMod_JJJ k_664 hF rfl hl.1 rfl ⟨Nat.le_of_ble_eq_true rfl, Nat.le_of_ble_eq_true rfl⟩ (Nat.le_of_ble_eq_true rfl) d_LC_dateOf_98 ⟨Nat.zero_le _, Nat.zero_le _⟩ Bm_true (fun _ _ _ => trivial) ?_
      refine ai_lconst (x := 1) hx hb d_LC_dateOf_101 (by decide +kernel) ?_
      refine ai_ladd hx hb d_LC_dateOf_102 ?_
      refine ai_nmL hx hb (fun v103 e103 => ?_)
      have b103 : 1 ≤ v103 ∧ v103 ≤ 30 := (by have q := md_rng (x := v11 * 1603000080 / 6311670000) (n := 30) (by decide); rw [e103]; clear e103; generalize v11 * 1603000080 / 6311670000 % 30 = zz at *; omega)
      replace e103 : Hd (v103 = (((v11 * 1603000080) / 6311670000) % 30) + 1) := e103
      refine lv_lstore (lv' := [(14, .long (iL v103)), (12, .long (iL v82)), (11, .int (iI 1)), (9, .long (iL v47)), (7, .long (iL v37)), (5, .long (iL v27)), (3, .long (iL v11)), (0, .ref a), (1, .long (iL d))]) hx hb d_LC_dateOf_103 hl (by decide) rfl (fun ls hl => ?_)
      have q0 : luN d = v11 := e11.o.symm
      have q1 : luQ d = v27 := by unfold luQ; rw [q0, e27.o]
      have q2 : luC d = v37 := by unfold luC; rw [q1, e37.o]
      have q3 : luB d = v47 := by unfold luB; rw [q1, e47.o]
      have q4 : luD d = v103 := by unfold luD; rw [q0, e103.o]
      refine lv_lload hx hb d_LC_dateOf_105 (lv_at hl 4 rfl) ?_
      refine ai_ldc2 (x := 12) hx hb hown (hts _ k_666) (by decide +kernel) d_LC_dateOf_107 ?_
      refine ro_S (rest := []) (ct_JM_floorDiv_JJJ l v37 12 (by omega) (by omega)) j_JM_floorDiv_JJJ k_658 hF rfl hl.1 rfl ⟨Nat.le_of_ble_eq_true rfl, Nat.le_of_ble_eq_true rfl⟩ (Nat.le_of_ble_eq_true rfl) d_LC_dateOf_110 ⟨Nat.zero_le _, Nat.zero_le _⟩ Bm_true (fun _ _ _ => trivial) ?_
      refine lv_iload hx hb d_LC_dateOf_113 (lv_at hl 2 rfl) ?_
      refine ai_if_eq hx hb d_LC_dateOf_115 rfl (by omega) (fun h115 => by exfalso; omega) (fun h115 => ?_)
      refine lv_lload hx hb d_LC_dateOf_118 (lv_at hl 1 rfl) ?_
      refine ai_ldc2 (x := 100) hx hb hown (hts _ k_669) (by decide +kernel) d_LC_dateOf_120 ?_
      refine ai_ladd hx hb d_LC_dateOf_123 ?_
      refine lv_goto hx hb d_LC_dateOf_124 rfl ?_
      refine lv_lload hx hb d_LC_dateOf_129 (lv_at hl 0 rfl) ?_
      refine ro_SN (host := "DayBook") (rest := []) (ct_B_packed l (v37 / 12) (v82 + 100) v103) j_B_packed (hN.get 670 (by decide +kernel) (by decide +kernel)) hF rfl hl.1 rfl ⟨Nat.le_of_ble_eq_true rfl, Nat.le_of_ble_eq_true rfl⟩ (Nat.le_of_ble_eq_true rfl) d_LC_dateOf_131 ⟨Nat.zero_le _, Nat.zero_le _⟩ Bm_true (fun _ _ _ => trivial) ?_
      exact ro_lret hx hb hr hlk d_LC_dateOf_134 (by unfold dtL luM; rw [q2, q4, bI_t (by unfold luL; rw [q3]; omega), ← e82.o]; omega)
set_option maxHeartbeats 4000000 in
set_option maxRecDepth 100000 in
theorem ct_LC_dayOf (l : Launch) (D : va_G) (a : Nat) (y : Int) (mth : Int) (dd : Int) (ry : -200000 ≤ y ∧ y ≤ 200000) (rm : -2147483648 ≤ mth ∧ mth ≤ 2147483647) (rdd : -2147483648 ≤ dd ∧ dd ≤ 2147483647) : RO l y_LC_dayOf w_LC_dayOf 3 83 [.ref a, .long (iL y), .int (iI mth), .int (iI dd)] (OB D [(a, .inr (4, []))]) (.long (iL (dyL y mth dd))) := by
  refine ro_of (by decide +kernel) (Nat.le_of_ble_eq_true rfl) ?_
  intro p e s m below meth c ls hx hb hr hts hown hlk hml hl hN hB
  have hown : s.vm.findClass "DayBook$LunarCalendar" = some m.cls := hown
  have hl : lv_has ls 15 [(0, .ref a), (1, .long (iL y)), (3, .int (iI mth)), (4, .int (iI dd))] := hl
  have hF : _ ∧ _ ∧ _ ∧ _ ∧ _ ∧ _ := ⟨hx, hb, hml, hown, hts, hN⟩
  refine lv_iload_n hx hb d_LC_dayOf_0 rfl (lv_at hl 2 rfl) ?_
  refine ai_bipush (x := 100) hx hb d_LC_dayOf_1 (by decide +kernel) ?_
  refine ai_icmp_le hx hb d_LC_dayOf_3 rfl (by omega) (by omega) (fun h3 => ?_) (fun h3 => ?_)
  · skip
    have s1 : smL mth = mth := by unfold smL; rw [bI_f (by omega)]; omega
    have s2 : bI (100 < mth) = 0 := bI_f (by omega)
    refine ai_iconst hx hb d_LC_dayOf_10 ?_
    refine lv_istore (lv' := [(5, .int (iI 0)), (0, .ref a), (1, .long (iL y)), (3, .int (iI mth)), (4, .int (iI dd))]) hx hb d_LC_dayOf_11 hl (by decide) rfl (fun ls hl => ?_)
    refine lv_iload hx hb d_LC_dayOf_13 (lv_at hl 0 rfl) ?_
    refine ai_if_eq hx hb d_LC_dayOf_15 rfl (by omega) (fun h15 => ?_) (fun h15 => by exfalso; omega)
    refine lv_iload_n hx hb d_LC_dayOf_25 rfl (lv_at hl 3 rfl) ?_
    refine lv_istore (lv' := [(6, .int (iI mth)), (5, .int (iI 0)), (0, .ref a), (1, .long (iL y)), (3, .int (iI mth)), (4, .int (iI dd))]) hx hb d_LC_dayOf_26 hl (by decide) rfl (fun ls hl => ?_)
    refine lv_iload hx hb d_LC_dayOf_28 (lv_at hl 0 rfl) ?_
    refine ai_iconst hx hb d_LC_dayOf_30 ?_
    refine ai_icmp_lt hx hb d_LC_dayOf_31 rfl (by omega) (by omega) (fun h31 => ?_) (fun h31 => ?_)
    · skip
      refine ai_ldc2 (x := -9223372036854775808) hx hb hown (hts _ k_731) (by decide +kernel) d_LC_dayOf_54 ?_
      exact ro_lret hx hb hr hlk d_LC_dayOf_57 (by unfold dyL; rw [if_neg (by omega)])
    · skip
      refine lv_iload hx hb d_LC_dayOf_34 (lv_at hl 0 rfl) ?_
      refine ai_bipush (x := 12) hx hb d_LC_dayOf_36 (by decide +kernel) ?_
      refine ai_icmp_gt hx hb d_LC_dayOf_38 rfl (by omega) (by omega) (fun h38 => ?_) (fun h38 => ?_)
      · skip
        refine ai_ldc2 (x := -9223372036854775808) hx hb hown (hts _ k_731) (by decide +kernel) d_LC_dayOf_54 ?_
        exact ro_lret hx hb hr hlk d_LC_dayOf_57 (by unfold dyL; rw [if_neg (by omega)])
      · skip
        refine lv_iload hx hb d_LC_dayOf_41 (lv_at hl 5 rfl) ?_
        refine ai_iconst hx hb d_LC_dayOf_43 ?_
        refine ai_icmp_lt hx hb d_LC_dayOf_44 rfl (by omega) (by omega) (fun h44 => ?_) (fun h44 => ?_)
        · skip
          refine ai_ldc2 (x := -9223372036854775808) hx hb hown (hts _ k_731) (by decide +kernel) d_LC_dayOf_54 ?_
          exact ro_lret hx hb hr hlk d_LC_dayOf_57 (by unfold dyL; rw [if_neg (by omega)])
        · skip
          refine lv_iload hx hb d_LC_dayOf_47 (lv_at hl 5 rfl) ?_
          refine ai_bipush (x := 30) hx hb d_LC_dayOf_49 (by decide +kernel) ?_
          refine ai_icmp_le hx hb d_LC_dayOf_51 rfl (by omega) (by omega) (fun h51 => ?_) (fun h51 => ?_)
          · skip
            refine ai_ldc2 (x := 12) hx hb hown (hts _ k_666) (by decide +kernel) d_LC_dayOf_58 ?_
            refine lv_lload_n hx hb d_LC_dayOf_61 rfl (lv_at hl 3 rfl) ?_
            refine ai_lmul hx hb d_LC_dayOf_62 ?_
            refine lv_iload hx hb d_LC_dayOf_63 (lv_at hl 0 rfl) ?_
            refine ai_i2l hx hb d_LC_dayOf_65 (by omega) ?_
            refine ai_ladd hx hb d_LC_dayOf_66 ?_
            refine ai_lconst (x := 1) hx hb d_LC_dayOf_67 (by decide +kernel) ?_
            refine ai_lsub hx hb d_LC_dayOf_68 ?_
            refine ai_ldc2 (x := 53433336) hx hb hown (hts _ k_656) (by decide +kernel) d_LC_dayOf_69 ?_
            refine ai_lmul hx hb d_LC_dayOf_72 ?_
            refine ai_ldc2 (x := 51840000) hx hb hown (hts _ k_659) (by decide +kernel) d_LC_dayOf_73 ?_
            refine ro_S (rest := []) (ct_JM_floorDiv_JJJ l ((((12 * y) + mth) - 1) * 53433336) 51840000 (by omega) (by omega)) j_JM_floorDiv_JJJ k_658 hF rfl hl.1 rfl ⟨Nat.le_of_ble_eq_true rfl, Nat.le_of_ble_eq_true rfl⟩ (Nat.le_of_ble_eq_true rfl) d_LC_dayOf_76 ⟨Nat.zero_le _, Nat.zero_le _⟩ Bm_true (fun _ _ _ => trivial) ?_
            refine ai_nmL hx hb (fun v79 e79 => ?_)
            have b79 : -2500000 ≤ v79 ∧ v79 ≤ 2500000 := (by first | (have q := db (x := (((12 * y) + v26) - 1) * 53433336) (n := 51840000) (lo := -2500000) (hi := 2500000) (by decide) (by omega) (by omega); rw [e79]; exact q) | (have q := db (x := (((12 * y) + mth) - 1) * 53433336) (n := 51840000) (lo := -2500000) (hi := 2500000) (by decide) (by omega) (by omega); rw [e79]; exact q))
            replace e79 : Hd (v79 = ((((12 * y) + mth) - 1) * 53433336) / 51840000) := e79
            refine lv_lstore (lv' := [(7, .long (iL v79)), (6, .int (iI mth)), (5, .int (iI 0)), (0, .ref a), (1, .long (iL y)), (3, .int (iI mth)), (4, .int (iI dd))]) hx hb d_LC_dayOf_79 hl (by decide) rfl (fun ls hl => ?_)
            refine ai_ldc2 (x := 30) hx hb hown (hts _ k_668) (by decide +kernel) d_LC_dayOf_81 ?_
            refine lv_iload hx hb d_LC_dayOf_84 (lv_at hl 2 rfl) ?_
            refine ai_if_eq hx hb d_LC_dayOf_86 rfl (by omega) (fun h86 => ?_) (fun h86 => by exfalso; omega)
            refine lv_lload hx hb d_LC_dayOf_96 (lv_at hl 0 rfl) ?_
            refine ai_lmul hx hb d_LC_dayOf_98 ?_
            refine lv_iload hx hb d_LC_dayOf_99 (lv_at hl 6 rfl) ?_
            refine ai_i2l hx hb d_LC_dayOf_101 (by omega) ?_
            refine ai_ladd hx hb d_LC_dayOf_102 ?_
            refine ai_lconst (x := 1) hx hb d_LC_dayOf_103 (by decide +kernel) ?_
            refine ai_lsub hx hb d_LC_dayOf_104 ?_
            refine ai_nmL hx hb (fun v105 e105 => ?_)
            have b105 : -75000100 ≤ v105 ∧ v105 ≤ 75000100 := (by omega)
            replace e105 : Hd (v105 = ((30 * v79) + dd) - 1) := e105
            refine lv_lstore (lv' := [(9, .long (iL v105)), (7, .long (iL v79)), (6, .int (iI mth)), (5, .int (iI 0)), (0, .ref a), (1, .long (iL y)), (3, .int (iI mth)), (4, .int (iI dd))]) hx hb d_LC_dayOf_105 hl (by decide) rfl (fun ls hl => ?_)
            refine lv_lload hx hb d_LC_dayOf_107 (lv_at hl 0 rfl) ?_
            refine ai_ldc2 (x := 6311670000) hx hb hown (hts _ k_657) (by decide +kernel) d_LC_dayOf_109 ?_
            refine ai_lmul hx hb d_LC_dayOf_112 ?_
            refine ai_ldc2 (x := 1603000080) hx hb hown (hts _ k_667) (by decide +kernel) d_LC_dayOf_113 ?_
            refine ro_SN (host := "DayBook") (rest := []) (ct_B_ceilDiv l (v105 * 6311670000) 1603000080 (by omega) (by omega)) j_B_ceilDiv (hN.get 660 (by decide +kernel) (by decide +kernel)) hF rfl hl.1 rfl ⟨Nat.le_of_ble_eq_true rfl, Nat.le_of_ble_eq_true rfl⟩ (Nat.le_of_ble_eq_true rfl) d_LC_dayOf_116 ⟨Nat.zero_le _, Nat.zero_le _⟩ Bm_true (fun _ _ _ => trivial) ?_
            refine ai_nmL hx hb (fun v119 e119 => ?_)
            have b119 : -296000000 ≤ v119 ∧ v119 ≤ 296000000 := (by have q := db (x := -(v105 * 6311670000)) (n := 1603000080) (lo := -296000000) (hi := 296000000) (by decide) (by omega) (by omega); rw [e119]; clear e119; generalize -(v105 * 6311670000) / 1603000080 = zz at *; omega)
            replace e119 : Hd (v119 = -(-(v105 * 6311670000) / 1603000080)) := e119
            refine lv_lstore (lv' := [(11, .long (iL v119)), (9, .long (iL v105)), (7, .long (iL v79)), (6, .int (iI mth)), (5, .int (iI 0)), (0, .ref a), (1, .long (iL y)), (3, .int (iI mth)), (4, .int (iI dd))]) hx hb d_LC_dayOf_119 hl (by decide) rfl (fun ls hl => ?_)
            refine lv_lload hx hb d_LC_dayOf_121 (lv_at hl 0 rfl) ?_
            refine ai_lconst (x := 1) hx hb d_LC_dayOf_123 (by decide +kernel) ?_
            refine ai_lsub hx hb d_LC_dayOf_124 ?_
            refine ai_ldc2 (x := 4) hx hb hown (hts _ k_654) (by decide +kernel) d_LC_dayOf_125 ?_
            refine ro_SN (host := "DayBook") (rest := []) (ct_B_ceilDiv l (v119 - 1) 4 (by omega) (by omega)) j_B_ceilDiv (hN.get 660 (by decide +kernel) (by decide +kernel)) hF rfl hl.1 rfl ⟨Nat.le_of_ble_eq_true rfl, Nat.le_of_ble_eq_true rfl⟩ (Nat.le_of_ble_eq_true rfl) d_LC_dayOf_128 ⟨Nat.zero_le _, Nat.zero_le _⟩ Bm_true (fun _ _ _ => trivial) ?_
            refine ai_ldc2 (x := 1132959) hx hb hown (hts _ k_655) (by decide +kernel) d_LC_dayOf_131 ?_
            refine ai_lsub hx hb d_LC_dayOf_134 ?_
            refine ai_nmL hx hb (fun v135 e135 => ?_)
            have b135 : -76000000 ≤ v135 ∧ v135 ≤ 76000000 := (by have q := db (x := -(v119 - 1)) (n := 4) (lo := -74000100) (hi := 74000100) (by decide) (by omega) (by omega); rw [e135]; clear e135; generalize -(v119 - 1) / 4 = zz at *; omega)
            replace e135 : Hd (v135 = (-(-(v119 - 1) / 4)) - 1132959) := e135
            refine lv_lstore (lv' := [(13, .long (iL v135)), (11, .long (iL v119)), (9, .long (iL v105)), (7, .long (iL v79)), (6, .int (iI mth)), (5, .int (iI 0)), (0, .ref a), (1, .long (iL y)), (3, .int (iI mth)), (4, .int (iI dd))]) hx hb d_LC_dayOf_135 hl (by decide) rfl (fun ls hl => ?_)
            have qm : mdL y (smL mth) (bI (100 < mth)) dd = v105 := by unfold mdL; rw [s1, s2, e105.o, e79.o]; first | done | omega | (rw [e26]; done) | (rw [e26]; omega)
            have qd : dyL0 y mth dd = v135 := by unfold dyL0; rw [qm]; unfold qdL; rw [e135.o, e119.o]
            have qr := dtL_rng (d := v135) (by omega)
            refine lv_aload_n hx hb d_LC_dayOf_137 rfl (lv_at hl 6 rfl) ?_
            refine lv_lload hx hb d_LC_dayOf_138 (lv_at hl 0 rfl) ?_
            refine ro_V (rest := []) (ct_LC_dateOf l a v135 (by omega)) j_LC_dateOf k_732 (hts _ s_LC_dateOf) hF (hB.recv 0 rfl rfl) rfl hl.1 rfl ⟨Nat.le_of_ble_eq_true rfl, Nat.le_of_ble_eq_true rfl⟩ (Nat.le_of_ble_eq_true rfl) d_LC_dayOf_140 ⟨Nat.zero_le _, Nat.zero_le _⟩ Bm_true (fun _ _ _ => trivial) ?_
            refine lv_lload_n hx hb d_LC_dayOf_143 rfl (lv_at hl 7 rfl) ?_
            refine lv_iload_n hx hb d_LC_dayOf_144 rfl (lv_at hl 8 rfl) ?_
            refine ai_i2l hx hb d_LC_dayOf_145 (by omega) ?_
            refine lv_iload hx hb d_LC_dayOf_146 (lv_at hl 9 rfl) ?_
            refine ai_i2l hx hb d_LC_dayOf_148 (by omega) ?_
            refine ro_SN (host := "DayBook") (rest := [.long (iL (dtL v135))]) (ct_B_packed l y mth dd) j_B_packed (hN.get 670 (by decide +kernel) (by decide +kernel)) hF rfl hl.1 rfl ⟨Nat.le_of_ble_eq_true rfl, Nat.le_of_ble_eq_true rfl⟩ (Nat.le_of_ble_eq_true rfl) d_LC_dayOf_149 ⟨Nat.zero_le _, Nat.zero_le _⟩ Bm_true (fun _ _ _ => trivial) ?_
            refine ai_lcmp_ne hx hb d_LC_dayOf_152 d_LC_dayOf_153 rfl (by omega) (by omega) (fun h152 => ?_) (fun h152 => ?_)
            · skip
              refine ai_ldc2 (x := -9223372036854775808) hx hb hown (hts _ k_731) (by decide +kernel) d_LC_dayOf_161 ?_
              exact ro_lret hx hb hr hlk d_LC_dayOf_164 (by unfold dyL; rw [if_neg (fun q => h152 (by rw [← qd]; exact q.2))])
            · skip
              refine lv_lload hx hb d_LC_dayOf_156 (lv_at hl 0 rfl) ?_
              refine lv_goto hx hb d_LC_dayOf_158 rfl ?_
              exact ro_lret hx hb hr hlk d_LC_dayOf_164 (by unfold dyL; rw [if_pos ⟨by omega, by rw [qd]; exact h152⟩, qd])
          · skip
            refine ai_ldc2 (x := -9223372036854775808) hx hb hown (hts _ k_731) (by decide +kernel) d_LC_dayOf_54 ?_
            exact ro_lret hx hb hr hlk d_LC_dayOf_57 (by unfold dyL; rw [if_neg (by omega)])
  · skip
    have s1 : smL mth = mth - 100 := by unfold smL; rw [bI_t (by omega)]; omega
    have s2 : bI (100 < mth) = 1 := bI_t (by omega)
    refine ai_iconst hx hb d_LC_dayOf_6 ?_
    refine lv_goto hx hb d_LC_dayOf_7 rfl ?_
    refine lv_istore (lv' := [(5, .int (iI 1)), (0, .ref a), (1, .long (iL y)), (3, .int (iI mth)), (4, .int (iI dd))]) hx hb d_LC_dayOf_11 hl (by decide) rfl (fun ls hl => ?_)
    refine lv_iload hx hb d_LC_dayOf_13 (lv_at hl 0 rfl) ?_
    refine ai_if_eq hx hb d_LC_dayOf_15 rfl (by omega) (fun h15 => by exfalso; omega) (fun h15 => ?_)
    refine lv_iload_n hx hb d_LC_dayOf_18 rfl (lv_at hl 3 rfl) ?_
    refine ai_bipush (x := 100) hx hb d_LC_dayOf_19 (by decide +kernel) ?_
    refine ai_isub hx hb d_LC_dayOf_21 ?_
    refine lv_goto hx hb d_LC_dayOf_22 rfl ?_
    refine ai_nmI hx hb (fun v26 e26 => ?_)
    refine lv_istore (lv' := [(6, .int (iI v26)), (5, .int (iI 1)), (0, .ref a), (1, .long (iL y)), (3, .int (iI mth)), (4, .int (iI dd))]) hx hb d_LC_dayOf_26 hl (by decide) rfl (fun ls hl => ?_)
    refine lv_iload hx hb d_LC_dayOf_28 (lv_at hl 0 rfl) ?_
    refine ai_iconst hx hb d_LC_dayOf_30 ?_
    refine ai_icmp_lt hx hb d_LC_dayOf_31 rfl (by omega) (by omega) (fun h31 => ?_) (fun h31 => ?_)
    · skip
      refine ai_ldc2 (x := -9223372036854775808) hx hb hown (hts _ k_731) (by decide +kernel) d_LC_dayOf_54 ?_
      exact ro_lret hx hb hr hlk d_LC_dayOf_57 (by unfold dyL; rw [if_neg (by omega)])
    · skip
      refine lv_iload hx hb d_LC_dayOf_34 (lv_at hl 0 rfl) ?_
      refine ai_bipush (x := 12) hx hb d_LC_dayOf_36 (by decide +kernel) ?_
      refine ai_icmp_gt hx hb d_LC_dayOf_38 rfl (by omega) (by omega) (fun h38 => ?_) (fun h38 => ?_)
      · skip
        refine ai_ldc2 (x := -9223372036854775808) hx hb hown (hts _ k_731) (by decide +kernel) d_LC_dayOf_54 ?_
        exact ro_lret hx hb hr hlk d_LC_dayOf_57 (by unfold dyL; rw [if_neg (by omega)])
      · skip
        refine lv_iload hx hb d_LC_dayOf_41 (lv_at hl 5 rfl) ?_
        refine ai_iconst hx hb d_LC_dayOf_43 ?_
        refine ai_icmp_lt hx hb d_LC_dayOf_44 rfl (by omega) (by omega) (fun h44 => ?_) (fun h44 => ?_)
        · skip
          refine ai_ldc2 (x := -9223372036854775808) hx hb hown (hts _ k_731) (by decide +kernel) d_LC_dayOf_54 ?_
          exact ro_lret hx hb hr hlk d_LC_dayOf_57 (by unfold dyL; rw [if_neg (by omega)])
        · skip
          refine lv_iload hx hb d_LC_dayOf_47 (lv_at hl 5 rfl) ?_
          refine ai_bipush (x := 30) hx hb d_LC_dayOf_49 (by decide +kernel) ?_
          refine ai_icmp_le hx hb d_LC_dayOf_51 rfl (by omega) (by omega) (fun h51 => ?_) (fun h51 => ?_)
          · skip
            refine ai_ldc2 (x := 12) hx hb hown (hts _ k_666) (by decide +kernel) d_LC_dayOf_58 ?_
            refine lv_lload_n hx hb d_LC_dayOf_61 rfl (lv_at hl 3 rfl) ?_
            refine ai_lmul hx hb d_LC_dayOf_62 ?_
            refine lv_iload hx hb d_LC_dayOf_63 (lv_at hl 0 rfl) ?_
            refine ai_i2l hx hb d_LC_dayOf_65 (by omega) ?_
            refine ai_ladd hx hb d_LC_dayOf_66 ?_
            refine ai_lconst (x := 1) hx hb d_LC_dayOf_67 (by decide +kernel) ?_
            refine ai_lsub hx hb d_LC_dayOf_68 ?_
            refine ai_ldc2 (x := 53433336) hx hb hown (hts _ k_656) (by decide +kernel) d_LC_dayOf_69 ?_
            refine ai_lmul hx hb d_LC_dayOf_72 ?_
            refine ai_ldc2 (x := 51840000) hx hb hown (hts _ k_659) (by decide +kernel) d_LC_dayOf_73 ?_
            refine ro_S (rest := []) (ct_JM_floorDiv_JJJ l ((((12 * y) + v26) - 1) * 53433336) 51840000 (by omega) (by omega)) j_JM_floorDiv_JJJ k_658 hF rfl hl.1 rfl ⟨Nat.le_of_ble_eq_true rfl, Nat.le_of_ble_eq_true rfl⟩ (Nat.le_of_ble_eq_true rfl) d_LC_dayOf_76 ⟨Nat.zero_le _, Nat.zero_le _⟩ Bm_true (fun _ _ _ => trivial) ?_
            refine ai_nmL hx hb (fun v79 e79 => ?_)
            have b79 : -2500000 ≤ v79 ∧ v79 ≤ 2500000 := (by first | (have q := db (x := (((12 * y) + v26) - 1) * 53433336) (n := 51840000) (lo := -2500000) (hi := 2500000) (by decide) (by omega) (by omega); rw [e79]; exact q) | (have q := db (x := (((12 * y) + mth) - 1) * 53433336) (n := 51840000) (lo := -2500000) (hi := 2500000) (by decide) (by omega) (by omega); rw [e79]; exact q))
            replace e79 : Hd (v79 = ((((12 * y) + v26) - 1) * 53433336) / 51840000) := e79
            refine lv_lstore (lv' := [(7, .long (iL v79)), (6, .int (iI v26)), (5, .int (iI 1)), (0, .ref a), (1, .long (iL y)), (3, .int (iI mth)), (4, .int (iI dd))]) hx hb d_LC_dayOf_79 hl (by decide) rfl (fun ls hl => ?_)
            refine ai_ldc2 (x := 30) hx hb hown (hts _ k_668) (by decide +kernel) d_LC_dayOf_81 ?_
            refine lv_iload hx hb d_LC_dayOf_84 (lv_at hl 2 rfl) ?_
            refine ai_if_eq hx hb d_LC_dayOf_86 rfl (by omega) (fun h86 => by exfalso; omega) (fun h86 => ?_)
            refine lv_lload hx hb d_LC_dayOf_89 (lv_at hl 0 rfl) ?_
            refine ai_lconst (x := 1) hx hb d_LC_dayOf_91 (by decide +kernel) ?_
            refine ai_lsub hx hb d_LC_dayOf_92 ?_
            refine lv_goto hx hb d_LC_dayOf_93 rfl ?_
            refine ai_lmul hx hb d_LC_dayOf_98 ?_
            refine lv_iload hx hb d_LC_dayOf_99 (lv_at hl 6 rfl) ?_
            refine ai_i2l hx hb d_LC_dayOf_101 (by omega) ?_
            refine ai_ladd hx hb d_LC_dayOf_102 ?_
            refine ai_lconst (x := 1) hx hb d_LC_dayOf_103 (by decide +kernel) ?_
            refine ai_lsub hx hb d_LC_dayOf_104 ?_
            refine ai_nmL hx hb (fun v105 e105 => ?_)
            have b105 : -75000100 ≤ v105 ∧ v105 ≤ 75000100 := (by omega)
            replace e105 : Hd (v105 = ((30 * (v79 - 1)) + dd) - 1) := e105
            refine lv_lstore (lv' := [(9, .long (iL v105)), (7, .long (iL v79)), (6, .int (iI v26)), (5, .int (iI 1)), (0, .ref a), (1, .long (iL y)), (3, .int (iI mth)), (4, .int (iI dd))]) hx hb d_LC_dayOf_105 hl (by decide) rfl (fun ls hl => ?_)
            refine lv_lload hx hb d_LC_dayOf_107 (lv_at hl 0 rfl) ?_
            refine ai_ldc2 (x := 6311670000) hx hb hown (hts _ k_657) (by decide +kernel) d_LC_dayOf_109 ?_
            refine ai_lmul hx hb d_LC_dayOf_112 ?_
            refine ai_ldc2 (x := 1603000080) hx hb hown (hts _ k_667) (by decide +kernel) d_LC_dayOf_113 ?_
            refine ro_SN (host := "DayBook") (rest := []) (ct_B_ceilDiv l (v105 * 6311670000) 1603000080 (by omega) (by omega)) j_B_ceilDiv (hN.get 660 (by decide +kernel) (by decide +kernel)) hF rfl hl.1 rfl ⟨Nat.le_of_ble_eq_true rfl, Nat.le_of_ble_eq_true rfl⟩ (Nat.le_of_ble_eq_true rfl) d_LC_dayOf_116 ⟨Nat.zero_le _, Nat.zero_le _⟩ Bm_true (fun _ _ _ => trivial) ?_
            refine ai_nmL hx hb (fun v119 e119 => ?_)
            have b119 : -296000000 ≤ v119 ∧ v119 ≤ 296000000 := (by have q := db (x := -(v105 * 6311670000)) (n := 1603000080) (lo := -296000000) (hi := 296000000) (by decide) (by omega) (by omega); rw [e119]; clear e119; generalize -(v105 * 6311670000) / 1603000080 = zz at *; omega)
            replace e119 : Hd (v119 = -(-(v105 * 6311670000) / 1603000080)) := e119
            refine lv_lstore (lv' := [(11, .long (iL v119)), (9, .long (iL v105)), (7, .long (iL v79)), (6, .int (iI v26)), (5, .int (iI 1)), (0, .ref a), (1, .long (iL y)), (3, .int (iI mth)), (4, .int (iI dd))]) hx hb d_LC_dayOf_119 hl (by decide) rfl (fun ls hl => ?_)
            refine lv_lload hx hb d_LC_dayOf_121 (lv_at hl 0 rfl) ?_
            refine ai_lconst (x := 1) hx hb d_LC_dayOf_123 (by decide +kernel) ?_
            refine ai_lsub hx hb d_LC_dayOf_124 ?_
            refine ai_ldc2 (x := 4) hx hb hown (hts _ k_654) (by decide +kernel) d_LC_dayOf_125 ?_
            refine ro_SN (host := "DayBook") (rest := []) (ct_B_ceilDiv l (v119 - 1) 4 (by omega) (by omega)) j_B_ceilDiv (hN.get 660 (by decide +kernel) (by decide +kernel)) hF rfl hl.1 rfl ⟨Nat.le_of_ble_eq_true rfl, Nat.le_of_ble_eq_true rfl⟩ (Nat.le_of_ble_eq_true rfl) d_LC_dayOf_128 ⟨Nat.zero_le _, Nat.zero_le _⟩ Bm_true (fun _ _ _ => trivial) ?_
            refine ai_ldc2 (x := 1132959) hx hb hown (hts _ k_655) (by decide +kernel) d_LC_dayOf_131 ?_
            refine ai_lsub hx hb d_LC_dayOf_134 ?_
            refine ai_nmL hx hb (fun v135 e135 => ?_)
            have b135 : -76000000 ≤ v135 ∧ v135 ≤ 76000000 := (by have q := db (x := -(v119 - 1)) (n := 4) (lo := -74000100) (hi := 74000100) (by decide) (by omega) (by omega); rw [e135]; clear e135; generalize -(v119 - 1) / 4 = zz at *; omega)
            replace e135 : Hd (v135 = (-(-(v119 - 1) / 4)) - 1132959) := e135
            refine lv_lstore (lv' := [(13, .long (iL v135)), (11, .long (iL v119)), (9, .long (iL v105)), (7, .long (iL v79)), (6, .int (iI v26)), (5, .int (iI 1)), (0, .ref a), (1, .long (iL y)), (3, .int (iI mth)), (4, .int (iI dd))]) hx hb d_LC_dayOf_135 hl (by decide) rfl (fun ls hl => ?_)
            have qm : mdL y (smL mth) (bI (100 < mth)) dd = v105 := by unfold mdL; rw [s1, s2, e105.o, e79.o]; first | done | omega | (rw [e26]; done) | (rw [e26]; omega)
            have qd : dyL0 y mth dd = v135 := by unfold dyL0; rw [qm]; unfold qdL; rw [e135.o, e119.o]
            have qr := dtL_rng (d := v135) (by omega)
            refine lv_aload_n hx hb d_LC_dayOf_137 rfl (lv_at hl 6 rfl) ?_
            refine lv_lload hx hb d_LC_dayOf_138 (lv_at hl 0 rfl) ?_
            refine ro_V (rest := []) (ct_LC_dateOf l a v135 (by omega)) j_LC_dateOf k_732 (hts _ s_LC_dateOf) hF (hB.recv 0 rfl rfl) rfl hl.1 rfl ⟨Nat.le_of_ble_eq_true rfl, Nat.le_of_ble_eq_true rfl⟩ (Nat.le_of_ble_eq_true rfl) d_LC_dayOf_140 ⟨Nat.zero_le _, Nat.zero_le _⟩ Bm_true (fun _ _ _ => trivial) ?_
            refine lv_lload_n hx hb d_LC_dayOf_143 rfl (lv_at hl 7 rfl) ?_
            refine lv_iload_n hx hb d_LC_dayOf_144 rfl (lv_at hl 8 rfl) ?_
            refine ai_i2l hx hb d_LC_dayOf_145 (by omega) ?_
            refine lv_iload hx hb d_LC_dayOf_146 (lv_at hl 9 rfl) ?_
            refine ai_i2l hx hb d_LC_dayOf_148 (by omega) ?_
            refine ro_SN (host := "DayBook") (rest := [.long (iL (dtL v135))]) (ct_B_packed l y mth dd) j_B_packed (hN.get 670 (by decide +kernel) (by decide +kernel)) hF rfl hl.1 rfl ⟨Nat.le_of_ble_eq_true rfl, Nat.le_of_ble_eq_true rfl⟩ (Nat.le_of_ble_eq_true rfl) d_LC_dayOf_149 ⟨Nat.zero_le _, Nat.zero_le _⟩ Bm_true (fun _ _ _ => trivial) ?_
            refine ai_lcmp_ne hx hb d_LC_dayOf_152 d_LC_dayOf_153 rfl (by omega) (by omega) (fun h152 => ?_) (fun h152 => ?_)
            · skip
              refine ai_ldc2 (x := -9223372036854775808) hx hb hown (hts _ k_731) (by decide +kernel) d_LC_dayOf_161 ?_
              exact ro_lret hx hb hr hlk d_LC_dayOf_164 (by unfold dyL; rw [if_neg (fun q => h152 (by rw [← qd]; exact q.2))])
            · skip
              refine lv_lload hx hb d_LC_dayOf_156 (lv_at hl 0 rfl) ?_
              refine lv_goto hx hb d_LC_dayOf_158 rfl ?_
              exact ro_lret hx hb hr hlk d_LC_dayOf_164 (by unfold dyL; rw [if_pos ⟨by omega, by rw [qd]; exact h152⟩, qd])
          · skip
            refine ai_ldc2 (x := -9223372036854775808) hx hb hown (hts _ k_731) (by decide +kernel) d_LC_dayOf_54 ?_
            exact ro_lret hx hb hr hlk d_LC_dayOf_57 (by unfold dyL; rw [if_neg (by omega)])
