/-! 31.modelF: laid by program (wip/whole) -/
theorem nmM_rng {g : Nat → Nat → Int} {cal : Int} (hcal : cal = 0 ∨ cal = 1 ∨ cal = 3 ∨ cal = 4 ∨ cal = 5 ∨ cal = 6 ∨ cal = 7 ∨ cal = 8 ∨ cal = 9 ∨ cal = 12 ∨ cal = 13) (ho : 12 ≤ cal → OwnOK g (Int.toNat (cal - 12))) (y : Int) : 1 ≤ nmM g cal y ∧ nmM g cal y ≤ 20 := by
  have b := bI_01 (yl9 y)
  unfold nmM
  split
  · omega
  · split
    · omega
    · split
      · omega
      · split
        · omega
        · split
          · omega
          · split
            · rename_i h; exact (ho (by omega)).1
            · omega
theorem maM_rng {cal y pl : Int} (h : 0 ≤ pl ∧ pl ≤ 60) : 0 ≤ maM cal y pl ∧ maM cal y pl ≤ 100 := by
  have b := bI_01 (yl9 y)
  unfold maM
  split
  · split
    · omega
    · split <;> omega
  · split
    · split <;> omega
    · omega
theorem lnM_rng {g : Nat → Nat → Int} {cal : Int} (hcal : cal = 0 ∨ cal = 1 ∨ cal = 3 ∨ cal = 4 ∨ cal = 5 ∨ cal = 6 ∨ cal = 7 ∨ cal = 8 ∨ cal = 9 ∨ cal = 12 ∨ cal = 13) (ho : 12 ≤ cal → OwnOK g (Int.toNat (cal - 12))) (y Mo : Int) : 1 ≤ lnM g cal y Mo ∧ lnM g cal y Mo ≤ 60 := by
  have b := fun P => bI_01 P
  have k0 : ∀ P : Prop, 1 ≤ ln0 P Mo ∧ ln0 P Mo ≤ 60 := fun P => by unfold ln0; have := b P; split; omega; split <;> omega
  have k3 : ∀ P : Prop, 1 ≤ ln3 P Mo ∧ ln3 P Mo ≤ 60 := fun P => by unfold ln3; have := b P; split <;> omega
  have k5 : ∀ P : Prop, 1 ≤ ln5 P Mo ∧ ln5 P Mo ≤ 60 := fun P => by unfold ln5; have := b (Mo = 12 ∧ P); split <;> omega
  have k6 : ∀ P : Prop, 1 ≤ ln6 P Mo ∧ ln6 P Mo ≤ 60 := fun P => by unfold ln6; have := b P; split; omega; split <;> omega
  have k8 : ∀ P : Prop, 1 ≤ ln8 P Mo ∧ ln8 P Mo ≤ 60 := fun P => by unfold ln8; have := b P; split <;> omega
  have k9 : ∀ P : Prop, 1 ≤ mlM y P Mo ∧ mlM y P Mo ≤ 60 := fun P => by
    unfold mlM
    have h1 := b (hst (y + 1) - hst y = 355 ∨ hst (y + 1) - hst y = 385)
    have h2 := b (hst (y + 1) - hst y = 353 ∨ hst (y + 1) - hst y = 383)
    have h3 := b P
    split
    · omega
    · split
      · omega
      · split
        · omega
        · split <;> omega
  have kO : ∀ (x z : Int) (P : Prop), (1 ≤ z ∧ z ≤ 40) → 1 ≤ lnO x z P Mo ∧ lnO x z P Mo ≤ 60 := fun x z P h => by unfold lnO; have := b (Mo = x ∧ P); omega
  rcases hcal with rfl | rfl | rfl | rfl | rfl | rfl | rfl | rfl | rfl | rfl | rfl
  · exact k0 _
  · exact k0 _
  · exact k3 _
  · exact k3 _
  · exact k5 _
  · exact k6 _
  · exact k3 _
  · exact k8 _
  · exact k9 _
  · exact kO _ _ _ (ho (by decide)).2.1
  · exact kO _ _ _ (ho (by decide)).2.1
/-- the date of a day in the reference -/
def DTM (g : Nat → Nat → Int) (cal d Yr Mo Dy : Int) : Prop :=
  (cal = 10 ∧ Yr = suK d / 12 ∧ Mo = suK d % 12 + 1 ∧ Dy = suD d) ∨ (cal = 11 ∧ Yr = luC d / 12 ∧ Mo = luM d ∧ Dy = luD d) ∨
  (cal = 2 ∧ ∃ k, (stM g 2 k ≤ d ∧ d < stM g 2 (k + 1)) ∧ Yr = k ∧ Mo = (d - stM g 2 k) / 7 + 1 ∧ Dy = (d - stM g 2 k) % 7 + 1) ∨
  ((cal = 0 ∨ cal = 1 ∨ cal = 3 ∨ cal = 4 ∨ cal = 5 ∨ cal = 6 ∨ cal = 7 ∨ cal = 8 ∨ cal = 9 ∨ cal = 12 ∨ cal = 13) ∧ ∃ (k : Int) (pl : Nat), (stM g cal k ≤ d ∧ d < stM g cal (k + 1)) ∧ (pl : Int) < nmM g cal k ∧ (cm (fun i => lnM g cal k (maM cal k i)) pl ≤ d - stM g cal k ∧ d - stM g cal k < cm (fun i => lnM g cal k (maM cal k i)) (pl + 1)) ∧ Yr = nmd cal k ∧ Mo = maM cal k pl ∧ Dy = d - stM g cal k - cm (fun i => lnM g cal k (maM cal k i)) pl + 1)
theorem stM_len {g : Nat → Nat → Int} {cal : Int} (hC : cal = 0 ∨ cal = 1 ∨ cal = 3 ∨ cal = 4 ∨ cal = 5 ∨ cal = 6 ∨ cal = 7 ∨ cal = 8 ∨ cal = 9 ∨ cal = 12 ∨ cal = 13) (ho : 12 ≤ cal → OwnOK g (Int.toNat (cal - 12))) (y : Int) : stM g cal (y + 1) ≤ stM g cal y + 2000 := by
  by_cases h9 : cal = 9
  · subst h9; rw [stM_9]; have := hst_len y; omega
  · rw [stM_p h9 (by omega), ysM_step (by omega) ho]
    have := plM_rng (g := g) (cal := cal) (by omega) ho
    have := bI_01 (lpM g cal y)
    omega
set_option maxHeartbeats 4000000 in
set_option maxRecDepth 100000 in
theorem ct_M_findMoonDate (l : Launch) (D : va_G) (a : Nat) (ad : Nat → Nat) (cx : Nat → ClassId) (F : Nat → Int) (g : Nat → Nat → Int) (d : Int) (rd : -100000000 ≤ d ∧ d ≤ 100000000) : MW l y_M_findMoonDate w_M_findMoonDate 2 48 [.ref a, .long (iL d)] D a ad cx F g (QMv D a ad cx (fun u => u = (upF (upF (upF F 5 (luC d / 12)) 6 (luM d)) 7 (luD d), g))) := by
  refine mw_of (by decide +kernel) (Nat.le_of_ble_eq_true rfl) ?_
  intro p e s m below meth c ls hx hb hr hts hown hlk hml hl hN hK hP hD
  have hown : s.vm.findClass "DayBookModel" = some m.cls := hown
  have hl : lv_has ls 11 [(0, .ref a), (1, .long (iL d))] := hl
  have hF : _ ∧ _ ∧ _ ∧ _ ∧ _ ∧ _ := ⟨hx, hb, hml, hown, hts, hN⟩
  have hS : va_S (Ain a ad) s.heap s.heap [] := va_S.rf
  refine ai_ldc2 (x := 4) hx hb hown (hts _ k_924) (by decide +kernel) d_M_findMoonDate_0 ?_
  refine lv_lload_n hx hb d_M_findMoonDate_3 rfl (lv_at hl 1 rfl) ?_
  refine ai_ldc2 (x := 1132959) hx hb hown (hts _ k_1035) (by decide +kernel) d_M_findMoonDate_4 ?_
  refine ai_ladd hx hb d_M_findMoonDate_7 ?_
  refine ai_lmul hx hb d_M_findMoonDate_8 ?_
  refine ai_lconst (x := 1) hx hb d_M_findMoonDate_9 (by decide +kernel) ?_
  refine ai_ladd hx hb d_M_findMoonDate_10 ?_
  refine ai_nmL hx hb (fun v11 e11 => ?_)
  have b11 : -400000000 ≤ v11 ∧ v11 ≤ 405000000 := (by omega)
  replace e11 : Hd (v11 = (4 * (d + 1132959)) + 1) := e11
  refine lv_lstore_n (lv' := [(3, .long (iL v11)), (0, .ref a), (1, .long (iL d))]) hx hb d_M_findMoonDate_11 rfl hl (by decide) rfl (fun ls hl => ?_)
  refine lv_lload_n hx hb d_M_findMoonDate_12 rfl (lv_at hl 0 rfl) ?_
  refine ai_ldc2 (x := 53433336) hx hb hown (hts _ k_1043) (by decide +kernel) d_M_findMoonDate_13 ?_
  refine ai_lmul hx hb d_M_findMoonDate_16 ?_
  refine ai_ldc2 (x := 6311670000) hx hb hown (hts _ k_1044) (by decide +kernel) d_M_findMoonDate_17 ?_
  refine ro_S (rest := []) (ct_M_div l (v11 * 53433336) 6311670000 (by omega) (by omega)) j_M_div k_928 hF rfl hl.1 rfl ⟨Nat.le_of_ble_eq_true rfl, Nat.le_of_ble_eq_true rfl⟩ (Nat.le_of_ble_eq_true rfl) d_M_findMoonDate_20 ⟨Nat.zero_le _, Nat.zero_le _⟩ Bm_true (fun _ _ _ => trivial) ?_
  refine ai_ldc2 (x := 51840000) hx hb hown (hts _ k_1045) (by decide +kernel) d_M_findMoonDate_23 ?_
  refine ai_lmul hx hb d_M_findMoonDate_26 ?_
  refine ai_nmL hx hb (fun v27 e27 => ?_)
  have b27 : -207360000000000 ≤ v27 ∧ v27 ≤ 207360000000000 := (by have q := db (x := v11 * 53433336) (n := 6311670000) (lo := -4000000) (hi := 4000000) (by decide) (by omega) (by omega); rw [e27]; clear e27; generalize v11 * 53433336 / 6311670000 = zz at *; omega)
  replace e27 : Hd (v27 = ((v11 * 53433336) / 6311670000) * 51840000) := e27
  refine lv_lstore (lv' := [(5, .long (iL v27)), (3, .long (iL v11)), (0, .ref a), (1, .long (iL d))]) hx hb d_M_findMoonDate_27 hl (by decide) rfl (fun ls hl => ?_)
  refine lv_lload hx hb d_M_findMoonDate_29 (lv_at hl 0 rfl) ?_
  refine ai_lneg hx hb d_M_findMoonDate_31 ?_
  refine ai_ldc2 (x := 53433336) hx hb hown (hts _ k_1043) (by decide +kernel) d_M_findMoonDate_32 ?_
  refine ro_S (rest := []) (ct_M_div l (-v27) 53433336 (by omega) (by omega)) j_M_div k_928 hF rfl hl.1 rfl ⟨Nat.le_of_ble_eq_true rfl, Nat.le_of_ble_eq_true rfl⟩ (Nat.le_of_ble_eq_true rfl) d_M_findMoonDate_35 ⟨Nat.zero_le _, Nat.zero_le _⟩ Bm_true (fun _ _ _ => trivial) ?_
  refine ai_lneg hx hb d_M_findMoonDate_38 ?_
  refine ai_nmL hx hb (fun v39 e39 => ?_)
  have b39 : -4000000 ≤ v39 ∧ v39 ≤ 4000000 := (by have q := db (x := -v27) (n := 53433336) (lo := -4000000) (hi := 4000000) (by decide) (by omega) (by omega); rw [e39]; clear e39; generalize -v27 / 53433336 = zz at *; omega)
  replace e39 : Hd (v39 = -((-v27) / 53433336)) := e39
  refine lv_lstore (lv' := [(7, .long (iL v39)), (5, .long (iL v27)), (3, .long (iL v11)), (0, .ref a), (1, .long (iL d))]) hx hb d_M_findMoonDate_39 hl (by decide) rfl (fun ls hl => ?_)
  refine lv_lload hx hb d_M_findMoonDate_41 (lv_at hl 1 rfl) ?_
  refine ai_ldc2 (x := 53433336) hx hb hown (hts _ k_1043) (by decide +kernel) d_M_findMoonDate_43 ?_
  refine ro_S (rest := []) (ct_M_mod l v27 53433336 (by omega) (by omega)) j_M_mod k_925 hF rfl hl.1 rfl ⟨Nat.le_of_ble_eq_true rfl, Nat.le_of_ble_eq_true rfl⟩ (Nat.le_of_ble_eq_true rfl) d_M_findMoonDate_46 ⟨Nat.zero_le _, Nat.zero_le _⟩ Bm_true (fun _ _ _ => trivial) ?_
  refine ai_nmL hx hb (fun v49 e49 => ?_)
  have b49 : 0 ≤ v49 ∧ v49 ≤ 53433335 := (by have q := md_rng (x := v27) (n := 53433336) (by decide); rw [e49]; clear e49; generalize v27 % 53433336 = zz at *; omega)
  replace e49 : Hd (v49 = v27 % 53433336) := e49
  refine lv_lstore (lv' := [(9, .long (iL v49)), (7, .long (iL v39)), (5, .long (iL v27)), (3, .long (iL v11)), (0, .ref a), (1, .long (iL d))]) hx hb d_M_findMoonDate_49 hl (by decide) rfl (fun ls hl => ?_)
  refine lv_aload_n hx hb d_M_findMoonDate_51 rfl (lv_at hl 4 rfl) ?_
  refine lv_lload hx hb d_M_findMoonDate_52 (lv_at hl 1 rfl) ?_
  refine ai_ldc2 (x := 12) hx hb hown (hts _ k_1038) (by decide +kernel) d_M_findMoonDate_54 ?_
  refine ro_S (rest := [.ref a]) (ct_M_div l v39 12 (by omega) (by omega)) j_M_div k_928 hF rfl hl.1 rfl ⟨Nat.le_of_ble_eq_true rfl, Nat.le_of_ble_eq_true rfl⟩ (Nat.le_of_ble_eq_true rfl) d_M_findMoonDate_57 ⟨Nat.zero_le _, Nat.zero_le _⟩ Bm_true (fun _ _ _ => trivial) ?_
  refine ai_nmL hx hb (fun v60 e60 => ?_)
  refine va_put (D := D) (cl := CL) (ci := 10) (v := .long (iL v60)) (ty := .long) (C := "DayBookModel") (T := T_M) (N := 19) hx hb hts in_M ty_M ty_M_ok nm_M hown hK hP hD hS 0 rfl rfl 14 (by decide) (hts _ k_960) (fun _ h9 => h9) rfl (by decide +kernel) rfl rfl (Nat.le_of_ble_eq_true rfl) d_M_findMoonDate_60 (fun H locs hP hD hS => ?_)
  have hP : va_P D CL (MWs a ad cx (upF F 5 v60) g) H := hP
  have hD : va_D (Ain a ad) (MWs a ad cx (upF F 5 v60) g) := hD
  refine lv_aload_n hx hb d_M_findMoonDate_63 rfl (lv_at hl 4 rfl) ?_
  refine lv_lload hx hb d_M_findMoonDate_64 (lv_at hl 1 rfl) ?_
  refine ai_ldc2 (x := 12) hx hb hown (hts _ k_1038) (by decide +kernel) d_M_findMoonDate_66 ?_
  refine ro_S (rest := [.ref a]) (ct_M_mod l v39 12 (by omega) (by omega)) j_M_mod k_925 hF rfl hl.1 rfl ⟨Nat.le_of_ble_eq_true rfl, Nat.le_of_ble_eq_true rfl⟩ (Nat.le_of_ble_eq_true rfl) d_M_findMoonDate_69 ⟨Nat.zero_le _, Nat.zero_le _⟩ Bm_true (fun _ _ _ => trivial) ?_
  refine ai_l2i hx hb d_M_findMoonDate_72 ?_
  refine lv_lload hx hb d_M_findMoonDate_73 (lv_at hl 0 rfl) ?_
  refine ai_lconst (x := 1) hx hb d_M_findMoonDate_75 (by decide +kernel) ?_
  refine ai_lcmp_lt hx hb d_M_findMoonDate_76 d_M_findMoonDate_77 rfl (by omega) (by omega) (fun h76 => ?_) (fun h76 => ?_)
  · skip
    refine ai_iconst hx hb d_M_findMoonDate_94 ?_
    refine ai_iadd hx hb d_M_findMoonDate_95 ?_
    refine ai_nmI hx hb (fun v96 e96 => ?_)
    refine va_put (D := D) (cl := CL) (ci := 10) (v := .int (iI v96)) (ty := .int) (C := "DayBookModel") (T := T_M) (N := 19) hx hb hts in_M ty_M ty_M_ok nm_M hown hK hP hD hS 0 rfl rfl 15 (by decide) (hts _ k_961) (fun _ h9 => h9) rfl (by decide +kernel) rfl rfl (Nat.le_of_ble_eq_true rfl) d_M_findMoonDate_96 (fun H locs hP hD hS => ?_)
    have hP : va_P D CL (MWs a ad cx (upF (upF F 5 v60) 6 v96) g) H := hP
    have hD : va_D (Ain a ad) (MWs a ad cx (upF (upF F 5 v60) 6 v96) g) := hD
    refine lv_aload_n hx hb d_M_findMoonDate_99 rfl (lv_at hl 4 rfl) ?_
    refine lv_lload_n hx hb d_M_findMoonDate_100 rfl (lv_at hl 3 rfl) ?_
    refine ai_ldc2 (x := 1603000080) hx hb hown (hts _ k_1047) (by decide +kernel) d_M_findMoonDate_101 ?_
    refine ai_lmul hx hb d_M_findMoonDate_104 ?_
    refine ai_ldc2 (x := 6311670000) hx hb hown (hts _ k_1044) (by decide +kernel) d_M_findMoonDate_105 ?_
    refine ro_S (rest := [.ref a]) (ct_M_div l (v11 * 1603000080) 6311670000 (by omega) (by omega)) j_M_div k_928 hF rfl hl.1 rfl ⟨Nat.le_of_ble_eq_true rfl, Nat.le_of_ble_eq_true rfl⟩ (Nat.le_of_ble_eq_true rfl) d_M_findMoonDate_108 ⟨Nat.zero_le _, Nat.zero_le _⟩ Bm_true (fun _ _ _ => trivial) ?_
    refine ai_ldc2 (x := 30) hx hb hown (hts _ k_936) (by decide +kernel) d_M_findMoonDate_111 ?_
    refine ro_S (rest := [.ref a]) (ct_M_mod l ((v11 * 1603000080) / 6311670000) 30 (by omega) (by omega)) j_M_mod k_925 hF rfl hl.1 rfl ⟨Nat.le_of_ble_eq_true rfl, Nat.le_of_ble_eq_true rfl⟩ (Nat.le_of_ble_eq_true rfl) d_M_findMoonDate_114 ⟨Nat.zero_le _, Nat.zero_le _⟩ Bm_true (fun _ _ _ => trivial) ?_
    refine ai_l2i hx hb d_M_findMoonDate_117 ?_
    refine ai_iconst hx hb d_M_findMoonDate_118 ?_
    refine ai_iadd hx hb d_M_findMoonDate_119 ?_
    refine ai_nmI hx hb (fun v120 e120 => ?_)
    refine va_put (D := D) (cl := CL) (ci := 10) (v := .int (iI v120)) (ty := .int) (C := "DayBookModel") (T := T_M) (N := 19) hx hb hts in_M ty_M ty_M_ok nm_M hown hK hP hD hS 0 rfl rfl 16 (by decide) (hts _ k_962) (fun _ h9 => h9) rfl (by decide +kernel) rfl rfl (Nat.le_of_ble_eq_true rfl) d_M_findMoonDate_120 (fun H locs hP hD hS => ?_)
    have hP : va_P D CL (MWs a ad cx (upF (upF (upF F 5 v60) 6 v96) 7 v120) g) H := hP
    have hD : va_D (Ain a ad) (MWs a ad cx (upF (upF (upF F 5 v60) 6 v96) 7 v120) g) := hD
    have q0 : luN d = v11 := e11.o.symm
    have q1 : luQ d = v27 := by unfold luQ; rw [q0, e27.o]
    have q2 : luC d = v39 := by unfold luC; rw [q1, e39.o]
    have q3 : luB d = v49 := by unfold luB; rw [q1, e49.o]
    have q4 : luD d = v120 := by unfold luD; rw [q0, e120]
    exact mw_vret hx hb hr hlk d_M_findMoonDate_123 hP hS (by have q6 : luM d = v96 := (by unfold luM; first | (rw [q2, bI_t (by unfold luL; rw [q3]; omega), e96]; omega) | (rw [q2, bI_f (by unfold luL; rw [q3]; omega), e96]; omega)); show (_ : Ms) = (_ : Ms); rw [q2, q4, q6, ← e60])
  · skip
    refine lv_lload hx hb d_M_findMoonDate_80 (lv_at hl 0 rfl) ?_
    refine ai_ldc2 (x := 1593336) hx hb hown (hts _ k_1046) (by decide +kernel) d_M_findMoonDate_82 ?_
    refine ai_lcmp_gt hx hb d_M_findMoonDate_85 d_M_findMoonDate_86 rfl (by omega) (by omega) (fun h85 => ?_) (fun h85 => ?_)
    · skip
      refine ai_iconst hx hb d_M_findMoonDate_94 ?_
      refine ai_iadd hx hb d_M_findMoonDate_95 ?_
      refine ai_nmI hx hb (fun v96 e96 => ?_)
      refine va_put (D := D) (cl := CL) (ci := 10) (v := .int (iI v96)) (ty := .int) (C := "DayBookModel") (T := T_M) (N := 19) hx hb hts in_M ty_M ty_M_ok nm_M hown hK hP hD hS 0 rfl rfl 15 (by decide) (hts _ k_961) (fun _ h9 => h9) rfl (by decide +kernel) rfl rfl (Nat.le_of_ble_eq_true rfl) d_M_findMoonDate_96 (fun H locs hP hD hS => ?_)
      have hP : va_P D CL (MWs a ad cx (upF (upF F 5 v60) 6 v96) g) H := hP
      have hD : va_D (Ain a ad) (MWs a ad cx (upF (upF F 5 v60) 6 v96) g) := hD
      refine lv_aload_n hx hb d_M_findMoonDate_99 rfl (lv_at hl 4 rfl) ?_
      refine lv_lload_n hx hb d_M_findMoonDate_100 rfl (lv_at hl 3 rfl) ?_
      refine ai_ldc2 (x := 1603000080) hx hb hown (hts _ k_1047) (by decide +kernel) d_M_findMoonDate_101 ?_
      refine ai_lmul hx hb d_M_findMoonDate_104 ?_
      refine ai_ldc2 (x := 6311670000) hx hb hown (hts _ k_1044) (by decide +kernel) d_M_findMoonDate_105 ?_
      refine ro_S (rest := [.ref a]) (ct_M_div l (v11 * 1603000080) 6311670000 (by omega) (by omega)) j_M_div k_928 hF rfl hl.1 rfl ⟨Nat.le_of_ble_eq_true rfl, Nat.le_of_ble_eq_true rfl⟩ (Nat.le_of_ble_eq_true rfl) d_M_findMoonDate_108 ⟨Nat.zero_le _, Nat.zero_le _⟩ Bm_true (fun _ _ _ => trivial) ?_
      refine ai_ldc2 (x := 30) hx hb hown (hts _ k_936) (by decide +kernel) d_M_findMoonDate_111 ?_
      refine ro_S (rest := [.ref a]) (ct_M_mod l ((v11 * 1603000080) / 6311670000) 30 (by omega) (by omega)) j_M_mod k_925 hF rfl hl.1 rfl ⟨Nat.le_of_ble_eq_true rfl, Nat.le_of_ble_eq_true rfl⟩ (Nat.le_of_ble_eq_true rfl) d_M_findMoonDate_114 ⟨Nat.zero_le _, Nat.zero_le _⟩ Bm_true (fun _ _ _ => trivial) ?_
      refine ai_l2i hx hb d_M_findMoonDate_117 ?_
      refine ai_iconst hx hb d_M_findMoonDate_118 ?_
      refine ai_iadd hx hb d_M_findMoonDate_119 ?_
      refine ai_nmI hx hb (fun v120 e120 => ?_)
      refine va_put (D := D) (cl := CL) (ci := 10) (v := .int (iI v120)) (ty := .int) (C := "DayBookModel") (T := T_M) (N := 19) hx hb hts in_M ty_M ty_M_ok nm_M hown hK hP hD hS 0 rfl rfl 16 (by decide) (hts _ k_962) (fun _ h9 => h9) rfl (by decide +kernel) rfl rfl (Nat.le_of_ble_eq_true rfl) d_M_findMoonDate_120 (fun H locs hP hD hS => ?_)
      have hP : va_P D CL (MWs a ad cx (upF (upF (upF F 5 v60) 6 v96) 7 v120) g) H := hP
      have hD : va_D (Ain a ad) (MWs a ad cx (upF (upF (upF F 5 v60) 6 v96) 7 v120) g) := hD
      have q0 : luN d = v11 := e11.o.symm
      have q1 : luQ d = v27 := by unfold luQ; rw [q0, e27.o]
      have q2 : luC d = v39 := by unfold luC; rw [q1, e39.o]
      have q3 : luB d = v49 := by unfold luB; rw [q1, e49.o]
      have q4 : luD d = v120 := by unfold luD; rw [q0, e120]
      exact mw_vret hx hb hr hlk d_M_findMoonDate_123 hP hS (by have q6 : luM d = v96 := (by unfold luM; first | (rw [q2, bI_t (by unfold luL; rw [q3]; omega), e96]; omega) | (rw [q2, bI_f (by unfold luL; rw [q3]; omega), e96]; omega)); show (_ : Ms) = (_ : Ms); rw [q2, q4, q6, ← e60])
    · skip
      refine ai_bipush (x := 101) hx hb d_M_findMoonDate_89 (by decide +kernel) ?_
      refine lv_goto hx hb d_M_findMoonDate_91 rfl ?_
      refine ai_iadd hx hb d_M_findMoonDate_95 ?_
      refine ai_nmI hx hb (fun v96 e96 => ?_)
      refine va_put (D := D) (cl := CL) (ci := 10) (v := .int (iI v96)) (ty := .int) (C := "DayBookModel") (T := T_M) (N := 19) hx hb hts in_M ty_M ty_M_ok nm_M hown hK hP hD hS 0 rfl rfl 15 (by decide) (hts _ k_961) (fun _ h9 => h9) rfl (by decide +kernel) rfl rfl (Nat.le_of_ble_eq_true rfl) d_M_findMoonDate_96 (fun H locs hP hD hS => ?_)
      have hP : va_P D CL (MWs a ad cx (upF (upF F 5 v60) 6 v96) g) H := hP
      have hD : va_D (Ain a ad) (MWs a ad cx (upF (upF F 5 v60) 6 v96) g) := hD
      refine lv_aload_n hx hb d_M_findMoonDate_99 rfl (lv_at hl 4 rfl) ?_
      refine lv_lload_n hx hb d_M_findMoonDate_100 rfl (lv_at hl 3 rfl) ?_
      refine ai_ldc2 (x := 1603000080) hx hb hown (hts _ k_1047) (by decide +kernel) d_M_findMoonDate_101 ?_
      refine ai_lmul hx hb d_M_findMoonDate_104 ?_
      refine ai_ldc2 (x := 6311670000) hx hb hown (hts _ k_1044) (by decide +kernel) d_M_findMoonDate_105 ?_
      refine ro_S (rest := [.ref a]) (ct_M_div l (v11 * 1603000080) 6311670000 (by omega) (by omega)) j_M_div k_928 hF rfl hl.1 rfl ⟨Nat.le_of_ble_eq_true rfl, Nat.le_of_ble_eq_true rfl⟩ (Nat.le_of_ble_eq_true rfl) d_M_findMoonDate_108 ⟨Nat.zero_le _, Nat.zero_le _⟩ Bm_true (fun _ _ _ => trivial) ?_
      refine ai_ldc2 (x := 30) hx hb hown (hts _ k_936) (by decide +kernel) d_M_findMoonDate_111 ?_
      refine ro_S (rest := [.ref a]) (ct_M_mod l ((v11 * 1603000080) / 6311670000) 30 (by omega) (by omega)) j_M_mod k_925 hF rfl hl.1 rfl ⟨Nat.le_of_ble_eq_true rfl, Nat.le_of_ble_eq_true rfl⟩ (Nat.le_of_ble_eq_true rfl) d_M_findMoonDate_114 ⟨Nat.zero_le _, Nat.zero_le _⟩ Bm_true (fun _ _ _ => trivial) ?_
      refine ai_l2i hx hb d_M_findMoonDate_117 ?_
      refine ai_iconst hx hb d_M_findMoonDate_118 ?_
      refine ai_iadd hx hb d_M_findMoonDate_119 ?_
      refine ai_nmI hx hb (fun v120 e120 => ?_)
      refine va_put (D := D) (cl := CL) (ci := 10) (v := .int (iI v120)) (ty := .int) (C := "DayBookModel") (T := T_M) (N := 19) hx hb hts in_M ty_M ty_M_ok nm_M hown hK hP hD hS 0 rfl rfl 16 (by decide) (hts _ k_962) (fun _ h9 => h9) rfl (by decide +kernel) rfl rfl (Nat.le_of_ble_eq_true rfl) d_M_findMoonDate_120 (fun H locs hP hD hS => ?_)
      have hP : va_P D CL (MWs a ad cx (upF (upF (upF F 5 v60) 6 v96) 7 v120) g) H := hP
      have hD : va_D (Ain a ad) (MWs a ad cx (upF (upF (upF F 5 v60) 6 v96) 7 v120) g) := hD
      have q0 : luN d = v11 := e11.o.symm
      have q1 : luQ d = v27 := by unfold luQ; rw [q0, e27.o]
      have q2 : luC d = v39 := by unfold luC; rw [q1, e39.o]
      have q3 : luB d = v49 := by unfold luB; rw [q1, e49.o]
      have q4 : luD d = v120 := by unfold luD; rw [q0, e120]
      exact mw_vret hx hb hr hlk d_M_findMoonDate_123 hP hS (by have q6 : luM d = v96 := (by unfold luM; first | (rw [q2, bI_t (by unfold luL; rw [q3]; omega), e96]; omega) | (rw [q2, bI_f (by unfold luL; rw [q3]; omega), e96]; omega)); show (_ : Ms) = (_ : Ms); rw [q2, q4, q6, ← e60])
set_option maxHeartbeats 4000000 in
set_option maxRecDepth 100000 in
theorem ct_M_findDate (l : Launch) (D : va_G) (a : Nat) (ad : Nat → Nat) (cx : Nat → ClassId) (F : Nat → Int) (g : Nat → Nat → Int) (cal : Int) (d : Int) (Yr : Int) (Mo : Int) (Dy : Int) (hcal : cal = 10 ∨ cal = 11 ∨ cal = 9 ∨ cal = 2 ∨ cal = 0 ∨ cal = 1 ∨ cal = 3 ∨ cal = 4 ∨ cal = 5 ∨ cal = 6 ∨ cal = 7 ∨ cal = 8 ∨ cal = 12 ∨ cal = 13) (ho : 12 ≤ cal → OwnOK g (Int.toNat (cal - 12))) (hcy0 : CyOK g 0) (hcy : cal ≠ 9 → cal ≠ 2 → cal ≠ 10 → cal ≠ 11 → CyOK g cal) (hca : CacheOK F g) (rd : -46000000 ≤ d ∧ d ≤ 46000000) (hdt : DTM g cal d Yr Mo Dy) : MW l y_M_findDate w_M_findDate 7 171 [.ref a, .int (iI cal), .long (iL d)] D a ad cx F g (QMv D a ad cx (fun u => u.2 = g ∧ u.1 5 = Yr ∧ u.1 6 = Mo ∧ u.1 7 = Dy ∧ u.1 0 = F 0 ∧ u.1 8 = F 8 ∧ CacheOK u.1 g)) := by
  refine mw_of (by decide +kernel) (Nat.le_of_ble_eq_true rfl) ?_
  intro p e s m below meth c ls hx hb hr hts hown hlk hml hl hN hK hP hD
  have hown : s.vm.findClass "DayBookModel" = some m.cls := hown
  have hl : lv_has ls 8 [(0, .ref a), (1, .int (iI cal)), (2, .long (iL d))] := hl
  have hF : _ ∧ _ ∧ _ ∧ _ ∧ _ ∧ _ := ⟨hx, hb, hml, hown, hts, hN⟩
  have hS : va_S (Ain a ad) s.heap s.heap [] := va_S.rf
  have hcr : 0 ≤ cal ∧ cal < 14 := by omega
  have hJ153 : ∀ (N : Nat) (H : Heap) (locs : List Loc) (k : Int) (pl : Nat) (lf : Int) (j : Nat) (yr : Int) (ls : Array Slot), va_P D CL (MWs a ad cx (upF (upF (upF (upF (upF F 1 cal) 2 k) 3 (stM g cal k)) 4 (stM g cal (k + 1))) 5 yr) g) H → va_S (Ain a ad) s.heap H locs → lv_has ls 8 [(6, .int (iI (j : Int))), (4, .long (iL lf)), (0, .ref a), (1, .int (iI cal)), (2, .long (iL d))] → (cal = 0 ∨ cal = 1 ∨ cal = 3 ∨ cal = 4 ∨ cal = 5 ∨ cal = 6 ∨ cal = 7 ∨ cal = 8 ∨ cal = 9 ∨ cal = 12 ∨ cal = 13) → (stM g cal k ≤ d ∧ d < stM g cal (k + 1)) → ((pl : Int) < nmM g cal k) → (cm (fun i => lnM g cal k (maM cal k i)) pl ≤ d - stM g cal k ∧ d - stM g cal k < cm (fun i => lnM g cal k (maM cal k i)) (pl + 1)) → (Yr = nmd cal k) → (Mo = maM cal k pl) → (Dy = d - stM g cal k - cm (fun i => lnM g cal k (maM cal k i)) pl + 1) → (yr = nmd cal k) → (-64000000 ≤ k ∧ k ≤ 53000000) → (j ≤ pl) → (lf = d - stM g cal k - cm (fun i => lnM g cal k (maM cal k i)) j) → (0 ≤ lf ∧ lf ≤ 1000000) → (pl + 1 - j) < N → W p l e (headSpec w_M_findDate ({ frames := 7, cells := 0, slots := 0, locals := 171 })).room s m [.ref a, .int (iI cal), .long (iL d)].toArray below meth c H locs 0 0 (MQ below (QMv D a ad cx (fun u => u.2 = g ∧ u.1 5 = Yr ∧ u.1 6 = Mo ∧ u.1 7 = Dy ∧ u.1 0 = F 0 ∧ u.1 8 = F 8 ∧ CacheOK u.1 g)) [.ref a, .int (iI cal), .long (iL d)].toArray s 0 0 (Ain a ad)) (F0 m 153 ls []) := by
    intro N
    induction N with
    | zero => intro _ _ _ _ _ _ _ _ _ _ _ _ _ _ _ _ _ _ _ _ _ _ _ hm; exact absurd hm (Nat.not_lt_zero _)
    | succ N ih =>
      intro H locs k pl lf j yr ls hP hS hl hC hk hp1 hp2 hY hM hDy eyr kr i1 i2 i3 hm
      have hD : va_D (Ain a ad) (MWs a ad cx (upF (upF (upF (upF (upF F 1 cal) 2 k) 3 (stM g cal k)) 4 (stM g cal (k + 1))) 5 yr) g) := MD.any hD
      have hn20 := nmM_rng hC ho k
      have hln := lnM_rng hC ho k (maM cal k j)
      have hma := maM_rng (cal := cal) (y := k) (pl := (j : Int)) (by omega)
      have cs1 : cm (fun i => lnM g cal k (maM cal k i)) (j + 1) = cm (fun i => lnM g cal k (maM cal k i)) j + lnM g cal k (maM cal k j) := rfl
      have cle := fun h : j + 1 ≤ pl => cm_le (f := fun i => lnM g cal k (maM cal k i)) (fun i => by have := lnM_rng hC ho k (maM cal k i); show 0 ≤ lnM g cal k (maM cal k i); omega) h
      refine lv_lload hx hb d_M_findDate_153 (lv_at hl 1 rfl) ?_
      refine lv_aload_n hx hb d_M_findDate_155 rfl (lv_at hl 2 rfl) ?_
      refine lv_iload_n hx hb d_M_findDate_156 rfl (lv_at hl 3 rfl) ?_
      refine lv_aload_n hx hb d_M_findDate_157 rfl (lv_at hl 2 rfl) ?_
      refine va_get (D := D) (cl := CL) (ci := 10) (v := .long (iL k)) (C := "DayBookModel") (T := T_M) (N := 19) hx hb hts in_M hown hK hP 0 rfl rfl 11 (by decide) (hts _ k_957) (fun _ h9 => h9) rfl d_M_findDate_158 ?_
      refine lv_aload_n hx hb d_M_findDate_161 rfl (lv_at hl 2 rfl) ?_
      refine lv_iload_n hx hb d_M_findDate_162 rfl (lv_at hl 3 rfl) ?_
      refine lv_aload_n hx hb d_M_findDate_163 rfl (lv_at hl 2 rfl) ?_
      refine va_get (D := D) (cl := CL) (ci := 10) (v := .long (iL k)) (C := "DayBookModel") (T := T_M) (N := 19) hx hb hts in_M hown hK hP 0 rfl rfl 11 (by decide) (hts _ k_957) (fun _ h9 => h9) rfl d_M_findDate_164 ?_
      refine lv_iload hx hb d_M_findDate_167 (lv_at hl 0 rfl) ?_
      refine ro_V (rest := [.long (iL k), .int (iI cal), .ref a, .long (iL lf)]) (ct_M_monthAt l D a ad cx (upF (upF (upF (upF (upF F 1 cal) 2 k) 3 (stM g cal k)) 4 (stM g cal (k + 1))) 5 yr) g cal k (j : Int) hC (by omega) (by omega)) j_M_monthAt k_1101 (hts _ s_M_monthAt) hF (va_recv (q0 := 0) (ci := 10) hK hP rfl rfl) rfl hl.1 rfl ⟨Nat.le_of_ble_eq_true rfl, Nat.le_of_ble_eq_true rfl⟩ (Nat.le_of_ble_eq_true rfl) d_M_findDate_169 ⟨Nat.zero_le _, Nat.zero_le _⟩ MdB.m (fun U h1 h2 => ⟨va_K.moved h2.alike hK, by rw [h1]; exact hP⟩) ?_
      refine ro_V (rest := [.long (iL lf)]) (ct_M_lengthOf l D a ad cx (upF (upF (upF (upF (upF F 1 cal) 2 k) 3 (stM g cal k)) 4 (stM g cal (k + 1))) 5 yr) g cal k (maM cal k (j : Int)) hC ho (by omega) (by omega)) j_M_lengthOf k_1109 (hts _ s_M_lengthOf) hF (va_recv (q0 := 0) (ci := 10) hK hP rfl rfl) rfl hl.1 rfl ⟨Nat.le_of_ble_eq_true rfl, Nat.le_of_ble_eq_true rfl⟩ (Nat.le_of_ble_eq_true rfl) d_M_findDate_172 ⟨Nat.zero_le _, Nat.zero_le _⟩ MdB.m (fun U h1 h2 => ⟨va_K.moved h2.alike hK, by rw [h1]; exact hP⟩) ?_
      refine ai_i2l hx hb d_M_findDate_175 (by omega) ?_
      refine ai_lcmp_lt hx hb d_M_findDate_176 d_M_findDate_177 rfl (by omega) (by omega) (fun h176 => ?_) (fun h176 => ?_)
      · skip
        have ej : j = pl := by (by_cases q : j + 1 ≤ pl; (have := cle q; omega); omega)
        subst ej
        refine lv_aload_n hx hb d_M_findDate_212 rfl (lv_at hl 2 rfl) ?_
        refine lv_aload_n hx hb d_M_findDate_213 rfl (lv_at hl 2 rfl) ?_
        refine lv_iload_n hx hb d_M_findDate_214 rfl (lv_at hl 3 rfl) ?_
        refine lv_aload_n hx hb d_M_findDate_215 rfl (lv_at hl 2 rfl) ?_
        refine va_get (D := D) (cl := CL) (ci := 10) (v := .long (iL k)) (C := "DayBookModel") (T := T_M) (N := 19) hx hb hts in_M hown hK hP 0 rfl rfl 11 (by decide) (hts _ k_957) (fun _ h9 => h9) rfl d_M_findDate_216 ?_
        refine lv_iload hx hb d_M_findDate_219 (lv_at hl 0 rfl) ?_
        refine ro_V (rest := [.ref a]) (ct_M_monthAt l D a ad cx (upF (upF (upF (upF (upF F 1 cal) 2 k) 3 (stM g cal k)) 4 (stM g cal (k + 1))) 5 yr) g cal k (j : Int) hC (by omega) (by omega)) j_M_monthAt k_1101 (hts _ s_M_monthAt) hF (va_recv (q0 := 0) (ci := 10) hK hP rfl rfl) rfl hl.1 rfl ⟨Nat.le_of_ble_eq_true rfl, Nat.le_of_ble_eq_true rfl⟩ (Nat.le_of_ble_eq_true rfl) d_M_findDate_221 ⟨Nat.zero_le _, Nat.zero_le _⟩ MdB.m (fun U h1 h2 => ⟨va_K.moved h2.alike hK, by rw [h1]; exact hP⟩) ?_
        refine ai_nmI hx hb (fun v224 e224 => ?_)
        refine va_put (D := D) (cl := CL) (ci := 10) (v := .int (iI v224)) (ty := .int) (C := "DayBookModel") (T := T_M) (N := 19) hx hb hts in_M ty_M ty_M_ok nm_M hown hK hP hD hS 0 rfl rfl 15 (by decide) (hts _ k_961) (fun _ h9 => h9) rfl (by decide +kernel) rfl rfl (Nat.le_of_ble_eq_true rfl) d_M_findDate_224 (fun H locs hP hD hS => ?_)
        have hP : va_P D CL (MWs a ad cx (upF (upF (upF (upF (upF (upF F 1 cal) 2 k) 3 (stM g cal k)) 4 (stM g cal (k + 1))) 5 yr) 6 v224) g) H := hP
        have hD : va_D (Ain a ad) (MWs a ad cx (upF (upF (upF (upF (upF (upF F 1 cal) 2 k) 3 (stM g cal k)) 4 (stM g cal (k + 1))) 5 yr) 6 v224) g) := hD
        refine lv_aload_n hx hb d_M_findDate_227 rfl (lv_at hl 2 rfl) ?_
        refine lv_lload hx hb d_M_findDate_228 (lv_at hl 1 rfl) ?_
        refine ai_l2i hx hb d_M_findDate_230 ?_
        refine ai_iconst hx hb d_M_findDate_231 ?_
        refine ai_iadd hx hb d_M_findDate_232 ?_
        refine ai_nmI hx hb (fun v233 e233 => ?_)
        refine va_put (D := D) (cl := CL) (ci := 10) (v := .int (iI v233)) (ty := .int) (C := "DayBookModel") (T := T_M) (N := 19) hx hb hts in_M ty_M ty_M_ok nm_M hown hK hP hD hS 0 rfl rfl 16 (by decide) (hts _ k_962) (fun _ h9 => h9) rfl (by decide +kernel) rfl rfl (Nat.le_of_ble_eq_true rfl) d_M_findDate_233 (fun H locs hP hD hS => ?_)
        have hP : va_P D CL (MWs a ad cx (upF (upF (upF (upF (upF (upF (upF F 1 cal) 2 k) 3 (stM g cal k)) 4 (stM g cal (k + 1))) 5 yr) 6 v224) 7 v233) g) H := hP
        have hD : va_D (Ain a ad) (MWs a ad cx (upF (upF (upF (upF (upF (upF (upF F 1 cal) 2 k) 3 (stM g cal k)) 4 (stM g cal (k + 1))) 5 yr) 6 v224) 7 v233) g) := hD
        exact mw_vret hx hb hr hlk d_M_findDate_236 hP hS ⟨rfl, (by show yr = Yr; rw [hY, eyr]), (by show v224 = Mo; rw [hM, e224]), (by show v233 = Dy; omega), rfl, rfl, Or.inr ⟨show isY cal from (by unfold isY; omega), by show -250000000 ≤ k ∧ k ≤ 250000000; omega, rfl, rfl⟩⟩
      · skip
        refine lv_lload hx hb d_M_findDate_180 (lv_at hl 1 rfl) ?_
        refine lv_aload_n hx hb d_M_findDate_182 rfl (lv_at hl 2 rfl) ?_
        refine lv_iload_n hx hb d_M_findDate_183 rfl (lv_at hl 3 rfl) ?_
        refine lv_aload_n hx hb d_M_findDate_184 rfl (lv_at hl 2 rfl) ?_
        refine va_get (D := D) (cl := CL) (ci := 10) (v := .long (iL k)) (C := "DayBookModel") (T := T_M) (N := 19) hx hb hts in_M hown hK hP 0 rfl rfl 11 (by decide) (hts _ k_957) (fun _ h9 => h9) rfl d_M_findDate_185 ?_
        refine lv_aload_n hx hb d_M_findDate_188 rfl (lv_at hl 2 rfl) ?_
        refine lv_iload_n hx hb d_M_findDate_189 rfl (lv_at hl 3 rfl) ?_
        refine lv_aload_n hx hb d_M_findDate_190 rfl (lv_at hl 2 rfl) ?_
        refine va_get (D := D) (cl := CL) (ci := 10) (v := .long (iL k)) (C := "DayBookModel") (T := T_M) (N := 19) hx hb hts in_M hown hK hP 0 rfl rfl 11 (by decide) (hts _ k_957) (fun _ h9 => h9) rfl d_M_findDate_191 ?_
        refine lv_iload hx hb d_M_findDate_194 (lv_at hl 0 rfl) ?_
        refine ro_V (rest := [.long (iL k), .int (iI cal), .ref a, .long (iL lf)]) (ct_M_monthAt l D a ad cx (upF (upF (upF (upF (upF F 1 cal) 2 k) 3 (stM g cal k)) 4 (stM g cal (k + 1))) 5 yr) g cal k (j : Int) hC (by omega) (by omega)) j_M_monthAt k_1101 (hts _ s_M_monthAt) hF (va_recv (q0 := 0) (ci := 10) hK hP rfl rfl) rfl hl.1 rfl ⟨Nat.le_of_ble_eq_true rfl, Nat.le_of_ble_eq_true rfl⟩ (Nat.le_of_ble_eq_true rfl) d_M_findDate_196 ⟨Nat.zero_le _, Nat.zero_le _⟩ MdB.m (fun U h1 h2 => ⟨va_K.moved h2.alike hK, by rw [h1]; exact hP⟩) ?_
        refine ro_V (rest := [.long (iL lf)]) (ct_M_lengthOf l D a ad cx (upF (upF (upF (upF (upF F 1 cal) 2 k) 3 (stM g cal k)) 4 (stM g cal (k + 1))) 5 yr) g cal k (maM cal k (j : Int)) hC ho (by omega) (by omega)) j_M_lengthOf k_1109 (hts _ s_M_lengthOf) hF (va_recv (q0 := 0) (ci := 10) hK hP rfl rfl) rfl hl.1 rfl ⟨Nat.le_of_ble_eq_true rfl, Nat.le_of_ble_eq_true rfl⟩ (Nat.le_of_ble_eq_true rfl) d_M_findDate_199 ⟨Nat.zero_le _, Nat.zero_le _⟩ MdB.m (fun U h1 h2 => ⟨va_K.moved h2.alike hK, by rw [h1]; exact hP⟩) ?_
        refine ai_i2l hx hb d_M_findDate_202 (by omega) ?_
        refine ai_lsub hx hb d_M_findDate_203 ?_
        refine ai_nmL hx hb (fun v204 e204 => ?_)
        refine lv_lstore (lv' := [(4, .long (iL v204)), (6, .int (iI (j : Int))), (0, .ref a), (1, .int (iI cal)), (2, .long (iL d))]) hx hb d_M_findDate_204 hl (by decide) rfl (fun ls hl => ?_)
        refine ai_iinc (k := 1) (lv' := [(6, .int (iI ((j : Int) + 1))), (4, .long (iL v204)), (0, .ref a), (1, .int (iI cal)), (2, .long (iL d))]) hx hb d_M_findDate_206 hl rfl (by decide) rfl (fun ls hl => ?_)
        refine lv_goto hx hb d_M_findDate_209 rfl ?_
        exact ih _ _ k pl v204 (j + 1) yr _ hP hS (lv_sub hl [0, 1, 2, 3, 4] rfl) hC hk hp1 hp2 hY hM hDy eyr kr (by have : j ≠ pl := (fun q => by subst q; omega); omega) (by rw [cs1]; omega) (by omega) (by omega)
  refine lv_iload_n hx hb d_M_findDate_0 rfl (lv_at hl 1 rfl) ?_
  refine ai_bipush (x := 10) hx hb d_M_findDate_1 (by decide +kernel) ?_
  refine ai_icmp_ne hx hb d_M_findDate_3 rfl (by omega) (by omega) (fun h3 => ?_) (fun h3 => ?_)
  · skip
    refine lv_iload_n hx hb d_M_findDate_80 rfl (lv_at hl 1 rfl) ?_
    refine ai_bipush (x := 11) hx hb d_M_findDate_81 (by decide +kernel) ?_
    refine ai_icmp_ne hx hb d_M_findDate_83 rfl (by omega) (by omega) (fun h83 => ?_) (fun h83 => ?_)
    · skip
      have hS_ : cal = 9 ∨ cal = 2 ∨ cal = 0 ∨ cal = 1 ∨ cal = 3 ∨ cal = 4 ∨ cal = 5 ∨ cal = 6 ∨ cal = 7 ∨ cal = 8 ∨ cal = 12 ∨ cal = 13 := by omega
      have hIs := stM_inc hS_ ho
      have h1r := stM1_rng hS_ ho
      obtain ⟨k, hk⟩ := hIs.ex d
      have hkb1 := (st_bnd hIs h1r (v := k)).1 (by omega)
      have hkb2 := (st_bnd hIs h1r (v := k + 1)).2 (by omega)
      have hkr := stM_rng hS_ ho (y := k) (by omega)
      refine lv_aload_n hx hb d_M_findDate_92 rfl (lv_at hl 0 rfl) ?_
      refine lv_iload_n hx hb d_M_findDate_93 rfl (lv_at hl 1 rfl) ?_
      refine lv_lload_n hx hb d_M_findDate_94 rfl (lv_at hl 2 rfl) ?_
      refine mw_v (rest := []) (ct_M_findYear l D a ad cx F g cal d k hS_ ho hcy0 (fun h9 h2 => hcy h9 h2 (by omega) (by omega)) hca (by omega) hk) j_M_findYear k_1048 s_M_findYear hF hK hP hD hS (fun _ h => h) rfl hl.1 rfl ⟨Nat.le_of_ble_eq_true rfl, Nat.le_of_ble_eq_true rfl⟩ (Nat.le_of_ble_eq_true rfl) d_M_findDate_95 ⟨Nat.zero_le _, Nat.zero_le _⟩ (fun u95 H locs hΦ95 hP hS => ?_)
      subst hΦ95
      have hP : va_P D CL (MWs a ad cx (upF (upF (upF (upF F 1 cal) 2 k) 3 (stM g cal k)) 4 (stM g cal (k + 1))) g) H := hP
      have hD : va_D (Ain a ad) (MWs a ad cx (upF (upF (upF (upF F 1 cal) 2 k) 3 (stM g cal k)) 4 (stM g cal (k + 1))) g) := MD.any hD
      refine lv_lload_n hx hb d_M_findDate_98 rfl (lv_at hl 2 rfl) ?_
      refine lv_aload_n hx hb d_M_findDate_99 rfl (lv_at hl 0 rfl) ?_
      refine va_get (D := D) (cl := CL) (ci := 10) (v := .long (iL (stM g cal k))) (C := "DayBookModel") (T := T_M) (N := 19) hx hb hts in_M hown hK hP 0 rfl rfl 12 (by decide) (hts _ k_958) (fun _ h9 => h9) rfl d_M_findDate_100 ?_
      refine ai_lsub hx hb d_M_findDate_103 ?_
      refine ai_nmL hx hb (fun v104 e104 => ?_)
      refine lv_lstore (lv' := [(4, .long (iL v104)), (0, .ref a), (1, .int (iI cal)), (2, .long (iL d))]) hx hb d_M_findDate_104 hl (by decide) rfl (fun ls hl => ?_)
      refine lv_aload_n hx hb d_M_findDate_106 rfl (lv_at hl 1 rfl) ?_
      refine lv_iload_n hx hb d_M_findDate_107 rfl (lv_at hl 2 rfl) ?_
      refine lv_aload_n hx hb d_M_findDate_108 rfl (lv_at hl 1 rfl) ?_
      refine va_get (D := D) (cl := CL) (ci := 10) (v := .long (iL k)) (C := "DayBookModel") (T := T_M) (N := 19) hx hb hts in_M hown hK hP 0 rfl rfl 11 (by decide) (hts _ k_957) (fun _ h9 => h9) rfl d_M_findDate_109 ?_
      refine ro_S (rest := [.ref a]) (ct_M_named l cal k (by omega) (by omega)) j_M_named k_1095 hF rfl hl.1 rfl ⟨Nat.le_of_ble_eq_true rfl, Nat.le_of_ble_eq_true rfl⟩ (Nat.le_of_ble_eq_true rfl) d_M_findDate_112 ⟨Nat.zero_le _, Nat.zero_le _⟩ Bm_true (fun _ _ _ => trivial) ?_
      refine ai_nmL hx hb (fun v115 e115 => ?_)
      refine va_put (D := D) (cl := CL) (ci := 10) (v := .long (iL v115)) (ty := .long) (C := "DayBookModel") (T := T_M) (N := 19) hx hb hts in_M ty_M ty_M_ok nm_M hown hK hP hD hS 0 rfl rfl 14 (by decide) (hts _ k_960) (fun _ h9 => h9) rfl (by decide +kernel) rfl rfl (Nat.le_of_ble_eq_true rfl) d_M_findDate_115 (fun H locs hP hD hS => ?_)
      have hP : va_P D CL (MWs a ad cx (upF (upF (upF (upF (upF F 1 cal) 2 k) 3 (stM g cal k)) 4 (stM g cal (k + 1))) 5 v115) g) H := hP
      have hD : va_D (Ain a ad) (MWs a ad cx (upF (upF (upF (upF (upF F 1 cal) 2 k) 3 (stM g cal k)) 4 (stM g cal (k + 1))) 5 v115) g) := hD
      refine lv_iload_n hx hb d_M_findDate_118 rfl (lv_at hl 2 rfl) ?_
      refine ai_iconst hx hb d_M_findDate_119 ?_
      refine ai_icmp_ne hx hb d_M_findDate_120 rfl (by omega) (by omega) (fun h120 => ?_) (fun h120 => ?_)
      · skip
        obtain ⟨hC, k2, pl, hk2, hp1, hp2, hY, hM, hDy⟩ : (cal = 0 ∨ cal = 1 ∨ cal = 3 ∨ cal = 4 ∨ cal = 5 ∨ cal = 6 ∨ cal = 7 ∨ cal = 8 ∨ cal = 9 ∨ cal = 12 ∨ cal = 13) ∧ ∃ (k : Int) (pl : Nat), (stM g cal k ≤ d ∧ d < stM g cal (k + 1)) ∧ (pl : Int) < nmM g cal k ∧ (cm (fun i => lnM g cal k (maM cal k i)) pl ≤ d - stM g cal k ∧ d - stM g cal k < cm (fun i => lnM g cal k (maM cal k i)) (pl + 1)) ∧ Yr = nmd cal k ∧ Mo = maM cal k pl ∧ Dy = d - stM g cal k - cm (fun i => lnM g cal k (maM cal k i)) pl + 1 := by rcases hdt with h | h | h | h <;> first | exact h | omega
        have ek2 : k = k2 := hIs.uniq hk.1 hk.2 hk2.1 hk2.2
        subst ek2
        have hln_ := stM_len hC ho k
        have hn20 := nmM_rng hC ho k
        refine ai_iconst hx hb d_M_findDate_150 ?_
        refine lv_istore (lv' := [(6, .int (iI 0)), (4, .long (iL v104)), (0, .ref a), (1, .int (iI cal)), (2, .long (iL d))]) hx hb d_M_findDate_151 hl (by decide) rfl (fun ls hl => ?_)
        exact hJ153 _ _ _ k pl v104 0 v115 _ hP hS (lv_sub hl [0, 1, 2, 3, 4] rfl) hC hk hp1 hp2 hY hM hDy e115 (by omega) (Nat.zero_le _) (by have : cm (fun i => lnM g cal k (maM cal k i)) 0 = 0 := rfl; omega) (by omega) (Nat.lt_succ_self _)
      · skip
        obtain ⟨k2, hk2, hY, hM, hDy⟩ : ∃ k, (stM g 2 k ≤ d ∧ d < stM g 2 (k + 1)) ∧ Yr = k ∧ Mo = (d - stM g 2 k) / 7 + 1 ∧ Dy = (d - stM g 2 k) % 7 + 1 := by rcases hdt with h | h | h | h <;> first | exact h.2 | omega
        have ecal : stM g cal = stM g 2 := by rw [h120]
        rw [ecal] at hk e104 hIs hkr
        obtain rfl : k = k2 := hIs.uniq hk.1 hk.2 hk2.1 hk2.2
        have ht1 := Int.tdiv_eq_ediv_of_nonneg (a := v104) (b := 7) (by omega)
        have eyr : nmd cal k = k := by unfold nmd; rw [if_neg (by omega)]
        refine lv_aload_n hx hb d_M_findDate_123 rfl (lv_at hl 1 rfl) ?_
        refine lv_lload hx hb d_M_findDate_124 (lv_at hl 0 rfl) ?_
        refine ai_ldc2 (x := 7) hx hb hown (hts _ k_944) (by decide +kernel) d_M_findDate_126 ?_
        refine ai_ldiv hx hb d_M_findDate_129 (by omega) (by omega) (by omega) ?_
        refine ai_l2i hx hb d_M_findDate_130 ?_
        refine ai_iconst hx hb d_M_findDate_131 ?_
        refine ai_iadd hx hb d_M_findDate_132 ?_
        refine ai_nmI hx hb (fun v133 e133 => ?_)
        refine va_put (D := D) (cl := CL) (ci := 10) (v := .int (iI v133)) (ty := .int) (C := "DayBookModel") (T := T_M) (N := 19) hx hb hts in_M ty_M ty_M_ok nm_M hown hK hP hD hS 0 rfl rfl 15 (by decide) (hts _ k_961) (fun _ h9 => h9) rfl (by decide +kernel) rfl rfl (Nat.le_of_ble_eq_true rfl) d_M_findDate_133 (fun H locs hP hD hS => ?_)
        have hP : va_P D CL (MWs a ad cx (upF (upF (upF (upF (upF (upF F 1 cal) 2 k) 3 (stM g cal k)) 4 (stM g cal (k + 1))) 5 v115) 6 v133) g) H := hP
        have hD : va_D (Ain a ad) (MWs a ad cx (upF (upF (upF (upF (upF (upF F 1 cal) 2 k) 3 (stM g cal k)) 4 (stM g cal (k + 1))) 5 v115) 6 v133) g) := hD
        refine lv_aload_n hx hb d_M_findDate_136 rfl (lv_at hl 1 rfl) ?_
        refine lv_lload hx hb d_M_findDate_137 (lv_at hl 0 rfl) ?_
        refine ai_ldc2 (x := 7) hx hb hown (hts _ k_944) (by decide +kernel) d_M_findDate_139 ?_
        refine ai_lrem hx hb d_M_findDate_142 (by omega) (by omega) (by omega) ?_
        refine ai_l2i hx hb d_M_findDate_143 ?_
        refine ai_iconst hx hb d_M_findDate_144 ?_
        refine ai_iadd hx hb d_M_findDate_145 ?_
        refine ai_nmI hx hb (fun v146 e146 => ?_)
        refine va_put (D := D) (cl := CL) (ci := 10) (v := .int (iI v146)) (ty := .int) (C := "DayBookModel") (T := T_M) (N := 19) hx hb hts in_M ty_M ty_M_ok nm_M hown hK hP hD hS 0 rfl rfl 16 (by decide) (hts _ k_962) (fun _ h9 => h9) rfl (by decide +kernel) rfl rfl (Nat.le_of_ble_eq_true rfl) d_M_findDate_146 (fun H locs hP hD hS => ?_)
        have hP : va_P D CL (MWs a ad cx (upF (upF (upF (upF (upF (upF (upF F 1 cal) 2 k) 3 (stM g cal k)) 4 (stM g cal (k + 1))) 5 v115) 6 v133) 7 v146) g) H := hP
        have hD : va_D (Ain a ad) (MWs a ad cx (upF (upF (upF (upF (upF (upF (upF F 1 cal) 2 k) 3 (stM g cal k)) 4 (stM g cal (k + 1))) 5 v115) 6 v133) 7 v146) g) := hD
        exact mw_vret hx hb hr hlk d_M_findDate_149 hP hS ⟨rfl, (by show v115 = Yr; rw [hY, e115, eyr]), (by show v133 = Mo; rw [hM, e133, ht1]; omega), (by show v146 = Dy; omega), rfl, rfl, Or.inr ⟨show isY cal from hS_, by show -250000000 ≤ k ∧ k ≤ 250000000; omega, rfl, rfl⟩⟩
    · skip
      obtain ⟨-, hY, hM, hDy⟩ : cal = 11 ∧ Yr = luC d / 12 ∧ Mo = luM d ∧ Dy = luD d := by rcases hdt with h | h | h | h <;> first | exact h | omega
      refine lv_aload_n hx hb d_M_findDate_86 rfl (lv_at hl 0 rfl) ?_
      refine lv_lload_n hx hb d_M_findDate_87 rfl (lv_at hl 2 rfl) ?_
      refine mw_v (rest := []) (ct_M_findMoonDate l D a ad cx F g d (by omega)) j_M_findMoonDate k_1039 s_M_findMoonDate hF hK hP hD hS (fun _ h => h) rfl hl.1 rfl ⟨Nat.le_of_ble_eq_true rfl, Nat.le_of_ble_eq_true rfl⟩ (Nat.le_of_ble_eq_true rfl) d_M_findDate_88 ⟨Nat.zero_le _, Nat.zero_le _⟩ (fun u88 H locs hΦ88 hP hS => ?_)
      subst hΦ88
      have hP : va_P D CL (MWs a ad cx (upF (upF (upF F 5 (luC d / 12)) 6 (luM d)) 7 (luD d)) g) H := hP
      have hD : va_D (Ain a ad) (MWs a ad cx (upF (upF (upF F 5 (luC d / 12)) 6 (luM d)) 7 (luD d)) g) := MD.any hD
      exact mw_vret hx hb hr hlk d_M_findDate_91 hP hS ⟨rfl, hY.symm, hM.symm, hDy.symm, rfl, rfl, hca⟩
  · skip
    obtain ⟨-, hY, hM, hDy⟩ : cal = 10 ∧ Yr = suK d / 12 ∧ Mo = suK d % 12 + 1 ∧ Dy = suD d := by rcases hdt with h | h | h | h <;> first | exact h | omega
    refine ai_ldc2 (x := 6912) hx hb hown (hts _ k_1034) (by decide +kernel) d_M_findDate_6 ?_
    refine lv_lload_n hx hb d_M_findDate_9 rfl (lv_at hl 2 rfl) ?_
    refine ai_ldc2 (x := 1132959) hx hb hown (hts _ k_1035) (by decide +kernel) d_M_findDate_10 ?_
    refine ai_ladd hx hb d_M_findDate_13 ?_
    refine ai_lmul hx hb d_M_findDate_14 ?_
    refine ai_ldc2 (x := 1728) hx hb hown (hts _ k_1036) (by decide +kernel) d_M_findDate_15 ?_
    refine ai_ladd hx hb d_M_findDate_18 ?_
    refine ai_nmL hx hb (fun v19 e19 => ?_)
    have b19 : -700000000000 ≤ v19 ∧ v19 ≤ 710000000000 := (by omega)
    replace e19 : Hd (v19 = (6912 * (d + 1132959)) + 1728) := e19
    refine lv_lstore (lv' := [(4, .long (iL v19)), (0, .ref a), (1, .int (iI cal)), (2, .long (iL d))]) hx hb d_M_findDate_19 hl (by decide) rfl (fun ls hl => ?_)
    refine lv_lload hx hb d_M_findDate_21 (lv_at hl 0 rfl) ?_
    refine ai_ldc2 (x := 210389) hx hb hown (hts _ k_1037) (by decide +kernel) d_M_findDate_23 ?_
    refine ro_S (rest := []) (ct_M_div l v19 210389 (by omega) (by omega)) j_M_div k_928 hF rfl hl.1 rfl ⟨Nat.le_of_ble_eq_true rfl, Nat.le_of_ble_eq_true rfl⟩ (Nat.le_of_ble_eq_true rfl) d_M_findDate_26 ⟨Nat.zero_le _, Nat.zero_le _⟩ Bm_true (fun _ _ _ => trivial) ?_
    refine ai_nmL hx hb (fun v29 e29 => ?_)
    have b29 : -3400000 ≤ v29 ∧ v29 ≤ 3400000 := (by have q := db (x := v19) (n := 210389) (lo := -3400000) (hi := 3400000) (by decide) (by omega) (by omega); rw [e29]; generalize (v19) / 210389 = zz at *; clear e29; omega)
    replace e29 : Hd (v29 = v19 / 210389) := e29
    refine lv_lstore (lv' := [(6, .long (iL v29)), (4, .long (iL v19)), (0, .ref a), (1, .int (iI cal)), (2, .long (iL d))]) hx hb d_M_findDate_29 hl (by decide) rfl (fun ls hl => ?_)
    refine lv_aload_n hx hb d_M_findDate_31 rfl (lv_at hl 2 rfl) ?_
    refine lv_lload hx hb d_M_findDate_32 (lv_at hl 0 rfl) ?_
    refine ai_ldc2 (x := 12) hx hb hown (hts _ k_1038) (by decide +kernel) d_M_findDate_34 ?_
    refine ro_S (rest := [.ref a]) (ct_M_div l v29 12 (by omega) (by omega)) j_M_div k_928 hF rfl hl.1 rfl ⟨Nat.le_of_ble_eq_true rfl, Nat.le_of_ble_eq_true rfl⟩ (Nat.le_of_ble_eq_true rfl) d_M_findDate_37 ⟨Nat.zero_le _, Nat.zero_le _⟩ Bm_true (fun _ _ _ => trivial) ?_
    refine ai_nmL hx hb (fun v40 e40 => ?_)
    refine va_put (D := D) (cl := CL) (ci := 10) (v := .long (iL v40)) (ty := .long) (C := "DayBookModel") (T := T_M) (N := 19) hx hb hts in_M ty_M ty_M_ok nm_M hown hK hP hD hS 0 rfl rfl 14 (by decide) (hts _ k_960) (fun _ h9 => h9) rfl (by decide +kernel) rfl rfl (Nat.le_of_ble_eq_true rfl) d_M_findDate_40 (fun H locs hP hD hS => ?_)
    have hP : va_P D CL (MWs a ad cx (upF F 5 v40) g) H := hP
    have hD : va_D (Ain a ad) (MWs a ad cx (upF F 5 v40) g) := hD
    refine lv_aload_n hx hb d_M_findDate_43 rfl (lv_at hl 2 rfl) ?_
    refine lv_lload hx hb d_M_findDate_44 (lv_at hl 0 rfl) ?_
    refine ai_ldc2 (x := 12) hx hb hown (hts _ k_1038) (by decide +kernel) d_M_findDate_46 ?_
    refine ro_S (rest := [.ref a]) (ct_M_mod l v29 12 (by omega) (by omega)) j_M_mod k_925 hF rfl hl.1 rfl ⟨Nat.le_of_ble_eq_true rfl, Nat.le_of_ble_eq_true rfl⟩ (Nat.le_of_ble_eq_true rfl) d_M_findDate_49 ⟨Nat.zero_le _, Nat.zero_le _⟩ Bm_true (fun _ _ _ => trivial) ?_
    refine ai_l2i hx hb d_M_findDate_52 ?_
    refine ai_iconst hx hb d_M_findDate_53 ?_
    refine ai_iadd hx hb d_M_findDate_54 ?_
    refine ai_nmI hx hb (fun v55 e55 => ?_)
    refine va_put (D := D) (cl := CL) (ci := 10) (v := .int (iI v55)) (ty := .int) (C := "DayBookModel") (T := T_M) (N := 19) hx hb hts in_M ty_M ty_M_ok nm_M hown hK hP hD hS 0 rfl rfl 15 (by decide) (hts _ k_961) (fun _ h9 => h9) rfl (by decide +kernel) rfl rfl (Nat.le_of_ble_eq_true rfl) d_M_findDate_55 (fun H locs hP hD hS => ?_)
    have hP : va_P D CL (MWs a ad cx (upF (upF F 5 v40) 6 v55) g) H := hP
    have hD : va_D (Ain a ad) (MWs a ad cx (upF (upF F 5 v40) 6 v55) g) := hD
    refine lv_aload_n hx hb d_M_findDate_58 rfl (lv_at hl 2 rfl) ?_
    refine lv_lload hx hb d_M_findDate_59 (lv_at hl 1 rfl) ?_
    refine ai_ldc2 (x := 210389) hx hb hown (hts _ k_1037) (by decide +kernel) d_M_findDate_61 ?_
    refine ro_S (rest := [.ref a]) (ct_M_mod l v19 210389 (by omega) (by omega)) j_M_mod k_925 hF rfl hl.1 rfl ⟨Nat.le_of_ble_eq_true rfl, Nat.le_of_ble_eq_true rfl⟩ (Nat.le_of_ble_eq_true rfl) d_M_findDate_64 ⟨Nat.zero_le _, Nat.zero_le _⟩ Bm_true (fun _ _ _ => trivial) ?_
    refine ai_ldc2 (x := 6912) hx hb hown (hts _ k_1034) (by decide +kernel) d_M_findDate_67 ?_
    refine ro_S (rest := [.ref a]) (ct_M_div l (v19 % 210389) 6912 (by omega) (by omega)) j_M_div k_928 hF rfl hl.1 rfl ⟨Nat.le_of_ble_eq_true rfl, Nat.le_of_ble_eq_true rfl⟩ (Nat.le_of_ble_eq_true rfl) d_M_findDate_70 ⟨Nat.zero_le _, Nat.zero_le _⟩ Bm_true (fun _ _ _ => trivial) ?_
    refine ai_l2i hx hb d_M_findDate_73 ?_
    refine ai_iconst hx hb d_M_findDate_74 ?_
    refine ai_iadd hx hb d_M_findDate_75 ?_
    refine ai_nmI hx hb (fun v76 e76 => ?_)
    refine va_put (D := D) (cl := CL) (ci := 10) (v := .int (iI v76)) (ty := .int) (C := "DayBookModel") (T := T_M) (N := 19) hx hb hts in_M ty_M ty_M_ok nm_M hown hK hP hD hS 0 rfl rfl 16 (by decide) (hts _ k_962) (fun _ h9 => h9) rfl (by decide +kernel) rfl rfl (Nat.le_of_ble_eq_true rfl) d_M_findDate_76 (fun H locs hP hD hS => ?_)
    have hP : va_P D CL (MWs a ad cx (upF (upF (upF F 5 v40) 6 v55) 7 v76) g) H := hP
    have hD : va_D (Ain a ad) (MWs a ad cx (upF (upF (upF F 5 v40) 6 v55) 7 v76) g) := hD
    have s0 : suP d = v19 := e19.o.symm
    have s1 : suK d = v29 := by unfold suK; rw [s0, e29.o]
    have s2 : suD d = v76 := by unfold suD; rw [s0, e76]
    exact mw_vret hx hb hr hlk d_M_findDate_79 hP hS ⟨rfl, (by show v40 = Yr; rw [hY, s1, e40]), (by show v55 = Mo; rw [hM, s1, e55]), (by show v76 = Dy; rw [hDy, s2]), rfl, rfl, hca⟩
