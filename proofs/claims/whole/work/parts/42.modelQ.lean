/-! 42.modelQ: laid by program (wip/whole) -/
def okP (mo le ep ra rb rc : Int) : Prop := (1 ≤ mo ∧ mo ≤ 20) ∧ (1 ≤ le ∧ le ≤ 40) ∧ (-1000000 ≤ ep ∧ ep ≤ 1000000) ∧ (0 ≤ ra ∧ ra ≤ rc) ∧ (0 ≤ rb ∧ rb < rc) ∧ (1 ≤ rc ∧ rc ≤ 1000)
def plg (g : Nat → Nat → Int) (k mo le ep ra rb rc : Int) : Nat → Nat → Int := upG (upG (upG (upG (upG (upG (upG (upG g 2 (Int.toNat k) 1) 3 (Int.toNat k) mo) 4 (Int.toNat k) le) 5 (Int.toNat k) ep) 6 (Int.toNat k) ra) 7 (Int.toNat k) rb) 8 (Int.toNat k) rc) 0 (Int.toNat (12 + k)) rc
noncomputable def plgE (g : Nat → Nat → Int) (k mo le ep ra rb rc : Int) : Nat → Nat → Int := upG (plg g k mo le ep ra rb rc) 1 (Int.toNat (12 + k)) (ys 0 (plM (plg g k mo le ep ra rb rc) (12 + k)) (lbM (plg g k mo le ep ra rb rc) (12 + k)) (plg g k mo le ep ra rb rc 0 (Int.toNat (12 + k)) + 1))
section PLG
variable {g : Nat → Nat → Int} {k mo le ep ra rb rc : Int}
theorem plg_at : plg g k mo le ep ra rb rc 2 (Int.toNat k) = 1 ∧ plg g k mo le ep ra rb rc 3 (Int.toNat k) = mo ∧ plg g k mo le ep ra rb rc 4 (Int.toNat k) = le ∧ plg g k mo le ep ra rb rc 5 (Int.toNat k) = ep ∧ plg g k mo le ep ra rb rc 6 (Int.toNat k) = ra ∧ plg g k mo le ep ra rb rc 7 (Int.toNat k) = rb ∧ plg g k mo le ep ra rb rc 8 (Int.toNat k) = rc ∧ plg g k mo le ep ra rb rc 0 (Int.toNat (12 + k)) = rc := by
  simp [plg, upG]
theorem plg_off {i j : Nat} (hi : 2 ≤ i) (hj : j ≠ Int.toNat k) : plg g k mo le ep ra rb rc i j = g i j := by
  simp only [plg, upG]
  rw [if_neg (by omega : ¬ i = 0)]
  by_cases q8 : i = 8
  · subst q8; simp [hj]
  rw [if_neg q8]
  by_cases q7 : i = 7
  · subst q7; simp [hj]
  rw [if_neg q7]
  by_cases q6 : i = 6
  · subst q6; simp [hj]
  rw [if_neg q6]
  by_cases q5 : i = 5
  · subst q5; simp [hj]
  rw [if_neg q5]
  by_cases q4 : i = 4
  · subst q4; simp [hj]
  rw [if_neg q4]
  by_cases q3 : i = 3
  · subst q3; simp [hj]
  rw [if_neg q3]
  by_cases q2 : i = 2
  · subst q2; simp [hj]
  rw [if_neg q2]
theorem plgE_2 {i : Nat} (hi : i ≠ 1) : plgE g k mo le ep ra rb rc i = plg g k mo le ep ra rb rc i := by
  simp [plgE, upG, hi]
theorem plgE_off {i j : Nat} (hi : i < 2) (hj : j ≠ Int.toNat (12 + k)) : plgE g k mo le ep ra rb rc i j = g i j := by
  have h : i = 0 ∨ i = 1 := by omega
  rcases h with rfl | rfl <;> simp [plgE, plg, upG, hj]
theorem plgE_9 : plgE g k mo le ep ra rb rc 9 = g 9 := by simp [plgE, plg, upG]
theorem plM_k {G G' : Nat → Nat → Int} {cal : Int} (h3 : G 3 (Int.toNat (cal - 12)) = G' 3 (Int.toNat (cal - 12))) (h4 : G 4 (Int.toNat (cal - 12)) = G' 4 (Int.toNat (cal - 12))) : plM G cal = plM G' cal := by
  unfold plM; rw [h3, h4]
theorem lbM_k {G G' : Nat → Nat → Int} {cal : Int} (h6 : G 6 (Int.toNat (cal - 12)) = G' 6 (Int.toNat (cal - 12))) (h7 : G 7 (Int.toNat (cal - 12)) = G' 7 (Int.toNat (cal - 12))) (h8 : G 8 (Int.toNat (cal - 12)) = G' 8 (Int.toNat (cal - 12))) : lbM G cal = lbM G' cal := by
  funext y; unfold lbM; rw [h6, h7, h8]
theorem plM_lo {G G' : Nat → Nat → Int} {cal : Int} (h : cal < 12) : plM G cal = plM G' cal := by
  unfold plM; rw [if_neg (show ¬ cal = 12 by omega), if_neg (show ¬ cal = 13 by omega), if_neg (show ¬ cal = 12 by omega), if_neg (show ¬ cal = 13 by omega)]
theorem lbM_lo {G G' : Nat → Nat → Int} {cal : Int} (h : cal = 0 ∨ cal = 1 ∨ cal = 3 ∨ cal = 4 ∨ cal = 5 ∨ cal = 6 ∨ cal = 7 ∨ cal = 8) : lbM G cal = lbM G' cal := by
  funext y
  rcases h with rfl | rfl | rfl | rfl | rfl | rfl | rfl | rfl <;> rfl
theorem CyOK.keep {G G' : Nat → Nat → Int} {cal : Int} (h : CyOK G cal) (hp : plM G' cal = plM G cal) (hl : lbM G' cal = lbM G cal) (h0 : G' 0 (Int.toNat cal) = G 0 (Int.toNat cal)) (h1 : G' 1 (Int.toNat cal) = G 1 (Int.toNat cal)) : CyOK G' cal := by
  unfold CyOK at h ⊢
  rw [hp, hl, h0, h1]
  exact h
theorem own_cy {G : Nat → Nat → Int} {cal : Int} (hc : cal = 12 ∨ cal = 13) (ho : OwnOK G (Int.toNat (cal - 12))) (h0 : G 0 (Int.toNat cal) = G 8 (Int.toNat (cal - 12))) (h1 : G 1 (Int.toNat cal) = ys 0 (plM G cal) (lbM G cal) (G 8 (Int.toNat (cal - 12)) + 1)) : CyOK G cal := by
  obtain ⟨-, -, -, o1, o2, o3⟩ := ho
  have el : ∀ y, lbM G cal y = lbS (G 6 (Int.toNat (cal - 12))) (G 7 (Int.toNat (cal - 12))) (G 8 (Int.toNat (cal - 12))) y := fun y => by
    rcases hc with rfl | rfl <;> rfl
  have key : ∀ q, lbM G cal (q * G 8 (Int.toNat (cal - 12)) + 1) = lbM G cal 1 + q * G 6 (Int.toNat (cal - 12)) := fun q => by
    rw [el, el]
    unfold lbS
    generalize G 6 (Int.toNat (cal - 12)) = a at *
    generalize G 7 (Int.toNat (cal - 12)) = b at *
    generalize G 8 (Int.toNat (cal - 12)) = c at *
    rw [show a * (q * c + 1 - 1) + b = b + q * a * c by rw [show q * c + 1 - 1 = q * c by omega, Int.add_comm, Int.mul_comm q a, Int.mul_assoc], Int.add_mul_ediv_right _ _ (by omega), show a * (1 - 1) + b = b by simp]
  refine ⟨G 6 (Int.toNat (cal - 12)), by rw [h0]; omega, by omega, ?_, fun q => by rw [h0]; exact key q⟩
  rw [h1, h0]
  have k1 := key 1
  rw [Int.one_mul, Int.one_mul] at k1
  unfold ys
  rw [k1, show G 8 (Int.toNat (cal - 12)) + 1 - 1 = G 8 (Int.toNat (cal - 12)) by omega]
  omega
theorem plg_own (hk : 0 ≤ k ∧ k ≤ 1) (h : okP mo le ep ra rb rc) : OwnOK (plg g k mo le ep ra rb rc) (Int.toNat (12 + k - 12)) := by
  obtain ⟨q2, q3, q4, q5, q6, q7, q8, -⟩ := plg_at (g := g) (k := k) (mo := mo) (le := le) (ep := ep) (ra := ra) (rb := rb) (rc := rc)
  rw [show 12 + k - 12 = k by omega]
  unfold OwnOK
  rw [q3, q4, q5, q6, q7, q8]
  exact h
theorem MInv.plug (h : MInv g) (hk : 0 ≤ k ∧ k ≤ 1) (hok : okP mo le ep ra rb rc) : MInv (plgE g k mo le ep ra rb rc) := by
  obtain ⟨q2, q3, q4, q5, q6, q7, q8, q0⟩ := plg_at (g := g) (k := k) (mo := mo) (le := le) (ep := ep) (ra := ra) (rb := rb) (rc := rc)
  refine ⟨fun cal hc => ?_, fun i hi => ?_⟩
  · exact (h.1 cal hc).keep (plM_lo (by omega)) (lbM_lo hc) (plgE_off (by decide) (by omega)) (plgE_off (by decide) (by omega))
  · by_cases q : (i : Int) = k
    · have ei : i = Int.toNat k := by omega
      have e12 : (12 : Int) + i - 12 = k := by omega
      have hok2 : OwnOK (plgE g k mo le ep ra rb rc) i := by
        have := plg_own (g := g) hk hok
        rw [show Int.toNat (12 + k - 12) = i by omega] at this
        unfold OwnOK at this ⊢
        rw [plgE_2 (by decide), plgE_2 (by decide), plgE_2 (by decide), plgE_2 (by decide), plgE_2 (by decide), plgE_2 (by decide)]
        exact this
      refine ⟨by rw [plgE_2 (by decide), ei, q2]; decide, fun _ => ⟨hok2, own_cy (by omega) (by rw [e12, ← ei]; exact hok2) ?_ ?_⟩⟩
      · rw [e12, plgE_2 (by decide), plgE_2 (by decide), q8, show Int.toNat (12 + (i : Int)) = Int.toNat (12 + k) by omega, q0]
      · rw [e12]
        have e1 : plM (plgE g k mo le ep ra rb rc) (12 + (i : Int)) = plM (plg g k mo le ep ra rb rc) (12 + k) := by
          rw [show (12 : Int) + i = 12 + k by omega]; exact plM_k (by rw [plgE_2 (by decide)]) (by rw [plgE_2 (by decide)])
        have e2 : lbM (plgE g k mo le ep ra rb rc) (12 + (i : Int)) = lbM (plg g k mo le ep ra rb rc) (12 + k) := by
          rw [show (12 : Int) + i = 12 + k by omega]; exact lbM_k (by rw [plgE_2 (by decide)]) (by rw [plgE_2 (by decide)]) (by rw [plgE_2 (by decide)])
        rw [e1, e2, plgE_2 (i := 8) (by decide), q8, show Int.toNat (12 + (i : Int)) = Int.toNat (12 + k) by omega]
        have : plgE g k mo le ep ra rb rc 1 (Int.toNat (12 + k)) = ys 0 (plM (plg g k mo le ep ra rb rc) (12 + k)) (lbM (plg g k mo le ep ra rb rc) (12 + k)) (plg g k mo le ep ra rb rc 0 (Int.toNat (12 + k)) + 1) := by
          exact if_pos rfl
        rw [this, q0]
    · have ei : i ≠ Int.toNat k := by omega
      have off : ∀ n, 2 ≤ n → plgE g k mo le ep ra rb rc n i = g n i := fun n hn => by rw [plgE_2 (by omega)]; exact plg_off hn ei
      have h2 := h.2 i hi
      have e12 : Int.toNat ((12 : Int) + i - 12) = i := by omega
      refine ⟨by rw [off 2 (by decide)]; exact h2.1, fun z => ?_⟩
      rw [off 2 (by decide)] at z
      obtain ⟨z1, z2⟩ := h2.2 z
      refine ⟨?_, z2.keep (plM_k ?_ ?_) (lbM_k ?_ ?_ ?_) (plgE_off (by decide) (by omega)) (plgE_off (by decide) (by omega))⟩
      · unfold OwnOK at z1 ⊢
        rw [off 3 (by decide), off 4 (by decide), off 5 (by decide), off 6 (by decide), off 7 (by decide), off 8 (by decide)]
        exact z1
      all_goals rw [e12]; exact off _ (by decide)
end PLG
set_option maxHeartbeats 4000000 in
set_option maxRecDepth 100000 in
theorem ct_M_plug (l : Launch) (D : va_G) (a : Nat) (ad : Nat → Nat) (cx : Nat → ClassId) (F : Nat → Int) (g : Nat → Nat → Int) (k : Int) (mo : Int) (le : Int) (ep : Int) (ra : Int) (rb : Int) (rc : Int) (tc : Int) (hv : MInv g) (hca : CacheOK F g) (r_k : -2147483648 ≤ k ∧ k ≤ 2147483647) (r_mo : -2147483648 ≤ mo ∧ mo ≤ 2147483647) (r_le : -2147483648 ≤ le ∧ le ≤ 2147483647) (r_ep : -2147483648 ≤ ep ∧ ep ≤ 2147483647) (r_ra : -2147483648 ≤ ra ∧ ra ≤ 2147483647) (r_rb : -2147483648 ≤ rb ∧ rb ≤ 2147483647) (r_rc : -2147483648 ≤ rc ∧ rc ≤ 2147483647) (htp : (tc = 1 ∧ ¬ (0 ≤ k ∧ k ≤ 1)) ∨ (tc = 2 ∧ (0 ≤ k ∧ k ≤ 1) ∧ ¬ okP mo le ep ra rb rc) ∨ (tc = 0 ∧ (0 ≤ k ∧ k ≤ 1) ∧ okP mo le ep ra rb rc)) : MW l y_M_plug w_M_plug 5 116 [.ref a, .int (iI k), .int (iI mo), .int (iI le), .int (iI ep), .int (iI ra), .int (iI rb), .int (iI rc)] D a ad cx F g (QMi D a ad cx (bI (tc = 0 ∧ g 2 (Int.toNat k) = 1)) (fun u => u.1 0 = tc ∧ u.1 8 = F 8 ∧ ((tc ≠ 0 ∧ u.2 = g ∧ CacheOK u.1 g) ∨ (tc = 0 ∧ u.2 = plgE g k mo le ep ra rb rc ∧ u.1 1 = -2147483648)))) := by
  refine mw_of (by decide +kernel) (Nat.le_of_ble_eq_true rfl) ?_
  intro p e s m below meth c ls hx hb hr hts hown hlk hml hl hN hK hP hD
  have hown : s.vm.findClass "DayBookModel" = some m.cls := hown
  have hl : lv_has ls 9 [(0, .ref a), (1, .int (iI k)), (2, .int (iI mo)), (3, .int (iI le)), (4, .int (iI ep)), (5, .int (iI ra)), (6, .int (iI rb)), (7, .int (iI rc))] := hl
  have hF : _ ∧ _ ∧ _ ∧ _ ∧ _ ∧ _ := ⟨hx, hb, hml, hown, hts, hN⟩
  have hS : va_S (Ain a ad) s.heap s.heap [] := va_S.rf
  refine lv_aload_n hx hb d_M_plug_0 rfl (lv_at hl 0 rfl) ?_
  refine ai_iconst hx hb d_M_plug_1 ?_
  refine va_put (D := D) (cl := CL) (ci := 10) (v := .int (iI 0)) (ty := .int) (C := "DayBookModel") (T := T_M) (N := 19) hx hb hts in_M ty_M ty_M_ok nm_M hown hK hP hD hS 0 rfl rfl 0 (by decide) (hts _ k_946) (fun _ h9 => h9) rfl (by decide +kernel) rfl rfl (Nat.le_of_ble_eq_true rfl) d_M_plug_2 (fun H locs hP hD hS => ?_)
  have hP : va_P D CL (MWs a ad cx (upF F 0 0) g) H := hP
  have hD : va_D (Ain a ad) (MWs a ad cx (upF F 0 0) g) := hD
  refine lv_iload_n hx hb d_M_plug_5 rfl (lv_at hl 1 rfl) ?_
  refine ai_if_lt hx hb d_M_plug_6 rfl (by omega) (fun h6 => ?_) (fun h6 => ?_)
  · skip
    have et : tc = 1 := by omega
    refine lv_aload_n hx hb d_M_plug_14 rfl (lv_at hl 0 rfl) ?_
    refine ai_iconst hx hb d_M_plug_15 ?_
    refine va_put (D := D) (cl := CL) (ci := 10) (v := .int (iI 1)) (ty := .int) (C := "DayBookModel") (T := T_M) (N := 19) hx hb hts in_M ty_M ty_M_ok nm_M hown hK hP hD hS 0 rfl rfl 0 (by decide) (hts _ k_946) (fun _ h9 => h9) rfl (by decide +kernel) rfl rfl (Nat.le_of_ble_eq_true rfl) d_M_plug_16 (fun H locs hP hD hS => ?_)
    have hP : va_P D CL (MWs a ad cx (upF (upF F 0 0) 0 1) g) H := hP
    have hD : va_D (Ain a ad) (MWs a ad cx (upF (upF F 0 0) 0 1) g) := hD
    refine ai_iconst hx hb d_M_plug_19 ?_
    exact mw_zret hx hb hr hlk d_M_plug_20 hP hS (ro_0 (fun q => by omega) rfl) ⟨et.symm, rfl, Or.inl ⟨by omega, rfl, hca⟩⟩
  · skip
    refine lv_iload_n hx hb d_M_plug_9 rfl (lv_at hl 1 rfl) ?_
    refine ai_iconst hx hb d_M_plug_10 ?_
    refine ai_icmp_le hx hb d_M_plug_11 rfl (by omega) (by omega) (fun h11 => ?_) (fun h11 => ?_)
    · skip
      refine lv_iload_n hx hb d_M_plug_21 rfl (lv_at hl 2 rfl) ?_
      refine ai_iconst hx hb d_M_plug_22 ?_
      refine ai_icmp_lt hx hb d_M_plug_23 rfl (by omega) (by omega) (fun h23 => ?_) (fun h23 => ?_)
      · skip
        have et : tc = 2 := by rcases htp with a1 | ⟨a1, a2, a3⟩ | ⟨a1, a2, a3⟩; omega; exact a1; (unfold okP at a3; omega)
        refine lv_aload_n hx hb d_M_plug_97 rfl (lv_at hl 0 rfl) ?_
        refine ai_iconst hx hb d_M_plug_98 ?_
        refine va_put (D := D) (cl := CL) (ci := 10) (v := .int (iI 2)) (ty := .int) (C := "DayBookModel") (T := T_M) (N := 19) hx hb hts in_M ty_M ty_M_ok nm_M hown hK hP hD hS 0 rfl rfl 0 (by decide) (hts _ k_946) (fun _ h9 => h9) rfl (by decide +kernel) rfl rfl (Nat.le_of_ble_eq_true rfl) d_M_plug_99 (fun H locs hP hD hS => ?_)
        have hP : va_P D CL (MWs a ad cx (upF (upF F 0 0) 0 2) g) H := hP
        have hD : va_D (Ain a ad) (MWs a ad cx (upF (upF F 0 0) 0 2) g) := hD
        refine ai_iconst hx hb d_M_plug_102 ?_
        exact mw_zret hx hb hr hlk d_M_plug_103 hP hS (ro_0 (fun q => by omega) rfl) ⟨et.symm, rfl, Or.inl ⟨by omega, rfl, hca⟩⟩
      · skip
        refine lv_iload_n hx hb d_M_plug_26 rfl (lv_at hl 2 rfl) ?_
        refine ai_bipush (x := 20) hx hb d_M_plug_27 (by decide +kernel) ?_
        refine ai_icmp_gt hx hb d_M_plug_29 rfl (by omega) (by omega) (fun h29 => ?_) (fun h29 => ?_)
        · skip
          have et : tc = 2 := by rcases htp with a1 | ⟨a1, a2, a3⟩ | ⟨a1, a2, a3⟩; omega; exact a1; (unfold okP at a3; omega)
          refine lv_aload_n hx hb d_M_plug_97 rfl (lv_at hl 0 rfl) ?_
          refine ai_iconst hx hb d_M_plug_98 ?_
          refine va_put (D := D) (cl := CL) (ci := 10) (v := .int (iI 2)) (ty := .int) (C := "DayBookModel") (T := T_M) (N := 19) hx hb hts in_M ty_M ty_M_ok nm_M hown hK hP hD hS 0 rfl rfl 0 (by decide) (hts _ k_946) (fun _ h9 => h9) rfl (by decide +kernel) rfl rfl (Nat.le_of_ble_eq_true rfl) d_M_plug_99 (fun H locs hP hD hS => ?_)
          have hP : va_P D CL (MWs a ad cx (upF (upF F 0 0) 0 2) g) H := hP
          have hD : va_D (Ain a ad) (MWs a ad cx (upF (upF F 0 0) 0 2) g) := hD
          refine ai_iconst hx hb d_M_plug_102 ?_
          exact mw_zret hx hb hr hlk d_M_plug_103 hP hS (ro_0 (fun q => by omega) rfl) ⟨et.symm, rfl, Or.inl ⟨by omega, rfl, hca⟩⟩
        · skip
          refine lv_iload_n hx hb d_M_plug_32 rfl (lv_at hl 3 rfl) ?_
          refine ai_iconst hx hb d_M_plug_33 ?_
          refine ai_icmp_lt hx hb d_M_plug_34 rfl (by omega) (by omega) (fun h34 => ?_) (fun h34 => ?_)
          · skip
            have et : tc = 2 := by rcases htp with a1 | ⟨a1, a2, a3⟩ | ⟨a1, a2, a3⟩; omega; exact a1; (unfold okP at a3; omega)
            refine lv_aload_n hx hb d_M_plug_97 rfl (lv_at hl 0 rfl) ?_
            refine ai_iconst hx hb d_M_plug_98 ?_
            refine va_put (D := D) (cl := CL) (ci := 10) (v := .int (iI 2)) (ty := .int) (C := "DayBookModel") (T := T_M) (N := 19) hx hb hts in_M ty_M ty_M_ok nm_M hown hK hP hD hS 0 rfl rfl 0 (by decide) (hts _ k_946) (fun _ h9 => h9) rfl (by decide +kernel) rfl rfl (Nat.le_of_ble_eq_true rfl) d_M_plug_99 (fun H locs hP hD hS => ?_)
            have hP : va_P D CL (MWs a ad cx (upF (upF F 0 0) 0 2) g) H := hP
            have hD : va_D (Ain a ad) (MWs a ad cx (upF (upF F 0 0) 0 2) g) := hD
            refine ai_iconst hx hb d_M_plug_102 ?_
            exact mw_zret hx hb hr hlk d_M_plug_103 hP hS (ro_0 (fun q => by omega) rfl) ⟨et.symm, rfl, Or.inl ⟨by omega, rfl, hca⟩⟩
          · skip
            refine lv_iload_n hx hb d_M_plug_37 rfl (lv_at hl 3 rfl) ?_
            refine ai_bipush (x := 40) hx hb d_M_plug_38 (by decide +kernel) ?_
            refine ai_icmp_gt hx hb d_M_plug_40 rfl (by omega) (by omega) (fun h40 => ?_) (fun h40 => ?_)
            · skip
              have et : tc = 2 := by rcases htp with a1 | ⟨a1, a2, a3⟩ | ⟨a1, a2, a3⟩; omega; exact a1; (unfold okP at a3; omega)
              refine lv_aload_n hx hb d_M_plug_97 rfl (lv_at hl 0 rfl) ?_
              refine ai_iconst hx hb d_M_plug_98 ?_
              refine va_put (D := D) (cl := CL) (ci := 10) (v := .int (iI 2)) (ty := .int) (C := "DayBookModel") (T := T_M) (N := 19) hx hb hts in_M ty_M ty_M_ok nm_M hown hK hP hD hS 0 rfl rfl 0 (by decide) (hts _ k_946) (fun _ h9 => h9) rfl (by decide +kernel) rfl rfl (Nat.le_of_ble_eq_true rfl) d_M_plug_99 (fun H locs hP hD hS => ?_)
              have hP : va_P D CL (MWs a ad cx (upF (upF F 0 0) 0 2) g) H := hP
              have hD : va_D (Ain a ad) (MWs a ad cx (upF (upF F 0 0) 0 2) g) := hD
              refine ai_iconst hx hb d_M_plug_102 ?_
              exact mw_zret hx hb hr hlk d_M_plug_103 hP hS (ro_0 (fun q => by omega) rfl) ⟨et.symm, rfl, Or.inl ⟨by omega, rfl, hca⟩⟩
            · skip
              refine lv_iload hx hb d_M_plug_43 (lv_at hl 4 rfl) ?_
              refine ai_ldcw (x := -1000000) hx hb hown (hts _ k_1015) (by decide +kernel) d_M_plug_45 ?_
              refine ai_icmp_lt hx hb d_M_plug_48 rfl (by omega) (by omega) (fun h48 => ?_) (fun h48 => ?_)
              · skip
                have et : tc = 2 := by rcases htp with a1 | ⟨a1, a2, a3⟩ | ⟨a1, a2, a3⟩; omega; exact a1; (unfold okP at a3; omega)
                refine lv_aload_n hx hb d_M_plug_97 rfl (lv_at hl 0 rfl) ?_
                refine ai_iconst hx hb d_M_plug_98 ?_
                refine va_put (D := D) (cl := CL) (ci := 10) (v := .int (iI 2)) (ty := .int) (C := "DayBookModel") (T := T_M) (N := 19) hx hb hts in_M ty_M ty_M_ok nm_M hown hK hP hD hS 0 rfl rfl 0 (by decide) (hts _ k_946) (fun _ h9 => h9) rfl (by decide +kernel) rfl rfl (Nat.le_of_ble_eq_true rfl) d_M_plug_99 (fun H locs hP hD hS => ?_)
                have hP : va_P D CL (MWs a ad cx (upF (upF F 0 0) 0 2) g) H := hP
                have hD : va_D (Ain a ad) (MWs a ad cx (upF (upF F 0 0) 0 2) g) := hD
                refine ai_iconst hx hb d_M_plug_102 ?_
                exact mw_zret hx hb hr hlk d_M_plug_103 hP hS (ro_0 (fun q => by omega) rfl) ⟨et.symm, rfl, Or.inl ⟨by omega, rfl, hca⟩⟩
              · skip
                refine lv_iload hx hb d_M_plug_51 (lv_at hl 4 rfl) ?_
                refine ai_ldcw (x := 1000000) hx hb hown (hts _ k_1016) (by decide +kernel) d_M_plug_53 ?_
                refine ai_icmp_gt hx hb d_M_plug_56 rfl (by omega) (by omega) (fun h56 => ?_) (fun h56 => ?_)
                · skip
                  have et : tc = 2 := by rcases htp with a1 | ⟨a1, a2, a3⟩ | ⟨a1, a2, a3⟩; omega; exact a1; (unfold okP at a3; omega)
                  refine lv_aload_n hx hb d_M_plug_97 rfl (lv_at hl 0 rfl) ?_
                  refine ai_iconst hx hb d_M_plug_98 ?_
                  refine va_put (D := D) (cl := CL) (ci := 10) (v := .int (iI 2)) (ty := .int) (C := "DayBookModel") (T := T_M) (N := 19) hx hb hts in_M ty_M ty_M_ok nm_M hown hK hP hD hS 0 rfl rfl 0 (by decide) (hts _ k_946) (fun _ h9 => h9) rfl (by decide +kernel) rfl rfl (Nat.le_of_ble_eq_true rfl) d_M_plug_99 (fun H locs hP hD hS => ?_)
                  have hP : va_P D CL (MWs a ad cx (upF (upF F 0 0) 0 2) g) H := hP
                  have hD : va_D (Ain a ad) (MWs a ad cx (upF (upF F 0 0) 0 2) g) := hD
                  refine ai_iconst hx hb d_M_plug_102 ?_
                  exact mw_zret hx hb hr hlk d_M_plug_103 hP hS (ro_0 (fun q => by omega) rfl) ⟨et.symm, rfl, Or.inl ⟨by omega, rfl, hca⟩⟩
                · skip
                  refine lv_iload hx hb d_M_plug_59 (lv_at hl 7 rfl) ?_
                  refine ai_iconst hx hb d_M_plug_61 ?_
                  refine ai_icmp_lt hx hb d_M_plug_62 rfl (by omega) (by omega) (fun h62 => ?_) (fun h62 => ?_)
                  · skip
                    have et : tc = 2 := by rcases htp with a1 | ⟨a1, a2, a3⟩ | ⟨a1, a2, a3⟩; omega; exact a1; (unfold okP at a3; omega)
                    refine lv_aload_n hx hb d_M_plug_97 rfl (lv_at hl 0 rfl) ?_
                    refine ai_iconst hx hb d_M_plug_98 ?_
                    refine va_put (D := D) (cl := CL) (ci := 10) (v := .int (iI 2)) (ty := .int) (C := "DayBookModel") (T := T_M) (N := 19) hx hb hts in_M ty_M ty_M_ok nm_M hown hK hP hD hS 0 rfl rfl 0 (by decide) (hts _ k_946) (fun _ h9 => h9) rfl (by decide +kernel) rfl rfl (Nat.le_of_ble_eq_true rfl) d_M_plug_99 (fun H locs hP hD hS => ?_)
                    have hP : va_P D CL (MWs a ad cx (upF (upF F 0 0) 0 2) g) H := hP
                    have hD : va_D (Ain a ad) (MWs a ad cx (upF (upF F 0 0) 0 2) g) := hD
                    refine ai_iconst hx hb d_M_plug_102 ?_
                    exact mw_zret hx hb hr hlk d_M_plug_103 hP hS (ro_0 (fun q => by omega) rfl) ⟨et.symm, rfl, Or.inl ⟨by omega, rfl, hca⟩⟩
                  · skip
                    refine lv_iload hx hb d_M_plug_65 (lv_at hl 7 rfl) ?_
                    refine ai_sipush (x := 1000) hx hb d_M_plug_67 (by decide +kernel) ?_
                    refine ai_icmp_gt hx hb d_M_plug_70 rfl (by omega) (by omega) (fun h70 => ?_) (fun h70 => ?_)
                    · skip
                      have et : tc = 2 := by rcases htp with a1 | ⟨a1, a2, a3⟩ | ⟨a1, a2, a3⟩; omega; exact a1; (unfold okP at a3; omega)
                      refine lv_aload_n hx hb d_M_plug_97 rfl (lv_at hl 0 rfl) ?_
                      refine ai_iconst hx hb d_M_plug_98 ?_
                      refine va_put (D := D) (cl := CL) (ci := 10) (v := .int (iI 2)) (ty := .int) (C := "DayBookModel") (T := T_M) (N := 19) hx hb hts in_M ty_M ty_M_ok nm_M hown hK hP hD hS 0 rfl rfl 0 (by decide) (hts _ k_946) (fun _ h9 => h9) rfl (by decide +kernel) rfl rfl (Nat.le_of_ble_eq_true rfl) d_M_plug_99 (fun H locs hP hD hS => ?_)
                      have hP : va_P D CL (MWs a ad cx (upF (upF F 0 0) 0 2) g) H := hP
                      have hD : va_D (Ain a ad) (MWs a ad cx (upF (upF F 0 0) 0 2) g) := hD
                      refine ai_iconst hx hb d_M_plug_102 ?_
                      exact mw_zret hx hb hr hlk d_M_plug_103 hP hS (ro_0 (fun q => by omega) rfl) ⟨et.symm, rfl, Or.inl ⟨by omega, rfl, hca⟩⟩
                    · skip
                      refine lv_iload hx hb d_M_plug_73 (lv_at hl 5 rfl) ?_
                      refine ai_if_lt hx hb d_M_plug_75 rfl (by omega) (fun h75 => ?_) (fun h75 => ?_)
                      · skip
                        have et : tc = 2 := by rcases htp with a1 | ⟨a1, a2, a3⟩ | ⟨a1, a2, a3⟩; omega; exact a1; (unfold okP at a3; omega)
                        refine lv_aload_n hx hb d_M_plug_97 rfl (lv_at hl 0 rfl) ?_
                        refine ai_iconst hx hb d_M_plug_98 ?_
                        refine va_put (D := D) (cl := CL) (ci := 10) (v := .int (iI 2)) (ty := .int) (C := "DayBookModel") (T := T_M) (N := 19) hx hb hts in_M ty_M ty_M_ok nm_M hown hK hP hD hS 0 rfl rfl 0 (by decide) (hts _ k_946) (fun _ h9 => h9) rfl (by decide +kernel) rfl rfl (Nat.le_of_ble_eq_true rfl) d_M_plug_99 (fun H locs hP hD hS => ?_)
                        have hP : va_P D CL (MWs a ad cx (upF (upF F 0 0) 0 2) g) H := hP
                        have hD : va_D (Ain a ad) (MWs a ad cx (upF (upF F 0 0) 0 2) g) := hD
                        refine ai_iconst hx hb d_M_plug_102 ?_
                        exact mw_zret hx hb hr hlk d_M_plug_103 hP hS (ro_0 (fun q => by omega) rfl) ⟨et.symm, rfl, Or.inl ⟨by omega, rfl, hca⟩⟩
                      · skip
                        refine lv_iload hx hb d_M_plug_78 (lv_at hl 5 rfl) ?_
                        refine lv_iload hx hb d_M_plug_80 (lv_at hl 7 rfl) ?_
                        refine ai_icmp_gt hx hb d_M_plug_82 rfl (by omega) (by omega) (fun h82 => ?_) (fun h82 => ?_)
                        · skip
                          have et : tc = 2 := by rcases htp with a1 | ⟨a1, a2, a3⟩ | ⟨a1, a2, a3⟩; omega; exact a1; (unfold okP at a3; omega)
                          refine lv_aload_n hx hb d_M_plug_97 rfl (lv_at hl 0 rfl) ?_
                          refine ai_iconst hx hb d_M_plug_98 ?_
                          refine va_put (D := D) (cl := CL) (ci := 10) (v := .int (iI 2)) (ty := .int) (C := "DayBookModel") (T := T_M) (N := 19) hx hb hts in_M ty_M ty_M_ok nm_M hown hK hP hD hS 0 rfl rfl 0 (by decide) (hts _ k_946) (fun _ h9 => h9) rfl (by decide +kernel) rfl rfl (Nat.le_of_ble_eq_true rfl) d_M_plug_99 (fun H locs hP hD hS => ?_)
                          have hP : va_P D CL (MWs a ad cx (upF (upF F 0 0) 0 2) g) H := hP
                          have hD : va_D (Ain a ad) (MWs a ad cx (upF (upF F 0 0) 0 2) g) := hD
                          refine ai_iconst hx hb d_M_plug_102 ?_
                          exact mw_zret hx hb hr hlk d_M_plug_103 hP hS (ro_0 (fun q => by omega) rfl) ⟨et.symm, rfl, Or.inl ⟨by omega, rfl, hca⟩⟩
                        · skip
                          refine lv_iload hx hb d_M_plug_85 (lv_at hl 6 rfl) ?_
                          refine ai_if_lt hx hb d_M_plug_87 rfl (by omega) (fun h87 => ?_) (fun h87 => ?_)
                          · skip
                            have et : tc = 2 := by rcases htp with a1 | ⟨a1, a2, a3⟩ | ⟨a1, a2, a3⟩; omega; exact a1; (unfold okP at a3; omega)
                            refine lv_aload_n hx hb d_M_plug_97 rfl (lv_at hl 0 rfl) ?_
                            refine ai_iconst hx hb d_M_plug_98 ?_
                            refine va_put (D := D) (cl := CL) (ci := 10) (v := .int (iI 2)) (ty := .int) (C := "DayBookModel") (T := T_M) (N := 19) hx hb hts in_M ty_M ty_M_ok nm_M hown hK hP hD hS 0 rfl rfl 0 (by decide) (hts _ k_946) (fun _ h9 => h9) rfl (by decide +kernel) rfl rfl (Nat.le_of_ble_eq_true rfl) d_M_plug_99 (fun H locs hP hD hS => ?_)
                            have hP : va_P D CL (MWs a ad cx (upF (upF F 0 0) 0 2) g) H := hP
                            have hD : va_D (Ain a ad) (MWs a ad cx (upF (upF F 0 0) 0 2) g) := hD
                            refine ai_iconst hx hb d_M_plug_102 ?_
                            exact mw_zret hx hb hr hlk d_M_plug_103 hP hS (ro_0 (fun q => by omega) rfl) ⟨et.symm, rfl, Or.inl ⟨by omega, rfl, hca⟩⟩
                          · skip
                            refine lv_iload hx hb d_M_plug_90 (lv_at hl 6 rfl) ?_
                            refine lv_iload hx hb d_M_plug_92 (lv_at hl 7 rfl) ?_
                            refine ai_icmp_lt hx hb d_M_plug_94 rfl (by omega) (by omega) (fun h94 => ?_) (fun h94 => ?_)
                            · skip
                              have hok : okP mo le ep ra rb rc := by unfold okP; omega
                              have et : tc = 0 := by rcases htp with a1 | ⟨a1, a2, a3⟩ | ⟨a1, a2, a3⟩; omega; exact absurd hok a3; exact a1
                              have h2k := (hv.2 (Int.toNat k) (by omega)).1
                              refine lv_aload_n hx hb d_M_plug_104 rfl (lv_at hl 0 rfl) ?_
                              refine va_get (D := D) (cl := CL) (ci := 10) (v := .ref (ad 2)) (C := "DayBookModel") (T := T_M) (N := 19) hx hb hts in_M hown hK hP 0 rfl rfl 3 (by decide) (hts _ k_949) (fun _ h9 => h9) rfl d_M_plug_105 ?_
                              refine lv_iload_n hx hb d_M_plug_108 rfl (lv_at hl 1 rfl) ?_
                              refine ma_zld hx hb hK hP 3 2 rfl rfl (h := g 2) (by omega) (by decide) d_M_plug_109 ?_
                              refine ai_nmI hx hb (fun v110 e110 => ?_)
                              refine lv_istore (lv' := [(8, .int (iI v110)), (0, .ref a), (1, .int (iI k)), (2, .int (iI mo)), (3, .int (iI le)), (4, .int (iI ep)), (5, .int (iI ra)), (6, .int (iI rb)), (7, .int (iI rc))]) hx hb d_M_plug_110 hl (by decide) rfl (fun ls hl => ?_)
                              refine lv_aload_n hx hb d_M_plug_112 rfl (lv_at hl 1 rfl) ?_
                              refine va_get (D := D) (cl := CL) (ci := 10) (v := .ref (ad 2)) (C := "DayBookModel") (T := T_M) (N := 19) hx hb hts in_M hown hK hP 0 rfl rfl 3 (by decide) (hts _ k_949) (fun _ h9 => h9) rfl d_M_plug_113 ?_
                              refine lv_iload_n hx hb d_M_plug_116 rfl (lv_at hl 2 rfl) ?_
                              refine ai_iconst hx hb d_M_plug_117 ?_
                              refine ma_zst hx hb hK hP hD hS 3 2 rfl rfl (h := g 2) (v := 1) (by omega) (by decide) (by omega) d_M_plug_118 (fun H locs hP hD hS => ?_)
                              have hP : va_P D CL (MWs a ad cx (upF F 0 0) (upG g 2 (Int.toNat k) 1)) H := hP
                              have hD : va_D (Ain a ad) (MWs a ad cx (upF F 0 0) (upG g 2 (Int.toNat k) 1)) := hD
                              refine lv_aload_n hx hb d_M_plug_119 rfl (lv_at hl 1 rfl) ?_
                              refine va_get (D := D) (cl := CL) (ci := 10) (v := .ref (ad 3)) (C := "DayBookModel") (T := T_M) (N := 19) hx hb hts in_M hown hK hP 0 rfl rfl 4 (by decide) (hts _ k_950) (fun _ h9 => h9) rfl d_M_plug_120 ?_
                              refine lv_iload_n hx hb d_M_plug_123 rfl (lv_at hl 2 rfl) ?_
                              refine lv_iload_n hx hb d_M_plug_124 rfl (lv_at hl 3 rfl) ?_
                              refine ma_ist hx hb hK hP hD hS 4 0 rfl rfl (h := (upG g 2 (Int.toNat k) 1) 3) (v := mo) (by omega) (by decide) d_M_plug_125 (fun H locs hP hD hS => ?_)
                              have hP : va_P D CL (MWs a ad cx (upF F 0 0) (upG (upG g 2 (Int.toNat k) 1) 3 (Int.toNat k) mo)) H := hP
                              have hD : va_D (Ain a ad) (MWs a ad cx (upF F 0 0) (upG (upG g 2 (Int.toNat k) 1) 3 (Int.toNat k) mo)) := hD
                              refine lv_aload_n hx hb d_M_plug_126 rfl (lv_at hl 1 rfl) ?_
                              refine va_get (D := D) (cl := CL) (ci := 10) (v := .ref (ad 4)) (C := "DayBookModel") (T := T_M) (N := 19) hx hb hts in_M hown hK hP 0 rfl rfl 5 (by decide) (hts _ k_951) (fun _ h9 => h9) rfl d_M_plug_127 ?_
                              refine lv_iload_n hx hb d_M_plug_130 rfl (lv_at hl 2 rfl) ?_
                              refine lv_iload_n hx hb d_M_plug_131 rfl (lv_at hl 4 rfl) ?_
                              refine ma_ist hx hb hK hP hD hS 5 0 rfl rfl (h := (upG (upG g 2 (Int.toNat k) 1) 3 (Int.toNat k) mo) 4) (v := le) (by omega) (by decide) d_M_plug_132 (fun H locs hP hD hS => ?_)
                              have hP : va_P D CL (MWs a ad cx (upF F 0 0) (upG (upG (upG g 2 (Int.toNat k) 1) 3 (Int.toNat k) mo) 4 (Int.toNat k) le)) H := hP
                              have hD : va_D (Ain a ad) (MWs a ad cx (upF F 0 0) (upG (upG (upG g 2 (Int.toNat k) 1) 3 (Int.toNat k) mo) 4 (Int.toNat k) le)) := hD
                              refine lv_aload_n hx hb d_M_plug_133 rfl (lv_at hl 1 rfl) ?_
                              refine va_get (D := D) (cl := CL) (ci := 10) (v := .ref (ad 5)) (C := "DayBookModel") (T := T_M) (N := 19) hx hb hts in_M hown hK hP 0 rfl rfl 6 (by decide) (hts _ k_952) (fun _ h9 => h9) rfl d_M_plug_134 ?_
                              refine lv_iload_n hx hb d_M_plug_137 rfl (lv_at hl 2 rfl) ?_
                              refine lv_iload hx hb d_M_plug_138 (lv_at hl 5 rfl) ?_
                              refine ma_ist hx hb hK hP hD hS 6 0 rfl rfl (h := (upG (upG (upG g 2 (Int.toNat k) 1) 3 (Int.toNat k) mo) 4 (Int.toNat k) le) 5) (v := ep) (by omega) (by decide) d_M_plug_140 (fun H locs hP hD hS => ?_)
                              have hP : va_P D CL (MWs a ad cx (upF F 0 0) (upG (upG (upG (upG g 2 (Int.toNat k) 1) 3 (Int.toNat k) mo) 4 (Int.toNat k) le) 5 (Int.toNat k) ep)) H := hP
                              have hD : va_D (Ain a ad) (MWs a ad cx (upF F 0 0) (upG (upG (upG (upG g 2 (Int.toNat k) 1) 3 (Int.toNat k) mo) 4 (Int.toNat k) le) 5 (Int.toNat k) ep)) := hD
                              refine lv_aload_n hx hb d_M_plug_141 rfl (lv_at hl 1 rfl) ?_
                              refine va_get (D := D) (cl := CL) (ci := 10) (v := .ref (ad 6)) (C := "DayBookModel") (T := T_M) (N := 19) hx hb hts in_M hown hK hP 0 rfl rfl 7 (by decide) (hts _ k_953) (fun _ h9 => h9) rfl d_M_plug_142 ?_
                              refine lv_iload_n hx hb d_M_plug_145 rfl (lv_at hl 2 rfl) ?_
                              refine lv_iload hx hb d_M_plug_146 (lv_at hl 6 rfl) ?_
                              refine ma_ist hx hb hK hP hD hS 7 0 rfl rfl (h := (upG (upG (upG (upG g 2 (Int.toNat k) 1) 3 (Int.toNat k) mo) 4 (Int.toNat k) le) 5 (Int.toNat k) ep) 6) (v := ra) (by omega) (by decide) d_M_plug_148 (fun H locs hP hD hS => ?_)
                              have hP : va_P D CL (MWs a ad cx (upF F 0 0) (upG (upG (upG (upG (upG g 2 (Int.toNat k) 1) 3 (Int.toNat k) mo) 4 (Int.toNat k) le) 5 (Int.toNat k) ep) 6 (Int.toNat k) ra)) H := hP
                              have hD : va_D (Ain a ad) (MWs a ad cx (upF F 0 0) (upG (upG (upG (upG (upG g 2 (Int.toNat k) 1) 3 (Int.toNat k) mo) 4 (Int.toNat k) le) 5 (Int.toNat k) ep) 6 (Int.toNat k) ra)) := hD
                              refine lv_aload_n hx hb d_M_plug_149 rfl (lv_at hl 1 rfl) ?_
                              refine va_get (D := D) (cl := CL) (ci := 10) (v := .ref (ad 7)) (C := "DayBookModel") (T := T_M) (N := 19) hx hb hts in_M hown hK hP 0 rfl rfl 8 (by decide) (hts _ k_954) (fun _ h9 => h9) rfl d_M_plug_150 ?_
                              refine lv_iload_n hx hb d_M_plug_153 rfl (lv_at hl 2 rfl) ?_
                              refine lv_iload hx hb d_M_plug_154 (lv_at hl 7 rfl) ?_
                              refine ma_ist hx hb hK hP hD hS 8 0 rfl rfl (h := (upG (upG (upG (upG (upG g 2 (Int.toNat k) 1) 3 (Int.toNat k) mo) 4 (Int.toNat k) le) 5 (Int.toNat k) ep) 6 (Int.toNat k) ra) 7) (v := rb) (by omega) (by decide) d_M_plug_156 (fun H locs hP hD hS => ?_)
                              have hP : va_P D CL (MWs a ad cx (upF F 0 0) (upG (upG (upG (upG (upG (upG g 2 (Int.toNat k) 1) 3 (Int.toNat k) mo) 4 (Int.toNat k) le) 5 (Int.toNat k) ep) 6 (Int.toNat k) ra) 7 (Int.toNat k) rb)) H := hP
                              have hD : va_D (Ain a ad) (MWs a ad cx (upF F 0 0) (upG (upG (upG (upG (upG (upG g 2 (Int.toNat k) 1) 3 (Int.toNat k) mo) 4 (Int.toNat k) le) 5 (Int.toNat k) ep) 6 (Int.toNat k) ra) 7 (Int.toNat k) rb)) := hD
                              refine lv_aload_n hx hb d_M_plug_157 rfl (lv_at hl 1 rfl) ?_
                              refine va_get (D := D) (cl := CL) (ci := 10) (v := .ref (ad 8)) (C := "DayBookModel") (T := T_M) (N := 19) hx hb hts in_M hown hK hP 0 rfl rfl 9 (by decide) (hts _ k_955) (fun _ h9 => h9) rfl d_M_plug_158 ?_
                              refine lv_iload_n hx hb d_M_plug_161 rfl (lv_at hl 2 rfl) ?_
                              refine lv_iload hx hb d_M_plug_162 (lv_at hl 8 rfl) ?_
                              refine ma_ist hx hb hK hP hD hS 9 0 rfl rfl (h := (upG (upG (upG (upG (upG (upG g 2 (Int.toNat k) 1) 3 (Int.toNat k) mo) 4 (Int.toNat k) le) 5 (Int.toNat k) ep) 6 (Int.toNat k) ra) 7 (Int.toNat k) rb) 8) (v := rc) (by omega) (by decide) d_M_plug_164 (fun H locs hP hD hS => ?_)
                              have hP : va_P D CL (MWs a ad cx (upF F 0 0) (upG (upG (upG (upG (upG (upG (upG g 2 (Int.toNat k) 1) 3 (Int.toNat k) mo) 4 (Int.toNat k) le) 5 (Int.toNat k) ep) 6 (Int.toNat k) ra) 7 (Int.toNat k) rb) 8 (Int.toNat k) rc)) H := hP
                              have hD : va_D (Ain a ad) (MWs a ad cx (upF F 0 0) (upG (upG (upG (upG (upG (upG (upG g 2 (Int.toNat k) 1) 3 (Int.toNat k) mo) 4 (Int.toNat k) le) 5 (Int.toNat k) ep) 6 (Int.toNat k) ra) 7 (Int.toNat k) rb) 8 (Int.toNat k) rc)) := hD
                              refine lv_aload_n hx hb d_M_plug_165 rfl (lv_at hl 1 rfl) ?_
                              refine va_get (D := D) (cl := CL) (ci := 10) (v := .ref (ad 0)) (C := "DayBookModel") (T := T_M) (N := 19) hx hb hts in_M hown hK hP 0 rfl rfl 1 (by decide) (hts _ k_947) (fun _ h9 => h9) rfl d_M_plug_166 ?_
                              refine ai_bipush (x := 12) hx hb d_M_plug_169 (by decide +kernel) ?_
                              refine lv_iload_n hx hb d_M_plug_171 rfl (lv_at hl 2 rfl) ?_
                              refine ai_iadd hx hb d_M_plug_172 ?_
                              refine lv_iload hx hb d_M_plug_173 (lv_at hl 8 rfl) ?_
                              refine ma_ist hx hb hK hP hD hS 1 0 rfl rfl (h := (upG (upG (upG (upG (upG (upG (upG g 2 (Int.toNat k) 1) 3 (Int.toNat k) mo) 4 (Int.toNat k) le) 5 (Int.toNat k) ep) 6 (Int.toNat k) ra) 7 (Int.toNat k) rb) 8 (Int.toNat k) rc) 0) (v := rc) (by omega) (by decide) d_M_plug_175 (fun H locs hP hD hS => ?_)
                              have hP : va_P D CL (MWs a ad cx (upF F 0 0) (upG (upG (upG (upG (upG (upG (upG (upG g 2 (Int.toNat k) 1) 3 (Int.toNat k) mo) 4 (Int.toNat k) le) 5 (Int.toNat k) ep) 6 (Int.toNat k) ra) 7 (Int.toNat k) rb) 8 (Int.toNat k) rc) 0 (Int.toNat (12 + k)) rc)) H := hP
                              have hD : va_D (Ain a ad) (MWs a ad cx (upF F 0 0) (upG (upG (upG (upG (upG (upG (upG (upG g 2 (Int.toNat k) 1) 3 (Int.toNat k) mo) 4 (Int.toNat k) le) 5 (Int.toNat k) ep) 6 (Int.toNat k) ra) 7 (Int.toNat k) rb) 8 (Int.toNat k) rc) 0 (Int.toNat (12 + k)) rc)) := hD
                              refine lv_aload_n hx hb d_M_plug_176 rfl (lv_at hl 1 rfl) ?_
                              refine ai_bipush (x := 12) hx hb d_M_plug_177 (by decide +kernel) ?_
                              refine lv_iload_n hx hb d_M_plug_179 rfl (lv_at hl 2 rfl) ?_
                              refine ai_iadd hx hb d_M_plug_180 ?_
                              refine mw_v (rest := []) (ct_M_countCycle l D a ad cx (upF F 0 0) (upG (upG (upG (upG (upG (upG (upG (upG g 2 (Int.toNat k) 1) 3 (Int.toNat k) mo) 4 (Int.toNat k) le) 5 (Int.toNat k) ep) 6 (Int.toNat k) ra) 7 (Int.toNat k) rb) 8 (Int.toNat k) rc) 0 (Int.toNat (12 + k)) rc) (12 + k) (by omega) (by show 0 ≤ plg g k mo le ep ra rb rc 0 (Int.toNat (12 + k)) ∧ plg g k mo le ep ra rb rc 0 (Int.toNat (12 + k)) ≤ 4000; rw [plg_at.2.2.2.2.2.2.2]; omega) (Or.inr (by omega)) (fun _ => plg_own (g := g) (by omega) hok)) j_M_countCycle k_907 s_M_countCycle hF hK hP hD hS (fun _ h => h) rfl hl.1 rfl ⟨Nat.le_of_ble_eq_true rfl, Nat.le_of_ble_eq_true rfl⟩ (Nat.le_of_ble_eq_true rfl) d_M_plug_181 ⟨Nat.zero_le _, Nat.zero_le _⟩ (fun u181 H locs hΦ181 hP hS => ?_)
                              subst hΦ181
                              have hP : va_P D CL (MWs a ad cx (upF F 0 0) (upG (upG (upG (upG (upG (upG (upG (upG (upG g 2 (Int.toNat k) 1) 3 (Int.toNat k) mo) 4 (Int.toNat k) le) 5 (Int.toNat k) ep) 6 (Int.toNat k) ra) 7 (Int.toNat k) rb) 8 (Int.toNat k) rc) 0 (Int.toNat (12 + k)) rc) 1 (Int.toNat (12 + k)) (ys 0 (plM (upG (upG (upG (upG (upG (upG (upG (upG g 2 (Int.toNat k) 1) 3 (Int.toNat k) mo) 4 (Int.toNat k) le) 5 (Int.toNat k) ep) 6 (Int.toNat k) ra) 7 (Int.toNat k) rb) 8 (Int.toNat k) rc) 0 (Int.toNat (12 + k)) rc) (12 + k)) (lbM (upG (upG (upG (upG (upG (upG (upG (upG g 2 (Int.toNat k) 1) 3 (Int.toNat k) mo) 4 (Int.toNat k) le) 5 (Int.toNat k) ep) 6 (Int.toNat k) ra) 7 (Int.toNat k) rb) 8 (Int.toNat k) rc) 0 (Int.toNat (12 + k)) rc) (12 + k)) ((upG (upG (upG (upG (upG (upG (upG (upG g 2 (Int.toNat k) 1) 3 (Int.toNat k) mo) 4 (Int.toNat k) le) 5 (Int.toNat k) ep) 6 (Int.toNat k) ra) 7 (Int.toNat k) rb) 8 (Int.toNat k) rc) 0 (Int.toNat (12 + k)) rc) 0 (Int.toNat (12 + k)) + 1)))) H := hP
                              have hD : va_D (Ain a ad) (MWs a ad cx (upF F 0 0) (upG (upG (upG (upG (upG (upG (upG (upG (upG g 2 (Int.toNat k) 1) 3 (Int.toNat k) mo) 4 (Int.toNat k) le) 5 (Int.toNat k) ep) 6 (Int.toNat k) ra) 7 (Int.toNat k) rb) 8 (Int.toNat k) rc) 0 (Int.toNat (12 + k)) rc) 1 (Int.toNat (12 + k)) (ys 0 (plM (upG (upG (upG (upG (upG (upG (upG (upG g 2 (Int.toNat k) 1) 3 (Int.toNat k) mo) 4 (Int.toNat k) le) 5 (Int.toNat k) ep) 6 (Int.toNat k) ra) 7 (Int.toNat k) rb) 8 (Int.toNat k) rc) 0 (Int.toNat (12 + k)) rc) (12 + k)) (lbM (upG (upG (upG (upG (upG (upG (upG (upG g 2 (Int.toNat k) 1) 3 (Int.toNat k) mo) 4 (Int.toNat k) le) 5 (Int.toNat k) ep) 6 (Int.toNat k) ra) 7 (Int.toNat k) rb) 8 (Int.toNat k) rc) 0 (Int.toNat (12 + k)) rc) (12 + k)) ((upG (upG (upG (upG (upG (upG (upG (upG g 2 (Int.toNat k) 1) 3 (Int.toNat k) mo) 4 (Int.toNat k) le) 5 (Int.toNat k) ep) 6 (Int.toNat k) ra) 7 (Int.toNat k) rb) 8 (Int.toNat k) rc) 0 (Int.toNat (12 + k)) rc) 0 (Int.toNat (12 + k)) + 1)))) := MD.any hD
                              refine lv_aload_n hx hb d_M_plug_184 rfl (lv_at hl 1 rfl) ?_
                              refine ai_ldc (x := -2147483648) hx hb hown (hts _ k_906) (by decide +kernel) d_M_plug_185 ?_
                              refine va_put (D := D) (cl := CL) (ci := 10) (v := .int (iI (-2147483648))) (ty := .int) (C := "DayBookModel") (T := T_M) (N := 19) hx hb hts in_M ty_M ty_M_ok nm_M hown hK hP hD hS 0 rfl rfl 10 (by decide) (hts _ k_956) (fun _ h9 => h9) rfl (by decide +kernel) rfl rfl (Nat.le_of_ble_eq_true rfl) d_M_plug_187 (fun H locs hP hD hS => ?_)
                              have hP : va_P D CL (MWs a ad cx (upF (upF F 0 0) 1 (-2147483648)) (upG (upG (upG (upG (upG (upG (upG (upG (upG g 2 (Int.toNat k) 1) 3 (Int.toNat k) mo) 4 (Int.toNat k) le) 5 (Int.toNat k) ep) 6 (Int.toNat k) ra) 7 (Int.toNat k) rb) 8 (Int.toNat k) rc) 0 (Int.toNat (12 + k)) rc) 1 (Int.toNat (12 + k)) (ys 0 (plM (upG (upG (upG (upG (upG (upG (upG (upG g 2 (Int.toNat k) 1) 3 (Int.toNat k) mo) 4 (Int.toNat k) le) 5 (Int.toNat k) ep) 6 (Int.toNat k) ra) 7 (Int.toNat k) rb) 8 (Int.toNat k) rc) 0 (Int.toNat (12 + k)) rc) (12 + k)) (lbM (upG (upG (upG (upG (upG (upG (upG (upG g 2 (Int.toNat k) 1) 3 (Int.toNat k) mo) 4 (Int.toNat k) le) 5 (Int.toNat k) ep) 6 (Int.toNat k) ra) 7 (Int.toNat k) rb) 8 (Int.toNat k) rc) 0 (Int.toNat (12 + k)) rc) (12 + k)) ((upG (upG (upG (upG (upG (upG (upG (upG g 2 (Int.toNat k) 1) 3 (Int.toNat k) mo) 4 (Int.toNat k) le) 5 (Int.toNat k) ep) 6 (Int.toNat k) ra) 7 (Int.toNat k) rb) 8 (Int.toNat k) rc) 0 (Int.toNat (12 + k)) rc) 0 (Int.toNat (12 + k)) + 1)))) H := hP
                              have hD : va_D (Ain a ad) (MWs a ad cx (upF (upF F 0 0) 1 (-2147483648)) (upG (upG (upG (upG (upG (upG (upG (upG (upG g 2 (Int.toNat k) 1) 3 (Int.toNat k) mo) 4 (Int.toNat k) le) 5 (Int.toNat k) ep) 6 (Int.toNat k) ra) 7 (Int.toNat k) rb) 8 (Int.toNat k) rc) 0 (Int.toNat (12 + k)) rc) 1 (Int.toNat (12 + k)) (ys 0 (plM (upG (upG (upG (upG (upG (upG (upG (upG g 2 (Int.toNat k) 1) 3 (Int.toNat k) mo) 4 (Int.toNat k) le) 5 (Int.toNat k) ep) 6 (Int.toNat k) ra) 7 (Int.toNat k) rb) 8 (Int.toNat k) rc) 0 (Int.toNat (12 + k)) rc) (12 + k)) (lbM (upG (upG (upG (upG (upG (upG (upG (upG g 2 (Int.toNat k) 1) 3 (Int.toNat k) mo) 4 (Int.toNat k) le) 5 (Int.toNat k) ep) 6 (Int.toNat k) ra) 7 (Int.toNat k) rb) 8 (Int.toNat k) rc) 0 (Int.toNat (12 + k)) rc) (12 + k)) ((upG (upG (upG (upG (upG (upG (upG (upG g 2 (Int.toNat k) 1) 3 (Int.toNat k) mo) 4 (Int.toNat k) le) 5 (Int.toNat k) ep) 6 (Int.toNat k) ra) 7 (Int.toNat k) rb) 8 (Int.toNat k) rc) 0 (Int.toNat (12 + k)) rc) 0 (Int.toNat (12 + k)) + 1)))) := hD
                              refine lv_iload hx hb d_M_plug_190 (lv_at hl 0 rfl) ?_
                              exact mw_zret hx hb hr hlk d_M_plug_192 hP hS (by by_cases q : g 2 (Int.toNat k) = 1; rw [bI_t ⟨et, q⟩, e110, q]; rw [bI_f (fun z => q z.2), e110]; omega) ⟨et.symm, rfl, Or.inr ⟨et, rfl, rfl⟩⟩
                            · skip
                              have et : tc = 2 := by rcases htp with a1 | ⟨a1, a2, a3⟩ | ⟨a1, a2, a3⟩; omega; exact a1; (unfold okP at a3; omega)
                              refine lv_aload_n hx hb d_M_plug_97 rfl (lv_at hl 0 rfl) ?_
                              refine ai_iconst hx hb d_M_plug_98 ?_
                              refine va_put (D := D) (cl := CL) (ci := 10) (v := .int (iI 2)) (ty := .int) (C := "DayBookModel") (T := T_M) (N := 19) hx hb hts in_M ty_M ty_M_ok nm_M hown hK hP hD hS 0 rfl rfl 0 (by decide) (hts _ k_946) (fun _ h9 => h9) rfl (by decide +kernel) rfl rfl (Nat.le_of_ble_eq_true rfl) d_M_plug_99 (fun H locs hP hD hS => ?_)
                              have hP : va_P D CL (MWs a ad cx (upF (upF F 0 0) 0 2) g) H := hP
                              have hD : va_D (Ain a ad) (MWs a ad cx (upF (upF F 0 0) 0 2) g) := hD
                              refine ai_iconst hx hb d_M_plug_102 ?_
                              exact mw_zret hx hb hr hlk d_M_plug_103 hP hS (ro_0 (fun q => by omega) rfl) ⟨et.symm, rfl, Or.inl ⟨by omega, rfl, hca⟩⟩
    · skip
      have et : tc = 1 := by omega
      refine lv_aload_n hx hb d_M_plug_14 rfl (lv_at hl 0 rfl) ?_
      refine ai_iconst hx hb d_M_plug_15 ?_
      refine va_put (D := D) (cl := CL) (ci := 10) (v := .int (iI 1)) (ty := .int) (C := "DayBookModel") (T := T_M) (N := 19) hx hb hts in_M ty_M ty_M_ok nm_M hown hK hP hD hS 0 rfl rfl 0 (by decide) (hts _ k_946) (fun _ h9 => h9) rfl (by decide +kernel) rfl rfl (Nat.le_of_ble_eq_true rfl) d_M_plug_16 (fun H locs hP hD hS => ?_)
      have hP : va_P D CL (MWs a ad cx (upF (upF F 0 0) 0 1) g) H := hP
      have hD : va_D (Ain a ad) (MWs a ad cx (upF (upF F 0 0) 0 1) g) := hD
      refine ai_iconst hx hb d_M_plug_19 ?_
      exact mw_zret hx hb hr hlk d_M_plug_20 hP hS (ro_0 (fun q => by omega) rfl) ⟨et.symm, rfl, Or.inl ⟨by omega, rfl, hca⟩⟩
