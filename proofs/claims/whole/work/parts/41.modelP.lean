/-! 41.modelP: laid by program (wip/whole) -/
def RDM (g : Nat → Nat → Int) (z cal s1 s2 n1 n2 n3 r tc x : Int) : Prop := SLM (g 9) z 0 s1 ∧ SLM (g 9) z (s1 + 1) s2 ∧ NIM (g 9) 0 s1 n1 ∧ ((s1 < z ∧ NIM (g 9) (s1 + 1) s2 n2) ∨ (z ≤ s1 ∧ n2 = -2147483648)) ∧ ((s2 < z ∧ NIM (g 9) (s2 + 1) z n3) ∨ (z ≤ s2 ∧ n3 = -2147483648)) ∧ ((((n1 ≠ -2147483648 ∧ n2 ≠ -2147483648 ∧ n3 ≠ -2147483648) ∧ -100000 ≤ n1 ∧ n1 ≤ 100000) ∧ DOM g cal n1 n2 n3 r) ∨ (¬ ((n1 ≠ -2147483648 ∧ n2 ≠ -2147483648 ∧ n3 ≠ -2147483648) ∧ -100000 ≤ n1 ∧ n1 ≤ 100000) ∧ r = -9223372036854775808)) ∧ ((tc = 2 ∧ x = 0 ∧ (r = -9223372036854775808 ∨ ¬ (-40000000 ≤ r ∧ r ≤ 40000000))) ∨ (tc = 0 ∧ x = r ∧ r ≠ -9223372036854775808 ∧ (-40000000 ≤ r ∧ r ≤ 40000000)))
theorem NIM.rng {g : Nat → Nat → Int} {fr to x : Int} (h : NIM (g 9) fr to x) (hc : ChOK g) (hf : 0 ≤ fr) (ht : to ≤ 24) : x = -2147483648 ∨ (-10000000 ≤ x ∧ x ≤ 10000000) := by
  rcases h with ⟨⟨h1, h2⟩, h3⟩ | ⟨-, h⟩
  · right
    have hb : fr ≤ bgM (g 9) fr to := by unfold bgM; have := bI_01 (fr < to ∧ g 9 (Int.toNat fr) = 45); omega
    obtain ⟨o1, o2, -⟩ := h1
    have q := vlM_rng (r := g 9) (b := Int.toNat (bgM (g 9) fr to)) hc (Int.toNat (to - bgM (g 9) fr to)) (by omega) (by omega) (fun i hi => by
      have := h2 (bgM (g 9) fr to + i) (by omega) (by omega)
      rw [show Int.toNat (bgM (g 9) fr to + i) = Int.toNat (bgM (g 9) fr to) + i by omega] at this
      exact this)
    have q2 := p10_7 (Int.toNat (to - bgM (g 9) fr to)) (by omega)
    rw [h3]
    split <;> omega
  · exact Or.inl h
theorem SLM.rng {r : Nat → Int} {z fr x : Int} (h : SLM r z fr x) : fr ≤ x ∧ (x ≤ fr ∨ x ≤ z) := by
  refine ⟨h.2.1, ?_⟩
  by_cases q : x ≤ fr
  · exact Or.inl q
  · have := (h.1 (x - 1) (by omega) (by omega)).1
    omega
set_option maxHeartbeats 4000000 in
set_option maxRecDepth 100000 in
theorem ct_M_read (l : Launch) (D : va_G) (a : Nat) (ad : Nat → Nat) (cx : Nat → ClassId) (F : Nat → Int) (g : Nat → Nat → Int) (cal : Int) (tc : Int) (x : Int) (s1 : Int) (s2 : Int) (n1 : Int) (n2 : Int) (n3 : Int) (r : Int) (hv : MInv g) (hca : CacheOK F g) (hch : ChOK g) (rz : 0 ≤ F 8 ∧ F 8 ≤ 24) (rc : -2147483648 ≤ cal ∧ cal ≤ 2147483647) (rr : -9223372036854775808 ≤ r ∧ r ≤ 9223372036854775807) (hre : (tc = 1 ∧ ¬ hcM g cal ∧ x = 0) ∨ (hcM g cal ∧ RDM g (F 8) cal s1 s2 n1 n2 n3 r tc x)) : MW l y_M_read w_M_read 11 283 [.ref a, .int (iI cal)] D a ad cx F g (QMi D a ad cx x (fun u => u.2 = g ∧ u.1 0 = tc ∧ u.1 8 = F 8 ∧ CacheOK u.1 g)) := by
  refine mw_of (by decide +kernel) (Nat.le_of_ble_eq_true rfl) ?_
  intro p e s m below meth c ls hx hb hr hts hown hlk hml hl hN hK hP hD
  have hown : s.vm.findClass "DayBookModel" = some m.cls := hown
  have hl : lv_has ls 10 [(0, .ref a), (1, .int (iI cal))] := hl
  have hF : _ ∧ _ ∧ _ ∧ _ ∧ _ ∧ _ := ⟨hx, hb, hml, hown, hts, hN⟩
  have hS : va_S (Ain a ad) s.heap s.heap [] := va_S.rf
  refine lv_aload_n hx hb d_M_read_0 rfl (lv_at hl 0 rfl) ?_
  refine lv_aload_n hx hb d_M_read_1 rfl (lv_at hl 0 rfl) ?_
  refine lv_iload_n hx hb d_M_read_2 rfl (lv_at hl 1 rfl) ?_
  refine ro_V (rest := [.ref a]) (ct_M_hasCalendar l D a ad cx F g cal hv (by omega)) j_M_hasCalendar k_1021 (hts _ s_M_hasCalendar) hF (va_recv (q0 := 0) (ci := 10) hK hP rfl rfl) rfl hl.1 rfl ⟨Nat.le_of_ble_eq_true rfl, Nat.le_of_ble_eq_true rfl⟩ (Nat.le_of_ble_eq_true rfl) d_M_read_3 ⟨Nat.zero_le _, Nat.zero_le _⟩ MdB.m (fun U h1 h2 => ⟨va_K.moved h2.alike hK, by rw [h1]; exact hP⟩) ?_
  refine ai_ifeqB hx hb d_M_read_6 rfl (fun h6 => ?_) (fun h6 => ?_)
  · skip
    obtain ⟨et, ex⟩ : tc = 1 ∧ x = 0 := by rcases hre with ⟨a1, a2, a3⟩ | ⟨a1, a2⟩; exact ⟨a1, a3⟩; exact absurd a1 h6
    refine ai_iconst hx hb d_M_read_13 ?_
    refine va_put (D := D) (cl := CL) (ci := 10) (v := .int (iI 1)) (ty := .int) (C := "DayBookModel") (T := T_M) (N := 19) hx hb hts in_M ty_M ty_M_ok nm_M hown hK hP hD hS 0 rfl rfl 0 (by decide) (hts _ k_946) (fun _ h9 => h9) rfl (by decide +kernel) rfl rfl (Nat.le_of_ble_eq_true rfl) d_M_read_14 (fun H locs hP hD hS => ?_)
    have hP : va_P D CL (MWs a ad cx (upF F 0 1) g) H := hP
    have hD : va_D (Ain a ad) (MWs a ad cx (upF F 0 1) g) := hD
    refine lv_aload_n hx hb d_M_read_17 rfl (lv_at hl 0 rfl) ?_
    refine va_get (D := D) (cl := CL) (ci := 10) (v := .int (iI 1)) (C := "DayBookModel") (T := T_M) (N := 19) hx hb hts in_M hown hK hP 0 rfl rfl 0 (by decide) (hts _ k_946) (fun _ h9 => h9) rfl d_M_read_18 ?_
    refine ai_if_le hx hb d_M_read_21 rfl (by omega) (fun h21 => by exfalso; omega) (fun h21 => ?_)
    refine ai_iconst hx hb d_M_read_24 ?_
    exact mw_iret hx hb hr hlk d_M_read_25 hP hS ex.symm ⟨rfl, et.symm, rfl, hca⟩
  · skip
    have hc_ := h6
    obtain ⟨sl1, sl2, ni1, hn2, hn3, hdd, hfin⟩ : RDM g (F 8) cal s1 s2 n1 n2 n3 r tc x := (hre.resolve_left (fun q => q.2.1 h6)).2
    have b1 := sl1.rng
    have b2 := sl2.rng
    have b3 := ni1.rng hch (by decide) (by omega)
    refine ai_iconst hx hb d_M_read_9 ?_
    refine lv_goto hx hb d_M_read_10 rfl ?_
    refine va_put (D := D) (cl := CL) (ci := 10) (v := .int (iI 0)) (ty := .int) (C := "DayBookModel") (T := T_M) (N := 19) hx hb hts in_M ty_M ty_M_ok nm_M hown hK hP hD hS 0 rfl rfl 0 (by decide) (hts _ k_946) (fun _ h9 => h9) rfl (by decide +kernel) rfl rfl (Nat.le_of_ble_eq_true rfl) d_M_read_14 (fun H locs hP hD hS => ?_)
    have hP : va_P D CL (MWs a ad cx (upF F 0 0) g) H := hP
    have hD : va_D (Ain a ad) (MWs a ad cx (upF F 0 0) g) := hD
    refine lv_aload_n hx hb d_M_read_17 rfl (lv_at hl 0 rfl) ?_
    refine va_get (D := D) (cl := CL) (ci := 10) (v := .int (iI 0)) (C := "DayBookModel") (T := T_M) (N := 19) hx hb hts in_M hown hK hP 0 rfl rfl 0 (by decide) (hts _ k_946) (fun _ h9 => h9) rfl d_M_read_18 ?_
    refine ai_if_le hx hb d_M_read_21 rfl (by omega) (fun h21 => ?_) (fun h21 => by exfalso; omega)
    refine lv_aload_n hx hb d_M_read_26 rfl (lv_at hl 0 rfl) ?_
    refine ai_iconst hx hb d_M_read_27 ?_
    refine ro_V (rest := []) (ct_M_slash l D a ad cx (upF F 0 0) g 0 s1 (by omega) rz hch sl1) j_M_slash k_1214 (hts _ s_M_slash) hF (va_recv (q0 := 0) (ci := 10) hK hP rfl rfl) rfl hl.1 rfl ⟨Nat.le_of_ble_eq_true rfl, Nat.le_of_ble_eq_true rfl⟩ (Nat.le_of_ble_eq_true rfl) d_M_read_28 ⟨Nat.zero_le _, Nat.zero_le _⟩ MdB.m (fun U h1 h2 => ⟨va_K.moved h2.alike hK, by rw [h1]; exact hP⟩) ?_
    refine lv_istore_n (lv' := [(2, .int (iI s1)), (0, .ref a), (1, .int (iI cal))]) hx hb d_M_read_31 rfl hl (by decide) rfl (fun ls hl => ?_)
    refine lv_aload_n hx hb d_M_read_32 rfl (lv_at hl 1 rfl) ?_
    refine lv_iload_n hx hb d_M_read_33 rfl (lv_at hl 0 rfl) ?_
    refine ai_iconst hx hb d_M_read_34 ?_
    refine ai_iadd hx hb d_M_read_35 ?_
    refine ro_V (rest := []) (ct_M_slash l D a ad cx (upF F 0 0) g (s1 + 1) s2 (by omega) rz hch sl2) j_M_slash k_1214 (hts _ s_M_slash) hF (va_recv (q0 := 0) (ci := 10) hK hP rfl rfl) rfl hl.1 rfl ⟨Nat.le_of_ble_eq_true rfl, Nat.le_of_ble_eq_true rfl⟩ (Nat.le_of_ble_eq_true rfl) d_M_read_36 ⟨Nat.zero_le _, Nat.zero_le _⟩ MdB.m (fun U h1 h2 => ⟨va_K.moved h2.alike hK, by rw [h1]; exact hP⟩) ?_
    refine lv_istore_n (lv' := [(3, .int (iI s2)), (2, .int (iI s1)), (0, .ref a), (1, .int (iI cal))]) hx hb d_M_read_39 rfl hl (by decide) rfl (fun ls hl => ?_)
    refine lv_aload_n hx hb d_M_read_40 rfl (lv_at hl 2 rfl) ?_
    refine ai_iconst hx hb d_M_read_41 ?_
    refine lv_iload_n hx hb d_M_read_42 rfl (lv_at hl 1 rfl) ?_
    refine ro_V (rest := []) (ct_M_numberIn l D a ad cx (upF F 0 0) g 0 s1 n1 (by omega) (by omega) hch ni1) j_M_numberIn k_1218 (hts _ s_M_numberIn) hF (va_recv (q0 := 0) (ci := 10) hK hP rfl rfl) rfl hl.1 rfl ⟨Nat.le_of_ble_eq_true rfl, Nat.le_of_ble_eq_true rfl⟩ (Nat.le_of_ble_eq_true rfl) d_M_read_43 ⟨Nat.zero_le _, Nat.zero_le _⟩ MdB.m (fun U h1 h2 => ⟨va_K.moved h2.alike hK, by rw [h1]; exact hP⟩) ?_
    refine lv_istore (lv' := [(4, .int (iI n1)), (3, .int (iI s2)), (2, .int (iI s1)), (0, .ref a), (1, .int (iI cal))]) hx hb d_M_read_46 hl (by decide) rfl (fun ls hl => ?_)
    refine lv_iload_n hx hb d_M_read_48 rfl (lv_at hl 2 rfl) ?_
    refine lv_aload_n hx hb d_M_read_49 rfl (lv_at hl 3 rfl) ?_
    refine va_get (D := D) (cl := CL) (ci := 10) (v := .int (iI (F 8))) (C := "DayBookModel") (T := T_M) (N := 19) hx hb hts in_M hown hK hP 0 rfl rfl 17 (by decide) (hts _ k_963) (fun _ h9 => h9) rfl d_M_read_50 ?_
    refine ai_icmp_ge hx hb d_M_read_53 rfl (by omega) (by omega) (fun h53 => ?_) (fun h53 => ?_)
    · skip
      have en2 : n2 = -2147483648 := (hn2.resolve_left (by omega)).2
      refine ai_ldc (x := -2147483648) hx hb hown (hts _ k_906) (by decide +kernel) d_M_read_67 ?_
      refine lv_istore (lv' := [(5, .int (iI (-2147483648))), (4, .int (iI n1)), (3, .int (iI s2)), (2, .int (iI s1)), (0, .ref a), (1, .int (iI cal))]) hx hb d_M_read_69 hl (by decide) rfl (fun ls hl => ?_)
      refine lv_iload_n hx hb d_M_read_71 rfl (lv_at hl 2 rfl) ?_
      refine lv_aload_n hx hb d_M_read_72 rfl (lv_at hl 4 rfl) ?_
      refine va_get (D := D) (cl := CL) (ci := 10) (v := .int (iI (F 8))) (C := "DayBookModel") (T := T_M) (N := 19) hx hb hts in_M hown hK hP 0 rfl rfl 17 (by decide) (hts _ k_963) (fun _ h9 => h9) rfl d_M_read_73 ?_
      refine ai_icmp_ge hx hb d_M_read_76 rfl (by omega) (by omega) (fun h76 => ?_) (fun h76 => ?_)
      · skip
        have en3 : n3 = -2147483648 := (hn3.resolve_left (by omega)).2
        refine ai_ldc (x := -2147483648) hx hb hown (hts _ k_906) (by decide +kernel) d_M_read_93 ?_
        refine lv_istore (lv' := [(6, .int (iI (-2147483648))), (5, .int (iI (-2147483648))), (4, .int (iI n1)), (3, .int (iI s2)), (2, .int (iI s1)), (0, .ref a), (1, .int (iI cal))]) hx hb d_M_read_95 hl (by decide) rfl (fun ls hl => ?_)
        refine lv_iload hx hb d_M_read_97 (lv_at hl 2 rfl) ?_
        refine ai_ldc (x := -2147483648) hx hb hown (hts _ k_906) (by decide +kernel) d_M_read_99 ?_
        refine ai_icmp_eq hx hb d_M_read_101 rfl (by omega) (by omega) (fun h101 => ?_) (fun h101 => ?_)
        · skip
          have er : r = -9223372036854775808 := by rcases hdd with ⟨⟨⟨u1, u2, u3⟩, u4⟩, -⟩ | ⟨-, q⟩; (exfalso; first | omega | exact h123 u4); exact q
          refine ai_iconst hx hb d_M_read_130 ?_
          refine lv_istore (lv' := [(7, .int (iI 0)), (6, .int (iI (-2147483648))), (5, .int (iI (-2147483648))), (4, .int (iI n1)), (3, .int (iI s2)), (2, .int (iI s1)), (0, .ref a), (1, .int (iI cal))]) hx hb d_M_read_131 hl (by decide) rfl (fun ls hl => ?_)
          refine lv_iload hx hb d_M_read_133 (lv_at hl 0 rfl) ?_
          refine ai_if_eq hx hb d_M_read_135 rfl (by omega) (fun h135 => ?_) (fun h135 => by exfalso; omega)
          refine ai_ldc2 (x := -9223372036854775808) hx hb hown (hts _ k_1134) (by decide +kernel) d_M_read_152 ?_
          refine lv_lstore (lv' := [(8, .long (iL (-9223372036854775808))), (7, .int (iI 0)), (6, .int (iI (-2147483648))), (5, .int (iI (-2147483648))), (4, .int (iI n1)), (3, .int (iI s2)), (2, .int (iI s1)), (0, .ref a), (1, .int (iI cal))]) hx hb d_M_read_155 hl (by decide) rfl (fun ls hl => ?_)
          refine lv_aload_n hx hb d_M_read_157 rfl (lv_at hl 7 rfl) ?_
          refine lv_lload hx hb d_M_read_158 (lv_at hl 0 rfl) ?_
          refine ai_ldc2 (x := -9223372036854775808) hx hb hown (hts _ k_1134) (by decide +kernel) d_M_read_160 ?_
          refine ai_lcmp_eq hx hb d_M_read_163 d_M_read_164 rfl (by omega) (by omega) (fun h163 => ?_) (fun h163 => by exfalso; omega)
          refine ai_iconst hx hb d_M_read_175 ?_
          refine lv_goto hx hb d_M_read_176 rfl ?_
          refine va_put (D := D) (cl := CL) (ci := 10) (v := .int (iI 2)) (ty := .int) (C := "DayBookModel") (T := T_M) (N := 19) hx hb hts in_M ty_M ty_M_ok nm_M hown hK hP hD hS 0 rfl rfl 0 (by decide) (hts _ k_946) (fun _ h9 => h9) rfl (by decide +kernel) rfl rfl (Nat.le_of_ble_eq_true rfl) d_M_read_180 (fun H locs hP hD hS => ?_)
          have hP : va_P D CL (MWs a ad cx (upF (upF F 0 0) 0 2) g) H := hP
          have hD : va_D (Ain a ad) (MWs a ad cx (upF (upF F 0 0) 0 2) g) := hD
          refine lv_aload_n hx hb d_M_read_183 rfl (lv_at hl 7 rfl) ?_
          refine va_get (D := D) (cl := CL) (ci := 10) (v := .int (iI 2)) (C := "DayBookModel") (T := T_M) (N := 19) hx hb hts in_M hown hK hP 0 rfl rfl 0 (by decide) (hts _ k_946) (fun _ h9 => h9) rfl d_M_read_184 ?_
          refine ai_if_le hx hb d_M_read_187 rfl (by omega) (fun h187 => by exfalso; omega) (fun h187 => ?_)
          refine ai_iconst hx hb d_M_read_190 ?_
          refine lv_goto hx hb d_M_read_191 rfl ?_
          exact mw_iret hx hb hr hlk d_M_read_197 hP hS (by omega) ⟨rfl, (by show 2 = tc; omega), rfl, hca⟩
        · skip
          refine lv_iload hx hb d_M_read_104 (lv_at hl 1 rfl) ?_
          refine ai_ldc (x := -2147483648) hx hb hown (hts _ k_906) (by decide +kernel) d_M_read_106 ?_
          refine ai_icmp_eq hx hb d_M_read_108 rfl (by omega) (by omega) (fun h108 => ?_) (fun h108 => by exfalso; omega)
          have er : r = -9223372036854775808 := by rcases hdd with ⟨⟨⟨u1, u2, u3⟩, u4⟩, -⟩ | ⟨-, q⟩; (exfalso; first | omega | exact h123 u4); exact q
          refine ai_iconst hx hb d_M_read_130 ?_
          refine lv_istore (lv' := [(7, .int (iI 0)), (6, .int (iI (-2147483648))), (5, .int (iI (-2147483648))), (4, .int (iI n1)), (3, .int (iI s2)), (2, .int (iI s1)), (0, .ref a), (1, .int (iI cal))]) hx hb d_M_read_131 hl (by decide) rfl (fun ls hl => ?_)
          refine lv_iload hx hb d_M_read_133 (lv_at hl 0 rfl) ?_
          refine ai_if_eq hx hb d_M_read_135 rfl (by omega) (fun h135 => ?_) (fun h135 => by exfalso; omega)
          refine ai_ldc2 (x := -9223372036854775808) hx hb hown (hts _ k_1134) (by decide +kernel) d_M_read_152 ?_
          refine lv_lstore (lv' := [(8, .long (iL (-9223372036854775808))), (7, .int (iI 0)), (6, .int (iI (-2147483648))), (5, .int (iI (-2147483648))), (4, .int (iI n1)), (3, .int (iI s2)), (2, .int (iI s1)), (0, .ref a), (1, .int (iI cal))]) hx hb d_M_read_155 hl (by decide) rfl (fun ls hl => ?_)
          refine lv_aload_n hx hb d_M_read_157 rfl (lv_at hl 7 rfl) ?_
          refine lv_lload hx hb d_M_read_158 (lv_at hl 0 rfl) ?_
          refine ai_ldc2 (x := -9223372036854775808) hx hb hown (hts _ k_1134) (by decide +kernel) d_M_read_160 ?_
          refine ai_lcmp_eq hx hb d_M_read_163 d_M_read_164 rfl (by omega) (by omega) (fun h163 => ?_) (fun h163 => by exfalso; omega)
          refine ai_iconst hx hb d_M_read_175 ?_
          refine lv_goto hx hb d_M_read_176 rfl ?_
          refine va_put (D := D) (cl := CL) (ci := 10) (v := .int (iI 2)) (ty := .int) (C := "DayBookModel") (T := T_M) (N := 19) hx hb hts in_M ty_M ty_M_ok nm_M hown hK hP hD hS 0 rfl rfl 0 (by decide) (hts _ k_946) (fun _ h9 => h9) rfl (by decide +kernel) rfl rfl (Nat.le_of_ble_eq_true rfl) d_M_read_180 (fun H locs hP hD hS => ?_)
          have hP : va_P D CL (MWs a ad cx (upF (upF F 0 0) 0 2) g) H := hP
          have hD : va_D (Ain a ad) (MWs a ad cx (upF (upF F 0 0) 0 2) g) := hD
          refine lv_aload_n hx hb d_M_read_183 rfl (lv_at hl 7 rfl) ?_
          refine va_get (D := D) (cl := CL) (ci := 10) (v := .int (iI 2)) (C := "DayBookModel") (T := T_M) (N := 19) hx hb hts in_M hown hK hP 0 rfl rfl 0 (by decide) (hts _ k_946) (fun _ h9 => h9) rfl d_M_read_184 ?_
          refine ai_if_le hx hb d_M_read_187 rfl (by omega) (fun h187 => by exfalso; omega) (fun h187 => ?_)
          refine ai_iconst hx hb d_M_read_190 ?_
          refine lv_goto hx hb d_M_read_191 rfl ?_
          exact mw_iret hx hb hr hlk d_M_read_197 hP hS (by omega) ⟨rfl, (by show 2 = tc; omega), rfl, hca⟩
      · skip
        have ni3 := (hn3.resolve_right (by omega)).2
        have b5 := ni3.rng hch (by omega) (by omega)
        refine lv_aload_n hx hb d_M_read_79 rfl (lv_at hl 4 rfl) ?_
        refine lv_iload_n hx hb d_M_read_80 rfl (lv_at hl 2 rfl) ?_
        refine ai_iconst hx hb d_M_read_81 ?_
        refine ai_iadd hx hb d_M_read_82 ?_
        refine lv_aload_n hx hb d_M_read_83 rfl (lv_at hl 4 rfl) ?_
        refine va_get (D := D) (cl := CL) (ci := 10) (v := .int (iI (F 8))) (C := "DayBookModel") (T := T_M) (N := 19) hx hb hts in_M hown hK hP 0 rfl rfl 17 (by decide) (hts _ k_963) (fun _ h9 => h9) rfl d_M_read_84 ?_
        refine ro_V (rest := []) (ct_M_numberIn l D a ad cx (upF F 0 0) g (s2 + 1) (F 8) n3 (by omega) (by omega) hch ni3) j_M_numberIn k_1218 (hts _ s_M_numberIn) hF (va_recv (q0 := 0) (ci := 10) hK hP rfl rfl) rfl hl.1 rfl ⟨Nat.le_of_ble_eq_true rfl, Nat.le_of_ble_eq_true rfl⟩ (Nat.le_of_ble_eq_true rfl) d_M_read_87 ⟨Nat.zero_le _, Nat.zero_le _⟩ MdB.m (fun U h1 h2 => ⟨va_K.moved h2.alike hK, by rw [h1]; exact hP⟩) ?_
        refine lv_goto hx hb d_M_read_90 rfl ?_
        refine lv_istore (lv' := [(6, .int (iI n3)), (5, .int (iI (-2147483648))), (4, .int (iI n1)), (3, .int (iI s2)), (2, .int (iI s1)), (0, .ref a), (1, .int (iI cal))]) hx hb d_M_read_95 hl (by decide) rfl (fun ls hl => ?_)
        refine lv_iload hx hb d_M_read_97 (lv_at hl 2 rfl) ?_
        refine ai_ldc (x := -2147483648) hx hb hown (hts _ k_906) (by decide +kernel) d_M_read_99 ?_
        refine ai_icmp_eq hx hb d_M_read_101 rfl (by omega) (by omega) (fun h101 => ?_) (fun h101 => ?_)
        · skip
          have er : r = -9223372036854775808 := by rcases hdd with ⟨⟨⟨u1, u2, u3⟩, u4⟩, -⟩ | ⟨-, q⟩; (exfalso; first | omega | exact h123 u4); exact q
          refine ai_iconst hx hb d_M_read_130 ?_
          refine lv_istore (lv' := [(7, .int (iI 0)), (6, .int (iI n3)), (5, .int (iI (-2147483648))), (4, .int (iI n1)), (3, .int (iI s2)), (2, .int (iI s1)), (0, .ref a), (1, .int (iI cal))]) hx hb d_M_read_131 hl (by decide) rfl (fun ls hl => ?_)
          refine lv_iload hx hb d_M_read_133 (lv_at hl 0 rfl) ?_
          refine ai_if_eq hx hb d_M_read_135 rfl (by omega) (fun h135 => ?_) (fun h135 => by exfalso; omega)
          refine ai_ldc2 (x := -9223372036854775808) hx hb hown (hts _ k_1134) (by decide +kernel) d_M_read_152 ?_
          refine lv_lstore (lv' := [(8, .long (iL (-9223372036854775808))), (7, .int (iI 0)), (6, .int (iI n3)), (5, .int (iI (-2147483648))), (4, .int (iI n1)), (3, .int (iI s2)), (2, .int (iI s1)), (0, .ref a), (1, .int (iI cal))]) hx hb d_M_read_155 hl (by decide) rfl (fun ls hl => ?_)
          refine lv_aload_n hx hb d_M_read_157 rfl (lv_at hl 7 rfl) ?_
          refine lv_lload hx hb d_M_read_158 (lv_at hl 0 rfl) ?_
          refine ai_ldc2 (x := -9223372036854775808) hx hb hown (hts _ k_1134) (by decide +kernel) d_M_read_160 ?_
          refine ai_lcmp_eq hx hb d_M_read_163 d_M_read_164 rfl (by omega) (by omega) (fun h163 => ?_) (fun h163 => by exfalso; omega)
          refine ai_iconst hx hb d_M_read_175 ?_
          refine lv_goto hx hb d_M_read_176 rfl ?_
          refine va_put (D := D) (cl := CL) (ci := 10) (v := .int (iI 2)) (ty := .int) (C := "DayBookModel") (T := T_M) (N := 19) hx hb hts in_M ty_M ty_M_ok nm_M hown hK hP hD hS 0 rfl rfl 0 (by decide) (hts _ k_946) (fun _ h9 => h9) rfl (by decide +kernel) rfl rfl (Nat.le_of_ble_eq_true rfl) d_M_read_180 (fun H locs hP hD hS => ?_)
          have hP : va_P D CL (MWs a ad cx (upF (upF F 0 0) 0 2) g) H := hP
          have hD : va_D (Ain a ad) (MWs a ad cx (upF (upF F 0 0) 0 2) g) := hD
          refine lv_aload_n hx hb d_M_read_183 rfl (lv_at hl 7 rfl) ?_
          refine va_get (D := D) (cl := CL) (ci := 10) (v := .int (iI 2)) (C := "DayBookModel") (T := T_M) (N := 19) hx hb hts in_M hown hK hP 0 rfl rfl 0 (by decide) (hts _ k_946) (fun _ h9 => h9) rfl d_M_read_184 ?_
          refine ai_if_le hx hb d_M_read_187 rfl (by omega) (fun h187 => by exfalso; omega) (fun h187 => ?_)
          refine ai_iconst hx hb d_M_read_190 ?_
          refine lv_goto hx hb d_M_read_191 rfl ?_
          exact mw_iret hx hb hr hlk d_M_read_197 hP hS (by omega) ⟨rfl, (by show 2 = tc; omega), rfl, hca⟩
        · skip
          refine lv_iload hx hb d_M_read_104 (lv_at hl 1 rfl) ?_
          refine ai_ldc (x := -2147483648) hx hb hown (hts _ k_906) (by decide +kernel) d_M_read_106 ?_
          refine ai_icmp_eq hx hb d_M_read_108 rfl (by omega) (by omega) (fun h108 => ?_) (fun h108 => by exfalso; omega)
          have er : r = -9223372036854775808 := by rcases hdd with ⟨⟨⟨u1, u2, u3⟩, u4⟩, -⟩ | ⟨-, q⟩; (exfalso; first | omega | exact h123 u4); exact q
          refine ai_iconst hx hb d_M_read_130 ?_
          refine lv_istore (lv' := [(7, .int (iI 0)), (6, .int (iI n3)), (5, .int (iI (-2147483648))), (4, .int (iI n1)), (3, .int (iI s2)), (2, .int (iI s1)), (0, .ref a), (1, .int (iI cal))]) hx hb d_M_read_131 hl (by decide) rfl (fun ls hl => ?_)
          refine lv_iload hx hb d_M_read_133 (lv_at hl 0 rfl) ?_
          refine ai_if_eq hx hb d_M_read_135 rfl (by omega) (fun h135 => ?_) (fun h135 => by exfalso; omega)
          refine ai_ldc2 (x := -9223372036854775808) hx hb hown (hts _ k_1134) (by decide +kernel) d_M_read_152 ?_
          refine lv_lstore (lv' := [(8, .long (iL (-9223372036854775808))), (7, .int (iI 0)), (6, .int (iI n3)), (5, .int (iI (-2147483648))), (4, .int (iI n1)), (3, .int (iI s2)), (2, .int (iI s1)), (0, .ref a), (1, .int (iI cal))]) hx hb d_M_read_155 hl (by decide) rfl (fun ls hl => ?_)
          refine lv_aload_n hx hb d_M_read_157 rfl (lv_at hl 7 rfl) ?_
          refine lv_lload hx hb d_M_read_158 (lv_at hl 0 rfl) ?_
          refine ai_ldc2 (x := -9223372036854775808) hx hb hown (hts _ k_1134) (by decide +kernel) d_M_read_160 ?_
          refine ai_lcmp_eq hx hb d_M_read_163 d_M_read_164 rfl (by omega) (by omega) (fun h163 => ?_) (fun h163 => by exfalso; omega)
          refine ai_iconst hx hb d_M_read_175 ?_
          refine lv_goto hx hb d_M_read_176 rfl ?_
          refine va_put (D := D) (cl := CL) (ci := 10) (v := .int (iI 2)) (ty := .int) (C := "DayBookModel") (T := T_M) (N := 19) hx hb hts in_M ty_M ty_M_ok nm_M hown hK hP hD hS 0 rfl rfl 0 (by decide) (hts _ k_946) (fun _ h9 => h9) rfl (by decide +kernel) rfl rfl (Nat.le_of_ble_eq_true rfl) d_M_read_180 (fun H locs hP hD hS => ?_)
          have hP : va_P D CL (MWs a ad cx (upF (upF F 0 0) 0 2) g) H := hP
          have hD : va_D (Ain a ad) (MWs a ad cx (upF (upF F 0 0) 0 2) g) := hD
          refine lv_aload_n hx hb d_M_read_183 rfl (lv_at hl 7 rfl) ?_
          refine va_get (D := D) (cl := CL) (ci := 10) (v := .int (iI 2)) (C := "DayBookModel") (T := T_M) (N := 19) hx hb hts in_M hown hK hP 0 rfl rfl 0 (by decide) (hts _ k_946) (fun _ h9 => h9) rfl d_M_read_184 ?_
          refine ai_if_le hx hb d_M_read_187 rfl (by omega) (fun h187 => by exfalso; omega) (fun h187 => ?_)
          refine ai_iconst hx hb d_M_read_190 ?_
          refine lv_goto hx hb d_M_read_191 rfl ?_
          exact mw_iret hx hb hr hlk d_M_read_197 hP hS (by omega) ⟨rfl, (by show 2 = tc; omega), rfl, hca⟩
    · skip
      have ni2 := (hn2.resolve_right (by omega)).2
      have b4 := ni2.rng hch (by omega) (by omega)
      refine lv_aload_n hx hb d_M_read_56 rfl (lv_at hl 3 rfl) ?_
      refine lv_iload_n hx hb d_M_read_57 rfl (lv_at hl 2 rfl) ?_
      refine ai_iconst hx hb d_M_read_58 ?_
      refine ai_iadd hx hb d_M_read_59 ?_
      refine lv_iload_n hx hb d_M_read_60 rfl (lv_at hl 1 rfl) ?_
      refine ro_V (rest := []) (ct_M_numberIn l D a ad cx (upF F 0 0) g (s1 + 1) s2 n2 (by omega) (by omega) hch ni2) j_M_numberIn k_1218 (hts _ s_M_numberIn) hF (va_recv (q0 := 0) (ci := 10) hK hP rfl rfl) rfl hl.1 rfl ⟨Nat.le_of_ble_eq_true rfl, Nat.le_of_ble_eq_true rfl⟩ (Nat.le_of_ble_eq_true rfl) d_M_read_61 ⟨Nat.zero_le _, Nat.zero_le _⟩ MdB.m (fun U h1 h2 => ⟨va_K.moved h2.alike hK, by rw [h1]; exact hP⟩) ?_
      refine lv_goto hx hb d_M_read_64 rfl ?_
      refine lv_istore (lv' := [(5, .int (iI n2)), (4, .int (iI n1)), (3, .int (iI s2)), (2, .int (iI s1)), (0, .ref a), (1, .int (iI cal))]) hx hb d_M_read_69 hl (by decide) rfl (fun ls hl => ?_)
      refine lv_iload_n hx hb d_M_read_71 rfl (lv_at hl 2 rfl) ?_
      refine lv_aload_n hx hb d_M_read_72 rfl (lv_at hl 4 rfl) ?_
      refine va_get (D := D) (cl := CL) (ci := 10) (v := .int (iI (F 8))) (C := "DayBookModel") (T := T_M) (N := 19) hx hb hts in_M hown hK hP 0 rfl rfl 17 (by decide) (hts _ k_963) (fun _ h9 => h9) rfl d_M_read_73 ?_
      refine ai_icmp_ge hx hb d_M_read_76 rfl (by omega) (by omega) (fun h76 => ?_) (fun h76 => ?_)
      · skip
        have en3 : n3 = -2147483648 := (hn3.resolve_left (by omega)).2
        refine ai_ldc (x := -2147483648) hx hb hown (hts _ k_906) (by decide +kernel) d_M_read_93 ?_
        refine lv_istore (lv' := [(6, .int (iI (-2147483648))), (5, .int (iI n2)), (4, .int (iI n1)), (3, .int (iI s2)), (2, .int (iI s1)), (0, .ref a), (1, .int (iI cal))]) hx hb d_M_read_95 hl (by decide) rfl (fun ls hl => ?_)
        refine lv_iload hx hb d_M_read_97 (lv_at hl 2 rfl) ?_
        refine ai_ldc (x := -2147483648) hx hb hown (hts _ k_906) (by decide +kernel) d_M_read_99 ?_
        refine ai_icmp_eq hx hb d_M_read_101 rfl (by omega) (by omega) (fun h101 => ?_) (fun h101 => ?_)
        · skip
          have er : r = -9223372036854775808 := by rcases hdd with ⟨⟨⟨u1, u2, u3⟩, u4⟩, -⟩ | ⟨-, q⟩; (exfalso; first | omega | exact h123 u4); exact q
          refine ai_iconst hx hb d_M_read_130 ?_
          refine lv_istore (lv' := [(7, .int (iI 0)), (6, .int (iI (-2147483648))), (5, .int (iI n2)), (4, .int (iI n1)), (3, .int (iI s2)), (2, .int (iI s1)), (0, .ref a), (1, .int (iI cal))]) hx hb d_M_read_131 hl (by decide) rfl (fun ls hl => ?_)
          refine lv_iload hx hb d_M_read_133 (lv_at hl 0 rfl) ?_
          refine ai_if_eq hx hb d_M_read_135 rfl (by omega) (fun h135 => ?_) (fun h135 => by exfalso; omega)
          refine ai_ldc2 (x := -9223372036854775808) hx hb hown (hts _ k_1134) (by decide +kernel) d_M_read_152 ?_
          refine lv_lstore (lv' := [(8, .long (iL (-9223372036854775808))), (7, .int (iI 0)), (6, .int (iI (-2147483648))), (5, .int (iI n2)), (4, .int (iI n1)), (3, .int (iI s2)), (2, .int (iI s1)), (0, .ref a), (1, .int (iI cal))]) hx hb d_M_read_155 hl (by decide) rfl (fun ls hl => ?_)
          refine lv_aload_n hx hb d_M_read_157 rfl (lv_at hl 7 rfl) ?_
          refine lv_lload hx hb d_M_read_158 (lv_at hl 0 rfl) ?_
          refine ai_ldc2 (x := -9223372036854775808) hx hb hown (hts _ k_1134) (by decide +kernel) d_M_read_160 ?_
          refine ai_lcmp_eq hx hb d_M_read_163 d_M_read_164 rfl (by omega) (by omega) (fun h163 => ?_) (fun h163 => by exfalso; omega)
          refine ai_iconst hx hb d_M_read_175 ?_
          refine lv_goto hx hb d_M_read_176 rfl ?_
          refine va_put (D := D) (cl := CL) (ci := 10) (v := .int (iI 2)) (ty := .int) (C := "DayBookModel") (T := T_M) (N := 19) hx hb hts in_M ty_M ty_M_ok nm_M hown hK hP hD hS 0 rfl rfl 0 (by decide) (hts _ k_946) (fun _ h9 => h9) rfl (by decide +kernel) rfl rfl (Nat.le_of_ble_eq_true rfl) d_M_read_180 (fun H locs hP hD hS => ?_)
          have hP : va_P D CL (MWs a ad cx (upF (upF F 0 0) 0 2) g) H := hP
          have hD : va_D (Ain a ad) (MWs a ad cx (upF (upF F 0 0) 0 2) g) := hD
          refine lv_aload_n hx hb d_M_read_183 rfl (lv_at hl 7 rfl) ?_
          refine va_get (D := D) (cl := CL) (ci := 10) (v := .int (iI 2)) (C := "DayBookModel") (T := T_M) (N := 19) hx hb hts in_M hown hK hP 0 rfl rfl 0 (by decide) (hts _ k_946) (fun _ h9 => h9) rfl d_M_read_184 ?_
          refine ai_if_le hx hb d_M_read_187 rfl (by omega) (fun h187 => by exfalso; omega) (fun h187 => ?_)
          refine ai_iconst hx hb d_M_read_190 ?_
          refine lv_goto hx hb d_M_read_191 rfl ?_
          exact mw_iret hx hb hr hlk d_M_read_197 hP hS (by omega) ⟨rfl, (by show 2 = tc; omega), rfl, hca⟩
        · skip
          refine lv_iload hx hb d_M_read_104 (lv_at hl 1 rfl) ?_
          refine ai_ldc (x := -2147483648) hx hb hown (hts _ k_906) (by decide +kernel) d_M_read_106 ?_
          refine ai_icmp_eq hx hb d_M_read_108 rfl (by omega) (by omega) (fun h108 => ?_) (fun h108 => ?_)
          · skip
            have er : r = -9223372036854775808 := by rcases hdd with ⟨⟨⟨u1, u2, u3⟩, u4⟩, -⟩ | ⟨-, q⟩; (exfalso; first | omega | exact h123 u4); exact q
            refine ai_iconst hx hb d_M_read_130 ?_
            refine lv_istore (lv' := [(7, .int (iI 0)), (6, .int (iI (-2147483648))), (5, .int (iI n2)), (4, .int (iI n1)), (3, .int (iI s2)), (2, .int (iI s1)), (0, .ref a), (1, .int (iI cal))]) hx hb d_M_read_131 hl (by decide) rfl (fun ls hl => ?_)
            refine lv_iload hx hb d_M_read_133 (lv_at hl 0 rfl) ?_
            refine ai_if_eq hx hb d_M_read_135 rfl (by omega) (fun h135 => ?_) (fun h135 => by exfalso; omega)
            refine ai_ldc2 (x := -9223372036854775808) hx hb hown (hts _ k_1134) (by decide +kernel) d_M_read_152 ?_
            refine lv_lstore (lv' := [(8, .long (iL (-9223372036854775808))), (7, .int (iI 0)), (6, .int (iI (-2147483648))), (5, .int (iI n2)), (4, .int (iI n1)), (3, .int (iI s2)), (2, .int (iI s1)), (0, .ref a), (1, .int (iI cal))]) hx hb d_M_read_155 hl (by decide) rfl (fun ls hl => ?_)
            refine lv_aload_n hx hb d_M_read_157 rfl (lv_at hl 7 rfl) ?_
            refine lv_lload hx hb d_M_read_158 (lv_at hl 0 rfl) ?_
            refine ai_ldc2 (x := -9223372036854775808) hx hb hown (hts _ k_1134) (by decide +kernel) d_M_read_160 ?_
            refine ai_lcmp_eq hx hb d_M_read_163 d_M_read_164 rfl (by omega) (by omega) (fun h163 => ?_) (fun h163 => by exfalso; omega)
            refine ai_iconst hx hb d_M_read_175 ?_
            refine lv_goto hx hb d_M_read_176 rfl ?_
            refine va_put (D := D) (cl := CL) (ci := 10) (v := .int (iI 2)) (ty := .int) (C := "DayBookModel") (T := T_M) (N := 19) hx hb hts in_M ty_M ty_M_ok nm_M hown hK hP hD hS 0 rfl rfl 0 (by decide) (hts _ k_946) (fun _ h9 => h9) rfl (by decide +kernel) rfl rfl (Nat.le_of_ble_eq_true rfl) d_M_read_180 (fun H locs hP hD hS => ?_)
            have hP : va_P D CL (MWs a ad cx (upF (upF F 0 0) 0 2) g) H := hP
            have hD : va_D (Ain a ad) (MWs a ad cx (upF (upF F 0 0) 0 2) g) := hD
            refine lv_aload_n hx hb d_M_read_183 rfl (lv_at hl 7 rfl) ?_
            refine va_get (D := D) (cl := CL) (ci := 10) (v := .int (iI 2)) (C := "DayBookModel") (T := T_M) (N := 19) hx hb hts in_M hown hK hP 0 rfl rfl 0 (by decide) (hts _ k_946) (fun _ h9 => h9) rfl d_M_read_184 ?_
            refine ai_if_le hx hb d_M_read_187 rfl (by omega) (fun h187 => by exfalso; omega) (fun h187 => ?_)
            refine ai_iconst hx hb d_M_read_190 ?_
            refine lv_goto hx hb d_M_read_191 rfl ?_
            exact mw_iret hx hb hr hlk d_M_read_197 hP hS (by omega) ⟨rfl, (by show 2 = tc; omega), rfl, hca⟩
          · skip
            refine lv_iload hx hb d_M_read_111 (lv_at hl 0 rfl) ?_
            refine ai_ldc (x := -2147483648) hx hb hown (hts _ k_906) (by decide +kernel) d_M_read_113 ?_
            refine ai_icmp_eq hx hb d_M_read_115 rfl (by omega) (by omega) (fun h115 => ?_) (fun h115 => by exfalso; omega)
            have er : r = -9223372036854775808 := by rcases hdd with ⟨⟨⟨u1, u2, u3⟩, u4⟩, -⟩ | ⟨-, q⟩; (exfalso; first | omega | exact h123 u4); exact q
            refine ai_iconst hx hb d_M_read_130 ?_
            refine lv_istore (lv' := [(7, .int (iI 0)), (6, .int (iI (-2147483648))), (5, .int (iI n2)), (4, .int (iI n1)), (3, .int (iI s2)), (2, .int (iI s1)), (0, .ref a), (1, .int (iI cal))]) hx hb d_M_read_131 hl (by decide) rfl (fun ls hl => ?_)
            refine lv_iload hx hb d_M_read_133 (lv_at hl 0 rfl) ?_
            refine ai_if_eq hx hb d_M_read_135 rfl (by omega) (fun h135 => ?_) (fun h135 => by exfalso; omega)
            refine ai_ldc2 (x := -9223372036854775808) hx hb hown (hts _ k_1134) (by decide +kernel) d_M_read_152 ?_
            refine lv_lstore (lv' := [(8, .long (iL (-9223372036854775808))), (7, .int (iI 0)), (6, .int (iI (-2147483648))), (5, .int (iI n2)), (4, .int (iI n1)), (3, .int (iI s2)), (2, .int (iI s1)), (0, .ref a), (1, .int (iI cal))]) hx hb d_M_read_155 hl (by decide) rfl (fun ls hl => ?_)
            refine lv_aload_n hx hb d_M_read_157 rfl (lv_at hl 7 rfl) ?_
            refine lv_lload hx hb d_M_read_158 (lv_at hl 0 rfl) ?_
            refine ai_ldc2 (x := -9223372036854775808) hx hb hown (hts _ k_1134) (by decide +kernel) d_M_read_160 ?_
            refine ai_lcmp_eq hx hb d_M_read_163 d_M_read_164 rfl (by omega) (by omega) (fun h163 => ?_) (fun h163 => by exfalso; omega)
            refine ai_iconst hx hb d_M_read_175 ?_
            refine lv_goto hx hb d_M_read_176 rfl ?_
            refine va_put (D := D) (cl := CL) (ci := 10) (v := .int (iI 2)) (ty := .int) (C := "DayBookModel") (T := T_M) (N := 19) hx hb hts in_M ty_M ty_M_ok nm_M hown hK hP hD hS 0 rfl rfl 0 (by decide) (hts _ k_946) (fun _ h9 => h9) rfl (by decide +kernel) rfl rfl (Nat.le_of_ble_eq_true rfl) d_M_read_180 (fun H locs hP hD hS => ?_)
            have hP : va_P D CL (MWs a ad cx (upF (upF F 0 0) 0 2) g) H := hP
            have hD : va_D (Ain a ad) (MWs a ad cx (upF (upF F 0 0) 0 2) g) := hD
            refine lv_aload_n hx hb d_M_read_183 rfl (lv_at hl 7 rfl) ?_
            refine va_get (D := D) (cl := CL) (ci := 10) (v := .int (iI 2)) (C := "DayBookModel") (T := T_M) (N := 19) hx hb hts in_M hown hK hP 0 rfl rfl 0 (by decide) (hts _ k_946) (fun _ h9 => h9) rfl d_M_read_184 ?_
            refine ai_if_le hx hb d_M_read_187 rfl (by omega) (fun h187 => by exfalso; omega) (fun h187 => ?_)
            refine ai_iconst hx hb d_M_read_190 ?_
            refine lv_goto hx hb d_M_read_191 rfl ?_
            exact mw_iret hx hb hr hlk d_M_read_197 hP hS (by omega) ⟨rfl, (by show 2 = tc; omega), rfl, hca⟩
      · skip
        have ni3 := (hn3.resolve_right (by omega)).2
        have b5 := ni3.rng hch (by omega) (by omega)
        refine lv_aload_n hx hb d_M_read_79 rfl (lv_at hl 4 rfl) ?_
        refine lv_iload_n hx hb d_M_read_80 rfl (lv_at hl 2 rfl) ?_
        refine ai_iconst hx hb d_M_read_81 ?_
        refine ai_iadd hx hb d_M_read_82 ?_
        refine lv_aload_n hx hb d_M_read_83 rfl (lv_at hl 4 rfl) ?_
        refine va_get (D := D) (cl := CL) (ci := 10) (v := .int (iI (F 8))) (C := "DayBookModel") (T := T_M) (N := 19) hx hb hts in_M hown hK hP 0 rfl rfl 17 (by decide) (hts _ k_963) (fun _ h9 => h9) rfl d_M_read_84 ?_
        refine ro_V (rest := []) (ct_M_numberIn l D a ad cx (upF F 0 0) g (s2 + 1) (F 8) n3 (by omega) (by omega) hch ni3) j_M_numberIn k_1218 (hts _ s_M_numberIn) hF (va_recv (q0 := 0) (ci := 10) hK hP rfl rfl) rfl hl.1 rfl ⟨Nat.le_of_ble_eq_true rfl, Nat.le_of_ble_eq_true rfl⟩ (Nat.le_of_ble_eq_true rfl) d_M_read_87 ⟨Nat.zero_le _, Nat.zero_le _⟩ MdB.m (fun U h1 h2 => ⟨va_K.moved h2.alike hK, by rw [h1]; exact hP⟩) ?_
        refine lv_goto hx hb d_M_read_90 rfl ?_
        refine lv_istore (lv' := [(6, .int (iI n3)), (5, .int (iI n2)), (4, .int (iI n1)), (3, .int (iI s2)), (2, .int (iI s1)), (0, .ref a), (1, .int (iI cal))]) hx hb d_M_read_95 hl (by decide) rfl (fun ls hl => ?_)
        refine lv_iload hx hb d_M_read_97 (lv_at hl 2 rfl) ?_
        refine ai_ldc (x := -2147483648) hx hb hown (hts _ k_906) (by decide +kernel) d_M_read_99 ?_
        refine ai_icmp_eq hx hb d_M_read_101 rfl (by omega) (by omega) (fun h101 => ?_) (fun h101 => ?_)
        · skip
          have er : r = -9223372036854775808 := by rcases hdd with ⟨⟨⟨u1, u2, u3⟩, u4⟩, -⟩ | ⟨-, q⟩; (exfalso; first | omega | exact h123 u4); exact q
          refine ai_iconst hx hb d_M_read_130 ?_
          refine lv_istore (lv' := [(7, .int (iI 0)), (6, .int (iI n3)), (5, .int (iI n2)), (4, .int (iI n1)), (3, .int (iI s2)), (2, .int (iI s1)), (0, .ref a), (1, .int (iI cal))]) hx hb d_M_read_131 hl (by decide) rfl (fun ls hl => ?_)
          refine lv_iload hx hb d_M_read_133 (lv_at hl 0 rfl) ?_
          refine ai_if_eq hx hb d_M_read_135 rfl (by omega) (fun h135 => ?_) (fun h135 => by exfalso; omega)
          refine ai_ldc2 (x := -9223372036854775808) hx hb hown (hts _ k_1134) (by decide +kernel) d_M_read_152 ?_
          refine lv_lstore (lv' := [(8, .long (iL (-9223372036854775808))), (7, .int (iI 0)), (6, .int (iI n3)), (5, .int (iI n2)), (4, .int (iI n1)), (3, .int (iI s2)), (2, .int (iI s1)), (0, .ref a), (1, .int (iI cal))]) hx hb d_M_read_155 hl (by decide) rfl (fun ls hl => ?_)
          refine lv_aload_n hx hb d_M_read_157 rfl (lv_at hl 7 rfl) ?_
          refine lv_lload hx hb d_M_read_158 (lv_at hl 0 rfl) ?_
          refine ai_ldc2 (x := -9223372036854775808) hx hb hown (hts _ k_1134) (by decide +kernel) d_M_read_160 ?_
          refine ai_lcmp_eq hx hb d_M_read_163 d_M_read_164 rfl (by omega) (by omega) (fun h163 => ?_) (fun h163 => by exfalso; omega)
          refine ai_iconst hx hb d_M_read_175 ?_
          refine lv_goto hx hb d_M_read_176 rfl ?_
          refine va_put (D := D) (cl := CL) (ci := 10) (v := .int (iI 2)) (ty := .int) (C := "DayBookModel") (T := T_M) (N := 19) hx hb hts in_M ty_M ty_M_ok nm_M hown hK hP hD hS 0 rfl rfl 0 (by decide) (hts _ k_946) (fun _ h9 => h9) rfl (by decide +kernel) rfl rfl (Nat.le_of_ble_eq_true rfl) d_M_read_180 (fun H locs hP hD hS => ?_)
          have hP : va_P D CL (MWs a ad cx (upF (upF F 0 0) 0 2) g) H := hP
          have hD : va_D (Ain a ad) (MWs a ad cx (upF (upF F 0 0) 0 2) g) := hD
          refine lv_aload_n hx hb d_M_read_183 rfl (lv_at hl 7 rfl) ?_
          refine va_get (D := D) (cl := CL) (ci := 10) (v := .int (iI 2)) (C := "DayBookModel") (T := T_M) (N := 19) hx hb hts in_M hown hK hP 0 rfl rfl 0 (by decide) (hts _ k_946) (fun _ h9 => h9) rfl d_M_read_184 ?_
          refine ai_if_le hx hb d_M_read_187 rfl (by omega) (fun h187 => by exfalso; omega) (fun h187 => ?_)
          refine ai_iconst hx hb d_M_read_190 ?_
          refine lv_goto hx hb d_M_read_191 rfl ?_
          exact mw_iret hx hb hr hlk d_M_read_197 hP hS (by omega) ⟨rfl, (by show 2 = tc; omega), rfl, hca⟩
        · skip
          refine lv_iload hx hb d_M_read_104 (lv_at hl 1 rfl) ?_
          refine ai_ldc (x := -2147483648) hx hb hown (hts _ k_906) (by decide +kernel) d_M_read_106 ?_
          refine ai_icmp_eq hx hb d_M_read_108 rfl (by omega) (by omega) (fun h108 => ?_) (fun h108 => ?_)
          · skip
            have er : r = -9223372036854775808 := by rcases hdd with ⟨⟨⟨u1, u2, u3⟩, u4⟩, -⟩ | ⟨-, q⟩; (exfalso; first | omega | exact h123 u4); exact q
            refine ai_iconst hx hb d_M_read_130 ?_
            refine lv_istore (lv' := [(7, .int (iI 0)), (6, .int (iI n3)), (5, .int (iI n2)), (4, .int (iI n1)), (3, .int (iI s2)), (2, .int (iI s1)), (0, .ref a), (1, .int (iI cal))]) hx hb d_M_read_131 hl (by decide) rfl (fun ls hl => ?_)
            refine lv_iload hx hb d_M_read_133 (lv_at hl 0 rfl) ?_
            refine ai_if_eq hx hb d_M_read_135 rfl (by omega) (fun h135 => ?_) (fun h135 => by exfalso; omega)
            refine ai_ldc2 (x := -9223372036854775808) hx hb hown (hts _ k_1134) (by decide +kernel) d_M_read_152 ?_
            refine lv_lstore (lv' := [(8, .long (iL (-9223372036854775808))), (7, .int (iI 0)), (6, .int (iI n3)), (5, .int (iI n2)), (4, .int (iI n1)), (3, .int (iI s2)), (2, .int (iI s1)), (0, .ref a), (1, .int (iI cal))]) hx hb d_M_read_155 hl (by decide) rfl (fun ls hl => ?_)
            refine lv_aload_n hx hb d_M_read_157 rfl (lv_at hl 7 rfl) ?_
            refine lv_lload hx hb d_M_read_158 (lv_at hl 0 rfl) ?_
            refine ai_ldc2 (x := -9223372036854775808) hx hb hown (hts _ k_1134) (by decide +kernel) d_M_read_160 ?_
            refine ai_lcmp_eq hx hb d_M_read_163 d_M_read_164 rfl (by omega) (by omega) (fun h163 => ?_) (fun h163 => by exfalso; omega)
            refine ai_iconst hx hb d_M_read_175 ?_
            refine lv_goto hx hb d_M_read_176 rfl ?_
            refine va_put (D := D) (cl := CL) (ci := 10) (v := .int (iI 2)) (ty := .int) (C := "DayBookModel") (T := T_M) (N := 19) hx hb hts in_M ty_M ty_M_ok nm_M hown hK hP hD hS 0 rfl rfl 0 (by decide) (hts _ k_946) (fun _ h9 => h9) rfl (by decide +kernel) rfl rfl (Nat.le_of_ble_eq_true rfl) d_M_read_180 (fun H locs hP hD hS => ?_)
            have hP : va_P D CL (MWs a ad cx (upF (upF F 0 0) 0 2) g) H := hP
            have hD : va_D (Ain a ad) (MWs a ad cx (upF (upF F 0 0) 0 2) g) := hD
            refine lv_aload_n hx hb d_M_read_183 rfl (lv_at hl 7 rfl) ?_
            refine va_get (D := D) (cl := CL) (ci := 10) (v := .int (iI 2)) (C := "DayBookModel") (T := T_M) (N := 19) hx hb hts in_M hown hK hP 0 rfl rfl 0 (by decide) (hts _ k_946) (fun _ h9 => h9) rfl d_M_read_184 ?_
            refine ai_if_le hx hb d_M_read_187 rfl (by omega) (fun h187 => by exfalso; omega) (fun h187 => ?_)
            refine ai_iconst hx hb d_M_read_190 ?_
            refine lv_goto hx hb d_M_read_191 rfl ?_
            exact mw_iret hx hb hr hlk d_M_read_197 hP hS (by omega) ⟨rfl, (by show 2 = tc; omega), rfl, hca⟩
          · skip
            refine lv_iload hx hb d_M_read_111 (lv_at hl 0 rfl) ?_
            refine ai_ldc (x := -2147483648) hx hb hown (hts _ k_906) (by decide +kernel) d_M_read_113 ?_
            refine ai_icmp_eq hx hb d_M_read_115 rfl (by omega) (by omega) (fun h115 => ?_) (fun h115 => ?_)
            · skip
              have er : r = -9223372036854775808 := by rcases hdd with ⟨⟨⟨u1, u2, u3⟩, u4⟩, -⟩ | ⟨-, q⟩; (exfalso; first | omega | exact h123 u4); exact q
              refine ai_iconst hx hb d_M_read_130 ?_
              refine lv_istore (lv' := [(7, .int (iI 0)), (6, .int (iI n3)), (5, .int (iI n2)), (4, .int (iI n1)), (3, .int (iI s2)), (2, .int (iI s1)), (0, .ref a), (1, .int (iI cal))]) hx hb d_M_read_131 hl (by decide) rfl (fun ls hl => ?_)
              refine lv_iload hx hb d_M_read_133 (lv_at hl 0 rfl) ?_
              refine ai_if_eq hx hb d_M_read_135 rfl (by omega) (fun h135 => ?_) (fun h135 => by exfalso; omega)
              refine ai_ldc2 (x := -9223372036854775808) hx hb hown (hts _ k_1134) (by decide +kernel) d_M_read_152 ?_
              refine lv_lstore (lv' := [(8, .long (iL (-9223372036854775808))), (7, .int (iI 0)), (6, .int (iI n3)), (5, .int (iI n2)), (4, .int (iI n1)), (3, .int (iI s2)), (2, .int (iI s1)), (0, .ref a), (1, .int (iI cal))]) hx hb d_M_read_155 hl (by decide) rfl (fun ls hl => ?_)
              refine lv_aload_n hx hb d_M_read_157 rfl (lv_at hl 7 rfl) ?_
              refine lv_lload hx hb d_M_read_158 (lv_at hl 0 rfl) ?_
              refine ai_ldc2 (x := -9223372036854775808) hx hb hown (hts _ k_1134) (by decide +kernel) d_M_read_160 ?_
              refine ai_lcmp_eq hx hb d_M_read_163 d_M_read_164 rfl (by omega) (by omega) (fun h163 => ?_) (fun h163 => by exfalso; omega)
              refine ai_iconst hx hb d_M_read_175 ?_
              refine lv_goto hx hb d_M_read_176 rfl ?_
              refine va_put (D := D) (cl := CL) (ci := 10) (v := .int (iI 2)) (ty := .int) (C := "DayBookModel") (T := T_M) (N := 19) hx hb hts in_M ty_M ty_M_ok nm_M hown hK hP hD hS 0 rfl rfl 0 (by decide) (hts _ k_946) (fun _ h9 => h9) rfl (by decide +kernel) rfl rfl (Nat.le_of_ble_eq_true rfl) d_M_read_180 (fun H locs hP hD hS => ?_)
              have hP : va_P D CL (MWs a ad cx (upF (upF F 0 0) 0 2) g) H := hP
              have hD : va_D (Ain a ad) (MWs a ad cx (upF (upF F 0 0) 0 2) g) := hD
              refine lv_aload_n hx hb d_M_read_183 rfl (lv_at hl 7 rfl) ?_
              refine va_get (D := D) (cl := CL) (ci := 10) (v := .int (iI 2)) (C := "DayBookModel") (T := T_M) (N := 19) hx hb hts in_M hown hK hP 0 rfl rfl 0 (by decide) (hts _ k_946) (fun _ h9 => h9) rfl d_M_read_184 ?_
              refine ai_if_le hx hb d_M_read_187 rfl (by omega) (fun h187 => by exfalso; omega) (fun h187 => ?_)
              refine ai_iconst hx hb d_M_read_190 ?_
              refine lv_goto hx hb d_M_read_191 rfl ?_
              exact mw_iret hx hb hr hlk d_M_read_197 hP hS (by omega) ⟨rfl, (by show 2 = tc; omega), rfl, hca⟩
            · skip
              refine lv_iload hx hb d_M_read_118 (lv_at hl 2 rfl) ?_
              refine ro_S (rest := []) (ct_M_isYear l n1 (by omega)) j_M_isYear k_1125 hF rfl hl.1 rfl ⟨Nat.le_of_ble_eq_true rfl, Nat.le_of_ble_eq_true rfl⟩ (Nat.le_of_ble_eq_true rfl) d_M_read_120 ⟨Nat.zero_le _, Nat.zero_le _⟩ Bm_true (fun _ _ _ => trivial) ?_
              refine ai_ifeqB hx hb d_M_read_123 rfl (fun h123 => ?_) (fun h123 => ?_)
              · skip
                have er : r = -9223372036854775808 := by rcases hdd with ⟨⟨⟨u1, u2, u3⟩, u4⟩, -⟩ | ⟨-, q⟩; (exfalso; first | omega | exact h123 u4); exact q
                refine ai_iconst hx hb d_M_read_130 ?_
                refine lv_istore (lv' := [(7, .int (iI 0)), (6, .int (iI n3)), (5, .int (iI n2)), (4, .int (iI n1)), (3, .int (iI s2)), (2, .int (iI s1)), (0, .ref a), (1, .int (iI cal))]) hx hb d_M_read_131 hl (by decide) rfl (fun ls hl => ?_)
                refine lv_iload hx hb d_M_read_133 (lv_at hl 0 rfl) ?_
                refine ai_if_eq hx hb d_M_read_135 rfl (by omega) (fun h135 => ?_) (fun h135 => by exfalso; omega)
                refine ai_ldc2 (x := -9223372036854775808) hx hb hown (hts _ k_1134) (by decide +kernel) d_M_read_152 ?_
                refine lv_lstore (lv' := [(8, .long (iL (-9223372036854775808))), (7, .int (iI 0)), (6, .int (iI n3)), (5, .int (iI n2)), (4, .int (iI n1)), (3, .int (iI s2)), (2, .int (iI s1)), (0, .ref a), (1, .int (iI cal))]) hx hb d_M_read_155 hl (by decide) rfl (fun ls hl => ?_)
                refine lv_aload_n hx hb d_M_read_157 rfl (lv_at hl 7 rfl) ?_
                refine lv_lload hx hb d_M_read_158 (lv_at hl 0 rfl) ?_
                refine ai_ldc2 (x := -9223372036854775808) hx hb hown (hts _ k_1134) (by decide +kernel) d_M_read_160 ?_
                refine ai_lcmp_eq hx hb d_M_read_163 d_M_read_164 rfl (by omega) (by omega) (fun h163 => ?_) (fun h163 => by exfalso; omega)
                refine ai_iconst hx hb d_M_read_175 ?_
                refine lv_goto hx hb d_M_read_176 rfl ?_
                refine va_put (D := D) (cl := CL) (ci := 10) (v := .int (iI 2)) (ty := .int) (C := "DayBookModel") (T := T_M) (N := 19) hx hb hts in_M ty_M ty_M_ok nm_M hown hK hP hD hS 0 rfl rfl 0 (by decide) (hts _ k_946) (fun _ h9 => h9) rfl (by decide +kernel) rfl rfl (Nat.le_of_ble_eq_true rfl) d_M_read_180 (fun H locs hP hD hS => ?_)
                have hP : va_P D CL (MWs a ad cx (upF (upF F 0 0) 0 2) g) H := hP
                have hD : va_D (Ain a ad) (MWs a ad cx (upF (upF F 0 0) 0 2) g) := hD
                refine lv_aload_n hx hb d_M_read_183 rfl (lv_at hl 7 rfl) ?_
                refine va_get (D := D) (cl := CL) (ci := 10) (v := .int (iI 2)) (C := "DayBookModel") (T := T_M) (N := 19) hx hb hts in_M hown hK hP 0 rfl rfl 0 (by decide) (hts _ k_946) (fun _ h9 => h9) rfl d_M_read_184 ?_
                refine ai_if_le hx hb d_M_read_187 rfl (by omega) (fun h187 => by exfalso; omega) (fun h187 => ?_)
                refine ai_iconst hx hb d_M_read_190 ?_
                refine lv_goto hx hb d_M_read_191 rfl ?_
                exact mw_iret hx hb hr hlk d_M_read_197 hP hS (by omega) ⟨rfl, (by show 2 = tc; omega), rfl, hca⟩
              · skip
                have hdo := (hdd.resolve_right (fun q => q.1 ⟨⟨by omega, by omega, by omega⟩, h123⟩)).2
                refine ai_iconst hx hb d_M_read_126 ?_
                refine lv_goto hx hb d_M_read_127 rfl ?_
                refine lv_istore (lv' := [(7, .int (iI 1)), (6, .int (iI n3)), (5, .int (iI n2)), (4, .int (iI n1)), (3, .int (iI s2)), (2, .int (iI s1)), (0, .ref a), (1, .int (iI cal))]) hx hb d_M_read_131 hl (by decide) rfl (fun ls hl => ?_)
                refine lv_iload hx hb d_M_read_133 (lv_at hl 0 rfl) ?_
                refine ai_if_eq hx hb d_M_read_135 rfl (by omega) (fun h135 => by exfalso; omega) (fun h135 => ?_)
                refine lv_aload_n hx hb d_M_read_138 rfl (lv_at hl 6 rfl) ?_
                refine lv_iload_n hx hb d_M_read_139 rfl (lv_at hl 7 rfl) ?_
                refine lv_iload hx hb d_M_read_140 (lv_at hl 3 rfl) ?_
                refine lv_iload hx hb d_M_read_142 (lv_at hl 2 rfl) ?_
                refine lv_iload hx hb d_M_read_144 (lv_at hl 1 rfl) ?_
                refine mw_l (rest := []) (ct_M_dayOf l D a ad cx (upF F 0 0) g cal n1 n2 n3 r (MInv.cal hc_) (hv.ho hc_) (hv.1 0 (by decide)) (hv.cy hc_) hca (by omega) (by omega) (by omega) hdo) j_M_dayOf k_1130 s_M_dayOf hF hK hP hD hS (fun _ h => h) rfl hl.1 rfl ⟨Nat.le_of_ble_eq_true rfl, Nat.le_of_ble_eq_true rfl⟩ (Nat.le_of_ble_eq_true rfl) d_M_read_146 ⟨Nat.zero_le _, Nat.zero_le _⟩ (fun u146 H locs hΦ146 hP hS => ?_)
                obtain ⟨F146, g146⟩ := u146
                dsimp only at hΦ146 hP
                obtain ⟨eg146, t146, z146, c146⟩ := hΦ146
                rw [eg146] at hP
                have hD : va_D (Ain a ad) (MWs a ad cx F146 g) := MD.any hD
                refine lv_goto hx hb d_M_read_149 rfl ?_
                refine lv_lstore (lv' := [(8, .long (iL r)), (7, .int (iI 1)), (6, .int (iI n3)), (5, .int (iI n2)), (4, .int (iI n1)), (3, .int (iI s2)), (2, .int (iI s1)), (0, .ref a), (1, .int (iI cal))]) hx hb d_M_read_155 hl (by decide) rfl (fun ls hl => ?_)
                refine lv_aload_n hx hb d_M_read_157 rfl (lv_at hl 7 rfl) ?_
                refine lv_lload hx hb d_M_read_158 (lv_at hl 0 rfl) ?_
                refine ai_ldc2 (x := -9223372036854775808) hx hb hown (hts _ k_1134) (by decide +kernel) d_M_read_160 ?_
                refine ai_lcmp_eq hx hb d_M_read_163 d_M_read_164 rfl (by omega) (by omega) (fun h163 => ?_) (fun h163 => ?_)
                · skip
                  refine ai_iconst hx hb d_M_read_175 ?_
                  refine lv_goto hx hb d_M_read_176 rfl ?_
                  refine va_put (D := D) (cl := CL) (ci := 10) (v := .int (iI 2)) (ty := .int) (C := "DayBookModel") (T := T_M) (N := 19) hx hb hts in_M ty_M ty_M_ok nm_M hown hK hP hD hS 0 rfl rfl 0 (by decide) (hts _ k_946) (fun _ h9 => h9) rfl (by decide +kernel) rfl rfl (Nat.le_of_ble_eq_true rfl) d_M_read_180 (fun H locs hP hD hS => ?_)
                  have hP : va_P D CL (MWs a ad cx (upF F146 0 2) g) H := hP
                  have hD : va_D (Ain a ad) (MWs a ad cx (upF F146 0 2) g) := hD
                  refine lv_aload_n hx hb d_M_read_183 rfl (lv_at hl 7 rfl) ?_
                  refine va_get (D := D) (cl := CL) (ci := 10) (v := .int (iI 2)) (C := "DayBookModel") (T := T_M) (N := 19) hx hb hts in_M hown hK hP 0 rfl rfl 0 (by decide) (hts _ k_946) (fun _ h9 => h9) rfl d_M_read_184 ?_
                  refine ai_if_le hx hb d_M_read_187 rfl (by omega) (fun h187 => by exfalso; omega) (fun h187 => ?_)
                  refine ai_iconst hx hb d_M_read_190 ?_
                  refine lv_goto hx hb d_M_read_191 rfl ?_
                  exact mw_iret hx hb hr hlk d_M_read_197 hP hS (by omega) ⟨rfl, (by show 2 = tc; omega), z146, c146⟩
                · skip
                  refine lv_lload hx hb d_M_read_167 (lv_at hl 0 rfl) ?_
                  refine ro_S (rest := [.ref a]) (ct_M_inRange l r (by omega)) j_M_inRange k_1025 hF rfl hl.1 rfl ⟨Nat.le_of_ble_eq_true rfl, Nat.le_of_ble_eq_true rfl⟩ (Nat.le_of_ble_eq_true rfl) d_M_read_169 ⟨Nat.zero_le _, Nat.zero_le _⟩ Bm_true (fun _ _ _ => trivial) ?_
                  refine ai_ifneB hx hb d_M_read_172 rfl (fun h172 => ?_) (fun h172 => ?_)
                  · skip
                    refine ai_iconst hx hb d_M_read_179 ?_
                    refine va_put (D := D) (cl := CL) (ci := 10) (v := .int (iI 0)) (ty := .int) (C := "DayBookModel") (T := T_M) (N := 19) hx hb hts in_M ty_M ty_M_ok nm_M hown hK hP hD hS 0 rfl rfl 0 (by decide) (hts _ k_946) (fun _ h9 => h9) rfl (by decide +kernel) rfl rfl (Nat.le_of_ble_eq_true rfl) d_M_read_180 (fun H locs hP hD hS => ?_)
                    have hP : va_P D CL (MWs a ad cx (upF F146 0 0) g) H := hP
                    have hD : va_D (Ain a ad) (MWs a ad cx (upF F146 0 0) g) := hD
                    refine lv_aload_n hx hb d_M_read_183 rfl (lv_at hl 7 rfl) ?_
                    refine va_get (D := D) (cl := CL) (ci := 10) (v := .int (iI 0)) (C := "DayBookModel") (T := T_M) (N := 19) hx hb hts in_M hown hK hP 0 rfl rfl 0 (by decide) (hts _ k_946) (fun _ h9 => h9) rfl d_M_read_184 ?_
                    refine ai_if_le hx hb d_M_read_187 rfl (by omega) (fun h187 => ?_) (fun h187 => by exfalso; omega)
                    refine lv_lload hx hb d_M_read_194 (lv_at hl 0 rfl) ?_
                    refine ai_l2i hx hb d_M_read_196 ?_
                    exact mw_iret hx hb hr hlk d_M_read_197 hP hS (by omega) ⟨rfl, (by show 0 = tc; omega), z146, c146⟩
                  · skip
                    refine ai_iconst hx hb d_M_read_175 ?_
                    refine lv_goto hx hb d_M_read_176 rfl ?_
                    refine va_put (D := D) (cl := CL) (ci := 10) (v := .int (iI 2)) (ty := .int) (C := "DayBookModel") (T := T_M) (N := 19) hx hb hts in_M ty_M ty_M_ok nm_M hown hK hP hD hS 0 rfl rfl 0 (by decide) (hts _ k_946) (fun _ h9 => h9) rfl (by decide +kernel) rfl rfl (Nat.le_of_ble_eq_true rfl) d_M_read_180 (fun H locs hP hD hS => ?_)
                    have hP : va_P D CL (MWs a ad cx (upF F146 0 2) g) H := hP
                    have hD : va_D (Ain a ad) (MWs a ad cx (upF F146 0 2) g) := hD
                    refine lv_aload_n hx hb d_M_read_183 rfl (lv_at hl 7 rfl) ?_
                    refine va_get (D := D) (cl := CL) (ci := 10) (v := .int (iI 2)) (C := "DayBookModel") (T := T_M) (N := 19) hx hb hts in_M hown hK hP 0 rfl rfl 0 (by decide) (hts _ k_946) (fun _ h9 => h9) rfl d_M_read_184 ?_
                    refine ai_if_le hx hb d_M_read_187 rfl (by omega) (fun h187 => by exfalso; omega) (fun h187 => ?_)
                    refine ai_iconst hx hb d_M_read_190 ?_
                    refine lv_goto hx hb d_M_read_191 rfl ?_
                    exact mw_iret hx hb hr hlk d_M_read_197 hP hS (by omega) ⟨rfl, (by show 2 = tc; omega), z146, c146⟩
