/-! 29.modelD: laid by program (wip/whole) -/
theorem CyOK.days {g : Nat → Nat → Int} {cal : Int} (h : CyOK g cal) (hp : 1 ≤ plM g cal ∧ plM g cal ≤ 800) : 1 ≤ g 1 (Int.toNat cal) ∧ g 1 (Int.toNat cal) ≤ 4000000 := by
  obtain ⟨K, c1, c2, c3, -⟩ := h
  have h1 := Int.mul_le_mul hp.2 c1.2 (by omega) (by omega)
  have h2 := Int.mul_le_mul hp.1 c1.1 (by omega) (by omega)
  omega
theorem ys_bnd {S : Int → Int} (h : Inc S) (h1 : -1000000 ≤ S 1 ∧ S 1 ≤ 1000000) {v : Int} : (S v ≤ 50000000 → v ≤ 52000000) ∧ (-60000000 ≤ S v → -62000000 ≤ v) := by
  refine ⟨fun q => ?_, fun q => ?_⟩
  · by_cases z : 1 ≤ v
    · have := h.gap z; omega
    · omega
  · by_cases z : v ≤ 1
    · have := h.gap z; omega
    · omega
theorem Inc.ex {S : Int → Int} (h : Inc S) (d : Int) : ∃ k, S k ≤ d ∧ d < S (k + 1) := by
  have key : ∀ (n : Nat) (a : Int), S a ≤ d → d < S (a + n) → ∃ k, S k ≤ d ∧ d < S (k + 1) := by
    intro n
    induction n with
    | zero => intro a h1 h2; rw [show a + ((0 : Nat) : Int) = a by omega] at h2; omega
    | succ n ih =>
      intro a h1 h2
      by_cases q : d < S (a + 1)
      · exact ⟨a, h1, q⟩
      · exact ih (a + 1) (by omega) (by rw [show a + 1 + (n : Int) = a + ((n + 1 : Nat) : Int) by omega]; exact h2)
  have a1 : ∃ a : Int, a ≤ 0 ∧ S a ≤ d := by
    by_cases q : S 0 ≤ d
    · exact ⟨0, by omega, q⟩
    · have := h.gap (a := d - S 0) (b := 0) (by omega)
      exact ⟨d - S 0, by omega, by omega⟩
  obtain ⟨a, ha0, ha⟩ := a1
  have b1 : ∃ b : Int, 0 ≤ b ∧ d < S b := by
    by_cases q : d < S 0
    · exact ⟨0, by omega, q⟩
    · have := h.gap (a := 0) (b := d - S 0 + 1) (by omega)
      exact ⟨d - S 0 + 1, by omega, by omega⟩
  obtain ⟨b, hb0, hb⟩ := b1
  exact key (b - a).toNat a ha (by rw [show a + (((b - a).toNat : Nat) : Int) = b by omega]; exact hb)
theorem upF_over {F : Nat → Int} {p1 p2 p3 p4 q1 q2 q3 q4 : Int} : upF (upF (upF (upF (upF (upF (upF (upF F 1 p1) 2 p2) 3 p3) 4 p4) 1 q1) 2 q2) 3 q3) 4 q4 = upF (upF (upF (upF F 1 q1) 2 q2) 3 q3) 4 q4 := by
  funext j
  unfold upF
  by_cases h4 : j = 4
  · simp [h4]
  · by_cases h3 : j = 3
    · simp [h3]
    · by_cases h2 : j = 2
      · simp [h2]
      · by_cases h1 : j = 1
        · simp [h1]
        · simp [h1, h2, h3, h4]
theorem upF_same {F : Nat → Int} {q1 q2 q3 q4 : Int} (h1 : F 1 = q1) (h2 : F 2 = q2) (h3 : F 3 = q3) (h4 : F 4 = q4) : F = upF (upF (upF (upF F 1 q1) 2 q2) 3 q3) 4 q4 := by
  funext j
  unfold upF
  by_cases z4 : j = 4
  · simp [z4, h4]
  · by_cases z3 : j = 3
    · simp [z3, h3]
    · by_cases z2 : j = 2
      · simp [z2, h2]
      · by_cases z1 : j = 1
        · simp [z1, h1]
        · simp [z1, z2, z3, z4]
set_option maxHeartbeats 4000000 in
set_option maxRecDepth 100000 in
theorem ct_M_setYear (l : Launch) (D : va_G) (a : Nat) (ad : Nat → Nat) (cx : Nat → ClassId) (F : Nat → Int) (g : Nat → Nat → Int) (cal : Int) (y : Int) (b1 : Int) (b2 : Int)  : MW l y_M_setYear w_M_setYear 0 0 [.ref a, .int (iI cal), .long (iL y), .long (iL b1), .long (iL b2)] D a ad cx F g (QMv D a ad cx (fun u => u = (upF (upF (upF (upF F 1 cal) 2 y) 3 b1) 4 b2, g))) := by
  refine mw_of (by decide +kernel) (Nat.le_of_ble_eq_true rfl) ?_
  intro p e s m below meth c ls hx hb hr hts hown hlk hml hl hN hK hP hD
  have hown : s.vm.findClass "DayBookModel" = some m.cls := hown
  have hl : lv_has ls 8 [(0, .ref a), (1, .int (iI cal)), (2, .long (iL y)), (4, .long (iL b1)), (6, .long (iL b2))] := hl
  have hF : _ ∧ _ ∧ _ ∧ _ ∧ _ ∧ _ := ⟨hx, hb, hml, hown, hts, hN⟩
  have hS : va_S (Ain a ad) s.heap s.heap [] := va_S.rf
  refine lv_aload_n hx hb d_M_setYear_0 rfl (lv_at hl 0 rfl) ?_
  refine lv_iload_n hx hb d_M_setYear_1 rfl (lv_at hl 1 rfl) ?_
  refine va_put (D := D) (cl := CL) (ci := 10) (v := .int (iI cal)) (ty := .int) (C := "DayBookModel") (T := T_M) (N := 19) hx hb hts in_M ty_M ty_M_ok nm_M hown hK hP hD hS 0 rfl rfl 10 (by decide) (hts _ k_956) (fun _ h9 => h9) rfl (by decide +kernel) rfl rfl (Nat.le_of_ble_eq_true rfl) d_M_setYear_2 (fun H locs hP hD hS => ?_)
  have hP : va_P D CL (MWs a ad cx (upF F 1 cal) g) H := hP
  have hD : va_D (Ain a ad) (MWs a ad cx (upF F 1 cal) g) := hD
  refine lv_aload_n hx hb d_M_setYear_5 rfl (lv_at hl 0 rfl) ?_
  refine lv_lload_n hx hb d_M_setYear_6 rfl (lv_at hl 2 rfl) ?_
  refine va_put (D := D) (cl := CL) (ci := 10) (v := .long (iL y)) (ty := .long) (C := "DayBookModel") (T := T_M) (N := 19) hx hb hts in_M ty_M ty_M_ok nm_M hown hK hP hD hS 0 rfl rfl 11 (by decide) (hts _ k_957) (fun _ h9 => h9) rfl (by decide +kernel) rfl rfl (Nat.le_of_ble_eq_true rfl) d_M_setYear_7 (fun H locs hP hD hS => ?_)
  have hP : va_P D CL (MWs a ad cx (upF (upF F 1 cal) 2 y) g) H := hP
  have hD : va_D (Ain a ad) (MWs a ad cx (upF (upF F 1 cal) 2 y) g) := hD
  refine lv_aload_n hx hb d_M_setYear_10 rfl (lv_at hl 0 rfl) ?_
  refine lv_lload hx hb d_M_setYear_11 (lv_at hl 3 rfl) ?_
  refine va_put (D := D) (cl := CL) (ci := 10) (v := .long (iL b1)) (ty := .long) (C := "DayBookModel") (T := T_M) (N := 19) hx hb hts in_M ty_M ty_M_ok nm_M hown hK hP hD hS 0 rfl rfl 12 (by decide) (hts _ k_958) (fun _ h9 => h9) rfl (by decide +kernel) rfl rfl (Nat.le_of_ble_eq_true rfl) d_M_setYear_13 (fun H locs hP hD hS => ?_)
  have hP : va_P D CL (MWs a ad cx (upF (upF (upF F 1 cal) 2 y) 3 b1) g) H := hP
  have hD : va_D (Ain a ad) (MWs a ad cx (upF (upF (upF F 1 cal) 2 y) 3 b1) g) := hD
  refine lv_aload_n hx hb d_M_setYear_16 rfl (lv_at hl 0 rfl) ?_
  refine lv_lload hx hb d_M_setYear_17 (lv_at hl 4 rfl) ?_
  refine va_put (D := D) (cl := CL) (ci := 10) (v := .long (iL b2)) (ty := .long) (C := "DayBookModel") (T := T_M) (N := 19) hx hb hts in_M ty_M ty_M_ok nm_M hown hK hP hD hS 0 rfl rfl 13 (by decide) (hts _ k_959) (fun _ h9 => h9) rfl (by decide +kernel) rfl rfl (Nat.le_of_ble_eq_true rfl) d_M_setYear_19 (fun H locs hP hD hS => ?_)
  have hP : va_P D CL (MWs a ad cx (upF (upF (upF (upF F 1 cal) 2 y) 3 b1) 4 b2) g) H := hP
  have hD : va_D (Ain a ad) (MWs a ad cx (upF (upF (upF (upF F 1 cal) 2 y) 3 b1) 4 b2) g) := hD
  exact mw_vret hx hb hr hlk d_M_setYear_22 hP hS rfl
set_option maxHeartbeats 4000000 in
set_option maxRecDepth 100000 in
theorem ct_M_findPlainYear (l : Launch) (D : va_G) (a : Nat) (ad : Nat → Nat) (cx : Nat → ClassId) (F : Nat → Int) (g : Nat → Nat → Int) (cal : Int) (d : Int) (k : Int) (hcal : cal = 0 ∨ cal = 1 ∨ cal = 3 ∨ cal = 4 ∨ cal = 5 ∨ cal = 6 ∨ cal = 7 ∨ cal = 8 ∨ cal = 12 ∨ cal = 13) (ho : 12 ≤ cal → OwnOK g (Int.toNat (cal - 12))) (hcy : CyOK g cal) (rd : -46000000 ≤ d ∧ d ≤ 46000000) (hk : ysM g cal k ≤ d ∧ d < ysM g cal (k + 1)) : MW l y_M_findPlainYear w_M_findPlainYear 4 92 [.ref a, .int (iI cal), .long (iL d)] D a ad cx F g (QMv D a ad cx (fun u => u = (upF (upF (upF (upF F 1 cal) 2 k) 3 (ysM g cal k)) 4 (ysM g cal (k + 1)), g))) := by
  refine mw_of (by decide +kernel) (Nat.le_of_ble_eq_true rfl) ?_
  intro p e s m below meth c ls hx hb hr hts hown hlk hml hl hN hK hP hD
  have hown : s.vm.findClass "DayBookModel" = some m.cls := hown
  have hl : lv_has ls 12 [(0, .ref a), (1, .int (iI cal)), (2, .long (iL d))] := hl
  have hF : _ ∧ _ ∧ _ ∧ _ ∧ _ ∧ _ := ⟨hx, hb, hml, hown, hts, hN⟩
  have hS : va_S (Ain a ad) s.heap s.heap [] := va_S.rf
  have hdy := hcy.days (plM_rng hcal ho)
  obtain ⟨K, c1, c2, c3, c4⟩ := hcy
  have hcr : 0 ≤ cal ∧ cal < 14 := by omega
  have hst_ := ysM_step hcal ho
  have hI := ysM_inc hcal ho
  have hc0 : cal = 0 ∨ cal = 1 ∨ cal = 3 ∨ cal = 4 ∨ cal = 5 ∨ cal = 6 ∨ cal = 7 ∨ cal = 8 ∨ cal = 9 ∨ cal = 12 ∨ cal = 13 := by omega
  have hep := epM_rng hcal ho
  have hpl := plM_rng hcal ho
  have hS1 : ysM g cal 1 = epM g cal := ys_1 _ _ _
  have hJ77 : ∀ (N : Nat) (H : Heap) (locs : List Loc) (yy : Int) (b1 : Int) (b2 : Int) (ls : Array Slot), va_P D CL (MWs a ad cx F g) H → va_S (Ain a ad) s.heap H locs → lv_has ls 12 [(10, .long (iL b2)), (8, .long (iL b1)), (6, .long (iL yy)), (0, .ref a), (1, .int (iI cal)), (2, .long (iL d))] → (b1 = ysM g cal yy) → (b2 = ysM g cal (yy + 1)) → (ysM g cal yy ≤ d) → (-62000000 ≤ yy) → (d + 1 - b2).toNat < N → W p l e (headSpec w_M_findPlainYear ({ frames := 4, cells := 0, slots := 0, locals := 92 })).room s m [.ref a, .int (iI cal), .long (iL d)].toArray below meth c H locs 0 0 (MQ below (QMv D a ad cx (fun u => u = (upF (upF (upF (upF F 1 cal) 2 k) 3 (ysM g cal k)) 4 (ysM g cal (k + 1)), g))) [.ref a, .int (iI cal), .long (iL d)].toArray s 0 0 (Ain a ad)) (F0 m 77 ls []) := by
    intro N
    induction N with
    | zero => intro _ _ _ _ _ _ _ _ _ _ _ _ _ hm; exact absurd hm (Nat.not_lt_zero _)
    | succ N ih =>
      intro H locs yy b1 b2 ls hP hS hl i1 i2 i3 i4 hm
      have hD : va_D (Ain a ad) (MWs a ad cx F g) := MD.any hD
      have hbb := (ys_bnd hI (by omega) (v := yy)).1 (by omega)
      have hrg := ys_rng2 hcal ho (y := yy) (by omega)
      have hst0 := hst_ yy
      have hst1 := bI_01 (lpM g cal yy)
      refine lv_lload hx hb d_M_findPlainYear_77 (lv_at hl 0 rfl) ?_
      refine lv_lload_n hx hb d_M_findPlainYear_79 rfl (lv_at hl 5 rfl) ?_
      refine ai_lcmp_gt hx hb d_M_findPlainYear_80 d_M_findPlainYear_81 rfl (by omega) (by omega) (fun h80 => ?_) (fun h80 => ?_)
      · skip
        have eyk : yy = k := hI.uniq i3 (by omega) hk.1 hk.2
        refine lv_aload_n hx hb d_M_findPlainYear_123 rfl (lv_at hl 3 rfl) ?_
        refine lv_iload_n hx hb d_M_findPlainYear_124 rfl (lv_at hl 4 rfl) ?_
        refine lv_lload hx hb d_M_findPlainYear_125 (lv_at hl 2 rfl) ?_
        refine lv_lload hx hb d_M_findPlainYear_127 (lv_at hl 1 rfl) ?_
        refine lv_lload hx hb d_M_findPlainYear_129 (lv_at hl 0 rfl) ?_
        refine mw_v (rest := []) (ct_M_setYear l D a ad cx F g cal yy b1 b2) j_M_setYear k_1065 s_M_setYear hF hK hP hD hS (fun _ h => h) rfl hl.1 rfl ⟨Nat.le_of_ble_eq_true rfl, Nat.le_of_ble_eq_true rfl⟩ (Nat.le_of_ble_eq_true rfl) d_M_findPlainYear_131 ⟨Nat.zero_le _, Nat.zero_le _⟩ (fun u131 H locs hΦ131 hP hS => ?_)
        subst hΦ131
        have hP : va_P D CL (MWs a ad cx (upF (upF (upF (upF F 1 cal) 2 yy) 3 b1) 4 b2) g) H := hP
        have hD : va_D (Ain a ad) (MWs a ad cx (upF (upF (upF (upF F 1 cal) 2 yy) 3 b1) 4 b2) g) := MD.any hD
        exact mw_vret hx hb hr hlk d_M_findPlainYear_134 hP hS (by show (_ : Ms) = (_ : Ms); rw [i1, i2, eyk])
      · skip
        refine lv_lload hx hb d_M_findPlainYear_84 (lv_at hl 2 rfl) ?_
        refine ai_lconst (x := 1) hx hb d_M_findPlainYear_86 (by decide +kernel) ?_
        refine ai_ladd hx hb d_M_findPlainYear_87 ?_
        refine ai_nmL hx hb (fun v88 e88 => ?_)
        refine lv_lstore (lv' := [(6, .long (iL v88)), (10, .long (iL b2)), (8, .long (iL b1)), (0, .ref a), (1, .int (iI cal)), (2, .long (iL d))]) hx hb d_M_findPlainYear_88 hl (by decide) rfl (fun ls hl => ?_)
        refine lv_lload hx hb d_M_findPlainYear_90 (lv_at hl 1 rfl) ?_
        refine lv_lstore (lv' := [(8, .long (iL b2)), (6, .long (iL v88)), (10, .long (iL b2)), (0, .ref a), (1, .int (iI cal)), (2, .long (iL d))]) hx hb d_M_findPlainYear_92 hl (by decide) rfl (fun ls hl => ?_)
        refine lv_lload hx hb d_M_findPlainYear_94 (lv_at hl 0 rfl) ?_
        refine lv_aload_n hx hb d_M_findPlainYear_96 rfl (lv_at hl 3 rfl) ?_
        refine lv_iload_n hx hb d_M_findPlainYear_97 rfl (lv_at hl 4 rfl) ?_
        refine ro_V (rest := [.long (iL b2)]) (ct_M_plainLength l D a ad cx F g cal hcal ho) j_M_plainLength k_911 (hts _ s_M_plainLength) hF (va_recv (q0 := 0) (ci := 10) hK hP rfl rfl) rfl hl.1 rfl ⟨Nat.le_of_ble_eq_true rfl, Nat.le_of_ble_eq_true rfl⟩ (Nat.le_of_ble_eq_true rfl) d_M_findPlainYear_98 ⟨Nat.zero_le _, Nat.zero_le _⟩ MdB.m (fun U h1 h2 => ⟨va_K.moved h2.alike hK, by rw [h1]; exact hP⟩) ?_
        refine ai_ladd hx hb d_M_findPlainYear_101 ?_
        refine lv_aload_n hx hb d_M_findPlainYear_102 rfl (lv_at hl 3 rfl) ?_
        refine lv_iload_n hx hb d_M_findPlainYear_103 rfl (lv_at hl 4 rfl) ?_
        refine lv_lload hx hb d_M_findPlainYear_104 (lv_at hl 1 rfl) ?_
        refine ro_V (rest := [.long (iL (b2 + (plM g cal)))]) (ct_M_isLeap l D a ad cx F g cal v88 hc0 ho (by omega)) j_M_isLeap k_917 (hts _ s_M_isLeap) hF (va_recv (q0 := 0) (ci := 10) hK hP rfl rfl) rfl hl.1 rfl ⟨Nat.le_of_ble_eq_true rfl, Nat.le_of_ble_eq_true rfl⟩ (Nat.le_of_ble_eq_true rfl) d_M_findPlainYear_106 ⟨Nat.zero_le _, Nat.zero_le _⟩ MdB.m (fun U h1 h2 => ⟨va_K.moved h2.alike hK, by rw [h1]; exact hP⟩) ?_
        refine ai_ifeqB hx hb d_M_findPlainYear_109 rfl (fun h109 => ?_) (fun h109 => ?_)
        · skip
          refine ai_lconst (x := 0) hx hb d_M_findPlainYear_116 (by decide +kernel) ?_
          refine ai_ladd hx hb d_M_findPlainYear_117 ?_
          refine ai_nmL hx hb (fun v118 e118 => ?_)
          refine lv_lstore (lv' := [(10, .long (iL v118)), (8, .long (iL b2)), (6, .long (iL v88)), (0, .ref a), (1, .int (iI cal)), (2, .long (iL d))]) hx hb d_M_findPlainYear_118 hl (by decide) rfl (fun ls hl => ?_)
          refine lv_goto hx hb d_M_findPlainYear_120 rfl ?_
          exact ih _ _ v88 b2 v118 _ hP hS (lv_sub hl [0, 1, 2, 3, 4, 5] rfl) (by rw [e88]; omega) (by have q := hst_ v88; have q3 : ysM g cal v88 = b2 := (by rw [e88, i2]); first | (rw [bI_t h109] at q; omega) | (rw [bI_f h109] at q; omega)) (by rw [e88]; omega) (by omega) (by omega)
        · skip
          refine ai_lconst (x := 1) hx hb d_M_findPlainYear_112 (by decide +kernel) ?_
          refine lv_goto hx hb d_M_findPlainYear_113 rfl ?_
          refine ai_ladd hx hb d_M_findPlainYear_117 ?_
          refine ai_nmL hx hb (fun v118 e118 => ?_)
          refine lv_lstore (lv' := [(10, .long (iL v118)), (8, .long (iL b2)), (6, .long (iL v88)), (0, .ref a), (1, .int (iI cal)), (2, .long (iL d))]) hx hb d_M_findPlainYear_118 hl (by decide) rfl (fun ls hl => ?_)
          refine lv_goto hx hb d_M_findPlainYear_120 rfl ?_
          exact ih _ _ v88 b2 v118 _ hP hS (lv_sub hl [0, 1, 2, 3, 4, 5] rfl) (by rw [e88]; omega) (by have q := hst_ v88; have q3 : ysM g cal v88 = b2 := (by rw [e88, i2]); first | (rw [bI_t h109] at q; omega) | (rw [bI_f h109] at q; omega)) (by rw [e88]; omega) (by omega) (by omega)
  refine lv_lload_n hx hb d_M_findPlainYear_0 rfl (lv_at hl 2 rfl) ?_
  refine lv_aload_n hx hb d_M_findPlainYear_1 rfl (lv_at hl 0 rfl) ?_
  refine lv_iload_n hx hb d_M_findPlainYear_2 rfl (lv_at hl 1 rfl) ?_
  refine ro_V (rest := [.long (iL d)]) (ct_M_epoch l D a ad cx F g cal hcal) j_M_epoch k_1056 (hts _ s_M_epoch) hF (va_recv (q0 := 0) (ci := 10) hK hP rfl rfl) rfl hl.1 rfl ⟨Nat.le_of_ble_eq_true rfl, Nat.le_of_ble_eq_true rfl⟩ (Nat.le_of_ble_eq_true rfl) d_M_findPlainYear_3 ⟨Nat.zero_le _, Nat.zero_le _⟩ MdB.m (fun U h1 h2 => ⟨va_K.moved h2.alike hK, by rw [h1]; exact hP⟩) ?_
  refine ai_i2l hx hb d_M_findPlainYear_6 (by omega) ?_
  refine ai_lsub hx hb d_M_findPlainYear_7 ?_
  refine lv_aload_n hx hb d_M_findPlainYear_8 rfl (lv_at hl 0 rfl) ?_
  refine va_get (D := D) (cl := CL) (ci := 10) (v := .ref (ad 1)) (C := "DayBookModel") (T := T_M) (N := 19) hx hb hts in_M hown hK hP 0 rfl rfl 2 (by decide) (hts _ k_948) (fun _ h9 => h9) rfl d_M_findPlainYear_9 ?_
  refine lv_iload_n hx hb d_M_findPlainYear_12 rfl (lv_at hl 1 rfl) ?_
  refine ma_lld hx hb hK hP 2 1 rfl rfl (h := g 1) (by omega) (by decide) d_M_findPlainYear_13 ?_
  refine ro_S (rest := []) (ct_M_div l (d - (epM g cal)) (g 1 (Int.toNat cal)) (by omega) (by omega)) j_M_div k_928 hF rfl hl.1 rfl ⟨Nat.le_of_ble_eq_true rfl, Nat.le_of_ble_eq_true rfl⟩ (Nat.le_of_ble_eq_true rfl) d_M_findPlainYear_14 ⟨Nat.zero_le _, Nat.zero_le _⟩ Bm_true (fun _ _ _ => trivial) ?_
  refine ai_nmL hx hb (fun v17 e17 => ?_)
  refine lv_lstore (lv' := [(4, .long (iL v17)), (0, .ref a), (1, .int (iI cal)), (2, .long (iL d))]) hx hb d_M_findPlainYear_17 hl (by decide) rfl (fun ls hl => ?_)
  have hq1 := Int.mul_ediv_add_emod (d - epM g cal) (g 1 (Int.toNat cal))
  have hq2 := md_rng (x := d - epM g cal) (n := g 1 (Int.toNat cal)) (by omega)
  rw [← e17] at hq1
  have hq3 : v17 * g 1 (Int.toNat cal) = g 1 (Int.toNat cal) * v17 := Int.mul_comm _ _
  have hq4 : ysM g cal (v17 * g 0 (Int.toNat cal) + 1) = epM g cal + v17 * g 1 (Int.toNat cal) := by have q := ys_cyc (ep := epM g cal) (pd := plM g cal) c4 v17; rw [← c3] at q; exact q
  refine lv_lload hx hb d_M_findPlainYear_19 (lv_at hl 0 rfl) ?_
  refine lv_aload_n hx hb d_M_findPlainYear_21 rfl (lv_at hl 1 rfl) ?_
  refine va_get (D := D) (cl := CL) (ci := 10) (v := .ref (ad 0)) (C := "DayBookModel") (T := T_M) (N := 19) hx hb hts in_M hown hK hP 0 rfl rfl 1 (by decide) (hts _ k_947) (fun _ h9 => h9) rfl d_M_findPlainYear_22 ?_
  refine lv_iload_n hx hb d_M_findPlainYear_25 rfl (lv_at hl 2 rfl) ?_
  refine ma_ild hx hb hK hP 1 0 rfl rfl (h := g 0) (by omega) (by decide) d_M_findPlainYear_26 ?_
  refine ai_i2l hx hb d_M_findPlainYear_27 (by omega) ?_
  refine ai_lmul hx hb d_M_findPlainYear_28 ?_
  refine ai_lconst (x := 1) hx hb d_M_findPlainYear_29 (by decide +kernel) ?_
  refine ai_ladd hx hb d_M_findPlainYear_30 ?_
  refine ai_nmL hx hb (fun v31 e31 => ?_)
  refine lv_lstore (lv' := [(6, .long (iL v31)), (4, .long (iL v17)), (0, .ref a), (1, .int (iI cal)), (2, .long (iL d))]) hx hb d_M_findPlainYear_31 hl (by decide) rfl (fun ls hl => ?_)
  rw [← e31] at hq4
  have hbb := ys_bnd hI (by omega) (v := v31)
  have hb1 := hbb.1 (by omega)
  have hb2 := hbb.2 (by omega)
  refine lv_aload_n hx hb d_M_findPlainYear_33 rfl (lv_at hl 2 rfl) ?_
  refine lv_iload_n hx hb d_M_findPlainYear_34 rfl (lv_at hl 3 rfl) ?_
  refine ro_V (rest := []) (ct_M_epoch l D a ad cx F g cal hcal) j_M_epoch k_1056 (hts _ s_M_epoch) hF (va_recv (q0 := 0) (ci := 10) hK hP rfl rfl) rfl hl.1 rfl ⟨Nat.le_of_ble_eq_true rfl, Nat.le_of_ble_eq_true rfl⟩ (Nat.le_of_ble_eq_true rfl) d_M_findPlainYear_35 ⟨Nat.zero_le _, Nat.zero_le _⟩ MdB.m (fun U h1 h2 => ⟨va_K.moved h2.alike hK, by rw [h1]; exact hP⟩) ?_
  refine ai_i2l hx hb d_M_findPlainYear_38 (by omega) ?_
  refine lv_lload hx hb d_M_findPlainYear_39 (lv_at hl 1 rfl) ?_
  refine lv_aload_n hx hb d_M_findPlainYear_41 rfl (lv_at hl 2 rfl) ?_
  refine va_get (D := D) (cl := CL) (ci := 10) (v := .ref (ad 1)) (C := "DayBookModel") (T := T_M) (N := 19) hx hb hts in_M hown hK hP 0 rfl rfl 2 (by decide) (hts _ k_948) (fun _ h9 => h9) rfl d_M_findPlainYear_42 ?_
  refine lv_iload_n hx hb d_M_findPlainYear_45 rfl (lv_at hl 3 rfl) ?_
  refine ma_lld hx hb hK hP 2 1 rfl rfl (h := g 1) (by omega) (by decide) d_M_findPlainYear_46 ?_
  refine ai_lmul hx hb d_M_findPlainYear_47 ?_
  refine ai_ladd hx hb d_M_findPlainYear_48 ?_
  refine ai_nmL hx hb (fun v49 e49 => ?_)
  refine lv_lstore (lv' := [(8, .long (iL v49)), (6, .long (iL v31)), (4, .long (iL v17)), (0, .ref a), (1, .int (iI cal)), (2, .long (iL d))]) hx hb d_M_findPlainYear_49 hl (by decide) rfl (fun ls hl => ?_)
  refine lv_lload hx hb d_M_findPlainYear_51 (lv_at hl 0 rfl) ?_
  refine lv_aload_n hx hb d_M_findPlainYear_53 rfl (lv_at hl 3 rfl) ?_
  refine lv_iload_n hx hb d_M_findPlainYear_54 rfl (lv_at hl 4 rfl) ?_
  refine ro_V (rest := [.long (iL v49)]) (ct_M_plainLength l D a ad cx F g cal hcal ho) j_M_plainLength k_911 (hts _ s_M_plainLength) hF (va_recv (q0 := 0) (ci := 10) hK hP rfl rfl) rfl hl.1 rfl ⟨Nat.le_of_ble_eq_true rfl, Nat.le_of_ble_eq_true rfl⟩ (Nat.le_of_ble_eq_true rfl) d_M_findPlainYear_55 ⟨Nat.zero_le _, Nat.zero_le _⟩ MdB.m (fun U h1 h2 => ⟨va_K.moved h2.alike hK, by rw [h1]; exact hP⟩) ?_
  refine ai_ladd hx hb d_M_findPlainYear_58 ?_
  refine lv_aload_n hx hb d_M_findPlainYear_59 rfl (lv_at hl 3 rfl) ?_
  refine lv_iload_n hx hb d_M_findPlainYear_60 rfl (lv_at hl 4 rfl) ?_
  refine lv_lload hx hb d_M_findPlainYear_61 (lv_at hl 1 rfl) ?_
  refine ro_V (rest := [.long (iL (v49 + (plM g cal)))]) (ct_M_isLeap l D a ad cx F g cal v31 hc0 ho (by omega)) j_M_isLeap k_917 (hts _ s_M_isLeap) hF (va_recv (q0 := 0) (ci := 10) hK hP rfl rfl) rfl hl.1 rfl ⟨Nat.le_of_ble_eq_true rfl, Nat.le_of_ble_eq_true rfl⟩ (Nat.le_of_ble_eq_true rfl) d_M_findPlainYear_63 ⟨Nat.zero_le _, Nat.zero_le _⟩ MdB.m (fun U h1 h2 => ⟨va_K.moved h2.alike hK, by rw [h1]; exact hP⟩) ?_
  refine ai_ifeqB hx hb d_M_findPlainYear_66 rfl (fun h66 => ?_) (fun h66 => ?_)
  · skip
    refine ai_lconst (x := 0) hx hb d_M_findPlainYear_73 (by decide +kernel) ?_
    refine ai_ladd hx hb d_M_findPlainYear_74 ?_
    refine ai_nmL hx hb (fun v75 e75 => ?_)
    refine lv_lstore (lv' := [(10, .long (iL v75)), (8, .long (iL v49)), (6, .long (iL v31)), (4, .long (iL v17)), (0, .ref a), (1, .int (iI cal)), (2, .long (iL d))]) hx hb d_M_findPlainYear_75 hl (by decide) rfl (fun ls hl => ?_)
    exact hJ77 _ _ _ v31 v49 v75 _ hP hS (lv_sub hl [0, 1, 2, 4, 5, 6] rfl) (by rw [e49, hq4]) (by have q := hst_ v31; rw [e75]; first | (rw [bI_t h66] at q; omega) | (rw [bI_f h66] at q; omega)) (by rw [hq4]; omega) (by omega) (Nat.lt_succ_self _)
  · skip
    refine ai_lconst (x := 1) hx hb d_M_findPlainYear_69 (by decide +kernel) ?_
    refine lv_goto hx hb d_M_findPlainYear_70 rfl ?_
    refine ai_ladd hx hb d_M_findPlainYear_74 ?_
    refine ai_nmL hx hb (fun v75 e75 => ?_)
    refine lv_lstore (lv' := [(10, .long (iL v75)), (8, .long (iL v49)), (6, .long (iL v31)), (4, .long (iL v17)), (0, .ref a), (1, .int (iI cal)), (2, .long (iL d))]) hx hb d_M_findPlainYear_75 hl (by decide) rfl (fun ls hl => ?_)
    exact hJ77 _ _ _ v31 v49 v75 _ hP hS (lv_sub hl [0, 1, 2, 4, 5, 6] rfl) (by rw [e49, hq4]) (by have q := hst_ v31; rw [e75]; first | (rw [bI_t h66] at q; omega) | (rw [bI_f h66] at q; omega)) (by rw [hq4]; omega) (by omega) (Nat.lt_succ_self _)
