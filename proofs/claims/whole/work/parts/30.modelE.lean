/-! 30.modelE: laid by program (wip/whole) -/
def isY (x : Int) : Prop := x = 9 ∨ x = 2 ∨ x = 0 ∨ x = 1 ∨ x = 3 ∨ x = 4 ∨ x = 5 ∨ x = 6 ∨ x = 7 ∨ x = 8 ∨ x = 12 ∨ x = 13
/-- what the reference keeps of the last year is that year's -/
def CacheOK (F : Nat → Int) (g : Nat → Nat → Int) : Prop := F 1 = -2147483648 ∨ (isY (F 1) ∧ (-250000000 ≤ F 2 ∧ F 2 ≤ 250000000) ∧ F 3 = stM g (F 1) (F 2) ∧ F 4 = stM g (F 1) (F 2 + 1))
theorem stM_9 (g : Nat → Nat → Int) : stM g 9 = hst := rfl
theorem stM_2 (g : Nat → Nat → Int) : stM g 2 = wst (ysM g 0) := rfl
theorem stM_p {g : Nat → Nat → Int} {cal : Int} (h9 : cal ≠ 9) (h2 : cal ≠ 2) : stM g cal = ysM g cal := by
  funext y
  unfold stM
  rw [if_neg h9, if_neg h2]
theorem ysM0_step (g : Nat → Nat → Int) (y : Int) : ysM g 0 y + 365 ≤ ysM g 0 (y + 1) ∧ ysM g 0 (y + 1) ≤ ysM g 0 y + 366 := by
  have h := ysM_step (g := g) (cal := 0) (by decide) (fun h => absurd h (by decide)) y
  have e : plM g 0 = 365 := rfl
  have b := bI_01 (lpM g 0 y)
  omega
theorem stM_inc {g : Nat → Nat → Int} {cal : Int} (hcal : cal = 9 ∨ cal = 2 ∨ cal = 0 ∨ cal = 1 ∨ cal = 3 ∨ cal = 4 ∨ cal = 5 ∨ cal = 6 ∨ cal = 7 ∨ cal = 8 ∨ cal = 12 ∨ cal = 13) (ho : 12 ≤ cal → OwnOK g (Int.toNat (cal - 12))) : Inc (stM g cal) := by
  by_cases h9 : cal = 9
  · subst h9; rw [stM_9]; exact hst_inc
  · by_cases h2 : cal = 2
    · subst h2
      rw [stM_2]
      intro y
      have h := ysM0_step g y
      have := wst_len (S := ysM g 0) y h.1 h.2
      omega
    · rw [stM_p h9 h2]
      exact ysM_inc (by omega) ho
theorem stM_rng {g : Nat → Nat → Int} {cal : Int} (hcal : cal = 9 ∨ cal = 2 ∨ cal = 0 ∨ cal = 1 ∨ cal = 3 ∨ cal = 4 ∨ cal = 5 ∨ cal = 6 ∨ cal = 7 ∨ cal = 8 ∨ cal = 12 ∨ cal = 13) (ho : 12 ≤ cal → OwnOK g (Int.toNat (cal - 12))) {y : Int} (hy : -260000000 ≤ y ∧ y ≤ 260000000) : -2000000000000000 ≤ stM g cal y ∧ stM g cal y ≤ 2000000000000000 := by
  by_cases h9 : cal = 9
  · subst h9; rw [stM_9]; have := hst_rng (y := y) (by omega); omega
  · by_cases h2 : cal = 2
    · subst h2
      rw [stM_2]
      have := ys_rng2 (g := g) (cal := 0) (by decide) (fun h => absurd h (by decide)) (y := y) (by omega)
      unfold wst
      omega
    · rw [stM_p h9 h2]
      have := ys_rng2 (g := g) (cal := cal) (by omega) ho (y := y) (by omega)
      omega
theorem hst1_rng : -2000000 ≤ hst 1 ∧ hst 1 ≤ 2000000 := by
  have a := bI_01 ((3 * hea (hmo 1) + 3) % 7 < 3)
  have b : -1000 ≤ hel 1 ∧ hel 1 ≤ 1000 := by unfold hel hpo; unfold hea hmo at a ⊢; omega
  unfold hst hla
  split
  · omega
  · split <;> omega
theorem st_bnd {S : Int → Int} (h : Inc S) (h1 : -2000010 ≤ S 1 ∧ S 1 ≤ 2000010) {v : Int} : (S v ≤ 50000000 → v ≤ 53000000) ∧ (-60000000 ≤ S v → -63000000 ≤ v) := by
  refine ⟨fun q => ?_, fun q => ?_⟩
  · by_cases z : 1 ≤ v
    · have := h.gap z; omega
    · omega
  · by_cases z : v ≤ 1
    · have := h.gap z; omega
    · omega
theorem stM1_rng {g : Nat → Nat → Int} {cal : Int} (hcal : cal = 9 ∨ cal = 2 ∨ cal = 0 ∨ cal = 1 ∨ cal = 3 ∨ cal = 4 ∨ cal = 5 ∨ cal = 6 ∨ cal = 7 ∨ cal = 8 ∨ cal = 12 ∨ cal = 13) (ho : 12 ≤ cal → OwnOK g (Int.toNat (cal - 12))) : -2000010 ≤ stM g cal 1 ∧ stM g cal 1 ≤ 2000010 := by
  by_cases h9 : cal = 9
  · subst h9; rw [stM_9]; have := hst1_rng; omega
  · by_cases h2 : cal = 2
    · subst h2
      rw [stM_2]
      have e : ysM g 0 1 = epM g 0 := ys_1 _ _ _
      have e2 : epM g 0 = 1 := rfl
      unfold wst
      omega
    · rw [stM_p h9 h2]
      have e : ysM g cal 1 = epM g cal := ys_1 _ _ _
      have := epM_rng (g := g) (cal := cal) (by omega) ho
      omega
set_option maxHeartbeats 4000000 in
set_option maxRecDepth 100000 in
theorem ct_M_findYear (l : Launch) (D : va_G) (a : Nat) (ad : Nat → Nat) (cx : Nat → ClassId) (F : Nat → Int) (g : Nat → Nat → Int) (cal : Int) (d : Int) (k : Int) (hcal : cal = 9 ∨ cal = 2 ∨ cal = 0 ∨ cal = 1 ∨ cal = 3 ∨ cal = 4 ∨ cal = 5 ∨ cal = 6 ∨ cal = 7 ∨ cal = 8 ∨ cal = 12 ∨ cal = 13) (ho : 12 ≤ cal → OwnOK g (Int.toNat (cal - 12))) (hcy0 : CyOK g 0) (hcy : cal ≠ 9 → cal ≠ 2 → CyOK g cal) (hca : CacheOK F g) (rd : -46000000 ≤ d ∧ d ≤ 46000000) (hk : stM g cal k ≤ d ∧ d < stM g cal (k + 1)) : MW l y_M_findYear w_M_findYear 6 146 [.ref a, .int (iI cal), .long (iL d)] D a ad cx F g (QMv D a ad cx (fun u => u = (upF (upF (upF (upF F 1 cal) 2 k) 3 (stM g cal k)) 4 (stM g cal (k + 1)), g))) := by
  refine mw_of (by decide +kernel) (Nat.le_of_ble_eq_true rfl) ?_
  intro p e s m below meth c ls hx hb hr hts hown hlk hml hl hN hK hP hD
  have hown : s.vm.findClass "DayBookModel" = some m.cls := hown
  have hl : lv_has ls 6 [(0, .ref a), (1, .int (iI cal)), (2, .long (iL d))] := hl
  have hF : _ ∧ _ ∧ _ ∧ _ ∧ _ ∧ _ := ⟨hx, hb, hml, hown, hts, hN⟩
  have hS : va_S (Ain a ad) s.heap s.heap [] := va_S.rf
  have hcr : 0 ≤ cal ∧ cal < 14 := by omega
  have hIs := stM_inc hcal ho
  have h1r := stM1_rng hcal ho
  have hI0 := ysM_inc (g := g) (cal := 0) (by decide) (fun h => absurd h (by decide))
  obtain ⟨k0, hk0⟩ := hI0.ex d
  have hb0 := ys_bnd hI0 (by have e : ysM g 0 1 = epM g 0 := ys_1 _ _ _; have e2 : epM g 0 = 1 := rfl; omega) (v := k0)
  have hb01 := hb0.1 (by omega)
  have hs0 := ysM0_step g k0
  have hb02 := hb0.2 (by omega)
  have hkb := st_bnd hIs h1r (v := k)
  have hkb1 := hkb.1 (by omega)
  have hkb2 := (st_bnd hIs h1r (v := k + 1)).2 (by omega)
  have hF1 : -2147483648 ≤ F 1 ∧ F 1 ≤ 100 := by rcases hca with q | ⟨q, -⟩; omega; unfold isY at q; omega
  have hJ86 : ∀ (H : Heap) (locs : List Loc) (yy : Int) (ls : Array Slot), va_P D CL (MWs a ad cx (upF (upF (upF (upF F 1 0) 2 k0) 3 (ysM g 0 k0)) 4 (ysM g 0 (k0 + 1))) g) H → va_S (Ain a ad) s.heap H locs → lv_has ls 6 [(0, .ref a), (1, .int (iI cal)), (2, .long (iL d))] → (cal = 2) → (yy = k) → W p l e (headSpec w_M_findYear ({ frames := 6, cells := 0, slots := 0, locals := 146 })).room s m [.ref a, .int (iI cal), .long (iL d)].toArray below meth c H locs 0 0 (MQ below (QMv D a ad cx (fun u => u = (upF (upF (upF (upF F 1 cal) 2 k) 3 (stM g cal k)) 4 (stM g cal (k + 1)), g))) [.ref a, .int (iI cal), .long (iL d)].toArray s 0 0 (Ain a ad)) (F0 m 86 ls [.long (iL yy)]) := by
    intro H locs yy ls hP hS hl hc2 eyk
    have hD : va_D (Ain a ad) (MWs a ad cx (upF (upF (upF (upF F 1 0) 2 k0) 3 (ysM g 0 k0)) 4 (ysM g 0 (k0 + 1))) g) := MD.any hD
    refine lv_lstore (lv' := [(4, .long (iL yy)), (0, .ref a), (1, .int (iI cal)), (2, .long (iL d))]) hx hb d_M_findYear_86 hl (by decide) rfl (fun ls hl => ?_)
    refine lv_aload_n hx hb d_M_findYear_88 rfl (lv_at hl 1 rfl) ?_
    refine ai_iconst hx hb d_M_findYear_89 ?_
    refine lv_lload hx hb d_M_findYear_90 (lv_at hl 0 rfl) ?_
    refine lv_aload_n hx hb d_M_findYear_92 rfl (lv_at hl 1 rfl) ?_
    refine ai_iconst hx hb d_M_findYear_93 ?_
    refine lv_lload hx hb d_M_findYear_94 (lv_at hl 0 rfl) ?_
    refine ro_V (rest := [.long (iL yy), .int (iI 2), .ref a]) (ct_M_start l D a ad cx (upF (upF (upF (upF F 1 0) 2 k0) 3 (ysM g 0 k0)) 4 (ysM g 0 (k0 + 1))) g 2 yy (by decide) (fun h => absurd h (by decide)) (fun _ => hcy0) (by omega)) j_M_start k_1069 (hts _ s_M_start) hF (va_recv (q0 := 0) (ci := 10) hK hP rfl rfl) rfl hl.1 rfl ⟨Nat.le_of_ble_eq_true rfl, Nat.le_of_ble_eq_true rfl⟩ (Nat.le_of_ble_eq_true rfl) d_M_findYear_96 ⟨Nat.zero_le _, Nat.zero_le _⟩ MdB.m (fun U h1 h2 => ⟨va_K.moved h2.alike hK, by rw [h1]; exact hP⟩) ?_
    refine lv_aload_n hx hb d_M_findYear_99 rfl (lv_at hl 1 rfl) ?_
    refine ai_iconst hx hb d_M_findYear_100 ?_
    refine lv_lload hx hb d_M_findYear_101 (lv_at hl 0 rfl) ?_
    refine ai_lconst (x := 1) hx hb d_M_findYear_103 (by decide +kernel) ?_
    refine ai_ladd hx hb d_M_findYear_104 ?_
    refine ro_V (rest := [.long (iL (stM g 2 yy)), .long (iL yy), .int (iI 2), .ref a]) (ct_M_start l D a ad cx (upF (upF (upF (upF F 1 0) 2 k0) 3 (ysM g 0 k0)) 4 (ysM g 0 (k0 + 1))) g 2 (yy + 1) (by decide) (fun h => absurd h (by decide)) (fun _ => hcy0) (by omega)) j_M_start k_1069 (hts _ s_M_start) hF (va_recv (q0 := 0) (ci := 10) hK hP rfl rfl) rfl hl.1 rfl ⟨Nat.le_of_ble_eq_true rfl, Nat.le_of_ble_eq_true rfl⟩ (Nat.le_of_ble_eq_true rfl) d_M_findYear_105 ⟨Nat.zero_le _, Nat.zero_le _⟩ MdB.m (fun U h1 h2 => ⟨va_K.moved h2.alike hK, by rw [h1]; exact hP⟩) ?_
    refine mw_v (rest := []) (ct_M_setYear l D a ad cx (upF (upF (upF (upF F 1 0) 2 k0) 3 (ysM g 0 k0)) 4 (ysM g 0 (k0 + 1))) g 2 yy (stM g 2 yy) (stM g 2 (yy + 1))) j_M_setYear k_1065 s_M_setYear hF hK hP hD hS (fun _ h => h) rfl hl.1 rfl ⟨Nat.le_of_ble_eq_true rfl, Nat.le_of_ble_eq_true rfl⟩ (Nat.le_of_ble_eq_true rfl) d_M_findYear_108 ⟨Nat.zero_le _, Nat.zero_le _⟩ (fun u108 H locs hΦ108 hP hS => ?_)
    subst hΦ108
    have hP : va_P D CL (MWs a ad cx (upF (upF (upF (upF (upF (upF (upF (upF F 1 0) 2 k0) 3 (ysM g 0 k0)) 4 (ysM g 0 (k0 + 1))) 1 2) 2 yy) 3 (stM g 2 yy)) 4 (stM g 2 (yy + 1))) g) H := hP
    have hD : va_D (Ain a ad) (MWs a ad cx (upF (upF (upF (upF (upF (upF (upF (upF F 1 0) 2 k0) 3 (ysM g 0 k0)) 4 (ysM g 0 (k0 + 1))) 1 2) 2 yy) 3 (stM g 2 yy)) 4 (stM g 2 (yy + 1))) g) := MD.any hD
    refine lv_goto hx hb d_M_findYear_111 rfl ?_
    exact mw_vret hx hb hr hlk d_M_findYear_206 hP hS (by show (_ : Ms) = (_ : Ms); first | (rw [upF_over, eyk, hc2]; done) | (rw [eyk, hc9]; rfl) | (rw [hsp]))
  have hJ158 : ∀ (N : Nat) (H : Heap) (locs : List Loc) (yy : Int) (ls : Array Slot), va_P D CL (MWs a ad cx F g) H → va_S (Ain a ad) s.heap H locs → lv_has ls 6 [(4, .long (iL yy)), (0, .ref a), (1, .int (iI cal)), (2, .long (iL d))] → (cal = 9) → (d < hst (yy + 1)) → (-64000000 ≤ yy ∧ yy ≤ 60000000) → (hst yy - d).toNat < N → W p l e (headSpec w_M_findYear ({ frames := 6, cells := 0, slots := 0, locals := 146 })).room s m [.ref a, .int (iI cal), .long (iL d)].toArray below meth c H locs 0 0 (MQ below (QMv D a ad cx (fun u => u = (upF (upF (upF (upF F 1 cal) 2 k) 3 (stM g cal k)) 4 (stM g cal (k + 1)), g))) [.ref a, .int (iI cal), .long (iL d)].toArray s 0 0 (Ain a ad)) (F0 m 158 ls []) := by
    intro N
    induction N with
    | zero => intro _ _ _ _ _ _ _ _ _ _ hm; exact absurd hm (Nat.not_lt_zero _)
    | succ N ih =>
      intro H locs yy ls hP hS hl hc9 j1 j2 hm
      have hD : va_D (Ain a ad) (MWs a ad cx F g) := MD.any hD
      have r1 := hst_rng (y := yy) (by omega)
      have hm1 := hst_inc (yy - 1)
      rw [show yy - 1 + 1 = yy by omega] at hm1
      have hbd := st_bnd hst_inc (by have := hst1_rng; omega) (v := yy)
      refine lv_lload hx hb d_M_findYear_158 (lv_at hl 0 rfl) ?_
      refine ro_S (rest := []) (ct_M_moonStart l yy (by omega)) j_M_moonStart k_1073 hF rfl hl.1 rfl ⟨Nat.le_of_ble_eq_true rfl, Nat.le_of_ble_eq_true rfl⟩ (Nat.le_of_ble_eq_true rfl) d_M_findYear_160 ⟨Nat.zero_le _, Nat.zero_le _⟩ Bm_true (fun _ _ _ => trivial) ?_
      refine lv_lload_n hx hb d_M_findYear_163 rfl (lv_at hl 3 rfl) ?_
      refine ai_lcmp_le hx hb d_M_findYear_164 d_M_findYear_165 rfl (by omega) (by omega) (fun h164 => ?_) (fun h164 => ?_)
      · skip
        have wk := hk
        rw [show stM g cal = hst by rw [hc9]; rfl] at wk
        have eyk : yy = k := hst_inc.uniq (by omega) (by omega) wk.1 wk.2
        refine lv_aload_n hx hb d_M_findYear_177 rfl (lv_at hl 1 rfl) ?_
        refine ai_bipush (x := 9) hx hb d_M_findYear_178 (by decide +kernel) ?_
        refine lv_lload hx hb d_M_findYear_180 (lv_at hl 0 rfl) ?_
        refine lv_lload hx hb d_M_findYear_182 (lv_at hl 0 rfl) ?_
        refine ro_S (rest := [.long (iL yy), .int (iI 9), .ref a]) (ct_M_moonStart l yy (by omega)) j_M_moonStart k_1073 hF rfl hl.1 rfl ⟨Nat.le_of_ble_eq_true rfl, Nat.le_of_ble_eq_true rfl⟩ (Nat.le_of_ble_eq_true rfl) d_M_findYear_184 ⟨Nat.zero_le _, Nat.zero_le _⟩ Bm_true (fun _ _ _ => trivial) ?_
        refine lv_lload hx hb d_M_findYear_187 (lv_at hl 0 rfl) ?_
        refine ai_lconst (x := 1) hx hb d_M_findYear_189 (by decide +kernel) ?_
        refine ai_ladd hx hb d_M_findYear_190 ?_
        refine ro_S (rest := [.long (iL (hst yy)), .long (iL yy), .int (iI 9), .ref a]) (ct_M_moonStart l (yy + 1) (by omega)) j_M_moonStart k_1073 hF rfl hl.1 rfl ⟨Nat.le_of_ble_eq_true rfl, Nat.le_of_ble_eq_true rfl⟩ (Nat.le_of_ble_eq_true rfl) d_M_findYear_191 ⟨Nat.zero_le _, Nat.zero_le _⟩ Bm_true (fun _ _ _ => trivial) ?_
        refine mw_v (rest := []) (ct_M_setYear l D a ad cx F g 9 yy (hst yy) (hst (yy + 1))) j_M_setYear k_1065 s_M_setYear hF hK hP hD hS (fun _ h => h) rfl hl.1 rfl ⟨Nat.le_of_ble_eq_true rfl, Nat.le_of_ble_eq_true rfl⟩ (Nat.le_of_ble_eq_true rfl) d_M_findYear_194 ⟨Nat.zero_le _, Nat.zero_le _⟩ (fun u194 H locs hΦ194 hP hS => ?_)
        subst hΦ194
        have hP : va_P D CL (MWs a ad cx (upF (upF (upF (upF F 1 9) 2 yy) 3 (hst yy)) 4 (hst (yy + 1))) g) H := hP
        have hD : va_D (Ain a ad) (MWs a ad cx (upF (upF (upF (upF F 1 9) 2 yy) 3 (hst yy)) 4 (hst (yy + 1))) g) := MD.any hD
        refine lv_goto hx hb d_M_findYear_197 rfl ?_
        exact mw_vret hx hb hr hlk d_M_findYear_206 hP hS (by show (_ : Ms) = (_ : Ms); first | (rw [upF_over, eyk, hc2]; done) | (rw [eyk, hc9]; rfl) | (rw [hsp]))
      · skip
        refine lv_lload hx hb d_M_findYear_168 (lv_at hl 0 rfl) ?_
        refine ai_lconst (x := 1) hx hb d_M_findYear_170 (by decide +kernel) ?_
        refine ai_lsub hx hb d_M_findYear_171 ?_
        refine ai_nmL hx hb (fun v172 e172 => ?_)
        refine lv_lstore (lv' := [(4, .long (iL v172)), (0, .ref a), (1, .int (iI cal)), (2, .long (iL d))]) hx hb d_M_findYear_172 hl (by decide) rfl (fun ls hl => ?_)
        refine lv_goto hx hb d_M_findYear_174 rfl ?_
        exact ih _ _ v172 _ hP hS (lv_sub hl [0, 1, 2, 3] rfl) hc9 (by rw [e172, show yy - 1 + 1 = yy by omega]; omega) (by have := hbd.2 (by omega); omega) (by rw [e172]; omega)
  have hJ137 : ∀ (N : Nat) (H : Heap) (locs : List Loc) (yy : Int) (ls : Array Slot), va_P D CL (MWs a ad cx F g) H → va_S (Ain a ad) s.heap H locs → lv_has ls 6 [(4, .long (iL yy)), (0, .ref a), (1, .int (iI cal)), (2, .long (iL d))] → (cal = 9) → (-64000000 ≤ yy ∧ yy ≤ 60000000) → (d + 1 - hst (yy + 1)).toNat < N → W p l e (headSpec w_M_findYear ({ frames := 6, cells := 0, slots := 0, locals := 146 })).room s m [.ref a, .int (iI cal), .long (iL d)].toArray below meth c H locs 0 0 (MQ below (QMv D a ad cx (fun u => u = (upF (upF (upF (upF F 1 cal) 2 k) 3 (stM g cal k)) 4 (stM g cal (k + 1)), g))) [.ref a, .int (iI cal), .long (iL d)].toArray s 0 0 (Ain a ad)) (F0 m 137 ls []) := by
    intro N
    induction N with
    | zero => intro _ _ _ _ _ _ _ _ _ hm; exact absurd hm (Nat.not_lt_zero _)
    | succ N ih =>
      intro H locs yy ls hP hS hl hc9 j2 hm
      have hD : va_D (Ain a ad) (MWs a ad cx F g) := MD.any hD
      have r1 := hst_rng (y := yy + 1) (by omega)
      have hp1 := hst_inc (yy + 1)
      have hbd := st_bnd hst_inc (by have := hst1_rng; omega) (v := yy + 1)
      refine lv_lload hx hb d_M_findYear_137 (lv_at hl 0 rfl) ?_
      refine ai_lconst (x := 1) hx hb d_M_findYear_139 (by decide +kernel) ?_
      refine ai_ladd hx hb d_M_findYear_140 ?_
      refine ro_S (rest := []) (ct_M_moonStart l (yy + 1) (by omega)) j_M_moonStart k_1073 hF rfl hl.1 rfl ⟨Nat.le_of_ble_eq_true rfl, Nat.le_of_ble_eq_true rfl⟩ (Nat.le_of_ble_eq_true rfl) d_M_findYear_141 ⟨Nat.zero_le _, Nat.zero_le _⟩ Bm_true (fun _ _ _ => trivial) ?_
      refine lv_lload_n hx hb d_M_findYear_144 rfl (lv_at hl 3 rfl) ?_
      refine ai_lcmp_gt hx hb d_M_findYear_145 d_M_findYear_146 rfl (by omega) (by omega) (fun h145 => ?_) (fun h145 => ?_)
      · skip
        exact hJ158 _ _ _ yy _ hP hS (lv_sub hl [0, 1, 2, 3] rfl) hc9 (by omega) (by omega) (Nat.lt_succ_self _)
      · skip
        refine lv_lload hx hb d_M_findYear_149 (lv_at hl 0 rfl) ?_
        refine ai_lconst (x := 1) hx hb d_M_findYear_151 (by decide +kernel) ?_
        refine ai_ladd hx hb d_M_findYear_152 ?_
        refine ai_nmL hx hb (fun v153 e153 => ?_)
        refine lv_lstore (lv' := [(4, .long (iL v153)), (0, .ref a), (1, .int (iI cal)), (2, .long (iL d))]) hx hb d_M_findYear_153 hl (by decide) rfl (fun ls hl => ?_)
        refine lv_goto hx hb d_M_findYear_155 rfl ?_
        exact ih _ _ v153 _ hP hS (lv_sub hl [0, 1, 2, 3] rfl) hc9 (by have := hbd.1 (by omega); omega) (by rw [e153]; omega)
  refine lv_aload_n hx hb d_M_findYear_0 rfl (lv_at hl 0 rfl) ?_
  refine va_get (D := D) (cl := CL) (ci := 10) (v := .int (iI (F 1))) (C := "DayBookModel") (T := T_M) (N := 19) hx hb hts in_M hown hK hP 0 rfl rfl 10 (by decide) (hts _ k_956) (fun _ h9 => h9) rfl d_M_findYear_1 ?_
  refine lv_iload_n hx hb d_M_findYear_4 rfl (lv_at hl 1 rfl) ?_
  refine ai_icmp_ne hx hb d_M_findYear_5 rfl (by omega) (by omega) (fun h5 => ?_) (fun h5 => ?_)
  · skip
    refine lv_iload_n hx hb d_M_findYear_27 rfl (lv_at hl 1 rfl) ?_
    refine ai_iconst hx hb d_M_findYear_28 ?_
    refine ai_icmp_ne hx hb d_M_findYear_29 rfl (by omega) (by omega) (fun h29 => ?_) (fun h29 => ?_)
    · skip
      refine lv_iload_n hx hb d_M_findYear_114 rfl (lv_at hl 1 rfl) ?_
      refine ai_bipush (x := 9) hx hb d_M_findYear_115 (by decide +kernel) ?_
      refine ai_icmp_ne hx hb d_M_findYear_117 rfl (by omega) (by omega) (fun h117 => ?_) (fun h117 => ?_)
      · skip
        have hsp := stM_p (g := g) h117 h29
        have wk := hk
        rw [hsp] at wk
        refine lv_aload_n hx hb d_M_findYear_200 rfl (lv_at hl 0 rfl) ?_
        refine lv_iload_n hx hb d_M_findYear_201 rfl (lv_at hl 1 rfl) ?_
        refine lv_lload_n hx hb d_M_findYear_202 rfl (lv_at hl 2 rfl) ?_
        refine mw_v (rest := []) (ct_M_findPlainYear l D a ad cx F g cal d k (by omega) ho (hcy h117 h29) (by omega) wk) j_M_findPlainYear k_1052 s_M_findPlainYear hF hK hP hD hS (fun _ h => h) rfl hl.1 rfl ⟨Nat.le_of_ble_eq_true rfl, Nat.le_of_ble_eq_true rfl⟩ (Nat.le_of_ble_eq_true rfl) d_M_findYear_203 ⟨Nat.zero_le _, Nat.zero_le _⟩ (fun u203 H locs hΦ203 hP hS => ?_)
        subst hΦ203
        have hP : va_P D CL (MWs a ad cx (upF (upF (upF (upF F 1 cal) 2 k) 3 (ysM g cal k)) 4 (ysM g cal (k + 1))) g) H := hP
        have hD : va_D (Ain a ad) (MWs a ad cx (upF (upF (upF (upF F 1 cal) 2 k) 3 (ysM g cal k)) 4 (ysM g cal (k + 1))) g) := MD.any hD
        exact mw_vret hx hb hr hlk d_M_findYear_206 hP hS (by show (_ : Ms) = (_ : Ms); first | (rw [upF_over, eyk, hc2]; done) | (rw [eyk, hc9]; rfl) | (rw [hsp]))
      · skip
        refine lv_lload_n hx hb d_M_findYear_120 rfl (lv_at hl 2 rfl) ?_
        refine ai_ldc2 (x := 1373427) hx hb hown (hts _ k_1085) (by decide +kernel) d_M_findYear_121 ?_
        refine ai_ladd hx hb d_M_findYear_124 ?_
        refine ai_ldc2 (x := 98496) hx hb hown (hts _ k_1093) (by decide +kernel) d_M_findYear_125 ?_
        refine ai_lmul hx hb d_M_findYear_128 ?_
        refine ai_ldc2 (x := 35975351) hx hb hown (hts _ k_1094) (by decide +kernel) d_M_findYear_129 ?_
        refine ro_S (rest := []) (ct_M_div l ((d + 1373427) * 98496) 35975351 (by omega) (by omega)) j_M_div k_928 hF rfl hl.1 rfl ⟨Nat.le_of_ble_eq_true rfl, Nat.le_of_ble_eq_true rfl⟩ (Nat.le_of_ble_eq_true rfl) d_M_findYear_132 ⟨Nat.zero_le _, Nat.zero_le _⟩ Bm_true (fun _ _ _ => trivial) ?_
        refine ai_nmL hx hb (fun v135 e135 => ?_)
        refine lv_lstore (lv' := [(4, .long (iL v135)), (0, .ref a), (1, .int (iI cal)), (2, .long (iL d))]) hx hb d_M_findYear_135 hl (by decide) rfl (fun ls hl => ?_)
        exact hJ137 _ _ _ v135 _ hP hS (lv_sub hl [0, 1, 2, 3] rfl) h117 (by omega) (Nat.lt_succ_self _)
    · skip
      refine lv_aload_n hx hb d_M_findYear_32 rfl (lv_at hl 0 rfl) ?_
      refine ai_iconst hx hb d_M_findYear_33 ?_
      refine lv_lload_n hx hb d_M_findYear_34 rfl (lv_at hl 2 rfl) ?_
      refine mw_v (rest := []) (ct_M_findPlainYear l D a ad cx F g 0 d k0 (by decide) (fun h => absurd h (by decide)) hcy0 (by omega) hk0) j_M_findPlainYear k_1052 s_M_findPlainYear hF hK hP hD hS (fun _ h => h) rfl hl.1 rfl ⟨Nat.le_of_ble_eq_true rfl, Nat.le_of_ble_eq_true rfl⟩ (Nat.le_of_ble_eq_true rfl) d_M_findYear_35 ⟨Nat.zero_le _, Nat.zero_le _⟩ (fun u35 H locs hΦ35 hP hS => ?_)
      subst hΦ35
      have hP : va_P D CL (MWs a ad cx (upF (upF (upF (upF F 1 0) 2 k0) 3 (ysM g 0 k0)) 4 (ysM g 0 (k0 + 1))) g) H := hP
      have hD : va_D (Ain a ad) (MWs a ad cx (upF (upF (upF (upF F 1 0) 2 k0) 3 (ysM g 0 k0)) 4 (ysM g 0 (k0 + 1))) g) := MD.any hD
      refine lv_aload_n hx hb d_M_findYear_38 rfl (lv_at hl 0 rfl) ?_
      refine va_get (D := D) (cl := CL) (ci := 10) (v := .long (iL k0)) (C := "DayBookModel") (T := T_M) (N := 19) hx hb hts in_M hown hK hP 0 rfl rfl 11 (by decide) (hts _ k_957) (fun _ h9 => h9) rfl d_M_findYear_39 ?_
      refine lv_lstore (lv' := [(4, .long (iL k0)), (0, .ref a), (1, .int (iI cal)), (2, .long (iL d))]) hx hb d_M_findYear_42 hl (by decide) rfl (fun ls hl => ?_)
      have w0 := stM_rng (g := g) (cal := 2) (by decide) (fun h => absurd h (by decide)) (y := k0) (by omega)
      have w1 := stM_rng (g := g) (cal := 2) (by decide) (fun h => absurd h (by decide)) (y := k0 + 1) (by omega)
      have e2 : stM g cal = stM g 2 := by rw [h29]
      have wk := hk
      have wI := hIs
      rw [e2] at wk wI
      have hs1 := ysM0_step g (k0 + 1)
      have hsm := ysM0_step g (k0 - 1)
      rw [show k0 - 1 + 1 = k0 by omega] at hsm
      have g0 : stM g 2 k0 = ysM g 0 k0 + 3 - (ysM g 0 k0 + 3 - 1) % 7 := rfl
      have g1 : stM g 2 (k0 + 1) = ysM g 0 (k0 + 1) + 3 - (ysM g 0 (k0 + 1) + 3 - 1) % 7 := rfl
      have gm : stM g 2 (k0 - 1) = ysM g 0 (k0 - 1) + 3 - (ysM g 0 (k0 - 1) + 3 - 1) % 7 := rfl
      have g2 : stM g 2 (k0 + 1 + 1) = ysM g 0 (k0 + 1 + 1) + 3 - (ysM g 0 (k0 + 1 + 1) + 3 - 1) % 7 := rfl
      refine lv_lload_n hx hb d_M_findYear_44 rfl (lv_at hl 3 rfl) ?_
      refine lv_aload_n hx hb d_M_findYear_45 rfl (lv_at hl 1 rfl) ?_
      refine ai_iconst hx hb d_M_findYear_46 ?_
      refine lv_lload hx hb d_M_findYear_47 (lv_at hl 0 rfl) ?_
      refine ro_V (rest := [.long (iL d)]) (ct_M_start l D a ad cx (upF (upF (upF (upF F 1 0) 2 k0) 3 (ysM g 0 k0)) 4 (ysM g 0 (k0 + 1))) g 2 k0 (by decide) (fun h => absurd h (by decide)) (fun _ => hcy0) (by omega)) j_M_start k_1069 (hts _ s_M_start) hF (va_recv (q0 := 0) (ci := 10) hK hP rfl rfl) rfl hl.1 rfl ⟨Nat.le_of_ble_eq_true rfl, Nat.le_of_ble_eq_true rfl⟩ (Nat.le_of_ble_eq_true rfl) d_M_findYear_49 ⟨Nat.zero_le _, Nat.zero_le _⟩ MdB.m (fun U h1 h2 => ⟨va_K.moved h2.alike hK, by rw [h1]; exact hP⟩) ?_
      refine ai_lcmp_ge hx hb d_M_findYear_52 d_M_findYear_53 rfl (by omega) (by omega) (fun h52 => ?_) (fun h52 => ?_)
      · skip
        refine lv_lload_n hx hb d_M_findYear_63 rfl (lv_at hl 3 rfl) ?_
        refine lv_aload_n hx hb d_M_findYear_64 rfl (lv_at hl 1 rfl) ?_
        refine ai_iconst hx hb d_M_findYear_65 ?_
        refine lv_lload hx hb d_M_findYear_66 (lv_at hl 0 rfl) ?_
        refine ai_lconst (x := 1) hx hb d_M_findYear_68 (by decide +kernel) ?_
        refine ai_ladd hx hb d_M_findYear_69 ?_
        refine ro_V (rest := [.long (iL d)]) (ct_M_start l D a ad cx (upF (upF (upF (upF F 1 0) 2 k0) 3 (ysM g 0 k0)) 4 (ysM g 0 (k0 + 1))) g 2 (k0 + 1) (by decide) (fun h => absurd h (by decide)) (fun _ => hcy0) (by omega)) j_M_start k_1069 (hts _ s_M_start) hF (va_recv (q0 := 0) (ci := 10) hK hP rfl rfl) rfl hl.1 rfl ⟨Nat.le_of_ble_eq_true rfl, Nat.le_of_ble_eq_true rfl⟩ (Nat.le_of_ble_eq_true rfl) d_M_findYear_70 ⟨Nat.zero_le _, Nat.zero_le _⟩ MdB.m (fun U h1 h2 => ⟨va_K.moved h2.alike hK, by rw [h1]; exact hP⟩) ?_
        refine ai_lcmp_lt hx hb d_M_findYear_73 d_M_findYear_74 rfl (by omega) (by omega) (fun h73 => ?_) (fun h73 => ?_)
        · skip
          have eyk : k0 = k := wI.uniq (by omega) (by omega) wk.1 wk.2
          refine lv_lload hx hb d_M_findYear_84 (lv_at hl 0 rfl) ?_
          exact hJ86 _ _ k0 _ hP hS (lv_sub hl [1, 2, 3] rfl) h29 (by omega)
        · skip
          have eyk : k0 + 1 = k := wI.uniq (by omega) (by omega) wk.1 wk.2
          refine lv_lload hx hb d_M_findYear_77 (lv_at hl 0 rfl) ?_
          refine ai_lconst (x := 1) hx hb d_M_findYear_79 (by decide +kernel) ?_
          refine ai_ladd hx hb d_M_findYear_80 ?_
          refine lv_goto hx hb d_M_findYear_81 rfl ?_
          exact hJ86 _ _ (k0 + 1) _ hP hS (lv_sub hl [1, 2, 3] rfl) h29 (by omega)
      · skip
        have eyk : k0 - 1 = k := wI.uniq (by omega) (by rw [show k0 - 1 + 1 = k0 by omega]; omega) wk.1 wk.2
        refine lv_lload hx hb d_M_findYear_56 (lv_at hl 0 rfl) ?_
        refine ai_lconst (x := 1) hx hb d_M_findYear_58 (by decide +kernel) ?_
        refine ai_lsub hx hb d_M_findYear_59 ?_
        refine lv_goto hx hb d_M_findYear_60 rfl ?_
        exact hJ86 _ _ (k0 - 1) _ hP hS (lv_sub hl [1, 2, 3] rfl) h29 (by omega)
  · skip
    obtain ⟨z1, z2, z3, z4⟩ := hca.resolve_left (by omega)
    rw [h5] at z3 z4
    have r3 := stM_rng hcal ho (y := F 2) (by omega)
    have r4 := stM_rng hcal ho (y := F 2 + 1) (by omega)
    refine lv_lload_n hx hb d_M_findYear_8 rfl (lv_at hl 2 rfl) ?_
    refine lv_aload_n hx hb d_M_findYear_9 rfl (lv_at hl 0 rfl) ?_
    refine va_get (D := D) (cl := CL) (ci := 10) (v := .long (iL (F 3))) (C := "DayBookModel") (T := T_M) (N := 19) hx hb hts in_M hown hK hP 0 rfl rfl 12 (by decide) (hts _ k_958) (fun _ h9 => h9) rfl d_M_findYear_10 ?_
    refine ai_lcmp_lt hx hb d_M_findYear_13 d_M_findYear_14 rfl (by omega) (by omega) (fun h13 => ?_) (fun h13 => ?_)
    · skip
      refine lv_iload_n hx hb d_M_findYear_27 rfl (lv_at hl 1 rfl) ?_
      refine ai_iconst hx hb d_M_findYear_28 ?_
      refine ai_icmp_ne hx hb d_M_findYear_29 rfl (by omega) (by omega) (fun h29 => ?_) (fun h29 => ?_)
      · skip
        refine lv_iload_n hx hb d_M_findYear_114 rfl (lv_at hl 1 rfl) ?_
        refine ai_bipush (x := 9) hx hb d_M_findYear_115 (by decide +kernel) ?_
        refine ai_icmp_ne hx hb d_M_findYear_117 rfl (by omega) (by omega) (fun h117 => ?_) (fun h117 => ?_)
        · skip
          have hsp := stM_p (g := g) h117 h29
          have wk := hk
          rw [hsp] at wk
          refine lv_aload_n hx hb d_M_findYear_200 rfl (lv_at hl 0 rfl) ?_
          refine lv_iload_n hx hb d_M_findYear_201 rfl (lv_at hl 1 rfl) ?_
          refine lv_lload_n hx hb d_M_findYear_202 rfl (lv_at hl 2 rfl) ?_
          refine mw_v (rest := []) (ct_M_findPlainYear l D a ad cx F g cal d k (by omega) ho (hcy h117 h29) (by omega) wk) j_M_findPlainYear k_1052 s_M_findPlainYear hF hK hP hD hS (fun _ h => h) rfl hl.1 rfl ⟨Nat.le_of_ble_eq_true rfl, Nat.le_of_ble_eq_true rfl⟩ (Nat.le_of_ble_eq_true rfl) d_M_findYear_203 ⟨Nat.zero_le _, Nat.zero_le _⟩ (fun u203 H locs hΦ203 hP hS => ?_)
          subst hΦ203
          have hP : va_P D CL (MWs a ad cx (upF (upF (upF (upF F 1 cal) 2 k) 3 (ysM g cal k)) 4 (ysM g cal (k + 1))) g) H := hP
          have hD : va_D (Ain a ad) (MWs a ad cx (upF (upF (upF (upF F 1 cal) 2 k) 3 (ysM g cal k)) 4 (ysM g cal (k + 1))) g) := MD.any hD
          exact mw_vret hx hb hr hlk d_M_findYear_206 hP hS (by show (_ : Ms) = (_ : Ms); first | (rw [upF_over, eyk, hc2]; done) | (rw [eyk, hc9]; rfl) | (rw [hsp]))
        · skip
          refine lv_lload_n hx hb d_M_findYear_120 rfl (lv_at hl 2 rfl) ?_
          refine ai_ldc2 (x := 1373427) hx hb hown (hts _ k_1085) (by decide +kernel) d_M_findYear_121 ?_
          refine ai_ladd hx hb d_M_findYear_124 ?_
          refine ai_ldc2 (x := 98496) hx hb hown (hts _ k_1093) (by decide +kernel) d_M_findYear_125 ?_
          refine ai_lmul hx hb d_M_findYear_128 ?_
          refine ai_ldc2 (x := 35975351) hx hb hown (hts _ k_1094) (by decide +kernel) d_M_findYear_129 ?_
          refine ro_S (rest := []) (ct_M_div l ((d + 1373427) * 98496) 35975351 (by omega) (by omega)) j_M_div k_928 hF rfl hl.1 rfl ⟨Nat.le_of_ble_eq_true rfl, Nat.le_of_ble_eq_true rfl⟩ (Nat.le_of_ble_eq_true rfl) d_M_findYear_132 ⟨Nat.zero_le _, Nat.zero_le _⟩ Bm_true (fun _ _ _ => trivial) ?_
          refine ai_nmL hx hb (fun v135 e135 => ?_)
          refine lv_lstore (lv' := [(4, .long (iL v135)), (0, .ref a), (1, .int (iI cal)), (2, .long (iL d))]) hx hb d_M_findYear_135 hl (by decide) rfl (fun ls hl => ?_)
          exact hJ137 _ _ _ v135 _ hP hS (lv_sub hl [0, 1, 2, 3] rfl) h117 (by omega) (Nat.lt_succ_self _)
      · skip
        refine lv_aload_n hx hb d_M_findYear_32 rfl (lv_at hl 0 rfl) ?_
        refine ai_iconst hx hb d_M_findYear_33 ?_
        refine lv_lload_n hx hb d_M_findYear_34 rfl (lv_at hl 2 rfl) ?_
        refine mw_v (rest := []) (ct_M_findPlainYear l D a ad cx F g 0 d k0 (by decide) (fun h => absurd h (by decide)) hcy0 (by omega) hk0) j_M_findPlainYear k_1052 s_M_findPlainYear hF hK hP hD hS (fun _ h => h) rfl hl.1 rfl ⟨Nat.le_of_ble_eq_true rfl, Nat.le_of_ble_eq_true rfl⟩ (Nat.le_of_ble_eq_true rfl) d_M_findYear_35 ⟨Nat.zero_le _, Nat.zero_le _⟩ (fun u35 H locs hΦ35 hP hS => ?_)
        subst hΦ35
        have hP : va_P D CL (MWs a ad cx (upF (upF (upF (upF F 1 0) 2 k0) 3 (ysM g 0 k0)) 4 (ysM g 0 (k0 + 1))) g) H := hP
        have hD : va_D (Ain a ad) (MWs a ad cx (upF (upF (upF (upF F 1 0) 2 k0) 3 (ysM g 0 k0)) 4 (ysM g 0 (k0 + 1))) g) := MD.any hD
        refine lv_aload_n hx hb d_M_findYear_38 rfl (lv_at hl 0 rfl) ?_
        refine va_get (D := D) (cl := CL) (ci := 10) (v := .long (iL k0)) (C := "DayBookModel") (T := T_M) (N := 19) hx hb hts in_M hown hK hP 0 rfl rfl 11 (by decide) (hts _ k_957) (fun _ h9 => h9) rfl d_M_findYear_39 ?_
        refine lv_lstore (lv' := [(4, .long (iL k0)), (0, .ref a), (1, .int (iI cal)), (2, .long (iL d))]) hx hb d_M_findYear_42 hl (by decide) rfl (fun ls hl => ?_)
        have w0 := stM_rng (g := g) (cal := 2) (by decide) (fun h => absurd h (by decide)) (y := k0) (by omega)
        have w1 := stM_rng (g := g) (cal := 2) (by decide) (fun h => absurd h (by decide)) (y := k0 + 1) (by omega)
        have e2 : stM g cal = stM g 2 := by rw [h29]
        have wk := hk
        have wI := hIs
        rw [e2] at wk wI
        have hs1 := ysM0_step g (k0 + 1)
        have hsm := ysM0_step g (k0 - 1)
        rw [show k0 - 1 + 1 = k0 by omega] at hsm
        have g0 : stM g 2 k0 = ysM g 0 k0 + 3 - (ysM g 0 k0 + 3 - 1) % 7 := rfl
        have g1 : stM g 2 (k0 + 1) = ysM g 0 (k0 + 1) + 3 - (ysM g 0 (k0 + 1) + 3 - 1) % 7 := rfl
        have gm : stM g 2 (k0 - 1) = ysM g 0 (k0 - 1) + 3 - (ysM g 0 (k0 - 1) + 3 - 1) % 7 := rfl
        have g2 : stM g 2 (k0 + 1 + 1) = ysM g 0 (k0 + 1 + 1) + 3 - (ysM g 0 (k0 + 1 + 1) + 3 - 1) % 7 := rfl
        refine lv_lload_n hx hb d_M_findYear_44 rfl (lv_at hl 3 rfl) ?_
        refine lv_aload_n hx hb d_M_findYear_45 rfl (lv_at hl 1 rfl) ?_
        refine ai_iconst hx hb d_M_findYear_46 ?_
        refine lv_lload hx hb d_M_findYear_47 (lv_at hl 0 rfl) ?_
        refine ro_V (rest := [.long (iL d)]) (ct_M_start l D a ad cx (upF (upF (upF (upF F 1 0) 2 k0) 3 (ysM g 0 k0)) 4 (ysM g 0 (k0 + 1))) g 2 k0 (by decide) (fun h => absurd h (by decide)) (fun _ => hcy0) (by omega)) j_M_start k_1069 (hts _ s_M_start) hF (va_recv (q0 := 0) (ci := 10) hK hP rfl rfl) rfl hl.1 rfl ⟨Nat.le_of_ble_eq_true rfl, Nat.le_of_ble_eq_true rfl⟩ (Nat.le_of_ble_eq_true rfl) d_M_findYear_49 ⟨Nat.zero_le _, Nat.zero_le _⟩ MdB.m (fun U h1 h2 => ⟨va_K.moved h2.alike hK, by rw [h1]; exact hP⟩) ?_
        refine ai_lcmp_ge hx hb d_M_findYear_52 d_M_findYear_53 rfl (by omega) (by omega) (fun h52 => ?_) (fun h52 => ?_)
        · skip
          refine lv_lload_n hx hb d_M_findYear_63 rfl (lv_at hl 3 rfl) ?_
          refine lv_aload_n hx hb d_M_findYear_64 rfl (lv_at hl 1 rfl) ?_
          refine ai_iconst hx hb d_M_findYear_65 ?_
          refine lv_lload hx hb d_M_findYear_66 (lv_at hl 0 rfl) ?_
          refine ai_lconst (x := 1) hx hb d_M_findYear_68 (by decide +kernel) ?_
          refine ai_ladd hx hb d_M_findYear_69 ?_
          refine ro_V (rest := [.long (iL d)]) (ct_M_start l D a ad cx (upF (upF (upF (upF F 1 0) 2 k0) 3 (ysM g 0 k0)) 4 (ysM g 0 (k0 + 1))) g 2 (k0 + 1) (by decide) (fun h => absurd h (by decide)) (fun _ => hcy0) (by omega)) j_M_start k_1069 (hts _ s_M_start) hF (va_recv (q0 := 0) (ci := 10) hK hP rfl rfl) rfl hl.1 rfl ⟨Nat.le_of_ble_eq_true rfl, Nat.le_of_ble_eq_true rfl⟩ (Nat.le_of_ble_eq_true rfl) d_M_findYear_70 ⟨Nat.zero_le _, Nat.zero_le _⟩ MdB.m (fun U h1 h2 => ⟨va_K.moved h2.alike hK, by rw [h1]; exact hP⟩) ?_
          refine ai_lcmp_lt hx hb d_M_findYear_73 d_M_findYear_74 rfl (by omega) (by omega) (fun h73 => ?_) (fun h73 => ?_)
          · skip
            have eyk : k0 = k := wI.uniq (by omega) (by omega) wk.1 wk.2
            refine lv_lload hx hb d_M_findYear_84 (lv_at hl 0 rfl) ?_
            exact hJ86 _ _ k0 _ hP hS (lv_sub hl [1, 2, 3] rfl) h29 (by omega)
          · skip
            have eyk : k0 + 1 = k := wI.uniq (by omega) (by omega) wk.1 wk.2
            refine lv_lload hx hb d_M_findYear_77 (lv_at hl 0 rfl) ?_
            refine ai_lconst (x := 1) hx hb d_M_findYear_79 (by decide +kernel) ?_
            refine ai_ladd hx hb d_M_findYear_80 ?_
            refine lv_goto hx hb d_M_findYear_81 rfl ?_
            exact hJ86 _ _ (k0 + 1) _ hP hS (lv_sub hl [1, 2, 3] rfl) h29 (by omega)
        · skip
          have eyk : k0 - 1 = k := wI.uniq (by omega) (by rw [show k0 - 1 + 1 = k0 by omega]; omega) wk.1 wk.2
          refine lv_lload hx hb d_M_findYear_56 (lv_at hl 0 rfl) ?_
          refine ai_lconst (x := 1) hx hb d_M_findYear_58 (by decide +kernel) ?_
          refine ai_lsub hx hb d_M_findYear_59 ?_
          refine lv_goto hx hb d_M_findYear_60 rfl ?_
          exact hJ86 _ _ (k0 - 1) _ hP hS (lv_sub hl [1, 2, 3] rfl) h29 (by omega)
    · skip
      refine lv_lload_n hx hb d_M_findYear_17 rfl (lv_at hl 2 rfl) ?_
      refine lv_aload_n hx hb d_M_findYear_18 rfl (lv_at hl 0 rfl) ?_
      refine va_get (D := D) (cl := CL) (ci := 10) (v := .long (iL (F 4))) (C := "DayBookModel") (T := T_M) (N := 19) hx hb hts in_M hown hK hP 0 rfl rfl 13 (by decide) (hts _ k_959) (fun _ h9 => h9) rfl d_M_findYear_19 ?_
      refine ai_lcmp_ge hx hb d_M_findYear_22 d_M_findYear_23 rfl (by omega) (by omega) (fun h22 => ?_) (fun h22 => ?_)
      · skip
        refine lv_iload_n hx hb d_M_findYear_27 rfl (lv_at hl 1 rfl) ?_
        refine ai_iconst hx hb d_M_findYear_28 ?_
        refine ai_icmp_ne hx hb d_M_findYear_29 rfl (by omega) (by omega) (fun h29 => ?_) (fun h29 => ?_)
        · skip
          refine lv_iload_n hx hb d_M_findYear_114 rfl (lv_at hl 1 rfl) ?_
          refine ai_bipush (x := 9) hx hb d_M_findYear_115 (by decide +kernel) ?_
          refine ai_icmp_ne hx hb d_M_findYear_117 rfl (by omega) (by omega) (fun h117 => ?_) (fun h117 => ?_)
          · skip
            have hsp := stM_p (g := g) h117 h29
            have wk := hk
            rw [hsp] at wk
            refine lv_aload_n hx hb d_M_findYear_200 rfl (lv_at hl 0 rfl) ?_
            refine lv_iload_n hx hb d_M_findYear_201 rfl (lv_at hl 1 rfl) ?_
            refine lv_lload_n hx hb d_M_findYear_202 rfl (lv_at hl 2 rfl) ?_
            refine mw_v (rest := []) (ct_M_findPlainYear l D a ad cx F g cal d k (by omega) ho (hcy h117 h29) (by omega) wk) j_M_findPlainYear k_1052 s_M_findPlainYear hF hK hP hD hS (fun _ h => h) rfl hl.1 rfl ⟨Nat.le_of_ble_eq_true rfl, Nat.le_of_ble_eq_true rfl⟩ (Nat.le_of_ble_eq_true rfl) d_M_findYear_203 ⟨Nat.zero_le _, Nat.zero_le _⟩ (fun u203 H locs hΦ203 hP hS => ?_)
            subst hΦ203
            have hP : va_P D CL (MWs a ad cx (upF (upF (upF (upF F 1 cal) 2 k) 3 (ysM g cal k)) 4 (ysM g cal (k + 1))) g) H := hP
            have hD : va_D (Ain a ad) (MWs a ad cx (upF (upF (upF (upF F 1 cal) 2 k) 3 (ysM g cal k)) 4 (ysM g cal (k + 1))) g) := MD.any hD
            exact mw_vret hx hb hr hlk d_M_findYear_206 hP hS (by show (_ : Ms) = (_ : Ms); first | (rw [upF_over, eyk, hc2]; done) | (rw [eyk, hc9]; rfl) | (rw [hsp]))
          · skip
            refine lv_lload_n hx hb d_M_findYear_120 rfl (lv_at hl 2 rfl) ?_
            refine ai_ldc2 (x := 1373427) hx hb hown (hts _ k_1085) (by decide +kernel) d_M_findYear_121 ?_
            refine ai_ladd hx hb d_M_findYear_124 ?_
            refine ai_ldc2 (x := 98496) hx hb hown (hts _ k_1093) (by decide +kernel) d_M_findYear_125 ?_
            refine ai_lmul hx hb d_M_findYear_128 ?_
            refine ai_ldc2 (x := 35975351) hx hb hown (hts _ k_1094) (by decide +kernel) d_M_findYear_129 ?_
            refine ro_S (rest := []) (ct_M_div l ((d + 1373427) * 98496) 35975351 (by omega) (by omega)) j_M_div k_928 hF rfl hl.1 rfl ⟨Nat.le_of_ble_eq_true rfl, Nat.le_of_ble_eq_true rfl⟩ (Nat.le_of_ble_eq_true rfl) d_M_findYear_132 ⟨Nat.zero_le _, Nat.zero_le _⟩ Bm_true (fun _ _ _ => trivial) ?_
            refine ai_nmL hx hb (fun v135 e135 => ?_)
            refine lv_lstore (lv' := [(4, .long (iL v135)), (0, .ref a), (1, .int (iI cal)), (2, .long (iL d))]) hx hb d_M_findYear_135 hl (by decide) rfl (fun ls hl => ?_)
            exact hJ137 _ _ _ v135 _ hP hS (lv_sub hl [0, 1, 2, 3] rfl) h117 (by omega) (Nat.lt_succ_self _)
        · skip
          refine lv_aload_n hx hb d_M_findYear_32 rfl (lv_at hl 0 rfl) ?_
          refine ai_iconst hx hb d_M_findYear_33 ?_
          refine lv_lload_n hx hb d_M_findYear_34 rfl (lv_at hl 2 rfl) ?_
          refine mw_v (rest := []) (ct_M_findPlainYear l D a ad cx F g 0 d k0 (by decide) (fun h => absurd h (by decide)) hcy0 (by omega) hk0) j_M_findPlainYear k_1052 s_M_findPlainYear hF hK hP hD hS (fun _ h => h) rfl hl.1 rfl ⟨Nat.le_of_ble_eq_true rfl, Nat.le_of_ble_eq_true rfl⟩ (Nat.le_of_ble_eq_true rfl) d_M_findYear_35 ⟨Nat.zero_le _, Nat.zero_le _⟩ (fun u35 H locs hΦ35 hP hS => ?_)
          subst hΦ35
          have hP : va_P D CL (MWs a ad cx (upF (upF (upF (upF F 1 0) 2 k0) 3 (ysM g 0 k0)) 4 (ysM g 0 (k0 + 1))) g) H := hP
          have hD : va_D (Ain a ad) (MWs a ad cx (upF (upF (upF (upF F 1 0) 2 k0) 3 (ysM g 0 k0)) 4 (ysM g 0 (k0 + 1))) g) := MD.any hD
          refine lv_aload_n hx hb d_M_findYear_38 rfl (lv_at hl 0 rfl) ?_
          refine va_get (D := D) (cl := CL) (ci := 10) (v := .long (iL k0)) (C := "DayBookModel") (T := T_M) (N := 19) hx hb hts in_M hown hK hP 0 rfl rfl 11 (by decide) (hts _ k_957) (fun _ h9 => h9) rfl d_M_findYear_39 ?_
          refine lv_lstore (lv' := [(4, .long (iL k0)), (0, .ref a), (1, .int (iI cal)), (2, .long (iL d))]) hx hb d_M_findYear_42 hl (by decide) rfl (fun ls hl => ?_)
          have w0 := stM_rng (g := g) (cal := 2) (by decide) (fun h => absurd h (by decide)) (y := k0) (by omega)
          have w1 := stM_rng (g := g) (cal := 2) (by decide) (fun h => absurd h (by decide)) (y := k0 + 1) (by omega)
          have e2 : stM g cal = stM g 2 := by rw [h29]
          have wk := hk
          have wI := hIs
          rw [e2] at wk wI
          have hs1 := ysM0_step g (k0 + 1)
          have hsm := ysM0_step g (k0 - 1)
          rw [show k0 - 1 + 1 = k0 by omega] at hsm
          have g0 : stM g 2 k0 = ysM g 0 k0 + 3 - (ysM g 0 k0 + 3 - 1) % 7 := rfl
          have g1 : stM g 2 (k0 + 1) = ysM g 0 (k0 + 1) + 3 - (ysM g 0 (k0 + 1) + 3 - 1) % 7 := rfl
          have gm : stM g 2 (k0 - 1) = ysM g 0 (k0 - 1) + 3 - (ysM g 0 (k0 - 1) + 3 - 1) % 7 := rfl
          have g2 : stM g 2 (k0 + 1 + 1) = ysM g 0 (k0 + 1 + 1) + 3 - (ysM g 0 (k0 + 1 + 1) + 3 - 1) % 7 := rfl
          refine lv_lload_n hx hb d_M_findYear_44 rfl (lv_at hl 3 rfl) ?_
          refine lv_aload_n hx hb d_M_findYear_45 rfl (lv_at hl 1 rfl) ?_
          refine ai_iconst hx hb d_M_findYear_46 ?_
          refine lv_lload hx hb d_M_findYear_47 (lv_at hl 0 rfl) ?_
          refine ro_V (rest := [.long (iL d)]) (ct_M_start l D a ad cx (upF (upF (upF (upF F 1 0) 2 k0) 3 (ysM g 0 k0)) 4 (ysM g 0 (k0 + 1))) g 2 k0 (by decide) (fun h => absurd h (by decide)) (fun _ => hcy0) (by omega)) j_M_start k_1069 (hts _ s_M_start) hF (va_recv (q0 := 0) (ci := 10) hK hP rfl rfl) rfl hl.1 rfl ⟨Nat.le_of_ble_eq_true rfl, Nat.le_of_ble_eq_true rfl⟩ (Nat.le_of_ble_eq_true rfl) d_M_findYear_49 ⟨Nat.zero_le _, Nat.zero_le _⟩ MdB.m (fun U h1 h2 => ⟨va_K.moved h2.alike hK, by rw [h1]; exact hP⟩) ?_
          refine ai_lcmp_ge hx hb d_M_findYear_52 d_M_findYear_53 rfl (by omega) (by omega) (fun h52 => ?_) (fun h52 => ?_)
          · skip
            refine lv_lload_n hx hb d_M_findYear_63 rfl (lv_at hl 3 rfl) ?_
            refine lv_aload_n hx hb d_M_findYear_64 rfl (lv_at hl 1 rfl) ?_
            refine ai_iconst hx hb d_M_findYear_65 ?_
            refine lv_lload hx hb d_M_findYear_66 (lv_at hl 0 rfl) ?_
            refine ai_lconst (x := 1) hx hb d_M_findYear_68 (by decide +kernel) ?_
            refine ai_ladd hx hb d_M_findYear_69 ?_
            refine ro_V (rest := [.long (iL d)]) (ct_M_start l D a ad cx (upF (upF (upF (upF F 1 0) 2 k0) 3 (ysM g 0 k0)) 4 (ysM g 0 (k0 + 1))) g 2 (k0 + 1) (by decide) (fun h => absurd h (by decide)) (fun _ => hcy0) (by omega)) j_M_start k_1069 (hts _ s_M_start) hF (va_recv (q0 := 0) (ci := 10) hK hP rfl rfl) rfl hl.1 rfl ⟨Nat.le_of_ble_eq_true rfl, Nat.le_of_ble_eq_true rfl⟩ (Nat.le_of_ble_eq_true rfl) d_M_findYear_70 ⟨Nat.zero_le _, Nat.zero_le _⟩ MdB.m (fun U h1 h2 => ⟨va_K.moved h2.alike hK, by rw [h1]; exact hP⟩) ?_
            refine ai_lcmp_lt hx hb d_M_findYear_73 d_M_findYear_74 rfl (by omega) (by omega) (fun h73 => ?_) (fun h73 => ?_)
            · skip
              have eyk : k0 = k := wI.uniq (by omega) (by omega) wk.1 wk.2
              refine lv_lload hx hb d_M_findYear_84 (lv_at hl 0 rfl) ?_
              exact hJ86 _ _ k0 _ hP hS (lv_sub hl [1, 2, 3] rfl) h29 (by omega)
            · skip
              have eyk : k0 + 1 = k := wI.uniq (by omega) (by omega) wk.1 wk.2
              refine lv_lload hx hb d_M_findYear_77 (lv_at hl 0 rfl) ?_
              refine ai_lconst (x := 1) hx hb d_M_findYear_79 (by decide +kernel) ?_
              refine ai_ladd hx hb d_M_findYear_80 ?_
              refine lv_goto hx hb d_M_findYear_81 rfl ?_
              exact hJ86 _ _ (k0 + 1) _ hP hS (lv_sub hl [1, 2, 3] rfl) h29 (by omega)
          · skip
            have eyk : k0 - 1 = k := wI.uniq (by omega) (by rw [show k0 - 1 + 1 = k0 by omega]; omega) wk.1 wk.2
            refine lv_lload hx hb d_M_findYear_56 (lv_at hl 0 rfl) ?_
            refine ai_lconst (x := 1) hx hb d_M_findYear_58 (by decide +kernel) ?_
            refine ai_lsub hx hb d_M_findYear_59 ?_
            refine lv_goto hx hb d_M_findYear_60 rfl ?_
            exact hJ86 _ _ (k0 - 1) _ hP hS (lv_sub hl [1, 2, 3] rfl) h29 (by omega)
      · skip
        have e2 : F 2 = k := hIs.uniq (by omega) (by omega) hk.1 hk.2
        exact mw_vret hx hb hr hlk d_M_findYear_26 hP hS (congrArg (fun z => (z, g)) (upF_same h5 e2 (by rw [z3, e2]) (by rw [z4, e2])))
