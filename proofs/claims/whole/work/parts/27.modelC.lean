/-! 27.modelC: laid by program (wip/whole) -/
noncomputable def lbM (g : Nat → Nat → Int) (cal y : Int) : Int := if cal = 0 then lb0 y else if cal = 1 then lbS 1 0 4 y else if cal = 3 then lbS 1 1 4 y else if cal = 4 then lbS 1 1 4 y else if cal = 5 then lbS 11 14 30 y else if cal = 6 then lb6 y else if cal = 7 then lb7 y else if cal = 8 then lb0 (y + 1844) else lbS (g 6 (Int.toNat (cal - 12))) (g 7 (Int.toNat (cal - 12))) (g 8 (Int.toNat (cal - 12))) y
noncomputable def ysM (g : Nat → Nat → Int) (cal : Int) : Int → Int := ys (epM g cal) (plM g cal) (lbM g cal)
theorem lbM_step {g : Nat → Nat → Int} {cal : Int} (hcal : cal = 0 ∨ cal = 1 ∨ cal = 3 ∨ cal = 4 ∨ cal = 5 ∨ cal = 6 ∨ cal = 7 ∨ cal = 8 ∨ cal = 12 ∨ cal = 13) (ho : 12 ≤ cal → OwnOK g (Int.toNat (cal - 12))) (y : Int) : lbM g cal (y + 1) = lbM g cal y + bI (lpM g cal y) := by
  rcases hcal with rfl | rfl | rfl | rfl | rfl | rfl | rfl | rfl | rfl | rfl
  · exact lb0_step y
  · have h := lbS_step (a := 1) (b := 0) (c := 4) (by decide) (by decide) (by decide) y
    rw [bI_iff (Q := y % 4 = 0) (by unfold ylS; omega)] at h
    exact h
  · have h := lbS_step (a := 1) (b := 1) (c := 4) (by decide) (by decide) (by decide) y
    rw [bI_iff (Q := y % 4 = 3) (by unfold ylS; omega)] at h
    exact h
  · have h := lbS_step (a := 1) (b := 1) (c := 4) (by decide) (by decide) (by decide) y
    rw [bI_iff (Q := y % 4 = 3) (by unfold ylS; omega)] at h
    exact h
  · exact lbS_step (by decide) (by decide) (by decide) y
  · exact lb6_step y
  · exact lb7_step y
  · show lb0 (y + 1 + 1844) = lb0 (y + 1844) + bI (yl0 (y + 1844))
    rw [show y + 1 + 1844 = y + 1844 + 1 by omega]
    exact lb0_step _
  · obtain ⟨-, -, -, h4, -, h6⟩ := ho (by decide)
    exact lbS_step h4.1 h4.2 (by omega) y
  · obtain ⟨-, -, -, h4, -, h6⟩ := ho (by decide)
    exact lbS_step h4.1 h4.2 (by omega) y
/-- the cycle of a plain calendar is in its arrays as it should -/
def CyOK (g : Nat → Nat → Int) (cal : Int) : Prop := ∃ K : Int, (1 ≤ g 0 (Int.toNat cal) ∧ g 0 (Int.toNat cal) ≤ 4000) ∧ (0 ≤ K ∧ K ≤ 4000) ∧ g 1 (Int.toNat cal) = plM g cal * g 0 (Int.toNat cal) + K ∧ ∀ q, lbM g cal (q * g 0 (Int.toNat cal) + 1) = lbM g cal 1 + q * K
theorem epM_rng {g : Nat → Nat → Int} {cal : Int} (hcal : cal = 0 ∨ cal = 1 ∨ cal = 3 ∨ cal = 4 ∨ cal = 5 ∨ cal = 6 ∨ cal = 7 ∨ cal = 8 ∨ cal = 12 ∨ cal = 13) (ho : 12 ≤ cal → OwnOK g (Int.toNat (cal - 12))) : -1000000 ≤ epM g cal ∧ epM g cal ≤ 1000000 := by
  rcases hcal with rfl | rfl | rfl | rfl | rfl | rfl | rfl | rfl | rfl | rfl
  · show (-1000000 : Int) ≤ 1 ∧ (1 : Int) ≤ 1000000; decide
  · show (-1000000 : Int) ≤ -1 ∧ (-1 : Int) ≤ 1000000; decide
  · show (-1000000 : Int) ≤ 103605 ∧ (103605 : Int) ≤ 1000000; decide
  · show (-1000000 : Int) ≤ 2796 ∧ (2796 : Int) ≤ 1000000; decide
  · show (-1000000 : Int) ≤ 227015 ∧ (227015 : Int) ≤ 1000000; decide
  · show (-1000000 : Int) ≤ 226896 ∧ (226896 : Int) ≤ 1000000; decide
  · show (-1000000 : Int) ≤ 654415 ∧ (654415 : Int) ≤ 1000000; decide
  · show (-1000000 : Int) ≤ 673222 ∧ (673222 : Int) ≤ 1000000; decide
  · obtain ⟨-, -, h, -⟩ := ho (by decide); exact h
  · obtain ⟨-, -, h, -⟩ := ho (by decide); exact h
theorem plM_rng {g : Nat → Nat → Int} {cal : Int} (hcal : cal = 0 ∨ cal = 1 ∨ cal = 3 ∨ cal = 4 ∨ cal = 5 ∨ cal = 6 ∨ cal = 7 ∨ cal = 8 ∨ cal = 12 ∨ cal = 13) (ho : 12 ≤ cal → OwnOK g (Int.toNat (cal - 12))) : 1 ≤ plM g cal ∧ plM g cal ≤ 800 := by
  have key : ∀ x y : Int, (1 ≤ x ∧ x ≤ 20) → (1 ≤ y ∧ y ≤ 40) → 1 ≤ x * y ∧ x * y ≤ 800 := fun x y hx hy => by
    have h1 := Int.mul_le_mul hx.2 hy.2 (by omega) (by omega)
    have h2 := Int.mul_le_mul hx.1 hy.1 (by omega) (by omega)
    omega
  rcases hcal with rfl | rfl | rfl | rfl | rfl | rfl | rfl | rfl | rfl | rfl
  · show (1 : Int) ≤ 365 ∧ (365 : Int) ≤ 800; decide
  · show (1 : Int) ≤ 365 ∧ (365 : Int) ≤ 800; decide
  · show (1 : Int) ≤ 365 ∧ (365 : Int) ≤ 800; decide
  · show (1 : Int) ≤ 365 ∧ (365 : Int) ≤ 800; decide
  · show (1 : Int) ≤ 354 ∧ (354 : Int) ≤ 800; decide
  · show (1 : Int) ≤ 365 ∧ (365 : Int) ≤ 800; decide
  · show (1 : Int) ≤ 365 ∧ (365 : Int) ≤ 800; decide
  · show (1 : Int) ≤ 365 ∧ (365 : Int) ≤ 800; decide
  · obtain ⟨h1, h2, -⟩ := ho (by decide); exact key _ _ h1 h2
  · obtain ⟨h1, h2, -⟩ := ho (by decide); exact key _ _ h1 h2
theorem ysM_step {g : Nat → Nat → Int} {cal : Int} (hcal : cal = 0 ∨ cal = 1 ∨ cal = 3 ∨ cal = 4 ∨ cal = 5 ∨ cal = 6 ∨ cal = 7 ∨ cal = 8 ∨ cal = 12 ∨ cal = 13) (ho : 12 ≤ cal → OwnOK g (Int.toNat (cal - 12))) (y : Int) : ysM g cal (y + 1) = ysM g cal y + plM g cal + bI (lpM g cal y) := ys_step (lbM_step hcal ho) y
theorem ysM_inc {g : Nat → Nat → Int} {cal : Int} (hcal : cal = 0 ∨ cal = 1 ∨ cal = 3 ∨ cal = 4 ∨ cal = 5 ∨ cal = 6 ∨ cal = 7 ∨ cal = 8 ∨ cal = 12 ∨ cal = 13) (ho : 12 ≤ cal → OwnOK g (Int.toNat (cal - 12))) : Inc (ysM g cal) := ys_inc (plM_rng hcal ho).1 (lbM_step hcal ho)
noncomputable def stM (g : Nat → Nat → Int) (cal y : Int) : Int := if cal = 9 then hst y else if cal = 2 then wst (ysM g 0) y else ysM g cal y
theorem lbM_rng {g : Nat → Nat → Int} {cal : Int} (hcal : cal = 0 ∨ cal = 1 ∨ cal = 3 ∨ cal = 4 ∨ cal = 5 ∨ cal = 6 ∨ cal = 7 ∨ cal = 8 ∨ cal = 12 ∨ cal = 13) (ho : 12 ≤ cal → OwnOK g (Int.toNat (cal - 12))) {y : Int} (hy : -1000000000 ≤ y ∧ y ≤ 1000000000) : -2000000000000 ≤ lbM g cal y ∧ lbM g cal y ≤ 2000000000000 := by
  have key : ∀ a b c0 : Int, (0 ≤ a ∧ a ≤ 1000) → (0 ≤ b ∧ b ≤ 1000) → 0 < c0 → -2000000000000 ≤ lbS a b c0 y ∧ lbS a b c0 y ≤ 2000000000000 := fun a b c0 h1 h2 h3 => by
    have n := mul_rng (a := a) (y := y - 1) h1 (by omega)
    unfold lbS
    exact dv_rng h3 (by omega) (by omega) (by omega) (by omega)
  rcases hcal with rfl | rfl | rfl | rfl | rfl | rfl | rfl | rfl | rfl | rfl
  · show -2000000000000 ≤ lb0 y ∧ lb0 y ≤ 2000000000000
    unfold lb0; omega
  · exact key 1 0 4 (by decide) (by decide) (by decide)
  · exact key 1 1 4 (by decide) (by decide) (by decide)
  · exact key 1 1 4 (by decide) (by decide) (by decide)
  · exact key 11 14 30 (by decide) (by decide) (by decide)
  · show -2000000000000 ≤ lb6 y ∧ lb6 y ≤ 2000000000000
    unfold lb6; omega
  · show -2000000000000 ≤ lb7 y ∧ lb7 y ≤ 2000000000000
    unfold lb7 lb0; omega
  · show -2000000000000 ≤ lb0 (y + 1844) ∧ lb0 (y + 1844) ≤ 2000000000000
    unfold lb0; omega
  · obtain ⟨-, -, -, h4, h5, h6⟩ := ho (by decide)
    exact key _ _ _ (by omega) (by omega) (by omega)
  · obtain ⟨-, -, -, h4, h5, h6⟩ := ho (by decide)
    exact key _ _ _ (by omega) (by omega) (by omega)
theorem ys_rng2 {g : Nat → Nat → Int} {cal : Int} (hcal : cal = 0 ∨ cal = 1 ∨ cal = 3 ∨ cal = 4 ∨ cal = 5 ∨ cal = 6 ∨ cal = 7 ∨ cal = 8 ∨ cal = 12 ∨ cal = 13) (ho : 12 ≤ cal → OwnOK g (Int.toNat (cal - 12))) {y : Int} (hy : -900000000 ≤ y ∧ y ≤ 900000000) : -5000000000000 ≤ ysM g cal y ∧ ysM g cal y ≤ 5000000000000 := by
  have q1 := lbM_rng hcal ho (y := y) (by omega)
  have q2 := lbM_rng hcal ho (y := 1) (by omega)
  have h1 := epM_rng hcal ho
  have h2 := plM_rng hcal ho
  have a1 := Int.mul_le_mul_of_nonneg_left (show y - 1 ≤ 900000000 by omega) (show 0 ≤ plM g cal by omega)
  have a2 := Int.mul_le_mul_of_nonneg_left (show -900000001 ≤ y - 1 by omega) (show 0 ≤ plM g cal by omega)
  unfold ysM ys
  omega
set_option maxHeartbeats 4000000 in
set_option maxRecDepth 100000 in
theorem ct_M_plainStart (l : Launch) (D : va_G) (a : Nat) (ad : Nat → Nat) (cx : Nat → ClassId) (F : Nat → Int) (g : Nat → Nat → Int) (cal : Int) (y : Int) (hcal : cal = 0 ∨ cal = 1 ∨ cal = 3 ∨ cal = 4 ∨ cal = 5 ∨ cal = 6 ∨ cal = 7 ∨ cal = 8 ∨ cal = 12 ∨ cal = 13) (ho : 12 ≤ cal → OwnOK g (Int.toNat (cal - 12))) (hcy : CyOK g cal) (ry : -299000000 ≤ y ∧ y ≤ 299000000) : RO l y_M_plainStart w_M_plainStart 4 92 [.ref a, .int (iI cal), .long (iL y)] (MdB D a ad cx F g) (.long (iL (ysM g cal y))) := by
  refine ro_of (by decide +kernel) (Nat.le_of_ble_eq_true rfl) ?_
  intro p e s m below meth c ls hx hb hr hts hown hlk hml hl hN hB
  have hown : s.vm.findClass "DayBookModel" = some m.cls := hown
  have hl : lv_has ls 10 [(0, .ref a), (1, .int (iI cal)), (2, .long (iL y))] := hl
  have hF : _ ∧ _ ∧ _ ∧ _ ∧ _ ∧ _ := ⟨hx, hb, hml, hown, hts, hN⟩
  have hK := hB.1
  have hP := hB.2
  obtain ⟨K, c1, c2, c3, c4⟩ := hcy
  have hcr : 0 ≤ cal ∧ cal < 14 := by omega
  have hst_ := ysM_step hcal ho
  have hc0 : cal = 0 ∨ cal = 1 ∨ cal = 3 ∨ cal = 4 ∨ cal = 5 ∨ cal = 6 ∨ cal = 7 ∨ cal = 8 ∨ cal = 9 ∨ cal = 12 ∨ cal = 13 := by omega
  have hep := epM_rng hcal ho
  have hJ47 : ∀ (N : Nat) (kk : Int) (dd : Int) (ls : Array Slot), lv_has ls 10 [(8, .long (iL kk)), (6, .long (iL dd)), (0, .ref a), (1, .int (iI cal)), (2, .long (iL y))] → (kk ≤ y) → (dd = ysM g cal kk) → (-299990000 ≤ kk) → (y - kk).toNat < N → W p l e (headSpec w_M_plainStart ({ frames := 4, cells := 0, slots := 0, locals := 92 })).room s m [.ref a, .int (iI cal), .long (iL y)].toArray below meth c s.heap [] 0 0 (MQ below (k2_QcV (.long (iL (ysM g cal y)))) [.ref a, .int (iI cal), .long (iL y)].toArray s 0 0 (fun _ => False)) (F0 m 47 ls []) := by
    intro N
    induction N with
    | zero => intro _ _ _ _ _ _ _ hm; exact absurd hm (Nat.not_lt_zero _)
    | succ N ih =>
      intro kk dd ls hl i1 i2 i3 hm
      refine lv_lload hx hb d_M_plainStart_47 (lv_at hl 0 rfl) ?_
      refine lv_lload_n hx hb d_M_plainStart_49 rfl (lv_at hl 4 rfl) ?_
      refine ai_lcmp_ge hx hb d_M_plainStart_50 d_M_plainStart_51 rfl (by omega) (by omega) (fun h50 => ?_) (fun h50 => ?_)
      · skip
        refine lv_lload hx hb d_M_plainStart_89 (lv_at hl 1 rfl) ?_
        exact ro_lret hx hb hr hlk d_M_plainStart_91 (by rw [i2, show kk = y by omega])
      · skip
        refine lv_lload hx hb d_M_plainStart_54 (lv_at hl 1 rfl) ?_
        refine lv_aload_n hx hb d_M_plainStart_56 rfl (lv_at hl 2 rfl) ?_
        refine lv_iload_n hx hb d_M_plainStart_57 rfl (lv_at hl 3 rfl) ?_
        refine ro_V (rest := [.long (iL dd)]) (ct_M_plainLength l D a ad cx F g cal hcal ho) j_M_plainLength k_911 (hts _ s_M_plainLength) hF hB.recv rfl hl.1 rfl ⟨Nat.le_of_ble_eq_true rfl, Nat.le_of_ble_eq_true rfl⟩ (Nat.le_of_ble_eq_true rfl) d_M_plainStart_58 ⟨Nat.zero_le _, Nat.zero_le _⟩ MdB.m (fun U h1 h2 => MdB.m.2 s U h1 h2 hB) ?_
        refine ai_ladd hx hb d_M_plainStart_61 ?_
        refine lv_aload_n hx hb d_M_plainStart_62 rfl (lv_at hl 2 rfl) ?_
        refine lv_iload_n hx hb d_M_plainStart_63 rfl (lv_at hl 3 rfl) ?_
        refine lv_lload hx hb d_M_plainStart_64 (lv_at hl 0 rfl) ?_
        refine ro_V (rest := [.long (iL (dd + (plM g cal)))]) (ct_M_isLeap l D a ad cx F g cal kk hc0 ho (by omega)) j_M_isLeap k_917 (hts _ s_M_isLeap) hF hB.recv rfl hl.1 rfl ⟨Nat.le_of_ble_eq_true rfl, Nat.le_of_ble_eq_true rfl⟩ (Nat.le_of_ble_eq_true rfl) d_M_plainStart_66 ⟨Nat.zero_le _, Nat.zero_le _⟩ MdB.m (fun U h1 h2 => MdB.m.2 s U h1 h2 hB) ?_
        refine ai_ifeqB hx hb d_M_plainStart_69 rfl (fun h69 => ?_) (fun h69 => ?_)
        · skip
          refine ai_lconst (x := 0) hx hb d_M_plainStart_76 (by decide +kernel) ?_
          refine ai_ladd hx hb d_M_plainStart_77 ?_
          refine ai_nmL hx hb (fun v78 e78 => ?_)
          refine lv_lstore (lv' := [(6, .long (iL v78)), (8, .long (iL kk)), (0, .ref a), (1, .int (iI cal)), (2, .long (iL y))]) hx hb d_M_plainStart_78 hl (by decide) rfl (fun ls hl => ?_)
          refine lv_lload hx hb d_M_plainStart_80 (lv_at hl 1 rfl) ?_
          refine ai_lconst (x := 1) hx hb d_M_plainStart_82 (by decide +kernel) ?_
          refine ai_ladd hx hb d_M_plainStart_83 ?_
          refine ai_nmL hx hb (fun v84 e84 => ?_)
          refine lv_lstore (lv' := [(8, .long (iL v84)), (6, .long (iL v78)), (0, .ref a), (1, .int (iI cal)), (2, .long (iL y))]) hx hb d_M_plainStart_84 hl (by decide) rfl (fun ls hl => ?_)
          refine lv_goto hx hb d_M_plainStart_86 rfl ?_
          exact ih v84 v78 _ (lv_sub hl [0, 1, 2, 3, 4] rfl) (by omega) (by have := hst_ kk; rw [e84]; first | (rw [bI_t h69] at this; omega) | (rw [bI_f h69] at this; omega)) (by omega) (by omega)
        · skip
          refine ai_lconst (x := 1) hx hb d_M_plainStart_72 (by decide +kernel) ?_
          refine lv_goto hx hb d_M_plainStart_73 rfl ?_
          refine ai_ladd hx hb d_M_plainStart_77 ?_
          refine ai_nmL hx hb (fun v78 e78 => ?_)
          refine lv_lstore (lv' := [(6, .long (iL v78)), (8, .long (iL kk)), (0, .ref a), (1, .int (iI cal)), (2, .long (iL y))]) hx hb d_M_plainStart_78 hl (by decide) rfl (fun ls hl => ?_)
          refine lv_lload hx hb d_M_plainStart_80 (lv_at hl 1 rfl) ?_
          refine ai_lconst (x := 1) hx hb d_M_plainStart_82 (by decide +kernel) ?_
          refine ai_ladd hx hb d_M_plainStart_83 ?_
          refine ai_nmL hx hb (fun v84 e84 => ?_)
          refine lv_lstore (lv' := [(8, .long (iL v84)), (6, .long (iL v78)), (0, .ref a), (1, .int (iI cal)), (2, .long (iL y))]) hx hb d_M_plainStart_84 hl (by decide) rfl (fun ls hl => ?_)
          refine lv_goto hx hb d_M_plainStart_86 rfl ?_
          exact ih v84 v78 _ (lv_sub hl [0, 1, 2, 3, 4] rfl) (by omega) (by have := hst_ kk; rw [e84]; first | (rw [bI_t h69] at this; omega) | (rw [bI_f h69] at this; omega)) (by omega) (by omega)
  refine lv_lload_n hx hb d_M_plainStart_0 rfl (lv_at hl 2 rfl) ?_
  refine ai_lconst (x := 1) hx hb d_M_plainStart_1 (by decide +kernel) ?_
  refine ai_lsub hx hb d_M_plainStart_2 ?_
  refine lv_aload_n hx hb d_M_plainStart_3 rfl (lv_at hl 0 rfl) ?_
  refine va_get (D := D) (cl := CL) (ci := 10) (v := .ref (ad 0)) (C := "DayBookModel") (T := T_M) (N := 19) hx hb hts in_M hown hK hP 0 rfl rfl 1 (by decide) (hts _ k_947) (fun _ h9 => h9) rfl d_M_plainStart_4 ?_
  refine lv_iload_n hx hb d_M_plainStart_7 rfl (lv_at hl 1 rfl) ?_
  refine ma_ild hx hb hK hP 1 0 rfl rfl (h := g 0) (by omega) (by decide) d_M_plainStart_8 ?_
  refine ai_i2l hx hb d_M_plainStart_9 (by omega) ?_
  refine ro_S (rest := []) (ct_M_div l (y - 1) (g 0 (Int.toNat cal)) (by omega) (by omega)) j_M_div k_928 hF rfl hl.1 rfl ⟨Nat.le_of_ble_eq_true rfl, Nat.le_of_ble_eq_true rfl⟩ (Nat.le_of_ble_eq_true rfl) d_M_plainStart_10 ⟨Nat.zero_le _, Nat.zero_le _⟩ Bm_true (fun _ _ _ => trivial) ?_
  refine ai_nmL hx hb (fun v13 e13 => ?_)
  refine lv_lstore (lv' := [(4, .long (iL v13)), (0, .ref a), (1, .int (iI cal)), (2, .long (iL y))]) hx hb d_M_plainStart_13 hl (by decide) rfl (fun ls hl => ?_)
  have hq1 := Int.mul_ediv_add_emod (y - 1) (g 0 (Int.toNat cal))
  have hq2 := md_rng (x := y - 1) (n := g 0 (Int.toNat cal)) (by omega)
  rw [← e13] at hq1
  have hq3 : v13 * g 0 (Int.toNat cal) = g 0 (Int.toNat cal) * v13 := Int.mul_comm _ _
  have hq4 := ys_cyc (ep := epM g cal) (pd := plM g cal) c4 v13
  rw [← c3] at hq4
  refine lv_aload_n hx hb d_M_plainStart_15 rfl (lv_at hl 1 rfl) ?_
  refine lv_iload_n hx hb d_M_plainStart_16 rfl (lv_at hl 2 rfl) ?_
  refine ro_V (rest := []) (ct_M_epoch l D a ad cx F g cal hcal) j_M_epoch k_1056 (hts _ s_M_epoch) hF hB.recv rfl hl.1 rfl ⟨Nat.le_of_ble_eq_true rfl, Nat.le_of_ble_eq_true rfl⟩ (Nat.le_of_ble_eq_true rfl) d_M_plainStart_17 ⟨Nat.zero_le _, Nat.zero_le _⟩ MdB.m (fun U h1 h2 => MdB.m.2 s U h1 h2 hB) ?_
  refine ai_i2l hx hb d_M_plainStart_20 (by omega) ?_
  refine lv_lload hx hb d_M_plainStart_21 (lv_at hl 0 rfl) ?_
  refine lv_aload_n hx hb d_M_plainStart_23 rfl (lv_at hl 1 rfl) ?_
  refine va_get (D := D) (cl := CL) (ci := 10) (v := .ref (ad 1)) (C := "DayBookModel") (T := T_M) (N := 19) hx hb hts in_M hown hK hP 0 rfl rfl 2 (by decide) (hts _ k_948) (fun _ h9 => h9) rfl d_M_plainStart_24 ?_
  refine lv_iload_n hx hb d_M_plainStart_27 rfl (lv_at hl 2 rfl) ?_
  refine ma_lld hx hb hK hP 2 1 rfl rfl (h := g 1) (by omega) (by decide) d_M_plainStart_28 ?_
  refine ai_lmul hx hb d_M_plainStart_29 ?_
  refine ai_ladd hx hb d_M_plainStart_30 ?_
  refine ai_nmL hx hb (fun v31 e31 => ?_)
  refine lv_lstore (lv' := [(6, .long (iL v31)), (4, .long (iL v13)), (0, .ref a), (1, .int (iI cal)), (2, .long (iL y))]) hx hb d_M_plainStart_31 hl (by decide) rfl (fun ls hl => ?_)
  refine lv_lload hx hb d_M_plainStart_33 (lv_at hl 1 rfl) ?_
  refine lv_aload_n hx hb d_M_plainStart_35 rfl (lv_at hl 2 rfl) ?_
  refine va_get (D := D) (cl := CL) (ci := 10) (v := .ref (ad 0)) (C := "DayBookModel") (T := T_M) (N := 19) hx hb hts in_M hown hK hP 0 rfl rfl 1 (by decide) (hts _ k_947) (fun _ h9 => h9) rfl d_M_plainStart_36 ?_
  refine lv_iload_n hx hb d_M_plainStart_39 rfl (lv_at hl 3 rfl) ?_
  refine ma_ild hx hb hK hP 1 0 rfl rfl (h := g 0) (by omega) (by decide) d_M_plainStart_40 ?_
  refine ai_i2l hx hb d_M_plainStart_41 (by omega) ?_
  refine ai_lmul hx hb d_M_plainStart_42 ?_
  refine ai_lconst (x := 1) hx hb d_M_plainStart_43 (by decide +kernel) ?_
  refine ai_ladd hx hb d_M_plainStart_44 ?_
  refine ai_nmL hx hb (fun v45 e45 => ?_)
  refine lv_lstore (lv' := [(8, .long (iL v45)), (6, .long (iL v31)), (4, .long (iL v13)), (0, .ref a), (1, .int (iI cal)), (2, .long (iL y))]) hx hb d_M_plainStart_45 hl (by decide) rfl (fun ls hl => ?_)
  exact hJ47 _ v45 v31 _ (lv_sub hl [0, 1, 3, 4, 5] rfl) (by omega) (by rw [e45, e31]; exact hq4.symm) (by omega) (Nat.lt_succ_self _)
set_option maxHeartbeats 4000000 in
set_option maxRecDepth 100000 in
theorem ct_M_start (l : Launch) (D : va_G) (a : Nat) (ad : Nat → Nat) (cx : Nat → ClassId) (F : Nat → Int) (g : Nat → Nat → Int) (cal : Int) (y : Int) (hcal : cal = 9 ∨ cal = 2 ∨ cal = 0 ∨ cal = 1 ∨ cal = 3 ∨ cal = 4 ∨ cal = 5 ∨ cal = 6 ∨ cal = 7 ∨ cal = 8 ∨ cal = 12 ∨ cal = 13) (ho : 12 ≤ cal → OwnOK g (Int.toNat (cal - 12))) (hcy : cal ≠ 9 → CyOK g (if cal = 2 then 0 else cal)) (ry : -299000000 ≤ y ∧ y ≤ 299000000) : RO l y_M_start w_M_start 5 121 [.ref a, .int (iI cal), .long (iL y)] (MdB D a ad cx F g) (.long (iL (stM g cal y))) := by
  refine ro_of (by decide +kernel) (Nat.le_of_ble_eq_true rfl) ?_
  intro p e s m below meth c ls hx hb hr hts hown hlk hml hl hN hB
  have hown : s.vm.findClass "DayBookModel" = some m.cls := hown
  have hl : lv_has ls 6 [(0, .ref a), (1, .int (iI cal)), (2, .long (iL y))] := hl
  have hF : _ ∧ _ ∧ _ ∧ _ ∧ _ ∧ _ := ⟨hx, hb, hml, hown, hts, hN⟩
  have hK := hB.1
  have hP := hB.2
  have hcr : 0 ≤ cal ∧ cal < 14 := by omega
  refine lv_iload_n hx hb d_M_start_0 rfl (lv_at hl 1 rfl) ?_
  refine ai_bipush (x := 9) hx hb d_M_start_1 (by decide +kernel) ?_
  refine ai_icmp_ne hx hb d_M_start_3 rfl (by omega) (by omega) (fun h3 => ?_) (fun h3 => ?_)
  · skip
    refine lv_iload_n hx hb d_M_start_11 rfl (lv_at hl 1 rfl) ?_
    refine ai_iconst hx hb d_M_start_12 ?_
    refine ai_icmp_ne hx hb d_M_start_13 rfl (by omega) (by omega) (fun h13 => ?_) (fun h13 => ?_)
    · skip
      refine lv_aload_n hx hb d_M_start_42 rfl (lv_at hl 0 rfl) ?_
      refine lv_iload_n hx hb d_M_start_43 rfl (lv_at hl 1 rfl) ?_
      refine lv_lload_n hx hb d_M_start_44 rfl (lv_at hl 2 rfl) ?_
      refine ro_V (rest := []) (ct_M_plainStart l D a ad cx F g cal y (by omega) ho (by have := hcy (by omega); rw [if_neg (by omega)] at this; exact this) (by omega)) j_M_plainStart k_1089 (hts _ s_M_plainStart) hF hB.recv rfl hl.1 rfl ⟨Nat.le_of_ble_eq_true rfl, Nat.le_of_ble_eq_true rfl⟩ (Nat.le_of_ble_eq_true rfl) d_M_start_45 ⟨Nat.zero_le _, Nat.zero_le _⟩ MdB.m (fun U h1 h2 => MdB.m.2 s U h1 h2 hB) ?_
      exact ro_lret hx hb hr hlk d_M_start_48 (by unfold stM; rw [if_neg (by omega), if_neg (by omega)])
    · skip
      have hcy0 : CyOK g 0 := by (have := hcy (by omega); rw [if_pos (by omega)] at this; exact this)
      obtain ⟨K, c1, c2, c3, c4⟩ := hcy0
      have q1 := ys_rng2 (g := g) (cal := 0) (by decide) (fun h => absurd h (by decide)) (y := y) (by omega)
      refine lv_aload_n hx hb d_M_start_16 rfl (lv_at hl 0 rfl) ?_
      refine ai_iconst hx hb d_M_start_17 ?_
      refine lv_lload_n hx hb d_M_start_18 rfl (lv_at hl 2 rfl) ?_
      refine ro_V (rest := []) (ct_M_plainStart l D a ad cx F g 0 y (by decide) (fun h => absurd h (by decide)) (by have := hcy (by omega); rw [if_pos (by omega)] at this; exact this) (by omega)) j_M_plainStart k_1089 (hts _ s_M_plainStart) hF hB.recv rfl hl.1 rfl ⟨Nat.le_of_ble_eq_true rfl, Nat.le_of_ble_eq_true rfl⟩ (Nat.le_of_ble_eq_true rfl) d_M_start_19 ⟨Nat.zero_le _, Nat.zero_le _⟩ MdB.m (fun U h1 h2 => MdB.m.2 s U h1 h2 hB) ?_
      refine ai_ldc2 (x := 3) hx hb hown (hts _ k_933) (by decide +kernel) d_M_start_22 ?_
      refine ai_ladd hx hb d_M_start_25 ?_
      refine ai_nmL hx hb (fun v26 e26 => ?_)
      refine lv_lstore (lv' := [(4, .long (iL v26)), (0, .ref a), (1, .int (iI cal)), (2, .long (iL y))]) hx hb d_M_start_26 hl (by decide) rfl (fun ls hl => ?_)
      refine lv_lload hx hb d_M_start_28 (lv_at hl 0 rfl) ?_
      refine lv_lload hx hb d_M_start_30 (lv_at hl 0 rfl) ?_
      refine ai_lconst (x := 1) hx hb d_M_start_32 (by decide +kernel) ?_
      refine ai_lsub hx hb d_M_start_33 ?_
      refine ai_ldc2 (x := 7) hx hb hown (hts _ k_944) (by decide +kernel) d_M_start_34 ?_
      refine ro_S (rest := [.long (iL v26)]) (ct_M_mod l (v26 - 1) 7 (by omega) (by omega)) j_M_mod k_925 hF rfl hl.1 rfl ⟨Nat.le_of_ble_eq_true rfl, Nat.le_of_ble_eq_true rfl⟩ (Nat.le_of_ble_eq_true rfl) d_M_start_37 ⟨Nat.zero_le _, Nat.zero_le _⟩ Bm_true (fun _ _ _ => trivial) ?_
      refine ai_lsub hx hb d_M_start_40 ?_
      exact ro_lret hx hb hr hlk d_M_start_41 (by unfold stM; rw [if_neg (by omega), if_pos (by omega)]; unfold wst; rw [e26])
  · skip
    refine lv_lload_n hx hb d_M_start_6 rfl (lv_at hl 2 rfl) ?_
    refine ro_S (rest := []) (ct_M_moonStart l y (by omega)) j_M_moonStart k_1073 hF rfl hl.1 rfl ⟨Nat.le_of_ble_eq_true rfl, Nat.le_of_ble_eq_true rfl⟩ (Nat.le_of_ble_eq_true rfl) d_M_start_7 ⟨Nat.zero_le _, Nat.zero_le _⟩ Bm_true (fun _ _ _ => trivial) ?_
    exact ro_lret hx hb hr hlk d_M_start_10 (by unfold stM; rw [if_pos (by omega)])
