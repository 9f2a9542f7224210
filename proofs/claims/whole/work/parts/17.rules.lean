/-! 17.rules: laid by program (wip/whole) -/
theorem mul_rng {a y : Int} (ha : 0 ≤ a ∧ a ≤ 1000) (hy : -1000000001 ≤ y ∧ y ≤ 1000000001) : -1000000001000 ≤ a * y ∧ a * y ≤ 1000000001000 := by
  have h1 := Int.mul_le_mul_of_nonneg_left hy.2 ha.1
  have h2 := Int.mul_le_mul_of_nonneg_left hy.1 ha.1
  omega
noncomputable def lbD (k : Int) (P : Prop) (y : Int) : Int := lb0 (y + k) - bI P * ((y + k - 1) / 4000)
def ylD (k : Int) (P : Prop) (y : Int) : Prop := yl0 (y + k) ∧ ¬ (P ∧ (y + k) % 4000 = 0)
set_option maxHeartbeats 4000000 in
set_option maxRecDepth 100000 in
theorem ct_SR_leapsBefore (l : Launch) (D : va_G) (q : Nat) (a : Int) (b : Int) (c0 : Int) (y : Int) (ha : 0 ≤ a ∧ a ≤ 1000) (hb0 : 0 ≤ b ∧ b ≤ 1000) (hc : 0 < c0 ∧ c0 ≤ 1000) (ry : -1000000000 ≤ y ∧ y ≤ 1000000000) : RO l y_SR_leapsBefore w_SR_leapsBefore 1 25 [.ref q, .long (iL y)] (OB D [(q, .inr (7, [.long (iL a), .long (iL b), .long (iL c0)]))]) (.long (iL (lbS a b c0 y))) := by
  refine ro_of (by decide +kernel) (Nat.le_of_ble_eq_true rfl) ?_
  intro p e s m below meth c ls hx hb hr hts hown hlk hml hl hN hB
  have hown : s.vm.findClass "DayBook$SpreadRule" = some m.cls := hown
  have hl : lv_has ls 3 [(0, .ref q), (1, .long (iL y))] := hl
  have hF : _ ∧ _ ∧ _ ∧ _ ∧ _ ∧ _ := ⟨hx, hb, hml, hown, hts, hN⟩
  have hK := hB.1
  have hP := hB.2
  have n1 := mul_rng (a := a) (y := y) ha (by omega)
  have n2 := mul_rng (a := a) (y := y - 1) ha (by omega)
  refine lv_aload_n hx hb d_SR_leapsBefore_0 rfl (lv_at hl 0 rfl) ?_
  refine va_get (D := D) (cl := CL) (ci := 7) (v := .long (iL a)) (C := "DayBook$SpreadRule") (T := T_SR) (N := 3) hx hb hts in_SR hown hK hP 0 rfl rfl 0 (by decide) (hts _ k_102) (fun _ h9 => h9) rfl d_SR_leapsBefore_1 ?_
  refine lv_lload_n hx hb d_SR_leapsBefore_4 rfl (lv_at hl 1 rfl) ?_
  refine ai_lconst (x := 1) hx hb d_SR_leapsBefore_5 (by decide +kernel) ?_
  refine ai_lsub hx hb d_SR_leapsBefore_6 ?_
  refine ai_lmul hx hb d_SR_leapsBefore_7 ?_
  refine lv_aload_n hx hb d_SR_leapsBefore_8 rfl (lv_at hl 0 rfl) ?_
  refine va_get (D := D) (cl := CL) (ci := 7) (v := .long (iL b)) (C := "DayBook$SpreadRule") (T := T_SR) (N := 3) hx hb hts in_SR hown hK hP 0 rfl rfl 1 (by decide) (hts _ k_103) (fun _ h9 => h9) rfl d_SR_leapsBefore_9 ?_
  refine ai_ladd hx hb d_SR_leapsBefore_12 ?_
  refine lv_aload_n hx hb d_SR_leapsBefore_13 rfl (lv_at hl 0 rfl) ?_
  refine va_get (D := D) (cl := CL) (ci := 7) (v := .long (iL c0)) (C := "DayBook$SpreadRule") (T := T_SR) (N := 3) hx hb hts in_SR hown hK hP 0 rfl rfl 2 (by decide) (hts _ k_104) (fun _ h9 => h9) rfl d_SR_leapsBefore_14 ?_
  refine ro_S (rest := []) (ct_JM_floorDiv_JJJ l ((a * (y - 1)) + b) c0 (by omega) (by omega)) j_JM_floorDiv_JJJ k_583 hF rfl hl.1 rfl ⟨Nat.le_of_ble_eq_true rfl, Nat.le_of_ble_eq_true rfl⟩ (Nat.le_of_ble_eq_true rfl) d_SR_leapsBefore_17 ⟨Nat.zero_le _, Nat.zero_le _⟩ Bm_true (fun _ _ _ => trivial) ?_
  exact ro_lret hx hb hr hlk d_SR_leapsBefore_20 rfl
set_option maxHeartbeats 4000000 in
set_option maxRecDepth 100000 in
theorem ct_SR_isLeapCount (l : Launch) (D : va_G) (q : Nat) (a : Int) (b : Int) (c0 : Int) (y : Int) (ha : 0 ≤ a ∧ a ≤ 1000) (hb0 : 0 ≤ b ∧ b ≤ 1000) (hc : 0 < c0 ∧ c0 ≤ 1000) (ry : -1000000000 ≤ y ∧ y ≤ 1000000000) : RO l y_SR_isLeapCount w_SR_isLeapCount 1 25 [.ref q, .long (iL y)] (OB D [(q, .inr (7, [.long (iL a), .long (iL b), .long (iL c0)]))]) (.int (iI (bI (ylS a b c0 y)))) := by
  refine ro_of (by decide +kernel) (Nat.le_of_ble_eq_true rfl) ?_
  intro p e s m below meth c ls hx hb hr hts hown hlk hml hl hN hB
  have hown : s.vm.findClass "DayBook$SpreadRule" = some m.cls := hown
  have hl : lv_has ls 3 [(0, .ref q), (1, .long (iL y))] := hl
  have hF : _ ∧ _ ∧ _ ∧ _ ∧ _ ∧ _ := ⟨hx, hb, hml, hown, hts, hN⟩
  have hK := hB.1
  have hP := hB.2
  have n1 := mul_rng (a := a) (y := y) ha (by omega)
  have n2 := mul_rng (a := a) (y := y - 1) ha (by omega)
  have n3 := md_rng (x := a * y + b) hc.1
  refine lv_aload_n hx hb d_SR_isLeapCount_0 rfl (lv_at hl 0 rfl) ?_
  refine va_get (D := D) (cl := CL) (ci := 7) (v := .long (iL a)) (C := "DayBook$SpreadRule") (T := T_SR) (N := 3) hx hb hts in_SR hown hK hP 0 rfl rfl 0 (by decide) (hts _ k_102) (fun _ h9 => h9) rfl d_SR_isLeapCount_1 ?_
  refine lv_lload_n hx hb d_SR_isLeapCount_4 rfl (lv_at hl 1 rfl) ?_
  refine ai_lmul hx hb d_SR_isLeapCount_5 ?_
  refine lv_aload_n hx hb d_SR_isLeapCount_6 rfl (lv_at hl 0 rfl) ?_
  refine va_get (D := D) (cl := CL) (ci := 7) (v := .long (iL b)) (C := "DayBook$SpreadRule") (T := T_SR) (N := 3) hx hb hts in_SR hown hK hP 0 rfl rfl 1 (by decide) (hts _ k_103) (fun _ h9 => h9) rfl d_SR_isLeapCount_7 ?_
  refine ai_ladd hx hb d_SR_isLeapCount_10 ?_
  refine lv_aload_n hx hb d_SR_isLeapCount_11 rfl (lv_at hl 0 rfl) ?_
  refine va_get (D := D) (cl := CL) (ci := 7) (v := .long (iL c0)) (C := "DayBook$SpreadRule") (T := T_SR) (N := 3) hx hb hts in_SR hown hK hP 0 rfl rfl 2 (by decide) (hts _ k_104) (fun _ h9 => h9) rfl d_SR_isLeapCount_12 ?_
  refine ro_S (rest := []) (ct_JM_floorMod_JJJ l ((a * y) + b) c0 (by omega) (by omega)) j_JM_floorMod_JJJ k_793 hF rfl hl.1 rfl ⟨Nat.le_of_ble_eq_true rfl, Nat.le_of_ble_eq_true rfl⟩ (Nat.le_of_ble_eq_true rfl) d_SR_isLeapCount_15 ⟨Nat.zero_le _, Nat.zero_le _⟩ Bm_true (fun _ _ _ => trivial) ?_
  refine lv_aload_n hx hb d_SR_isLeapCount_18 rfl (lv_at hl 0 rfl) ?_
  refine va_get (D := D) (cl := CL) (ci := 7) (v := .long (iL a)) (C := "DayBook$SpreadRule") (T := T_SR) (N := 3) hx hb hts in_SR hown hK hP 0 rfl rfl 0 (by decide) (hts _ k_102) (fun _ h9 => h9) rfl d_SR_isLeapCount_19 ?_
  refine ai_lcmp_ge hx hb d_SR_isLeapCount_22 d_SR_isLeapCount_23 rfl (by omega) (by omega) (fun h22 => ?_) (fun h22 => ?_)
  · skip
    refine ai_iconst hx hb d_SR_isLeapCount_30 ?_
    exact ro_zret hx hb hr hlk d_SR_isLeapCount_31 (ro_0 (by unfold ylS; omega) rfl)
  · skip
    refine ai_iconst hx hb d_SR_isLeapCount_26 ?_
    refine lv_goto hx hb d_SR_isLeapCount_27 rfl ?_
    exact ro_zret hx hb hr hlk d_SR_isLeapCount_31 (ro_1 (by unfold ylS; omega) rfl)
set_option maxHeartbeats 4000000 in
set_option maxRecDepth 100000 in
theorem ct_CR_leapsBefore (l : Launch) (D : va_G) (q : Nat) (k : Int) (P : Prop) (y : Int) (hk : 0 ≤ k ∧ k ≤ 10000) (ry : -1000000000 ≤ y ∧ y ≤ 1000000000) : RO l y_CR_leapsBefore w_CR_leapsBefore 1 25 [.ref q, .long (iL y)] (OB D [(q, .inr (1, [.long (iL k), .int (iI (bI P))]))]) (.long (iL (lbD k P y))) := by
  refine ro_of (by decide +kernel) (Nat.le_of_ble_eq_true rfl) ?_
  intro p e s m below meth c ls hx hb hr hts hown hlk hml hl hN hB
  have hown : s.vm.findClass "DayBook$CenturyRule" = some m.cls := hown
  have hl : lv_has ls 7 [(0, .ref q), (1, .long (iL y))] := hl
  have hF : _ ∧ _ ∧ _ ∧ _ ∧ _ ∧ _ := ⟨hx, hb, hml, hown, hts, hN⟩
  have hK := hB.1
  have hP := hB.2
  refine lv_lload_n hx hb d_CR_leapsBefore_0 rfl (lv_at hl 1 rfl) ?_
  refine lv_aload_n hx hb d_CR_leapsBefore_1 rfl (lv_at hl 0 rfl) ?_
  refine va_get (D := D) (cl := CL) (ci := 1) (v := .long (iL k)) (C := "DayBook$CenturyRule") (T := T_CR) (N := 2) hx hb hts in_CR hown hK hP 0 rfl rfl 0 (by decide) (hts _ k_55) (fun _ h9 => h9) rfl d_CR_leapsBefore_2 ?_
  refine ai_ladd hx hb d_CR_leapsBefore_5 ?_
  refine ai_lconst (x := 1) hx hb d_CR_leapsBefore_6 (by decide +kernel) ?_
  refine ai_lsub hx hb d_CR_leapsBefore_7 ?_
  refine ai_nmL hx hb (fun v8 e8 => ?_)
  refine lv_lstore_n (lv' := [(3, .long (iL v8)), (0, .ref q), (1, .long (iL y))]) hx hb d_CR_leapsBefore_8 rfl hl (by decide) rfl (fun ls hl => ?_)
  refine lv_lload_n hx hb d_CR_leapsBefore_9 rfl (lv_at hl 0 rfl) ?_
  refine ai_ldc2 (x := 4) hx hb hown (hts _ k_564) (by decide +kernel) d_CR_leapsBefore_10 ?_
  refine ro_S (rest := []) (ct_JM_floorDiv_JJJ l v8 4 (by omega) (by omega)) j_JM_floorDiv_JJJ k_565 hF rfl hl.1 rfl ⟨Nat.le_of_ble_eq_true rfl, Nat.le_of_ble_eq_true rfl⟩ (Nat.le_of_ble_eq_true rfl) d_CR_leapsBefore_13 ⟨Nat.zero_le _, Nat.zero_le _⟩ Bm_true (fun _ _ _ => trivial) ?_
  refine lv_lload_n hx hb d_CR_leapsBefore_16 rfl (lv_at hl 0 rfl) ?_
  refine ai_ldc2 (x := 100) hx hb hown (hts _ k_566) (by decide +kernel) d_CR_leapsBefore_17 ?_
  refine ro_S (rest := [.long (iL (v8 / 4))]) (ct_JM_floorDiv_JJJ l v8 100 (by omega) (by omega)) j_JM_floorDiv_JJJ k_565 hF rfl hl.1 rfl ⟨Nat.le_of_ble_eq_true rfl, Nat.le_of_ble_eq_true rfl⟩ (Nat.le_of_ble_eq_true rfl) d_CR_leapsBefore_20 ⟨Nat.zero_le _, Nat.zero_le _⟩ Bm_true (fun _ _ _ => trivial) ?_
  refine ai_lsub hx hb d_CR_leapsBefore_23 ?_
  refine lv_lload_n hx hb d_CR_leapsBefore_24 rfl (lv_at hl 0 rfl) ?_
  refine ai_ldc2 (x := 400) hx hb hown (hts _ k_567) (by decide +kernel) d_CR_leapsBefore_25 ?_
  refine ro_S (rest := [.long (iL ((v8 / 4) - (v8 / 100)))]) (ct_JM_floorDiv_JJJ l v8 400 (by omega) (by omega)) j_JM_floorDiv_JJJ k_565 hF rfl hl.1 rfl ⟨Nat.le_of_ble_eq_true rfl, Nat.le_of_ble_eq_true rfl⟩ (Nat.le_of_ble_eq_true rfl) d_CR_leapsBefore_28 ⟨Nat.zero_le _, Nat.zero_le _⟩ Bm_true (fun _ _ _ => trivial) ?_
  refine ai_ladd hx hb d_CR_leapsBefore_31 ?_
  refine ai_nmL hx hb (fun v32 e32 => ?_)
  refine lv_lstore (lv' := [(5, .long (iL v32)), (3, .long (iL v8)), (0, .ref q), (1, .long (iL y))]) hx hb d_CR_leapsBefore_32 hl (by decide) rfl (fun ls hl => ?_)
  refine lv_aload_n hx hb d_CR_leapsBefore_34 rfl (lv_at hl 2 rfl) ?_
  refine va_get (D := D) (cl := CL) (ci := 1) (v := .int (iI (bI P))) (C := "DayBook$CenturyRule") (T := T_CR) (N := 2) hx hb hts in_CR hown hK hP 0 rfl rfl 1 (by decide) (hts _ k_56) (fun _ h9 => h9) rfl d_CR_leapsBefore_35 ?_
  refine ai_ifeqB hx hb d_CR_leapsBefore_38 rfl (fun h38 => ?_) (fun h38 => ?_)
  · skip
    refine lv_lload hx hb d_CR_leapsBefore_54 (lv_at hl 0 rfl) ?_
    exact ro_lret hx hb hr hlk d_CR_leapsBefore_56 (by unfold lbD lb0; rw [bI_f h38, e32, e8]; omega)
  · skip
    refine lv_lload hx hb d_CR_leapsBefore_41 (lv_at hl 0 rfl) ?_
    refine lv_lload_n hx hb d_CR_leapsBefore_43 rfl (lv_at hl 1 rfl) ?_
    refine ai_ldc2 (x := 4000) hx hb hown (hts _ k_568) (by decide +kernel) d_CR_leapsBefore_44 ?_
    refine ro_S (rest := [.long (iL v32)]) (ct_JM_floorDiv_JJJ l v8 4000 (by omega) (by omega)) j_JM_floorDiv_JJJ k_565 hF rfl hl.1 rfl ⟨Nat.le_of_ble_eq_true rfl, Nat.le_of_ble_eq_true rfl⟩ (Nat.le_of_ble_eq_true rfl) d_CR_leapsBefore_47 ⟨Nat.zero_le _, Nat.zero_le _⟩ Bm_true (fun _ _ _ => trivial) ?_
    refine ai_lsub hx hb d_CR_leapsBefore_50 ?_
    refine lv_goto hx hb d_CR_leapsBefore_51 rfl ?_
    exact ro_lret hx hb hr hlk d_CR_leapsBefore_56 (by unfold lbD lb0; rw [bI_t h38, e32, e8]; omega)
set_option maxHeartbeats 4000000 in
set_option maxRecDepth 100000 in
theorem ct_CR_isLeapCount (l : Launch) (D : va_G) (q : Nat) (k : Int) (P : Prop) (y : Int) (hk : 0 ≤ k ∧ k ≤ 10000) (ry : -1000000000 ≤ y ∧ y ≤ 1000000000) : RO l y_CR_isLeapCount w_CR_isLeapCount 1 25 [.ref q, .long (iL y)] (OB D [(q, .inr (1, [.long (iL k), .int (iI (bI P))]))]) (.int (iI (bI (ylD k P y)))) := by
  refine ro_of (by decide +kernel) (Nat.le_of_ble_eq_true rfl) ?_
  intro p e s m below meth c ls hx hb hr hts hown hlk hml hl hN hB
  have hown : s.vm.findClass "DayBook$CenturyRule" = some m.cls := hown
  have hl : lv_has ls 5 [(0, .ref q), (1, .long (iL y))] := hl
  have hF : _ ∧ _ ∧ _ ∧ _ ∧ _ ∧ _ := ⟨hx, hb, hml, hown, hts, hN⟩
  have hK := hB.1
  have hP := hB.2
  refine lv_lload_n hx hb d_CR_isLeapCount_0 rfl (lv_at hl 1 rfl) ?_
  refine lv_aload_n hx hb d_CR_isLeapCount_1 rfl (lv_at hl 0 rfl) ?_
  refine va_get (D := D) (cl := CL) (ci := 1) (v := .long (iL k)) (C := "DayBook$CenturyRule") (T := T_CR) (N := 2) hx hb hts in_CR hown hK hP 0 rfl rfl 0 (by decide) (hts _ k_55) (fun _ h9 => h9) rfl d_CR_isLeapCount_2 ?_
  refine ai_ladd hx hb d_CR_isLeapCount_5 ?_
  refine ai_nmL hx hb (fun v6 e6 => ?_)
  refine lv_lstore_n (lv' := [(3, .long (iL v6)), (0, .ref q), (1, .long (iL y))]) hx hb d_CR_isLeapCount_6 rfl hl (by decide) rfl (fun ls hl => ?_)
  refine lv_aload_n hx hb d_CR_isLeapCount_7 rfl (lv_at hl 1 rfl) ?_
  refine va_get (D := D) (cl := CL) (ci := 1) (v := .int (iI (bI P))) (C := "DayBook$CenturyRule") (T := T_CR) (N := 2) hx hb hts in_CR hown hK hP 0 rfl rfl 1 (by decide) (hts _ k_56) (fun _ h9 => h9) rfl d_CR_isLeapCount_8 ?_
  refine ai_ifeqB hx hb d_CR_isLeapCount_11 rfl (fun h11 => ?_) (fun h11 => ?_)
  · skip
    refine lv_lload_n hx hb d_CR_isLeapCount_28 rfl (lv_at hl 0 rfl) ?_
    refine ai_ldc2 (x := 4) hx hb hown (hts _ k_564) (by decide +kernel) d_CR_isLeapCount_29 ?_
    refine ro_S (rest := []) (ct_JM_floorMod_JJJ l v6 4 (by omega) (by omega)) j_JM_floorMod_JJJ k_785 hF rfl hl.1 rfl ⟨Nat.le_of_ble_eq_true rfl, Nat.le_of_ble_eq_true rfl⟩ (Nat.le_of_ble_eq_true rfl) d_CR_isLeapCount_32 ⟨Nat.zero_le _, Nat.zero_le _⟩ Bm_true (fun _ _ _ => trivial) ?_
    refine ai_lconst (x := 0) hx hb d_CR_isLeapCount_35 (by decide +kernel) ?_
    refine ai_lcmp_ne hx hb d_CR_isLeapCount_36 d_CR_isLeapCount_37 rfl (by omega) (by omega) (fun h36 => ?_) (fun h36 => ?_)
    · skip
      refine ai_iconst hx hb d_CR_isLeapCount_68 ?_
      exact ro_zret hx hb hr hlk d_CR_isLeapCount_69 (ro_0 (fun q => by have q1 := q.1; unfold yl0 at q1; omega) rfl)
    · skip
      refine lv_lload_n hx hb d_CR_isLeapCount_40 rfl (lv_at hl 0 rfl) ?_
      refine ai_ldc2 (x := 100) hx hb hown (hts _ k_566) (by decide +kernel) d_CR_isLeapCount_41 ?_
      refine ro_S (rest := []) (ct_JM_floorMod_JJJ l v6 100 (by omega) (by omega)) j_JM_floorMod_JJJ k_785 hF rfl hl.1 rfl ⟨Nat.le_of_ble_eq_true rfl, Nat.le_of_ble_eq_true rfl⟩ (Nat.le_of_ble_eq_true rfl) d_CR_isLeapCount_44 ⟨Nat.zero_le _, Nat.zero_le _⟩ Bm_true (fun _ _ _ => trivial) ?_
      refine ai_lconst (x := 0) hx hb d_CR_isLeapCount_47 (by decide +kernel) ?_
      refine ai_lcmp_ne hx hb d_CR_isLeapCount_48 d_CR_isLeapCount_49 rfl (by omega) (by omega) (fun h48 => ?_) (fun h48 => ?_)
      · skip
        refine ai_iconst hx hb d_CR_isLeapCount_64 ?_
        refine lv_goto hx hb d_CR_isLeapCount_65 rfl ?_
        exact ro_zret hx hb hr hlk d_CR_isLeapCount_69 (ro_1 ⟨by unfold yl0; omega, fun ⟨q1, q2⟩ => by first | exact h11 q1 | omega⟩ rfl)
      · skip
        refine lv_lload_n hx hb d_CR_isLeapCount_52 rfl (lv_at hl 0 rfl) ?_
        refine ai_ldc2 (x := 400) hx hb hown (hts _ k_567) (by decide +kernel) d_CR_isLeapCount_53 ?_
        refine ro_S (rest := []) (ct_JM_floorMod_JJJ l v6 400 (by omega) (by omega)) j_JM_floorMod_JJJ k_785 hF rfl hl.1 rfl ⟨Nat.le_of_ble_eq_true rfl, Nat.le_of_ble_eq_true rfl⟩ (Nat.le_of_ble_eq_true rfl) d_CR_isLeapCount_56 ⟨Nat.zero_le _, Nat.zero_le _⟩ Bm_true (fun _ _ _ => trivial) ?_
        refine ai_lconst (x := 0) hx hb d_CR_isLeapCount_59 (by decide +kernel) ?_
        refine ai_lcmp_ne hx hb d_CR_isLeapCount_60 d_CR_isLeapCount_61 rfl (by omega) (by omega) (fun h60 => ?_) (fun h60 => ?_)
        · skip
          refine ai_iconst hx hb d_CR_isLeapCount_68 ?_
          exact ro_zret hx hb hr hlk d_CR_isLeapCount_69 (ro_0 (fun q => by have q1 := q.1; unfold yl0 at q1; omega) rfl)
        · skip
          refine ai_iconst hx hb d_CR_isLeapCount_64 ?_
          refine lv_goto hx hb d_CR_isLeapCount_65 rfl ?_
          exact ro_zret hx hb hr hlk d_CR_isLeapCount_69 (ro_1 ⟨by unfold yl0; omega, fun ⟨q1, q2⟩ => by first | exact h11 q1 | omega⟩ rfl)
  · skip
    refine lv_lload_n hx hb d_CR_isLeapCount_14 rfl (lv_at hl 0 rfl) ?_
    refine ai_ldc2 (x := 4000) hx hb hown (hts _ k_568) (by decide +kernel) d_CR_isLeapCount_15 ?_
    refine ro_S (rest := []) (ct_JM_floorMod_JJJ l v6 4000 (by omega) (by omega)) j_JM_floorMod_JJJ k_785 hF rfl hl.1 rfl ⟨Nat.le_of_ble_eq_true rfl, Nat.le_of_ble_eq_true rfl⟩ (Nat.le_of_ble_eq_true rfl) d_CR_isLeapCount_18 ⟨Nat.zero_le _, Nat.zero_le _⟩ Bm_true (fun _ _ _ => trivial) ?_
    refine ai_lconst (x := 0) hx hb d_CR_isLeapCount_21 (by decide +kernel) ?_
    refine ai_lcmp_ne hx hb d_CR_isLeapCount_22 d_CR_isLeapCount_23 rfl (by omega) (by omega) (fun h22 => ?_) (fun h22 => ?_)
    · skip
      refine lv_lload_n hx hb d_CR_isLeapCount_28 rfl (lv_at hl 0 rfl) ?_
      refine ai_ldc2 (x := 4) hx hb hown (hts _ k_564) (by decide +kernel) d_CR_isLeapCount_29 ?_
      refine ro_S (rest := []) (ct_JM_floorMod_JJJ l v6 4 (by omega) (by omega)) j_JM_floorMod_JJJ k_785 hF rfl hl.1 rfl ⟨Nat.le_of_ble_eq_true rfl, Nat.le_of_ble_eq_true rfl⟩ (Nat.le_of_ble_eq_true rfl) d_CR_isLeapCount_32 ⟨Nat.zero_le _, Nat.zero_le _⟩ Bm_true (fun _ _ _ => trivial) ?_
      refine ai_lconst (x := 0) hx hb d_CR_isLeapCount_35 (by decide +kernel) ?_
      refine ai_lcmp_ne hx hb d_CR_isLeapCount_36 d_CR_isLeapCount_37 rfl (by omega) (by omega) (fun h36 => ?_) (fun h36 => ?_)
      · skip
        refine ai_iconst hx hb d_CR_isLeapCount_68 ?_
        exact ro_zret hx hb hr hlk d_CR_isLeapCount_69 (ro_0 (fun q => by have q1 := q.1; unfold yl0 at q1; omega) rfl)
      · skip
        refine lv_lload_n hx hb d_CR_isLeapCount_40 rfl (lv_at hl 0 rfl) ?_
        refine ai_ldc2 (x := 100) hx hb hown (hts _ k_566) (by decide +kernel) d_CR_isLeapCount_41 ?_
        refine ro_S (rest := []) (ct_JM_floorMod_JJJ l v6 100 (by omega) (by omega)) j_JM_floorMod_JJJ k_785 hF rfl hl.1 rfl ⟨Nat.le_of_ble_eq_true rfl, Nat.le_of_ble_eq_true rfl⟩ (Nat.le_of_ble_eq_true rfl) d_CR_isLeapCount_44 ⟨Nat.zero_le _, Nat.zero_le _⟩ Bm_true (fun _ _ _ => trivial) ?_
        refine ai_lconst (x := 0) hx hb d_CR_isLeapCount_47 (by decide +kernel) ?_
        refine ai_lcmp_ne hx hb d_CR_isLeapCount_48 d_CR_isLeapCount_49 rfl (by omega) (by omega) (fun h48 => ?_) (fun h48 => ?_)
        · skip
          refine ai_iconst hx hb d_CR_isLeapCount_64 ?_
          refine lv_goto hx hb d_CR_isLeapCount_65 rfl ?_
          exact ro_zret hx hb hr hlk d_CR_isLeapCount_69 (ro_1 ⟨by unfold yl0; omega, fun ⟨q1, q2⟩ => by first | exact h11 q1 | omega⟩ rfl)
        · skip
          refine lv_lload_n hx hb d_CR_isLeapCount_52 rfl (lv_at hl 0 rfl) ?_
          refine ai_ldc2 (x := 400) hx hb hown (hts _ k_567) (by decide +kernel) d_CR_isLeapCount_53 ?_
          refine ro_S (rest := []) (ct_JM_floorMod_JJJ l v6 400 (by omega) (by omega)) j_JM_floorMod_JJJ k_785 hF rfl hl.1 rfl ⟨Nat.le_of_ble_eq_true rfl, Nat.le_of_ble_eq_true rfl⟩ (Nat.le_of_ble_eq_true rfl) d_CR_isLeapCount_56 ⟨Nat.zero_le _, Nat.zero_le _⟩ Bm_true (fun _ _ _ => trivial) ?_
          refine ai_lconst (x := 0) hx hb d_CR_isLeapCount_59 (by decide +kernel) ?_
          refine ai_lcmp_ne hx hb d_CR_isLeapCount_60 d_CR_isLeapCount_61 rfl (by omega) (by omega) (fun h60 => ?_) (fun h60 => ?_)
          · skip
            refine ai_iconst hx hb d_CR_isLeapCount_68 ?_
            exact ro_zret hx hb hr hlk d_CR_isLeapCount_69 (ro_0 (fun q => by have q1 := q.1; unfold yl0 at q1; omega) rfl)
          · skip
            refine ai_iconst hx hb d_CR_isLeapCount_64 ?_
            refine lv_goto hx hb d_CR_isLeapCount_65 rfl ?_
            exact ro_zret hx hb hr hlk d_CR_isLeapCount_69 (ro_1 ⟨by unfold yl0; omega, fun ⟨q1, q2⟩ => by first | exact h11 q1 | omega⟩ rfl)
    · skip
      refine ai_iconst hx hb d_CR_isLeapCount_26 ?_
      exact ro_zret hx hb hr hlk d_CR_isLeapCount_27 (ro_0 (fun q => q.2 ⟨h11, by omega⟩) rfl)
set_option maxHeartbeats 4000000 in
set_option maxRecDepth 100000 in
theorem ct_YR_leapsBefore (l : Launch) (D : va_G) (q : Nat) (y : Int) (ry : -1000000000 ≤ y ∧ y ≤ 1000000000) : RO l y_YR_leapsBefore w_YR_leapsBefore 1 25 [.ref q, .long (iL y)] (OB D [(q, .inr (2, []))]) (.long (iL (lb6 y))) := by
  refine ro_of (by decide +kernel) (Nat.le_of_ble_eq_true rfl) ?_
  intro p e s m below meth c ls hx hb hr hts hown hlk hml hl hN hB
  have hown : s.vm.findClass "DayBook$CycleRule" = some m.cls := hown
  have hl : lv_has ls 5 [(0, .ref q), (1, .long (iL y))] := hl
  have hF : _ ∧ _ ∧ _ ∧ _ ∧ _ ∧ _ := ⟨hx, hb, hml, hown, hts, hN⟩
  have hK := hB.1
  have hP := hB.2
  refine lv_lload_n hx hb d_YR_leapsBefore_0 rfl (lv_at hl 1 rfl) ?_
  refine ai_ldc2 (x := 474) hx hb hown (hts _ k_572) (by decide +kernel) d_YR_leapsBefore_1 ?_
  refine ai_lsub hx hb d_YR_leapsBefore_4 ?_
  refine ai_nmL hx hb (fun v5 e5 => ?_)
  refine lv_lstore_n (lv' := [(3, .long (iL v5)), (0, .ref q), (1, .long (iL y))]) hx hb d_YR_leapsBefore_5 rfl hl (by decide) rfl (fun ls hl => ?_)
  refine ai_ldc2 (x := 683) hx hb hown (hts _ k_573) (by decide +kernel) d_YR_leapsBefore_6 ?_
  refine lv_lload_n hx hb d_YR_leapsBefore_9 rfl (lv_at hl 0 rfl) ?_
  refine ai_ldc2 (x := 2820) hx hb hown (hts _ k_574) (by decide +kernel) d_YR_leapsBefore_10 ?_
  refine ro_S (rest := [.long (iL 683)]) (ct_JM_floorDiv_JJJ l v5 2820 (by omega) (by omega)) j_JM_floorDiv_JJJ k_575 hF rfl hl.1 rfl ⟨Nat.le_of_ble_eq_true rfl, Nat.le_of_ble_eq_true rfl⟩ (Nat.le_of_ble_eq_true rfl) d_YR_leapsBefore_13 ⟨Nat.zero_le _, Nat.zero_le _⟩ Bm_true (fun _ _ _ => trivial) ?_
  refine ai_lmul hx hb d_YR_leapsBefore_16 ?_
  refine lv_lload_n hx hb d_YR_leapsBefore_17 rfl (lv_at hl 0 rfl) ?_
  refine ai_ldc2 (x := 2820) hx hb hown (hts _ k_574) (by decide +kernel) d_YR_leapsBefore_18 ?_
  refine ro_S (rest := [.long (iL (683 * (v5 / 2820)))]) (ct_JM_floorMod_JJJ l v5 2820 (by omega) (by omega)) j_JM_floorMod_JJJ k_576 hF rfl hl.1 rfl ⟨Nat.le_of_ble_eq_true rfl, Nat.le_of_ble_eq_true rfl⟩ (Nat.le_of_ble_eq_true rfl) d_YR_leapsBefore_21 ⟨Nat.zero_le _, Nat.zero_le _⟩ Bm_true (fun _ _ _ => trivial) ?_
  refine ai_ldc2 (x := 511) hx hb hown (hts _ k_577) (by decide +kernel) d_YR_leapsBefore_24 ?_
  refine ai_ladd hx hb d_YR_leapsBefore_27 ?_
  refine ai_ldc2 (x := 31) hx hb hown (hts _ k_578) (by decide +kernel) d_YR_leapsBefore_28 ?_
  refine ai_lmul hx hb d_YR_leapsBefore_31 ?_
  refine ai_ldc2 (x := 128) hx hb hown (hts _ k_579) (by decide +kernel) d_YR_leapsBefore_32 ?_
  refine ro_S (rest := [.long (iL (683 * (v5 / 2820)))]) (ct_JM_floorDiv_JJJ l (((v5 % 2820) + 511) * 31) 128 (by omega) (by omega)) j_JM_floorDiv_JJJ k_575 hF rfl hl.1 rfl ⟨Nat.le_of_ble_eq_true rfl, Nat.le_of_ble_eq_true rfl⟩ (Nat.le_of_ble_eq_true rfl) d_YR_leapsBefore_35 ⟨Nat.zero_le _, Nat.zero_le _⟩ Bm_true (fun _ _ _ => trivial) ?_
  refine ai_ladd hx hb d_YR_leapsBefore_38 ?_
  exact ro_lret hx hb hr hlk d_YR_leapsBefore_39 (by unfold lb6; rw [e5])
set_option maxHeartbeats 4000000 in
set_option maxRecDepth 100000 in
theorem ct_YR_isLeapCount (l : Launch) (D : va_G) (q : Nat) (y : Int) (ry : -1000000000 ≤ y ∧ y ≤ 1000000000) : RO l y_YR_isLeapCount w_YR_isLeapCount 1 25 [.ref q, .long (iL y)] (OB D [(q, .inr (2, []))]) (.int (iI (bI (yl6 y)))) := by
  refine ro_of (by decide +kernel) (Nat.le_of_ble_eq_true rfl) ?_
  intro p e s m below meth c ls hx hb hr hts hown hlk hml hl hN hB
  have hown : s.vm.findClass "DayBook$CycleRule" = some m.cls := hown
  have hl : lv_has ls 3 [(0, .ref q), (1, .long (iL y))] := hl
  have hF : _ ∧ _ ∧ _ ∧ _ ∧ _ ∧ _ := ⟨hx, hb, hml, hown, hts, hN⟩
  have hK := hB.1
  have hP := hB.2
  refine lv_lload_n hx hb d_YR_isLeapCount_0 rfl (lv_at hl 1 rfl) ?_
  refine ai_ldc2 (x := 474) hx hb hown (hts _ k_572) (by decide +kernel) d_YR_isLeapCount_1 ?_
  refine ai_lsub hx hb d_YR_isLeapCount_4 ?_
  refine ai_ldc2 (x := 2820) hx hb hown (hts _ k_574) (by decide +kernel) d_YR_isLeapCount_5 ?_
  refine ro_S (rest := []) (ct_JM_floorMod_JJJ l (y - 474) 2820 (by omega) (by omega)) j_JM_floorMod_JJJ k_576 hF rfl hl.1 rfl ⟨Nat.le_of_ble_eq_true rfl, Nat.le_of_ble_eq_true rfl⟩ (Nat.le_of_ble_eq_true rfl) d_YR_isLeapCount_8 ⟨Nat.zero_le _, Nat.zero_le _⟩ Bm_true (fun _ _ _ => trivial) ?_
  refine ai_ldc2 (x := 512) hx hb hown (hts _ k_789) (by decide +kernel) d_YR_isLeapCount_11 ?_
  refine ai_ladd hx hb d_YR_isLeapCount_14 ?_
  refine ai_ldc2 (x := 31) hx hb hown (hts _ k_578) (by decide +kernel) d_YR_isLeapCount_15 ?_
  refine ai_lmul hx hb d_YR_isLeapCount_18 ?_
  refine ai_ldc2 (x := 128) hx hb hown (hts _ k_579) (by decide +kernel) d_YR_isLeapCount_19 ?_
  refine ro_S (rest := []) (ct_JM_floorMod_JJJ l ((((y - 474) % 2820) + 512) * 31) 128 (by omega) (by omega)) j_JM_floorMod_JJJ k_576 hF rfl hl.1 rfl ⟨Nat.le_of_ble_eq_true rfl, Nat.le_of_ble_eq_true rfl⟩ (Nat.le_of_ble_eq_true rfl) d_YR_isLeapCount_22 ⟨Nat.zero_le _, Nat.zero_le _⟩ Bm_true (fun _ _ _ => trivial) ?_
  refine ai_ldc2 (x := 31) hx hb hown (hts _ k_578) (by decide +kernel) d_YR_isLeapCount_25 ?_
  refine ai_lcmp_ge hx hb d_YR_isLeapCount_28 d_YR_isLeapCount_29 rfl (by omega) (by omega) (fun h28 => ?_) (fun h28 => ?_)
  · skip
    refine ai_iconst hx hb d_YR_isLeapCount_36 ?_
    exact ro_zret hx hb hr hlk d_YR_isLeapCount_37 (ro_0 (by unfold yl6; omega) rfl)
  · skip
    refine ai_iconst hx hb d_YR_isLeapCount_32 ?_
    refine lv_goto hx hb d_YR_isLeapCount_33 rfl ?_
    exact ro_zret hx hb hr hlk d_YR_isLeapCount_37 (ro_1 (by unfold yl6; omega) rfl)
