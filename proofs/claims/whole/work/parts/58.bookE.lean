/-! 58.bookE: laid by program (wip/whole) -/
def okC (r : Nat → Int) (fr to b : Int) : Prop := b < to ∧ to - b ≤ 9 ∧ (r (Int.toNat b) ≠ 48 ∨ (to = b + 1 ∧ b = fr))
/-- the number that stands between two places of the row as the class reads it -/
def NIC (r : Nat → Int) (fr to x : Int) : Prop := ((okC r fr to (bgM r fr to) ∧ dgM r (bgM r fr to) to) ∧ x = if fr < bgM r fr to then -vlM r (Int.toNat (bgM r fr to)) (Int.toNat (to - bgM r fr to)) else vlM r (Int.toNat (bgM r fr to)) (Int.toNat (to - bgM r fr to))) ∨ (¬ (okC r fr to (bgM r fr to) ∧ dgM r (bgM r fr to) to) ∧ x = -2147483648)
theorem NIC.good {r : Nat → Int} {fr to x b : Int} (h : NIC r fr to x) (hb : b = bgM r fr to) (h1 : okC r fr to b) (h2 : dgM r b to) : x = if fr < b then -vlM r (Int.toNat b) (Int.toNat (to - b)) else vlM r (Int.toNat b) (Int.toNat (to - b)) := by
  subst hb
  rcases h with ⟨-, q⟩ | ⟨q, -⟩
  · exact q
  · exact absurd ⟨h1, h2⟩ q
theorem NIC.bad {r : Nat → Int} {fr to x b : Int} (h : NIC r fr to x) (hb : b = bgM r fr to) (h1 : ¬ (okC r fr to b ∧ dgM r b to)) : -2147483648 = x := by
  subst hb
  rcases h with ⟨q, -⟩ | ⟨-, q⟩
  · exact absurd q h1
  · exact q.symm
theorem vlM_rng9 {r : Nat → Int} {b : Nat} : ∀ n : Nat, (∀ i, i < n → 48 ≤ r (b + i) ∧ r (b + i) ≤ 57) → 0 ≤ vlM r b n ∧ vlM r b n < 10 ^ n
  | 0, _ => by simp [vlM]
  | n + 1, h3 => by
    have q := vlM_rng9 n (fun i hi => h3 i (by omega))
    have q2 := h3 n (by omega)
    show 0 ≤ 10 * vlM r b n + (r (b + n) - 48) ∧ 10 * vlM r b n + (r (b + n) - 48) < _
    rw [Int.pow_succ]
    omega
theorem vlM_dg {r : Nat → Int} {b j : Int} (h : dgM r b j) (hb : 0 ≤ b) (hj : b ≤ j ∧ j - b ≤ 9) : 0 ≤ vlM r (Int.toNat b) (Int.toNat (j - b)) ∧ vlM r (Int.toNat b) (Int.toNat (j - b)) < 1000000000 := by
  have q := vlM_rng9 (r := r) (b := Int.toNat b) (Int.toNat (j - b)) (fun i hi => by
    have := h (b + i) (by omega) (by omega)
    rw [show Int.toNat (b + i) = Int.toNat b + i by omega] at this
    exact this)
  have := p10_9 (Int.toNat (j - b)) (by omega)
  omega
theorem vlM_nx {r : Nat → Int} {b j : Int} (hb : 0 ≤ b) (hj : b ≤ j) : vlM r (Int.toNat b) (Int.toNat (j + 1 - b)) = 10 * vlM r (Int.toNat b) (Int.toNat (j - b)) + (r (Int.toNat j) - 48) := by
  rw [show Int.toNat (j + 1 - b) = Int.toNat (j - b) + 1 by omega]
  show 10 * vlM r (Int.toNat b) (Int.toNat (j - b)) + (r (Int.toNat b + Int.toNat (j - b)) - 48) = _
  rw [show Int.toNat b + Int.toNat (j - b) = Int.toNat j by omega]
theorem dgM_nx {r : Nat → Int} {b j : Int} (h : dgM r b j) (h2 : 48 ≤ r (Int.toNat j) ∧ r (Int.toNat j) ≤ 57) : dgM r b (j + 1) := fun i h3 h4 => by
  by_cases q : i = j
  · subst q; exact h2
  · exact h i h3 (by omega)
set_option maxHeartbeats 4000000 in
set_option maxRecDepth 100000 in
theorem ct_B_letter (l : Launch) (D : va_G) (b : Nat) (cvA : Nat) (jlA : Nat) (hbA : Nat) (csA : Nat) (sbA : Nat) (vbA : Nat) (cA : ClassId) (cB : ClassId) (ca : Nat → Option Nat) (cp : Nat) (z : Int) (ml : Int) (tx : Nat → Int) (L : List Int) (i : Int) (hR9 : RWO cp z tx L) (ri : -2147483648 ≤ i ∧ i ≤ 2147483647) : RO l y_B_letter w_B_letter 4 88 [.ref b, .int (iI i)] (fun U => RB D [(cA, .object "DayBook$Calendar"), (cB, .byte)] [(b, .inr (9, [.ref cvA, .ref jlA, .ref hbA, .ref csA, .ref sbA])), (csA, .inl (cA, 14, .inr (.inr (.inr (.inr ca))))), (sbA, .inr (0, [.ref vbA, .int (iI 0), .int (iI ml), .int (iI z)])), (vbA, .inl (cB, cp, .inl (fun j => iI (tx j))))] U ∧ SA (fun _ => False) U) (.int (iI (if 0 ≤ i ∧ i < z then tx (Int.toNat i) else 0))) := by
  refine ro_of (by decide +kernel) (Nat.le_of_ble_eq_true rfl) ?_
  intro p e s m below meth c ls hx hb hr hts hown hlk hml hl hN hX
  have hown : s.vm.findClass "DayBook" = some m.cls := hown
  have hl : lv_has ls 2 [(0, .ref b), (1, .int (iI i))] := hl
  have hF : _ ∧ _ ∧ _ ∧ _ ∧ _ ∧ _ := ⟨hx, hb, hml, hown, hts, hN⟩
  obtain ⟨hW, hT⟩ := hX
  have hK := hW.1
  have hP : va_P D CL [(b, .inr (9, [.ref cvA, .ref jlA, .ref hbA, .ref csA, .ref sbA])), (csA, .inl (cA, 14, .inr (.inr (.inr (.inr ca))))), (sbA, .inr (0, [.ref vbA, .int (iI 0), .int (iI ml), .int (iI z)])), (vbA, .inl (cB, cp, .inl (fun j => iI (tx j))))] s.heap := hW.2
  have hS : va_S (fun _ => False) s.heap s.heap [] := va_S.rf
  obtain ⟨hcp, hzc, hL⟩ := hR9
  have hz1 := hL.1
  refine lv_iload_n hx hb d_B_letter_0 rfl (lv_at hl 1 rfl) ?_
  refine ai_if_lt hx hb d_B_letter_1 rfl (by omega) (fun h1 => ?_) (fun h1 => ?_)
  · skip
    refine ai_iconst hx hb d_B_letter_26 ?_
    exact ro_cret hx hb hr hlk d_B_letter_27 (by first | exact hL.2.2 _ | decide) (by rw [if_neg (by omega)])
  · skip
    refine lv_iload_n hx hb d_B_letter_4 rfl (lv_at hl 1 rfl) ?_
    refine lv_aload_n hx hb d_B_letter_5 rfl (lv_at hl 0 rfl) ?_
    refine va_get (D := D) (cl := CL) (ci := 9) (v := .ref sbA) (C := "DayBook") (T := T_B) (N := 5) hx hb hts in_B hown hK hP 0 rfl rfl 4 (by decide) (hts _ k_208) (fun _ h9 => h9) rfl d_B_letter_6 ?_
    refine ro_V (C := "java/lang/StringBuilder") (rest := [.int (iI i)]) (ct_JB_length l D sbA vbA cB cp ml z tx) j_JB_length k_252 (hts _ k_254) hF (va_recv (q0 := 2) (ci := 0) hK hP rfl rfl) rfl hl.1 rfl ⟨Nat.le_of_ble_eq_true rfl, Nat.le_of_ble_eq_true rfl⟩ (Nat.le_of_ble_eq_true rfl) d_B_letter_9 ⟨(Nat.le_of_ble_eq_true rfl), (Nat.le_of_ble_eq_true rfl)⟩ RB.m (fun U h1 h2 => ⟨va_K.moved h2.alike (va_K.sub hK [1] rfl), by rw [h1]; exact va_P.sub hP [2, 3] rfl⟩) ?_
    refine ai_icmp_ge hx hb d_B_letter_12 rfl (by omega) (by omega) (fun h12 => ?_) (fun h12 => ?_)
    · skip
      refine ai_iconst hx hb d_B_letter_26 ?_
      exact ro_cret hx hb hr hlk d_B_letter_27 (by first | exact hL.2.2 _ | decide) (by rw [if_neg (by omega)])
    · skip
      refine lv_aload_n hx hb d_B_letter_15 rfl (lv_at hl 0 rfl) ?_
      refine va_get (D := D) (cl := CL) (ci := 9) (v := .ref sbA) (C := "DayBook") (T := T_B) (N := 5) hx hb hts in_B hown hK hP 0 rfl rfl 4 (by decide) (hts _ k_208) (fun _ h9 => h9) rfl d_B_letter_16 ?_
      refine lv_iload_n hx hb d_B_letter_19 rfl (lv_at hl 1 rfl) ?_
      refine ro_V (C := "java/lang/StringBuilder") (rest := []) (ct_JB_charAt l D sbA vbA cB cp ml z tx i (by omega) (hL.2.2 _)) j_JB_charAt k_382 (hts _ k_384) hF (va_recv (q0 := 2) (ci := 0) hK hP rfl rfl) rfl hl.1 rfl ⟨Nat.le_of_ble_eq_true rfl, Nat.le_of_ble_eq_true rfl⟩ (Nat.le_of_ble_eq_true rfl) d_B_letter_20 ⟨(Nat.le_of_ble_eq_true rfl), (Nat.le_of_ble_eq_true rfl)⟩ (Bm.and RB.m SA.m) (fun U h1 h2 => ⟨⟨va_K.moved h2.alike (va_K.sub hK [1] rfl), by rw [h1]; exact va_P.sub hP [2, 3] rfl⟩, SA.at hT hS (fun _ h9 => h9.elim) U h1 h2⟩) ?_
      refine lv_goto hx hb d_B_letter_23 rfl ?_
      exact ro_cret hx hb hr hlk d_B_letter_27 (by first | exact hL.2.2 _ | decide) (by rw [if_pos (by omega)])
set_option maxHeartbeats 4000000 in
set_option maxRecDepth 100000 in
theorem ct_B_slashFrom (l : Launch) (D : va_G) (b : Nat) (cvA : Nat) (jlA : Nat) (hbA : Nat) (csA : Nat) (sbA : Nat) (vbA : Nat) (cA : ClassId) (cB : ClassId) (ca : Nat → Option Nat) (cp : Nat) (z : Int) (ml : Int) (tx : Nat → Int) (L : List Int) (fr : Int) (i0 : Int) (x : Int) (hR9 : RWO cp z tx L) (rf : 0 ≤ fr ∧ fr ≤ 30) (hsl : SLM tx z fr i0) (hx0 : x = if i0 < z then i0 else z) : RO l y_B_slashFrom w_B_slashFrom 4 88 [.ref b, .int (iI fr)] (fun U => RB D [(cA, .object "DayBook$Calendar"), (cB, .byte)] [(b, .inr (9, [.ref cvA, .ref jlA, .ref hbA, .ref csA, .ref sbA])), (csA, .inl (cA, 14, .inr (.inr (.inr (.inr ca))))), (sbA, .inr (0, [.ref vbA, .int (iI 0), .int (iI ml), .int (iI z)])), (vbA, .inl (cB, cp, .inl (fun j => iI (tx j))))] U ∧ SA (fun _ => False) U) (.int (iI x)) := by
  refine ro_of (by decide +kernel) (Nat.le_of_ble_eq_true rfl) ?_
  intro p e s m below meth c ls hx hb hr hts hown hlk hml hl hN hX
  have hown : s.vm.findClass "DayBook" = some m.cls := hown
  have hl : lv_has ls 3 [(0, .ref b), (1, .int (iI fr))] := hl
  have hF : _ ∧ _ ∧ _ ∧ _ ∧ _ ∧ _ := ⟨hx, hb, hml, hown, hts, hN⟩
  obtain ⟨hW, hT⟩ := hX
  have hK := hW.1
  have hP : va_P D CL [(b, .inr (9, [.ref cvA, .ref jlA, .ref hbA, .ref csA, .ref sbA])), (csA, .inl (cA, 14, .inr (.inr (.inr (.inr ca))))), (sbA, .inr (0, [.ref vbA, .int (iI 0), .int (iI ml), .int (iI z)])), (vbA, .inl (cB, cp, .inl (fun j => iI (tx j))))] s.heap := hW.2
  have hS : va_S (fun _ => False) s.heap s.heap [] := va_S.rf
  obtain ⟨hcp, hzc, hL⟩ := hR9
  have hz1 := hL.1
  have hJ2 : ∀ (N : Nat) (j : Int) (ls : Array Slot), lv_has ls 3 [(2, .int (iI j)), (0, .ref b)] → (fr ≤ j ∧ j ≤ 30) → (∀ i : Int, fr ≤ i → i < j → i < z ∧ tx (Int.toNat i) ≠ 47) → (30 - j).toNat < N → W p l e (headSpec w_B_slashFrom ({ frames := 4, cells := 0, slots := 0, locals := 88 })).room s m [.ref b, .int (iI fr)].toArray below meth c s.heap [] 0 0 (MQ below (k2_QcV (.int (iI x))) [.ref b, .int (iI fr)].toArray s 0 0 (fun _ => False)) (F0 m 2 ls []) := by
    intro N
    induction N with
    | zero => intro _ _ _ _ _ hm; exact absurd hm (Nat.not_lt_zero _)
    | succ N ih =>
      intro j ls hl i1 i2 hm
      refine lv_iload_n hx hb d_B_slashFrom_2 rfl (lv_at hl 0 rfl) ?_
      refine lv_aload_n hx hb d_B_slashFrom_3 rfl (lv_at hl 1 rfl) ?_
      refine va_get (D := D) (cl := CL) (ci := 9) (v := .ref sbA) (C := "DayBook") (T := T_B) (N := 5) hx hb hts in_B hown hK hP 0 rfl rfl 4 (by decide) (hts _ k_208) (fun _ h9 => h9) rfl d_B_slashFrom_4 ?_
      refine ro_V (C := "java/lang/StringBuilder") (rest := [.int (iI j)]) (ct_JB_length l D sbA vbA cB cp ml z tx) j_JB_length k_252 (hts _ k_254) hF (va_recv (q0 := 2) (ci := 0) hK hP rfl rfl) rfl hl.1 rfl ⟨Nat.le_of_ble_eq_true rfl, Nat.le_of_ble_eq_true rfl⟩ (Nat.le_of_ble_eq_true rfl) d_B_slashFrom_7 ⟨(Nat.le_of_ble_eq_true rfl), (Nat.le_of_ble_eq_true rfl)⟩ RB.m (fun U h1 h2 => ⟨va_K.moved h2.alike (va_K.sub hK [1] rfl), by rw [h1]; exact va_P.sub hP [2, 3] rfl⟩) ?_
      refine ai_icmp_ge hx hb d_B_slashFrom_10 rfl (by omega) (by omega) (fun h10 => ?_) (fun h10 => ?_)
      · skip
        refine lv_iload_n hx hb d_B_slashFrom_32 rfl (lv_at hl 0 rfl) ?_
        refine lv_aload_n hx hb d_B_slashFrom_33 rfl (lv_at hl 1 rfl) ?_
        refine va_get (D := D) (cl := CL) (ci := 9) (v := .ref sbA) (C := "DayBook") (T := T_B) (N := 5) hx hb hts in_B hown hK hP 0 rfl rfl 4 (by decide) (hts _ k_208) (fun _ h9 => h9) rfl d_B_slashFrom_34 ?_
        refine ro_V (C := "java/lang/StringBuilder") (rest := [.int (iI j)]) (ct_JB_length l D sbA vbA cB cp ml z tx) j_JB_length k_252 (hts _ k_254) hF (va_recv (q0 := 2) (ci := 0) hK hP rfl rfl) rfl hl.1 rfl ⟨Nat.le_of_ble_eq_true rfl, Nat.le_of_ble_eq_true rfl⟩ (Nat.le_of_ble_eq_true rfl) d_B_slashFrom_37 ⟨(Nat.le_of_ble_eq_true rfl), (Nat.le_of_ble_eq_true rfl)⟩ RB.m (fun U h1 h2 => ⟨va_K.moved h2.alike (va_K.sub hK [1] rfl), by rw [h1]; exact va_P.sub hP [2, 3] rfl⟩) ?_
        refine ai_icmp_ge hx hb d_B_slashFrom_40 rfl (by omega) (by omega) (fun h40 => ?_) (fun h40 => ?_)
        · skip
          refine lv_aload_n hx hb d_B_slashFrom_47 rfl (lv_at hl 1 rfl) ?_
          refine va_get (D := D) (cl := CL) (ci := 9) (v := .ref sbA) (C := "DayBook") (T := T_B) (N := 5) hx hb hts in_B hown hK hP 0 rfl rfl 4 (by decide) (hts _ k_208) (fun _ h9 => h9) rfl d_B_slashFrom_48 ?_
          refine ro_V (C := "java/lang/StringBuilder") (rest := []) (ct_JB_length l D sbA vbA cB cp ml z tx) j_JB_length k_252 (hts _ k_254) hF (va_recv (q0 := 2) (ci := 0) hK hP rfl rfl) rfl hl.1 rfl ⟨Nat.le_of_ble_eq_true rfl, Nat.le_of_ble_eq_true rfl⟩ (Nat.le_of_ble_eq_true rfl) d_B_slashFrom_51 ⟨(Nat.le_of_ble_eq_true rfl), (Nat.le_of_ble_eq_true rfl)⟩ RB.m (fun U h1 h2 => ⟨va_K.moved h2.alike (va_K.sub hK [1] rfl), by rw [h1]; exact va_P.sub hP [2, 3] rfl⟩) ?_
          exact ro_iret hx hb hr hlk d_B_slashFrom_54 (by have e9 := SLM.uniq (fr := fr) ⟨i2, i1.1, by first | exact Or.inl (by omega) | exact Or.inr h23⟩ hsl; rw [hx0, ← e9]; split <;> omega)
        · skip
          refine lv_iload_n hx hb d_B_slashFrom_43 rfl (lv_at hl 0 rfl) ?_
          refine lv_goto hx hb d_B_slashFrom_44 rfl ?_
          exact ro_iret hx hb hr hlk d_B_slashFrom_54 (by have e9 := SLM.uniq (fr := fr) ⟨i2, i1.1, by first | exact Or.inl (by omega) | exact Or.inr h23⟩ hsl; rw [hx0, ← e9]; split <;> omega)
      · skip
        refine lv_aload_n hx hb d_B_slashFrom_13 rfl (lv_at hl 1 rfl) ?_
        refine va_get (D := D) (cl := CL) (ci := 9) (v := .ref sbA) (C := "DayBook") (T := T_B) (N := 5) hx hb hts in_B hown hK hP 0 rfl rfl 4 (by decide) (hts _ k_208) (fun _ h9 => h9) rfl d_B_slashFrom_14 ?_
        refine lv_iload_n hx hb d_B_slashFrom_17 rfl (lv_at hl 0 rfl) ?_
        have hg := hL.2.2 (Int.toNat j)
        refine ro_V (C := "java/lang/StringBuilder") (rest := []) (ct_JB_charAt l D sbA vbA cB cp ml z tx j (by omega) (hL.2.2 _)) j_JB_charAt k_382 (hts _ k_384) hF (va_recv (q0 := 2) (ci := 0) hK hP rfl rfl) rfl hl.1 rfl ⟨Nat.le_of_ble_eq_true rfl, Nat.le_of_ble_eq_true rfl⟩ (Nat.le_of_ble_eq_true rfl) d_B_slashFrom_18 ⟨(Nat.le_of_ble_eq_true rfl), (Nat.le_of_ble_eq_true rfl)⟩ (Bm.and RB.m SA.m) (fun U h1 h2 => ⟨⟨va_K.moved h2.alike (va_K.sub hK [1] rfl), by rw [h1]; exact va_P.sub hP [2, 3] rfl⟩, SA.at hT hS (fun _ h9 => h9.elim) U h1 h2⟩) ?_
        refine ai_bipush (x := 47) hx hb d_B_slashFrom_21 (by decide +kernel) ?_
        refine ai_icmp_eq hx hb d_B_slashFrom_23 rfl (by omega) (by omega) (fun h23 => ?_) (fun h23 => ?_)
        · skip
          refine lv_iload_n hx hb d_B_slashFrom_32 rfl (lv_at hl 0 rfl) ?_
          refine lv_aload_n hx hb d_B_slashFrom_33 rfl (lv_at hl 1 rfl) ?_
          refine va_get (D := D) (cl := CL) (ci := 9) (v := .ref sbA) (C := "DayBook") (T := T_B) (N := 5) hx hb hts in_B hown hK hP 0 rfl rfl 4 (by decide) (hts _ k_208) (fun _ h9 => h9) rfl d_B_slashFrom_34 ?_
          refine ro_V (C := "java/lang/StringBuilder") (rest := [.int (iI j)]) (ct_JB_length l D sbA vbA cB cp ml z tx) j_JB_length k_252 (hts _ k_254) hF (va_recv (q0 := 2) (ci := 0) hK hP rfl rfl) rfl hl.1 rfl ⟨Nat.le_of_ble_eq_true rfl, Nat.le_of_ble_eq_true rfl⟩ (Nat.le_of_ble_eq_true rfl) d_B_slashFrom_37 ⟨(Nat.le_of_ble_eq_true rfl), (Nat.le_of_ble_eq_true rfl)⟩ RB.m (fun U h1 h2 => ⟨va_K.moved h2.alike (va_K.sub hK [1] rfl), by rw [h1]; exact va_P.sub hP [2, 3] rfl⟩) ?_
          refine ai_icmp_ge hx hb d_B_slashFrom_40 rfl (by omega) (by omega) (fun h40 => ?_) (fun h40 => ?_)
          · skip
            refine lv_aload_n hx hb d_B_slashFrom_47 rfl (lv_at hl 1 rfl) ?_
            refine va_get (D := D) (cl := CL) (ci := 9) (v := .ref sbA) (C := "DayBook") (T := T_B) (N := 5) hx hb hts in_B hown hK hP 0 rfl rfl 4 (by decide) (hts _ k_208) (fun _ h9 => h9) rfl d_B_slashFrom_48 ?_
            refine ro_V (C := "java/lang/StringBuilder") (rest := []) (ct_JB_length l D sbA vbA cB cp ml z tx) j_JB_length k_252 (hts _ k_254) hF (va_recv (q0 := 2) (ci := 0) hK hP rfl rfl) rfl hl.1 rfl ⟨Nat.le_of_ble_eq_true rfl, Nat.le_of_ble_eq_true rfl⟩ (Nat.le_of_ble_eq_true rfl) d_B_slashFrom_51 ⟨(Nat.le_of_ble_eq_true rfl), (Nat.le_of_ble_eq_true rfl)⟩ RB.m (fun U h1 h2 => ⟨va_K.moved h2.alike (va_K.sub hK [1] rfl), by rw [h1]; exact va_P.sub hP [2, 3] rfl⟩) ?_
            exact ro_iret hx hb hr hlk d_B_slashFrom_54 (by have e9 := SLM.uniq (fr := fr) ⟨i2, i1.1, by first | exact Or.inl (by omega) | exact Or.inr h23⟩ hsl; rw [hx0, ← e9]; split <;> omega)
          · skip
            refine lv_iload_n hx hb d_B_slashFrom_43 rfl (lv_at hl 0 rfl) ?_
            refine lv_goto hx hb d_B_slashFrom_44 rfl ?_
            exact ro_iret hx hb hr hlk d_B_slashFrom_54 (by have e9 := SLM.uniq (fr := fr) ⟨i2, i1.1, by first | exact Or.inl (by omega) | exact Or.inr h23⟩ hsl; rw [hx0, ← e9]; split <;> omega)
        · skip
          refine ai_iinc (k := 0) (lv' := [(2, .int (iI (j + 1))), (0, .ref b)]) hx hb d_B_slashFrom_26 hl rfl (by decide) rfl (fun ls hl => ?_)
          refine lv_goto hx hb d_B_slashFrom_29 rfl ?_
          exact ih (j + 1) _ (lv_sub hl [0, 1] rfl) (by omega) (fun i h1 h2 => by by_cases q : i = j; (subst q; exact ⟨by omega, h23⟩); exact i2 i h1 (by omega)) (by omega)
  refine lv_iload_n hx hb d_B_slashFrom_0 rfl (lv_at hl 1 rfl) ?_
  refine lv_istore_n (lv' := [(2, .int (iI fr)), (0, .ref b), (1, .int (iI fr))]) hx hb d_B_slashFrom_1 rfl hl (by decide) rfl (fun ls hl => ?_)
  exact hJ2 _ fr _ (lv_sub hl [0, 1] rfl) (by omega) (fun i h1 h2 => absurd h2 (by omega)) (Nat.lt_succ_self _)
set_option maxHeartbeats 4000000 in
set_option maxRecDepth 100000 in
theorem ct_B_numberIn (l : Launch) (D : va_G) (b : Nat) (cvA : Nat) (jlA : Nat) (hbA : Nat) (csA : Nat) (sbA : Nat) (vbA : Nat) (cA : ClassId) (cB : ClassId) (ca : Nat → Option Nat) (cp : Nat) (z : Int) (ml : Int) (tx : Nat → Int) (L : List Int) (fr : Int) (to : Int) (x : Int) (hR9 : RWO cp z tx L) (rf : 0 ≤ fr ∧ fr ≤ 30) (rt : 0 ≤ to ∧ to ≤ z) (hni : NIC tx fr to x) : RO l y_B_numberIn w_B_numberIn 4 88 [.ref b, .int (iI fr), .int (iI to)] (fun U => RB D [(cA, .object "DayBook$Calendar"), (cB, .byte)] [(b, .inr (9, [.ref cvA, .ref jlA, .ref hbA, .ref csA, .ref sbA])), (csA, .inl (cA, 14, .inr (.inr (.inr (.inr ca))))), (sbA, .inr (0, [.ref vbA, .int (iI 0), .int (iI ml), .int (iI z)])), (vbA, .inl (cB, cp, .inl (fun j => iI (tx j))))] U ∧ SA (fun _ => False) U) (.int (iI x)) := by
  refine ro_of (by decide +kernel) (Nat.le_of_ble_eq_true rfl) ?_
  intro p e s m below meth c ls hx hb hr hts hown hlk hml hl hN hX
  have hown : s.vm.findClass "DayBook" = some m.cls := hown
  have hl : lv_has ls 8 [(0, .ref b), (1, .int (iI fr)), (2, .int (iI to))] := hl
  have hF : _ ∧ _ ∧ _ ∧ _ ∧ _ ∧ _ := ⟨hx, hb, hml, hown, hts, hN⟩
  obtain ⟨hW, hT⟩ := hX
  have hK := hW.1
  have hP : va_P D CL [(b, .inr (9, [.ref cvA, .ref jlA, .ref hbA, .ref csA, .ref sbA])), (csA, .inl (cA, 14, .inr (.inr (.inr (.inr ca))))), (sbA, .inr (0, [.ref vbA, .int (iI 0), .int (iI ml), .int (iI z)])), (vbA, .inl (cB, cp, .inl (fun j => iI (tx j))))] s.heap := hW.2
  have hS : va_S (fun _ => False) s.heap s.heap [] := va_S.rf
  obtain ⟨hcp, hzc, hL⟩ := hR9
  have hz1 := hL.1
  have hJ90 : ∀ (N : Nat) (sg : Int) (st : Int) (ac : Int) (j : Int) (ls : Array Slot), lv_has ls 8 [(0, .ref b), (2, .int (iI to)), (3, .int (iI sg)), (6, .int (iI ac)), (7, .int (iI j))] → (st = bgM tx fr to) → ((sg = 1 ∧ st = fr + 1) ∨ (sg = 0 ∧ st = fr)) → (okC tx fr to st) → (st ≤ j ∧ j ≤ to) → (dgM tx st j) → (ac = vlM tx (Int.toNat st) (Int.toNat (j - st))) → (to - j).toNat < N → W p l e (headSpec w_B_numberIn ({ frames := 4, cells := 0, slots := 0, locals := 88 })).room s m [.ref b, .int (iI fr), .int (iI to)].toArray below meth c s.heap [] 0 0 (MQ below (k2_QcV (.int (iI x))) [.ref b, .int (iI fr), .int (iI to)].toArray s 0 0 (fun _ => False)) (F0 m 90 ls []) := by
    intro N
    induction N with
    | zero => intro _ _ _ _ _ _ _ _ _ _ _ _ hm; exact absurd hm (Nat.not_lt_zero _)
    | succ N ih =>
      intro sg st ac j ls hl hbg hsg hok i1 i2 i3 hm
      have hvr := vlM_dg i2 (by omega) ⟨i1.1, by have := hok.2.1; omega⟩
      have hg := hL.2.2 (Int.toNat j)
      refine lv_iload hx hb d_B_numberIn_90 (lv_at hl 4 rfl) ?_
      refine lv_iload_n hx hb d_B_numberIn_92 rfl (lv_at hl 1 rfl) ?_
      refine ai_icmp_ge hx hb d_B_numberIn_93 rfl (by omega) (by omega) (fun h93 => ?_) (fun h93 => ?_)
      · skip
        refine lv_iload_n hx hb d_B_numberIn_140 rfl (lv_at hl 2 rfl) ?_
        refine ai_if_eq hx hb d_B_numberIn_141 rfl (by omega) (fun h141 => ?_) (fun h141 => ?_)
        · skip
          refine lv_iload hx hb d_B_numberIn_150 (lv_at hl 3 rfl) ?_
          exact ro_iret hx hb hr hlk d_B_numberIn_152 (by have ej : j = to := (by omega); subst ej; rw [hni.good hbg hok i2, i3]; first | rw [if_pos (by omega)] | rw [if_neg (by omega)])
        · skip
          refine lv_iload hx hb d_B_numberIn_144 (lv_at hl 3 rfl) ?_
          refine ai_ineg hx hb d_B_numberIn_146 ?_
          refine lv_goto hx hb d_B_numberIn_147 rfl ?_
          exact ro_iret hx hb hr hlk d_B_numberIn_152 (by have ej : j = to := (by omega); subst ej; rw [hni.good hbg hok i2, i3]; first | rw [if_pos (by omega)] | rw [if_neg (by omega)])
      · skip
        refine lv_aload_n hx hb d_B_numberIn_96 rfl (lv_at hl 0 rfl) ?_
        refine va_get (D := D) (cl := CL) (ci := 9) (v := .ref sbA) (C := "DayBook") (T := T_B) (N := 5) hx hb hts in_B hown hK hP 0 rfl rfl 4 (by decide) (hts _ k_208) (fun _ h9 => h9) rfl d_B_numberIn_97 ?_
        refine lv_iload hx hb d_B_numberIn_100 (lv_at hl 4 rfl) ?_
        refine ro_V (C := "java/lang/StringBuilder") (rest := []) (ct_JB_charAt l D sbA vbA cB cp ml z tx j (by omega) (hL.2.2 _)) j_JB_charAt k_382 (hts _ k_384) hF (va_recv (q0 := 2) (ci := 0) hK hP rfl rfl) rfl hl.1 rfl ⟨Nat.le_of_ble_eq_true rfl, Nat.le_of_ble_eq_true rfl⟩ (Nat.le_of_ble_eq_true rfl) d_B_numberIn_102 ⟨(Nat.le_of_ble_eq_true rfl), (Nat.le_of_ble_eq_true rfl)⟩ (Bm.and RB.m SA.m) (fun U h1 h2 => ⟨⟨va_K.moved h2.alike (va_K.sub hK [1] rfl), by rw [h1]; exact va_P.sub hP [2, 3] rfl⟩, SA.at hT hS (fun _ h9 => h9.elim) U h1 h2⟩) ?_
        refine ro_S (rest := []) (ct_B_isDecimal l (tx (Int.toNat j)) (by omega)) j_B_isDecimal k_249 hF rfl hl.1 rfl ⟨Nat.le_of_ble_eq_true rfl, Nat.le_of_ble_eq_true rfl⟩ (Nat.le_of_ble_eq_true rfl) d_B_numberIn_105 ⟨(Nat.le_of_ble_eq_true rfl), (Nat.le_of_ble_eq_true rfl)⟩ Bm_true (fun _ _ _ => trivial) ?_
        refine ai_ifneB hx hb d_B_numberIn_108 rfl (fun h108 => ?_) (fun h108 => ?_)
        · skip
          refine ai_bipush (x := 10) hx hb d_B_numberIn_114 (by decide +kernel) ?_
          refine lv_iload hx hb d_B_numberIn_116 (lv_at hl 3 rfl) ?_
          refine ai_imul hx hb d_B_numberIn_118 ?_
          refine lv_aload_n hx hb d_B_numberIn_119 rfl (lv_at hl 0 rfl) ?_
          refine va_get (D := D) (cl := CL) (ci := 9) (v := .ref sbA) (C := "DayBook") (T := T_B) (N := 5) hx hb hts in_B hown hK hP 0 rfl rfl 4 (by decide) (hts _ k_208) (fun _ h9 => h9) rfl d_B_numberIn_120 ?_
          refine lv_iload hx hb d_B_numberIn_123 (lv_at hl 4 rfl) ?_
          refine ro_V (C := "java/lang/StringBuilder") (rest := [.int (iI (10 * ac))]) (ct_JB_charAt l D sbA vbA cB cp ml z tx j (by omega) (hL.2.2 _)) j_JB_charAt k_382 (hts _ k_384) hF (va_recv (q0 := 2) (ci := 0) hK hP rfl rfl) rfl hl.1 rfl ⟨Nat.le_of_ble_eq_true rfl, Nat.le_of_ble_eq_true rfl⟩ (Nat.le_of_ble_eq_true rfl) d_B_numberIn_125 ⟨(Nat.le_of_ble_eq_true rfl), (Nat.le_of_ble_eq_true rfl)⟩ (Bm.and RB.m SA.m) (fun U h1 h2 => ⟨⟨va_K.moved h2.alike (va_K.sub hK [1] rfl), by rw [h1]; exact va_P.sub hP [2, 3] rfl⟩, SA.at hT hS (fun _ h9 => h9.elim) U h1 h2⟩) ?_
          refine ai_bipush (x := 48) hx hb d_B_numberIn_128 (by decide +kernel) ?_
          refine ai_isub hx hb d_B_numberIn_130 ?_
          refine ai_iadd hx hb d_B_numberIn_131 ?_
          refine ai_nmI hx hb (fun v132 e132 => ?_)
          refine lv_istore (lv' := [(6, .int (iI v132)), (0, .ref b), (2, .int (iI to)), (3, .int (iI sg)), (7, .int (iI j))]) hx hb d_B_numberIn_132 hl (by decide) rfl (fun ls hl => ?_)
          refine ai_iinc (k := 4) (lv' := [(7, .int (iI (j + 1))), (6, .int (iI v132)), (0, .ref b), (2, .int (iI to)), (3, .int (iI sg))]) hx hb d_B_numberIn_134 hl rfl (by decide) rfl (fun ls hl => ?_)
          refine lv_goto hx hb d_B_numberIn_137 rfl ?_
          exact ih sg st v132 (j + 1) _ (lv_sub hl [2, 3, 4, 1, 0] rfl) hbg hsg hok (by omega) (dgM_nx i2 h108) (by rw [vlM_nx (by omega) i1.1, ← i3]; omega) (by omega)
        · skip
          refine ai_ldc (x := -2147483648) hx hb hown (hts _ k_240) (by decide +kernel) d_B_numberIn_111 ?_
          exact ro_iret hx hb hr hlk d_B_numberIn_113 (hni.bad hbg (fun q => h108 (q.2 j i1.1 (by omega))))
  have hJ43 : ∀ (sg : Int) (st : Int) (nn : Int) (ls : Array Slot), lv_has ls 8 [(0, .ref b), (2, .int (iI to)), (3, .int (iI sg)), (4, .int (iI st)), (5, .int (iI nn))] → (st = bgM tx fr to) → ((sg = 1 ∧ st = fr + 1) ∨ (sg = 0 ∧ st = fr)) → (nn = to - st) → W p l e (headSpec w_B_numberIn ({ frames := 4, cells := 0, slots := 0, locals := 88 })).room s m [.ref b, .int (iI fr), .int (iI to)].toArray below meth c s.heap [] 0 0 (MQ below (k2_QcV (.int (iI x))) [.ref b, .int (iI fr), .int (iI to)].toArray s 0 0 (fun _ => False)) (F0 m 43 ls []) := by
    intro sg st nn ls hl hbg hsg hn
    refine lv_iload hx hb d_B_numberIn_43 (lv_at hl 4 rfl) ?_
    refine ai_iconst hx hb d_B_numberIn_45 ?_
    refine ai_icmp_lt hx hb d_B_numberIn_46 rfl (by omega) (by omega) (fun h46 => ?_) (fun h46 => ?_)
    · skip
      refine ai_ldc (x := -2147483648) hx hb hown (hts _ k_240) (by decide +kernel) d_B_numberIn_80 ?_
      exact ro_iret hx hb hr hlk d_B_numberIn_82 (hni.bad hbg (fun q => by obtain ⟨⟨q1, q2, q3⟩, -⟩ := q; rcases q3 with q3 | ⟨q3, q4⟩ <;> first | omega | exact q3 h67 | (exact absurd h67 q3)))
    · skip
      refine lv_iload hx hb d_B_numberIn_49 (lv_at hl 4 rfl) ?_
      refine ai_bipush (x := 9) hx hb d_B_numberIn_51 (by decide +kernel) ?_
      refine ai_icmp_gt hx hb d_B_numberIn_53 rfl (by omega) (by omega) (fun h53 => ?_) (fun h53 => ?_)
      · skip
        refine ai_ldc (x := -2147483648) hx hb hown (hts _ k_240) (by decide +kernel) d_B_numberIn_80 ?_
        exact ro_iret hx hb hr hlk d_B_numberIn_82 (hni.bad hbg (fun q => by obtain ⟨⟨q1, q2, q3⟩, -⟩ := q; rcases q3 with q3 | ⟨q3, q4⟩ <;> first | omega | exact q3 h67 | (exact absurd h67 q3)))
      · skip
        refine lv_aload_n hx hb d_B_numberIn_56 rfl (lv_at hl 0 rfl) ?_
        refine va_get (D := D) (cl := CL) (ci := 9) (v := .ref sbA) (C := "DayBook") (T := T_B) (N := 5) hx hb hts in_B hown hK hP 0 rfl rfl 4 (by decide) (hts _ k_208) (fun _ h9 => h9) rfl d_B_numberIn_57 ?_
        refine lv_iload hx hb d_B_numberIn_60 (lv_at hl 3 rfl) ?_
        refine ro_V (C := "java/lang/StringBuilder") (rest := []) (ct_JB_charAt l D sbA vbA cB cp ml z tx st (by omega) (hL.2.2 _)) j_JB_charAt k_382 (hts _ k_384) hF (va_recv (q0 := 2) (ci := 0) hK hP rfl rfl) rfl hl.1 rfl ⟨Nat.le_of_ble_eq_true rfl, Nat.le_of_ble_eq_true rfl⟩ (Nat.le_of_ble_eq_true rfl) d_B_numberIn_62 ⟨(Nat.le_of_ble_eq_true rfl), (Nat.le_of_ble_eq_true rfl)⟩ (Bm.and RB.m SA.m) (fun U h1 h2 => ⟨⟨va_K.moved h2.alike (va_K.sub hK [1] rfl), by rw [h1]; exact va_P.sub hP [2, 3] rfl⟩, SA.at hT hS (fun _ h9 => h9.elim) U h1 h2⟩) ?_
        have hg5 := hL.2.2 (Int.toNat st)
        refine ai_bipush (x := 48) hx hb d_B_numberIn_65 (by decide +kernel) ?_
        refine ai_icmp_ne hx hb d_B_numberIn_67 rfl (by omega) (by omega) (fun h67 => ?_) (fun h67 => ?_)
        · skip
          have hok9 : okC tx fr to st := ⟨by omega, by omega, by first | exact Or.inl h67 | exact Or.inr ⟨by omega, by omega⟩⟩
          refine ai_iconst hx hb d_B_numberIn_83 ?_
          refine lv_istore (lv' := [(6, .int (iI 0)), (0, .ref b), (2, .int (iI to)), (3, .int (iI sg)), (4, .int (iI st)), (5, .int (iI nn))]) hx hb d_B_numberIn_84 hl (by decide) rfl (fun ls hl => ?_)
          refine lv_iload hx hb d_B_numberIn_86 (lv_at hl 4 rfl) ?_
          refine lv_istore (lv' := [(7, .int (iI st)), (6, .int (iI 0)), (0, .ref b), (2, .int (iI to)), (3, .int (iI sg)), (4, .int (iI st)), (5, .int (iI nn))]) hx hb d_B_numberIn_88 hl (by decide) rfl (fun ls hl => ?_)
          exact hJ90 _ sg st 0 st _ (lv_sub hl [2, 3, 4, 1, 0] rfl) hbg hsg hok9 (by omega) (fun i h1 h2 => absurd h2 (by omega)) (by rw [show Int.toNat (st - st) = 0 by omega]; rfl) (Nat.lt_succ_self _)
        · skip
          refine lv_iload_n hx hb d_B_numberIn_70 rfl (lv_at hl 2 rfl) ?_
          refine ai_if_ne hx hb d_B_numberIn_71 rfl (by omega) (fun h71 => ?_) (fun h71 => ?_)
          · skip
            refine ai_ldc (x := -2147483648) hx hb hown (hts _ k_240) (by decide +kernel) d_B_numberIn_80 ?_
            exact ro_iret hx hb hr hlk d_B_numberIn_82 (hni.bad hbg (fun q => by obtain ⟨⟨q1, q2, q3⟩, -⟩ := q; rcases q3 with q3 | ⟨q3, q4⟩ <;> first | omega | exact q3 h67 | (exact absurd h67 q3)))
          · skip
            refine lv_iload hx hb d_B_numberIn_74 (lv_at hl 4 rfl) ?_
            refine ai_iconst hx hb d_B_numberIn_76 ?_
            refine ai_icmp_le hx hb d_B_numberIn_77 rfl (by omega) (by omega) (fun h77 => ?_) (fun h77 => ?_)
            · skip
              have hok9 : okC tx fr to st := ⟨by omega, by omega, by first | exact Or.inl h67 | exact Or.inr ⟨by omega, by omega⟩⟩
              refine ai_iconst hx hb d_B_numberIn_83 ?_
              refine lv_istore (lv' := [(6, .int (iI 0)), (0, .ref b), (2, .int (iI to)), (3, .int (iI sg)), (4, .int (iI st)), (5, .int (iI nn))]) hx hb d_B_numberIn_84 hl (by decide) rfl (fun ls hl => ?_)
              refine lv_iload hx hb d_B_numberIn_86 (lv_at hl 4 rfl) ?_
              refine lv_istore (lv' := [(7, .int (iI st)), (6, .int (iI 0)), (0, .ref b), (2, .int (iI to)), (3, .int (iI sg)), (4, .int (iI st)), (5, .int (iI nn))]) hx hb d_B_numberIn_88 hl (by decide) rfl (fun ls hl => ?_)
              exact hJ90 _ sg st 0 st _ (lv_sub hl [2, 3, 4, 1, 0] rfl) hbg hsg hok9 (by omega) (fun i h1 h2 => absurd h2 (by omega)) (by rw [show Int.toNat (st - st) = 0 by omega]; rfl) (Nat.lt_succ_self _)
            · skip
              refine ai_ldc (x := -2147483648) hx hb hown (hts _ k_240) (by decide +kernel) d_B_numberIn_80 ?_
              exact ro_iret hx hb hr hlk d_B_numberIn_82 (hni.bad hbg (fun q => by obtain ⟨⟨q1, q2, q3⟩, -⟩ := q; rcases q3 with q3 | ⟨q3, q4⟩ <;> first | omega | exact q3 h67 | (exact absurd h67 q3)))
  refine lv_iload_n hx hb d_B_numberIn_0 rfl (lv_at hl 1 rfl) ?_
  refine lv_iload_n hx hb d_B_numberIn_1 rfl (lv_at hl 2 rfl) ?_
  refine ai_icmp_ge hx hb d_B_numberIn_2 rfl (by omega) (by omega) (fun h2 => ?_) (fun h2 => ?_)
  · skip
    refine ai_iconst hx hb d_B_numberIn_22 ?_
    refine lv_istore_n (lv' := [(3, .int (iI 0)), (0, .ref b), (1, .int (iI fr)), (2, .int (iI to))]) hx hb d_B_numberIn_23 rfl hl (by decide) rfl (fun ls hl => ?_)
    refine lv_iload_n hx hb d_B_numberIn_24 rfl (lv_at hl 0 rfl) ?_
    refine ai_if_eq hx hb d_B_numberIn_25 rfl (by omega) (fun h25 => ?_) (fun h25 => by exfalso; omega)
    refine lv_iload_n hx hb d_B_numberIn_34 rfl (lv_at hl 2 rfl) ?_
    refine lv_istore (lv' := [(4, .int (iI fr)), (3, .int (iI 0)), (0, .ref b), (1, .int (iI fr)), (2, .int (iI to))]) hx hb d_B_numberIn_35 hl (by decide) rfl (fun ls hl => ?_)
    refine lv_iload_n hx hb d_B_numberIn_37 rfl (lv_at hl 4 rfl) ?_
    refine lv_iload hx hb d_B_numberIn_38 (lv_at hl 0 rfl) ?_
    refine ai_isub hx hb d_B_numberIn_40 ?_
    refine ai_nmI hx hb (fun v41 e41 => ?_)
    refine lv_istore (lv' := [(5, .int (iI v41)), (4, .int (iI fr)), (3, .int (iI 0)), (0, .ref b), (1, .int (iI fr)), (2, .int (iI to))]) hx hb d_B_numberIn_41 hl (by decide) rfl (fun ls hl => ?_)
    exact hJ43 0 fr v41 _ (lv_sub hl [3, 5, 2, 1, 0] rfl) (by rw [show bgM tx fr to = fr + bI (fr < to ∧ tx (Int.toNat fr) = 45) from rfl]; first | (rw [bI_t ⟨by omega, by assumption⟩]; omega) | (rw [bI_f (fun q => by first | omega | exact absurd q.2 (by assumption))]; omega)) (by omega) (by omega)
  · skip
    refine lv_aload_n hx hb d_B_numberIn_5 rfl (lv_at hl 0 rfl) ?_
    refine va_get (D := D) (cl := CL) (ci := 9) (v := .ref sbA) (C := "DayBook") (T := T_B) (N := 5) hx hb hts in_B hown hK hP 0 rfl rfl 4 (by decide) (hts _ k_208) (fun _ h9 => h9) rfl d_B_numberIn_6 ?_
    refine lv_iload_n hx hb d_B_numberIn_9 rfl (lv_at hl 1 rfl) ?_
    refine ro_V (C := "java/lang/StringBuilder") (rest := []) (ct_JB_charAt l D sbA vbA cB cp ml z tx fr (by omega) (hL.2.2 _)) j_JB_charAt k_382 (hts _ k_384) hF (va_recv (q0 := 2) (ci := 0) hK hP rfl rfl) rfl hl.1 rfl ⟨Nat.le_of_ble_eq_true rfl, Nat.le_of_ble_eq_true rfl⟩ (Nat.le_of_ble_eq_true rfl) d_B_numberIn_10 ⟨(Nat.le_of_ble_eq_true rfl), (Nat.le_of_ble_eq_true rfl)⟩ (Bm.and RB.m SA.m) (fun U h1 h2 => ⟨⟨va_K.moved h2.alike (va_K.sub hK [1] rfl), by rw [h1]; exact va_P.sub hP [2, 3] rfl⟩, SA.at hT hS (fun _ h9 => h9.elim) U h1 h2⟩) ?_
    have hg1 := hL.2.2 (Int.toNat fr)
    refine ai_bipush (x := 45) hx hb d_B_numberIn_13 (by decide +kernel) ?_
    refine ai_icmp_ne hx hb d_B_numberIn_15 rfl (by omega) (by omega) (fun h15 => ?_) (fun h15 => ?_)
    · skip
      refine ai_iconst hx hb d_B_numberIn_22 ?_
      refine lv_istore_n (lv' := [(3, .int (iI 0)), (0, .ref b), (1, .int (iI fr)), (2, .int (iI to))]) hx hb d_B_numberIn_23 rfl hl (by decide) rfl (fun ls hl => ?_)
      refine lv_iload_n hx hb d_B_numberIn_24 rfl (lv_at hl 0 rfl) ?_
      refine ai_if_eq hx hb d_B_numberIn_25 rfl (by omega) (fun h25 => ?_) (fun h25 => by exfalso; omega)
      refine lv_iload_n hx hb d_B_numberIn_34 rfl (lv_at hl 2 rfl) ?_
      refine lv_istore (lv' := [(4, .int (iI fr)), (3, .int (iI 0)), (0, .ref b), (1, .int (iI fr)), (2, .int (iI to))]) hx hb d_B_numberIn_35 hl (by decide) rfl (fun ls hl => ?_)
      refine lv_iload_n hx hb d_B_numberIn_37 rfl (lv_at hl 4 rfl) ?_
      refine lv_iload hx hb d_B_numberIn_38 (lv_at hl 0 rfl) ?_
      refine ai_isub hx hb d_B_numberIn_40 ?_
      refine ai_nmI hx hb (fun v41 e41 => ?_)
      refine lv_istore (lv' := [(5, .int (iI v41)), (4, .int (iI fr)), (3, .int (iI 0)), (0, .ref b), (1, .int (iI fr)), (2, .int (iI to))]) hx hb d_B_numberIn_41 hl (by decide) rfl (fun ls hl => ?_)
      exact hJ43 0 fr v41 _ (lv_sub hl [3, 5, 2, 1, 0] rfl) (by rw [show bgM tx fr to = fr + bI (fr < to ∧ tx (Int.toNat fr) = 45) from rfl]; first | (rw [bI_t ⟨by omega, by assumption⟩]; omega) | (rw [bI_f (fun q => by first | omega | exact absurd q.2 (by assumption))]; omega)) (by omega) (by omega)
    · skip
      refine ai_iconst hx hb d_B_numberIn_18 ?_
      refine lv_goto hx hb d_B_numberIn_19 rfl ?_
      refine lv_istore_n (lv' := [(3, .int (iI 1)), (0, .ref b), (1, .int (iI fr)), (2, .int (iI to))]) hx hb d_B_numberIn_23 rfl hl (by decide) rfl (fun ls hl => ?_)
      refine lv_iload_n hx hb d_B_numberIn_24 rfl (lv_at hl 0 rfl) ?_
      refine ai_if_eq hx hb d_B_numberIn_25 rfl (by omega) (fun h25 => by exfalso; omega) (fun h25 => ?_)
      refine lv_iload_n hx hb d_B_numberIn_28 rfl (lv_at hl 2 rfl) ?_
      refine ai_iconst hx hb d_B_numberIn_29 ?_
      refine ai_iadd hx hb d_B_numberIn_30 ?_
      refine lv_goto hx hb d_B_numberIn_31 rfl ?_
      refine ai_nmI hx hb (fun v35 e35 => ?_)
      refine lv_istore (lv' := [(4, .int (iI v35)), (3, .int (iI 1)), (0, .ref b), (1, .int (iI fr)), (2, .int (iI to))]) hx hb d_B_numberIn_35 hl (by decide) rfl (fun ls hl => ?_)
      refine lv_iload_n hx hb d_B_numberIn_37 rfl (lv_at hl 4 rfl) ?_
      refine lv_iload hx hb d_B_numberIn_38 (lv_at hl 0 rfl) ?_
      refine ai_isub hx hb d_B_numberIn_40 ?_
      refine ai_nmI hx hb (fun v41 e41 => ?_)
      refine lv_istore (lv' := [(5, .int (iI v41)), (4, .int (iI v35)), (3, .int (iI 1)), (0, .ref b), (1, .int (iI fr)), (2, .int (iI to))]) hx hb d_B_numberIn_41 hl (by decide) rfl (fun ls hl => ?_)
      exact hJ43 1 v35 v41 _ (lv_sub hl [3, 5, 2, 1, 0] rfl) (by rw [show bgM tx fr to = fr + bI (fr < to ∧ tx (Int.toNat fr) = 45) from rfl]; first | (rw [bI_t ⟨by omega, by assumption⟩]; omega) | (rw [bI_f (fun q => by first | omega | exact absurd q.2 (by assumption))]; omega)) (by omega) (by omega)
set_option maxHeartbeats 4000000 in
set_option maxRecDepth 100000 in
theorem ct_B_type_0 (l : Launch) (D : va_G) (b : Nat) (cvA : Nat) (jlA : Nat) (hbA : Nat) (csA : Nat) (sbA : Nat) (vbA : Nat) (cA : ClassId) (cB : ClassId) (ca : Nat → Option Nat) (cp : Nat) (z : Int) (ml : Int) (tx : Nat → Int) (L : List Int) (v : Int) (hR9 : RWO cp z tx L) (rv : 0 ≤ v ∧ v ≤ 65535) (hno : ¬ ((48 ≤ v ∧ v ≤ 57) ∨ v = 45 ∨ v = 47) ∨ 24 ≤ z) : RO l y_B_type w_B_type 6 146 [.ref b, .int (iI v)] (fun U => RB D [(cA, .object "DayBook$Calendar"), (cB, .byte)] [(b, .inr (9, [.ref cvA, .ref jlA, .ref hbA, .ref csA, .ref sbA])), (csA, .inl (cA, 14, .inr (.inr (.inr (.inr ca))))), (sbA, .inr (0, [.ref vbA, .int (iI 0), .int (iI ml), .int (iI z)])), (vbA, .inl (cB, cp, .inl (fun j => iI (tx j))))] U ∧ SA (fun _ => False) U) (.int (iI (bI False))) := by
  refine ro_of (by decide +kernel) (Nat.le_of_ble_eq_true rfl) ?_
  intro p e s m below meth c ls hx hb hr hts hown hlk hml hl hN hX
  have hown : s.vm.findClass "DayBook" = some m.cls := hown
  have hl : lv_has ls 3 [(0, .ref b), (1, .int (iI v))] := hl
  have hF : _ ∧ _ ∧ _ ∧ _ ∧ _ ∧ _ := ⟨hx, hb, hml, hown, hts, hN⟩
  obtain ⟨hW, hT⟩ := hX
  have hK := hW.1
  have hP : va_P D CL [(b, .inr (9, [.ref cvA, .ref jlA, .ref hbA, .ref csA, .ref sbA])), (csA, .inl (cA, 14, .inr (.inr (.inr (.inr ca))))), (sbA, .inr (0, [.ref vbA, .int (iI 0), .int (iI ml), .int (iI z)])), (vbA, .inl (cB, cp, .inl (fun j => iI (tx j))))] s.heap := hW.2
  have hS : va_S (fun _ => False) s.heap s.heap [] := va_S.rf
  obtain ⟨hcp, hzc, hL⟩ := hR9
  have hz1 := hL.1
  refine lv_iload_n hx hb d_B_type_0 rfl (lv_at hl 1 rfl) ?_
  refine ro_S (rest := []) (ct_B_isDecimal l v (by omega)) j_B_isDecimal k_249 hF rfl hl.1 rfl ⟨Nat.le_of_ble_eq_true rfl, Nat.le_of_ble_eq_true rfl⟩ (Nat.le_of_ble_eq_true rfl) d_B_type_1 ⟨(Nat.le_of_ble_eq_true rfl), (Nat.le_of_ble_eq_true rfl)⟩ Bm_true (fun _ _ _ => trivial) ?_
  refine ai_ifneB hx hb d_B_type_4 rfl (fun h4 => ?_) (fun h4 => ?_)
  · skip
    refine ai_iconst hx hb d_B_type_19 ?_
    refine lv_goto hx hb d_B_type_20 rfl ?_
    refine lv_istore_n (lv' := [(2, .int (iI 1)), (0, .ref b), (1, .int (iI v))]) hx hb d_B_type_24 rfl hl (by decide) rfl (fun ls hl => ?_)
    refine lv_iload_n hx hb d_B_type_25 rfl (lv_at hl 0 rfl) ?_
    refine ai_if_eq hx hb d_B_type_26 rfl (by omega) (fun h26 => by exfalso; omega) (fun h26 => ?_)
    refine lv_aload_n hx hb d_B_type_29 rfl (lv_at hl 1 rfl) ?_
    refine va_get (D := D) (cl := CL) (ci := 9) (v := .ref sbA) (C := "DayBook") (T := T_B) (N := 5) hx hb hts in_B hown hK hP 0 rfl rfl 4 (by decide) (hts _ k_208) (fun _ h9 => h9) rfl d_B_type_30 ?_
    refine ro_V (C := "java/lang/StringBuilder") (rest := []) (ct_JB_length l D sbA vbA cB cp ml z tx) j_JB_length k_252 (hts _ k_254) hF (va_recv (q0 := 2) (ci := 0) hK hP rfl rfl) rfl hl.1 rfl ⟨Nat.le_of_ble_eq_true rfl, Nat.le_of_ble_eq_true rfl⟩ (Nat.le_of_ble_eq_true rfl) d_B_type_33 ⟨(Nat.le_of_ble_eq_true rfl), (Nat.le_of_ble_eq_true rfl)⟩ RB.m (fun U h1 h2 => ⟨va_K.moved h2.alike (va_K.sub hK [1] rfl), by rw [h1]; exact va_P.sub hP [2, 3] rfl⟩) ?_
    refine ai_bipush (x := 24) hx hb d_B_type_36 (by decide +kernel) ?_
    refine ai_icmp_lt hx hb d_B_type_38 rfl (by omega) (by omega) (fun h38 => ?_) (fun h38 => ?_)
    · skip
      exfalso; omega
    · skip
      refine ai_iconst hx hb d_B_type_41 ?_
      exact ro_zret hx hb hr hlk d_B_type_42 (ro_0 (fun h9 => h9) rfl)
  · skip
    refine lv_iload_n hx hb d_B_type_7 rfl (lv_at hl 1 rfl) ?_
    refine ai_bipush (x := 45) hx hb d_B_type_8 (by decide +kernel) ?_
    refine ai_icmp_eq hx hb d_B_type_10 rfl (by omega) (by omega) (fun h10 => ?_) (fun h10 => ?_)
    · skip
      refine ai_iconst hx hb d_B_type_19 ?_
      refine lv_goto hx hb d_B_type_20 rfl ?_
      refine lv_istore_n (lv' := [(2, .int (iI 1)), (0, .ref b), (1, .int (iI v))]) hx hb d_B_type_24 rfl hl (by decide) rfl (fun ls hl => ?_)
      refine lv_iload_n hx hb d_B_type_25 rfl (lv_at hl 0 rfl) ?_
      refine ai_if_eq hx hb d_B_type_26 rfl (by omega) (fun h26 => by exfalso; omega) (fun h26 => ?_)
      refine lv_aload_n hx hb d_B_type_29 rfl (lv_at hl 1 rfl) ?_
      refine va_get (D := D) (cl := CL) (ci := 9) (v := .ref sbA) (C := "DayBook") (T := T_B) (N := 5) hx hb hts in_B hown hK hP 0 rfl rfl 4 (by decide) (hts _ k_208) (fun _ h9 => h9) rfl d_B_type_30 ?_
      refine ro_V (C := "java/lang/StringBuilder") (rest := []) (ct_JB_length l D sbA vbA cB cp ml z tx) j_JB_length k_252 (hts _ k_254) hF (va_recv (q0 := 2) (ci := 0) hK hP rfl rfl) rfl hl.1 rfl ⟨Nat.le_of_ble_eq_true rfl, Nat.le_of_ble_eq_true rfl⟩ (Nat.le_of_ble_eq_true rfl) d_B_type_33 ⟨(Nat.le_of_ble_eq_true rfl), (Nat.le_of_ble_eq_true rfl)⟩ RB.m (fun U h1 h2 => ⟨va_K.moved h2.alike (va_K.sub hK [1] rfl), by rw [h1]; exact va_P.sub hP [2, 3] rfl⟩) ?_
      refine ai_bipush (x := 24) hx hb d_B_type_36 (by decide +kernel) ?_
      refine ai_icmp_lt hx hb d_B_type_38 rfl (by omega) (by omega) (fun h38 => ?_) (fun h38 => ?_)
      · skip
        exfalso; omega
      · skip
        refine ai_iconst hx hb d_B_type_41 ?_
        exact ro_zret hx hb hr hlk d_B_type_42 (ro_0 (fun h9 => h9) rfl)
    · skip
      refine lv_iload_n hx hb d_B_type_13 rfl (lv_at hl 1 rfl) ?_
      refine ai_bipush (x := 47) hx hb d_B_type_14 (by decide +kernel) ?_
      refine ai_icmp_ne hx hb d_B_type_16 rfl (by omega) (by omega) (fun h16 => ?_) (fun h16 => ?_)
      · skip
        refine ai_iconst hx hb d_B_type_23 ?_
        refine lv_istore_n (lv' := [(2, .int (iI 0)), (0, .ref b), (1, .int (iI v))]) hx hb d_B_type_24 rfl hl (by decide) rfl (fun ls hl => ?_)
        refine lv_iload_n hx hb d_B_type_25 rfl (lv_at hl 0 rfl) ?_
        refine ai_if_eq hx hb d_B_type_26 rfl (by omega) (fun h26 => ?_) (fun h26 => by exfalso; omega)
        refine ai_iconst hx hb d_B_type_41 ?_
        exact ro_zret hx hb hr hlk d_B_type_42 (ro_0 (fun h9 => h9) rfl)
      · skip
        refine ai_iconst hx hb d_B_type_19 ?_
        refine lv_goto hx hb d_B_type_20 rfl ?_
        refine lv_istore_n (lv' := [(2, .int (iI 1)), (0, .ref b), (1, .int (iI v))]) hx hb d_B_type_24 rfl hl (by decide) rfl (fun ls hl => ?_)
        refine lv_iload_n hx hb d_B_type_25 rfl (lv_at hl 0 rfl) ?_
        refine ai_if_eq hx hb d_B_type_26 rfl (by omega) (fun h26 => by exfalso; omega) (fun h26 => ?_)
        refine lv_aload_n hx hb d_B_type_29 rfl (lv_at hl 1 rfl) ?_
        refine va_get (D := D) (cl := CL) (ci := 9) (v := .ref sbA) (C := "DayBook") (T := T_B) (N := 5) hx hb hts in_B hown hK hP 0 rfl rfl 4 (by decide) (hts _ k_208) (fun _ h9 => h9) rfl d_B_type_30 ?_
        refine ro_V (C := "java/lang/StringBuilder") (rest := []) (ct_JB_length l D sbA vbA cB cp ml z tx) j_JB_length k_252 (hts _ k_254) hF (va_recv (q0 := 2) (ci := 0) hK hP rfl rfl) rfl hl.1 rfl ⟨Nat.le_of_ble_eq_true rfl, Nat.le_of_ble_eq_true rfl⟩ (Nat.le_of_ble_eq_true rfl) d_B_type_33 ⟨(Nat.le_of_ble_eq_true rfl), (Nat.le_of_ble_eq_true rfl)⟩ RB.m (fun U h1 h2 => ⟨va_K.moved h2.alike (va_K.sub hK [1] rfl), by rw [h1]; exact va_P.sub hP [2, 3] rfl⟩) ?_
        refine ai_bipush (x := 24) hx hb d_B_type_36 (by decide +kernel) ?_
        refine ai_icmp_lt hx hb d_B_type_38 rfl (by omega) (by omega) (fun h38 => ?_) (fun h38 => ?_)
        · skip
          exfalso; omega
        · skip
          refine ai_iconst hx hb d_B_type_41 ?_
          exact ro_zret hx hb hr hlk d_B_type_42 (ro_0 (fun h9 => h9) rfl)
