/-! 37.modelL: laid by program (wip/whole) -/
set_option maxHeartbeats 4000000 in
set_option maxRecDepth 100000 in
theorem ct_M_countCycle (l : Launch) (D : va_G) (a : Nat) (ad : Nat → Nat) (cx : Nat → ClassId) (F : Nat → Int) (g : Nat → Nat → Int) (cal : Int) (rc : 0 ≤ cal ∧ cal < 14) (rn : 0 ≤ g 0 (Int.toNat cal) ∧ g 0 (Int.toNat cal) ≤ 4000) (hcal : g 0 (Int.toNat cal) = 0 ∨ cal = 0 ∨ cal = 1 ∨ cal = 3 ∨ cal = 4 ∨ cal = 5 ∨ cal = 6 ∨ cal = 7 ∨ cal = 8 ∨ cal = 12 ∨ cal = 13) (ho : 12 ≤ cal → OwnOK g (Int.toNat (cal - 12))) : MW l y_M_countCycle w_M_countCycle 4 92 [.ref a, .int (iI cal)] D a ad cx F g (QMv D a ad cx (fun u => u = (F, upG g 1 (Int.toNat cal) (ys 0 (plM g cal) (lbM g cal) (g 0 (Int.toNat cal) + 1))))) := by
  refine mw_of (by decide +kernel) (Nat.le_of_ble_eq_true rfl) ?_
  intro p e s m below meth c ls hx hb hr hts hown hlk hml hl hN hK hP hD
  have hown : s.vm.findClass "DayBookModel" = some m.cls := hown
  have hl : lv_has ls 5 [(0, .ref a), (1, .int (iI cal))] := hl
  have hF : _ ∧ _ ∧ _ ∧ _ ∧ _ ∧ _ := ⟨hx, hb, hml, hown, hts, hN⟩
  have hS : va_S (Ain a ad) s.heap s.heap [] := va_S.rf
  have hJ5 : ∀ (N : Nat) (H : Heap) (locs : List Loc) (yy : Int) (sm : Int) (ls : Array Slot), va_P D CL (MWs a ad cx F g) H → va_S (Ain a ad) s.heap H locs → lv_has ls 5 [(4, .int (iI yy)), (2, .long (iL sm)), (0, .ref a), (1, .int (iI cal))] → (1 ≤ yy ∧ yy ≤ g 0 (Int.toNat cal) + 1) → (sm = ys 0 (plM g cal) (lbM g cal) yy) → (g 0 (Int.toNat cal) + 1 - yy).toNat < N → W p l e (headSpec w_M_countCycle ({ frames := 4, cells := 0, slots := 0, locals := 92 })).room s m [.ref a, .int (iI cal)].toArray below meth c H locs 0 0 (MQ below (QMv D a ad cx (fun u => u = (F, upG g 1 (Int.toNat cal) (ys 0 (plM g cal) (lbM g cal) (g 0 (Int.toNat cal) + 1))))) [.ref a, .int (iI cal)].toArray s 0 0 (Ain a ad)) (F0 m 5 ls []) := by
    intro N
    induction N with
    | zero => intro _ _ _ _ _ _ _ _ _ _ hm; exact absurd hm (Nat.not_lt_zero _)
    | succ N ih =>
      intro H locs yy sm ls hP hS hl i1 i2 hm
      have hD : va_D (Ain a ad) (MWs a ad cx F g) := MD.any hD
      refine lv_iload hx hb d_M_countCycle_5 (lv_at hl 0 rfl) ?_
      refine lv_aload_n hx hb d_M_countCycle_7 rfl (lv_at hl 2 rfl) ?_
      refine va_get (D := D) (cl := CL) (ci := 10) (v := .ref (ad 0)) (C := "DayBookModel") (T := T_M) (N := 19) hx hb hts in_M hown hK hP 0 rfl rfl 1 (by decide) (hts _ k_947) (fun _ h9 => h9) rfl d_M_countCycle_8 ?_
      refine lv_iload_n hx hb d_M_countCycle_11 rfl (lv_at hl 3 rfl) ?_
      refine ma_ild hx hb hK hP 1 0 rfl rfl (h := g 0) (by omega) (by decide) d_M_countCycle_12 ?_
      refine ai_icmp_gt hx hb d_M_countCycle_13 rfl (by omega) (by omega) (fun h13 => ?_) (fun h13 => ?_)
      · skip
        have ey : yy = g 0 (Int.toNat cal) + 1 := by omega
        refine lv_aload_n hx hb d_M_countCycle_47 rfl (lv_at hl 2 rfl) ?_
        refine va_get (D := D) (cl := CL) (ci := 10) (v := .ref (ad 1)) (C := "DayBookModel") (T := T_M) (N := 19) hx hb hts in_M hown hK hP 0 rfl rfl 2 (by decide) (hts _ k_948) (fun _ h9 => h9) rfl d_M_countCycle_48 ?_
        refine lv_iload_n hx hb d_M_countCycle_51 rfl (lv_at hl 3 rfl) ?_
        refine lv_lload_n hx hb d_M_countCycle_52 rfl (lv_at hl 1 rfl) ?_
        refine ma_lst hx hb hK hP hD hS 2 1 rfl rfl (h := g 1) (v := sm) (by omega) (by decide) d_M_countCycle_53 (fun H locs hP hD hS => ?_)
        have hP : va_P D CL (MWs a ad cx F (upG g 1 (Int.toNat cal) sm)) H := hP
        have hD : va_D (Ain a ad) (MWs a ad cx F (upG g 1 (Int.toNat cal) sm)) := hD
        exact mw_vret hx hb hr hlk d_M_countCycle_54 hP hS (by show (_ : Ms) = (_ : Ms); rw [i2, ey])
      · skip
        have hP0 : cal = 0 ∨ cal = 1 ∨ cal = 3 ∨ cal = 4 ∨ cal = 5 ∨ cal = 6 ∨ cal = 7 ∨ cal = 8 ∨ cal = 12 ∨ cal = 13 := hcal.resolve_left (by omega)
        have hC0 : cal = 0 ∨ cal = 1 ∨ cal = 3 ∨ cal = 4 ∨ cal = 5 ∨ cal = 6 ∨ cal = 7 ∨ cal = 8 ∨ cal = 9 ∨ cal = 12 ∨ cal = 13 := by omega
        refine lv_lload_n hx hb d_M_countCycle_16 rfl (lv_at hl 1 rfl) ?_
        refine lv_aload_n hx hb d_M_countCycle_17 rfl (lv_at hl 2 rfl) ?_
        refine lv_iload_n hx hb d_M_countCycle_18 rfl (lv_at hl 3 rfl) ?_
        refine ro_V (rest := [.long (iL sm)]) (ct_M_plainLength l D a ad cx F g cal hP0 ho) j_M_plainLength k_911 (hts _ s_M_plainLength) hF (va_recv (q0 := 0) (ci := 10) hK hP rfl rfl) rfl hl.1 rfl ⟨Nat.le_of_ble_eq_true rfl, Nat.le_of_ble_eq_true rfl⟩ (Nat.le_of_ble_eq_true rfl) d_M_countCycle_19 ⟨Nat.zero_le _, Nat.zero_le _⟩ MdB.m (fun U h1 h2 => ⟨va_K.moved h2.alike hK, by rw [h1]; exact hP⟩) ?_
        refine ai_ladd hx hb d_M_countCycle_22 ?_
        refine lv_aload_n hx hb d_M_countCycle_23 rfl (lv_at hl 2 rfl) ?_
        refine lv_iload_n hx hb d_M_countCycle_24 rfl (lv_at hl 3 rfl) ?_
        refine lv_iload hx hb d_M_countCycle_25 (lv_at hl 0 rfl) ?_
        refine ai_i2l hx hb d_M_countCycle_27 (by omega) ?_
        refine ro_V (rest := [.long (iL (sm + (plM g cal)))]) (ct_M_isLeap l D a ad cx F g cal yy hC0 ho (by omega)) j_M_isLeap k_917 (hts _ s_M_isLeap) hF (va_recv (q0 := 0) (ci := 10) hK hP rfl rfl) rfl hl.1 rfl ⟨Nat.le_of_ble_eq_true rfl, Nat.le_of_ble_eq_true rfl⟩ (Nat.le_of_ble_eq_true rfl) d_M_countCycle_28 ⟨Nat.zero_le _, Nat.zero_le _⟩ MdB.m (fun U h1 h2 => ⟨va_K.moved h2.alike hK, by rw [h1]; exact hP⟩) ?_
        refine ai_ifeqB hx hb d_M_countCycle_31 rfl (fun h31 => ?_) (fun h31 => ?_)
        · skip
          refine ai_lconst (x := 0) hx hb d_M_countCycle_38 (by decide +kernel) ?_
          refine ai_ladd hx hb d_M_countCycle_39 ?_
          refine ai_nmL hx hb (fun v40 e40 => ?_)
          refine lv_lstore_n (lv' := [(2, .long (iL v40)), (4, .int (iI yy)), (0, .ref a), (1, .int (iI cal))]) hx hb d_M_countCycle_40 rfl hl (by decide) rfl (fun ls hl => ?_)
          refine ai_iinc (k := 1) (lv' := [(4, .int (iI (yy + 1))), (2, .long (iL v40)), (0, .ref a), (1, .int (iI cal))]) hx hb d_M_countCycle_41 hl rfl (by decide) rfl (fun ls hl => ?_)
          refine lv_goto hx hb d_M_countCycle_44 rfl ?_
          exact ih _ _ (yy + 1) v40 _ hP hS (lv_sub hl [0, 1, 2, 3] rfl) (by omega) (by have q := ys_step (ep := 0) (pd := plM g cal) (lbM_step hP0 ho) yy; first | (rw [bI_t h31] at q; omega) | (rw [bI_f h31] at q; omega)) (by omega)
        · skip
          refine ai_lconst (x := 1) hx hb d_M_countCycle_34 (by decide +kernel) ?_
          refine lv_goto hx hb d_M_countCycle_35 rfl ?_
          refine ai_ladd hx hb d_M_countCycle_39 ?_
          refine ai_nmL hx hb (fun v40 e40 => ?_)
          refine lv_lstore_n (lv' := [(2, .long (iL v40)), (4, .int (iI yy)), (0, .ref a), (1, .int (iI cal))]) hx hb d_M_countCycle_40 rfl hl (by decide) rfl (fun ls hl => ?_)
          refine ai_iinc (k := 1) (lv' := [(4, .int (iI (yy + 1))), (2, .long (iL v40)), (0, .ref a), (1, .int (iI cal))]) hx hb d_M_countCycle_41 hl rfl (by decide) rfl (fun ls hl => ?_)
          refine lv_goto hx hb d_M_countCycle_44 rfl ?_
          exact ih _ _ (yy + 1) v40 _ hP hS (lv_sub hl [0, 1, 2, 3] rfl) (by omega) (by have q := ys_step (ep := 0) (pd := plM g cal) (lbM_step hP0 ho) yy; first | (rw [bI_t h31] at q; omega) | (rw [bI_f h31] at q; omega)) (by omega)
  refine ai_lconst (x := 0) hx hb d_M_countCycle_0 (by decide +kernel) ?_
  refine lv_lstore_n (lv' := [(2, .long (iL 0)), (0, .ref a), (1, .int (iI cal))]) hx hb d_M_countCycle_1 rfl hl (by decide) rfl (fun ls hl => ?_)
  refine ai_iconst hx hb d_M_countCycle_2 ?_
  refine lv_istore (lv' := [(4, .int (iI 1)), (2, .long (iL 0)), (0, .ref a), (1, .int (iI cal))]) hx hb d_M_countCycle_3 hl (by decide) rfl (fun ls hl => ?_)
  exact hJ5 _ _ _ 1 0 _ hP hS (lv_sub hl [0, 1, 2, 3] rfl) (by omega) (ys_1 0 _ _).symm (Nat.lt_succ_self _)
/-- the row's first slash from a place on, or its end -/
def SLM (r : Nat → Int) (z fr x : Int) : Prop := (∀ j : Int, fr ≤ j → j < x → j < z ∧ r (Int.toNat j) ≠ 47) ∧ fr ≤ x ∧ (z ≤ x ∨ r (Int.toNat x) = 47)
theorem SLM.uniq {r : Nat → Int} {z fr x y : Int} (h : SLM r z fr x) (h2 : SLM r z fr y) : x = y := by
  obtain ⟨a1, a2, a3⟩ := h
  obtain ⟨b1, b2, b3⟩ := h2
  by_cases q : x < y
  · have := b1 x a2 q
    rcases a3 with a3 | a3
    · omega
    · exact absurd a3 this.2
  · by_cases q2 : y < x
    · have := a1 y b2 q2
      rcases b3 with b3 | b3
      · omega
      · exact absurd b3 this.2
    · omega
/-- the number of the figures from a place on -/
def vlM (r : Nat → Int) (b : Nat) : Nat → Int
  | 0 => 0
  | n + 1 => 10 * vlM r b n + (r (b + n) - 48)
def dgM (r : Nat → Int) (b e : Int) : Prop := ∀ j : Int, b ≤ j → j < e → 48 ≤ r (Int.toNat j) ∧ r (Int.toNat j) ≤ 57
noncomputable def bgM (r : Nat → Int) (fr to : Int) : Int := fr + bI (fr < to ∧ r (Int.toNat fr) = 45)
def okM (r : Nat → Int) (fr to b : Int) : Prop := b < to ∧ to - b ≤ 7 ∧ (r (Int.toNat b) ≠ 48 ∨ (to = b + 1 ∧ b = fr))
/-- the number that stands between two places of the row as the reference reads it -/
def NIM (r : Nat → Int) (fr to x : Int) : Prop := ((okM r fr to (bgM r fr to) ∧ dgM r (bgM r fr to) to) ∧ x = if fr < bgM r fr to then -vlM r (Int.toNat (bgM r fr to)) (Int.toNat (to - bgM r fr to)) else vlM r (Int.toNat (bgM r fr to)) (Int.toNat (to - bgM r fr to))) ∨ (¬ (okM r fr to (bgM r fr to) ∧ dgM r (bgM r fr to) to) ∧ x = -2147483648)
theorem NIM.good {r : Nat → Int} {fr to x b : Int} (h : NIM r fr to x) (hb : b = bgM r fr to) (h1 : okM r fr to b) (h2 : dgM r b to) : x = if fr < b then -vlM r (Int.toNat b) (Int.toNat (to - b)) else vlM r (Int.toNat b) (Int.toNat (to - b)) := by
  subst hb
  rcases h with ⟨-, q⟩ | ⟨q, -⟩
  · exact q
  · exact absurd ⟨h1, h2⟩ q
theorem NIM.bad {r : Nat → Int} {fr to x b : Int} (h : NIM r fr to x) (hb : b = bgM r fr to) (h1 : ¬ (okM r fr to b ∧ dgM r b to)) : -2147483648 = x := by
  subst hb
  rcases h with ⟨q, -⟩ | ⟨-, q⟩
  · exact absurd q h1
  · exact q.symm
theorem vlM_rng {r : Nat → Int} {b : Nat} (h : ∀ j, j < 24 → 0 ≤ r j ∧ r j < 65536) : ∀ n : Nat, n ≤ 7 → b + n ≤ 24 → (∀ i, i < n → 48 ≤ r (b + i) ∧ r (b + i) ≤ 57) → 0 ≤ vlM r b n ∧ vlM r b n < 10 ^ n
  | 0, _, _, _ => by simp [vlM]
  | n + 1, h1, h2, h3 => by
    have q := vlM_rng h n (by omega) (by omega) (fun i hi => h3 i (by omega))
    have q2 := h3 n (by omega)
    show 0 ≤ 10 * vlM r b n + (r (b + n) - 48) ∧ 10 * vlM r b n + (r (b + n) - 48) < _
    rw [Int.pow_succ]
    omega
theorem p10_7 : ∀ n : Nat, n ≤ 7 → (10 : Int) ^ n ≤ 10000000 := by decide
set_option maxHeartbeats 4000000 in
set_option maxRecDepth 100000 in
theorem ct_M_slash (l : Launch) (D : va_G) (a : Nat) (ad : Nat → Nat) (cx : Nat → ClassId) (F : Nat → Int) (g : Nat → Nat → Int) (fr : Int) (x : Int) (rf : 0 ≤ fr ∧ fr ≤ 30) (rz : 0 ≤ F 8 ∧ F 8 ≤ 24) (rg : ∀ j : Nat, j < 24 → 0 ≤ g 9 j ∧ g 9 j < 65536) (hsl : SLM (g 9) (F 8) fr x) : RO l y_M_slash w_M_slash 0 0 [.ref a, .int (iI fr)] (MdB D a ad cx F g) (.int (iI x)) := by
  refine ro_of (by decide +kernel) (Nat.le_of_ble_eq_true rfl) ?_
  intro p e s m below meth c ls hx hb hr hts hown hlk hml hl hN hB
  have hown : s.vm.findClass "DayBookModel" = some m.cls := hown
  have hl : lv_has ls 3 [(0, .ref a), (1, .int (iI fr))] := hl
  have hF : _ ∧ _ ∧ _ ∧ _ ∧ _ ∧ _ := ⟨hx, hb, hml, hown, hts, hN⟩
  have hK := hB.1
  have hP := hB.2
  have hJ2 : ∀ (N : Nat) (j : Int) (ls : Array Slot), lv_has ls 3 [(2, .int (iI j)), (0, .ref a)] → (fr ≤ j ∧ j ≤ 30) → (∀ i : Int, fr ≤ i → i < j → i < F 8 ∧ g 9 (Int.toNat i) ≠ 47) → (30 - j).toNat < N → W p l e (headSpec w_M_slash ({ frames := 0, cells := 0, slots := 0, locals := 0 })).room s m [.ref a, .int (iI fr)].toArray below meth c s.heap [] 0 0 (MQ below (k2_QcV (.int (iI x))) [.ref a, .int (iI fr)].toArray s 0 0 (fun _ => False)) (F0 m 2 ls []) := by
    intro N
    induction N with
    | zero => intro _ _ _ _ _ hm; exact absurd hm (Nat.not_lt_zero _)
    | succ N ih =>
      intro j ls hl i1 i2 hm
      refine lv_iload_n hx hb d_M_slash_2 rfl (lv_at hl 0 rfl) ?_
      refine lv_aload_n hx hb d_M_slash_3 rfl (lv_at hl 1 rfl) ?_
      refine va_get (D := D) (cl := CL) (ci := 10) (v := .int (iI (F 8))) (C := "DayBookModel") (T := T_M) (N := 19) hx hb hts in_M hown hK hP 0 rfl rfl 17 (by decide) (hts _ k_963) (fun _ h9 => h9) rfl d_M_slash_4 ?_
      refine ai_icmp_ge hx hb d_M_slash_7 rfl (by omega) (by omega) (fun h7 => ?_) (fun h7 => ?_)
      · skip
        refine lv_iload_n hx hb d_M_slash_27 rfl (lv_at hl 0 rfl) ?_
        exact ro_iret hx hb hr hlk d_M_slash_28 (SLM.uniq (fr := fr) ⟨i2, i1.1, by first | exact Or.inl (by omega) | exact Or.inr h18⟩ hsl)
      · skip
        have hg := rg (Int.toNat j) (by omega)
        refine lv_aload_n hx hb d_M_slash_10 rfl (lv_at hl 1 rfl) ?_
        refine va_get (D := D) (cl := CL) (ci := 10) (v := .ref (ad 9)) (C := "DayBookModel") (T := T_M) (N := 19) hx hb hts in_M hown hK hP 0 rfl rfl 18 (by decide) (hts _ k_964) (fun _ h9 => h9) rfl d_M_slash_11 ?_
        refine lv_iload_n hx hb d_M_slash_14 rfl (lv_at hl 0 rfl) ?_
        refine ma_cld hx hb hK hP 10 3 rfl rfl (h := g 9) (by omega) (by decide) d_M_slash_15 ?_
        refine ai_bipush (x := 47) hx hb d_M_slash_16 (by decide +kernel) ?_
        refine ai_icmp_eq hx hb d_M_slash_18 rfl (by omega) (by omega) (fun h18 => ?_) (fun h18 => ?_)
        · skip
          refine lv_iload_n hx hb d_M_slash_27 rfl (lv_at hl 0 rfl) ?_
          exact ro_iret hx hb hr hlk d_M_slash_28 (SLM.uniq (fr := fr) ⟨i2, i1.1, by first | exact Or.inl (by omega) | exact Or.inr h18⟩ hsl)
        · skip
          refine ai_iinc (k := 0) (lv' := [(2, .int (iI (j + 1))), (0, .ref a)]) hx hb d_M_slash_21 hl rfl (by decide) rfl (fun ls hl => ?_)
          refine lv_goto hx hb d_M_slash_24 rfl ?_
          exact ih (j + 1) _ (lv_sub hl [0, 1] rfl) (by omega) (fun i h1 h2 => by by_cases q : i = j; (subst q; exact ⟨by omega, h18⟩); exact i2 i h1 (by omega)) (by omega)
  refine lv_iload_n hx hb d_M_slash_0 rfl (lv_at hl 1 rfl) ?_
  refine lv_istore_n (lv' := [(2, .int (iI fr)), (0, .ref a), (1, .int (iI fr))]) hx hb d_M_slash_1 rfl hl (by decide) rfl (fun ls hl => ?_)
  exact hJ2 _ fr _ (lv_sub hl [0, 1] rfl) (by omega) (fun i h1 h2 => absurd h2 (by omega)) (Nat.lt_succ_self _)
