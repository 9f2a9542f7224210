/-! 22.yearA: laid by program (wip/whole) -/
theorem p2_pos (i : Nat) : 0 < (2 : Int) ^ i := by
  induction i with
  | zero => decide
  | succ i ih => rw [Int.pow_succ]; omega
theorem p2_le {i : Nat} (h : i ≤ 26) : (2 : Int) ^ i ≤ 67108864 := by
  have : ∀ j : Nat, j ≤ 26 → (2 : Int) ^ j ≤ 67108864 := by decide
  exact this i h
theorem half_lt {x : Int} (h : 0 < x) : 0 ≤ Int.tdiv x 2 ∧ Int.tdiv x 2 < x := by
  rw [Int.tdiv_eq_ediv_of_nonneg (by omega)]; omega
theorem half_step {S : Int → Int} {d g x : Int} {i : Nat} (hi : i ≤ 26) (hs : x = 2 ^ i) (h : d < S (g + x)) : (Int.tdiv x 2 = 0 ∧ d < S (g + 1)) ∨ ∃ j : Nat, j ≤ 26 ∧ Int.tdiv x 2 = 2 ^ j ∧ d < S (g + 2 * Int.tdiv x 2) := by
  cases i with
  | zero => subst hs; exact Or.inl ⟨rfl, h⟩
  | succ i =>
    have hp := p2_pos i
    have e : x = 2 * 2 ^ i := by rw [hs, Int.pow_succ]; omega
    have e2 : Int.tdiv x 2 = 2 ^ i := by rw [Int.tdiv_eq_ediv_of_nonneg (by omega)]; omega
    refine Or.inr ⟨i, by omega, e2, ?_⟩
    rw [e2, ← e]
    exact h
theorem Inc.lt_of {S : Int → Int} (h : Inc S) {a b d : Int} (ha : S a ≤ d) (hb : d < S b) : a < b := by
  by_cases hc : a < b
  · exact hc
  · have := h.gap (show b ≤ a by omega); omega
theorem cm_leR {f : Nat → Int} {N : Nat} (h : ∀ j, j < N → 0 ≤ f j) (a : Nat) : ∀ n : Nat, a + n ≤ N → cm f a ≤ cm f (a + n)
  | 0, _ => Int.le_refl _
  | n + 1, hn => by
    have h1 := cm_leR h a n (by omega)
    have h2 := h (a + n) (by omega)
    have e : cm f (a + (n + 1)) = cm f (a + n) + f (a + n) := rfl
    rw [e]
    omega
theorem cm_uniqR {f : Nat → Int} {N : Nat} (h : ∀ j, j < N → 0 ≤ f j) {a b : Nat} {x : Int} (haN : a < N) (hbN : b < N) (ha : cm f a ≤ x) (ha2 : x < cm f (a + 1)) (hb : cm f b ≤ x) (hb2 : x < cm f (b + 1)) : a = b := by
  by_cases h1 : a + 1 ≤ b
  · have := cm_leR h (a + 1) (b - (a + 1)) (by omega)
    rw [show a + 1 + (b - (a + 1)) = b by omega] at this
    omega
  · by_cases h2 : b + 1 ≤ a
    · have := cm_leR h (b + 1) (a - (b + 1)) (by omega)
      rw [show b + 1 + (a - (b + 1)) = a by omega] at this
      omega
    · omega
/-- the day with a date of a calendar of years, or none -/
def DY (S nm : Int → Int) (ma la : Int → Int → Int) (hy : Int → Prop) (y mth dd k n r : Int) : Prop :=
  (¬ hy y ∧ r = -9223372036854775808) ∨ (hy y ∧ ((∃ pl : Nat, (pl : Int) < nm n ∧ ma pl n = mth ∧ (∀ j : Nat, j < pl → ma j n ≠ mth) ∧ (((1 ≤ dd ∧ dd ≤ la pl n) ∧ r = S k + cm (fun i => la i n) pl + dd - 1) ∨ (¬ (1 ≤ dd ∧ dd ≤ la pl n) ∧ r = -9223372036854775808))) ∨ ((∀ j : Nat, (j : Int) < nm n → ma j n ≠ mth) ∧ r = -9223372036854775808)))
theorem DY.no {S nm : Int → Int} {ma la : Int → Int → Int} {hy : Int → Prop} {y mth dd k n r : Int} (h : DY S nm ma la hy y mth dd k n r) (h1 : ¬ hy y) : -9223372036854775808 = r := by
  rcases h with h | h
  · exact h.2.symm
  · exact absurd h.1 h1
theorem DY.at {S nm : Int → Int} {ma la : Int → Int → Int} {hy : Int → Prop} {y mth dd k n r : Int} (h : DY S nm ma la hy y mth dd k n r) (h1 : hy y) {j : Nat} (hj : (j : Int) < nm n) (he : ma j n = mth) (hb : ∀ i : Nat, i < j → ma i n ≠ mth) : ((1 ≤ dd ∧ dd ≤ la j n) ∧ r = S k + cm (fun i => la i n) j + dd - 1) ∨ (¬ (1 ≤ dd ∧ dd ≤ la j n) ∧ r = -9223372036854775808) := by
  rcases h with h | ⟨-, ⟨pl, h2, h3, h4, h5⟩ | ⟨h2, -⟩⟩
  · exact absurd h1 h.1
  · have e : pl = j := by
      by_cases q : pl < j
      · exact absurd h3 (hb pl q)
      · by_cases q2 : j < pl
        · exact absurd he (h4 j q2)
        · omega
    subst e
    exact h5
  · exact absurd he (h2 j hj)
theorem DY.none {S nm : Int → Int} {ma la : Int → Int → Int} {hy : Int → Prop} {y mth dd k n r : Int} (h : DY S nm ma la hy y mth dd k n r) (hb : ∀ i : Nat, (i : Int) < nm n → ma i n ≠ mth) : -9223372036854775808 = r := by
  rcases h with h | ⟨-, ⟨pl, h2, h3, -⟩ | ⟨-, h⟩⟩
  · exact h.2.symm
  · exact absurd h3 (hb pl h2)
  · exact h.symm
set_option maxHeartbeats 4000000 in
set_option maxRecDepth 100000 in
theorem ct_Y_daysIn (l : Launch) (D : va_G) (a : Nat) (S : Int → Int) (nm : Int → Int) (ma : Int → Int → Int) (la : Int → Int → Int) (co : Int → Int) (ya : Int → Int) (hy : Int → Prop) (y : Int) (ry : -300000000 ≤ y ∧ y ≤ 300000000) : RO l y_Y_daysIn w_Y_daysIn 4 97 [.ref a, .long (iL y)] (YC D a S nm ma la co ya hy) (.int (iI (S (y + 1) - S y))) := by
  refine ro_of (by decide +kernel) (Nat.le_of_ble_eq_true rfl) ?_
  intro p e s m below meth c ls hx hb hr hts hown hlk hml hl hN hB
  have hown : s.vm.findClass "DayBook$YearCalendar" = some m.cls := hown
  have hl : lv_has ls 3 [(0, .ref a), (1, .long (iL y))] := hl
  have hF : _ ∧ _ ∧ _ ∧ _ ∧ _ ∧ _ := ⟨hx, hb, hml, hown, hts, hN⟩
  obtain ⟨oI, oL, oM, oA, oZ, oR, oC⟩ := hB.ok
  refine lv_aload_n hx hb d_Y_daysIn_0 rfl (lv_at hl 0 rfl) ?_
  refine lv_lload_n hx hb d_Y_daysIn_1 rfl (lv_at hl 1 rfl) ?_
  refine ai_lconst (x := 1) hx hb d_Y_daysIn_2 (by decide +kernel) ?_
  refine ai_ladd hx hb d_Y_daysIn_3 ?_
  refine cs_YS hB (by omega) hF hl.1 ⟨Nat.le_of_ble_eq_true rfl, Nat.le_of_ble_eq_true rfl⟩ (Nat.le_of_ble_eq_true rfl) d_Y_daysIn_4 ⟨Nat.zero_le _, Nat.zero_le _⟩ ?_
  refine lv_aload_n hx hb d_Y_daysIn_7 rfl (lv_at hl 0 rfl) ?_
  refine lv_lload_n hx hb d_Y_daysIn_8 rfl (lv_at hl 1 rfl) ?_
  refine cs_YS hB (by omega) hF hl.1 ⟨Nat.le_of_ble_eq_true rfl, Nat.le_of_ble_eq_true rfl⟩ (Nat.le_of_ble_eq_true rfl) d_Y_daysIn_9 ⟨Nat.zero_le _, Nat.zero_le _⟩ ?_
  refine ai_lsub hx hb d_Y_daysIn_12 ?_
  refine ai_l2i hx hb d_Y_daysIn_13 ?_
  exact ro_iret hx hb hr hlk d_Y_daysIn_14 rfl
theorem cs_DI {p : Program} {l : Launch} {e : Env} {R : Room} {s : State} {m : MethodId} {args : Array Value} {below : List Frame} {meth : Method} {c : Code} {cells slots : Nat} {Q : State → Prop} {cc : ByteArray} {pc : Nat} {ls : Array Slot} {rest : List Value} {nL : Nat} {D : va_G} {a : Nat} {S nm : Int → Int} {ma la : Int → Int → Int} {co ya : Int → Int} {hy : Int → Prop} {y : Int} (hY : YC D a S nm ma la co ya hy s) (ry : -300000000 ≤ y ∧ y ≤ 300000000) (F : p.tables.exec = Jvm.exec ∧ c.code = cc ∧ c.maxLocals = nL ∧ s.vm.findClass "DayBook$YearCalendar" = some m.cls ∧ (∀ w ∈ gw, w.before args s = true) ∧ NV s) (hsz : ls.size = nL) (hRm : 5 ≤ R.frames ∧ 119 ≤ R.locals) (hw : (rest.map fun v => v.category).sum ≤ 8) (hdg : decode cc pc = .ok (.invokevirtual 15, 3)) (hf : cells ≤ R.cells ∧ slots ≤ R.slots)
    (kk : W p l e R s m args below meth c s.heap [] cells slots Q (F0 m (pc + 3) ls (.int (iI (S (y + 1) - S y)) :: rest))) : W p l e R s m args below meth c s.heap [] cells slots Q (F0 m pc ls (.long (iL y) :: .ref a :: rest)) := by
  obtain ⟨C, nn, hi, hc⟩ := hY.recv
  exact ro_V (C := C) (rest := rest) (ct_Y_daysIn l D a S nm ma la co ya hy y ry) j_Y_daysIn k_592 (sel_priv ⟨by decide +kernel, by decide +kernel⟩ (F.2.2.2.2.1 _ hi) (va_Nw.use rfl (F.2.2.2.2.2.pv 593 (by decide +kernel) (by decide +kernel))) (F.2.2.2.2.1 _ j_Y_daysIn.2.2.1) (F.2.2.2.2.1 _ k_630) rfl) F hc rfl hsz rfl ⟨by omega, by omega⟩ hw hdg hf YC.m (fun U h1 h2 => YC.m.2 s U h1 h2 hY) kk
set_option maxHeartbeats 4000000 in
set_option maxRecDepth 100000 in
theorem ct_Y_countWith (l : Launch) (D : va_G) (a : Nat) (S : Int → Int) (nm : Int → Int) (ma : Int → Int → Int) (la : Int → Int → Int) (co : Int → Int) (ya : Int → Int) (hy : Int → Prop) (d : Int) (k : Int) (hd : -45000000 ≤ d ∧ d ≤ 45000000) (hk : S k ≤ d ∧ d < S (k + 1)) : RO l y_Y_countWith w_Y_countWith 4 97 [.ref a, .long (iL d)] (YC D a S nm ma la co ya hy) (.long (iL k)) := by
  refine ro_of (by decide +kernel) (Nat.le_of_ble_eq_true rfl) ?_
  intro p e s m below meth c ls hx hb hr hts hown hlk hml hl hN hB
  have hown : s.vm.findClass "DayBook$YearCalendar" = some m.cls := hown
  have hl : lv_has ls 7 [(0, .ref a), (1, .long (iL d))] := hl
  have hF : _ ∧ _ ∧ _ ∧ _ ∧ _ ∧ _ := ⟨hx, hb, hml, hown, hts, hN⟩
  obtain ⟨oI, oL, oM, oA, oZ, oR, oC⟩ := hB.ok
  have hJ9 : ∀ (N : Nat) (cnt : Int) (stp : Int) (ls : Array Slot), lv_has ls 7 [(5, .long (iL stp)), (3, .long (iL cnt)), (0, .ref a), (1, .long (iL d))] → (-67108864 ≤ cnt) → (S cnt ≤ d) → ((stp = 0 ∧ d < S (cnt + 1)) ∨ ∃ i : Nat, i ≤ 26 ∧ stp = 2 ^ i ∧ d < S (cnt + 2 * stp)) → (0 ≤ stp ∧ stp ≤ 67108864) → stp.toNat < N → W p l e (headSpec w_Y_countWith ({ frames := 4, cells := 0, slots := 0, locals := 97 })).room s m [.ref a, .long (iL d)].toArray below meth c s.heap [] 0 0 (MQ below (k2_QcV (.long (iL k))) [.ref a, .long (iL d)].toArray s 0 0 (fun _ => False)) (F0 m 9 ls []) := by
    intro N
    induction N with
    | zero => intro _ _ _ _ _ _ _ _ hm; exact absurd hm (Nat.not_lt_zero _)
    | succ N ih =>
      intro cnt stp ls hl i1 i2 i3 i0 hm
      refine lv_lload hx hb d_Y_countWith_9 (lv_at hl 0 rfl) ?_
      refine ai_lconst (x := 0) hx hb d_Y_countWith_11 (by decide +kernel) ?_
      refine ai_lcmp_le hx hb d_Y_countWith_12 d_Y_countWith_13 rfl (by omega) (by omega) (fun h12 => ?_) (fun h12 => ?_)
      · skip
        refine lv_lload_n hx hb d_Y_countWith_45 rfl (lv_at hl 1 rfl) ?_
        exact ro_lret hx hb hr hlk d_Y_countWith_46 (oI.uniq i2 (by rcases i3 with ⟨_, h⟩ | ⟨i, _, h, _⟩; exact h; exfalso; have := p2_pos i; omega) hk.1 hk.2)
      · skip
        obtain ⟨i, hi, hs, h2⟩ := i3.resolve_left (fun q => by omega)
        have hb2 := p2_le hi
        rw [← hs] at hb2
        have i4 := oI.lt_of i2 (show d < S 67108864 by omega)
        have q5 := oR (cnt + stp) (by omega)
        have ht := half_lt h12
        refine lv_aload_n hx hb d_Y_countWith_16 rfl (lv_at hl 2 rfl) ?_
        refine lv_lload_n hx hb d_Y_countWith_17 rfl (lv_at hl 1 rfl) ?_
        refine lv_lload hx hb d_Y_countWith_18 (lv_at hl 0 rfl) ?_
        refine ai_ladd hx hb d_Y_countWith_20 ?_
        refine cs_YS hB (by omega) hF hl.1 ⟨Nat.le_of_ble_eq_true rfl, Nat.le_of_ble_eq_true rfl⟩ (Nat.le_of_ble_eq_true rfl) d_Y_countWith_21 ⟨Nat.zero_le _, Nat.zero_le _⟩ ?_
        refine lv_lload_n hx hb d_Y_countWith_24 rfl (lv_at hl 3 rfl) ?_
        refine ai_lcmp_gt hx hb d_Y_countWith_25 d_Y_countWith_26 rfl (by omega) (by omega) (fun h25 => ?_) (fun h25 => ?_)
        · skip
          refine lv_lload hx hb d_Y_countWith_34 (lv_at hl 0 rfl) ?_
          refine ai_ldc2 (x := 2) hx hb hown (hts _ k_591) (by decide +kernel) d_Y_countWith_36 ?_
          refine ai_ldiv hx hb d_Y_countWith_39 (by omega) (by omega) (by omega) ?_
          refine ai_nmL hx hb (fun v40 e40 => ?_)
          refine lv_lstore (lv' := [(5, .long (iL v40)), (3, .long (iL cnt)), (0, .ref a), (1, .long (iL d))]) hx hb d_Y_countWith_40 hl (by decide) rfl (fun ls hl => ?_)
          refine lv_goto hx hb d_Y_countWith_42 rfl ?_
          exact ih cnt v40 _ (lv_sub hl [0, 1, 2, 3] rfl) (by omega) (by first | exact i2 | (rw [e33]; exact h25) | omega) (by rw [e40]; exact half_step hi hs (by first | exact h25 | (rw [e33, show cnt + stp + stp = cnt + 2 * stp by omega]; exact h2))) (by omega) (by omega)
        · skip
          refine lv_lload_n hx hb d_Y_countWith_29 rfl (lv_at hl 1 rfl) ?_
          refine lv_lload hx hb d_Y_countWith_30 (lv_at hl 0 rfl) ?_
          refine ai_ladd hx hb d_Y_countWith_32 ?_
          refine ai_nmL hx hb (fun v33 e33 => ?_)
          refine lv_lstore_n (lv' := [(3, .long (iL v33)), (5, .long (iL stp)), (0, .ref a), (1, .long (iL d))]) hx hb d_Y_countWith_33 rfl hl (by decide) rfl (fun ls hl => ?_)
          refine lv_lload hx hb d_Y_countWith_34 (lv_at hl 1 rfl) ?_
          refine ai_ldc2 (x := 2) hx hb hown (hts _ k_591) (by decide +kernel) d_Y_countWith_36 ?_
          refine ai_ldiv hx hb d_Y_countWith_39 (by omega) (by omega) (by omega) ?_
          refine ai_nmL hx hb (fun v40 e40 => ?_)
          refine lv_lstore (lv' := [(5, .long (iL v40)), (3, .long (iL v33)), (0, .ref a), (1, .long (iL d))]) hx hb d_Y_countWith_40 hl (by decide) rfl (fun ls hl => ?_)
          refine lv_goto hx hb d_Y_countWith_42 rfl ?_
          exact ih v33 v40 _ (lv_sub hl [0, 1, 2, 3] rfl) (by omega) (by first | exact i2 | (rw [e33]; exact h25) | omega) (by rw [e40]; exact half_step hi hs (by first | exact h25 | (rw [e33, show cnt + stp + stp = cnt + 2 * stp by omega]; exact h2))) (by omega) (by omega)
  refine ai_ldc2 (x := -67108864) hx hb hown (hts _ k_525) (by decide +kernel) d_Y_countWith_0 ?_
  refine lv_lstore_n (lv' := [(3, .long (iL (-67108864))), (0, .ref a), (1, .long (iL d))]) hx hb d_Y_countWith_3 rfl hl (by decide) rfl (fun ls hl => ?_)
  refine ai_ldc2 (x := 67108864) hx hb hown (hts _ k_526) (by decide +kernel) d_Y_countWith_4 ?_
  refine lv_lstore (lv' := [(5, .long (iL 67108864)), (3, .long (iL (-67108864))), (0, .ref a), (1, .long (iL d))]) hx hb d_Y_countWith_7 hl (by decide) rfl (fun ls hl => ?_)
  exact hJ9 _ (-67108864) 67108864 _ (lv_sub hl [0, 1, 2, 3] rfl) (by omega) (by first | exact i2 | (rw [e33]; exact h25) | omega) (Or.inr ⟨26, by decide, by decide, by rw [show (-67108864 : Int) + 2 * 67108864 = 67108864 by decide]; omega⟩) (by omega) (Nat.lt_succ_self _)
theorem cs_CW {p : Program} {l : Launch} {e : Env} {R : Room} {s : State} {m : MethodId} {args : Array Value} {below : List Frame} {meth : Method} {c : Code} {cells slots : Nat} {Q : State → Prop} {cc : ByteArray} {pc : Nat} {ls : Array Slot} {rest : List Value} {nL : Nat} {D : va_G} {a : Nat} {S nm : Int → Int} {ma la : Int → Int → Int} {co ya : Int → Int} {hy : Int → Prop} {d : Int} {k : Int} (hY : YC D a S nm ma la co ya hy s) (hd : -45000000 ≤ d ∧ d ≤ 45000000) (hk : S k ≤ d ∧ d < S (k + 1)) (F : p.tables.exec = Jvm.exec ∧ c.code = cc ∧ c.maxLocals = nL ∧ s.vm.findClass "DayBook$YearCalendar" = some m.cls ∧ (∀ w ∈ gw, w.before args s = true) ∧ NV s) (hsz : ls.size = nL) (hRm : 5 ≤ R.frames ∧ 123 ≤ R.locals) (hw : (rest.map fun v => v.category).sum ≤ 8) (hdg : decode cc pc = .ok (.invokevirtual 9, 3)) (hf : cells ≤ R.cells ∧ slots ≤ R.slots)
    (kk : W p l e R s m args below meth c s.heap [] cells slots Q (F0 m (pc + 3) ls (.long (iL k) :: rest))) : W p l e R s m args below meth c s.heap [] cells slots Q (F0 m pc ls (.long (iL d) :: .ref a :: rest)) := by
  obtain ⟨C, nn, hi, hc⟩ := hY.recv
  exact ro_V (C := C) (rest := rest) (ct_Y_countWith l D a S nm ma la co ya hy d k hd hk) j_Y_countWith k_521 (sel_priv ⟨by decide +kernel, by decide +kernel⟩ (F.2.2.2.2.1 _ hi) (va_Nw.use rfl (F.2.2.2.2.2.pv 522 (by decide +kernel) (by decide +kernel))) (F.2.2.2.2.1 _ j_Y_countWith.2.2.1) (F.2.2.2.2.1 _ k_630) rfl) F hc rfl hsz rfl ⟨by omega, by omega⟩ hw hdg hf YC.m (fun U h1 h2 => YC.m.2 s U h1 h2 hY) kk
