/-! 23.yearB: laid by program (wip/whole) -/
set_option maxHeartbeats 4000000 in
set_option maxRecDepth 100000 in
theorem ct_Y_dateOf (l : Launch) (D : va_G) (a : Nat) (S : Int → Int) (nm : Int → Int) (ma : Int → Int → Int) (la : Int → Int → Int) (co : Int → Int) (ya : Int → Int) (hy : Int → Prop) (d : Int) (k : Int) (n : Int) (pl : Nat) (hd : -45000000 ≤ d ∧ d ≤ 45000000) (hk : S k ≤ d ∧ d < S (k + 1)) (hn : n = S (k + 1) - S k) (hp1 : (pl : Int) < nm n) (hp2 : cm (fun i => la i n) pl ≤ d - S k ∧ d - S k < cm (fun i => la i n) (pl + 1)) : RO l y_Y_dateOf w_Y_dateOf 5 123 [.ref a, .long (iL d)] (YC D a S nm ma la co ya hy) (.long (iL (ya k * 65536 + ma pl n * 256 + (d - S k - cm (fun i => la i n) pl + 1)))) := by
  refine ro_of (by decide +kernel) (Nat.le_of_ble_eq_true rfl) ?_
  intro p e s m below meth c ls hx hb hr hts hown hlk hml hl hN hB
  have hown : s.vm.findClass "DayBook$YearCalendar" = some m.cls := hown
  have hl : lv_has ls 10 [(0, .ref a), (1, .long (iL d))] := hl
  have hF : _ ∧ _ ∧ _ ∧ _ ∧ _ ∧ _ := ⟨hx, hb, hml, hown, hts, hN⟩
  obtain ⟨oI, oL, oM, oA, oZ, oR, oC⟩ := hB.ok
  have oMk := oM k
  rw [← hn] at oMk
  obtain ⟨m1, m2, m3, m4⟩ := oMk
  have kr1 := oI.lt_of hk.1 (show d < S 67108864 by omega)
  have kr2 := oI.lt_of (show S (-67108864) ≤ d by omega) hk.2
  have nL := oL k
  have qS := oR k (by omega)
  have oCk := oC k
  have oIk := oI k
  have hJ77 : ∀ (lf : Int) (ls : Array Slot), lv_has ls 10 [(9, .int (iI (pl : Int))), (7, .long (iL lf)), (5, .int (iI n)), (3, .long (iL k)), (0, .ref a)] → (lf = d - S k - cm (fun i => la i n) pl) → W p l e (headSpec w_Y_dateOf ({ frames := 5, cells := 0, slots := 0, locals := 123 })).room s m [.ref a, .long (iL d)].toArray below meth c s.heap [] 0 0 (MQ below (k2_QcV (.long (iL (ya k * 65536 + ma pl n * 256 + (d - S k - cm (fun i => la i n) pl + 1))))) [.ref a, .long (iL d)].toArray s 0 0 (fun _ => False)) (F0 m 77 ls []) := by
    intro lf ls hl x1
    have qm := (m3 pl hp1).2
    refine lv_aload_n hx hb d_Y_dateOf_77 rfl (lv_at hl 4 rfl) ?_
    refine lv_lload_n hx hb d_Y_dateOf_78 rfl (lv_at hl 3 rfl) ?_
    refine cs_YA hB (by omega) hF hl.1 ⟨Nat.le_of_ble_eq_true rfl, Nat.le_of_ble_eq_true rfl⟩ (Nat.le_of_ble_eq_true rfl) d_Y_dateOf_79 ⟨Nat.zero_le _, Nat.zero_le _⟩ ?_
    refine lv_aload_n hx hb d_Y_dateOf_82 rfl (lv_at hl 4 rfl) ?_
    refine lv_iload hx hb d_Y_dateOf_83 (lv_at hl 0 rfl) ?_
    refine lv_iload hx hb d_Y_dateOf_85 (lv_at hl 2 rfl) ?_
    refine cs_MA hB (by omega) (by omega) hF hl.1 ⟨Nat.le_of_ble_eq_true rfl, Nat.le_of_ble_eq_true rfl⟩ (Nat.le_of_ble_eq_true rfl) d_Y_dateOf_87 ⟨Nat.zero_le _, Nat.zero_le _⟩ ?_
    refine ai_i2l hx hb d_Y_dateOf_90 (by omega) ?_
    refine lv_lload hx hb d_Y_dateOf_91 (lv_at hl 1 rfl) ?_
    refine ai_lconst (x := 1) hx hb d_Y_dateOf_93 (by decide +kernel) ?_
    refine ai_ladd hx hb d_Y_dateOf_94 ?_
    refine ro_SN (host := "DayBook") (rest := []) (ct_B_packed l (ya k) (ma (pl : Int) n) (lf + 1)) j_B_packed (hN.get 646 (by decide +kernel) (by decide +kernel)) hF rfl hl.1 rfl ⟨Nat.le_of_ble_eq_true rfl, Nat.le_of_ble_eq_true rfl⟩ (Nat.le_of_ble_eq_true rfl) d_Y_dateOf_95 ⟨Nat.zero_le _, Nat.zero_le _⟩ Bm_true (fun _ _ _ => trivial) ?_
    exact ro_lret hx hb hr hlk d_Y_dateOf_98 (by omega)
  have hJ35 : ∀ (N : Nat) (lf : Int) (j : Nat) (lst : Int) (ls : Array Slot), lv_has ls 10 [(9, .int (iI (j : Int))), (7, .long (iL lf)), (6, .int (iI lst)), (5, .int (iI n)), (3, .long (iL k)), (0, .ref a), (1, .long (iL d))] → (lst = nm n - 1) → ((j : Int) ≤ lst) → (lf = d - S k - cm (fun i => la i n) j) → (0 ≤ lf ∧ lf ≤ 2000) → (nm n - j).toNat < N → W p l e (headSpec w_Y_dateOf ({ frames := 5, cells := 0, slots := 0, locals := 123 })).room s m [.ref a, .long (iL d)].toArray below meth c s.heap [] 0 0 (MQ below (k2_QcV (.long (iL (ya k * 65536 + ma pl n * 256 + (d - S k - cm (fun i => la i n) pl + 1))))) [.ref a, .long (iL d)].toArray s 0 0 (fun _ => False)) (F0 m 35 ls []) := by
    intro N
    induction N with
    | zero => intro _ _ _ _ _ _ _ _ _ hm; exact absurd hm (Nat.not_lt_zero _)
    | succ N ih =>
      intro lf j lst ls hl i1 i2 i3 i4 hm
      have hj : (j : Int) < nm n := by omega
      have qa := (m3 j hj).1
      have cs1 : cm (fun i => la i n) (j + 1) = cm (fun i => la i n) j + la j n := rfl
      refine lv_iload hx hb d_Y_dateOf_35 (lv_at hl 0 rfl) ?_
      refine lv_iload hx hb d_Y_dateOf_37 (lv_at hl 2 rfl) ?_
      refine ai_icmp_ge hx hb d_Y_dateOf_39 rfl (by omega) (by omega) (fun h39 => ?_) (fun h39 => ?_)
      · skip
        obtain rfl : j = pl := cm_uniqR (f := fun i => la i n) (N := (nm n).toNat) (fun i hi => by have := (m3 i (by omega)).1; show 0 ≤ la (i : Int) n; omega) (by omega) (by omega) (show cm (fun i => la i n) j ≤ d - S k by omega) (by rw [show j + 1 = (nm n).toNat by omega, m4]; omega) hp2.1 hp2.2
        exact hJ77 lf _ (lv_sub hl [0, 1, 3, 4, 5] rfl) (by omega)
      · skip
        refine lv_lload hx hb d_Y_dateOf_42 (lv_at hl 1 rfl) ?_
        refine lv_aload_n hx hb d_Y_dateOf_44 rfl (lv_at hl 5 rfl) ?_
        refine lv_iload hx hb d_Y_dateOf_45 (lv_at hl 0 rfl) ?_
        refine lv_iload hx hb d_Y_dateOf_47 (lv_at hl 3 rfl) ?_
        refine cs_LA hB (by omega) (by omega) hF hl.1 ⟨Nat.le_of_ble_eq_true rfl, Nat.le_of_ble_eq_true rfl⟩ (Nat.le_of_ble_eq_true rfl) d_Y_dateOf_49 ⟨Nat.zero_le _, Nat.zero_le _⟩ ?_
        refine ai_i2l hx hb d_Y_dateOf_52 (by omega) ?_
        refine ai_lcmp_lt hx hb d_Y_dateOf_53 d_Y_dateOf_54 rfl (by omega) (by omega) (fun h53 => ?_) (fun h53 => ?_)
        · skip
          obtain rfl : j = pl := cm_uniqR (f := fun i => la i n) (N := (nm n).toNat) (fun i hi => by have := (m3 i (by omega)).1; show 0 ≤ la (i : Int) n; omega) (by omega) (by omega) (show cm (fun i => la i n) j ≤ d - S k by omega) (by rw [cs1]; omega) hp2.1 hp2.2
          exact hJ77 lf _ (lv_sub hl [0, 1, 3, 4, 5] rfl) (by omega)
        · skip
          refine lv_lload hx hb d_Y_dateOf_57 (lv_at hl 1 rfl) ?_
          refine lv_aload_n hx hb d_Y_dateOf_59 rfl (lv_at hl 5 rfl) ?_
          refine lv_iload hx hb d_Y_dateOf_60 (lv_at hl 0 rfl) ?_
          refine lv_iload hx hb d_Y_dateOf_62 (lv_at hl 3 rfl) ?_
          refine cs_LA hB (by omega) (by omega) hF hl.1 ⟨Nat.le_of_ble_eq_true rfl, Nat.le_of_ble_eq_true rfl⟩ (Nat.le_of_ble_eq_true rfl) d_Y_dateOf_64 ⟨Nat.zero_le _, Nat.zero_le _⟩ ?_
          refine ai_i2l hx hb d_Y_dateOf_67 (by omega) ?_
          refine ai_lsub hx hb d_Y_dateOf_68 ?_
          refine ai_nmL hx hb (fun v69 e69 => ?_)
          refine lv_lstore (lv' := [(7, .long (iL v69)), (9, .int (iI (j : Int))), (6, .int (iI lst)), (5, .int (iI n)), (3, .long (iL k)), (0, .ref a), (1, .long (iL d))]) hx hb d_Y_dateOf_69 hl (by decide) rfl (fun ls hl => ?_)
          refine ai_iinc (k := 1) (lv' := [(9, .int (iI ((j : Int) + 1))), (7, .long (iL v69)), (6, .int (iI lst)), (5, .int (iI n)), (3, .long (iL k)), (0, .ref a), (1, .long (iL d))]) hx hb d_Y_dateOf_71 hl rfl (by decide) rfl (fun ls hl => ?_)
          refine lv_goto hx hb d_Y_dateOf_74 rfl ?_
          exact ih v69 (j + 1) lst _ (lv_sub hl [0, 1, 2, 3, 4, 5, 6] rfl) (by omega) (by omega) (by rw [cs1]; omega) (by omega) (by omega)
  refine lv_aload_n hx hb d_Y_dateOf_0 rfl (lv_at hl 0 rfl) ?_
  refine lv_lload_n hx hb d_Y_dateOf_1 rfl (lv_at hl 1 rfl) ?_
  refine cs_CW hB hd hk hF hl.1 ⟨Nat.le_of_ble_eq_true rfl, Nat.le_of_ble_eq_true rfl⟩ (Nat.le_of_ble_eq_true rfl) d_Y_dateOf_2 ⟨Nat.zero_le _, Nat.zero_le _⟩ ?_
  refine lv_lstore_n (lv' := [(3, .long (iL k)), (0, .ref a), (1, .long (iL d))]) hx hb d_Y_dateOf_5 rfl hl (by decide) rfl (fun ls hl => ?_)
  refine lv_aload_n hx hb d_Y_dateOf_6 rfl (lv_at hl 1 rfl) ?_
  refine lv_lload_n hx hb d_Y_dateOf_7 rfl (lv_at hl 0 rfl) ?_
  refine cs_DI hB (by omega) hF hl.1 ⟨Nat.le_of_ble_eq_true rfl, Nat.le_of_ble_eq_true rfl⟩ (Nat.le_of_ble_eq_true rfl) d_Y_dateOf_8 ⟨Nat.zero_le _, Nat.zero_le _⟩ ?_
  refine ai_toI hx hb (b := n) (by omega) ?_
  refine lv_istore (lv' := [(5, .int (iI n)), (3, .long (iL k)), (0, .ref a), (1, .long (iL d))]) hx hb d_Y_dateOf_11 hl (by decide) rfl (fun ls hl => ?_)
  refine lv_aload_n hx hb d_Y_dateOf_13 rfl (lv_at hl 2 rfl) ?_
  refine lv_iload hx hb d_Y_dateOf_14 (lv_at hl 0 rfl) ?_
  refine cs_NM hB (by omega) hF hl.1 ⟨Nat.le_of_ble_eq_true rfl, Nat.le_of_ble_eq_true rfl⟩ (Nat.le_of_ble_eq_true rfl) d_Y_dateOf_16 ⟨Nat.zero_le _, Nat.zero_le _⟩ ?_
  refine ai_iconst hx hb d_Y_dateOf_19 ?_
  refine ai_isub hx hb d_Y_dateOf_20 ?_
  refine ai_nmI hx hb (fun v21 e21 => ?_)
  refine lv_istore (lv' := [(6, .int (iI v21)), (5, .int (iI n)), (3, .long (iL k)), (0, .ref a), (1, .long (iL d))]) hx hb d_Y_dateOf_21 hl (by decide) rfl (fun ls hl => ?_)
  refine lv_lload_n hx hb d_Y_dateOf_23 rfl (lv_at hl 4 rfl) ?_
  refine lv_aload_n hx hb d_Y_dateOf_24 rfl (lv_at hl 3 rfl) ?_
  refine lv_lload_n hx hb d_Y_dateOf_25 rfl (lv_at hl 2 rfl) ?_
  refine cs_YS hB (by omega) hF hl.1 ⟨Nat.le_of_ble_eq_true rfl, Nat.le_of_ble_eq_true rfl⟩ (Nat.le_of_ble_eq_true rfl) d_Y_dateOf_26 ⟨Nat.zero_le _, Nat.zero_le _⟩ ?_
  refine ai_lsub hx hb d_Y_dateOf_29 ?_
  refine ai_nmL hx hb (fun v30 e30 => ?_)
  refine lv_lstore (lv' := [(7, .long (iL v30)), (6, .int (iI v21)), (5, .int (iI n)), (3, .long (iL k)), (0, .ref a), (1, .long (iL d))]) hx hb d_Y_dateOf_30 hl (by decide) rfl (fun ls hl => ?_)
  refine ai_iconst hx hb d_Y_dateOf_32 ?_
  refine lv_istore (lv' := [(9, .int (iI 0)), (7, .long (iL v30)), (6, .int (iI v21)), (5, .int (iI n)), (3, .long (iL k)), (0, .ref a), (1, .long (iL d))]) hx hb d_Y_dateOf_33 hl (by decide) rfl (fun ls hl => ?_)
  exact hJ35 _ v30 0 v21 _ (lv_sub hl [0, 1, 2, 3, 4, 5, 6] rfl) (by omega) (by omega) (by have : cm (fun i => la i n) 0 = 0 := rfl; omega) (by omega) (Nat.lt_succ_self _)
set_option maxHeartbeats 4000000 in
set_option maxRecDepth 100000 in
theorem ct_Y_dayOf (l : Launch) (D : va_G) (a : Nat) (S : Int → Int) (nm : Int → Int) (ma : Int → Int → Int) (la : Int → Int → Int) (co : Int → Int) (ya : Int → Int) (hy : Int → Prop) (y : Int) (mth : Int) (dd : Int) (k : Int) (n : Int) (r : Int) (ry : -60000000 ≤ y ∧ y ≤ 60000000) (rm : -2147483648 ≤ mth ∧ mth ≤ 2147483647) (rdd : -2147483648 ≤ dd ∧ dd ≤ 2147483647) (hk : k = co y) (hn : n = S (k + 1) - S k) (hdr : DY S nm ma la hy y mth dd k n r) : RO l y_Y_dayOf w_Y_dayOf 5 119 [.ref a, .long (iL y), .int (iI mth), .int (iI dd)] (YC D a S nm ma la co ya hy) (.long (iL r)) := by
  refine ro_of (by decide +kernel) (Nat.le_of_ble_eq_true rfl) ?_
  intro p e s m below meth c ls hx hb hr hts hown hlk hml hl hN hB
  have hown : s.vm.findClass "DayBook$YearCalendar" = some m.cls := hown
  have hl : lv_has ls 13 [(0, .ref a), (1, .long (iL y)), (3, .int (iI mth)), (4, .int (iI dd))] := hl
  have hF : _ ∧ _ ∧ _ ∧ _ ∧ _ ∧ _ := ⟨hx, hb, hml, hown, hts, hN⟩
  obtain ⟨oI, oL, oM, oA, oZ, oR, oC⟩ := hB.ok
  have oMk := oM k
  rw [← hn] at oMk
  obtain ⟨m1, m2, m3, m4⟩ := oMk
  have oCy := (oC y).1
  have nL := oL k
  have qS := oR k (by omega)
  have oIk := oI k
  have hJ46 : ∀ (N : Nat) (ms : Int) (j : Nat) (mn : Int) (ls : Array Slot), lv_has ls 13 [(11, .int (iI (j : Int))), (9, .long (iL ms)), (8, .int (iI mn)), (7, .int (iI n)), (5, .long (iL k)), (0, .ref a), (1, .long (iL y)), (3, .int (iI mth)), (4, .int (iI dd))] → (hy y) → (mn = nm n) → ((j : Int) ≤ nm n) → (ms = S k + cm (fun i => la i n) j) → (∀ i : Nat, i < j → ma i n ≠ mth) → (nm n - j).toNat < N → W p l e (headSpec w_Y_dayOf ({ frames := 5, cells := 0, slots := 0, locals := 119 })).room s m [.ref a, .long (iL y), .int (iI mth), .int (iI dd)].toArray below meth c s.heap [] 0 0 (MQ below (k2_QcV (.long (iL r))) [.ref a, .long (iL y), .int (iI mth), .int (iI dd)].toArray s 0 0 (fun _ => False)) (F0 m 46 ls []) := by
    intro N
    induction N with
    | zero => intro _ _ _ _ _ _ _ _ _ _ hm; exact absurd hm (Nat.not_lt_zero _)
    | succ N ih =>
      intro ms j mn ls hl h5 i1 i2 i3 i4 hm
      have cs1 : cm (fun i => la i n) (j + 1) = cm (fun i => la i n) j + la j n := rfl
      refine lv_iload hx hb d_Y_dayOf_46 (lv_at hl 0 rfl) ?_
      refine lv_iload hx hb d_Y_dayOf_48 (lv_at hl 2 rfl) ?_
      refine ai_icmp_ge hx hb d_Y_dayOf_50 rfl (by omega) (by omega) (fun h50 => ?_) (fun h50 => ?_)
      · skip
        refine ai_ldc2 (x := -9223372036854775808) hx hb hown (hts _ k_718) (by decide +kernel) d_Y_dayOf_117 ?_
        exact ro_lret hx hb hr hlk d_Y_dayOf_120 (hdr.none (fun i hi => i4 i (by omega)))
      · skip
        have hj : (j : Int) < nm n := by omega
        have qa := m3 j hj
        refine lv_aload_n hx hb d_Y_dayOf_53 rfl (lv_at hl 5 rfl) ?_
        refine lv_iload hx hb d_Y_dayOf_54 (lv_at hl 0 rfl) ?_
        refine lv_iload hx hb d_Y_dayOf_56 (lv_at hl 3 rfl) ?_
        refine cs_LA hB (by omega) (by omega) hF hl.1 ⟨Nat.le_of_ble_eq_true rfl, Nat.le_of_ble_eq_true rfl⟩ (Nat.le_of_ble_eq_true rfl) d_Y_dayOf_58 ⟨Nat.zero_le _, Nat.zero_le _⟩ ?_
        refine ai_nmI hx hb (fun v61 e61 => ?_)
        refine lv_istore (lv' := [(12, .int (iI v61)), (11, .int (iI (j : Int))), (9, .long (iL ms)), (8, .int (iI mn)), (7, .int (iI n)), (5, .long (iL k)), (0, .ref a), (1, .long (iL y)), (3, .int (iI mth)), (4, .int (iI dd))]) hx hb d_Y_dayOf_61 hl (by decide) rfl (fun ls hl => ?_)
        refine lv_aload_n hx hb d_Y_dayOf_63 rfl (lv_at hl 6 rfl) ?_
        refine lv_iload hx hb d_Y_dayOf_64 (lv_at hl 1 rfl) ?_
        refine lv_iload hx hb d_Y_dayOf_66 (lv_at hl 4 rfl) ?_
        refine cs_MA hB (by omega) (by omega) hF hl.1 ⟨Nat.le_of_ble_eq_true rfl, Nat.le_of_ble_eq_true rfl⟩ (Nat.le_of_ble_eq_true rfl) d_Y_dayOf_68 ⟨Nat.zero_le _, Nat.zero_le _⟩ ?_
        refine lv_iload_n hx hb d_Y_dayOf_71 rfl (lv_at hl 8 rfl) ?_
        refine ai_icmp_ne hx hb d_Y_dayOf_72 rfl (by omega) (by omega) (fun h72 => ?_) (fun h72 => ?_)
        · skip
          refine lv_lload hx hb d_Y_dayOf_103 (lv_at hl 2 rfl) ?_
          refine lv_iload hx hb d_Y_dayOf_105 (lv_at hl 0 rfl) ?_
          refine ai_i2l hx hb d_Y_dayOf_107 (by omega) ?_
          refine ai_ladd hx hb d_Y_dayOf_108 ?_
          refine ai_nmL hx hb (fun v109 e109 => ?_)
          refine lv_lstore (lv' := [(9, .long (iL v109)), (12, .int (iI v61)), (11, .int (iI (j : Int))), (8, .int (iI mn)), (7, .int (iI n)), (5, .long (iL k)), (0, .ref a), (1, .long (iL y)), (3, .int (iI mth)), (4, .int (iI dd))]) hx hb d_Y_dayOf_109 hl (by decide) rfl (fun ls hl => ?_)
          refine ai_iinc (k := 2) (lv' := [(11, .int (iI ((j : Int) + 1))), (9, .long (iL v109)), (12, .int (iI v61)), (8, .int (iI mn)), (7, .int (iI n)), (5, .long (iL k)), (0, .ref a), (1, .long (iL y)), (3, .int (iI mth)), (4, .int (iI dd))]) hx hb d_Y_dayOf_111 hl rfl (by decide) rfl (fun ls hl => ?_)
          refine lv_goto hx hb d_Y_dayOf_114 rfl ?_
          exact ih v109 (j + 1) mn _ (lv_sub hl [0, 1, 3, 4, 5, 6, 7, 8, 9] rfl) h5 (by omega) (by omega) (by rw [cs1]; omega) (fun i hi => by by_cases q : i = j; (subst q; exact h72); exact i4 i (by omega)) (by omega)
        · skip
          have hat := hdr.at h5 hj h72 i4
          refine lv_iload hx hb d_Y_dayOf_75 (lv_at hl 9 rfl) ?_
          refine ai_iconst hx hb d_Y_dayOf_77 ?_
          refine ai_icmp_lt hx hb d_Y_dayOf_78 rfl (by omega) (by omega) (fun h78 => ?_) (fun h78 => ?_)
          · skip
            refine ai_ldc2 (x := -9223372036854775808) hx hb hown (hts _ k_718) (by decide +kernel) d_Y_dayOf_99 ?_
            exact ro_lret hx hb hr hlk d_Y_dayOf_102 (by omega)
          · skip
            refine lv_iload hx hb d_Y_dayOf_81 (lv_at hl 9 rfl) ?_
            refine lv_iload hx hb d_Y_dayOf_83 (lv_at hl 0 rfl) ?_
            refine ai_icmp_gt hx hb d_Y_dayOf_85 rfl (by omega) (by omega) (fun h85 => ?_) (fun h85 => ?_)
            · skip
              refine ai_ldc2 (x := -9223372036854775808) hx hb hown (hts _ k_718) (by decide +kernel) d_Y_dayOf_99 ?_
              exact ro_lret hx hb hr hlk d_Y_dayOf_102 (by omega)
            · skip
              refine lv_lload hx hb d_Y_dayOf_88 (lv_at hl 2 rfl) ?_
              refine lv_iload hx hb d_Y_dayOf_90 (lv_at hl 9 rfl) ?_
              refine ai_i2l hx hb d_Y_dayOf_92 (by omega) ?_
              refine ai_ladd hx hb d_Y_dayOf_93 ?_
              refine ai_lconst (x := 1) hx hb d_Y_dayOf_94 (by decide +kernel) ?_
              refine ai_lsub hx hb d_Y_dayOf_95 ?_
              refine lv_goto hx hb d_Y_dayOf_96 rfl ?_
              exact ro_lret hx hb hr hlk d_Y_dayOf_102 (by omega)
  refine lv_aload_n hx hb d_Y_dayOf_0 rfl (lv_at hl 0 rfl) ?_
  refine lv_lload_n hx hb d_Y_dayOf_1 rfl (lv_at hl 1 rfl) ?_
  refine cs_HY hB (by omega) hF hl.1 ⟨Nat.le_of_ble_eq_true rfl, Nat.le_of_ble_eq_true rfl⟩ (Nat.le_of_ble_eq_true rfl) d_Y_dayOf_2 ⟨Nat.zero_le _, Nat.zero_le _⟩ ?_
  refine ai_ifneB hx hb d_Y_dayOf_5 rfl (fun h5 => ?_) (fun h5 => ?_)
  · skip
    refine lv_aload_n hx hb d_Y_dayOf_12 rfl (lv_at hl 0 rfl) ?_
    refine lv_lload_n hx hb d_Y_dayOf_13 rfl (lv_at hl 1 rfl) ?_
    refine cs_CO hB (by omega) hF hl.1 ⟨Nat.le_of_ble_eq_true rfl, Nat.le_of_ble_eq_true rfl⟩ (Nat.le_of_ble_eq_true rfl) d_Y_dayOf_14 ⟨Nat.zero_le _, Nat.zero_le _⟩ ?_
    refine ai_toL hx hb (b := k) (by omega) ?_
    refine lv_lstore (lv' := [(5, .long (iL k)), (0, .ref a), (1, .long (iL y)), (3, .int (iI mth)), (4, .int (iI dd))]) hx hb d_Y_dayOf_17 hl (by decide) rfl (fun ls hl => ?_)
    refine lv_aload_n hx hb d_Y_dayOf_19 rfl (lv_at hl 1 rfl) ?_
    refine lv_lload hx hb d_Y_dayOf_20 (lv_at hl 0 rfl) ?_
    refine cs_DI hB (by omega) hF hl.1 ⟨Nat.le_of_ble_eq_true rfl, Nat.le_of_ble_eq_true rfl⟩ (Nat.le_of_ble_eq_true rfl) d_Y_dayOf_22 ⟨Nat.zero_le _, Nat.zero_le _⟩ ?_
    refine ai_toI hx hb (b := n) (by omega) ?_
    refine lv_istore (lv' := [(7, .int (iI n)), (5, .long (iL k)), (0, .ref a), (1, .long (iL y)), (3, .int (iI mth)), (4, .int (iI dd))]) hx hb d_Y_dayOf_25 hl (by decide) rfl (fun ls hl => ?_)
    refine lv_aload_n hx hb d_Y_dayOf_27 rfl (lv_at hl 2 rfl) ?_
    refine lv_iload hx hb d_Y_dayOf_28 (lv_at hl 0 rfl) ?_
    refine cs_NM hB (by omega) hF hl.1 ⟨Nat.le_of_ble_eq_true rfl, Nat.le_of_ble_eq_true rfl⟩ (Nat.le_of_ble_eq_true rfl) d_Y_dayOf_30 ⟨Nat.zero_le _, Nat.zero_le _⟩ ?_
    refine ai_nmI hx hb (fun v33 e33 => ?_)
    refine lv_istore (lv' := [(8, .int (iI v33)), (7, .int (iI n)), (5, .long (iL k)), (0, .ref a), (1, .long (iL y)), (3, .int (iI mth)), (4, .int (iI dd))]) hx hb d_Y_dayOf_33 hl (by decide) rfl (fun ls hl => ?_)
    refine lv_aload_n hx hb d_Y_dayOf_35 rfl (lv_at hl 3 rfl) ?_
    refine lv_lload hx hb d_Y_dayOf_36 (lv_at hl 2 rfl) ?_
    refine cs_YS hB (by omega) hF hl.1 ⟨Nat.le_of_ble_eq_true rfl, Nat.le_of_ble_eq_true rfl⟩ (Nat.le_of_ble_eq_true rfl) d_Y_dayOf_38 ⟨Nat.zero_le _, Nat.zero_le _⟩ ?_
    refine ai_nmL hx hb (fun v41 e41 => ?_)
    refine lv_lstore (lv' := [(9, .long (iL v41)), (8, .int (iI v33)), (7, .int (iI n)), (5, .long (iL k)), (0, .ref a), (1, .long (iL y)), (3, .int (iI mth)), (4, .int (iI dd))]) hx hb d_Y_dayOf_41 hl (by decide) rfl (fun ls hl => ?_)
    refine ai_iconst hx hb d_Y_dayOf_43 ?_
    refine lv_istore (lv' := [(11, .int (iI 0)), (9, .long (iL v41)), (8, .int (iI v33)), (7, .int (iI n)), (5, .long (iL k)), (0, .ref a), (1, .long (iL y)), (3, .int (iI mth)), (4, .int (iI dd))]) hx hb d_Y_dayOf_44 hl (by decide) rfl (fun ls hl => ?_)
    exact hJ46 _ v41 0 v33 _ (lv_sub hl [0, 1, 2, 3, 4, 5, 6, 7, 8] rfl) h5 (by omega) (by omega) (by have : cm (fun i => la i n) 0 = 0 := rfl; omega) (fun i hi => absurd hi (Nat.not_lt_zero i)) (Nat.lt_succ_self _)
  · skip
    refine ai_ldc2 (x := -9223372036854775808) hx hb hown (hts _ k_718) (by decide +kernel) d_Y_dayOf_8 ?_
    exact ro_lret hx hb hr hlk d_Y_dayOf_11 (hdr.no h5)
