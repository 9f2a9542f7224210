/-! 82.loopC: laid by program (wip/whole) -/
set_option maxHeartbeats 4000000 in
set_option maxRecDepth 100000 in
theorem lop_write {p : Program} {l : Launch} {e : Env} {s : State} {m : MethodId} {below : List Frame} {meth : Method} {c : Code} {Q : State → Prop} {sc L : Nat} {xs : Nat → Int32} {D : va_G} {cA cB : ClassId} {cx : Nat → ClassId} {sr : Nat → Nat} {b cvA jlA hbA csA sbA oa a : Nat} {ad : Nat → Nat} (hLC : LC p l s m c sc L xs D cA cB cx sr) {H : Heap} {locs : List Loc} (hI : LI D cA cB cx sr s b cvA jlA hbA csA sbA oa a ad H locs) {i : Int} (hi : 0 ≤ i ∧ i + 8 ≤ L) {ls : Array Slot} (hl : lv_has ls 7 [(0, .ref sc), (1, .ref b), (2, .ref a), (3, .ref oa), (4, .int (iI i))]) {cells slots : Nat} (hcs : cells + 6 ≤ 674659 ∧ slots + 200 ≤ 7072127) (kk : ∀ (H1 : Heap) (locs1 : List Loc) (ls1 : Array Slot), LI D cA cB cx sr s b cvA jlA hbA csA sbA oa a ad H1 locs1 → lv_has ls1 7 [(0, .ref sc), (1, .ref b), (2, .ref a), (3, .ref oa), (4, .int (iI i))] → W p l e room_1 s m (#[Value.ref sc] : Array Value) below meth c H1 locs1 (cells + 6) (slots + 200) Q (F0 m 1001 ls1 [])) : W p l e room_1 s m (#[Value.ref sc] : Array Value) below meth c H locs cells slots Q (F0 m 812 ls []) := by
  obtain ⟨hF, ⟨hX, hbl, hL⟩, hK, ⟨hSA, hDs, hTs, hNc⟩, hfl⟩ := id hLC
  obtain ⟨hx, hb, hml, hown, hts, hN⟩ := id hF
  have hscA : ¬ newA s sc := fun h => absurd h (by show ¬ s.heap.size ≤ sc; omega)
  have hA9 : ∀ q, s.heap.size ≤ q → newA s q := fun q h => h
  obtain ⟨vbA, ca, N, z, ml, tx, v0, F, g, CW, Lx, hP, hD, hS, hT, ⟨hv, hca⟩, hC⟩ := hI
  have hU : ∀ U : State, U.heap = H → s.WarmedH U.vm → UA D cA cB cx sr b cvA jlA hbA csA sbA vbA ca N z ml tx CW U := LU hLC hP hS
  have hKm : va_K D CL (MTy cx) s := va_K.sub hK [2, 3, 4, 5] rfl
  by_cases hgo : hcM g (sxI xs (i + 1)) ∧ (-40000000 ≤ (sxI xs (i + 2)) ∧ (sxI xs (i + 2)) ≤ 40000000)
  · skip
    rcases cal_cs hC (sxI xs (i + 1)) with ⟨-, hnc⟩ | ⟨q, DT, DR, hy, YB, ⟨hcs9, hhc⟩, hyb, hok, hCK, hhy, -⟩
    · exact absurd hgo.1 hnc
    obtain ⟨fY, fM, fD, c1, -, -⟩ := hok
    obtain ⟨d1, d2, d3, d4, d5, -⟩ := c1 (sxI xs (i + 2)) (by omega)
    have e1 : (fY (sxI xs (i + 2)) * 65536 + fM (sxI xs (i + 2)) * 256 + fD (sxI xs (i + 2))) / 65536 = fY (sxI xs (i + 2)) := by omega
    have e2 : (fY (sxI xs (i + 2)) * 65536 + fM (sxI xs (i + 2)) * 256 + fD (sxI xs (i + 2))) / 256 % 256 = fM (sxI xs (i + 2)) := by omega
    have e3 : (fY (sxI xs (i + 2)) * 65536 + fM (sxI xs (i + 2)) * 256 + fD (sxI xs (i + 2))) % 256 = fD (sxI xs (i + 2)) := by omega
    have hrg : RGW (fY (sxI xs (i + 2))) (fM (sxI xs (i + 2))) (fD (sxI xs (i + 2))) := ⟨by omega, by omega, by omega⟩
    obtain ⟨x, hxd⟩ : ∃ x : Int, x = ((txt (fY (sxI xs (i + 2))) (fM (sxI xs (i + 2))) (fD (sxI xs (i + 2)))).length : Int) := ⟨_, rfl⟩
    have hM := (ct_M_write l D a ad cx F g (sxI xs (i + 1)) (sxI xs (i + 2)) 0 x (fY (sxI xs (i + 2))) (fM (sxI xs (i + 2))) (fD (sxI xs (i + 2))) hv hca hT.2.2 (sxI_rng _ _) (sxI_rng _ _) (Or.inr (Or.inr ⟨rfl, hgo.1, hgo.2, d2, hrg, hxd⟩)))
    obtain ⟨fr2, hf2⟩ : ∃ n : Nat, n = 8 := ⟨_, rfl⟩
    obtain ⟨lo2, hl2⟩ : ∃ n : Nat, n = 198 := ⟨_, rfl⟩
    rw [← hf2, ← hl2] at hM
    refine lv_aload_n hx hb d_L_812 rfl (lv_at hl 1 rfl) ?_
    refine lv_aload_n hx hb d_L_813 rfl (lv_at hl 0 rfl) ?_
    refine lv_iload hx hb d_L_814 (lv_at hl 4 rfl) ?_
    refine ai_iconst hx hb d_L_816 ?_
    refine ai_iadd hx hb d_L_817 ?_
    refine la_ld hx hb hX hbl hscA hS (by omega) hL d_L_818 ?_
    refine lv_aload_n hx hb d_L_819 rfl (lv_at hl 0 rfl) ?_
    refine lv_iload hx hb d_L_820 (lv_at hl 4 rfl) ?_
    refine ai_iconst hx hb d_L_822 ?_
    refine ai_iadd hx hb d_L_823 ?_
    refine la_ld hx hb hX hbl hscA hS (by omega) hL d_L_824 ?_
    refine lv_aload_n hx hb d_L_825 rfl (lv_at hl 3 rfl) ?_
    have hP5 : va_P D CL ((BkWs b cvA jlA hbA csA sbA vbA cA cB ca N z ml tx ++ [(oa, .inl (cx 1, 1, .inr (.inl (fun j => iL (v0 j)))))]) ++ (MWs a ad cx F g ++ CW)) H := hP
    have hD5 : va_D (newA s) ((BkWs b cvA jlA hbA csA sbA vbA cA cB ca N z ml tx ++ [(oa, .inl (cx 1, 1, .inr (.inl (fun j => iL (v0 j)))))]) ++ (MWs a ad cx F g ++ CW)) := hD
    refine gl_i (mc := 5) (ms := 170) (win := (BkWs b cvA jlA hbA csA sbA vbA cA cB ca N z ml tx ++ [(oa, .inl (cx 1, 1, .inr (.inl (fun j => iL (v0 j)))))])) (wr := MWs a ad cx F g ++ CW) (gr_SW (rest := []) (ct_W_write l D b cvA jlA hbA csA sbA vbA cA cB ca N z ml tx Lx (sxI xs (i + 1)) (sxI xs (i + 2)) q DT DR hy (fY (sxI xs (i + 2)) * 65536 + fM (sxI xs (i + 2)) * 256 + fD (sxI xs (i + 2))) oa (cx 1) v0 H.size hT.1 (sxI_rng _ _) (sxI_rng _ _) hcs9 hgo.2 d1 (by omega) (by rw [e1, e2, e3]; exact hrg)) j_W_write k_844 hF (gm_pS hN (va_K.sub hK [0, 1, 3] rfl) hP5.left hD5.left (Bm.and SA.m CAL.m) (fun U h1 h2 => ⟨SA.at hSA hS (gl_free hD5 hS hA9) U h1 h2, (hU U h1 h2).ck hCK⟩)) rfl rfl rfl hl.1 rfl ⟨Nat.le_of_ble_eq_true rfl, Nat.le_of_ble_eq_true rfl⟩ (Nat.le_of_ble_eq_true rfl) d_L_826 ⟨by show cells + 5 ≤ 674659; omega, by show slots + 170 ≤ 7072127; omega⟩) hP5 hD5 hS hA9 (fun u8 H locs hΦ hP hD hS => ?_)
    refine W.widen (k := cells + 6) (n := slots + 200) (by omega) (by omega) ?_
    obtain ⟨zo, mo, vo, co, fo⟩ := u8
    have hΦ : RWO co zo fo (txt (fY (sxI xs (i + 2))) (fM (sxI xs (i + 2))) (fD (sxI xs (i + 2)))) := by have h9 : RWO co zo fo (txt ((fY (sxI xs (i + 2)) * 65536 + fM (sxI xs (i + 2)) * 256 + fD (sxI xs (i + 2))) / 65536) ((fY (sxI xs (i + 2)) * 65536 + fM (sxI xs (i + 2)) * 256 + fD (sxI xs (i + 2))) / 256 % 256) ((fY (sxI xs (i + 2)) * 65536 + fM (sxI xs (i + 2)) * 256 + fD (sxI xs (i + 2))) % 256)) := hΦ; rw [e1, e2, e3] at h9; exact h9
    have hP : va_P D CL (BkWs b cvA jlA hbA csA sbA vo cA cB ca co zo mo fo ++ ([(oa, .inl (cx 1, 1, .inr (.inl (fun j => iL ((upF v0 (Int.toNat 0) zo) j)))))] ++ (MWs a ad cx F g ++ CW))) H := hP
    have hD : va_D (newA s) (BkWs b cvA jlA hbA csA sbA vo cA cB ca co zo mo fo ++ ([(oa, .inl (cx 1, 1, .inr (.inl (fun j => iL ((upF v0 (Int.toNat 0) zo) j)))))] ++ (MWs a ad cx F g ++ CW))) := hD
    have heq : (0 : Int) = 0 → (upF v0 (Int.toNat 0) zo) 0 = x := fun _ => upF0.trans (by rw [hxd]; exact hΦ.2.2.1.1)
    have rx : -2147483648 ≤ x ∧ x ≤ 2147483647 := by have h9 := hΦ.2.2.1; omega
    refine lv_istore (lv' := [(5, .int (iI 0)), (0, .ref sc), (1, .ref b), (2, .ref a), (3, .ref oa), (4, .int (iI i))]) hx hb d_L_829 hl (by decide) rfl (fun ls hl => ?_)
    refine lv_aload_n hx hb d_L_831 rfl (lv_at hl 3 rfl) ?_
    refine lv_aload_n hx hb d_L_832 rfl (lv_at hl 1 rfl) ?_
    refine lv_iload hx hb d_L_833 (lv_at hl 5 rfl) ?_
    refine ai_iconst hx hb d_L_835 ?_
    refine ai_iadd hx hb d_L_836 ?_
    refine la_ld hx hb hX hbl hscA hS (by omega) hL d_L_837 ?_
    refine lv_aload_n hx hb d_L_838 rfl (lv_at hl 1 rfl) ?_
    refine lv_iload hx hb d_L_839 (lv_at hl 5 rfl) ?_
    refine ai_iconst hx hb d_L_841 ?_
    refine ai_iadd hx hb d_L_842 ?_
    refine la_ld hx hb hX hbl hscA hS (by omega) hL d_L_843 ?_
    obtain ⟨hP, hD⟩ := LF (B := BkWs b cvA jlA hbA csA sbA vo cA cB ca co zo mo fo) (O := [(oa, .inl (cx 1, 1, .inr (.inl (fun j => iL ((upF v0 (Int.toNat 0) zo) j)))))]) (M := MWs a ad cx F g) (C := CW) hP hD
    refine ml_i (rest := []) (wr := ((CW ++ BkWs b cvA jlA hbA csA sbA vo cA cB ca co zo mo fo) ++ [(oa, .inl (cx 1, 1, .inr (.inl (fun j => iL ((upF v0 (Int.toNat 0) zo) j)))))])) hM j_M_write k_1188 s_M_write hF hKm hP hD hS rfl hl.1 rfl ⟨by show fr2 + 1 ≤ 14; omega, by show 8 + (3 + 11) + lo2 ≤ 644; omega⟩ (Nat.le_of_ble_eq_true rfl) d_L_844 ⟨hcs.1, hcs.2⟩ (fun u9 H locs hΦ9 hP hD hS => ?_)
    obtain ⟨F1, g1⟩ := u9
    obtain ⟨hk1, hkg, hcc, h4⟩ := hΦ9
    dsimp only at hk1 hkg hcc h4 hP hD
    obtain ⟨hrow9, hch9⟩ : RowIs F1 g1 (txt (fY (sxI xs (i + 2))) (fM (sxI xs (i + 2))) (fD (sxI xs (i + 2)))) ∧ ChOK g1 := by rcases h4 with ⟨-, h4⟩ | ⟨h4, -⟩; exact h4; exact absurd rfl h4
    obtain ⟨hP, hD⟩ := LB (B := BkWs b cvA jlA hbA csA sbA vo cA cB ca co zo mo fo) (O := [(oa, .inl (cx 1, 1, .inr (.inl (fun j => iL ((upF v0 (Int.toNat 0) zo) j)))))]) (M := MWs a ad cx F1 g1) (C := CW) hP hD
    refine lv_istore (lv' := [(6, .int (iI x)), (5, .int (iI 0)), (0, .ref sc), (1, .ref b), (2, .ref a), (3, .ref oa), (4, .int (iI i))]) hx hb d_L_847 hl (by decide) rfl (fun ls hl => ?_)
    refine lv_aload_n hx hb d_L_849 rfl (lv_at hl 4 rfl) ?_
    refine ro_V (C := "DayBookModel") (rest := []) (ct_M_thrown l D a ad cx F1 g1) j_M_thrown k_1007 (hts _ s_M_thrown) hF (va_recv (q0 := 5) (ci := 10) hK hP rfl rfl) rfl hl.1 rfl ⟨Nat.le_of_ble_eq_true rfl, Nat.le_of_ble_eq_true rfl⟩ (Nat.le_of_ble_eq_true rfl) d_L_850 ⟨hcs.1, hcs.2⟩ MdB.m (fun U h1 h2 => ⟨va_K.moved h2.alike hKm, by rw [h1]; exact hP.right.right.left⟩) ?_
    refine ai_toI hx hb (b := 0) hk1 ?_
    refine lv_iload hx hb d_L_853 (lv_at hl 1 rfl) ?_
    refine ai_icmp_eq hx hb d_L_855 rfl (by omega) (by omega) (fun h855 => ?_) (fun h855 => by exfalso; omega)
    refine lv_iload hx hb d_L_860 (lv_at hl 1 rfl) ?_
    refine ai_if_ne hx hb d_L_862 rfl (by omega) (fun h862 => by exfalso; omega) (fun h862 => ?_)
    refine lv_aload_n hx hb d_L_865 rfl (lv_at hl 5 rfl) ?_
    refine ai_iconst hx hb d_L_866 ?_
    refine ma_lld hx hb hK hP 4 3 rfl rfl (h := (upF v0 (Int.toNat 0) zo)) (by decide) (by decide) d_L_867 ?_
    refine ai_toL hx hb (b := x) (heq rfl) ?_
    refine lv_iload hx hb d_L_868 (lv_at hl 0 rfl) ?_
    refine ai_i2l hx hb d_L_870 (by omega) ?_
    refine ai_lcmp_eq hx hb d_L_871 d_L_872 rfl (by omega) (by omega) (fun h871 => ?_) (fun h871 => by exfalso; omega)
    refine lv_goto hx hb d_L_877 rfl ?_
    exact kk _ _ _ ⟨vo, ca, co, zo, mo, fo, (upF v0 (Int.toNat 0) zo), F1, g1, CW, (txt (fY (sxI xs (i + 2))) (fM (sxI xs (i + 2))) (fD (sxI xs (i + 2)))), hP, hD, hS, ⟨hΦ, hrow9, hch9⟩, ⟨MInv.keep hkg hv, hcc⟩, hC.keep hkg⟩ (lv_sub hl [2, 3, 4, 5, 6] rfl)
  · skip
    obtain ⟨kc, v1, x, rk, rx, ⟨fr, lo, mc, ms, Xs, ⟨b1, b2, b3, b4⟩, hW, hbm, hXs⟩, ⟨fr2, lo2, ⟨b5, b6⟩, hM⟩, heq⟩ := sem_write (oa := oa) (v0 := v0) (a := a) (ad := ad) (F := F) (Lx := Lx) hfl hU hv hca hC hT (sxI xs (i + 1)) (sxI xs (i + 2)) (sxI_rng _ _) (sxI_rng _ _) hgo
    refine lv_aload_n hx hb d_L_812 rfl (lv_at hl 1 rfl) ?_
    refine lv_aload_n hx hb d_L_813 rfl (lv_at hl 0 rfl) ?_
    refine lv_iload hx hb d_L_814 (lv_at hl 4 rfl) ?_
    refine ai_iconst hx hb d_L_816 ?_
    refine ai_iadd hx hb d_L_817 ?_
    refine la_ld hx hb hX hbl hscA hS (by omega) hL d_L_818 ?_
    refine lv_aload_n hx hb d_L_819 rfl (lv_at hl 0 rfl) ?_
    refine lv_iload hx hb d_L_820 (lv_at hl 4 rfl) ?_
    refine ai_iconst hx hb d_L_822 ?_
    refine ai_iadd hx hb d_L_823 ?_
    refine la_ld hx hb hX hbl hscA hS (by omega) hL d_L_824 ?_
    refine lv_aload_n hx hb d_L_825 rfl (lv_at hl 3 rfl) ?_
    refine gl_i (x := fun (_ : Unit) => kc) (win := [(oa, .inl (cx 1, 1, .inr (.inl (fun j => iL (v0 j)))))]) (wr := ((MWs a ad cx F g ++ CW) ++ BkWs b cvA jlA hbA csA sbA vbA cA cB ca N z ml tx)) (gr_SW (rest := []) hW j_W_write k_844 hF (gm_pS hN (va_K.sub hK [3] rfl) hP.right.left hD.right.left hbm hXs) rfl rfl rfl hl.1 rfl ⟨by show fr + 1 ≤ 14; omega, by show 8 + (5 + 11) + lo ≤ 644; omega⟩ (Nat.le_of_ble_eq_true rfl) d_L_826 ⟨by show cells + mc ≤ 674659; omega, by show slots + ms ≤ 7072127; omega⟩) hP.sw hD.sw hS hA9 (fun _ H locs _ hP hD hS => ?_)
    refine W.widen (k := cells + 6) (n := slots + 200) (by omega) (by omega) ?_
    refine lv_istore (lv' := [(5, .int (iI kc)), (0, .ref sc), (1, .ref b), (2, .ref a), (3, .ref oa), (4, .int (iI i))]) hx hb d_L_829 hl (by decide) rfl (fun ls hl => ?_)
    refine lv_aload_n hx hb d_L_831 rfl (lv_at hl 3 rfl) ?_
    refine lv_aload_n hx hb d_L_832 rfl (lv_at hl 1 rfl) ?_
    refine lv_iload hx hb d_L_833 (lv_at hl 5 rfl) ?_
    refine ai_iconst hx hb d_L_835 ?_
    refine ai_iadd hx hb d_L_836 ?_
    refine la_ld hx hb hX hbl hscA hS (by omega) hL d_L_837 ?_
    refine lv_aload_n hx hb d_L_838 rfl (lv_at hl 1 rfl) ?_
    refine lv_iload hx hb d_L_839 (lv_at hl 5 rfl) ?_
    refine ai_iconst hx hb d_L_841 ?_
    refine ai_iadd hx hb d_L_842 ?_
    refine la_ld hx hb hX hbl hscA hS (by omega) hL d_L_843 ?_
    refine ml_i (rest := []) (wr := ((CW ++ BkWs b cvA jlA hbA csA sbA vbA cA cB ca N z ml tx) ++ [(oa, .inl (cx 1, 1, .inr (.inl (fun j => iL (v1 j)))))])) hM j_M_write k_1188 s_M_write hF hKm hP.sw hD.sw hS rfl hl.1 rfl ⟨by show fr2 + 1 ≤ 14; omega, by show 8 + (3 + 11) + lo2 ≤ 644; omega⟩ (Nat.le_of_ble_eq_true rfl) d_L_844 ⟨hcs.1, hcs.2⟩ (fun u9 H locs hΦ hP hD hS => ?_)
    obtain ⟨F1, g1⟩ := u9
    obtain ⟨hg1, hk1, h81, hc1⟩ := hΦ
    dsimp only at hg1 hk1 h81 hc1 hP hD
    rw [hg1] at hP hD
    refine lv_istore (lv' := [(6, .int (iI x)), (5, .int (iI kc)), (0, .ref sc), (1, .ref b), (2, .ref a), (3, .ref oa), (4, .int (iI i))]) hx hb d_L_847 hl (by decide) rfl (fun ls hl => ?_)
    refine lv_aload_n hx hb d_L_849 rfl (lv_at hl 4 rfl) ?_
    refine ro_V (C := "DayBookModel") (rest := []) (ct_M_thrown l D a ad cx F1 g) j_M_thrown k_1007 (hts _ s_M_thrown) hF (va_recv (q0 := 0) (ci := 10) hKm hP rfl rfl) rfl hl.1 rfl ⟨Nat.le_of_ble_eq_true rfl, Nat.le_of_ble_eq_true rfl⟩ (Nat.le_of_ble_eq_true rfl) d_L_850 ⟨hcs.1, hcs.2⟩ MdB.m (fun U h1 h2 => ⟨va_K.moved h2.alike hKm, by rw [h1]; exact hP.left⟩) ?_
    refine ai_toI hx hb (b := kc) hk1 ?_
    obtain ⟨hP, hD⟩ := LB (B := BkWs b cvA jlA hbA csA sbA vbA cA cB ca N z ml tx) (O := [(oa, .inl (cx 1, 1, .inr (.inl (fun j => iL (v1 j)))))]) (M := MWs a ad cx F1 g) (C := CW) hP hD
    refine lv_iload hx hb d_L_853 (lv_at hl 1 rfl) ?_
    refine ai_icmp_eq hx hb d_L_855 rfl (by omega) (by omega) (fun h855 => ?_) (fun h855 => by exfalso; omega)
    refine lv_iload hx hb d_L_860 (lv_at hl 1 rfl) ?_
    refine ai_if_ne hx hb d_L_862 rfl (by omega) (fun h862 => ?_) (fun h862 => ?_)
    · skip
      refine lv_goto hx hb d_L_877 rfl ?_
      exact kk _ _ _ ⟨vbA, ca, N, z, ml, tx, v1, F1, g, CW, Lx, hP, hD, hS, ⟨hT.1, hT.2.1.of8 h81, hT.2.2⟩, ⟨hv, hc1⟩, hC⟩ (lv_sub hl [2, 3, 4, 5, 6] rfl)
    · skip
      refine lv_aload_n hx hb d_L_865 rfl (lv_at hl 5 rfl) ?_
      refine ai_iconst hx hb d_L_866 ?_
      refine ma_lld hx hb hK hP 4 3 rfl rfl (h := v1) (by decide) (by decide) d_L_867 ?_
      refine ai_toL hx hb (b := x) (heq (by omega)) ?_
      refine lv_iload hx hb d_L_868 (lv_at hl 0 rfl) ?_
      refine ai_i2l hx hb d_L_870 (by omega) ?_
      refine ai_lcmp_eq hx hb d_L_871 d_L_872 rfl (by omega) (by omega) (fun h871 => ?_) (fun h871 => by exfalso; omega)
      refine lv_goto hx hb d_L_877 rfl ?_
      exact kk _ _ _ ⟨vbA, ca, N, z, ml, tx, v1, F1, g, CW, Lx, hP, hD, hS, ⟨hT.1, hT.2.1.of8 h81, hT.2.2⟩, ⟨hv, hc1⟩, hC⟩ (lv_sub hl [2, 3, 4, 5, 6] rfl)
