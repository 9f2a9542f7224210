/-! 80.loopB: laid by program (wip/whole) -/
set_option maxHeartbeats 4000000 in
set_option maxRecDepth 100000 in
theorem lop_rounds {p : Program} {l : Launch} {e : Env} {s : State} {m : MethodId} {below : List Frame} {meth : Method} {c : Code} {Q : State → Prop} {sc L : Nat} {xs : Nat → Int32} {D : va_G} {cA cB : ClassId} {cx : Nat → ClassId} {sr : Nat → Nat} {b cvA jlA hbA csA sbA oa a : Nat} {ad : Nat → Nat} (hLC : LC p l s m c sc L xs D cA cB cx sr) {H : Heap} {locs : List Loc} (hI : LI D cA cB cx sr s b cvA jlA hbA csA sbA oa a ad H locs) {i : Int} (hi : 0 ≤ i ∧ i + 8 ≤ L) {ls : Array Slot} (hl : lv_has ls 7 [(0, .ref sc), (1, .ref b), (2, .ref a), (3, .ref oa), (4, .int (iI i))]) {cells slots : Nat} (hcs : cells + 6 ≤ 674659 ∧ slots + 200 ≤ 7072127) (kk : ∀ (H1 : Heap) (locs1 : List Loc) (ls1 : Array Slot), LI D cA cB cx sr s b cvA jlA hbA csA sbA oa a ad H1 locs1 → lv_has ls1 7 [(0, .ref sc), (1, .ref b), (2, .ref a), (3, .ref oa), (4, .int (iI i))] → W p l e room_1 s m (#[Value.ref sc] : Array Value) below meth c H1 locs1 (cells + 6) (slots + 200) Q (F0 m 1001 ls1 [])) : W p l e room_1 s m (#[Value.ref sc] : Array Value) below meth c H locs cells slots Q (F0 m 566 ls []) := by
  obtain ⟨hF, ⟨hX, hbl, hL⟩, hK, ⟨hSA, hDs, hTs, hNc⟩, hfl⟩ := id hLC
  obtain ⟨hx, hb, hml, hown, hts, hN⟩ := id hF
  have hscA : ¬ newA s sc := fun h => absurd h (by show ¬ s.heap.size ≤ sc; omega)
  have hA9 : ∀ q, s.heap.size ≤ q → newA s q := fun q h => h
  obtain ⟨vbA, ca, N, z, ml, tx, v0, F, g, CW, Lx, hP, hD, hS, hT, ⟨hv, hca⟩, hC⟩ := hI
  have hU : ∀ U : State, U.heap = H → s.WarmedH U.vm → UA D cA cB cx sr b cvA jlA hbA csA sbA vbA ca N z ml tx CW U := LU hLC hP hS
  have hKm : va_K D CL (MTy cx) s := va_K.sub hK [2, 3, 4, 5] rfl
  obtain ⟨x, rx, ⟨fr, lo, Bs, ⟨b1, b2⟩, hR, hbm, hBs⟩, ⟨fr2, lo2, ⟨b5, b6⟩, hM⟩⟩ := sem_rounds (oa := oa) (v0 := v0) (a := a) (ad := ad) (F := F) hfl hU hv hca hC hT (sxI xs (i + 1)) (sxI_rng _ _)
  refine W.widen (k := cells + 6) (n := slots + 200) (by omega) (by omega) ?_
  refine lv_aload_n hx hb d_L_566 rfl (lv_at hl 1 rfl) ?_
  refine lv_aload_n hx hb d_L_567 rfl (lv_at hl 0 rfl) ?_
  refine lv_iload hx hb d_L_568 (lv_at hl 4 rfl) ?_
  refine ai_iconst hx hb d_L_570 ?_
  refine ai_iadd hx hb d_L_571 ?_
  refine la_ld hx hb hX hbl hscA hS (by omega) hL d_L_572 ?_
  refine ro_V (C := "DayBook") (rest := []) hR j_B_rounds k_220 (hts _ s_B_rounds) hF (va_recv (q0 := 0) (ci := 9) hK hP rfl rfl) rfl hl.1 rfl ⟨by show fr + 1 ≤ 14; omega, by show 8 + (2 + 11) + lo ≤ 644; omega⟩ (Nat.le_of_ble_eq_true rfl) d_L_573 ⟨hcs.1, hcs.2⟩ hbm hBs ?_
  refine lv_aload_n hx hb d_L_576 rfl (lv_at hl 2 rfl) ?_
  refine lv_aload_n hx hb d_L_577 rfl (lv_at hl 0 rfl) ?_
  refine lv_iload hx hb d_L_578 (lv_at hl 4 rfl) ?_
  refine ai_iconst hx hb d_L_580 ?_
  refine ai_iadd hx hb d_L_581 ?_
  refine la_ld hx hb hX hbl hscA hS (by omega) hL d_L_582 ?_
  obtain ⟨hP, hD⟩ := LF (B := BkWs b cvA jlA hbA csA sbA vbA cA cB ca N z ml tx) (O := [(oa, .inl (cx 1, 1, .inr (.inl (fun j => iL (v0 j)))))]) (M := MWs a ad cx F g) (C := CW) hP hD
  refine ml_i (rest := [.int (iI x)]) (wr := ((CW ++ BkWs b cvA jlA hbA csA sbA vbA cA cB ca N z ml tx) ++ [(oa, .inl (cx 1, 1, .inr (.inl (fun j => iL (v0 j)))))])) hM j_M_rounds k_1159 s_M_rounds hF hKm hP hD hS rfl hl.1 rfl ⟨by show fr2 + 1 ≤ 14; omega, by show 8 + (2 + 11) + lo2 ≤ 644; omega⟩ (Nat.le_of_ble_eq_true rfl) d_L_583 ⟨hcs.1, hcs.2⟩ (fun u9 H locs hΦ9 hP hD hS => ?_)
  subst hΦ9
  have hP : va_P D CL (MWs a ad cx (upF F 0 0) g ++ ((CW ++ BkWs b cvA jlA hbA csA sbA vbA cA cB ca N z ml tx) ++ [(oa, .inl (cx 1, 1, .inr (.inl (fun j => iL (v0 j)))))])) H := hP
  have hD : va_D (newA s) (MWs a ad cx (upF F 0 0) g ++ ((CW ++ BkWs b cvA jlA hbA csA sbA vbA cA cB ca N z ml tx) ++ [(oa, .inl (cx 1, 1, .inr (.inl (fun j => iL (v0 j)))))])) := hD
  obtain ⟨hP, hD⟩ := LB (B := BkWs b cvA jlA hbA csA sbA vbA cA cB ca N z ml tx) (O := [(oa, .inl (cx 1, 1, .inr (.inl (fun j => iL (v0 j)))))]) (M := MWs a ad cx (upF F 0 0) g) (C := CW) hP hD
  refine ai_icmp_eq hx hb d_L_586 rfl (by omega) (by omega) (fun h586 => ?_) (fun h586 => absurd rfl h586)
  exact kk _ _ _ ⟨vbA, ca, N, z, ml, tx, v0, (upF F 0 0), g, CW, Lx, hP, hD, hS, ⟨hT.1, hT.2.1.of8 rfl, hT.2.2⟩, ⟨hv, (CacheOK.up0 hca)⟩, hC⟩ (lv_sub hl [0, 1, 2, 3, 4] rfl)
set_option maxHeartbeats 4000000 in
set_option maxRecDepth 100000 in
theorem lop_meeting {p : Program} {l : Launch} {e : Env} {s : State} {m : MethodId} {below : List Frame} {meth : Method} {c : Code} {Q : State → Prop} {sc L : Nat} {xs : Nat → Int32} {D : va_G} {cA cB : ClassId} {cx : Nat → ClassId} {sr : Nat → Nat} {b cvA jlA hbA csA sbA oa a : Nat} {ad : Nat → Nat} (hLC : LC p l s m c sc L xs D cA cB cx sr) {H : Heap} {locs : List Loc} (hI : LI D cA cB cx sr s b cvA jlA hbA csA sbA oa a ad H locs) {i : Int} (hi : 0 ≤ i ∧ i + 8 ≤ L) {ls : Array Slot} (hl : lv_has ls 7 [(0, .ref sc), (1, .ref b), (2, .ref a), (3, .ref oa), (4, .int (iI i))]) {cells slots : Nat} (hcs : cells + 6 ≤ 674659 ∧ slots + 200 ≤ 7072127) (kk : ∀ (H1 : Heap) (locs1 : List Loc) (ls1 : Array Slot), LI D cA cB cx sr s b cvA jlA hbA csA sbA oa a ad H1 locs1 → lv_has ls1 7 [(0, .ref sc), (1, .ref b), (2, .ref a), (3, .ref oa), (4, .int (iI i))] → W p l e room_1 s m (#[Value.ref sc] : Array Value) below meth c H1 locs1 (cells + 6) (slots + 200) Q (F0 m 1001 ls1 [])) : W p l e room_1 s m (#[Value.ref sc] : Array Value) below meth c H locs cells slots Q (F0 m 591 ls []) := by
  obtain ⟨hF, ⟨hX, hbl, hL⟩, hK, ⟨hSA, hDs, hTs, hNc⟩, hfl⟩ := id hLC
  obtain ⟨hx, hb, hml, hown, hts, hN⟩ := id hF
  have hscA : ¬ newA s sc := fun h => absurd h (by show ¬ s.heap.size ≤ sc; omega)
  have hA9 : ∀ q, s.heap.size ≤ q → newA s q := fun q h => h
  obtain ⟨vbA, ca, N, z, ml, tx, v0, F, g, CW, Lx, hP, hD, hS, hT, ⟨hv, hca⟩, hC⟩ := hI
  have hU : ∀ U : State, U.heap = H → s.WarmedH U.vm → UA D cA cB cx sr b cvA jlA hbA csA sbA vbA ca N z ml tx CW U := LU hLC hP hS
  have hKm : va_K D CL (MTy cx) s := va_K.sub hK [2, 3, 4, 5] rfl
  obtain ⟨x, rx, ⟨fr, lo, Bs, ⟨b1, b2⟩, hR, hbm, hBs⟩, ⟨fr2, lo2, ⟨b5, b6⟩, hM⟩⟩ := sem_meeting (oa := oa) (v0 := v0) (a := a) (ad := ad) (F := F) hfl hU hv hca hC hT (sxI xs (i + 1)) (sxI xs (i + 2)) (sxI xs (i + 3)) (sxI_rng _ _) (sxI_rng _ _) (sxI_rng _ _)
  refine W.widen (k := cells + 6) (n := slots + 200) (by omega) (by omega) ?_
  refine lv_aload_n hx hb d_L_591 rfl (lv_at hl 1 rfl) ?_
  refine lv_aload_n hx hb d_L_592 rfl (lv_at hl 0 rfl) ?_
  refine lv_iload hx hb d_L_593 (lv_at hl 4 rfl) ?_
  refine ai_iconst hx hb d_L_595 ?_
  refine ai_iadd hx hb d_L_596 ?_
  refine la_ld hx hb hX hbl hscA hS (by omega) hL d_L_597 ?_
  refine lv_aload_n hx hb d_L_598 rfl (lv_at hl 0 rfl) ?_
  refine lv_iload hx hb d_L_599 (lv_at hl 4 rfl) ?_
  refine ai_iconst hx hb d_L_601 ?_
  refine ai_iadd hx hb d_L_602 ?_
  refine la_ld hx hb hX hbl hscA hS (by omega) hL d_L_603 ?_
  refine lv_aload_n hx hb d_L_604 rfl (lv_at hl 0 rfl) ?_
  refine lv_iload hx hb d_L_605 (lv_at hl 4 rfl) ?_
  refine ai_iconst hx hb d_L_607 ?_
  refine ai_iadd hx hb d_L_608 ?_
  refine la_ld hx hb hX hbl hscA hS (by omega) hL d_L_609 ?_
  refine ro_V (C := "DayBook") (rest := []) hR j_B_meeting k_241 (hts _ s_B_meeting) hF (va_recv (q0 := 0) (ci := 9) hK hP rfl rfl) rfl hl.1 rfl ⟨by show fr + 1 ≤ 14; omega, by show 8 + (6 + 11) + lo ≤ 644; omega⟩ (Nat.le_of_ble_eq_true rfl) d_L_610 ⟨hcs.1, hcs.2⟩ hbm hBs ?_
  refine lv_aload_n hx hb d_L_613 rfl (lv_at hl 2 rfl) ?_
  refine lv_aload_n hx hb d_L_614 rfl (lv_at hl 0 rfl) ?_
  refine lv_iload hx hb d_L_615 (lv_at hl 4 rfl) ?_
  refine ai_iconst hx hb d_L_617 ?_
  refine ai_iadd hx hb d_L_618 ?_
  refine la_ld hx hb hX hbl hscA hS (by omega) hL d_L_619 ?_
  refine lv_aload_n hx hb d_L_620 rfl (lv_at hl 0 rfl) ?_
  refine lv_iload hx hb d_L_621 (lv_at hl 4 rfl) ?_
  refine ai_iconst hx hb d_L_623 ?_
  refine ai_iadd hx hb d_L_624 ?_
  refine la_ld hx hb hX hbl hscA hS (by omega) hL d_L_625 ?_
  refine lv_aload_n hx hb d_L_626 rfl (lv_at hl 0 rfl) ?_
  refine lv_iload hx hb d_L_627 (lv_at hl 4 rfl) ?_
  refine ai_iconst hx hb d_L_629 ?_
  refine ai_iadd hx hb d_L_630 ?_
  refine la_ld hx hb hX hbl hscA hS (by omega) hL d_L_631 ?_
  obtain ⟨hP, hD⟩ := LF (B := BkWs b cvA jlA hbA csA sbA vbA cA cB ca N z ml tx) (O := [(oa, .inl (cx 1, 1, .inr (.inl (fun j => iL (v0 j)))))]) (M := MWs a ad cx F g) (C := CW) hP hD
  refine ml_i (rest := [.int (iI x)]) (wr := ((CW ++ BkWs b cvA jlA hbA csA sbA vbA cA cB ca N z ml tx) ++ [(oa, .inl (cx 1, 1, .inr (.inl (fun j => iL (v0 j)))))])) hM j_M_meeting k_1167 s_M_meeting hF hKm hP hD hS rfl hl.1 rfl ⟨by show fr2 + 1 ≤ 14; omega, by show 8 + (7 + 11) + lo2 ≤ 644; omega⟩ (Nat.le_of_ble_eq_true rfl) d_L_632 ⟨hcs.1, hcs.2⟩ (fun u9 H locs hΦ9 hP hD hS => ?_)
  subst hΦ9
  have hP : va_P D CL (MWs a ad cx (upF F 0 0) g ++ ((CW ++ BkWs b cvA jlA hbA csA sbA vbA cA cB ca N z ml tx) ++ [(oa, .inl (cx 1, 1, .inr (.inl (fun j => iL (v0 j)))))])) H := hP
  have hD : va_D (newA s) (MWs a ad cx (upF F 0 0) g ++ ((CW ++ BkWs b cvA jlA hbA csA sbA vbA cA cB ca N z ml tx) ++ [(oa, .inl (cx 1, 1, .inr (.inl (fun j => iL (v0 j)))))])) := hD
  obtain ⟨hP, hD⟩ := LB (B := BkWs b cvA jlA hbA csA sbA vbA cA cB ca N z ml tx) (O := [(oa, .inl (cx 1, 1, .inr (.inl (fun j => iL (v0 j)))))]) (M := MWs a ad cx (upF F 0 0) g) (C := CW) hP hD
  refine ai_icmp_eq hx hb d_L_635 rfl (by omega) (by omega) (fun h635 => ?_) (fun h635 => absurd rfl h635)
  exact kk _ _ _ ⟨vbA, ca, N, z, ml, tx, v0, (upF F 0 0), g, CW, Lx, hP, hD, hS, ⟨hT.1, hT.2.1.of8 rfl, hT.2.2⟩, ⟨hv, (CacheOK.up0 hca)⟩, hC⟩ (lv_sub hl [0, 1, 2, 3, 4] rfl)
set_option maxHeartbeats 4000000 in
set_option maxRecDepth 100000 in
theorem lop_letter {p : Program} {l : Launch} {e : Env} {s : State} {m : MethodId} {below : List Frame} {meth : Method} {c : Code} {Q : State → Prop} {sc L : Nat} {xs : Nat → Int32} {D : va_G} {cA cB : ClassId} {cx : Nat → ClassId} {sr : Nat → Nat} {b cvA jlA hbA csA sbA oa a : Nat} {ad : Nat → Nat} (hLC : LC p l s m c sc L xs D cA cB cx sr) {H : Heap} {locs : List Loc} (hI : LI D cA cB cx sr s b cvA jlA hbA csA sbA oa a ad H locs) {i : Int} (hi : 0 ≤ i ∧ i + 8 ≤ L) {ls : Array Slot} (hl : lv_has ls 7 [(0, .ref sc), (1, .ref b), (2, .ref a), (3, .ref oa), (4, .int (iI i))]) {cells slots : Nat} (hcs : cells + 6 ≤ 674659 ∧ slots + 200 ≤ 7072127) (kk : ∀ (H1 : Heap) (locs1 : List Loc) (ls1 : Array Slot), LI D cA cB cx sr s b cvA jlA hbA csA sbA oa a ad H1 locs1 → lv_has ls1 7 [(0, .ref sc), (1, .ref b), (2, .ref a), (3, .ref oa), (4, .int (iI i))] → W p l e room_1 s m (#[Value.ref sc] : Array Value) below meth c H1 locs1 (cells + 6) (slots + 200) Q (F0 m 1001 ls1 [])) : W p l e room_1 s m (#[Value.ref sc] : Array Value) below meth c H locs cells slots Q (F0 m 920 ls []) := by
  obtain ⟨hF, ⟨hX, hbl, hL⟩, hK, ⟨hSA, hDs, hTs, hNc⟩, hfl⟩ := id hLC
  obtain ⟨hx, hb, hml, hown, hts, hN⟩ := id hF
  have hscA : ¬ newA s sc := fun h => absurd h (by show ¬ s.heap.size ≤ sc; omega)
  have hA9 : ∀ q, s.heap.size ≤ q → newA s q := fun q h => h
  obtain ⟨vbA, ca, N, z, ml, tx, v0, F, g, CW, Lx, hP, hD, hS, hT, ⟨hv, hca⟩, hC⟩ := hI
  have hU : ∀ U : State, U.heap = H → s.WarmedH U.vm → UA D cA cB cx sr b cvA jlA hbA csA sbA vbA ca N z ml tx CW U := LU hLC hP hS
  have hKm : va_K D CL (MTy cx) s := va_K.sub hK [2, 3, 4, 5] rfl
  obtain ⟨x, rx, ⟨fr, lo, Bs, ⟨b1, b2⟩, hR, hbm, hBs⟩, ⟨fr2, lo2, ⟨b5, b6⟩, hM⟩⟩ := sem_letter (oa := oa) (v0 := v0) (a := a) (ad := ad) (F := F) hfl hU hv hca hC hT (sxI xs (i + 1)) (sxI_rng _ _)
  refine W.widen (k := cells + 6) (n := slots + 200) (by omega) (by omega) ?_
  refine lv_aload_n hx hb d_L_920 rfl (lv_at hl 1 rfl) ?_
  refine lv_aload_n hx hb d_L_921 rfl (lv_at hl 0 rfl) ?_
  refine lv_iload hx hb d_L_922 (lv_at hl 4 rfl) ?_
  refine ai_iconst hx hb d_L_924 ?_
  refine ai_iadd hx hb d_L_925 ?_
  refine la_ld hx hb hX hbl hscA hS (by omega) hL d_L_926 ?_
  refine ro_V (C := "DayBook") (rest := []) hR j_B_letter k_378 (hts _ s_B_letter) hF (va_recv (q0 := 0) (ci := 9) hK hP rfl rfl) rfl hl.1 rfl ⟨by show fr + 1 ≤ 14; omega, by show 8 + (2 + 11) + lo ≤ 644; omega⟩ (Nat.le_of_ble_eq_true rfl) d_L_927 ⟨hcs.1, hcs.2⟩ hbm hBs ?_
  refine lv_aload_n hx hb d_L_930 rfl (lv_at hl 2 rfl) ?_
  refine lv_aload_n hx hb d_L_931 rfl (lv_at hl 0 rfl) ?_
  refine lv_iload hx hb d_L_932 (lv_at hl 4 rfl) ?_
  refine ai_iconst hx hb d_L_934 ?_
  refine ai_iadd hx hb d_L_935 ?_
  refine la_ld hx hb hX hbl hscA hS (by omega) hL d_L_936 ?_
  obtain ⟨hP, hD⟩ := LF (B := BkWs b cvA jlA hbA csA sbA vbA cA cB ca N z ml tx) (O := [(oa, .inl (cx 1, 1, .inr (.inl (fun j => iL (v0 j)))))]) (M := MWs a ad cx F g) (C := CW) hP hD
  refine ml_i (rest := [.int (iI x)]) (wr := ((CW ++ BkWs b cvA jlA hbA csA sbA vbA cA cB ca N z ml tx) ++ [(oa, .inl (cx 1, 1, .inr (.inl (fun j => iL (v0 j)))))])) hM j_M_letter k_1206 s_M_letter hF hKm hP hD hS rfl hl.1 rfl ⟨by show fr2 + 1 ≤ 14; omega, by show 8 + (2 + 11) + lo2 ≤ 644; omega⟩ (Nat.le_of_ble_eq_true rfl) d_L_937 ⟨hcs.1, hcs.2⟩ (fun u9 H locs hΦ9 hP hD hS => ?_)
  subst hΦ9
  have hP : va_P D CL (MWs a ad cx (upF F 0 0) g ++ ((CW ++ BkWs b cvA jlA hbA csA sbA vbA cA cB ca N z ml tx) ++ [(oa, .inl (cx 1, 1, .inr (.inl (fun j => iL (v0 j)))))])) H := hP
  have hD : va_D (newA s) (MWs a ad cx (upF F 0 0) g ++ ((CW ++ BkWs b cvA jlA hbA csA sbA vbA cA cB ca N z ml tx) ++ [(oa, .inl (cx 1, 1, .inr (.inl (fun j => iL (v0 j)))))])) := hD
  obtain ⟨hP, hD⟩ := LB (B := BkWs b cvA jlA hbA csA sbA vbA cA cB ca N z ml tx) (O := [(oa, .inl (cx 1, 1, .inr (.inl (fun j => iL (v0 j)))))]) (M := MWs a ad cx (upF F 0 0) g) (C := CW) hP hD
  refine ai_icmp_eq hx hb d_L_940 rfl (by omega) (by omega) (fun h940 => ?_) (fun h940 => absurd rfl h940)
  exact kk _ _ _ ⟨vbA, ca, N, z, ml, tx, v0, (upF F 0 0), g, CW, Lx, hP, hD, hS, ⟨hT.1, hT.2.1.of8 rfl, hT.2.2⟩, ⟨hv, (CacheOK.up0 hca)⟩, hC⟩ (lv_sub hl [0, 1, 2, 3, 4] rfl)
set_option maxHeartbeats 4000000 in
set_option maxRecDepth 100000 in
theorem lop_type {p : Program} {l : Launch} {e : Env} {s : State} {m : MethodId} {below : List Frame} {meth : Method} {c : Code} {Q : State → Prop} {sc L : Nat} {xs : Nat → Int32} {D : va_G} {cA cB : ClassId} {cx : Nat → ClassId} {sr : Nat → Nat} {b cvA jlA hbA csA sbA oa a : Nat} {ad : Nat → Nat} (hLC : LC p l s m c sc L xs D cA cB cx sr) {H : Heap} {locs : List Loc} (hI : LI D cA cB cx sr s b cvA jlA hbA csA sbA oa a ad H locs) {i : Int} (hi : 0 ≤ i ∧ i + 8 ≤ L) {ls : Array Slot} (hl : lv_has ls 7 [(0, .ref sc), (1, .ref b), (2, .ref a), (3, .ref oa), (4, .int (iI i))]) {cells slots : Nat} (hcs : cells + 6 ≤ 674659 ∧ slots + 200 ≤ 7072127) (kk : ∀ (H1 : Heap) (locs1 : List Loc) (ls1 : Array Slot), LI D cA cB cx sr s b cvA jlA hbA csA sbA oa a ad H1 locs1 → lv_has ls1 7 [(0, .ref sc), (1, .ref b), (2, .ref a), (3, .ref oa), (4, .int (iI i))] → W p l e room_1 s m (#[Value.ref sc] : Array Value) below meth c H1 locs1 (cells + 6) (slots + 200) Q (F0 m 1001 ls1 [])) : W p l e room_1 s m (#[Value.ref sc] : Array Value) below meth c H locs cells slots Q (F0 m 880 ls []) := by
  obtain ⟨hF, ⟨hX, hbl, hL⟩, hK, ⟨hSA, hDs, hTs, hNc⟩, hfl⟩ := id hLC
  obtain ⟨hx, hb, hml, hown, hts, hN⟩ := id hF
  have hscA : ¬ newA s sc := fun h => absurd h (by show ¬ s.heap.size ≤ sc; omega)
  have hA9 : ∀ q, s.heap.size ≤ q → newA s q := fun q h => h
  obtain ⟨vbA, ca, N, z, ml, tx, v0, F, g, CW, Lx, hP, hD, hS, hT, ⟨hv, hca⟩, hC⟩ := hI
  have hU : ∀ U : State, U.heap = H → s.WarmedH U.vm → UA D cA cB cx sr b cvA jlA hbA csA sbA vbA ca N z ml tx CW U := LU hLC hP hS
  have hKm : va_K D CL (MTy cx) s := va_K.sub hK [2, 3, 4, 5] rfl
  obtain ⟨v, hv9⟩ : ∃ v : Int, v = (sxI xs (i + 1) % 65536) := ⟨_, rfl⟩
  have rv : 0 ≤ v ∧ v ≤ 65535 := by omega
  have rs := sxI_rng xs (i + 1)
  obtain ⟨e8, hz8, he8⟩ := row_eq hT
  by_cases hgo : (((48 ≤ v ∧ v ≤ 57) ∨ v = 45 ∨ v = 47) ∧ F 8 ≠ 24)
  · skip
    have hM := ct_M_type l D a ad cx F g v ⟨rv.1, by omega⟩ (by omega)
    rw [bI_t hgo] at hM
    have l24 : Lx.length < 24 := by have := hT.2.1.1; have := hgo.2; have := hT.2.1.2.1; omega
    have hkg9 : KeepG g (upG g 9 (Int.toNat (F 8)) v) := fun k hk => by unfold upG; rw [if_neg hk]
    have hrow9 : RowIs (upF (upF F 0 0) 8 (F 8 + 1)) (upG g 9 (Int.toNat (F 8)) v) (Lx ++ [v]) := (hT.2.1.of8 (F' := upF F 0 0) rfl).push l24 rfl
    have hch9 : ChOK (upG g 9 (Int.toNat (F 8)) v) := hT.2.2.push ⟨by omega, by omega⟩
    have hcc9 : CacheOK (upF (upF F 0 0) 8 (F 8 + 1)) (upG g 9 (Int.toNat (F 8)) v) := (CacheOK.up0 (v := 0) hca).keep (KeepR.rf.push)
    refine lv_aload_n hx hb d_L_880 rfl (lv_at hl 1 rfl) ?_
    refine lv_aload_n hx hb d_L_881 rfl (lv_at hl 0 rfl) ?_
    refine lv_iload hx hb d_L_882 (lv_at hl 4 rfl) ?_
    refine ai_iconst hx hb d_L_884 ?_
    refine ai_iadd hx hb d_L_885 ?_
    refine la_ld hx hb hX hbl hscA hS (by omega) hL d_L_886 ?_
    refine ai_i2c hx hb d_L_887 ?_
    refine ai_toI hx hb (b := v) hv9.symm ?_
    refine gl_i (win := BkWs b cvA jlA hbA csA sbA vbA cA cB ca N z ml tx) (wr := [(oa, .inl (cx 1, 1, .inr (.inl (fun j => iL (v0 j)))))] ++ (MWs a ad cx F g ++ CW)) (gr_V (C := "DayBook") (rest := []) (ct_B_type_1 l D b cvA jlA hbA csA sbA vbA cA cB ca N z ml tx Lx v H.size hT.1 rv hgo.1 (by have := hgo.2; omega)) j_B_type k_245 (hts _ s_B_type) hF (gm_pV (va_recv (q0 := 0) (ci := 9) hK hP rfl rfl) hN (va_K.sub hK [0, 1] rfl) hP.left hD.left SA.m (SA.at hSA hS (gl_free hD hS hA9))) rfl rfl rfl hl.1 rfl ⟨Nat.le_of_ble_eq_true rfl, Nat.le_of_ble_eq_true rfl⟩ (Nat.le_of_ble_eq_true rfl) d_L_888 ⟨by show cells + 1 ≤ 674659; omega, by show slots + 34 ≤ 7072127; omega⟩) hP hD hS hA9 (fun u8 H locs hΦ hP hD hS => ?_)
    refine W.widen (k := cells + 6) (n := slots + 200) (by omega) (by omega) ?_
    obtain ⟨vo, co, fo⟩ := u8
    have hΦ : RWO co (z + 1) fo (Lx ++ [v]) := hΦ
    have hP : va_P D CL (BkWs b cvA jlA hbA csA sbA vo cA cB ca co (z + 1) ml fo ++ ([(oa, .inl (cx 1, 1, .inr (.inl (fun j => iL (v0 j)))))] ++ (MWs a ad cx F g ++ CW))) H := hP
    have hD : va_D (newA s) (BkWs b cvA jlA hbA csA sbA vo cA cB ca co (z + 1) ml fo ++ ([(oa, .inl (cx 1, 1, .inr (.inl (fun j => iL (v0 j)))))] ++ (MWs a ad cx F g ++ CW))) := hD
    refine lv_aload_n hx hb d_L_891 rfl (lv_at hl 2 rfl) ?_
    refine lv_aload_n hx hb d_L_892 rfl (lv_at hl 0 rfl) ?_
    refine lv_iload hx hb d_L_893 (lv_at hl 4 rfl) ?_
    refine ai_iconst hx hb d_L_895 ?_
    refine ai_iadd hx hb d_L_896 ?_
    refine la_ld hx hb hX hbl hscA hS (by omega) hL d_L_897 ?_
    refine ai_i2c hx hb d_L_898 ?_
    refine ai_toI hx hb (b := v) hv9.symm ?_
    obtain ⟨hP, hD⟩ := LF (B := BkWs b cvA jlA hbA csA sbA vo cA cB ca co (z + 1) ml fo) (O := [(oa, .inl (cx 1, 1, .inr (.inl (fun j => iL (v0 j)))))]) (M := MWs a ad cx F g) (C := CW) hP hD
    refine ml_i (rest := [.int (iI 1)]) (wr := ((CW ++ BkWs b cvA jlA hbA csA sbA vo cA cB ca co (z + 1) ml fo) ++ [(oa, .inl (cx 1, 1, .inr (.inl (fun j => iL (v0 j)))))])) hM j_M_type k_1198 s_M_type hF hKm hP hD hS rfl hl.1 rfl ⟨Nat.le_of_ble_eq_true rfl, Nat.le_of_ble_eq_true rfl⟩ (Nat.le_of_ble_eq_true rfl) d_L_899 ⟨hcs.1, hcs.2⟩ (fun u9 H locs hΦ9 hP hD hS => ?_)
    have hΦ9 := hΦ9.1 hgo; subst hΦ9
    have hP : va_P D CL (MWs a ad cx (upF (upF F 0 0) 8 (F 8 + 1)) (upG g 9 (Int.toNat (F 8)) v) ++ ((CW ++ BkWs b cvA jlA hbA csA sbA vo cA cB ca co (z + 1) ml fo) ++ [(oa, .inl (cx 1, 1, .inr (.inl (fun j => iL (v0 j)))))])) H := hP
    have hD : va_D (newA s) (MWs a ad cx (upF (upF F 0 0) 8 (F 8 + 1)) (upG g 9 (Int.toNat (F 8)) v) ++ ((CW ++ BkWs b cvA jlA hbA csA sbA vo cA cB ca co (z + 1) ml fo) ++ [(oa, .inl (cx 1, 1, .inr (.inl (fun j => iL (v0 j)))))])) := hD
    obtain ⟨hP, hD⟩ := LB (B := BkWs b cvA jlA hbA csA sbA vo cA cB ca co (z + 1) ml fo) (O := [(oa, .inl (cx 1, 1, .inr (.inl (fun j => iL (v0 j)))))]) (M := MWs a ad cx (upF (upF F 0 0) 8 (F 8 + 1)) (upG g 9 (Int.toNat (F 8)) v)) (C := CW) hP hD
    refine ai_icmp_eq hx hb d_L_902 rfl (by omega) (by omega) (fun h902 => ?_) (fun h902 => by exfalso; omega)
    exact kk _ _ _ ⟨vo, ca, co, (z + 1), ml, fo, v0, (upF (upF F 0 0) 8 (F 8 + 1)), (upG g 9 (Int.toNat (F 8)) v), CW, (Lx ++ [v]), hP, hD, hS, ⟨hΦ, hrow9, hch9⟩, ⟨(MInv.keep hkg9 hv), hcc9⟩, (hC.keep hkg9)⟩ (lv_sub hl [0, 1, 2, 3, 4] rfl)
  · skip
    obtain ⟨x, rx, ⟨fr, lo, Bs, ⟨b1, b2⟩, hR, hbm, hBs⟩, ⟨fr2, lo2, ⟨b5, b6⟩, hM⟩⟩ := sem_type (oa := oa) (v0 := v0) (a := a) (ad := ad) (F := F) hfl hU hv hca hC hT v rv hgo
    refine W.widen (k := cells + 6) (n := slots + 200) (by omega) (by omega) ?_
    refine lv_aload_n hx hb d_L_880 rfl (lv_at hl 1 rfl) ?_
    refine lv_aload_n hx hb d_L_881 rfl (lv_at hl 0 rfl) ?_
    refine lv_iload hx hb d_L_882 (lv_at hl 4 rfl) ?_
    refine ai_iconst hx hb d_L_884 ?_
    refine ai_iadd hx hb d_L_885 ?_
    refine la_ld hx hb hX hbl hscA hS (by omega) hL d_L_886 ?_
    refine ai_i2c hx hb d_L_887 ?_
    refine ai_toI hx hb (b := v) hv9.symm ?_
    refine ro_V (C := "DayBook") (rest := []) hR j_B_type k_245 (hts _ s_B_type) hF (va_recv (q0 := 0) (ci := 9) hK hP rfl rfl) rfl hl.1 rfl ⟨by show fr + 1 ≤ 14; omega, by show 8 + (3 + 11) + lo ≤ 644; omega⟩ (Nat.le_of_ble_eq_true rfl) d_L_888 ⟨hcs.1, hcs.2⟩ hbm hBs ?_
    refine lv_aload_n hx hb d_L_891 rfl (lv_at hl 2 rfl) ?_
    refine lv_aload_n hx hb d_L_892 rfl (lv_at hl 0 rfl) ?_
    refine lv_iload hx hb d_L_893 (lv_at hl 4 rfl) ?_
    refine ai_iconst hx hb d_L_895 ?_
    refine ai_iadd hx hb d_L_896 ?_
    refine la_ld hx hb hX hbl hscA hS (by omega) hL d_L_897 ?_
    refine ai_i2c hx hb d_L_898 ?_
    refine ai_toI hx hb (b := v) hv9.symm ?_
    obtain ⟨hP, hD⟩ := LF (B := BkWs b cvA jlA hbA csA sbA vbA cA cB ca N z ml tx) (O := [(oa, .inl (cx 1, 1, .inr (.inl (fun j => iL (v0 j)))))]) (M := MWs a ad cx F g) (C := CW) hP hD
    refine ml_i (rest := [.int (iI x)]) (wr := ((CW ++ BkWs b cvA jlA hbA csA sbA vbA cA cB ca N z ml tx) ++ [(oa, .inl (cx 1, 1, .inr (.inl (fun j => iL (v0 j)))))])) hM j_M_type k_1198 s_M_type hF hKm hP hD hS rfl hl.1 rfl ⟨by show fr2 + 1 ≤ 14; omega, by show 8 + (2 + 11) + lo2 ≤ 644; omega⟩ (Nat.le_of_ble_eq_true rfl) d_L_899 ⟨hcs.1, hcs.2⟩ (fun u9 H locs hΦ9 hP hD hS => ?_)
    subst hΦ9
    have hP : va_P D CL (MWs a ad cx (upF F 0 0) g ++ ((CW ++ BkWs b cvA jlA hbA csA sbA vbA cA cB ca N z ml tx) ++ [(oa, .inl (cx 1, 1, .inr (.inl (fun j => iL (v0 j)))))])) H := hP
    have hD : va_D (newA s) (MWs a ad cx (upF F 0 0) g ++ ((CW ++ BkWs b cvA jlA hbA csA sbA vbA cA cB ca N z ml tx) ++ [(oa, .inl (cx 1, 1, .inr (.inl (fun j => iL (v0 j)))))])) := hD
    obtain ⟨hP, hD⟩ := LB (B := BkWs b cvA jlA hbA csA sbA vbA cA cB ca N z ml tx) (O := [(oa, .inl (cx 1, 1, .inr (.inl (fun j => iL (v0 j)))))]) (M := MWs a ad cx (upF F 0 0) g) (C := CW) hP hD
    refine ai_icmp_eq hx hb d_L_902 rfl (by omega) (by omega) (fun h902 => ?_) (fun h902 => absurd rfl h902)
    exact kk _ _ _ ⟨vbA, ca, N, z, ml, tx, v0, (upF F 0 0), g, CW, Lx, hP, hD, hS, ⟨hT.1, hT.2.1.of8 rfl, hT.2.2⟩, ⟨hv, (CacheOK.up0 hca)⟩, hC⟩ (lv_sub hl [0, 1, 2, 3, 4] rfl)
set_option maxHeartbeats 4000000 in
set_option maxRecDepth 100000 in
theorem lop_wipe {p : Program} {l : Launch} {e : Env} {s : State} {m : MethodId} {below : List Frame} {meth : Method} {c : Code} {Q : State → Prop} {sc L : Nat} {xs : Nat → Int32} {D : va_G} {cA cB : ClassId} {cx : Nat → ClassId} {sr : Nat → Nat} {b cvA jlA hbA csA sbA oa a : Nat} {ad : Nat → Nat} (hLC : LC p l s m c sc L xs D cA cB cx sr) {H : Heap} {locs : List Loc} (hI : LI D cA cB cx sr s b cvA jlA hbA csA sbA oa a ad H locs) {i : Int} (hi : 0 ≤ i ∧ i + 8 ≤ L) {ls : Array Slot} (hl : lv_has ls 7 [(0, .ref sc), (1, .ref b), (2, .ref a), (3, .ref oa), (4, .int (iI i))]) {cells slots : Nat} (hcs : cells + 6 ≤ 674659 ∧ slots + 200 ≤ 7072127) (kk : ∀ (H1 : Heap) (locs1 : List Loc) (ls1 : Array Slot), LI D cA cB cx sr s b cvA jlA hbA csA sbA oa a ad H1 locs1 → lv_has ls1 7 [(0, .ref sc), (1, .ref b), (2, .ref a), (3, .ref oa), (4, .int (iI i))] → W p l e room_1 s m (#[Value.ref sc] : Array Value) below meth c H1 locs1 (cells + 6) (slots + 200) Q (F0 m 1001 ls1 [])) : W p l e room_1 s m (#[Value.ref sc] : Array Value) below meth c H locs cells slots Q (F0 m 907 ls []) := by
  obtain ⟨hF, ⟨hX, hbl, hL⟩, hK, ⟨hSA, hDs, hTs, hNc⟩, hfl⟩ := id hLC
  obtain ⟨hx, hb, hml, hown, hts, hN⟩ := id hF
  have hscA : ¬ newA s sc := fun h => absurd h (by show ¬ s.heap.size ≤ sc; omega)
  have hA9 : ∀ q, s.heap.size ≤ q → newA s q := fun q h => h
  obtain ⟨vbA, ca, N, z, ml, tx, v0, F, g, CW, Lx, hP, hD, hS, hT, ⟨hv, hca⟩, hC⟩ := hI
  have hU : ∀ U : State, U.heap = H → s.WarmedH U.vm → UA D cA cB cx sr b cvA jlA hbA csA sbA vbA ca N z ml tx CW U := LU hLC hP hS
  have hKm : va_K D CL (MTy cx) s := va_K.sub hK [2, 3, 4, 5] rfl
  obtain ⟨e8, hz8, he8⟩ := row_eq hT
  have hM := ct_M_wipe l D a ad cx F g
  rw [e8] at hM
  refine lv_aload_n hx hb d_L_907 rfl (lv_at hl 1 rfl) ?_
  refine gl_i (win := BkWs b cvA jlA hbA csA sbA vbA cA cB ca N z ml tx) (wr := [(oa, .inl (cx 1, 1, .inr (.inl (fun j => iL (v0 j)))))] ++ (MWs a ad cx F g ++ CW)) (gr_V (C := "DayBook") (rest := []) (ct_B_wipe l D b cvA jlA hbA csA sbA vbA cA cB ca N z ml tx Lx H.size hT.1) j_B_wipe k_354 (hts _ s_B_wipe) hF (gm_pV (va_recv (q0 := 0) (ci := 9) hK hP rfl rfl) hN (va_K.sub hK [0, 1] rfl) hP.left hD.left SA.m (SA.at hSA hS (gl_free hD hS hA9))) rfl rfl rfl hl.1 rfl ⟨Nat.le_of_ble_eq_true rfl, Nat.le_of_ble_eq_true rfl⟩ (Nat.le_of_ble_eq_true rfl) d_L_908 ⟨by show cells + 0 ≤ 674659; omega, by show slots + 0 ≤ 7072127; omega⟩) hP hD hS hA9 (fun u8 H locs hΦ hP hD hS => ?_)
  refine W.widen (k := cells + 6) (n := slots + 200) (by omega) (by omega) ?_
  have hP : va_P D CL (BkWs b cvA jlA hbA csA sbA vbA cA cB ca N 0 u8 tx ++ ([(oa, .inl (cx 1, 1, .inr (.inl (fun j => iL (v0 j)))))] ++ (MWs a ad cx F g ++ CW))) H := hP
  have hD : va_D (newA s) (BkWs b cvA jlA hbA csA sbA vbA cA cB ca N 0 u8 tx ++ ([(oa, .inl (cx 1, 1, .inr (.inl (fun j => iL (v0 j)))))] ++ (MWs a ad cx F g ++ CW))) := hD
  refine lv_aload_n hx hb d_L_911 rfl (lv_at hl 2 rfl) ?_
  obtain ⟨hP, hD⟩ := LF (B := BkWs b cvA jlA hbA csA sbA vbA cA cB ca N 0 u8 tx) (O := [(oa, .inl (cx 1, 1, .inr (.inl (fun j => iL (v0 j)))))]) (M := MWs a ad cx F g) (C := CW) hP hD
  refine ml_i (rest := [.int (iI z)]) (wr := ((CW ++ BkWs b cvA jlA hbA csA sbA vbA cA cB ca N 0 u8 tx) ++ [(oa, .inl (cx 1, 1, .inr (.inl (fun j => iL (v0 j)))))])) hM j_M_wipe k_1202 s_M_wipe hF hKm hP hD hS rfl hl.1 rfl ⟨Nat.le_of_ble_eq_true rfl, Nat.le_of_ble_eq_true rfl⟩ (Nat.le_of_ble_eq_true rfl) d_L_912 ⟨hcs.1, hcs.2⟩ (fun u9 H locs hΦ9 hP hD hS => ?_)
  subst hΦ9
  have hP : va_P D CL (MWs a ad cx (upF (upF F 0 0) 8 0) g ++ ((CW ++ BkWs b cvA jlA hbA csA sbA vbA cA cB ca N 0 u8 tx) ++ [(oa, .inl (cx 1, 1, .inr (.inl (fun j => iL (v0 j)))))])) H := hP
  have hD : va_D (newA s) (MWs a ad cx (upF (upF F 0 0) 8 0) g ++ ((CW ++ BkWs b cvA jlA hbA csA sbA vbA cA cB ca N 0 u8 tx) ++ [(oa, .inl (cx 1, 1, .inr (.inl (fun j => iL (v0 j)))))])) := hD
  obtain ⟨hP, hD⟩ := LB (B := BkWs b cvA jlA hbA csA sbA vbA cA cB ca N 0 u8 tx) (O := [(oa, .inl (cx 1, 1, .inr (.inl (fun j => iL (v0 j)))))]) (M := MWs a ad cx (upF (upF F 0 0) 8 0) g) (C := CW) hP hD
  refine ai_icmp_eq hx hb d_L_915 rfl (by omega) (by omega) (fun h915 => ?_) (fun h915 => absurd rfl h915)
  exact kk _ _ _ ⟨vbA, ca, N, 0, u8, tx, v0, (upF (upF F 0 0) 8 0), g, CW, [], hP, hD, hS, ⟨⟨hT.1.1, by omega, hT.1.2.2.nil⟩, RowIs.nil, hT.2.2⟩, ⟨hv, ((CacheOK.up0 (v := 0) hca).keep (g' := g) ⟨fun j hj => by show (if j = 8 then 0 else upF F 0 0 j) = upF F 0 0 j; rw [if_neg hj], fun _ _ => rfl⟩)⟩, hC⟩ (lv_sub hl [0, 1, 2, 3, 4] rfl)
