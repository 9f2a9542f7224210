/-! 78.loop: laid by program (wip/whole) -/
/-! the law's loop: what holds at its head -/
def newA (s : State) : Nat → Prop := fun q => s.heap.size ≤ q
def LC (p : Program) (l : Launch) (s : State) (m : MethodId) (c : Code) (sc L : Nat) (xs : Nat → Int32) (D : va_G) (cA cB : ClassId) (cx : Nat → ClassId) (sr : Nat → Nat) : Prop :=
  (p.tables.exec = Jvm.exec ∧ c.code = code ∧ c.maxLocals = 7 ∧ s.vm.findClass "DayBookLaw" = some m.cls ∧ (∀ w ∈ gw, w.before (#[Value.ref sc] : Array Value) s = true) ∧ NV s) ∧ (va_X sc L xs s s.heap ∧ sc < s.heap.size ∧ L ≤ 4096) ∧ va_K D CL [(cA, .object "DayBook$Calendar"), (cB, .byte), (cx 0, .int), (cx 1, .long), (cx 2, .boolean), (cx 3, .char)] s ∧ (SA (newA s) s ∧ DSA sr (newA s) s ∧ TSt s ∧ NCX s) ∧ l.flags = pinnedFlags ++ [noTraceFlag]
def LI (D : va_G) (cA cB : ClassId) (cx : Nat → ClassId) (sr : Nat → Nat) (s : State) (b cvA jlA hbA csA sbA oa a : Nat) (ad : Nat → Nat) (H : Heap) (locs : List Loc) : Prop :=
  ∃ (vbA : Nat) (ca : Nat → Option Nat) (N : Nat) (z ml : Int) (tx v0 F : Nat → Int) (g : Nat → Nat → Int) (CW : va_W) (Lx : List Int), va_P D CL (BkWs b cvA jlA hbA csA sbA vbA cA cB ca N z ml tx ++ ([(oa, .inl (cx 1, 1, .inr (.inl (fun j => iL (v0 j)))))] ++ (MWs a ad cx F g ++ CW))) H ∧ va_D (newA s) (BkWs b cvA jlA hbA csA sbA vbA cA cB ca N z ml tx ++ ([(oa, .inl (cx 1, 1, .inr (.inl (fun j => iL (v0 j)))))] ++ (MWs a ad cx F g ++ CW))) ∧ va_S (newA s) s.heap H locs ∧ (RWO N z tx Lx ∧ RowIs F g Lx ∧ ChOK g) ∧ (MInv g ∧ CacheOK F g) ∧ CALS D cA cB cx sr CW g ca cvA jlA hbA
theorem LU {p : Program} {l : Launch} {s : State} {m : MethodId} {c : Code} {sc L : Nat} {xs : Nat → Int32} {D : va_G} {cA cB : ClassId} {cx : Nat → ClassId} {sr : Nat → Nat} (hLC : LC p l s m c sc L xs D cA cB cx sr) {b cvA jlA hbA csA sbA oa a : Nat} {ad : Nat → Nat} {H : Heap} {locs : List Loc} {vbA : Nat} {ca : Nat → Option Nat} {N : Nat} {z ml : Int} {tx v0 F : Nat → Int} {g : Nat → Nat → Int} {CW : va_W} (hP : va_P D CL (BkWs b cvA jlA hbA csA sbA vbA cA cB ca N z ml tx ++ ([(oa, .inl (cx 1, 1, .inr (.inl (fun j => iL (v0 j)))))] ++ (MWs a ad cx F g ++ CW))) H) (hS : va_S (newA s) s.heap H locs) (U : State) (h1 : U.heap = H) (h2 : s.WarmedH U.vm) : UA D cA cB cx sr b cvA jlA hbA csA sbA vbA ca N z ml tx CW U := by
  obtain ⟨-, -, hK, ⟨hSA, hDs, hTs, hNc⟩, -⟩ := hLC
  refine ⟨va_K.moved h2.alike hK, by rw [h1]; exact hP.left, by rw [h1]; exact hP.right.right.right, SA.at hSA hS (fun _ h => h.elim) U h1 h2, DSA.at hDs hS (fun _ h => h.elim) U h1 h2, TSt.at hTs hS (fun q h => h) U h1 h2, fun E hE C hC hne => va_Nc.moved h2.alike (hNc E hE C hC hne)⟩
theorem LB {D : va_G} {A : Nat → Prop} {B O M C : va_W} {H : Heap} (hP : va_P D CL (M ++ ((C ++ B) ++ O)) H) (hD : va_D A (M ++ ((C ++ B) ++ O))) : va_P D CL (B ++ (O ++ (M ++ C))) H ∧ va_D A (B ++ (O ++ (M ++ C))) := by
  constructor
  · exact va_P.app hP.right.left.right (va_P.app hP.right.right (va_P.app hP.left hP.right.left.left))
  · have h1 : va_D A ((M ++ (C ++ B)) ++ O) := by rw [List.append_assoc]; exact hD
    have h2 := h1.sw
    have h3 : va_D A ((O ++ (M ++ C)) ++ B) := by
      have e1 : (O ++ (M ++ C)) ++ B = O ++ (M ++ (C ++ B)) := by rw [List.append_assoc, List.append_assoc]
      rw [e1]; exact h2
    exact h3.sw
theorem RowIs.of8 {F F' : Nat → Int} {g : Nat → Nat → Int} {L : List Int} (h : RowIs F g L) (e : F' 8 = F 8) : RowIs F' g L := ⟨e.trans h.1, h.2⟩

set_option maxHeartbeats 4000000 in
set_option maxRecDepth 100000 in
theorem lop_date {p : Program} {l : Launch} {e : Env} {s : State} {m : MethodId} {below : List Frame} {meth : Method} {c : Code} {Q : State → Prop} {sc L : Nat} {xs : Nat → Int32} {D : va_G} {cA cB : ClassId} {cx : Nat → ClassId} {sr : Nat → Nat} {b cvA jlA hbA csA sbA oa a : Nat} {ad : Nat → Nat} (hLC : LC p l s m c sc L xs D cA cB cx sr) {H : Heap} {locs : List Loc} (hI : LI D cA cB cx sr s b cvA jlA hbA csA sbA oa a ad H locs) {i : Int} (hi : 0 ≤ i ∧ i + 8 ≤ L) {ls : Array Slot} (hl : lv_has ls 7 [(0, .ref sc), (1, .ref b), (2, .ref a), (3, .ref oa), (4, .int (iI i))]) {cells slots : Nat} (hcs : cells + 6 ≤ 674659 ∧ slots + 200 ≤ 7072127) (kk : ∀ (H1 : Heap) (locs1 : List Loc) (ls1 : Array Slot), LI D cA cB cx sr s b cvA jlA hbA csA sbA oa a ad H1 locs1 → lv_has ls1 7 [(0, .ref sc), (1, .ref b), (2, .ref a), (3, .ref oa), (4, .int (iI i))] → W p l e room_1 s m (#[Value.ref sc] : Array Value) below meth c H1 locs1 (cells + 6) (slots + 200) Q (F0 m 1001 ls1 [])) : W p l e room_1 s m (#[Value.ref sc] : Array Value) below meth c H locs cells slots Q (F0 m 251 ls []) := by
  obtain ⟨hF, ⟨hX, hbl, hL⟩, hK, ⟨hSA, hDs, hTs, hNc⟩, hfl⟩ := id hLC
  obtain ⟨hx, hb, hml, hown, hts, hN⟩ := id hF
  have hscA : ¬ newA s sc := fun h => absurd h (by show ¬ s.heap.size ≤ sc; omega)
  have hA9 : ∀ q, s.heap.size ≤ q → newA s q := fun q h => h
  obtain ⟨vbA, ca, N, z, ml, tx, v0, F, g, CW, Lx, hP, hD, hS, hT, ⟨hv, hca⟩, hC⟩ := hI
  have hU : ∀ U : State, U.heap = H → s.WarmedH U.vm → UA D cA cB cx sr b cvA jlA hbA csA sbA vbA ca N z ml tx CW U := LU hLC hP hS
  have hKm : va_K D CL (MTy cx) s := va_K.sub hK [2, 3, 4, 5] rfl
  obtain ⟨kc, v1, x, rk, rx, ⟨fr, lo, mc, ms, Xs, ⟨b1, b2, b3, b4⟩, hW, hbm, hXs⟩, ⟨fr2, lo2, ⟨b5, b6⟩, hM⟩, heq⟩ := sem_date (oa := oa) (v0 := v0) (a := a) (ad := ad) (F := F) (Lx := Lx) hfl hU hv hca hC (sxI xs (i + 1)) (sxI xs (i + 2)) (sxI xs (i + 3)) (sxI_rng _ _) (sxI_rng _ _) (sxI_rng _ _)
  refine lv_aload_n hx hb d_L_251 rfl (lv_at hl 1 rfl) ?_
  refine lv_aload_n hx hb d_L_252 rfl (lv_at hl 0 rfl) ?_
  refine lv_iload hx hb d_L_253 (lv_at hl 4 rfl) ?_
  refine ai_iconst hx hb d_L_255 ?_
  refine ai_iadd hx hb d_L_256 ?_
  refine la_ld hx hb hX hbl hscA hS (by omega) hL d_L_257 ?_
  refine lv_aload_n hx hb d_L_258 rfl (lv_at hl 0 rfl) ?_
  refine lv_iload hx hb d_L_259 (lv_at hl 4 rfl) ?_
  refine ai_iconst hx hb d_L_261 ?_
  refine ai_iadd hx hb d_L_262 ?_
  refine la_ld hx hb hX hbl hscA hS (by omega) hL d_L_263 ?_
  refine lv_aload_n hx hb d_L_264 rfl (lv_at hl 0 rfl) ?_
  refine lv_iload hx hb d_L_265 (lv_at hl 4 rfl) ?_
  refine ai_iconst hx hb d_L_267 ?_
  refine ai_iadd hx hb d_L_268 ?_
  refine la_ld hx hb hX hbl hscA hS (by omega) hL d_L_269 ?_
  refine lv_aload_n hx hb d_L_270 rfl (lv_at hl 3 rfl) ?_
  refine gl_i (x := fun (_ : Unit) => kc) (win := [(oa, .inl (cx 1, 1, .inr (.inl (fun j => iL (v0 j)))))]) (wr := ((MWs a ad cx F g ++ CW) ++ BkWs b cvA jlA hbA csA sbA vbA cA cB ca N z ml tx)) (gr_SW (rest := []) hW j_W_date k_488 hF (gm_pS hN (va_K.sub hK [3] rfl) hP.right.left hD.right.left hbm hXs) rfl rfl rfl hl.1 rfl ⟨by show fr + 1 ≤ 14; omega, by show 8 + (6 + 11) + lo ≤ 644; omega⟩ (Nat.le_of_ble_eq_true rfl) d_L_271 ⟨by show cells + mc ≤ 674659; omega, by show slots + ms ≤ 7072127; omega⟩) hP.sw hD.sw hS hA9 (fun _ H locs _ hP hD hS => ?_)
  refine W.widen (k := cells + 6) (n := slots + 200) (by omega) (by omega) ?_
  refine lv_istore (lv' := [(5, .int (iI kc)), (0, .ref sc), (1, .ref b), (2, .ref a), (3, .ref oa), (4, .int (iI i))]) hx hb d_L_274 hl (by decide) rfl (fun ls hl => ?_)
  refine lv_aload_n hx hb d_L_276 rfl (lv_at hl 3 rfl) ?_
  refine lv_aload_n hx hb d_L_277 rfl (lv_at hl 1 rfl) ?_
  refine lv_iload hx hb d_L_278 (lv_at hl 5 rfl) ?_
  refine ai_iconst hx hb d_L_280 ?_
  refine ai_iadd hx hb d_L_281 ?_
  refine la_ld hx hb hX hbl hscA hS (by omega) hL d_L_282 ?_
  refine lv_aload_n hx hb d_L_283 rfl (lv_at hl 1 rfl) ?_
  refine lv_iload hx hb d_L_284 (lv_at hl 5 rfl) ?_
  refine ai_iconst hx hb d_L_286 ?_
  refine ai_iadd hx hb d_L_287 ?_
  refine la_ld hx hb hX hbl hscA hS (by omega) hL d_L_288 ?_
  refine lv_aload_n hx hb d_L_289 rfl (lv_at hl 1 rfl) ?_
  refine lv_iload hx hb d_L_290 (lv_at hl 5 rfl) ?_
  refine ai_iconst hx hb d_L_292 ?_
  refine ai_iadd hx hb d_L_293 ?_
  refine la_ld hx hb hX hbl hscA hS (by omega) hL d_L_294 ?_
  refine ml_i (rest := []) (wr := ((CW ++ BkWs b cvA jlA hbA csA sbA vbA cA cB ca N z ml tx) ++ [(oa, .inl (cx 1, 1, .inr (.inl (fun j => iL (v1 j)))))])) hM j_M_date k_1017 s_M_date hF hKm hP.sw hD.sw hS rfl hl.1 rfl ⟨by show fr2 + 1 ≤ 14; omega, by show 8 + (4 + 11) + lo2 ≤ 644; omega⟩ (Nat.le_of_ble_eq_true rfl) d_L_295 ⟨hcs.1, hcs.2⟩ (fun u9 H locs hΦ hP hD hS => ?_)
  obtain ⟨F1, g1⟩ := u9
  obtain ⟨hg1, hk1, h81, hc1⟩ := hΦ
  dsimp only at hg1 hk1 h81 hc1 hP hD
  rw [hg1] at hP hD
  refine lv_istore (lv' := [(6, .int (iI x)), (5, .int (iI kc)), (0, .ref sc), (1, .ref b), (2, .ref a), (3, .ref oa), (4, .int (iI i))]) hx hb d_L_298 hl (by decide) rfl (fun ls hl => ?_)
  refine lv_aload_n hx hb d_L_300 rfl (lv_at hl 4 rfl) ?_
  refine ro_V (C := "DayBookModel") (rest := []) (ct_M_thrown l D a ad cx F1 g) j_M_thrown k_1007 (hts _ s_M_thrown) hF (va_recv (q0 := 0) (ci := 10) hKm hP rfl rfl) rfl hl.1 rfl ⟨Nat.le_of_ble_eq_true rfl, Nat.le_of_ble_eq_true rfl⟩ (Nat.le_of_ble_eq_true rfl) d_L_301 ⟨hcs.1, hcs.2⟩ MdB.m (fun U h1 h2 => ⟨va_K.moved h2.alike hKm, by rw [h1]; exact hP.left⟩) ?_
  refine ai_toI hx hb (b := kc) hk1 ?_
  obtain ⟨hP, hD⟩ := LB (B := BkWs b cvA jlA hbA csA sbA vbA cA cB ca N z ml tx) (O := [(oa, .inl (cx 1, 1, .inr (.inl (fun j => iL (v1 j)))))]) (M := MWs a ad cx F1 g) (C := CW) hP hD
  refine lv_iload hx hb d_L_304 (lv_at hl 1 rfl) ?_
  refine ai_icmp_eq hx hb d_L_306 rfl (by omega) (by omega) (fun h306 => ?_) (fun h306 => by exfalso; omega)
  refine lv_iload hx hb d_L_311 (lv_at hl 1 rfl) ?_
  refine ai_if_ne hx hb d_L_313 rfl (by omega) (fun h313 => ?_) (fun h313 => ?_)
  · skip
    refine lv_goto hx hb d_L_328 rfl ?_
    exact kk _ _ _ ⟨vbA, ca, N, z, ml, tx, v1, F1, g, CW, Lx, hP, hD, hS, ⟨hT.1, hT.2.1.of8 h81, hT.2.2⟩, ⟨hv, hc1⟩, hC⟩ (lv_sub hl [2, 3, 4, 5, 6] rfl)
  · skip
    refine lv_aload_n hx hb d_L_316 rfl (lv_at hl 5 rfl) ?_
    refine ai_iconst hx hb d_L_317 ?_
    refine ma_lld hx hb hK hP 4 3 rfl rfl (h := v1) (by decide) (by decide) d_L_318 ?_
    refine ai_toL hx hb (b := x) (heq (by omega)) ?_
    refine lv_iload hx hb d_L_319 (lv_at hl 0 rfl) ?_
    refine ai_i2l hx hb d_L_321 (by omega) ?_
    refine ai_lcmp_eq hx hb d_L_322 d_L_323 rfl (by omega) (by omega) (fun h322 => ?_) (fun h322 => by exfalso; omega)
    refine lv_goto hx hb d_L_328 rfl ?_
    exact kk _ _ _ ⟨vbA, ca, N, z, ml, tx, v1, F1, g, CW, Lx, hP, hD, hS, ⟨hT.1, hT.2.1.of8 h81, hT.2.2⟩, ⟨hv, hc1⟩, hC⟩ (lv_sub hl [2, 3, 4, 5, 6] rfl)
set_option maxHeartbeats 4000000 in
set_option maxRecDepth 100000 in
theorem lop_fixed {p : Program} {l : Launch} {e : Env} {s : State} {m : MethodId} {below : List Frame} {meth : Method} {c : Code} {Q : State → Prop} {sc L : Nat} {xs : Nat → Int32} {D : va_G} {cA cB : ClassId} {cx : Nat → ClassId} {sr : Nat → Nat} {b cvA jlA hbA csA sbA oa a : Nat} {ad : Nat → Nat} (hLC : LC p l s m c sc L xs D cA cB cx sr) {H : Heap} {locs : List Loc} (hI : LI D cA cB cx sr s b cvA jlA hbA csA sbA oa a ad H locs) {i : Int} (hi : 0 ≤ i ∧ i + 8 ≤ L) {ls : Array Slot} (hl : lv_has ls 7 [(0, .ref sc), (1, .ref b), (2, .ref a), (3, .ref oa), (4, .int (iI i))]) {cells slots : Nat} (hcs : cells + 6 ≤ 674659 ∧ slots + 200 ≤ 7072127) (kk : ∀ (H1 : Heap) (locs1 : List Loc) (ls1 : Array Slot), LI D cA cB cx sr s b cvA jlA hbA csA sbA oa a ad H1 locs1 → lv_has ls1 7 [(0, .ref sc), (1, .ref b), (2, .ref a), (3, .ref oa), (4, .int (iI i))] → W p l e room_1 s m (#[Value.ref sc] : Array Value) below meth c H1 locs1 (cells + 6) (slots + 200) Q (F0 m 1001 ls1 [])) : W p l e room_1 s m (#[Value.ref sc] : Array Value) below meth c H locs cells slots Q (F0 m 331 ls []) := by
  obtain ⟨hF, ⟨hX, hbl, hL⟩, hK, ⟨hSA, hDs, hTs, hNc⟩, hfl⟩ := id hLC
  obtain ⟨hx, hb, hml, hown, hts, hN⟩ := id hF
  have hscA : ¬ newA s sc := fun h => absurd h (by show ¬ s.heap.size ≤ sc; omega)
  have hA9 : ∀ q, s.heap.size ≤ q → newA s q := fun q h => h
  obtain ⟨vbA, ca, N, z, ml, tx, v0, F, g, CW, Lx, hP, hD, hS, hT, ⟨hv, hca⟩, hC⟩ := hI
  have hU : ∀ U : State, U.heap = H → s.WarmedH U.vm → UA D cA cB cx sr b cvA jlA hbA csA sbA vbA ca N z ml tx CW U := LU hLC hP hS
  have hKm : va_K D CL (MTy cx) s := va_K.sub hK [2, 3, 4, 5] rfl
  obtain ⟨kc, v1, x, rk, rx, ⟨fr, lo, mc, ms, Xs, ⟨b1, b2, b3, b4⟩, hW, hbm, hXs⟩, ⟨fr2, lo2, ⟨b5, b6⟩, hM⟩, heq⟩ := sem_fixed (oa := oa) (v0 := v0) (a := a) (ad := ad) (F := F) (Lx := Lx) hfl hU hv hca hC (sxI xs (i + 1)) (sxI xs (i + 2)) (sxI xs (i + 3)) (sxI xs (i + 4)) (sxI_rng _ _) (sxI_rng _ _) (sxI_rng _ _) (sxI_rng _ _)
  refine lv_aload_n hx hb d_L_331 rfl (lv_at hl 1 rfl) ?_
  refine lv_aload_n hx hb d_L_332 rfl (lv_at hl 0 rfl) ?_
  refine lv_iload hx hb d_L_333 (lv_at hl 4 rfl) ?_
  refine ai_iconst hx hb d_L_335 ?_
  refine ai_iadd hx hb d_L_336 ?_
  refine la_ld hx hb hX hbl hscA hS (by omega) hL d_L_337 ?_
  refine lv_aload_n hx hb d_L_338 rfl (lv_at hl 0 rfl) ?_
  refine lv_iload hx hb d_L_339 (lv_at hl 4 rfl) ?_
  refine ai_iconst hx hb d_L_341 ?_
  refine ai_iadd hx hb d_L_342 ?_
  refine la_ld hx hb hX hbl hscA hS (by omega) hL d_L_343 ?_
  refine lv_aload_n hx hb d_L_344 rfl (lv_at hl 0 rfl) ?_
  refine lv_iload hx hb d_L_345 (lv_at hl 4 rfl) ?_
  refine ai_iconst hx hb d_L_347 ?_
  refine ai_iadd hx hb d_L_348 ?_
  refine la_ld hx hb hX hbl hscA hS (by omega) hL d_L_349 ?_
  refine lv_aload_n hx hb d_L_350 rfl (lv_at hl 0 rfl) ?_
  refine lv_iload hx hb d_L_351 (lv_at hl 4 rfl) ?_
  refine ai_iconst hx hb d_L_353 ?_
  refine ai_iadd hx hb d_L_354 ?_
  refine la_ld hx hb hX hbl hscA hS (by omega) hL d_L_355 ?_
  refine lv_aload_n hx hb d_L_356 rfl (lv_at hl 3 rfl) ?_
  refine gl_i (x := fun (_ : Unit) => kc) (win := [(oa, .inl (cx 1, 1, .inr (.inl (fun j => iL (v0 j)))))]) (wr := ((MWs a ad cx F g ++ CW) ++ BkWs b cvA jlA hbA csA sbA vbA cA cB ca N z ml tx)) (gr_SW (rest := []) hW j_W_fixed k_693 hF (gm_pS hN (va_K.sub hK [3] rfl) hP.right.left hD.right.left hbm hXs) rfl rfl rfl hl.1 rfl ⟨by show fr + 1 ≤ 14; omega, by show 8 + (7 + 11) + lo ≤ 644; omega⟩ (Nat.le_of_ble_eq_true rfl) d_L_357 ⟨by show cells + mc ≤ 674659; omega, by show slots + ms ≤ 7072127; omega⟩) hP.sw hD.sw hS hA9 (fun _ H locs _ hP hD hS => ?_)
  refine W.widen (k := cells + 6) (n := slots + 200) (by omega) (by omega) ?_
  refine lv_istore (lv' := [(5, .int (iI kc)), (0, .ref sc), (1, .ref b), (2, .ref a), (3, .ref oa), (4, .int (iI i))]) hx hb d_L_360 hl (by decide) rfl (fun ls hl => ?_)
  refine lv_aload_n hx hb d_L_362 rfl (lv_at hl 3 rfl) ?_
  refine lv_aload_n hx hb d_L_363 rfl (lv_at hl 1 rfl) ?_
  refine lv_iload hx hb d_L_364 (lv_at hl 5 rfl) ?_
  refine ai_iconst hx hb d_L_366 ?_
  refine ai_iadd hx hb d_L_367 ?_
  refine la_ld hx hb hX hbl hscA hS (by omega) hL d_L_368 ?_
  refine lv_aload_n hx hb d_L_369 rfl (lv_at hl 1 rfl) ?_
  refine lv_iload hx hb d_L_370 (lv_at hl 5 rfl) ?_
  refine ai_iconst hx hb d_L_372 ?_
  refine ai_iadd hx hb d_L_373 ?_
  refine la_ld hx hb hX hbl hscA hS (by omega) hL d_L_374 ?_
  refine lv_aload_n hx hb d_L_375 rfl (lv_at hl 1 rfl) ?_
  refine lv_iload hx hb d_L_376 (lv_at hl 5 rfl) ?_
  refine ai_iconst hx hb d_L_378 ?_
  refine ai_iadd hx hb d_L_379 ?_
  refine la_ld hx hb hX hbl hscA hS (by omega) hL d_L_380 ?_
  refine lv_aload_n hx hb d_L_381 rfl (lv_at hl 1 rfl) ?_
  refine lv_iload hx hb d_L_382 (lv_at hl 5 rfl) ?_
  refine ai_iconst hx hb d_L_384 ?_
  refine ai_iadd hx hb d_L_385 ?_
  refine la_ld hx hb hX hbl hscA hS (by omega) hL d_L_386 ?_
  refine ml_i (rest := []) (wr := ((CW ++ BkWs b cvA jlA hbA csA sbA vbA cA cB ca N z ml tx) ++ [(oa, .inl (cx 1, 1, .inr (.inl (fun j => iL (v1 j)))))])) hM j_M_fixed k_1121 s_M_fixed hF hKm hP.sw hD.sw hS rfl hl.1 rfl ⟨by show fr2 + 1 ≤ 14; omega, by show 8 + (7 + 11) + lo2 ≤ 644; omega⟩ (Nat.le_of_ble_eq_true rfl) d_L_387 ⟨hcs.1, hcs.2⟩ (fun u9 H locs hΦ hP hD hS => ?_)
  obtain ⟨F1, g1⟩ := u9
  obtain ⟨hg1, hk1, h81, hc1⟩ := hΦ
  dsimp only at hg1 hk1 h81 hc1 hP hD
  rw [hg1] at hP hD
  refine lv_istore (lv' := [(6, .int (iI x)), (5, .int (iI kc)), (0, .ref sc), (1, .ref b), (2, .ref a), (3, .ref oa), (4, .int (iI i))]) hx hb d_L_390 hl (by decide) rfl (fun ls hl => ?_)
  refine lv_aload_n hx hb d_L_392 rfl (lv_at hl 4 rfl) ?_
  refine ro_V (C := "DayBookModel") (rest := []) (ct_M_thrown l D a ad cx F1 g) j_M_thrown k_1007 (hts _ s_M_thrown) hF (va_recv (q0 := 0) (ci := 10) hKm hP rfl rfl) rfl hl.1 rfl ⟨Nat.le_of_ble_eq_true rfl, Nat.le_of_ble_eq_true rfl⟩ (Nat.le_of_ble_eq_true rfl) d_L_393 ⟨hcs.1, hcs.2⟩ MdB.m (fun U h1 h2 => ⟨va_K.moved h2.alike hKm, by rw [h1]; exact hP.left⟩) ?_
  refine ai_toI hx hb (b := kc) hk1 ?_
  obtain ⟨hP, hD⟩ := LB (B := BkWs b cvA jlA hbA csA sbA vbA cA cB ca N z ml tx) (O := [(oa, .inl (cx 1, 1, .inr (.inl (fun j => iL (v1 j)))))]) (M := MWs a ad cx F1 g) (C := CW) hP hD
  refine lv_iload hx hb d_L_396 (lv_at hl 1 rfl) ?_
  refine ai_icmp_eq hx hb d_L_398 rfl (by omega) (by omega) (fun h398 => ?_) (fun h398 => by exfalso; omega)
  refine lv_iload hx hb d_L_403 (lv_at hl 1 rfl) ?_
  refine ai_if_ne hx hb d_L_405 rfl (by omega) (fun h405 => ?_) (fun h405 => ?_)
  · skip
    refine lv_goto hx hb d_L_420 rfl ?_
    exact kk _ _ _ ⟨vbA, ca, N, z, ml, tx, v1, F1, g, CW, Lx, hP, hD, hS, ⟨hT.1, hT.2.1.of8 h81, hT.2.2⟩, ⟨hv, hc1⟩, hC⟩ (lv_sub hl [2, 3, 4, 5, 6] rfl)
  · skip
    refine lv_aload_n hx hb d_L_408 rfl (lv_at hl 5 rfl) ?_
    refine ai_iconst hx hb d_L_409 ?_
    refine ma_lld hx hb hK hP 4 3 rfl rfl (h := v1) (by decide) (by decide) d_L_410 ?_
    refine ai_toL hx hb (b := x) (heq (by omega)) ?_
    refine lv_iload hx hb d_L_411 (lv_at hl 0 rfl) ?_
    refine ai_i2l hx hb d_L_413 (by omega) ?_
    refine ai_lcmp_eq hx hb d_L_414 d_L_415 rfl (by omega) (by omega) (fun h414 => ?_) (fun h414 => by exfalso; omega)
    refine lv_goto hx hb d_L_420 rfl ?_
    exact kk _ _ _ ⟨vbA, ca, N, z, ml, tx, v1, F1, g, CW, Lx, hP, hD, hS, ⟨hT.1, hT.2.1.of8 h81, hT.2.2⟩, ⟨hv, hc1⟩, hC⟩ (lv_sub hl [2, 3, 4, 5, 6] rfl)
set_option maxHeartbeats 4000000 in
set_option maxRecDepth 100000 in
theorem lop_leap {p : Program} {l : Launch} {e : Env} {s : State} {m : MethodId} {below : List Frame} {meth : Method} {c : Code} {Q : State → Prop} {sc L : Nat} {xs : Nat → Int32} {D : va_G} {cA cB : ClassId} {cx : Nat → ClassId} {sr : Nat → Nat} {b cvA jlA hbA csA sbA oa a : Nat} {ad : Nat → Nat} (hLC : LC p l s m c sc L xs D cA cB cx sr) {H : Heap} {locs : List Loc} (hI : LI D cA cB cx sr s b cvA jlA hbA csA sbA oa a ad H locs) {i : Int} (hi : 0 ≤ i ∧ i + 8 ≤ L) {ls : Array Slot} (hl : lv_has ls 7 [(0, .ref sc), (1, .ref b), (2, .ref a), (3, .ref oa), (4, .int (iI i))]) {cells slots : Nat} (hcs : cells + 6 ≤ 674659 ∧ slots + 200 ≤ 7072127) (kk : ∀ (H1 : Heap) (locs1 : List Loc) (ls1 : Array Slot), LI D cA cB cx sr s b cvA jlA hbA csA sbA oa a ad H1 locs1 → lv_has ls1 7 [(0, .ref sc), (1, .ref b), (2, .ref a), (3, .ref oa), (4, .int (iI i))] → W p l e room_1 s m (#[Value.ref sc] : Array Value) below meth c H1 locs1 (cells + 6) (slots + 200) Q (F0 m 1001 ls1 [])) : W p l e room_1 s m (#[Value.ref sc] : Array Value) below meth c H locs cells slots Q (F0 m 423 ls []) := by
  obtain ⟨hF, ⟨hX, hbl, hL⟩, hK, ⟨hSA, hDs, hTs, hNc⟩, hfl⟩ := id hLC
  obtain ⟨hx, hb, hml, hown, hts, hN⟩ := id hF
  have hscA : ¬ newA s sc := fun h => absurd h (by show ¬ s.heap.size ≤ sc; omega)
  have hA9 : ∀ q, s.heap.size ≤ q → newA s q := fun q h => h
  obtain ⟨vbA, ca, N, z, ml, tx, v0, F, g, CW, Lx, hP, hD, hS, hT, ⟨hv, hca⟩, hC⟩ := hI
  have hU : ∀ U : State, U.heap = H → s.WarmedH U.vm → UA D cA cB cx sr b cvA jlA hbA csA sbA vbA ca N z ml tx CW U := LU hLC hP hS
  have hKm : va_K D CL (MTy cx) s := va_K.sub hK [2, 3, 4, 5] rfl
  obtain ⟨kc, v1, x, rk, rx, ⟨fr, lo, mc, ms, Xs, ⟨b1, b2, b3, b4⟩, hW, hbm, hXs⟩, ⟨fr2, lo2, ⟨b5, b6⟩, hM⟩, heq, hx01⟩ := sem_leap (oa := oa) (v0 := v0) (a := a) (ad := ad) (F := F) (Lx := Lx) hfl hU hv hca hC (sxI xs (i + 1)) (sxI xs (i + 2)) (sxI_rng _ _) (sxI_rng _ _)
  refine lv_aload_n hx hb d_L_423 rfl (lv_at hl 1 rfl) ?_
  refine lv_aload_n hx hb d_L_424 rfl (lv_at hl 0 rfl) ?_
  refine lv_iload hx hb d_L_425 (lv_at hl 4 rfl) ?_
  refine ai_iconst hx hb d_L_427 ?_
  refine ai_iadd hx hb d_L_428 ?_
  refine la_ld hx hb hX hbl hscA hS (by omega) hL d_L_429 ?_
  refine lv_aload_n hx hb d_L_430 rfl (lv_at hl 0 rfl) ?_
  refine lv_iload hx hb d_L_431 (lv_at hl 4 rfl) ?_
  refine ai_iconst hx hb d_L_433 ?_
  refine ai_iadd hx hb d_L_434 ?_
  refine la_ld hx hb hX hbl hscA hS (by omega) hL d_L_435 ?_
  refine lv_aload_n hx hb d_L_436 rfl (lv_at hl 3 rfl) ?_
  refine gl_i (x := fun (_ : Unit) => kc) (win := [(oa, .inl (cx 1, 1, .inr (.inl (fun j => iL (v0 j)))))]) (wr := ((MWs a ad cx F g ++ CW) ++ BkWs b cvA jlA hbA csA sbA vbA cA cB ca N z ml tx)) (gr_SW (rest := []) hW j_W_leap k_742 hF (gm_pS hN (va_K.sub hK [3] rfl) hP.right.left hD.right.left hbm hXs) rfl rfl rfl hl.1 rfl ⟨by show fr + 1 ≤ 14; omega, by show 8 + (5 + 11) + lo ≤ 644; omega⟩ (Nat.le_of_ble_eq_true rfl) d_L_437 ⟨by show cells + mc ≤ 674659; omega, by show slots + ms ≤ 7072127; omega⟩) hP.sw hD.sw hS hA9 (fun _ H locs _ hP hD hS => ?_)
  refine W.widen (k := cells + 6) (n := slots + 200) (by omega) (by omega) ?_
  refine lv_istore (lv' := [(5, .int (iI kc)), (0, .ref sc), (1, .ref b), (2, .ref a), (3, .ref oa), (4, .int (iI i))]) hx hb d_L_440 hl (by decide) rfl (fun ls hl => ?_)
  refine lv_aload_n hx hb d_L_442 rfl (lv_at hl 3 rfl) ?_
  refine lv_aload_n hx hb d_L_443 rfl (lv_at hl 1 rfl) ?_
  refine lv_iload hx hb d_L_444 (lv_at hl 5 rfl) ?_
  refine ai_iconst hx hb d_L_446 ?_
  refine ai_iadd hx hb d_L_447 ?_
  refine la_ld hx hb hX hbl hscA hS (by omega) hL d_L_448 ?_
  refine lv_aload_n hx hb d_L_449 rfl (lv_at hl 1 rfl) ?_
  refine lv_iload hx hb d_L_450 (lv_at hl 5 rfl) ?_
  refine ai_iconst hx hb d_L_452 ?_
  refine ai_iadd hx hb d_L_453 ?_
  refine la_ld hx hb hX hbl hscA hS (by omega) hL d_L_454 ?_
  refine ml_i (rest := []) (wr := ((CW ++ BkWs b cvA jlA hbA csA sbA vbA cA cB ca N z ml tx) ++ [(oa, .inl (cx 1, 1, .inr (.inl (fun j => iL (v1 j)))))])) hM j_M_leap k_1151 s_M_leap hF hKm hP.sw hD.sw hS rfl hl.1 rfl ⟨by show fr2 + 1 ≤ 14; omega, by show 8 + (3 + 11) + lo2 ≤ 644; omega⟩ (Nat.le_of_ble_eq_true rfl) d_L_455 ⟨hcs.1, hcs.2⟩ (fun u9 H locs hΦ hP hD hS => ?_)
  obtain ⟨F1, g1⟩ := u9
  obtain ⟨hg1, hk1, h81, hc1⟩ := hΦ
  dsimp only at hg1 hk1 h81 hc1 hP hD
  rw [hg1] at hP hD
  refine lv_istore (lv' := [(6, .int (iI x)), (5, .int (iI kc)), (0, .ref sc), (1, .ref b), (2, .ref a), (3, .ref oa), (4, .int (iI i))]) hx hb d_L_458 hl (by decide) rfl (fun ls hl => ?_)
  refine lv_aload_n hx hb d_L_460 rfl (lv_at hl 4 rfl) ?_
  refine ro_V (C := "DayBookModel") (rest := []) (ct_M_thrown l D a ad cx F1 g) j_M_thrown k_1007 (hts _ s_M_thrown) hF (va_recv (q0 := 0) (ci := 10) hKm hP rfl rfl) rfl hl.1 rfl ⟨Nat.le_of_ble_eq_true rfl, Nat.le_of_ble_eq_true rfl⟩ (Nat.le_of_ble_eq_true rfl) d_L_461 ⟨hcs.1, hcs.2⟩ MdB.m (fun U h1 h2 => ⟨va_K.moved h2.alike hKm, by rw [h1]; exact hP.left⟩) ?_
  refine ai_toI hx hb (b := kc) hk1 ?_
  obtain ⟨hP, hD⟩ := LB (B := BkWs b cvA jlA hbA csA sbA vbA cA cB ca N z ml tx) (O := [(oa, .inl (cx 1, 1, .inr (.inl (fun j => iL (v1 j)))))]) (M := MWs a ad cx F1 g) (C := CW) hP hD
  refine lv_iload hx hb d_L_464 (lv_at hl 1 rfl) ?_
  refine ai_icmp_eq hx hb d_L_466 rfl (by omega) (by omega) (fun h466 => ?_) (fun h466 => by exfalso; omega)
  refine lv_iload hx hb d_L_471 (lv_at hl 1 rfl) ?_
  refine ai_if_ne hx hb d_L_473 rfl (by omega) (fun h473 => ?_) (fun h473 => ?_)
  · skip
    refine lv_goto hx hb d_L_495 rfl ?_
    exact kk _ _ _ ⟨vbA, ca, N, z, ml, tx, v1, F1, g, CW, Lx, hP, hD, hS, ⟨hT.1, hT.2.1.of8 h81, hT.2.2⟩, ⟨hv, hc1⟩, hC⟩ (lv_sub hl [2, 3, 4, 5, 6] rfl)
  · skip
    refine lv_aload_n hx hb d_L_476 rfl (lv_at hl 5 rfl) ?_
    refine ai_iconst hx hb d_L_477 ?_
    refine ma_lld hx hb hK hP 4 3 rfl rfl (h := v1) (by decide) (by decide) d_L_478 ?_
    refine ai_toL hx hb (b := x) (heq (by omega)) ?_
    refine lv_iload hx hb d_L_479 (lv_at hl 0 rfl) ?_
    refine ai_if_eq hx hb d_L_481 rfl (by omega) (fun h481 => ?_) (fun h481 => ?_)
    · skip
      refine ai_lconst (x := 0) hx hb d_L_488 (by decide +kernel) ?_
      refine ai_lcmp_eq hx hb d_L_489 d_L_490 rfl (by omega) (by omega) (fun h489 => ?_) (fun h489 => by exfalso; omega)
      refine lv_goto hx hb d_L_495 rfl ?_
      exact kk _ _ _ ⟨vbA, ca, N, z, ml, tx, v1, F1, g, CW, Lx, hP, hD, hS, ⟨hT.1, hT.2.1.of8 h81, hT.2.2⟩, ⟨hv, hc1⟩, hC⟩ (lv_sub hl [2, 3, 4, 5, 6] rfl)
    · skip
      refine ai_lconst (x := 1) hx hb d_L_484 (by decide +kernel) ?_
      refine lv_goto hx hb d_L_485 rfl ?_
      refine ai_lcmp_eq hx hb d_L_489 d_L_490 rfl (by omega) (by omega) (fun h489 => ?_) (fun h489 => by exfalso; omega)
      refine lv_goto hx hb d_L_495 rfl ?_
      exact kk _ _ _ ⟨vbA, ca, N, z, ml, tx, v1, F1, g, CW, Lx, hP, hD, hS, ⟨hT.1, hT.2.1.of8 h81, hT.2.2⟩, ⟨hv, hc1⟩, hC⟩ (lv_sub hl [2, 3, 4, 5, 6] rfl)
set_option maxHeartbeats 4000000 in
set_option maxRecDepth 100000 in
theorem lop_onOrBefore {p : Program} {l : Launch} {e : Env} {s : State} {m : MethodId} {below : List Frame} {meth : Method} {c : Code} {Q : State → Prop} {sc L : Nat} {xs : Nat → Int32} {D : va_G} {cA cB : ClassId} {cx : Nat → ClassId} {sr : Nat → Nat} {b cvA jlA hbA csA sbA oa a : Nat} {ad : Nat → Nat} (hLC : LC p l s m c sc L xs D cA cB cx sr) {H : Heap} {locs : List Loc} (hI : LI D cA cB cx sr s b cvA jlA hbA csA sbA oa a ad H locs) {i : Int} (hi : 0 ≤ i ∧ i + 8 ≤ L) {ls : Array Slot} (hl : lv_has ls 7 [(0, .ref sc), (1, .ref b), (2, .ref a), (3, .ref oa), (4, .int (iI i))]) {cells slots : Nat} (hcs : cells + 6 ≤ 674659 ∧ slots + 200 ≤ 7072127) (kk : ∀ (H1 : Heap) (locs1 : List Loc) (ls1 : Array Slot), LI D cA cB cx sr s b cvA jlA hbA csA sbA oa a ad H1 locs1 → lv_has ls1 7 [(0, .ref sc), (1, .ref b), (2, .ref a), (3, .ref oa), (4, .int (iI i))] → W p l e room_1 s m (#[Value.ref sc] : Array Value) below meth c H1 locs1 (cells + 6) (slots + 200) Q (F0 m 1001 ls1 [])) : W p l e room_1 s m (#[Value.ref sc] : Array Value) below meth c H locs cells slots Q (F0 m 498 ls []) := by
  obtain ⟨hF, ⟨hX, hbl, hL⟩, hK, ⟨hSA, hDs, hTs, hNc⟩, hfl⟩ := id hLC
  obtain ⟨hx, hb, hml, hown, hts, hN⟩ := id hF
  have hscA : ¬ newA s sc := fun h => absurd h (by show ¬ s.heap.size ≤ sc; omega)
  have hA9 : ∀ q, s.heap.size ≤ q → newA s q := fun q h => h
  obtain ⟨vbA, ca, N, z, ml, tx, v0, F, g, CW, Lx, hP, hD, hS, hT, ⟨hv, hca⟩, hC⟩ := hI
  have hU : ∀ U : State, U.heap = H → s.WarmedH U.vm → UA D cA cB cx sr b cvA jlA hbA csA sbA vbA ca N z ml tx CW U := LU hLC hP hS
  have hKm : va_K D CL (MTy cx) s := va_K.sub hK [2, 3, 4, 5] rfl
  obtain ⟨kc, v1, x, rk, rx, ⟨fr, lo, mc, ms, Xs, ⟨b1, b2, b3, b4⟩, hW, hbm, hXs⟩, ⟨fr2, lo2, ⟨b5, b6⟩, hM⟩, heq⟩ := sem_onOrBefore (oa := oa) (v0 := v0) (a := a) (ad := ad) (F := F) (Lx := Lx) hfl hU hv hca hC (sxI xs (i + 1)) (sxI xs (i + 2)) (sxI_rng _ _) (sxI_rng _ _)
  refine lv_aload_n hx hb d_L_498 rfl (lv_at hl 1 rfl) ?_
  refine lv_aload_n hx hb d_L_499 rfl (lv_at hl 0 rfl) ?_
  refine lv_iload hx hb d_L_500 (lv_at hl 4 rfl) ?_
  refine ai_iconst hx hb d_L_502 ?_
  refine ai_iadd hx hb d_L_503 ?_
  refine la_ld hx hb hX hbl hscA hS (by omega) hL d_L_504 ?_
  refine lv_aload_n hx hb d_L_505 rfl (lv_at hl 0 rfl) ?_
  refine lv_iload hx hb d_L_506 (lv_at hl 4 rfl) ?_
  refine ai_iconst hx hb d_L_508 ?_
  refine ai_iadd hx hb d_L_509 ?_
  refine la_ld hx hb hX hbl hscA hS (by omega) hL d_L_510 ?_
  refine lv_aload_n hx hb d_L_511 rfl (lv_at hl 3 rfl) ?_
  refine gl_i (x := fun (_ : Unit) => kc) (win := [(oa, .inl (cx 1, 1, .inr (.inl (fun j => iL (v0 j)))))]) (wr := ((MWs a ad cx F g ++ CW) ++ BkWs b cvA jlA hbA csA sbA vbA cA cB ca N z ml tx)) (gr_SW (rest := []) hW j_W_onOrBefore k_797 hF (gm_pS hN (va_K.sub hK [3] rfl) hP.right.left hD.right.left hbm hXs) rfl rfl rfl hl.1 rfl ⟨by show fr + 1 ≤ 14; omega, by show 8 + (5 + 11) + lo ≤ 644; omega⟩ (Nat.le_of_ble_eq_true rfl) d_L_512 ⟨by show cells + mc ≤ 674659; omega, by show slots + ms ≤ 7072127; omega⟩) hP.sw hD.sw hS hA9 (fun _ H locs _ hP hD hS => ?_)
  refine W.widen (k := cells + 6) (n := slots + 200) (by omega) (by omega) ?_
  refine lv_istore (lv' := [(5, .int (iI kc)), (0, .ref sc), (1, .ref b), (2, .ref a), (3, .ref oa), (4, .int (iI i))]) hx hb d_L_515 hl (by decide) rfl (fun ls hl => ?_)
  refine lv_aload_n hx hb d_L_517 rfl (lv_at hl 3 rfl) ?_
  refine lv_aload_n hx hb d_L_518 rfl (lv_at hl 1 rfl) ?_
  refine lv_iload hx hb d_L_519 (lv_at hl 5 rfl) ?_
  refine ai_iconst hx hb d_L_521 ?_
  refine ai_iadd hx hb d_L_522 ?_
  refine la_ld hx hb hX hbl hscA hS (by omega) hL d_L_523 ?_
  refine lv_aload_n hx hb d_L_524 rfl (lv_at hl 1 rfl) ?_
  refine lv_iload hx hb d_L_525 (lv_at hl 5 rfl) ?_
  refine ai_iconst hx hb d_L_527 ?_
  refine ai_iadd hx hb d_L_528 ?_
  refine la_ld hx hb hX hbl hscA hS (by omega) hL d_L_529 ?_
  refine ml_i (rest := []) (wr := ((CW ++ BkWs b cvA jlA hbA csA sbA vbA cA cB ca N z ml tx) ++ [(oa, .inl (cx 1, 1, .inr (.inl (fun j => iL (v1 j)))))])) hM j_M_onOrBefore k_1155 s_M_onOrBefore hF hKm hP.sw hD.sw hS rfl hl.1 rfl ⟨by show fr2 + 1 ≤ 14; omega, by show 8 + (3 + 11) + lo2 ≤ 644; omega⟩ (Nat.le_of_ble_eq_true rfl) d_L_530 ⟨hcs.1, hcs.2⟩ (fun u9 H locs hΦ hP hD hS => ?_)
  obtain ⟨F1, g1⟩ := u9
  obtain ⟨hg1, hk1, h81, hc1⟩ := hΦ
  dsimp only at hg1 hk1 h81 hc1 hP hD
  rw [hg1] at hP hD
  refine lv_istore (lv' := [(6, .int (iI x)), (5, .int (iI kc)), (0, .ref sc), (1, .ref b), (2, .ref a), (3, .ref oa), (4, .int (iI i))]) hx hb d_L_533 hl (by decide) rfl (fun ls hl => ?_)
  refine lv_aload_n hx hb d_L_535 rfl (lv_at hl 4 rfl) ?_
  refine ro_V (C := "DayBookModel") (rest := []) (ct_M_thrown l D a ad cx F1 g) j_M_thrown k_1007 (hts _ s_M_thrown) hF (va_recv (q0 := 0) (ci := 10) hKm hP rfl rfl) rfl hl.1 rfl ⟨Nat.le_of_ble_eq_true rfl, Nat.le_of_ble_eq_true rfl⟩ (Nat.le_of_ble_eq_true rfl) d_L_536 ⟨hcs.1, hcs.2⟩ MdB.m (fun U h1 h2 => ⟨va_K.moved h2.alike hKm, by rw [h1]; exact hP.left⟩) ?_
  refine ai_toI hx hb (b := kc) hk1 ?_
  obtain ⟨hP, hD⟩ := LB (B := BkWs b cvA jlA hbA csA sbA vbA cA cB ca N z ml tx) (O := [(oa, .inl (cx 1, 1, .inr (.inl (fun j => iL (v1 j)))))]) (M := MWs a ad cx F1 g) (C := CW) hP hD
  refine lv_iload hx hb d_L_539 (lv_at hl 1 rfl) ?_
  refine ai_icmp_eq hx hb d_L_541 rfl (by omega) (by omega) (fun h541 => ?_) (fun h541 => by exfalso; omega)
  refine lv_iload hx hb d_L_546 (lv_at hl 1 rfl) ?_
  refine ai_if_ne hx hb d_L_548 rfl (by omega) (fun h548 => ?_) (fun h548 => ?_)
  · skip
    refine lv_goto hx hb d_L_563 rfl ?_
    exact kk _ _ _ ⟨vbA, ca, N, z, ml, tx, v1, F1, g, CW, Lx, hP, hD, hS, ⟨hT.1, hT.2.1.of8 h81, hT.2.2⟩, ⟨hv, hc1⟩, hC⟩ (lv_sub hl [2, 3, 4, 5, 6] rfl)
  · skip
    refine lv_aload_n hx hb d_L_551 rfl (lv_at hl 5 rfl) ?_
    refine ai_iconst hx hb d_L_552 ?_
    refine ma_lld hx hb hK hP 4 3 rfl rfl (h := v1) (by decide) (by decide) d_L_553 ?_
    refine ai_toL hx hb (b := x) (heq (by omega)) ?_
    refine lv_iload hx hb d_L_554 (lv_at hl 0 rfl) ?_
    refine ai_i2l hx hb d_L_556 (by omega) ?_
    refine ai_lcmp_eq hx hb d_L_557 d_L_558 rfl (by omega) (by omega) (fun h557 => ?_) (fun h557 => by exfalso; omega)
    refine lv_goto hx hb d_L_563 rfl ?_
    exact kk _ _ _ ⟨vbA, ca, N, z, ml, tx, v1, F1, g, CW, Lx, hP, hD, hS, ⟨hT.1, hT.2.1.of8 h81, hT.2.2⟩, ⟨hv, hc1⟩, hC⟩ (lv_sub hl [2, 3, 4, 5, 6] rfl)
set_option maxHeartbeats 4000000 in
set_option maxRecDepth 100000 in
theorem lop_feast {p : Program} {l : Launch} {e : Env} {s : State} {m : MethodId} {below : List Frame} {meth : Method} {c : Code} {Q : State → Prop} {sc L : Nat} {xs : Nat → Int32} {D : va_G} {cA cB : ClassId} {cx : Nat → ClassId} {sr : Nat → Nat} {b cvA jlA hbA csA sbA oa a : Nat} {ad : Nat → Nat} (hLC : LC p l s m c sc L xs D cA cB cx sr) {H : Heap} {locs : List Loc} (hI : LI D cA cB cx sr s b cvA jlA hbA csA sbA oa a ad H locs) {i : Int} (hi : 0 ≤ i ∧ i + 8 ≤ L) {ls : Array Slot} (hl : lv_has ls 7 [(0, .ref sc), (1, .ref b), (2, .ref a), (3, .ref oa), (4, .int (iI i))]) {cells slots : Nat} (hcs : cells + 6 ≤ 674659 ∧ slots + 200 ≤ 7072127) (kk : ∀ (H1 : Heap) (locs1 : List Loc) (ls1 : Array Slot), LI D cA cB cx sr s b cvA jlA hbA csA sbA oa a ad H1 locs1 → lv_has ls1 7 [(0, .ref sc), (1, .ref b), (2, .ref a), (3, .ref oa), (4, .int (iI i))] → W p l e room_1 s m (#[Value.ref sc] : Array Value) below meth c H1 locs1 (cells + 6) (slots + 200) Q (F0 m 1001 ls1 [])) : W p l e room_1 s m (#[Value.ref sc] : Array Value) below meth c H locs cells slots Q (F0 m 640 ls []) := by
  obtain ⟨hF, ⟨hX, hbl, hL⟩, hK, ⟨hSA, hDs, hTs, hNc⟩, hfl⟩ := id hLC
  obtain ⟨hx, hb, hml, hown, hts, hN⟩ := id hF
  have hscA : ¬ newA s sc := fun h => absurd h (by show ¬ s.heap.size ≤ sc; omega)
  have hA9 : ∀ q, s.heap.size ≤ q → newA s q := fun q h => h
  obtain ⟨vbA, ca, N, z, ml, tx, v0, F, g, CW, Lx, hP, hD, hS, hT, ⟨hv, hca⟩, hC⟩ := hI
  have hU : ∀ U : State, U.heap = H → s.WarmedH U.vm → UA D cA cB cx sr b cvA jlA hbA csA sbA vbA ca N z ml tx CW U := LU hLC hP hS
  have hKm : va_K D CL (MTy cx) s := va_K.sub hK [2, 3, 4, 5] rfl
  obtain ⟨kc, v1, x, rk, rx, ⟨fr, lo, mc, ms, Xs, ⟨b1, b2, b3, b4⟩, hW, hbm, hXs⟩, ⟨fr2, lo2, ⟨b5, b6⟩, hM⟩, heq⟩ := sem_feast (oa := oa) (v0 := v0) (a := a) (ad := ad) (F := F) (Lx := Lx) hfl hU hv hca hC (sxI xs (i + 1)) (sxI xs (i + 2)) (sxI_rng _ _) (sxI_rng _ _)
  refine lv_aload_n hx hb d_L_640 rfl (lv_at hl 1 rfl) ?_
  refine lv_aload_n hx hb d_L_641 rfl (lv_at hl 0 rfl) ?_
  refine lv_iload hx hb d_L_642 (lv_at hl 4 rfl) ?_
  refine ai_iconst hx hb d_L_644 ?_
  refine ai_iadd hx hb d_L_645 ?_
  refine la_ld hx hb hX hbl hscA hS (by omega) hL d_L_646 ?_
  refine lv_aload_n hx hb d_L_647 rfl (lv_at hl 0 rfl) ?_
  refine lv_iload hx hb d_L_648 (lv_at hl 4 rfl) ?_
  refine ai_iconst hx hb d_L_650 ?_
  refine ai_iadd hx hb d_L_651 ?_
  refine la_ld hx hb hX hbl hscA hS (by omega) hL d_L_652 ?_
  refine lv_aload_n hx hb d_L_653 rfl (lv_at hl 3 rfl) ?_
  refine gl_i (x := fun (_ : Unit) => kc) (win := [(oa, .inl (cx 1, 1, .inr (.inl (fun j => iL (v0 j)))))]) (wr := ((MWs a ad cx F g ++ CW) ++ BkWs b cvA jlA hbA csA sbA vbA cA cB ca N z ml tx)) (gr_SW (rest := []) hW j_W_feast k_804 hF (gm_pS hN (va_K.sub hK [3] rfl) hP.right.left hD.right.left hbm hXs) rfl rfl rfl hl.1 rfl ⟨by show fr + 1 ≤ 14; omega, by show 8 + (5 + 11) + lo ≤ 644; omega⟩ (Nat.le_of_ble_eq_true rfl) d_L_654 ⟨by show cells + mc ≤ 674659; omega, by show slots + ms ≤ 7072127; omega⟩) hP.sw hD.sw hS hA9 (fun _ H locs _ hP hD hS => ?_)
  refine W.widen (k := cells + 6) (n := slots + 200) (by omega) (by omega) ?_
  refine lv_istore (lv' := [(5, .int (iI kc)), (0, .ref sc), (1, .ref b), (2, .ref a), (3, .ref oa), (4, .int (iI i))]) hx hb d_L_657 hl (by decide) rfl (fun ls hl => ?_)
  refine lv_aload_n hx hb d_L_659 rfl (lv_at hl 3 rfl) ?_
  refine lv_aload_n hx hb d_L_660 rfl (lv_at hl 1 rfl) ?_
  refine lv_iload hx hb d_L_661 (lv_at hl 5 rfl) ?_
  refine ai_iconst hx hb d_L_663 ?_
  refine ai_iadd hx hb d_L_664 ?_
  refine la_ld hx hb hX hbl hscA hS (by omega) hL d_L_665 ?_
  refine lv_aload_n hx hb d_L_666 rfl (lv_at hl 1 rfl) ?_
  refine lv_iload hx hb d_L_667 (lv_at hl 5 rfl) ?_
  refine ai_iconst hx hb d_L_669 ?_
  refine ai_iadd hx hb d_L_670 ?_
  refine la_ld hx hb hX hbl hscA hS (by omega) hL d_L_671 ?_
  refine ml_i (rest := []) (wr := ((CW ++ BkWs b cvA jlA hbA csA sbA vbA cA cB ca N z ml tx) ++ [(oa, .inl (cx 1, 1, .inr (.inl (fun j => iL (v1 j)))))])) hM j_M_feast k_1171 s_M_feast hF hKm hP.sw hD.sw hS rfl hl.1 rfl ⟨by show fr2 + 1 ≤ 14; omega, by show 8 + (9 + 11) + lo2 ≤ 644; omega⟩ (Nat.le_of_ble_eq_true rfl) d_L_672 ⟨hcs.1, hcs.2⟩ (fun u9 H locs hΦ hP hD hS => ?_)
  obtain ⟨F1, g1⟩ := u9
  obtain ⟨hg1, hk1, h81, hc1⟩ := hΦ
  dsimp only at hg1 hk1 h81 hc1 hP hD
  rw [hg1] at hP hD
  refine lv_istore (lv' := [(6, .int (iI x)), (5, .int (iI kc)), (0, .ref sc), (1, .ref b), (2, .ref a), (3, .ref oa), (4, .int (iI i))]) hx hb d_L_675 hl (by decide) rfl (fun ls hl => ?_)
  refine lv_aload_n hx hb d_L_677 rfl (lv_at hl 4 rfl) ?_
  refine ro_V (C := "DayBookModel") (rest := []) (ct_M_thrown l D a ad cx F1 g) j_M_thrown k_1007 (hts _ s_M_thrown) hF (va_recv (q0 := 0) (ci := 10) hKm hP rfl rfl) rfl hl.1 rfl ⟨Nat.le_of_ble_eq_true rfl, Nat.le_of_ble_eq_true rfl⟩ (Nat.le_of_ble_eq_true rfl) d_L_678 ⟨hcs.1, hcs.2⟩ MdB.m (fun U h1 h2 => ⟨va_K.moved h2.alike hKm, by rw [h1]; exact hP.left⟩) ?_
  refine ai_toI hx hb (b := kc) hk1 ?_
  obtain ⟨hP, hD⟩ := LB (B := BkWs b cvA jlA hbA csA sbA vbA cA cB ca N z ml tx) (O := [(oa, .inl (cx 1, 1, .inr (.inl (fun j => iL (v1 j)))))]) (M := MWs a ad cx F1 g) (C := CW) hP hD
  refine lv_iload hx hb d_L_681 (lv_at hl 1 rfl) ?_
  refine ai_icmp_eq hx hb d_L_683 rfl (by omega) (by omega) (fun h683 => ?_) (fun h683 => by exfalso; omega)
  refine lv_iload hx hb d_L_688 (lv_at hl 1 rfl) ?_
  refine ai_if_ne hx hb d_L_690 rfl (by omega) (fun h690 => ?_) (fun h690 => ?_)
  · skip
    refine lv_goto hx hb d_L_705 rfl ?_
    exact kk _ _ _ ⟨vbA, ca, N, z, ml, tx, v1, F1, g, CW, Lx, hP, hD, hS, ⟨hT.1, hT.2.1.of8 h81, hT.2.2⟩, ⟨hv, hc1⟩, hC⟩ (lv_sub hl [2, 3, 4, 5, 6] rfl)
  · skip
    refine lv_aload_n hx hb d_L_693 rfl (lv_at hl 5 rfl) ?_
    refine ai_iconst hx hb d_L_694 ?_
    refine ma_lld hx hb hK hP 4 3 rfl rfl (h := v1) (by decide) (by decide) d_L_695 ?_
    refine ai_toL hx hb (b := x) (heq (by omega)) ?_
    refine lv_iload hx hb d_L_696 (lv_at hl 0 rfl) ?_
    refine ai_i2l hx hb d_L_698 (by omega) ?_
    refine ai_lcmp_eq hx hb d_L_699 d_L_700 rfl (by omega) (by omega) (fun h699 => ?_) (fun h699 => by exfalso; omega)
    refine lv_goto hx hb d_L_705 rfl ?_
    exact kk _ _ _ ⟨vbA, ca, N, z, ml, tx, v1, F1, g, CW, Lx, hP, hD, hS, ⟨hT.1, hT.2.1.of8 h81, hT.2.2⟩, ⟨hv, hc1⟩, hC⟩ (lv_sub hl [2, 3, 4, 5, 6] rfl)
set_option maxHeartbeats 4000000 in
set_option maxRecDepth 100000 in
theorem lop_when {p : Program} {l : Launch} {e : Env} {s : State} {m : MethodId} {below : List Frame} {meth : Method} {c : Code} {Q : State → Prop} {sc L : Nat} {xs : Nat → Int32} {D : va_G} {cA cB : ClassId} {cx : Nat → ClassId} {sr : Nat → Nat} {b cvA jlA hbA csA sbA oa a : Nat} {ad : Nat → Nat} (hLC : LC p l s m c sc L xs D cA cB cx sr) {H : Heap} {locs : List Loc} (hI : LI D cA cB cx sr s b cvA jlA hbA csA sbA oa a ad H locs) {i : Int} (hi : 0 ≤ i ∧ i + 8 ≤ L) {ls : Array Slot} (hl : lv_has ls 7 [(0, .ref sc), (1, .ref b), (2, .ref a), (3, .ref oa), (4, .int (iI i))]) {cells slots : Nat} (hcs : cells + 6 ≤ 674659 ∧ slots + 200 ≤ 7072127) (kk : ∀ (H1 : Heap) (locs1 : List Loc) (ls1 : Array Slot), LI D cA cB cx sr s b cvA jlA hbA csA sbA oa a ad H1 locs1 → lv_has ls1 7 [(0, .ref sc), (1, .ref b), (2, .ref a), (3, .ref oa), (4, .int (iI i))] → W p l e room_1 s m (#[Value.ref sc] : Array Value) below meth c H1 locs1 (cells + 6) (slots + 200) Q (F0 m 1001 ls1 [])) : W p l e room_1 s m (#[Value.ref sc] : Array Value) below meth c H locs cells slots Q (F0 m 708 ls []) := by
  obtain ⟨hF, ⟨hX, hbl, hL⟩, hK, ⟨hSA, hDs, hTs, hNc⟩, hfl⟩ := id hLC
  obtain ⟨hx, hb, hml, hown, hts, hN⟩ := id hF
  have hscA : ¬ newA s sc := fun h => absurd h (by show ¬ s.heap.size ≤ sc; omega)
  have hA9 : ∀ q, s.heap.size ≤ q → newA s q := fun q h => h
  obtain ⟨vbA, ca, N, z, ml, tx, v0, F, g, CW, Lx, hP, hD, hS, hT, ⟨hv, hca⟩, hC⟩ := hI
  have hU : ∀ U : State, U.heap = H → s.WarmedH U.vm → UA D cA cB cx sr b cvA jlA hbA csA sbA vbA ca N z ml tx CW U := LU hLC hP hS
  have hKm : va_K D CL (MTy cx) s := va_K.sub hK [2, 3, 4, 5] rfl
  obtain ⟨kc, v1, x, rk, rx, ⟨fr, lo, mc, ms, Xs, ⟨b1, b2, b3, b4⟩, hW, hbm, hXs⟩, ⟨fr2, lo2, ⟨b5, b6⟩, hM⟩, heq⟩ := sem_when (oa := oa) (v0 := v0) (a := a) (ad := ad) (F := F) (Lx := Lx) hfl hU hv hca hC (sxI xs (i + 1)) (sxI xs (i + 2)) (sxI xs (i + 3)) (sxI xs (i + 4)) (sxI xs (i + 5)) (sxI_rng _ _) (sxI_rng _ _) (sxI_rng _ _) (sxI_rng _ _) (sxI_rng _ _)
  refine lv_aload_n hx hb d_L_708 rfl (lv_at hl 1 rfl) ?_
  refine lv_aload_n hx hb d_L_709 rfl (lv_at hl 0 rfl) ?_
  refine lv_iload hx hb d_L_710 (lv_at hl 4 rfl) ?_
  refine ai_iconst hx hb d_L_712 ?_
  refine ai_iadd hx hb d_L_713 ?_
  refine la_ld hx hb hX hbl hscA hS (by omega) hL d_L_714 ?_
  refine lv_aload_n hx hb d_L_715 rfl (lv_at hl 0 rfl) ?_
  refine lv_iload hx hb d_L_716 (lv_at hl 4 rfl) ?_
  refine ai_iconst hx hb d_L_718 ?_
  refine ai_iadd hx hb d_L_719 ?_
  refine la_ld hx hb hX hbl hscA hS (by omega) hL d_L_720 ?_
  refine lv_aload_n hx hb d_L_721 rfl (lv_at hl 0 rfl) ?_
  refine lv_iload hx hb d_L_722 (lv_at hl 4 rfl) ?_
  refine ai_iconst hx hb d_L_724 ?_
  refine ai_iadd hx hb d_L_725 ?_
  refine la_ld hx hb hX hbl hscA hS (by omega) hL d_L_726 ?_
  refine lv_aload_n hx hb d_L_727 rfl (lv_at hl 0 rfl) ?_
  refine lv_iload hx hb d_L_728 (lv_at hl 4 rfl) ?_
  refine ai_iconst hx hb d_L_730 ?_
  refine ai_iadd hx hb d_L_731 ?_
  refine la_ld hx hb hX hbl hscA hS (by omega) hL d_L_732 ?_
  refine lv_aload_n hx hb d_L_733 rfl (lv_at hl 0 rfl) ?_
  refine lv_iload hx hb d_L_734 (lv_at hl 4 rfl) ?_
  refine ai_iconst hx hb d_L_736 ?_
  refine ai_iadd hx hb d_L_737 ?_
  refine la_ld hx hb hX hbl hscA hS (by omega) hL d_L_738 ?_
  refine lv_aload_n hx hb d_L_739 rfl (lv_at hl 3 rfl) ?_
  refine gl_i (x := fun (_ : Unit) => kc) (win := [(oa, .inl (cx 1, 1, .inr (.inl (fun j => iL (v0 j)))))]) (wr := ((MWs a ad cx F g ++ CW) ++ BkWs b cvA jlA hbA csA sbA vbA cA cB ca N z ml tx)) (gr_SW (rest := []) hW j_W_when k_836 hF (gm_pS hN (va_K.sub hK [3] rfl) hP.right.left hD.right.left hbm hXs) rfl rfl rfl hl.1 rfl ⟨by show fr + 1 ≤ 14; omega, by show 8 + (8 + 11) + lo ≤ 644; omega⟩ (Nat.le_of_ble_eq_true rfl) d_L_740 ⟨by show cells + mc ≤ 674659; omega, by show slots + ms ≤ 7072127; omega⟩) hP.sw hD.sw hS hA9 (fun _ H locs _ hP hD hS => ?_)
  refine W.widen (k := cells + 6) (n := slots + 200) (by omega) (by omega) ?_
  refine lv_istore (lv' := [(5, .int (iI kc)), (0, .ref sc), (1, .ref b), (2, .ref a), (3, .ref oa), (4, .int (iI i))]) hx hb d_L_743 hl (by decide) rfl (fun ls hl => ?_)
  refine lv_aload_n hx hb d_L_745 rfl (lv_at hl 3 rfl) ?_
  refine lv_aload_n hx hb d_L_746 rfl (lv_at hl 1 rfl) ?_
  refine lv_iload hx hb d_L_747 (lv_at hl 5 rfl) ?_
  refine ai_iconst hx hb d_L_749 ?_
  refine ai_iadd hx hb d_L_750 ?_
  refine la_ld hx hb hX hbl hscA hS (by omega) hL d_L_751 ?_
  refine lv_aload_n hx hb d_L_752 rfl (lv_at hl 1 rfl) ?_
  refine lv_iload hx hb d_L_753 (lv_at hl 5 rfl) ?_
  refine ai_iconst hx hb d_L_755 ?_
  refine ai_iadd hx hb d_L_756 ?_
  refine la_ld hx hb hX hbl hscA hS (by omega) hL d_L_757 ?_
  refine lv_aload_n hx hb d_L_758 rfl (lv_at hl 1 rfl) ?_
  refine lv_iload hx hb d_L_759 (lv_at hl 5 rfl) ?_
  refine ai_iconst hx hb d_L_761 ?_
  refine ai_iadd hx hb d_L_762 ?_
  refine la_ld hx hb hX hbl hscA hS (by omega) hL d_L_763 ?_
  refine lv_aload_n hx hb d_L_764 rfl (lv_at hl 1 rfl) ?_
  refine lv_iload hx hb d_L_765 (lv_at hl 5 rfl) ?_
  refine ai_iconst hx hb d_L_767 ?_
  refine ai_iadd hx hb d_L_768 ?_
  refine la_ld hx hb hX hbl hscA hS (by omega) hL d_L_769 ?_
  refine lv_aload_n hx hb d_L_770 rfl (lv_at hl 1 rfl) ?_
  refine lv_iload hx hb d_L_771 (lv_at hl 5 rfl) ?_
  refine ai_iconst hx hb d_L_773 ?_
  refine ai_iadd hx hb d_L_774 ?_
  refine la_ld hx hb hX hbl hscA hS (by omega) hL d_L_775 ?_
  refine ml_i (rest := []) (wr := ((CW ++ BkWs b cvA jlA hbA csA sbA vbA cA cB ca N z ml tx) ++ [(oa, .inl (cx 1, 1, .inr (.inl (fun j => iL (v1 j)))))])) hM j_M_when k_1184 s_M_when hF hKm hP.sw hD.sw hS rfl hl.1 rfl ⟨by show fr2 + 1 ≤ 14; omega, by show 8 + (11 + 11) + lo2 ≤ 644; omega⟩ (Nat.le_of_ble_eq_true rfl) d_L_776 ⟨hcs.1, hcs.2⟩ (fun u9 H locs hΦ hP hD hS => ?_)
  obtain ⟨F1, g1⟩ := u9
  obtain ⟨hg1, hk1, h81, hc1⟩ := hΦ
  dsimp only at hg1 hk1 h81 hc1 hP hD
  rw [hg1] at hP hD
  refine lv_istore (lv' := [(6, .int (iI x)), (5, .int (iI kc)), (0, .ref sc), (1, .ref b), (2, .ref a), (3, .ref oa), (4, .int (iI i))]) hx hb d_L_779 hl (by decide) rfl (fun ls hl => ?_)
  refine lv_aload_n hx hb d_L_781 rfl (lv_at hl 4 rfl) ?_
  refine ro_V (C := "DayBookModel") (rest := []) (ct_M_thrown l D a ad cx F1 g) j_M_thrown k_1007 (hts _ s_M_thrown) hF (va_recv (q0 := 0) (ci := 10) hKm hP rfl rfl) rfl hl.1 rfl ⟨Nat.le_of_ble_eq_true rfl, Nat.le_of_ble_eq_true rfl⟩ (Nat.le_of_ble_eq_true rfl) d_L_782 ⟨hcs.1, hcs.2⟩ MdB.m (fun U h1 h2 => ⟨va_K.moved h2.alike hKm, by rw [h1]; exact hP.left⟩) ?_
  refine ai_toI hx hb (b := kc) hk1 ?_
  obtain ⟨hP, hD⟩ := LB (B := BkWs b cvA jlA hbA csA sbA vbA cA cB ca N z ml tx) (O := [(oa, .inl (cx 1, 1, .inr (.inl (fun j => iL (v1 j)))))]) (M := MWs a ad cx F1 g) (C := CW) hP hD
  refine lv_iload hx hb d_L_785 (lv_at hl 1 rfl) ?_
  refine ai_icmp_eq hx hb d_L_787 rfl (by omega) (by omega) (fun h787 => ?_) (fun h787 => by exfalso; omega)
  refine lv_iload hx hb d_L_792 (lv_at hl 1 rfl) ?_
  refine ai_if_ne hx hb d_L_794 rfl (by omega) (fun h794 => ?_) (fun h794 => ?_)
  · skip
    refine lv_goto hx hb d_L_809 rfl ?_
    exact kk _ _ _ ⟨vbA, ca, N, z, ml, tx, v1, F1, g, CW, Lx, hP, hD, hS, ⟨hT.1, hT.2.1.of8 h81, hT.2.2⟩, ⟨hv, hc1⟩, hC⟩ (lv_sub hl [2, 3, 4, 5, 6] rfl)
  · skip
    refine lv_aload_n hx hb d_L_797 rfl (lv_at hl 5 rfl) ?_
    refine ai_iconst hx hb d_L_798 ?_
    refine ma_lld hx hb hK hP 4 3 rfl rfl (h := v1) (by decide) (by decide) d_L_799 ?_
    refine ai_toL hx hb (b := x) (heq (by omega)) ?_
    refine lv_iload hx hb d_L_800 (lv_at hl 0 rfl) ?_
    refine ai_i2l hx hb d_L_802 (by omega) ?_
    refine ai_lcmp_eq hx hb d_L_803 d_L_804 rfl (by omega) (by omega) (fun h803 => ?_) (fun h803 => by exfalso; omega)
    refine lv_goto hx hb d_L_809 rfl ?_
    exact kk _ _ _ ⟨vbA, ca, N, z, ml, tx, v1, F1, g, CW, Lx, hP, hD, hS, ⟨hT.1, hT.2.1.of8 h81, hT.2.2⟩, ⟨hv, hc1⟩, hC⟩ (lv_sub hl [2, 3, 4, 5, 6] rfl)
set_option maxHeartbeats 4000000 in
set_option maxRecDepth 100000 in
theorem lop_read {p : Program} {l : Launch} {e : Env} {s : State} {m : MethodId} {below : List Frame} {meth : Method} {c : Code} {Q : State → Prop} {sc L : Nat} {xs : Nat → Int32} {D : va_G} {cA cB : ClassId} {cx : Nat → ClassId} {sr : Nat → Nat} {b cvA jlA hbA csA sbA oa a : Nat} {ad : Nat → Nat} (hLC : LC p l s m c sc L xs D cA cB cx sr) {H : Heap} {locs : List Loc} (hI : LI D cA cB cx sr s b cvA jlA hbA csA sbA oa a ad H locs) {i : Int} (hi : 0 ≤ i ∧ i + 8 ≤ L) {ls : Array Slot} (hl : lv_has ls 7 [(0, .ref sc), (1, .ref b), (2, .ref a), (3, .ref oa), (4, .int (iI i))]) {cells slots : Nat} (hcs : cells + 6 ≤ 674659 ∧ slots + 200 ≤ 7072127) (kk : ∀ (H1 : Heap) (locs1 : List Loc) (ls1 : Array Slot), LI D cA cB cx sr s b cvA jlA hbA csA sbA oa a ad H1 locs1 → lv_has ls1 7 [(0, .ref sc), (1, .ref b), (2, .ref a), (3, .ref oa), (4, .int (iI i))] → W p l e room_1 s m (#[Value.ref sc] : Array Value) below meth c H1 locs1 (cells + 6) (slots + 200) Q (F0 m 1001 ls1 [])) : W p l e room_1 s m (#[Value.ref sc] : Array Value) below meth c H locs cells slots Q (F0 m 945 ls []) := by
  obtain ⟨hF, ⟨hX, hbl, hL⟩, hK, ⟨hSA, hDs, hTs, hNc⟩, hfl⟩ := id hLC
  obtain ⟨hx, hb, hml, hown, hts, hN⟩ := id hF
  have hscA : ¬ newA s sc := fun h => absurd h (by show ¬ s.heap.size ≤ sc; omega)
  have hA9 : ∀ q, s.heap.size ≤ q → newA s q := fun q h => h
  obtain ⟨vbA, ca, N, z, ml, tx, v0, F, g, CW, Lx, hP, hD, hS, hT, ⟨hv, hca⟩, hC⟩ := hI
  have hU : ∀ U : State, U.heap = H → s.WarmedH U.vm → UA D cA cB cx sr b cvA jlA hbA csA sbA vbA ca N z ml tx CW U := LU hLC hP hS
  have hKm : va_K D CL (MTy cx) s := va_K.sub hK [2, 3, 4, 5] rfl
  obtain ⟨kc, v1, x, rk, rx, ⟨fr, lo, mc, ms, Xs, ⟨b1, b2, b3, b4⟩, hW, hbm, hXs⟩, ⟨fr2, lo2, ⟨b5, b6⟩, hM⟩, heq⟩ := sem_read (oa := oa) (v0 := v0) (a := a) (ad := ad) (F := F) (Lx := Lx) hfl hU hv hca hC hT (sxI xs (i + 1)) (sxI_rng _ _)
  refine lv_aload_n hx hb d_L_945 rfl (lv_at hl 1 rfl) ?_
  refine lv_aload_n hx hb d_L_946 rfl (lv_at hl 0 rfl) ?_
  refine lv_iload hx hb d_L_947 (lv_at hl 4 rfl) ?_
  refine ai_iconst hx hb d_L_949 ?_
  refine ai_iadd hx hb d_L_950 ?_
  refine la_ld hx hb hX hbl hscA hS (by omega) hL d_L_951 ?_
  refine lv_aload_n hx hb d_L_952 rfl (lv_at hl 3 rfl) ?_
  refine gl_i (x := fun (_ : Unit) => kc) (win := [(oa, .inl (cx 1, 1, .inr (.inl (fun j => iL (v0 j)))))]) (wr := ((MWs a ad cx F g ++ CW) ++ BkWs b cvA jlA hbA csA sbA vbA cA cB ca N z ml tx)) (gr_SW (rest := []) hW j_W_read k_885 hF (gm_pS hN (va_K.sub hK [3] rfl) hP.right.left hD.right.left hbm hXs) rfl rfl rfl hl.1 rfl ⟨by show fr + 1 ≤ 14; omega, by show 8 + (4 + 11) + lo ≤ 644; omega⟩ (Nat.le_of_ble_eq_true rfl) d_L_953 ⟨by show cells + mc ≤ 674659; omega, by show slots + ms ≤ 7072127; omega⟩) hP.sw hD.sw hS hA9 (fun _ H locs _ hP hD hS => ?_)
  refine W.widen (k := cells + 6) (n := slots + 200) (by omega) (by omega) ?_
  refine lv_istore (lv' := [(5, .int (iI kc)), (0, .ref sc), (1, .ref b), (2, .ref a), (3, .ref oa), (4, .int (iI i))]) hx hb d_L_956 hl (by decide) rfl (fun ls hl => ?_)
  refine lv_aload_n hx hb d_L_958 rfl (lv_at hl 3 rfl) ?_
  refine lv_aload_n hx hb d_L_959 rfl (lv_at hl 1 rfl) ?_
  refine lv_iload hx hb d_L_960 (lv_at hl 5 rfl) ?_
  refine ai_iconst hx hb d_L_962 ?_
  refine ai_iadd hx hb d_L_963 ?_
  refine la_ld hx hb hX hbl hscA hS (by omega) hL d_L_964 ?_
  refine ml_i (rest := []) (wr := ((CW ++ BkWs b cvA jlA hbA csA sbA vbA cA cB ca N z ml tx) ++ [(oa, .inl (cx 1, 1, .inr (.inl (fun j => iL (v1 j)))))])) hM j_M_read k_1210 s_M_read hF hKm hP.sw hD.sw hS rfl hl.1 rfl ⟨by show fr2 + 1 ≤ 14; omega, by show 8 + (10 + 11) + lo2 ≤ 644; omega⟩ (Nat.le_of_ble_eq_true rfl) d_L_965 ⟨hcs.1, hcs.2⟩ (fun u9 H locs hΦ hP hD hS => ?_)
  obtain ⟨F1, g1⟩ := u9
  obtain ⟨hg1, hk1, h81, hc1⟩ := hΦ
  dsimp only at hg1 hk1 h81 hc1 hP hD
  rw [hg1] at hP hD
  refine lv_istore (lv' := [(6, .int (iI x)), (5, .int (iI kc)), (0, .ref sc), (1, .ref b), (2, .ref a), (3, .ref oa), (4, .int (iI i))]) hx hb d_L_968 hl (by decide) rfl (fun ls hl => ?_)
  refine lv_aload_n hx hb d_L_970 rfl (lv_at hl 4 rfl) ?_
  refine ro_V (C := "DayBookModel") (rest := []) (ct_M_thrown l D a ad cx F1 g) j_M_thrown k_1007 (hts _ s_M_thrown) hF (va_recv (q0 := 0) (ci := 10) hKm hP rfl rfl) rfl hl.1 rfl ⟨Nat.le_of_ble_eq_true rfl, Nat.le_of_ble_eq_true rfl⟩ (Nat.le_of_ble_eq_true rfl) d_L_971 ⟨hcs.1, hcs.2⟩ MdB.m (fun U h1 h2 => ⟨va_K.moved h2.alike hKm, by rw [h1]; exact hP.left⟩) ?_
  refine ai_toI hx hb (b := kc) hk1 ?_
  obtain ⟨hP, hD⟩ := LB (B := BkWs b cvA jlA hbA csA sbA vbA cA cB ca N z ml tx) (O := [(oa, .inl (cx 1, 1, .inr (.inl (fun j => iL (v1 j)))))]) (M := MWs a ad cx F1 g) (C := CW) hP hD
  refine lv_iload hx hb d_L_974 (lv_at hl 1 rfl) ?_
  refine ai_icmp_eq hx hb d_L_976 rfl (by omega) (by omega) (fun h976 => ?_) (fun h976 => by exfalso; omega)
  refine lv_iload hx hb d_L_981 (lv_at hl 1 rfl) ?_
  refine ai_if_ne hx hb d_L_983 rfl (by omega) (fun h983 => ?_) (fun h983 => ?_)
  · skip
    refine lv_goto hx hb d_L_998 rfl ?_
    exact kk _ _ _ ⟨vbA, ca, N, z, ml, tx, v1, F1, g, CW, Lx, hP, hD, hS, ⟨hT.1, hT.2.1.of8 h81, hT.2.2⟩, ⟨hv, hc1⟩, hC⟩ (lv_sub hl [2, 3, 4, 5, 6] rfl)
  · skip
    refine lv_aload_n hx hb d_L_986 rfl (lv_at hl 5 rfl) ?_
    refine ai_iconst hx hb d_L_987 ?_
    refine ma_lld hx hb hK hP 4 3 rfl rfl (h := v1) (by decide) (by decide) d_L_988 ?_
    refine ai_toL hx hb (b := x) (heq (by omega)) ?_
    refine lv_iload hx hb d_L_989 (lv_at hl 0 rfl) ?_
    refine ai_i2l hx hb d_L_991 (by omega) ?_
    refine ai_lcmp_eq hx hb d_L_992 d_L_993 rfl (by omega) (by omega) (fun h992 => ?_) (fun h992 => by exfalso; omega)
    refine lv_goto hx hb d_L_998 rfl ?_
    exact kk _ _ _ ⟨vbA, ca, N, z, ml, tx, v1, F1, g, CW, Lx, hP, hD, hS, ⟨hT.1, hT.2.1.of8 h81, hT.2.2⟩, ⟨hv, hc1⟩, hC⟩ (lv_sub hl [2, 3, 4, 5, 6] rfl)
