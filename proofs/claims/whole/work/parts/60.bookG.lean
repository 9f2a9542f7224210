/-! 60.bookG: laid by program (wip/whole) -/
/-! the class's own arrays; arrays of references -/
def dN : Nat → String
  | 0 => "NUMBERS" | 1 => "NUMBERS_OF_8" | 2 => "LENGTHS_OF_0" | 3 => "LENGTHS_OF_3" | 4 => "LENGTHS_OF_5" | 5 => "LENGTHS_OF_6" | _ => "LENGTHS_OF_8"
def dLs : Nat → List Int
  | 0 => [1, 2, 3, 4, 5, 6, 7, 8, 9, 10, 11, 12, 13, 14, 15, 16, 17, 18, 19, 20]
  | 1 => [1, 2, 3, 4, 5, 6, 7, 8, 9, 10, 11, 12, 13, 14, 15, 16, 17, 18, 0, 19]
  | 2 => [31, 28, 31, 30, 31, 30, 31, 31, 30, 31, 30, 31]
  | 3 => [30, 30, 30, 30, 30, 30, 30, 30, 30, 30, 30, 30, 5]
  | 4 => [30, 29, 30, 29, 30, 29, 30, 29, 30, 29, 30, 29]
  | 5 => [31, 31, 31, 31, 31, 31, 30, 30, 30, 30, 30, 29]
  | _ => [19, 19, 19, 19, 19, 19, 19, 19, 19, 19, 19, 19, 19, 19, 19, 19, 19, 19, 4, 19]
def dF (i j : Nat) : Int := (dLs i).getD j 0
def dK : Nat → Nat
  | 0 => 20 | 1 => 20 | 2 => 12 | 3 => 13 | 4 => 12 | 5 => 12 | _ => 20
def DSA (sr : Nat → Nat) (A : Nat → Prop) (U : State) : Prop := ∀ i : Nat, i < 7 → va_Z "DayBook" (dN i) "[I" (.ref (sr i)) A U U.heap ∧ TA A (sr i) (dK i) (dF i) U
theorem DSA.m {sr : Nat → Nat} {A : Nat → Prop} : Bm (DSA sr A) := ⟨fun a U f mk h i hi => ⟨va_Z.moved (u := U) (U := U.calling f mk a) (Vm.Alike.refl U.vm) (h i hi).1, TA.m.1 a U f mk (h i hi).2⟩, fun s U h1 h2 h i hi => ⟨by rw [h1]; exact va_Z.moved h2.alike (h i hi).1, TA.m.2 s U h1 h2 (h i hi).2⟩⟩
theorem DSA.narrow {sr : Nat → Nat} {A B : Nat → Prop} {s : State} (h : DSA sr A s) (hB : ∀ q, B q → A q) : DSA sr B s := fun i hi => ⟨(h i hi).1.narrow hB, va_T.narrow (h i hi).2 hB⟩
theorem DSA.at {sr : Nat → Nat} {A B : Nat → Prop} {s : State} {H : Heap} {locs : List Loc} (h : DSA sr A s) (hS : va_S A s.heap H locs) (hB : ∀ q, B q → A q) (U : State) (h1 : U.heap = H) (h2 : s.WarmedH U.vm) : DSA sr B U := fun i hi => ⟨by rw [h1]; exact ((va_Z.kept (h i hi).1 hS.2.1).narrow hB).moved h2.alike, TA.at (h i hi).2 hS hB U h1 h2⟩
theorem AO.m {C : String} : Bm (va_AO C) := ⟨fun a U f mk h => va_AO.moved (u := U) (U := U.calling f mk a) (Vm.Alike.refl U.vm) h, fun s U h1 h2 h => va_AO.moved h2.alike h⟩
theorem na1 {A : Nat → Prop} {D : va_G} {cl : List vw_C} {ws : va_W} {H : Heap} {a t : Nat} {e e' : va_E} (hP : va_P D cl ws H) (hD : va_D A ws) (i j : Nat) (hi : ws[i]? = some (t, e')) (hj : ws[j]? = some (a, e)) (hij : i ≠ j) : ¬ va_A [(a, e)] H.size t := by
  rintro (⟨k, e9, hk⟩ | hk)
  · cases k with
    | zero =>
      have q : (a, e) = (t, e9) := Option.some.inj hk
      exact hij (hD.1 i j _ _ hi hj (Prod.mk.inj q).1.symm)
    | succ k => simp at hk
  · have := (hP i _ hi).lt
    exact absurd hk (Nat.not_le.mpr this)
section MQA
variable {p : Program} {l : Launch} {e : Env} {R : Room} {s : State} {m : MethodId} {args : Array Value} {below : List Frame} {meth : Method} {c : Code} {H : Heap} {locs : List Loc} {cells slots : Nat} {Q : State → Prop} {cc : ByteArray} {pc : Nat} {ls : Array Slot} {rest : List Value} {D : va_G} {cl : List vw_C} {tys : List (ClassId × FieldType)} {ws : va_W} {A : Nat → Prop} {H0 : Heap}
theorem ma_qld (hexec : p.tables.exec = Jvm.exec) (hb : c.code = cc) (hK : va_K D cl tys s) (hP : va_P D cl ws H) (q0 t0 : Nat) {t : Nat} {cA : ClassId} {C : String} {n : Nat} {f : Nat → Option Nat} (ha : ws[q0]? = some (t, .inl (cA, n, .inr (.inr (.inr (.inr f)))))) (ht : tys[t0]? = some (cA, .object C)) {x : Int} (h0 : 0 ≤ x ∧ x < n) (hn : n < 2147483648) (hdg : decode cc pc = .ok (.aaload, 1)) (kk : W p l e R s m args below meth c H locs cells slots Q (F0 m (pc + 1) ls (va_rf (f x.toNat) :: rest))) : W p l e R s m args below meth c H locs cells slots Q (F0 m pc ls (.int (iI x) :: .ref t :: rest)) := by
  refine va_aldq hexec hb hK hP q0 t0 ha ht (iI_in h0.1 h0.2 hn) hdg ?_
  rw [iI_clT h0.1 (by omega)]
  exact kk
theorem ma_qst (hexec : p.tables.exec = Jvm.exec) (hb : c.code = cc) (hK : va_K D cl tys s) (hP : va_P D cl ws H) (hD : va_D A ws) (hS : va_S A H0 H locs) (q0 t0 qk ci : Nat) {E : String} {t : Nat} {cA : ClassId} {r : vw_C} {n v : Nat} {vs : List Value} {f : Nat → Option Nat} (ha : ws[q0]? = some (t, .inl (cA, n, .inr (.inr (.inr (.inr f)))))) (ht : tys[t0]? = some (cA, .object E)) (hca : va_Nw (.castable r.1 E) s) (hv : ws[qk]? = some (v, .inr (ci, vs))) (hc : cl[ci]? = some r) {x : Int} (h0 : 0 ≤ x ∧ x < n) (hn : n < 2147483648) (hdg : decode cc pc = .ok (.aastore, 1))
    (kk : ∀ (H1 : Heap) (locs1 : List Loc), va_P D cl (ws.set q0 (t, .inl (cA, n, .inr (.inr (.inr (.inr (va_up f x.toNat (some v)))))))) H1 → va_D A (ws.set q0 (t, .inl (cA, n, .inr (.inr (.inr (.inr (va_up f x.toNat (some v)))))))) → va_S A H0 H1 locs1 → W p l e R s m args below meth c H1 locs1 cells slots Q (F0 m (pc + 1) ls rest)) : W p l e R s m args below meth c H locs cells slots Q (F0 m pc ls (.ref v :: .int (iI x) :: .ref t :: rest)) := by
  refine va_astqO hexec hb hK hP hD hS q0 t0 qk ci ha ht hca hv hc (iI_in h0.1 h0.2 hn) hdg (fun H1 locs1 k1 k2 k3 => kk H1 locs1 ?_ ?_ k3)
  · rw [iI_clT h0.1 (by omega)] at k1; exact k1
  · rw [iI_clT h0.1 (by omega)] at k2; exact k2
theorem gm_nwq (hexec : p.tables.exec = Jvm.exec) (hb : c.code = cc) {own C : String} {index : Nat} (hown : s.vm.findClass own = some m.cls) (hclink : (Cond.classLink own index C).before args s = true) (hover : va_AO C s) (hK : va_K D cl tys s) (hP : va_P D cl ws H) (hD : va_D A ws) (hS : va_S A H0 H locs) (hA : ∀ q, H0.size ≤ q → A q) (t0 : Nat) {cA : ClassId} (ht : tys[t0]? = some (cA, .object C)) {x : Int} (k : Nat) (hx : x = k) (hk : k ≤ 1000) (hcells : cells + 1 ≤ R.cells) (hslots : slots + k ≤ R.slots) (hdg : decode cc pc = .ok (.anewarray index, 3))
    (kk : ∀ (q : Nat) (H1 : Heap), va_P D cl (ws ++ [(q, .inl (cA, k, .inr (.inr (.inr (.inr (fun _ => none))))))]) H1 → va_D A (ws ++ [(q, .inl (cA, k, .inr (.inr (.inr (.inr (fun _ => none))))))]) → va_S A H0 H1 locs → W p l e R s m args below meth c H1 locs (cells + 1) (slots + k) Q (F0 m (pc + 3) ls (.ref q :: rest))) : W p l e R s m args below meth c H locs cells slots Q (F0 m pc ls (.int (iI x) :: rest)) := by
  subst hx
  refine va_newq hexec hb hown hclink hover hK hP hD hS hA (N' := k) (by rw [iI_nI]; exact nI_pos (by omega)) (by rw [iI_nI]; exact nI_clamp (by omega)) (Nat.le_trans (Nat.mul_le_mul hk (Nat.le_refl 4)) (by decide)) hcells hslots hdg (fun q cN H1 hK1 hP1 hD1 hS1 => ?_)
  obtain ⟨_, _, _, _, _, e1⟩ := (hK.2 t0 _ ht).2
  obtain ⟨_, _, _, _, _, e2⟩ := (hK1.2 tys.length (cN, .object C) (by rw [List.getElem?_append_right (Nat.le_refl _), Nat.sub_self]; rfl)).2
  have e3 : cA = cN := Option.some.inj (e1.symm.trans e2)
  subst e3
  exact kk q H1 hP1 hD1 hS1
end MQA
theorem NIC.rng {r : Nat → Int} {fr to x : Int} (h : NIC r fr to x) (hf : 0 ≤ fr) : x = -2147483648 ∨ (-1000000000 < x ∧ x < 1000000000) := by
  rcases h with ⟨⟨h1, h2⟩, h3⟩ | ⟨-, h⟩
  · right
    have hb : fr ≤ bgM r fr to := by unfold bgM; have := bI_01 (fr < to ∧ r (Int.toNat fr) = 45); omega
    obtain ⟨o1, o2, -⟩ := h1
    have q := vlM_dg h2 (by omega) (by omega)
    rw [h3]
    split <;> omega
  · exact Or.inl h
set_option maxHeartbeats 4000000 in
set_option maxRecDepth 100000 in
theorem ct_B_read (l : Launch) (D : va_G) (b : Nat) (cvA : Nat) (jlA : Nat) (hbA : Nat) (csA : Nat) (sbA : Nat) (vbA : Nat) (cA : ClassId) (cB : ClassId) (ca : Nat → Option Nat) (N : Nat) (z : Int) (ml : Int) (tx : Nat → Int) (q : Nat) (cal : Int) (L : List Int) (i1 : Int) (i2 : Int) (s1 : Int) (s2 : Int) (n1 : Int) (n2 : Int) (n3 : Int) (DT : Int → Int → Prop) (DR : Int → Int → Int → Int → Prop) (hy : Int → Prop) (r : Int) (r_cal : -2147483648 ≤ cal ∧ cal ≤ 2147483647) (hcs : CS ca cal q) (hR9 : RWO N z tx L) (hs1 : SLM tx z 0 i1 ∧ s1 = if i1 < z then i1 else z) (hs2 : SLM tx z (s1 + 1) i2 ∧ s2 = if i2 < z then i2 else z) (hn1 : NIC tx 0 s1 n1) (hn2 : NIC tx (s1 + 1) s2 n2) (hn3 : NIC tx (s2 + 1) z n3) (hgn : (n1 ≠ -2147483648 ∧ n2 ≠ -2147483648 ∧ n3 ≠ -2147483648 ∧ (-100000 ≤ n1 ∧ n1 ≤ 100000))) (hdr : DR n1 n2 n3 r) (hn : r ≠ -9223372036854775808) (hir : -40000000 ≤ r ∧ r ≤ 40000000) : RO l y_B_read w_B_read 6 151 [.ref b, .int (iI cal)] (fun U => BkB D b cvA jlA hbA csA sbA vbA cA cB ca N z ml tx U ∧ CAL D q DT DR hy U ∧ SA (fun _ => False) U) (.int (iI r)) := by
  refine ro_of (by decide +kernel) (Nat.le_of_ble_eq_true rfl) ?_
  intro p e s m below meth c ls hx hb hr hts hown hlk hml hl hN hB
  have hown : s.vm.findClass "DayBook" = some m.cls := hown
  have hl : lv_has ls 10 [(0, .ref b), (1, .int (iI cal))] := hl
  have hF : _ ∧ _ ∧ _ ∧ _ ∧ _ ∧ _ := ⟨hx, hb, hml, hown, hts, hN⟩
  obtain ⟨hBk, hC, hSt⟩ := hB
  have hK := hBk.1
  have hP := hBk.2
  obtain ⟨hcp, hzc, hL⟩ := hR9
  have hR9 : RWO N z tx L := ⟨hcp, hzc, hL⟩
  have hz1 := hL.1
  have b1 := hs1.1.rng
  have b2 := hs2.1.rng
  have c1 : 0 ≤ s1 ∧ s1 ≤ z := by rw [hs1.2]; split <;> omega
  have c2 : 0 ≤ s2 ∧ s2 ≤ z := by rw [hs2.2]; split <;> omega
  have d1 := hn1.rng (by omega)
  have d2 := hn2.rng (by omega)
  have d3 := hn3.rng (by omega)
  refine lv_aload_n hx hb d_B_read_0 rfl (lv_at hl 0 rfl) ?_
  refine lv_iload_n hx hb d_B_read_1 rfl (lv_at hl 1 rfl) ?_
  refine ro_V (rest := []) (ct_B_calendarAt_s l D b cvA jlA hbA csA sbA vbA cA cB ca N z ml tx cal q (by omega) hcs) j_B_calendarAt k_496 (hts _ s_B_calendarAt) hF hBk.recv rfl hl.1 rfl ⟨Nat.le_of_ble_eq_true rfl, Nat.le_of_ble_eq_true rfl⟩ (Nat.le_of_ble_eq_true rfl) d_B_read_2 ⟨Nat.zero_le _, Nat.zero_le _⟩ BkB.m (fun U h1 h2 => BkB.m.2 s U h1 h2 hBk) ?_
  refine lv_astore_n (lv' := [(2, .ref q), (0, .ref b), (1, .int (iI cal))]) hx hb d_B_read_5 rfl hl (by decide) rfl (fun ls hl => ?_)
  refine lv_aload_n hx hb d_B_read_6 rfl (lv_at hl 0 rfl) ?_
  refine lv_ifnonnull hx hb d_B_read_7 rfl ?_
  refine lv_aload_n hx hb d_B_read_18 rfl (lv_at hl 1 rfl) ?_
  refine ai_iconst hx hb d_B_read_19 ?_
  refine ro_V (rest := []) (ct_B_slashFrom l D b cvA jlA hbA csA sbA vbA cA cB ca N z ml tx L 0 i1 s1 hR9 (by omega) hs1.1 hs1.2) j_B_slashFrom k_892 (hts _ s_B_slashFrom) hF hBk.recv rfl hl.1 rfl ⟨Nat.le_of_ble_eq_true rfl, Nat.le_of_ble_eq_true rfl⟩ (Nat.le_of_ble_eq_true rfl) d_B_read_20 ⟨Nat.zero_le _, Nat.zero_le _⟩ (Bm.and RB.m SA.m) (fun U h1 h2 => ⟨RB.m.2 s U h1 h2 hBk, SA.m.2 s U h1 h2 hSt⟩) ?_
  refine lv_istore_n (lv' := [(3, .int (iI s1)), (2, .ref q), (0, .ref b), (1, .int (iI cal))]) hx hb d_B_read_23 rfl hl (by decide) rfl (fun ls hl => ?_)
  refine lv_aload_n hx hb d_B_read_24 rfl (lv_at hl 2 rfl) ?_
  refine lv_iload_n hx hb d_B_read_25 rfl (lv_at hl 0 rfl) ?_
  refine ai_iconst hx hb d_B_read_26 ?_
  refine ai_iadd hx hb d_B_read_27 ?_
  refine ro_V (rest := []) (ct_B_slashFrom l D b cvA jlA hbA csA sbA vbA cA cB ca N z ml tx L (s1 + 1) i2 s2 hR9 (by omega) hs2.1 hs2.2) j_B_slashFrom k_892 (hts _ s_B_slashFrom) hF hBk.recv rfl hl.1 rfl ⟨Nat.le_of_ble_eq_true rfl, Nat.le_of_ble_eq_true rfl⟩ (Nat.le_of_ble_eq_true rfl) d_B_read_28 ⟨Nat.zero_le _, Nat.zero_le _⟩ (Bm.and RB.m SA.m) (fun U h1 h2 => ⟨RB.m.2 s U h1 h2 hBk, SA.m.2 s U h1 h2 hSt⟩) ?_
  refine lv_istore (lv' := [(4, .int (iI s2)), (3, .int (iI s1)), (2, .ref q), (0, .ref b), (1, .int (iI cal))]) hx hb d_B_read_31 hl (by decide) rfl (fun ls hl => ?_)
  refine lv_aload_n hx hb d_B_read_33 rfl (lv_at hl 3 rfl) ?_
  refine ai_iconst hx hb d_B_read_34 ?_
  refine lv_iload_n hx hb d_B_read_35 rfl (lv_at hl 1 rfl) ?_
  refine ro_V (rest := []) (ct_B_numberIn l D b cvA jlA hbA csA sbA vbA cA cB ca N z ml tx L 0 s1 n1 hR9 (by omega) (by omega) hn1) j_B_numberIn k_896 (hts _ s_B_numberIn) hF hBk.recv rfl hl.1 rfl ⟨Nat.le_of_ble_eq_true rfl, Nat.le_of_ble_eq_true rfl⟩ (Nat.le_of_ble_eq_true rfl) d_B_read_36 ⟨Nat.zero_le _, Nat.zero_le _⟩ (Bm.and RB.m SA.m) (fun U h1 h2 => ⟨RB.m.2 s U h1 h2 hBk, SA.m.2 s U h1 h2 hSt⟩) ?_
  refine lv_istore (lv' := [(5, .int (iI n1)), (4, .int (iI s2)), (3, .int (iI s1)), (2, .ref q), (0, .ref b), (1, .int (iI cal))]) hx hb d_B_read_39 hl (by decide) rfl (fun ls hl => ?_)
  refine lv_aload_n hx hb d_B_read_41 rfl (lv_at hl 4 rfl) ?_
  refine lv_iload_n hx hb d_B_read_42 rfl (lv_at hl 2 rfl) ?_
  refine ai_iconst hx hb d_B_read_43 ?_
  refine ai_iadd hx hb d_B_read_44 ?_
  refine lv_iload hx hb d_B_read_45 (lv_at hl 1 rfl) ?_
  refine ro_V (rest := []) (ct_B_numberIn l D b cvA jlA hbA csA sbA vbA cA cB ca N z ml tx L (s1 + 1) s2 n2 hR9 (by omega) (by omega) hn2) j_B_numberIn k_896 (hts _ s_B_numberIn) hF hBk.recv rfl hl.1 rfl ⟨Nat.le_of_ble_eq_true rfl, Nat.le_of_ble_eq_true rfl⟩ (Nat.le_of_ble_eq_true rfl) d_B_read_47 ⟨Nat.zero_le _, Nat.zero_le _⟩ (Bm.and RB.m SA.m) (fun U h1 h2 => ⟨RB.m.2 s U h1 h2 hBk, SA.m.2 s U h1 h2 hSt⟩) ?_
  refine lv_istore (lv' := [(6, .int (iI n2)), (5, .int (iI n1)), (4, .int (iI s2)), (3, .int (iI s1)), (2, .ref q), (0, .ref b), (1, .int (iI cal))]) hx hb d_B_read_50 hl (by decide) rfl (fun ls hl => ?_)
  refine lv_aload_n hx hb d_B_read_52 rfl (lv_at hl 5 rfl) ?_
  refine lv_iload hx hb d_B_read_53 (lv_at hl 2 rfl) ?_
  refine ai_iconst hx hb d_B_read_55 ?_
  refine ai_iadd hx hb d_B_read_56 ?_
  refine lv_aload_n hx hb d_B_read_57 rfl (lv_at hl 5 rfl) ?_
  refine va_get (D := D) (cl := CL) (ci := 9) (v := .ref sbA) (C := "DayBook") (T := T_B) (N := 5) hx hb hts in_B hown hK hP 0 rfl rfl 4 (by decide) (hts _ k_208) (fun _ h9 => h9) rfl d_B_read_58 ?_
  refine ro_V (rest := [.int (iI (s2 + 1)), .ref b]) (ct_JB_length l D sbA vbA cB N ml z tx) j_JB_length k_252 (hts _ s_JB_length) hF (va_recv (q0 := 2) (ci := 0) hK hP rfl rfl) rfl hl.1 rfl ⟨Nat.le_of_ble_eq_true rfl, Nat.le_of_ble_eq_true rfl⟩ (Nat.le_of_ble_eq_true rfl) d_B_read_61 ⟨Nat.zero_le _, Nat.zero_le _⟩ RB.m (fun U h1 h2 => ⟨va_K.moved h2.alike (va_K.sub hK [1] rfl), by rw [h1]; exact va_P.sub hP [2, 3] rfl⟩) ?_
  refine ro_V (rest := []) (ct_B_numberIn l D b cvA jlA hbA csA sbA vbA cA cB ca N z ml tx L (s2 + 1) z n3 hR9 (by omega) (by omega) hn3) j_B_numberIn k_896 (hts _ s_B_numberIn) hF hBk.recv rfl hl.1 rfl ⟨Nat.le_of_ble_eq_true rfl, Nat.le_of_ble_eq_true rfl⟩ (Nat.le_of_ble_eq_true rfl) d_B_read_64 ⟨Nat.zero_le _, Nat.zero_le _⟩ (Bm.and RB.m SA.m) (fun U h1 h2 => ⟨RB.m.2 s U h1 h2 hBk, SA.m.2 s U h1 h2 hSt⟩) ?_
  refine lv_istore (lv' := [(7, .int (iI n3)), (6, .int (iI n2)), (5, .int (iI n1)), (4, .int (iI s2)), (3, .int (iI s1)), (2, .ref q), (0, .ref b), (1, .int (iI cal))]) hx hb d_B_read_67 hl (by decide) rfl (fun ls hl => ?_)
  refine lv_iload hx hb d_B_read_69 (lv_at hl 2 rfl) ?_
  refine ai_ldc (x := -2147483648) hx hb hown (hts _ k_240) (by decide +kernel) d_B_read_71 ?_
  refine ai_icmp_eq hx hb d_B_read_73 rfl (by omega) (by omega) (fun h73 => ?_) (fun h73 => ?_)
  · skip
    exfalso; omega
  · skip
    refine lv_iload hx hb d_B_read_76 (lv_at hl 1 rfl) ?_
    refine ai_ldc (x := -2147483648) hx hb hown (hts _ k_240) (by decide +kernel) d_B_read_78 ?_
    refine ai_icmp_eq hx hb d_B_read_80 rfl (by omega) (by omega) (fun h80 => ?_) (fun h80 => ?_)
    · skip
      exfalso; omega
    · skip
      refine lv_iload hx hb d_B_read_83 (lv_at hl 0 rfl) ?_
      refine ai_ldc (x := -2147483648) hx hb hown (hts _ k_240) (by decide +kernel) d_B_read_85 ?_
      refine ai_icmp_eq hx hb d_B_read_87 rfl (by omega) (by omega) (fun h87 => ?_) (fun h87 => ?_)
      · skip
        exfalso; omega
      · skip
        refine lv_iload hx hb d_B_read_90 (lv_at hl 2 rfl) ?_
        refine ai_ldc (x := 100000) hx hb hown (hts _ k_700) (by decide +kernel) d_B_read_92 ?_
        refine ro_S (rest := []) (ct_B_isWithin l n1 100000 (by omega) (by omega)) j_B_isWithin k_701 hF rfl hl.1 rfl ⟨Nat.le_of_ble_eq_true rfl, Nat.le_of_ble_eq_true rfl⟩ (Nat.le_of_ble_eq_true rfl) d_B_read_94 ⟨Nat.zero_le _, Nat.zero_le _⟩ Bm_true (fun _ _ _ => trivial) ?_
        refine ai_ifneB hx hb d_B_read_97 rfl (fun h97 => ?_) (fun h97 => ?_)
        · skip
          refine lv_aload_n hx hb d_B_read_108 rfl (lv_at hl 5 rfl) ?_
          refine lv_iload hx hb d_B_read_109 (lv_at hl 2 rfl) ?_
          refine ai_i2l hx hb d_B_read_111 (by omega) ?_
          refine lv_iload hx hb d_B_read_112 (lv_at hl 1 rfl) ?_
          refine lv_iload hx hb d_B_read_114 (lv_at hl 0 rfl) ?_
          refine cd_DR (rest := []) hC (by omega) (by omega) (by omega) hdr hF hl.1 ⟨Nat.le_of_ble_eq_true rfl, Nat.le_of_ble_eq_true rfl⟩ (Nat.le_of_ble_eq_true rfl) d_B_read_116 ⟨Nat.zero_le _, Nat.zero_le _⟩ ?_
          refine lv_lstore (lv' := [(8, .long (iL r)), (7, .int (iI n3)), (6, .int (iI n2)), (5, .int (iI n1)), (4, .int (iI s2)), (3, .int (iI s1)), (2, .ref q), (0, .ref b), (1, .int (iI cal))]) hx hb d_B_read_119 hl (by decide) rfl (fun ls hl => ?_)
          refine lv_lload hx hb d_B_read_121 (lv_at hl 0 rfl) ?_
          refine ai_ldc2 (x := -9223372036854775808) hx hb hown (hts _ k_741) (by decide +kernel) d_B_read_123 ?_
          refine ai_lcmp_eq hx hb d_B_read_126 d_B_read_127 rfl (by omega) (by omega) (fun h126 => ?_) (fun h126 => ?_)
          · skip
            exfalso; omega
          · skip
            refine lv_lload hx hb d_B_read_130 (lv_at hl 0 rfl) ?_
            refine ro_S (rest := []) (ct_B_isInRange l r (by omega)) j_B_isInRange k_224 hF rfl hl.1 rfl ⟨Nat.le_of_ble_eq_true rfl, Nat.le_of_ble_eq_true rfl⟩ (Nat.le_of_ble_eq_true rfl) d_B_read_132 ⟨Nat.zero_le _, Nat.zero_le _⟩ Bm_true (fun _ _ _ => trivial) ?_
            refine ai_ifneB hx hb d_B_read_135 rfl (fun h135 => ?_) (fun h135 => ?_)
            · skip
              refine lv_lload hx hb d_B_read_146 (lv_at hl 0 rfl) ?_
              refine ai_l2i hx hb d_B_read_148 ?_
              exact ro_iret hx hb hr hlk d_B_read_149 rfl
            · skip
              exfalso; omega
        · skip
          exfalso; omega
set_option maxHeartbeats 4000000 in
set_option maxRecDepth 100000 in
theorem ct_B_read_n (l : Launch) (hfl : l.flags = pinnedFlags ++ [noTraceFlag]) (D : va_G) (b : Nat) (cvA : Nat) (jlA : Nat) (hbA : Nat) (csA : Nat) (sbA : Nat) (vbA : Nat) (cA : ClassId) (cB : ClassId) (ca : Nat → Option Nat) (N : Nat) (z : Int) (ml : Int) (tx : Nat → Int) (cal : Int) (r_cal : -2147483648 ≤ cal ∧ cal ≤ 2147483647) (hcn : CN ca cal) : MetX l y_B_read w_B_read ({ frames := 6, cells := 1, slots := 6, locals := 151 }) (va_Pc [.ref b, .int (iI cal)] (fun U => NV U ∧ (fun U => BkB D b cvA jlA hbA csA sbA vbA cA cB ca N z ml tx U ∧ TSt U) U)) "java/lang/IndexOutOfBoundsException" 1 6 := by
  refine xt_of hfl (by decide +kernel) (Nat.le_of_ble_eq_true rfl) ?_
  intro p e s m below meth c ls htr hxt hx hb hr hts hown hlk hml hl hN hB
  have hown : s.vm.findClass "DayBook" = some m.cls := hown
  have hl : lv_has ls 10 [(0, .ref b), (1, .int (iI cal))] := hl
  have hF : _ ∧ _ ∧ _ ∧ _ ∧ _ ∧ _ := ⟨hx, hb, hml, hown, hts, hN⟩
  obtain ⟨hBk, hT⟩ := hB
  have hK := hBk.1
  have hP := hBk.2
  refine lv_aload_n hx hb d_B_read_0 rfl (lv_at hl 0 rfl) ?_
  refine lv_iload_n hx hb d_B_read_1 rfl (lv_at hl 1 rfl) ?_
  refine ro_V (rest := []) (ct_B_calendarAt_n l D b cvA jlA hbA csA sbA vbA cA cB ca N z ml tx cal (by omega) hcn) j_B_calendarAt k_496 (hts _ s_B_calendarAt) hF hBk.recv rfl hl.1 rfl ⟨Nat.le_of_ble_eq_true rfl, Nat.le_of_ble_eq_true rfl⟩ (Nat.le_of_ble_eq_true rfl) d_B_read_2 ⟨Nat.zero_le _, Nat.zero_le _⟩ BkB.m (fun U h1 h2 => BkB.m.2 s U h1 h2 hBk) ?_
  refine lv_astore_nN (lv' := [(2, .null), (0, .ref b), (1, .int (iI cal))]) hx hb d_B_read_5 rfl hl (by decide) rfl (fun ls hl => ?_)
  refine lv_aload_nN hx hb d_B_read_6 rfl (lv_at hl 0 rfl) ?_
  refine lv_ifnonnullN hx hb d_B_read_7 ?_
  exact xt_throw hx hb htr hown hts hN hT hxt hlk (hl.1.trans hml.symm) xok_IX d_B_read_10 d_B_read_13 d_B_read_14 d_B_read_17 (Nat.le_of_ble_eq_true rfl) (Nat.le_of_ble_eq_true rfl) (Nat.le_of_ble_eq_true rfl) (Nat.le_of_ble_eq_true rfl)
set_option maxHeartbeats 4000000 in
set_option maxRecDepth 100000 in
theorem ct_B_read_i (l : Launch) (hfl : l.flags = pinnedFlags ++ [noTraceFlag]) (D : va_G) (b : Nat) (cvA : Nat) (jlA : Nat) (hbA : Nat) (csA : Nat) (sbA : Nat) (vbA : Nat) (cA : ClassId) (cB : ClassId) (ca : Nat → Option Nat) (N : Nat) (z : Int) (ml : Int) (tx : Nat → Int) (q : Nat) (cal : Int) (L : List Int) (i1 : Int) (i2 : Int) (s1 : Int) (s2 : Int) (n1 : Int) (n2 : Int) (n3 : Int) (r_cal : -2147483648 ≤ cal ∧ cal ≤ 2147483647) (hcs : CS ca cal q) (hR9 : RWO N z tx L) (hs1 : SLM tx z 0 i1 ∧ s1 = if i1 < z then i1 else z) (hs2 : SLM tx z (s1 + 1) i2 ∧ s2 = if i2 < z then i2 else z) (hn1 : NIC tx 0 s1 n1) (hn2 : NIC tx (s1 + 1) s2 n2) (hn3 : NIC tx (s2 + 1) z n3) (hgn : ¬ (n1 ≠ -2147483648 ∧ n2 ≠ -2147483648 ∧ n3 ≠ -2147483648 ∧ (-100000 ≤ n1 ∧ n1 ≤ 100000))) : MetX l y_B_read w_B_read ({ frames := 6, cells := 1, slots := 6, locals := 151 }) (va_Pc [.ref b, .int (iI cal)] (fun U => NV U ∧ (fun U => BkB D b cvA jlA hbA csA sbA vbA cA cB ca N z ml tx U ∧ TSt U ∧ SA (fun _ => False) U) U)) "java/lang/IllegalArgumentException" 1 6 := by
  refine xt_of hfl (by decide +kernel) (Nat.le_of_ble_eq_true rfl) ?_
  intro p e s m below meth c ls htr hxt hx hb hr hts hown hlk hml hl hN hB
  have hown : s.vm.findClass "DayBook" = some m.cls := hown
  have hl : lv_has ls 10 [(0, .ref b), (1, .int (iI cal))] := hl
  have hF : _ ∧ _ ∧ _ ∧ _ ∧ _ ∧ _ := ⟨hx, hb, hml, hown, hts, hN⟩
  obtain ⟨hBk, hT, hSt⟩ := hB
  have hK := hBk.1
  have hP := hBk.2
  obtain ⟨hcp, hzc, hL⟩ := hR9
  have hR9 : RWO N z tx L := ⟨hcp, hzc, hL⟩
  have hz1 := hL.1
  have b1 := hs1.1.rng
  have b2 := hs2.1.rng
  have c1 : 0 ≤ s1 ∧ s1 ≤ z := by rw [hs1.2]; split <;> omega
  have c2 : 0 ≤ s2 ∧ s2 ≤ z := by rw [hs2.2]; split <;> omega
  have d1 := hn1.rng (by omega)
  have d2 := hn2.rng (by omega)
  have d3 := hn3.rng (by omega)
  refine lv_aload_n hx hb d_B_read_0 rfl (lv_at hl 0 rfl) ?_
  refine lv_iload_n hx hb d_B_read_1 rfl (lv_at hl 1 rfl) ?_
  refine ro_V (rest := []) (ct_B_calendarAt_s l D b cvA jlA hbA csA sbA vbA cA cB ca N z ml tx cal q (by omega) hcs) j_B_calendarAt k_496 (hts _ s_B_calendarAt) hF hBk.recv rfl hl.1 rfl ⟨Nat.le_of_ble_eq_true rfl, Nat.le_of_ble_eq_true rfl⟩ (Nat.le_of_ble_eq_true rfl) d_B_read_2 ⟨Nat.zero_le _, Nat.zero_le _⟩ BkB.m (fun U h1 h2 => BkB.m.2 s U h1 h2 hBk) ?_
  refine lv_astore_n (lv' := [(2, .ref q), (0, .ref b), (1, .int (iI cal))]) hx hb d_B_read_5 rfl hl (by decide) rfl (fun ls hl => ?_)
  refine lv_aload_n hx hb d_B_read_6 rfl (lv_at hl 0 rfl) ?_
  refine lv_ifnonnull hx hb d_B_read_7 rfl ?_
  refine lv_aload_n hx hb d_B_read_18 rfl (lv_at hl 1 rfl) ?_
  refine ai_iconst hx hb d_B_read_19 ?_
  refine ro_V (rest := []) (ct_B_slashFrom l D b cvA jlA hbA csA sbA vbA cA cB ca N z ml tx L 0 i1 s1 hR9 (by omega) hs1.1 hs1.2) j_B_slashFrom k_892 (hts _ s_B_slashFrom) hF hBk.recv rfl hl.1 rfl ⟨Nat.le_of_ble_eq_true rfl, Nat.le_of_ble_eq_true rfl⟩ (Nat.le_of_ble_eq_true rfl) d_B_read_20 ⟨Nat.zero_le _, Nat.zero_le _⟩ (Bm.and RB.m SA.m) (fun U h1 h2 => ⟨RB.m.2 s U h1 h2 hBk, SA.m.2 s U h1 h2 hSt⟩) ?_
  refine lv_istore_n (lv' := [(3, .int (iI s1)), (2, .ref q), (0, .ref b), (1, .int (iI cal))]) hx hb d_B_read_23 rfl hl (by decide) rfl (fun ls hl => ?_)
  refine lv_aload_n hx hb d_B_read_24 rfl (lv_at hl 2 rfl) ?_
  refine lv_iload_n hx hb d_B_read_25 rfl (lv_at hl 0 rfl) ?_
  refine ai_iconst hx hb d_B_read_26 ?_
  refine ai_iadd hx hb d_B_read_27 ?_
  refine ro_V (rest := []) (ct_B_slashFrom l D b cvA jlA hbA csA sbA vbA cA cB ca N z ml tx L (s1 + 1) i2 s2 hR9 (by omega) hs2.1 hs2.2) j_B_slashFrom k_892 (hts _ s_B_slashFrom) hF hBk.recv rfl hl.1 rfl ⟨Nat.le_of_ble_eq_true rfl, Nat.le_of_ble_eq_true rfl⟩ (Nat.le_of_ble_eq_true rfl) d_B_read_28 ⟨Nat.zero_le _, Nat.zero_le _⟩ (Bm.and RB.m SA.m) (fun U h1 h2 => ⟨RB.m.2 s U h1 h2 hBk, SA.m.2 s U h1 h2 hSt⟩) ?_
  refine lv_istore (lv' := [(4, .int (iI s2)), (3, .int (iI s1)), (2, .ref q), (0, .ref b), (1, .int (iI cal))]) hx hb d_B_read_31 hl (by decide) rfl (fun ls hl => ?_)
  refine lv_aload_n hx hb d_B_read_33 rfl (lv_at hl 3 rfl) ?_
  refine ai_iconst hx hb d_B_read_34 ?_
  refine lv_iload_n hx hb d_B_read_35 rfl (lv_at hl 1 rfl) ?_
  refine ro_V (rest := []) (ct_B_numberIn l D b cvA jlA hbA csA sbA vbA cA cB ca N z ml tx L 0 s1 n1 hR9 (by omega) (by omega) hn1) j_B_numberIn k_896 (hts _ s_B_numberIn) hF hBk.recv rfl hl.1 rfl ⟨Nat.le_of_ble_eq_true rfl, Nat.le_of_ble_eq_true rfl⟩ (Nat.le_of_ble_eq_true rfl) d_B_read_36 ⟨Nat.zero_le _, Nat.zero_le _⟩ (Bm.and RB.m SA.m) (fun U h1 h2 => ⟨RB.m.2 s U h1 h2 hBk, SA.m.2 s U h1 h2 hSt⟩) ?_
  refine lv_istore (lv' := [(5, .int (iI n1)), (4, .int (iI s2)), (3, .int (iI s1)), (2, .ref q), (0, .ref b), (1, .int (iI cal))]) hx hb d_B_read_39 hl (by decide) rfl (fun ls hl => ?_)
  refine lv_aload_n hx hb d_B_read_41 rfl (lv_at hl 4 rfl) ?_
  refine lv_iload_n hx hb d_B_read_42 rfl (lv_at hl 2 rfl) ?_
  refine ai_iconst hx hb d_B_read_43 ?_
  refine ai_iadd hx hb d_B_read_44 ?_
  refine lv_iload hx hb d_B_read_45 (lv_at hl 1 rfl) ?_
  refine ro_V (rest := []) (ct_B_numberIn l D b cvA jlA hbA csA sbA vbA cA cB ca N z ml tx L (s1 + 1) s2 n2 hR9 (by omega) (by omega) hn2) j_B_numberIn k_896 (hts _ s_B_numberIn) hF hBk.recv rfl hl.1 rfl ⟨Nat.le_of_ble_eq_true rfl, Nat.le_of_ble_eq_true rfl⟩ (Nat.le_of_ble_eq_true rfl) d_B_read_47 ⟨Nat.zero_le _, Nat.zero_le _⟩ (Bm.and RB.m SA.m) (fun U h1 h2 => ⟨RB.m.2 s U h1 h2 hBk, SA.m.2 s U h1 h2 hSt⟩) ?_
  refine lv_istore (lv' := [(6, .int (iI n2)), (5, .int (iI n1)), (4, .int (iI s2)), (3, .int (iI s1)), (2, .ref q), (0, .ref b), (1, .int (iI cal))]) hx hb d_B_read_50 hl (by decide) rfl (fun ls hl => ?_)
  refine lv_aload_n hx hb d_B_read_52 rfl (lv_at hl 5 rfl) ?_
  refine lv_iload hx hb d_B_read_53 (lv_at hl 2 rfl) ?_
  refine ai_iconst hx hb d_B_read_55 ?_
  refine ai_iadd hx hb d_B_read_56 ?_
  refine lv_aload_n hx hb d_B_read_57 rfl (lv_at hl 5 rfl) ?_
  refine va_get (D := D) (cl := CL) (ci := 9) (v := .ref sbA) (C := "DayBook") (T := T_B) (N := 5) hx hb hts in_B hown hK hP 0 rfl rfl 4 (by decide) (hts _ k_208) (fun _ h9 => h9) rfl d_B_read_58 ?_
  refine ro_V (rest := [.int (iI (s2 + 1)), .ref b]) (ct_JB_length l D sbA vbA cB N ml z tx) j_JB_length k_252 (hts _ s_JB_length) hF (va_recv (q0 := 2) (ci := 0) hK hP rfl rfl) rfl hl.1 rfl ⟨Nat.le_of_ble_eq_true rfl, Nat.le_of_ble_eq_true rfl⟩ (Nat.le_of_ble_eq_true rfl) d_B_read_61 ⟨Nat.zero_le _, Nat.zero_le _⟩ RB.m (fun U h1 h2 => ⟨va_K.moved h2.alike (va_K.sub hK [1] rfl), by rw [h1]; exact va_P.sub hP [2, 3] rfl⟩) ?_
  refine ro_V (rest := []) (ct_B_numberIn l D b cvA jlA hbA csA sbA vbA cA cB ca N z ml tx L (s2 + 1) z n3 hR9 (by omega) (by omega) hn3) j_B_numberIn k_896 (hts _ s_B_numberIn) hF hBk.recv rfl hl.1 rfl ⟨Nat.le_of_ble_eq_true rfl, Nat.le_of_ble_eq_true rfl⟩ (Nat.le_of_ble_eq_true rfl) d_B_read_64 ⟨Nat.zero_le _, Nat.zero_le _⟩ (Bm.and RB.m SA.m) (fun U h1 h2 => ⟨RB.m.2 s U h1 h2 hBk, SA.m.2 s U h1 h2 hSt⟩) ?_
  refine lv_istore (lv' := [(7, .int (iI n3)), (6, .int (iI n2)), (5, .int (iI n1)), (4, .int (iI s2)), (3, .int (iI s1)), (2, .ref q), (0, .ref b), (1, .int (iI cal))]) hx hb d_B_read_67 hl (by decide) rfl (fun ls hl => ?_)
  refine lv_iload hx hb d_B_read_69 (lv_at hl 2 rfl) ?_
  refine ai_ldc (x := -2147483648) hx hb hown (hts _ k_240) (by decide +kernel) d_B_read_71 ?_
  refine ai_icmp_eq hx hb d_B_read_73 rfl (by omega) (by omega) (fun h73 => ?_) (fun h73 => ?_)
  · skip
    exact xt_throw hx hb htr hown hts hN hT hxt hlk (hl.1.trans hml.symm) xok_IA d_B_read_100 d_B_read_103 d_B_read_104 d_B_read_107 (Nat.le_of_ble_eq_true rfl) (Nat.le_of_ble_eq_true rfl) (Nat.le_of_ble_eq_true rfl) (Nat.le_of_ble_eq_true rfl)
  · skip
    refine lv_iload hx hb d_B_read_76 (lv_at hl 1 rfl) ?_
    refine ai_ldc (x := -2147483648) hx hb hown (hts _ k_240) (by decide +kernel) d_B_read_78 ?_
    refine ai_icmp_eq hx hb d_B_read_80 rfl (by omega) (by omega) (fun h80 => ?_) (fun h80 => ?_)
    · skip
      exact xt_throw hx hb htr hown hts hN hT hxt hlk (hl.1.trans hml.symm) xok_IA d_B_read_100 d_B_read_103 d_B_read_104 d_B_read_107 (Nat.le_of_ble_eq_true rfl) (Nat.le_of_ble_eq_true rfl) (Nat.le_of_ble_eq_true rfl) (Nat.le_of_ble_eq_true rfl)
    · skip
      refine lv_iload hx hb d_B_read_83 (lv_at hl 0 rfl) ?_
      refine ai_ldc (x := -2147483648) hx hb hown (hts _ k_240) (by decide +kernel) d_B_read_85 ?_
      refine ai_icmp_eq hx hb d_B_read_87 rfl (by omega) (by omega) (fun h87 => ?_) (fun h87 => ?_)
      · skip
        exact xt_throw hx hb htr hown hts hN hT hxt hlk (hl.1.trans hml.symm) xok_IA d_B_read_100 d_B_read_103 d_B_read_104 d_B_read_107 (Nat.le_of_ble_eq_true rfl) (Nat.le_of_ble_eq_true rfl) (Nat.le_of_ble_eq_true rfl) (Nat.le_of_ble_eq_true rfl)
      · skip
        refine lv_iload hx hb d_B_read_90 (lv_at hl 2 rfl) ?_
        refine ai_ldc (x := 100000) hx hb hown (hts _ k_700) (by decide +kernel) d_B_read_92 ?_
        refine ro_S (rest := []) (ct_B_isWithin l n1 100000 (by omega) (by omega)) j_B_isWithin k_701 hF rfl hl.1 rfl ⟨Nat.le_of_ble_eq_true rfl, Nat.le_of_ble_eq_true rfl⟩ (Nat.le_of_ble_eq_true rfl) d_B_read_94 ⟨Nat.zero_le _, Nat.zero_le _⟩ Bm_true (fun _ _ _ => trivial) ?_
        refine ai_ifneB hx hb d_B_read_97 rfl (fun h97 => ?_) (fun h97 => ?_)
        · skip
          exfalso; omega
        · skip
          exact xt_throw hx hb htr hown hts hN hT hxt hlk (hl.1.trans hml.symm) xok_IA d_B_read_100 d_B_read_103 d_B_read_104 d_B_read_107 (Nat.le_of_ble_eq_true rfl) (Nat.le_of_ble_eq_true rfl) (Nat.le_of_ble_eq_true rfl) (Nat.le_of_ble_eq_true rfl)
set_option maxHeartbeats 4000000 in
set_option maxRecDepth 100000 in
theorem ct_B_read_d (l : Launch) (hfl : l.flags = pinnedFlags ++ [noTraceFlag]) (D : va_G) (b : Nat) (cvA : Nat) (jlA : Nat) (hbA : Nat) (csA : Nat) (sbA : Nat) (vbA : Nat) (cA : ClassId) (cB : ClassId) (ca : Nat → Option Nat) (N : Nat) (z : Int) (ml : Int) (tx : Nat → Int) (q : Nat) (cal : Int) (L : List Int) (i1 : Int) (i2 : Int) (s1 : Int) (s2 : Int) (n1 : Int) (n2 : Int) (n3 : Int) (DT : Int → Int → Prop) (DR : Int → Int → Int → Int → Prop) (hy : Int → Prop) (r : Int) (r_cal : -2147483648 ≤ cal ∧ cal ≤ 2147483647) (hcs : CS ca cal q) (hR9 : RWO N z tx L) (hs1 : SLM tx z 0 i1 ∧ s1 = if i1 < z then i1 else z) (hs2 : SLM tx z (s1 + 1) i2 ∧ s2 = if i2 < z then i2 else z) (hn1 : NIC tx 0 s1 n1) (hn2 : NIC tx (s1 + 1) s2 n2) (hn3 : NIC tx (s2 + 1) z n3) (rr : -9223372036854775808 ≤ r ∧ r ≤ 9223372036854775807) (hgn : (n1 ≠ -2147483648 ∧ n2 ≠ -2147483648 ∧ n3 ≠ -2147483648 ∧ (-100000 ≤ n1 ∧ n1 ≤ 100000))) (hdr : DR n1 n2 n3 r) (hno : r = -9223372036854775808 ∨ ¬ (-40000000 ≤ r ∧ r ≤ 40000000)) : MetX l y_B_read w_B_read ({ frames := 6, cells := 1, slots := 6, locals := 151 }) (va_Pc [.ref b, .int (iI cal)] (fun U => NV U ∧ (fun U => BkB D b cvA jlA hbA csA sbA vbA cA cB ca N z ml tx U ∧ TSt U ∧ CAL D q DT DR hy U ∧ SA (fun _ => False) U) U)) "java/lang/IllegalArgumentException" 1 6 := by
  refine xt_of hfl (by decide +kernel) (Nat.le_of_ble_eq_true rfl) ?_
  intro p e s m below meth c ls htr hxt hx hb hr hts hown hlk hml hl hN hB
  have hown : s.vm.findClass "DayBook" = some m.cls := hown
  have hl : lv_has ls 10 [(0, .ref b), (1, .int (iI cal))] := hl
  have hF : _ ∧ _ ∧ _ ∧ _ ∧ _ ∧ _ := ⟨hx, hb, hml, hown, hts, hN⟩
  obtain ⟨hBk, hT, hC, hSt⟩ := hB
  have hK := hBk.1
  have hP := hBk.2
  obtain ⟨hcp, hzc, hL⟩ := hR9
  have hR9 : RWO N z tx L := ⟨hcp, hzc, hL⟩
  have hz1 := hL.1
  have b1 := hs1.1.rng
  have b2 := hs2.1.rng
  have c1 : 0 ≤ s1 ∧ s1 ≤ z := by rw [hs1.2]; split <;> omega
  have c2 : 0 ≤ s2 ∧ s2 ≤ z := by rw [hs2.2]; split <;> omega
  have d1 := hn1.rng (by omega)
  have d2 := hn2.rng (by omega)
  have d3 := hn3.rng (by omega)
  refine lv_aload_n hx hb d_B_read_0 rfl (lv_at hl 0 rfl) ?_
  refine lv_iload_n hx hb d_B_read_1 rfl (lv_at hl 1 rfl) ?_
  refine ro_V (rest := []) (ct_B_calendarAt_s l D b cvA jlA hbA csA sbA vbA cA cB ca N z ml tx cal q (by omega) hcs) j_B_calendarAt k_496 (hts _ s_B_calendarAt) hF hBk.recv rfl hl.1 rfl ⟨Nat.le_of_ble_eq_true rfl, Nat.le_of_ble_eq_true rfl⟩ (Nat.le_of_ble_eq_true rfl) d_B_read_2 ⟨Nat.zero_le _, Nat.zero_le _⟩ BkB.m (fun U h1 h2 => BkB.m.2 s U h1 h2 hBk) ?_
  refine lv_astore_n (lv' := [(2, .ref q), (0, .ref b), (1, .int (iI cal))]) hx hb d_B_read_5 rfl hl (by decide) rfl (fun ls hl => ?_)
  refine lv_aload_n hx hb d_B_read_6 rfl (lv_at hl 0 rfl) ?_
  refine lv_ifnonnull hx hb d_B_read_7 rfl ?_
  refine lv_aload_n hx hb d_B_read_18 rfl (lv_at hl 1 rfl) ?_
  refine ai_iconst hx hb d_B_read_19 ?_
  refine ro_V (rest := []) (ct_B_slashFrom l D b cvA jlA hbA csA sbA vbA cA cB ca N z ml tx L 0 i1 s1 hR9 (by omega) hs1.1 hs1.2) j_B_slashFrom k_892 (hts _ s_B_slashFrom) hF hBk.recv rfl hl.1 rfl ⟨Nat.le_of_ble_eq_true rfl, Nat.le_of_ble_eq_true rfl⟩ (Nat.le_of_ble_eq_true rfl) d_B_read_20 ⟨Nat.zero_le _, Nat.zero_le _⟩ (Bm.and RB.m SA.m) (fun U h1 h2 => ⟨RB.m.2 s U h1 h2 hBk, SA.m.2 s U h1 h2 hSt⟩) ?_
  refine lv_istore_n (lv' := [(3, .int (iI s1)), (2, .ref q), (0, .ref b), (1, .int (iI cal))]) hx hb d_B_read_23 rfl hl (by decide) rfl (fun ls hl => ?_)
  refine lv_aload_n hx hb d_B_read_24 rfl (lv_at hl 2 rfl) ?_
  refine lv_iload_n hx hb d_B_read_25 rfl (lv_at hl 0 rfl) ?_
  refine ai_iconst hx hb d_B_read_26 ?_
  refine ai_iadd hx hb d_B_read_27 ?_
  refine ro_V (rest := []) (ct_B_slashFrom l D b cvA jlA hbA csA sbA vbA cA cB ca N z ml tx L (s1 + 1) i2 s2 hR9 (by omega) hs2.1 hs2.2) j_B_slashFrom k_892 (hts _ s_B_slashFrom) hF hBk.recv rfl hl.1 rfl ⟨Nat.le_of_ble_eq_true rfl, Nat.le_of_ble_eq_true rfl⟩ (Nat.le_of_ble_eq_true rfl) d_B_read_28 ⟨Nat.zero_le _, Nat.zero_le _⟩ (Bm.and RB.m SA.m) (fun U h1 h2 => ⟨RB.m.2 s U h1 h2 hBk, SA.m.2 s U h1 h2 hSt⟩) ?_
  refine lv_istore (lv' := [(4, .int (iI s2)), (3, .int (iI s1)), (2, .ref q), (0, .ref b), (1, .int (iI cal))]) hx hb d_B_read_31 hl (by decide) rfl (fun ls hl => ?_)
  refine lv_aload_n hx hb d_B_read_33 rfl (lv_at hl 3 rfl) ?_
  refine ai_iconst hx hb d_B_read_34 ?_
  refine lv_iload_n hx hb d_B_read_35 rfl (lv_at hl 1 rfl) ?_
  refine ro_V (rest := []) (ct_B_numberIn l D b cvA jlA hbA csA sbA vbA cA cB ca N z ml tx L 0 s1 n1 hR9 (by omega) (by omega) hn1) j_B_numberIn k_896 (hts _ s_B_numberIn) hF hBk.recv rfl hl.1 rfl ⟨Nat.le_of_ble_eq_true rfl, Nat.le_of_ble_eq_true rfl⟩ (Nat.le_of_ble_eq_true rfl) d_B_read_36 ⟨Nat.zero_le _, Nat.zero_le _⟩ (Bm.and RB.m SA.m) (fun U h1 h2 => ⟨RB.m.2 s U h1 h2 hBk, SA.m.2 s U h1 h2 hSt⟩) ?_
  refine lv_istore (lv' := [(5, .int (iI n1)), (4, .int (iI s2)), (3, .int (iI s1)), (2, .ref q), (0, .ref b), (1, .int (iI cal))]) hx hb d_B_read_39 hl (by decide) rfl (fun ls hl => ?_)
  refine lv_aload_n hx hb d_B_read_41 rfl (lv_at hl 4 rfl) ?_
  refine lv_iload_n hx hb d_B_read_42 rfl (lv_at hl 2 rfl) ?_
  refine ai_iconst hx hb d_B_read_43 ?_
  refine ai_iadd hx hb d_B_read_44 ?_
  refine lv_iload hx hb d_B_read_45 (lv_at hl 1 rfl) ?_
  refine ro_V (rest := []) (ct_B_numberIn l D b cvA jlA hbA csA sbA vbA cA cB ca N z ml tx L (s1 + 1) s2 n2 hR9 (by omega) (by omega) hn2) j_B_numberIn k_896 (hts _ s_B_numberIn) hF hBk.recv rfl hl.1 rfl ⟨Nat.le_of_ble_eq_true rfl, Nat.le_of_ble_eq_true rfl⟩ (Nat.le_of_ble_eq_true rfl) d_B_read_47 ⟨Nat.zero_le _, Nat.zero_le _⟩ (Bm.and RB.m SA.m) (fun U h1 h2 => ⟨RB.m.2 s U h1 h2 hBk, SA.m.2 s U h1 h2 hSt⟩) ?_
  refine lv_istore (lv' := [(6, .int (iI n2)), (5, .int (iI n1)), (4, .int (iI s2)), (3, .int (iI s1)), (2, .ref q), (0, .ref b), (1, .int (iI cal))]) hx hb d_B_read_50 hl (by decide) rfl (fun ls hl => ?_)
  refine lv_aload_n hx hb d_B_read_52 rfl (lv_at hl 5 rfl) ?_
  refine lv_iload hx hb d_B_read_53 (lv_at hl 2 rfl) ?_
  refine ai_iconst hx hb d_B_read_55 ?_
  refine ai_iadd hx hb d_B_read_56 ?_
  refine lv_aload_n hx hb d_B_read_57 rfl (lv_at hl 5 rfl) ?_
  refine va_get (D := D) (cl := CL) (ci := 9) (v := .ref sbA) (C := "DayBook") (T := T_B) (N := 5) hx hb hts in_B hown hK hP 0 rfl rfl 4 (by decide) (hts _ k_208) (fun _ h9 => h9) rfl d_B_read_58 ?_
  refine ro_V (rest := [.int (iI (s2 + 1)), .ref b]) (ct_JB_length l D sbA vbA cB N ml z tx) j_JB_length k_252 (hts _ s_JB_length) hF (va_recv (q0 := 2) (ci := 0) hK hP rfl rfl) rfl hl.1 rfl ⟨Nat.le_of_ble_eq_true rfl, Nat.le_of_ble_eq_true rfl⟩ (Nat.le_of_ble_eq_true rfl) d_B_read_61 ⟨Nat.zero_le _, Nat.zero_le _⟩ RB.m (fun U h1 h2 => ⟨va_K.moved h2.alike (va_K.sub hK [1] rfl), by rw [h1]; exact va_P.sub hP [2, 3] rfl⟩) ?_
  refine ro_V (rest := []) (ct_B_numberIn l D b cvA jlA hbA csA sbA vbA cA cB ca N z ml tx L (s2 + 1) z n3 hR9 (by omega) (by omega) hn3) j_B_numberIn k_896 (hts _ s_B_numberIn) hF hBk.recv rfl hl.1 rfl ⟨Nat.le_of_ble_eq_true rfl, Nat.le_of_ble_eq_true rfl⟩ (Nat.le_of_ble_eq_true rfl) d_B_read_64 ⟨Nat.zero_le _, Nat.zero_le _⟩ (Bm.and RB.m SA.m) (fun U h1 h2 => ⟨RB.m.2 s U h1 h2 hBk, SA.m.2 s U h1 h2 hSt⟩) ?_
  refine lv_istore (lv' := [(7, .int (iI n3)), (6, .int (iI n2)), (5, .int (iI n1)), (4, .int (iI s2)), (3, .int (iI s1)), (2, .ref q), (0, .ref b), (1, .int (iI cal))]) hx hb d_B_read_67 hl (by decide) rfl (fun ls hl => ?_)
  refine lv_iload hx hb d_B_read_69 (lv_at hl 2 rfl) ?_
  refine ai_ldc (x := -2147483648) hx hb hown (hts _ k_240) (by decide +kernel) d_B_read_71 ?_
  refine ai_icmp_eq hx hb d_B_read_73 rfl (by omega) (by omega) (fun h73 => ?_) (fun h73 => ?_)
  · skip
    exfalso; omega
  · skip
    refine lv_iload hx hb d_B_read_76 (lv_at hl 1 rfl) ?_
    refine ai_ldc (x := -2147483648) hx hb hown (hts _ k_240) (by decide +kernel) d_B_read_78 ?_
    refine ai_icmp_eq hx hb d_B_read_80 rfl (by omega) (by omega) (fun h80 => ?_) (fun h80 => ?_)
    · skip
      exfalso; omega
    · skip
      refine lv_iload hx hb d_B_read_83 (lv_at hl 0 rfl) ?_
      refine ai_ldc (x := -2147483648) hx hb hown (hts _ k_240) (by decide +kernel) d_B_read_85 ?_
      refine ai_icmp_eq hx hb d_B_read_87 rfl (by omega) (by omega) (fun h87 => ?_) (fun h87 => ?_)
      · skip
        exfalso; omega
      · skip
        refine lv_iload hx hb d_B_read_90 (lv_at hl 2 rfl) ?_
        refine ai_ldc (x := 100000) hx hb hown (hts _ k_700) (by decide +kernel) d_B_read_92 ?_
        refine ro_S (rest := []) (ct_B_isWithin l n1 100000 (by omega) (by omega)) j_B_isWithin k_701 hF rfl hl.1 rfl ⟨Nat.le_of_ble_eq_true rfl, Nat.le_of_ble_eq_true rfl⟩ (Nat.le_of_ble_eq_true rfl) d_B_read_94 ⟨Nat.zero_le _, Nat.zero_le _⟩ Bm_true (fun _ _ _ => trivial) ?_
        refine ai_ifneB hx hb d_B_read_97 rfl (fun h97 => ?_) (fun h97 => ?_)
        · skip
          refine lv_aload_n hx hb d_B_read_108 rfl (lv_at hl 5 rfl) ?_
          refine lv_iload hx hb d_B_read_109 (lv_at hl 2 rfl) ?_
          refine ai_i2l hx hb d_B_read_111 (by omega) ?_
          refine lv_iload hx hb d_B_read_112 (lv_at hl 1 rfl) ?_
          refine lv_iload hx hb d_B_read_114 (lv_at hl 0 rfl) ?_
          refine cd_DR (rest := []) hC (by omega) (by omega) (by omega) hdr hF hl.1 ⟨Nat.le_of_ble_eq_true rfl, Nat.le_of_ble_eq_true rfl⟩ (Nat.le_of_ble_eq_true rfl) d_B_read_116 ⟨Nat.zero_le _, Nat.zero_le _⟩ ?_
          refine lv_lstore (lv' := [(8, .long (iL r)), (7, .int (iI n3)), (6, .int (iI n2)), (5, .int (iI n1)), (4, .int (iI s2)), (3, .int (iI s1)), (2, .ref q), (0, .ref b), (1, .int (iI cal))]) hx hb d_B_read_119 hl (by decide) rfl (fun ls hl => ?_)
          refine lv_lload hx hb d_B_read_121 (lv_at hl 0 rfl) ?_
          refine ai_ldc2 (x := -9223372036854775808) hx hb hown (hts _ k_741) (by decide +kernel) d_B_read_123 ?_
          refine ai_lcmp_eq hx hb d_B_read_126 d_B_read_127 rfl (by omega) (by omega) (fun h126 => ?_) (fun h126 => ?_)
          · skip
            exact xt_throw hx hb htr hown hts hN hT hxt hlk (hl.1.trans hml.symm) xok_IA d_B_read_138 d_B_read_141 d_B_read_142 d_B_read_145 (Nat.le_of_ble_eq_true rfl) (Nat.le_of_ble_eq_true rfl) (Nat.le_of_ble_eq_true rfl) (Nat.le_of_ble_eq_true rfl)
          · skip
            refine lv_lload hx hb d_B_read_130 (lv_at hl 0 rfl) ?_
            refine ro_S (rest := []) (ct_B_isInRange l r (by omega)) j_B_isInRange k_224 hF rfl hl.1 rfl ⟨Nat.le_of_ble_eq_true rfl, Nat.le_of_ble_eq_true rfl⟩ (Nat.le_of_ble_eq_true rfl) d_B_read_132 ⟨Nat.zero_le _, Nat.zero_le _⟩ Bm_true (fun _ _ _ => trivial) ?_
            refine ai_ifneB hx hb d_B_read_135 rfl (fun h135 => ?_) (fun h135 => ?_)
            · skip
              refine lv_lload hx hb d_B_read_146 (lv_at hl 0 rfl) ?_
              refine ai_l2i hx hb d_B_read_148 ?_
              exfalso; omega
            · skip
              exact xt_throw hx hb htr hown hts hN hT hxt hlk (hl.1.trans hml.symm) xok_IA d_B_read_138 d_B_read_141 d_B_read_142 d_B_read_145 (Nat.le_of_ble_eq_true rfl) (Nat.le_of_ble_eq_true rfl) (Nat.le_of_ble_eq_true rfl) (Nat.le_of_ble_eq_true rfl)
        · skip
          exfalso; omega
set_option maxHeartbeats 4000000 in
set_option maxRecDepth 100000 in
theorem ct_B_write_n (l : Launch) (hfl : l.flags = pinnedFlags ++ [noTraceFlag]) (D : va_G) (b : Nat) (cvA : Nat) (jlA : Nat) (hbA : Nat) (csA : Nat) (sbA : Nat) (vbA : Nat) (cA : ClassId) (cB : ClassId) (ca : Nat → Option Nat) (N : Nat) (z : Int) (ml : Int) (tx : Nat → Int) (cal : Int) (d : Int) (r_cal : -2147483648 ≤ cal ∧ cal ≤ 2147483647) (r_d : -2147483648 ≤ d ∧ d ≤ 2147483647) (hcn : CN ca cal) : MetX l y_B_write w_B_write ({ frames := 6, cells := 1, slots := 6, locals := 152 }) (va_Pc [.ref b, .int (iI cal), .int (iI d)] (fun U => NV U ∧ (fun U => BkB D b cvA jlA hbA csA sbA vbA cA cB ca N z ml tx U ∧ TSt U) U)) "java/lang/IndexOutOfBoundsException" 1 6 := by
  refine xt_of hfl (by decide +kernel) (Nat.le_of_ble_eq_true rfl) ?_
  intro p e s m below meth c ls htr hxt hx hb hr hts hown hlk hml hl hN hB
  have hown : s.vm.findClass "DayBook" = some m.cls := hown
  have hl : lv_has ls 6 [(0, .ref b), (1, .int (iI cal)), (2, .int (iI d))] := hl
  have hF : _ ∧ _ ∧ _ ∧ _ ∧ _ ∧ _ := ⟨hx, hb, hml, hown, hts, hN⟩
  obtain ⟨hBk, hT⟩ := hB
  have hK := hBk.1
  have hP := hBk.2
  refine lv_aload_n hx hb d_B_write_0 rfl (lv_at hl 0 rfl) ?_
  refine lv_iload_n hx hb d_B_write_1 rfl (lv_at hl 1 rfl) ?_
  refine ro_V (rest := []) (ct_B_calendarAt_n l D b cvA jlA hbA csA sbA vbA cA cB ca N z ml tx cal (by omega) hcn) j_B_calendarAt k_496 (hts _ s_B_calendarAt) hF hBk.recv rfl hl.1 rfl ⟨Nat.le_of_ble_eq_true rfl, Nat.le_of_ble_eq_true rfl⟩ (Nat.le_of_ble_eq_true rfl) d_B_write_2 ⟨Nat.zero_le _, Nat.zero_le _⟩ BkB.m (fun U h1 h2 => BkB.m.2 s U h1 h2 hBk) ?_
  refine lv_astore_nN (lv' := [(3, .null), (0, .ref b), (1, .int (iI cal)), (2, .int (iI d))]) hx hb d_B_write_5 rfl hl (by decide) rfl (fun ls hl => ?_)
  refine lv_aload_nN hx hb d_B_write_6 rfl (lv_at hl 0 rfl) ?_
  refine lv_ifnonnullN hx hb d_B_write_7 ?_
  exact xt_throw hx hb htr hown hts hN hT hxt hlk (hl.1.trans hml.symm) xok_IX d_B_write_10 d_B_write_13 d_B_write_14 d_B_write_17 (Nat.le_of_ble_eq_true rfl) (Nat.le_of_ble_eq_true rfl) (Nat.le_of_ble_eq_true rfl) (Nat.le_of_ble_eq_true rfl)
set_option maxHeartbeats 4000000 in
set_option maxRecDepth 100000 in
theorem ct_B_write_a (l : Launch) (hfl : l.flags = pinnedFlags ++ [noTraceFlag]) (D : va_G) (b : Nat) (cvA : Nat) (jlA : Nat) (hbA : Nat) (csA : Nat) (sbA : Nat) (vbA : Nat) (cA : ClassId) (cB : ClassId) (ca : Nat → Option Nat) (N : Nat) (z : Int) (ml : Int) (tx : Nat → Int) (cal : Int) (d : Int) (q : Nat) (r_cal : -2147483648 ≤ cal ∧ cal ≤ 2147483647) (r_d : -2147483648 ≤ d ∧ d ≤ 2147483647) (hcs : CS ca cal q) (hd : ¬ (-40000000 ≤ d ∧ d ≤ 40000000)) : MetX l y_B_write w_B_write ({ frames := 6, cells := 1, slots := 6, locals := 152 }) (va_Pc [.ref b, .int (iI cal), .int (iI d)] (fun U => NV U ∧ (fun U => BkB D b cvA jlA hbA csA sbA vbA cA cB ca N z ml tx U ∧ TSt U) U)) "java/lang/ArithmeticException" 1 6 := by
  refine xt_of hfl (by decide +kernel) (Nat.le_of_ble_eq_true rfl) ?_
  intro p e s m below meth c ls htr hxt hx hb hr hts hown hlk hml hl hN hB
  have hown : s.vm.findClass "DayBook" = some m.cls := hown
  have hl : lv_has ls 6 [(0, .ref b), (1, .int (iI cal)), (2, .int (iI d))] := hl
  have hF : _ ∧ _ ∧ _ ∧ _ ∧ _ ∧ _ := ⟨hx, hb, hml, hown, hts, hN⟩
  obtain ⟨hBk, hT⟩ := hB
  have hK := hBk.1
  have hP := hBk.2
  refine lv_aload_n hx hb d_B_write_0 rfl (lv_at hl 0 rfl) ?_
  refine lv_iload_n hx hb d_B_write_1 rfl (lv_at hl 1 rfl) ?_
  refine ro_V (rest := []) (ct_B_calendarAt_s l D b cvA jlA hbA csA sbA vbA cA cB ca N z ml tx cal q (by omega) hcs) j_B_calendarAt k_496 (hts _ s_B_calendarAt) hF hBk.recv rfl hl.1 rfl ⟨Nat.le_of_ble_eq_true rfl, Nat.le_of_ble_eq_true rfl⟩ (Nat.le_of_ble_eq_true rfl) d_B_write_2 ⟨Nat.zero_le _, Nat.zero_le _⟩ BkB.m (fun U h1 h2 => BkB.m.2 s U h1 h2 hBk) ?_
  refine lv_astore_n (lv' := [(3, .ref q), (0, .ref b), (1, .int (iI cal)), (2, .int (iI d))]) hx hb d_B_write_5 rfl hl (by decide) rfl (fun ls hl => ?_)
  refine lv_aload_n hx hb d_B_write_6 rfl (lv_at hl 0 rfl) ?_
  refine lv_ifnonnull hx hb d_B_write_7 rfl ?_
  refine lv_iload_n hx hb d_B_write_18 rfl (lv_at hl 3 rfl) ?_
  refine ai_i2l hx hb d_B_write_19 (by omega) ?_
  refine ro_S (rest := []) (ct_B_isInRange l d (by omega)) j_B_isInRange k_224 hF rfl hl.1 rfl ⟨Nat.le_of_ble_eq_true rfl, Nat.le_of_ble_eq_true rfl⟩ (Nat.le_of_ble_eq_true rfl) d_B_write_20 ⟨Nat.zero_le _, Nat.zero_le _⟩ Bm_true (fun _ _ _ => trivial) ?_
  refine ai_ifneB hx hb d_B_write_23 rfl (fun h23 => absurd h23 hd) (fun h23 => ?_)
  exact xt_throw hx hb htr hown hts hN hT hxt hlk (hl.1.trans hml.symm) xok_AR d_B_write_26 d_B_write_29 d_B_write_30 d_B_write_33 (Nat.le_of_ble_eq_true rfl) (Nat.le_of_ble_eq_true rfl) (Nat.le_of_ble_eq_true rfl) (Nat.le_of_ble_eq_true rfl)
set_option maxHeartbeats 4000000 in
set_option maxRecDepth 100000 in
theorem ct_B_plug_x (l : Launch) (hfl : l.flags = pinnedFlags ++ [noTraceFlag]) (D : va_G) (b : Nat) (cvA : Nat) (jlA : Nat) (hbA : Nat) (csA : Nat) (sbA : Nat) (vbA : Nat) (cA : ClassId) (cB : ClassId) (ca : Nat → Option Nat) (N : Nat) (z : Int) (ml : Int) (tx : Nat → Int) (k : Int) (mo : Int) (le : Int) (ep : Int) (ra : Int) (rb : Int) (rc : Int) (r_k : -2147483648 ≤ k ∧ k ≤ 2147483647) (r_mo : -2147483648 ≤ mo ∧ mo ≤ 2147483647) (r_le : -2147483648 ≤ le ∧ le ≤ 2147483647) (r_ep : -2147483648 ≤ ep ∧ ep ≤ 2147483647) (r_ra : -2147483648 ≤ ra ∧ ra ≤ 2147483647) (r_rb : -2147483648 ≤ rb ∧ rb ≤ 2147483647) (r_rc : -2147483648 ≤ rc ∧ rc ≤ 2147483647) (hk : ¬ (0 ≤ k ∧ k ≤ 1)) : MetX l y_B_plug w_B_plug ({ frames := 6, cells := 1, slots := 6, locals := 100 }) (va_Pc [.ref b, .int (iI k), .int (iI mo), .int (iI le), .int (iI ep), .int (iI ra), .int (iI rb), .int (iI rc)] (fun U => NV U ∧ (fun U => BkB D b cvA jlA hbA csA sbA vbA cA cB ca N z ml tx U ∧ TSt U) U)) "java/lang/IndexOutOfBoundsException" 1 6 := by
  refine xt_of hfl (by decide +kernel) (Nat.le_of_ble_eq_true rfl) ?_
  intro p e s m below meth c ls htr hxt hx hb hr hts hown hlk hml hl hN hB
  have hown : s.vm.findClass "DayBook" = some m.cls := hown
  have hl : lv_has ls 12 [(0, .ref b), (1, .int (iI k)), (2, .int (iI mo)), (3, .int (iI le)), (4, .int (iI ep)), (5, .int (iI ra)), (6, .int (iI rb)), (7, .int (iI rc))] := hl
  have hF : _ ∧ _ ∧ _ ∧ _ ∧ _ ∧ _ := ⟨hx, hb, hml, hown, hts, hN⟩
  obtain ⟨hBk, hT⟩ := hB
  have hK := hBk.1
  have hP := hBk.2
  refine lv_iload_n hx hb d_B_plug_0 rfl (lv_at hl 1 rfl) ?_
  refine ai_if_lt hx hb d_B_plug_1 rfl (by omega) (fun h1 => ?_) (fun h1 => ?_)
  · skip
    exact xt_throw hx hb htr hown hts hN hT hxt hlk (hl.1.trans hml.symm) xok_IX d_B_plug_9 d_B_plug_12 d_B_plug_13 d_B_plug_16 (Nat.le_of_ble_eq_true rfl) (Nat.le_of_ble_eq_true rfl) (Nat.le_of_ble_eq_true rfl) (Nat.le_of_ble_eq_true rfl)
  · skip
    refine lv_iload_n hx hb d_B_plug_4 rfl (lv_at hl 1 rfl) ?_
    refine ai_iconst hx hb d_B_plug_5 ?_
    refine ai_icmp_le hx hb d_B_plug_6 rfl (by omega) (by omega) (fun h6 => ?_) (fun h6 => ?_)
    · skip
      exfalso; omega
    · skip
      exact xt_throw hx hb htr hown hts hN hT hxt hlk (hl.1.trans hml.symm) xok_IX d_B_plug_9 d_B_plug_12 d_B_plug_13 d_B_plug_16 (Nat.le_of_ble_eq_true rfl) (Nat.le_of_ble_eq_true rfl) (Nat.le_of_ble_eq_true rfl) (Nat.le_of_ble_eq_true rfl)
set_option maxHeartbeats 4000000 in
set_option maxRecDepth 100000 in
theorem ct_B_plug_i (l : Launch) (hfl : l.flags = pinnedFlags ++ [noTraceFlag]) (D : va_G) (b : Nat) (cvA : Nat) (jlA : Nat) (hbA : Nat) (csA : Nat) (sbA : Nat) (vbA : Nat) (cA : ClassId) (cB : ClassId) (ca : Nat → Option Nat) (N : Nat) (z : Int) (ml : Int) (tx : Nat → Int) (k : Int) (mo : Int) (le : Int) (ep : Int) (ra : Int) (rb : Int) (rc : Int) (r_k : -2147483648 ≤ k ∧ k ≤ 2147483647) (r_mo : -2147483648 ≤ mo ∧ mo ≤ 2147483647) (r_le : -2147483648 ≤ le ∧ le ≤ 2147483647) (r_ep : -2147483648 ≤ ep ∧ ep ≤ 2147483647) (r_ra : -2147483648 ≤ ra ∧ ra ≤ 2147483647) (r_rb : -2147483648 ≤ rb ∧ rb ≤ 2147483647) (r_rc : -2147483648 ≤ rc ∧ rc ≤ 2147483647) (hk : 0 ≤ k ∧ k ≤ 1) (hok : ¬ okP mo le ep ra rb rc) : MetX l y_B_plug w_B_plug ({ frames := 6, cells := 1, slots := 6, locals := 100 }) (va_Pc [.ref b, .int (iI k), .int (iI mo), .int (iI le), .int (iI ep), .int (iI ra), .int (iI rb), .int (iI rc)] (fun U => NV U ∧ (fun U => BkB D b cvA jlA hbA csA sbA vbA cA cB ca N z ml tx U ∧ TSt U) U)) "java/lang/IllegalArgumentException" 1 6 := by
  refine xt_of hfl (by decide +kernel) (Nat.le_of_ble_eq_true rfl) ?_
  intro p e s m below meth c ls htr hxt hx hb hr hts hown hlk hml hl hN hB
  have hown : s.vm.findClass "DayBook" = some m.cls := hown
  have hl : lv_has ls 12 [(0, .ref b), (1, .int (iI k)), (2, .int (iI mo)), (3, .int (iI le)), (4, .int (iI ep)), (5, .int (iI ra)), (6, .int (iI rb)), (7, .int (iI rc))] := hl
  have hF : _ ∧ _ ∧ _ ∧ _ ∧ _ ∧ _ := ⟨hx, hb, hml, hown, hts, hN⟩
  obtain ⟨hBk, hT⟩ := hB
  have hK := hBk.1
  have hP := hBk.2
  have hJ105 : ∀ (f8 : Int) (f9 : Int) (ls : Array Slot), lv_has ls 12 [(8, .int (iI f8)), (9, .int (iI f9))] → ((f8 = 1 ∧ (((1 ≤ mo ∧ mo ≤ 20) ∧ (1 ≤ le ∧ le ≤ 40)) ∧ (-1000000 ≤ ep ∧ ep ≤ 1000000))) ∨ (f8 = 0 ∧ ¬ (((1 ≤ mo ∧ mo ≤ 20) ∧ (1 ≤ le ∧ le ≤ 40)) ∧ (-1000000 ≤ ep ∧ ep ≤ 1000000)))) → ((f9 = 1 ∧ ((1 ≤ rc ∧ rc ≤ 1000) ∧ (0 ≤ ra ∧ ra ≤ rc) ∧ (0 ≤ rb ∧ rb < rc))) ∨ (f9 = 0 ∧ ¬ ((1 ≤ rc ∧ rc ≤ 1000) ∧ (0 ≤ ra ∧ ra ≤ rc) ∧ (0 ≤ rb ∧ rb < rc)))) → W p l e (headSpec w_B_plug ({ frames := 6, cells := 1, slots := 6, locals := 100 })).room s m [.ref b, .int (iI k), .int (iI mo), .int (iI le), .int (iI ep), .int (iI ra), .int (iI rb), .int (iI rc)].toArray below meth c s.heap [] 0 0 (XQ below "java/lang/IllegalArgumentException" s 1 6) (F0 m 105 ls []) := by
    intro f8 f9 ls hl h8 h9
    refine lv_iload hx hb d_B_plug_105 (lv_at hl 0 rfl) ?_
    refine ai_if_eq hx hb d_B_plug_107 rfl (by omega) (fun h107 => ?_) (fun h107 => ?_)
    · skip
      exact xt_throw hx hb htr hown hts hN hT hxt hlk (hl.1.trans hml.symm) xok_IA d_B_plug_115 d_B_plug_118 d_B_plug_119 d_B_plug_122 (Nat.le_of_ble_eq_true rfl) (Nat.le_of_ble_eq_true rfl) (Nat.le_of_ble_eq_true rfl) (Nat.le_of_ble_eq_true rfl)
    · skip
      refine lv_iload hx hb d_B_plug_110 (lv_at hl 1 rfl) ?_
      refine ai_if_ne hx hb d_B_plug_112 rfl (by omega) (fun h112 => ?_) (fun h112 => ?_)
      · skip
        exfalso; exact hok (by unfold okP; omega)
      · skip
        exact xt_throw hx hb htr hown hts hN hT hxt hlk (hl.1.trans hml.symm) xok_IA d_B_plug_115 d_B_plug_118 d_B_plug_119 d_B_plug_122 (Nat.le_of_ble_eq_true rfl) (Nat.le_of_ble_eq_true rfl) (Nat.le_of_ble_eq_true rfl) (Nat.le_of_ble_eq_true rfl)
  have hJ60 : ∀ (f8 : Int) (ls : Array Slot), lv_has ls 12 [(8, .int (iI f8)), (1, .int (iI k)), (2, .int (iI mo)), (3, .int (iI le)), (4, .int (iI ep)), (5, .int (iI ra)), (6, .int (iI rb)), (7, .int (iI rc))] → ((f8 = 1 ∧ (((1 ≤ mo ∧ mo ≤ 20) ∧ (1 ≤ le ∧ le ≤ 40)) ∧ (-1000000 ≤ ep ∧ ep ≤ 1000000))) ∨ (f8 = 0 ∧ ¬ (((1 ≤ mo ∧ mo ≤ 20) ∧ (1 ≤ le ∧ le ≤ 40)) ∧ (-1000000 ≤ ep ∧ ep ≤ 1000000)))) → W p l e (headSpec w_B_plug ({ frames := 6, cells := 1, slots := 6, locals := 100 })).room s m [.ref b, .int (iI k), .int (iI mo), .int (iI le), .int (iI ep), .int (iI ra), .int (iI rb), .int (iI rc)].toArray below meth c s.heap [] 0 0 (XQ below "java/lang/IllegalArgumentException" s 1 6) (F0 m 60 ls []) := by
    intro f8 ls hl h8
    refine lv_iload hx hb d_B_plug_60 (lv_at hl 7 rfl) ?_
    refine ai_iconst hx hb d_B_plug_62 ?_
    refine ai_icmp_lt hx hb d_B_plug_63 rfl (by omega) (by omega) (fun h63 => ?_) (fun h63 => ?_)
    · skip
      refine ai_iconst hx hb d_B_plug_102 ?_
      refine lv_istore (lv' := [(9, .int (iI 0)), (8, .int (iI f8)), (1, .int (iI k)), (2, .int (iI mo)), (3, .int (iI le)), (4, .int (iI ep)), (5, .int (iI ra)), (6, .int (iI rb)), (7, .int (iI rc))]) hx hb d_B_plug_103 hl (by decide) rfl (fun ls hl => ?_)
      exact hJ105 f8 0 _ (lv_sub hl [1, 0] rfl) (by omega) (by omega)
    · skip
      refine lv_iload hx hb d_B_plug_66 (lv_at hl 7 rfl) ?_
      refine ai_sipush (x := 1000) hx hb d_B_plug_68 (by decide +kernel) ?_
      refine ai_icmp_gt hx hb d_B_plug_71 rfl (by omega) (by omega) (fun h71 => ?_) (fun h71 => ?_)
      · skip
        refine ai_iconst hx hb d_B_plug_102 ?_
        refine lv_istore (lv' := [(9, .int (iI 0)), (8, .int (iI f8)), (1, .int (iI k)), (2, .int (iI mo)), (3, .int (iI le)), (4, .int (iI ep)), (5, .int (iI ra)), (6, .int (iI rb)), (7, .int (iI rc))]) hx hb d_B_plug_103 hl (by decide) rfl (fun ls hl => ?_)
        exact hJ105 f8 0 _ (lv_sub hl [1, 0] rfl) (by omega) (by omega)
      · skip
        refine lv_iload hx hb d_B_plug_74 (lv_at hl 5 rfl) ?_
        refine ai_if_lt hx hb d_B_plug_76 rfl (by omega) (fun h76 => ?_) (fun h76 => ?_)
        · skip
          refine ai_iconst hx hb d_B_plug_102 ?_
          refine lv_istore (lv' := [(9, .int (iI 0)), (8, .int (iI f8)), (1, .int (iI k)), (2, .int (iI mo)), (3, .int (iI le)), (4, .int (iI ep)), (5, .int (iI ra)), (6, .int (iI rb)), (7, .int (iI rc))]) hx hb d_B_plug_103 hl (by decide) rfl (fun ls hl => ?_)
          exact hJ105 f8 0 _ (lv_sub hl [1, 0] rfl) (by omega) (by omega)
        · skip
          refine lv_iload hx hb d_B_plug_79 (lv_at hl 5 rfl) ?_
          refine lv_iload hx hb d_B_plug_81 (lv_at hl 7 rfl) ?_
          refine ai_icmp_gt hx hb d_B_plug_83 rfl (by omega) (by omega) (fun h83 => ?_) (fun h83 => ?_)
          · skip
            refine ai_iconst hx hb d_B_plug_102 ?_
            refine lv_istore (lv' := [(9, .int (iI 0)), (8, .int (iI f8)), (1, .int (iI k)), (2, .int (iI mo)), (3, .int (iI le)), (4, .int (iI ep)), (5, .int (iI ra)), (6, .int (iI rb)), (7, .int (iI rc))]) hx hb d_B_plug_103 hl (by decide) rfl (fun ls hl => ?_)
            exact hJ105 f8 0 _ (lv_sub hl [1, 0] rfl) (by omega) (by omega)
          · skip
            refine lv_iload hx hb d_B_plug_86 (lv_at hl 6 rfl) ?_
            refine ai_if_lt hx hb d_B_plug_88 rfl (by omega) (fun h88 => ?_) (fun h88 => ?_)
            · skip
              refine ai_iconst hx hb d_B_plug_102 ?_
              refine lv_istore (lv' := [(9, .int (iI 0)), (8, .int (iI f8)), (1, .int (iI k)), (2, .int (iI mo)), (3, .int (iI le)), (4, .int (iI ep)), (5, .int (iI ra)), (6, .int (iI rb)), (7, .int (iI rc))]) hx hb d_B_plug_103 hl (by decide) rfl (fun ls hl => ?_)
              exact hJ105 f8 0 _ (lv_sub hl [1, 0] rfl) (by omega) (by omega)
            · skip
              refine lv_iload hx hb d_B_plug_91 (lv_at hl 6 rfl) ?_
              refine lv_iload hx hb d_B_plug_93 (lv_at hl 7 rfl) ?_
              refine ai_icmp_ge hx hb d_B_plug_95 rfl (by omega) (by omega) (fun h95 => ?_) (fun h95 => ?_)
              · skip
                refine ai_iconst hx hb d_B_plug_102 ?_
                refine lv_istore (lv' := [(9, .int (iI 0)), (8, .int (iI f8)), (1, .int (iI k)), (2, .int (iI mo)), (3, .int (iI le)), (4, .int (iI ep)), (5, .int (iI ra)), (6, .int (iI rb)), (7, .int (iI rc))]) hx hb d_B_plug_103 hl (by decide) rfl (fun ls hl => ?_)
                exact hJ105 f8 0 _ (lv_sub hl [1, 0] rfl) (by omega) (by omega)
              · skip
                refine ai_iconst hx hb d_B_plug_98 ?_
                refine lv_goto hx hb d_B_plug_99 rfl ?_
                refine lv_istore (lv' := [(9, .int (iI 1)), (8, .int (iI f8)), (1, .int (iI k)), (2, .int (iI mo)), (3, .int (iI le)), (4, .int (iI ep)), (5, .int (iI ra)), (6, .int (iI rb)), (7, .int (iI rc))]) hx hb d_B_plug_103 hl (by decide) rfl (fun ls hl => ?_)
                exact hJ105 f8 1 _ (lv_sub hl [1, 0] rfl) (by omega) (by omega)
  refine lv_iload_n hx hb d_B_plug_0 rfl (lv_at hl 1 rfl) ?_
  refine ai_if_lt hx hb d_B_plug_1 rfl (by omega) (fun h1 => by exfalso; omega) (fun h1 => ?_)
  refine lv_iload_n hx hb d_B_plug_4 rfl (lv_at hl 1 rfl) ?_
  refine ai_iconst hx hb d_B_plug_5 ?_
  refine ai_icmp_le hx hb d_B_plug_6 rfl (by omega) (by omega) (fun h6 => ?_) (fun h6 => by exfalso; omega)
  refine lv_iload_n hx hb d_B_plug_17 rfl (lv_at hl 2 rfl) ?_
  refine ai_iconst hx hb d_B_plug_18 ?_
  refine ai_icmp_lt hx hb d_B_plug_19 rfl (by omega) (by omega) (fun h19 => ?_) (fun h19 => ?_)
  · skip
    refine ai_iconst hx hb d_B_plug_57 ?_
    refine lv_istore (lv' := [(8, .int (iI 0)), (0, .ref b), (1, .int (iI k)), (2, .int (iI mo)), (3, .int (iI le)), (4, .int (iI ep)), (5, .int (iI ra)), (6, .int (iI rb)), (7, .int (iI rc))]) hx hb d_B_plug_58 hl (by decide) rfl (fun ls hl => ?_)
    exact hJ60 0 _ (lv_sub hl [0, 2, 3, 4, 5, 6, 7, 8] rfl) (by omega)
  · skip
    refine lv_iload_n hx hb d_B_plug_22 rfl (lv_at hl 2 rfl) ?_
    refine ai_bipush (x := 20) hx hb d_B_plug_23 (by decide +kernel) ?_
    refine ai_icmp_gt hx hb d_B_plug_25 rfl (by omega) (by omega) (fun h25 => ?_) (fun h25 => ?_)
    · skip
      refine ai_iconst hx hb d_B_plug_57 ?_
      refine lv_istore (lv' := [(8, .int (iI 0)), (0, .ref b), (1, .int (iI k)), (2, .int (iI mo)), (3, .int (iI le)), (4, .int (iI ep)), (5, .int (iI ra)), (6, .int (iI rb)), (7, .int (iI rc))]) hx hb d_B_plug_58 hl (by decide) rfl (fun ls hl => ?_)
      exact hJ60 0 _ (lv_sub hl [0, 2, 3, 4, 5, 6, 7, 8] rfl) (by omega)
    · skip
      refine lv_iload_n hx hb d_B_plug_28 rfl (lv_at hl 3 rfl) ?_
      refine ai_iconst hx hb d_B_plug_29 ?_
      refine ai_icmp_lt hx hb d_B_plug_30 rfl (by omega) (by omega) (fun h30 => ?_) (fun h30 => ?_)
      · skip
        refine ai_iconst hx hb d_B_plug_57 ?_
        refine lv_istore (lv' := [(8, .int (iI 0)), (0, .ref b), (1, .int (iI k)), (2, .int (iI mo)), (3, .int (iI le)), (4, .int (iI ep)), (5, .int (iI ra)), (6, .int (iI rb)), (7, .int (iI rc))]) hx hb d_B_plug_58 hl (by decide) rfl (fun ls hl => ?_)
        exact hJ60 0 _ (lv_sub hl [0, 2, 3, 4, 5, 6, 7, 8] rfl) (by omega)
      · skip
        refine lv_iload_n hx hb d_B_plug_33 rfl (lv_at hl 3 rfl) ?_
        refine ai_bipush (x := 40) hx hb d_B_plug_34 (by decide +kernel) ?_
        refine ai_icmp_gt hx hb d_B_plug_36 rfl (by omega) (by omega) (fun h36 => ?_) (fun h36 => ?_)
        · skip
          refine ai_iconst hx hb d_B_plug_57 ?_
          refine lv_istore (lv' := [(8, .int (iI 0)), (0, .ref b), (1, .int (iI k)), (2, .int (iI mo)), (3, .int (iI le)), (4, .int (iI ep)), (5, .int (iI ra)), (6, .int (iI rb)), (7, .int (iI rc))]) hx hb d_B_plug_58 hl (by decide) rfl (fun ls hl => ?_)
          exact hJ60 0 _ (lv_sub hl [0, 2, 3, 4, 5, 6, 7, 8] rfl) (by omega)
        · skip
          refine lv_iload hx hb d_B_plug_39 (lv_at hl 4 rfl) ?_
          refine ai_ldc (x := -1000000) hx hb hown (hts _ k_467) (by decide +kernel) d_B_plug_41 ?_
          refine ai_icmp_lt hx hb d_B_plug_43 rfl (by omega) (by omega) (fun h43 => ?_) (fun h43 => ?_)
          · skip
            refine ai_iconst hx hb d_B_plug_57 ?_
            refine lv_istore (lv' := [(8, .int (iI 0)), (0, .ref b), (1, .int (iI k)), (2, .int (iI mo)), (3, .int (iI le)), (4, .int (iI ep)), (5, .int (iI ra)), (6, .int (iI rb)), (7, .int (iI rc))]) hx hb d_B_plug_58 hl (by decide) rfl (fun ls hl => ?_)
            exact hJ60 0 _ (lv_sub hl [0, 2, 3, 4, 5, 6, 7, 8] rfl) (by omega)
          · skip
            refine lv_iload hx hb d_B_plug_46 (lv_at hl 4 rfl) ?_
            refine ai_ldc (x := 1000000) hx hb hown (hts _ k_468) (by decide +kernel) d_B_plug_48 ?_
            refine ai_icmp_gt hx hb d_B_plug_50 rfl (by omega) (by omega) (fun h50 => ?_) (fun h50 => ?_)
            · skip
              refine ai_iconst hx hb d_B_plug_57 ?_
              refine lv_istore (lv' := [(8, .int (iI 0)), (0, .ref b), (1, .int (iI k)), (2, .int (iI mo)), (3, .int (iI le)), (4, .int (iI ep)), (5, .int (iI ra)), (6, .int (iI rb)), (7, .int (iI rc))]) hx hb d_B_plug_58 hl (by decide) rfl (fun ls hl => ?_)
              exact hJ60 0 _ (lv_sub hl [0, 2, 3, 4, 5, 6, 7, 8] rfl) (by omega)
            · skip
              refine ai_iconst hx hb d_B_plug_53 ?_
              refine lv_goto hx hb d_B_plug_54 rfl ?_
              refine lv_istore (lv' := [(8, .int (iI 1)), (0, .ref b), (1, .int (iI k)), (2, .int (iI mo)), (3, .int (iI le)), (4, .int (iI ep)), (5, .int (iI ra)), (6, .int (iI rb)), (7, .int (iI rc))]) hx hb d_B_plug_58 hl (by decide) rfl (fun ls hl => ?_)
              exact hJ60 1 _ (lv_sub hl [0, 2, 3, 4, 5, 6, 7, 8] rfl) (by omega)
