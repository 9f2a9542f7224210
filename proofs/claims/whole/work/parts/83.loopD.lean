/-! 83.loopD: laid by program (wip/whole) -/
set_option maxHeartbeats 4000000 in
set_option maxRecDepth 100000 in
theorem lop_plug {p : Program} {l : Launch} {e : Env} {s : State} {m : MethodId} {below : List Frame} {meth : Method} {c : Code} {Q : State → Prop} {sc L : Nat} {xs : Nat → Int32} {D : va_G} {cA cB : ClassId} {cx : Nat → ClassId} {sr : Nat → Nat} {b cvA jlA hbA csA sbA oa a : Nat} {ad : Nat → Nat} (hLC : LC p l s m c sc L xs D cA cB cx sr) {H : Heap} {locs : List Loc} (hI : LI D cA cB cx sr s b cvA jlA hbA csA sbA oa a ad H locs) {i : Int} (hi : 0 ≤ i ∧ i + 8 ≤ L) {ls : Array Slot} (hl : lv_has ls 7 [(0, .ref sc), (1, .ref b), (2, .ref a), (3, .ref oa), (4, .int (iI i))]) {cells slots : Nat} (hcs : cells + 6 ≤ 674659 ∧ slots + 200 ≤ 7072127) (kk : ∀ (H1 : Heap) (locs1 : List Loc) (ls1 : Array Slot), LI D cA cB cx sr s b cvA jlA hbA csA sbA oa a ad H1 locs1 → lv_has ls1 7 [(0, .ref sc), (1, .ref b), (2, .ref a), (3, .ref oa), (4, .int (iI i))] → W p l e room_1 s m (#[Value.ref sc] : Array Value) below meth c H1 locs1 (cells + 6) (slots + 200) Q (F0 m 1001 ls1 [])) : W p l e room_1 s m (#[Value.ref sc] : Array Value) below meth c H locs cells slots Q (F0 m 112 ls []) := by
  obtain ⟨hF, ⟨hX, hbl, hL⟩, hK, ⟨hSA, hDs, hTs, hNc⟩, hfl⟩ := id hLC
  obtain ⟨hx, hb, hml, hown, hts, hN⟩ := id hF
  have hscA : ¬ newA s sc := fun h => absurd h (by show ¬ s.heap.size ≤ sc; omega)
  have hA9 : ∀ q, s.heap.size ≤ q → newA s q := fun q h => h
  obtain ⟨vbA, ca, N, z, ml, tx, v0, F, g, CW, Lx, hP, hD, hS, hT, ⟨hv, hca⟩, hC⟩ := hI
  have hU : ∀ U : State, U.heap = H → s.WarmedH U.vm → UA D cA cB cx sr b cvA jlA hbA csA sbA vbA ca N z ml tx CW U := LU hLC hP hS
  have hKm : va_K D CL (MTy cx) s := va_K.sub hK [2, 3, 4, 5] rfl
  by_cases hgo : (0 ≤ (sxI xs (i + 1)) ∧ (sxI xs (i + 1)) ≤ 1) ∧ okP (sxI xs (i + 2)) (sxI xs (i + 3)) (sxI xs (i + 4)) (sxI xs (i + 5)) (sxI xs (i + 6)) (sxI xs (i + 7))
  · skip
    have ev : bI (ca (Int.toNat (12 + (sxI xs (i + 1)))) ≠ none) = bI ((0 : Int) = 0 ∧ g 2 (Int.toNat (sxI xs (i + 1))) = 1) := by
      refine bI_iff ?_
      have hg2 := (hv.2 (Int.toNat (sxI xs (i + 1))) (by omega)).1
      rcases hC.1 (Int.toNat (12 + (sxI xs (i + 1)))) (by omega) with ⟨k1, k2⟩ | ⟨q, k1, k2, -⟩
      · rw [k1]
        have k3 : g 2 (Int.toNat (sxI xs (i + 1))) = 0 := by
          by_cases z9 : g 2 (Int.toNat (sxI xs (i + 1))) = 0
          · exact z9
          · exact absurd (Or.inr ⟨by omega, by rw [show Int.toNat (((Int.toNat (12 + (sxI xs (i + 1))) : Nat) : Int) - 12) = Int.toNat (sxI xs (i + 1)) by omega]; exact z9⟩) k2
        constructor
        · intro h; exact absurd rfl h
        · intro h; omega
      · rw [k1]
        have k3 : g 2 (Int.toNat (sxI xs (i + 1))) ≠ 0 := by
          rcases k2 with k2 | ⟨-, k2⟩
          · omega
          · rw [show Int.toNat (((Int.toNat (12 + (sxI xs (i + 1))) : Nat) : Int) - 12) = Int.toNat (sxI xs (i + 1)) by omega] at k2; exact k2
        constructor
        · intro _; exact ⟨rfl, by omega⟩
        · intro _ h; cases h
    obtain ⟨x, hxd⟩ : ∃ x : Int, x = bI ((0 : Int) = 0 ∧ g 2 (Int.toNat (sxI xs (i + 1))) = 1) := ⟨_, rfl⟩
    have hx01 : x = 0 ∨ x = 1 := by rw [hxd]; exact bI_or _
    have rx : -2147483648 ≤ x ∧ x ≤ 2147483647 := by omega
    have hM := (ct_M_plug l D a ad cx F g (sxI xs (i + 1)) (sxI xs (i + 2)) (sxI xs (i + 3)) (sxI xs (i + 4)) (sxI xs (i + 5)) (sxI xs (i + 6)) (sxI xs (i + 7)) 0 hv hca (sxI_rng _ _) (sxI_rng _ _) (sxI_rng _ _) (sxI_rng _ _) (sxI_rng _ _) (sxI_rng _ _) (sxI_rng _ _) (Or.inr (Or.inr ⟨rfl, hgo⟩)))
    rw [← hxd] at hM
    obtain ⟨fr2, hf2⟩ : ∃ n : Nat, n = 5 := ⟨_, rfl⟩
    obtain ⟨lo2, hl2⟩ : ∃ n : Nat, n = 116 := ⟨_, rfl⟩
    rw [← hf2, ← hl2] at hM
    refine lv_aload_n hx hb d_L_112 rfl (lv_at hl 1 rfl) ?_
    refine lv_aload_n hx hb d_L_113 rfl (lv_at hl 0 rfl) ?_
    refine lv_iload hx hb d_L_114 (lv_at hl 4 rfl) ?_
    refine ai_iconst hx hb d_L_116 ?_
    refine ai_iadd hx hb d_L_117 ?_
    refine la_ld hx hb hX hbl hscA hS (by omega) hL d_L_118 ?_
    refine lv_aload_n hx hb d_L_119 rfl (lv_at hl 0 rfl) ?_
    refine lv_iload hx hb d_L_120 (lv_at hl 4 rfl) ?_
    refine ai_iconst hx hb d_L_122 ?_
    refine ai_iadd hx hb d_L_123 ?_
    refine la_ld hx hb hX hbl hscA hS (by omega) hL d_L_124 ?_
    refine lv_aload_n hx hb d_L_125 rfl (lv_at hl 0 rfl) ?_
    refine lv_iload hx hb d_L_126 (lv_at hl 4 rfl) ?_
    refine ai_iconst hx hb d_L_128 ?_
    refine ai_iadd hx hb d_L_129 ?_
    refine la_ld hx hb hX hbl hscA hS (by omega) hL d_L_130 ?_
    refine lv_aload_n hx hb d_L_131 rfl (lv_at hl 0 rfl) ?_
    refine lv_iload hx hb d_L_132 (lv_at hl 4 rfl) ?_
    refine ai_iconst hx hb d_L_134 ?_
    refine ai_iadd hx hb d_L_135 ?_
    refine la_ld hx hb hX hbl hscA hS (by omega) hL d_L_136 ?_
    refine lv_aload_n hx hb d_L_137 rfl (lv_at hl 0 rfl) ?_
    refine lv_iload hx hb d_L_138 (lv_at hl 4 rfl) ?_
    refine ai_iconst hx hb d_L_140 ?_
    refine ai_iadd hx hb d_L_141 ?_
    refine la_ld hx hb hX hbl hscA hS (by omega) hL d_L_142 ?_
    refine lv_aload_n hx hb d_L_143 rfl (lv_at hl 0 rfl) ?_
    refine lv_iload hx hb d_L_144 (lv_at hl 4 rfl) ?_
    refine ai_bipush (x := 6) hx hb d_L_146 (by decide +kernel) ?_
    refine ai_iadd hx hb d_L_148 ?_
    refine la_ld hx hb hX hbl hscA hS (by omega) hL d_L_149 ?_
    refine lv_aload_n hx hb d_L_150 rfl (lv_at hl 0 rfl) ?_
    refine lv_iload hx hb d_L_151 (lv_at hl 4 rfl) ?_
    refine ai_bipush (x := 7) hx hb d_L_153 (by decide +kernel) ?_
    refine ai_iadd hx hb d_L_155 ?_
    refine la_ld hx hb hX hbl hscA hS (by omega) hL d_L_156 ?_
    refine lv_aload_n hx hb d_L_157 rfl (lv_at hl 3 rfl) ?_
    have hP5 : va_P D CL ((BkWs b cvA jlA hbA csA sbA vbA cA cB ca N z ml tx ++ [(oa, .inl (cx 1, 1, .inr (.inl (fun j => iL (v0 j)))))]) ++ (MWs a ad cx F g ++ CW)) H := hP
    have hD5 : va_D (newA s) ((BkWs b cvA jlA hbA csA sbA vbA cA cB ca N z ml tx ++ [(oa, .inl (cx 1, 1, .inr (.inl (fun j => iL (v0 j)))))]) ++ (MWs a ad cx F g ++ CW)) := hD
    refine gl_i (mc := 3) (ms := 30) (win := (BkWs b cvA jlA hbA csA sbA vbA cA cB ca N z ml tx ++ [(oa, .inl (cx 1, 1, .inr (.inl (fun j => iL (v0 j)))))])) (wr := MWs a ad cx F g ++ CW) (gr_SW (rest := []) (ct_W_plug l D b cvA jlA hbA csA sbA vbA cA cB ca N z ml tx Lx (cx 0) sr (sxI xs (i + 1)) (sxI xs (i + 2)) (sxI xs (i + 3)) (sxI xs (i + 4)) (sxI xs (i + 5)) (sxI xs (i + 6)) (sxI xs (i + 7)) oa (cx 1) v0 H.size hT.1 hgo.1 hgo.2) j_W_plug k_394 hF (gm_pS hN (va_K.sub hK [0, 1, 2, 3] rfl) hP5.left hD5.left (Bm.and SA.m DSA.m) (fun U h1 h2 => ⟨SA.at hSA hS (gl_free hD5 hS hA9) U h1 h2, DSA.at hDs hS (gl_free hD5 hS hA9) U h1 h2⟩)) rfl rfl rfl hl.1 rfl ⟨Nat.le_of_ble_eq_true rfl, Nat.le_of_ble_eq_true rfl⟩ (Nat.le_of_ble_eq_true rfl) d_L_158 ⟨by show cells + 3 ≤ 674659; omega, by show slots + 30 ≤ 7072127; omega⟩) hP5 hD5 hS hA9 (fun u8 H locs hΦ hP hD hS => ?_)
    refine W.widen (k := cells + 6) (n := slots + 200) (by omega) (by omega) ?_
    obtain ⟨lo, mc0, so, fo⟩ := u8
    have hΦ : ∀ j : Nat, j < Int.toNat (sxI xs (i + 2)) → fo j = (sxI xs (i + 3)) := hΦ
    have hP : va_P D CL (BkWs b cvA jlA hbA csA sbA vbA cA cB (va_up ca (Int.toNat (12 + (sxI xs (i + 1)))) (some mc0)) N z ml tx ++ ([(lo, .inl (cx 0, Int.toNat (sxI xs (i + 2)), .inl (fun j => iI (fo j)))), (so, .inr (7, [.long (iL (sxI xs (i + 5))), .long (iL (sxI xs (i + 6))), .long (iL (sxI xs (i + 7)))])), (mc0, .inr (5, [.ref (sr 0), .ref lo, .int (iI ((sxI xs (i + 2)) - 1)), .long (iL (sxI xs (i + 4))), .int (iI (bI True)), .ref so, .int (iI (cm fo (Int.toNat (sxI xs (i + 2)))))]))] ++ ([(oa, .inl (cx 1, 1, .inr (.inl (fun j => iL ((upF v0 (Int.toNat 0) (bI (ca (Int.toNat (12 + (sxI xs (i + 1)))) ≠ none))) j)))))] ++ (MWs a ad cx F g ++ CW)))) H := hP
    have hD : va_D (newA s) (BkWs b cvA jlA hbA csA sbA vbA cA cB (va_up ca (Int.toNat (12 + (sxI xs (i + 1)))) (some mc0)) N z ml tx ++ ([(lo, .inl (cx 0, Int.toNat (sxI xs (i + 2)), .inl (fun j => iI (fo j)))), (so, .inr (7, [.long (iL (sxI xs (i + 5))), .long (iL (sxI xs (i + 6))), .long (iL (sxI xs (i + 7)))])), (mc0, .inr (5, [.ref (sr 0), .ref lo, .int (iI ((sxI xs (i + 2)) - 1)), .long (iL (sxI xs (i + 4))), .int (iI (bI True)), .ref so, .int (iI (cm fo (Int.toNat (sxI xs (i + 2)))))]))] ++ ([(oa, .inl (cx 1, 1, .inr (.inl (fun j => iL ((upF v0 (Int.toNat 0) (bI (ca (Int.toNat (12 + (sxI xs (i + 1)))) ≠ none))) j)))))] ++ (MWs a ad cx F g ++ CW)))) := hD
    have hX9 : va_P D CL [(lo, .inl (cx 0, Int.toNat (sxI xs (i + 2)), .inl (fun j => iI (fo j)))), (so, .inr (7, [.long (iL (sxI xs (i + 5))), .long (iL (sxI xs (i + 6))), .long (iL (sxI xs (i + 7)))])), (mc0, .inr (5, [.ref (sr 0), .ref lo, .int (iI ((sxI xs (i + 2)) - 1)), .long (iL (sxI xs (i + 4))), .int (iI (bI True)), .ref so, .int (iI (cm fo (Int.toNat (sxI xs (i + 2)))))]))] H := hP.right.left
    have hC9 := plug_cals hC hK hX9 hgo.1 hgo.2 hΦ
    obtain ⟨hP, hD⟩ := PX hP hD
    have e9 : ([(oa, .inl (cx 1, 1, .inr (.inl (fun j => iL ((upF v0 (Int.toNat 0) (bI (ca (Int.toNat (12 + (sxI xs (i + 1)))) ≠ none))) j)))))] ++ (MWs a ad cx F g ++ CW)) ++ [(lo, .inl (cx 0, Int.toNat (sxI xs (i + 2)), .inl (fun j => iI (fo j)))), (so, .inr (7, [.long (iL (sxI xs (i + 5))), .long (iL (sxI xs (i + 6))), .long (iL (sxI xs (i + 7)))])), (mc0, .inr (5, [.ref (sr 0), .ref lo, .int (iI ((sxI xs (i + 2)) - 1)), .long (iL (sxI xs (i + 4))), .int (iI (bI True)), .ref so, .int (iI (cm fo (Int.toNat (sxI xs (i + 2)))))]))] = [(oa, .inl (cx 1, 1, .inr (.inl (fun j => iL ((upF v0 (Int.toNat 0) (bI (ca (Int.toNat (12 + (sxI xs (i + 1)))) ≠ none))) j)))))] ++ (MWs a ad cx F g ++ (CW ++ [(lo, .inl (cx 0, Int.toNat (sxI xs (i + 2)), .inl (fun j => iI (fo j)))), (so, .inr (7, [.long (iL (sxI xs (i + 5))), .long (iL (sxI xs (i + 6))), .long (iL (sxI xs (i + 7)))])), (mc0, .inr (5, [.ref (sr 0), .ref lo, .int (iI ((sxI xs (i + 2)) - 1)), .long (iL (sxI xs (i + 4))), .int (iI (bI True)), .ref so, .int (iI (cm fo (Int.toNat (sxI xs (i + 2)))))]))])) := by rw [List.append_assoc, List.append_assoc]
    rw [e9] at hP hD
    have heq : (0 : Int) = 0 → (upF v0 (Int.toNat 0) (bI (ca (Int.toNat (12 + (sxI xs (i + 1)))) ≠ none))) 0 = x := fun _ => upF0.trans (by rw [hxd]; exact ev)
    refine lv_istore (lv' := [(5, .int (iI 0)), (0, .ref sc), (1, .ref b), (2, .ref a), (3, .ref oa), (4, .int (iI i))]) hx hb d_L_161 hl (by decide) rfl (fun ls hl => ?_)
    refine lv_aload_n hx hb d_L_163 rfl (lv_at hl 3 rfl) ?_
    refine lv_aload_n hx hb d_L_164 rfl (lv_at hl 1 rfl) ?_
    refine lv_iload hx hb d_L_165 (lv_at hl 5 rfl) ?_
    refine ai_iconst hx hb d_L_167 ?_
    refine ai_iadd hx hb d_L_168 ?_
    refine la_ld hx hb hX hbl hscA hS (by omega) hL d_L_169 ?_
    refine lv_aload_n hx hb d_L_170 rfl (lv_at hl 1 rfl) ?_
    refine lv_iload hx hb d_L_171 (lv_at hl 5 rfl) ?_
    refine ai_iconst hx hb d_L_173 ?_
    refine ai_iadd hx hb d_L_174 ?_
    refine la_ld hx hb hX hbl hscA hS (by omega) hL d_L_175 ?_
    refine lv_aload_n hx hb d_L_176 rfl (lv_at hl 1 rfl) ?_
    refine lv_iload hx hb d_L_177 (lv_at hl 5 rfl) ?_
    refine ai_iconst hx hb d_L_179 ?_
    refine ai_iadd hx hb d_L_180 ?_
    refine la_ld hx hb hX hbl hscA hS (by omega) hL d_L_181 ?_
    refine lv_aload_n hx hb d_L_182 rfl (lv_at hl 1 rfl) ?_
    refine lv_iload hx hb d_L_183 (lv_at hl 5 rfl) ?_
    refine ai_iconst hx hb d_L_185 ?_
    refine ai_iadd hx hb d_L_186 ?_
    refine la_ld hx hb hX hbl hscA hS (by omega) hL d_L_187 ?_
    refine lv_aload_n hx hb d_L_188 rfl (lv_at hl 1 rfl) ?_
    refine lv_iload hx hb d_L_189 (lv_at hl 5 rfl) ?_
    refine ai_iconst hx hb d_L_191 ?_
    refine ai_iadd hx hb d_L_192 ?_
    refine la_ld hx hb hX hbl hscA hS (by omega) hL d_L_193 ?_
    refine lv_aload_n hx hb d_L_194 rfl (lv_at hl 1 rfl) ?_
    refine lv_iload hx hb d_L_195 (lv_at hl 5 rfl) ?_
    refine ai_bipush (x := 6) hx hb d_L_197 (by decide +kernel) ?_
    refine ai_iadd hx hb d_L_199 ?_
    refine la_ld hx hb hX hbl hscA hS (by omega) hL d_L_200 ?_
    refine lv_aload_n hx hb d_L_201 rfl (lv_at hl 1 rfl) ?_
    refine lv_iload hx hb d_L_202 (lv_at hl 5 rfl) ?_
    refine ai_bipush (x := 7) hx hb d_L_204 (by decide +kernel) ?_
    refine ai_iadd hx hb d_L_206 ?_
    refine la_ld hx hb hX hbl hscA hS (by omega) hL d_L_207 ?_
    obtain ⟨hP, hD⟩ := LF (B := BkWs b cvA jlA hbA csA sbA vbA cA cB (va_up ca (Int.toNat (12 + (sxI xs (i + 1)))) (some mc0)) N z ml tx) (O := [(oa, .inl (cx 1, 1, .inr (.inl (fun j => iL ((upF v0 (Int.toNat 0) (bI (ca (Int.toNat (12 + (sxI xs (i + 1)))) ≠ none))) j)))))]) (M := MWs a ad cx F g) (C := (CW ++ [(lo, .inl (cx 0, Int.toNat (sxI xs (i + 2)), .inl (fun j => iI (fo j)))), (so, .inr (7, [.long (iL (sxI xs (i + 5))), .long (iL (sxI xs (i + 6))), .long (iL (sxI xs (i + 7)))])), (mc0, .inr (5, [.ref (sr 0), .ref lo, .int (iI ((sxI xs (i + 2)) - 1)), .long (iL (sxI xs (i + 4))), .int (iI (bI True)), .ref so, .int (iI (cm fo (Int.toNat (sxI xs (i + 2)))))]))])) hP hD
    refine ml_i (rest := []) (wr := (((CW ++ [(lo, .inl (cx 0, Int.toNat (sxI xs (i + 2)), .inl (fun j => iI (fo j)))), (so, .inr (7, [.long (iL (sxI xs (i + 5))), .long (iL (sxI xs (i + 6))), .long (iL (sxI xs (i + 7)))])), (mc0, .inr (5, [.ref (sr 0), .ref lo, .int (iI ((sxI xs (i + 2)) - 1)), .long (iL (sxI xs (i + 4))), .int (iI (bI True)), .ref so, .int (iI (cm fo (Int.toNat (sxI xs (i + 2)))))]))]) ++ BkWs b cvA jlA hbA csA sbA vbA cA cB (va_up ca (Int.toNat (12 + (sxI xs (i + 1)))) (some mc0)) N z ml tx) ++ [(oa, .inl (cx 1, 1, .inr (.inl (fun j => iL ((upF v0 (Int.toNat 0) (bI (ca (Int.toNat (12 + (sxI xs (i + 1)))) ≠ none))) j)))))])) hM j_M_plug k_1011 s_M_plug hF hKm hP hD hS rfl hl.1 rfl ⟨by show fr2 + 1 ≤ 14; omega, by show 8 + (9 + 11) + lo2 ≤ 644; omega⟩ (Nat.le_of_ble_eq_true rfl) d_L_208 ⟨hcs.1, hcs.2⟩ (fun u9 H locs hΦ9 hP hD hS => ?_)
    obtain ⟨F1, g1⟩ := u9
    obtain ⟨hk1, h81, h4⟩ := hΦ9
    dsimp only at hk1 h81 h4 hP hD
    obtain ⟨hg1, hc1⟩ : g1 = (plgE g (sxI xs (i + 1)) (sxI xs (i + 2)) (sxI xs (i + 3)) (sxI xs (i + 4)) (sxI xs (i + 5)) (sxI xs (i + 6)) (sxI xs (i + 7))) ∧ F1 1 = -2147483648 := by rcases h4 with ⟨h4, -⟩ | ⟨-, h4⟩; exact absurd rfl h4; exact h4
    rw [hg1] at hP hD
    have hr9 := (plgE_row (g := g) (mo := (sxI xs (i + 2))) (le := (sxI xs (i + 3))) (ep := (sxI xs (i + 4))) (ra := (sxI xs (i + 5))) (rb := (sxI xs (i + 6))) (rc := (sxI xs (i + 7))) hgo.1).1
    have hrow9 : RowIs F1 (plgE g (sxI xs (i + 1)) (sxI xs (i + 2)) (sxI xs (i + 3)) (sxI xs (i + 4)) (sxI xs (i + 5)) (sxI xs (i + 6)) (sxI xs (i + 7))) Lx := ⟨h81.trans hT.2.1.1, hT.2.1.2.1, fun i9 hi9 => by rw [hr9]; exact hT.2.1.2.2 i9 hi9⟩
    have hch9 : ChOK (plgE g (sxI xs (i + 1)) (sxI xs (i + 2)) (sxI xs (i + 3)) (sxI xs (i + 4)) (sxI xs (i + 5)) (sxI xs (i + 6)) (sxI xs (i + 7))) := fun j9 hj9 => by rw [hr9]; exact hT.2.2 j9 hj9
    obtain ⟨hP, hD⟩ := LB (B := BkWs b cvA jlA hbA csA sbA vbA cA cB (va_up ca (Int.toNat (12 + (sxI xs (i + 1)))) (some mc0)) N z ml tx) (O := [(oa, .inl (cx 1, 1, .inr (.inl (fun j => iL ((upF v0 (Int.toNat 0) (bI (ca (Int.toNat (12 + (sxI xs (i + 1)))) ≠ none))) j)))))]) (M := MWs a ad cx F1 (plgE g (sxI xs (i + 1)) (sxI xs (i + 2)) (sxI xs (i + 3)) (sxI xs (i + 4)) (sxI xs (i + 5)) (sxI xs (i + 6)) (sxI xs (i + 7)))) (C := (CW ++ [(lo, .inl (cx 0, Int.toNat (sxI xs (i + 2)), .inl (fun j => iI (fo j)))), (so, .inr (7, [.long (iL (sxI xs (i + 5))), .long (iL (sxI xs (i + 6))), .long (iL (sxI xs (i + 7)))])), (mc0, .inr (5, [.ref (sr 0), .ref lo, .int (iI ((sxI xs (i + 2)) - 1)), .long (iL (sxI xs (i + 4))), .int (iI (bI True)), .ref so, .int (iI (cm fo (Int.toNat (sxI xs (i + 2)))))]))])) hP hD
    refine lv_istore (lv' := [(6, .int (iI x)), (5, .int (iI 0)), (0, .ref sc), (1, .ref b), (2, .ref a), (3, .ref oa), (4, .int (iI i))]) hx hb d_L_211 hl (by decide) rfl (fun ls hl => ?_)
    refine lv_aload_n hx hb d_L_213 rfl (lv_at hl 4 rfl) ?_
    refine ro_V (C := "DayBookModel") (rest := []) (ct_M_thrown l D a ad cx F1 (plgE g (sxI xs (i + 1)) (sxI xs (i + 2)) (sxI xs (i + 3)) (sxI xs (i + 4)) (sxI xs (i + 5)) (sxI xs (i + 6)) (sxI xs (i + 7)))) j_M_thrown k_1007 (hts _ s_M_thrown) hF (va_recv (q0 := 5) (ci := 10) hK hP rfl rfl) rfl hl.1 rfl ⟨Nat.le_of_ble_eq_true rfl, Nat.le_of_ble_eq_true rfl⟩ (Nat.le_of_ble_eq_true rfl) d_L_214 ⟨hcs.1, hcs.2⟩ MdB.m (fun U h1 h2 => ⟨va_K.moved h2.alike hKm, by rw [h1]; exact hP.right.right.left⟩) ?_
    refine ai_toI hx hb (b := 0) hk1 ?_
    refine lv_iload hx hb d_L_217 (lv_at hl 1 rfl) ?_
    refine ai_icmp_eq hx hb d_L_219 rfl (by omega) (by omega) (fun h219 => ?_) (fun h219 => by exfalso; omega)
    refine lv_iload hx hb d_L_224 (lv_at hl 1 rfl) ?_
    refine ai_if_ne hx hb d_L_226 rfl (by omega) (fun h226 => by exfalso; omega) (fun h226 => ?_)
    refine lv_aload_n hx hb d_L_229 rfl (lv_at hl 5 rfl) ?_
    refine ai_iconst hx hb d_L_230 ?_
    refine ma_lld hx hb hK hP 4 3 rfl rfl (h := (upF v0 (Int.toNat 0) (bI (ca (Int.toNat (12 + (sxI xs (i + 1)))) ≠ none)))) (by decide) (by decide) d_L_231 ?_
    refine ai_toL hx hb (b := x) (heq rfl) ?_
    refine lv_iload hx hb d_L_232 (lv_at hl 0 rfl) ?_
    refine ai_if_eq hx hb d_L_234 rfl (by omega) (fun h234 => ?_) (fun h234 => ?_)
    · skip
      refine ai_lconst (x := 0) hx hb d_L_241 (by decide +kernel) ?_
      refine ai_lcmp_eq hx hb d_L_242 d_L_243 rfl (by omega) (by omega) (fun h242 => ?_) (fun h242 => by exfalso; omega)
      refine lv_goto hx hb d_L_248 rfl ?_
      exact kk _ _ _ ⟨vbA, (va_up ca (Int.toNat (12 + (sxI xs (i + 1)))) (some mc0)), N, z, ml, tx, (upF v0 (Int.toNat 0) (bI (ca (Int.toNat (12 + (sxI xs (i + 1)))) ≠ none))), F1, (plgE g (sxI xs (i + 1)) (sxI xs (i + 2)) (sxI xs (i + 3)) (sxI xs (i + 4)) (sxI xs (i + 5)) (sxI xs (i + 6)) (sxI xs (i + 7))), (CW ++ [(lo, .inl (cx 0, Int.toNat (sxI xs (i + 2)), .inl (fun j => iI (fo j)))), (so, .inr (7, [.long (iL (sxI xs (i + 5))), .long (iL (sxI xs (i + 6))), .long (iL (sxI xs (i + 7)))])), (mc0, .inr (5, [.ref (sr 0), .ref lo, .int (iI ((sxI xs (i + 2)) - 1)), .long (iL (sxI xs (i + 4))), .int (iI (bI True)), .ref so, .int (iI (cm fo (Int.toNat (sxI xs (i + 2)))))]))]), Lx, hP, hD, hS, ⟨hT.1, hrow9, hch9⟩, ⟨MInv.plug hv hgo.1 hgo.2, Or.inl hc1⟩, hC9⟩ (lv_sub hl [2, 3, 4, 5, 6] rfl)
    · skip
      refine ai_lconst (x := 1) hx hb d_L_237 (by decide +kernel) ?_
      refine lv_goto hx hb d_L_238 rfl ?_
      refine ai_lcmp_eq hx hb d_L_242 d_L_243 rfl (by omega) (by omega) (fun h242 => ?_) (fun h242 => by exfalso; omega)
      refine lv_goto hx hb d_L_248 rfl ?_
      exact kk _ _ _ ⟨vbA, (va_up ca (Int.toNat (12 + (sxI xs (i + 1)))) (some mc0)), N, z, ml, tx, (upF v0 (Int.toNat 0) (bI (ca (Int.toNat (12 + (sxI xs (i + 1)))) ≠ none))), F1, (plgE g (sxI xs (i + 1)) (sxI xs (i + 2)) (sxI xs (i + 3)) (sxI xs (i + 4)) (sxI xs (i + 5)) (sxI xs (i + 6)) (sxI xs (i + 7))), (CW ++ [(lo, .inl (cx 0, Int.toNat (sxI xs (i + 2)), .inl (fun j => iI (fo j)))), (so, .inr (7, [.long (iL (sxI xs (i + 5))), .long (iL (sxI xs (i + 6))), .long (iL (sxI xs (i + 7)))])), (mc0, .inr (5, [.ref (sr 0), .ref lo, .int (iI ((sxI xs (i + 2)) - 1)), .long (iL (sxI xs (i + 4))), .int (iI (bI True)), .ref so, .int (iI (cm fo (Int.toNat (sxI xs (i + 2)))))]))]), Lx, hP, hD, hS, ⟨hT.1, hrow9, hch9⟩, ⟨MInv.plug hv hgo.1 hgo.2, Or.inl hc1⟩, hC9⟩ (lv_sub hl [2, 3, 4, 5, 6] rfl)
  · skip
    obtain ⟨kc, v1, x, rk, rx, ⟨fr, lo, mc, ms, Xs, ⟨b1, b2, b3, b4⟩, hW, hbm, hXs⟩, ⟨fr2, lo2, ⟨b5, b6⟩, hM⟩, heq, hx01⟩ := sem_plug (oa := oa) (v0 := v0) (a := a) (ad := ad) (F := F) (Lx := Lx) hfl hU hv hca hC hT (sxI xs (i + 1)) (sxI xs (i + 2)) (sxI xs (i + 3)) (sxI xs (i + 4)) (sxI xs (i + 5)) (sxI xs (i + 6)) (sxI xs (i + 7)) (sxI_rng _ _) (sxI_rng _ _) (sxI_rng _ _) (sxI_rng _ _) (sxI_rng _ _) (sxI_rng _ _) (sxI_rng _ _) hgo
    refine lv_aload_n hx hb d_L_112 rfl (lv_at hl 1 rfl) ?_
    refine lv_aload_n hx hb d_L_113 rfl (lv_at hl 0 rfl) ?_
    refine lv_iload hx hb d_L_114 (lv_at hl 4 rfl) ?_
    refine ai_iconst hx hb d_L_116 ?_
    refine ai_iadd hx hb d_L_117 ?_
    refine la_ld hx hb hX hbl hscA hS (by omega) hL d_L_118 ?_
    refine lv_aload_n hx hb d_L_119 rfl (lv_at hl 0 rfl) ?_
    refine lv_iload hx hb d_L_120 (lv_at hl 4 rfl) ?_
    refine ai_iconst hx hb d_L_122 ?_
    refine ai_iadd hx hb d_L_123 ?_
    refine la_ld hx hb hX hbl hscA hS (by omega) hL d_L_124 ?_
    refine lv_aload_n hx hb d_L_125 rfl (lv_at hl 0 rfl) ?_
    refine lv_iload hx hb d_L_126 (lv_at hl 4 rfl) ?_
    refine ai_iconst hx hb d_L_128 ?_
    refine ai_iadd hx hb d_L_129 ?_
    refine la_ld hx hb hX hbl hscA hS (by omega) hL d_L_130 ?_
    refine lv_aload_n hx hb d_L_131 rfl (lv_at hl 0 rfl) ?_
    refine lv_iload hx hb d_L_132 (lv_at hl 4 rfl) ?_
    refine ai_iconst hx hb d_L_134 ?_
    refine ai_iadd hx hb d_L_135 ?_
    refine la_ld hx hb hX hbl hscA hS (by omega) hL d_L_136 ?_
    refine lv_aload_n hx hb d_L_137 rfl (lv_at hl 0 rfl) ?_
    refine lv_iload hx hb d_L_138 (lv_at hl 4 rfl) ?_
    refine ai_iconst hx hb d_L_140 ?_
    refine ai_iadd hx hb d_L_141 ?_
    refine la_ld hx hb hX hbl hscA hS (by omega) hL d_L_142 ?_
    refine lv_aload_n hx hb d_L_143 rfl (lv_at hl 0 rfl) ?_
    refine lv_iload hx hb d_L_144 (lv_at hl 4 rfl) ?_
    refine ai_bipush (x := 6) hx hb d_L_146 (by decide +kernel) ?_
    refine ai_iadd hx hb d_L_148 ?_
    refine la_ld hx hb hX hbl hscA hS (by omega) hL d_L_149 ?_
    refine lv_aload_n hx hb d_L_150 rfl (lv_at hl 0 rfl) ?_
    refine lv_iload hx hb d_L_151 (lv_at hl 4 rfl) ?_
    refine ai_bipush (x := 7) hx hb d_L_153 (by decide +kernel) ?_
    refine ai_iadd hx hb d_L_155 ?_
    refine la_ld hx hb hX hbl hscA hS (by omega) hL d_L_156 ?_
    refine lv_aload_n hx hb d_L_157 rfl (lv_at hl 3 rfl) ?_
    refine gl_i (x := fun (_ : Unit) => kc) (win := [(oa, .inl (cx 1, 1, .inr (.inl (fun j => iL (v0 j)))))]) (wr := ((MWs a ad cx F g ++ CW) ++ BkWs b cvA jlA hbA csA sbA vbA cA cB ca N z ml tx)) (gr_SW (rest := []) hW j_W_plug k_394 hF (gm_pS hN (va_K.sub hK [3] rfl) hP.right.left hD.right.left hbm hXs) rfl rfl rfl hl.1 rfl ⟨by show fr + 1 ≤ 14; omega, by show 8 + (10 + 11) + lo ≤ 644; omega⟩ (Nat.le_of_ble_eq_true rfl) d_L_158 ⟨by show cells + mc ≤ 674659; omega, by show slots + ms ≤ 7072127; omega⟩) hP.sw hD.sw hS hA9 (fun _ H locs _ hP hD hS => ?_)
    refine W.widen (k := cells + 6) (n := slots + 200) (by omega) (by omega) ?_
    refine lv_istore (lv' := [(5, .int (iI kc)), (0, .ref sc), (1, .ref b), (2, .ref a), (3, .ref oa), (4, .int (iI i))]) hx hb d_L_161 hl (by decide) rfl (fun ls hl => ?_)
    refine lv_aload_n hx hb d_L_163 rfl (lv_at hl 3 rfl) ?_
    refine lv_aload_n hx hb d_L_164 rfl (lv_at hl 1 rfl) ?_
    refine lv_iload hx hb d_L_165 (lv_at hl 5 rfl) ?_
    refine ai_iconst hx hb d_L_167 ?_
    refine ai_iadd hx hb d_L_168 ?_
    refine la_ld hx hb hX hbl hscA hS (by omega) hL d_L_169 ?_
    refine lv_aload_n hx hb d_L_170 rfl (lv_at hl 1 rfl) ?_
    refine lv_iload hx hb d_L_171 (lv_at hl 5 rfl) ?_
    refine ai_iconst hx hb d_L_173 ?_
    refine ai_iadd hx hb d_L_174 ?_
    refine la_ld hx hb hX hbl hscA hS (by omega) hL d_L_175 ?_
    refine lv_aload_n hx hb d_L_176 rfl (lv_at hl 1 rfl) ?_
    refine lv_iload hx hb d_L_177 (lv_at hl 5 rfl) ?_
    refine ai_iconst hx hb d_L_179 ?_
    refine ai_iadd hx hb d_L_180 ?_
    refine la_ld hx hb hX hbl hscA hS (by omega) hL d_L_181 ?_
    refine lv_aload_n hx hb d_L_182 rfl (lv_at hl 1 rfl) ?_
    refine lv_iload hx hb d_L_183 (lv_at hl 5 rfl) ?_
    refine ai_iconst hx hb d_L_185 ?_
    refine ai_iadd hx hb d_L_186 ?_
    refine la_ld hx hb hX hbl hscA hS (by omega) hL d_L_187 ?_
    refine lv_aload_n hx hb d_L_188 rfl (lv_at hl 1 rfl) ?_
    refine lv_iload hx hb d_L_189 (lv_at hl 5 rfl) ?_
    refine ai_iconst hx hb d_L_191 ?_
    refine ai_iadd hx hb d_L_192 ?_
    refine la_ld hx hb hX hbl hscA hS (by omega) hL d_L_193 ?_
    refine lv_aload_n hx hb d_L_194 rfl (lv_at hl 1 rfl) ?_
    refine lv_iload hx hb d_L_195 (lv_at hl 5 rfl) ?_
    refine ai_bipush (x := 6) hx hb d_L_197 (by decide +kernel) ?_
    refine ai_iadd hx hb d_L_199 ?_
    refine la_ld hx hb hX hbl hscA hS (by omega) hL d_L_200 ?_
    refine lv_aload_n hx hb d_L_201 rfl (lv_at hl 1 rfl) ?_
    refine lv_iload hx hb d_L_202 (lv_at hl 5 rfl) ?_
    refine ai_bipush (x := 7) hx hb d_L_204 (by decide +kernel) ?_
    refine ai_iadd hx hb d_L_206 ?_
    refine la_ld hx hb hX hbl hscA hS (by omega) hL d_L_207 ?_
    refine ml_i (rest := []) (wr := ((CW ++ BkWs b cvA jlA hbA csA sbA vbA cA cB ca N z ml tx) ++ [(oa, .inl (cx 1, 1, .inr (.inl (fun j => iL (v1 j)))))])) hM j_M_plug k_1011 s_M_plug hF hKm hP.sw hD.sw hS rfl hl.1 rfl ⟨by show fr2 + 1 ≤ 14; omega, by show 8 + (9 + 11) + lo2 ≤ 644; omega⟩ (Nat.le_of_ble_eq_true rfl) d_L_208 ⟨hcs.1, hcs.2⟩ (fun u9 H locs hΦ hP hD hS => ?_)
    obtain ⟨F1, g1⟩ := u9
    obtain ⟨hg1, hk1, h81, hc1⟩ := hΦ
    dsimp only at hg1 hk1 h81 hc1 hP hD
    rw [hg1] at hP hD
    refine lv_istore (lv' := [(6, .int (iI x)), (5, .int (iI kc)), (0, .ref sc), (1, .ref b), (2, .ref a), (3, .ref oa), (4, .int (iI i))]) hx hb d_L_211 hl (by decide) rfl (fun ls hl => ?_)
    refine lv_aload_n hx hb d_L_213 rfl (lv_at hl 4 rfl) ?_
    refine ro_V (C := "DayBookModel") (rest := []) (ct_M_thrown l D a ad cx F1 g) j_M_thrown k_1007 (hts _ s_M_thrown) hF (va_recv (q0 := 0) (ci := 10) hKm hP rfl rfl) rfl hl.1 rfl ⟨Nat.le_of_ble_eq_true rfl, Nat.le_of_ble_eq_true rfl⟩ (Nat.le_of_ble_eq_true rfl) d_L_214 ⟨hcs.1, hcs.2⟩ MdB.m (fun U h1 h2 => ⟨va_K.moved h2.alike hKm, by rw [h1]; exact hP.left⟩) ?_
    refine ai_toI hx hb (b := kc) hk1 ?_
    obtain ⟨hP, hD⟩ := LB (B := BkWs b cvA jlA hbA csA sbA vbA cA cB ca N z ml tx) (O := [(oa, .inl (cx 1, 1, .inr (.inl (fun j => iL (v1 j)))))]) (M := MWs a ad cx F1 g) (C := CW) hP hD
    refine lv_iload hx hb d_L_217 (lv_at hl 1 rfl) ?_
    refine ai_icmp_eq hx hb d_L_219 rfl (by omega) (by omega) (fun h219 => ?_) (fun h219 => by exfalso; omega)
    refine lv_iload hx hb d_L_224 (lv_at hl 1 rfl) ?_
    refine ai_if_ne hx hb d_L_226 rfl (by omega) (fun h226 => ?_) (fun h226 => ?_)
    · skip
      refine lv_goto hx hb d_L_248 rfl ?_
      exact kk _ _ _ ⟨vbA, ca, N, z, ml, tx, v1, F1, g, CW, Lx, hP, hD, hS, ⟨hT.1, hT.2.1.of8 h81, hT.2.2⟩, ⟨hv, hc1⟩, hC⟩ (lv_sub hl [2, 3, 4, 5, 6] rfl)
    · skip
      refine lv_aload_n hx hb d_L_229 rfl (lv_at hl 5 rfl) ?_
      refine ai_iconst hx hb d_L_230 ?_
      refine ma_lld hx hb hK hP 4 3 rfl rfl (h := v1) (by decide) (by decide) d_L_231 ?_
      refine ai_toL hx hb (b := x) (heq (by omega)) ?_
      refine lv_iload hx hb d_L_232 (lv_at hl 0 rfl) ?_
      refine ai_if_eq hx hb d_L_234 rfl (by omega) (fun h234 => ?_) (fun h234 => ?_)
      · skip
        refine ai_lconst (x := 0) hx hb d_L_241 (by decide +kernel) ?_
        refine ai_lcmp_eq hx hb d_L_242 d_L_243 rfl (by omega) (by omega) (fun h242 => ?_) (fun h242 => by exfalso; omega)
        refine lv_goto hx hb d_L_248 rfl ?_
        exact kk _ _ _ ⟨vbA, ca, N, z, ml, tx, v1, F1, g, CW, Lx, hP, hD, hS, ⟨hT.1, hT.2.1.of8 h81, hT.2.2⟩, ⟨hv, hc1⟩, hC⟩ (lv_sub hl [2, 3, 4, 5, 6] rfl)
      · skip
        refine ai_lconst (x := 1) hx hb d_L_237 (by decide +kernel) ?_
        refine lv_goto hx hb d_L_238 rfl ?_
        refine ai_lcmp_eq hx hb d_L_242 d_L_243 rfl (by omega) (by omega) (fun h242 => ?_) (fun h242 => by exfalso; omega)
        refine lv_goto hx hb d_L_248 rfl ?_
        exact kk _ _ _ ⟨vbA, ca, N, z, ml, tx, v1, F1, g, CW, Lx, hP, hD, hS, ⟨hT.1, hT.2.1.of8 h81, hT.2.2⟩, ⟨hv, hc1⟩, hC⟩ (lv_sub hl [2, 3, 4, 5, 6] rfl)
