/-! 85.loop: laid by program (wip/whole) -/
set_option maxHeartbeats 4000000 in
set_option maxRecDepth 100000 in
/-- the law's loop: from its head to its end -/
theorem law_loop {p : Program} {l : Launch} {e : Env} {s : State} {m : MethodId} {below : List Frame} {meth : Method} {c : Code} {sc L : Nat} {xs : Nat → Int32} {D : va_G} {cA cB : ClassId} {cx : Nat → ClassId} {sr : Nat → Nat} {b cvA jlA hbA csA sbA oa a : Nat} {ad : Nat → Nat} (hLC : LC p l s m c sc L xs D cA cB cx sr) (hr : meth.sig.returnType = ret) (hlk : meth.locks = false) {c0 s0 : Nat} (h0 : c0 ≤ 1000 ∧ s0 ≤ 100000) : ∀ (N t : Nat) (i : Int) (H : Heap) (locs : List Loc) (ls : Array Slot), LI D cA cB cx sr s b cvA jlA hbA csA sbA oa a ad H locs → lv_has ls 7 [(0, .ref sc), (1, .ref b), (2, .ref a), (3, .ref oa), (4, .int (iI i))] → i = 8 * (t : Int) → i ≤ L → L - 8 * t < N → W p l e room_1 s m (#[Value.ref sc] : Array Value) below meth c H locs (c0 + 6 * t) (s0 + 200 * t) (lw_Z below (#[Value.ref sc] : Array Value) s) (F0 m 23 ls []) := by
  obtain ⟨hF, ⟨hX, hbl, hL⟩, hK, ⟨hSA, hDs, hTs, hNc⟩, hfl⟩ := id hLC
  obtain ⟨hx, hb, hml, hown, hts, hN⟩ := id hF
  have hscA : ¬ newA s sc := fun h => absurd h (by show ¬ s.heap.size ≤ sc; omega)
  intro N
  induction N with
  | zero => intro _ _ _ _ _ _ _ _ _ hm; exact absurd hm (Nat.not_lt_zero _)
  | succ N ih =>
    intro t i H locs ls hI hl hit hiL hm
    have hS : va_S (newA s) s.heap H locs := by
      obtain ⟨vbA, ca, N, z, ml, tx, v0, F, g, CW, Lx, hP, hD, hS, -⟩ := hI
      exact hS
    have hcs : c0 + 6 * t + 6 ≤ 674659 ∧ s0 + 200 * t + 200 ≤ 7072127 := by omega
    refine lv_iload hx hb d_L_23 (lv_at hl 4 rfl) ?_
    refine lv_aload_n hx hb d_L_25 rfl (lv_at hl 0 rfl) ?_
    refine la_len hx hb hX hbl hscA hS d_L_26 ?_
    refine ai_bipush (x := 8) hx hb d_L_27 (by decide +kernel) ?_
    refine ai_isub hx hb d_L_29 ?_
    refine ai_icmp_gt hx hb d_L_30 rfl (by omega) (by omega) (fun h30 => ?_) (fun h30 => ?_)
    · refine ai_iconst hx hb d_L_1007 ?_
      refine ai_toI hx hb (b := 1) rfl ?_
      refine va_forget (fun q hq => hS.2.2 q hq) ?_
      refine W.widen (k := 674659) (n := 7072127) (by omega) (by omega) ?_
      exact lw_ret hx hb hr hlk d_L_1008
    · have hi : 0 ≤ i ∧ i + 8 ≤ L := by omega
      have hc : ∀ (H1 : Heap) (locs1 : List Loc) (ls1 : Array Slot), LI D cA cB cx sr s b cvA jlA hbA csA sbA oa a ad H1 locs1 → lv_has ls1 7 [(0, .ref sc), (1, .ref b), (2, .ref a), (3, .ref oa), (4, .int (iI i))] → W p l e room_1 s m (#[Value.ref sc] : Array Value) below meth c H1 locs1 (c0 + 6 * t + 6) (s0 + 200 * t + 200) (lw_Z below (#[Value.ref sc] : Array Value) s) (F0 m 1001 ls1 []) := by
        intro H locs ls hI hl
        refine ai_iinc (k := 4) (lv' := [(4, .int (iI (i + 8))), (0, .ref sc), (1, .ref b), (2, .ref a), (3, .ref oa)]) hx hb d_L_1001 hl rfl (by decide) rfl (fun ls hl => ?_)
        refine lv_goto hx hb d_L_1004 rfl ?_
        exact ih (t + 1) (i + 8) H locs ls hI (lv_sub hl [1, 2, 3, 4, 0] rfl) (by omega) (by omega) (by omega)
      refine lv_aload_n hx hb d_L_33 rfl (lv_at hl 0 rfl) ?_
      refine lv_iload hx hb d_L_34 (lv_at hl 4 rfl) ?_
      refine la_ld hx hb hX hbl hscA hS (by omega) hL d_L_36 ?_
      refine ai_bipush (x := 15) hx hb d_L_37 (by decide +kernel) ?_
      refine ai_iand (n := 16) hx hb 4 (by decide +kernel) (by decide) rfl d_L_39 ?_
      have h16 : sxI xs i % 16 = 0 ∨ sxI xs i % 16 = 1 ∨ sxI xs i % 16 = 2 ∨ sxI xs i % 16 = 3 ∨ sxI xs i % 16 = 4 ∨ sxI xs i % 16 = 5 ∨ sxI xs i % 16 = 6 ∨ sxI xs i % 16 = 7 ∨ sxI xs i % 16 = 8 ∨ sxI xs i % 16 = 9 ∨ sxI xs i % 16 = 10 ∨ sxI xs i % 16 = 11 ∨ sxI xs i % 16 = 12 ∨ sxI xs i % 16 = 13 ∨ sxI xs i % 16 = 14 ∨ sxI xs i % 16 = 15 := by omega
      rcases h16 with hk | hk | hk | hk | hk | hk | hk | hk | hk | hk | hk | hk | hk | hk | hk | hk
      · rw [hk]
        refine lv_tableIn (off := 72) (tgt := 112) hx hb d_L_40 (by decide +kernel) (by decide +kernel) (by decide +kernel) rfl ?_
        exact lop_plug hLC hI hi hl hcs hc
      · rw [hk]
        refine lv_tableIn (off := 211) (tgt := 251) hx hb d_L_40 (by decide +kernel) (by decide +kernel) (by decide +kernel) rfl ?_
        exact lop_date hLC hI hi hl hcs hc
      · rw [hk]
        refine lv_tableIn (off := 291) (tgt := 331) hx hb d_L_40 (by decide +kernel) (by decide +kernel) (by decide +kernel) rfl ?_
        exact lop_fixed hLC hI hi hl hcs hc
      · rw [hk]
        refine lv_tableIn (off := 383) (tgt := 423) hx hb d_L_40 (by decide +kernel) (by decide +kernel) (by decide +kernel) rfl ?_
        exact lop_leap hLC hI hi hl hcs hc
      · rw [hk]
        refine lv_tableIn (off := 458) (tgt := 498) hx hb d_L_40 (by decide +kernel) (by decide +kernel) (by decide +kernel) rfl ?_
        exact lop_onOrBefore hLC hI hi hl hcs hc
      · rw [hk]
        refine lv_tableIn (off := 526) (tgt := 566) hx hb d_L_40 (by decide +kernel) (by decide +kernel) (by decide +kernel) rfl ?_
        exact lop_rounds hLC hI hi hl hcs hc
      · rw [hk]
        refine lv_tableIn (off := 551) (tgt := 591) hx hb d_L_40 (by decide +kernel) (by decide +kernel) (by decide +kernel) rfl ?_
        exact lop_meeting hLC hI hi hl hcs hc
      · rw [hk]
        refine lv_tableIn (off := 600) (tgt := 640) hx hb d_L_40 (by decide +kernel) (by decide +kernel) (by decide +kernel) rfl ?_
        exact lop_feast hLC hI hi hl hcs hc
      · rw [hk]
        refine lv_tableIn (off := 668) (tgt := 708) hx hb d_L_40 (by decide +kernel) (by decide +kernel) (by decide +kernel) rfl ?_
        exact lop_when hLC hI hi hl hcs hc
      · rw [hk]
        refine lv_tableIn (off := 772) (tgt := 812) hx hb d_L_40 (by decide +kernel) (by decide +kernel) (by decide +kernel) rfl ?_
        exact lop_write hLC hI hi hl hcs hc
      · rw [hk]
        refine lv_tableIn (off := 840) (tgt := 880) hx hb d_L_40 (by decide +kernel) (by decide +kernel) (by decide +kernel) rfl ?_
        exact lop_type hLC hI hi hl hcs hc
      · rw [hk]
        refine lv_tableIn (off := 867) (tgt := 907) hx hb d_L_40 (by decide +kernel) (by decide +kernel) (by decide +kernel) rfl ?_
        exact lop_wipe hLC hI hi hl hcs hc
      · rw [hk]
        refine lv_tableIn (off := 880) (tgt := 920) hx hb d_L_40 (by decide +kernel) (by decide +kernel) (by decide +kernel) rfl ?_
        exact lop_letter hLC hI hi hl hcs hc
      · rw [hk]
        refine lv_tableIn (off := 905) (tgt := 945) hx hb d_L_40 (by decide +kernel) (by decide +kernel) (by decide +kernel) rfl ?_
        exact lop_read hLC hI hi hl hcs hc
      · rw [hk]
        refine lv_tableOut (tgt := 1001) hx hb d_L_40 (by decide +kernel) rfl ?_
        exact W.widen (k := c0 + 6 * t + 6) (n := s0 + 200 * t + 200) (by omega) (by omega) (hc _ _ _ hI hl)
      · rw [hk]
        refine lv_tableOut (tgt := 1001) hx hb d_L_40 (by decide +kernel) rfl ?_
        exact W.widen (k := c0 + 6 * t + 6) (n := s0 + 200 * t + 200) (by omega) (by omega) (hc _ _ _ hI hl)

