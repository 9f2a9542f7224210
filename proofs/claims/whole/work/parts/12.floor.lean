/-! 12.floor: laid by program (wip/whole) -/
theorem tm_sign (x : Int) {n : Int} (hn : 0 < n) : (0 ≤ x → 0 ≤ x.tmod n) ∧ (x < 0 → x.tmod n ≤ 0) ∧ -n < x.tmod n ∧ x.tmod n < n := by
  refine ⟨fun h => Int.tmod_nonneg n h, fun h => ?_, Int.lt_tmod_of_pos x hn, Int.tmod_lt_of_pos x hn⟩
  have h1 := Int.tmod_nonneg n (show 0 ≤ -x by omega)
  rw [Int.neg_tmod] at h1
  omega
theorem tm_mod (x : Int) {n : Int} (hn : 0 < n) : x % n = if x.tmod n < 0 then x.tmod n + n else x.tmod n := by
  have h1 := Int.tdiv_mul_add_tmod x n
  have h2 := tm_sign x hn
  split
  · refine md_uniq (q := x.tdiv n - 1) ?_ (by omega) (by omega)
    rw [Int.mul_sub, Int.mul_one, Int.mul_comm]
    omega
  · refine md_uniq (q := x.tdiv n) ?_ (by omega) (by omega)
    rw [Int.mul_comm]
    omega
theorem td_rng {x n : Int} (hn : 0 < n) : (0 ≤ x → 0 ≤ x.tdiv n ∧ x.tdiv n ≤ x) ∧ (x < 0 → x ≤ x.tdiv n ∧ x.tdiv n ≤ 0) := by
  have key : ∀ z : Int, 0 ≤ z → 0 ≤ z.tdiv n ∧ z.tdiv n ≤ z := fun z h => by
    rw [Int.tdiv_eq_ediv_of_nonneg h]
    exact ⟨Int.ediv_nonneg h (by omega), Int.ediv_le_self n h⟩
  refine ⟨key x, fun h => ?_⟩
  have h1 := key (-x) (by omega)
  rw [Int.neg_tdiv] at h1
  omega
theorem xor_sgnL {a b : Int} (ha : -9223372036854775808 ≤ a ∧ a ≤ 9223372036854775807) (hb : 0 ≤ b ∧ b ≤ 9223372036854775807) : (iL a ^^^ iL b).toInt < 0 ↔ a < 0 := by
  have h1 : ∀ x : Int64, (x.toInt < 0 ↔ x.toBitVec.msb = true) := fun x => by
    rw [BitVec.msb_eq_toInt]
    exact (decide_eq_true_iff).symm
  rw [h1, Int64.toBitVec_xor, BitVec.msb_xor]
  have h2 := (h1 (iL a))
  have h3 := (h1 (iL b))
  rw [iL_toInt ha] at h2
  rw [iL_toInt (by omega)] at h3
  have h4 : (iL b).toBitVec.msb = false := by
    cases h : (iL b).toBitVec.msb
    · rfl
    · have := h3.mpr h; omega
  rw [h4, Bool.xor_false]
  exact h2.symm
theorem xor_sgnI {a b : Int} (ha : -2147483648 ≤ a ∧ a ≤ 2147483647) (hb : 0 ≤ b ∧ b ≤ 2147483647) : (iI a ^^^ iI b).toInt < 0 ↔ a < 0 := by
  have h1 : ∀ x : Int32, (x.toInt < 0 ↔ x.toBitVec.msb = true) := fun x => by
    rw [BitVec.msb_eq_toInt]
    exact (decide_eq_true_iff).symm
  rw [h1, Int32.toBitVec_xor, BitVec.msb_xor]
  have h2 := (h1 (iI a))
  have h3 := (h1 (iI b))
  rw [iI_toInt ha] at h2
  rw [iI_toInt (by omega)] at h3
  have h4 : (iI b).toBitVec.msb = false := by
    cases h : (iI b).toBitVec.msb
    · rfl
    · have := h3.mpr h; omega
  rw [h4, Bool.xor_false]
  exact h2.symm
section XOR
variable {p : Program} {l : Launch} {e : Env} {R : Room} {s : State} {m : MethodId} {args : Array Value} {below : List Frame} {meth : Method} {c : Code} {H : Heap} {locs : List Loc} {cells slots : Nat} {Q : State → Prop} {cc : ByteArray} {pc : Nat} {ls : Array Slot} {rest : List Value}
theorem ai_lxor (hexec : p.tables.exec = Jvm.exec) (hb : c.code = cc) {a b : Int} (hdg : decode cc pc = .ok (.lxor, 1)) (ra : -9223372036854775808 ≤ a ∧ a ≤ 9223372036854775807) (rb : 0 ≤ b ∧ b ≤ 9223372036854775807) (k : ∀ z : Int, (-9223372036854775808 ≤ z ∧ z ≤ 9223372036854775807) → (z < 0 ↔ a < 0) → W p l e R s m args below meth c H locs cells slots Q (F0 m (pc + 1) ls (.long (iL z) :: rest))) : W p l e R s m args below meth c H locs cells slots Q (F0 m pc ls (.long (iL b) :: .long (iL a) :: rest)) :=
  lv_lxor hexec hb hdg (by
    have h := k (iL a ^^^ iL b).toInt (iL_rng _) (xor_sgnL ra rb)
    rw [iL_of] at h
    exact h)
theorem ai_ixor (hexec : p.tables.exec = Jvm.exec) (hb : c.code = cc) {a b : Int} (hdg : decode cc pc = .ok (.ixor, 1)) (ra : -2147483648 ≤ a ∧ a ≤ 2147483647) (rb : 0 ≤ b ∧ b ≤ 2147483647) (k : ∀ z : Int, (-2147483648 ≤ z ∧ z ≤ 2147483647) → (z < 0 ↔ a < 0) → W p l e R s m args below meth c H locs cells slots Q (F0 m (pc + 1) ls (.int (iI z) :: rest))) : W p l e R s m args below meth c H locs cells slots Q (F0 m pc ls (.int (iI b) :: .int (iI a) :: rest)) :=
  lv_ixor hexec hb hdg (by
    have h := k (iI a ^^^ iI b).toInt (iI_rng _) (xor_sgnI ra rb)
    rw [iI_of] at h
    exact h)
end XOR
set_option maxHeartbeats 4000000 in
set_option maxRecDepth 100000 in
theorem ct_JM_floorDiv_JJJ (l : Launch) (x : Int) (n : Int) (rx : -9223372036854775808 ≤ x ∧ x ≤ 9223372036854775807) (rn : 0 < n ∧ n ≤ 9223372036854775807) : RO l y_JM_floorDiv_JJJ w_JM_floorDiv_JJJ 0 0 [.long (iL x), .long (iL n)] (fun _ => True) (.long (iL (x / n))) := by
  refine ro_of (by decide +kernel) (Nat.le_of_ble_eq_true rfl) ?_
  intro p e s m below meth c ls hx hb hr hts hown hlk hml hl hN hB
  have hown : s.vm.findClass "java/lang/Math" = some m.cls := hown
  have hl : lv_has ls 6 [(0, .long (iL x)), (2, .long (iL n))] := hl
  have hF : _ ∧ _ ∧ _ ∧ _ ∧ _ ∧ _ := ⟨hx, hb, hml, hown, hts, hN⟩
  have hf := dv_floor (x := x) rn.1
  have hm := Int.mul_ediv_add_emod x n
  have hmr := md_rng (x := x) rn.1
  have ht := Int.tdiv_mul_add_tmod x n
  have htn := tm_sign x rn.1
  have hdr := td_rng (x := x) rn.1
  refine lv_lload_n hx hb d_JM_floorDiv_JJJ_0 rfl (lv_at hl 0 rfl) ?_
  refine lv_lload_n hx hb d_JM_floorDiv_JJJ_1 rfl (lv_at hl 1 rfl) ?_
  refine ai_ldiv hx hb d_JM_floorDiv_JJJ_2 (by omega) (by omega) (by omega) ?_
  refine ai_nmL hx hb (fun v3 e3 => ?_)
  refine lv_lstore (lv' := [(4, .long (iL v3)), (0, .long (iL x)), (2, .long (iL n))]) hx hb d_JM_floorDiv_JJJ_3 hl (by decide) rfl (fun ls hl => ?_)
  rw [← e3] at ht hf hdr
  refine lv_lload_n hx hb d_JM_floorDiv_JJJ_5 rfl (lv_at hl 1 rfl) ?_
  refine lv_lload_n hx hb d_JM_floorDiv_JJJ_6 rfl (lv_at hl 2 rfl) ?_
  refine ai_lxor hx hb d_JM_floorDiv_JJJ_7 (by omega) (by omega) (fun z7 r7 e7 => ?_)
  refine ai_lconst (x := 0) hx hb d_JM_floorDiv_JJJ_8 (by decide +kernel) ?_
  refine ai_lcmp_ge hx hb d_JM_floorDiv_JJJ_9 d_JM_floorDiv_JJJ_10 rfl (by omega) (by omega) (fun h9 => ?_) (fun h9 => ?_)
  · skip
    refine lv_lload hx hb d_JM_floorDiv_JJJ_27 (lv_at hl 0 rfl) ?_
    exact ro_lret hx hb hr hlk d_JM_floorDiv_JJJ_29 (by rw [hf, if_neg (by omega)] <;> omega)
  · skip
    refine lv_lload hx hb d_JM_floorDiv_JJJ_13 (lv_at hl 0 rfl) ?_
    refine lv_lload_n hx hb d_JM_floorDiv_JJJ_15 rfl (lv_at hl 2 rfl) ?_
    refine ai_lmul hx hb d_JM_floorDiv_JJJ_16 ?_
    refine lv_lload_n hx hb d_JM_floorDiv_JJJ_17 rfl (lv_at hl 1 rfl) ?_
    refine ai_lcmp_eq hx hb d_JM_floorDiv_JJJ_18 d_JM_floorDiv_JJJ_19 rfl (by omega) (by omega) (fun h18 => ?_) (fun h18 => ?_)
    · skip
      refine lv_lload hx hb d_JM_floorDiv_JJJ_27 (lv_at hl 0 rfl) ?_
      exact ro_lret hx hb hr hlk d_JM_floorDiv_JJJ_29 (by rw [hf, if_neg (by omega)] <;> omega)
    · skip
      refine lv_lload hx hb d_JM_floorDiv_JJJ_22 (lv_at hl 0 rfl) ?_
      refine ai_lconst (x := 1) hx hb d_JM_floorDiv_JJJ_24 (by decide +kernel) ?_
      refine ai_lsub hx hb d_JM_floorDiv_JJJ_25 ?_
      exact ro_lret hx hb hr hlk d_JM_floorDiv_JJJ_26 (by rw [hf, if_pos (by omega)] <;> omega)
set_option maxHeartbeats 4000000 in
set_option maxRecDepth 100000 in
theorem ct_JM_floorDiv_III (l : Launch) (x : Int) (n : Int) (rx : -2147483648 ≤ x ∧ x ≤ 2147483647) (rn : 0 < n ∧ n ≤ 2147483647) : RO l y_JM_floorDiv_III w_JM_floorDiv_III 0 0 [.int (iI x), .int (iI n)] (fun _ => True) (.int (iI (x / n))) := by
  refine ro_of (by decide +kernel) (Nat.le_of_ble_eq_true rfl) ?_
  intro p e s m below meth c ls hx hb hr hts hown hlk hml hl hN hB
  have hown : s.vm.findClass "java/lang/Math" = some m.cls := hown
  have hl : lv_has ls 3 [(0, .int (iI x)), (1, .int (iI n))] := hl
  have hF : _ ∧ _ ∧ _ ∧ _ ∧ _ ∧ _ := ⟨hx, hb, hml, hown, hts, hN⟩
  have hf := dv_floor (x := x) rn.1
  have hm := Int.mul_ediv_add_emod x n
  have hmr := md_rng (x := x) rn.1
  have ht := Int.tdiv_mul_add_tmod x n
  have htn := tm_sign x rn.1
  have hdr := td_rng (x := x) rn.1
  refine lv_iload_n hx hb d_JM_floorDiv_III_0 rfl (lv_at hl 0 rfl) ?_
  refine lv_iload_n hx hb d_JM_floorDiv_III_1 rfl (lv_at hl 1 rfl) ?_
  refine ai_idiv hx hb d_JM_floorDiv_III_2 (by omega) (by omega) (by omega) ?_
  refine ai_nmI hx hb (fun v3 e3 => ?_)
  refine lv_istore_n (lv' := [(2, .int (iI v3)), (0, .int (iI x)), (1, .int (iI n))]) hx hb d_JM_floorDiv_III_3 rfl hl (by decide) rfl (fun ls hl => ?_)
  rw [← e3] at ht hf hdr
  refine lv_iload_n hx hb d_JM_floorDiv_III_4 rfl (lv_at hl 1 rfl) ?_
  refine lv_iload_n hx hb d_JM_floorDiv_III_5 rfl (lv_at hl 2 rfl) ?_
  refine ai_ixor hx hb d_JM_floorDiv_III_6 (by omega) (by omega) (fun z6 r6 e6 => ?_)
  refine ai_if_ge hx hb d_JM_floorDiv_III_7 rfl (by omega) (fun h7 => ?_) (fun h7 => ?_)
  · skip
    refine lv_iload_n hx hb d_JM_floorDiv_III_21 rfl (lv_at hl 0 rfl) ?_
    exact ro_iret hx hb hr hlk d_JM_floorDiv_III_22 (by rw [hf, if_neg (by omega)] <;> omega)
  · skip
    refine lv_iload_n hx hb d_JM_floorDiv_III_10 rfl (lv_at hl 0 rfl) ?_
    refine lv_iload_n hx hb d_JM_floorDiv_III_11 rfl (lv_at hl 2 rfl) ?_
    refine ai_imul hx hb d_JM_floorDiv_III_12 ?_
    refine lv_iload_n hx hb d_JM_floorDiv_III_13 rfl (lv_at hl 1 rfl) ?_
    refine ai_icmp_eq hx hb d_JM_floorDiv_III_14 rfl (by omega) (by omega) (fun h14 => ?_) (fun h14 => ?_)
    · skip
      refine lv_iload_n hx hb d_JM_floorDiv_III_21 rfl (lv_at hl 0 rfl) ?_
      exact ro_iret hx hb hr hlk d_JM_floorDiv_III_22 (by rw [hf, if_neg (by omega)] <;> omega)
    · skip
      refine lv_iload_n hx hb d_JM_floorDiv_III_17 rfl (lv_at hl 0 rfl) ?_
      refine ai_iconst hx hb d_JM_floorDiv_III_18 ?_
      refine ai_isub hx hb d_JM_floorDiv_III_19 ?_
      exact ro_iret hx hb hr hlk d_JM_floorDiv_III_20 (by rw [hf, if_pos (by omega)] <;> omega)
set_option maxHeartbeats 4000000 in
set_option maxRecDepth 100000 in
theorem ct_JM_floorMod_JJJ (l : Launch) (x : Int) (n : Int) (rx : -9223372036854775808 ≤ x ∧ x ≤ 9223372036854775807) (rn : 0 < n ∧ n ≤ 9223372036854775807) : RO l y_JM_floorMod_JJJ w_JM_floorMod_JJJ 0 0 [.long (iL x), .long (iL n)] (fun _ => True) (.long (iL (x % n))) := by
  refine ro_of (by decide +kernel) (Nat.le_of_ble_eq_true rfl) ?_
  intro p e s m below meth c ls hx hb hr hts hown hlk hml hl hN hB
  have hown : s.vm.findClass "java/lang/Math" = some m.cls := hown
  have hl : lv_has ls 6 [(0, .long (iL x)), (2, .long (iL n))] := hl
  have hF : _ ∧ _ ∧ _ ∧ _ ∧ _ ∧ _ := ⟨hx, hb, hml, hown, hts, hN⟩
  have hf := dv_floor (x := x) rn.1
  have hm := Int.mul_ediv_add_emod x n
  have hmr := md_rng (x := x) rn.1
  have ht := Int.tdiv_mul_add_tmod x n
  have htn := tm_sign x rn.1
  have hdr := td_rng (x := x) rn.1
  refine lv_lload_n hx hb d_JM_floorMod_JJJ_0 rfl (lv_at hl 0 rfl) ?_
  refine lv_lload_n hx hb d_JM_floorMod_JJJ_1 rfl (lv_at hl 1 rfl) ?_
  refine ai_lrem hx hb d_JM_floorMod_JJJ_2 (by omega) (by omega) (by omega) ?_
  refine ai_nmL hx hb (fun v3 e3 => ?_)
  refine lv_lstore (lv' := [(4, .long (iL v3)), (0, .long (iL x)), (2, .long (iL n))]) hx hb d_JM_floorMod_JJJ_3 hl (by decide) rfl (fun ls hl => ?_)
  refine lv_lload_n hx hb d_JM_floorMod_JJJ_5 rfl (lv_at hl 1 rfl) ?_
  refine lv_lload_n hx hb d_JM_floorMod_JJJ_6 rfl (lv_at hl 2 rfl) ?_
  refine ai_lxor hx hb d_JM_floorMod_JJJ_7 (by omega) (by omega) (fun z7 r7 e7 => ?_)
  refine ai_lconst (x := 0) hx hb d_JM_floorMod_JJJ_8 (by decide +kernel) ?_
  refine ai_lcmp_ge hx hb d_JM_floorMod_JJJ_9 d_JM_floorMod_JJJ_10 rfl (by omega) (by omega) (fun h9 => ?_) (fun h9 => ?_)
  · skip
    refine lv_lload hx hb d_JM_floorMod_JJJ_25 (lv_at hl 0 rfl) ?_
    exact ro_lret hx hb hr hlk d_JM_floorMod_JJJ_27 (by rw [tm_mod x rn.1, if_neg (by omega)] <;> omega)
  · skip
    refine lv_lload hx hb d_JM_floorMod_JJJ_13 (lv_at hl 0 rfl) ?_
    refine ai_lconst (x := 0) hx hb d_JM_floorMod_JJJ_15 (by decide +kernel) ?_
    refine ai_lcmp_eq hx hb d_JM_floorMod_JJJ_16 d_JM_floorMod_JJJ_17 rfl (by omega) (by omega) (fun h16 => ?_) (fun h16 => ?_)
    · skip
      refine lv_lload hx hb d_JM_floorMod_JJJ_25 (lv_at hl 0 rfl) ?_
      exact ro_lret hx hb hr hlk d_JM_floorMod_JJJ_27 (by rw [tm_mod x rn.1, if_neg (by omega)] <;> omega)
    · skip
      refine lv_lload hx hb d_JM_floorMod_JJJ_20 (lv_at hl 0 rfl) ?_
      refine lv_lload_n hx hb d_JM_floorMod_JJJ_22 rfl (lv_at hl 2 rfl) ?_
      refine ai_ladd hx hb d_JM_floorMod_JJJ_23 ?_
      exact ro_lret hx hb hr hlk d_JM_floorMod_JJJ_24 (by rw [tm_mod x rn.1, if_pos (by omega)] <;> omega)
set_option maxHeartbeats 4000000 in
set_option maxRecDepth 100000 in
theorem ct_JM_floorMod_III (l : Launch) (x : Int) (n : Int) (rx : -2147483648 ≤ x ∧ x ≤ 2147483647) (rn : 0 < n ∧ n ≤ 2147483647) : RO l y_JM_floorMod_III w_JM_floorMod_III 0 0 [.int (iI x), .int (iI n)] (fun _ => True) (.int (iI (x % n))) := by
  refine ro_of (by decide +kernel) (Nat.le_of_ble_eq_true rfl) ?_
  intro p e s m below meth c ls hx hb hr hts hown hlk hml hl hN hB
  have hown : s.vm.findClass "java/lang/Math" = some m.cls := hown
  have hl : lv_has ls 3 [(0, .int (iI x)), (1, .int (iI n))] := hl
  have hF : _ ∧ _ ∧ _ ∧ _ ∧ _ ∧ _ := ⟨hx, hb, hml, hown, hts, hN⟩
  have hf := dv_floor (x := x) rn.1
  have hm := Int.mul_ediv_add_emod x n
  have hmr := md_rng (x := x) rn.1
  have ht := Int.tdiv_mul_add_tmod x n
  have htn := tm_sign x rn.1
  have hdr := td_rng (x := x) rn.1
  refine lv_iload_n hx hb d_JM_floorMod_III_0 rfl (lv_at hl 0 rfl) ?_
  refine lv_iload_n hx hb d_JM_floorMod_III_1 rfl (lv_at hl 1 rfl) ?_
  refine ai_irem hx hb d_JM_floorMod_III_2 (by omega) (by omega) (by omega) ?_
  refine ai_nmI hx hb (fun v3 e3 => ?_)
  refine lv_istore_n (lv' := [(2, .int (iI v3)), (0, .int (iI x)), (1, .int (iI n))]) hx hb d_JM_floorMod_III_3 rfl hl (by decide) rfl (fun ls hl => ?_)
  refine lv_iload_n hx hb d_JM_floorMod_III_4 rfl (lv_at hl 1 rfl) ?_
  refine lv_iload_n hx hb d_JM_floorMod_III_5 rfl (lv_at hl 2 rfl) ?_
  refine ai_ixor hx hb d_JM_floorMod_III_6 (by omega) (by omega) (fun z6 r6 e6 => ?_)
  refine ai_if_ge hx hb d_JM_floorMod_III_7 rfl (by omega) (fun h7 => ?_) (fun h7 => ?_)
  · skip
    refine lv_iload_n hx hb d_JM_floorMod_III_18 rfl (lv_at hl 0 rfl) ?_
    exact ro_iret hx hb hr hlk d_JM_floorMod_III_19 (by rw [tm_mod x rn.1, if_neg (by omega)] <;> omega)
  · skip
    refine lv_iload_n hx hb d_JM_floorMod_III_10 rfl (lv_at hl 0 rfl) ?_
    refine ai_if_eq hx hb d_JM_floorMod_III_11 rfl (by omega) (fun h11 => ?_) (fun h11 => ?_)
    · skip
      refine lv_iload_n hx hb d_JM_floorMod_III_18 rfl (lv_at hl 0 rfl) ?_
      exact ro_iret hx hb hr hlk d_JM_floorMod_III_19 (by rw [tm_mod x rn.1, if_neg (by omega)] <;> omega)
    · skip
      refine lv_iload_n hx hb d_JM_floorMod_III_14 rfl (lv_at hl 0 rfl) ?_
      refine lv_iload_n hx hb d_JM_floorMod_III_15 rfl (lv_at hl 2 rfl) ?_
      refine ai_iadd hx hb d_JM_floorMod_III_16 ?_
      exact ro_iret hx hb hr hlk d_JM_floorMod_III_17 (by rw [tm_mod x rn.1, if_pos (by omega)] <;> omega)
