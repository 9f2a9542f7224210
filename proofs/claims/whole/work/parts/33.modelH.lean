/-! 33.modelH: laid by program (wip/whole) -/
/-- the day with a date in the reference, or none -/
def DOM (g : Nat → Nat → Int) (cal y mn dd r : Int) : Prop :=
  if ((cal = 1 ∨ cal = 6) ∧ y = 0) ∨ dd < 1 then r = -9223372036854775808 else if cal = 10 then (if 1 ≤ mn ∧ mn ≤ 12 ∧ dd ≤ 32 then LK 10 y mn dd ((12 * y + mn - 1) * 210389 / 6912 - 1132959 + dd) 3 r else r = -9223372036854775808) else if cal = 11 then (if 1 ≤ (if 100 < mn then mn - 100 else mn) ∧ (if 100 < mn then mn - 100 else mn) ≤ 12 ∧ dd ≤ 30 then LK 11 y mn dd ((12 * y + (if 100 < mn then mn - 100 else mn) - 1) * 210389 / 6912 - 1132959) 70 r else r = -9223372036854775808) else if cal = 2 then (if 1 ≤ mn ∧ dd ≤ 7 ∧ stM g 2 (ctd cal y) + 7 * (mn - 1) + dd - 1 < stM g 2 (ctd cal y + 1) then r = stM g 2 (ctd cal y) + 7 * (mn - 1) + dd - 1 else r = -9223372036854775808) else ∃ b, BF g cal (ctd cal y) mn b ∧ (if 0 ≤ b ∧ dd ≤ lnM g cal (ctd cal y) mn then r = stM g cal (ctd cal y) + b + dd - 1 else r = -9223372036854775808)
theorem ctd_rng {cal y : Int} : y ≤ ctd cal y ∧ ctd cal y ≤ y + 1 := by
  unfold ctd
  split <;> omega
theorem near_rng {x : Int} (h : -2500000 ≤ x ∧ x ≤ 2500000) : -77000000 ≤ x * 210389 / 6912 ∧ x * 210389 / 6912 ≤ 77000000 := db (by decide) (by omega) (by omega)
theorem near_rng2 {x : Int} (h : -1300000 ≤ x ∧ x ≤ 1300000) : -39600000 ≤ x * 210389 / 6912 ∧ x * 210389 / 6912 ≤ 39600000 := db (by decide) (by omega) (by omega)
theorem BF.ex {g : Nat → Nat → Int} {cal k mn b : Int} (h : BF g cal k mn b) (hb : 0 ≤ b) (hn : nmM g cal k ≤ 20) : 0 ≤ mn ∧ mn ≤ 100 := by
  rcases h with ⟨pl, h1, h2, -⟩ | ⟨-, h⟩
  · rw [← h2]; exact maM_rng (by omega)
  · omega
theorem cm_ub {f : Nat → Int} {z : Int} (h : ∀ n, f n ≤ z) : ∀ n : Nat, cm f n ≤ z * n
  | 0 => by simp [cm]
  | n + 1 => by
    have h1 := cm_ub h n
    have h2 := h n
    show cm f n + f n ≤ _
    rw [show ((n + 1 : Nat) : Int) = (n : Int) + 1 by omega, Int.mul_add]
    omega
theorem BF.rng {g : Nat → Nat → Int} {cal k mn b : Int} (h : BF g cal k mn b) (hcal : cal = 0 ∨ cal = 1 ∨ cal = 3 ∨ cal = 4 ∨ cal = 5 ∨ cal = 6 ∨ cal = 7 ∨ cal = 8 ∨ cal = 9 ∨ cal = 12 ∨ cal = 13) (ho : 12 ≤ cal → OwnOK g (Int.toNat (cal - 12))) : -1 ≤ b ∧ b ≤ 1200 := by
  have hn := nmM_rng hcal ho k
  rcases h with ⟨pl, h1, -, -, rfl⟩ | ⟨-, rfl⟩
  · have a := cm_ub (f := fun i => lnM g cal k (maM cal k i)) (z := 60) (fun i => (lnM_rng hcal ho k (maM cal k i)).2) pl
    have c := cm_le (f := fun i => lnM g cal k (maM cal k i)) (fun i => by have := lnM_rng hcal ho k (maM cal k i); show 0 ≤ lnM g cal k (maM cal k i); omega) (Nat.zero_le pl)
    have e : cm (fun i => lnM g cal k (maM cal k i)) 0 = 0 := rfl
    omega
  · omega
theorem cm_nn {f : Nat → Int} (h : ∀ n, 0 ≤ f n) (n : Nat) : 0 ≤ cm f n := cm_le h (Nat.zero_le n)
set_option maxHeartbeats 4000000 in
set_option maxRecDepth 100000 in
theorem ct_M_dayOf (l : Launch) (D : va_G) (a : Nat) (ad : Nat → Nat) (cx : Nat → ClassId) (F : Nat → Int) (g : Nat → Nat → Int) (cal : Int) (y : Int) (mn : Int) (dd : Int) (r : Int) (hcal : cal = 10 ∨ cal = 11 ∨ cal = 9 ∨ cal = 2 ∨ cal = 0 ∨ cal = 1 ∨ cal = 3 ∨ cal = 4 ∨ cal = 5 ∨ cal = 6 ∨ cal = 7 ∨ cal = 8 ∨ cal = 12 ∨ cal = 13) (ho : 12 ≤ cal → OwnOK g (Int.toNat (cal - 12))) (hcy0 : CyOK g 0) (hcy : cal ≠ 9 → cal ≠ 2 → cal ≠ 10 → cal ≠ 11 → CyOK g cal) (hca : CacheOK F g) (ry : -105000 ≤ y ∧ y ≤ 105000) (rm : -2147483648 ≤ mn ∧ mn ≤ 2147483647) (rdd : -2147483648 ≤ dd ∧ dd ≤ 2147483647) (hdo : DOM g cal y mn dd r) : MW l y_M_dayOf w_M_dayOf 10 253 [.ref a, .int (iI cal), .int (iI y), .int (iI mn), .int (iI dd)] D a ad cx F g (QMl D a ad cx r (fun u => u.2 = g ∧ u.1 0 = F 0 ∧ u.1 8 = F 8 ∧ CacheOK u.1 g)) := by
  refine mw_of (by decide +kernel) (Nat.le_of_ble_eq_true rfl) ?_
  intro p e s m below meth c ls hx hb hr hts hown hlk hml hl hN hK hP hD
  have hown : s.vm.findClass "DayBookModel" = some m.cls := hown
  have hl : lv_has ls 11 [(0, .ref a), (1, .int (iI cal)), (2, .int (iI y)), (3, .int (iI mn)), (4, .int (iI dd))] := hl
  have hF : _ ∧ _ ∧ _ ∧ _ ∧ _ ∧ _ := ⟨hx, hb, hml, hown, hts, hN⟩
  have hS : va_S (Ain a ad) s.heap s.heap [] := va_S.rf
  have hcr : 0 ≤ cal ∧ cal < 14 := by omega
  unfold DOM at hdo
  have hct := ctd_rng (cal := cal) (y := y)
  replace hcal : Hd (cal = 10 ∨ cal = 11 ∨ cal = 9 ∨ cal = 2 ∨ cal = 0 ∨ cal = 1 ∨ cal = 3 ∨ cal = 4 ∨ cal = 5 ∨ cal = 6 ∨ cal = 7 ∨ cal = 8 ∨ cal = 12 ∨ cal = 13) := hcal
  refine ai_ldc2 (x := -9223372036854775808) hx hb hown (hts _ k_1134) (by decide +kernel) d_M_dayOf_0 ?_
  refine lv_lstore (lv' := [(5, .long (iL (-9223372036854775808))), (0, .ref a), (1, .int (iI cal)), (2, .int (iI y)), (3, .int (iI mn)), (4, .int (iI dd))]) hx hb d_M_dayOf_3 hl (by decide) rfl (fun ls hl => ?_)
  refine lv_iload_n hx hb d_M_dayOf_5 rfl (lv_at hl 2 rfl) ?_
  refine ro_S (rest := []) (ct_M_skips l cal (by omega)) j_M_skips k_1098 hF rfl hl.1 rfl ⟨Nat.le_of_ble_eq_true rfl, Nat.le_of_ble_eq_true rfl⟩ (Nat.le_of_ble_eq_true rfl) d_M_dayOf_6 ⟨Nat.zero_le _, Nat.zero_le _⟩ Bm_true (fun _ _ _ => trivial) ?_
  refine ai_ifeqB hx hb d_M_dayOf_9 rfl (fun h9 => ?_) (fun h9 => ?_)
  · skip
    refine lv_iload hx hb d_M_dayOf_16 (lv_at hl 5 rfl) ?_
    refine ai_iconst hx hb d_M_dayOf_18 ?_
    refine ai_icmp_ge hx hb d_M_dayOf_19 rfl (by omega) (by omega) (fun h19 => ?_) (fun h19 => ?_)
    · skip
      refine lv_iload_n hx hb d_M_dayOf_25 rfl (lv_at hl 2 rfl) ?_
      refine ai_bipush (x := 10) hx hb d_M_dayOf_26 (by decide +kernel) ?_
      refine ai_icmp_ne hx hb d_M_dayOf_28 rfl (by omega) (by omega) (fun h28 => ?_) (fun h28 => ?_)
      · skip
        rw [if_neg (by omega), if_neg (by omega)] at hdo
        refine lv_iload_n hx hb d_M_dayOf_95 rfl (lv_at hl 2 rfl) ?_
        refine ai_bipush (x := 11) hx hb d_M_dayOf_96 (by decide +kernel) ?_
        refine ai_icmp_ne hx hb d_M_dayOf_98 rfl (by omega) (by omega) (fun h98 => ?_) (fun h98 => ?_)
        · skip
          rw [if_neg (by omega)] at hdo
          refine lv_iload_n hx hb d_M_dayOf_181 rfl (lv_at hl 2 rfl) ?_
          refine lv_iload_n hx hb d_M_dayOf_182 rfl (lv_at hl 3 rfl) ?_
          refine ai_i2l hx hb d_M_dayOf_183 (by omega) ?_
          refine ro_S (rest := []) (ct_M_counted l cal y (by omega) (by omega)) j_M_counted k_1143 hF rfl hl.1 rfl ⟨Nat.le_of_ble_eq_true rfl, Nat.le_of_ble_eq_true rfl⟩ (Nat.le_of_ble_eq_true rfl) d_M_dayOf_184 ⟨Nat.zero_le _, Nat.zero_le _⟩ Bm_true (fun _ _ _ => trivial) ?_
          refine ai_nmL hx hb (fun v187 e187 => ?_)
          refine lv_lstore (lv' := [(7, .long (iL v187)), (5, .long (iL (-9223372036854775808))), (0, .ref a), (1, .int (iI cal)), (2, .int (iI y)), (3, .int (iI mn)), (4, .int (iI dd))]) hx hb d_M_dayOf_187 hl (by decide) rfl (fun ls hl => ?_)
          rw [← e187] at hdo hct
          refine lv_iload_n hx hb d_M_dayOf_189 rfl (lv_at hl 3 rfl) ?_
          refine ai_iconst hx hb d_M_dayOf_190 ?_
          refine ai_icmp_ne hx hb d_M_dayOf_191 rfl (by omega) (by omega) (fun h191 => ?_) (fun h191 => ?_)
          · skip
            rw [if_neg (by omega)] at hdo
            obtain ⟨b, hb_, hdo⟩ := hdo
            have hC : cal = 0 ∨ cal = 1 ∨ cal = 3 ∨ cal = 4 ∨ cal = 5 ∨ cal = 6 ∨ cal = 7 ∨ cal = 8 ∨ cal = 9 ∨ cal = 12 ∨ cal = 13 := by have := hcal.o; omega
            have hS_ : cal = 9 ∨ cal = 2 ∨ cal = 0 ∨ cal = 1 ∨ cal = 3 ∨ cal = 4 ∨ cal = 5 ∨ cal = 6 ∨ cal = 7 ∨ cal = 8 ∨ cal = 12 ∨ cal = 13 := by have := hcal.o; omega
            have hbr := hb_.rng hC ho
            replace hC : Hd (cal = 0 ∨ cal = 1 ∨ cal = 3 ∨ cal = 4 ∨ cal = 5 ∨ cal = 6 ∨ cal = 7 ∨ cal = 8 ∨ cal = 9 ∨ cal = 12 ∨ cal = 13) := hC
            replace hS_ : Hd (cal = 9 ∨ cal = 2 ∨ cal = 0 ∨ cal = 1 ∨ cal = 3 ∨ cal = 4 ∨ cal = 5 ∨ cal = 6 ∨ cal = 7 ∨ cal = 8 ∨ cal = 12 ∨ cal = 13) := hS_
            refine lv_aload_n hx hb d_M_dayOf_253 rfl (lv_at hl 2 rfl) ?_
            refine lv_iload_n hx hb d_M_dayOf_254 rfl (lv_at hl 3 rfl) ?_
            refine lv_lload hx hb d_M_dayOf_255 (lv_at hl 0 rfl) ?_
            refine lv_iload_n hx hb d_M_dayOf_257 rfl (lv_at hl 5 rfl) ?_
            refine ro_V (rest := []) (ct_M_before l D a ad cx F g cal v187 mn b hC.o ho (by omega) (by omega) hb_) j_M_before k_1146 (hts _ s_M_before) hF (va_recv (q0 := 0) (ci := 10) hK hP rfl rfl) rfl hl.1 rfl ⟨Nat.le_of_ble_eq_true rfl, Nat.le_of_ble_eq_true rfl⟩ (Nat.le_of_ble_eq_true rfl) d_M_dayOf_258 ⟨Nat.zero_le _, Nat.zero_le _⟩ MdB.m (fun U h1 h2 => ⟨va_K.moved h2.alike hK, by rw [h1]; exact hP⟩) ?_
            refine lv_lstore (lv' := [(9, .long (iL b)), (7, .long (iL v187)), (5, .long (iL (-9223372036854775808))), (0, .ref a), (1, .int (iI cal)), (2, .int (iI y)), (3, .int (iI mn)), (4, .int (iI dd))]) hx hb d_M_dayOf_261 hl (by decide) rfl (fun ls hl => ?_)
            refine lv_lload hx hb d_M_dayOf_263 (lv_at hl 0 rfl) ?_
            refine ai_lconst (x := 0) hx hb d_M_dayOf_265 (by decide +kernel) ?_
            refine ai_lcmp_lt hx hb d_M_dayOf_266 d_M_dayOf_267 rfl (by omega) (by omega) (fun h266 => ?_) (fun h266 => ?_)
            · skip
              rw [if_neg (by omega)] at hdo
              refine lv_lload hx hb d_M_dayOf_283 (lv_at hl 2 rfl) ?_
              refine lv_goto hx hb d_M_dayOf_285 rfl ?_
              exact mw_lret hx hb hr hlk d_M_dayOf_304 hP hS (by omega) ⟨rfl, rfl, rfl, hca⟩
            · skip
              have hmn := hb_.ex (by omega) (nmM_rng hC.o ho v187).2
              have hln := lnM_rng hC.o ho v187 mn
              refine lv_iload hx hb d_M_dayOf_270 (lv_at hl 7 rfl) ?_
              refine lv_aload_n hx hb d_M_dayOf_272 rfl (lv_at hl 3 rfl) ?_
              refine lv_iload_n hx hb d_M_dayOf_273 rfl (lv_at hl 4 rfl) ?_
              refine lv_lload hx hb d_M_dayOf_274 (lv_at hl 1 rfl) ?_
              refine lv_iload_n hx hb d_M_dayOf_276 rfl (lv_at hl 6 rfl) ?_
              refine ro_V (rest := [.int (iI dd)]) (ct_M_lengthOf l D a ad cx F g cal v187 mn hC.o ho (by omega) (by omega)) j_M_lengthOf k_1109 (hts _ s_M_lengthOf) hF (va_recv (q0 := 0) (ci := 10) hK hP rfl rfl) rfl hl.1 rfl ⟨Nat.le_of_ble_eq_true rfl, Nat.le_of_ble_eq_true rfl⟩ (Nat.le_of_ble_eq_true rfl) d_M_dayOf_277 ⟨Nat.zero_le _, Nat.zero_le _⟩ MdB.m (fun U h1 h2 => ⟨va_K.moved h2.alike hK, by rw [h1]; exact hP⟩) ?_
              refine ai_icmp_le hx hb d_M_dayOf_280 rfl (by omega) (by omega) (fun h280 => ?_) (fun h280 => ?_)
              · skip
                rw [if_pos (by omega)] at hdo
                have w0 := stM_rng hS_.o ho (y := v187) (by omega)
                refine lv_aload_n hx hb d_M_dayOf_288 rfl (lv_at hl 3 rfl) ?_
                refine lv_iload_n hx hb d_M_dayOf_289 rfl (lv_at hl 4 rfl) ?_
                refine lv_lload hx hb d_M_dayOf_290 (lv_at hl 1 rfl) ?_
                refine ro_V (rest := []) (ct_M_start l D a ad cx F g cal v187 hS_.o ho (fun h9 => by rw [if_neg (by omega)]; exact hcy h9 (by omega) (by omega) (by omega)) (by omega)) j_M_start k_1069 (hts _ s_M_start) hF (va_recv (q0 := 0) (ci := 10) hK hP rfl rfl) rfl hl.1 rfl ⟨Nat.le_of_ble_eq_true rfl, Nat.le_of_ble_eq_true rfl⟩ (Nat.le_of_ble_eq_true rfl) d_M_dayOf_292 ⟨Nat.zero_le _, Nat.zero_le _⟩ MdB.m (fun U h1 h2 => ⟨va_K.moved h2.alike hK, by rw [h1]; exact hP⟩) ?_
                refine lv_lload hx hb d_M_dayOf_295 (lv_at hl 0 rfl) ?_
                refine ai_ladd hx hb d_M_dayOf_297 ?_
                refine lv_iload hx hb d_M_dayOf_298 (lv_at hl 7 rfl) ?_
                refine ai_i2l hx hb d_M_dayOf_300 (by omega) ?_
                refine ai_ladd hx hb d_M_dayOf_301 ?_
                refine ai_lconst (x := 1) hx hb d_M_dayOf_302 (by decide +kernel) ?_
                refine ai_lsub hx hb d_M_dayOf_303 ?_
                exact mw_lret hx hb hr hlk d_M_dayOf_304 hP hS (by omega) ⟨rfl, rfl, rfl, hca⟩
              · skip
                rw [if_neg (by omega)] at hdo
                refine lv_lload hx hb d_M_dayOf_283 (lv_at hl 2 rfl) ?_
                refine lv_goto hx hb d_M_dayOf_285 rfl ?_
                exact mw_lret hx hb hr hlk d_M_dayOf_304 hP hS (by omega) ⟨rfl, rfl, rfl, hca⟩
          · skip
            rw [if_pos (by omega)] at hdo
            refine lv_aload_n hx hb d_M_dayOf_194 rfl (lv_at hl 2 rfl) ?_
            refine ai_iconst hx hb d_M_dayOf_195 ?_
            refine lv_lload hx hb d_M_dayOf_196 (lv_at hl 0 rfl) ?_
            refine ro_V (rest := []) (ct_M_start l D a ad cx F g 2 v187 (by decide) (fun h => absurd h (by decide)) (fun _ => hcy0) (by omega)) j_M_start k_1069 (hts _ s_M_start) hF (va_recv (q0 := 0) (ci := 10) hK hP rfl rfl) rfl hl.1 rfl ⟨Nat.le_of_ble_eq_true rfl, Nat.le_of_ble_eq_true rfl⟩ (Nat.le_of_ble_eq_true rfl) d_M_dayOf_198 ⟨Nat.zero_le _, Nat.zero_le _⟩ MdB.m (fun U h1 h2 => ⟨va_K.moved h2.alike hK, by rw [h1]; exact hP⟩) ?_
            refine ai_ldc2 (x := 7) hx hb hown (hts _ k_944) (by decide +kernel) d_M_dayOf_201 ?_
            refine lv_iload_n hx hb d_M_dayOf_204 rfl (lv_at hl 5 rfl) ?_
            refine ai_i2l hx hb d_M_dayOf_205 (by omega) ?_
            refine ai_lconst (x := 1) hx hb d_M_dayOf_206 (by decide +kernel) ?_
            refine ai_lsub hx hb d_M_dayOf_207 ?_
            refine ai_lmul hx hb d_M_dayOf_208 ?_
            refine ai_ladd hx hb d_M_dayOf_209 ?_
            refine lv_iload hx hb d_M_dayOf_210 (lv_at hl 6 rfl) ?_
            refine ai_i2l hx hb d_M_dayOf_212 (by omega) ?_
            refine ai_ladd hx hb d_M_dayOf_213 ?_
            refine ai_lconst (x := 1) hx hb d_M_dayOf_214 (by decide +kernel) ?_
            refine ai_lsub hx hb d_M_dayOf_215 ?_
            refine ai_nmL hx hb (fun v216 e216 => ?_)
            refine lv_lstore (lv' := [(9, .long (iL v216)), (7, .long (iL v187)), (5, .long (iL (-9223372036854775808))), (0, .ref a), (1, .int (iI cal)), (2, .int (iI y)), (3, .int (iI mn)), (4, .int (iI dd))]) hx hb d_M_dayOf_216 hl (by decide) rfl (fun ls hl => ?_)
            have w0 := stM_rng (g := g) (cal := 2) (by decide) (fun h => absurd h (by decide)) (y := v187) (by omega)
            have w1 := stM_rng (g := g) (cal := 2) (by decide) (fun h => absurd h (by decide)) (y := v187 + 1) (by omega)
            refine lv_iload_n hx hb d_M_dayOf_218 rfl (lv_at hl 6 rfl) ?_
            refine ai_iconst hx hb d_M_dayOf_219 ?_
            refine ai_icmp_lt hx hb d_M_dayOf_220 rfl (by omega) (by omega) (fun h220 => ?_) (fun h220 => ?_)
            · skip
              rw [if_neg (by omega)] at hdo
              refine lv_lload hx hb d_M_dayOf_245 (lv_at hl 2 rfl) ?_
              refine lv_goto hx hb d_M_dayOf_247 rfl ?_
              exact mw_lret hx hb hr hlk d_M_dayOf_252 hP hS (by omega) ⟨rfl, rfl, rfl, hca⟩
            · skip
              refine lv_iload hx hb d_M_dayOf_223 (lv_at hl 7 rfl) ?_
              refine ai_bipush (x := 7) hx hb d_M_dayOf_225 (by decide +kernel) ?_
              refine ai_icmp_gt hx hb d_M_dayOf_227 rfl (by omega) (by omega) (fun h227 => ?_) (fun h227 => ?_)
              · skip
                rw [if_neg (by omega)] at hdo
                refine lv_lload hx hb d_M_dayOf_245 (lv_at hl 2 rfl) ?_
                refine lv_goto hx hb d_M_dayOf_247 rfl ?_
                exact mw_lret hx hb hr hlk d_M_dayOf_252 hP hS (by omega) ⟨rfl, rfl, rfl, hca⟩
              · skip
                refine lv_lload hx hb d_M_dayOf_230 (lv_at hl 0 rfl) ?_
                refine lv_aload_n hx hb d_M_dayOf_232 rfl (lv_at hl 3 rfl) ?_
                refine ai_iconst hx hb d_M_dayOf_233 ?_
                refine lv_lload hx hb d_M_dayOf_234 (lv_at hl 1 rfl) ?_
                refine ai_lconst (x := 1) hx hb d_M_dayOf_236 (by decide +kernel) ?_
                refine ai_ladd hx hb d_M_dayOf_237 ?_
                refine ro_V (rest := [.long (iL v216)]) (ct_M_start l D a ad cx F g 2 (v187 + 1) (by decide) (fun h => absurd h (by decide)) (fun _ => hcy0) (by omega)) j_M_start k_1069 (hts _ s_M_start) hF (va_recv (q0 := 0) (ci := 10) hK hP rfl rfl) rfl hl.1 rfl ⟨Nat.le_of_ble_eq_true rfl, Nat.le_of_ble_eq_true rfl⟩ (Nat.le_of_ble_eq_true rfl) d_M_dayOf_238 ⟨Nat.zero_le _, Nat.zero_le _⟩ MdB.m (fun U h1 h2 => ⟨va_K.moved h2.alike hK, by rw [h1]; exact hP⟩) ?_
                refine ai_lcmp_lt hx hb d_M_dayOf_241 d_M_dayOf_242 rfl (by omega) (by omega) (fun h241 => ?_) (fun h241 => ?_)
                · skip
                  rw [if_pos (by omega)] at hdo
                  refine lv_lload hx hb d_M_dayOf_250 (lv_at hl 0 rfl) ?_
                  exact mw_lret hx hb hr hlk d_M_dayOf_252 hP hS (by omega) ⟨rfl, rfl, rfl, hca⟩
                · skip
                  rw [if_neg (by omega)] at hdo
                  refine lv_lload hx hb d_M_dayOf_245 (lv_at hl 2 rfl) ?_
                  refine lv_goto hx hb d_M_dayOf_247 rfl ?_
                  exact mw_lret hx hb hr hlk d_M_dayOf_252 hP hS (by omega) ⟨rfl, rfl, rfl, hca⟩
        · skip
          rw [if_pos (by omega)] at hdo
          refine lv_iload_n hx hb d_M_dayOf_101 rfl (lv_at hl 4 rfl) ?_
          refine ai_bipush (x := 100) hx hb d_M_dayOf_102 (by decide +kernel) ?_
          refine ai_icmp_le hx hb d_M_dayOf_104 rfl (by omega) (by omega) (fun h104 => ?_) (fun h104 => ?_)
          · skip
            have ew : (if 100 < mn then mn - 100 else mn) = mn := if_neg (by omega)
            rw [ew] at hdo
            refine lv_iload_n hx hb d_M_dayOf_114 rfl (lv_at hl 4 rfl) ?_
            refine lv_istore (lv' := [(7, .int (iI mn)), (5, .long (iL (-9223372036854775808))), (0, .ref a), (1, .int (iI cal)), (2, .int (iI y)), (3, .int (iI mn)), (4, .int (iI dd))]) hx hb d_M_dayOf_115 hl (by decide) rfl (fun ls hl => ?_)
            (try rw [← e115] at hdo)
            refine lv_iload hx hb d_M_dayOf_117 (lv_at hl 0 rfl) ?_
            refine ai_iconst hx hb d_M_dayOf_119 ?_
            refine ai_icmp_lt hx hb d_M_dayOf_120 rfl (by omega) (by omega) (fun h120 => ?_) (fun h120 => ?_)
            · skip
              rw [if_neg (by omega)] at hdo
              refine lv_lload hx hb d_M_dayOf_137 (lv_at hl 1 rfl) ?_
              refine lv_goto hx hb d_M_dayOf_139 rfl ?_
              exact mw_lret hx hb hr hlk d_M_dayOf_180 hP hS (hdo.symm) ⟨rfl, rfl, rfl, hca⟩
            · skip
              refine lv_iload hx hb d_M_dayOf_123 (lv_at hl 0 rfl) ?_
              refine ai_bipush (x := 12) hx hb d_M_dayOf_125 (by decide +kernel) ?_
              refine ai_icmp_gt hx hb d_M_dayOf_127 rfl (by omega) (by omega) (fun h127 => ?_) (fun h127 => ?_)
              · skip
                rw [if_neg (by omega)] at hdo
                refine lv_lload hx hb d_M_dayOf_137 (lv_at hl 1 rfl) ?_
                refine lv_goto hx hb d_M_dayOf_139 rfl ?_
                exact mw_lret hx hb hr hlk d_M_dayOf_180 hP hS (hdo.symm) ⟨rfl, rfl, rfl, hca⟩
              · skip
                refine lv_iload hx hb d_M_dayOf_130 (lv_at hl 6 rfl) ?_
                refine ai_bipush (x := 30) hx hb d_M_dayOf_132 (by decide +kernel) ?_
                refine ai_icmp_le hx hb d_M_dayOf_134 rfl (by omega) (by omega) (fun h134 => ?_) (fun h134 => ?_)
                · skip
                  rw [if_pos (by omega)] at hdo
                  first | (have nq := near_rng2 (x := 12 * y + v115 - 1) (by omega)) | (have nq := near_rng2 (x := 12 * y + mn - 1) (by omega))
                  refine lv_aload_n hx hb d_M_dayOf_142 rfl (lv_at hl 2 rfl) ?_
                  refine ai_bipush (x := 11) hx hb d_M_dayOf_143 (by decide +kernel) ?_
                  refine lv_iload_n hx hb d_M_dayOf_145 rfl (lv_at hl 4 rfl) ?_
                  refine lv_iload_n hx hb d_M_dayOf_146 rfl (lv_at hl 5 rfl) ?_
                  refine lv_iload hx hb d_M_dayOf_147 (lv_at hl 6 rfl) ?_
                  refine ai_ldc2 (x := 12) hx hb hown (hts _ k_1038) (by decide +kernel) d_M_dayOf_149 ?_
                  refine lv_iload_n hx hb d_M_dayOf_152 rfl (lv_at hl 4 rfl) ?_
                  refine ai_i2l hx hb d_M_dayOf_153 (by omega) ?_
                  refine ai_lmul hx hb d_M_dayOf_154 ?_
                  refine lv_iload hx hb d_M_dayOf_155 (lv_at hl 0 rfl) ?_
                  refine ai_i2l hx hb d_M_dayOf_157 (by omega) ?_
                  refine ai_ladd hx hb d_M_dayOf_158 ?_
                  refine ai_lconst (x := 1) hx hb d_M_dayOf_159 (by decide +kernel) ?_
                  refine ai_lsub hx hb d_M_dayOf_160 ?_
                  refine ai_ldc2 (x := 210389) hx hb hown (hts _ k_1037) (by decide +kernel) d_M_dayOf_161 ?_
                  refine ai_lmul hx hb d_M_dayOf_164 ?_
                  refine ai_ldc2 (x := 6912) hx hb hown (hts _ k_1034) (by decide +kernel) d_M_dayOf_165 ?_
                  refine ro_S (rest := [.int (iI dd), .int (iI mn), .int (iI y), .int (iI 11), .ref a]) (ct_M_div l ((((12 * y) + mn) - 1) * 210389) 6912 (by omega) (by omega)) j_M_div k_928 hF rfl hl.1 rfl ⟨Nat.le_of_ble_eq_true rfl, Nat.le_of_ble_eq_true rfl⟩ (Nat.le_of_ble_eq_true rfl) d_M_dayOf_168 ⟨Nat.zero_le _, Nat.zero_le _⟩ Bm_true (fun _ _ _ => trivial) ?_
                  refine ai_ldc2 (x := 1132959) hx hb hown (hts _ k_1035) (by decide +kernel) d_M_dayOf_171 ?_
                  refine ai_lsub hx hb d_M_dayOf_174 ?_
                  refine ai_bipush (x := 70) hx hb d_M_dayOf_175 (by decide +kernel) ?_
                  refine mw_l (rest := []) (ct_M_lookFor l D a ad cx F g 11 y mn dd ((((((12 * y) + mn) - 1) * 210389) / 6912) - 1132959) 70 r (Or.inr rfl) hcy0 hca (by omega) (by omega) (by omega) (by omega) (by omega) hdo) j_M_lookFor k_1135 s_M_lookFor hF hK hP hD hS (fun _ h => h) rfl hl.1 rfl ⟨Nat.le_of_ble_eq_true rfl, Nat.le_of_ble_eq_true rfl⟩ (Nat.le_of_ble_eq_true rfl) d_M_dayOf_177 ⟨Nat.zero_le _, Nat.zero_le _⟩ (fun u177 H locs hΦ177 hP hS => ?_)
                  obtain ⟨F177, g177⟩ := u177
                  dsimp only at hΦ177 hP
                  obtain ⟨eg177, t177, z177, c177⟩ := hΦ177
                  rw [eg177] at hP
                  have hD : va_D (Ain a ad) (MWs a ad cx F177 g) := MD.any hD
                  exact mw_lret hx hb hr hlk d_M_dayOf_180 hP hS rfl ⟨rfl, t177, z177, c177⟩
                · skip
                  rw [if_neg (by omega)] at hdo
                  refine lv_lload hx hb d_M_dayOf_137 (lv_at hl 1 rfl) ?_
                  refine lv_goto hx hb d_M_dayOf_139 rfl ?_
                  exact mw_lret hx hb hr hlk d_M_dayOf_180 hP hS (hdo.symm) ⟨rfl, rfl, rfl, hca⟩
          · skip
            have ew : (if 100 < mn then mn - 100 else mn) = mn - 100 := if_pos (by omega)
            rw [ew] at hdo
            refine lv_iload_n hx hb d_M_dayOf_107 rfl (lv_at hl 4 rfl) ?_
            refine ai_bipush (x := 100) hx hb d_M_dayOf_108 (by decide +kernel) ?_
            refine ai_isub hx hb d_M_dayOf_110 ?_
            refine lv_goto hx hb d_M_dayOf_111 rfl ?_
            refine ai_nmI hx hb (fun v115 e115 => ?_)
            refine lv_istore (lv' := [(7, .int (iI v115)), (5, .long (iL (-9223372036854775808))), (0, .ref a), (1, .int (iI cal)), (2, .int (iI y)), (3, .int (iI mn)), (4, .int (iI dd))]) hx hb d_M_dayOf_115 hl (by decide) rfl (fun ls hl => ?_)
            (try rw [← e115] at hdo)
            refine lv_iload hx hb d_M_dayOf_117 (lv_at hl 0 rfl) ?_
            refine ai_iconst hx hb d_M_dayOf_119 ?_
            refine ai_icmp_lt hx hb d_M_dayOf_120 rfl (by omega) (by omega) (fun h120 => ?_) (fun h120 => ?_)
            · skip
              rw [if_neg (by omega)] at hdo
              refine lv_lload hx hb d_M_dayOf_137 (lv_at hl 1 rfl) ?_
              refine lv_goto hx hb d_M_dayOf_139 rfl ?_
              exact mw_lret hx hb hr hlk d_M_dayOf_180 hP hS (hdo.symm) ⟨rfl, rfl, rfl, hca⟩
            · skip
              refine lv_iload hx hb d_M_dayOf_123 (lv_at hl 0 rfl) ?_
              refine ai_bipush (x := 12) hx hb d_M_dayOf_125 (by decide +kernel) ?_
              refine ai_icmp_gt hx hb d_M_dayOf_127 rfl (by omega) (by omega) (fun h127 => ?_) (fun h127 => ?_)
              · skip
                rw [if_neg (by omega)] at hdo
                refine lv_lload hx hb d_M_dayOf_137 (lv_at hl 1 rfl) ?_
                refine lv_goto hx hb d_M_dayOf_139 rfl ?_
                exact mw_lret hx hb hr hlk d_M_dayOf_180 hP hS (hdo.symm) ⟨rfl, rfl, rfl, hca⟩
              · skip
                refine lv_iload hx hb d_M_dayOf_130 (lv_at hl 6 rfl) ?_
                refine ai_bipush (x := 30) hx hb d_M_dayOf_132 (by decide +kernel) ?_
                refine ai_icmp_le hx hb d_M_dayOf_134 rfl (by omega) (by omega) (fun h134 => ?_) (fun h134 => ?_)
                · skip
                  rw [if_pos (by omega)] at hdo
                  first | (have nq := near_rng2 (x := 12 * y + v115 - 1) (by omega)) | (have nq := near_rng2 (x := 12 * y + mn - 1) (by omega))
                  refine lv_aload_n hx hb d_M_dayOf_142 rfl (lv_at hl 2 rfl) ?_
                  refine ai_bipush (x := 11) hx hb d_M_dayOf_143 (by decide +kernel) ?_
                  refine lv_iload_n hx hb d_M_dayOf_145 rfl (lv_at hl 4 rfl) ?_
                  refine lv_iload_n hx hb d_M_dayOf_146 rfl (lv_at hl 5 rfl) ?_
                  refine lv_iload hx hb d_M_dayOf_147 (lv_at hl 6 rfl) ?_
                  refine ai_ldc2 (x := 12) hx hb hown (hts _ k_1038) (by decide +kernel) d_M_dayOf_149 ?_
                  refine lv_iload_n hx hb d_M_dayOf_152 rfl (lv_at hl 4 rfl) ?_
                  refine ai_i2l hx hb d_M_dayOf_153 (by omega) ?_
                  refine ai_lmul hx hb d_M_dayOf_154 ?_
                  refine lv_iload hx hb d_M_dayOf_155 (lv_at hl 0 rfl) ?_
                  refine ai_i2l hx hb d_M_dayOf_157 (by omega) ?_
                  refine ai_ladd hx hb d_M_dayOf_158 ?_
                  refine ai_lconst (x := 1) hx hb d_M_dayOf_159 (by decide +kernel) ?_
                  refine ai_lsub hx hb d_M_dayOf_160 ?_
                  refine ai_ldc2 (x := 210389) hx hb hown (hts _ k_1037) (by decide +kernel) d_M_dayOf_161 ?_
                  refine ai_lmul hx hb d_M_dayOf_164 ?_
                  refine ai_ldc2 (x := 6912) hx hb hown (hts _ k_1034) (by decide +kernel) d_M_dayOf_165 ?_
                  refine ro_S (rest := [.int (iI dd), .int (iI mn), .int (iI y), .int (iI 11), .ref a]) (ct_M_div l ((((12 * y) + v115) - 1) * 210389) 6912 (by omega) (by omega)) j_M_div k_928 hF rfl hl.1 rfl ⟨Nat.le_of_ble_eq_true rfl, Nat.le_of_ble_eq_true rfl⟩ (Nat.le_of_ble_eq_true rfl) d_M_dayOf_168 ⟨Nat.zero_le _, Nat.zero_le _⟩ Bm_true (fun _ _ _ => trivial) ?_
                  refine ai_ldc2 (x := 1132959) hx hb hown (hts _ k_1035) (by decide +kernel) d_M_dayOf_171 ?_
                  refine ai_lsub hx hb d_M_dayOf_174 ?_
                  refine ai_bipush (x := 70) hx hb d_M_dayOf_175 (by decide +kernel) ?_
                  refine mw_l (rest := []) (ct_M_lookFor l D a ad cx F g 11 y mn dd ((((((12 * y) + v115) - 1) * 210389) / 6912) - 1132959) 70 r (Or.inr rfl) hcy0 hca (by omega) (by omega) (by omega) (by omega) (by omega) hdo) j_M_lookFor k_1135 s_M_lookFor hF hK hP hD hS (fun _ h => h) rfl hl.1 rfl ⟨Nat.le_of_ble_eq_true rfl, Nat.le_of_ble_eq_true rfl⟩ (Nat.le_of_ble_eq_true rfl) d_M_dayOf_177 ⟨Nat.zero_le _, Nat.zero_le _⟩ (fun u177 H locs hΦ177 hP hS => ?_)
                  obtain ⟨F177, g177⟩ := u177
                  dsimp only at hΦ177 hP
                  obtain ⟨eg177, t177, z177, c177⟩ := hΦ177
                  rw [eg177] at hP
                  have hD : va_D (Ain a ad) (MWs a ad cx F177 g) := MD.any hD
                  exact mw_lret hx hb hr hlk d_M_dayOf_180 hP hS rfl ⟨rfl, t177, z177, c177⟩
                · skip
                  rw [if_neg (by omega)] at hdo
                  refine lv_lload hx hb d_M_dayOf_137 (lv_at hl 1 rfl) ?_
                  refine lv_goto hx hb d_M_dayOf_139 rfl ?_
                  exact mw_lret hx hb hr hlk d_M_dayOf_180 hP hS (hdo.symm) ⟨rfl, rfl, rfl, hca⟩
      · skip
        rw [if_neg (by omega), if_pos (by omega)] at hdo
        refine lv_iload_n hx hb d_M_dayOf_31 rfl (lv_at hl 4 rfl) ?_
        refine ai_iconst hx hb d_M_dayOf_32 ?_
        refine ai_icmp_lt hx hb d_M_dayOf_33 rfl (by omega) (by omega) (fun h33 => ?_) (fun h33 => ?_)
        · skip
          rw [if_neg (by omega)] at hdo
          refine lv_lload hx hb d_M_dayOf_49 (lv_at hl 0 rfl) ?_
          refine lv_goto hx hb d_M_dayOf_51 rfl ?_
          exact mw_lret hx hb hr hlk d_M_dayOf_94 hP hS (hdo.symm) ⟨rfl, rfl, rfl, hca⟩
        · skip
          refine lv_iload_n hx hb d_M_dayOf_36 rfl (lv_at hl 4 rfl) ?_
          refine ai_bipush (x := 12) hx hb d_M_dayOf_37 (by decide +kernel) ?_
          refine ai_icmp_gt hx hb d_M_dayOf_39 rfl (by omega) (by omega) (fun h39 => ?_) (fun h39 => ?_)
          · skip
            rw [if_neg (by omega)] at hdo
            refine lv_lload hx hb d_M_dayOf_49 (lv_at hl 0 rfl) ?_
            refine lv_goto hx hb d_M_dayOf_51 rfl ?_
            exact mw_lret hx hb hr hlk d_M_dayOf_94 hP hS (hdo.symm) ⟨rfl, rfl, rfl, hca⟩
          · skip
            refine lv_iload hx hb d_M_dayOf_42 (lv_at hl 5 rfl) ?_
            refine ai_bipush (x := 32) hx hb d_M_dayOf_44 (by decide +kernel) ?_
            refine ai_icmp_le hx hb d_M_dayOf_46 rfl (by omega) (by omega) (fun h46 => ?_) (fun h46 => ?_)
            · skip
              rw [if_pos (by omega)] at hdo
              have nq := near_rng2 (x := 12 * y + mn - 1) (by omega)
              refine lv_aload_n hx hb d_M_dayOf_54 rfl (lv_at hl 1 rfl) ?_
              refine ai_bipush (x := 10) hx hb d_M_dayOf_55 (by decide +kernel) ?_
              refine lv_iload_n hx hb d_M_dayOf_57 rfl (lv_at hl 3 rfl) ?_
              refine lv_iload_n hx hb d_M_dayOf_58 rfl (lv_at hl 4 rfl) ?_
              refine lv_iload hx hb d_M_dayOf_59 (lv_at hl 5 rfl) ?_
              refine ai_ldc2 (x := 12) hx hb hown (hts _ k_1038) (by decide +kernel) d_M_dayOf_61 ?_
              refine lv_iload_n hx hb d_M_dayOf_64 rfl (lv_at hl 3 rfl) ?_
              refine ai_i2l hx hb d_M_dayOf_65 (by omega) ?_
              refine ai_lmul hx hb d_M_dayOf_66 ?_
              refine lv_iload_n hx hb d_M_dayOf_67 rfl (lv_at hl 4 rfl) ?_
              refine ai_i2l hx hb d_M_dayOf_68 (by omega) ?_
              refine ai_ladd hx hb d_M_dayOf_69 ?_
              refine ai_lconst (x := 1) hx hb d_M_dayOf_70 (by decide +kernel) ?_
              refine ai_lsub hx hb d_M_dayOf_71 ?_
              refine ai_ldc2 (x := 210389) hx hb hown (hts _ k_1037) (by decide +kernel) d_M_dayOf_72 ?_
              refine ai_lmul hx hb d_M_dayOf_75 ?_
              refine ai_ldc2 (x := 6912) hx hb hown (hts _ k_1034) (by decide +kernel) d_M_dayOf_76 ?_
              refine ro_S (rest := [.int (iI dd), .int (iI mn), .int (iI y), .int (iI 10), .ref a]) (ct_M_div l ((((12 * y) + mn) - 1) * 210389) 6912 (by omega) (by omega)) j_M_div k_928 hF rfl hl.1 rfl ⟨Nat.le_of_ble_eq_true rfl, Nat.le_of_ble_eq_true rfl⟩ (Nat.le_of_ble_eq_true rfl) d_M_dayOf_79 ⟨Nat.zero_le _, Nat.zero_le _⟩ Bm_true (fun _ _ _ => trivial) ?_
              refine ai_ldc2 (x := 1132959) hx hb hown (hts _ k_1035) (by decide +kernel) d_M_dayOf_82 ?_
              refine ai_lsub hx hb d_M_dayOf_85 ?_
              refine lv_iload hx hb d_M_dayOf_86 (lv_at hl 5 rfl) ?_
              refine ai_i2l hx hb d_M_dayOf_88 (by omega) ?_
              refine ai_ladd hx hb d_M_dayOf_89 ?_
              refine ai_iconst hx hb d_M_dayOf_90 ?_
              refine mw_l (rest := []) (ct_M_lookFor l D a ad cx F g 10 y mn dd (((((((12 * y) + mn) - 1) * 210389) / 6912) - 1132959) + dd) 3 r (Or.inl rfl) hcy0 hca (by omega) (by omega) (by omega) (by omega) (by omega) hdo) j_M_lookFor k_1135 s_M_lookFor hF hK hP hD hS (fun _ h => h) rfl hl.1 rfl ⟨Nat.le_of_ble_eq_true rfl, Nat.le_of_ble_eq_true rfl⟩ (Nat.le_of_ble_eq_true rfl) d_M_dayOf_91 ⟨Nat.zero_le _, Nat.zero_le _⟩ (fun u91 H locs hΦ91 hP hS => ?_)
              obtain ⟨F91, g91⟩ := u91
              dsimp only at hΦ91 hP
              obtain ⟨eg91, t91, z91, c91⟩ := hΦ91
              rw [eg91] at hP
              have hD : va_D (Ain a ad) (MWs a ad cx F91 g) := MD.any hD
              exact mw_lret hx hb hr hlk d_M_dayOf_94 hP hS rfl ⟨rfl, t91, z91, c91⟩
            · skip
              rw [if_neg (by omega)] at hdo
              refine lv_lload hx hb d_M_dayOf_49 (lv_at hl 0 rfl) ?_
              refine lv_goto hx hb d_M_dayOf_51 rfl ?_
              exact mw_lret hx hb hr hlk d_M_dayOf_94 hP hS (hdo.symm) ⟨rfl, rfl, rfl, hca⟩
    · skip
      refine lv_lload hx hb d_M_dayOf_22 (lv_at hl 0 rfl) ?_
      exact mw_lret hx hb hr hlk d_M_dayOf_24 hP hS (by rw [if_pos (by omega)] at hdo; exact hdo.symm) ⟨rfl, rfl, rfl, hca⟩
  · skip
    refine lv_iload_n hx hb d_M_dayOf_12 rfl (lv_at hl 3 rfl) ?_
    refine ai_if_eq hx hb d_M_dayOf_13 rfl (by omega) (fun h13 => ?_) (fun h13 => ?_)
    · skip
      refine lv_lload hx hb d_M_dayOf_22 (lv_at hl 0 rfl) ?_
      exact mw_lret hx hb hr hlk d_M_dayOf_24 hP hS (by rw [if_pos (by omega)] at hdo; exact hdo.symm) ⟨rfl, rfl, rfl, hca⟩
    · skip
      refine lv_iload hx hb d_M_dayOf_16 (lv_at hl 5 rfl) ?_
      refine ai_iconst hx hb d_M_dayOf_18 ?_
      refine ai_icmp_ge hx hb d_M_dayOf_19 rfl (by omega) (by omega) (fun h19 => ?_) (fun h19 => ?_)
      · skip
        refine lv_iload_n hx hb d_M_dayOf_25 rfl (lv_at hl 2 rfl) ?_
        refine ai_bipush (x := 10) hx hb d_M_dayOf_26 (by decide +kernel) ?_
        refine ai_icmp_ne hx hb d_M_dayOf_28 rfl (by omega) (by omega) (fun h28 => ?_) (fun h28 => ?_)
        · skip
          rw [if_neg (by omega), if_neg (by omega)] at hdo
          refine lv_iload_n hx hb d_M_dayOf_95 rfl (lv_at hl 2 rfl) ?_
          refine ai_bipush (x := 11) hx hb d_M_dayOf_96 (by decide +kernel) ?_
          refine ai_icmp_ne hx hb d_M_dayOf_98 rfl (by omega) (by omega) (fun h98 => ?_) (fun h98 => ?_)
          · skip
            rw [if_neg (by omega)] at hdo
            refine lv_iload_n hx hb d_M_dayOf_181 rfl (lv_at hl 2 rfl) ?_
            refine lv_iload_n hx hb d_M_dayOf_182 rfl (lv_at hl 3 rfl) ?_
            refine ai_i2l hx hb d_M_dayOf_183 (by omega) ?_
            refine ro_S (rest := []) (ct_M_counted l cal y (by omega) (by omega)) j_M_counted k_1143 hF rfl hl.1 rfl ⟨Nat.le_of_ble_eq_true rfl, Nat.le_of_ble_eq_true rfl⟩ (Nat.le_of_ble_eq_true rfl) d_M_dayOf_184 ⟨Nat.zero_le _, Nat.zero_le _⟩ Bm_true (fun _ _ _ => trivial) ?_
            refine ai_nmL hx hb (fun v187 e187 => ?_)
            refine lv_lstore (lv' := [(7, .long (iL v187)), (5, .long (iL (-9223372036854775808))), (0, .ref a), (1, .int (iI cal)), (2, .int (iI y)), (3, .int (iI mn)), (4, .int (iI dd))]) hx hb d_M_dayOf_187 hl (by decide) rfl (fun ls hl => ?_)
            rw [← e187] at hdo hct
            refine lv_iload_n hx hb d_M_dayOf_189 rfl (lv_at hl 3 rfl) ?_
            refine ai_iconst hx hb d_M_dayOf_190 ?_
            refine ai_icmp_ne hx hb d_M_dayOf_191 rfl (by omega) (by omega) (fun h191 => ?_) (fun h191 => ?_)
            · skip
              rw [if_neg (by omega)] at hdo
              obtain ⟨b, hb_, hdo⟩ := hdo
              have hC : cal = 0 ∨ cal = 1 ∨ cal = 3 ∨ cal = 4 ∨ cal = 5 ∨ cal = 6 ∨ cal = 7 ∨ cal = 8 ∨ cal = 9 ∨ cal = 12 ∨ cal = 13 := by have := hcal.o; omega
              have hS_ : cal = 9 ∨ cal = 2 ∨ cal = 0 ∨ cal = 1 ∨ cal = 3 ∨ cal = 4 ∨ cal = 5 ∨ cal = 6 ∨ cal = 7 ∨ cal = 8 ∨ cal = 12 ∨ cal = 13 := by have := hcal.o; omega
              have hbr := hb_.rng hC ho
              replace hC : Hd (cal = 0 ∨ cal = 1 ∨ cal = 3 ∨ cal = 4 ∨ cal = 5 ∨ cal = 6 ∨ cal = 7 ∨ cal = 8 ∨ cal = 9 ∨ cal = 12 ∨ cal = 13) := hC
              replace hS_ : Hd (cal = 9 ∨ cal = 2 ∨ cal = 0 ∨ cal = 1 ∨ cal = 3 ∨ cal = 4 ∨ cal = 5 ∨ cal = 6 ∨ cal = 7 ∨ cal = 8 ∨ cal = 12 ∨ cal = 13) := hS_
              refine lv_aload_n hx hb d_M_dayOf_253 rfl (lv_at hl 2 rfl) ?_
              refine lv_iload_n hx hb d_M_dayOf_254 rfl (lv_at hl 3 rfl) ?_
              refine lv_lload hx hb d_M_dayOf_255 (lv_at hl 0 rfl) ?_
              refine lv_iload_n hx hb d_M_dayOf_257 rfl (lv_at hl 5 rfl) ?_
              refine ro_V (rest := []) (ct_M_before l D a ad cx F g cal v187 mn b hC.o ho (by omega) (by omega) hb_) j_M_before k_1146 (hts _ s_M_before) hF (va_recv (q0 := 0) (ci := 10) hK hP rfl rfl) rfl hl.1 rfl ⟨Nat.le_of_ble_eq_true rfl, Nat.le_of_ble_eq_true rfl⟩ (Nat.le_of_ble_eq_true rfl) d_M_dayOf_258 ⟨Nat.zero_le _, Nat.zero_le _⟩ MdB.m (fun U h1 h2 => ⟨va_K.moved h2.alike hK, by rw [h1]; exact hP⟩) ?_
              refine lv_lstore (lv' := [(9, .long (iL b)), (7, .long (iL v187)), (5, .long (iL (-9223372036854775808))), (0, .ref a), (1, .int (iI cal)), (2, .int (iI y)), (3, .int (iI mn)), (4, .int (iI dd))]) hx hb d_M_dayOf_261 hl (by decide) rfl (fun ls hl => ?_)
              refine lv_lload hx hb d_M_dayOf_263 (lv_at hl 0 rfl) ?_
              refine ai_lconst (x := 0) hx hb d_M_dayOf_265 (by decide +kernel) ?_
              refine ai_lcmp_lt hx hb d_M_dayOf_266 d_M_dayOf_267 rfl (by omega) (by omega) (fun h266 => ?_) (fun h266 => ?_)
              · skip
                rw [if_neg (by omega)] at hdo
                refine lv_lload hx hb d_M_dayOf_283 (lv_at hl 2 rfl) ?_
                refine lv_goto hx hb d_M_dayOf_285 rfl ?_
                exact mw_lret hx hb hr hlk d_M_dayOf_304 hP hS (by omega) ⟨rfl, rfl, rfl, hca⟩
              · skip
                have hmn := hb_.ex (by omega) (nmM_rng hC.o ho v187).2
                have hln := lnM_rng hC.o ho v187 mn
                refine lv_iload hx hb d_M_dayOf_270 (lv_at hl 7 rfl) ?_
                refine lv_aload_n hx hb d_M_dayOf_272 rfl (lv_at hl 3 rfl) ?_
                refine lv_iload_n hx hb d_M_dayOf_273 rfl (lv_at hl 4 rfl) ?_
                refine lv_lload hx hb d_M_dayOf_274 (lv_at hl 1 rfl) ?_
                refine lv_iload_n hx hb d_M_dayOf_276 rfl (lv_at hl 6 rfl) ?_
                refine ro_V (rest := [.int (iI dd)]) (ct_M_lengthOf l D a ad cx F g cal v187 mn hC.o ho (by omega) (by omega)) j_M_lengthOf k_1109 (hts _ s_M_lengthOf) hF (va_recv (q0 := 0) (ci := 10) hK hP rfl rfl) rfl hl.1 rfl ⟨Nat.le_of_ble_eq_true rfl, Nat.le_of_ble_eq_true rfl⟩ (Nat.le_of_ble_eq_true rfl) d_M_dayOf_277 ⟨Nat.zero_le _, Nat.zero_le _⟩ MdB.m (fun U h1 h2 => ⟨va_K.moved h2.alike hK, by rw [h1]; exact hP⟩) ?_
                refine ai_icmp_le hx hb d_M_dayOf_280 rfl (by omega) (by omega) (fun h280 => ?_) (fun h280 => ?_)
                · skip
                  rw [if_pos (by omega)] at hdo
                  have w0 := stM_rng hS_.o ho (y := v187) (by omega)
                  refine lv_aload_n hx hb d_M_dayOf_288 rfl (lv_at hl 3 rfl) ?_
                  refine lv_iload_n hx hb d_M_dayOf_289 rfl (lv_at hl 4 rfl) ?_
                  refine lv_lload hx hb d_M_dayOf_290 (lv_at hl 1 rfl) ?_
                  refine ro_V (rest := []) (ct_M_start l D a ad cx F g cal v187 hS_.o ho (fun h9 => by rw [if_neg (by omega)]; exact hcy h9 (by omega) (by omega) (by omega)) (by omega)) j_M_start k_1069 (hts _ s_M_start) hF (va_recv (q0 := 0) (ci := 10) hK hP rfl rfl) rfl hl.1 rfl ⟨Nat.le_of_ble_eq_true rfl, Nat.le_of_ble_eq_true rfl⟩ (Nat.le_of_ble_eq_true rfl) d_M_dayOf_292 ⟨Nat.zero_le _, Nat.zero_le _⟩ MdB.m (fun U h1 h2 => ⟨va_K.moved h2.alike hK, by rw [h1]; exact hP⟩) ?_
                  refine lv_lload hx hb d_M_dayOf_295 (lv_at hl 0 rfl) ?_
                  refine ai_ladd hx hb d_M_dayOf_297 ?_
                  refine lv_iload hx hb d_M_dayOf_298 (lv_at hl 7 rfl) ?_
                  refine ai_i2l hx hb d_M_dayOf_300 (by omega) ?_
                  refine ai_ladd hx hb d_M_dayOf_301 ?_
                  refine ai_lconst (x := 1) hx hb d_M_dayOf_302 (by decide +kernel) ?_
                  refine ai_lsub hx hb d_M_dayOf_303 ?_
                  exact mw_lret hx hb hr hlk d_M_dayOf_304 hP hS (by omega) ⟨rfl, rfl, rfl, hca⟩
                · skip
                  rw [if_neg (by omega)] at hdo
                  refine lv_lload hx hb d_M_dayOf_283 (lv_at hl 2 rfl) ?_
                  refine lv_goto hx hb d_M_dayOf_285 rfl ?_
                  exact mw_lret hx hb hr hlk d_M_dayOf_304 hP hS (by omega) ⟨rfl, rfl, rfl, hca⟩
            · skip
              rw [if_pos (by omega)] at hdo
              refine lv_aload_n hx hb d_M_dayOf_194 rfl (lv_at hl 2 rfl) ?_
              refine ai_iconst hx hb d_M_dayOf_195 ?_
              refine lv_lload hx hb d_M_dayOf_196 (lv_at hl 0 rfl) ?_
              refine ro_V (rest := []) (ct_M_start l D a ad cx F g 2 v187 (by decide) (fun h => absurd h (by decide)) (fun _ => hcy0) (by omega)) j_M_start k_1069 (hts _ s_M_start) hF (va_recv (q0 := 0) (ci := 10) hK hP rfl rfl) rfl hl.1 rfl ⟨Nat.le_of_ble_eq_true rfl, Nat.le_of_ble_eq_true rfl⟩ (Nat.le_of_ble_eq_true rfl) d_M_dayOf_198 ⟨Nat.zero_le _, Nat.zero_le _⟩ MdB.m (fun U h1 h2 => ⟨va_K.moved h2.alike hK, by rw [h1]; exact hP⟩) ?_
              refine ai_ldc2 (x := 7) hx hb hown (hts _ k_944) (by decide +kernel) d_M_dayOf_201 ?_
              refine lv_iload_n hx hb d_M_dayOf_204 rfl (lv_at hl 5 rfl) ?_
              refine ai_i2l hx hb d_M_dayOf_205 (by omega) ?_
              refine ai_lconst (x := 1) hx hb d_M_dayOf_206 (by decide +kernel) ?_
              refine ai_lsub hx hb d_M_dayOf_207 ?_
              refine ai_lmul hx hb d_M_dayOf_208 ?_
              refine ai_ladd hx hb d_M_dayOf_209 ?_
              refine lv_iload hx hb d_M_dayOf_210 (lv_at hl 6 rfl) ?_
              refine ai_i2l hx hb d_M_dayOf_212 (by omega) ?_
              refine ai_ladd hx hb d_M_dayOf_213 ?_
              refine ai_lconst (x := 1) hx hb d_M_dayOf_214 (by decide +kernel) ?_
              refine ai_lsub hx hb d_M_dayOf_215 ?_
              refine ai_nmL hx hb (fun v216 e216 => ?_)
              refine lv_lstore (lv' := [(9, .long (iL v216)), (7, .long (iL v187)), (5, .long (iL (-9223372036854775808))), (0, .ref a), (1, .int (iI cal)), (2, .int (iI y)), (3, .int (iI mn)), (4, .int (iI dd))]) hx hb d_M_dayOf_216 hl (by decide) rfl (fun ls hl => ?_)
              have w0 := stM_rng (g := g) (cal := 2) (by decide) (fun h => absurd h (by decide)) (y := v187) (by omega)
              have w1 := stM_rng (g := g) (cal := 2) (by decide) (fun h => absurd h (by decide)) (y := v187 + 1) (by omega)
              refine lv_iload_n hx hb d_M_dayOf_218 rfl (lv_at hl 6 rfl) ?_
              refine ai_iconst hx hb d_M_dayOf_219 ?_
              refine ai_icmp_lt hx hb d_M_dayOf_220 rfl (by omega) (by omega) (fun h220 => ?_) (fun h220 => ?_)
              · skip
                rw [if_neg (by omega)] at hdo
                refine lv_lload hx hb d_M_dayOf_245 (lv_at hl 2 rfl) ?_
                refine lv_goto hx hb d_M_dayOf_247 rfl ?_
                exact mw_lret hx hb hr hlk d_M_dayOf_252 hP hS (by omega) ⟨rfl, rfl, rfl, hca⟩
              · skip
                refine lv_iload hx hb d_M_dayOf_223 (lv_at hl 7 rfl) ?_
                refine ai_bipush (x := 7) hx hb d_M_dayOf_225 (by decide +kernel) ?_
                refine ai_icmp_gt hx hb d_M_dayOf_227 rfl (by omega) (by omega) (fun h227 => ?_) (fun h227 => ?_)
                · skip
                  rw [if_neg (by omega)] at hdo
                  refine lv_lload hx hb d_M_dayOf_245 (lv_at hl 2 rfl) ?_
                  refine lv_goto hx hb d_M_dayOf_247 rfl ?_
                  exact mw_lret hx hb hr hlk d_M_dayOf_252 hP hS (by omega) ⟨rfl, rfl, rfl, hca⟩
                · skip
                  refine lv_lload hx hb d_M_dayOf_230 (lv_at hl 0 rfl) ?_
                  refine lv_aload_n hx hb d_M_dayOf_232 rfl (lv_at hl 3 rfl) ?_
                  refine ai_iconst hx hb d_M_dayOf_233 ?_
                  refine lv_lload hx hb d_M_dayOf_234 (lv_at hl 1 rfl) ?_
                  refine ai_lconst (x := 1) hx hb d_M_dayOf_236 (by decide +kernel) ?_
                  refine ai_ladd hx hb d_M_dayOf_237 ?_
                  refine ro_V (rest := [.long (iL v216)]) (ct_M_start l D a ad cx F g 2 (v187 + 1) (by decide) (fun h => absurd h (by decide)) (fun _ => hcy0) (by omega)) j_M_start k_1069 (hts _ s_M_start) hF (va_recv (q0 := 0) (ci := 10) hK hP rfl rfl) rfl hl.1 rfl ⟨Nat.le_of_ble_eq_true rfl, Nat.le_of_ble_eq_true rfl⟩ (Nat.le_of_ble_eq_true rfl) d_M_dayOf_238 ⟨Nat.zero_le _, Nat.zero_le _⟩ MdB.m (fun U h1 h2 => ⟨va_K.moved h2.alike hK, by rw [h1]; exact hP⟩) ?_
                  refine ai_lcmp_lt hx hb d_M_dayOf_241 d_M_dayOf_242 rfl (by omega) (by omega) (fun h241 => ?_) (fun h241 => ?_)
                  · skip
                    rw [if_pos (by omega)] at hdo
                    refine lv_lload hx hb d_M_dayOf_250 (lv_at hl 0 rfl) ?_
                    exact mw_lret hx hb hr hlk d_M_dayOf_252 hP hS (by omega) ⟨rfl, rfl, rfl, hca⟩
                  · skip
                    rw [if_neg (by omega)] at hdo
                    refine lv_lload hx hb d_M_dayOf_245 (lv_at hl 2 rfl) ?_
                    refine lv_goto hx hb d_M_dayOf_247 rfl ?_
                    exact mw_lret hx hb hr hlk d_M_dayOf_252 hP hS (by omega) ⟨rfl, rfl, rfl, hca⟩
          · skip
            rw [if_pos (by omega)] at hdo
            refine lv_iload_n hx hb d_M_dayOf_101 rfl (lv_at hl 4 rfl) ?_
            refine ai_bipush (x := 100) hx hb d_M_dayOf_102 (by decide +kernel) ?_
            refine ai_icmp_le hx hb d_M_dayOf_104 rfl (by omega) (by omega) (fun h104 => ?_) (fun h104 => ?_)
            · skip
              have ew : (if 100 < mn then mn - 100 else mn) = mn := if_neg (by omega)
              rw [ew] at hdo
              refine lv_iload_n hx hb d_M_dayOf_114 rfl (lv_at hl 4 rfl) ?_
              refine lv_istore (lv' := [(7, .int (iI mn)), (5, .long (iL (-9223372036854775808))), (0, .ref a), (1, .int (iI cal)), (2, .int (iI y)), (3, .int (iI mn)), (4, .int (iI dd))]) hx hb d_M_dayOf_115 hl (by decide) rfl (fun ls hl => ?_)
              (try rw [← e115] at hdo)
              refine lv_iload hx hb d_M_dayOf_117 (lv_at hl 0 rfl) ?_
              refine ai_iconst hx hb d_M_dayOf_119 ?_
              refine ai_icmp_lt hx hb d_M_dayOf_120 rfl (by omega) (by omega) (fun h120 => ?_) (fun h120 => ?_)
              · skip
                rw [if_neg (by omega)] at hdo
                refine lv_lload hx hb d_M_dayOf_137 (lv_at hl 1 rfl) ?_
                refine lv_goto hx hb d_M_dayOf_139 rfl ?_
                exact mw_lret hx hb hr hlk d_M_dayOf_180 hP hS (hdo.symm) ⟨rfl, rfl, rfl, hca⟩
              · skip
                refine lv_iload hx hb d_M_dayOf_123 (lv_at hl 0 rfl) ?_
                refine ai_bipush (x := 12) hx hb d_M_dayOf_125 (by decide +kernel) ?_
                refine ai_icmp_gt hx hb d_M_dayOf_127 rfl (by omega) (by omega) (fun h127 => ?_) (fun h127 => ?_)
                · skip
                  rw [if_neg (by omega)] at hdo
                  refine lv_lload hx hb d_M_dayOf_137 (lv_at hl 1 rfl) ?_
                  refine lv_goto hx hb d_M_dayOf_139 rfl ?_
                  exact mw_lret hx hb hr hlk d_M_dayOf_180 hP hS (hdo.symm) ⟨rfl, rfl, rfl, hca⟩
                · skip
                  refine lv_iload hx hb d_M_dayOf_130 (lv_at hl 6 rfl) ?_
                  refine ai_bipush (x := 30) hx hb d_M_dayOf_132 (by decide +kernel) ?_
                  refine ai_icmp_le hx hb d_M_dayOf_134 rfl (by omega) (by omega) (fun h134 => ?_) (fun h134 => ?_)
                  · skip
                    rw [if_pos (by omega)] at hdo
                    first | (have nq := near_rng2 (x := 12 * y + v115 - 1) (by omega)) | (have nq := near_rng2 (x := 12 * y + mn - 1) (by omega))
                    refine lv_aload_n hx hb d_M_dayOf_142 rfl (lv_at hl 2 rfl) ?_
                    refine ai_bipush (x := 11) hx hb d_M_dayOf_143 (by decide +kernel) ?_
                    refine lv_iload_n hx hb d_M_dayOf_145 rfl (lv_at hl 4 rfl) ?_
                    refine lv_iload_n hx hb d_M_dayOf_146 rfl (lv_at hl 5 rfl) ?_
                    refine lv_iload hx hb d_M_dayOf_147 (lv_at hl 6 rfl) ?_
                    refine ai_ldc2 (x := 12) hx hb hown (hts _ k_1038) (by decide +kernel) d_M_dayOf_149 ?_
                    refine lv_iload_n hx hb d_M_dayOf_152 rfl (lv_at hl 4 rfl) ?_
                    refine ai_i2l hx hb d_M_dayOf_153 (by omega) ?_
                    refine ai_lmul hx hb d_M_dayOf_154 ?_
                    refine lv_iload hx hb d_M_dayOf_155 (lv_at hl 0 rfl) ?_
                    refine ai_i2l hx hb d_M_dayOf_157 (by omega) ?_
                    refine ai_ladd hx hb d_M_dayOf_158 ?_
                    refine ai_lconst (x := 1) hx hb d_M_dayOf_159 (by decide +kernel) ?_
                    refine ai_lsub hx hb d_M_dayOf_160 ?_
                    refine ai_ldc2 (x := 210389) hx hb hown (hts _ k_1037) (by decide +kernel) d_M_dayOf_161 ?_
                    refine ai_lmul hx hb d_M_dayOf_164 ?_
                    refine ai_ldc2 (x := 6912) hx hb hown (hts _ k_1034) (by decide +kernel) d_M_dayOf_165 ?_
                    refine ro_S (rest := [.int (iI dd), .int (iI mn), .int (iI y), .int (iI 11), .ref a]) (ct_M_div l ((((12 * y) + mn) - 1) * 210389) 6912 (by omega) (by omega)) j_M_div k_928 hF rfl hl.1 rfl ⟨Nat.le_of_ble_eq_true rfl, Nat.le_of_ble_eq_true rfl⟩ (Nat.le_of_ble_eq_true rfl) d_M_dayOf_168 ⟨Nat.zero_le _, Nat.zero_le _⟩ Bm_true (fun _ _ _ => trivial) ?_
                    refine ai_ldc2 (x := 1132959) hx hb hown (hts _ k_1035) (by decide +kernel) d_M_dayOf_171 ?_
                    refine ai_lsub hx hb d_M_dayOf_174 ?_
                    refine ai_bipush (x := 70) hx hb d_M_dayOf_175 (by decide +kernel) ?_
                    refine mw_l (rest := []) (ct_M_lookFor l D a ad cx F g 11 y mn dd ((((((12 * y) + mn) - 1) * 210389) / 6912) - 1132959) 70 r (Or.inr rfl) hcy0 hca (by omega) (by omega) (by omega) (by omega) (by omega) hdo) j_M_lookFor k_1135 s_M_lookFor hF hK hP hD hS (fun _ h => h) rfl hl.1 rfl ⟨Nat.le_of_ble_eq_true rfl, Nat.le_of_ble_eq_true rfl⟩ (Nat.le_of_ble_eq_true rfl) d_M_dayOf_177 ⟨Nat.zero_le _, Nat.zero_le _⟩ (fun u177 H locs hΦ177 hP hS => ?_)
                    obtain ⟨F177, g177⟩ := u177
                    dsimp only at hΦ177 hP
                    obtain ⟨eg177, t177, z177, c177⟩ := hΦ177
                    rw [eg177] at hP
                    have hD : va_D (Ain a ad) (MWs a ad cx F177 g) := MD.any hD
                    exact mw_lret hx hb hr hlk d_M_dayOf_180 hP hS rfl ⟨rfl, t177, z177, c177⟩
                  · skip
                    rw [if_neg (by omega)] at hdo
                    refine lv_lload hx hb d_M_dayOf_137 (lv_at hl 1 rfl) ?_
                    refine lv_goto hx hb d_M_dayOf_139 rfl ?_
                    exact mw_lret hx hb hr hlk d_M_dayOf_180 hP hS (hdo.symm) ⟨rfl, rfl, rfl, hca⟩
            · skip
              have ew : (if 100 < mn then mn - 100 else mn) = mn - 100 := if_pos (by omega)
              rw [ew] at hdo
              refine lv_iload_n hx hb d_M_dayOf_107 rfl (lv_at hl 4 rfl) ?_
              refine ai_bipush (x := 100) hx hb d_M_dayOf_108 (by decide +kernel) ?_
              refine ai_isub hx hb d_M_dayOf_110 ?_
              refine lv_goto hx hb d_M_dayOf_111 rfl ?_
              refine ai_nmI hx hb (fun v115 e115 => ?_)
              refine lv_istore (lv' := [(7, .int (iI v115)), (5, .long (iL (-9223372036854775808))), (0, .ref a), (1, .int (iI cal)), (2, .int (iI y)), (3, .int (iI mn)), (4, .int (iI dd))]) hx hb d_M_dayOf_115 hl (by decide) rfl (fun ls hl => ?_)
              (try rw [← e115] at hdo)
              refine lv_iload hx hb d_M_dayOf_117 (lv_at hl 0 rfl) ?_
              refine ai_iconst hx hb d_M_dayOf_119 ?_
              refine ai_icmp_lt hx hb d_M_dayOf_120 rfl (by omega) (by omega) (fun h120 => ?_) (fun h120 => ?_)
              · skip
                rw [if_neg (by omega)] at hdo
                refine lv_lload hx hb d_M_dayOf_137 (lv_at hl 1 rfl) ?_
                refine lv_goto hx hb d_M_dayOf_139 rfl ?_
                exact mw_lret hx hb hr hlk d_M_dayOf_180 hP hS (hdo.symm) ⟨rfl, rfl, rfl, hca⟩
              · skip
                refine lv_iload hx hb d_M_dayOf_123 (lv_at hl 0 rfl) ?_
                refine ai_bipush (x := 12) hx hb d_M_dayOf_125 (by decide +kernel) ?_
                refine ai_icmp_gt hx hb d_M_dayOf_127 rfl (by omega) (by omega) (fun h127 => ?_) (fun h127 => ?_)
                · skip
                  rw [if_neg (by omega)] at hdo
                  refine lv_lload hx hb d_M_dayOf_137 (lv_at hl 1 rfl) ?_
                  refine lv_goto hx hb d_M_dayOf_139 rfl ?_
                  exact mw_lret hx hb hr hlk d_M_dayOf_180 hP hS (hdo.symm) ⟨rfl, rfl, rfl, hca⟩
                · skip
                  refine lv_iload hx hb d_M_dayOf_130 (lv_at hl 6 rfl) ?_
                  refine ai_bipush (x := 30) hx hb d_M_dayOf_132 (by decide +kernel) ?_
                  refine ai_icmp_le hx hb d_M_dayOf_134 rfl (by omega) (by omega) (fun h134 => ?_) (fun h134 => ?_)
                  · skip
                    rw [if_pos (by omega)] at hdo
                    first | (have nq := near_rng2 (x := 12 * y + v115 - 1) (by omega)) | (have nq := near_rng2 (x := 12 * y + mn - 1) (by omega))
                    refine lv_aload_n hx hb d_M_dayOf_142 rfl (lv_at hl 2 rfl) ?_
                    refine ai_bipush (x := 11) hx hb d_M_dayOf_143 (by decide +kernel) ?_
                    refine lv_iload_n hx hb d_M_dayOf_145 rfl (lv_at hl 4 rfl) ?_
                    refine lv_iload_n hx hb d_M_dayOf_146 rfl (lv_at hl 5 rfl) ?_
                    refine lv_iload hx hb d_M_dayOf_147 (lv_at hl 6 rfl) ?_
                    refine ai_ldc2 (x := 12) hx hb hown (hts _ k_1038) (by decide +kernel) d_M_dayOf_149 ?_
                    refine lv_iload_n hx hb d_M_dayOf_152 rfl (lv_at hl 4 rfl) ?_
                    refine ai_i2l hx hb d_M_dayOf_153 (by omega) ?_
                    refine ai_lmul hx hb d_M_dayOf_154 ?_
                    refine lv_iload hx hb d_M_dayOf_155 (lv_at hl 0 rfl) ?_
                    refine ai_i2l hx hb d_M_dayOf_157 (by omega) ?_
                    refine ai_ladd hx hb d_M_dayOf_158 ?_
                    refine ai_lconst (x := 1) hx hb d_M_dayOf_159 (by decide +kernel) ?_
                    refine ai_lsub hx hb d_M_dayOf_160 ?_
                    refine ai_ldc2 (x := 210389) hx hb hown (hts _ k_1037) (by decide +kernel) d_M_dayOf_161 ?_
                    refine ai_lmul hx hb d_M_dayOf_164 ?_
                    refine ai_ldc2 (x := 6912) hx hb hown (hts _ k_1034) (by decide +kernel) d_M_dayOf_165 ?_
                    refine ro_S (rest := [.int (iI dd), .int (iI mn), .int (iI y), .int (iI 11), .ref a]) (ct_M_div l ((((12 * y) + v115) - 1) * 210389) 6912 (by omega) (by omega)) j_M_div k_928 hF rfl hl.1 rfl ⟨Nat.le_of_ble_eq_true rfl, Nat.le_of_ble_eq_true rfl⟩ (Nat.le_of_ble_eq_true rfl) d_M_dayOf_168 ⟨Nat.zero_le _, Nat.zero_le _⟩ Bm_true (fun _ _ _ => trivial) ?_
                    refine ai_ldc2 (x := 1132959) hx hb hown (hts _ k_1035) (by decide +kernel) d_M_dayOf_171 ?_
                    refine ai_lsub hx hb d_M_dayOf_174 ?_
                    refine ai_bipush (x := 70) hx hb d_M_dayOf_175 (by decide +kernel) ?_
                    refine mw_l (rest := []) (ct_M_lookFor l D a ad cx F g 11 y mn dd ((((((12 * y) + v115) - 1) * 210389) / 6912) - 1132959) 70 r (Or.inr rfl) hcy0 hca (by omega) (by omega) (by omega) (by omega) (by omega) hdo) j_M_lookFor k_1135 s_M_lookFor hF hK hP hD hS (fun _ h => h) rfl hl.1 rfl ⟨Nat.le_of_ble_eq_true rfl, Nat.le_of_ble_eq_true rfl⟩ (Nat.le_of_ble_eq_true rfl) d_M_dayOf_177 ⟨Nat.zero_le _, Nat.zero_le _⟩ (fun u177 H locs hΦ177 hP hS => ?_)
                    obtain ⟨F177, g177⟩ := u177
                    dsimp only at hΦ177 hP
                    obtain ⟨eg177, t177, z177, c177⟩ := hΦ177
                    rw [eg177] at hP
                    have hD : va_D (Ain a ad) (MWs a ad cx F177 g) := MD.any hD
                    exact mw_lret hx hb hr hlk d_M_dayOf_180 hP hS rfl ⟨rfl, t177, z177, c177⟩
                  · skip
                    rw [if_neg (by omega)] at hdo
                    refine lv_lload hx hb d_M_dayOf_137 (lv_at hl 1 rfl) ?_
                    refine lv_goto hx hb d_M_dayOf_139 rfl ?_
                    exact mw_lret hx hb hr hlk d_M_dayOf_180 hP hS (hdo.symm) ⟨rfl, rfl, rfl, hca⟩
        · skip
          rw [if_neg (by omega), if_pos (by omega)] at hdo
          refine lv_iload_n hx hb d_M_dayOf_31 rfl (lv_at hl 4 rfl) ?_
          refine ai_iconst hx hb d_M_dayOf_32 ?_
          refine ai_icmp_lt hx hb d_M_dayOf_33 rfl (by omega) (by omega) (fun h33 => ?_) (fun h33 => ?_)
          · skip
            rw [if_neg (by omega)] at hdo
            refine lv_lload hx hb d_M_dayOf_49 (lv_at hl 0 rfl) ?_
            refine lv_goto hx hb d_M_dayOf_51 rfl ?_
            exact mw_lret hx hb hr hlk d_M_dayOf_94 hP hS (hdo.symm) ⟨rfl, rfl, rfl, hca⟩
          · skip
            refine lv_iload_n hx hb d_M_dayOf_36 rfl (lv_at hl 4 rfl) ?_
            refine ai_bipush (x := 12) hx hb d_M_dayOf_37 (by decide +kernel) ?_
            refine ai_icmp_gt hx hb d_M_dayOf_39 rfl (by omega) (by omega) (fun h39 => ?_) (fun h39 => ?_)
            · skip
              rw [if_neg (by omega)] at hdo
              refine lv_lload hx hb d_M_dayOf_49 (lv_at hl 0 rfl) ?_
              refine lv_goto hx hb d_M_dayOf_51 rfl ?_
              exact mw_lret hx hb hr hlk d_M_dayOf_94 hP hS (hdo.symm) ⟨rfl, rfl, rfl, hca⟩
            · skip
              refine lv_iload hx hb d_M_dayOf_42 (lv_at hl 5 rfl) ?_
              refine ai_bipush (x := 32) hx hb d_M_dayOf_44 (by decide +kernel) ?_
              refine ai_icmp_le hx hb d_M_dayOf_46 rfl (by omega) (by omega) (fun h46 => ?_) (fun h46 => ?_)
              · skip
                rw [if_pos (by omega)] at hdo
                have nq := near_rng2 (x := 12 * y + mn - 1) (by omega)
                refine lv_aload_n hx hb d_M_dayOf_54 rfl (lv_at hl 1 rfl) ?_
                refine ai_bipush (x := 10) hx hb d_M_dayOf_55 (by decide +kernel) ?_
                refine lv_iload_n hx hb d_M_dayOf_57 rfl (lv_at hl 3 rfl) ?_
                refine lv_iload_n hx hb d_M_dayOf_58 rfl (lv_at hl 4 rfl) ?_
                refine lv_iload hx hb d_M_dayOf_59 (lv_at hl 5 rfl) ?_
                refine ai_ldc2 (x := 12) hx hb hown (hts _ k_1038) (by decide +kernel) d_M_dayOf_61 ?_
                refine lv_iload_n hx hb d_M_dayOf_64 rfl (lv_at hl 3 rfl) ?_
                refine ai_i2l hx hb d_M_dayOf_65 (by omega) ?_
                refine ai_lmul hx hb d_M_dayOf_66 ?_
                refine lv_iload_n hx hb d_M_dayOf_67 rfl (lv_at hl 4 rfl) ?_
                refine ai_i2l hx hb d_M_dayOf_68 (by omega) ?_
                refine ai_ladd hx hb d_M_dayOf_69 ?_
                refine ai_lconst (x := 1) hx hb d_M_dayOf_70 (by decide +kernel) ?_
                refine ai_lsub hx hb d_M_dayOf_71 ?_
                refine ai_ldc2 (x := 210389) hx hb hown (hts _ k_1037) (by decide +kernel) d_M_dayOf_72 ?_
                refine ai_lmul hx hb d_M_dayOf_75 ?_
                refine ai_ldc2 (x := 6912) hx hb hown (hts _ k_1034) (by decide +kernel) d_M_dayOf_76 ?_
                refine ro_S (rest := [.int (iI dd), .int (iI mn), .int (iI y), .int (iI 10), .ref a]) (ct_M_div l ((((12 * y) + mn) - 1) * 210389) 6912 (by omega) (by omega)) j_M_div k_928 hF rfl hl.1 rfl ⟨Nat.le_of_ble_eq_true rfl, Nat.le_of_ble_eq_true rfl⟩ (Nat.le_of_ble_eq_true rfl) d_M_dayOf_79 ⟨Nat.zero_le _, Nat.zero_le _⟩ Bm_true (fun _ _ _ => trivial) ?_
                refine ai_ldc2 (x := 1132959) hx hb hown (hts _ k_1035) (by decide +kernel) d_M_dayOf_82 ?_
                refine ai_lsub hx hb d_M_dayOf_85 ?_
                refine lv_iload hx hb d_M_dayOf_86 (lv_at hl 5 rfl) ?_
                refine ai_i2l hx hb d_M_dayOf_88 (by omega) ?_
                refine ai_ladd hx hb d_M_dayOf_89 ?_
                refine ai_iconst hx hb d_M_dayOf_90 ?_
                refine mw_l (rest := []) (ct_M_lookFor l D a ad cx F g 10 y mn dd (((((((12 * y) + mn) - 1) * 210389) / 6912) - 1132959) + dd) 3 r (Or.inl rfl) hcy0 hca (by omega) (by omega) (by omega) (by omega) (by omega) hdo) j_M_lookFor k_1135 s_M_lookFor hF hK hP hD hS (fun _ h => h) rfl hl.1 rfl ⟨Nat.le_of_ble_eq_true rfl, Nat.le_of_ble_eq_true rfl⟩ (Nat.le_of_ble_eq_true rfl) d_M_dayOf_91 ⟨Nat.zero_le _, Nat.zero_le _⟩ (fun u91 H locs hΦ91 hP hS => ?_)
                obtain ⟨F91, g91⟩ := u91
                dsimp only at hΦ91 hP
                obtain ⟨eg91, t91, z91, c91⟩ := hΦ91
                rw [eg91] at hP
                have hD : va_D (Ain a ad) (MWs a ad cx F91 g) := MD.any hD
                exact mw_lret hx hb hr hlk d_M_dayOf_94 hP hS rfl ⟨rfl, t91, z91, c91⟩
              · skip
                rw [if_neg (by omega)] at hdo
                refine lv_lload hx hb d_M_dayOf_49 (lv_at hl 0 rfl) ?_
                refine lv_goto hx hb d_M_dayOf_51 rfl ?_
                exact mw_lret hx hb hr hlk d_M_dayOf_94 hP hS (hdo.symm) ⟨rfl, rfl, rfl, hca⟩
      · skip
        refine lv_lload hx hb d_M_dayOf_22 (lv_at hl 0 rfl) ?_
        exact mw_lret hx hb hr hlk d_M_dayOf_24 hP hS (by rw [if_pos (by omega)] at hdo; exact hdo.symm) ⟨rfl, rfl, rfl, hca⟩
