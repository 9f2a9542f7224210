/-! 38.modelM: laid by program (wip/whole) -/
set_option maxHeartbeats 4000000 in
set_option maxRecDepth 100000 in
theorem ct_M_numberIn (l : Launch) (D : va_G) (a : Nat) (ad : Nat → Nat) (cx : Nat → ClassId) (F : Nat → Int) (g : Nat → Nat → Int) (fr : Int) (to : Int) (x : Int) (rf : 0 ≤ fr ∧ fr ≤ 30) (rt : 0 ≤ to ∧ to ≤ 24) (rg : ∀ j : Nat, j < 24 → 0 ≤ g 9 j ∧ g 9 j < 65536) (hni : NIM (g 9) fr to x) : RO l y_M_numberIn w_M_numberIn 0 0 [.ref a, .int (iI fr), .int (iI to)] (MdB D a ad cx F g) (.int (iI x)) := by
  refine ro_of (by decide +kernel) (Nat.le_of_ble_eq_true rfl) ?_
  intro p e s m below meth c ls hx hb hr hts hown hlk hml hl hN hB
  have hown : s.vm.findClass "DayBookModel" = some m.cls := hown
  have hl : lv_has ls 7 [(0, .ref a), (1, .int (iI fr)), (2, .int (iI to))] := hl
  have hF : _ ∧ _ ∧ _ ∧ _ ∧ _ ∧ _ := ⟨hx, hb, hml, hown, hts, hN⟩
  have hK := hB.1
  have hP := hB.2
  have hJ73 : ∀ (N : Nat) (b : Int) (gd : Int) (vv : Int) (kk : Int) (ls : Array Slot), lv_has ls 7 [(6, .int (iI kk)), (5, .int (iI vv)), (4, .int (iI gd)), (3, .int (iI b)), (0, .ref a), (1, .int (iI fr)), (2, .int (iI to))] → (b = bgM (g 9) fr to) → (fr ≤ b ∧ b ≤ fr + 1) → (b ≤ kk ∧ (kk ≤ to ∨ kk = b)) → ((gd = 1 ∧ okM (g 9) fr to b ∧ dgM (g 9) b kk ∧ vv = vlM (g 9) (Int.toNat b) (Int.toNat (kk - b))) ∨ (gd = 0 ∧ ¬ (okM (g 9) fr to b ∧ dgM (g 9) b to))) → (to - kk).toNat < N → W p l e (headSpec w_M_numberIn ({ frames := 0, cells := 0, slots := 0, locals := 0 })).room s m [.ref a, .int (iI fr), .int (iI to)].toArray below meth c s.heap [] 0 0 (MQ below (k2_QcV (.int (iI x))) [.ref a, .int (iI fr), .int (iI to)].toArray s 0 0 (fun _ => False)) (F0 m 73 ls []) := by
    intro N
    induction N with
    | zero => intro _ _ _ _ _ _ _ _ _ _ hm; exact absurd hm (Nat.not_lt_zero _)
    | succ N ih =>
      intro b gd vv kk ls hl hb0 hbr i1 i3 hm
      refine lv_iload hx hb d_M_numberIn_73 (lv_at hl 0 rfl) ?_
      refine lv_iload_n hx hb d_M_numberIn_75 rfl (lv_at hl 6 rfl) ?_
      refine ai_icmp_ge hx hb d_M_numberIn_76 rfl (by omega) (by omega) (fun h76 => ?_) (fun h76 => ?_)
      · skip
        refine lv_iload hx hb d_M_numberIn_139 (lv_at hl 2 rfl) ?_
        refine ai_if_ne hx hb d_M_numberIn_141 rfl (by omega) (fun h141 => ?_) (fun h141 => ?_)
        · skip
          refine lv_iload_n hx hb d_M_numberIn_149 rfl (lv_at hl 3 rfl) ?_
          refine lv_iload_n hx hb d_M_numberIn_150 rfl (lv_at hl 5 rfl) ?_
          refine ai_icmp_le hx hb d_M_numberIn_151 rfl (by omega) (by omega) (fun h151 => ?_) (fun h151 => ?_)
          · skip
            refine lv_iload hx hb d_M_numberIn_160 (lv_at hl 1 rfl) ?_
            exact ro_iret hx hb hr hlk d_M_numberIn_162 (by obtain ⟨e1, e2, e3, e4⟩ := i3.resolve_right (by omega); have ek : kk = to := (by have := e2.1; omega); rw [hni.good hb0 e2 (by rw [← ek]; exact e3), e4, ek]; first | (rw [if_pos (by omega)]; done) | (rw [if_neg (by omega)]; done))
          · skip
            refine lv_iload hx hb d_M_numberIn_154 (lv_at hl 1 rfl) ?_
            refine ai_ineg hx hb d_M_numberIn_156 ?_
            refine lv_goto hx hb d_M_numberIn_157 rfl ?_
            exact ro_iret hx hb hr hlk d_M_numberIn_162 (by obtain ⟨e1, e2, e3, e4⟩ := i3.resolve_right (by omega); have ek : kk = to := (by have := e2.1; omega); rw [hni.good hb0 e2 (by rw [← ek]; exact e3), e4, ek]; first | (rw [if_pos (by omega)]; done) | (rw [if_neg (by omega)]; done))
        · skip
          refine ai_ldc (x := -2147483648) hx hb hown (hts _ k_906) (by decide +kernel) d_M_numberIn_144 ?_
          refine lv_goto hx hb d_M_numberIn_146 rfl ?_
          exact ro_iret hx hb hr hlk d_M_numberIn_162 (hni.bad hb0 (by rcases i3 with ⟨e1, -⟩ | ⟨-, e2⟩; omega; exact e2))
      · skip
        refine lv_iload hx hb d_M_numberIn_79 (lv_at hl 2 rfl) ?_
        refine ai_if_eq hx hb d_M_numberIn_81 rfl (by omega) (fun h81 => ?_) (fun h81 => ?_)
        · skip
          refine lv_iload hx hb d_M_numberIn_139 (lv_at hl 2 rfl) ?_
          refine ai_if_ne hx hb d_M_numberIn_141 rfl (by omega) (fun h141 => ?_) (fun h141 => ?_)
          · skip
            refine lv_iload_n hx hb d_M_numberIn_149 rfl (lv_at hl 3 rfl) ?_
            refine lv_iload_n hx hb d_M_numberIn_150 rfl (lv_at hl 5 rfl) ?_
            refine ai_icmp_le hx hb d_M_numberIn_151 rfl (by omega) (by omega) (fun h151 => ?_) (fun h151 => ?_)
            · skip
              refine lv_iload hx hb d_M_numberIn_160 (lv_at hl 1 rfl) ?_
              exact ro_iret hx hb hr hlk d_M_numberIn_162 (by obtain ⟨e1, e2, e3, e4⟩ := i3.resolve_right (by omega); have ek : kk = to := (by have := e2.1; omega); rw [hni.good hb0 e2 (by rw [← ek]; exact e3), e4, ek]; first | (rw [if_pos (by omega)]; done) | (rw [if_neg (by omega)]; done))
            · skip
              refine lv_iload hx hb d_M_numberIn_154 (lv_at hl 1 rfl) ?_
              refine ai_ineg hx hb d_M_numberIn_156 ?_
              refine lv_goto hx hb d_M_numberIn_157 rfl ?_
              exact ro_iret hx hb hr hlk d_M_numberIn_162 (by obtain ⟨e1, e2, e3, e4⟩ := i3.resolve_right (by omega); have ek : kk = to := (by have := e2.1; omega); rw [hni.good hb0 e2 (by rw [← ek]; exact e3), e4, ek]; first | (rw [if_pos (by omega)]; done) | (rw [if_neg (by omega)]; done))
          · skip
            refine ai_ldc (x := -2147483648) hx hb hown (hts _ k_906) (by decide +kernel) d_M_numberIn_144 ?_
            refine lv_goto hx hb d_M_numberIn_146 rfl ?_
            exact ro_iret hx hb hr hlk d_M_numberIn_162 (hni.bad hb0 (by rcases i3 with ⟨e1, -⟩ | ⟨-, e2⟩; omega; exact e2))
        · skip
          have hgk := rg (Int.toNat kk) (by omega)
          refine lv_aload_n hx hb d_M_numberIn_84 rfl (lv_at hl 4 rfl) ?_
          refine va_get (D := D) (cl := CL) (ci := 10) (v := .ref (ad 9)) (C := "DayBookModel") (T := T_M) (N := 19) hx hb hts in_M hown hK hP 0 rfl rfl 18 (by decide) (hts _ k_964) (fun _ h9 => h9) rfl d_M_numberIn_85 ?_
          refine lv_iload hx hb d_M_numberIn_88 (lv_at hl 0 rfl) ?_
          refine ma_cld hx hb hK hP 10 3 rfl rfl (h := g 9) (by omega) (by decide) d_M_numberIn_90 ?_
          refine ai_bipush (x := 48) hx hb d_M_numberIn_91 (by decide +kernel) ?_
          refine ai_icmp_lt hx hb d_M_numberIn_93 rfl (by omega) (by omega) (fun h93 => ?_) (fun h93 => ?_)
          · skip
            refine ai_iconst hx hb d_M_numberIn_112 ?_
            refine lv_istore (lv' := [(4, .int (iI 0)), (6, .int (iI kk)), (5, .int (iI vv)), (3, .int (iI b)), (0, .ref a), (1, .int (iI fr)), (2, .int (iI to))]) hx hb d_M_numberIn_113 hl (by decide) rfl (fun ls hl => ?_)
            refine ai_bipush (x := 10) hx hb d_M_numberIn_115 (by decide +kernel) ?_
            refine lv_iload hx hb d_M_numberIn_117 (lv_at hl 2 rfl) ?_
            refine ai_imul hx hb d_M_numberIn_119 ?_
            refine lv_aload_n hx hb d_M_numberIn_120 rfl (lv_at hl 4 rfl) ?_
            refine va_get (D := D) (cl := CL) (ci := 10) (v := .ref (ad 9)) (C := "DayBookModel") (T := T_M) (N := 19) hx hb hts in_M hown hK hP 0 rfl rfl 18 (by decide) (hts _ k_964) (fun _ h9 => h9) rfl d_M_numberIn_121 ?_
            refine lv_iload hx hb d_M_numberIn_124 (lv_at hl 1 rfl) ?_
            refine ma_cld hx hb hK hP 10 3 rfl rfl (h := g 9) (by omega) (by decide) d_M_numberIn_126 ?_
            refine ai_bipush (x := 48) hx hb d_M_numberIn_127 (by decide +kernel) ?_
            refine ai_isub hx hb d_M_numberIn_129 ?_
            refine ai_iadd hx hb d_M_numberIn_130 ?_
            refine ai_nmI hx hb (fun v131 e131 => ?_)
            refine lv_istore (lv' := [(5, .int (iI v131)), (4, .int (iI 0)), (6, .int (iI kk)), (3, .int (iI b)), (0, .ref a), (1, .int (iI fr)), (2, .int (iI to))]) hx hb d_M_numberIn_131 hl (by decide) rfl (fun ls hl => ?_)
            refine ai_iinc (k := 2) (lv' := [(6, .int (iI (kk + 1))), (5, .int (iI v131)), (4, .int (iI 0)), (3, .int (iI b)), (0, .ref a), (1, .int (iI fr)), (2, .int (iI to))]) hx hb d_M_numberIn_133 hl rfl (by decide) rfl (fun ls hl => ?_)
            refine lv_goto hx hb d_M_numberIn_136 rfl ?_
            exact ih b 0 v131 (kk + 1) _ (lv_sub hl [0, 1, 2, 3, 4, 5, 6] rfl) hb0 (by omega) (by omega) (by obtain ⟨e1, e2, e3, e4⟩ := i3.resolve_right (by omega); first | exact Or.inl ⟨rfl, e2, fun j h1 h2 => by by_cases q : j = kk; (subst q; exact ⟨by omega, by omega⟩); exact e3 j h1 (by omega), by rw [e131, e4, show Int.toNat (kk + 1 - b) = Int.toNat (kk - b) + 1 by omega]; show _ = 10 * vlM (g 9) (Int.toNat b) (Int.toNat (kk - b)) + (g 9 (Int.toNat b + Int.toNat (kk - b)) - 48); rw [show Int.toNat b + Int.toNat (kk - b) = Int.toNat kk by omega]⟩ | exact Or.inr ⟨rfl, fun q => by have := q.2 kk (by omega) (by omega); omega⟩) (by omega)
          · skip
            refine lv_aload_n hx hb d_M_numberIn_96 rfl (lv_at hl 4 rfl) ?_
            refine va_get (D := D) (cl := CL) (ci := 10) (v := .ref (ad 9)) (C := "DayBookModel") (T := T_M) (N := 19) hx hb hts in_M hown hK hP 0 rfl rfl 18 (by decide) (hts _ k_964) (fun _ h9 => h9) rfl d_M_numberIn_97 ?_
            refine lv_iload hx hb d_M_numberIn_100 (lv_at hl 0 rfl) ?_
            refine ma_cld hx hb hK hP 10 3 rfl rfl (h := g 9) (by omega) (by decide) d_M_numberIn_102 ?_
            refine ai_bipush (x := 57) hx hb d_M_numberIn_103 (by decide +kernel) ?_
            refine ai_icmp_gt hx hb d_M_numberIn_105 rfl (by omega) (by omega) (fun h105 => ?_) (fun h105 => ?_)
            · skip
              refine ai_iconst hx hb d_M_numberIn_112 ?_
              refine lv_istore (lv' := [(4, .int (iI 0)), (6, .int (iI kk)), (5, .int (iI vv)), (3, .int (iI b)), (0, .ref a), (1, .int (iI fr)), (2, .int (iI to))]) hx hb d_M_numberIn_113 hl (by decide) rfl (fun ls hl => ?_)
              refine ai_bipush (x := 10) hx hb d_M_numberIn_115 (by decide +kernel) ?_
              refine lv_iload hx hb d_M_numberIn_117 (lv_at hl 2 rfl) ?_
              refine ai_imul hx hb d_M_numberIn_119 ?_
              refine lv_aload_n hx hb d_M_numberIn_120 rfl (lv_at hl 4 rfl) ?_
              refine va_get (D := D) (cl := CL) (ci := 10) (v := .ref (ad 9)) (C := "DayBookModel") (T := T_M) (N := 19) hx hb hts in_M hown hK hP 0 rfl rfl 18 (by decide) (hts _ k_964) (fun _ h9 => h9) rfl d_M_numberIn_121 ?_
              refine lv_iload hx hb d_M_numberIn_124 (lv_at hl 1 rfl) ?_
              refine ma_cld hx hb hK hP 10 3 rfl rfl (h := g 9) (by omega) (by decide) d_M_numberIn_126 ?_
              refine ai_bipush (x := 48) hx hb d_M_numberIn_127 (by decide +kernel) ?_
              refine ai_isub hx hb d_M_numberIn_129 ?_
              refine ai_iadd hx hb d_M_numberIn_130 ?_
              refine ai_nmI hx hb (fun v131 e131 => ?_)
              refine lv_istore (lv' := [(5, .int (iI v131)), (4, .int (iI 0)), (6, .int (iI kk)), (3, .int (iI b)), (0, .ref a), (1, .int (iI fr)), (2, .int (iI to))]) hx hb d_M_numberIn_131 hl (by decide) rfl (fun ls hl => ?_)
              refine ai_iinc (k := 2) (lv' := [(6, .int (iI (kk + 1))), (5, .int (iI v131)), (4, .int (iI 0)), (3, .int (iI b)), (0, .ref a), (1, .int (iI fr)), (2, .int (iI to))]) hx hb d_M_numberIn_133 hl rfl (by decide) rfl (fun ls hl => ?_)
              refine lv_goto hx hb d_M_numberIn_136 rfl ?_
              exact ih b 0 v131 (kk + 1) _ (lv_sub hl [0, 1, 2, 3, 4, 5, 6] rfl) hb0 (by omega) (by omega) (by obtain ⟨e1, e2, e3, e4⟩ := i3.resolve_right (by omega); first | exact Or.inl ⟨rfl, e2, fun j h1 h2 => by by_cases q : j = kk; (subst q; exact ⟨by omega, by omega⟩); exact e3 j h1 (by omega), by rw [e131, e4, show Int.toNat (kk + 1 - b) = Int.toNat (kk - b) + 1 by omega]; show _ = 10 * vlM (g 9) (Int.toNat b) (Int.toNat (kk - b)) + (g 9 (Int.toNat b + Int.toNat (kk - b)) - 48); rw [show Int.toNat b + Int.toNat (kk - b) = Int.toNat kk by omega]⟩ | exact Or.inr ⟨rfl, fun q => by have := q.2 kk (by omega) (by omega); omega⟩) (by omega)
            · skip
              refine ai_iconst hx hb d_M_numberIn_108 ?_
              refine lv_goto hx hb d_M_numberIn_109 rfl ?_
              refine lv_istore (lv' := [(4, .int (iI 1)), (6, .int (iI kk)), (5, .int (iI vv)), (3, .int (iI b)), (0, .ref a), (1, .int (iI fr)), (2, .int (iI to))]) hx hb d_M_numberIn_113 hl (by decide) rfl (fun ls hl => ?_)
              refine ai_bipush (x := 10) hx hb d_M_numberIn_115 (by decide +kernel) ?_
              refine lv_iload hx hb d_M_numberIn_117 (lv_at hl 2 rfl) ?_
              refine ai_imul hx hb d_M_numberIn_119 ?_
              refine lv_aload_n hx hb d_M_numberIn_120 rfl (lv_at hl 4 rfl) ?_
              refine va_get (D := D) (cl := CL) (ci := 10) (v := .ref (ad 9)) (C := "DayBookModel") (T := T_M) (N := 19) hx hb hts in_M hown hK hP 0 rfl rfl 18 (by decide) (hts _ k_964) (fun _ h9 => h9) rfl d_M_numberIn_121 ?_
              refine lv_iload hx hb d_M_numberIn_124 (lv_at hl 1 rfl) ?_
              refine ma_cld hx hb hK hP 10 3 rfl rfl (h := g 9) (by omega) (by decide) d_M_numberIn_126 ?_
              refine ai_bipush (x := 48) hx hb d_M_numberIn_127 (by decide +kernel) ?_
              refine ai_isub hx hb d_M_numberIn_129 ?_
              refine ai_iadd hx hb d_M_numberIn_130 ?_
              refine ai_nmI hx hb (fun v131 e131 => ?_)
              refine lv_istore (lv' := [(5, .int (iI v131)), (4, .int (iI 1)), (6, .int (iI kk)), (3, .int (iI b)), (0, .ref a), (1, .int (iI fr)), (2, .int (iI to))]) hx hb d_M_numberIn_131 hl (by decide) rfl (fun ls hl => ?_)
              refine ai_iinc (k := 2) (lv' := [(6, .int (iI (kk + 1))), (5, .int (iI v131)), (4, .int (iI 1)), (3, .int (iI b)), (0, .ref a), (1, .int (iI fr)), (2, .int (iI to))]) hx hb d_M_numberIn_133 hl rfl (by decide) rfl (fun ls hl => ?_)
              refine lv_goto hx hb d_M_numberIn_136 rfl ?_
              exact ih b 1 v131 (kk + 1) _ (lv_sub hl [0, 1, 2, 3, 4, 5, 6] rfl) hb0 (by omega) (by omega) (by obtain ⟨e1, e2, e3, e4⟩ := i3.resolve_right (by omega); first | exact Or.inl ⟨rfl, e2, fun j h1 h2 => by by_cases q : j = kk; (subst q; exact ⟨by omega, by omega⟩); exact e3 j h1 (by omega), by rw [e131, e4, show Int.toNat (kk + 1 - b) = Int.toNat (kk - b) + 1 by omega]; show _ = 10 * vlM (g 9) (Int.toNat b) (Int.toNat (kk - b)) + (g 9 (Int.toNat b + Int.toNat (kk - b)) - 48); rw [show Int.toNat b + Int.toNat (kk - b) = Int.toNat kk by omega]⟩ | exact Or.inr ⟨rfl, fun q => by have := q.2 kk (by omega) (by omega); omega⟩) (by omega)
  have hJ65 : ∀ (b : Int) (gd : Int) (ls : Array Slot), lv_has ls 7 [(3, .int (iI b)), (0, .ref a), (1, .int (iI fr)), (2, .int (iI to))] → (b = bgM (g 9) fr to) → (fr ≤ b ∧ b ≤ fr + 1) → ((gd = 1 ∧ okM (g 9) fr to b) ∨ (gd = 0 ∧ ¬ okM (g 9) fr to b)) → W p l e (headSpec w_M_numberIn ({ frames := 0, cells := 0, slots := 0, locals := 0 })).room s m [.ref a, .int (iI fr), .int (iI to)].toArray below meth c s.heap [] 0 0 (MQ below (k2_QcV (.int (iI x))) [.ref a, .int (iI fr), .int (iI to)].toArray s 0 0 (fun _ => False)) (F0 m 65 ls [.int (iI gd)]) := by
    intro b gd ls hl hb0 hbr h65
    refine lv_istore (lv' := [(4, .int (iI gd)), (3, .int (iI b)), (0, .ref a), (1, .int (iI fr)), (2, .int (iI to))]) hx hb d_M_numberIn_65 hl (by decide) rfl (fun ls hl => ?_)
    refine ai_iconst hx hb d_M_numberIn_67 ?_
    refine lv_istore (lv' := [(5, .int (iI 0)), (4, .int (iI gd)), (3, .int (iI b)), (0, .ref a), (1, .int (iI fr)), (2, .int (iI to))]) hx hb d_M_numberIn_68 hl (by decide) rfl (fun ls hl => ?_)
    refine lv_iload_n hx hb d_M_numberIn_70 rfl (lv_at hl 2 rfl) ?_
    refine lv_istore (lv' := [(6, .int (iI b)), (5, .int (iI 0)), (4, .int (iI gd)), (3, .int (iI b)), (0, .ref a), (1, .int (iI fr)), (2, .int (iI to))]) hx hb d_M_numberIn_71 hl (by decide) rfl (fun ls hl => ?_)
    exact hJ73 _ b gd 0 b _ (lv_sub hl [0, 1, 2, 3, 4, 5, 6] rfl) hb0 (by omega) (by omega) (by rcases h65 with ⟨e1, e2⟩ | ⟨e1, e2⟩; exact Or.inl ⟨e1, e2, fun j h1 h2 => absurd h2 (by omega), by rw [show Int.toNat (b - b) = 0 by omega]; rfl⟩; exact Or.inr ⟨e1, fun q => e2 q.1⟩) (Nat.lt_succ_self _)
  have hJ24 : ∀ (b : Int) (ls : Array Slot), lv_has ls 7 [(3, .int (iI b)), (0, .ref a), (1, .int (iI fr)), (2, .int (iI to))] → (b = bgM (g 9) fr to) → (fr ≤ b ∧ b ≤ fr + 1) → W p l e (headSpec w_M_numberIn ({ frames := 0, cells := 0, slots := 0, locals := 0 })).room s m [.ref a, .int (iI fr), .int (iI to)].toArray below meth c s.heap [] 0 0 (MQ below (k2_QcV (.int (iI x))) [.ref a, .int (iI fr), .int (iI to)].toArray s 0 0 (fun _ => False)) (F0 m 24 ls []) := by
    intro b ls hl hb0 hbr
    refine lv_iload_n hx hb d_M_numberIn_24 rfl (lv_at hl 0 rfl) ?_
    refine lv_iload_n hx hb d_M_numberIn_25 rfl (lv_at hl 3 rfl) ?_
    refine ai_icmp_ge hx hb d_M_numberIn_26 rfl (by omega) (by omega) (fun h26 => ?_) (fun h26 => ?_)
    · skip
      refine ai_iconst hx hb d_M_numberIn_64 ?_
      exact hJ65 b 0 _ (lv_sub hl [0, 1, 2, 3] rfl) hb0 (by omega) (Or.inr ⟨rfl, fun q => by obtain ⟨q1, q2, q3⟩ := q; first | omega | (rcases q3 with q3 | q3; exact q3 h45; omega)⟩)
    · skip
      refine lv_iload_n hx hb d_M_numberIn_29 rfl (lv_at hl 3 rfl) ?_
      refine lv_iload_n hx hb d_M_numberIn_30 rfl (lv_at hl 0 rfl) ?_
      refine ai_isub hx hb d_M_numberIn_31 ?_
      refine ai_bipush (x := 7) hx hb d_M_numberIn_32 (by decide +kernel) ?_
      refine ai_icmp_gt hx hb d_M_numberIn_34 rfl (by omega) (by omega) (fun h34 => ?_) (fun h34 => ?_)
      · skip
        refine ai_iconst hx hb d_M_numberIn_64 ?_
        exact hJ65 b 0 _ (lv_sub hl [0, 1, 2, 3] rfl) hb0 (by omega) (Or.inr ⟨rfl, fun q => by obtain ⟨q1, q2, q3⟩ := q; first | omega | (rcases q3 with q3 | q3; exact q3 h45; omega)⟩)
      · skip
        have hgb := rg (Int.toNat b) (by omega)
        refine lv_aload_n hx hb d_M_numberIn_37 rfl (lv_at hl 1 rfl) ?_
        refine va_get (D := D) (cl := CL) (ci := 10) (v := .ref (ad 9)) (C := "DayBookModel") (T := T_M) (N := 19) hx hb hts in_M hown hK hP 0 rfl rfl 18 (by decide) (hts _ k_964) (fun _ h9 => h9) rfl d_M_numberIn_38 ?_
        refine lv_iload_n hx hb d_M_numberIn_41 rfl (lv_at hl 0 rfl) ?_
        refine ma_cld hx hb hK hP 10 3 rfl rfl (h := g 9) (by omega) (by decide) d_M_numberIn_42 ?_
        refine ai_bipush (x := 48) hx hb d_M_numberIn_43 (by decide +kernel) ?_
        refine ai_icmp_ne hx hb d_M_numberIn_45 rfl (by omega) (by omega) (fun h45 => ?_) (fun h45 => ?_)
        · skip
          refine ai_iconst hx hb d_M_numberIn_60 ?_
          refine lv_goto hx hb d_M_numberIn_61 rfl ?_
          exact hJ65 b 1 _ (lv_sub hl [0, 1, 2, 3] rfl) hb0 (by omega) (Or.inl ⟨rfl, by omega, by omega, by first | exact Or.inl h45 | exact Or.inr ⟨by omega, by omega⟩⟩)
        · skip
          refine lv_iload_n hx hb d_M_numberIn_48 rfl (lv_at hl 3 rfl) ?_
          refine lv_iload_n hx hb d_M_numberIn_49 rfl (lv_at hl 0 rfl) ?_
          refine ai_iconst hx hb d_M_numberIn_50 ?_
          refine ai_iadd hx hb d_M_numberIn_51 ?_
          refine ai_icmp_ne hx hb d_M_numberIn_52 rfl (by omega) (by omega) (fun h52 => ?_) (fun h52 => ?_)
          · skip
            refine ai_iconst hx hb d_M_numberIn_64 ?_
            exact hJ65 b 0 _ (lv_sub hl [0, 1, 2, 3] rfl) hb0 (by omega) (Or.inr ⟨rfl, fun q => by obtain ⟨q1, q2, q3⟩ := q; first | omega | (rcases q3 with q3 | q3; exact q3 h45; omega)⟩)
          · skip
            refine lv_iload_n hx hb d_M_numberIn_55 rfl (lv_at hl 0 rfl) ?_
            refine lv_iload_n hx hb d_M_numberIn_56 rfl (lv_at hl 2 rfl) ?_
            refine ai_icmp_ne hx hb d_M_numberIn_57 rfl (by omega) (by omega) (fun h57 => ?_) (fun h57 => ?_)
            · skip
              refine ai_iconst hx hb d_M_numberIn_64 ?_
              exact hJ65 b 0 _ (lv_sub hl [0, 1, 2, 3] rfl) hb0 (by omega) (Or.inr ⟨rfl, fun q => by obtain ⟨q1, q2, q3⟩ := q; first | omega | (rcases q3 with q3 | q3; exact q3 h45; omega)⟩)
            · skip
              refine ai_iconst hx hb d_M_numberIn_60 ?_
              refine lv_goto hx hb d_M_numberIn_61 rfl ?_
              exact hJ65 b 1 _ (lv_sub hl [0, 1, 2, 3] rfl) hb0 (by omega) (Or.inl ⟨rfl, by omega, by omega, by first | exact Or.inl h45 | exact Or.inr ⟨by omega, by omega⟩⟩)
  refine lv_iload_n hx hb d_M_numberIn_0 rfl (lv_at hl 1 rfl) ?_
  refine lv_iload_n hx hb d_M_numberIn_1 rfl (lv_at hl 2 rfl) ?_
  refine ai_icmp_ge hx hb d_M_numberIn_2 rfl (by omega) (by omega) (fun h2 => ?_) (fun h2 => ?_)
  · skip
    refine lv_iload_n hx hb d_M_numberIn_22 rfl (lv_at hl 1 rfl) ?_
    refine lv_istore_n (lv' := [(3, .int (iI fr)), (0, .ref a), (1, .int (iI fr)), (2, .int (iI to))]) hx hb d_M_numberIn_23 rfl hl (by decide) rfl (fun ls hl => ?_)
    exact hJ24 fr _ (lv_sub hl [0, 1, 2, 3] rfl) (by unfold bgM; first | (rw [bI_t ⟨by omega, h13⟩]; omega) | (rw [bI_f (fun q => by obtain ⟨q1, q2⟩ := q; first | omega | exact h13 q2)]; omega)) (by omega)
  · skip
    have hg0 := rg (Int.toNat fr) (by omega)
    refine lv_aload_n hx hb d_M_numberIn_5 rfl (lv_at hl 0 rfl) ?_
    refine va_get (D := D) (cl := CL) (ci := 10) (v := .ref (ad 9)) (C := "DayBookModel") (T := T_M) (N := 19) hx hb hts in_M hown hK hP 0 rfl rfl 18 (by decide) (hts _ k_964) (fun _ h9 => h9) rfl d_M_numberIn_6 ?_
    refine lv_iload_n hx hb d_M_numberIn_9 rfl (lv_at hl 1 rfl) ?_
    refine ma_cld hx hb hK hP 10 3 rfl rfl (h := g 9) (by omega) (by decide) d_M_numberIn_10 ?_
    refine ai_bipush (x := 45) hx hb d_M_numberIn_11 (by decide +kernel) ?_
    refine ai_icmp_ne hx hb d_M_numberIn_13 rfl (by omega) (by omega) (fun h13 => ?_) (fun h13 => ?_)
    · skip
      refine lv_iload_n hx hb d_M_numberIn_22 rfl (lv_at hl 1 rfl) ?_
      refine lv_istore_n (lv' := [(3, .int (iI fr)), (0, .ref a), (1, .int (iI fr)), (2, .int (iI to))]) hx hb d_M_numberIn_23 rfl hl (by decide) rfl (fun ls hl => ?_)
      exact hJ24 fr _ (lv_sub hl [0, 1, 2, 3] rfl) (by unfold bgM; first | (rw [bI_t ⟨by omega, h13⟩]; omega) | (rw [bI_f (fun q => by obtain ⟨q1, q2⟩ := q; first | omega | exact h13 q2)]; omega)) (by omega)
    · skip
      refine lv_iload_n hx hb d_M_numberIn_16 rfl (lv_at hl 1 rfl) ?_
      refine ai_iconst hx hb d_M_numberIn_17 ?_
      refine ai_iadd hx hb d_M_numberIn_18 ?_
      refine lv_goto hx hb d_M_numberIn_19 rfl ?_
      refine ai_nmI hx hb (fun v23 e23 => ?_)
      refine lv_istore_n (lv' := [(3, .int (iI v23)), (0, .ref a), (1, .int (iI fr)), (2, .int (iI to))]) hx hb d_M_numberIn_23 rfl hl (by decide) rfl (fun ls hl => ?_)
      exact hJ24 v23 _ (lv_sub hl [0, 1, 2, 3] rfl) (by unfold bgM; first | (rw [bI_t ⟨by omega, h13⟩]; omega) | (rw [bI_f (fun q => by obtain ⟨q1, q2⟩ := q; first | omega | exact h13 q2)]; omega)) (by omega)
