/-! 25.model: laid by program (wip/whole) -/
/-- the reference's object: a its address, ad its arrays' addresses, cx the array classes, F its numbers (0 thrown, 1 lastCalendar, 2 lastYear, 3 lastStart, 4 lastEnd, 5 year, 6 month, 7 day, 8 size), g its arrays (0 cycle, 1 days, 2 there, 3 months, 4 lengths, 5 epochs, 6 ruleA, 7 ruleB, 8 ruleC, 9 row) -/
abbrev MWs (a : Nat) (ad : Nat → Nat) (cx : Nat → ClassId) (F : Nat → Int) (g : Nat → Nat → Int) : va_W :=
  [(a, .inr (10, [.int (iI (F 0)), .ref (ad 0), .ref (ad 1), .ref (ad 2), .ref (ad 3), .ref (ad 4), .ref (ad 5), .ref (ad 6), .ref (ad 7), .ref (ad 8), .int (iI (F 1)), .long (iL (F 2)), .long (iL (F 3)), .long (iL (F 4)), .long (iL (F 5)), .int (iI (F 6)), .int (iI (F 7)), .int (iI (F 8)), .ref (ad 9)])),
   (ad 0, .inl (cx 0, 14, .inl (fun j => iI (g 0 j)))), (ad 1, .inl (cx 1, 14, .inr (.inl (fun j => iL (g 1 j))))), (ad 2, .inl (cx 2, 2, .inl (fun j => iI (g 2 j)))),
   (ad 3, .inl (cx 0, 2, .inl (fun j => iI (g 3 j)))), (ad 4, .inl (cx 0, 2, .inl (fun j => iI (g 4 j)))), (ad 5, .inl (cx 0, 2, .inl (fun j => iI (g 5 j)))), (ad 6, .inl (cx 0, 2, .inl (fun j => iI (g 6 j)))), (ad 7, .inl (cx 0, 2, .inl (fun j => iI (g 7 j)))), (ad 8, .inl (cx 0, 2, .inl (fun j => iI (g 8 j)))), (ad 9, .inl (cx 3, 24, .inl (fun j => iI (g 9 j))))]
abbrev MTy (cx : Nat → ClassId) : List (ClassId × FieldType) := [(cx 0, .int), (cx 1, .long), (cx 2, .boolean), (cx 3, .char)]
def MdB (D : va_G) (a : Nat) (ad : Nat → Nat) (cx : Nat → ClassId) (F : Nat → Int) (g : Nat → Nat → Int) (U : State) : Prop := va_K D CL (MTy cx) U ∧ va_P D CL (MWs a ad cx F g) U.heap
theorem MdB.m {D : va_G} {a : Nat} {ad : Nat → Nat} {cx : Nat → ClassId} {F : Nat → Int} {g : Nat → Nat → Int} : Bm (MdB D a ad cx F g) := ⟨fun b U f mk h => ⟨va_K.moved (u := U) (U := U.calling f mk b) (Vm.Alike.refl U.vm) h.1, h.2⟩, fun s U h1 h2 h => ⟨va_K.moved h2.alike h.1, by rw [h1]; exact h.2⟩⟩
theorem MdB.recv {D : va_G} {a : Nat} {ad : Nat → Nat} {cx : Nat → ClassId} {F : Nat → Int} {g : Nat → Nat → Int} {s : State} (h : MdB D a ad cx F g s) : ∃ cell : Cell, s.heap[a]? = some cell ∧ cell.vm.isStatics = false ∧ s.vm.findClass "DayBookModel" = some cell.cls := va_recv (q0 := 0) (ci := 10) h.1 h.2 rfl rfl
section MA
variable {p : Program} {l : Launch} {e : Env} {R : Room} {s : State} {m : MethodId} {args : Array Value} {below : List Frame} {meth : Method} {c : Code} {H : Heap} {locs : List Loc} {cells slots : Nat} {Q : State → Prop} {cc : ByteArray} {pc : Nat} {ls : Array Slot} {rest : List Value} {D : va_G} {cl : List vw_C} {tys : List (ClassId × FieldType)} {ws : va_W}
theorem ma_ild (hexec : p.tables.exec = Jvm.exec) (hb : c.code = cc) (hK : va_K D cl tys s) (hP : va_P D cl ws H) (q0 t0 : Nat) {t : Nat} {cA : ClassId} {n : Nat} {h : Nat → Int} (ha : ws[q0]? = some (t, .inl (cA, n, .inl (fun j => iI (h j))))) (ht : tys[t0]? = some (cA, .int)) {x : Int} (h0 : 0 ≤ x ∧ x < n) (hn : n < 2147483648) (hdg : decode cc pc = .ok (.iaload, 1)) (kk : W p l e R s m args below meth c H locs cells slots Q (F0 m (pc + 1) ls (.int (iI (h x.toNat)) :: rest))) : W p l e R s m args below meth c H locs cells slots Q (F0 m pc ls (.int (iI x) :: .ref t :: rest)) := by
  refine va_iald hexec hb hK hP q0 t0 ha ht (iI_in h0.1 h0.2 hn) hdg ?_
  rw [iI_clT h0.1 (by omega)]
  exact kk
theorem ma_zld (hexec : p.tables.exec = Jvm.exec) (hb : c.code = cc) (hK : va_K D cl tys s) (hP : va_P D cl ws H) (q0 t0 : Nat) {t : Nat} {cA : ClassId} {n : Nat} {h : Nat → Int} (ha : ws[q0]? = some (t, .inl (cA, n, .inl (fun j => iI (h j))))) (ht : tys[t0]? = some (cA, .boolean)) {x : Int} (h0 : 0 ≤ x ∧ x < n) (hn : n < 2147483648) (hdg : decode cc pc = .ok (.baload, 1)) (kk : W p l e R s m args below meth c H locs cells slots Q (F0 m (pc + 1) ls (.int (iI (h x.toNat)) :: rest))) : W p l e R s m args below meth c H locs cells slots Q (F0 m pc ls (.int (iI x) :: .ref t :: rest)) := by
  refine va_zald hexec hb hK hP q0 t0 ha ht (iI_in h0.1 h0.2 hn) hdg ?_
  rw [iI_clT h0.1 (by omega)]
  exact kk
theorem ma_cld (hexec : p.tables.exec = Jvm.exec) (hb : c.code = cc) (hK : va_K D cl tys s) (hP : va_P D cl ws H) (q0 t0 : Nat) {t : Nat} {cA : ClassId} {n : Nat} {h : Nat → Int} (ha : ws[q0]? = some (t, .inl (cA, n, .inl (fun j => iI (h j))))) (ht : tys[t0]? = some (cA, .char)) {x : Int} (h0 : 0 ≤ x ∧ x < n) (hn : n < 2147483648) (hdg : decode cc pc = .ok (.caload, 1)) (kk : W p l e R s m args below meth c H locs cells slots Q (F0 m (pc + 1) ls (.int (iI (h x.toNat)) :: rest))) : W p l e R s m args below meth c H locs cells slots Q (F0 m pc ls (.int (iI x) :: .ref t :: rest)) := by
  refine va_cald hexec hb hK hP q0 t0 ha ht (iI_in h0.1 h0.2 hn) hdg ?_
  rw [iI_clT h0.1 (by omega)]
  exact kk
theorem ma_lld (hexec : p.tables.exec = Jvm.exec) (hb : c.code = cc) (hK : va_K D cl tys s) (hP : va_P D cl ws H) (q0 t0 : Nat) {t : Nat} {cA : ClassId} {n : Nat} {h : Nat → Int} (ha : ws[q0]? = some (t, .inl (cA, n, .inr (.inl (fun j => iL (h j)))))) (ht : tys[t0]? = some (cA, .long)) {x : Int} (h0 : 0 ≤ x ∧ x < n) (hn : n < 2147483648) (hdg : decode cc pc = .ok (.laload, 1)) (kk : W p l e R s m args below meth c H locs cells slots Q (F0 m (pc + 1) ls (.long (iL (h x.toNat)) :: rest))) : W p l e R s m args below meth c H locs cells slots Q (F0 m pc ls (.int (iI x) :: .ref t :: rest)) := by
  refine va_lald hexec hb hK hP q0 t0 ha ht (iI_in h0.1 h0.2 hn) hdg ?_
  rw [iI_clT h0.1 (by omega)]
  exact kk
end MA
def OwnOK (g : Nat → Nat → Int) (i : Nat) : Prop := (1 ≤ g 3 i ∧ g 3 i ≤ 20) ∧ (1 ≤ g 4 i ∧ g 4 i ≤ 40) ∧ (-1000000 ≤ g 5 i ∧ g 5 i ≤ 1000000) ∧ (0 ≤ g 6 i ∧ g 6 i ≤ g 8 i) ∧ (0 ≤ g 7 i ∧ g 7 i < g 8 i) ∧ (1 ≤ g 8 i ∧ g 8 i ≤ 1000)
def lpM (g : Nat → Nat → Int) (cal y : Int) : Prop := if cal = 0 then yl0 y else if cal = 1 then y % 4 = 0 else if cal = 3 then y % 4 = 3 else if cal = 4 then y % 4 = 3 else if cal = 5 then ylS 11 14 30 y else if cal = 6 then yl6 y else if cal = 7 then yl7 y else if cal = 8 then yl0 (y + 1844) else if cal = 9 then yl9 y else ylS (g 6 (Int.toNat (cal - 12))) (g 7 (Int.toNat (cal - 12))) (g 8 (Int.toNat (cal - 12))) y
noncomputable def nmM (g : Nat → Nat → Int) (cal y : Int) : Int := if cal < 2 then 12 else if cal = 9 then 12 + bI (yl9 y) else if cal = 5 then 12 else if cal = 6 then 12 else if cal = 8 then 20 else if 11 < cal then g 3 (Int.toNat (cal - 12)) else 13
noncomputable def maM (cal y pl : Int) : Int := if cal = 8 then (if pl < 18 then pl + 1 else if pl = 18 then 0 else 19) else if cal = 9 then (if pl + 7 ≤ 12 + bI (yl9 y) then pl + 7 else pl + 7 - (12 + bI (yl9 y))) else pl + 1
def epM (g : Nat → Nat → Int) (cal : Int) : Int := if cal = 0 then 1 else if cal = 1 then -1 else if cal = 3 then 103605 else if cal = 4 then 2796 else if cal = 5 then 227015 else if cal = 6 then 226896 else if cal = 7 then 654415 else if cal = 8 then 673222 else g 5 (Int.toNat (cal - 12))
def plM (g : Nat → Nat → Int) (cal : Int) : Int := if cal = 5 then 354 else if cal = 12 then g 3 (Int.toNat (cal - 12)) * g 4 (Int.toNat (cal - 12)) else if cal = 13 then g 3 (Int.toNat (cal - 12)) * g 4 (Int.toNat (cal - 12)) else 365
noncomputable def ln0 (P : Prop) (M : Int) : Int := if M = 2 then 28 + bI P else if M = 4 ∨ M = 6 ∨ M = 9 ∨ M = 11 then 30 else 31
noncomputable def ln3 (P : Prop) (M : Int) : Int := if M < 13 then 30 else 5 + bI P
noncomputable def ln5 (P : Prop) (M : Int) : Int := if M % 2 = 1 then 30 else 29 + bI (M = 12 ∧ P)
noncomputable def ln6 (P : Prop) (M : Int) : Int := if M < 7 then 31 else if M < 12 then 30 else 29 + bI P
noncomputable def ln8 (P : Prop) (M : Int) : Int := if M = 0 then 4 + bI P else 19
noncomputable def mlM (y : Int) (P : Prop) (M : Int) : Int := if M = 8 then 29 + bI (hst (y + 1) - hst y = 355 ∨ hst (y + 1) - hst y = 385) else if M = 9 then 30 - bI (hst (y + 1) - hst y = 353 ∨ hst (y + 1) - hst y = 383) else if M = 12 then 29 + bI P else if M = 7 ∨ M = 11 ∨ M = 1 ∨ M = 3 ∨ M = 5 then 30 else 29
noncomputable def lnO (a b : Int) (P : Prop) (M : Int) : Int := b + bI (M = a ∧ P)
noncomputable def lnM (g : Nat → Nat → Int) (cal y M : Int) : Int := if cal = 0 then ln0 (lpM g cal y) M else if cal = 1 then ln0 (lpM g cal y) M else if cal = 3 then ln3 (lpM g cal y) M else if cal = 4 then ln3 (lpM g cal y) M else if cal = 7 then ln3 (lpM g cal y) M else if cal = 5 then ln5 (lpM g cal y) M else if cal = 6 then ln6 (lpM g cal y) M else if cal = 8 then ln8 (lpM g cal y) M else if cal = 9 then mlM y (lpM g cal y) M else lnO (g 3 (Int.toNat (cal - 12))) (g 4 (Int.toNat (cal - 12))) (lpM g cal y) M
set_option maxHeartbeats 4000000 in
set_option maxRecDepth 100000 in
theorem ct_M_isLeap (l : Launch) (D : va_G) (a : Nat) (ad : Nat → Nat) (cx : Nat → ClassId) (F : Nat → Int) (g : Nat → Nat → Int) (cal : Int) (y : Int) (hcal : cal = 0 ∨ cal = 1 ∨ cal = 3 ∨ cal = 4 ∨ cal = 5 ∨ cal = 6 ∨ cal = 7 ∨ cal = 8 ∨ cal = 9 ∨ cal = 12 ∨ cal = 13) (ho : 12 ≤ cal → OwnOK g (Int.toNat (cal - 12))) (ry : -300000000 ≤ y ∧ y ≤ 300000000) : RO l y_M_isLeap w_M_isLeap 3 69 [.ref a, .int (iI cal), .long (iL y)] (MdB D a ad cx F g) (.int (iI (bI (lpM g cal y)))) := by
  refine ro_of (by decide +kernel) (Nat.le_of_ble_eq_true rfl) ?_
  intro p e s m below meth c ls hx hb hr hts hown hlk hml hl hN hB
  have hown : s.vm.findClass "DayBookModel" = some m.cls := hown
  have hl : lv_has ls 4 [(0, .ref a), (1, .int (iI cal)), (2, .long (iL y))] := hl
  have hF : _ ∧ _ ∧ _ ∧ _ ∧ _ ∧ _ := ⟨hx, hb, hml, hown, hts, hN⟩
  have hK := hB.1
  have hP := hB.2
  rcases hcal with rfl | rfl | rfl | rfl | rfl | rfl | rfl | rfl | rfl | rfl | rfl
  · skip
    refine lv_iload_n hx hb d_M_isLeap_0 rfl (lv_at hl 1 rfl) ?_
    refine lv_tableIn (off := 55) (tgt := 56) hx hb d_M_isLeap_1 (by decide +kernel) (by decide +kernel) (by decide +kernel) rfl ?_
    refine lv_lload_n hx hb d_M_isLeap_56 rfl (lv_at hl 2 rfl) ?_
    refine ro_S (rest := []) (ct_M_leap0 l y (by omega)) j_M_leap0 k_921 hF rfl hl.1 rfl ⟨Nat.le_of_ble_eq_true rfl, Nat.le_of_ble_eq_true rfl⟩ (Nat.le_of_ble_eq_true rfl) d_M_isLeap_57 ⟨Nat.zero_le _, Nat.zero_le _⟩ Bm_true (fun _ _ _ => trivial) ?_
    exact ro_zret hx hb hr hlk d_M_isLeap_60 rfl
  · skip
    refine lv_iload_n hx hb d_M_isLeap_0 rfl (lv_at hl 1 rfl) ?_
    refine lv_tableIn (off := 60) (tgt := 61) hx hb d_M_isLeap_1 (by decide +kernel) (by decide +kernel) (by decide +kernel) rfl ?_
    refine lv_lload_n hx hb d_M_isLeap_61 rfl (lv_at hl 2 rfl) ?_
    refine ai_ldc2 (x := 4) hx hb hown (hts _ k_924) (by decide +kernel) d_M_isLeap_62 ?_
    refine ro_S (rest := []) (ct_M_mod l y 4 (by omega) (by omega)) j_M_mod k_925 hF rfl hl.1 rfl ⟨Nat.le_of_ble_eq_true rfl, Nat.le_of_ble_eq_true rfl⟩ (Nat.le_of_ble_eq_true rfl) d_M_isLeap_65 ⟨Nat.zero_le _, Nat.zero_le _⟩ Bm_true (fun _ _ _ => trivial) ?_
    refine ai_lconst (x := 0) hx hb d_M_isLeap_68 (by decide +kernel) ?_
    refine ai_lcmp_ne hx hb d_M_isLeap_69 d_M_isLeap_70 rfl (by omega) (by omega) (fun h69 => ?_) (fun h69 => ?_)
    · skip
      refine ai_iconst hx hb d_M_isLeap_77 ?_
      exact ro_zret hx hb hr hlk d_M_isLeap_78 (ro_0 (show ¬ lpM g 1 y from (by omega : ¬ (y % 4 = 0))) rfl)
    · skip
      refine ai_iconst hx hb d_M_isLeap_73 ?_
      refine lv_goto hx hb d_M_isLeap_74 rfl ?_
      exact ro_zret hx hb hr hlk d_M_isLeap_78 (ro_1 (show lpM g 1 y from (by omega : y % 4 = 0)) rfl)
  · skip
    refine lv_iload_n hx hb d_M_isLeap_0 rfl (lv_at hl 1 rfl) ?_
    refine lv_tableIn (off := 78) (tgt := 79) hx hb d_M_isLeap_1 (by decide +kernel) (by decide +kernel) (by decide +kernel) rfl ?_
    refine lv_lload_n hx hb d_M_isLeap_79 rfl (lv_at hl 2 rfl) ?_
    refine ai_ldc2 (x := 4) hx hb hown (hts _ k_924) (by decide +kernel) d_M_isLeap_80 ?_
    refine ro_S (rest := []) (ct_M_mod l y 4 (by omega) (by omega)) j_M_mod k_925 hF rfl hl.1 rfl ⟨Nat.le_of_ble_eq_true rfl, Nat.le_of_ble_eq_true rfl⟩ (Nat.le_of_ble_eq_true rfl) d_M_isLeap_83 ⟨Nat.zero_le _, Nat.zero_le _⟩ Bm_true (fun _ _ _ => trivial) ?_
    refine ai_ldc2 (x := 3) hx hb hown (hts _ k_933) (by decide +kernel) d_M_isLeap_86 ?_
    refine ai_lcmp_ne hx hb d_M_isLeap_89 d_M_isLeap_90 rfl (by omega) (by omega) (fun h89 => ?_) (fun h89 => ?_)
    · skip
      refine ai_iconst hx hb d_M_isLeap_97 ?_
      exact ro_zret hx hb hr hlk d_M_isLeap_98 (ro_0 (show ¬ lpM g 3 y from (by omega : ¬ (y % 4 = 3))) rfl)
    · skip
      refine ai_iconst hx hb d_M_isLeap_93 ?_
      refine lv_goto hx hb d_M_isLeap_94 rfl ?_
      exact ro_zret hx hb hr hlk d_M_isLeap_98 (ro_1 (show lpM g 3 y from (by omega : y % 4 = 3)) rfl)
  · skip
    refine lv_iload_n hx hb d_M_isLeap_0 rfl (lv_at hl 1 rfl) ?_
    refine lv_tableIn (off := 78) (tgt := 79) hx hb d_M_isLeap_1 (by decide +kernel) (by decide +kernel) (by decide +kernel) rfl ?_
    refine lv_lload_n hx hb d_M_isLeap_79 rfl (lv_at hl 2 rfl) ?_
    refine ai_ldc2 (x := 4) hx hb hown (hts _ k_924) (by decide +kernel) d_M_isLeap_80 ?_
    refine ro_S (rest := []) (ct_M_mod l y 4 (by omega) (by omega)) j_M_mod k_925 hF rfl hl.1 rfl ⟨Nat.le_of_ble_eq_true rfl, Nat.le_of_ble_eq_true rfl⟩ (Nat.le_of_ble_eq_true rfl) d_M_isLeap_83 ⟨Nat.zero_le _, Nat.zero_le _⟩ Bm_true (fun _ _ _ => trivial) ?_
    refine ai_ldc2 (x := 3) hx hb hown (hts _ k_933) (by decide +kernel) d_M_isLeap_86 ?_
    refine ai_lcmp_ne hx hb d_M_isLeap_89 d_M_isLeap_90 rfl (by omega) (by omega) (fun h89 => ?_) (fun h89 => ?_)
    · skip
      refine ai_iconst hx hb d_M_isLeap_97 ?_
      exact ro_zret hx hb hr hlk d_M_isLeap_98 (ro_0 (show ¬ lpM g 4 y from (by omega : ¬ (y % 4 = 3))) rfl)
    · skip
      refine ai_iconst hx hb d_M_isLeap_93 ?_
      refine lv_goto hx hb d_M_isLeap_94 rfl ?_
      exact ro_zret hx hb hr hlk d_M_isLeap_98 (ro_1 (show lpM g 4 y from (by omega : y % 4 = 3)) rfl)
  · skip
    refine lv_iload_n hx hb d_M_isLeap_0 rfl (lv_at hl 1 rfl) ?_
    refine lv_tableIn (off := 98) (tgt := 99) hx hb d_M_isLeap_1 (by decide +kernel) (by decide +kernel) (by decide +kernel) rfl ?_
    refine ai_ldc2 (x := 11) hx hb hown (hts _ k_934) (by decide +kernel) d_M_isLeap_99 ?_
    refine lv_lload_n hx hb d_M_isLeap_102 rfl (lv_at hl 2 rfl) ?_
    refine ai_lmul hx hb d_M_isLeap_103 ?_
    refine ai_ldc2 (x := 14) hx hb hown (hts _ k_935) (by decide +kernel) d_M_isLeap_104 ?_
    refine ai_ladd hx hb d_M_isLeap_107 ?_
    refine ai_ldc2 (x := 30) hx hb hown (hts _ k_936) (by decide +kernel) d_M_isLeap_108 ?_
    refine ro_S (rest := []) (ct_M_mod l ((11 * y) + 14) 30 (by omega) (by omega)) j_M_mod k_925 hF rfl hl.1 rfl ⟨Nat.le_of_ble_eq_true rfl, Nat.le_of_ble_eq_true rfl⟩ (Nat.le_of_ble_eq_true rfl) d_M_isLeap_111 ⟨Nat.zero_le _, Nat.zero_le _⟩ Bm_true (fun _ _ _ => trivial) ?_
    refine ai_ldc2 (x := 11) hx hb hown (hts _ k_934) (by decide +kernel) d_M_isLeap_114 ?_
    refine ai_lcmp_ge hx hb d_M_isLeap_117 d_M_isLeap_118 rfl (by omega) (by omega) (fun h117 => ?_) (fun h117 => ?_)
    · skip
      refine ai_iconst hx hb d_M_isLeap_125 ?_
      exact ro_zret hx hb hr hlk d_M_isLeap_126 (ro_0 (show ¬ lpM g 5 y from (by omega : ¬ ((11 * y + 14) % 30 < 11))) rfl)
    · skip
      refine ai_iconst hx hb d_M_isLeap_121 ?_
      refine lv_goto hx hb d_M_isLeap_122 rfl ?_
      exact ro_zret hx hb hr hlk d_M_isLeap_126 (ro_1 (show lpM g 5 y from (by omega : (11 * y + 14) % 30 < 11)) rfl)
  · skip
    refine lv_iload_n hx hb d_M_isLeap_0 rfl (lv_at hl 1 rfl) ?_
    refine lv_tableIn (off := 126) (tgt := 127) hx hb d_M_isLeap_1 (by decide +kernel) (by decide +kernel) (by decide +kernel) rfl ?_
    refine lv_lload_n hx hb d_M_isLeap_127 rfl (lv_at hl 2 rfl) ?_
    refine ai_ldc2 (x := 474) hx hb hown (hts _ k_937) (by decide +kernel) d_M_isLeap_128 ?_
    refine ai_lsub hx hb d_M_isLeap_131 ?_
    refine ai_ldc2 (x := 2820) hx hb hown (hts _ k_938) (by decide +kernel) d_M_isLeap_132 ?_
    refine ro_S (rest := []) (ct_M_mod l (y - 474) 2820 (by omega) (by omega)) j_M_mod k_925 hF rfl hl.1 rfl ⟨Nat.le_of_ble_eq_true rfl, Nat.le_of_ble_eq_true rfl⟩ (Nat.le_of_ble_eq_true rfl) d_M_isLeap_135 ⟨Nat.zero_le _, Nat.zero_le _⟩ Bm_true (fun _ _ _ => trivial) ?_
    refine ai_ldc2 (x := 512) hx hb hown (hts _ k_939) (by decide +kernel) d_M_isLeap_138 ?_
    refine ai_ladd hx hb d_M_isLeap_141 ?_
    refine ai_ldc2 (x := 31) hx hb hown (hts _ k_940) (by decide +kernel) d_M_isLeap_142 ?_
    refine ai_lmul hx hb d_M_isLeap_145 ?_
    refine ai_ldc2 (x := 128) hx hb hown (hts _ k_941) (by decide +kernel) d_M_isLeap_146 ?_
    refine ro_S (rest := []) (ct_M_mod l ((((y - 474) % 2820) + 512) * 31) 128 (by omega) (by omega)) j_M_mod k_925 hF rfl hl.1 rfl ⟨Nat.le_of_ble_eq_true rfl, Nat.le_of_ble_eq_true rfl⟩ (Nat.le_of_ble_eq_true rfl) d_M_isLeap_149 ⟨Nat.zero_le _, Nat.zero_le _⟩ Bm_true (fun _ _ _ => trivial) ?_
    refine ai_ldc2 (x := 31) hx hb hown (hts _ k_940) (by decide +kernel) d_M_isLeap_152 ?_
    refine ai_lcmp_ge hx hb d_M_isLeap_155 d_M_isLeap_156 rfl (by omega) (by omega) (fun h155 => ?_) (fun h155 => ?_)
    · skip
      refine ai_iconst hx hb d_M_isLeap_163 ?_
      exact ro_zret hx hb hr hlk d_M_isLeap_164 (ro_0 (show ¬ lpM g 6 y from (by omega : ¬ ((((y - 474) % 2820 + 512) * 31) % 128 < 31))) rfl)
    · skip
      refine ai_iconst hx hb d_M_isLeap_159 ?_
      refine lv_goto hx hb d_M_isLeap_160 rfl ?_
      exact ro_zret hx hb hr hlk d_M_isLeap_164 (ro_1 (show lpM g 6 y from (by omega : (((y - 474) % 2820 + 512) * 31) % 128 < 31)) rfl)
  · skip
    refine lv_iload_n hx hb d_M_isLeap_0 rfl (lv_at hl 1 rfl) ?_
    refine lv_tableIn (off := 164) (tgt := 165) hx hb d_M_isLeap_1 (by decide +kernel) (by decide +kernel) (by decide +kernel) rfl ?_
    refine lv_lload_n hx hb d_M_isLeap_165 rfl (lv_at hl 2 rfl) ?_
    refine ro_S (rest := []) (ct_M_leap0 l y (by omega)) j_M_leap0 k_921 hF rfl hl.1 rfl ⟨Nat.le_of_ble_eq_true rfl, Nat.le_of_ble_eq_true rfl⟩ (Nat.le_of_ble_eq_true rfl) d_M_isLeap_166 ⟨Nat.zero_le _, Nat.zero_le _⟩ Bm_true (fun _ _ _ => trivial) ?_
    refine ai_ifeqB hx hb d_M_isLeap_169 rfl (fun h169 => ?_) (fun h169 => ?_)
    · skip
      refine ai_iconst hx hb d_M_isLeap_188 ?_
      exact ro_zret hx hb hr hlk d_M_isLeap_189 (ro_0 (show ¬ lpM g 7 y from fun q => by first | exact h169 q.1 | exact q.2 (by omega)) rfl)
    · skip
      refine lv_lload_n hx hb d_M_isLeap_172 rfl (lv_at hl 2 rfl) ?_
      refine ai_ldc2 (x := 4000) hx hb hown (hts _ k_942) (by decide +kernel) d_M_isLeap_173 ?_
      refine ro_S (rest := []) (ct_M_mod l y 4000 (by omega) (by omega)) j_M_mod k_925 hF rfl hl.1 rfl ⟨Nat.le_of_ble_eq_true rfl, Nat.le_of_ble_eq_true rfl⟩ (Nat.le_of_ble_eq_true rfl) d_M_isLeap_176 ⟨Nat.zero_le _, Nat.zero_le _⟩ Bm_true (fun _ _ _ => trivial) ?_
      refine ai_lconst (x := 0) hx hb d_M_isLeap_179 (by decide +kernel) ?_
      refine ai_lcmp_eq hx hb d_M_isLeap_180 d_M_isLeap_181 rfl (by omega) (by omega) (fun h180 => ?_) (fun h180 => ?_)
      · skip
        refine ai_iconst hx hb d_M_isLeap_188 ?_
        exact ro_zret hx hb hr hlk d_M_isLeap_189 (ro_0 (show ¬ lpM g 7 y from fun q => by first | exact h169 q.1 | exact q.2 (by omega)) rfl)
      · skip
        refine ai_iconst hx hb d_M_isLeap_184 ?_
        refine lv_goto hx hb d_M_isLeap_185 rfl ?_
        exact ro_zret hx hb hr hlk d_M_isLeap_189 (ro_1 (show lpM g 7 y from ⟨h169, by omega⟩) rfl)
  · skip
    refine lv_iload_n hx hb d_M_isLeap_0 rfl (lv_at hl 1 rfl) ?_
    refine lv_tableIn (off := 189) (tgt := 190) hx hb d_M_isLeap_1 (by decide +kernel) (by decide +kernel) (by decide +kernel) rfl ?_
    refine lv_lload_n hx hb d_M_isLeap_190 rfl (lv_at hl 2 rfl) ?_
    refine ai_ldc2 (x := 1844) hx hb hown (hts _ k_943) (by decide +kernel) d_M_isLeap_191 ?_
    refine ai_ladd hx hb d_M_isLeap_194 ?_
    refine ro_S (rest := []) (ct_M_leap0 l (y + 1844) (by omega)) j_M_leap0 k_921 hF rfl hl.1 rfl ⟨Nat.le_of_ble_eq_true rfl, Nat.le_of_ble_eq_true rfl⟩ (Nat.le_of_ble_eq_true rfl) d_M_isLeap_195 ⟨Nat.zero_le _, Nat.zero_le _⟩ Bm_true (fun _ _ _ => trivial) ?_
    exact ro_zret hx hb hr hlk d_M_isLeap_198 rfl
  · skip
    refine lv_iload_n hx hb d_M_isLeap_0 rfl (lv_at hl 1 rfl) ?_
    refine lv_tableIn (off := 198) (tgt := 199) hx hb d_M_isLeap_1 (by decide +kernel) (by decide +kernel) (by decide +kernel) rfl ?_
    refine ai_ldc2 (x := 7) hx hb hown (hts _ k_944) (by decide +kernel) d_M_isLeap_199 ?_
    refine lv_lload_n hx hb d_M_isLeap_202 rfl (lv_at hl 2 rfl) ?_
    refine ai_lmul hx hb d_M_isLeap_203 ?_
    refine ai_lconst (x := 1) hx hb d_M_isLeap_204 (by decide +kernel) ?_
    refine ai_ladd hx hb d_M_isLeap_205 ?_
    refine ai_ldc2 (x := 19) hx hb hown (hts _ k_945) (by decide +kernel) d_M_isLeap_206 ?_
    refine ro_S (rest := []) (ct_M_mod l ((7 * y) + 1) 19 (by omega) (by omega)) j_M_mod k_925 hF rfl hl.1 rfl ⟨Nat.le_of_ble_eq_true rfl, Nat.le_of_ble_eq_true rfl⟩ (Nat.le_of_ble_eq_true rfl) d_M_isLeap_209 ⟨Nat.zero_le _, Nat.zero_le _⟩ Bm_true (fun _ _ _ => trivial) ?_
    refine ai_ldc2 (x := 7) hx hb hown (hts _ k_944) (by decide +kernel) d_M_isLeap_212 ?_
    refine ai_lcmp_ge hx hb d_M_isLeap_215 d_M_isLeap_216 rfl (by omega) (by omega) (fun h215 => ?_) (fun h215 => ?_)
    · skip
      refine ai_iconst hx hb d_M_isLeap_223 ?_
      exact ro_zret hx hb hr hlk d_M_isLeap_224 (ro_0 (show ¬ lpM g 9 y from (by omega : ¬ ((7 * y + 1) % 19 < 7))) rfl)
    · skip
      refine ai_iconst hx hb d_M_isLeap_219 ?_
      refine lv_goto hx hb d_M_isLeap_220 rfl ?_
      exact ro_zret hx hb hr hlk d_M_isLeap_224 (ro_1 (show lpM g 9 y from (by omega : (7 * y + 1) % 19 < 7)) rfl)
  · skip
    refine lv_iload_n hx hb d_M_isLeap_0 rfl (lv_at hl 1 rfl) ?_
    refine lv_tableOut (tgt := 225) hx hb d_M_isLeap_1 (by decide +kernel) rfl ?_
    obtain ⟨o1, o2, o3, o4, o5, o6⟩ := ho (by decide)
    have n1 := fun c : Int => mul_rng (a := g 6 (Int.toNat (c - 12))) (y := y)
    have n2 := n1 12
    have n3 := n1 13
    have n4 := fun c : Int => md_rng (x := g 6 (Int.toNat (c - 12)) * y + g 7 (Int.toNat (c - 12))) (n := g 8 (Int.toNat (c - 12)))
    have n5 := n4 12
    have n6 := n4 13
    clear n1 n4
    refine lv_aload_n hx hb d_M_isLeap_225 rfl (lv_at hl 0 rfl) ?_
    refine va_get (D := D) (cl := CL) (ci := 10) (v := .ref (ad 6)) (C := "DayBookModel") (T := T_M) (N := 19) hx hb hts in_M hown hK hP 0 rfl rfl 7 (by decide) (hts _ k_953) (fun _ h9 => h9) rfl d_M_isLeap_226 ?_
    refine lv_iload_n hx hb d_M_isLeap_229 rfl (lv_at hl 1 rfl) ?_
    refine ai_bipush (x := 12) hx hb d_M_isLeap_230 (by decide +kernel) ?_
    refine ai_isub hx hb d_M_isLeap_232 ?_
    refine ma_ild hx hb hK hP 7 0 rfl rfl (h := g 6) (by omega) (by decide) d_M_isLeap_233 ?_
    refine ai_i2l hx hb d_M_isLeap_234 (by omega) ?_
    refine lv_lload_n hx hb d_M_isLeap_235 rfl (lv_at hl 2 rfl) ?_
    refine ai_lmul hx hb d_M_isLeap_236 ?_
    refine lv_aload_n hx hb d_M_isLeap_237 rfl (lv_at hl 0 rfl) ?_
    refine va_get (D := D) (cl := CL) (ci := 10) (v := .ref (ad 7)) (C := "DayBookModel") (T := T_M) (N := 19) hx hb hts in_M hown hK hP 0 rfl rfl 8 (by decide) (hts _ k_954) (fun _ h9 => h9) rfl d_M_isLeap_238 ?_
    refine lv_iload_n hx hb d_M_isLeap_241 rfl (lv_at hl 1 rfl) ?_
    refine ai_bipush (x := 12) hx hb d_M_isLeap_242 (by decide +kernel) ?_
    refine ai_isub hx hb d_M_isLeap_244 ?_
    refine ma_ild hx hb hK hP 8 0 rfl rfl (h := g 7) (by omega) (by decide) d_M_isLeap_245 ?_
    refine ai_i2l hx hb d_M_isLeap_246 (by omega) ?_
    refine ai_ladd hx hb d_M_isLeap_247 ?_
    refine lv_aload_n hx hb d_M_isLeap_248 rfl (lv_at hl 0 rfl) ?_
    refine va_get (D := D) (cl := CL) (ci := 10) (v := .ref (ad 8)) (C := "DayBookModel") (T := T_M) (N := 19) hx hb hts in_M hown hK hP 0 rfl rfl 9 (by decide) (hts _ k_955) (fun _ h9 => h9) rfl d_M_isLeap_249 ?_
    refine lv_iload_n hx hb d_M_isLeap_252 rfl (lv_at hl 1 rfl) ?_
    refine ai_bipush (x := 12) hx hb d_M_isLeap_253 (by decide +kernel) ?_
    refine ai_isub hx hb d_M_isLeap_255 ?_
    refine ma_ild hx hb hK hP 9 0 rfl rfl (h := g 8) (by omega) (by decide) d_M_isLeap_256 ?_
    refine ai_i2l hx hb d_M_isLeap_257 (by omega) ?_
    refine ro_S (rest := []) (ct_M_mod l (((g 6 (Int.toNat (12 - 12))) * y) + (g 7 (Int.toNat (12 - 12)))) (g 8 (Int.toNat (12 - 12))) (by omega) (by omega)) j_M_mod k_925 hF rfl hl.1 rfl ⟨Nat.le_of_ble_eq_true rfl, Nat.le_of_ble_eq_true rfl⟩ (Nat.le_of_ble_eq_true rfl) d_M_isLeap_258 ⟨Nat.zero_le _, Nat.zero_le _⟩ Bm_true (fun _ _ _ => trivial) ?_
    refine lv_aload_n hx hb d_M_isLeap_261 rfl (lv_at hl 0 rfl) ?_
    refine va_get (D := D) (cl := CL) (ci := 10) (v := .ref (ad 6)) (C := "DayBookModel") (T := T_M) (N := 19) hx hb hts in_M hown hK hP 0 rfl rfl 7 (by decide) (hts _ k_953) (fun _ h9 => h9) rfl d_M_isLeap_262 ?_
    refine lv_iload_n hx hb d_M_isLeap_265 rfl (lv_at hl 1 rfl) ?_
    refine ai_bipush (x := 12) hx hb d_M_isLeap_266 (by decide +kernel) ?_
    refine ai_isub hx hb d_M_isLeap_268 ?_
    refine ma_ild hx hb hK hP 7 0 rfl rfl (h := g 6) (by omega) (by decide) d_M_isLeap_269 ?_
    refine ai_i2l hx hb d_M_isLeap_270 (by omega) ?_
    refine ai_lcmp_ge hx hb d_M_isLeap_271 d_M_isLeap_272 rfl (by omega) (by omega) (fun h271 => ?_) (fun h271 => ?_)
    · skip
      refine ai_iconst hx hb d_M_isLeap_279 ?_
      exact ro_zret hx hb hr hlk d_M_isLeap_280 (ro_0 (show ¬ lpM g 12 y from (by omega : ¬ ((g 6 (Int.toNat (12 - 12)) * y + g 7 (Int.toNat (12 - 12))) % g 8 (Int.toNat (12 - 12)) < g 6 (Int.toNat (12 - 12))))) rfl)
    · skip
      refine ai_iconst hx hb d_M_isLeap_275 ?_
      refine lv_goto hx hb d_M_isLeap_276 rfl ?_
      exact ro_zret hx hb hr hlk d_M_isLeap_280 (ro_1 (show lpM g 12 y from (by omega : (g 6 (Int.toNat (12 - 12)) * y + g 7 (Int.toNat (12 - 12))) % g 8 (Int.toNat (12 - 12)) < g 6 (Int.toNat (12 - 12)))) rfl)
  · skip
    refine lv_iload_n hx hb d_M_isLeap_0 rfl (lv_at hl 1 rfl) ?_
    refine lv_tableOut (tgt := 225) hx hb d_M_isLeap_1 (by decide +kernel) rfl ?_
    obtain ⟨o1, o2, o3, o4, o5, o6⟩ := ho (by decide)
    have n1 := fun c : Int => mul_rng (a := g 6 (Int.toNat (c - 12))) (y := y)
    have n2 := n1 12
    have n3 := n1 13
    have n4 := fun c : Int => md_rng (x := g 6 (Int.toNat (c - 12)) * y + g 7 (Int.toNat (c - 12))) (n := g 8 (Int.toNat (c - 12)))
    have n5 := n4 12
    have n6 := n4 13
    clear n1 n4
    refine lv_aload_n hx hb d_M_isLeap_225 rfl (lv_at hl 0 rfl) ?_
    refine va_get (D := D) (cl := CL) (ci := 10) (v := .ref (ad 6)) (C := "DayBookModel") (T := T_M) (N := 19) hx hb hts in_M hown hK hP 0 rfl rfl 7 (by decide) (hts _ k_953) (fun _ h9 => h9) rfl d_M_isLeap_226 ?_
    refine lv_iload_n hx hb d_M_isLeap_229 rfl (lv_at hl 1 rfl) ?_
    refine ai_bipush (x := 12) hx hb d_M_isLeap_230 (by decide +kernel) ?_
    refine ai_isub hx hb d_M_isLeap_232 ?_
    refine ma_ild hx hb hK hP 7 0 rfl rfl (h := g 6) (by omega) (by decide) d_M_isLeap_233 ?_
    refine ai_i2l hx hb d_M_isLeap_234 (by omega) ?_
    refine lv_lload_n hx hb d_M_isLeap_235 rfl (lv_at hl 2 rfl) ?_
    refine ai_lmul hx hb d_M_isLeap_236 ?_
    refine lv_aload_n hx hb d_M_isLeap_237 rfl (lv_at hl 0 rfl) ?_
    refine va_get (D := D) (cl := CL) (ci := 10) (v := .ref (ad 7)) (C := "DayBookModel") (T := T_M) (N := 19) hx hb hts in_M hown hK hP 0 rfl rfl 8 (by decide) (hts _ k_954) (fun _ h9 => h9) rfl d_M_isLeap_238 ?_
    refine lv_iload_n hx hb d_M_isLeap_241 rfl (lv_at hl 1 rfl) ?_
    refine ai_bipush (x := 12) hx hb d_M_isLeap_242 (by decide +kernel) ?_
    refine ai_isub hx hb d_M_isLeap_244 ?_
    refine ma_ild hx hb hK hP 8 0 rfl rfl (h := g 7) (by omega) (by decide) d_M_isLeap_245 ?_
    refine ai_i2l hx hb d_M_isLeap_246 (by omega) ?_
    refine ai_ladd hx hb d_M_isLeap_247 ?_
    refine lv_aload_n hx hb d_M_isLeap_248 rfl (lv_at hl 0 rfl) ?_
    refine va_get (D := D) (cl := CL) (ci := 10) (v := .ref (ad 8)) (C := "DayBookModel") (T := T_M) (N := 19) hx hb hts in_M hown hK hP 0 rfl rfl 9 (by decide) (hts _ k_955) (fun _ h9 => h9) rfl d_M_isLeap_249 ?_
    refine lv_iload_n hx hb d_M_isLeap_252 rfl (lv_at hl 1 rfl) ?_
    refine ai_bipush (x := 12) hx hb d_M_isLeap_253 (by decide +kernel) ?_
    refine ai_isub hx hb d_M_isLeap_255 ?_
    refine ma_ild hx hb hK hP 9 0 rfl rfl (h := g 8) (by omega) (by decide) d_M_isLeap_256 ?_
    refine ai_i2l hx hb d_M_isLeap_257 (by omega) ?_
    refine ro_S (rest := []) (ct_M_mod l (((g 6 (Int.toNat (13 - 12))) * y) + (g 7 (Int.toNat (13 - 12)))) (g 8 (Int.toNat (13 - 12))) (by omega) (by omega)) j_M_mod k_925 hF rfl hl.1 rfl ⟨Nat.le_of_ble_eq_true rfl, Nat.le_of_ble_eq_true rfl⟩ (Nat.le_of_ble_eq_true rfl) d_M_isLeap_258 ⟨Nat.zero_le _, Nat.zero_le _⟩ Bm_true (fun _ _ _ => trivial) ?_
    refine lv_aload_n hx hb d_M_isLeap_261 rfl (lv_at hl 0 rfl) ?_
    refine va_get (D := D) (cl := CL) (ci := 10) (v := .ref (ad 6)) (C := "DayBookModel") (T := T_M) (N := 19) hx hb hts in_M hown hK hP 0 rfl rfl 7 (by decide) (hts _ k_953) (fun _ h9 => h9) rfl d_M_isLeap_262 ?_
    refine lv_iload_n hx hb d_M_isLeap_265 rfl (lv_at hl 1 rfl) ?_
    refine ai_bipush (x := 12) hx hb d_M_isLeap_266 (by decide +kernel) ?_
    refine ai_isub hx hb d_M_isLeap_268 ?_
    refine ma_ild hx hb hK hP 7 0 rfl rfl (h := g 6) (by omega) (by decide) d_M_isLeap_269 ?_
    refine ai_i2l hx hb d_M_isLeap_270 (by omega) ?_
    refine ai_lcmp_ge hx hb d_M_isLeap_271 d_M_isLeap_272 rfl (by omega) (by omega) (fun h271 => ?_) (fun h271 => ?_)
    · skip
      refine ai_iconst hx hb d_M_isLeap_279 ?_
      exact ro_zret hx hb hr hlk d_M_isLeap_280 (ro_0 (show ¬ lpM g 13 y from (by omega : ¬ ((g 6 (Int.toNat (13 - 12)) * y + g 7 (Int.toNat (13 - 12))) % g 8 (Int.toNat (13 - 12)) < g 6 (Int.toNat (13 - 12))))) rfl)
    · skip
      refine ai_iconst hx hb d_M_isLeap_275 ?_
      refine lv_goto hx hb d_M_isLeap_276 rfl ?_
      exact ro_zret hx hb hr hlk d_M_isLeap_280 (ro_1 (show lpM g 13 y from (by omega : (g 6 (Int.toNat (13 - 12)) * y + g 7 (Int.toNat (13 - 12))) % g 8 (Int.toNat (13 - 12)) < g 6 (Int.toNat (13 - 12)))) rfl)
set_option maxHeartbeats 4000000 in
set_option maxRecDepth 100000 in
theorem ct_M_epoch (l : Launch) (D : va_G) (a : Nat) (ad : Nat → Nat) (cx : Nat → ClassId) (F : Nat → Int) (g : Nat → Nat → Int) (cal : Int) (hcal : cal = 0 ∨ cal = 1 ∨ cal = 3 ∨ cal = 4 ∨ cal = 5 ∨ cal = 6 ∨ cal = 7 ∨ cal = 8 ∨ cal = 12 ∨ cal = 13) : RO l y_M_epoch w_M_epoch 0 0 [.ref a, .int (iI cal)] (MdB D a ad cx F g) (.int (iI (epM g cal))) := by
  refine ro_of (by decide +kernel) (Nat.le_of_ble_eq_true rfl) ?_
  intro p e s m below meth c ls hx hb hr hts hown hlk hml hl hN hB
  have hown : s.vm.findClass "DayBookModel" = some m.cls := hown
  have hl : lv_has ls 2 [(0, .ref a), (1, .int (iI cal))] := hl
  have hF : _ ∧ _ ∧ _ ∧ _ ∧ _ ∧ _ := ⟨hx, hb, hml, hown, hts, hN⟩
  have hK := hB.1
  have hP := hB.2
  rcases hcal with rfl | rfl | rfl | rfl | rfl | rfl | rfl | rfl | rfl | rfl
  · skip
    refine lv_iload_n hx hb d_M_epoch_0 rfl (lv_at hl 1 rfl) ?_
    refine lv_tableIn (off := 51) (tgt := 52) hx hb d_M_epoch_1 (by decide +kernel) (by decide +kernel) (by decide +kernel) rfl ?_
    refine ai_iconst hx hb d_M_epoch_52 ?_
    exact ro_iret hx hb hr hlk d_M_epoch_53 rfl
  · skip
    refine lv_iload_n hx hb d_M_epoch_0 rfl (lv_at hl 1 rfl) ?_
    refine lv_tableIn (off := 53) (tgt := 54) hx hb d_M_epoch_1 (by decide +kernel) (by decide +kernel) (by decide +kernel) rfl ?_
    refine ai_iconst hx hb d_M_epoch_54 ?_
    exact ro_iret hx hb hr hlk d_M_epoch_55 rfl
  · skip
    refine lv_iload_n hx hb d_M_epoch_0 rfl (lv_at hl 1 rfl) ?_
    refine lv_tableIn (off := 55) (tgt := 56) hx hb d_M_epoch_1 (by decide +kernel) (by decide +kernel) (by decide +kernel) rfl ?_
    refine ai_ldc (x := 103605) hx hb hown (hts _ k_1060) (by decide +kernel) d_M_epoch_56 ?_
    exact ro_iret hx hb hr hlk d_M_epoch_58 rfl
  · skip
    refine lv_iload_n hx hb d_M_epoch_0 rfl (lv_at hl 1 rfl) ?_
    refine lv_tableIn (off := 58) (tgt := 59) hx hb d_M_epoch_1 (by decide +kernel) (by decide +kernel) (by decide +kernel) rfl ?_
    refine ai_sipush (x := 2796) hx hb d_M_epoch_59 (by decide +kernel) ?_
    exact ro_iret hx hb hr hlk d_M_epoch_62 rfl
  · skip
    refine lv_iload_n hx hb d_M_epoch_0 rfl (lv_at hl 1 rfl) ?_
    refine lv_tableIn (off := 62) (tgt := 63) hx hb d_M_epoch_1 (by decide +kernel) (by decide +kernel) (by decide +kernel) rfl ?_
    refine ai_ldc (x := 227015) hx hb hown (hts _ k_1061) (by decide +kernel) d_M_epoch_63 ?_
    exact ro_iret hx hb hr hlk d_M_epoch_65 rfl
  · skip
    refine lv_iload_n hx hb d_M_epoch_0 rfl (lv_at hl 1 rfl) ?_
    refine lv_tableIn (off := 65) (tgt := 66) hx hb d_M_epoch_1 (by decide +kernel) (by decide +kernel) (by decide +kernel) rfl ?_
    refine ai_ldc (x := 226896) hx hb hown (hts _ k_1062) (by decide +kernel) d_M_epoch_66 ?_
    exact ro_iret hx hb hr hlk d_M_epoch_68 rfl
  · skip
    refine lv_iload_n hx hb d_M_epoch_0 rfl (lv_at hl 1 rfl) ?_
    refine lv_tableIn (off := 68) (tgt := 69) hx hb d_M_epoch_1 (by decide +kernel) (by decide +kernel) (by decide +kernel) rfl ?_
    refine ai_ldc (x := 654415) hx hb hown (hts _ k_1063) (by decide +kernel) d_M_epoch_69 ?_
    exact ro_iret hx hb hr hlk d_M_epoch_71 rfl
  · skip
    refine lv_iload_n hx hb d_M_epoch_0 rfl (lv_at hl 1 rfl) ?_
    refine lv_tableIn (off := 71) (tgt := 72) hx hb d_M_epoch_1 (by decide +kernel) (by decide +kernel) (by decide +kernel) rfl ?_
    refine ai_ldc (x := 673222) hx hb hown (hts _ k_1064) (by decide +kernel) d_M_epoch_72 ?_
    exact ro_iret hx hb hr hlk d_M_epoch_74 rfl
  · skip
    refine lv_iload_n hx hb d_M_epoch_0 rfl (lv_at hl 1 rfl) ?_
    refine lv_tableOut (tgt := 75) hx hb d_M_epoch_1 (by decide +kernel) rfl ?_
    refine lv_aload_n hx hb d_M_epoch_75 rfl (lv_at hl 0 rfl) ?_
    refine va_get (D := D) (cl := CL) (ci := 10) (v := .ref (ad 5)) (C := "DayBookModel") (T := T_M) (N := 19) hx hb hts in_M hown hK hP 0 rfl rfl 6 (by decide) (hts _ k_952) (fun _ h9 => h9) rfl d_M_epoch_76 ?_
    refine lv_iload_n hx hb d_M_epoch_79 rfl (lv_at hl 1 rfl) ?_
    refine ai_bipush (x := 12) hx hb d_M_epoch_80 (by decide +kernel) ?_
    refine ai_isub hx hb d_M_epoch_82 ?_
    refine ma_ild hx hb hK hP 6 0 rfl rfl (h := g 5) (by omega) (by decide) d_M_epoch_83 ?_
    exact ro_iret hx hb hr hlk d_M_epoch_84 rfl
  · skip
    refine lv_iload_n hx hb d_M_epoch_0 rfl (lv_at hl 1 rfl) ?_
    refine lv_tableOut (tgt := 75) hx hb d_M_epoch_1 (by decide +kernel) rfl ?_
    refine lv_aload_n hx hb d_M_epoch_75 rfl (lv_at hl 0 rfl) ?_
    refine va_get (D := D) (cl := CL) (ci := 10) (v := .ref (ad 5)) (C := "DayBookModel") (T := T_M) (N := 19) hx hb hts in_M hown hK hP 0 rfl rfl 6 (by decide) (hts _ k_952) (fun _ h9 => h9) rfl d_M_epoch_76 ?_
    refine lv_iload_n hx hb d_M_epoch_79 rfl (lv_at hl 1 rfl) ?_
    refine ai_bipush (x := 12) hx hb d_M_epoch_80 (by decide +kernel) ?_
    refine ai_isub hx hb d_M_epoch_82 ?_
    refine ma_ild hx hb hK hP 6 0 rfl rfl (h := g 5) (by omega) (by decide) d_M_epoch_83 ?_
    exact ro_iret hx hb hr hlk d_M_epoch_84 rfl
set_option maxHeartbeats 4000000 in
set_option maxRecDepth 100000 in
theorem ct_M_plainLength (l : Launch) (D : va_G) (a : Nat) (ad : Nat → Nat) (cx : Nat → ClassId) (F : Nat → Int) (g : Nat → Nat → Int) (cal : Int) (hcal : cal = 0 ∨ cal = 1 ∨ cal = 3 ∨ cal = 4 ∨ cal = 5 ∨ cal = 6 ∨ cal = 7 ∨ cal = 8 ∨ cal = 12 ∨ cal = 13) (ho : 12 ≤ cal → OwnOK g (Int.toNat (cal - 12))) : RO l y_M_plainLength w_M_plainLength 0 0 [.ref a, .int (iI cal)] (MdB D a ad cx F g) (.long (iL (plM g cal))) := by
  refine ro_of (by decide +kernel) (Nat.le_of_ble_eq_true rfl) ?_
  intro p e s m below meth c ls hx hb hr hts hown hlk hml hl hN hB
  have hown : s.vm.findClass "DayBookModel" = some m.cls := hown
  have hl : lv_has ls 2 [(0, .ref a), (1, .int (iI cal))] := hl
  have hF : _ ∧ _ ∧ _ ∧ _ ∧ _ ∧ _ := ⟨hx, hb, hml, hown, hts, hN⟩
  have hK := hB.1
  have hP := hB.2
  rcases hcal with rfl | rfl | rfl | rfl | rfl | rfl | rfl | rfl | rfl | rfl
  · skip
    refine lv_iload_n hx hb d_M_plainLength_0 rfl (lv_at hl 1 rfl) ?_
    refine lv_lookup (off := 61) (tgt := 62) hx hb d_M_plainLength_1 (by decide +kernel) (by decide +kernel) rfl ?_
    refine ai_ldc2 (x := 365) hx hb hown (hts _ k_916) (by decide +kernel) d_M_plainLength_62 ?_
    exact ro_lret hx hb hr hlk d_M_plainLength_65 rfl
  · skip
    refine lv_iload_n hx hb d_M_plainLength_0 rfl (lv_at hl 1 rfl) ?_
    refine lv_lookup (off := 61) (tgt := 62) hx hb d_M_plainLength_1 (by decide +kernel) (by decide +kernel) rfl ?_
    refine ai_ldc2 (x := 365) hx hb hown (hts _ k_916) (by decide +kernel) d_M_plainLength_62 ?_
    exact ro_lret hx hb hr hlk d_M_plainLength_65 rfl
  · skip
    refine lv_iload_n hx hb d_M_plainLength_0 rfl (lv_at hl 1 rfl) ?_
    refine lv_lookup (off := 61) (tgt := 62) hx hb d_M_plainLength_1 (by decide +kernel) (by decide +kernel) rfl ?_
    refine ai_ldc2 (x := 365) hx hb hown (hts _ k_916) (by decide +kernel) d_M_plainLength_62 ?_
    exact ro_lret hx hb hr hlk d_M_plainLength_65 rfl
  · skip
    refine lv_iload_n hx hb d_M_plainLength_0 rfl (lv_at hl 1 rfl) ?_
    refine lv_lookup (off := 61) (tgt := 62) hx hb d_M_plainLength_1 (by decide +kernel) (by decide +kernel) rfl ?_
    refine ai_ldc2 (x := 365) hx hb hown (hts _ k_916) (by decide +kernel) d_M_plainLength_62 ?_
    exact ro_lret hx hb hr hlk d_M_plainLength_65 rfl
  · skip
    refine lv_iload_n hx hb d_M_plainLength_0 rfl (lv_at hl 1 rfl) ?_
    refine lv_lookup (off := 35) (tgt := 36) hx hb d_M_plainLength_1 (by decide +kernel) (by decide +kernel) rfl ?_
    refine ai_ldc2 (x := 354) hx hb hown (hts _ k_915) (by decide +kernel) d_M_plainLength_36 ?_
    exact ro_lret hx hb hr hlk d_M_plainLength_39 rfl
  · skip
    refine lv_iload_n hx hb d_M_plainLength_0 rfl (lv_at hl 1 rfl) ?_
    refine lv_lookup (off := 61) (tgt := 62) hx hb d_M_plainLength_1 (by decide +kernel) (by decide +kernel) rfl ?_
    refine ai_ldc2 (x := 365) hx hb hown (hts _ k_916) (by decide +kernel) d_M_plainLength_62 ?_
    exact ro_lret hx hb hr hlk d_M_plainLength_65 rfl
  · skip
    refine lv_iload_n hx hb d_M_plainLength_0 rfl (lv_at hl 1 rfl) ?_
    refine lv_lookup (off := 61) (tgt := 62) hx hb d_M_plainLength_1 (by decide +kernel) (by decide +kernel) rfl ?_
    refine ai_ldc2 (x := 365) hx hb hown (hts _ k_916) (by decide +kernel) d_M_plainLength_62 ?_
    exact ro_lret hx hb hr hlk d_M_plainLength_65 rfl
  · skip
    refine lv_iload_n hx hb d_M_plainLength_0 rfl (lv_at hl 1 rfl) ?_
    refine lv_lookup (off := 61) (tgt := 62) hx hb d_M_plainLength_1 (by decide +kernel) (by decide +kernel) rfl ?_
    refine ai_ldc2 (x := 365) hx hb hown (hts _ k_916) (by decide +kernel) d_M_plainLength_62 ?_
    exact ro_lret hx hb hr hlk d_M_plainLength_65 rfl
  · skip
    refine lv_iload_n hx hb d_M_plainLength_0 rfl (lv_at hl 1 rfl) ?_
    refine lv_lookup (off := 39) (tgt := 40) hx hb d_M_plainLength_1 (by decide +kernel) (by decide +kernel) rfl ?_
    obtain ⟨o1, o2, o3, o4, o5, o6⟩ := ho (by decide)
    refine lv_aload_n hx hb d_M_plainLength_40 rfl (lv_at hl 0 rfl) ?_
    refine va_get (D := D) (cl := CL) (ci := 10) (v := .ref (ad 3)) (C := "DayBookModel") (T := T_M) (N := 19) hx hb hts in_M hown hK hP 0 rfl rfl 4 (by decide) (hts _ k_950) (fun _ h9 => h9) rfl d_M_plainLength_41 ?_
    refine lv_iload_n hx hb d_M_plainLength_44 rfl (lv_at hl 1 rfl) ?_
    refine ai_bipush (x := 12) hx hb d_M_plainLength_45 (by decide +kernel) ?_
    refine ai_isub hx hb d_M_plainLength_47 ?_
    refine ma_ild hx hb hK hP 4 0 rfl rfl (h := g 3) (by omega) (by decide) d_M_plainLength_48 ?_
    refine ai_i2l hx hb d_M_plainLength_49 (by omega) ?_
    refine lv_aload_n hx hb d_M_plainLength_50 rfl (lv_at hl 0 rfl) ?_
    refine va_get (D := D) (cl := CL) (ci := 10) (v := .ref (ad 4)) (C := "DayBookModel") (T := T_M) (N := 19) hx hb hts in_M hown hK hP 0 rfl rfl 5 (by decide) (hts _ k_951) (fun _ h9 => h9) rfl d_M_plainLength_51 ?_
    refine lv_iload_n hx hb d_M_plainLength_54 rfl (lv_at hl 1 rfl) ?_
    refine ai_bipush (x := 12) hx hb d_M_plainLength_55 (by decide +kernel) ?_
    refine ai_isub hx hb d_M_plainLength_57 ?_
    refine ma_ild hx hb hK hP 5 0 rfl rfl (h := g 4) (by omega) (by decide) d_M_plainLength_58 ?_
    refine ai_i2l hx hb d_M_plainLength_59 (by omega) ?_
    refine ai_lmul hx hb d_M_plainLength_60 ?_
    exact ro_lret hx hb hr hlk d_M_plainLength_61 rfl
  · skip
    refine lv_iload_n hx hb d_M_plainLength_0 rfl (lv_at hl 1 rfl) ?_
    refine lv_lookup (off := 39) (tgt := 40) hx hb d_M_plainLength_1 (by decide +kernel) (by decide +kernel) rfl ?_
    obtain ⟨o1, o2, o3, o4, o5, o6⟩ := ho (by decide)
    refine lv_aload_n hx hb d_M_plainLength_40 rfl (lv_at hl 0 rfl) ?_
    refine va_get (D := D) (cl := CL) (ci := 10) (v := .ref (ad 3)) (C := "DayBookModel") (T := T_M) (N := 19) hx hb hts in_M hown hK hP 0 rfl rfl 4 (by decide) (hts _ k_950) (fun _ h9 => h9) rfl d_M_plainLength_41 ?_
    refine lv_iload_n hx hb d_M_plainLength_44 rfl (lv_at hl 1 rfl) ?_
    refine ai_bipush (x := 12) hx hb d_M_plainLength_45 (by decide +kernel) ?_
    refine ai_isub hx hb d_M_plainLength_47 ?_
    refine ma_ild hx hb hK hP 4 0 rfl rfl (h := g 3) (by omega) (by decide) d_M_plainLength_48 ?_
    refine ai_i2l hx hb d_M_plainLength_49 (by omega) ?_
    refine lv_aload_n hx hb d_M_plainLength_50 rfl (lv_at hl 0 rfl) ?_
    refine va_get (D := D) (cl := CL) (ci := 10) (v := .ref (ad 4)) (C := "DayBookModel") (T := T_M) (N := 19) hx hb hts in_M hown hK hP 0 rfl rfl 5 (by decide) (hts _ k_951) (fun _ h9 => h9) rfl d_M_plainLength_51 ?_
    refine lv_iload_n hx hb d_M_plainLength_54 rfl (lv_at hl 1 rfl) ?_
    refine ai_bipush (x := 12) hx hb d_M_plainLength_55 (by decide +kernel) ?_
    refine ai_isub hx hb d_M_plainLength_57 ?_
    refine ma_ild hx hb hK hP 5 0 rfl rfl (h := g 4) (by omega) (by decide) d_M_plainLength_58 ?_
    refine ai_i2l hx hb d_M_plainLength_59 (by omega) ?_
    refine ai_lmul hx hb d_M_plainLength_60 ?_
    exact ro_lret hx hb hr hlk d_M_plainLength_61 rfl
set_option maxHeartbeats 4000000 in
set_option maxRecDepth 100000 in
theorem ct_M_monthsOf (l : Launch) (D : va_G) (a : Nat) (ad : Nat → Nat) (cx : Nat → ClassId) (F : Nat → Int) (g : Nat → Nat → Int) (cal : Int) (y : Int) (hcal : cal = 0 ∨ cal = 1 ∨ cal = 3 ∨ cal = 4 ∨ cal = 5 ∨ cal = 6 ∨ cal = 7 ∨ cal = 8 ∨ cal = 9 ∨ cal = 12 ∨ cal = 13) (ho : 12 ≤ cal → OwnOK g (Int.toNat (cal - 12))) (ry : -300000000 ≤ y ∧ y ≤ 300000000) : RO l y_M_monthsOf w_M_monthsOf 4 92 [.ref a, .int (iI cal), .long (iL y)] (MdB D a ad cx F g) (.int (iI (nmM g cal y))) := by
  refine ro_of (by decide +kernel) (Nat.le_of_ble_eq_true rfl) ?_
  intro p e s m below meth c ls hx hb hr hts hown hlk hml hl hN hB
  have hown : s.vm.findClass "DayBookModel" = some m.cls := hown
  have hl : lv_has ls 4 [(0, .ref a), (1, .int (iI cal)), (2, .long (iL y))] := hl
  have hF : _ ∧ _ ∧ _ ∧ _ ∧ _ ∧ _ := ⟨hx, hb, hml, hown, hts, hN⟩
  have hK := hB.1
  have hP := hB.2
  rcases hcal with rfl | rfl | rfl | rfl | rfl | rfl | rfl | rfl | rfl | rfl | rfl
  · skip
    refine lv_iload_n hx hb d_M_monthsOf_0 rfl (lv_at hl 1 rfl) ?_
    refine ai_iconst hx hb d_M_monthsOf_1 ?_
    refine ai_icmp_ge hx hb d_M_monthsOf_2 rfl (by omega) (by omega) (fun h2 => by exfalso; omega) (fun h2 => ?_)
    refine ai_bipush (x := 12) hx hb d_M_monthsOf_5 (by decide +kernel) ?_
    exact ro_iret hx hb hr hlk d_M_monthsOf_7 rfl
  · skip
    refine lv_iload_n hx hb d_M_monthsOf_0 rfl (lv_at hl 1 rfl) ?_
    refine ai_iconst hx hb d_M_monthsOf_1 ?_
    refine ai_icmp_ge hx hb d_M_monthsOf_2 rfl (by omega) (by omega) (fun h2 => by exfalso; omega) (fun h2 => ?_)
    refine ai_bipush (x := 12) hx hb d_M_monthsOf_5 (by decide +kernel) ?_
    exact ro_iret hx hb hr hlk d_M_monthsOf_7 rfl
  · skip
    refine lv_iload_n hx hb d_M_monthsOf_0 rfl (lv_at hl 1 rfl) ?_
    refine ai_iconst hx hb d_M_monthsOf_1 ?_
    refine ai_icmp_ge hx hb d_M_monthsOf_2 rfl (by omega) (by omega) (fun h2 => ?_) (fun h2 => by exfalso; omega)
    refine lv_iload_n hx hb d_M_monthsOf_8 rfl (lv_at hl 1 rfl) ?_
    refine ai_bipush (x := 9) hx hb d_M_monthsOf_9 (by decide +kernel) ?_
    refine ai_icmp_ne hx hb d_M_monthsOf_11 rfl (by omega) (by omega) (fun h11 => ?_) (fun h11 => by exfalso; omega)
    refine lv_iload_n hx hb d_M_monthsOf_32 rfl (lv_at hl 1 rfl) ?_
    refine ai_iconst hx hb d_M_monthsOf_33 ?_
    refine ai_icmp_eq hx hb d_M_monthsOf_34 rfl (by omega) (by omega) (fun h34 => by exfalso; omega) (fun h34 => ?_)
    refine lv_iload_n hx hb d_M_monthsOf_37 rfl (lv_at hl 1 rfl) ?_
    refine ai_bipush (x := 6) hx hb d_M_monthsOf_38 (by decide +kernel) ?_
    refine ai_icmp_ne hx hb d_M_monthsOf_40 rfl (by omega) (by omega) (fun h40 => ?_) (fun h40 => by exfalso; omega)
    refine lv_iload_n hx hb d_M_monthsOf_48 rfl (lv_at hl 1 rfl) ?_
    refine ai_bipush (x := 8) hx hb d_M_monthsOf_49 (by decide +kernel) ?_
    refine ai_icmp_ne hx hb d_M_monthsOf_51 rfl (by omega) (by omega) (fun h51 => ?_) (fun h51 => by exfalso; omega)
    refine lv_iload_n hx hb d_M_monthsOf_59 rfl (lv_at hl 1 rfl) ?_
    refine ai_bipush (x := 11) hx hb d_M_monthsOf_60 (by decide +kernel) ?_
    refine ai_icmp_le hx hb d_M_monthsOf_62 rfl (by omega) (by omega) (fun h62 => ?_) (fun h62 => by exfalso; omega)
    refine ai_bipush (x := 13) hx hb d_M_monthsOf_77 (by decide +kernel) ?_
    exact ro_iret hx hb hr hlk d_M_monthsOf_79 rfl
  · skip
    refine lv_iload_n hx hb d_M_monthsOf_0 rfl (lv_at hl 1 rfl) ?_
    refine ai_iconst hx hb d_M_monthsOf_1 ?_
    refine ai_icmp_ge hx hb d_M_monthsOf_2 rfl (by omega) (by omega) (fun h2 => ?_) (fun h2 => by exfalso; omega)
    refine lv_iload_n hx hb d_M_monthsOf_8 rfl (lv_at hl 1 rfl) ?_
    refine ai_bipush (x := 9) hx hb d_M_monthsOf_9 (by decide +kernel) ?_
    refine ai_icmp_ne hx hb d_M_monthsOf_11 rfl (by omega) (by omega) (fun h11 => ?_) (fun h11 => by exfalso; omega)
    refine lv_iload_n hx hb d_M_monthsOf_32 rfl (lv_at hl 1 rfl) ?_
    refine ai_iconst hx hb d_M_monthsOf_33 ?_
    refine ai_icmp_eq hx hb d_M_monthsOf_34 rfl (by omega) (by omega) (fun h34 => by exfalso; omega) (fun h34 => ?_)
    refine lv_iload_n hx hb d_M_monthsOf_37 rfl (lv_at hl 1 rfl) ?_
    refine ai_bipush (x := 6) hx hb d_M_monthsOf_38 (by decide +kernel) ?_
    refine ai_icmp_ne hx hb d_M_monthsOf_40 rfl (by omega) (by omega) (fun h40 => ?_) (fun h40 => by exfalso; omega)
    refine lv_iload_n hx hb d_M_monthsOf_48 rfl (lv_at hl 1 rfl) ?_
    refine ai_bipush (x := 8) hx hb d_M_monthsOf_49 (by decide +kernel) ?_
    refine ai_icmp_ne hx hb d_M_monthsOf_51 rfl (by omega) (by omega) (fun h51 => ?_) (fun h51 => by exfalso; omega)
    refine lv_iload_n hx hb d_M_monthsOf_59 rfl (lv_at hl 1 rfl) ?_
    refine ai_bipush (x := 11) hx hb d_M_monthsOf_60 (by decide +kernel) ?_
    refine ai_icmp_le hx hb d_M_monthsOf_62 rfl (by omega) (by omega) (fun h62 => ?_) (fun h62 => by exfalso; omega)
    refine ai_bipush (x := 13) hx hb d_M_monthsOf_77 (by decide +kernel) ?_
    exact ro_iret hx hb hr hlk d_M_monthsOf_79 rfl
  · skip
    refine lv_iload_n hx hb d_M_monthsOf_0 rfl (lv_at hl 1 rfl) ?_
    refine ai_iconst hx hb d_M_monthsOf_1 ?_
    refine ai_icmp_ge hx hb d_M_monthsOf_2 rfl (by omega) (by omega) (fun h2 => ?_) (fun h2 => by exfalso; omega)
    refine lv_iload_n hx hb d_M_monthsOf_8 rfl (lv_at hl 1 rfl) ?_
    refine ai_bipush (x := 9) hx hb d_M_monthsOf_9 (by decide +kernel) ?_
    refine ai_icmp_ne hx hb d_M_monthsOf_11 rfl (by omega) (by omega) (fun h11 => ?_) (fun h11 => by exfalso; omega)
    refine lv_iload_n hx hb d_M_monthsOf_32 rfl (lv_at hl 1 rfl) ?_
    refine ai_iconst hx hb d_M_monthsOf_33 ?_
    refine ai_icmp_eq hx hb d_M_monthsOf_34 rfl (by omega) (by omega) (fun h34 => ?_) (fun h34 => by exfalso; omega)
    refine ai_bipush (x := 12) hx hb d_M_monthsOf_43 (by decide +kernel) ?_
    refine lv_goto hx hb d_M_monthsOf_45 rfl ?_
    exact ro_iret hx hb hr hlk d_M_monthsOf_79 rfl
  · skip
    refine lv_iload_n hx hb d_M_monthsOf_0 rfl (lv_at hl 1 rfl) ?_
    refine ai_iconst hx hb d_M_monthsOf_1 ?_
    refine ai_icmp_ge hx hb d_M_monthsOf_2 rfl (by omega) (by omega) (fun h2 => ?_) (fun h2 => by exfalso; omega)
    refine lv_iload_n hx hb d_M_monthsOf_8 rfl (lv_at hl 1 rfl) ?_
    refine ai_bipush (x := 9) hx hb d_M_monthsOf_9 (by decide +kernel) ?_
    refine ai_icmp_ne hx hb d_M_monthsOf_11 rfl (by omega) (by omega) (fun h11 => ?_) (fun h11 => by exfalso; omega)
    refine lv_iload_n hx hb d_M_monthsOf_32 rfl (lv_at hl 1 rfl) ?_
    refine ai_iconst hx hb d_M_monthsOf_33 ?_
    refine ai_icmp_eq hx hb d_M_monthsOf_34 rfl (by omega) (by omega) (fun h34 => by exfalso; omega) (fun h34 => ?_)
    refine lv_iload_n hx hb d_M_monthsOf_37 rfl (lv_at hl 1 rfl) ?_
    refine ai_bipush (x := 6) hx hb d_M_monthsOf_38 (by decide +kernel) ?_
    refine ai_icmp_ne hx hb d_M_monthsOf_40 rfl (by omega) (by omega) (fun h40 => by exfalso; omega) (fun h40 => ?_)
    refine ai_bipush (x := 12) hx hb d_M_monthsOf_43 (by decide +kernel) ?_
    refine lv_goto hx hb d_M_monthsOf_45 rfl ?_
    exact ro_iret hx hb hr hlk d_M_monthsOf_79 rfl
  · skip
    refine lv_iload_n hx hb d_M_monthsOf_0 rfl (lv_at hl 1 rfl) ?_
    refine ai_iconst hx hb d_M_monthsOf_1 ?_
    refine ai_icmp_ge hx hb d_M_monthsOf_2 rfl (by omega) (by omega) (fun h2 => ?_) (fun h2 => by exfalso; omega)
    refine lv_iload_n hx hb d_M_monthsOf_8 rfl (lv_at hl 1 rfl) ?_
    refine ai_bipush (x := 9) hx hb d_M_monthsOf_9 (by decide +kernel) ?_
    refine ai_icmp_ne hx hb d_M_monthsOf_11 rfl (by omega) (by omega) (fun h11 => ?_) (fun h11 => by exfalso; omega)
    refine lv_iload_n hx hb d_M_monthsOf_32 rfl (lv_at hl 1 rfl) ?_
    refine ai_iconst hx hb d_M_monthsOf_33 ?_
    refine ai_icmp_eq hx hb d_M_monthsOf_34 rfl (by omega) (by omega) (fun h34 => by exfalso; omega) (fun h34 => ?_)
    refine lv_iload_n hx hb d_M_monthsOf_37 rfl (lv_at hl 1 rfl) ?_
    refine ai_bipush (x := 6) hx hb d_M_monthsOf_38 (by decide +kernel) ?_
    refine ai_icmp_ne hx hb d_M_monthsOf_40 rfl (by omega) (by omega) (fun h40 => ?_) (fun h40 => by exfalso; omega)
    refine lv_iload_n hx hb d_M_monthsOf_48 rfl (lv_at hl 1 rfl) ?_
    refine ai_bipush (x := 8) hx hb d_M_monthsOf_49 (by decide +kernel) ?_
    refine ai_icmp_ne hx hb d_M_monthsOf_51 rfl (by omega) (by omega) (fun h51 => ?_) (fun h51 => by exfalso; omega)
    refine lv_iload_n hx hb d_M_monthsOf_59 rfl (lv_at hl 1 rfl) ?_
    refine ai_bipush (x := 11) hx hb d_M_monthsOf_60 (by decide +kernel) ?_
    refine ai_icmp_le hx hb d_M_monthsOf_62 rfl (by omega) (by omega) (fun h62 => ?_) (fun h62 => by exfalso; omega)
    refine ai_bipush (x := 13) hx hb d_M_monthsOf_77 (by decide +kernel) ?_
    exact ro_iret hx hb hr hlk d_M_monthsOf_79 rfl
  · skip
    refine lv_iload_n hx hb d_M_monthsOf_0 rfl (lv_at hl 1 rfl) ?_
    refine ai_iconst hx hb d_M_monthsOf_1 ?_
    refine ai_icmp_ge hx hb d_M_monthsOf_2 rfl (by omega) (by omega) (fun h2 => ?_) (fun h2 => by exfalso; omega)
    refine lv_iload_n hx hb d_M_monthsOf_8 rfl (lv_at hl 1 rfl) ?_
    refine ai_bipush (x := 9) hx hb d_M_monthsOf_9 (by decide +kernel) ?_
    refine ai_icmp_ne hx hb d_M_monthsOf_11 rfl (by omega) (by omega) (fun h11 => ?_) (fun h11 => by exfalso; omega)
    refine lv_iload_n hx hb d_M_monthsOf_32 rfl (lv_at hl 1 rfl) ?_
    refine ai_iconst hx hb d_M_monthsOf_33 ?_
    refine ai_icmp_eq hx hb d_M_monthsOf_34 rfl (by omega) (by omega) (fun h34 => by exfalso; omega) (fun h34 => ?_)
    refine lv_iload_n hx hb d_M_monthsOf_37 rfl (lv_at hl 1 rfl) ?_
    refine ai_bipush (x := 6) hx hb d_M_monthsOf_38 (by decide +kernel) ?_
    refine ai_icmp_ne hx hb d_M_monthsOf_40 rfl (by omega) (by omega) (fun h40 => ?_) (fun h40 => by exfalso; omega)
    refine lv_iload_n hx hb d_M_monthsOf_48 rfl (lv_at hl 1 rfl) ?_
    refine ai_bipush (x := 8) hx hb d_M_monthsOf_49 (by decide +kernel) ?_
    refine ai_icmp_ne hx hb d_M_monthsOf_51 rfl (by omega) (by omega) (fun h51 => by exfalso; omega) (fun h51 => ?_)
    refine ai_bipush (x := 20) hx hb d_M_monthsOf_54 (by decide +kernel) ?_
    refine lv_goto hx hb d_M_monthsOf_56 rfl ?_
    exact ro_iret hx hb hr hlk d_M_monthsOf_79 rfl
  · skip
    refine lv_iload_n hx hb d_M_monthsOf_0 rfl (lv_at hl 1 rfl) ?_
    refine ai_iconst hx hb d_M_monthsOf_1 ?_
    refine ai_icmp_ge hx hb d_M_monthsOf_2 rfl (by omega) (by omega) (fun h2 => ?_) (fun h2 => by exfalso; omega)
    refine lv_iload_n hx hb d_M_monthsOf_8 rfl (lv_at hl 1 rfl) ?_
    refine ai_bipush (x := 9) hx hb d_M_monthsOf_9 (by decide +kernel) ?_
    refine ai_icmp_ne hx hb d_M_monthsOf_11 rfl (by omega) (by omega) (fun h11 => by exfalso; omega) (fun h11 => ?_)
    refine lv_aload_n hx hb d_M_monthsOf_14 rfl (lv_at hl 0 rfl) ?_
    refine ai_bipush (x := 9) hx hb d_M_monthsOf_15 (by decide +kernel) ?_
    refine lv_lload_n hx hb d_M_monthsOf_17 rfl (lv_at hl 2 rfl) ?_
    refine ro_V (rest := []) (ct_M_isLeap l D a ad cx F g 9 y (by decide) (fun h => absurd h (by decide)) (by omega)) j_M_isLeap k_917 (hts _ s_M_isLeap) hF hB.recv rfl hl.1 rfl ⟨Nat.le_of_ble_eq_true rfl, Nat.le_of_ble_eq_true rfl⟩ (Nat.le_of_ble_eq_true rfl) d_M_monthsOf_18 ⟨Nat.zero_le _, Nat.zero_le _⟩ MdB.m (fun U h1 h2 => MdB.m.2 s U h1 h2 hB) ?_
    refine ai_ifeqB hx hb d_M_monthsOf_21 rfl (fun h21 => ?_) (fun h21 => ?_)
    · skip
      refine ai_bipush (x := 12) hx hb d_M_monthsOf_29 (by decide +kernel) ?_
      exact ro_iret hx hb hr hlk d_M_monthsOf_31 (show (12 : Int) = 12 + bI (yl9 y) from by rw [bI_f (show ¬ yl9 y from h21)]; rfl)
    · skip
      refine ai_bipush (x := 13) hx hb d_M_monthsOf_24 (by decide +kernel) ?_
      refine lv_goto hx hb d_M_monthsOf_26 rfl ?_
      exact ro_iret hx hb hr hlk d_M_monthsOf_31 (show (13 : Int) = 12 + bI (yl9 y) from by rw [bI_t (show yl9 y from h21)]; rfl)
  · skip
    refine lv_iload_n hx hb d_M_monthsOf_0 rfl (lv_at hl 1 rfl) ?_
    refine ai_iconst hx hb d_M_monthsOf_1 ?_
    refine ai_icmp_ge hx hb d_M_monthsOf_2 rfl (by omega) (by omega) (fun h2 => ?_) (fun h2 => by exfalso; omega)
    refine lv_iload_n hx hb d_M_monthsOf_8 rfl (lv_at hl 1 rfl) ?_
    refine ai_bipush (x := 9) hx hb d_M_monthsOf_9 (by decide +kernel) ?_
    refine ai_icmp_ne hx hb d_M_monthsOf_11 rfl (by omega) (by omega) (fun h11 => ?_) (fun h11 => by exfalso; omega)
    refine lv_iload_n hx hb d_M_monthsOf_32 rfl (lv_at hl 1 rfl) ?_
    refine ai_iconst hx hb d_M_monthsOf_33 ?_
    refine ai_icmp_eq hx hb d_M_monthsOf_34 rfl (by omega) (by omega) (fun h34 => by exfalso; omega) (fun h34 => ?_)
    refine lv_iload_n hx hb d_M_monthsOf_37 rfl (lv_at hl 1 rfl) ?_
    refine ai_bipush (x := 6) hx hb d_M_monthsOf_38 (by decide +kernel) ?_
    refine ai_icmp_ne hx hb d_M_monthsOf_40 rfl (by omega) (by omega) (fun h40 => ?_) (fun h40 => by exfalso; omega)
    refine lv_iload_n hx hb d_M_monthsOf_48 rfl (lv_at hl 1 rfl) ?_
    refine ai_bipush (x := 8) hx hb d_M_monthsOf_49 (by decide +kernel) ?_
    refine ai_icmp_ne hx hb d_M_monthsOf_51 rfl (by omega) (by omega) (fun h51 => ?_) (fun h51 => by exfalso; omega)
    refine lv_iload_n hx hb d_M_monthsOf_59 rfl (lv_at hl 1 rfl) ?_
    refine ai_bipush (x := 11) hx hb d_M_monthsOf_60 (by decide +kernel) ?_
    refine ai_icmp_le hx hb d_M_monthsOf_62 rfl (by omega) (by omega) (fun h62 => by exfalso; omega) (fun h62 => ?_)
    refine lv_aload_n hx hb d_M_monthsOf_65 rfl (lv_at hl 0 rfl) ?_
    refine va_get (D := D) (cl := CL) (ci := 10) (v := .ref (ad 3)) (C := "DayBookModel") (T := T_M) (N := 19) hx hb hts in_M hown hK hP 0 rfl rfl 4 (by decide) (hts _ k_950) (fun _ h9 => h9) rfl d_M_monthsOf_66 ?_
    refine lv_iload_n hx hb d_M_monthsOf_69 rfl (lv_at hl 1 rfl) ?_
    refine ai_bipush (x := 12) hx hb d_M_monthsOf_70 (by decide +kernel) ?_
    refine ai_isub hx hb d_M_monthsOf_72 ?_
    refine ma_ild hx hb hK hP 4 0 rfl rfl (h := g 3) (by omega) (by decide) d_M_monthsOf_73 ?_
    refine lv_goto hx hb d_M_monthsOf_74 rfl ?_
    exact ro_iret hx hb hr hlk d_M_monthsOf_79 rfl
  · skip
    refine lv_iload_n hx hb d_M_monthsOf_0 rfl (lv_at hl 1 rfl) ?_
    refine ai_iconst hx hb d_M_monthsOf_1 ?_
    refine ai_icmp_ge hx hb d_M_monthsOf_2 rfl (by omega) (by omega) (fun h2 => ?_) (fun h2 => by exfalso; omega)
    refine lv_iload_n hx hb d_M_monthsOf_8 rfl (lv_at hl 1 rfl) ?_
    refine ai_bipush (x := 9) hx hb d_M_monthsOf_9 (by decide +kernel) ?_
    refine ai_icmp_ne hx hb d_M_monthsOf_11 rfl (by omega) (by omega) (fun h11 => ?_) (fun h11 => by exfalso; omega)
    refine lv_iload_n hx hb d_M_monthsOf_32 rfl (lv_at hl 1 rfl) ?_
    refine ai_iconst hx hb d_M_monthsOf_33 ?_
    refine ai_icmp_eq hx hb d_M_monthsOf_34 rfl (by omega) (by omega) (fun h34 => by exfalso; omega) (fun h34 => ?_)
    refine lv_iload_n hx hb d_M_monthsOf_37 rfl (lv_at hl 1 rfl) ?_
    refine ai_bipush (x := 6) hx hb d_M_monthsOf_38 (by decide +kernel) ?_
    refine ai_icmp_ne hx hb d_M_monthsOf_40 rfl (by omega) (by omega) (fun h40 => ?_) (fun h40 => by exfalso; omega)
    refine lv_iload_n hx hb d_M_monthsOf_48 rfl (lv_at hl 1 rfl) ?_
    refine ai_bipush (x := 8) hx hb d_M_monthsOf_49 (by decide +kernel) ?_
    refine ai_icmp_ne hx hb d_M_monthsOf_51 rfl (by omega) (by omega) (fun h51 => ?_) (fun h51 => by exfalso; omega)
    refine lv_iload_n hx hb d_M_monthsOf_59 rfl (lv_at hl 1 rfl) ?_
    refine ai_bipush (x := 11) hx hb d_M_monthsOf_60 (by decide +kernel) ?_
    refine ai_icmp_le hx hb d_M_monthsOf_62 rfl (by omega) (by omega) (fun h62 => by exfalso; omega) (fun h62 => ?_)
    refine lv_aload_n hx hb d_M_monthsOf_65 rfl (lv_at hl 0 rfl) ?_
    refine va_get (D := D) (cl := CL) (ci := 10) (v := .ref (ad 3)) (C := "DayBookModel") (T := T_M) (N := 19) hx hb hts in_M hown hK hP 0 rfl rfl 4 (by decide) (hts _ k_950) (fun _ h9 => h9) rfl d_M_monthsOf_66 ?_
    refine lv_iload_n hx hb d_M_monthsOf_69 rfl (lv_at hl 1 rfl) ?_
    refine ai_bipush (x := 12) hx hb d_M_monthsOf_70 (by decide +kernel) ?_
    refine ai_isub hx hb d_M_monthsOf_72 ?_
    refine ma_ild hx hb hK hP 4 0 rfl rfl (h := g 3) (by omega) (by decide) d_M_monthsOf_73 ?_
    refine lv_goto hx hb d_M_monthsOf_74 rfl ?_
    exact ro_iret hx hb hr hlk d_M_monthsOf_79 rfl
