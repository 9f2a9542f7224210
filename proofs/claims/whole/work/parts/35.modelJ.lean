/-! 35.modelJ: laid by program (wip/whole) -/
def upG (g : Nat → Nat → Int) (k i : Nat) (v : Int) : Nat → Nat → Int := fun k' => if k' = k then (fun j => if j = i then v else g k j) else g k'
section MAS
variable {p : Program} {l : Launch} {e : Env} {R : Room} {s : State} {m : MethodId} {args : Array Value} {below : List Frame} {meth : Method} {c : Code} {H H0 : Heap} {locs : List Loc} {cells slots : Nat} {Q : State → Prop} {cc : ByteArray} {pc : Nat} {ls : Array Slot} {rest : List Value} {D : va_G} {cl : List vw_C} {tys : List (ClassId × FieldType)} {ws : va_W} {A : Nat → Prop}
theorem updI_eq {h : Nat → Int} {i : Nat} {v : Int} : upd (fun j => iI (h j)) i (iI v) = fun j => iI (if j = i then v else h j) := by
  funext j
  unfold upd
  by_cases q : j = i
  · rw [if_pos q, if_pos q]
  · rw [if_neg q, if_neg q]
theorem updL_eq {h : Nat → Int} {i : Nat} {v : Int} : vp_updL (fun j => iL (h j)) i (iL v) = fun j => iL (if j = i then v else h j) := by
  funext j
  unfold vp_updL
  by_cases q : j = i
  · rw [if_pos q, if_pos q]
  · rw [if_neg q, if_neg q]
theorem iI_narC {v : Int} (h : 0 ≤ v ∧ v < 65536) : vp_nar .char (iI v) = iI v := by
  rw [vp_nar_char, ← lg_i2c_nf, iI_char, Int.emod_eq_of_lt h.1 h.2]
theorem iI_narZ {v : Int} (h : v = 0 ∨ v = 1) : vp_nar .boolean (iI v) = iI v := by
  rcases h with rfl | rfl <;> decide +kernel
theorem ma_ist (hexec : p.tables.exec = Jvm.exec) (hb : c.code = cc) (hK : va_K D cl tys s) (hP : va_P D cl ws H) (hD : va_D A ws) (hS : va_S A H0 H locs) (q0 t0 : Nat) {t : Nat} {cA : ClassId} {n : Nat} {h : Nat → Int} (ha : ws[q0]? = some (t, .inl (cA, n, .inl (fun j => iI (h j))))) (ht : tys[t0]? = some (cA, .int)) {x v : Int} (h0 : 0 ≤ x ∧ x < n) (hn : n < 2147483648) (hdg : decode cc pc = .ok (.iastore, 1)) (kk : ∀ (H1 : Heap) (locs1 : List Loc), va_P D cl (ws.set q0 (t, .inl (cA, n, .inl (fun j => iI (if j = x.toNat then v else h j))))) H1 → va_D A (ws.set q0 (t, .inl (cA, n, .inl (fun j => iI (if j = x.toNat then v else h j))))) → va_S A H0 H1 locs1 → W p l e R s m args below meth c H1 locs1 cells slots Q (F0 m (pc + 1) ls rest)) : W p l e R s m args below meth c H locs cells slots Q (F0 m pc ls (.int (iI v) :: .int (iI x) :: .ref t :: rest)) := by
  refine va_iast hexec hb hK hP hD hS q0 t0 ha ht (iI_in h0.1 h0.2 hn) hdg (fun H1 locs1 h1 h2 h3 => kk H1 locs1 ?_ ?_ h3)
  · rw [updI_eq, iI_clT h0.1 (by omega)] at h1
    exact h1
  · rw [updI_eq, iI_clT h0.1 (by omega)] at h2
    exact h2
theorem ma_cst (hexec : p.tables.exec = Jvm.exec) (hb : c.code = cc) (hK : va_K D cl tys s) (hP : va_P D cl ws H) (hD : va_D A ws) (hS : va_S A H0 H locs) (q0 t0 : Nat) {t : Nat} {cA : ClassId} {n : Nat} {h : Nat → Int} (ha : ws[q0]? = some (t, .inl (cA, n, .inl (fun j => iI (h j))))) (ht : tys[t0]? = some (cA, .char)) {x v : Int} (h0 : 0 ≤ x ∧ x < n) (hn : n < 2147483648) (hv : 0 ≤ v ∧ v < 65536) (hdg : decode cc pc = .ok (.castore, 1)) (kk : ∀ (H1 : Heap) (locs1 : List Loc), va_P D cl (ws.set q0 (t, .inl (cA, n, .inl (fun j => iI (if j = x.toNat then v else h j))))) H1 → va_D A (ws.set q0 (t, .inl (cA, n, .inl (fun j => iI (if j = x.toNat then v else h j))))) → va_S A H0 H1 locs1 → W p l e R s m args below meth c H1 locs1 cells slots Q (F0 m (pc + 1) ls rest)) : W p l e R s m args below meth c H locs cells slots Q (F0 m pc ls (.int (iI v) :: .int (iI x) :: .ref t :: rest)) := by
  refine va_cast hexec hb hK hP hD hS q0 t0 ha ht (iI_in h0.1 h0.2 hn) hdg (fun H1 locs1 h1 h2 h3 => kk H1 locs1 ?_ ?_ h3)
  · rw [iI_narC hv, updI_eq, iI_clT h0.1 (by omega)] at h1
    exact h1
  · rw [iI_narC hv, updI_eq, iI_clT h0.1 (by omega)] at h2
    exact h2
theorem ma_zst (hexec : p.tables.exec = Jvm.exec) (hb : c.code = cc) (hK : va_K D cl tys s) (hP : va_P D cl ws H) (hD : va_D A ws) (hS : va_S A H0 H locs) (q0 t0 : Nat) {t : Nat} {cA : ClassId} {n : Nat} {h : Nat → Int} (ha : ws[q0]? = some (t, .inl (cA, n, .inl (fun j => iI (h j))))) (ht : tys[t0]? = some (cA, .boolean)) {x v : Int} (h0 : 0 ≤ x ∧ x < n) (hn : n < 2147483648) (hv : v = 0 ∨ v = 1) (hdg : decode cc pc = .ok (.bastore, 1)) (kk : ∀ (H1 : Heap) (locs1 : List Loc), va_P D cl (ws.set q0 (t, .inl (cA, n, .inl (fun j => iI (if j = x.toNat then v else h j))))) H1 → va_D A (ws.set q0 (t, .inl (cA, n, .inl (fun j => iI (if j = x.toNat then v else h j))))) → va_S A H0 H1 locs1 → W p l e R s m args below meth c H1 locs1 cells slots Q (F0 m (pc + 1) ls rest)) : W p l e R s m args below meth c H locs cells slots Q (F0 m pc ls (.int (iI v) :: .int (iI x) :: .ref t :: rest)) := by
  refine va_zast hexec hb hK hP hD hS q0 t0 ha ht (iI_in h0.1 h0.2 hn) hdg (fun H1 locs1 h1 h2 h3 => kk H1 locs1 ?_ ?_ h3)
  · rw [iI_narZ hv, updI_eq, iI_clT h0.1 (by omega)] at h1
    exact h1
  · rw [iI_narZ hv, updI_eq, iI_clT h0.1 (by omega)] at h2
    exact h2
theorem ma_lst (hexec : p.tables.exec = Jvm.exec) (hb : c.code = cc) (hK : va_K D cl tys s) (hP : va_P D cl ws H) (hD : va_D A ws) (hS : va_S A H0 H locs) (q0 t0 : Nat) {t : Nat} {cA : ClassId} {n : Nat} {h : Nat → Int} (ha : ws[q0]? = some (t, .inl (cA, n, .inr (.inl (fun j => iL (h j)))))) (ht : tys[t0]? = some (cA, .long)) {x v : Int} (h0 : 0 ≤ x ∧ x < n) (hn : n < 2147483648) (hdg : decode cc pc = .ok (.lastore, 1)) (kk : ∀ (H1 : Heap) (locs1 : List Loc), va_P D cl (ws.set q0 (t, .inl (cA, n, .inr (.inl (fun j => iL (if j = x.toNat then v else h j)))))) H1 → va_D A (ws.set q0 (t, .inl (cA, n, .inr (.inl (fun j => iL (if j = x.toNat then v else h j)))))) → va_S A H0 H1 locs1 → W p l e R s m args below meth c H1 locs1 cells slots Q (F0 m (pc + 1) ls rest)) : W p l e R s m args below meth c H locs cells slots Q (F0 m pc ls (.long (iL v) :: .int (iI x) :: .ref t :: rest)) := by
  refine va_last hexec hb hK hP hD hS q0 t0 ha ht (iI_in h0.1 h0.2 hn) hdg (fun H1 locs1 h1 h2 h3 => kk H1 locs1 ?_ ?_ h3)
  · rw [updL_eq, iI_clT h0.1 (by omega)] at h1
    exact h1
  · rw [updL_eq, iI_clT h0.1 (by omega)] at h2
    exact h2
end MAS
section MWC
variable {p : Program} {l : Launch} {e : Env} {R : Room} {s : State} {m : MethodId} {args : Array Value} {below : List Frame} {meth : Method} {c : Code} {H : Heap} {locs : List Loc} {cells slots : Nat} {Q : State → Prop} {cc : ByteArray} {pc : Nat} {ls : Array Slot} {D : va_G} {a : Nat} {ad : Nat → Nat} {cx : Nat → ClassId} {F : Nat → Int} {g : Nat → Nat → Int} {Φ : Ms → Prop}
theorem mw_cret {x z : Int} (hexec : p.tables.exec = Jvm.exec) (hb : c.code = cc) (hr : meth.sig.returnType = some .char) (hlocks : meth.locks = false) (hdg : decode cc pc = .ok (.ireturn, 1)) (hP : va_P D CL (MWs a ad cx F g) H) (hS : va_S (Ain a ad) s.heap H locs) (hc : 0 ≤ x ∧ x < 65536) (hx : x = z) (h : Φ (F, g)) :
    W p l e R s m args below meth c H locs 0 0 (MQ below (QMi D a ad cx z Φ) args s 0 0 (Ain a ad)) (F0 m pc ls [.int (iI x)]) :=
  W.zret (v := iI x) hexec hb hr (by obtain ⟨n, rfl⟩ := Int.eq_ofNat_of_zero_le hc.1; rw [iI_nI]; exact (pk_charN (by omega)).1) (fun t ht _ => ⟨⟨iI x, (F, g), rfl, ⟨by rw [hx], h⟩, by show va_P D CL (MWs a ad cx F g) t.heap; rw [ht]; exact hP⟩, hS.F ht⟩) hS.2.2 hdg hlocks
end MWC
def gdM (pl ot t : Int) : Prop := (-40000000 ≤ t ∧ t ≤ 40000000) ∧ (t + 1137490) % 365 = pl ∧ (t + 1137302) % 260 = ot
def MTM (pl ot d x : Int) : Prop := (¬ ((0 ≤ pl ∧ pl ≤ 364) ∧ (0 ≤ ot ∧ ot ≤ 259) ∧ (-40000000 ≤ d ∧ d ≤ 40000000)) ∧ x = -2147483648) ∨ (((0 ≤ pl ∧ pl ≤ 364) ∧ (0 ≤ ot ∧ ot ≤ 259) ∧ (-40000000 ≤ d ∧ d ≤ 40000000)) ∧ ((∃ k : Int, (0 ≤ k ∧ k < 18980) ∧ gdM pl ot (d - k) ∧ (∀ j : Int, 0 ≤ j → j < k → ¬ gdM pl ot (d - j)) ∧ x = d - k) ∨ ((∀ k : Int, 0 ≤ k → k < 18980 → ¬ gdM pl ot (d - k)) ∧ x = -2147483648)))
set_option maxHeartbeats 4000000 in
set_option maxRecDepth 100000 in
theorem ct_M_meeting (l : Launch) (D : va_G) (a : Nat) (ad : Nat → Nat) (cx : Nat → ClassId) (F : Nat → Int) (g : Nat → Nat → Int) (pl : Int) (ot : Int) (d : Int) (x : Int) (rp : -2147483648 ≤ pl ∧ pl ≤ 2147483647) (ro : -2147483648 ≤ ot ∧ ot ≤ 2147483647) (rd : -2147483648 ≤ d ∧ d ≤ 2147483647) (hmt : MTM pl ot d x) : MW l y_M_meeting w_M_meeting 2 48 [.ref a, .int (iI pl), .int (iI ot), .int (iI d)] D a ad cx F g (QMi D a ad cx x (fun u => u = (upF F 0 0, g))) := by
  refine mw_of (by decide +kernel) (Nat.le_of_ble_eq_true rfl) ?_
  intro p e s m below meth c ls hx hb hr hts hown hlk hml hl hN hK hP hD
  have hown : s.vm.findClass "DayBookModel" = some m.cls := hown
  have hl : lv_has ls 7 [(0, .ref a), (1, .int (iI pl)), (2, .int (iI ot)), (3, .int (iI d))] := hl
  have hF : _ ∧ _ ∧ _ ∧ _ ∧ _ ∧ _ := ⟨hx, hb, hml, hown, hts, hN⟩
  have hS : va_S (Ain a ad) s.heap s.heap [] := va_S.rf
  have hJ41 : ∀ (N : Nat) (H : Heap) (locs : List Loc) (kk : Int) (ls : Array Slot), va_P D CL (MWs a ad cx (upF F 0 0) g) H → va_S (Ain a ad) s.heap H locs → lv_has ls 7 [(4, .int (iI kk)), (0, .ref a), (1, .int (iI pl)), (2, .int (iI ot)), (3, .int (iI d))] → ((∃ k : Int, (0 ≤ k ∧ k < 18980) ∧ gdM pl ot (d - k) ∧ (∀ j : Int, 0 ≤ j → j < k → ¬ gdM pl ot (d - j)) ∧ x = d - k) ∨ ((∀ k : Int, 0 ≤ k → k < 18980 → ¬ gdM pl ot (d - k)) ∧ x = -2147483648)) → ((0 ≤ pl ∧ pl ≤ 364) ∧ (0 ≤ ot ∧ ot ≤ 259) ∧ (-40000000 ≤ d ∧ d ≤ 40000000)) → (0 ≤ kk ∧ kk ≤ 18980) → (∀ j : Int, 0 ≤ j → j < kk → ¬ gdM pl ot (d - j)) → (18980 - kk).toNat < N → W p l e (headSpec w_M_meeting ({ frames := 2, cells := 0, slots := 0, locals := 48 })).room s m [.ref a, .int (iI pl), .int (iI ot), .int (iI d)].toArray below meth c H locs 0 0 (MQ below (QMi D a ad cx x (fun u => u = (upF F 0 0, g))) [.ref a, .int (iI pl), .int (iI ot), .int (iI d)].toArray s 0 0 (Ain a ad)) (F0 m 41 ls []) := by
    intro N
    induction N with
    | zero => intro _ _ _ _ _ _ _ _ _ _ _ hm; exact absurd hm (Nat.not_lt_zero _)
    | succ N ih =>
      intro H locs kk ls hP hS hl hmt hin i1 i2 hm
      have hD : va_D (Ain a ad) (MWs a ad cx (upF F 0 0) g) := MD.any hD
      refine lv_iload hx hb d_M_meeting_41 (lv_at hl 0 rfl) ?_
      refine ai_sipush (x := 18980) hx hb d_M_meeting_43 (by decide +kernel) ?_
      refine ai_icmp_ge hx hb d_M_meeting_46 rfl (by omega) (by omega) (fun h46 => ?_) (fun h46 => ?_)
      · skip
        refine ai_ldc (x := -2147483648) hx hb hown (hts _ k_906) (by decide +kernel) d_M_meeting_111 ?_
        exact mw_iret hx hb hr hlk d_M_meeting_113 hP hS (by rcases hmt with ⟨k, k1, k2, k3, k4⟩ | ⟨-, q⟩; exact absurd k2 (i2 k (by omega) (by omega)); exact q.symm) rfl
      · skip
        refine lv_iload_n hx hb d_M_meeting_49 rfl (lv_at hl 4 rfl) ?_
        refine ai_i2l hx hb d_M_meeting_50 (by omega) ?_
        refine lv_iload hx hb d_M_meeting_51 (lv_at hl 0 rfl) ?_
        refine ai_i2l hx hb d_M_meeting_53 (by omega) ?_
        refine ai_lsub hx hb d_M_meeting_54 ?_
        refine ai_nmL hx hb (fun v55 e55 => ?_)
        refine lv_lstore (lv' := [(5, .long (iL v55)), (4, .int (iI kk)), (0, .ref a), (1, .int (iI pl)), (2, .int (iI ot)), (3, .int (iI d))]) hx hb d_M_meeting_55 hl (by decide) rfl (fun ls hl => ?_)
        refine lv_lload hx hb d_M_meeting_57 (lv_at hl 0 rfl) ?_
        refine ro_S (rest := []) (ct_M_inRange l v55 (by omega)) j_M_inRange k_1025 hF rfl hl.1 rfl ⟨Nat.le_of_ble_eq_true rfl, Nat.le_of_ble_eq_true rfl⟩ (Nat.le_of_ble_eq_true rfl) d_M_meeting_59 ⟨Nat.zero_le _, Nat.zero_le _⟩ Bm_true (fun _ _ _ => trivial) ?_
        refine ai_ifeqB hx hb d_M_meeting_62 rfl (fun h62 => ?_) (fun h62 => ?_)
        · skip
          refine ai_iinc (k := 1) (lv' := [(4, .int (iI (kk + 1))), (5, .long (iL v55)), (0, .ref a), (1, .int (iI pl)), (2, .int (iI ot)), (3, .int (iI d))]) hx hb d_M_meeting_105 hl rfl (by decide) rfl (fun ls hl => ?_)
          refine lv_goto hx hb d_M_meeting_108 rfl ?_
          exact ih _ _ (kk + 1) _ hP hS (lv_sub hl [0, 2, 3, 4, 5] rfl) hmt (by omega) (by omega) (fun j h1 h2 => by by_cases z : j = kk; (subst z; intro q; obtain ⟨q1, q2, q3⟩ := q; first | exact h62 (by omega) | omega); exact i2 j h1 (by omega)) (by omega)
        · skip
          refine lv_lload hx hb d_M_meeting_65 (lv_at hl 0 rfl) ?_
          refine ai_ldc2 (x := 1137490) hx hb hown (hts _ k_1163) (by decide +kernel) d_M_meeting_67 ?_
          refine ai_ladd hx hb d_M_meeting_70 ?_
          refine ai_ldc2 (x := 365) hx hb hown (hts _ k_916) (by decide +kernel) d_M_meeting_71 ?_
          refine ro_S (rest := []) (ct_M_mod l (v55 + 1137490) 365 (by omega) (by omega)) j_M_mod k_925 hF rfl hl.1 rfl ⟨Nat.le_of_ble_eq_true rfl, Nat.le_of_ble_eq_true rfl⟩ (Nat.le_of_ble_eq_true rfl) d_M_meeting_74 ⟨Nat.zero_le _, Nat.zero_le _⟩ Bm_true (fun _ _ _ => trivial) ?_
          refine lv_iload_n hx hb d_M_meeting_77 rfl (lv_at hl 3 rfl) ?_
          refine ai_i2l hx hb d_M_meeting_78 (by omega) ?_
          refine ai_lcmp_ne hx hb d_M_meeting_79 d_M_meeting_80 rfl (by omega) (by omega) (fun h79 => ?_) (fun h79 => ?_)
          · skip
            refine ai_iinc (k := 1) (lv' := [(4, .int (iI (kk + 1))), (5, .long (iL v55)), (0, .ref a), (1, .int (iI pl)), (2, .int (iI ot)), (3, .int (iI d))]) hx hb d_M_meeting_105 hl rfl (by decide) rfl (fun ls hl => ?_)
            refine lv_goto hx hb d_M_meeting_108 rfl ?_
            exact ih _ _ (kk + 1) _ hP hS (lv_sub hl [0, 2, 3, 4, 5] rfl) hmt (by omega) (by omega) (fun j h1 h2 => by by_cases z : j = kk; (subst z; intro q; obtain ⟨q1, q2, q3⟩ := q; first | exact h62 (by omega) | omega); exact i2 j h1 (by omega)) (by omega)
          · skip
            refine lv_lload hx hb d_M_meeting_83 (lv_at hl 0 rfl) ?_
            refine ai_ldc2 (x := 1137302) hx hb hown (hts _ k_1165) (by decide +kernel) d_M_meeting_85 ?_
            refine ai_ladd hx hb d_M_meeting_88 ?_
            refine ai_ldc2 (x := 260) hx hb hown (hts _ k_1166) (by decide +kernel) d_M_meeting_89 ?_
            refine ro_S (rest := []) (ct_M_mod l (v55 + 1137302) 260 (by omega) (by omega)) j_M_mod k_925 hF rfl hl.1 rfl ⟨Nat.le_of_ble_eq_true rfl, Nat.le_of_ble_eq_true rfl⟩ (Nat.le_of_ble_eq_true rfl) d_M_meeting_92 ⟨Nat.zero_le _, Nat.zero_le _⟩ Bm_true (fun _ _ _ => trivial) ?_
            refine lv_iload_n hx hb d_M_meeting_95 rfl (lv_at hl 4 rfl) ?_
            refine ai_i2l hx hb d_M_meeting_96 (by omega) ?_
            refine ai_lcmp_ne hx hb d_M_meeting_97 d_M_meeting_98 rfl (by omega) (by omega) (fun h97 => ?_) (fun h97 => ?_)
            · skip
              refine ai_iinc (k := 1) (lv' := [(4, .int (iI (kk + 1))), (5, .long (iL v55)), (0, .ref a), (1, .int (iI pl)), (2, .int (iI ot)), (3, .int (iI d))]) hx hb d_M_meeting_105 hl rfl (by decide) rfl (fun ls hl => ?_)
              refine lv_goto hx hb d_M_meeting_108 rfl ?_
              exact ih _ _ (kk + 1) _ hP hS (lv_sub hl [0, 2, 3, 4, 5] rfl) hmt (by omega) (by omega) (fun j h1 h2 => by by_cases z : j = kk; (subst z; intro q; obtain ⟨q1, q2, q3⟩ := q; first | exact h62 (by omega) | omega); exact i2 j h1 (by omega)) (by omega)
            · skip
              refine lv_lload hx hb d_M_meeting_101 (lv_at hl 0 rfl) ?_
              refine ai_l2i hx hb d_M_meeting_103 ?_
              exact mw_iret hx hb hr hlk d_M_meeting_104 hP hS (by have hg : gdM pl ot (d - kk) := ⟨by omega, by omega, by omega⟩; rcases hmt with ⟨k, k1, k2, k3, k4⟩ | ⟨q, -⟩; (by_cases z : k < kk; exact absurd k2 (i2 k (by omega) z); by_cases z2 : kk < k; exact absurd hg (k3 kk (by omega) z2); omega); exact absurd hg (q kk (by omega) (by omega))) rfl
  refine lv_aload_n hx hb d_M_meeting_0 rfl (lv_at hl 0 rfl) ?_
  refine ai_iconst hx hb d_M_meeting_1 ?_
  refine va_put (D := D) (cl := CL) (ci := 10) (v := .int (iI 0)) (ty := .int) (C := "DayBookModel") (T := T_M) (N := 19) hx hb hts in_M ty_M ty_M_ok nm_M hown hK hP hD hS 0 rfl rfl 0 (by decide) (hts _ k_946) (fun _ h9 => h9) rfl (by decide +kernel) rfl rfl (Nat.le_of_ble_eq_true rfl) d_M_meeting_2 (fun H locs hP hD hS => ?_)
  have hP : va_P D CL (MWs a ad cx (upF F 0 0) g) H := hP
  have hD : va_D (Ain a ad) (MWs a ad cx (upF F 0 0) g) := hD
  refine lv_iload_n hx hb d_M_meeting_5 rfl (lv_at hl 1 rfl) ?_
  refine ai_if_lt hx hb d_M_meeting_6 rfl (by omega) (fun h6 => ?_) (fun h6 => ?_)
  · skip
    obtain ex : x = -2147483648 := by rcases hmt with ⟨-, q⟩ | ⟨q, -⟩; exact q; omega
    refine ai_ldc (x := -2147483648) hx hb hown (hts _ k_906) (by decide +kernel) d_M_meeting_35 ?_
    exact mw_iret hx hb hr hlk d_M_meeting_37 hP hS ex.symm rfl
  · skip
    refine lv_iload_n hx hb d_M_meeting_9 rfl (lv_at hl 1 rfl) ?_
    refine ai_sipush (x := 364) hx hb d_M_meeting_10 (by decide +kernel) ?_
    refine ai_icmp_gt hx hb d_M_meeting_13 rfl (by omega) (by omega) (fun h13 => ?_) (fun h13 => ?_)
    · skip
      obtain ex : x = -2147483648 := by rcases hmt with ⟨-, q⟩ | ⟨q, -⟩; exact q; omega
      refine ai_ldc (x := -2147483648) hx hb hown (hts _ k_906) (by decide +kernel) d_M_meeting_35 ?_
      exact mw_iret hx hb hr hlk d_M_meeting_37 hP hS ex.symm rfl
    · skip
      refine lv_iload_n hx hb d_M_meeting_16 rfl (lv_at hl 2 rfl) ?_
      refine ai_if_lt hx hb d_M_meeting_17 rfl (by omega) (fun h17 => ?_) (fun h17 => ?_)
      · skip
        obtain ex : x = -2147483648 := by rcases hmt with ⟨-, q⟩ | ⟨q, -⟩; exact q; omega
        refine ai_ldc (x := -2147483648) hx hb hown (hts _ k_906) (by decide +kernel) d_M_meeting_35 ?_
        exact mw_iret hx hb hr hlk d_M_meeting_37 hP hS ex.symm rfl
      · skip
        refine lv_iload_n hx hb d_M_meeting_20 rfl (lv_at hl 2 rfl) ?_
        refine ai_sipush (x := 259) hx hb d_M_meeting_21 (by decide +kernel) ?_
        refine ai_icmp_gt hx hb d_M_meeting_24 rfl (by omega) (by omega) (fun h24 => ?_) (fun h24 => ?_)
        · skip
          obtain ex : x = -2147483648 := by rcases hmt with ⟨-, q⟩ | ⟨q, -⟩; exact q; omega
          refine ai_ldc (x := -2147483648) hx hb hown (hts _ k_906) (by decide +kernel) d_M_meeting_35 ?_
          exact mw_iret hx hb hr hlk d_M_meeting_37 hP hS ex.symm rfl
        · skip
          refine lv_iload_n hx hb d_M_meeting_27 rfl (lv_at hl 3 rfl) ?_
          refine ai_i2l hx hb d_M_meeting_28 (by omega) ?_
          refine ro_S (rest := []) (ct_M_inRange l d (by omega)) j_M_inRange k_1025 hF rfl hl.1 rfl ⟨Nat.le_of_ble_eq_true rfl, Nat.le_of_ble_eq_true rfl⟩ (Nat.le_of_ble_eq_true rfl) d_M_meeting_29 ⟨Nat.zero_le _, Nat.zero_le _⟩ Bm_true (fun _ _ _ => trivial) ?_
          refine ai_ifneB hx hb d_M_meeting_32 rfl (fun h32 => ?_) (fun h32 => ?_)
          · skip
            replace hmt := (hmt.resolve_left (fun q => q.1 (by omega))).2
            refine ai_iconst hx hb d_M_meeting_38 ?_
            refine lv_istore (lv' := [(4, .int (iI 0)), (0, .ref a), (1, .int (iI pl)), (2, .int (iI ot)), (3, .int (iI d))]) hx hb d_M_meeting_39 hl (by decide) rfl (fun ls hl => ?_)
            exact hJ41 _ _ _ 0 _ hP hS (lv_sub hl [0, 1, 2, 3, 4] rfl) hmt (by omega) (by omega) (fun j h1 h2 => absurd h2 (by omega)) (Nat.lt_succ_self _)
          · skip
            obtain ex : x = -2147483648 := by rcases hmt with ⟨-, q⟩ | ⟨q, -⟩; exact q; omega
            refine ai_ldc (x := -2147483648) hx hb hown (hts _ k_906) (by decide +kernel) d_M_meeting_35 ?_
            exact mw_iret hx hb hr hlk d_M_meeting_37 hP hS ex.symm rfl
set_option maxHeartbeats 4000000 in
set_option maxRecDepth 100000 in
theorem ct_M_wipe (l : Launch) (D : va_G) (a : Nat) (ad : Nat → Nat) (cx : Nat → ClassId) (F : Nat → Int) (g : Nat → Nat → Int)  : MW l y_M_wipe w_M_wipe 0 0 [.ref a] D a ad cx F g (QMi D a ad cx (F 8) (fun u => u = (upF (upF F 0 0) 8 0, g))) := by
  refine mw_of (by decide +kernel) (Nat.le_of_ble_eq_true rfl) ?_
  intro p e s m below meth c ls hx hb hr hts hown hlk hml hl hN hK hP hD
  have hown : s.vm.findClass "DayBookModel" = some m.cls := hown
  have hl : lv_has ls 2 [(0, .ref a)] := hl
  have hF : _ ∧ _ ∧ _ ∧ _ ∧ _ ∧ _ := ⟨hx, hb, hml, hown, hts, hN⟩
  have hS : va_S (Ain a ad) s.heap s.heap [] := va_S.rf
  refine lv_aload_n hx hb d_M_wipe_0 rfl (lv_at hl 0 rfl) ?_
  refine ai_iconst hx hb d_M_wipe_1 ?_
  refine va_put (D := D) (cl := CL) (ci := 10) (v := .int (iI 0)) (ty := .int) (C := "DayBookModel") (T := T_M) (N := 19) hx hb hts in_M ty_M ty_M_ok nm_M hown hK hP hD hS 0 rfl rfl 0 (by decide) (hts _ k_946) (fun _ h9 => h9) rfl (by decide +kernel) rfl rfl (Nat.le_of_ble_eq_true rfl) d_M_wipe_2 (fun H locs hP hD hS => ?_)
  have hP : va_P D CL (MWs a ad cx (upF F 0 0) g) H := hP
  have hD : va_D (Ain a ad) (MWs a ad cx (upF F 0 0) g) := hD
  refine lv_aload_n hx hb d_M_wipe_5 rfl (lv_at hl 0 rfl) ?_
  refine va_get (D := D) (cl := CL) (ci := 10) (v := .int (iI (F 8))) (C := "DayBookModel") (T := T_M) (N := 19) hx hb hts in_M hown hK hP 0 rfl rfl 17 (by decide) (hts _ k_963) (fun _ h9 => h9) rfl d_M_wipe_6 ?_
  refine ai_nmI hx hb (fun v9 e9 => ?_)
  refine lv_istore_n (lv' := [(1, .int (iI v9)), (0, .ref a)]) hx hb d_M_wipe_9 rfl hl (by decide) rfl (fun ls hl => ?_)
  refine lv_aload_n hx hb d_M_wipe_10 rfl (lv_at hl 1 rfl) ?_
  refine ai_iconst hx hb d_M_wipe_11 ?_
  refine va_put (D := D) (cl := CL) (ci := 10) (v := .int (iI 0)) (ty := .int) (C := "DayBookModel") (T := T_M) (N := 19) hx hb hts in_M ty_M ty_M_ok nm_M hown hK hP hD hS 0 rfl rfl 17 (by decide) (hts _ k_963) (fun _ h9 => h9) rfl (by decide +kernel) rfl rfl (Nat.le_of_ble_eq_true rfl) d_M_wipe_12 (fun H locs hP hD hS => ?_)
  have hP : va_P D CL (MWs a ad cx (upF (upF F 0 0) 8 0) g) H := hP
  have hD : va_D (Ain a ad) (MWs a ad cx (upF (upF F 0 0) 8 0) g) := hD
  refine lv_iload_n hx hb d_M_wipe_15 rfl (lv_at hl 0 rfl) ?_
  exact mw_iret hx hb hr hlk d_M_wipe_16 hP hS (by omega) rfl
set_option maxHeartbeats 4000000 in
set_option maxRecDepth 100000 in
theorem ct_M_type (l : Launch) (D : va_G) (a : Nat) (ad : Nat → Nat) (cx : Nat → ClassId) (F : Nat → Int) (g : Nat → Nat → Int) (ch : Int) (rch : 0 ≤ ch ∧ ch < 65536) (rz : 0 ≤ F 8 ∧ F 8 ≤ 24) : MW l y_M_type w_M_type 0 0 [.ref a, .int (iI ch)] D a ad cx F g (QMi D a ad cx (bI (((48 ≤ ch ∧ ch ≤ 57) ∨ ch = 45 ∨ ch = 47) ∧ F 8 ≠ 24)) (fun u => ((((48 ≤ ch ∧ ch ≤ 57) ∨ ch = 45 ∨ ch = 47) ∧ F 8 ≠ 24) → u = (upF (upF F 0 0) 8 (F 8 + 1), upG g 9 (Int.toNat (F 8)) ch)) ∧ (¬ (((48 ≤ ch ∧ ch ≤ 57) ∨ ch = 45 ∨ ch = 47) ∧ F 8 ≠ 24) → u = (upF F 0 0, g)))) := by
  refine mw_of (by decide +kernel) (Nat.le_of_ble_eq_true rfl) ?_
  intro p e s m below meth c ls hx hb hr hts hown hlk hml hl hN hK hP hD
  have hown : s.vm.findClass "DayBookModel" = some m.cls := hown
  have hl : lv_has ls 2 [(0, .ref a), (1, .int (iI ch))] := hl
  have hF : _ ∧ _ ∧ _ ∧ _ ∧ _ ∧ _ := ⟨hx, hb, hml, hown, hts, hN⟩
  have hS : va_S (Ain a ad) s.heap s.heap [] := va_S.rf
  refine lv_aload_n hx hb d_M_type_0 rfl (lv_at hl 0 rfl) ?_
  refine ai_iconst hx hb d_M_type_1 ?_
  refine va_put (D := D) (cl := CL) (ci := 10) (v := .int (iI 0)) (ty := .int) (C := "DayBookModel") (T := T_M) (N := 19) hx hb hts in_M ty_M ty_M_ok nm_M hown hK hP hD hS 0 rfl rfl 0 (by decide) (hts _ k_946) (fun _ h9 => h9) rfl (by decide +kernel) rfl rfl (Nat.le_of_ble_eq_true rfl) d_M_type_2 (fun H locs hP hD hS => ?_)
  have hP : va_P D CL (MWs a ad cx (upF F 0 0) g) H := hP
  have hD : va_D (Ain a ad) (MWs a ad cx (upF F 0 0) g) := hD
  refine lv_iload_n hx hb d_M_type_5 rfl (lv_at hl 1 rfl) ?_
  refine ai_bipush (x := 48) hx hb d_M_type_6 (by decide +kernel) ?_
  refine ai_icmp_lt hx hb d_M_type_8 rfl (by omega) (by omega) (fun h8 => ?_) (fun h8 => ?_)
  · skip
    refine lv_iload_n hx hb d_M_type_17 rfl (lv_at hl 1 rfl) ?_
    refine ai_bipush (x := 45) hx hb d_M_type_18 (by decide +kernel) ?_
    refine ai_icmp_eq hx hb d_M_type_20 rfl (by omega) (by omega) (fun h20 => ?_) (fun h20 => ?_)
    · skip
      refine lv_aload_n hx hb d_M_type_29 rfl (lv_at hl 0 rfl) ?_
      refine va_get (D := D) (cl := CL) (ci := 10) (v := .int (iI (F 8))) (C := "DayBookModel") (T := T_M) (N := 19) hx hb hts in_M hown hK hP 0 rfl rfl 17 (by decide) (hts _ k_963) (fun _ h9 => h9) rfl d_M_type_30 ?_
      refine ai_bipush (x := 24) hx hb d_M_type_33 (by decide +kernel) ?_
      refine ai_icmp_ne hx hb d_M_type_35 rfl (by omega) (by omega) (fun h35 => ?_) (fun h35 => ?_)
      · skip
        refine lv_aload_n hx hb d_M_type_40 rfl (lv_at hl 0 rfl) ?_
        refine va_get (D := D) (cl := CL) (ci := 10) (v := .ref (ad 9)) (C := "DayBookModel") (T := T_M) (N := 19) hx hb hts in_M hown hK hP 0 rfl rfl 18 (by decide) (hts _ k_964) (fun _ h9 => h9) rfl d_M_type_41 ?_
        refine lv_aload_n hx hb d_M_type_44 rfl (lv_at hl 0 rfl) ?_
        refine va_get (D := D) (cl := CL) (ci := 10) (v := .int (iI (F 8))) (C := "DayBookModel") (T := T_M) (N := 19) hx hb hts in_M hown hK hP 0 rfl rfl 17 (by decide) (hts _ k_963) (fun _ h9 => h9) rfl d_M_type_45 ?_
        refine lv_iload_n hx hb d_M_type_48 rfl (lv_at hl 1 rfl) ?_
        refine ma_cst hx hb hK hP hD hS 10 3 rfl rfl (h := g 9) (v := ch) (by omega) (by decide) (by omega) d_M_type_49 (fun H locs hP hD hS => ?_)
        have hP : va_P D CL (MWs a ad cx (upF F 0 0) (upG g 9 (Int.toNat (F 8)) ch)) H := hP
        have hD : va_D (Ain a ad) (MWs a ad cx (upF F 0 0) (upG g 9 (Int.toNat (F 8)) ch)) := hD
        refine lv_aload_n hx hb d_M_type_50 rfl (lv_at hl 0 rfl) ?_
        refine lv_dup hx hb d_M_type_51 rfl ?_
        refine va_get (D := D) (cl := CL) (ci := 10) (v := .int (iI (F 8))) (C := "DayBookModel") (T := T_M) (N := 19) hx hb hts in_M hown hK hP 0 rfl rfl 17 (by decide) (hts _ k_963) (fun _ h9 => h9) rfl d_M_type_52 ?_
        refine ai_iconst hx hb d_M_type_55 ?_
        refine ai_iadd hx hb d_M_type_56 ?_
        refine ai_nmI hx hb (fun v57 e57 => ?_)
        refine va_put (D := D) (cl := CL) (ci := 10) (v := .int (iI v57)) (ty := .int) (C := "DayBookModel") (T := T_M) (N := 19) hx hb hts in_M ty_M ty_M_ok nm_M hown hK hP hD hS 0 rfl rfl 17 (by decide) (hts _ k_963) (fun _ h9 => h9) rfl (by decide +kernel) rfl rfl (Nat.le_of_ble_eq_true rfl) d_M_type_57 (fun H locs hP hD hS => ?_)
        have hP : va_P D CL (MWs a ad cx (upF (upF F 0 0) 8 v57) (upG g 9 (Int.toNat (F 8)) ch)) H := hP
        have hD : va_D (Ain a ad) (MWs a ad cx (upF (upF F 0 0) 8 v57) (upG g 9 (Int.toNat (F 8)) ch)) := hD
        refine ai_iconst hx hb d_M_type_60 ?_
        exact mw_zret hx hb hr hlk d_M_type_61 hP hS (ro_1 (by omega) rfl) ⟨fun _ => (by rw [← e57]), fun q => absurd (by omega) q⟩
      · skip
        refine ai_iconst hx hb d_M_type_38 ?_
        exact mw_zret hx hb hr hlk d_M_type_39 hP hS (ro_0 (by omega) rfl) ⟨fun q => absurd q (by omega), fun _ => rfl⟩
    · skip
      refine lv_iload_n hx hb d_M_type_23 rfl (lv_at hl 1 rfl) ?_
      refine ai_bipush (x := 47) hx hb d_M_type_24 (by decide +kernel) ?_
      refine ai_icmp_ne hx hb d_M_type_26 rfl (by omega) (by omega) (fun h26 => ?_) (fun h26 => ?_)
      · skip
        refine ai_iconst hx hb d_M_type_38 ?_
        exact mw_zret hx hb hr hlk d_M_type_39 hP hS (ro_0 (by omega) rfl) ⟨fun q => absurd q (by omega), fun _ => rfl⟩
      · skip
        refine lv_aload_n hx hb d_M_type_29 rfl (lv_at hl 0 rfl) ?_
        refine va_get (D := D) (cl := CL) (ci := 10) (v := .int (iI (F 8))) (C := "DayBookModel") (T := T_M) (N := 19) hx hb hts in_M hown hK hP 0 rfl rfl 17 (by decide) (hts _ k_963) (fun _ h9 => h9) rfl d_M_type_30 ?_
        refine ai_bipush (x := 24) hx hb d_M_type_33 (by decide +kernel) ?_
        refine ai_icmp_ne hx hb d_M_type_35 rfl (by omega) (by omega) (fun h35 => ?_) (fun h35 => ?_)
        · skip
          refine lv_aload_n hx hb d_M_type_40 rfl (lv_at hl 0 rfl) ?_
          refine va_get (D := D) (cl := CL) (ci := 10) (v := .ref (ad 9)) (C := "DayBookModel") (T := T_M) (N := 19) hx hb hts in_M hown hK hP 0 rfl rfl 18 (by decide) (hts _ k_964) (fun _ h9 => h9) rfl d_M_type_41 ?_
          refine lv_aload_n hx hb d_M_type_44 rfl (lv_at hl 0 rfl) ?_
          refine va_get (D := D) (cl := CL) (ci := 10) (v := .int (iI (F 8))) (C := "DayBookModel") (T := T_M) (N := 19) hx hb hts in_M hown hK hP 0 rfl rfl 17 (by decide) (hts _ k_963) (fun _ h9 => h9) rfl d_M_type_45 ?_
          refine lv_iload_n hx hb d_M_type_48 rfl (lv_at hl 1 rfl) ?_
          refine ma_cst hx hb hK hP hD hS 10 3 rfl rfl (h := g 9) (v := ch) (by omega) (by decide) (by omega) d_M_type_49 (fun H locs hP hD hS => ?_)
          have hP : va_P D CL (MWs a ad cx (upF F 0 0) (upG g 9 (Int.toNat (F 8)) ch)) H := hP
          have hD : va_D (Ain a ad) (MWs a ad cx (upF F 0 0) (upG g 9 (Int.toNat (F 8)) ch)) := hD
          refine lv_aload_n hx hb d_M_type_50 rfl (lv_at hl 0 rfl) ?_
          refine lv_dup hx hb d_M_type_51 rfl ?_
          refine va_get (D := D) (cl := CL) (ci := 10) (v := .int (iI (F 8))) (C := "DayBookModel") (T := T_M) (N := 19) hx hb hts in_M hown hK hP 0 rfl rfl 17 (by decide) (hts _ k_963) (fun _ h9 => h9) rfl d_M_type_52 ?_
          refine ai_iconst hx hb d_M_type_55 ?_
          refine ai_iadd hx hb d_M_type_56 ?_
          refine ai_nmI hx hb (fun v57 e57 => ?_)
          refine va_put (D := D) (cl := CL) (ci := 10) (v := .int (iI v57)) (ty := .int) (C := "DayBookModel") (T := T_M) (N := 19) hx hb hts in_M ty_M ty_M_ok nm_M hown hK hP hD hS 0 rfl rfl 17 (by decide) (hts _ k_963) (fun _ h9 => h9) rfl (by decide +kernel) rfl rfl (Nat.le_of_ble_eq_true rfl) d_M_type_57 (fun H locs hP hD hS => ?_)
          have hP : va_P D CL (MWs a ad cx (upF (upF F 0 0) 8 v57) (upG g 9 (Int.toNat (F 8)) ch)) H := hP
          have hD : va_D (Ain a ad) (MWs a ad cx (upF (upF F 0 0) 8 v57) (upG g 9 (Int.toNat (F 8)) ch)) := hD
          refine ai_iconst hx hb d_M_type_60 ?_
          exact mw_zret hx hb hr hlk d_M_type_61 hP hS (ro_1 (by omega) rfl) ⟨fun _ => (by rw [← e57]), fun q => absurd (by omega) q⟩
        · skip
          refine ai_iconst hx hb d_M_type_38 ?_
          exact mw_zret hx hb hr hlk d_M_type_39 hP hS (ro_0 (by omega) rfl) ⟨fun q => absurd q (by omega), fun _ => rfl⟩
  · skip
    refine lv_iload_n hx hb d_M_type_11 rfl (lv_at hl 1 rfl) ?_
    refine ai_bipush (x := 57) hx hb d_M_type_12 (by decide +kernel) ?_
    refine ai_icmp_le hx hb d_M_type_14 rfl (by omega) (by omega) (fun h14 => ?_) (fun h14 => ?_)
    · skip
      refine lv_aload_n hx hb d_M_type_29 rfl (lv_at hl 0 rfl) ?_
      refine va_get (D := D) (cl := CL) (ci := 10) (v := .int (iI (F 8))) (C := "DayBookModel") (T := T_M) (N := 19) hx hb hts in_M hown hK hP 0 rfl rfl 17 (by decide) (hts _ k_963) (fun _ h9 => h9) rfl d_M_type_30 ?_
      refine ai_bipush (x := 24) hx hb d_M_type_33 (by decide +kernel) ?_
      refine ai_icmp_ne hx hb d_M_type_35 rfl (by omega) (by omega) (fun h35 => ?_) (fun h35 => ?_)
      · skip
        refine lv_aload_n hx hb d_M_type_40 rfl (lv_at hl 0 rfl) ?_
        refine va_get (D := D) (cl := CL) (ci := 10) (v := .ref (ad 9)) (C := "DayBookModel") (T := T_M) (N := 19) hx hb hts in_M hown hK hP 0 rfl rfl 18 (by decide) (hts _ k_964) (fun _ h9 => h9) rfl d_M_type_41 ?_
        refine lv_aload_n hx hb d_M_type_44 rfl (lv_at hl 0 rfl) ?_
        refine va_get (D := D) (cl := CL) (ci := 10) (v := .int (iI (F 8))) (C := "DayBookModel") (T := T_M) (N := 19) hx hb hts in_M hown hK hP 0 rfl rfl 17 (by decide) (hts _ k_963) (fun _ h9 => h9) rfl d_M_type_45 ?_
        refine lv_iload_n hx hb d_M_type_48 rfl (lv_at hl 1 rfl) ?_
        refine ma_cst hx hb hK hP hD hS 10 3 rfl rfl (h := g 9) (v := ch) (by omega) (by decide) (by omega) d_M_type_49 (fun H locs hP hD hS => ?_)
        have hP : va_P D CL (MWs a ad cx (upF F 0 0) (upG g 9 (Int.toNat (F 8)) ch)) H := hP
        have hD : va_D (Ain a ad) (MWs a ad cx (upF F 0 0) (upG g 9 (Int.toNat (F 8)) ch)) := hD
        refine lv_aload_n hx hb d_M_type_50 rfl (lv_at hl 0 rfl) ?_
        refine lv_dup hx hb d_M_type_51 rfl ?_
        refine va_get (D := D) (cl := CL) (ci := 10) (v := .int (iI (F 8))) (C := "DayBookModel") (T := T_M) (N := 19) hx hb hts in_M hown hK hP 0 rfl rfl 17 (by decide) (hts _ k_963) (fun _ h9 => h9) rfl d_M_type_52 ?_
        refine ai_iconst hx hb d_M_type_55 ?_
        refine ai_iadd hx hb d_M_type_56 ?_
        refine ai_nmI hx hb (fun v57 e57 => ?_)
        refine va_put (D := D) (cl := CL) (ci := 10) (v := .int (iI v57)) (ty := .int) (C := "DayBookModel") (T := T_M) (N := 19) hx hb hts in_M ty_M ty_M_ok nm_M hown hK hP hD hS 0 rfl rfl 17 (by decide) (hts _ k_963) (fun _ h9 => h9) rfl (by decide +kernel) rfl rfl (Nat.le_of_ble_eq_true rfl) d_M_type_57 (fun H locs hP hD hS => ?_)
        have hP : va_P D CL (MWs a ad cx (upF (upF F 0 0) 8 v57) (upG g 9 (Int.toNat (F 8)) ch)) H := hP
        have hD : va_D (Ain a ad) (MWs a ad cx (upF (upF F 0 0) 8 v57) (upG g 9 (Int.toNat (F 8)) ch)) := hD
        refine ai_iconst hx hb d_M_type_60 ?_
        exact mw_zret hx hb hr hlk d_M_type_61 hP hS (ro_1 (by omega) rfl) ⟨fun _ => (by rw [← e57]), fun q => absurd (by omega) q⟩
      · skip
        refine ai_iconst hx hb d_M_type_38 ?_
        exact mw_zret hx hb hr hlk d_M_type_39 hP hS (ro_0 (by omega) rfl) ⟨fun q => absurd q (by omega), fun _ => rfl⟩
    · skip
      refine lv_iload_n hx hb d_M_type_17 rfl (lv_at hl 1 rfl) ?_
      refine ai_bipush (x := 45) hx hb d_M_type_18 (by decide +kernel) ?_
      refine ai_icmp_eq hx hb d_M_type_20 rfl (by omega) (by omega) (fun h20 => ?_) (fun h20 => ?_)
      · skip
        refine lv_aload_n hx hb d_M_type_29 rfl (lv_at hl 0 rfl) ?_
        refine va_get (D := D) (cl := CL) (ci := 10) (v := .int (iI (F 8))) (C := "DayBookModel") (T := T_M) (N := 19) hx hb hts in_M hown hK hP 0 rfl rfl 17 (by decide) (hts _ k_963) (fun _ h9 => h9) rfl d_M_type_30 ?_
        refine ai_bipush (x := 24) hx hb d_M_type_33 (by decide +kernel) ?_
        refine ai_icmp_ne hx hb d_M_type_35 rfl (by omega) (by omega) (fun h35 => ?_) (fun h35 => ?_)
        · skip
          refine lv_aload_n hx hb d_M_type_40 rfl (lv_at hl 0 rfl) ?_
          refine va_get (D := D) (cl := CL) (ci := 10) (v := .ref (ad 9)) (C := "DayBookModel") (T := T_M) (N := 19) hx hb hts in_M hown hK hP 0 rfl rfl 18 (by decide) (hts _ k_964) (fun _ h9 => h9) rfl d_M_type_41 ?_
          refine lv_aload_n hx hb d_M_type_44 rfl (lv_at hl 0 rfl) ?_
          refine va_get (D := D) (cl := CL) (ci := 10) (v := .int (iI (F 8))) (C := "DayBookModel") (T := T_M) (N := 19) hx hb hts in_M hown hK hP 0 rfl rfl 17 (by decide) (hts _ k_963) (fun _ h9 => h9) rfl d_M_type_45 ?_
          refine lv_iload_n hx hb d_M_type_48 rfl (lv_at hl 1 rfl) ?_
          refine ma_cst hx hb hK hP hD hS 10 3 rfl rfl (h := g 9) (v := ch) (by omega) (by decide) (by omega) d_M_type_49 (fun H locs hP hD hS => ?_)
          have hP : va_P D CL (MWs a ad cx (upF F 0 0) (upG g 9 (Int.toNat (F 8)) ch)) H := hP
          have hD : va_D (Ain a ad) (MWs a ad cx (upF F 0 0) (upG g 9 (Int.toNat (F 8)) ch)) := hD
          refine lv_aload_n hx hb d_M_type_50 rfl (lv_at hl 0 rfl) ?_
          refine lv_dup hx hb d_M_type_51 rfl ?_
          refine va_get (D := D) (cl := CL) (ci := 10) (v := .int (iI (F 8))) (C := "DayBookModel") (T := T_M) (N := 19) hx hb hts in_M hown hK hP 0 rfl rfl 17 (by decide) (hts _ k_963) (fun _ h9 => h9) rfl d_M_type_52 ?_
          refine ai_iconst hx hb d_M_type_55 ?_
          refine ai_iadd hx hb d_M_type_56 ?_
          refine ai_nmI hx hb (fun v57 e57 => ?_)
          refine va_put (D := D) (cl := CL) (ci := 10) (v := .int (iI v57)) (ty := .int) (C := "DayBookModel") (T := T_M) (N := 19) hx hb hts in_M ty_M ty_M_ok nm_M hown hK hP hD hS 0 rfl rfl 17 (by decide) (hts _ k_963) (fun _ h9 => h9) rfl (by decide +kernel) rfl rfl (Nat.le_of_ble_eq_true rfl) d_M_type_57 (fun H locs hP hD hS => ?_)
          have hP : va_P D CL (MWs a ad cx (upF (upF F 0 0) 8 v57) (upG g 9 (Int.toNat (F 8)) ch)) H := hP
          have hD : va_D (Ain a ad) (MWs a ad cx (upF (upF F 0 0) 8 v57) (upG g 9 (Int.toNat (F 8)) ch)) := hD
          refine ai_iconst hx hb d_M_type_60 ?_
          exact mw_zret hx hb hr hlk d_M_type_61 hP hS (ro_1 (by omega) rfl) ⟨fun _ => (by rw [← e57]), fun q => absurd (by omega) q⟩
        · skip
          refine ai_iconst hx hb d_M_type_38 ?_
          exact mw_zret hx hb hr hlk d_M_type_39 hP hS (ro_0 (by omega) rfl) ⟨fun q => absurd q (by omega), fun _ => rfl⟩
      · skip
        refine lv_iload_n hx hb d_M_type_23 rfl (lv_at hl 1 rfl) ?_
        refine ai_bipush (x := 47) hx hb d_M_type_24 (by decide +kernel) ?_
        refine ai_icmp_ne hx hb d_M_type_26 rfl (by omega) (by omega) (fun h26 => ?_) (fun h26 => ?_)
        · skip
          refine ai_iconst hx hb d_M_type_38 ?_
          exact mw_zret hx hb hr hlk d_M_type_39 hP hS (ro_0 (by omega) rfl) ⟨fun q => absurd q (by omega), fun _ => rfl⟩
        · skip
          refine lv_aload_n hx hb d_M_type_29 rfl (lv_at hl 0 rfl) ?_
          refine va_get (D := D) (cl := CL) (ci := 10) (v := .int (iI (F 8))) (C := "DayBookModel") (T := T_M) (N := 19) hx hb hts in_M hown hK hP 0 rfl rfl 17 (by decide) (hts _ k_963) (fun _ h9 => h9) rfl d_M_type_30 ?_
          refine ai_bipush (x := 24) hx hb d_M_type_33 (by decide +kernel) ?_
          refine ai_icmp_ne hx hb d_M_type_35 rfl (by omega) (by omega) (fun h35 => ?_) (fun h35 => ?_)
          · skip
            refine lv_aload_n hx hb d_M_type_40 rfl (lv_at hl 0 rfl) ?_
            refine va_get (D := D) (cl := CL) (ci := 10) (v := .ref (ad 9)) (C := "DayBookModel") (T := T_M) (N := 19) hx hb hts in_M hown hK hP 0 rfl rfl 18 (by decide) (hts _ k_964) (fun _ h9 => h9) rfl d_M_type_41 ?_
            refine lv_aload_n hx hb d_M_type_44 rfl (lv_at hl 0 rfl) ?_
            refine va_get (D := D) (cl := CL) (ci := 10) (v := .int (iI (F 8))) (C := "DayBookModel") (T := T_M) (N := 19) hx hb hts in_M hown hK hP 0 rfl rfl 17 (by decide) (hts _ k_963) (fun _ h9 => h9) rfl d_M_type_45 ?_
            refine lv_iload_n hx hb d_M_type_48 rfl (lv_at hl 1 rfl) ?_
            refine ma_cst hx hb hK hP hD hS 10 3 rfl rfl (h := g 9) (v := ch) (by omega) (by decide) (by omega) d_M_type_49 (fun H locs hP hD hS => ?_)
            have hP : va_P D CL (MWs a ad cx (upF F 0 0) (upG g 9 (Int.toNat (F 8)) ch)) H := hP
            have hD : va_D (Ain a ad) (MWs a ad cx (upF F 0 0) (upG g 9 (Int.toNat (F 8)) ch)) := hD
            refine lv_aload_n hx hb d_M_type_50 rfl (lv_at hl 0 rfl) ?_
            refine lv_dup hx hb d_M_type_51 rfl ?_
            refine va_get (D := D) (cl := CL) (ci := 10) (v := .int (iI (F 8))) (C := "DayBookModel") (T := T_M) (N := 19) hx hb hts in_M hown hK hP 0 rfl rfl 17 (by decide) (hts _ k_963) (fun _ h9 => h9) rfl d_M_type_52 ?_
            refine ai_iconst hx hb d_M_type_55 ?_
            refine ai_iadd hx hb d_M_type_56 ?_
            refine ai_nmI hx hb (fun v57 e57 => ?_)
            refine va_put (D := D) (cl := CL) (ci := 10) (v := .int (iI v57)) (ty := .int) (C := "DayBookModel") (T := T_M) (N := 19) hx hb hts in_M ty_M ty_M_ok nm_M hown hK hP hD hS 0 rfl rfl 17 (by decide) (hts _ k_963) (fun _ h9 => h9) rfl (by decide +kernel) rfl rfl (Nat.le_of_ble_eq_true rfl) d_M_type_57 (fun H locs hP hD hS => ?_)
            have hP : va_P D CL (MWs a ad cx (upF (upF F 0 0) 8 v57) (upG g 9 (Int.toNat (F 8)) ch)) H := hP
            have hD : va_D (Ain a ad) (MWs a ad cx (upF (upF F 0 0) 8 v57) (upG g 9 (Int.toNat (F 8)) ch)) := hD
            refine ai_iconst hx hb d_M_type_60 ?_
            exact mw_zret hx hb hr hlk d_M_type_61 hP hS (ro_1 (by omega) rfl) ⟨fun _ => (by rw [← e57]), fun q => absurd (by omega) q⟩
          · skip
            refine ai_iconst hx hb d_M_type_38 ?_
            exact mw_zret hx hb hr hlk d_M_type_39 hP hS (ro_0 (by omega) rfl) ⟨fun q => absurd q (by omega), fun _ => rfl⟩
set_option maxHeartbeats 4000000 in
set_option maxRecDepth 100000 in
theorem ct_M_letter (l : Launch) (D : va_G) (a : Nat) (ad : Nat → Nat) (cx : Nat → ClassId) (F : Nat → Int) (g : Nat → Nat → Int) (n : Int) (rn : -2147483648 ≤ n ∧ n ≤ 2147483647) (rz : 0 ≤ F 8 ∧ F 8 ≤ 24) (rg : ∀ j : Nat, j < 24 → 0 ≤ g 9 j ∧ g 9 j < 65536) : MW l y_M_letter w_M_letter 0 0 [.ref a, .int (iI n)] D a ad cx F g (QMi D a ad cx (if 0 ≤ n ∧ n < F 8 then g 9 (Int.toNat n) else 0) (fun u => u = (upF F 0 0, g))) := by
  refine mw_of (by decide +kernel) (Nat.le_of_ble_eq_true rfl) ?_
  intro p e s m below meth c ls hx hb hr hts hown hlk hml hl hN hK hP hD
  have hown : s.vm.findClass "DayBookModel" = some m.cls := hown
  have hl : lv_has ls 2 [(0, .ref a), (1, .int (iI n))] := hl
  have hF : _ ∧ _ ∧ _ ∧ _ ∧ _ ∧ _ := ⟨hx, hb, hml, hown, hts, hN⟩
  have hS : va_S (Ain a ad) s.heap s.heap [] := va_S.rf
  refine lv_aload_n hx hb d_M_letter_0 rfl (lv_at hl 0 rfl) ?_
  refine ai_iconst hx hb d_M_letter_1 ?_
  refine va_put (D := D) (cl := CL) (ci := 10) (v := .int (iI 0)) (ty := .int) (C := "DayBookModel") (T := T_M) (N := 19) hx hb hts in_M ty_M ty_M_ok nm_M hown hK hP hD hS 0 rfl rfl 0 (by decide) (hts _ k_946) (fun _ h9 => h9) rfl (by decide +kernel) rfl rfl (Nat.le_of_ble_eq_true rfl) d_M_letter_2 (fun H locs hP hD hS => ?_)
  have hP : va_P D CL (MWs a ad cx (upF F 0 0) g) H := hP
  have hD : va_D (Ain a ad) (MWs a ad cx (upF F 0 0) g) := hD
  refine lv_iload_n hx hb d_M_letter_5 rfl (lv_at hl 1 rfl) ?_
  refine ai_if_lt hx hb d_M_letter_6 rfl (by omega) (fun h6 => ?_) (fun h6 => ?_)
  · skip
    refine ai_iconst hx hb d_M_letter_26 ?_
    exact mw_cret hx hb hr hlk d_M_letter_27 hP hS (by omega) (by rw [if_neg (by omega)]) rfl
  · skip
    refine lv_iload_n hx hb d_M_letter_9 rfl (lv_at hl 1 rfl) ?_
    refine lv_aload_n hx hb d_M_letter_10 rfl (lv_at hl 0 rfl) ?_
    refine va_get (D := D) (cl := CL) (ci := 10) (v := .int (iI (F 8))) (C := "DayBookModel") (T := T_M) (N := 19) hx hb hts in_M hown hK hP 0 rfl rfl 17 (by decide) (hts _ k_963) (fun _ h9 => h9) rfl d_M_letter_11 ?_
    refine ai_icmp_ge hx hb d_M_letter_14 rfl (by omega) (by omega) (fun h14 => ?_) (fun h14 => ?_)
    · skip
      refine ai_iconst hx hb d_M_letter_26 ?_
      exact mw_cret hx hb hr hlk d_M_letter_27 hP hS (by omega) (by rw [if_neg (by omega)]) rfl
    · skip
      have hg := rg (Int.toNat n) (by omega)
      refine lv_aload_n hx hb d_M_letter_17 rfl (lv_at hl 0 rfl) ?_
      refine va_get (D := D) (cl := CL) (ci := 10) (v := .ref (ad 9)) (C := "DayBookModel") (T := T_M) (N := 19) hx hb hts in_M hown hK hP 0 rfl rfl 18 (by decide) (hts _ k_964) (fun _ h9 => h9) rfl d_M_letter_18 ?_
      refine lv_iload_n hx hb d_M_letter_21 rfl (lv_at hl 1 rfl) ?_
      refine ma_cld hx hb hK hP 10 3 rfl rfl (h := g 9) (by omega) (by decide) d_M_letter_22 ?_
      refine lv_goto hx hb d_M_letter_23 rfl ?_
      exact mw_cret hx hb hr hlk d_M_letter_27 hP hS (by omega) (by rw [if_pos (by omega)]) rfl
