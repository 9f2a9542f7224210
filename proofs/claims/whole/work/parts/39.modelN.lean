/-! 39.modelN: laid by program (wip/whole) -/
/-- the row: its letters -/
def RowIs (F : Nat → Int) (g : Nat → Nat → Int) (L : List Int) : Prop := F 8 = (L.length : Int) ∧ L.length ≤ 24 ∧ ∀ i : Nat, i < L.length → L[i]? = some (g 9 i)
def ChOK (g : Nat → Nat → Int) : Prop := ∀ j : Nat, j < 24 → 0 ≤ g 9 j ∧ g 9 j < 65536
theorem RowIs.push {F : Nat → Int} {g : Nat → Nat → Int} {L : List Int} {v w : Int} (h : RowIs F g L) (hl : L.length < 24) (hw : w = F 8 + 1) : RowIs (upF F 8 w) (upG g 9 (Int.toNat (F 8)) v) (L ++ [v]) := by
  obtain ⟨h1, h2, h3⟩ := h
  have e : Int.toNat (F 8) = L.length := by omega
  refine ⟨?_, by rw [List.length_append, List.length_singleton]; omega, fun i hi => ?_⟩
  · show w = _
    rw [List.length_append, List.length_singleton]
    omega
  · show (L ++ [v])[i]? = some (if i = Int.toNat (F 8) then v else g 9 i)
    rw [List.length_append, List.length_singleton] at hi
    rw [e]
    by_cases q : i = L.length
    · rw [if_pos q, q, List.getElem?_append_right (Nat.le_refl _), Nat.sub_self]; rfl
    · rw [if_neg q, List.getElem?_append_left (by omega)]
      exact h3 i (by omega)
theorem ChOK.push {g : Nat → Nat → Int} (h : ChOK g) {i : Nat} {v : Int} (hv : 0 ≤ v ∧ v < 65536) : ChOK (upG g 9 i v) := fun j hj => by
  show 0 ≤ (if j = i then v else g 9 j) ∧ (if j = i then v else g 9 j) < 65536
  by_cases q : j = i
  · rw [if_pos q]; exact hv
  · rw [if_neg q]; exact h j hj
/-- a number's figures, the highest first -/
def dgl (x : Int) : Nat → List Int
  | 0 => []
  | k + 1 => (48 + x / 10 ^ k % 10) :: dgl x k
theorem dgl_len (x : Int) : ∀ k, (dgl x k).length = k
  | 0 => rfl
  | k + 1 => by show (dgl x k).length + 1 = k + 1; rw [dgl_len x k]
def dec (v : Int) (n : Nat) : List Int := if v < 0 then 45 :: dgl (-v) n else dgl v n
theorem p10_pos : ∀ k : Nat, 0 < (10 : Int) ^ k
  | 0 => by decide
  | k + 1 => by rw [Int.pow_succ]; have := p10_pos k; omega
theorem p10_mono {i j : Nat} (h : i ≤ j) : (10 : Int) ^ i ≤ 10 ^ j := by
  induction j with
  | zero => have : i = 0 := by omega
            subst this; exact Int.le_refl _
  | succ j ih =>
    by_cases q : i = j + 1
    · subst q; exact Int.le_refl _
    · have := ih (by omega)
      have := p10_pos j
      rw [Int.pow_succ (10 : Int) j]; omega
theorem p10_9 : ∀ n : Nat, n ≤ 9 → (10 : Int) ^ n ≤ 1000000000 := by decide
theorem td_pos {x y : Int} (hx : 0 ≤ x) : Int.tdiv x y = x / y := Int.tdiv_eq_ediv_of_nonneg hx
/-- beside the row all is as it was -/
def KeepR (F F' : Nat → Int) (g g' : Nat → Nat → Int) : Prop := (∀ j, j ≠ 8 → F' j = F j) ∧ ∀ k, k ≠ 9 → g' k = g k
theorem KeepR.rf {F : Nat → Int} {g : Nat → Nat → Int} : KeepR F F g g := ⟨fun _ _ => rfl, fun _ _ => rfl⟩
theorem KeepR.push {F F' : Nat → Int} {g g' : Nat → Nat → Int} (h : KeepR F F' g g') {w v : Int} {i : Nat} : KeepR F (upF F' 8 w) g (upG g' 9 i v) := ⟨fun j hj => by show (if j = 8 then w else F' j) = F j; rw [if_neg hj]; exact h.1 j hj, fun k hk => by show (if k = 9 then (fun j => if j = i then v else g' 9 j) else g' k) = g k; rw [if_neg hk]; exact h.2 k hk⟩
theorem KeepR.tr {F F' F2 : Nat → Int} {g g' g2 : Nat → Nat → Int} (h : KeepR F F' g g') (h2 : KeepR F' F2 g' g2) : KeepR F F2 g g2 := ⟨fun j hj => (h2.1 j hj).trans (h.1 j hj), fun k hk => (h2.2 k hk).trans (h.2 k hk)⟩
theorem ten_div {un : Int} {k : Nat} (h : un = 10 ^ k) : (k = 0 ∧ Int.tdiv un 10 = 0) ∨ ∃ j, k = j + 1 ∧ Int.tdiv un 10 = 10 ^ j := by
  cases k with
  | zero => subst h; exact Or.inl ⟨rfl, rfl⟩
  | succ j =>
    refine Or.inr ⟨j, rfl, ?_⟩
    have := p10_pos j
    rw [h, Int.pow_succ, td_pos (by omega)]
    omega
theorem ten_up {rs un : Int} {i n : Nat} (hu : un = 10 ^ i) (h : rs < 10 ^ n) (h2 : 9 < rs / un) : i + 1 + 1 ≤ n := by
  by_cases q : i + 1 + 1 ≤ n
  · exact q
  · have hp := p10_pos i
    have h3 : un * 10 ≤ rs := by
      have := Int.mul_ediv_add_emod rs un
      have := Int.emod_nonneg rs (show un ≠ 0 by omega)
      have := Int.mul_le_mul_of_nonneg_left (show 10 ≤ rs / un by omega) (show 0 ≤ un by omega)
      omega
    have h4 : (10 : Int) ^ n ≤ 10 ^ (i + 1) := p10_mono (by omega)
    rw [Int.pow_succ, ← hu] at h4
    omega
theorem ten_dn {rs un : Int} {i n : Nat} (hu : un = 10 ^ i) (h : n = 1 ∨ 10 ^ (n - 1) ≤ rs) (hi : i + 1 ≤ n) (h2 : rs / un ≤ 9) : n = i + 1 := by
  by_cases q : n = i + 1
  · exact q
  · have hp := p10_pos i
    rcases h with h | h
    · omega
    · have h3 : rs < un * 10 := by
        have a1 := Int.mul_ediv_add_emod rs un
        have a2 := Int.emod_lt_of_pos rs (show 0 < un by omega)
        have a3 := Int.mul_le_mul_of_nonneg_left (show rs / un ≤ 9 by omega) (show 0 ≤ un by omega)
        omega
      have h4 : (10 : Int) ^ (i + 1) ≤ 10 ^ (n - 1) := p10_mono (by omega)
      rw [Int.pow_succ, ← hu] at h4
      omega
set_option maxHeartbeats 4000000 in
set_option maxRecDepth 100000 in
theorem ct_M_putNumber (l : Launch) (D : va_G) (a : Nat) (ad : Nat → Nat) (cx : Nat → ClassId) (F : Nat → Int) (g : Nat → Nat → Int) (nv : Int) (n : Nat) (L : List Int) (hrow : RowIs F g L) (hch : ChOK g) (hn : 1 ≤ n ∧ n ≤ 9) (hn1 : (-nv < 10 ^ n ∧ nv < 10 ^ n) ∧ (n = 1 ∨ 10 ^ (n - 1) ≤ nv ∨ 10 ^ (n - 1) ≤ -nv)) (hlen : L.length + (dec nv n).length ≤ 24) (rnv : -900000000 ≤ nv ∧ nv ≤ 900000000) : MW l y_M_putNumber w_M_putNumber 0 0 [.ref a, .long (iL nv)] D a ad cx F g (QMv D a ad cx (fun u => KeepR F u.1 g u.2 ∧ RowIs u.1 u.2 (L ++ dec nv n) ∧ ChOK u.2)) := by
  refine mw_of (by decide +kernel) (Nat.le_of_ble_eq_true rfl) ?_
  intro p e s m below meth c ls hx hb hr hts hown hlk hml hl hN hK hP hD
  have hown : s.vm.findClass "DayBookModel" = some m.cls := hown
  have hl : lv_has ls 7 [(0, .ref a), (1, .long (iL nv))] := hl
  have hF : _ ∧ _ ∧ _ ∧ _ ∧ _ ∧ _ := ⟨hx, hb, hml, hown, hts, hN⟩
  have hS : va_S (Ain a ad) s.heap s.heap [] := va_S.rf
  have r80 := hrow.1
  have hJ65 : ∀ (N : Nat) (H : Heap) (locs : List Loc) (Fv : Nat → Int) (gv : Nat → Nat → Int) (rs : Int) (un : Int) (P : List Int) (k : Nat) (ls : Array Slot), va_P D CL (MWs a ad cx Fv gv) H → va_S (Ain a ad) s.heap H locs → lv_has ls 7 [(5, .long (iL un)), (3, .long (iL rs)), (0, .ref a)] → (KeepR F Fv g gv) → (RowIs Fv gv P) → (ChOK gv) → (P ++ dgl rs k = L ++ dec nv n) → (0 ≤ rs ∧ rs ≤ 900000000) → ((un = 0 ∧ k = 0) ∨ ∃ j, k = j + 1 ∧ un = 10 ^ j ∧ j ≤ 8) → k < N → W p l e (headSpec w_M_putNumber ({ frames := 0, cells := 0, slots := 0, locals := 0 })).room s m [.ref a, .long (iL nv)].toArray below meth c H locs 0 0 (MQ below (QMv D a ad cx (fun u => KeepR F u.1 g u.2 ∧ RowIs u.1 u.2 (L ++ dec nv n) ∧ ChOK u.2)) [.ref a, .long (iL nv)].toArray s 0 0 (Ain a ad)) (F0 m 65 ls []) := by
    intro N
    induction N with
    | zero => intro _ _ _ _ _ _ _ _ _ _ _ _ _ _ _ _ _ _ hm; exact absurd hm (Nat.not_lt_zero _)
    | succ N ih =>
      intro H locs Fv gv rs un P k ls hP hS hl kp rw0 ch hk rrs hun hm
      have hD : va_D (Ain a ad) (MWs a ad cx Fv gv) := MD.any hD
      have hPl : P.length + k ≤ 24 := by have q := congrArg List.length hk; rw [List.length_append, List.length_append, dgl_len] at q; omega
      have r8 := rw0.1
      have hur : 0 ≤ un ∧ un ≤ 1000000000 := by rcases hun with ⟨z, -⟩ | ⟨j, z1, z2, z3⟩; omega; have := p10_pos j; have := p10_9 j (by omega); omega
      refine lv_lload hx hb d_M_putNumber_65 (lv_at hl 0 rfl) ?_
      refine ai_lconst (x := 0) hx hb d_M_putNumber_67 (by decide +kernel) ?_
      refine ai_lcmp_le hx hb d_M_putNumber_68 d_M_putNumber_69 rfl (by omega) (by omega) (fun h68 => ?_) (fun h68 => ?_)
      · skip
        exact mw_vret hx hb hr hlk d_M_putNumber_116 hP hS (by obtain ⟨-, hk0_⟩ := hun.resolve_right (fun ⟨j, z1, z2, z3⟩ => by have := p10_pos j; omega); subst hk0_; refine ⟨kp, ?_, ch⟩; rw [← hk]; show RowIs Fv gv (P ++ []); rw [List.append_nil]; exact rw0)
      · skip
        obtain ⟨j, hkj, hu, hj8⟩ := hun.resolve_left (fun q => by omega)
        subst hkj
        have hup := p10_pos j
        have hu9 := p10_9 j (by omega)
        have htd := td_pos (x := rs) (y := un) rrs.1
        have hdr := dv_rng (x := rs) (n := un) (lo := 0) (hi := 900000000) (by omega) (by omega) (by omega) (by omega) (by omega)
        have htd2 := td_pos (x := Int.tdiv rs un) (y := 10) (by omega)
        refine lv_aload_n hx hb d_M_putNumber_72 rfl (lv_at hl 2 rfl) ?_
        refine va_get (D := D) (cl := CL) (ci := 10) (v := .ref (ad 9)) (C := "DayBookModel") (T := T_M) (N := 19) hx hb hts in_M hown hK hP 0 rfl rfl 18 (by decide) (hts _ k_964) (fun _ h9 => h9) rfl d_M_putNumber_73 ?_
        refine lv_aload_n hx hb d_M_putNumber_76 rfl (lv_at hl 2 rfl) ?_
        refine va_get (D := D) (cl := CL) (ci := 10) (v := .int (iI (Fv 8))) (C := "DayBookModel") (T := T_M) (N := 19) hx hb hts in_M hown hK hP 0 rfl rfl 17 (by decide) (hts _ k_963) (fun _ h9 => h9) rfl d_M_putNumber_77 ?_
        refine ai_ldc2 (x := 48) hx hb hown (hts _ k_1197) (by decide +kernel) d_M_putNumber_80 ?_
        refine lv_lload_n hx hb d_M_putNumber_83 rfl (lv_at hl 1 rfl) ?_
        refine lv_lload hx hb d_M_putNumber_84 (lv_at hl 0 rfl) ?_
        refine ai_ldiv hx hb d_M_putNumber_86 (by omega) (by omega) (by omega) ?_
        refine ai_ldc2 (x := 10) hx hb hown (hts _ k_1183) (by decide +kernel) d_M_putNumber_87 ?_
        refine ai_lrem hx hb d_M_putNumber_90 (by omega) (by omega) (by omega) ?_
        refine ai_ladd hx hb d_M_putNumber_91 ?_
        refine ai_l2i hx hb d_M_putNumber_92 ?_
        refine ai_i2c hx hb d_M_putNumber_93 ?_
        skip
        refine ai_nmI hx hb (fun v94 e94 => ?_)
        refine ma_cst hx hb hK hP hD hS 10 3 rfl rfl (h := gv 9) (v := v94) (by omega) (by decide) (by omega) d_M_putNumber_94 (fun H locs hP hD hS => ?_)
        have hP : va_P D CL (MWs a ad cx Fv (upG gv 9 (Int.toNat (Fv 8)) v94)) H := hP
        have hD : va_D (Ain a ad) (MWs a ad cx Fv (upG gv 9 (Int.toNat (Fv 8)) v94)) := hD
        have e94c : v94 = 48 + rs / 10 ^ j % 10 := by rw [e94, htd2, htd, ← hu]; omega
        refine lv_aload_n hx hb d_M_putNumber_95 rfl (lv_at hl 2 rfl) ?_
        refine lv_dup hx hb d_M_putNumber_96 rfl ?_
        refine va_get (D := D) (cl := CL) (ci := 10) (v := .int (iI (Fv 8))) (C := "DayBookModel") (T := T_M) (N := 19) hx hb hts in_M hown hK hP 0 rfl rfl 17 (by decide) (hts _ k_963) (fun _ h9 => h9) rfl d_M_putNumber_97 ?_
        refine ai_iconst hx hb d_M_putNumber_100 ?_
        refine ai_iadd hx hb d_M_putNumber_101 ?_
        refine ai_nmI hx hb (fun v102 e102 => ?_)
        refine va_put (D := D) (cl := CL) (ci := 10) (v := .int (iI v102)) (ty := .int) (C := "DayBookModel") (T := T_M) (N := 19) hx hb hts in_M ty_M ty_M_ok nm_M hown hK hP hD hS 0 rfl rfl 17 (by decide) (hts _ k_963) (fun _ h9 => h9) rfl (by decide +kernel) rfl rfl (Nat.le_of_ble_eq_true rfl) d_M_putNumber_102 (fun H locs hP hD hS => ?_)
        have hP : va_P D CL (MWs a ad cx (upF Fv 8 v102) (upG gv 9 (Int.toNat (Fv 8)) v94)) H := hP
        have hD : va_D (Ain a ad) (MWs a ad cx (upF Fv 8 v102) (upG gv 9 (Int.toNat (Fv 8)) v94)) := hD
        refine lv_lload hx hb d_M_putNumber_105 (lv_at hl 0 rfl) ?_
        refine ai_ldc2 (x := 10) hx hb hown (hts _ k_1183) (by decide +kernel) d_M_putNumber_107 ?_
        refine ai_ldiv hx hb d_M_putNumber_110 (by omega) (by omega) (by omega) ?_
        refine ai_nmL hx hb (fun v111 e111 => ?_)
        refine lv_lstore (lv' := [(5, .long (iL v111)), (3, .long (iL rs)), (0, .ref a)]) hx hb d_M_putNumber_111 hl (by decide) rfl (fun ls hl => ?_)
        refine lv_goto hx hb d_M_putNumber_113 rfl ?_
        exact ih _ _ (upF Fv 8 v102) (upG gv 9 (Int.toNat (Fv 8)) v94) rs v111 (P ++ [48 + rs / 10 ^ j % 10]) j _ hP hS (lv_sub hl [0, 1, 2] rfl) kp.push (by have q := rw0.push (v := v94) (w := v102) (by omega) e102; rw [e94c] at q ⊢; exact q) (ch.push (by omega)) (by rw [List.append_assoc]; exact hk) rrs (by rcases ten_div hu with ⟨z1, z2⟩ | ⟨i, z1, z2⟩; exact Or.inl ⟨by rw [e111]; exact z2, z1⟩; exact Or.inr ⟨i, z1, by rw [e111]; exact z2, by omega⟩) (by omega)
  have hJ43 : ∀ (N : Nat) (H : Heap) (locs : List Loc) (Fv : Nat → Int) (gv : Nat → Nat → Int) (rs : Int) (un : Int) (sg : List Int) (i : Nat) (ls : Array Slot), va_P D CL (MWs a ad cx Fv gv) H → va_S (Ain a ad) s.heap H locs → lv_has ls 7 [(5, .long (iL un)), (3, .long (iL rs)), (0, .ref a)] → (KeepR F Fv g gv) → (RowIs Fv gv (L ++ sg)) → (ChOK gv) → (L ++ sg ++ dgl rs n = L ++ dec nv n) → (0 ≤ rs ∧ rs ≤ 900000000) → (un = 10 ^ i) → (i + 1 ≤ n) → (rs < 10 ^ n ∧ (n = 1 ∨ 10 ^ (n - 1) ≤ rs)) → (n - i) < N → W p l e (headSpec w_M_putNumber ({ frames := 0, cells := 0, slots := 0, locals := 0 })).room s m [.ref a, .long (iL nv)].toArray below meth c H locs 0 0 (MQ below (QMv D a ad cx (fun u => KeepR F u.1 g u.2 ∧ RowIs u.1 u.2 (L ++ dec nv n) ∧ ChOK u.2)) [.ref a, .long (iL nv)].toArray s 0 0 (Ain a ad)) (F0 m 43 ls []) := by
    intro N
    induction N with
    | zero => intro _ _ _ _ _ _ _ _ _ _ _ _ _ _ _ _ _ _ _ _ hm; exact absurd hm (Nat.not_lt_zero _)
    | succ N ih =>
      intro H locs Fv gv rs un sg i ls hP hS hl kp rw0 ch hk0 rrs hu hi hr1 hm
      have hD : va_D (Ain a ad) (MWs a ad cx Fv gv) := MD.any hD
      have hup := p10_pos i
      have hu9 := p10_9 i (by omega)
      have htd := td_pos (x := rs) (y := un) rrs.1
      have hdr := dv_rng (x := rs) (n := un) (lo := 0) (hi := 900000000) (by omega) (by omega) (by omega) (by omega) (by omega)
      refine lv_lload_n hx hb d_M_putNumber_43 rfl (lv_at hl 1 rfl) ?_
      refine lv_lload hx hb d_M_putNumber_44 (lv_at hl 0 rfl) ?_
      refine ai_ldiv hx hb d_M_putNumber_46 (by omega) (by omega) (by omega) ?_
      refine ai_ldc2 (x := 9) hx hb hown (hts _ k_1196) (by decide +kernel) d_M_putNumber_47 ?_
      refine ai_lcmp_le hx hb d_M_putNumber_50 d_M_putNumber_51 rfl (by omega) (by omega) (fun h50 => ?_) (fun h50 => ?_)
      · skip
        have hin : n = i + 1 := ten_dn hu hr1.2 hi (by rw [← htd]; omega)
        exact hJ65 _ _ _ Fv gv rs un (L ++ sg) n _ hP hS (lv_sub hl [0, 1, 2] rfl) kp rw0 ch hk0 rrs (Or.inr ⟨i, hin, hu, by omega⟩) (Nat.lt_succ_self _)
      · skip
        refine ai_ldc2 (x := 10) hx hb hown (hts _ k_1183) (by decide +kernel) d_M_putNumber_54 ?_
        refine lv_lload hx hb d_M_putNumber_57 (lv_at hl 0 rfl) ?_
        refine ai_lmul hx hb d_M_putNumber_59 ?_
        refine ai_nmL hx hb (fun v60 e60 => ?_)
        refine lv_lstore (lv' := [(5, .long (iL v60)), (3, .long (iL rs)), (0, .ref a)]) hx hb d_M_putNumber_60 hl (by decide) rfl (fun ls hl => ?_)
        refine lv_goto hx hb d_M_putNumber_62 rfl ?_
        exact ih _ _ Fv gv rs v60 sg (i + 1) _ hP hS (lv_sub hl [0, 1, 2] rfl) kp rw0 ch hk0 rrs (by rw [e60, hu, Int.pow_succ]; omega) (ten_up hu hr1.1 (by rw [← htd]; omega)) hr1 (by have := ten_up hu hr1.1 (by rw [← htd]; omega); omega)
  refine lv_lload_n hx hb d_M_putNumber_0 rfl (lv_at hl 1 rfl) ?_
  refine ai_lconst (x := 0) hx hb d_M_putNumber_1 (by decide +kernel) ?_
  refine ai_lcmp_ge hx hb d_M_putNumber_2 d_M_putNumber_3 rfl (by omega) (by omega) (fun h2 => ?_) (fun h2 => ?_)
  · skip
    have hd0 : dec nv n = dgl nv n := by unfold dec; rw [if_neg (by omega)]
    refine lv_lload_n hx hb d_M_putNumber_11 rfl (lv_at hl 1 rfl) ?_
    refine lv_lstore_n (lv' := [(3, .long (iL nv)), (0, .ref a), (1, .long (iL nv))]) hx hb d_M_putNumber_12 rfl hl (by decide) rfl (fun ls hl => ?_)
    refine lv_lload_n hx hb d_M_putNumber_13 rfl (lv_at hl 2 rfl) ?_
    refine ai_lconst (x := 0) hx hb d_M_putNumber_14 (by decide +kernel) ?_
    refine ai_lcmp_ge hx hb d_M_putNumber_15 d_M_putNumber_16 rfl (by omega) (by omega) (fun h15 => ?_) (fun h15 => by exfalso; omega)
    refine ai_lconst (x := 1) hx hb d_M_putNumber_40 (by decide +kernel) ?_
    refine lv_lstore (lv' := [(5, .long (iL 1)), (3, .long (iL nv)), (0, .ref a), (1, .long (iL nv))]) hx hb d_M_putNumber_41 hl (by decide) rfl (fun ls hl => ?_)
    exact hJ43 _ _ _ F g nv 1 ([]) 0 _ hP hS (lv_sub hl [0, 1, 2] rfl) (by first | exact KeepR.rf | exact KeepR.rf.push) (by first | (rw [List.append_nil]; exact hrow) | exact hrow.push hLl e37) (by first | exact hch | exact hch.push (by omega)) (by rw [hd0]; first | (rw [List.append_nil]) | (rw [List.append_assoc, e12]; rfl)) (by omega) rfl (by omega) (by omega) (Nat.lt_succ_self _)
  · skip
    have hd0 : dec nv n = 45 :: dgl (-nv) n := by unfold dec; rw [if_pos (by omega)]
    have hLl : L.length < 24 := by rw [hd0, List.length_cons, dgl_len] at hlen; omega
    refine lv_lload_n hx hb d_M_putNumber_6 rfl (lv_at hl 1 rfl) ?_
    refine ai_lneg hx hb d_M_putNumber_7 ?_
    refine lv_goto hx hb d_M_putNumber_8 rfl ?_
    refine ai_nmL hx hb (fun v12 e12 => ?_)
    refine lv_lstore_n (lv' := [(3, .long (iL v12)), (0, .ref a), (1, .long (iL nv))]) hx hb d_M_putNumber_12 rfl hl (by decide) rfl (fun ls hl => ?_)
    refine lv_lload_n hx hb d_M_putNumber_13 rfl (lv_at hl 2 rfl) ?_
    refine ai_lconst (x := 0) hx hb d_M_putNumber_14 (by decide +kernel) ?_
    refine ai_lcmp_ge hx hb d_M_putNumber_15 d_M_putNumber_16 rfl (by omega) (by omega) (fun h15 => by exfalso; omega) (fun h15 => ?_)
    refine lv_aload_n hx hb d_M_putNumber_19 rfl (lv_at hl 1 rfl) ?_
    refine va_get (D := D) (cl := CL) (ci := 10) (v := .ref (ad 9)) (C := "DayBookModel") (T := T_M) (N := 19) hx hb hts in_M hown hK hP 0 rfl rfl 18 (by decide) (hts _ k_964) (fun _ h9 => h9) rfl d_M_putNumber_20 ?_
    refine lv_aload_n hx hb d_M_putNumber_23 rfl (lv_at hl 1 rfl) ?_
    refine va_get (D := D) (cl := CL) (ci := 10) (v := .int (iI (F 8))) (C := "DayBookModel") (T := T_M) (N := 19) hx hb hts in_M hown hK hP 0 rfl rfl 17 (by decide) (hts _ k_963) (fun _ h9 => h9) rfl d_M_putNumber_24 ?_
    refine ai_bipush (x := 45) hx hb d_M_putNumber_27 (by decide +kernel) ?_
    refine ma_cst hx hb hK hP hD hS 10 3 rfl rfl (h := g 9) (v := 45) (by omega) (by decide) (by omega) d_M_putNumber_29 (fun H locs hP hD hS => ?_)
    have hP : va_P D CL (MWs a ad cx F (upG g 9 (Int.toNat (F 8)) 45)) H := hP
    have hD : va_D (Ain a ad) (MWs a ad cx F (upG g 9 (Int.toNat (F 8)) 45)) := hD
    refine lv_aload_n hx hb d_M_putNumber_30 rfl (lv_at hl 1 rfl) ?_
    refine lv_dup hx hb d_M_putNumber_31 rfl ?_
    refine va_get (D := D) (cl := CL) (ci := 10) (v := .int (iI (F 8))) (C := "DayBookModel") (T := T_M) (N := 19) hx hb hts in_M hown hK hP 0 rfl rfl 17 (by decide) (hts _ k_963) (fun _ h9 => h9) rfl d_M_putNumber_32 ?_
    refine ai_iconst hx hb d_M_putNumber_35 ?_
    refine ai_iadd hx hb d_M_putNumber_36 ?_
    refine ai_nmI hx hb (fun v37 e37 => ?_)
    refine va_put (D := D) (cl := CL) (ci := 10) (v := .int (iI v37)) (ty := .int) (C := "DayBookModel") (T := T_M) (N := 19) hx hb hts in_M ty_M ty_M_ok nm_M hown hK hP hD hS 0 rfl rfl 17 (by decide) (hts _ k_963) (fun _ h9 => h9) rfl (by decide +kernel) rfl rfl (Nat.le_of_ble_eq_true rfl) d_M_putNumber_37 (fun H locs hP hD hS => ?_)
    have hP : va_P D CL (MWs a ad cx (upF F 8 v37) (upG g 9 (Int.toNat (F 8)) 45)) H := hP
    have hD : va_D (Ain a ad) (MWs a ad cx (upF F 8 v37) (upG g 9 (Int.toNat (F 8)) 45)) := hD
    refine ai_lconst (x := 1) hx hb d_M_putNumber_40 (by decide +kernel) ?_
    refine lv_lstore (lv' := [(5, .long (iL 1)), (3, .long (iL v12)), (0, .ref a), (1, .long (iL nv))]) hx hb d_M_putNumber_41 hl (by decide) rfl (fun ls hl => ?_)
    exact hJ43 _ _ _ (upF F 8 v37) (upG g 9 (Int.toNat (F 8)) 45) v12 1 ([45]) 0 _ hP hS (lv_sub hl [0, 1, 2] rfl) (by first | exact KeepR.rf | exact KeepR.rf.push) (by first | (rw [List.append_nil]; exact hrow) | exact hrow.push hLl e37) (by first | exact hch | exact hch.push (by omega)) (by rw [hd0]; first | (rw [List.append_nil]) | (rw [List.append_assoc, e12]; rfl)) (by omega) rfl (by omega) (by omega) (Nat.lt_succ_self _)
