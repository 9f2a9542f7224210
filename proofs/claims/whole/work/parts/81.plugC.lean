/-! 81.plugC: laid by program (wip/whole) -/
theorem TA.ofU {B : Nat → Prop} {D : va_G} {cl : List vw_C} {tys : List (ClassId × FieldType)} {ws : va_W} {U : State} (hK : va_K D cl tys U) (hP : va_P D cl ws U.heap) (q0 t0 : Nat) {t : Nat} {cA : ClassId} {n : Nat} {f : Nat → Int} (ha : ws[q0]? = some (t, .inl (cA, n, .inl (fun j => iI (f j))))) (ht : tys[t0]? = some (cA, .int)) (hB : ¬ B t) : TA B t n f U := by
  unfold TA
  have h3 := hP q0 _ ha
  have h4 := hK.2 t0 _ ht
  exact ⟨_, h3, h4.1 n (fun j => .int (iI (f j))), (fun q => by cases q), (by rw [vp_cell_i, arrV_size]; exact Nat.le_refl _), (by rw [vp_cell_i, arrV_size] <;> rfl), (fun j hj => by rw [vp_cell_i, arrV_read _ _ hj]), hB⟩
theorem PX {D : va_G} {A : Nat → Prop} {B X Y : va_W} {H : Heap} (hP : va_P D CL (B ++ (X ++ Y)) H) (hD : va_D A (B ++ (X ++ Y))) : va_P D CL (B ++ (Y ++ X)) H ∧ va_D A (B ++ (Y ++ X)) := by
  refine ⟨va_P.app hP.left hP.right.sw, va_D.app hD.left hD.right.sw (fun i j p q hi hj e => ?_)⟩
  have hm : q ∈ X ++ Y := by
    have := List.mem_of_getElem? hj
    rcases List.mem_append.mp this with h | h
    · exact List.mem_append_right _ h
    · exact List.mem_append_left _ h
  obtain ⟨j2, h2⟩ := List.getElem?_of_mem hm
  exact hD.apart i j2 p q hi h2 e
theorem CA1.mon {D : va_G} {cA cB : ClassId} {cx : Nat → ClassId} {sr : Nat → Nat} {CW : va_W} {g : Nat → Nat → Int} {i q nu le ru : Nat} {lp ep pd : Int} {H0 : Prop} {P : Int → Prop} {L : Int → Int} {fn fl : Nat → Int} {n : Nat} (hc : cM lp ep pd fn fl n) (hck : CK D cA cB cx sr CW (MonB D q nu le ru lp ep pd H0 P L fn fl n)) (hex : ∃ U : State, RuleAt D ru P L U)
    (hym : ∀ g', SOwn g g' i → YM g' i (ys ep pd L) (fun _ => (n : Int)) (fun pl _ => fn pl.toNat) (laM lp pd fl) (coM H0) (yaM H0) (fun y => H0 ∨ y ≠ 0)) (hlp : ∀ g', SOwn g g' i → ∀ k, P k ↔ lpM g' i k) : CA1 D cA cB cx sr CW g q i := by
  obtain ⟨U0, hU0⟩ := hex
  refine ⟨_, _, _, 60000000, by decide, fun g' h => CalOK.year (Cok.month hU0 hc H0) (hym g' h), fun U h1 h2 h3 => Or.inl ⟨_, _, _, _, _, _, ⟨rfl, rfl⟩, Or.inl ⟨nu, le, ru, lp, ep, pd, H0, P, L, fn, fl, n, ⟨hc, rfl, rfl, rfl, rfl, rfl, rfl, rfl⟩, hck U h1 h2 h3⟩⟩, (hym g (fun _ _ _ _ => rfl)).2.2.2.2.2.2.1, fun _ => ⟨fun y => P (coM H0 y), fun U h1 h2 h3 => Or.inl ⟨nu, le, ru, lp, ep, pd, H0, P, L, fn, fl, n, rfl, hck U h1 h2 h3⟩, fun g' h y hyy => ?_⟩⟩
  dsimp only
  rw [(hym g' h).2.2.2.2.2.1 y hyy]
  exact hlp g' h _
theorem plgE_row {g : Nat → Nat → Int} {k mo le ep ra rb rc : Int} (hk : 0 ≤ k ∧ k ≤ 1) : plgE g k mo le ep ra rb rc 9 = g 9 ∧ (∀ (r j : Nat), 2 ≤ r → r ≤ 8 → j ≠ Int.toNat k → plgE g k mo le ep ra rb rc r j = g r j) ∧ (plgE g k mo le ep ra rb rc 2 (Int.toNat k) = 1 ∧ plgE g k mo le ep ra rb rc 3 (Int.toNat k) = mo ∧ plgE g k mo le ep ra rb rc 4 (Int.toNat k) = le ∧ plgE g k mo le ep ra rb rc 5 (Int.toNat k) = ep ∧ plgE g k mo le ep ra rb rc 6 (Int.toNat k) = ra ∧ plgE g k mo le ep ra rb rc 7 (Int.toNat k) = rb ∧ plgE g k mo le ep ra rb rc 8 (Int.toNat k) = rc) := by
  refine ⟨?_, fun r j h1 h2 h3 => ?_, ?_⟩
  · unfold plgE plg upG
    simp
  · have hr : r = 2 ∨ r = 3 ∨ r = 4 ∨ r = 5 ∨ r = 6 ∨ r = 7 ∨ r = 8 := by omega
    rcases hr with rfl | rfl | rfl | rfl | rfl | rfl | rfl <;> (unfold plgE plg upG; simp [h3])
  · unfold plgE plg upG
    simp
theorem plug_cals {D : va_G} {cA cB : ClassId} {cx : Nat → ClassId} {sr : Nat → Nat} {CW : va_W} {g : Nat → Nat → Int} {ca : Nat → Option Nat} {cvA jlA hbA lo so mc0 : Nat} {k mo le ep ra rb rc : Int} {fo : Nat → Int} {s : State} {H : Heap} (hC : CALS D cA cB cx sr CW g ca cvA jlA hbA) (hK : va_K D CL [(cA, .object "DayBook$Calendar"), (cB, .byte), (cx 0, .int), (cx 1, .long), (cx 2, .boolean), (cx 3, .char)] s) (hX : va_P D CL [(lo, .inl (cx 0, Int.toNat mo, .inl (fun j => iI (fo j)))), (so, .inr (7, [.long (iL ra), .long (iL rb), .long (iL rc)])), (mc0, .inr (5, [.ref (sr 0), .ref lo, .int (iI (mo - 1)), .long (iL ep), .int (iI (bI True)), .ref so, .int (iI (cm fo (Int.toNat mo)))]))] H) (hk : 0 ≤ k ∧ k ≤ 1) (hok : okP mo le ep ra rb rc) (hfo : ∀ j : Nat, j < Int.toNat mo → fo j = le) :
    CALS D cA cB cx sr (CW ++ [(lo, .inl (cx 0, Int.toNat mo, .inl (fun j => iI (fo j)))), (so, .inr (7, [.long (iL ra), .long (iL rb), .long (iL rc)])), (mc0, .inr (5, [.ref (sr 0), .ref lo, .int (iI (mo - 1)), .long (iL ep), .int (iI (bI True)), .ref so, .int (iI (cm fo (Int.toNat mo)))]))]) (plgE g k mo le ep ra rb rc) (va_up ca (Int.toNat (12 + k)) (some mc0)) cvA jlA hbA := by
  obtain ⟨a1, a2, a3, a4⟩ := hC
  obtain ⟨p1, p2, q2, q3, q4, q5, q6, q7, q8⟩ := plgE_row (g := g) (mo := mo) (le := le) (ep := ep) (ra := ra) (rb := rb) (rc := rc) hk
  obtain ⟨o1, o2, o3, o4, o5, o6⟩ := hok
  have cf : ∀ {q i}, CF D cA cB cx sr CW q i → CF D cA cB cx sr (CW ++ [(lo, .inl (cx 0, Int.toNat mo, .inl (fun j => iI (fo j)))), (so, .inr (7, [.long (iL ra), .long (iL rb), .long (iL rc)])), (mc0, .inr (5, [.ref (sr 0), .ref lo, .int (iI (mo - 1)), .long (iL ep), .int (iI (bI True)), .ref so, .int (iI (cm fo (Int.toNat mo)))]))]) q i := fun h => by
    obtain ⟨S, nm, ma, la, co, ya, hy, k1, k2⟩ := h
    exact ⟨S, nm, ma, la, co, ya, hy, k1.more, k2⟩
  refine ⟨fun i hi => ?_, cf a2, cf a3, a4.more⟩
  by_cases hik : i = Int.toNat (12 + k)
  · have ei : (i : Int) = 12 + k := by omega
    have ei2 : i - 12 = Int.toNat k := by omega
    refine Or.inr ⟨mc0, by unfold va_up; rw [if_pos hik], Or.inr ⟨by omega, by rw [show Int.toNat ((i : Int) - 12) = Int.toNat k by omega, q2]; decide⟩, ?_⟩
    have hcm : cM (mo - 1) ep (cm fo (Int.toNat mo)) (dF 0) fo (Int.toNat mo) := by
      refine ⟨o3, ?_, by omega, by omega, fun j hj => by rw [hfo j hj]; omega, fun j hj => by have := dF0_eq j hj; omega, rfl⟩
      rw [cm_cst hfo, show ((Int.toNat mo : Nat) : Int) = mo by omega]
      have h1 : le * 1 ≤ le * mo := Int.mul_le_mul_of_nonneg_left (by omega) (by omega)
      have h2 : le * mo ≤ 40 * mo := Int.mul_le_mul_of_nonneg_right (by omega) (by omega)
      omega
    have hrl : ∀ U : State, va_K D CL [(cA, .object "DayBook$Calendar"), (cB, .byte), (cx 0, .int), (cx 1, .long), (cx 2, .boolean), (cx 3, .char)] U → va_P D CL [(lo, .inl (cx 0, Int.toNat mo, .inl (fun j => iI (fo j)))), (so, .inr (7, [.long (iL ra), .long (iL rb), .long (iL rc)])), (mc0, .inr (5, [.ref (sr 0), .ref lo, .int (iI (mo - 1)), .long (iL ep), .int (iI (bI True)), .ref so, .int (iI (cm fo (Int.toNat mo)))]))] U.heap → RuleAt D so (ylS ra rb rc) (lbS ra rb rc) U := fun U h1 h2 => Or.inl ⟨ra, rb, rc, ⟨by omega, by omega, by omega, by omega, by omega, by omega, rfl, rfl⟩, va_K.sub h1 [] rfl, va_P.sub h2 [1] rfl⟩
    have hown : ∀ g', SOwn (plgE g k mo le ep ra rb rc) g' i → g' 3 (Int.toNat k) = mo ∧ g' 4 (Int.toNat k) = le ∧ g' 5 (Int.toNat k) = ep ∧ g' 6 (Int.toNat k) = ra ∧ g' 7 (Int.toNat k) = rb ∧ g' 8 (Int.toNat k) = rc := fun g' h => by
      have h9 := h (by omega)
      rw [ei2] at h9
      exact ⟨(h9 3 (by decide) (by decide)).trans q3, (h9 4 (by decide) (by decide)).trans q4, (h9 5 (by decide) (by decide)).trans q5, (h9 6 (by decide) (by decide)).trans q6, (h9 7 (by decide) (by decide)).trans q7, (h9 8 (by decide) (by decide)).trans q8⟩
    refine CA1.mon (nu := sr 0) (le := lo) (ru := so) (H0 := True) (P := ylS ra rb rc) (L := lbS ra rb rc) hcm (fun U h1 h2 h3 => ⟨⟨va_K.sub h1 [] rfl, va_P.sub h2.right [2] rfl⟩, hrl U h1 h2.right, (h3 0 (by decide)).2, TA.ofU h1 h2.right 0 2 rfl rfl (fun h => h)⟩) ⟨{ s with heap := H }, hrl _ (va_K.moved (u := s) (U := { s with heap := H }) (Vm.Alike.refl s.vm) hK) hX⟩ (fun g' h => ?_) (fun g' h y => ?_)
    · obtain ⟨e3, e4, e5, e6, e7, e8⟩ := hown g' h
      have := YM.own (g := g') (i := Int.toNat k) (by omega) ⟨by omega, by omega, by omega, by omega, by omega, by omega⟩ (fl := fo) (fun j hj => by rw [e3] at hj; rw [e4]; exact hfo j hj)
      rw [e3, e5, e6, e7, e8, show (12 : Int) + ((Int.toNat k : Nat) : Int) = (i : Int) by omega] at this
      exact this
    · obtain ⟨e3, e4, e5, e6, e7, e8⟩ := hown g' h
      unfold lpM
      rw [if_neg (by omega), if_neg (by omega), if_neg (by omega), if_neg (by omega), if_neg (by omega), if_neg (by omega), if_neg (by omega), if_neg (by omega), if_neg (by omega), show Int.toNat ((i : Int) - 12) = Int.toNat k by omega, e6, e7, e8]
  · have hca : va_up ca (Int.toNat (12 + k)) (some mc0) i = ca i := by unfold va_up; rw [if_neg hik]
    have hc : hcM (plgE g k mo le ep ra rb rc) i ↔ hcM g i := by
      unfold hcM
      by_cases q : 12 ≤ (i : Int)
      · rw [p2 2 (Int.toNat ((i : Int) - 12)) (by decide) (by decide) (by omega)]
      · constructor
        · rintro (z | z)
          · exact Or.inl z
          · omega
        · rintro (z | z)
          · exact Or.inl z
          · omega
    have hs : SOwn g (plgE g k mo le ep ra rb rc) i := fun h9 r h1 h2 => p2 r (i - 12) (by omega) h2 (by omega)
    rcases a1 i hi with ⟨k1, k2⟩ | ⟨q, k1, k2, k3⟩
    · exact Or.inl ⟨by rw [hca]; exact k1, fun z => k2 (hc.mp z)⟩
    · exact Or.inr ⟨q, by rw [hca]; exact k1, hc.mpr k2, k3.move hs⟩

