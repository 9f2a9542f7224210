/-! 75.semB: laid by program (wip/whole) -/
theorem dy_at {g : Nat → Nat → Int} {cal : Int} {S nm : Int → Int} {ma la : Int → Int → Int} {co ya : Int → Int} {hy : Int → Prop} (hC : Cok S nm ma la co ya) (hY : YM g cal S nm ma la co ya hy) {y mn dd r : Int} (hy0 : ¬ ((cal = 1 ∨ cal = 6) ∧ y = 0)) {pl : Nat} (hpl : (pl : Int) < nmM g cal (ctd cal y)) (hm : maM cal (ctd cal y) pl = mn) (hdd : 1 ≤ dd ∧ dd ≤ lnM g cal (ctd cal y) mn) (h : DYY S nm ma la co hy y mn dd r) : stM g cal (ctd cal y) ≤ r ∧ r ≤ stM g cal (ctd cal y) + 2000 := by
  obtain ⟨c1, c2, c3, c4, c5, c6, c7⟩ := hC
  obtain ⟨y1, y2, y3, y4, y5, y6, y7, y8⟩ := hY
  have hyy : hy y := (y7 y).mpr hy0
  have hk := y3 (ctd cal y)
  have hc := c3 (ctd cal y)
  rw [hk.1] at hc
  unfold DYY at h
  rw [y6 y hyy] at h
  rcases h with ⟨h, -⟩ | ⟨-, ⟨p2, q1, q2, q3, q4⟩ | ⟨q1, -⟩⟩
  · exact absurd hyy h
  · rw [hk.1] at q1
    have e1 : p2 = pl := y4 _ _ _ q1 hpl (by rw [← (hk.2 p2 q1).1, q2, hm])
    subst e1
    have hl := (hk.2 p2 q1).2
    rw [hm] at hl
    rcases q4 with ⟨-, q5⟩ | ⟨q5, -⟩
    · have pos : ∀ j, j < (nmM g cal (ctd cal y)).toNat → 0 ≤ (fun i : Nat => la i (S (ctd cal y + 1) - S (ctd cal y))) j := fun j hj => by
        have h1 := hc.2.2.1 j (by omega)
        show 0 ≤ la j (S (ctd cal y + 1) - S (ctd cal y))
        omega
      have a1 := cm_leR (f := fun i : Nat => la i (S (ctd cal y + 1) - S (ctd cal y))) pos 0 p2 (by omega)
      rw [Nat.zero_add] at a1
      have a2 := cm_leR (f := fun i : Nat => la i (S (ctd cal y + 1) - S (ctd cal y))) pos (p2 + 1) ((nmM g cal (ctd cal y)).toNat - (p2 + 1)) (by omega)
      rw [show p2 + 1 + ((nmM g cal (ctd cal y)).toNat - (p2 + 1)) = (nmM g cal (ctd cal y)).toNat by omega, hc.2.2.2] at a2
      have a3 : cm (fun i : Nat => la i (S (ctd cal y + 1) - S (ctd cal y))) (p2 + 1) = cm (fun i : Nat => la i (S (ctd cal y + 1) - S (ctd cal y))) p2 + la p2 (S (ctd cal y + 1) - S (ctd cal y)) := rfl
      have a4 := c2 (ctd cal y)
      have a0 : (0 : Int) ≤ cm (fun i : Nat => la i (S (ctd cal y + 1) - S (ctd cal y))) p2 := a1
      rw [← y2]
      omega
    · exact absurd (by rw [hl]; exact hdd) q5
  · rw [hk.1] at q1
    exact absurd (by rw [(hk.2 pl hpl).1, hm]) (q1 pl hpl)
theorem st0_rng {g : Nat → Nat → Int} {y : Int} (h : -90001 ≤ y ∧ y ≤ 90001) : -33500000 ≤ stM g 0 y ∧ stM g 0 y ≤ 33500000 := by
  rw [stM_p (by decide) (by decide)]
  unfold ysM ys
  have e1 : epM g 0 = 1 := rfl
  have e2 : plM g 0 = 365 := by simp [plM]
  have e3 : ∀ k, lbM g 0 k = lb0 k := fun k => rfl
  rw [e1, e2, e3, e3]
  unfold lb0
  omega
theorem st1_rng {g : Nat → Nat → Int} {y : Int} (h : -90010 ≤ y ∧ y ≤ 90010) : -33500000 ≤ stM g 1 y ∧ stM g 1 y ≤ 33500000 := by
  rw [stM_p (by decide) (by decide)]
  unfold ysM ys
  have e1 : epM g 1 = -1 := rfl
  have e2 : plM g 1 = 365 := by simp [plM]
  have e3 : ∀ k, lbM g 1 k = lbS 1 0 4 k := fun k => rfl
  rw [e1, e2, e3, e3]
  unfold lbS
  omega
theorem len_ub {S : Int → Int} {c : Int} (h : ∀ y, S (y + 1) ≤ S y + c) (a : Int) : ∀ n : Nat, S (a + n) ≤ S a + c * n
  | 0 => by rw [show a + ((0 : Nat) : Int) = a by omega]; omega
  | n + 1 => by
    have := len_ub h a n
    have h2 := h (a + n)
    rw [show a + ((n + 1 : Nat) : Int) = a + n + 1 by omega, show ((n + 1 : Nat) : Int) = (n : Int) + 1 by omega, Int.mul_add, Int.mul_one]
    omega
theorem hst_rng2 {y : Int} (h : -100000 ≤ y ∧ y ≤ 100000) : -50000000 ≤ hst y ∧ hst y ≤ 50000000 := by
  have h1 := hst_one
  have hl : ∀ y, hst (y + 1) ≤ hst y + 385 := fun y => by have := hst_len y; omega
  by_cases q : 1 ≤ y
  · have a1 := len_ub hl 1 (Int.toNat (y - 1))
    have a2 := hst_inc.gap q
    rw [show (1 : Int) + ((Int.toNat (y - 1) : Nat) : Int) = y by omega] at a1
    omega
  · have a1 := len_ub hl y (Int.toNat (1 - y))
    have a2 := hst_inc.gap (show y ≤ 1 by omega)
    rw [show y + ((Int.toNat (1 - y) : Nat) : Int) = 1 by omega] at a1
    omega
theorem fe_rng0 {g : Nat → Nat → Int} {S nm : Int → Int} {ma la : Int → Int → Int} {co ya : Int → Int} {hy : Int → Prop} (hY : YM g 0 S nm ma la co ya hy) (hC : Cok S nm ma la co ya) {y r : Int} (hyr : -90000 ≤ y ∧ y ≤ 90000) (h : DYY S nm ma la co hy y 4 19 r) : -40000000 ≤ r ∧ r ≤ 40000000 := by
  have ec : ctd 0 y = y := by unfold ctd; rw [if_neg (by omega)]
  have h1 := dy_at hC hY (by omega) (pl := 3) (by rw [ec]; show (3 : Int) < 12; decide) (by rw [maM_p (by decide) (by decide)]; rfl) ⟨by decide, by rw [ec]; show (19 : Int) ≤ 30; decide⟩ h
  rw [ec] at h1
  have h2 := st0_rng (g := g) (y := y) (by omega)
  omega
theorem fe_rng1 {g : Nat → Nat → Int} {S nm : Int → Int} {ma la : Int → Int → Int} {co ya : Int → Int} {hy : Int → Prop} (hY : YM g 1 S nm ma la co ya hy) (hC : Cok S nm ma la co ya) {y r : Int} (hyr : -90000 ≤ y ∧ y ≤ 90000) (h : DYY S nm ma la co hy (if 0 < y then y else y - 1) 4 19 r) : -40000000 ≤ r ∧ r ≤ 40000000 := by
  generalize hq : (if 0 < y then y else y - 1) = yy at h
  have hyy : (-90001 ≤ yy ∧ yy ≤ 90000) ∧ yy ≠ 0 := by split at hq <;> omega
  have hc2 := ctd_rng (cal := 1) (y := yy)
  have h1 := dy_at hC hY (by omega) (pl := 3) (by show (3 : Int) < 12; decide) (by rw [maM_p (by decide) (by decide)]; rfl) ⟨by decide, by show (19 : Int) ≤ 30; decide⟩ h
  have h2 := st1_rng (g := g) (y := ctd 1 yy) (by omega)
  omega
theorem fe_rng2 {y r : Int} (hyr : -90000 ≤ y ∧ y ≤ 90000) (h : DYY hst nmH maH laH (fun y => y) (fun _ => True) (y + 3760) 1 15 r) : -60000000 ≤ r ∧ r ≤ 60000000 := by
  have ec : ctd 9 (y + 3760) = y + 3760 := by unfold ctd; rw [if_neg (by omega)]
  have hb := bI_01 (yl9 (y + 3760))
  have hn9 : nmM (fun _ _ => 0) 9 (y + 3760) = 12 + bI (yl9 (y + 3760)) := by unfold nmM; simp
  obtain ⟨pl, p1, p2⟩ : ∃ pl : Nat, (pl : Int) < 12 + bI (yl9 (y + 3760)) ∧ maM 9 (y + 3760) pl = 1 := by
    rcases bI_or (yl9 (y + 3760)) with q | q
    · refine ⟨6, by omega, ?_⟩
      rw [maM_9, q]; decide
    · refine ⟨7, by omega, ?_⟩
      rw [maM_9, q]; decide
  have h1 := dy_at (g := fun _ _ => 0) Cok.moon (YM.moon _ hst_one) (by omega) (pl := pl) (by rw [ec, hn9]; exact p1) (by rw [ec]; exact p2) ⟨by decide, by rw [ec]; show (15 : Int) ≤ mlM (y + 3760) (lpM (fun _ _ => 0) 9 (y + 3760)) 1; unfold mlM; rw [if_neg (by decide), if_neg (by decide), if_neg (by decide), if_pos (by decide)]; decide⟩ h
  rw [ec, stM_9] at h1
  have := hst_rng2 (y := y + 3760) (by omega)
  omega
theorem eaN_rng (y : Int) : 0 ≤ eaN y ∧ eaN y ≤ 31 := by
  have : 0 ≤ eaH y ∧ eaH y < 30 := by unfold eaH; omega
  unfold eaN
  split <;> omega
theorem sunb_rng {d : Int} (h : -100000000 ≤ d ∧ d ≤ 100000000) : -100000000 ≤ sunb d ∧ sunb d ≤ 100000010 := by
  unfold sunb
  omega

theorem sem_feast {l : Launch} {D : va_G} {cA cB : ClassId} {cx : Nat → ClassId} {sr : Nat → Nat} {b cvA jlA hbA csA sbA vbA : Nat} {ca : Nat → Option Nat} {N : Nat} {z ml : Int} {tx : Nat → Int} {CW : va_W} {oa : Nat} {v0 : Nat → Int} {a : Nat} {ad : Nat → Nat} {F : Nat → Int} {g : Nat → Nat → Int} {s : State} {H : Heap} {Lx : List Int} (hfl : l.flags = pinnedFlags ++ [noTraceFlag]) (hU : ∀ U : State, U.heap = H → s.WarmedH U.vm → UA D cA cB cx sr b cvA jlA hbA csA sbA vbA ca N z ml tx CW U) (hv : MInv g) (hca : CacheOK F g) (hC : CALS D cA cB cx sr CW g ca cvA jlA hbA) (w : Int) (y : Int) (r_w : -2147483648 ≤ w ∧ w ≤ 2147483647) (r_y : -2147483648 ≤ y ∧ y ≤ 2147483647) : ∃ (kc : Int) (v1 : Nat → Int) (x : Int), (0 ≤ kc ∧ kc ≤ 4) ∧ (-2147483648 ≤ x ∧ x ≤ 2147483647) ∧ WCall l s H D cx oa v0 y_W_feast w_W_feast [.ref b, .int (iI w), .int (iI y), .ref oa] kc v1 ∧ MCall l D a ad cx F g y_M_feast w_M_feast [.ref a, .int (iI w), .int (iI y)] x (fun u => u.2 = g ∧ u.1 0 = kc ∧ u.1 8 = F 8 ∧ CacheOK u.1 g) ∧ (kc = 0 → v1 0 = x) := by
  obtain ⟨-, ⟨S0, nm0, ma0, la0, co0, ya0, hy0, hCv, hc0, hy0m⟩, ⟨S1, nm1, ma1, la1, co1, ya1, hy1, hJl, hc1, hy1m⟩, hHb⟩ := hC
  by_cases hw : 0 ≤ w ∧ w ≤ 2
  · by_cases hyr : -90000 ≤ y ∧ y ≤ 90000
    · have hw3 : w = 0 ∨ w = 1 ∨ w = 2 := by omega
      rcases hw3 with hw0 | hw0 | hw0
      · obtain ⟨fY, fM, fD, c1, c2, c3⟩ := CalOK.year hc0 (hy0m g)
        obtain ⟨r, r1, r2, r3, r4⟩ := c3 y 4 19 (by omega)
        have hr := fe_rng0 (hy0m g) hc0 hyr r1
        have hx := sunb_rng (d := r - eaN y) (by have := eaN_rng y; omega)
        refine ⟨0, upF v0 (Int.toNat 0) (sunb (r - eaN y)), sunb (r - eaN y), by decide, by omega, ⟨7 + 1, 8 + (3 + 11) + 175, 0, 0, (fun U => BkB D b cvA jlA hbA csA sbA vbA cA cB ca N z ml tx U ∧ MCP D cvA S0 nm0 ma0 la0 co0 ya0 hy0 U), by decide, ct_W_feast l D b oa (cx 1) v0 w y 7 175 (fun U => BkB D b cvA jlA hbA csA sbA vbA cA cB ca N z ml tx U ∧ MCP D cvA S0 nm0 ma0 la0 co0 ya0 hy0 U) (sunb (r - eaN y)) H.size (ct_B_feast_0 l D b cvA jlA hbA csA sbA vbA cA cB ca N z ml tx w y S0 nm0 ma0 la0 co0 ya0 hy0 r (by omega) (by omega) hw0 hyr (by omega) r1) (Bm.and BkB.m MCP.m) (fun U h => BkB.recv h.1) (by omega), (Bm.and BkB.m MCP.m), fun U h1 h2 => ⟨(hU U h1 h2).bk, (hU U h1 h2).ck hCv⟩⟩, ⟨11, 283, by decide, (ct_M_feast l D a ad cx F g w y 0 (sunb (r - eaN y)) r hv hca (by omega) (by omega) (by omega) (Or.inr (Or.inr ⟨rfl, hw, hyr, Or.inr (Or.inr ⟨hw0, r2, rfl⟩)⟩)))⟩, fun _ => ?_⟩
        exact upF0
      · obtain ⟨fY, fM, fD, c1, c2, c3⟩ := CalOK.year hc1 (hy1m g)
        obtain ⟨r, r1, r2, r3, r4⟩ := c3 (if 0 < y then y else y - 1) 4 19 (by split <;> omega)
        have hr := fe_rng1 (hy1m g) hc1 hyr r1
        have hx := sunb_rng (d := r - (14 + 11 * (y % 19)) % 30) (by omega)
        refine ⟨0, upF v0 (Int.toNat 0) (sunb (r - (14 + 11 * (y % 19)) % 30)), sunb (r - (14 + 11 * (y % 19)) % 30), by decide, by omega, ⟨7 + 1, 8 + (3 + 11) + 175, 0, 0, (fun U => BkB D b cvA jlA hbA csA sbA vbA cA cB ca N z ml tx U ∧ MCP D jlA S1 nm1 ma1 la1 co1 ya1 hy1 U), by decide, ct_W_feast l D b oa (cx 1) v0 w y 7 175 (fun U => BkB D b cvA jlA hbA csA sbA vbA cA cB ca N z ml tx U ∧ MCP D jlA S1 nm1 ma1 la1 co1 ya1 hy1 U) (sunb (r - (14 + 11 * (y % 19)) % 30)) H.size (ct_B_feast_1 l D b cvA jlA hbA csA sbA vbA cA cB ca N z ml tx w y S1 nm1 ma1 la1 co1 ya1 hy1 r (by omega) (by omega) hw0 hyr (by omega) r1) (Bm.and BkB.m MCP.m) (fun U h => BkB.recv h.1) (by omega), (Bm.and BkB.m MCP.m), fun U h1 h2 => ⟨(hU U h1 h2).bk, (hU U h1 h2).ck hJl⟩⟩, ⟨11, 283, by decide, (ct_M_feast l D a ad cx F g w y 0 (sunb (r - (14 + 11 * (y % 19)) % 30)) r hv hca (by omega) (by omega) (by omega) (Or.inr (Or.inr ⟨rfl, hw, hyr, Or.inr (Or.inl ⟨hw0, r2, rfl⟩)⟩)))⟩, fun _ => ?_⟩
        exact upF0
      · obtain ⟨fY, fM, fD, c1, c2, c3⟩ := CalOK.year Cok.moon (YM.moon g hst_one)
        obtain ⟨r, r1, r2, r3, r4⟩ := c3 (y + 3760) 1 15 (by omega)
        have hr := fe_rng2 hyr r1
        refine ⟨0, upF v0 (Int.toNat 0) r, r, by decide, by omega, ⟨7 + 1, 8 + (3 + 11) + 175, 0, 0, (fun U => BkB D b cvA jlA hbA csA sbA vbA cA cB ca N z ml tx U ∧ OB D [(hbA, .inr (3, []))] U), by decide, ct_W_feast l D b oa (cx 1) v0 w y 7 175 (fun U => BkB D b cvA jlA hbA csA sbA vbA cA cB ca N z ml tx U ∧ OB D [(hbA, .inr (3, []))] U) r H.size (ct_B_feast_2 l D b cvA jlA hbA csA sbA vbA cA cB ca N z ml tx w y r (by omega) (by omega) hw0 hyr (by omega) r1) (Bm.and BkB.m OB.m) (fun U h => BkB.recv h.1) (by omega), (Bm.and BkB.m OB.m), fun U h1 h2 => ⟨(hU U h1 h2).bk, (hU U h1 h2).ck hHb⟩⟩, ⟨11, 283, by decide, (ct_M_feast l D a ad cx F g w y 0 r r hv hca (by omega) (by omega) (by omega) (Or.inr (Or.inr ⟨rfl, hw, hyr, Or.inl ⟨hw0, r2, rfl⟩⟩)))⟩, fun _ => ?_⟩
        exact upF0
    · exact ⟨2, v0, 0, by decide, by decide, ⟨7 + 1, 8 + (3 + 11) + 175, 1, 6, (fun U => (fun U => BkB D b cvA jlA hbA csA sbA vbA cA cB ca N z ml tx U ∧ TSt U) U ∧ NCX U), by decide, ct_W_feast_AR l D b oa (cx 1) v0 w y 7 175 (fun U => BkB D b cvA jlA hbA csA sbA vbA cA cB ca N z ml tx U ∧ TSt U) H.size (ct_B_feast_a l hfl D b cvA jlA hbA csA sbA vbA cA cB ca N z ml tx w y (by omega) (by omega) hw hyr) (Bm.and BkB.m TSt.m) (fun U h => BkB.recv h.1), Bm.and (Bm.and BkB.m TSt.m) NCX.m, fun U h1 h2 => ⟨⟨(hU U h1 h2).bk, (hU U h1 h2).2.2.2.2.2.1⟩, (hU U h1 h2).2.2.2.2.2.2⟩⟩, ⟨11, 283, by decide, (ct_M_feast l D a ad cx F g w y 2 0 0 hv hca (by omega) (by omega) (by omega) (Or.inr (Or.inl ⟨rfl, hw, hyr, rfl⟩)))⟩, fun h => absurd h (by decide)⟩
  · exact ⟨1, v0, 0, by decide, by decide, ⟨7 + 1, 8 + (3 + 11) + 175, 1, 6, (fun U => (fun U => BkB D b cvA jlA hbA csA sbA vbA cA cB ca N z ml tx U ∧ TSt U) U ∧ NCX U), by decide, ct_W_feast_IX l D b oa (cx 1) v0 w y 7 175 (fun U => BkB D b cvA jlA hbA csA sbA vbA cA cB ca N z ml tx U ∧ TSt U) H.size (ct_B_feast_x l hfl D b cvA jlA hbA csA sbA vbA cA cB ca N z ml tx w y (by omega) (by omega) hw) (Bm.and BkB.m TSt.m) (fun U h => BkB.recv h.1), Bm.and (Bm.and BkB.m TSt.m) NCX.m, fun U h1 h2 => ⟨⟨(hU U h1 h2).bk, (hU U h1 h2).2.2.2.2.2.1⟩, (hU U h1 h2).2.2.2.2.2.2⟩⟩, ⟨11, 283, by decide, (ct_M_feast l D a ad cx F g w y 1 0 0 hv hca (by omega) (by omega) (by omega) (Or.inl ⟨rfl, hw, rfl⟩))⟩, fun h => absurd h (by decide)⟩
