/-! 67.eqA: laid by program (wip/whole) -/
/-! class and reference: one calendar -/
theorem cm_congr {f h : Nat → Int} : ∀ {k : Nat}, (∀ j, j < k → f j = h j) → cm f k = cm h k
  | 0, _ => rfl
  | k + 1, q => by
    show cm f k + f k = cm h k + h k
    rw [cm_congr (k := k) (fun j hj => q j (by omega)), q k (by omega)]
theorem cm_ex {f : Nat → Int} {x : Int} (h0 : 0 ≤ x) : ∀ {k : Nat}, x < cm f k → ∃ pl : Nat, pl < k ∧ cm f pl ≤ x ∧ x < cm f (pl + 1)
  | 0, h => absurd h (by show ¬ x < 0; omega)
  | k + 1, h => by
    by_cases q : x < cm f k
    · obtain ⟨pl, h1, h2⟩ := cm_ex h0 q
      exact ⟨pl, by omega, h2⟩
    · exact ⟨k, by omega, by omega, h⟩
/-- class and reference date the days of ±45,000,000 alike, and find the days of dates alike -/
def CalOK (g : Nat → Nat → Int) (cal : Int) (DT : Int → Int → Prop) (DR : Int → Int → Int → Int → Prop) (YB : Int) : Prop :=
  ∃ fY fM fD : Int → Int,
   (∀ d, (-45000000 ≤ d ∧ d ≤ 45000000) → DT d (fY d * 65536 + fM d * 256 + fD d) ∧ DTM g cal d (fY d) (fM d) (fD d) ∧ (-70000000 ≤ fY d ∧ fY d ≤ 70000000) ∧ (0 ≤ fM d ∧ fM d ≤ 200) ∧ (1 ≤ fD d ∧ fD d ≤ 200) ∧ (-34000001 ≤ d ∧ d ≤ 34000001 → -50000000 ≤ fY d ∧ fY d ≤ 50000000 ∧ -YB ≤ fY d ∧ fY d ≤ YB)) ∧
   (∀ d d', -45000000 ≤ d → d ≤ d' → d' ≤ 45000000 → fY d ≤ fY d' ∧ fY d' ≤ fY d + (d' - d) + 1) ∧
   (∀ y mn dd, (-YB ≤ y ∧ y ≤ YB) → ∃ r, DR y mn dd r ∧ DOM g cal y mn dd r ∧ (r = -9223372036854775808 ∨ (-1000000000000000 ≤ r ∧ r ≤ 1000000000000000)) ∧ ∀ d, (-45000000 ≤ d ∧ d ≤ 45000000) → (r = d ↔ (fY d = y ∧ fM d = mn ∧ fD d = dd)))
/-- a calendar of years in the class is the reference's -/
def YM (g : Nat → Nat → Int) (cal : Int) (S nm : Int → Int) (ma la : Int → Int → Int) (co ya : Int → Int) (hy : Int → Prop) : Prop :=
  (cal = 0 ∨ cal = 1 ∨ cal = 3 ∨ cal = 4 ∨ cal = 5 ∨ cal = 6 ∨ cal = 7 ∨ cal = 8 ∨ cal = 9 ∨ cal = 12 ∨ cal = 13) ∧ S = stM g cal ∧ (∀ k, nm (S (k + 1) - S k) = nmM g cal k ∧ ∀ j : Nat, (j : Int) < nmM g cal k → ma j (S (k + 1) - S k) = maM cal k j ∧ la j (S (k + 1) - S k) = lnM g cal k (maM cal k j)) ∧ (∀ (k : Int) (i j : Nat), (i : Int) < nmM g cal k → (j : Int) < nmM g cal k → maM cal k i = maM cal k j → i = j) ∧ (∀ k, ya k = nmd cal k) ∧ (∀ y, hy y → co y = ctd cal y) ∧ (∀ y, hy y ↔ ¬ ((cal = 1 ∨ cal = 6) ∧ y = 0)) ∧ (-2000000 ≤ S 1 ∧ S 1 ≤ 2000000)
theorem nmd_ctd {cal y : Int} (h : ¬ ((cal = 1 ∨ cal = 6) ∧ y = 0)) : nmd cal (ctd cal y) = y := by
  unfold nmd ctd
  split <;> split <;> omega
theorem ctd_nmd {cal k : Int} : ctd cal (nmd cal k) = k ∧ ¬ ((cal = 1 ∨ cal = 6) ∧ nmd cal k = 0) := by
  unfold nmd ctd
  split
  · rw [if_pos (by omega)]
    omega
  · rw [if_neg (by omega)]
    omega
theorem nmd_mono {cal k k' : Int} (h : k ≤ k') : nmd cal k ≤ nmd cal k' ∧ nmd cal k' ≤ nmd cal k + (k' - k) + 1 ∧ k - 1 ≤ nmd cal k ∧ nmd cal k ≤ k := by
  unfold nmd
  split <;> split <;> omega
theorem DOM_y {g : Nat → Nat → Int} {cal y mn dd r : Int} (hc : (cal = 0 ∨ cal = 1 ∨ cal = 3 ∨ cal = 4 ∨ cal = 5 ∨ cal = 6 ∨ cal = 7 ∨ cal = 8 ∨ cal = 9 ∨ cal = 12 ∨ cal = 13)) : DOM g cal y mn dd r ↔ (if ((cal = 1 ∨ cal = 6) ∧ y = 0) ∨ dd < 1 then r = -9223372036854775808 else ∃ b, BF g cal (ctd cal y) mn b ∧ (if 0 ≤ b ∧ dd ≤ lnM g cal (ctd cal y) mn then r = stM g cal (ctd cal y) + b + dd - 1 else r = -9223372036854775808)) := by
  unfold DOM
  rw [if_neg (show ¬ cal = 10 by omega), if_neg (show ¬ cal = 11 by omega), if_neg (show ¬ cal = 2 by omega)]
theorem first_or (P : Nat → Prop) (k : Nat) : (∃ pl, pl < k ∧ P pl ∧ ∀ j, j < pl → ¬ P j) ∨ ∀ j, j < k → ¬ P j := by
  induction k with
  | zero => exact Or.inr (fun j hj => absurd hj (Nat.not_lt_zero _))
  | succ k ih =>
    rcases ih with ⟨pl, h1, h2⟩ | h
    · exact Or.inl ⟨pl, by omega, h2⟩
    · by_cases q : P k
      · exact Or.inl ⟨k, by omega, q, h⟩
      · refine Or.inr (fun j hj => ?_)
        by_cases z : j = k
        · subst z; exact q
        · exact h j (by omega)
theorem CalOK.year {g : Nat → Nat → Int} {cal : Int} {S nm : Int → Int} {ma la : Int → Int → Int} {co ya : Int → Int} {hy : Int → Prop} (hC : Cok S nm ma la co ya) (hY : YM g cal S nm ma la co ya hy) : CalOK g cal (DTY S nm ma la ya) (DYY S nm ma la co hy) 60000000 := by
  obtain ⟨c1, c2, c3, c4, c5, c6, c7⟩ := hC
  obtain ⟨y1, y2, y3, y4, y5, y6, y7, y8⟩ := hY
  -- the months of a year
  have sums : ∀ (k : Int) (pl : Nat), (pl : Int) ≤ nmM g cal k → cm (fun i => la i (S (k + 1) - S k)) pl = cm (fun i => lnM g cal k (maM cal k i)) pl := fun k pl hp => cm_congr (fun j hj => ((y3 k).2 j (by omega)).2)
  have pos : ∀ (k : Int) (j : Nat), j < (nmM g cal k).toNat → 0 ≤ (fun i : Nat => la i (S (k + 1) - S k)) j := fun k j hj => by
    have h1 := (c3 k).2.2.1 j (by rw [(y3 k).1]; omega)
    show 0 ≤ la j (S (k + 1) - S k)
    omega
  have ex : ∀ d : Int, ∃ (t : Int × Nat), (S t.1 ≤ d ∧ d < S (t.1 + 1)) ∧ (t.2 : Int) < nmM g cal t.1 ∧ cm (fun i => la i (S (t.1 + 1) - S t.1)) t.2 ≤ d - S t.1 ∧ d - S t.1 < cm (fun i => la i (S (t.1 + 1) - S t.1)) (t.2 + 1) := fun d => by
    obtain ⟨k, k1, k2⟩ := c1.ex d
    obtain ⟨-, -, -, q4⟩ := c3 k
    rw [(y3 k).1] at q4
    obtain ⟨pl, p1, p2, p3⟩ := cm_ex (f := fun i : Nat => la i (S (k + 1) - S k)) (x := d - S k) (by omega) (k := (nmM g cal k).toNat) (by rw [q4]; omega)
    exact ⟨(k, pl), ⟨k1, k2⟩, by show (pl : Int) < nmM g cal k; omega, p2, p3⟩
  let T : Int → Int × Nat := fun d => Classical.choose (ex d)
  have hT : ∀ d, (S (T d).1 ≤ d ∧ d < S ((T d).1 + 1)) ∧ ((T d).2 : Int) < nmM g cal (T d).1 ∧ cm (fun i => la i (S ((T d).1 + 1) - S (T d).1)) (T d).2 ≤ d - S (T d).1 ∧ d - S (T d).1 < cm (fun i => la i (S ((T d).1 + 1) - S (T d).1)) ((T d).2 + 1) := fun d => Classical.choose_spec (ex d)
  have uni : ∀ (d k : Int) (pl : Nat), S k ≤ d → d < S (k + 1) → (pl : Int) < nmM g cal k → cm (fun i => la i (S (k + 1) - S k)) pl ≤ d - S k → d - S k < cm (fun i => la i (S (k + 1) - S k)) (pl + 1) → (T d).1 = k ∧ (T d).2 = pl := fun d k pl h1 h2 h3 h4 h5 => by
    obtain ⟨⟨t1, t2⟩, t3, t4, t5⟩ := hT d
    have e1 := c1.uniq t1 t2 h1 h2
    rw [e1] at t3 t4 t5
    exact ⟨e1, cm_uniqR (N := (nmM g cal k).toNat) (pos k) (by omega) (by omega) t4 t5 h4 h5⟩
  refine ⟨fun d => nmd cal (T d).1, fun d => maM cal (T d).1 (T d).2, fun d => d - S (T d).1 - cm (fun i => la i (S ((T d).1 + 1) - S (T d).1)) (T d).2 + 1, fun d hd => ?_, fun d d' h1 h2 h3 => ?_, fun y mn dd hyr => ?_⟩
  · obtain ⟨⟨t1, t2⟩, t3, t4, t5⟩ := hT d
    have hk1 : -67108864 ≤ (T d).1 ∧ (T d).1 ≤ 67108864 := by
      constructor
      · refine c1.le_of (a := -67108864) (b := (T d).1) (d := d) (by omega) t2
      · have := c1.lt_of (a := (T d).1) (b := 67108864) (d := d) t1 (by omega)
        omega
    have hm := ((c3 (T d).1).2.2.1 (T d).2 (by rw [(y3 _).1]; exact t3))
    have hmm := (y3 (T d).1).2 (T d).2 t3
    have hn := nmd_mono (cal := cal) (k := (T d).1) (Int.le_refl _)
    have hlen : d - S (T d).1 - cm (fun i => la i (S ((T d).1 + 1) - S (T d).1)) (T d).2 < la (T d).2 (S ((T d).1 + 1) - S (T d).1) := by
      have : cm (fun i => la i (S ((T d).1 + 1) - S (T d).1)) ((T d).2 + 1) = cm (fun i => la i (S ((T d).1 + 1) - S (T d).1)) (T d).2 + la (T d).2 (S ((T d).1 + 1) - S (T d).1) := rfl
      omega
    dsimp only
    refine ⟨⟨(T d).1, _, (T d).2, ⟨t1, t2⟩, rfl, by rw [(y3 _).1]; exact t3, ⟨t4, t5⟩, ?_⟩, ?_, by omega, ?_, by omega, fun hd2 => ?_⟩
    · rw [y5, hmm.1]
    · unfold DTM
      refine Or.inr (Or.inr (Or.inr ⟨y1, (T d).1, (T d).2, ?_, t3, ?_, rfl, rfl, ?_⟩))
      · rw [← y2]; exact ⟨t1, t2⟩
      · rw [← y2, ← sums _ _ (by omega), ← sums _ _ (by omega)]; exact ⟨t4, t5⟩
      · rw [← y2, ← sums _ _ (by omega)]
    · rw [← hmm.1]; omega
    · have a1 : (T d).1 ≤ 40000000 := by
        by_cases q : 1 ≤ (T d).1
        · have := c1.gap q; omega
        · omega
      have a2 : -40000000 ≤ (T d).1 := by
        by_cases q : (T d).1 + 1 ≤ 1
        · have := c1.gap q; omega
        · omega
      omega
  · obtain ⟨⟨t1, t2⟩, -⟩ := hT d
    obtain ⟨⟨u1, u2⟩, -⟩ := hT d'
    have q1 : (T d).1 ≤ (T d').1 := c1.le_of (a := (T d).1) (b := (T d').1) (d := d') (by omega) u2
    have q2 := nmd_mono (cal := cal) q1
    have q3 : (T d').1 - (T d).1 ≤ d' - d + 1 - 0 := by
      by_cases z : (T d).1 + 1 ≤ (T d').1
      · have := c1.gap z; omega
      · omega
    show nmd cal (T d).1 ≤ nmd cal (T d').1 ∧ nmd cal (T d').1 ≤ nmd cal (T d).1 + (d' - d) + 1
    refine ⟨q2.1, ?_⟩
    by_cases z : (T d).1 + 1 ≤ (T d').1
    · have := c1.gap z; omega
    · have : (T d).1 = (T d').1 := by omega
      rw [this]; omega
  · have hr := c6 (ctd cal y) (by have := ctd_rng (cal := cal) (y := y); omega)
    have hk := y3 (ctd cal y)
    have hc := c3 (ctd cal y)
    rw [hk.1] at hc
    -- a day of that date lies where the year's months say
    have back : ∀ d, nmd cal (T d).1 = y → maM cal (T d).1 (T d).2 = mn → (T d).1 = ctd cal y ∧ ¬ ((cal = 1 ∨ cal = 6) ∧ y = 0) := fun d e1 _ => by
      have := ctd_nmd (cal := cal) (k := (T d).1)
      rw [e1] at this
      exact ⟨this.1.symm, this.2⟩
    by_cases q0 : (cal = 1 ∨ cal = 6) ∧ y = 0
    · refine ⟨-9223372036854775808, Or.inl ⟨fun z => (y7 y).mp z q0, rfl⟩, ?_, Or.inl rfl, fun d hd => ⟨fun z => by omega, fun z => absurd q0 (back d z.1 z.2.1).2⟩⟩
      rw [DOM_y y1, if_pos (Or.inl q0)]
    have hyy : hy y := (y7 y).mpr q0
    rcases first_or (fun pl => maM cal (ctd cal y) pl = mn) (nmM g cal (ctd cal y)).toNat with ⟨pl, p1, p2, p3⟩ | hnone
    · have hpl := hk.2 pl (by omega)
      have hb : BF g cal (ctd cal y) mn (cm (fun i => lnM g cal (ctd cal y) (maM cal (ctd cal y) i)) pl) := Or.inl ⟨pl, by omega, p2, p3, rfl⟩
      have hnn : 0 ≤ cm (fun i => lnM g cal (ctd cal y) (maM cal (ctd cal y) i)) pl := by
        rw [← sums _ _ (by omega)]
        have := cm_leR (f := fun i : Nat => la i (S (ctd cal y + 1) - S (ctd cal y))) (N := (nmM g cal (ctd cal y)).toNat) (pos (ctd cal y)) 0 pl (by omega)
        rw [Nat.zero_add] at this
        exact this
      have hub : cm (fun i => la i (S (ctd cal y + 1) - S (ctd cal y))) pl + la pl (S (ctd cal y + 1) - S (ctd cal y)) ≤ S (ctd cal y + 1) - S (ctd cal y) := by
        have := cm_leR (f := fun i : Nat => la i (S (ctd cal y + 1) - S (ctd cal y))) (N := (nmM g cal (ctd cal y)).toNat) (pos (ctd cal y)) (pl + 1) ((nmM g cal (ctd cal y)).toNat - (pl + 1)) (by omega)
        rw [show pl + 1 + ((nmM g cal (ctd cal y)).toNat - (pl + 1)) = (nmM g cal (ctd cal y)).toNat by omega] at this
        have e2 : cm (fun i : Nat => la i (S (ctd cal y + 1) - S (ctd cal y))) (nmM g cal (ctd cal y)).toNat = S (ctd cal y + 1) - S (ctd cal y) := hc.2.2.2
        rw [e2] at this
        exact this
      have hsame : ∀ d, maM cal (T d).1 (T d).2 = mn → (T d).1 = ctd cal y → (T d).2 = pl := fun d z1 z2 => by
        have t3 := (hT d).2.1
        rw [z2] at z1 t3
        exact y4 _ _ _ t3 (by omega) (z1.trans p2.symm)
      by_cases q1 : 1 ≤ dd ∧ dd ≤ la pl (S (ctd cal y + 1) - S (ctd cal y))
      · refine ⟨S (ctd cal y) + cm (fun i => la i (S (ctd cal y + 1) - S (ctd cal y))) pl + dd - 1, ?_, ?_, Or.inr ?_, fun d hd => ⟨fun z => ?_, fun z => ?_⟩⟩
        · unfold DYY
          rw [y6 y hyy]
          exact Or.inr ⟨hyy, Or.inl ⟨pl, by rw [hk.1]; omega, hpl.1.trans p2, fun j hj => by rw [(hk.2 j (by omega)).1]; exact p3 j hj, Or.inl ⟨q1, rfl⟩⟩⟩
        · rw [DOM_y y1, if_neg (by omega)]
          refine ⟨_, hb, ?_⟩
          rw [if_pos ⟨hnn, by rw [← p2, ← hpl.2]; exact q1.2⟩, ← y2, ← sums _ _ (by omega)]
        · have h2 := c2 (ctd cal y)
          rw [← sums _ _ (by omega)] at hnn
          omega
        · subst z
          rw [← sums _ _ (by omega)] at hnn
          have u := uni (S (ctd cal y) + cm (fun i => la i (S (ctd cal y + 1) - S (ctd cal y))) pl + dd - 1) (ctd cal y) pl (by omega) (by omega) (by omega) (by omega) (by
            have : cm (fun i => la i (S (ctd cal y + 1) - S (ctd cal y))) (pl + 1) = cm (fun i => la i (S (ctd cal y + 1) - S (ctd cal y))) pl + la pl (S (ctd cal y + 1) - S (ctd cal y)) := rfl
            omega)
          dsimp only
          rw [u.1, u.2]
          exact ⟨nmd_ctd q0, p2, by omega⟩
        · obtain ⟨z1, z2, z3⟩ := z
          have b1 := (back d z1 z2).1
          have b2 := hsame d z2 b1
          dsimp only at z3
          rw [b1, b2] at z3
          omega
      · refine ⟨-9223372036854775808, ?_, ?_, Or.inl rfl, fun d hd => ⟨fun z => by omega, fun z => ?_⟩⟩
        · unfold DYY
          rw [y6 y hyy]
          exact Or.inr ⟨hyy, Or.inl ⟨pl, by rw [hk.1]; omega, hpl.1.trans p2, fun j hj => by rw [(hk.2 j (by omega)).1]; exact p3 j hj, Or.inr ⟨q1, rfl⟩⟩⟩
        · rw [DOM_y y1]
          by_cases q2 : dd < 1
          · rw [if_pos (Or.inr q2)]
          · rw [if_neg (by omega)]
            refine ⟨_, hb, ?_⟩
            rw [if_neg (fun q3 => q1 ⟨by omega, by rw [hpl.2, p2]; exact q3.2⟩)]
        · exfalso
          obtain ⟨z1, z2, z3⟩ := z
          have b1 := (back d z1 z2).1
          have b2 := hsame d z2 b1
          obtain ⟨-, -, t4, t5⟩ := hT d
          dsimp only at z3
          rw [b1, b2] at z3 t4 t5
          have : cm (fun i => la i (S (ctd cal y + 1) - S (ctd cal y))) (pl + 1) = cm (fun i => la i (S (ctd cal y + 1) - S (ctd cal y))) pl + la pl (S (ctd cal y + 1) - S (ctd cal y)) := rfl
          exact q1 ⟨by omega, by omega⟩
    · refine ⟨-9223372036854775808, ?_, ?_, Or.inl rfl, fun d hd => ⟨fun z => by omega, fun z => ?_⟩⟩
      · unfold DYY
        rw [y6 y hyy]
        exact Or.inr ⟨hyy, Or.inr ⟨fun j hj => by rw [hk.1] at hj; rw [(hk.2 j hj).1]; exact hnone j (by omega), rfl⟩⟩
      · rw [DOM_y y1]
        by_cases q2 : dd < 1
        · rw [if_pos (Or.inr q2)]
        · rw [if_neg (by omega)]
          refine ⟨-1, Or.inr ⟨fun j hj => hnone j (by omega), rfl⟩, ?_⟩
          rw [if_neg (by omega)]
      · exfalso
        obtain ⟨z1, z2, -⟩ := z
        have b1 := (back d z1 z2).1
        have t3 := (hT d).2.1
        dsimp only at z2
        rw [b1] at z2 t3
        exact hnone _ (by omega) z2

